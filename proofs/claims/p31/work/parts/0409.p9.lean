/-! PURE, 9: likeness of figures; the class's figures -/
section XPURE9
/-- a loop that counts from a to b over states that are told -/
theorem loopF_from {S E : Type} (body : S → Option (S ⊕ E)) (st : Nat → S) (e : E) (a b : Nat) (hab : a ≤ b) (hstep : ∀ i, a ≤ i → i < b → body (st i) = some (.inl (st (i + 1)))) (hend : body (st b) = some (.inr e)) (N : Nat) (hN : b < N) : loopF body N (st a) = some e := by
  obtain ⟨k, hk⟩ : ∃ k, a + k = b := ⟨b - a, by omega⟩
  have hM : k < N := by omega
  clear hab hN
  induction k generalizing a N with
  | zero =>
    obtain ⟨N, rfl⟩ : ∃ M, N = M + 1 := ⟨N - 1, by omega⟩
    rw [show a = b by omega]
    exact loopF_out hend
  | succ k ih =>
    obtain ⟨N, rfl⟩ : ∃ M, N = M + 1 := ⟨N - 1, by omega⟩
    rw [loopF_go (hstep a (Nat.le_refl _) (by omega))]
    exact ih (a + 1) (fun i h1 h2 => hstep i (by omega) h2) N (by omega) (by omega)
/-- a loop that counts from a to b, its states told by a property; it may leave early -/
theorem loopF_ex {S E : Type} (body : S → Option (S ⊕ E)) (P : Nat → S → Prop) (Q : E → Prop) (a b : Nat) (hab : a ≤ b) (hstep : ∀ i s, a ≤ i → i < b → P i s → (∃ s', body s = some (.inl s') ∧ P (i + 1) s') ∨ ∃ e, body s = some (.inr e) ∧ Q e) (hend : ∀ s, P b s → ∃ e, body s = some (.inr e) ∧ Q e) (s : S) (hs : P a s) (N : Nat) (hN : b < N) : ∃ e, loopF body N s = some e ∧ Q e := by
  obtain ⟨k, hk⟩ : ∃ k, a + k = b := ⟨b - a, by omega⟩
  have hM : k < N := by omega
  clear hab hN
  induction k generalizing a s N with
  | zero =>
    obtain ⟨N, rfl⟩ : ∃ M, N = M + 1 := ⟨N - 1, by omega⟩
    obtain rfl : a = b := by omega
    obtain ⟨e, h1, h2⟩ := hend s hs
    exact ⟨e, loopF_out h1, h2⟩
  | succ k ih =>
    obtain ⟨N, rfl⟩ : ∃ M, N = M + 1 := ⟨N - 1, by omega⟩
    rcases hstep a s (Nat.le_refl _) (by omega) hs with ⟨s', h1, h2⟩ | ⟨e, h1, h2⟩
    · rw [loopF_go h1]
      exact ih (a + 1) (fun i s h1 h2 => hstep i s (by omega) h2) s' h2 N (by omega) (by omega)
    · exact ⟨e, loopF_out h1, h2⟩
def strEq (r : Nat → Nat) (f : Nat) (r2 : Nat → Nat) (f2 s : Nat) : Prop := r2 (f2 + 1 + s) = r (f + 1 + s) ∧ ∀ i, i < r (f + 1 + s) → pX r2 f2 s i = pX r f s i ∧ pY r2 f2 s i = pY r f s i
/-- like figures: the same strokes, lengths and used points -/
def figEq (r : Nat → Nat) (f : Nat) (r2 : Nat → Nat) (f2 : Nat) : Prop := r2 f2 = r f ∧ ∀ s, s < 3 → strEq r f r2 f2 s
theorem segM_eq {r r2 : Nat → Nat} {f f2 d s K : Nat} (h : ∀ i, i < K → pX r2 f2 s i = pX r f s i ∧ pY r2 f2 s i = pY r f s i) : ∀ k, k ≤ K → segM r2 f2 d s k = segM r f d s k := by
  intro k
  induction k with
  | zero => intro _; rfl
  | succ k ih =>
    intro hk
    show segM r2 f2 d s k ++ (if k = 0 then [] else crossM (pX r2 f2 s (k - 1)) (pY r2 f2 s (k - 1)) (pX r2 f2 s k) (pY r2 f2 s k) d) = segM r f d s k ++ (if k = 0 then [] else crossM (pX r f s (k - 1)) (pY r f s (k - 1)) (pX r f s k) (pY r f s k) d)
    rw [ih (by omega), (h (k - 1) (by omega)).1, (h (k - 1) (by omega)).2, (h k (by omega)).1, (h k (by omega)).2]
theorem sgM_eq {r r2 : Nat → Nat} {f f2 d : Nat} : ∀ k, (∀ s, s < k → strEq r f r2 f2 s) → sgM r2 f2 d k = sgM r f d k := by
  intro k
  induction k with
  | zero => intro _; rfl
  | succ k ih =>
    intro h
    show (sgM r2 f2 d k ++ (if k = 0 then [] else [4])) ++ segM r2 f2 d k (r2 (f2 + 1 + k)) = (sgM r f d k ++ (if k = 0 then [] else [4])) ++ segM r f d k (r (f + 1 + k))
    obtain ⟨h1, h2⟩ := h k (by omega)
    rw [ih (fun s hs => h s (by omega)), h1, segM_eq h2 _ (Nat.le_refl _)]
theorem sigM_eq {r r2 : Nat → Nat} {f f2 : Nat} (d : Nat) (h : figEq r f r2 f2) (h3 : r f ≤ 3) : sigM r2 f2 d = sigM r f d := by
  unfold sigM
  rw [h.1]
  exact sgM_eq _ (fun s hs => h.2 s (by omega))
theorem figEq.refl (r : Nat → Nat) (f : Nat) : figEq r f r f := ⟨rfl, fun _ _ => ⟨rfl, fun _ _ => ⟨rfl, rfl⟩⟩⟩
/-- the same numbers at another place -/
theorem figEq_of {r r2 : Nat → Nat} {f f2 : Nat} (h : ∀ j, j < 76 → r2 (f2 + j) = r (f + j)) (hl : ∀ s, s < 3 → r (f + 1 + s) ≤ 12) : figEq r f r2 f2 := by
  refine ⟨h 0 (by omega), fun s hs => ⟨?_, fun i hi => ⟨?_, ?_⟩⟩⟩
  · have := h (1 + s) (by omega)
    rw [← Nat.add_assoc, ← Nat.add_assoc] at this; exact this
  · have := h (4 + 24 * s + 2 * i) (by have := hl s hs; omega)
    unfold pX
    rw [show f2 + 4 + 24 * s + 2 * i = f2 + (4 + 24 * s + 2 * i) by omega, this]; congr 1; omega
  · have := h (4 + 24 * s + 2 * i + 1) (by have := hl s hs; omega)
    unfold pY
    rw [show f2 + 4 + 24 * s + 2 * i + 1 = f2 + (4 + 24 * s + 2 * i + 1) by omega, this]; congr 1; omega
theorem figOk_of {r r2 : Nat → Nat} {f f2 : Nat} (h : ∀ j, j < 76 → r2 (f2 + j) = r (f + j)) (ho : figOk r f) : figOk r2 f2 := by
  refine ⟨by rw [show r2 f2 = r f from h 0 (by omega)]; exact ho.1, fun s hs => ?_, fun j hj => ?_⟩
  · rw [Nat.add_assoc, h (1 + s) (by omega), ← Nat.add_assoc]; exact ho.2.1 s hs
  · rw [Nat.add_assoc, h (4 + j) (by omega), ← Nat.add_assoc]; exact ho.2.2 j hj
/-- a figure's shape: used strokes have points, others none -/
def shapeI (r : Nat → Nat) (f : Nat) : Prop := figOk r f ∧ ∀ s, s < 3 → (s < r f → 1 ≤ r (f + 1 + s)) ∧ (r f ≤ s → r (f + 1 + s) = 0)
def figI (r : Nat → Nat) (f d : Nat) : Prop := shapeI r f ∧ (sigM r f d).length ≤ 40
theorem shapeI_eq {r r2 : Nat → Nat} {f f2 : Nat} (h : figEq r f r2 f2) (ho : figOk r2 f2) (hs : shapeI r f) : shapeI r2 f2 := by
  refine ⟨ho, fun s hs3 => ?_⟩
  have h1 := (h.2 s hs3).1
  rw [h.1, h1]
  exact hs.2 s hs3
theorem figI_eq {r r2 : Nat → Nat} {f f2 d : Nat} (h : figEq r f r2 f2) (ho : figOk r2 f2) (hs : figI r f d) : figI r2 f2 d := ⟨shapeI_eq h ho hs.1, by rw [sigM_eq d h hs.1.1.1]; exact hs.2⟩
/-- a figure as the class holds it -/
def figC (st le po : Nat → Int32) (p : Nat) (r : Nat → Nat) (f : Nat) : Prop := st p = nI (r f) ∧ (∀ s, s < r f → le (3 * p + s) = nI (r (f + 1 + s))) ∧ ∀ s, s < r f → ∀ i, i < r (f + 1 + s) → po (36 * p + 12 * s + i) = nI (ptN (pX r f s i) (pY r f s i))
theorem figC_eq {st le po : Nat → Int32} {p : Nat} {r r2 : Nat → Nat} {f f2 : Nat} (h : figEq r f r2 f2) (h3 : r f ≤ 3) (hc : figC st le po p r f) : figC st le po p r2 f2 := by
  refine ⟨by rw [h.1]; exact hc.1, fun s hs => ?_, fun s hs i hi => ?_⟩
  · rw [h.1] at hs
    rw [(h.2 s (by omega)).1]; exact hc.2.1 s hs
  · rw [h.1] at hs
    obtain ⟨h1, h2⟩ := h.2 s (by omega)
    rw [h1] at hi
    rw [(h2 i hi).1, (h2 i hi).2]; exact hc.2.2 s hs i hi
/-- only the figure at p is written -/
def figFr (p : Nat) (st le po st' le' po' : Nat → Int32) : Prop := (∀ q, q ≠ p → st' q = st q) ∧ (∀ j, (j < 3 * p ∨ 3 * p + 3 ≤ j) → le' j = le j) ∧ ∀ j, (j < 36 * p ∨ 36 * p + 36 ≤ j) → po' j = po j
theorem figC_fr {st le po st' le' po' : Nat → Int32} {p q : Nat} {r : Nat → Nat} {f : Nat} (ho : figOk r f) (h : figFr p st le po st' le' po') (hq : q ≠ p) (hc : figC st le po q r f) : figC st' le' po' q r f := by
  refine ⟨by rw [h.1 q hq]; exact hc.1, fun s hs => ?_, fun s hs i hi => ?_⟩
  · have := ho.1
    rw [h.2.1 _ (by omega)]; exact hc.2.1 s hs
  · have h1 := ho.1
    have h2 := ho.2.1 s (by omega)
    rw [h.2.2 _ (by omega)]; exact hc.2.2 s hs i hi
theorem sgC_fr {sc sg sc' sg' : Nat → Int32} {p q : Nat} {L : List Nat} (hL : L.length ≤ 40) (h : sgFr p sc sg sc' sg') (hq : q ≠ p) (hc : sgC sc sg q L) : sgC sc' sg' q L := by
  refine ⟨by rw [h.1 q hq]; exact hc.1, fun k hk => ?_⟩
  rw [h.2 _ (by omega)]; exact hc.2 k hk
theorem strokes_at {st : Nat → Int32} {p : Nat} (hp : p < 17) : fX0_strokesOf (nI p) st = st p := xcell_in st hp (by omega)
theorem length_at {le : Nat → Int32} {p s : Nat} (hp : p < 17) (hs : s < 3) : fX0_lengthOf (nI p) (nI s) le = le (3 * p + s) := by
  unfold fX0_lengthOf
  rw [show (3 : Int32) = nI 3 from rfl, pk_mul, nI_add, xcell_in le (by omega) (by omega), Nat.mul_comm p 3]
theorem point_at {po : Nat → Int32} {p s i : Nat} (hp : p < 17) (hs : s < 3) (hi : i < 12) : fX0_pointAt (nI p) (nI s) (nI i) po = po (36 * p + 12 * s + i) := by
  unfold fX0_pointAt
  rw [show (3 : Int32) = nI 3 from rfl, show (12 : Int32) = nI 12 from rfl, pk_mul, nI_add, pk_mul, nI_add, xcell_in po (by omega) (by omega)]
  congr 1; omega
theorem putPoint_at {po : Nat → Int32} {p s i : Nat} (hp : p < 17) (hs : s < 3) (hi : i < 12) (v : Int32) : fX0_putPoint (nI p) (nI s) (nI i) v po = upd po (36 * p + 12 * s + i) v := by
  unfold fX0_putPoint
  rw [show (3 : Int32) = nI 3 from rfl, show (12 : Int32) = nI 12 from rfl, pk_mul, nI_add, pk_mul, nI_add, xput_in po _ (by omega) (by omega)]
  congr 1; omega
/-- its points -/
def ptS (r : Nat → Nat) (f : Nat) : Nat → Nat
  | 0 => 0
  | s + 1 => ptS r f s + r (f + 1 + s)
def ptsM (r : Nat → Nat) (f : Nat) : Nat := r (f + 1) + r (f + 2) + r (f + 3)
theorem ptS_all {r : Nat → Nat} {f : Nat} (h : shapeI r f) : ptS r f (r f) = ptsM r f := by
  have h3 := h.1.1
  have e3 : ptS r f 3 = ptsM r f := by
    show 0 + r (f + 1 + 0) + r (f + 1 + 1) + r (f + 1 + 2) = r (f + 1) + r (f + 2) + r (f + 3)
    rw [Nat.zero_add]
  have z0 := (h.2 0 (by omega)).2
  have z1 := (h.2 1 (by omega)).2
  have z2 := (h.2 2 (by omega)).2
  have e2 : ptS r f 3 = ptS r f 2 + r (f + 1 + 2) := rfl
  have e1 : ptS r f 2 = ptS r f 1 + r (f + 1 + 1) := rfl
  have e0 : ptS r f 1 = ptS r f 0 + r (f + 1 + 0) := rfl
  rcases (show r f = 0 ∨ r f = 1 ∨ r f = 2 ∨ r f = 3 by omega) with q | q | q | q
  · rw [q] at z0 z1 z2 ⊢
    have := z0 (by omega); have := z1 (by omega); have := z2 (by omega); omega
  · rw [q] at z0 z1 z2 ⊢
    have := z1 (by omega); have := z2 (by omega); omega
  · rw [q] at z0 z1 z2 ⊢
    have := z2 (by omega); omega
  · rw [q]; exact e3
theorem pointsOf_ok {st le po : Nat → Int32} {p : Nat} {r : Nat → Nat} {f : Nat} (hc : figC st le po p r f) (hs : shapeI r f) (hp : p < 17) : fX0_pointsOf (nI p) st le = some (nI (ptsM r f)) := by
  have h3 := hs.1.1
  unfold fX0_pointsOf
  have e := loopF_count (fun (z : Int32 × Int32) => fX0_pointsOf_L4 st le (nI p) z.1 z.2) (fun i => (nI (ptS r f i), nI i)) (nI (ptS r f (r f))) (r f) (fun i hi => by
    show fX0_pointsOf_L4 st le (nI p) (nI (ptS r f i)) (nI i) = _
    unfold fX0_pointsOf_L4
    rw [strokes_at hp, hc.1, if_neg (nI_ge hi (by omega)), length_at hp (by omega), hc.2.1 i hi, nI_add, nI_1]; rfl) (by
    show fX0_pointsOf_L4 st le (nI p) (nI (ptS r f (r f))) (nI (r f)) = _
    unfold fX0_pointsOf_L4
    rw [strokes_at hp, hc.1, if_pos (nI_le (Nat.le_refl _) (by omega))]) (r f) 0 (by omega) FUEL (by unfold FUEL; omega)
  have e : loopF (fun (z : Int32 × Int32) => fX0_pointsOf_L4 st le (nI p) z.1 z.2) FUEL ((0 : Int32), (0 : Int32)) = _ := e
  rw [e, b1_so, ptS_all hs]
theorem mpointsOf_ok {N f : Nat} {c : Nat → Int32} {r : Nat → Nat} (hr : rowOk N c r) (hf : f + 4 ≤ N) (hN : N < 2 ^ 30) : fX7_pointsOf (nI f) N c = some (nI (ptsM r f)) := by
  unfold fX7_pointsOf ptsM
  rw [nI_1, nI_1, show (2 : Int32) = nI 2 from rfl, nI_add, gk (by omega) (by omega), gk (by omega) (by omega), gk (by omega) (by omega), nI_clamp (by omega), nI_clamp (by omega), nI_clamp (by omega), hr _ (by omega), hr _ (by omega), hr _ (by omega), nI_add, nI_add]
/-- how many signs the first strokes make, breaks aside -/
def lnM (r : Nat → Nat) (f d : Nat) : Nat → Nat
  | 0 => 0
  | s + 1 => lnM r f d s + (segM r f d s (r (f + 1 + s))).length
theorem sgM_len (r : Nat → Nat) (f d : Nat) : ∀ s, (sgM r f d s).length = (s - 1) + lnM r f d s := by
  intro s
  induction s with
  | zero => rfl
  | succ s ih =>
    show ((sgM r f d s ++ (if s = 0 then [] else [4])) ++ segM r f d s (r (f + 1 + s))).length = _
    rw [List.length_append, List.length_append, ih]
    show _ = _ + (lnM r f d s + _)
    by_cases q : s = 0
    · subst q; rw [if_pos rfl]; simp
    · rw [if_neg q]; simp only [List.length_singleton]; omega
theorem segM_len_le {r : Nat → Nat} {f d s : Nat} (hf : figOk r f) (hs : s < 3) : ∀ k, k ≤ 12 → (segM r f d s k).length ≤ 120 * k := by
  intro k
  induction k with
  | zero => intro _; exact Nat.le_refl _
  | succ k ih =>
    intro hk
    have h1 := ih (by omega)
    show (segM r f d s k ++ (if k = 0 then [] else _)).length ≤ _
    rw [List.length_append]
    by_cases q : k = 0
    · rw [if_pos q]; simp; omega
    · rw [if_neg q, crossM_length]
      have := ways_le (d := d) (hf.x hs (i := k - 1) (by omega)) (hf.y hs (i := k - 1) (by omega)) (hf.x hs (i := k) (by omega)) (hf.y hs (i := k) (by omega))
      omega
theorem lnM_le {r : Nat → Nat} {f d : Nat} (hf : figOk r f) : ∀ s, s ≤ 3 → lnM r f d s ≤ 1440 * s := by
  intro s
  induction s with
  | zero => intro _; exact Nat.le_refl _
  | succ s ih =>
    intro hs
    have h1 := ih (by omega)
    have h2 := hf.2.1 s (by omega)
    have h3 := segM_len_le (d := d) hf (show s < 3 by omega) _ h2
    show lnM r f d s + _ ≤ _
    omega
theorem figC.pt {st le po : Nat → Int32} {p : Nat} {r : Nat → Nat} {f : Nat} (hc : figC st le po p r f) (hf : figOk r f) (hp : p < 17) {s i : Nat} (hs : s < r f) (hi : i < r (f + 1 + s)) : fX0_pointAt (nI p) (nI s) (nI i) po = nI (ptN (pX r f s i) (pY r f s i)) := by
  have h1 := hf.1
  have h2 := hf.2.1 s (by omega)
  rw [point_at hp (by omega) (by omega)]; exact hc.2.2 s hs i hi
theorem figC.ln {st le po : Nat → Int32} {p : Nat} {r : Nat → Nat} {f : Nat} (hc : figC st le po p r f) (hf : figOk r f) (hp : p < 17) {s : Nat} (hs : s < r f) : fX0_lengthOf (nI p) (nI s) le = nI (r (f + 1 + s)) := by
  have h1 := hf.1
  rw [length_at hp (by omega)]; exact hc.2.1 s hs
theorem figC.cr {st le po : Nat → Int32} {p : Nat} {r : Nat → Nat} {f d : Nat} (hc : figC st le po p r f) (hf : figOk r f) (hp : p < 17) (hd : 5 ≤ d) (hd2 : d ≤ 20) {s i : Nat} (hs : s < r f) (h1 : 1 ≤ i) (hi : i < r (f + 1 + s)) : fX0_crossings (fX0_pointAt (nI p) (nI s) (nI i - 1) po) (fX0_pointAt (nI p) (nI s) (nI i) po) (nI d) = some (nI (waysM (pX r f s (i - 1)) (pY r f s (i - 1)) (pX r f s i) (pY r f s i) d)) := by
  have h3 := hf.1
  have h2 := hf.2.1 s (by omega)
  rw [show (1 : Int32) = nI 1 from rfl, pk_sub h1, hc.pt hf hp hs (by omega), hc.pt hf hp hs hi]
  exact crossings_nI (hf.x (by omega) (by omega)) (hf.y (by omega) (by omega)) (hf.x (by omega) (by omega)) (hf.y (by omega) (by omega)) (by omega) hd2
theorem fits_in {st le po : Nat → Int32} {p : Nat} {r : Nat → Nat} {f d : Nat} (hc : figC st le po p r f) (hf : shapeI r f) (hp : p < 17) (hd : 5 ≤ d) (hd2 : d ≤ 20) {s : Nat} (hs : s < r f) (B : Nat) :
    loopF (fun (z : Int32 × Int32) => fX0_fits_L28 le po (nI p) (nI d) (nI s) z.1 z.2) FUEL (nI B, (1 : Int32)) = some (nI (B + (segM r f d s (r (f + 1 + s))).length)) := by
  have h3 := hf.1.1
  have h1 := (hf.2 s (by omega)).1 hs
  have h2 := hf.1.2.1 s (by omega)
  have e := loopF_from (fun (z : Int32 × Int32) => fX0_fits_L28 le po (nI p) (nI d) (nI s) z.1 z.2) (fun i => (nI (B + (segM r f d s i).length), nI i)) (nI (B + (segM r f d s (r (f + 1 + s))).length)) 1 (r (f + 1 + s)) h1 (fun i hi1 hi => by
    show fX0_fits_L28 le po (nI p) (nI d) (nI s) (nI (B + (segM r f d s i).length)) (nI i) = _
    unfold fX0_fits_L28
    rw [hc.ln hf.1 hp hs, if_neg (nI_ge hi (by omega)), hc.cr hf.1 hp hd hd2 hs hi1 hi, b1_so, nI_add, nI_1]
    have e1 : (segM r f d s (i + 1)).length = (segM r f d s i).length + waysM (pX r f s (i - 1)) (pY r f s (i - 1)) (pX r f s i) (pY r f s i) d := by
      show (segM r f d s i ++ (if i = 0 then [] else _)).length = _
      rw [if_neg (by omega), List.length_append, crossM_length]
    rw [e1, Nat.add_assoc]) (by
    show fX0_fits_L28 le po (nI p) (nI d) (nI s) (nI (B + (segM r f d s (r (f + 1 + s))).length)) (nI (r (f + 1 + s))) = _
    unfold fX0_fits_L28
    rw [hc.ln hf.1 hp hs, if_pos (nI_le (Nat.le_refl _) (by omega))]) FUEL (by unfold FUEL; omega)
  have e0 : (segM r f d s 1).length = 0 := rfl
  have e : loopF (fun (z : Int32 × Int32) => fX0_fits_L28 le po (nI p) (nI d) (nI s) z.1 z.2) FUEL (nI (B + (segM r f d s 1).length), (1 : Int32)) = _ := e
  rw [e0, Nat.add_zero] at e
  exact e
theorem xmax_pred {n : Nat} (hn : n < 2 ^ 30) : xmax (nI n - 1) 0 = nI (n - 1) := by
  by_cases q : n = 0
  · subst q; decide
  · rw [show (1 : Int32) = nI 1 from rfl, pk_sub (by omega)]
    show (if nI (n - 1) < 0 then (0 : Int32) else nI (n - 1)) = _
    rw [if_neg (nI_pos (by omega))]
/-- WHETHER A FIGURE FITS -/
theorem fits_ok {st le po : Nat → Int32} {p : Nat} {r : Nat → Nat} {f d : Nat} (hc : figC st le po p r f) (hf : shapeI r f) (hp : p < 17) (hd : 5 ≤ d) (hd2 : d ≤ 20) : fX0_fits (nI p) (nI d) st le po = some (if (sigM r f d).length ≤ 40 then 1 else 0) := by
  have h3 := hf.1.1
  have hl := lnM_le (d := d) hf.1 (r f) h3
  unfold fX0_fits
  have e := loopF_count (fun (z : Int32 × Int32) => fX0_fits_L15 st le po (nI p) (nI d) z.1 z.2) (fun i => (nI (r f - 1 + lnM r f d i), nI i)) (nI (r f - 1 + lnM r f d (r f))) (r f) (fun i hi => by
    show fX0_fits_L15 st le po (nI p) (nI d) (nI (r f - 1 + lnM r f d i)) (nI i) = _
    unfold fX0_fits_L15
    rw [strokes_at hp, hc.1, if_neg (nI_ge hi (by omega)), fits_in hc hf hp hd hd2 hi, b1_so, nI_1, Nat.add_assoc]; rfl) (by
    show fX0_fits_L15 st le po (nI p) (nI d) (nI (r f - 1 + lnM r f d (r f))) (nI (r f)) = _
    unfold fX0_fits_L15
    rw [strokes_at hp, hc.1, if_pos (nI_le (Nat.le_refl _) (by omega))]) (r f) 0 (by omega) FUEL (by unfold FUEL; omega)
  have e : loopF (fun (z : Int32 × Int32) => fX0_fits_L15 st le po (nI p) (nI d) z.1 z.2) FUEL (nI (r f - 1), (0 : Int32)) = _ := e
  rw [strokes_at hp, hc.1, xmax_pred (by omega), b1_so, e, b1_so]
  have e2 : (sigM r f d).length = r f - 1 + lnM r f d (r f) := sgM_len ..
  rw [e2]
  by_cases q : r f - 1 + lnM r f d (r f) ≤ 40
  · rw [if_neg (show ¬ (40 : Int32) < nI _ from nI_nlt (a := 40) q (by omega)), if_pos q]
  · rw [if_pos (show (40 : Int32) < nI _ from nI_lt (a := 40) (by omega) (by omega)), if_neg q]
theorem ws_in {st le po : Nat → Int32} {p : Nat} {r : Nat → Nat} {f d : Nat} (hc : figC st le po p r f) (hf : shapeI r f) (hp : p < 17) (hd : 5 ≤ d) (hd2 : d ≤ 20) {s : Nat} (hs : s < r f) {L : List Nat} {sc sg : Nat → Int32} (h : sgC sc sg p L) (hL : L.length + (segM r f d s (r (f + 1 + s))).length ≤ 40) :
    ∃ sc' sg', loopF (fun (z : Int32 × (Nat → Int32) × (Nat → Int32)) => fX0_writeSigns_L33 le po (nI p) (nI d) (nI s) z.1 z.2.1 z.2.2) FUEL ((1 : Int32), sc, sg) = some (sc', sg') ∧ sgC sc' sg' p (L ++ segM r f d s (r (f + 1 + s))) ∧ sgFr p sc sg sc' sg' := by
  have h3 := hf.1.1
  have h1 := (hf.2 s (by omega)).1 hs
  have h2 := hf.1.2.1 s (by omega)
  have mono : ∀ i j, i ≤ j → (segM r f d s i).length ≤ (segM r f d s j).length := by
    intro i j hij
    induction j with
    | zero => rw [show i = 0 by omega]; exact Nat.le_refl _
    | succ j ih =>
      by_cases q : i = j + 1
      · rw [q]; exact Nat.le_refl _
      · have := ih (by omega)
        show _ ≤ (segM r f d s j ++ _).length
        rw [List.length_append]; omega
  obtain ⟨e, he, hq⟩ := loopF_ex (fun (z : Int32 × (Nat → Int32) × (Nat → Int32)) => fX0_writeSigns_L33 le po (nI p) (nI d) (nI s) z.1 z.2.1 z.2.2)
    (fun i z => z.1 = nI i ∧ sgC z.2.1 z.2.2 p (L ++ segM r f d s i) ∧ sgFr p sc sg z.2.1 z.2.2)
    (fun e => sgC e.1 e.2 p (L ++ segM r f d s (r (f + 1 + s))) ∧ sgFr p sc sg e.1 e.2) 1 (r (f + 1 + s)) h1 (fun i z hi1 hi hz => Or.inl (by
      obtain ⟨z1, sc1, sg1⟩ := z
      obtain ⟨rfl, g1, g2⟩ := hz
      have e1 : segM r f d s (i + 1) = segM r f d s i ++ crossM (pX r f s (i - 1)) (pY r f s (i - 1)) (pX r f s i) (pY r f s i) d := by
        show segM r f d s i ++ (if i = 0 then [] else _) = _
        rw [if_neg (by omega)]
      have hl := mono (i + 1) _ hi
      rw [e1, List.length_append, crossM_length] at hl
      obtain ⟨sc', sg', k1, k2, k3⟩ := wc_ok (d := d) (hf.1.x (show s < 3 by omega) (i := i - 1) (by omega)) (hf.1.y (show s < 3 by omega) (i := i - 1) (by omega)) (hf.1.x (show s < 3 by omega) (i := i) (by omega)) (hf.1.y (show s < 3 by omega) (i := i) (by omega)) hd hd2 hp g1 (by rw [List.length_append]; omega)
      refine ⟨(nI (i + 1), sc', sg'), ?_, rfl, ?_, sgFr_tr g2 k3⟩
      · show fX0_writeSigns_L33 le po (nI p) (nI d) (nI s) (nI i) sc1 sg1 = _
        unfold fX0_writeSigns_L33
        rw [hc.ln hf.1 hp hs, if_neg (nI_ge hi (by omega)), b1_so, show (1 : Int32) = nI 1 from rfl, pk_sub hi1, hc.pt hf.1 hp hs (by omega), hc.pt hf.1 hp hs hi, k1, b2_so, nI_add]
      · rw [e1, ← List.append_assoc]; exact k2)) (fun z hz => by
      obtain ⟨z1, sc1, sg1⟩ := z
      obtain ⟨rfl, g1, g2⟩ := hz
      refine ⟨(sc1, sg1), ?_, g1, g2⟩
      show fX0_writeSigns_L33 le po (nI p) (nI d) (nI s) (nI (r (f + 1 + s))) sc1 sg1 = _
      unfold fX0_writeSigns_L33
      rw [hc.ln hf.1 hp hs, if_pos (nI_le (Nat.le_refl _) (by omega))]) ((1 : Int32), sc, sg) ⟨rfl, by
        show sgC sc sg p (L ++ []) 
        rw [List.append_nil]; exact h, sgFr_rf⟩ FUEL (by unfold FUEL; omega)
  obtain ⟨sc', sg'⟩ := e
  exact ⟨sc', sg', he, hq.1, hq.2⟩
theorem sgM_mono (r : Nat → Nat) (f d : Nat) : ∀ i j, i ≤ j → (sgM r f d i).length ≤ (sgM r f d j).length := by
  intro i j hij
  induction j with
  | zero => rw [show i = 0 by omega]; exact Nat.le_refl _
  | succ j ih =>
    by_cases q : i = j + 1
    · rw [q]; exact Nat.le_refl _
    · have := ih (by omega)
      show _ ≤ ((sgM r f d j ++ _) ++ _).length
      rw [List.length_append, List.length_append]; omega
/-- THE SIGNATURE IS WRITTEN, which fits -/
theorem ws_ok {st le po : Nat → Int32} {p : Nat} {r : Nat → Nat} {f d : Nat} (hc : figC st le po p r f) (hf : shapeI r f) (hp : p < 17) (hd : 5 ≤ d) (hd2 : d ≤ 20) (hL : (sigM r f d).length ≤ 40) (sc sg : Nat → Int32) :
    ∃ sc' sg', fX0_writeSigns (nI p) (nI d) sc st le po sg = some (sc', sg') ∧ sgC sc' sg' p (sigM r f d) ∧ sgFr p sc sg sc' sg' := by
  have h3 := hf.1.1
  obtain ⟨e, he, hq⟩ := loopF_ex (fun (z : Int32 × (Nat → Int32) × (Nat → Int32)) => fX0_writeSigns_L11 st le po (nI p) (nI d) z.1 z.2.1 z.2.2)
    (fun i z => z.1 = nI i ∧ sgC z.2.1 z.2.2 p (sgM r f d i) ∧ sgFr p sc sg z.2.1 z.2.2)
    (fun e => sgC e.1 e.2 p (sigM r f d) ∧ sgFr p sc sg e.1 e.2) 0 (r f) (by omega) (fun i z hi1 hi hz => Or.inl (by
      obtain ⟨z1, sc1, sg1⟩ := z
      obtain ⟨rfl, g1, g2⟩ := hz
      have e1 : sgM r f d (i + 1) = (sgM r f d i ++ (if i = 0 then [] else [4])) ++ segM r f d i (r (f + 1 + i)) := rfl
      have hl := sgM_mono r f d (i + 1) _ hi
      have hl2 : (sigM r f d).length = (sgM r f d (r f)).length := rfl
      rw [e1, List.length_append, List.length_append] at hl
      by_cases q : i = 0
      · subst q
        rw [if_pos rfl, List.append_nil] at e1
        obtain ⟨sc', sg', k1, k2, k3⟩ := ws_in hc hf hp hd hd2 hi g1 (by rw [if_pos rfl] at hl; simp only [List.length_nil] at hl; omega)
        refine ⟨(nI 1, sc', sg'), ?_, rfl, by rw [e1]; exact k2, sgFr_tr g2 k3⟩
        show fX0_writeSigns_L11 st le po (nI p) (nI d) (nI 0) sc1 sg1 = _
        unfold fX0_writeSigns_L11
        rw [strokes_at hp, hc.1, if_neg (nI_ge hi (by omega)), if_pos n00, k1, b2_so, nI_1]
      · rw [if_neg q] at e1 hl
        simp only [List.length_singleton] at hl
        obtain ⟨w1, w2⟩ := writeSign_ok (v := 4) g1 hp (by omega)
        obtain ⟨sc', sg', k1, k2, k3⟩ := ws_in hc hf hp hd hd2 hi w1 (by rw [List.length_append, List.length_singleton]; omega)
        refine ⟨(nI (i + 1), sc', sg'), ?_, rfl, by rw [e1]; exact k2, sgFr_tr g2 (sgFr_tr w2 k3)⟩
        show fX0_writeSigns_L11 st le po (nI p) (nI d) (nI i) sc1 sg1 = _
        unfold fX0_writeSigns_L11
        rw [strokes_at hp, hc.1, if_neg (nI_ge hi (by omega)), if_neg (nI_nle (by omega) (by omega)), show (4 : Int32) = nI 4 from rfl, k1, b2_so, nI_1])) (fun z hz => by
      obtain ⟨z1, sc1, sg1⟩ := z
      obtain ⟨rfl, g1, g2⟩ := hz
      refine ⟨(sc1, sg1), ?_, g1, g2⟩
      show fX0_writeSigns_L11 st le po (nI p) (nI d) (nI (r f)) sc1 sg1 = _
      unfold fX0_writeSigns_L11
      rw [strokes_at hp, hc.1, if_pos (nI_le (Nat.le_refl _) (by omega))]) ((0 : Int32), upd sc p (nI 0), sg) ⟨rfl, ⟨pk_us, fun k hk => absurd hk (Nat.not_lt_zero _)⟩, fun q hq => pk_un hq, fun _ _ => rfl⟩ FUEL (by unfold FUEL; omega)
  obtain ⟨sc', sg'⟩ := e
  refine ⟨sc', sg', ?_, hq.1, hq.2⟩
  unfold fX0_writeSigns
  rw [xput_in sc _ hp (by omega)]
  have he : loopF (fun (z : Int32 × (Nat → Int32) × (Nat → Int32)) => fX0_writeSigns_L11 st le po (nI p) (nI d) z.1 z.2.1 z.2.2) FUEL ((0 : Int32), upd sc p (0 : Int32), sg) = some (sc', sg') := he
  rw [he]; rfl
end XPURE9
