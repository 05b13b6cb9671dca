/-! PURE, 7: the class: cells, distances -/
section XPURE7
theorem xcell_in {i n : Nat} (f : Nat → Int32) (h : i < n) (hn : n < 2 ^ 31) : xcell (nI i) n f = f i := by
  unfold xcell
  rw [if_neg (nI_pos (by omega)), if_neg (show ¬ Int32.ofNat n ≤ nI i from nI_ge h hn), nI_clamp (by omega)]
theorem xput_in {i n : Nat} (f : Nat → Int32) (v : Int32) (h : i < n) (hn : n < 2 ^ 31) : xput (nI i) v n f = upd f i v := by
  unfold xput
  rw [if_neg (nI_pos (by omega)), if_neg (show ¬ Int32.ofNat n ≤ nI i from nI_ge h hn), nI_clamp (by omega)]
/-- a signature as the class holds it -/
def sgC (sc sg : Nat → Int32) (p : Nat) (L : List Nat) : Prop := sc p = nI L.length ∧ ∀ k, k < L.length → sg (40 * p + k) = nI (L.getD k 0)
theorem signsOf_nI {sc : Nat → Int32} {p : Nat} (hp : p < 17) : fX0_signsOf (nI p) sc = sc p := xcell_in sc hp (by omega)
theorem signAt_ok {sc sg : Nat → Int32} {p k : Nat} {L : List Nat} (h : sgC sc sg p L) (hp : p < 17) (hL : L.length ≤ 40) (hk : k < L.length) : fX0_signAt (nI p) (nI k) sc sg = nI (L.getD k 0) := by
  unfold fX0_signAt
  rw [if_neg (nI_pos (by omega)), xcell_in sc hp (by omega), h.1, if_neg (nI_ge hk (by omega)), show (40 : Int32) = nI 40 from rfl, pk_mul, nI_add, xcell_in sg (by omega) (by omega), show p * 40 + k = 40 * p + k by omega, h.2 k hk]
theorem signAt_none {sc sg : Nat → Int32} {p k : Nat} {L : List Nat} (h : sgC sc sg p L) (hp : p < 17) (hk : L.length ≤ k) (hk2 : k < 2 ^ 31) : fX0_signAt (nI p) (nI k) sc sg = -1 := by
  unfold fX0_signAt
  rw [if_neg (nI_pos (by omega)), xcell_in sc hp (by omega), h.1, if_pos (nI_le hk hk2)]
theorem cd_first {b : Nat → Nat} {sc sg : Nat → Int32} {p m : Nat} (hm : m ≤ 40) (h2 : ∀ k, k < m → fX0_signAt (nI p) (nI k) sc sg = nI (b k) ∧ b k ≤ 4) : ∀ (t j : Nat) (cs : Nat → Int32) (M : Nat), t + j = m + 1 → 1 ≤ j → t < M → (∀ k, k < j → cs k = nI (d0M b k)) →
    ∃ cs', loopF (fun (z : Int32 × (Nat → Int32)) => fX2_distanceOf_L19 sc sg (nI p) (nI m) z.1 z.2) M (nI j, cs) = some cs' ∧ ∀ k, k ≤ m → cs' k = nI (d0M b k) := by
  intro t
  induction t with
  | zero =>
    intro j cs M ht hj hM h
    obtain ⟨M, rfl⟩ : ∃ M', M = M' + 1 := ⟨M - 1, by omega⟩
    refine ⟨cs, loopF_out ?_, fun k hk => h k (by omega)⟩
    show fX2_distanceOf_L19 sc sg (nI p) (nI m) (nI j) cs = _
    unfold fX2_distanceOf_L19
    rw [if_pos (nI_lt (by omega) (by omega))]
  | succ t ih =>
    intro j cs M ht hj hM h
    obtain ⟨M, rfl⟩ : ∃ M', M = M' + 1 := ⟨M - 1, by omega⟩
    obtain ⟨j', rfl⟩ : ∃ z, j = z + 1 := ⟨j - 1, by omega⟩
    obtain ⟨g1, g2⟩ := h2 j' (by omega)
    have hb : fX2_distanceOf_L19 sc sg (nI p) (nI m) (nI (j' + 1)) cs = some (.inl (nI (j' + 1 + 1), upd cs (j' + 1) (nI (d0M b (j' + 1))))) := by
      unfold fX2_distanceOf_L19
      rw [if_neg (nI_nlt (by omega) (by omega)), nI_pred, g1, costAlone_nI (by omega), xcell_in cs (by omega) (by omega), h j' (by omega), nI_add, xput_in cs _ (by omega) (by omega), nI_1]
      rfl
    rw [loopF_go (s' := (nI (j' + 1 + 1), upd cs (j' + 1) (nI (d0M b (j' + 1))))) hb]
    refine ih (j' + 1 + 1) _ M (by omega) (by omega) (by omega) (fun k hk => ?_)
    by_cases q : k = j' + 1
    · subst q; exact pk_us
    · rw [pk_un q]; exact h k (by omega)
theorem cd_inner {a b : Nat → Nat} {sc sg : Nat → Int32} {p m i : Nat} (hm : m ≤ 40) (hi : i < 40) (hai : a i ≤ 4) (h2 : ∀ k, k < m → fX0_signAt (nI p) (nI k) sc sg = nI (b k) ∧ b k ≤ 4) : ∀ (t j : Nat) (cs : Nat → Int32) (M : Nat), t + j = m → t < M →
    (∀ k, k ≤ j → cs k = nI (dM a b (i + 1) k)) → (∀ k, j < k → k ≤ m → cs k = nI (dM a b i k)) →
    ∃ cs', loopF (fun (z : Int32 × Int32 × (Nat → Int32)) => fX2_distanceOf_L116 sc sg (nI p) (nI m) (nI (a i)) z.1 z.2.1 z.2.2) M (nI (dM a b i j), nI (j + 1), cs) = some cs' ∧ ∀ k, k ≤ m → cs' k = nI (dM a b (i + 1) k) := by
  intro t
  induction t with
  | zero =>
    intro j cs M ht hM hA hB
    obtain ⟨M, rfl⟩ : ∃ M', M = M' + 1 := ⟨M - 1, by omega⟩
    refine ⟨cs, loopF_out ?_, fun k hk => hA k (by omega)⟩
    show fX2_distanceOf_L116 sc sg (nI p) (nI m) (nI (a i)) (nI (dM a b i j)) (nI (j + 1)) cs = _
    unfold fX2_distanceOf_L116
    rw [if_pos (nI_lt (by omega) (by omega))]
  | succ t ih =>
    intro j cs M ht hM hA hB
    obtain ⟨M, rfl⟩ : ∃ M', M = M' + 1 := ⟨M - 1, by omega⟩
    obtain ⟨g1, g2⟩ := h2 j (by omega)
    have d1 := dM_le a b i (j + 1)
    have d2 := dM_le a b (i + 1) j
    have d3 := dM_le a b i j
    have l1 := alM_le (a i)
    have l2 := alM_le (b j)
    have l3 := inM_le (a i) (b j)
    have e1 := hB (j + 1) (by omega) (by omega)
    have e2 := hA j (Nat.le_refl _)
    have hb : fX2_distanceOf_L116 sc sg (nI p) (nI m) (nI (a i)) (nI (dM a b i j)) (nI (j + 1)) cs = some (.inl (nI (dM a b i (j + 1)), nI (j + 1 + 1), upd cs (j + 1) (nI (dM a b (i + 1) (j + 1))))) := by
      unfold fX2_distanceOf_L116
      rw [if_neg (nI_nlt (by omega) (by omega)), nI_pred, g1, b1_so, b1_so, b1_so, xcell_in cs (by omega) (by omega), xcell_in cs (by omega) (by omega), e1, e2, costAlone_nI (by omega), costAlone_nI (by omega), costInstead_nI (by omega) (by omega), nI_add, nI_add, nI_add, xmin_nI2 (by omega) (by omega), xmin_nI2 (by omega) (by omega), xput_in cs _ (by omega) (by omega), nI_1]
      have e3 : dM a b (i + 1) (j + 1) = min (dM a b i j + inM (a i) (b j)) (min (dM a b i (j + 1) + alM (a i)) (dM a b (i + 1) j + alM (b j))) := by
        show min (min (dM a b i (j + 1) + alM (a i)) (drM b (dM a b i) (a i) j + alM (b j))) (dM a b i j + inM (a i) (b j)) = _
        rw [Nat.min_comm]
        rfl
      rw [e3]
    rw [loopF_go (s' := (nI (dM a b i (j + 1)), nI (j + 1 + 1), upd cs (j + 1) (nI (dM a b (i + 1) (j + 1))))) hb]
    refine ih (j + 1) _ M (by omega) (by omega) (fun k hk => ?_) (fun k hk hk2 => ?_)
    · by_cases q : k = j + 1
      · subst q; exact pk_us
      · rw [pk_un q]; exact hA k (by omega)
    · rw [pk_un (by omega)]; exact hB k (by omega) hk2
theorem cd_outer {a b : Nat → Nat} {sc sg : Nat → Int32} {p q n m : Nat} (hn : n ≤ 40) (hm : m ≤ 40) (hq : fX0_signsOf (nI q) sc = nI n) (h1 : ∀ k, k < n → fX0_signAt (nI q) (nI k) sc sg = nI (a k) ∧ a k ≤ 4) (h2 : ∀ k, k < m → fX0_signAt (nI p) (nI k) sc sg = nI (b k) ∧ b k ≤ 4) : ∀ (t i : Nat) (cs : Nat → Int32) (M : Nat), t + i = n → t < M →
    (∀ k, k ≤ m → cs k = nI (dM a b i k)) →
    ∃ cs', loopF (fun (z : Int32 × (Nat → Int32)) => fX2_distanceOf_L68 sc sg (nI q) (nI p) (nI m) z.1 z.2) M (nI i, cs) = some cs' ∧ cs' m = nI (dM a b n m) := by
  intro t
  induction t with
  | zero =>
    intro i cs M ht hM hA
    obtain ⟨M, rfl⟩ : ∃ M', M = M' + 1 := ⟨M - 1, by omega⟩
    obtain rfl : i = n := by omega
    refine ⟨cs, loopF_out ?_, hA m (Nat.le_refl _)⟩
    show fX2_distanceOf_L68 sc sg (nI q) (nI p) (nI m) (nI i) cs = _
    unfold fX2_distanceOf_L68
    rw [hq, if_pos (nI_le (Nat.le_refl _) (by omega))]
  | succ t ih =>
    intro i cs M ht hM hA
    obtain ⟨M, rfl⟩ : ∃ M', M = M' + 1 := ⟨M - 1, by omega⟩
    obtain ⟨g1, g2⟩ := h1 i (by omega)
    have e0 := hA 0 (Nat.zero_le _)
    obtain ⟨cs', e, ok⟩ := cd_inner (i := i) (a := a) (b := b) hm (by omega) g2 h2 m 0 (upd cs 0 (nI (dM a b (i + 1) 0))) FUEL (by omega) (by unfold FUEL; omega)
      (fun k hk => by rw [show k = 0 by omega]; exact pk_us) (fun k hk hk2 => by rw [pk_un (by omega)]; exact hA k hk2)
    have hb : fX2_distanceOf_L68 sc sg (nI q) (nI p) (nI m) (nI i) cs = some (.inl (nI (i + 1), cs')) := by
      unfold fX2_distanceOf_L68
      rw [hq, if_neg (nI_ge (by omega) (by omega)), g1, b1_so, show (0 : Int32) = nI 0 from rfl, xcell_in cs (by omega) (by omega), e0, costAlone_nI (by omega), nI_add, xput_in cs _ (by omega) (by omega)]
      have e : loopF (fun (z : Int32 × Int32 × (Nat → Int32)) => fX2_distanceOf_L116 sc sg (nI p) (nI m) (nI (a i)) z.1 z.2.1 z.2.2) FUEL (nI (dM a b i 0), (1 : Int32), upd cs 0 (nI (dM a b i 0 + alM (a i)))) = some cs' := e
      rw [e, b1_so, nI_1]
    rw [loopF_go (s' := (nI (i + 1), cs')) hb]
    exact ih (i + 1) cs' M (by omega) (by omega) ok
/-- THE DISTANCE of two signatures that the class holds -/
theorem cdist_ok {sc sg : Nat → Int32} {p q : Nat} {A B : List Nat} (hp : p < 17) (hq : q < 17) (hA : sgC sc sg q A) (hB : sgC sc sg p B) (lA : A.length ≤ 40) (lB : B.length ≤ 40) (mA : ∀ k, k < A.length → A.getD k 0 ≤ 4) (mB : ∀ k, k < B.length → B.getD k 0 ≤ 4) (cs : Nat → Int32) :
    ∃ cs', fX2_distanceOf (nI q) (nI p) sc cs sg = some (nI (dsM A B), cs') := by
  unfold fX2_distanceOf
  obtain ⟨cs1, e1, o1⟩ := cd_first (b := sgF B) (sc := sc) (sg := sg) (p := p) lB (fun k hk => ⟨signAt_ok hB hp lB hk, mB k hk⟩) B.length 1 (upd cs 0 (nI 0)) FUEL (by omega) (Nat.le_refl _) (by unfold FUEL; omega) (fun k hk => by rw [show k = 0 by omega]; exact pk_us)
  have e1 : loopF (fun (z : Int32 × (Nat → Int32)) => fX2_distanceOf_L19 sc sg (nI p) (nI B.length) z.1 z.2) FUEL ((1 : Int32), upd cs 0 (nI 0)) = some cs1 := e1
  obtain ⟨cs2, e2, o2⟩ := cd_outer (a := sgF A) (b := sgF B) (sc := sc) (sg := sg) (p := p) (q := q) lA lB (by rw [signsOf_nI hq, hA.1]) (fun k hk => ⟨signAt_ok hA hq lA hk, mA k hk⟩) (fun k hk => ⟨signAt_ok hB hp lB hk, mB k hk⟩) A.length 0 cs1 FUEL (by omega) (by unfold FUEL; omega) o1
  have e2 : loopF (fun (z : Int32 × (Nat → Int32)) => fX2_distanceOf_L68 sc sg (nI q) (nI p) (nI B.length) z.1 z.2) FUEL ((0 : Int32), cs1) = some cs2 := e2
  rw [signsOf_nI hp, hB.1, show (0 : Int32) = nI 0 from rfl, xput_in cs _ (by omega) (by omega), e1, b1_so]
  have e2 : loopF (fun (z : Int32 × (Nat → Int32)) => fX2_distanceOf_L68 sc sg (nI q) (nI p) (nI B.length) z.1 z.2) FUEL (nI 0, cs1) = some cs2 := e2
  rw [e2, b1_so, xcell_in cs2 (by omega) (by omega), o2]
  exact ⟨cs2, rfl⟩
end XPURE7
