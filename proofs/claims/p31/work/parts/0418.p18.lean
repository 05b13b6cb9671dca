/-! PURE, 18: ranks, samples read by the others -/
section XPURE18
/-- how many samples come before s -/
theorem b7_so {A B C D E F G β : Type} (e : A) (f : B) (g : C) (i : D) (j : E) (o : F) (u : G) (k : A → B → C → D → E → F → G → Option β) : b7 (some (e, f, g, i, j, o, u)) k = k e f g i j o u := rfl
def bfM (D : Nat → Nat) (s : Nat) : Nat → Nat
  | 0 => 0
  | t + 1 => bfM D s t + (if D t < D s ∨ (D t = D s ∧ t < s) then 1 else 0)
theorem bf_le (D : Nat → Nat) (s : Nat) : ∀ n, bfM D s n ≤ n := by
  intro n
  induction n with
  | zero => exact Nat.le_refl _
  | succ n ih => unfold bfM; split <;> omega
theorem bf_lt {D : Nat → Nat} {s u : Nat} (h : D s < D u ∨ (D s = D u ∧ s < u)) : ∀ k, bfM D s k + (if s < k then 1 else 0) ≤ bfM D u k := by
  intro k
  induction k with
  | zero => rw [if_neg (by omega)]; exact Nat.le_refl _
  | succ k ih =>
    unfold bfM
    by_cases q : k = s
    · subst q
      rw [if_neg (by omega)] at ih
      rw [if_neg (by omega), if_pos (by omega), if_pos h]
      omega
    · by_cases y : D k < D s ∨ (D k = D s ∧ k < s)
      · rw [if_pos y, if_pos (show D k < D u ∨ (D k = D u ∧ k < u) by omega)]
        by_cases z : s < k
        · rw [if_pos z] at ih
          rw [if_pos (by omega)]; omega
        · rw [if_neg z] at ih
          rw [if_neg (by omega)]; omega
      · rw [if_neg y]
        by_cases z : s < k
        · rw [if_pos z] at ih
          rw [if_pos (by omega)]; split <;> omega
        · rw [if_neg z] at ih
          rw [if_neg (by omega)]; split <;> omega
theorem bf_inj {D : Nat → Nat} {n s u : Nat} (hs : s < n) (hu : u < n) (h : bfM D s n = bfM D u n) : s = u := by
  by_cases q : s = u
  · exact q
  · exfalso
    by_cases y : D s < D u ∨ (D s = D u ∧ s < u)
    · have := bf_lt y n
      rw [if_pos hs] at this; omega
    · have := bf_lt (D := D) (s := u) (u := s) (by omega) n
      rw [if_pos hu] at this; omega
def rkP (D : Nat → Nat) (n k : Nat) (v : Int32) : Prop := (∃ s, s < n ∧ bfM D s n = k ∧ v = nI (1000 * s + D s)) ∨ ((∀ s, s < n → bfM D s n ≠ k) ∧ v = -1)
theorem rk_uniq {D : Nat → Nat} {n k : Nat} {v w : Int32} (h1 : rkP D n k v) (h2 : rkP D n k w) : v = w := by
  rcases h1 with ⟨s, a1, a2, a3⟩ | ⟨a1, a2⟩
  · rcases h2 with ⟨u, b1, b2, b3⟩ | ⟨b1, b2⟩
    · obtain rfl := bf_inj a1 b1 (a2.trans b2.symm)
      rw [a3, b3]
    · exact absurd a2 (b1 s a1)
  · rcases h2 with ⟨u, b1, b2, b3⟩ | ⟨b1, b2⟩
    · exact absurd b2 (a1 u b1)
    · rw [a2, b2]
/-- the class: how many come before -/
theorem cbefore_ok {D : Nat → Nat} {ds : Nat → Int32} {n s : Nat} (hn : n ≤ 16) (hD : ∀ t, t < n → D t ≤ 240 ∧ ds t = nI (D t)) (hs : s < n) : fX2_samplesBefore (nI s) ds (nI n) = some (nI (bfM D s n)) := by
  obtain ⟨d1, d2⟩ := hD s hs
  unfold fX2_samplesBefore
  have e := loopF_count (fun (z : Int32 × Int32) => fX2_samplesBefore_L15 ds (nI n) (nI s) (nI (D s)) z.1 z.2) (fun i => (nI (bfM D s i), nI i)) (nI (bfM D s n)) n (fun i hi => by
    show fX2_samplesBefore_L15 ds (nI n) (nI s) (nI (D s)) (nI (bfM D s i)) (nI i) = _
    obtain ⟨t1, t2⟩ := hD i hi
    unfold fX2_samplesBefore_L15
    rw [if_neg (nI_ge hi (by omega)), xcell_in ds (by omega) (by omega), t2, nI_1, nI_1]
    show _ = some (Sum.inl (nI (bfM D s i + (if _ then _ else _)), _))
    by_cases q1 : D i < D s
    · rw [if_pos (nI_lt q1 (by omega)), if_pos (Or.inl q1)]
    · rw [if_neg (nI_nlt (by omega) (by omega))]
      by_cases q2 : D i = D s
      · rw [if_pos (by rw [q2])]
        by_cases q3 : s ≤ i
        · rw [if_pos (nI_le q3 (by omega)), if_neg (by omega)]; rfl
        · rw [if_neg (nI_ge (by omega) (by omega)), if_pos (by omega)]
      · rw [if_neg (fun z => q2 ((nI_eq (by omega) (by omega)).mp z)), if_neg (by omega)]; rfl) (by
    show fX2_samplesBefore_L15 ds (nI n) (nI s) (nI (D s)) (nI (bfM D s n)) (nI n) = _
    unfold fX2_samplesBefore_L15
    rw [if_pos (nI_le (Nat.le_refl _) (by omega))]) n 0 (by omega) FUEL (by unfold FUEL; omega)
  have e : loopF (fun (z : Int32 × Int32) => fX2_samplesBefore_L15 ds (nI n) (nI s) (nI (D s)) z.1 z.2) FUEL ((0 : Int32), (0 : Int32)) = _ := e
  rw [xcell_in ds (by omega) (by omega), d2, e, b1_so]
/-- THE CLASS RANKS -/
theorem crank_ok {r : Nat → Nat} {sm pd : Int32} {st le po sc sg na se ou : Nat → Int32} (h : rI r) (hC : CS r sm pd st le po sc sg na se ou) {k : Nat} (hk : k < 2 ^ 31) (cs ds : Nat → Int32) :
    ∃ v cs' ds', fX2_rankedSample (nI k) sm sc cs sg ds = some (v, cs', ds') ∧ rkP (dtM r r 0 (r 77)) (r 110) k v := by
  have h16 := h.h16
  have hdb : ∀ s, s < r 110 → dtM r r 0 (r 77) s ≤ 240 := fun s hs => (hC.dist h (p := 16) (Or.inl rfl) hs cs).1
  unfold fX2_rankedSample
  obtain ⟨x, hx, hq⟩ := loopF_ex (fun (z : Int32 × (Nat → Int32) × (Nat → Int32)) => fX2_rankedSample_L2 sm sc sg z.1 z.2.1 z.2.2)
    (fun i z => z.1 = nI i ∧ ∀ s, s < i → z.2.2 s = nI (dtM r r 0 (r 77) s))
    (fun x => ∀ s, s < r 110 → x.2 s = nI (dtM r r 0 (r 77) s)) 0 (r 110) (by omega) (fun i z _ hi hz => Or.inl (by
      obtain ⟨z1, cs1, ds1⟩ := z
      obtain ⟨rfl, hz⟩ := hz
      dsimp only at hz
      obtain ⟨-, cs2, e⟩ := hC.dist h (p := 16) (Or.inl rfl) hi cs1
      have e : fX2_distanceOf (16 : Int32) (nI i) sc cs1 sg = some (nI (dtM r r 0 (r 77) i), cs2) := e
      refine ⟨(nI (i + 1), cs2, upd ds1 i (nI (dtM r r 0 (r 77) i))), ?_, rfl, fun s hs => ?_⟩
      · show fX2_rankedSample_L2 sm sc sg (nI i) cs1 ds1 = _
        unfold fX2_rankedSample_L2
        rw [hC.1, if_neg (nI_ge hi (by omega)), e, b2_so, xput_in ds1 _ (by omega) (by omega), nI_1]
      · dsimp only
        by_cases y : s = i
        · rw [y, pk_us]
        · rw [pk_un y]; exact hz s (by omega))) (fun z hz => by
      obtain ⟨z1, cs1, ds1⟩ := z
      obtain ⟨rfl, hz⟩ := hz
      refine ⟨(cs1, ds1), ?_, hz⟩
      show fX2_rankedSample_L2 sm sc sg (nI (r 110)) cs1 ds1 = _
      unfold fX2_rankedSample_L2
      rw [hC.1, if_pos (nI_le (Nat.le_refl _) (by omega))]) ((0 : Int32), cs, ds) ⟨rfl, fun s hs => absurd hs (Nat.not_lt_zero _)⟩ FUEL (by unfold FUEL; omega)
  obtain ⟨cs1, ds1⟩ := x
  dsimp only at hq
  have hD : ∀ t, t < r 110 → dtM r r 0 (r 77) t ≤ 240 ∧ ds1 t = nI (dtM r r 0 (r 77) t) := fun t ht => ⟨hdb t ht, hq t ht⟩
  rw [hx, b2_so]
  obtain ⟨y, hy, hp⟩ := loopF_ex (fun (z : Int32) => fX2_rankedSample_L37 sm (nI k) ds1 z)
    (fun i z => z = nI i ∧ ∀ s, s < i → bfM (dtM r r 0 (r 77)) s (r 110) ≠ k)
    (fun y => (∃ s, s < r 110 ∧ bfM (dtM r r 0 (r 77)) s (r 110) = k ∧ y = Sum.inl (nI s)) ∨ ((∀ s, s < r 110 → bfM (dtM r r 0 (r 77)) s (r 110) ≠ k) ∧ y = Sum.inr ())) 0 (r 110) (by omega) (fun i z _ hi hz => by
      obtain ⟨rfl, hz⟩ := hz
      have hb := bf_le (dtM r r 0 (r 77)) i (r 110)
      unfold fX2_rankedSample_L37
      rw [hC.1, if_neg (nI_ge hi (by omega)), cbefore_ok h16 hD hi, b1_so]
      by_cases q : bfM (dtM r r 0 (r 77)) i (r 110) = k
      · right
        rw [if_pos (by rw [q])]
        exact ⟨_, rfl, Or.inl ⟨i, hi, q, rfl⟩⟩
      · left
        rw [if_neg (fun z => q ((nI_eq (by omega) hk).mp z)), nI_1]
        refine ⟨_, rfl, rfl, fun s hs => ?_⟩
        by_cases y : s = i
        · rw [y]; exact q
        · exact hz s (by omega)) (fun z hz => by
      obtain ⟨rfl, hz⟩ := hz
      unfold fX2_rankedSample_L37
      rw [hC.1, if_pos (nI_le (Nat.le_refl _) (by omega))]
      exact ⟨_, rfl, Or.inr ⟨hz, rfl⟩⟩) (0 : Int32) ⟨rfl, fun s hs => absurd hs (Nat.not_lt_zero _)⟩ FUEL (by unfold FUEL; omega)
  rw [hy, b1_so]
  rcases hp with ⟨s, hs, q1, rfl⟩ | ⟨q1, rfl⟩
  · refine ⟨_, _, _, rfl, Or.inl ⟨s, hs, q1, ?_⟩⟩
    rw [xcell_in ds1 (by omega) (by omega), hq s hs, show (1000 : Int32) = nI 1000 from rfl, pk_mul, nI_add]
  · exact ⟨_, _, _, rfl, Or.inr ⟨q1, rfl⟩⟩
/-- the model: the distance of a place and a sample, by any ruling by which they fit -/
def pdM (r : Nat → Nat) (d s t : Nat) : Nat := dsM (sigM r (atM s) d) (sigM r (atM t) d)
theorem mdist0 {c : Nat → Int32} {r : Nat → Nat} (hr : rowOk 1343 c r) (h : rI r) {s : Nat} (hs : s < r 110) (one two cs : Nat → Int32) : dtM r r 0 (r 77) s ≤ 240 ∧ ∃ one' two' cs', fX7_distanceTo_s (0 : Int32) (nI s) (nI (r 77)) 1343 c one two cs = some (nI (dtM r r 0 (r 77) s), one', two', cs') := by
  rw [distTo_same]
  exact rd_dist (rI.rdH hr h (p := 16) (Or.inl rfl)) hs one two cs
theorem mdistP {c : Nat → Int32} {r : Nat → Nat} (hr : rowOk 1343 c r) (h : rI r) {d s t : Nat} (hd : 5 ≤ d) (hd2 : d ≤ 20) (hF : smFit r d) (hs : s < r 110) (ht : t < r 110) (one two cs : Nat → Int32) : pdM r d s t ≤ 240 ∧ ∃ one' two' cs', fX7_distanceTo_s (nI (atM s)) (nI t) (nI d) 1343 c one two cs = some (nI (pdM r d s t), one', two', cs') := by
  have h16 := h.h16
  have := dsM_le (sigM r (atM s) d) (sigM r (atM t) d)
  have a1 := hF s hs
  have a2 := hF t ht
  rw [distTo_same]
  exact ⟨by unfold pdM; omega, distTo_ok hr hr (h.smp hs).1.1 (h.smp ht).1.1 (by unfold atM; omega) (by omega) (by omega) hd hd2 a1 a2⟩
/-- THE MODEL RANKS -/
theorem mrank_in {c : Nat → Int32} {r : Nat → Nat} (hr : rowOk 1343 c r) (h : rI r) {s : Nat} (hs : s < r 110) (one two cs : Nat → Int32) :
    ∃ one' two' cs', loopF (fun (z : Int32 × Int32 × (Nat → Int32) × (Nat → Int32) × (Nat → Int32)) => fX7_nearest_L69 c (nI s) (nI (dtM r r 0 (r 77) s)) z.1 z.2.1 z.2.2.1 z.2.2.2.1 z.2.2.2.2) FUEL ((0 : Int32), (0 : Int32), one, two, cs) = some (nI (bfM (dtM r r 0 (r 77)) s (r 110)), one', two', cs') := by
  have h16 := h.h16
  have ds := (mdist0 hr h hs one two cs).1
  obtain ⟨x, hx, hq⟩ := loopF_ex (fun (z : Int32 × Int32 × (Nat → Int32) × (Nat → Int32) × (Nat → Int32)) => fX7_nearest_L69 c (nI s) (nI (dtM r r 0 (r 77) s)) z.1 z.2.1 z.2.2.1 z.2.2.2.1 z.2.2.2.2)
    (fun i z => z.1 = nI (bfM (dtM r r 0 (r 77)) s i) ∧ z.2.1 = nI i)
    (fun x => x.1 = nI (bfM (dtM r r 0 (r 77)) s (r 110))) 0 (r 110) (by omega) (fun i z _ hi hz => Or.inl (by
      obtain ⟨z1, z2, one1, two1, cs1⟩ := z
      obtain ⟨rfl, rfl⟩ := hz
      obtain ⟨hd, one2, two2, cs2, e⟩ := mdist0 hr h hi one1 two1 cs1
      show ∃ s', fX7_nearest_L69 c (nI s) (nI (dtM r r 0 (r 77) s)) (nI (bfM (dtM r r 0 (r 77)) s i)) (nI i) one1 two1 cs1 = _ ∧ _
      have z0 : ∀ n, nI n + (0 : Int32) = nI n := fun n => nI_add n 0
      unfold fX7_nearest_L69
      rw [l110, l77, gk (by omega) (by omega), nI_clamp (by omega), nI_clamp (by omega), hr 110 (by omega), if_neg (nI_ge hi (by omega)), hr 77 (by omega), e, b4_so, z0]
      refine ⟨(nI (bfM (dtM r r 0 (r 77)) s (i + 1)), nI (i + 1), one2, two2, cs2), ?_, rfl, rfl⟩
      refine gy (by first | exact nI_pos (by omega) | decide) (by first | omega | (rw [nI_clamp (by omega)]; omega)) ?_
      show _ = some (Sum.inl (nI (bfM (dtM r r 0 (r 77)) s i + (if _ then _ else _)), _))
      rw [nI_1, nI_1]
      by_cases q1 : dtM r r 0 (r 77) i < dtM r r 0 (r 77) s
      · rw [if_pos (nI_lt q1 (by omega)), if_pos (Or.inl q1)]
      · rw [if_neg (nI_nlt (by omega) (by omega))]
        by_cases q2 : dtM r r 0 (r 77) i = dtM r r 0 (r 77) s
        · rw [if_pos (by rw [q2])]
          by_cases q3 : s ≤ i
          · rw [if_pos (nI_le q3 (by omega)), if_neg (by omega)]; rfl
          · rw [if_neg (nI_ge (by omega) (by omega)), if_pos (by omega)]
        · rw [if_neg (fun z => q2 ((nI_eq (by omega) (by omega)).mp z)), if_neg (by omega)]; rfl)) (fun z hz => by
      obtain ⟨z1, z2, one1, two1, cs1⟩ := z
      obtain ⟨rfl, rfl⟩ := hz
      refine ⟨(nI (bfM (dtM r r 0 (r 77)) s (r 110)), one1, two1, cs1), ?_, rfl⟩
      show fX7_nearest_L69 c (nI s) (nI (dtM r r 0 (r 77) s)) (nI (bfM (dtM r r 0 (r 77)) s (r 110))) (nI (r 110)) one1 two1 cs1 = _
      unfold fX7_nearest_L69
      rw [l110, gk (by omega) (by omega), nI_clamp (by omega), hr 110 (by omega), if_pos (nI_le (Nat.le_refl _) (by omega))]) ((0 : Int32), (0 : Int32), one, two, cs) ⟨rfl, rfl⟩ FUEL (by unfold FUEL; omega)
  obtain ⟨x1, one', two', cs'⟩ := x
  obtain rfl := hq
  exact ⟨one', two', cs', hx⟩
theorem mrank_ok {c : Nat → Int32} {r : Nat → Nat} (hr : rowOk 1343 c r) (h : rI r) {k : Nat} (hk : k < 2 ^ 31) (one two cs : Nat → Int32) :
    ∃ v one' two' cs', loopF (fun (z : Int32 × Int32 × (Nat → Int32) × (Nat → Int32) × (Nat → Int32)) => fX7_nearest_L29 c (nI k) z.1 z.2.1 z.2.2.1 z.2.2.2.1 z.2.2.2.2) FUEL ((-1 : Int32), (0 : Int32), one, two, cs) = some (v, one', two', cs') ∧ rkP (dtM r r 0 (r 77)) (r 110) k v := by
  have h16 := h.h16
  obtain ⟨x, hx, hq⟩ := loopF_ex (fun (z : Int32 × Int32 × (Nat → Int32) × (Nat → Int32) × (Nat → Int32)) => fX7_nearest_L29 c (nI k) z.1 z.2.1 z.2.2.1 z.2.2.2.1 z.2.2.2.2)
    (fun i z => z.2.1 = nI i ∧ ((∃ s, s < i ∧ bfM (dtM r r 0 (r 77)) s (r 110) = k ∧ z.1 = nI (1000 * s + dtM r r 0 (r 77) s)) ∨ ((∀ s, s < i → bfM (dtM r r 0 (r 77)) s (r 110) ≠ k) ∧ z.1 = -1)))
    (fun x => rkP (dtM r r 0 (r 77)) (r 110) k x.1) 0 (r 110) (by omega) (fun i z _ hi hz => Or.inl (by
      obtain ⟨z1, z2, one1, two1, cs1⟩ := z
      obtain ⟨rfl, hz⟩ := hz
      dsimp only at hz
      obtain ⟨hd, one2, two2, cs2, e⟩ := mdist0 hr h hi one1 two1 cs1
      obtain ⟨one3, two3, cs3, e3⟩ := mrank_in hr h hi one2 two2 cs2
      have hb := bf_le (dtM r r 0 (r 77)) i (r 110)
      show ∃ s', fX7_nearest_L29 c (nI k) z1 (nI i) one1 two1 cs1 = _ ∧ _
      unfold fX7_nearest_L29
      rw [l110, l77, gk (by omega) (by omega), nI_clamp (by omega), nI_clamp (by omega), hr 110 (by omega), if_neg (nI_ge hi (by omega)), hr 77 (by omega), e, b4_so, e3, b4_so, nI_1]
      by_cases q : bfM (dtM r r 0 (r 77)) i (r 110) = k
      · refine ⟨((1000 : Int32) * nI i + nI (dtM r r 0 (r 77) i), nI (i + 1), one3, two3, cs3), ?_, rfl, Or.inl ⟨i, by omega, q, ?_⟩⟩
        · refine gy (by first | exact nI_pos (by omega) | decide) (by first | omega | (rw [nI_clamp (by omega)]; omega)) ?_
          rw [if_pos (by rw [q])]
        · show _ + _ = _
          rw [show (1000 : Int32) = nI 1000 from rfl, pk_mul, nI_add]
      · refine ⟨(z1, nI (i + 1), one3, two3, cs3), ?_, rfl, ?_⟩
        · refine gy (by first | exact nI_pos (by omega) | decide) (by first | omega | (rw [nI_clamp (by omega)]; omega)) ?_
          rw [if_neg (fun z => q ((nI_eq (by omega) hk).mp z))]
        · rcases hz with ⟨s, a1, a2⟩ | ⟨a1, a2⟩
          · exact Or.inl ⟨s, by omega, a2⟩
          · refine Or.inr ⟨fun s hs => ?_, a2⟩
            by_cases y : s = i
            · rw [y]; exact q
            · exact a1 s (by omega))) (fun z hz => by
      obtain ⟨z1, z2, one1, two1, cs1⟩ := z
      obtain ⟨rfl, hz⟩ := hz
      refine ⟨(z1, one1, two1, cs1), ?_, hz⟩
      show fX7_nearest_L29 c (nI k) z1 (nI (r 110)) one1 two1 cs1 = _
      unfold fX7_nearest_L29
      rw [l110, gk (by omega) (by omega), nI_clamp (by omega), hr 110 (by omega), if_pos (nI_le (Nat.le_refl _) (by omega))]) ((-1 : Int32), (0 : Int32), one, two, cs) ⟨rfl, Or.inr ⟨fun s hs => absurd hs (Nat.not_lt_zero _), rfl⟩⟩ FUEL (by unfold FUEL; omega)
  obtain ⟨v, one', two', cs'⟩ := x
  exact ⟨v, one', two', cs', hx, hq⟩
/-- how many are read right by the others -/
def boM (r : Nat → Nat) : Nat → Nat
  | 0 => 0
  | s + 1 => boM r s + (if hname r (atM s) s = nI (r (atM s + 76)) then 1 else 0)
theorem cbo_ok {r : Nat → Nat} {sm pd : Int32} {st le po sc sg na se ou : Nat → Int32} (h : rI r) (hC : CS r sm pd st le po sc sg na se ou) (v1 v2 v3 v4 : Int32) (cs ds : Nat → Int32) :
    ∃ w1 w2 w3 w4 cs' ds', fX6_byOthers sm v1 v2 v3 v4 sc cs sg ds se na = some (nI (boM r (r 110)), w1, w2, w3, w4, cs', ds') := by
  have h16 := h.h16
  unfold fX6_byOthers
  obtain ⟨x, hx, hq⟩ := loopF_ex (fun (z : Int32 × Int32 × Int32 × Int32 × Int32 × Int32 × (Nat → Int32) × (Nat → Int32)) => fX6_byOthers_L4 sm sc sg se na z.1 z.2.1 z.2.2.1 z.2.2.2.1 z.2.2.2.2.1 z.2.2.2.2.2.1 z.2.2.2.2.2.2.1 z.2.2.2.2.2.2.2)
    (fun i z => z.1 = nI (boM r i) ∧ z.2.1 = nI i)
    (fun x => x.1 = nI (boM r (r 110))) 0 (r 110) (by omega) (fun i z _ hi hz => Or.inl (by
      obtain ⟨z1, z2, a1, a2, a3, a4, cs1, ds1⟩ := z
      obtain ⟨rfl, rfl⟩ := hz
      obtain ⟨cs2, ds2, e⟩ := crd_ok h hC (p := i) (b := i) (but := nI i) (Or.inr hi) (butOk_nI (by omega)) cs1 ds1
      rw [offS (by omega)] at e
      show ∃ s', fX6_byOthers_L4 sm sc sg se na (nI (boM r i)) (nI i) a1 a2 a3 a4 cs1 ds1 = _ ∧ _
      unfold fX6_byOthers_L4
      rw [if_neg (show ¬ sm ≤ nI i by rw [hC.1]; exact nI_ge hi (by omega)), e, b6_so, hC.nm h hi, nI_1, nI_1]
      by_cases q : hname r (atM i) i = nI (r (atM i + 76))
      · rw [if_pos q]
        refine ⟨_, rfl, ?_, rfl⟩
        show _ = nI (boM r i + (if _ then _ else _))
        rw [if_pos q]
      · rw [if_neg q]
        refine ⟨_, rfl, ?_, rfl⟩
        show _ = nI (boM r i + (if _ then _ else _))
        rw [if_neg q]; rfl)) (fun z hz => by
      obtain ⟨z1, z2, a1, a2, a3, a4, cs1, ds1⟩ := z
      obtain ⟨rfl, rfl⟩ := hz
      refine ⟨(nI (boM r (r 110)), a1, a2, a3, a4, cs1, ds1), ?_, rfl⟩
      show fX6_byOthers_L4 sm sc sg se na (nI (boM r (r 110))) (nI (r 110)) a1 a2 a3 a4 cs1 ds1 = _
      unfold fX6_byOthers_L4
      rw [if_pos (show sm ≤ nI (r 110) by rw [hC.1]; exact nI_le (Nat.le_refl _) (by omega))]) ((0 : Int32), (0 : Int32), v1, v2, v3, v4, cs, ds) ⟨rfl, rfl⟩ FUEL (by unfold FUEL; omega)
  obtain ⟨x1, w1, w2, w3, w4, cs', ds'⟩ := x
  obtain rfl := hq
  rw [hx, b7_so]
  exact ⟨w1, w2, w3, w4, cs', ds', rfl⟩
theorem mbo_ok {c : Nat → Int32} {r : Nat → Nat} (hr : rowOk 1343 c r) (h : rI r) (v1 v2 v3 : Int32) (one two cs : Nat → Int32) :
    ∃ w1 w2 w3 one' two' cs', fX7_byOthers v1 v2 v3 c one two cs = some (nI (boM r (r 110)), 0, w1, w2, w3, one', two', cs') := by
  have h16 := h.h16
  unfold fX7_byOthers
  obtain ⟨x, hx, hq⟩ := loopF_ex (fun (z : Int32 × Int32 × Int32 × Int32 × Int32 × (Nat → Int32) × (Nat → Int32) × (Nat → Int32)) => fX7_byOthers_L9 c z.1 z.2.1 z.2.2.1 z.2.2.2.1 z.2.2.2.2.1 z.2.2.2.2.2.1 z.2.2.2.2.2.2.1 z.2.2.2.2.2.2.2)
    (fun i z => z.1 = nI (boM r i) ∧ z.2.1 = nI i)
    (fun x => x.1 = nI (boM r (r 110))) 0 (r 110) (by omega) (fun i z _ hi hz => Or.inl (by
      obtain ⟨z1, z2, a1, a2, a3, one1, two1, cs1⟩ := z
      obtain ⟨rfl, rfl⟩ := hz
      obtain ⟨one2, two2, cs2, e⟩ := mrd_ok hr h (p := i) (b := i) (but := nI i) (Or.inr hi) (butOk_nI (by omega)) one1 two1 cs1
      rw [offS (by omega)] at e
      have hl := hhow_le r (atM i) i
      have n9 := h.nm hi
      have z0 : ∀ n, nI n + (0 : Int32) = nI n := fun n => nI_add n 0
      show ∃ s', fX7_byOthers_L9 c (nI (boM r i)) (nI i) a1 a2 a3 one1 two1 cs1 = _ ∧ _
      unfold fX7_byOthers_L9
      rw [l110, gk (by omega) (by omega), nI_clamp (by omega), hr 110 (by omega), if_neg (nI_ge hi (by omega)), at_nI, e, b6_so, nI_1, nI_1, z0]
      by_cases q : hhow r (atM i) i = 0
      · obtain ⟨p2, hn, hp2⟩ := how0 q
        have m9 := h.nm hp2
        have en : hname r (atM i) i = nI (r (atM p2.1 + 76)) := by unfold hname; rw [if_pos q, hn]; rfl
        have em : fX7_nameOf (oneI (some p2)) 1343 c = some (nI (r (atM p2.1 + 76))) := mname_ok hr (by omega) (by omega) (by omega)
        rw [if_pos (by rw [q]; rfl), hn, em, b1_so, mname_ok hr (by omega) (by omega) (by omega), b1_so]
        by_cases y : r (atM p2.1 + 76) = r (atM i + 76)
        · rw [if_pos (by rw [y])]
          refine ⟨_, rfl, ?_, rfl⟩
          show _ = nI (boM r i + (if _ then _ else _))
          rw [if_pos (by rw [en, y])]
        · have y2 : ¬ nI (r (atM p2.1 + 76)) = nI (r (atM i + 76)) := fun z => y ((nI_eq (by omega) (by omega)).mp z)
          rw [if_neg y2]
          refine ⟨_, rfl, ?_, rfl⟩
          show _ = nI (boM r i + (if _ then _ else _))
          rw [if_neg (by rw [en]; exact y2)]; rfl
      · rw [if_neg (nI_ne0 (by omega) (by omega))]
        have en : hname r (atM i) i = -1 := by unfold hname; rw [if_neg q]
        refine ⟨_, rfl, ?_, rfl⟩
        show _ = nI (boM r i + (if _ then _ else _))
        rw [if_neg (by rw [en]; exact fun z => nI_m1 (show r (atM i + 76) < 2 ^ 31 by omega) z.symm)]; rfl)) (fun z hz => by
      obtain ⟨z1, z2, a1, a2, a3, one1, two1, cs1⟩ := z
      obtain ⟨rfl, rfl⟩ := hz
      refine ⟨(nI (boM r (r 110)), a1, a2, a3, one1, two1, cs1), ?_, rfl⟩
      show fX7_byOthers_L9 c (nI (boM r (r 110))) (nI (r 110)) a1 a2 a3 one1 two1 cs1 = _
      unfold fX7_byOthers_L9
      rw [l110, gk (by omega) (by omega), nI_clamp (by omega), hr 110 (by omega), if_pos (nI_le (Nat.le_refl _) (by omega))]) ((0 : Int32), (0 : Int32), v1, v2, v3, one, two, cs) ⟨rfl, rfl⟩ FUEL (by unfold FUEL; omega)
  obtain ⟨x1, w1, w2, w3, one', two', cs'⟩ := x
  obtain rfl := hq
  rw [hx, b7_so]
  exact ⟨w1, w2, w3, one', two', cs', rfl⟩
end XPURE18
