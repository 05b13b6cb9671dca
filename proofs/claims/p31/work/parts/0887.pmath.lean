/-! GHOST 13: distances are those of a space; the nearest; the closest; signs between strokes -/
section XPMATH
theorem inM_symm (a b : Nat) : inM a b = inM b a := by
  unfold inM
  rw [ad_comm a b]
  by_cases h : a = b
  · subst h; rfl
  · rw [if_neg h, if_neg (show ¬ b = a from fun e => h e.symm)]
    by_cases h4 : a = 4
    · by_cases h5 : b = 4
      · rw [if_pos h4, if_pos h5]
      · rw [if_pos h4, if_neg h5, if_pos h4]
    · by_cases h5 : b = 4
      · rw [if_neg h4, if_pos h5, if_pos h5]
      · rw [if_neg h4, if_neg h5, if_neg h5, if_neg h4]
theorem inM_ge {a b : Nat} (h : a ≠ b) : 2 ≤ inM a b := by
  unfold inM
  rw [if_neg h]
  (repeat' split) <;> omega
theorem inM_self (a : Nat) : inM a a = 0 := if_pos rfl
theorem inM_four {a b : Nat} (h : a ≠ b) (h4 : a = 4 ∨ b = 4) : inM a b = 5 := by
  unfold inM
  rw [if_neg h]
  rcases h4 with h4 | h4
  · rw [if_pos h4]
  · split <;> rfl
theorem inM_no4 {a b : Nat} (h4 : a ≠ 4) (h5 : b ≠ 4) : inM a b ≤ 3 := by
  unfold inM
  rw [if_neg h4, if_neg h5]
  (repeat' split) <;> omega
theorem inM_tri (x y z : Nat) : inM x z ≤ inM x y + inM y z := by
  by_cases h1 : x = y
  · subst h1; omega
  · by_cases h2 : y = z
    · subst h2; omega
    · have a1 := inM_ge h1
      have a2 := inM_ge h2
      by_cases h3 : x = z
      · subst h3; rw [inM_self]; omega
      · by_cases h4 : x = 4
        · rw [inM_four h1 (Or.inl h4)]
          have := inM_le x z
          omega
        · by_cases h5 : z = 4
          · rw [inM_four h2 (Or.inr h5)]
            have := inM_le x z
            omega
          · have := inM_no4 h4 h5
            omega
theorem inM_al (x y : Nat) : inM x y ≤ alM x + alM y := by
  have a1 := alM_ge x
  have a2 := alM_ge y
  by_cases h4 : x = 4
  · have := inM_le x y
    have : alM x = 3 := if_pos h4
    omega
  · by_cases h5 : y = 4
    · have := inM_le x y
      have : alM y = 3 := if_pos h5
      omega
    · have := inM_no4 h4 h5
      omega
theorem al_inM (x y : Nat) : alM x ≤ inM x y + alM y := by
  have a1 := alM_le x
  have a2 := alM_ge y
  by_cases h : x = y
  · subst h; omega
  · have := inM_ge h
    omega
theorem al_inM2 (x y : Nat) : alM y ≤ inM x y + alM x := by
  rw [inM_symm]; exact al_inM y x
theorem dM_ss (a b : Nat → Nat) (i j : Nat) : dM a b (i + 1) (j + 1) = min (min (dM a b i (j + 1) + alM (a i)) (dM a b (i + 1) j + alM (b j))) (dM a b i j + inM (a i) (b j)) := rfl
theorem dM_s0 (a b : Nat → Nat) (i : Nat) : dM a b (i + 1) 0 = dM a b i 0 + alM (a i) := rfl
theorem dM_0s (a b : Nat → Nat) (j : Nat) : dM a b 0 (j + 1) = dM a b 0 j + alM (b j) := rfl
theorem dM_00 (a b : Nat → Nat) : dM a b 0 0 = 0 := rfl
theorem dM_del (a b : Nat → Nat) (i j : Nat) : dM a b (i + 1) j ≤ dM a b i j + alM (a i) := by
  cases j with
  | zero => rw [dM_s0]; omega
  | succ j => rw [dM_ss]; omega
theorem dM_ins (a b : Nat → Nat) (i j : Nat) : dM a b i (j + 1) ≤ dM a b i j + alM (b j) := by
  cases i with
  | zero => rw [dM_0s]; omega
  | succ i => rw [dM_ss]; omega
theorem dM_sub (a b : Nat → Nat) (i j : Nat) : dM a b (i + 1) (j + 1) ≤ dM a b i j + inM (a i) (b j) := by
  rw [dM_ss]; omega
/-- the last step of a way -/
theorem dM_last (a b : Nat → Nat) (i j : Nat) : (i = 0 ∧ j = 0) ∨ (∃ i', i = i' + 1 ∧ dM a b i j = dM a b i' j + alM (a i')) ∨ (∃ j', j = j' + 1 ∧ dM a b i j = dM a b i j' + alM (b j')) ∨ ∃ i' j', i = i' + 1 ∧ j = j' + 1 ∧ dM a b i j = dM a b i' j' + inM (a i') (b j') := by
  cases i with
  | zero =>
    cases j with
    | zero => exact Or.inl ⟨rfl, rfl⟩
    | succ j => exact Or.inr (Or.inr (Or.inl ⟨j, rfl, rfl⟩))
  | succ i =>
    cases j with
    | zero => exact Or.inr (Or.inl ⟨i, rfl, rfl⟩)
    | succ j =>
      have e := dM_ss a b i j
      by_cases h1 : dM a b (i + 1) (j + 1) = dM a b i (j + 1) + alM (a i)
      · exact Or.inr (Or.inl ⟨i, rfl, h1⟩)
      · by_cases h2 : dM a b (i + 1) (j + 1) = dM a b (i + 1) j + alM (b j)
        · exact Or.inr (Or.inr (Or.inl ⟨j, rfl, h2⟩))
        · exact Or.inr (Or.inr (Or.inr ⟨i, j, rfl, rfl, by omega⟩))
theorem dM_symm (a b : Nat → Nat) : ∀ i j, dM a b i j = dM b a j i := by
  intro i
  induction i with
  | zero =>
    intro j
    induction j with
    | zero => rfl
    | succ j ih => rw [dM_0s, dM_s0, ih]
  | succ i ihi =>
    intro j
    induction j with
    | zero => rw [dM_0s, dM_s0, ihi]
    | succ j ih => rw [dM_ss, dM_ss, ihi, ihi, ih, inM_symm (a i) (b j)]; omega
theorem dM_left (a b c : Nat → Nat) (k : Nat) : dM a c 0 k = dM b c 0 k := rfl
theorem dM_right (a b c : Nat → Nat) : ∀ i, dM a c i 0 = dM a b i 0 := by
  intro i
  induction i with
  | zero => rfl
  | succ i ih => rw [dM_s0, dM_s0, ih]
/-- no way is longer than one over a third -/
theorem dM_tri (a b c : Nat → Nat) : ∀ (N i j k : Nat), i + j + k = N → dM a c i k ≤ dM a b i j + dM b c j k := by
  intro N
  induction N using Nat.strongRecOn with
  | _ N ih =>
    intro i j k hN
    rcases dM_last a b i j with ⟨rfl, rfl⟩ | ⟨i', rfl, e1⟩ | ⟨j', rfl, e1⟩ | ⟨i', j', rfl, rfl, e1⟩
    · rw [dM_00, dM_left a b c k]; omega
    · have h1 := dM_del a c i' k
      have h2 := ih (i' + j + k) (by omega) i' j k rfl
      omega
    · rcases dM_last b c (j' + 1) k with ⟨z, -⟩ | ⟨j2, z, e2⟩ | ⟨k', rfl, e2⟩ | ⟨j2, k', z, rfl, e2⟩
      · omega
      · obtain rfl : j' = j2 := by omega
        have h2 := ih (i + j' + k) (by omega) i j' k rfl
        omega
      · have h1 := dM_ins a c i k'
        have h2 := ih (i + (j' + 1) + k') (by omega) i (j' + 1) k' rfl
        omega
      · obtain rfl : j' = j2 := by omega
        have h1 := dM_ins a c i k'
        have h2 := ih (i + j' + k') (by omega) i j' k' rfl
        have h3 := al_inM2 (b j') (c k')
        omega
    · rcases dM_last b c (j' + 1) k with ⟨z, -⟩ | ⟨j2, z, e2⟩ | ⟨k', rfl, e2⟩ | ⟨j2, k', z, rfl, e2⟩
      · omega
      · obtain rfl : j' = j2 := by omega
        have h1 := dM_del a c i' k
        have h2 := ih (i' + j' + k) (by omega) i' j' k rfl
        have h3 := al_inM (a i') (b j')
        omega
      · have h1 := dM_ins a c (i' + 1) k'
        have h2 := ih (i' + 1 + (j' + 1) + k') (by omega) (i' + 1) (j' + 1) k' rfl
        omega
      · obtain rfl : j' = j2 := by omega
        have h1 := dM_sub a c i' k'
        have h2 := ih (i' + j' + k') (by omega) i' j' k' rfl
        have h3 := inM_tri (a i') (b j') (c k')
        omega
theorem dM_len (a b : Nat → Nat) : ∀ (N i j : Nat), i + j = N → 2 * i ≤ dM a b i j + 2 * j ∧ 2 * j ≤ dM a b i j + 2 * i := by
  intro N
  induction N using Nat.strongRecOn with
  | _ N ih =>
    intro i j hN
    rcases dM_last a b i j with ⟨rfl, rfl⟩ | ⟨i', rfl, e1⟩ | ⟨j', rfl, e1⟩ | ⟨i', j', rfl, rfl, e1⟩
    · omega
    · have h1 := ih (i' + j) (by omega) i' j rfl
      have h2 := alM_ge (a i')
      omega
    · have h1 := ih (i + j') (by omega) i j' rfl
      have h2 := alM_ge (b j')
      omega
    · have h1 := ih (i' + j') (by omega) i' j' rfl
      omega
theorem pdM_symm (r : RW) (d s t : Nat) : pdM r d s t = pdM r d t s := dM_symm _ _ _ _
theorem pdM_self (r : RW) (d s : Nat) : pdM r d s s = 0 := (dsM_zero _ _).mpr ⟨rfl, fun _ _ => rfl⟩
theorem pdM_tri (r : RW) (d s t u : Nat) : pdM r d s t ≤ pdM r d s u + pdM r d u t := dM_tri _ _ _ _ _ _ _ rfl
theorem pdM_len (r : RW) (d s t : Nat) : 2 * (sigM r (atM s) d).length ≤ pdM r d s t + 2 * (sigM r (atM t) d).length ∧ 2 * (sigM r (atM t) d).length ≤ pdM r d s t + 2 * (sigM r (atM s) d).length := dM_len _ _ _ _ _ rfl
/-- the nearest of n -/
theorem nrM_near (D : Nat → Nat) : ∀ n, n ≤ 16 → (n = 0 ∧ nrM D 99 n = none) ∨ ∃ b, nrM D 99 n = some (b, D b) ∧ b < n ∧ (∀ s, s < n → D b ≤ D s) ∧ ∀ s, s < b → D b < D s := by
  intro n
  induction n with
  | zero => intro _; exact Or.inl ⟨rfl, rfl⟩
  | succ n ih =>
    intro hn
    refine Or.inr ?_
    unfold nrM
    rw [if_neg (by omega)]
    rcases ih (by omega) with ⟨z, e⟩ | ⟨b, e, h1, h2, h3⟩
    · subst z
      rw [e]
      refine ⟨0, rfl, by omega, fun s hs => ?_, fun s hs => absurd hs (by omega)⟩
      obtain rfl : s = 0 := by omega
      exact Nat.le_refl _
    · rw [e]
      dsimp only
      by_cases q : D n < D b
      · rw [if_pos q]
        refine ⟨n, rfl, by omega, fun s hs => ?_, fun s hs => ?_⟩
        · by_cases z : s = n
          · rw [z]; exact Nat.le_refl _
          · have := h2 s (by omega)
            omega
        · have := h2 s hs
          omega
      · rw [if_neg q]
        refine ⟨b, rfl, by omega, fun s hs => ?_, h3⟩
        by_cases z : s = n
        · rw [z]; omega
        · exact h2 s (by omega)
/-- the nearest sample is the first in the rank -/
theorem gRk_0 {r : RW} {b : Nat} (hb : b < r 110) (h2 : ∀ s, s < r 110 → dtM r r 0 (r 77) b ≤ dtM r r 0 (r 77) s) (h3 : ∀ s, s < b → dtM r r 0 (r 77) b < dtM r r 0 (r 77) s) : gRk r 0 = nI (1000 * b + dtM r r 0 (r 77) b) := by
  refine gRk_is (Or.inl ⟨b, hb, ?_, rfl⟩)
  have : ∀ n, n ≤ r 110 → bfM (dtM r r 0 (r 77)) b n = 0 := by
    intro n
    induction n with
    | zero => intro _; rfl
    | succ n ih =>
      intro hn
      unfold bfM
      rw [ih (by omega), if_neg]
      rintro (q | ⟨q, q2⟩)
      · have := h2 n (by omega)
        omega
      · have := h3 n q2
        omega
  exact this _ (Nat.le_refl _)
/-- what is read: nothing without samples; the nearest otherwise -/
theorem near_cases {r : RW} (h : rI r) : (r 110 = 0 ∧ hnr r 0 99 = none ∧ hhow r 0 99 = 2) ∨ ∃ b, b < r 110 ∧ hnr r 0 99 = some (b, dtM r r 0 (r 77) b) ∧ gRk r 0 = nI (1000 * b + dtM r r 0 (r 77) b) ∧ (hhow r 0 99 = 2 ↔ r 78 < dtM r r 0 (r 77) b) ∧ hhow r 0 99 ≤ 2 := by
  rcases nrM_near (dtM r r 0 (r 77)) (r 110) h.h16 with ⟨z, e⟩ | ⟨b, e, h1, h2, h3⟩
  · refine Or.inl ⟨z, e, ?_⟩
    unfold hhow howM
    rw [e]
  · refine Or.inr ⟨b, h1, e, gRk_0 h1 h2 h3, ?_, hhow_le _ _ _⟩
    unfold hhow howM
    rw [e]
    dsimp only
    by_cases q : r 78 < dtM r r 0 (r 77) b
    · rw [if_pos q]; exact ⟨fun _ => q, fun _ => rfl⟩
    · rw [if_neg q]
      refine ⟨fun z => ?_, fun z => absurd z q⟩
      split at z <;> omega
theorem dt_le {r : RW} (h : rI r) {s : Nat} (hs : s < r 110) : dtM r r 0 (r 77) s ≤ 240 := (rd_dist (rI.rdH (cRow_ok r) h (p := 16) (Or.inl rfl)) hs (fun _ => 0) (fun _ => 0) (fun _ => 0)).1
/-- the closest two -/
theorem clM_none {D : Nat → Nat → Nat} {nm : Nat → Nat} {n : Nat} (h : clM D nm n = none) {s t : Nat} (hs : s < n) (ht : t < n) : nm s = nm t := by
  have key : ∀ s t, s < t → t < n → nm s = nm t := by
    intro s t h1 h2
    by_cases q : nm s = nm t
    · exact q
    · obtain ⟨p, e, -⟩ := clo_min (D := D) h1 h2 q n (by omega)
      unfold clM at h
      rw [h] at e; cases e
  rcases (by omega : s < t ∨ s = t ∨ t < s) with q | q | q
  · exact key s t q ht
  · rw [q]
  · exact (key t s q hs).symm
theorem clM_some {D : Nat → Nat → Nat} {nm : Nat → Nat} {n : Nat} {p : Nat × Nat × Nat} (h : clM D nm n = some p) (hD : ∀ s t, D s t = D t s) : p.1 < p.2.1 ∧ p.2.1 < n ∧ nm p.1 ≠ nm p.2.1 ∧ p.2.2 = D p.1 p.2.1 ∧ ∀ s t, s < n → t < n → nm s ≠ nm t → D p.1 p.2.1 ≤ D s t := by
  obtain ⟨h1, h2, h3, h4⟩ := clo_ok D nm n n p h
  refine ⟨h1, h2, h3, h4, fun s t hs ht q => ?_⟩
  have key : ∀ s t, s < t → t < n → nm s ≠ nm t → p.2.2 ≤ D s t := by
    intro s t g1 g2 g3
    obtain ⟨p2, e, g⟩ := clo_min (D := D) g1 g2 g3 n (by omega)
    have e2 : clo D nm n n = some p := h
    rw [e2] at e
    cases e
    exact g
  rw [← h4]
  rcases (by omega : s < t ∨ s = t ∨ t < s) with z | z | z
  · exact key s t z ht q
  · exact absurd (by rw [z]) q
  · rw [hD s t]; exact key t s z hs (fun e => q e.symm)
theorem clM_iff {D D2 : Nat → Nat → Nat} {nm : Nat → Nat} {n : Nat} (h : clM D nm n = none) : clM D2 nm n = none := by
  cases e : clM D2 nm n with
  | none => rfl
  | some p =>
    obtain ⟨h1, h2, h3, -⟩ := clo_ok D2 nm n n p e
    exact absurd (clM_none h (by omega) h2) h3
/-- the best ruling is none just where there is no closest two -/
theorem br_none {r : RW} (h : clM (pdM r (r 77)) (nmF r) (r 110) = none) : ∀ k, brM r k = none := by
  intro k
  induction k with
  | zero => rfl
  | succ k ih =>
    unfold brM
    by_cases q : smFit r (5 + k)
    · rw [if_pos q, clM_iff (D2 := pdM r (5 + k)) h]; exact ih
    · rw [if_neg q]; exact ih
theorem br_keep {r : RW} {k : Nat} (h : ∃ q, brM r k = some q) : ∃ q, brM r (k + 1) = some q := by
  obtain ⟨q, e⟩ := h
  unfold brM
  by_cases z : smFit r (5 + k)
  · rw [if_pos z]
    cases e2 : clM (pdM r (5 + k)) (nmF r) (r 110) with
    | none => exact ⟨q, e⟩
    | some p =>
      dsimp only
      rw [e]
      dsimp only
      split
      · exact ⟨_, rfl⟩
      · exact ⟨_, rfl⟩
  · rw [if_neg z]; exact ⟨q, e⟩
theorem br_later {r : RW} {k : Nat} (h : ∃ q, brM r k = some q) : ∀ j, ∃ q, brM r (k + j) = some q := by
  intro j
  induction j with
  | zero => exact h
  | succ j ih => exact br_keep ih
theorem br_some {r : RW} (hI : rI r) {p : Nat × Nat × Nat} (h : clM (pdM r (r 77)) (nmF r) (r 110) = some p) : ∃ q, brM r 16 = some q := by
  have h5 := hI.2.1
  have h1 : ∃ q, brM r ((r 77 - 5) + 1) = some q := by
    unfold brM
    rw [show 5 + (r 77 - 5) = r 77 by omega, if_pos (smF hI), h]
    dsimp only
    cases e : brM r (r 77 - 5) with
    | none => exact ⟨_, rfl⟩
    | some q =>
      dsimp only
      split
      · exact ⟨_, rfl⟩
      · exact ⟨_, rfl⟩
  have h2 := br_later h1 (15 - (r 77 - 5))
  rw [show r 77 - 5 + 1 + (15 - (r 77 - 5)) = 16 by omega] at h2
  exact h2
theorem b1I_no {r : RW} (hI : rI r) {q : Nat × Nat} (e : brM r 16 = some q) : ¬ b1I (brM r 16) = -1 := by
  rw [e]
  have := brM_le hI 16 (Nat.le_refl _) q e
  exact nI_m1 (by omega)
theorem bo_le (r : RW) : ∀ k, boM r k ≤ k := by
  intro k
  induction k with
  | zero => exact Nat.le_refl _
  | succ k ih => unfold boM; split <;> omega
/-- how many 4 are among the first k signs -/
def c4 (L : List Nat) : Nat → Nat
  | 0 => 0
  | k + 1 => c4 L k + (if L.getD k 0 = 4 then 1 else 0)
theorem c4_le (L : List Nat) : ∀ k, c4 L k ≤ k := by
  intro k
  induction k with
  | zero => exact Nat.le_refl _
  | succ k ih => unfold c4; split <;> omega
theorem c4_app (L M : List Nat) : ∀ k, c4 (L ++ M) (L.length + k) = c4 L L.length + c4 M k := by
  have h1 : ∀ k, k ≤ L.length → c4 (L ++ M) k = c4 L k := by
    intro k
    induction k with
    | zero => intro _; rfl
    | succ k ih =>
      intro hk
      unfold c4
      rw [ih (by omega), gD_lo (by omega)]
  intro k
  induction k with
  | zero => rw [Nat.add_zero, h1 _ (Nat.le_refl _)]; rfl
  | succ k ih =>
    have e : c4 (L ++ M) (L.length + (k + 1)) = c4 (L ++ M) (L.length + k) + (if (L ++ M).getD (L.length + k) 0 = 4 then 1 else 0) := rfl
    have e2 : c4 M (k + 1) = c4 M k + (if M.getD k 0 = 4 then 1 else 0) := rfl
    rw [e, ih, gD_hi, e2]; omega
theorem c4_none {L : List Nat} (h : ∀ g ∈ L, g ≠ 4) : ∀ k, k ≤ L.length → c4 L k = 0 := by
  intro k
  induction k with
  | zero => intro _; rfl
  | succ k ih =>
    intro hk
    unfold c4
    rw [ih (by omega), if_neg]
    have hm : L.getD k 0 ∈ L := by
      rw [List.getD_eq_getElem?_getD, List.getElem?_eq_getElem (by omega), Option.getD_some]
      exact List.getElem_mem _
    exact h _ hm
theorem crsM_no4 (x y u v d : Nat) : ∀ k c w, ∀ g ∈ crsM x y u v d k c w, g ≠ 4 := by
  intro k
  induction k with
  | zero => intro c w g hg; cases hg
  | succ k ih =>
    intro c w g hg
    unfold crsM at hg
    split at hg
    · rcases List.mem_cons.mp hg with rfl | hg
      · unfold hsM; split <;> omega
      · exact ih _ _ g hg
    · rcases List.mem_cons.mp hg with rfl | hg
      · unfold vsM; split <;> omega
      · exact ih _ _ g hg
theorem segM_no4 (r : RW) (f d s : Nat) : ∀ k, ∀ g ∈ segM r f d s k, g ≠ 4 := by
  intro k
  induction k with
  | zero => intro g hg; cases hg
  | succ k ih =>
    intro g hg
    unfold segM at hg
    rcases List.mem_append.mp hg with hg | hg
    · exact ih g hg
    · split at hg
      · cases hg
      · exact crsM_no4 _ _ _ _ _ _ _ _ g hg
theorem sgM_c4 (r : RW) (f d : Nat) : ∀ s, c4 (sgM r f d s) (sgM r f d s).length = s - 1 := by
  intro s
  induction s with
  | zero => rfl
  | succ s ih =>
    unfold sgM
    rw [List.length_append, c4_app, c4_none (segM_no4 r f d s _) _ (Nat.le_refl _), List.length_append, c4_app, ih]
    by_cases z : s = 0
    · subst z; rfl
    · rw [if_neg z]
      show s - 1 + 1 + 0 = s + 1 - 1
      omega
theorem sigM_c4 (r : RW) : c4 (sigM r 0 (r 77)) (sigM r 0 (r 77)).length = r 0 - 1 := sgM_c4 r 0 (r 77) (r 0)
end XPMATH
