/-! PURE, 4: the distance -/
section XPURE4
def alM (a : Nat) : Nat := if a = 4 then 3 else 2
def inM (a b : Nat) : Nat := if a = b then 0 else if a = 4 then 5 else if b = 4 then 5 else if ad a b = 2 then 3 else 2
theorem alM_le (a : Nat) : alM a ≤ 3 := by unfold alM; split <;> omega
theorem alM_ge (a : Nat) : 2 ≤ alM a := by unfold alM; split <;> omega
theorem inM_le (a b : Nat) : inM a b ≤ 5 := by unfold inM; (repeat' split) <;> omega
theorem alone_nI {a : Nat} (ha : a < 2 ^ 30) : fX7_alone (nI a) = nI (alM a) := by
  unfold fX7_alone alM
  by_cases h : a = 4
  · rw [if_pos (by rw [h]; rfl), if_pos h]; rfl
  · rw [if_neg (fun (q : nI a = 4) => h ((nI_eq (a := a) (b := 4) (by omega) (by omega)).mp q)), if_neg h]; rfl
theorem costAlone_nI {a : Nat} (ha : a < 2 ^ 30) : fX2_costAlone (nI a) = nI (alM a) := alone_nI ha
theorem instead_nI {a b : Nat} (ha : a < 2 ^ 30) (hb : b < 2 ^ 30) : fX7_instead (nI a) (nI b) = nI (inM a b) := by
  unfold fX7_instead inM
  by_cases h : a = b
  · rw [if_pos (by rw [h]), if_pos h]; rfl
  · rw [if_neg (fun q => h ((nI_eq (by omega) (by omega)).mp q)), if_neg h]
    by_cases h1 : a = 4
    · rw [if_pos (by rw [h1]; rfl), if_pos h1]; rfl
    · rw [if_neg (fun (q : nI a = 4) => h1 ((nI_eq (a := a) (b := 4) (by omega) (by omega)).mp q)), if_neg h1]
      by_cases h2 : b = 4
      · rw [if_pos (by rw [h2]; rfl), if_pos h2]; rfl
      · rw [if_neg (fun (q : nI b = 4) => h2 ((nI_eq (a := b) (b := 4) (by omega) (by omega)).mp q)), if_neg h2, size_nI ha hb]
        by_cases h3 : ad a b = 2
        · rw [if_pos (by rw [h3]; rfl), if_pos h3]; rfl
        · rw [if_neg (fun (q : nI (ad a b) = 2) => h3 ((nI_eq (a := ad a b) (b := 2) (by unfold ad; omega) (by omega)).mp q)), if_neg h3]; rfl
theorem costInstead_nI {a b : Nat} (ha : a < 2 ^ 30) (hb : b < 2 ^ 30) : fX2_costInstead (nI a) (nI b) = nI (inM a b) := by
  have e : fX2_costInstead (nI a) (nI b) = fX7_instead (nI a) (nI b) := by
    unfold fX2_costInstead fX7_instead
    rw [xabs_nI ha hb, size_nI ha hb]
  rw [e, instead_nI ha hb]
theorem least_nI {a b : Nat} (ha : a < 2 ^ 31) (hb : b < 2 ^ 31) : fX7_least (nI a) (nI b) = nI (min a b) := by
  unfold fX7_least
  by_cases h : b ≤ a
  · rw [if_pos (nI_le h ha), Nat.min_eq_right h]
  · rw [if_neg (nI_ge (by omega) hb), Nat.min_eq_left (by omega)]
theorem xmin_nI2 {a b : Nat} (ha : a < 2 ^ 31) (hb : b < 2 ^ 31) : xmin (nI a) (nI b) = nI (min a b) := xmin_nI ha hb
/-- row by row: what it costs to make the one of the other -/
def d0M (b : Nat → Nat) : Nat → Nat
  | 0 => 0
  | j + 1 => d0M b j + alM (b j)
def drM (b prev : Nat → Nat) (ai : Nat) : Nat → Nat
  | 0 => prev 0 + alM ai
  | j + 1 => min (min (prev (j + 1) + alM ai) (drM b prev ai j + alM (b j))) (prev j + inM ai (b j))
def dM (a b : Nat → Nat) : Nat → Nat → Nat
  | 0 => d0M b
  | i + 1 => drM b (dM a b i) (a i)
theorem d0M_le (b : Nat → Nat) : ∀ j, d0M b j ≤ 3 * j := by
  intro j
  induction j with
  | zero => exact Nat.le_refl _
  | succ j ih => have := alM_le (b j); unfold d0M; omega
theorem dM_le (a b : Nat → Nat) : ∀ i j, dM a b i j ≤ 3 * (i + j) := by
  intro i
  induction i with
  | zero => intro j; have := d0M_le b j; unfold dM; omega
  | succ i ih =>
    intro j
    unfold dM
    induction j with
    | zero => have := ih 0; have := alM_le (a i); unfold drM; omega
    | succ j ih2 => have := ih (j + 1); have := alM_le (a i); unfold drM; omega
def sgF (L : List Nat) (j : Nat) : Nat := L.getD j 0
def dsM (A B : List Nat) : Nat := dM (sgF A) (sgF B) A.length B.length
theorem dsM_le (A B : List Nat) : dsM A B ≤ 3 * (A.length + B.length) := dM_le ..
theorem dist_store {i j : Nat} (hi : i ≤ 40) (hj : j ≤ 40) (v : Int32) (cs : Nat → Int32) : fX7_distance_J10_176 (nI i) (nI j) v cs = some (.inl (nI (j + 1), upd cs (41 * i + j) v)) := by
  unfold fX7_distance_J10_176
  rw [show (41 : Int32) * nI i + nI j = nI (41 * i + j) from by rw [show (41 : Int32) = nI 41 from rfl, pk_mul, nI_add], gk (by omega) (by omega), b1_so, nI_clamp (by omega), nI_1]
theorem dist_body {a b : Nat → Nat} {one two cs : Nat → Int32} {n m i j : Nat} (hn : n ≤ 40) (hm : m ≤ 40) (hi : i ≤ n) (hj : j ≤ m) (h1 : ∀ k, k < n → one k = nI (a k) ∧ a k ≤ 4) (h2 : ∀ k, k < m → two k = nI (b k) ∧ b k ≤ 4)
    (hA : 0 < i → ∀ k, k ≤ m → cs (41 * (i - 1) + k) = nI (dM a b (i - 1) k)) (hB : 0 < j → cs (41 * i + (j - 1)) = nI (dM a b i (j - 1))) :
    fX7_distance_L10 one two (nI m) (nI i) (nI j) cs = some (.inl (nI (j + 1), upd cs (41 * i + j) (nI (dM a b i j)))) := by
  have i1 : nI i - 1 = nI (i - 1) ∨ i = 0 := by
    by_cases q : i = 0
    · exact Or.inr q
    · exact Or.inl (by rw [show (1 : Int32) = nI 1 from rfl, pk_sub (by omega)])
  have j1 : nI j - 1 = nI (j - 1) ∨ j = 0 := by
    by_cases q : j = 0
    · exact Or.inr q
    · exact Or.inl (by rw [show (1 : Int32) = nI 1 from rfl, pk_sub (by omega)])
  have c41 : (41 : Int32) = nI 41 := rfl
  unfold fX7_distance_L10
  rw [if_neg (show ¬ nI m < nI j from nI_nlt hj (by omega))]
  by_cases qi : i = 0
  · subst qi
    rw [if_pos (show nI 0 = 0 from rfl)]
    by_cases qj : j = 0
    · subst qj
      rw [if_pos (show nI 0 = 0 from rfl)]
      unfold fX7_distance_J10_32 fX7_distance_J10_74 fX7_distance_J10_118
      rw [if_pos (n00), if_pos (n00), if_pos (n00), dist_store (by omega) (by omega)]
      rfl
    · have j2 : nI j - 1 = nI (j - 1) := j1.resolve_right qj
      obtain ⟨j', rfl⟩ : ∃ z, j = z + 1 := ⟨j - 1, by omega⟩
      rw [if_neg (show ¬ nI (j' + 1) = 0 from nI_ne0 (by omega) (by omega))]
      unfold fX7_distance_J10_32 fX7_distance_J10_74 fX7_distance_J10_118
      have hb := hB (by omega)
      obtain ⟨t1, t2⟩ := h2 j' (by omega)
      have al := alM_le (b j')
      have dl := d0M_le b j'
      rw [Nat.add_sub_cancel] at hb
      have hb : cs (41 * 0 + j') = nI (d0M b j') := hb
      rw [if_pos (n00), if_neg (show ¬ nI (j' + 1) ≤ 0 from nI_nle (by omega) (by omega)), c41, pk_mul, nI_add, show nI (41 * 0 + (j' + 1)) - 1 = nI (41 * 0 + j') from nI_pred (41 * 0 + j'),
        gk (by omega) (by omega), j2, Nat.add_sub_cancel, gk (by omega) (by omega), nI_clamp (by omega), nI_clamp (by omega), hb, t1, alone_nI (by omega), nI_add, show (1000 : Int32) = nI 1000 from rfl, least_nI (by omega) (by omega),
        if_pos (n00), dist_store (by omega) (by omega), Nat.min_eq_right (by omega)]
      rfl
  · have i2 : nI i - 1 = nI (i - 1) := i1.resolve_right qi
    obtain ⟨i', rfl⟩ : ∃ z, i = z + 1 := ⟨i - 1, by omega⟩
    obtain ⟨o1, o2⟩ := h1 i' (by omega)
    have al := alM_le (a i')
    rw [if_neg (show ¬ nI (i' + 1) = 0 from nI_ne0 (by omega) (by omega))]
    unfold fX7_distance_J10_32
    have ha := hA (by omega)
    rw [Nat.add_sub_cancel] at ha i2
    have dl := dM_le a b i' j
    rw [if_neg (show ¬ nI (i' + 1) ≤ 0 from nI_nle (by omega) (by omega)), i2, c41, pk_mul, nI_add, gk (by omega) (by omega), gk (by omega) (by omega), nI_clamp (by omega), nI_clamp (by omega), ha j hj, o1, alone_nI (by omega), nI_add, show (1000 : Int32) = nI 1000 from rfl, least_nI (by omega) (by omega), Nat.min_eq_right (by omega)]
    unfold fX7_distance_J10_74
    by_cases qj : j = 0
    · subst qj
      rw [if_pos (n00)]
      unfold fX7_distance_J10_118
      rw [if_neg (show ¬ nI (i' + 1) ≤ 0 from nI_nle (by omega) (by omega)), if_pos (n00), dist_store (by omega) (by omega)]
      rfl
    · have j2 : nI j - 1 = nI (j - 1) := j1.resolve_right qj
      obtain ⟨j', rfl⟩ : ∃ z, j = z + 1 := ⟨j - 1, by omega⟩
      rw [Nat.add_sub_cancel] at j2
      have hb := hB (by omega)
      rw [Nat.add_sub_cancel] at hb
      obtain ⟨t1, t2⟩ := h2 j' (by omega)
      have bl := alM_le (b j')
      have il := inM_le (a i') (b j')
      have dl2 := dM_le a b (i' + 1) j'
      have dl3 := dM_le a b i' j'
      rw [if_neg (show ¬ nI (j' + 1) ≤ 0 from nI_nle (by omega) (by omega)), c41, pk_mul, nI_add, show nI (41 * (i' + 1) + (j' + 1)) - 1 = nI (41 * (i' + 1) + j') from nI_pred (41 * (i' + 1) + j'),
        gk (by omega) (by omega), j2, gk (by omega) (by omega), nI_clamp (by omega), nI_clamp (by omega), hb, t1, alone_nI (by omega), nI_add, least_nI (by omega) (by omega)]
      unfold fX7_distance_J10_118
      rw [if_neg (show ¬ nI (i' + 1) ≤ 0 from nI_nle (by omega) (by omega)), if_neg (show ¬ nI (j' + 1) ≤ 0 from nI_nle (by omega) (by omega)), i2, c41, pk_mul, nI_add, show nI (41 * i' + (j' + 1)) - 1 = nI (41 * i' + j') from nI_pred (41 * i' + j'),
        gk (by omega) (by omega), gk (by omega) (by omega), j2, gk (by omega) (by omega), nI_clamp (by omega), nI_clamp (by omega), nI_clamp (by omega), ha j' (by omega), o1, t1, instead_nI (by omega) (by omega), nI_add, least_nI (by omega) (by omega), dist_store (by omega) (by omega)]
      rfl
theorem dist_inner {a b : Nat → Nat} {one two : Nat → Int32} {n m i : Nat} (hn : n ≤ 40) (hm : m ≤ 40) (hi : i ≤ n) (h1 : ∀ k, k < n → one k = nI (a k) ∧ a k ≤ 4) (h2 : ∀ k, k < m → two k = nI (b k) ∧ b k ≤ 4) : ∀ (t j : Nat) (cs : Nat → Int32) (M : Nat), t + j = m + 1 → t < M →
    (∀ i', i' < i → ∀ k, k ≤ m → cs (41 * i' + k) = nI (dM a b i' k)) → (∀ k, k < j → cs (41 * i + k) = nI (dM a b i k)) →
    ∃ cs', loopF (fun (z : Int32 × (Nat → Int32)) => fX7_distance_L10 one two (nI m) (nI i) z.1 z.2) M (nI j, cs) = some cs' ∧ ∀ i', i' < i + 1 → ∀ k, k ≤ m → cs' (41 * i' + k) = nI (dM a b i' k) := by
  intro t
  induction t with
  | zero =>
    intro j cs M ht hM hA hB
    obtain ⟨M, rfl⟩ : ∃ M', M = M' + 1 := ⟨M - 1, by omega⟩
    refine ⟨cs, loopF_out ?_, fun i' h3 k hk => ?_⟩
    · show fX7_distance_L10 one two (nI m) (nI i) (nI j) cs = _
      unfold fX7_distance_L10
      rw [if_pos (nI_lt (by omega) (by omega))]
    · by_cases q : i' = i
      · subst q; exact hB k (by omega)
      · exact hA i' (by omega) k hk
  | succ t ih =>
    intro j cs M ht hM hA hB
    obtain ⟨M, rfl⟩ : ∃ M', M = M' + 1 := ⟨M - 1, by omega⟩
    have hb := dist_body (cs := cs) hn hm hi (j := j) (by omega) h1 h2 (fun q k hk => hA (i - 1) (by omega) k hk) (fun q => hB (j - 1) (by omega))
    rw [loopF_go (s' := (nI (j + 1), upd cs (41 * i + j) (nI (dM a b i j)))) hb]
    refine ih (j + 1) _ M (by omega) (by omega) (fun i' h3 k hk => ?_) (fun k hk => ?_)
    · rw [pk_un (by omega)]; exact hA i' h3 k hk
    · by_cases q : k = j
      · subst q; exact pk_us
      · rw [pk_un (by omega)]; exact hB k (by omega)
theorem dist_outer {a b : Nat → Nat} {one two : Nat → Int32} {n m : Nat} (hn : n ≤ 40) (hm : m ≤ 40) (h1 : ∀ k, k < n → one k = nI (a k) ∧ a k ≤ 4) (h2 : ∀ k, k < m → two k = nI (b k) ∧ b k ≤ 4) : ∀ (t i : Nat) (cs : Nat → Int32) (M : Nat), t + i = n + 1 → t < M →
    (∀ i', i' < i → ∀ k, k ≤ m → cs (41 * i' + k) = nI (dM a b i' k)) →
    ∃ cs', loopF (fun (z : Int32 × (Nat → Int32)) => fX7_distance_L2 one two (nI n) (nI m) z.1 z.2) M (nI i, cs) = some cs' ∧ cs' (41 * n + m) = nI (dM a b n m) := by
  intro t
  induction t with
  | zero =>
    intro i cs M ht hM hA
    obtain ⟨M, rfl⟩ : ∃ M', M = M' + 1 := ⟨M - 1, by omega⟩
    refine ⟨cs, loopF_out ?_, hA n (by omega) m (Nat.le_refl _)⟩
    show fX7_distance_L2 one two (nI n) (nI m) (nI i) cs = _
    unfold fX7_distance_L2
    rw [if_pos (nI_lt (by omega) (by omega))]
  | succ t ih =>
    intro i cs M ht hM hA
    obtain ⟨M, rfl⟩ : ∃ M', M = M' + 1 := ⟨M - 1, by omega⟩
    obtain ⟨cs', e, ok⟩ := dist_inner (i := i) hn hm (by omega) h1 h2 (m + 1) 0 cs FUEL (by omega) (by unfold FUEL; omega) hA (fun k hk => absurd hk (Nat.not_lt_zero _))
    have hb : fX7_distance_L2 one two (nI n) (nI m) (nI i) cs = some (.inl (nI (i + 1), cs')) := by
      unfold fX7_distance_L2
      rw [if_neg (nI_nlt (by omega) (by omega)), show ((0 : Int32), cs) = (nI 0, cs) from rfl, e, b1_so, nI_1]
    rw [loopF_go (s' := (nI (i + 1), cs')) hb]
    exact ih (i + 1) cs' M (by omega) (by omega) ok
/-- THE DISTANCE of two signatures that are laid -/
theorem dist_ok {A B : List Nat} {one two : Nat → Int32} (hA : A.length ≤ 40) (hB : B.length ≤ 40) (h1 : ∀ k, k < A.length → one k = nI (A.getD k 0) ∧ A.getD k 0 ≤ 4) (h2 : ∀ k, k < B.length → two k = nI (B.getD k 0) ∧ B.getD k 0 ≤ 4) (cs : Nat → Int32) :
    ∃ cs', fX7_distance (nI A.length) (nI B.length) cs one two = some (nI (dsM A B), cs') := by
  obtain ⟨cs', e, ok⟩ := dist_outer (a := sgF A) (b := sgF B) hA hB h1 h2 (A.length + 1) 0 cs FUEL (by omega) (by unfold FUEL; omega) (fun i' h => absurd h (Nat.not_lt_zero _))
  refine ⟨cs', ?_⟩
  unfold fX7_distance
  rw [show ((0 : Int32), cs) = (nI 0, cs) from rfl, e, b1_so, show (41 : Int32) * nI A.length + nI B.length = nI (41 * A.length + B.length) from by rw [show (41 : Int32) = nI 41 from rfl, pk_mul, nI_add], gk (by omega) (by omega), nI_clamp (by omega), ok]
  rfl
end XPURE4
