/-! PURE, 5: reading a figure (the model's) -/
section XPURE5
theorem in64 (a b c : Int64) : fX7_in a b c = if b ≤ a ∧ a ≤ c then 1 else 0 := by
  unfold fX7_in
  by_cases h1 : a < b
  · rw [if_pos ((lg_cmp_lt a b).mpr h1), if_neg]
    intro h; exact absurd h.1 (Int64.not_le.mpr h1)
  · rw [if_neg (fun q => h1 ((lg_cmp_lt a b).mp q))]
    by_cases h2 : c < a
    · rw [if_pos ((lg_cmp_gt a c).mpr h2), if_neg]
      intro h; exact absurd h.2 (Int64.not_le.mpr h2)
    · rw [if_neg (fun q => h2 ((lg_cmp_gt a c).mp q)), if_pos ⟨Int64.not_lt.mp h1, Int64.not_lt.mp h2⟩]
theorem in_nI {k lo hi : Nat} (hk : k < 2 ^ 31) (hlo : lo < 2 ^ 31) (hhi : hi < 2 ^ 31) : fX7_in (nI k).toInt64 (lN lo) (lN hi) = if lo ≤ k ∧ k ≤ hi then 1 else 0 := by
  rw [in64, nI_l hk]
  by_cases h : lo ≤ k ∧ k ≤ hi
  · rw [if_pos h, if_pos ⟨(lN_le hlo hk).mpr h.1, (lN_le hk hhi).mpr h.2⟩]
  · rw [if_neg h, if_neg (fun q => h ⟨(lN_le hlo hk).mp q.1, (lN_le hk hhi).mp q.2⟩)]
theorem neg64 {x : Int32} (h : x < 0) : x.toInt64 < 0 := by
  rw [Int64.lt_iff_toInt_lt, Int32.toInt_toInt64]
  exact Int32.lt_iff_toInt_lt.mp h
theorem in_neg {x : Int32} {lo : Nat} {c : Int64} (h : x < 0) (hlo : lo < 2 ^ 31) : fX7_in x.toInt64 (lN lo) c = 0 := by
  rw [in64, if_neg]
  intro q
  have h1 := neg64 h
  have h2 : (0 : Int64) ≤ lN lo := (lN_le (a := 0) (by decide) hlo).mpr (Nat.zero_le _)
  exact absurd (Int64.le_trans h2 q.1) (Int64.not_le.mpr h1)
/-- an argument in its range, or not -/
theorem in_arg (x : Int32) (lo hi : Nat) (hlo : lo < 2 ^ 31) (hhi : hi < 2 ^ 31) : (fX7_in x.toInt64 (lN lo) (lN hi) = 1 ∧ ∃ k, x = nI k ∧ lo ≤ k ∧ k ≤ hi) ∨ (fX7_in x.toInt64 (lN lo) (lN hi) = 0 ∧ ∀ k, x = nI k → k < 2 ^ 31 → ¬ (lo ≤ k ∧ k ≤ hi)) := by
  by_cases h : x < 0
  · refine Or.inr ⟨in_neg h hlo, fun k e hk _ => ?_⟩
    rw [e] at h
    exact nI_pos hk h
  · obtain ⟨k, hk, rfl⟩ := nI_of h
    rw [in_nI hk hlo hhi]
    by_cases q : lo ≤ k ∧ k ≤ hi
    · rw [if_pos q]; exact Or.inl ⟨rfl, k, rfl, q⟩
    · rw [if_neg q]
      refine Or.inr ⟨rfl, fun j e hj => ?_⟩
      rw [(nI_eq hk hj).mp e] at q
      exact q
def atM (s : Nat) : Nat := 111 + 77 * s
theorem at_nI (s : Nat) : fX7_at (nI s) = nI (atM s) := by
  unfold fX7_at atM
  rw [show (111 : Int32) = nI 111 from rfl, show (77 : Int32) = nI 77 from rfl, pk_mul, nI_add]
theorem crsM_mem {x y u v d : Nat} : ∀ k c w, ∀ g ∈ crsM x y u v d k c w, g ≤ 4 := by
  intro k
  induction k with
  | zero => intro c w g h; cases h
  | succ k ih =>
    intro c w g h
    unfold crsM at h
    split at h
    · rcases List.mem_cons.mp h with rfl | h
      · unfold hsM; split <;> omega
      · exact ih _ _ g h
    · rcases List.mem_cons.mp h with rfl | h
      · unfold vsM; split <;> omega
      · exact ih _ _ g h
theorem segM_mem (r : Nat → Nat) (f d s : Nat) : ∀ k, ∀ g ∈ segM r f d s k, g ≤ 4 := by
  intro k
  induction k with
  | zero => intro g h; cases h
  | succ k ih =>
    intro g h
    unfold segM at h
    rcases List.mem_append.mp h with h | h
    · exact ih g h
    · split at h
      · cases h
      · exact crsM_mem _ _ _ g h
theorem sgM_mem (r : Nat → Nat) (f d : Nat) : ∀ k, ∀ g ∈ sgM r f d k, g ≤ 4 := by
  intro k
  induction k with
  | zero => intro g h; cases h
  | succ k ih =>
    intro g h
    unfold sgM at h
    rcases List.mem_append.mp h with h | h
    · rcases List.mem_append.mp h with h | h
      · exact ih g h
      · split at h
        · cases h
        · rw [List.mem_singleton.mp h]
          exact Nat.le_refl _
    · exact segM_mem r f d k _ g h
theorem gD_mem {L : List Nat} {k : Nat} (h : ∀ g ∈ L, g ≤ 4) (hk : k < L.length) : L.getD k 0 ≤ 4 := by
  rw [List.getD_eq_getElem?_getD, List.getElem?_eq_getElem hk]
  exact h _ (List.getElem_mem hk)
theorem sigM_le4 (r : Nat → Nat) (f d : Nat) {k : Nat} (hk : k < (sigM r f d).length) : (sigM r f d).getD k 0 ≤ 4 := gD_mem (sgM_mem r f d _) hk
/-- THE DISTANCE of a figure of one row and a sample of another -/
theorem distTo_ok {N f s d : Nat} {c c3 one two cs : Nat → Int32} {r r3 : Nat → Nat} (hr : rowOk N c r) (hr3 : rowOk 1343 c3 r3) (hf : figOk r f) (hf3 : figOk r3 (atM s)) (hfN : f + 76 ≤ N) (hN : N < 2 ^ 30) (hs : s < 16) (hd : 5 ≤ d) (hd2 : d ≤ 20) (l1 : (sigM r f d).length ≤ 40) (l2 : (sigM r3 (atM s) d).length ≤ 40) :
    ∃ one' two' cs', fX7_distanceTo (nI f) (nI s) (nI d) N 1343 c one c3 two cs = some (nI (dsM (sigM r f d) (sigM r3 (atM s) d)), one', two', cs') := by
  obtain ⟨one', e1, o1⟩ := sig_ok hr hf hfN hN (N3 := 41) (by omega) (by omega) hd hd2 one
  obtain ⟨two', e2, o2⟩ := sig_ok hr3 hf3 (by unfold atM; omega) (by omega) (N3 := 41) (by omega) (by omega) hd hd2 two
  rw [Nat.min_eq_left (by omega)] at e1 e2
  obtain ⟨cs', e3⟩ := dist_ok (one := one') (two := two') l1 l2 (fun k hk => ⟨o1 k hk (by omega), sigM_le4 r f d hk⟩) (fun k hk => ⟨o2 k hk (by omega), sigM_le4 r3 (atM s) d hk⟩) cs
  refine ⟨one', two', cs', ?_⟩
  unfold fX7_distanceTo
  rw [e1, b2_so, at_nI, e2, b2_so, e3, b2_so]
theorem distTo_same (f s d : Int32) (N : Nat) (c one two cs : Nat → Int32) : fX7_distanceTo_s f s d N c one two cs = fX7_distanceTo f s d N N c one c two cs := rfl
/-- the nearest of the first samples but b -/
def nrM (dist : Nat → Nat) (b : Nat) : Nat → Option (Nat × Nat)
  | 0 => none
  | s + 1 => if s = b then nrM dist b s else (match nrM dist b s with
    | none => some (s, dist s)
    | some p => if dist s < p.2 then some (s, dist s) else some p)
def oneI : Option (Nat × Nat) → Int32
  | none => -1
  | some p => nI p.1
def byI : Option (Nat × Nat) → Int32
  | none => -1
  | some p => nI p.2
theorem nrM_in (dist : Nat → Nat) (b : Nat) : ∀ K p, nrM dist b K = some p → p.1 < K ∧ p.1 ≠ b ∧ p.2 = dist p.1 := by
  intro K
  induction K with
  | zero => intro p h; cases h
  | succ K ih =>
    intro p h
    unfold nrM at h
    split at h
    · have := ih p h; omega
    · split at h
      · cases h; exact ⟨by omega, by assumption, rfl⟩
      · rename_i q hq
        split at h
        · cases h; exact ⟨by omega, by assumption, rfl⟩
        · cases h; have := ih p hq; omega
/-- whether a sample of another name is too near -/
def rvM (dist nm : Nat → Nat) (b i e mg : Nat) : Nat → Bool
  | 0 => false
  | s + 1 => rvM dist nm b i e mg s || (decide (s ≠ b) && (decide (nm s ≠ nm i) && decide (dist s < e + mg)))
def howM (dist nm : Nat → Nat) (b K lim mg : Nat) : Nat :=
  match nrM dist b K with
  | none => 2
  | some p => if lim < p.2 then 2 else if rvM dist nm b p.1 p.2 mg K = true then 1 else 0
theorem rvM_mono {dist nm : Nat → Nat} {b i e mg s : Nat} (h : rvM dist nm b i e mg s = true) : ∀ K, s ≤ K → rvM dist nm b i e mg K = true := by
  intro K hK
  induction K with
  | zero => rw [show s = 0 by omega] at h; exact h
  | succ K ih =>
    by_cases q : s = K + 1
    · rw [← q]; exact h
    · unfold rvM; rw [ih (by omega)]; rfl
end XPURE5
