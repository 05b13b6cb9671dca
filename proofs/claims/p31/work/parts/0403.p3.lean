/-! PURE, 3: the model's signature -/
section XPURE3
def rowOk (N : Nat) (c : Nat → Int32) (r : Nat → Nat) : Prop := ∀ j, j < N → c j = nI (r j)
def pX (r : Nat → Nat) (f s i : Nat) : Nat := r (f + 4 + 24 * s + 2 * i)
def pY (r : Nat → Nat) (f s i : Nat) : Nat := r (f + 4 + 24 * s + 2 * i + 1)
/-- a figure's numbers are in their ranges -/
def figOk (r : Nat → Nat) (f : Nat) : Prop := r f ≤ 3 ∧ (∀ s, s < 3 → r (f + 1 + s) ≤ 12) ∧ (∀ j, j < 72 → r (f + 4 + j) ≤ 60)
theorem figOk.x {r : Nat → Nat} {f s i : Nat} (h : figOk r f) (hs : s < 3) (hi : i < 12) : pX r f s i ≤ 60 := by
  have := h.2.2 (24 * s + 2 * i) (by omega)
  rw [show f + 4 + (24 * s + 2 * i) = f + 4 + 24 * s + 2 * i by omega] at this
  exact this
theorem figOk.y {r : Nat → Nat} {f s i : Nat} (h : figOk r f) (hs : s < 3) (hi : i < 12) : pY r f s i ≤ 60 := by
  have := h.2.2 (24 * s + 2 * i + 1) (by omega)
  rw [show f + 4 + (24 * s + 2 * i + 1) = f + 4 + 24 * s + 2 * i + 1 by omega] at this
  exact this
/-- the signs among the first n points of a stroke -/
def segM (r : Nat → Nat) (f d s : Nat) : Nat → List Nat
  | 0 => []
  | k + 1 => segM r f d s k ++ (if k = 0 then [] else crossM (pX r f s (k - 1)) (pY r f s (k - 1)) (pX r f s k) (pY r f s k) d)
/-- the signs of the first n strokes -/
def sgM (r : Nat → Nat) (f d : Nat) : Nat → List Nat
  | 0 => []
  | s + 1 => (sgM r f d s ++ (if s = 0 then [] else [4])) ++ segM r f d s (r (f + 1 + s))
def sigM (r : Nat → Nat) (f d : Nat) : List Nat := sgM r f d (r f)
theorem seg_loop {N N3 f d s : Nat} {c : Nat → Int32} {r : Nat → Nat} (hr : rowOk N c r) (hf : figOk r f) (hfN : f + 76 ≤ N) (hN : N < 2 ^ 30) (hN3 : 40 ≤ N3) (hN4 : N3 < 2 ^ 31) (hd : 5 ≤ d) (hd2 : d ≤ 20) (hs : s < 3) (base : List Nat) : ∀ (m k : Nat) (n : Int32) (arr : Nat → Int32) (M : Nat), m + k = max (r (f + 1 + s)) k → 1 ≤ k → k ≤ 13 → m < M → sgOk (base ++ segM r f d s k) n arr →
    ∃ n' arr', loopF (fun (z : Int32 × Int32 × (Nat → Int32)) => fX7_signature_L36 N N3 c (nI f) (nI d) (nI s) z.1 z.2.1 z.2.2) M (n, nI k, arr) = some (n', arr') ∧ sgOk (base ++ segM r f d s (max (r (f + 1 + s)) k)) n' arr' := by
  have hlen := hf.2.1 s hs
  have e1 : nI f + 1 + nI s = nI (f + 1 + s) := by rw [nI_1, nI_add]
  intro m
  induction m with
  | zero =>
    intro k n arr M hm hk hk13 hM h
    obtain ⟨M, rfl⟩ : ∃ M', M = M' + 1 := ⟨M - 1, by omega⟩
    refine ⟨n, arr, loopF_out ?_, by rw [← hm, Nat.zero_add]; exact h⟩
    show fX7_signature_L36 N N3 c (nI f) (nI d) (nI s) n (nI k) arr = _
    unfold fX7_signature_L36
    rw [e1, gk (by omega) (by omega), nI_clamp (by omega), hr _ (by omega), if_pos]
    exact nI_le (by omega) (by omega)
  | succ m ih =>
    intro k n arr M hm hk hk13 hM h
    obtain ⟨M, rfl⟩ : ∃ M', M = M' + 1 := ⟨M - 1, by omega⟩
    have hk12 : k < r (f + 1 + s) := by omega
    obtain ⟨n', arr', e, ok⟩ := cross_ok (hf.x hs (i := k - 1) (by omega)) (hf.y hs (i := k - 1) (by omega)) (hf.x hs (i := k) (by omega)) (hf.y hs (i := k) (by omega)) hd hd2 hN3 hN4 h
    have hb : fX7_signature_L36 N N3 c (nI f) (nI d) (nI s) n (nI k) arr = some (.inl (n', nI (k + 1), arr')) := by
      unfold fX7_signature_L36
      have e2 : nI f + 4 + 24 * nI s + 2 * nI k = nI (f + 4 + 24 * s + 2 * k) := by
        rw [show (4 : Int32) = nI 4 from rfl, show (24 : Int32) = nI 24 from rfl, show (2 : Int32) = nI 2 from rfl, pk_mul, pk_mul, nI_add, nI_add, nI_add]
      have e3 : nI (f + 4 + 24 * s + 2 * k) - 2 = nI (f + 4 + 24 * s + 2 * (k - 1)) := by
        rw [show (2 : Int32) = nI 2 from rfl, pk_sub (by omega)]; congr 1; omega
      have e4 : nI (f + 4 + 24 * s + 2 * k) - 1 = nI (f + 4 + 24 * s + 2 * (k - 1) + 1) := by
        rw [show (1 : Int32) = nI 1 from rfl, pk_sub (by omega)]; congr 1; omega
      rw [e1, gk (by omega) (by omega), nI_clamp (by omega), hr _ (by omega), if_neg (nI_ge hk12 (by omega)), b1_so, e2, e3, e4, nI_1, gk (by omega) (by omega), gk (by omega) (by omega), gk (by omega) (by omega), gk (by omega) (by omega),
        nI_clamp (by omega), nI_clamp (by omega), nI_clamp (by omega), nI_clamp (by omega), hr _ (by omega), hr _ (by omega), hr _ (by omega), hr _ (by omega)]
      have e5 : fX7_cross n (nI (r (f + 4 + 24 * s + 2 * (k - 1)))) (nI (r (f + 4 + 24 * s + 2 * (k - 1) + 1))) (nI (r (f + 4 + 24 * s + 2 * k))) (nI (r (f + 4 + 24 * s + 2 * k + 1))) (nI d) N3 arr = some (n', arr') := e
      rw [e5, b2_so, nI_1]
    rw [loopF_go (s' := (n', nI (k + 1), arr')) hb]
    have ok2 : sgOk (base ++ segM r f d s (k + 1)) n' arr' := by
      rw [List.append_assoc] at ok
      unfold segM
      rw [if_neg (by omega)]
      exact ok
    obtain ⟨n2, arr2, g1, g2⟩ := ih (k + 1) n' arr' M (by omega) (by omega) (by omega) (by omega) ok2
    refine ⟨n2, arr2, g1, ?_⟩
    rw [show max (r (f + 1 + s)) k = max (r (f + 1 + s)) (k + 1) by omega]
    exact g2
theorem seg_all {N N3 f d s : Nat} {c : Nat → Int32} {r : Nat → Nat} (hr : rowOk N c r) (hf : figOk r f) (hfN : f + 76 ≤ N) (hN : N < 2 ^ 30) (hN3 : 40 ≤ N3) (hN4 : N3 < 2 ^ 31) (hd : 5 ≤ d) (hd2 : d ≤ 20) (hs : s < 3) {base : List Nat} {n : Int32} {arr : Nat → Int32} (h : sgOk base n arr) :
    ∃ n' arr', loopF (fun (z : Int32 × Int32 × (Nat → Int32)) => fX7_signature_L36 N N3 c (nI f) (nI d) (nI s) z.1 z.2.1 z.2.2) FUEL (n, (1 : Int32), arr) = some (n', arr') ∧ sgOk (base ++ segM r f d s (r (f + 1 + s))) n' arr' := by
  have hlen := hf.2.1 s hs
  obtain ⟨n', arr', e, ok⟩ := seg_loop hr hf hfN hN hN3 hN4 hd hd2 hs base (max (r (f + 1 + s)) 1 - 1) 1 n arr FUEL (by omega) (Nat.le_refl _) (by omega) (by unfold FUEL; omega) (by
    have e0 : segM r f d s 1 = [] := by unfold segM; rw [if_pos rfl]; unfold segM; rfl
    rw [e0, List.append_nil]; exact h)
  refine ⟨n', arr', e, ?_⟩
  by_cases q : r (f + 1 + s) = 0
  · rw [q] at ok ⊢
    have e0 : segM r f d s 1 = segM r f d s 0 := by
      show segM r f d s 0 ++ (if 0 = 0 then [] else _) = _
      rw [if_pos rfl, List.append_nil]
    rw [← e0]; exact ok
  · rw [show max (r (f + 1 + s)) 1 = r (f + 1 + s) by omega] at ok
    exact ok
theorem sig_loop {N N3 f d : Nat} {c : Nat → Int32} {r : Nat → Nat} (hr : rowOk N c r) (hf : figOk r f) (hfN : f + 76 ≤ N) (hN : N < 2 ^ 30) (hN3 : 40 ≤ N3) (hN4 : N3 < 2 ^ 31) (hd : 5 ≤ d) (hd2 : d ≤ 20) : ∀ (m s : Nat) (n : Int32) (arr : Nat → Int32) (M : Nat), m + s = r f → m < M → sgOk (sgM r f d s) n arr →
    ∃ n' arr', loopF (fun (z : Int32 × Int32 × (Nat → Int32)) => fX7_signature_L6 N N3 c (nI f) (nI d) z.1 z.2.1 z.2.2) M (n, nI s, arr) = some (n', arr') ∧ sgOk (sigM r f d) n' arr' := by
  have h3 := hf.1
  intro m
  induction m with
  | zero =>
    intro s n arr M hm hM h
    obtain ⟨M, rfl⟩ : ∃ M', M = M' + 1 := ⟨M - 1, by omega⟩
    refine ⟨n, arr, loopF_out ?_, by unfold sigM; rw [← hm, Nat.zero_add]; exact h⟩
    show fX7_signature_L6 N N3 c (nI f) (nI d) n (nI s) arr = _
    unfold fX7_signature_L6
    rw [gk (by omega) (by omega), nI_clamp (by omega), hr _ (by omega), if_pos (nI_le (by omega) (by omega))]
  | succ m ih =>
    intro s n arr M hm hM h
    obtain ⟨M, rfl⟩ : ∃ M', M = M' + 1 := ⟨M - 1, by omega⟩
    have hb : ∃ n' arr', fX7_signature_L6 N N3 c (nI f) (nI d) n (nI s) arr = some (.inl (n', nI (s + 1), arr')) ∧ sgOk (sgM r f d (s + 1)) n' arr' := by
      unfold fX7_signature_L6
      rw [gk (by omega) (by omega), nI_clamp (by omega), hr _ (by omega), if_neg (nI_ge (by omega) (by omega))]
      by_cases q : s = 0
      · subst q
        rw [if_pos (n00)]
        obtain ⟨n', arr', e, ok⟩ := seg_all hr hf hfN hN hN3 hN4 hd hd2 (s := 0) (by omega) h
        refine ⟨n', arr', by rw [e, b2_so, nI_1], ?_⟩
        unfold sgM
        rw [if_pos rfl, List.append_nil]
        exact ok
      · rw [if_neg (show ¬ nI s ≤ 0 from nI_nle (by omega) (by omega))]
        obtain ⟨n1, arr1, e1, ok1⟩ := next_ok h hN3 hN4 4
        obtain ⟨n', arr', e, ok⟩ := seg_all hr hf hfN hN hN3 hN4 hd hd2 (s := s) (by omega) ok1
        have e1 : fX7_next n (4 : Int32) N3 arr = some (n1, arr1) := e1
        refine ⟨n', arr', by rw [e1, b2_so, e, b2_so, nI_1], ?_⟩
        unfold sgM
        rw [if_neg q]
        exact ok
    obtain ⟨n', arr', e, ok⟩ := hb
    rw [loopF_go (s' := (n', nI (s + 1), arr')) e]
    exact ih (s + 1) n' arr' M (by omega) (by omega) ok
/-- THE SIGNATURE: its length (41 if it is longer than 40), and its signs -/
theorem sig_ok {N N3 f d : Nat} {c : Nat → Int32} {r : Nat → Nat} (hr : rowOk N c r) (hf : figOk r f) (hfN : f + 76 ≤ N) (hN : N < 2 ^ 30) (hN3 : 40 ≤ N3) (hN4 : N3 < 2 ^ 31) (hd : 5 ≤ d) (hd2 : d ≤ 20) (arr : Nat → Int32) :
    ∃ arr', fX7_signature (nI f) (nI d) N N3 c arr = some (nI (min (sigM r f d).length 41), arr') ∧ ∀ j, j < (sigM r f d).length → j < 40 → arr' j = nI ((sigM r f d).getD j 0) := by
  have h3 := hf.1
  obtain ⟨n', arr', e, ok⟩ := sig_loop hr hf hfN hN hN3 hN4 hd hd2 (r f) 0 (nI 0) arr FUEL (by omega) (by unfold FUEL; omega) (sgOk_nil arr)
  obtain ⟨rfl, ok2⟩ := ok
  refine ⟨arr', ?_, ok2⟩
  unfold fX7_signature
  rw [show ((0 : Int32), (0 : Int32), arr) = (nI 0, nI 0, arr) from rfl, e]; rfl
end XPURE3
