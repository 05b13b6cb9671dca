/-! PURE, 2: the model's cross and signature -/
section XPURE2
theorem ad_le {a b n : Nat} (ha : a ≤ n) (hb : b ≤ n) : ad a b ≤ n := by unfold ad; omega
theorem ad_div {a b n : Nat} (d : Nat) (ha : a ≤ n) (hb : b ≤ n) : ad (a / d) (b / d) ≤ n := ad_le (Nat.le_trans (Nat.div_le_self _ _) ha) (Nat.le_trans (Nat.div_le_self _ _) hb)
theorem ways_le {x y u v d : Nat} (hx : x ≤ 60) (hy : y ≤ 60) (hu : u ≤ 60) (hv : v ≤ 60) : waysM x y u v d ≤ 120 := by
  have h1 := ad_div d hu hx
  have h2 := ad_div d hv hy
  unfold waysM; omega
theorem ad_comm (a b : Nat) : ad a b = ad b a := by unfold ad; omega
theorem cross_J1 {x u N : Nat} (hx : x ≤ 60) (hu : u ≤ 60) (hN : 40 ≤ N) (hN2 : N < 2 ^ 31) {Y V : Int32} {L : List Nat} {n : Int32} {arr : Nat → Int32} (h : sgOk L n arr) (c w : Nat) :
    ∃ n' arr', fX7_cross_J39_130 N (nI x) Y (nI u) V (nI c) (nI w) n 1 arr = some (.inl (nI (c + 1), nI w, n', arr')) ∧ sgOk (L ++ [hsM x u]) n' arr' := by
  obtain ⟨n', arr', e, ok⟩ := next_ok h hN hN2 (hsM x u)
  refine ⟨n', arr', ?_, ok⟩
  unfold fX7_cross_J39_130
  rw [if_neg (show ¬ (1 : Int32) = 0 from by decide)]
  unfold hsM at e
  by_cases q : x < u
  · rw [if_neg (nI_ge q (by omega))]
    rw [if_pos q] at e
    have e : fX7_next n (0 : Int32) N arr = some (n', arr') := e
    rw [e, b2_so, nI_1]
  · rw [if_pos (nI_le (by omega) (by omega))]
    rw [if_neg q] at e
    have e : fX7_next n (2 : Int32) N arr = some (n', arr') := e
    rw [e, b2_so, nI_1]
theorem cross_J0 {y v N : Nat} (hy : y ≤ 60) (hv : v ≤ 60) (hN : 40 ≤ N) (hN2 : N < 2 ^ 31) {X U : Int32} {L : List Nat} {n : Int32} {arr : Nat → Int32} (h : sgOk L n arr) (c w : Nat) :
    ∃ n' arr', fX7_cross_J39_130 N X (nI y) U (nI v) (nI c) (nI w) n 0 arr = some (.inl (nI c, nI (w + 1), n', arr')) ∧ sgOk (L ++ [vsM y v]) n' arr' := by
  obtain ⟨n', arr', e, ok⟩ := next_ok h hN hN2 (vsM y v)
  refine ⟨n', arr', ?_, ok⟩
  unfold fX7_cross_J39_130
  rw [if_pos rfl]
  unfold vsM at e
  by_cases q : y < v
  · rw [if_neg (nI_ge q (by omega))]
    rw [if_pos q] at e
    have e : fX7_next n (1 : Int32) N arr = some (n', arr') := e
    rw [e, b2_so, nI_1]
  · rw [if_pos (nI_le (by omega) (by omega))]
    rw [if_neg q] at e
    have e : fX7_next n (3 : Int32) N arr = some (n', arr') := e
    rw [e, b2_so, nI_1]
theorem cross_K1 {x y u v d N : Nat} (hx : x ≤ 60) (hy : y ≤ 60) (hu : u ≤ 60) (hv : v ≤ 60) (hd : 5 ≤ d) (hd2 : d ≤ 20) (hN : 40 ≤ N) (hN2 : N < 2 ^ 31) {L : List Nat} {n : Int32} {arr : Nat → Int32} (h : sgOk L n arr) {c w : Nat} (hc : c < ad (u / d) (x / d)) (hw : w ≤ ad (v / d) (y / d)) :
    ∃ c' w' sg n' arr', fX7_cross_J39_72 N (nI x) (nI y) (nI u) (nI v) (nI d) (nI (ad (v / d) (y / d))) (nI c) (nI w) n 1 arr = some (.inl (nI c', nI w', n', arr')) ∧ sgOk (L ++ [sg]) n' arr' ∧ ((colM x y u v d c w = true ∧ c' = c + 1 ∧ w' = w ∧ sg = hsM x u) ∨ (colM x y u v d c w = false ∧ w < ad (v / d) (y / d) ∧ c' = c ∧ w' = w + 1 ∧ sg = vsM y v)) := by
  have hR : ad (v / d) (y / d) ≤ 60 := ad_div d hv hy
  unfold fX7_cross_J39_72
  rw [if_neg (show ¬ (1 : Int32) = 0 from by decide)]
  by_cases q : w < ad (v / d) (y / d)
  · rw [if_neg (nI_ge q (by omega))]
    obtain ⟨e1, l1⟩ := ahead_ok (k := c) hx hu (by omega) hd2 hc
    obtain ⟨e2, l2⟩ := ahead_ok (k := w) hy hv (by omega) hd2 q
    rw [e1, b1_so, e2, b1_so, size_nI (by omega) (by omega), size_nI (by omega) (by omega), pk_mul, pk_mul]
    have m1 : aheadM x u d c * ad v y ≤ 3000 * 60 := Nat.mul_le_mul l1 (by unfold ad; omega)
    have m2 : aheadM y v d w * ad u x ≤ 3000 * 60 := Nat.mul_le_mul l2 (by unfold ad; omega)
    by_cases r : aheadM y v d w * ad u x < aheadM x u d c * ad v y
    · rw [if_pos (nI_lt r (by omega))]
      obtain ⟨n', arr', e, ok⟩ := cross_J0 (X := nI x) (U := nI u) hy hv hN hN2 h c w
      refine ⟨c, w + 1, vsM y v, n', arr', e, ok, Or.inr ⟨?_, q, rfl, rfl, rfl⟩⟩
      simp only [colM, hc, q, decide_true, Bool.not_true, Bool.false_or, Bool.true_and, decide_eq_false_iff_not]
      omega
    · rw [if_neg (nI_nlt (by omega) (by omega))]
      obtain ⟨n', arr', e, ok⟩ := cross_J1 (Y := nI y) (V := nI v) hx hu hN hN2 h c w
      refine ⟨c + 1, w, hsM x u, n', arr', e, ok, Or.inl ⟨?_, rfl, rfl, rfl⟩⟩
      simp only [colM, hc, q, decide_true, Bool.not_true, Bool.false_or, Bool.true_and, decide_eq_true_eq]
      omega
  · rw [if_pos (nI_le (by omega) (by omega))]
    obtain ⟨n', arr', e, ok⟩ := cross_J1 (Y := nI y) (V := nI v) hx hu hN hN2 h c w
    refine ⟨c + 1, w, hsM x u, n', arr', ?_, ok, Or.inl ⟨?_, rfl, rfl, rfl⟩⟩
    · unfold fX7_cross_J39_130 at e
      rw [if_neg (show ¬ (1 : Int32) = 0 from by decide)] at e
      exact e
    · simp only [colM, hc, q, decide_true, decide_false, Bool.not_false, Bool.true_or, Bool.and_self]
theorem cross_step {x y u v d N : Nat} (hx : x ≤ 60) (hy : y ≤ 60) (hu : u ≤ 60) (hv : v ≤ 60) (hd : 5 ≤ d) (hd2 : d ≤ 20) (hN : 40 ≤ N) (hN2 : N < 2 ^ 31) {L : List Nat} {n : Int32} {arr : Nat → Int32} (h : sgOk L n arr) (hL : L.length ≤ 40) {c w : Nat} (hc : c ≤ ad (u / d) (x / d)) (hw : w ≤ ad (v / d) (y / d)) (hcw : c < ad (u / d) (x / d) ∨ w < ad (v / d) (y / d)) :
    ∃ c' w' sg n' arr', fX7_cross_L39 N (nI x) (nI y) (nI u) (nI v) (nI d) (nI (ad (u / d) (x / d))) (nI (ad (v / d) (y / d))) (nI c) (nI w) n arr = some (.inl (nI c', nI w', n', arr')) ∧ sgOk (L ++ [sg]) n' arr' ∧ ((colM x y u v d c w = true ∧ c < ad (u / d) (x / d) ∧ c' = c + 1 ∧ w' = w ∧ sg = hsM x u) ∨ (colM x y u v d c w = false ∧ w < ad (v / d) (y / d) ∧ c' = c ∧ w' = w + 1 ∧ sg = vsM y v)) := by
  have hC : ad (u / d) (x / d) ≤ 60 := ad_div d hu hx
  have hR : ad (v / d) (y / d) ≤ 60 := ad_div d hv hy
  have hn : ¬ (40 : Int32) < n := by
    rw [h.1, show (40 : Int32) = nI 40 from rfl]
    exact nI_nlt (by omega) (by omega)
  unfold fX7_cross_L39
  by_cases q : c < ad (u / d) (x / d)
  · rw [if_pos (nI_lt q (by omega)), if_neg hn, if_neg (nI_ge q (by omega))]
    obtain ⟨c', w', sg, n', arr', e, ok, r⟩ := cross_K1 hx hy hu hv hd hd2 hN hN2 h q hw
    refine ⟨c', w', sg, n', arr', e, ok, ?_⟩
    rcases r with ⟨r1, r2⟩ | r
    · exact Or.inl ⟨r1, q, r2⟩
    · exact Or.inr r
  · have q2 : w < ad (v / d) (y / d) := by omega
    rw [if_neg (nI_nlt (by omega) (by omega)), if_neg (nI_ge q2 (by omega)), if_neg hn, if_pos (nI_le (by omega) (by omega))]
    obtain ⟨n', arr', e, ok⟩ := cross_J0 (X := nI x) (U := nI u) hy hv hN hN2 h c w
    refine ⟨c, w + 1, vsM y v, n', arr', ?_, ok, Or.inr ⟨?_, q2, rfl, rfl, rfl⟩⟩
    · unfold fX7_cross_J39_72
      rw [if_pos rfl]
      unfold fX7_cross_J39_130 at e
      rw [if_pos rfl] at e
      exact e
    · simp only [colM, q, decide_false, Bool.false_and]
theorem cross_loop {x y u v d N : Nat} (hx : x ≤ 60) (hy : y ≤ 60) (hu : u ≤ 60) (hv : v ≤ 60) (hd : 5 ≤ d) (hd2 : d ≤ 20) (hN : 40 ≤ N) (hN2 : N < 2 ^ 31) : ∀ (k c w : Nat) (L : List Nat) (n : Int32) (arr : Nat → Int32) (M : Nat), c ≤ ad (u / d) (x / d) → w ≤ ad (v / d) (y / d) → k + c + w = waysM x y u v d → k < M → sgOk L n arr →
    ∃ n' arr', loopF (fun (z : Int32 × Int32 × Int32 × (Nat → Int32)) => fX7_cross_L39 N (nI x) (nI y) (nI u) (nI v) (nI d) (nI (ad (u / d) (x / d))) (nI (ad (v / d) (y / d))) z.1 z.2.1 z.2.2.1 z.2.2.2) M (nI c, nI w, n, arr) = some (n', arr') ∧ sgOk (L ++ crsM x y u v d k c w) n' arr' := by
  have hC : ad (u / d) (x / d) ≤ 60 := ad_div d hu hx
  have hR : ad (v / d) (y / d) ≤ 60 := ad_div d hv hy
  intro k
  induction k with
  | zero =>
    intro c w L n arr M hc hw hk hM h
    obtain ⟨M, rfl⟩ : ∃ M', M = M' + 1 := ⟨M - 1, by omega⟩
    unfold waysM at hk
    refine ⟨n, arr, loopF_out ?_, by unfold crsM; rw [List.append_nil]; exact h⟩
    show fX7_cross_L39 N (nI x) (nI y) (nI u) (nI v) (nI d) (nI (ad (u / d) (x / d))) (nI (ad (v / d) (y / d))) (nI c) (nI w) n arr = _
    unfold fX7_cross_L39
    rw [if_neg (nI_nlt (by omega) (by omega)), if_pos (nI_le (by omega) (by omega))]
  | succ k ih =>
    intro c w L n arr M hc hw hk hM h
    obtain ⟨M, rfl⟩ : ∃ M', M = M' + 1 := ⟨M - 1, by omega⟩
    have hcw : c < ad (u / d) (x / d) ∨ w < ad (v / d) (y / d) := by unfold waysM at hk; omega
    by_cases hL : L.length ≤ 40
    · obtain ⟨c', w', sg, n', arr', e, ok, r⟩ := cross_step hx hy hu hv hd hd2 hN hN2 h hL hc hw hcw
      rw [loopF_go (s' := (nI c', nI w', n', arr')) e]
      rcases r with ⟨r1, r2, rfl, rfl, rfl⟩ | ⟨r1, r2, rfl, rfl, rfl⟩
      · obtain ⟨n2, arr2, e2, ok2⟩ := ih (c + 1) w' _ n' arr' M (by omega) hw (by omega) (by omega) ok
        refine ⟨n2, arr2, e2, ?_⟩
        rw [List.append_assoc] at ok2
        unfold crsM
        rw [if_pos r1]
        exact ok2
      · obtain ⟨n2, arr2, e2, ok2⟩ := ih c' (w + 1) _ n' arr' M hc (by omega) (by omega) (by omega) ok
        refine ⟨n2, arr2, e2, ?_⟩
        rw [List.append_assoc] at ok2
        unfold crsM
        rw [if_neg (by rw [r1]; exact Bool.false_ne_true)]
        exact ok2
    · refine ⟨n, arr, loopF_out ?_, sgOk_full h (by omega)⟩
      show fX7_cross_L39 N (nI x) (nI y) (nI u) (nI v) (nI d) (nI (ad (u / d) (x / d))) (nI (ad (v / d) (y / d))) (nI c) (nI w) n arr = _
      have hn : (40 : Int32) < n := by
        rw [h.1, show (40 : Int32) = nI 40 from rfl]
        exact nI_lt (by omega) (by omega)
      unfold fX7_cross_L39
      by_cases q : c < ad (u / d) (x / d)
      · rw [if_pos (nI_lt q (by omega)), if_pos hn]
      · rw [if_neg (nI_nlt (by omega) (by omega)), if_neg (nI_ge (by omega) (by omega)), if_pos hn]
theorem cross_ok {x y u v d N : Nat} (hx : x ≤ 60) (hy : y ≤ 60) (hu : u ≤ 60) (hv : v ≤ 60) (hd : 5 ≤ d) (hd2 : d ≤ 20) (hN : 40 ≤ N) (hN2 : N < 2 ^ 31) {L : List Nat} {n : Int32} {arr : Nat → Int32} (h : sgOk L n arr) :
    ∃ n' arr', fX7_cross n (nI x) (nI y) (nI u) (nI v) (nI d) N arr = some (n', arr') ∧ sgOk (L ++ crossM x y u v d) n' arr' := by
  have h1 : u / d ≤ 60 := Nat.le_trans (Nat.div_le_self _ _) hu
  have h2 : x / d ≤ 60 := Nat.le_trans (Nat.div_le_self _ _) hx
  have h3 : v / d ≤ 60 := Nat.le_trans (Nat.div_le_self _ _) hv
  have h4 : y / d ≤ 60 := Nat.le_trans (Nat.div_le_self _ _) hy
  have hz : ¬ nI d = 0 := nI_ne0 (by omega) (by omega)
  unfold fX7_cross
  rw [if_neg hz, if_neg hz, if_neg hz, if_neg hz, pk_div (by omega) (by omega) (by omega), pk_div (by omega) (by omega) (by omega), pk_div (by omega) (by omega) (by omega), pk_div (by omega) (by omega) (by omega), size_nI (by omega) (by omega), size_nI (by omega) (by omega)]
  obtain ⟨n', arr', e, ok⟩ := cross_loop hx hy hu hv hd hd2 hN hN2 (waysM x y u v d) 0 0 L n arr FUEL (Nat.zero_le _) (Nat.zero_le _) rfl (by have := ways_le (d := d) hx hy hu hv; unfold FUEL; omega) h
  exact ⟨n', arr', by rw [show ((0 : Int32), (0 : Int32), n, arr) = (nI 0, nI 0, n, arr) from rfl, e]; rfl, ok⟩
end XPURE2
