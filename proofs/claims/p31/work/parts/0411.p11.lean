/-! PURE, 11: laying a point, both sides -/
section XPURE11
theorem gkr {α : Type} {a n : Nat} {K R : Option α} (h : a < n) (hn : n < 2 ^ 31) (h2 : K = R) : (if nI a < 0 ∨ n ≤ (nI a).toNatClampNeg then none else K) = R := by rw [gk h hn, h2]
theorem gy {c d : Prop} {_ : Decidable (c ∨ d)} {α : Type} {K R : Option α} (h1 : ¬ c) (h2 : ¬ d) (h : K = R) : (if c ∨ d then none else K) = R := by
  rw [if_neg (fun q => q.elim h1 h2)]; exact h
theorem nI_pred1 (n : Nat) : nI (n + 1) - nI 1 = nI n := nI_pred n
theorem l4 : (4 : Int32) = nI 4 := rfl
theorem l24 : (24 : Int32) = nI 24 := rfl
theorem l2 : (2 : Int32) = nI 2 := rfl
theorem l1 : (1 : Int32) = nI 1 := rfl
theorem l76 : (76 : Int32) = nI 76 := rfl
theorem l77 : (77 : Int32) = nI 77 := rfl
theorem l110 : (110 : Int32) = nI 110 := rfl
theorem sig_at {N N3 f d : Nat} {c : Nat → Int32} {r : Nat → Nat} (hr : rowOk N c r) (hf : figOk r f) (hfN : f + 76 ≤ N) (hN : N < 2 ^ 30) (hN3 : 40 ≤ N3) (hN4 : N3 < 2 ^ 31) (hd : 5 ≤ d) (hd2 : d ≤ 20) (arr : Nat → Int32) :
    ∃ arr', fX7_signature (nI f) (nI d) N N3 c arr = some (nI (min (sigM r f d).length 41), arr') := by
  obtain ⟨arr', e, -⟩ := sig_ok hr hf hfN hN hN3 hN4 hd hd2 arr
  exact ⟨arr', e⟩
/-- THE MODEL LAYS A POINT -/
theorem mlay_ok {c one : Nat → Int32} {r : Nat → Nat} (hr : rowOk 1343 c r) (h : rI r) {x y : Nat} (hx : x ≤ 60) (hy : y ≤ 60) :
    (layOk r x y = true ∧ ∃ c' one', fX7_layPoint (nI x) (nI y) 1343 c one = some (1, c', one') ∧ rowOk 1343 c' (layR r x y)) ∨
    (layOk r x y = false ∧ ∃ c' one' r', fX7_layPoint (nI x) (nI y) 1343 c one = some (0, c', one') ∧ rowOk 1343 c' r' ∧ rLike r r') := by
  have h3 := h.hand.1.1.1
  have h76 := h.2.2.2.2.2.1
  have h12 := h.hand.1.1.2.1
  cases hc : layC r with
  | false =>
    right
    refine ⟨by unfold layOk; rw [hc]; rfl, c, one, r, ?_, hr, rLike.refl h⟩
    unfold layC at hc
    unfold fX7_layPoint
    rw [l76, gk (by omega) (by omega), nI_clamp (by omega), hr 76 (by omega)]
    by_cases q : r 76 = 0
    · rw [if_pos q] at hc
      have hc := of_decide_eq_false hc
      rw [if_pos (by rw [q]; rfl), gk0 (by omega), k0, hr 0 (by omega), if_pos (by rw [show r 0 = 3 by omega]; rfl)]
    · rw [if_neg q] at hc
      have hc := of_decide_eq_false hc
      have e : layS r = r 0 - 1 := if_neg q
      have g := h76.2 (by omega)
      have hl := h12 (r 0 - 1) (by omega)
      rw [Nat.zero_add, ← e] at hl
      have e2 : nI 1 + nI (r 0) - nI 1 = nI (1 + layS r) := by rw [nI_add, pk_sub (by omega)]; congr 1; omega
      rw [if_neg (nI_ne0 (by omega) (by omega)), gk0 (by omega), k0, hr 0 (by omega), l1, e2, gk (by omega) (by omega), nI_clamp (by omega), hr _ (by omega), if_pos (by rw [show r (1 + layS r) = 12 by omega]; rfl)]
  | true =>
    obtain ⟨h1, h2, h3⟩ := lay_facts h hc
    have hP := layP_le h1 h2
    have hd := h.2.1
    have r1 := rowOk_upd hr 0 (layS r + 1)
    have r2 := rowOk_upd r1 (layP r) x
    have r3 := rowOk_upd r2 (layP r + 1) y
    have r4 := rowOk_upd r3 (1 + layS r) (r (1 + layS r) + 1)
    have r5 : rowOk 1343 _ (layR r x y) := rowOk_upd r4 76 1
    obtain ⟨one', sg⟩ := sig_at (f := 0) (d := r 77) (N3 := 41) r5 (lay_shape h hc hx hy).1 (by omega) (by omega) (by omega) (by omega) hd.1 hd.2 one
    have v1 : ∀ j, j < 1343 → j ≠ 0 → upd c 0 (nI (layS r + 1)) j = nI (r j) := fun j hj hn => by rw [pk_un hn]; exact hr j hj
    have v3 : upd (upd (upd c 0 (nI (layS r + 1))) (layP r) (nI x)) (layP r + 1) (nI y) (1 + layS r) = nI (r (1 + layS r)) := by
      rw [pk_un (by omega), pk_un (by omega), v1 _ (by omega) (by omega)]
    have v5 : upd (upd (upd (upd (upd c 0 (nI (layS r + 1))) (layP r) (nI x)) (layP r + 1) (nI y)) (1 + layS r) (nI (r (1 + layS r) + 1))) 76 (nI 1) 77 = nI (r 77) := by
      rw [pk_un (by omega), pk_un (by omega), pk_un (by omega), pk_un (by omega), v1 _ (by omega) (by omega)]
    have eP : nI 4 + nI 24 * nI (layS r) + nI 2 * nI (r (1 + layS r)) = nI (layP r) := by rw [pk_mul, pk_mul, nI_add, nI_add]; rfl
    have b1_ := rowOk_upd r5 (1 + layS r) (r (1 + layS r))
    have b2_ := rowOk_upd b1_ (layP r) 0
    have b3_ := rowOk_upd b2_ (layP r + 1) 0
    have b4_ := rowOk_upd b3_ 0 (r 0)
    have b5_ : rowOk 1343 _ (bakR r x y (r 76)) := rowOk_upd b4_ 76 (r 76)
    have w1 : upd (upd (upd (upd (upd c 0 (nI (layS r + 1))) (layP r) (nI x)) (layP r + 1) (nI y)) (1 + layS r) (nI (r (1 + layS r) + 1))) 76 (nI 1) (1 + layS r) = nI (r (1 + layS r) + 1) := by
      rw [pk_un (by omega), pk_us]
    have w4 : upd (upd (upd (upd (upd (upd (upd (upd c 0 (nI (layS r + 1))) (layP r) (nI x)) (layP r + 1) (nI y)) (1 + layS r) (nI (r (1 + layS r) + 1))) 76 (nI 1)) (1 + layS r) (nI (r (1 + layS r)))) (layP r) (nI 0)) (layP r + 1) (nI 0) 0 = nI (layS r + 1) := by
      rw [pk_un (by omega), pk_un (by omega), pk_un (by omega), pk_un (by omega), pk_un (by omega), pk_un (by omega), pk_un (by omega), pk_us]
    have hbk := bak_like h hc x y
    by_cases ho : (sigM (layR r x y) 0 (r 77)).length ≤ 40
    · left
      refine ⟨by unfold layOk; rw [hc, decide_eq_true ho]; rfl, _, one', ?_, r5⟩
      have ns : ¬ (40 : Int32) < nI (min (sigM (layR r x y) 0 (r 77)).length 41) := by
        rw [Nat.min_eq_left (by omega)]
        exact nI_nlt (a := 40) ho (by omega)
      unfold fX7_layPoint
      rw [l76, l77, l24, l4, gk (by omega) (by omega), nI_clamp (show 76 < 2 ^ 31 by omega), nI_clamp (show 77 < 2 ^ 31 by omega), hr 76 (by omega)]
      rcases h3 with ⟨q1, q2, q3⟩ | ⟨q1, q2, q3⟩
      · have hc2 := hc
        unfold layC at hc2
        rw [if_pos q1] at hc2
        have hc2 := of_decide_eq_true hc2
        rw [if_pos (by rw [q1]; rfl), gk0 (by omega), k0, hr 0 (by omega), if_neg (fun (q : nI (r 0) = 3) => absurd ((nI_eq (a := r 0) (b := 3) (by omega) (by omega)).mp q) (by omega)), nI_1, ← q3]
        refine gy (by first | exact nI_pos (by omega) | decide) (by first | omega | (rw [nI_clamp (by omega)]; omega)) ?_
        refine gy (by first | exact nI_pos (by omega) | decide) (by first | omega | (rw [nI_clamp (by omega)]; omega)) ?_
        rw [b1_so]
        refine gy (by first | exact nI_pos (by omega) | decide) (by first | omega | (rw [nI_clamp (by omega)]; omega)) ?_
        rw [pk_us, nI_pred, b1_so, l1, l2, nI_add]
        refine gy (by first | exact nI_pos (by omega) | decide) (by first | omega | (rw [nI_clamp (by omega)]; omega)) ?_
        rw [b1_so, nI_clamp (by omega), v1 _ (by omega) (by omega), eP]
        refine gy (by first | exact nI_pos (by omega) | decide) (by first | omega | (rw [nI_clamp (by omega)]; omega)) ?_
        rw [b1_so, nI_clamp (by omega), nI_add]
        refine gy (by first | exact nI_pos (by omega) | decide) (by first | omega | (rw [nI_clamp (by omega)]; omega)) ?_
        rw [b1_so, nI_clamp (by omega)]
        refine gy (by first | exact nI_pos (by omega) | decide) (by first | omega | (rw [nI_clamp (by omega)]; omega)) ?_
        refine gy (by first | exact nI_pos (by omega) | decide) (by first | omega | (rw [nI_clamp (by omega)]; omega)) ?_
        rw [b1_so, v3, nI_add]
        refine gy (by first | exact nI_pos (by omega) | decide) (by first | omega | (rw [nI_clamp (by omega)]; omega)) ?_
        rw [b1_so]
        refine gy (by first | exact nI_pos (by omega) | decide) (by first | omega | (rw [nI_clamp (by omega)]; omega)) ?_
        rw [v5]
        have sg : fX7_signature (0 : Int32) (nI (r 77)) 1343 41 _ one = _ := sg
        rw [sg, b2_so, if_neg ns]
      · have hc2 := hc
        unfold layC at hc2
        rw [if_neg (by omega)] at hc2
        have hc2 := of_decide_eq_true hc2
        have e2 : nI 1 + nI (r 0) - nI 1 = nI (1 + layS r) := by rw [nI_add, pk_sub (by omega)]; congr 1; omega
        rw [if_neg (nI_ne0 (by omega) (by omega)), k0, hr 0 (by omega)]
        refine gy (by first | exact nI_pos (by omega) | decide) (by first | omega | (rw [nI_clamp (by omega)]; omega)) ?_
        rw [l1, e2]
        refine gy (by first | exact nI_pos (by omega) | decide) (by first | omega | (rw [nI_clamp (by omega)]; omega)) ?_
        rw [nI_clamp (by omega), hr _ (by omega), if_neg (fun (q : nI (r (1 + layS r)) = 12) => absurd ((nI_eq (a := r (1 + layS r)) (b := 12) (by omega) (by omega)).mp q) (by omega)), show nI (r 0) + (0 : Int32) = nI (layS r + 1) from by rw [q3]; exact nI_add (r 0) 0]
        refine gy (by first | exact nI_pos (by omega) | decide) (by first | omega | (rw [nI_clamp (by omega)]; omega)) ?_
        refine gy (by first | exact nI_pos (by omega) | decide) (by first | omega | (rw [nI_clamp (by omega)]; omega)) ?_
        rw [b1_so]
        refine gy (by first | exact nI_pos (by omega) | decide) (by first | omega | (rw [nI_clamp (by omega)]; omega)) ?_
        rw [pk_us, show nI (layS r + 1) - nI 1 = nI (layS r) from nI_pred _, b1_so, l2, nI_add]
        refine gy (by first | exact nI_pos (by omega) | decide) (by first | omega | (rw [nI_clamp (by omega)]; omega)) ?_
        rw [b1_so, nI_clamp (by omega), v1 _ (by omega) (by omega), eP]
        refine gy (by first | exact nI_pos (by omega) | decide) (by first | omega | (rw [nI_clamp (by omega)]; omega)) ?_
        rw [b1_so, nI_clamp (by omega), nI_add]
        refine gy (by first | exact nI_pos (by omega) | decide) (by first | omega | (rw [nI_clamp (by omega)]; omega)) ?_
        rw [b1_so, nI_clamp (by omega)]
        refine gy (by first | exact nI_pos (by omega) | decide) (by first | omega | (rw [nI_clamp (by omega)]; omega)) ?_
        refine gy (by first | exact nI_pos (by omega) | decide) (by first | omega | (rw [nI_clamp (by omega)]; omega)) ?_
        rw [b1_so, v3, nI_add]
        refine gy (by first | exact nI_pos (by omega) | decide) (by first | omega | (rw [nI_clamp (by omega)]; omega)) ?_
        rw [b1_so]
        refine gy (by first | exact nI_pos (by omega) | decide) (by first | omega | (rw [nI_clamp (by omega)]; omega)) ?_
        rw [v5]
        have sg : fX7_signature (0 : Int32) (nI (r 77)) 1343 41 _ one = _ := sg
        rw [sg, b2_so, if_neg ns]
    · right
      refine ⟨by unfold layOk; rw [hc, decide_eq_false ho]; rfl, _, one', _, ?_, b5_, hbk⟩
      have ns : (40 : Int32) < nI (min (sigM (layR r x y) 0 (r 77)).length 41) := by
        rw [Nat.min_eq_right (by omega)]
        decide
      unfold fX7_layPoint
      rw [l76, l77, l24, l4, gk (by omega) (by omega), nI_clamp (show 76 < 2 ^ 31 by omega), nI_clamp (show 77 < 2 ^ 31 by omega), hr 76 (by omega)]
      rcases h3 with ⟨q1, q2, q3⟩ | ⟨q1, q2, q3⟩
      · have hc2 := hc
        unfold layC at hc2
        rw [if_pos q1] at hc2
        have hc2 := of_decide_eq_true hc2
        rw [if_pos (by rw [q1]; rfl), gk0 (by omega), k0, hr 0 (by omega), if_neg (fun (q : nI (r 0) = 3) => absurd ((nI_eq (a := r 0) (b := 3) (by omega) (by omega)).mp q) (by omega)), nI_1, ← q3]
        refine gy (by first | exact nI_pos (by omega) | decide) (by first | omega | (rw [nI_clamp (by omega)]; omega)) ?_
        refine gy (by first | exact nI_pos (by omega) | decide) (by first | omega | (rw [nI_clamp (by omega)]; omega)) ?_
        rw [b1_so]
        refine gy (by first | exact nI_pos (by omega) | decide) (by first | omega | (rw [nI_clamp (by omega)]; omega)) ?_
        rw [pk_us, nI_pred, b1_so, l1, l2, nI_add]
        refine gy (by first | exact nI_pos (by omega) | decide) (by first | omega | (rw [nI_clamp (by omega)]; omega)) ?_
        rw [b1_so, nI_clamp (by omega), v1 _ (by omega) (by omega), eP]
        refine gy (by first | exact nI_pos (by omega) | decide) (by first | omega | (rw [nI_clamp (by omega)]; omega)) ?_
        rw [b1_so, nI_clamp (by omega), nI_add]
        refine gy (by first | exact nI_pos (by omega) | decide) (by first | omega | (rw [nI_clamp (by omega)]; omega)) ?_
        rw [b1_so, nI_clamp (by omega)]
        refine gy (by first | exact nI_pos (by omega) | decide) (by first | omega | (rw [nI_clamp (by omega)]; omega)) ?_
        refine gy (by first | exact nI_pos (by omega) | decide) (by first | omega | (rw [nI_clamp (by omega)]; omega)) ?_
        rw [b1_so, v3, nI_add]
        refine gy (by first | exact nI_pos (by omega) | decide) (by first | omega | (rw [nI_clamp (by omega)]; omega)) ?_
        rw [b1_so]
        refine gy (by first | exact nI_pos (by omega) | decide) (by first | omega | (rw [nI_clamp (by omega)]; omega)) ?_
        rw [v5]
        have sg : fX7_signature (0 : Int32) (nI (r 77)) 1343 41 _ one = _ := sg
        rw [sg, b2_so, if_pos ns]
        refine gy (by first | exact nI_pos (by omega) | decide) (by first | omega | (rw [nI_clamp (by omega)]; omega)) ?_
        refine gy (by first | exact nI_pos (by omega) | decide) (by first | omega | (rw [nI_clamp (by omega)]; omega)) ?_
        rw [b1_so, w1, nI_pred1]
        refine gy (by first | exact nI_pos (by omega) | decide) (by first | omega | (rw [nI_clamp (by omega)]; omega)) ?_
        rw [b1_so]
        refine gy (by first | exact nI_pos (by omega) | decide) (by first | omega | (rw [nI_clamp (by omega)]; omega)) ?_
        rw [b1_so]
        refine gy (by first | exact nI_pos (by omega) | decide) (by first | omega | (rw [nI_clamp (by omega)]; omega)) ?_
        refine gy (by first | exact nI_pos (by omega) | decide) (by first | omega | (rw [nI_clamp (by omega)]; omega)) ?_
        have w4 : upd (upd (upd (upd (upd (upd (upd (upd c 0 (nI (layS r + 1))) (layP r) (nI x)) (layP r + 1) (nI y)) (1 + layS r) (nI (r (1 + layS r) + 1))) 76 (nI 1)) (1 + layS r) (nI (r (1 + layS r)))) (layP r) (0 : Int32)) (layP r + 1) (0 : Int32) 0 = nI (layS r + 1) := w4
        rw [b1_so, w4, nI_pred1]
        refine gy (by first | exact nI_pos (by omega) | decide) (by first | omega | (rw [nI_clamp (by omega)]; omega)) ?_
        rw [b1_so, q3, q1]; rfl
      · have hc2 := hc
        unfold layC at hc2
        rw [if_neg (by omega)] at hc2
        have hc2 := of_decide_eq_true hc2
        have e2 : nI 1 + nI (r 0) - nI 1 = nI (1 + layS r) := by rw [nI_add, pk_sub (by omega)]; congr 1; omega
        rw [if_neg (nI_ne0 (by omega) (by omega)), k0, hr 0 (by omega)]
        refine gy (by first | exact nI_pos (by omega) | decide) (by first | omega | (rw [nI_clamp (by omega)]; omega)) ?_
        rw [l1, e2]
        refine gy (by first | exact nI_pos (by omega) | decide) (by first | omega | (rw [nI_clamp (by omega)]; omega)) ?_
        rw [nI_clamp (by omega), hr _ (by omega), if_neg (fun (q : nI (r (1 + layS r)) = 12) => absurd ((nI_eq (a := r (1 + layS r)) (b := 12) (by omega) (by omega)).mp q) (by omega)), show nI (r 0) + (0 : Int32) = nI (layS r + 1) from by rw [q3]; exact nI_add (r 0) 0]
        refine gy (by first | exact nI_pos (by omega) | decide) (by first | omega | (rw [nI_clamp (by omega)]; omega)) ?_
        refine gy (by first | exact nI_pos (by omega) | decide) (by first | omega | (rw [nI_clamp (by omega)]; omega)) ?_
        rw [b1_so]
        refine gy (by first | exact nI_pos (by omega) | decide) (by first | omega | (rw [nI_clamp (by omega)]; omega)) ?_
        rw [pk_us, show nI (layS r + 1) - nI 1 = nI (layS r) from nI_pred _, b1_so, l2, nI_add]
        refine gy (by first | exact nI_pos (by omega) | decide) (by first | omega | (rw [nI_clamp (by omega)]; omega)) ?_
        rw [b1_so, nI_clamp (by omega), v1 _ (by omega) (by omega), eP]
        refine gy (by first | exact nI_pos (by omega) | decide) (by first | omega | (rw [nI_clamp (by omega)]; omega)) ?_
        rw [b1_so, nI_clamp (by omega), nI_add]
        refine gy (by first | exact nI_pos (by omega) | decide) (by first | omega | (rw [nI_clamp (by omega)]; omega)) ?_
        rw [b1_so, nI_clamp (by omega)]
        refine gy (by first | exact nI_pos (by omega) | decide) (by first | omega | (rw [nI_clamp (by omega)]; omega)) ?_
        refine gy (by first | exact nI_pos (by omega) | decide) (by first | omega | (rw [nI_clamp (by omega)]; omega)) ?_
        rw [b1_so, v3, nI_add]
        refine gy (by first | exact nI_pos (by omega) | decide) (by first | omega | (rw [nI_clamp (by omega)]; omega)) ?_
        rw [b1_so]
        refine gy (by first | exact nI_pos (by omega) | decide) (by first | omega | (rw [nI_clamp (by omega)]; omega)) ?_
        rw [v5]
        have sg : fX7_signature (0 : Int32) (nI (r 77)) 1343 41 _ one = _ := sg
        rw [sg, b2_so, if_pos ns]
        refine gy (by first | exact nI_pos (by omega) | decide) (by first | omega | (rw [nI_clamp (by omega)]; omega)) ?_
        refine gy (by first | exact nI_pos (by omega) | decide) (by first | omega | (rw [nI_clamp (by omega)]; omega)) ?_
        rw [b1_so, w1, show nI (r (1 + layS r) + 1) - nI 1 = nI (r (1 + layS r)) from nI_pred _]
        refine gy (by first | exact nI_pos (by omega) | decide) (by first | omega | (rw [nI_clamp (by omega)]; omega)) ?_
        rw [b1_so]
        refine gy (by first | exact nI_pos (by omega) | decide) (by first | omega | (rw [nI_clamp (by omega)]; omega)) ?_
        rw [b1_so]
        refine gy (by first | exact nI_pos (by omega) | decide) (by first | omega | (rw [nI_clamp (by omega)]; omega)) ?_
        refine gy (by first | exact nI_pos (by omega) | decide) (by first | omega | (rw [nI_clamp (by omega)]; omega)) ?_
        have w4 : upd (upd (upd (upd (upd (upd (upd (upd c 0 (nI (layS r + 1))) (layP r) (nI x)) (layP r + 1) (nI y)) (1 + layS r) (nI (r (1 + layS r) + 1))) 76 (nI 1)) (1 + layS r) (nI (r (1 + layS r)))) (layP r) (0 : Int32)) (layP r + 1) (0 : Int32) 0 = nI (layS r + 1) := w4
        rw [b1_so, w4, show nI (layS r + 1) - (0 : Int32) = nI (r 0) from by rw [q3]; exact pk_sub (Nat.zero_le _)]
        refine gy (by first | exact nI_pos (by omega) | decide) (by first | omega | (rw [nI_clamp (by omega)]; omega)) ?_
        rw [b1_so, q1]; rfl
end XPURE11
