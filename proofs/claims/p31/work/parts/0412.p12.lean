/-! PURE, 12: the class adds a point -/
section XPURE12
theorem grid_nI {x : Nat} (hx : x ≤ 60) : fX6_isOnGrid (nI x) = 1 := by
  unfold fX6_isOnGrid
  rw [if_neg (nI_pos (by omega)), if_neg (show ¬ (60 : Int32) < nI x from nI_nlt (a := 60) hx (by omega))]
theorem lay_figC {r : Nat → Nat} {st le po st' : Nat → Int32} (h : rI r) (hc : layC r = true) (hF : figC st le po 16 r 0) (x y : Nat) (h16 : st' 16 = nI (layS r + 1)) : figC st' (upd le (3 * 16 + layS r) (nI (r (1 + layS r) + 1))) (upd po (36 * 16 + 12 * layS r + r (1 + layS r)) (nI (ptN x y))) 16 (layR r x y) 0 := by
  obtain ⟨h1, h2, h3⟩ := lay_facts h hc
  have hs := h.hand.1
  have h12 := hs.1.2.1
  have hle : layS r ≤ r 0 := by omega
  refine ⟨by rw [lay_0 h1 h2]; exact h16, fun t ht => ?_, fun t ht i hi => ?_⟩
  · rw [lay_0 h1 h2] at ht
    rw [lay_len h1 h2 x y (by omega)]
    by_cases q : t = layS r
    · subst q; rw [if_pos rfl, pk_us]
    · rw [if_neg q, pk_un (by omega)]; exact hF.2.1 t (by omega)
  · rw [lay_0 h1 h2] at ht
    rw [lay_len h1 h2 x y (by omega)] at hi
    by_cases q : t = layS r
    · subst q
      rw [if_pos rfl] at hi
      by_cases q2 : i = r (1 + layS r)
      · rw [q2, pk_us, (lay_new h1 h2 x y).1, (lay_new h1 h2 x y).2]
      · obtain ⟨e1, e2⟩ := lay_old h1 h2 x y h1 (i := i) (by omega) (Or.inr q2)
        rw [pk_un (by omega), e1, e2]
        refine hF.2.2 _ ?_ i (by rw [Nat.zero_add]; omega)
        rcases h3 with ⟨a1, a2, a3⟩ | ⟨a1, a2, a3⟩ <;> omega
    · rw [if_neg q] at hi
      have := h12 t (by omega)
      obtain ⟨e1, e2⟩ := lay_old h1 h2 x y (t := t) (i := i) (by omega) (by omega) (Or.inl q)
      rw [pk_un (by omega), e1, e2]
      exact hF.2.2 t (by omega) i hi
theorem lay_fr {st le po : Nat → Int32} {s i : Nat} (hs : s < 3) (hi : i < 12) (a b c : Int32) : figFr 16 st le po (upd st 16 a) (upd le (3 * 16 + s) b) (upd po (36 * 16 + 12 * s + i) c) := ⟨fun q hq => pk_un hq, fun j hj => pk_un (by omega), fun j hj => pk_un (by omega)⟩
theorem lay_fr2 {st le po : Nat → Int32} {s i : Nat} (hs : s < 3) (hi : i < 12) (b c : Int32) : figFr 16 st le po st (upd le (3 * 16 + s) b) (upd po (36 * 16 + 12 * s + i) c) := ⟨fun q hq => rfl, fun j hj => pk_un (by omega), fun j hj => pk_un (by omega)⟩
theorem l16 : (16 : Int32) = nI 16 := rfl
theorem l3 : (3 : Int32) = nI 3 := rfl
theorem l40 : (40 : Int32) = nI 40 := rfl
theorem l61 : (61 : Int32) = nI 61 := rfl
theorem l12 : (12 : Int32) = nI 12 := rfl
theorem lay_sg_len {r : Nat → Nat} (h : rI r) (hc : layC r = true) (x y : Nat) : (sigM (layR r x y) 0 (r 77)).length = (sigM r 0 (r 77)).length + (layW r x y).length := by
  rw [lay_sig h hc, List.length_append]
/-- a stroke is begun -/
theorem cbegin_ok {r : Nat → Nat} {sm pd : Int32} {st le po sc sg na se ou : Nat → Int32} (h : rI r) (hC : CS r sm pd st le po sc sg na se ou) (h76 : r 76 = 0) (x y : Nat) :
    (layOk r x y = true ∧ ∃ sc' sg', fX0_beginStroke (16 : Int32) (nI (ptN x y)) st sc le po sg = (1, upd st 16 (nI (layS r + 1)), sc', upd le (3 * 16 + layS r) (nI (r (1 + layS r) + 1)), upd po (36 * 16 + 12 * layS r + r (1 + layS r)) (nI (ptN x y)), sg') ∧ sgC sc' sg' 16 (sigM (layR r x y) 0 (r 77)) ∧ sgFr 16 sc sg sc' sg') ∨
    (layOk r x y = false ∧ fX0_beginStroke (16 : Int32) (nI (ptN x y)) st sc le po sg = (0, st, sc, le, po, sg)) := by
  have h3 := h.hand.1.1.1
  have hF := hC.handF
  have hS := hC.handS
  have hl := h.hand.2
  have e0 : fX0_strokesOf (16 : Int32) st = nI (r 0) := by rw [l16, strokes_at (by omega)]; exact hF.1
  have e1 : fX0_signsOf (16 : Int32) sc = nI (sigM r 0 (r 77)).length := by rw [l16, signsOf_nI (by omega)]; exact hS.1
  have eS : layS r = r 0 := if_pos h76
  unfold fX0_beginStroke
  rw [e0, e1]
  by_cases q3 : 3 ≤ r 0
  · right
    refine ⟨by unfold layOk layC; rw [if_pos h76, decide_eq_false (by omega)]; rfl, ?_⟩
    rw [if_neg (nI_nle (by omega) (by omega)), if_pos (show (3 : Int32) ≤ nI (r 0) from nI_le (a := 3) q3 (by omega))]
  · have hc : layC r = true := by unfold layC; rw [if_pos h76]; exact decide_eq_true (by omega)
    obtain ⟨h1, h2, h5⟩ := lay_facts h hc
    have hz : r (1 + layS r) = 0 := by omega
    have hsl := lay_sg_len h hc x y
    have hsg := lay_sig h hc x y
    have p1 : fX0_putPoint (16 : Int32) (nI (r 0)) (0 : Int32) (nI (ptN x y)) po = upd po (36 * 16 + 12 * r 0 + 0) (nI (ptN x y)) := putPoint_at (p := 16) (s := r 0) (i := 0) (by omega) (by omega) (by omega) _
    have p2 : xput ((16 : Int32) * (3 : Int32) + nI (r 0)) (1 : Int32) 51 le = upd le (3 * 16 + r 0) (nI 1) := by
      rw [l16, l3, pk_mul, nI_add, xput_in le _ (by omega) (by omega)]; rfl
    have p3 : xput (16 : Int32) (nI (r 0) + 1) 17 st = upd st 16 (nI (r 0 + 1)) := by
      rw [nI_1]; exact xput_in (i := 16) st _ (by omega) (by omega)
    rw [p1, p2, p3, eS, ← eS, hz, eS]
    by_cases q0 : r 0 = 0
    · left
      have hw : layW r x y = [] := by unfold layW; rw [if_pos h76, if_pos q0]
      rw [hw, List.append_nil] at hsg
      refine ⟨by unfold layOk; rw [hc, hsg, decide_eq_true hl]; rfl, sc, sg, ?_, by rw [hsg]; exact hS, sgFr_rf⟩
      rw [if_pos (show nI (r 0) ≤ 0 by rw [q0]; decide), if_neg (show ¬ (3 : Int32) ≤ nI (r 0) from nI_ge (b := 3) (by omega) (by omega)), if_pos (show nI (sigM r 0 (r 77)).length + 0 ≤ (40 : Int32) from by rw [show nI (sigM r 0 (r 77)).length + (0 : Int32) = nI (sigM r 0 (r 77)).length from nI_add _ 0]; exact nI_le (b := 40) hl (by omega))]
    · have hw : layW r x y = [4] := by unfold layW; rw [if_pos h76, if_neg q0]
      rw [hw] at hsg hsl
      simp only [List.length_singleton] at hsl
      rw [if_neg (nI_nle (by omega) (by omega)), if_neg (show ¬ (3 : Int32) ≤ nI (r 0) from nI_ge (b := 3) (by omega) (by omega)), nI_1]
      by_cases q : (sigM r 0 (r 77)).length + 1 ≤ 40
      · left
        obtain ⟨w1, w2⟩ := writeSign_ok (v := 4) hS (show 16 < 17 by omega) (by omega)
        refine ⟨by unfold layOk; rw [hc, hsl, decide_eq_true q]; rfl, _, _, ?_, by rw [hsg]; exact w1, w2⟩
        rw [if_pos (show nI _ ≤ (40 : Int32) from nI_le (b := 40) q (by omega))]
        rfl
      · right
        refine ⟨by unfold layOk; rw [hc, hsl, decide_eq_false q]; rfl, ?_⟩
        rw [if_neg (show ¬ nI _ ≤ (40 : Int32) from nI_ge (a := 40) (by omega) (by omega))]
theorem pt_nI (x y : Nat) : nI x * (61 : Int32) + nI y = nI (ptN x y) := by rw [l61, pk_mul, nI_add]; rfl
/-- a stroke goes on -/
theorem cextend_ok {r : Nat → Nat} {sm pd : Int32} {st le po sc sg na se ou : Nat → Int32} (h : rI r) (hC : CS r sm pd st le po sc sg na se ou) (h76 : r 76 = 1) {x y : Nat} (hx : x ≤ 60) (hy : y ≤ 60) :
    (layOk r x y = true ∧ ∃ sc' sg', fX0_extendStroke (16 : Int32) (nI (ptN x y)) (nI (r 77)) st le po sc sg = some (1, upd le (3 * 16 + layS r) (nI (r (1 + layS r) + 1)), upd po (36 * 16 + 12 * layS r + r (1 + layS r)) (nI (ptN x y)), sc', sg') ∧ sgC sc' sg' 16 (sigM (layR r x y) 0 (r 77)) ∧ sgFr 16 sc sg sc' sg') ∨
    (layOk r x y = false ∧ fX0_extendStroke (16 : Int32) (nI (ptN x y)) (nI (r 77)) st le po sc sg = some (0, le, po, sc, sg)) := by
  have h3 := h.hand.1.1.1
  have h12 := h.hand.1.1.2.1
  have hF := hC.handF
  have hS := hC.handS
  have hl := h.hand.2
  have hd := h.2.1
  have h1' := h.2.2.2.2.2.1.2 h76
  have e0 : fX0_strokesOf (16 : Int32) st = nI (r 0) := by rw [l16, strokes_at (by omega)]; exact hF.1
  have e1 : fX0_signsOf (16 : Int32) sc = nI (sigM r 0 (r 77)).length := by rw [l16, signsOf_nI (by omega)]; exact hS.1
  have eS : layS r = r 0 - 1 := if_neg (by omega)
  have e2 : nI (r 0) - 1 = nI (layS r) := by rw [l1, pk_sub h1', eS]
  have eL : fX0_lengthOf (16 : Int32) (nI (layS r)) le = nI (r (1 + layS r)) := by
    have := hF.ln h.hand.1.1 (show 16 < 17 by omega) (s := layS r) (by omega)
    rw [Nat.zero_add] at this; exact this
  have l12' := h12 (layS r) (by omega)
  rw [Nat.zero_add] at l12'
  unfold fX0_extendStroke
  rw [e0, e2, if_pos (nI_pos' (by omega)), eL, b1_so]
  by_cases q : r (1 + layS r) < 12
  · have hc : layC r = true := by unfold layC; rw [if_neg (by omega)]; exact decide_eq_true q
    obtain ⟨h1, h2, h5⟩ := lay_facts h hc
    have hi1 : 1 ≤ r (1 + layS r) := by omega
    have hsl := lay_sg_len h hc x y
    have hsg := lay_sig h hc x y
    have hw : layW r x y = crossM (pX r 0 (layS r) (r (1 + layS r) - 1)) (pY r 0 (layS r) (r (1 + layS r) - 1)) x y (r 77) := by unfold layW; rw [if_neg (by omega)]
    have eP : fX0_pointAt (16 : Int32) (nI (layS r)) (nI (r (1 + layS r)) - 1) po = nI (ptN (pX r 0 (layS r) (r (1 + layS r) - 1)) (pY r 0 (layS r) (r (1 + layS r) - 1))) := by
      rw [l1, pk_sub hi1]
      exact hF.pt h.hand.1.1 (show 16 < 17 by omega) (by omega) (by rw [Nat.zero_add]; omega)
    have bx := h.hand.1.1.x h1 (i := r (1 + layS r) - 1) (by omega)
    have by_ := h.hand.1.1.y h1 (i := r (1 + layS r) - 1) (by omega)
    rw [if_pos (show nI (r (1 + layS r)) < (12 : Int32) from nI_lt (b := 12) q (by omega)), eP, b1_so, crossings_nI bx by_ hx hy (by omega) hd.2, b1_so, e1, nI_add]
    rw [hw] at hsl hsg
    rw [crossM_length] at hsl
    have hwl := ways_le (d := r 77) bx by_ hx hy
    by_cases qq : (sigM r 0 (r 77)).length + waysM (pX r 0 (layS r) (r (1 + layS r) - 1)) (pY r 0 (layS r) (r (1 + layS r) - 1)) x y (r 77) ≤ 40
    · left
      obtain ⟨sc', sg', w1, w2, w3⟩ := wc_ok (p := 16) bx by_ hx hy hd.1 hd.2 (by omega) hS qq
      refine ⟨by unfold layOk; rw [hc, hsl, decide_eq_true qq]; rfl, sc', sg', ?_, by rw [hsg]; exact w2, w3⟩
      have w1 : fX0_writeCrossings (16 : Int32) _ _ _ sc sg = _ := w1
      have p1 : fX0_putPoint (16 : Int32) (nI (layS r)) (nI (r (1 + layS r))) (nI (ptN x y)) po = upd po (36 * 16 + 12 * layS r + r (1 + layS r)) (nI (ptN x y)) := putPoint_at (p := 16) (by omega) (by omega) (by omega) _
      have p2 : xput ((16 : Int32) * (3 : Int32) + nI (layS r)) (nI (r (1 + layS r)) + 1) 51 le = upd le (3 * 16 + layS r) (nI (r (1 + layS r) + 1)) := by
        rw [l16, l3, pk_mul, nI_add, nI_1, xput_in le _ (by omega) (by omega)]
      rw [if_pos (show nI _ ≤ (40 : Int32) from nI_le (b := 40) qq (by omega)), w1, b2_so, p1, p2]
    · right
      refine ⟨by unfold layOk; rw [hc, hsl, decide_eq_false qq]; rfl, ?_⟩
      rw [if_neg (show ¬ nI _ ≤ (40 : Int32) from nI_ge (a := 40) (by omega) (by omega))]
  · right
    refine ⟨by unfold layOk layC; rw [if_neg (by omega), decide_eq_false q]; rfl, ?_⟩
    rw [if_neg (show ¬ nI (r (1 + layS r)) < (12 : Int32) from nI_nlt (b := 12) (by omega) (by omega))]
theorem CS.se0 {r : Nat → Nat} {sm pd : Int32} {st le po sc sg na se ou : Nat → Int32} (hC : CS r sm pd st le po sc sg na se ou) {w : Nat} (hw : w < 3) : fX4_settingOf (nI w) se = nI (r (77 + w)) := by
  unfold fX4_settingOf
  rw [xcell_in se hw (by omega)]; exact hC.2.2.2.2.1 w hw
/-- THE CLASS ADDS A POINT -/
theorem cadd_ok {r : Nat → Nat} {sm pd : Int32} {st le po sc sg na se ou : Nat → Int32} (h : rI r) (hC : CS r sm pd st le po sc sg na se ou) {x y : Nat} (hx : x ≤ 60) (hy : y ≤ 60) :
    (layOk r x y = true ∧ ∃ st' sc' le' po' sg', fX4_addPoint (nI x) (nI y) pd st sc le po sg se = some (1, 1, st', sc', le', po', sg') ∧ CS (layR r x y) sm 1 st' le' po' sc' sg' na se ou) ∨
    (layOk r x y = false ∧ fX4_addPoint (nI x) (nI y) pd st sc le po sg se = some (0, pd, st, sc, le, po, sg)) := by
  have h76 := h.2.2.2.2.2.1
  unfold fX4_addPoint
  rw [grid_nI hx, grid_nI hy, if_neg (show ¬ (1 : Int32) = 0 from by decide), if_neg (show ¬ (1 : Int32) = 0 from by decide), hC.2.1, pt_nI]
  have hse : fX4_settingOf (0 : Int32) se = nI (r 77) := hC.se0 (w := 0) (by omega)
  by_cases q : r 76 = 0
  · rw [q, if_pos (show nI 0 = (0 : Int32) from rfl)]
    rcases cbegin_ok h hC q x y with ⟨ho, sc', sg', e, k1, k2⟩ | ⟨ho, e⟩
    · left
      have hc : layC r = true := by unfold layOk at ho; rw [Bool.and_eq_true] at ho; exact ho.1
      obtain ⟨h1, h2, h5⟩ := lay_facts h hc
      refine ⟨ho, _, _, _, _, _, by rw [e, b1_so, if_neg (show ¬ (1 : Int32) = 0 from by decide), if_pos (show (1 : Int32) &&& 1 = 1 from by decide)], CS_hand h hC (fun j hj => lay_hi h1 h2 x y hj) rfl (lay_fr h1 h2 _ _ _) k2 (lay_figC h hc hC.handF x y pk_us) k1⟩
    · right
      refine ⟨ho, ?_⟩
      rw [e, b1_so, if_pos rfl, if_pos (show (0 : Int32) &&& 1 = 0 from by decide)]; rfl
  · rw [if_neg (nI_ne0 (by omega) (by omega)), hse]
    have q1 : r 76 = 1 := by omega
    rcases cextend_ok h hC q1 hx hy with ⟨ho, sc', sg', e, k1, k2⟩ | ⟨ho, e⟩
    · left
      have hc : layC r = true := by unfold layOk at ho; rw [Bool.and_eq_true] at ho; exact ho.1
      obtain ⟨h1, h2, h5⟩ := lay_facts h hc
      refine ⟨ho, _, _, _, _, _, by rw [e, b5_so, if_pos (show (1 : Int32) &&& 1 = 1 from by decide)], CS_hand h hC (fun j hj => lay_hi h1 h2 x y hj) rfl (lay_fr2 h1 h2 _ _) k2 (lay_figC h hc hC.handF x y (by rw [hC.handF.1]; congr 1; omega)) k1⟩
    · right
      refine ⟨ho, ?_⟩
      rw [e, b5_so, if_pos (show (0 : Int32) &&& 1 = 0 from by decide), q1]; rfl
end XPURE12
