/-! PURE, 65: what changes the state and is remembered -/
section XPURE65
/-- remembered, or nothing done -/
def acted (r : Nat → Nat) (h nw h' nw' : Nat) (dia dia' : Nat → Int32) : Prop := (nw' = nw ∧ h' = h ∧ dia' = dia) ∨ (nw' = (nw + 1) % 15 ∧ h' = min (h + 1) 14 ∧ (∀ j, j < 1343 → dia' (1343 * min h 13 + j) = nI (r j)) ∧ ∀ k, k < min h 13 → ∀ j, j < 1343 → dia' (1343 * k + j) = dia (1343 * (k + if h = 14 then 1 else 0) + j))
theorem HI_acted {h nw h' nw' p : Nat} {L L' : List LE} {dia dia' kep isk : Nat → Int32} {cr cr' cs : Nat → Option Nat} {q : Nat → Nat} {v : SV} {r : Nat → Nat} (H : HI h nw L dia kep isk cr cs) (ha : acted r h nw h' nw' dia dia') (hI : rI r) (hv : CSv r v) (hp : p = (nw + 1) % 15) (hL : ∀ e, e ∈ L' ↔ e ∈ L ∧ e.1 ≠ p) (hn : (L'.map (fun e => e.1)).Nodup) (h1 : cr' p = some (q 0)) (h2 : ∀ j, j ≠ p → cr' j = cr j) : HI h' nw' (((p, q, v) : LE) :: L') dia' kep isk cr' cs := by
  rcases ha with ⟨rfl, rfl, rfl⟩ | ⟨e1, rfl, e2, e3⟩
  · exact HI_keep H hp hL hn h1 h2
  · rw [e1, ← hp]
    exact HI_push H hp hL hn h1 h2 ⟨r, hI, hv, e2⟩ e3

theorem prep_some {r : Nat → Nat} {sm pd : Int32} {st le po sc sg na se ou : Nat → Int32} (h : rI r) (hC : CS r sm pd st le po sc sg na se ou) (D : SV) : ∃ d : SV, fX1_prepare_some sm pd st D.2.2.1 le D.2.2.2.1 po D.2.2.2.2.1 sc D.2.2.2.2.2.1 sg D.2.2.2.2.2.2.1 na D.2.2.2.2.2.2.2.1 se D.2.2.2.2.2.2.2.2.1 ou D.2.2.2.2.2.2.2.2.2 = some (d.1, d.2.1, d.2.2.1, d.2.2.2.1, d.2.2.2.2.1, d.2.2.2.2.2.1, d.2.2.2.2.2.2.1, d.2.2.2.2.2.2.2.1, d.2.2.2.2.2.2.2.2.1, d.2.2.2.2.2.2.2.2.2) ∧ CSv r d := by
  obtain ⟨st', le', po', sc', sg', na', se', ou', e, c⟩ := ccopy_ok h hC D.2.2.1 D.2.2.2.1 D.2.2.2.2.1 D.2.2.2.2.2.1 D.2.2.2.2.2.2.1 D.2.2.2.2.2.2.2.1 D.2.2.2.2.2.2.2.2.1 D.2.2.2.2.2.2.2.2.2
  refine ⟨(sm, pd, st', le', po', sc', sg', na', se', ou'), ?_, c⟩
  unfold fX1_prepare_some fX3_keepCopy_some
  rw [e]; rfl
theorem prep_none {r : Nat → Nat} {sm pd : Int32} {st le po sc sg na se ou : Nat → Int32} (h : rI r) (hC : CS r sm pd st le po sc sg na se ou) : ∃ d : SV, fX1_prepare_none sm pd st le po sc sg na se ou = some (d.1, d.2.1, d.2.2.1, d.2.2.2.1, d.2.2.2.2.1, d.2.2.2.2.2.1, d.2.2.2.2.2.2.1, d.2.2.2.2.2.2.2.1, d.2.2.2.2.2.2.2.2.1, d.2.2.2.2.2.2.2.2.2) ∧ CSv r d := by
  obtain ⟨st', le', po', sc', sg', na', se', ou', e, c⟩ := ccopy_ok h hC (fun _ => 0) (fun _ => 0) (fun _ => 0) (fun _ => 0) (fun _ => 0) (fun _ => 0) (upd (upd (upd (fun _ => (0 : Int32)) (0 : Int32).toNatClampNeg (10 : Int32)) (1 : Int32).toNatClampNeg (12 : Int32)) (2 : Int32).toNatClampNeg (1 : Int32)) (fun _ => 0)
  refine ⟨(sm, pd, st', le', po', sc', sg', na', se', ou'), ?_, c⟩
  unfold fX1_prepare_none fX3_keepCopy_none
  rw [e]; rfl
theorem nI_pr {n : Nat} (h : 0 < n) : nI n - (1 : Int32) = nI (n - 1) := by
  rw [show (1 : Int32) = nI 1 from rfl, pk_sub (by omega)]

theorem learn_some {r : Nat → Nat} {c : Nat → Int32} {sm pd : Int32} {st le po sc sg na se ou : Nat → Int32} (h : rI r) (hC : CS r sm pd st le po sc sg na se ou) (hr : rowOk 1343 c r) {nw hc : Nat} (hh : hc ≤ 14) (hw : nw < 15) {k : Nat} (hk : k ≤ 9) (e1 : fX6_isName (nI k) = 1) (e2 : fX7_isName (nI k) = some 1) (D : SV) (one two ks dia : Nat → Int32) :
    ∃ A nw' hc' sm' pd' st' le' po' sc' sg' na' v rf c' one' two' ks' dia' r' d, fX6_learn_some (nI k) (nI nw) (nI hc) sm pd st D.2.2.1 le D.2.2.2.1 po D.2.2.2.2.1 sc D.2.2.2.2.2.1 sg D.2.2.2.2.2.2.1 na D.2.2.2.2.2.2.2.1 se D.2.2.2.2.2.2.2.2.1 ou D.2.2.2.2.2.2.2.2.2 = some (A, nI nw', nI hc', d.1, d.2.1, sm', pd', st', d.2.2.1, le', d.2.2.2.1, po', d.2.2.2.2.1, sc', d.2.2.2.2.2.1, sg', d.2.2.2.2.2.2.1, na', d.2.2.2.2.2.2.2.1, d.2.2.2.2.2.2.2.2.1, d.2.2.2.2.2.2.2.2.2) ∧ fX7_learn (nI k) (nI hc) c one two ks dia = some (v, rf, nI hc', c', one', two', ks', dia') ∧ aR ["java/lang/IllegalArgumentException", "java/lang/IllegalStateException"] A v rf ∧ rI r' ∧ CS r' sm' pd' st' le' po' sc' sg' na' se ou ∧ rowOk 1343 c' r' ∧ CSv r d ∧ acted r hc nw hc' nw' dia dia' := by
  have h16 := h.h16
  obtain ⟨d, e0, c0⟩ := prep_some h hC D
  unfold fX6_learn_some fX7_learn
  rw [e1, if_neg i10, e0, b10_so, e2, b1_so, if_neg i10]
  rcases ckeep_ok h hC hk with ⟨ho, st', na', sc', sg', le', po', e3, c1⟩ | ⟨ho, e3⟩
  · rcases mcan_ok (one := one) (two := two) (cs := ks) hr h hk with ⟨-, one', two', ks', e4⟩ | ⟨hn, -⟩
    · obtain ⟨dia', e5, g1, g2⟩ := mrem_ok hr hh dia
      obtain ⟨c', e6, rl⟩ := mlearn_ok hr (by have := ho.2.1; omega) k
      rw [e3, b9_so, if_neg i10, e4, b4_so, if_neg i10, rf0, if_pos rfl, e5, b2_so, e6, b2_so, ccommit_ok hh hw, nI_pr (by omega), Nat.add_sub_cancel]
      exact ⟨_, _, _, _, _, _, _, _, _, _, _, _, _, _, _, _, _, _, _, _, rfl, rfl, aR_ok rfl, rI_learn h hk ho.2.1, c1, rl, c0, Or.inr ⟨rfl, rfl, g1, g2⟩⟩
    · exact absurd ho hn
  · rcases mcan_ok (one := one) (two := two) (cs := ks) hr h hk with ⟨hn, -⟩ | ⟨-, one', two', ks', e4⟩
    · exact absurd hn ho
    · rw [e3, b9_so, if_pos rfl, e4, b4_so, if_pos rfl, rf2, if_neg i10]
      exact ⟨_, _, _, _, _, _, _, _, _, _, _, _, _, _, _, _, _, _, _, _, rfl, rfl, aR_2, h, hC, hr, c0, Or.inl ⟨rfl, rfl, rfl⟩⟩
theorem forget_some {r : Nat → Nat} {c : Nat → Int32} {sm pd : Int32} {st le po sc sg na se ou : Nat → Int32} (h : rI r) (hC : CS r sm pd st le po sc sg na se ou) (hr : rowOk 1343 c r) {nw hc : Nat} (hh : hc ≤ 14) (hw : nw < 15) (p1 : Int32) (D : SV) (dia : Nat → Int32) :
    ∃ A nw' hc' sm' st' le' po' sc' sg' na' v rf c' dia' r' d, fX6_forget_some p1 (nI nw) (nI hc) sm pd st D.2.2.1 le D.2.2.2.1 po D.2.2.2.2.1 sc D.2.2.2.2.2.1 sg D.2.2.2.2.2.2.1 na D.2.2.2.2.2.2.2.1 se D.2.2.2.2.2.2.2.2.1 ou D.2.2.2.2.2.2.2.2.2 = some (A, nI nw', nI hc', d.1, d.2.1, sm', st', d.2.2.1, le', d.2.2.2.1, po', d.2.2.2.2.1, sc', d.2.2.2.2.2.1, sg', d.2.2.2.2.2.2.1, na', d.2.2.2.2.2.2.2.1, d.2.2.2.2.2.2.2.2.1, d.2.2.2.2.2.2.2.2.2) ∧ fX7_forget p1 (nI hc) c dia = some (v, rf, nI hc', c', dia') ∧ aR ["java/lang/IndexOutOfBoundsException"] A v rf ∧ rI r' ∧ CS r' sm' pd st' le' po' sc' sg' na' se ou ∧ rowOk 1343 c' r' ∧ CSv r d ∧ acted r hc nw hc' nw' dia dia' := by
  have h16 := h.h16
  obtain ⟨d, e0, c0⟩ := prep_some h hC D
  unfold fX6_forget_some fX7_forget
  rw [e0, b10_so]
  rcases smp_arg p1 hr h16 with ⟨s, hs, rfl, e1, e2⟩ | ⟨e1, e2⟩
  · rw [← hC.1] at e1
    obtain ⟨st', le', po', sc', sg', na', e3, c1⟩ := cdrop_ok h hC hs e1
    obtain ⟨dia', e5, g1, g2⟩ := mrem_ok hr hh dia
    obtain ⟨c', e6, rl⟩ := mforget_ok hr h16 hs
    rw [e3, b8_so, if_neg i10, e2, b1_so, if_neg i10, rf0, if_pos rfl, e5, b2_so, e6, b2_so, ccommit_ok hh hw]
    exact ⟨_, _, _, _, _, _, _, _, _, _, _, _, _, _, _, _, rfl, rfl, aR_ok rfl, rI_forget h hs, c1, rl, c0, Or.inr ⟨rfl, rfl, g1, g2⟩⟩
  · rw [← hC.1] at e1
    rw [cdrop_no e1, b8_so, if_pos rfl, e2, b1_so, if_pos rfl, rf1, if_neg i10]
    exact ⟨_, _, _, _, _, _, _, _, _, _, _, _, _, _, _, _, rfl, rfl, aR_1, h, hC, hr, c0, Or.inl ⟨rfl, rfl, rfl⟩⟩
theorem practise_some {r : Nat → Nat} {c : Nat → Int32} {sm pd : Int32} {st le po sc sg na se ou : Nat → Int32} (h : rI r) (hC : CS r sm pd st le po sc sg na se ou) (hr : rowOk 1343 c r) {nw hc : Nat} (hh : hc ≤ 14) (hw : nw < 15) {k : Nat} (hk : k ≤ 9) (e1 : fX6_isName (nI k) = 1) (e2 : fX7_isName (nI k) = some 1) (D : SV) (v1 v2 v3 v4 w1 w2 w3 : Int32) (cs ds one two ks dia : Nat → Int32) :
    ∃ A nw' hc' pd' st' sc' ou' x1 x2 x3 x4 cs' ds' v rf y1 y2 y3 c' dia' one' two' ks' r' d, fX6_practise_some (nI k) (nI nw) (nI hc) sm pd st D.2.2.1 le D.2.2.2.1 po D.2.2.2.2.1 sc D.2.2.2.2.2.1 sg D.2.2.2.2.2.2.1 na D.2.2.2.2.2.2.2.1 se D.2.2.2.2.2.2.2.2.1 ou D.2.2.2.2.2.2.2.2.2 v1 v2 v3 v4 cs ds = some (A, nI nw', nI hc', d.1, d.2.1, pd', st', d.2.2.1, d.2.2.2.1, d.2.2.2.2.1, sc', d.2.2.2.2.2.1, d.2.2.2.2.2.2.1, d.2.2.2.2.2.2.2.1, d.2.2.2.2.2.2.2.2.1, ou', d.2.2.2.2.2.2.2.2.2, x1, x2, x3, x4, cs', ds') ∧ fX7_practise (nI k) (nI hc) w1 w2 w3 c dia one two ks = some (v, rf, nI hc', y1, y2, y3, c', dia', one', two', ks') ∧ aR ["java/lang/IllegalArgumentException", "java/lang/IllegalStateException"] A v rf ∧ rI r' ∧ CS r' sm pd' st' le po sc' sg na se ou' ∧ rowOk 1343 c' r' ∧ CSv r d ∧ acted r hc nw hc' nw' dia dia' := by
  obtain ⟨d, e0, c0⟩ := prep_some h hC D
  have h3 := h.hand.1.1.1
  unfold fX6_practise_some fX7_practise
  rw [e1, if_neg i10, e0, b10_so, e2, b1_so, if_neg i10, gk0 (by omega), k0, hr 0 (by omega)]
  by_cases q : r 0 = 0
  · rw [cprac_no hC q, b11_so, if_pos rfl, if_pos (show nI (r 0) = 0 by rw [q]; rfl), rf2, if_neg i10]
    exact ⟨_, _, _, _, _, _, _, _, _, _, _, _, _, _, _, _, _, _, _, _, _, _, _, _, _, rfl, rfl, aR_2, h, hC, hr, c0, Or.inl ⟨rfl, rfl, rfl⟩⟩
  · obtain ⟨st', x1, x2, x3, x4, sc', cs', ds', ou', e3, c1⟩ := cprac_ok h hC hk q v1 v2 v3 v4 cs ds
    obtain ⟨dia', e5, g1, g2⟩ := mrem_ok hr hh dia
    obtain ⟨c', a, b, w, one', two', ks', e6, rl⟩ := mprac_ok hr h hk one two ks
    have hle := pracM_le r k
    rw [e3, b11_so, if_neg (show ¬ nI (pracM r k) = (-1 : Int32) from nI_m1 (by omega)), if_neg (nI_ne0 (by omega) (by omega)), rf0, if_pos rfl, e5, b2_so, e6, b8_so, ccommit_ok hh hw]
    exact ⟨_, _, _, _, _, _, _, _, _, _, _, _, _, _, _, _, _, _, _, _, _, _, _, _, _, rfl, rfl, aR_ok rfl, rI_prac h hk hle, c1, rl, c0, Or.inr ⟨rfl, rfl, g1, g2⟩⟩
theorem set_some {r : Nat → Nat} {c : Nat → Int32} {sm pd : Int32} {st le po sc sg na se ou : Nat → Int32} (h : rI r) (hC : CS r sm pd st le po sc sg na se ou) (hr : rowOk 1343 c r) {nw hc : Nat} (hh : hc ≤ 14) (hw : nw < 15) {w u : Nat} (hs : setD w u) (e1 : fX6_isSetting (nI w) (nI u) = 1) (e2 : fX7_isSetting (nI w) (nI u) = 1) (D : SV) (one dia : Nat → Int32) :
    ∃ A nw' hc' se' sc' sg' v rf c' one' dia' r' d, fX6_set_some (nI w) (nI u) sm pd se (nI nw) (nI hc) st D.2.2.1 le D.2.2.2.1 po D.2.2.2.2.1 sc D.2.2.2.2.2.1 sg D.2.2.2.2.2.2.1 na D.2.2.2.2.2.2.2.1 D.2.2.2.2.2.2.2.2.1 ou D.2.2.2.2.2.2.2.2.2 = some (A, se', nI nw', nI hc', d.1, d.2.1, d.2.2.1, d.2.2.2.1, d.2.2.2.2.1, sc', d.2.2.2.2.2.1, sg', d.2.2.2.2.2.2.1, d.2.2.2.2.2.2.2.1, d.2.2.2.2.2.2.2.2.1, d.2.2.2.2.2.2.2.2.2) ∧ fX7_set (nI w) (nI u) (nI hc) c one dia = some (v, rf, nI hc', c', one', dia') ∧ aR ["java/lang/IllegalArgumentException", "java/lang/IllegalStateException"] A v rf ∧ rI r' ∧ CS r' sm pd st le po sc' sg' na se' ou ∧ rowOk 1343 c' r' ∧ CSv r d ∧ acted r hc nw hc' nw' dia dia' := by
  obtain ⟨d, e0, c0⟩ := prep_some h hC D
  have hw3 : w < 3 := by rcases hs with ⟨z, -⟩ | ⟨z, -⟩ | ⟨z, -⟩ <;> omega
  unfold fX6_set_some fX7_set
  rw [e1, if_neg i10, e0, b10_so, e2, if_neg i10]
  rcases cset_ok h hC hs with ⟨ho, se', sc', sg', e3, c1⟩ | ⟨ho, e3⟩
  · rcases mcanset_ok (one := one) hr h hs with ⟨-, one', e4⟩ | ⟨hn, -⟩
    · obtain ⟨dia', e5, g1, g2⟩ := mrem_ok hr hh dia
      rw [e3, b4_so, if_neg i10, e4, b2_so, if_neg i10, rf0, if_pos rfl, e5, b2_so, show (77 : Int32) = nI 77 from rfl, nI_add, gk (by omega) (by omega), gk (by omega) (by omega), b1_so, nI_clamp (by omega), hr _ (by omega), ccommit_ok hh hw, hC.se0 hw3]
      exact ⟨_, _, _, _, _, _, _, _, _, _, _, _, _, rfl, rfl, aR_ok rfl, rI_set h hs ho, c1, rowOk_upd hr (77 + w) u, c0, Or.inr ⟨rfl, rfl, g1, g2⟩⟩
    · exact absurd ho hn
  · rcases mcanset_ok (one := one) hr h hs with ⟨hn, -⟩ | ⟨-, one', e4⟩
    · exact absurd hn ho
    · rw [e3, b4_so, if_pos rfl, e4, b2_so, if_pos rfl, rf2, if_neg i10]
      exact ⟨_, _, _, _, _, _, _, _, _, _, _, _, _, rfl, rfl, aR_2, h, hC, hr, c0, Or.inl ⟨rfl, rfl, rfl⟩⟩
theorem point_some {r : Nat → Nat} {c : Nat → Int32} {sm pd : Int32} {st le po sc sg na se ou : Nat → Int32} (h : rI r) (hC : CS r sm pd st le po sc sg na se ou) (hr : rowOk 1343 c r) {nw hc : Nat} (hh : hc ≤ 14) (hw : nw < 15) {x y : Nat} (hx : x ≤ 60) (hy : y ≤ 60) (e1 : fX6_isOnGrid (nI x) = 1) (e1b : fX6_isOnGrid (nI y) = 1) (e2 : fX7_isPoint (nI x) (nI y) = 1) (D : SV) (tr one dia : Nat → Int32) :
    ∃ A nw' hc' pd' st' le' po' sc' sg' v rf c' tr' one' dia' r' d, fX6_point_some (nI x) (nI y) (nI nw) (nI hc) sm pd st D.2.2.1 le D.2.2.2.1 po D.2.2.2.2.1 sc D.2.2.2.2.2.1 sg D.2.2.2.2.2.2.1 na D.2.2.2.2.2.2.2.1 se D.2.2.2.2.2.2.2.2.1 ou D.2.2.2.2.2.2.2.2.2 = some (A, nI nw', nI hc', d.1, d.2.1, pd', st', d.2.2.1, le', d.2.2.2.1, po', d.2.2.2.2.1, sc', d.2.2.2.2.2.1, sg', d.2.2.2.2.2.2.1, d.2.2.2.2.2.2.2.1, d.2.2.2.2.2.2.2.2.1, d.2.2.2.2.2.2.2.2.2) ∧ fX7_point (nI x) (nI y) (nI hc) c tr one dia = some (v, rf, nI hc', c', tr', one', dia') ∧ aR ["java/lang/IllegalArgumentException", "java/lang/IllegalStateException"] A v rf ∧ rI r' ∧ CS r' sm pd' st' le' po' sc' sg' na se ou ∧ rowOk 1343 c' r' ∧ CSv r d ∧ acted r hc nw hc' nw' dia dia' := by
  have h16 := h.h16
  obtain ⟨d, e0, c0⟩ := prep_some h hC D
  obtain ⟨tr1, e3, t1⟩ := cpnow_ok hr tr
  unfold fX6_point_some fX7_point
  rw [e1, if_neg i10, e1b, if_neg i10, e0, b10_so, e2, if_neg i10, rf0, if_pos rfl, e3, b1_so]
  rcases cadd_ok h hC hx hy with ⟨ho, st', sc', le', po', sg', e4, c1⟩ | ⟨ho, e4⟩
  · rcases mlay_ok (one := one) t1 h hx hy with ⟨-, tr2, one', e5, t2⟩ | ⟨hn, -⟩
    · obtain ⟨dia', e6, g1, g2⟩ := mrem_ok hr hh dia
      obtain ⟨c', e7, t3⟩ := cpnow_ok t2 c
      have h' := rI_lay h hx hy ho
      obtain ⟨one2, e8, -⟩ := msg_ok h' c1 t3 (plc16 _) one'
      have e8 : fX7_signature (0 : Int32) (c' (77 : Int32).toNatClampNeg) 1343 41 c' one' = some (nI (sigM (layR r x y) 0 (layR r x y 77)).length, one2) := by
        rw [show (77 : Int32).toNatClampNeg = 77 by decide, t3 77 (by omega)]; exact e8
      have e9 : fX0_signsOf (16 : Int32) sc' = nI (sigM (layR r x y) 0 (layR r x y 77)).length := by
        unfold fX0_signsOf
        rw [show xcell (16 : Int32) 17 sc' = sc' 16 from xcell_in sc' (i := 16) (by omega) (by omega)]; exact c1.handS.1
      rw [e4, b7_so, if_neg i10, e5, b3_so, if_neg i10, e6, b2_so, e7, b1_so, show (77 : Int32) = nI 77 from rfl, gk (by omega) (by omega), show nI 77 = (77 : Int32) from rfl, e8, b2_so, ccommit_ok hh hw, e9]
      exact ⟨_, _, _, _, _, _, _, _, _, _, _, _, _, _, _, _, _, rfl, rfl, aR_ok rfl, h', c1, t3, c0, Or.inr ⟨rfl, rfl, g1, g2⟩⟩
    · rw [ho] at hn; exact absurd hn (by decide)
  · rcases mlay_ok (one := one) t1 h hx hy with ⟨hn, -⟩ | ⟨-, tr2, one', r2, e5, -⟩
    · rw [ho] at hn; exact absurd hn (by decide)
    · rw [e4, b7_so, if_pos rfl, e5, b3_so, if_pos rfl, rf2, if_neg i10]
      exact ⟨_, _, _, _, _, _, _, _, _, _, _, _, _, _, _, _, _, rfl, rfl, aR_2, h, hC, hr, c0, Or.inl ⟨rfl, rfl, rfl⟩⟩
theorem lift_some {r : Nat → Nat} {c : Nat → Int32} {sm pd : Int32} {st le po sc sg na se ou : Nat → Int32} (h : rI r) (hC : CS r sm pd st le po sc sg na se ou) (hr : rowOk 1343 c r) {nw hc : Nat} (hh : hc ≤ 14) (hw : nw < 15) (D : SV) (dia : Nat → Int32) :
    ∃ nw' hc' v c' dia' r' d, fX6_lift_some (nI nw) (nI hc) sm pd st D.2.2.1 le D.2.2.2.1 po D.2.2.2.2.1 sc D.2.2.2.2.2.1 sg D.2.2.2.2.2.2.1 na D.2.2.2.2.2.2.2.1 se D.2.2.2.2.2.2.2.2.1 ou D.2.2.2.2.2.2.2.2.2 = some (v, nI nw', nI hc', d.1, d.2.1, 0, d.2.2.1, d.2.2.2.1, d.2.2.2.2.1, d.2.2.2.2.2.1, d.2.2.2.2.2.2.1, d.2.2.2.2.2.2.2.1, d.2.2.2.2.2.2.2.2.1, d.2.2.2.2.2.2.2.2.2) ∧ fX7_lift (nI hc) c dia = some (v, 0, nI hc', c', dia') ∧ rI r' ∧ CS r' sm 0 st le po sc sg na se ou ∧ rowOk 1343 c' r' ∧ CSv r d ∧ acted r hc nw hc' nw' dia dia' := by
  obtain ⟨d, e0, c0⟩ := prep_some h hC D
  obtain ⟨dia', e5, g1, g2⟩ := mrem_ok hr hh dia
  unfold fX6_lift_some fX1_remember_some fX7_lift
  have e9 : fX0_strokesOf (16 : Int32) st = nI (r 0) := by
    rw [show fX0_strokesOf (16 : Int32) st = st 16 from strokes_at (p := 16) (by omega)]; exact hC.handF.1
  rw [e0, b10_so, b12_so, ccommit_ok hh hw, e5, b2_so, show (76 : Int32) = nI 76 from rfl, gk (by omega) (by omega), b1_so, gk0 (by omega), k0, nI_clamp (by omega), e9]
  rw [pk_un (by omega), hr 0 (by omega)]
  exact ⟨_, _, _, _, _, _, _, rfl, rfl, rI_lift h, CS_lift h hC, rowOk_upd hr 76 0, c0, Or.inr ⟨rfl, rfl, g1, g2⟩⟩
theorem learn_none {r : Nat → Nat} {c : Nat → Int32} {sm pd : Int32} {st le po sc sg na se ou : Nat → Int32} (h : rI r) (hC : CS r sm pd st le po sc sg na se ou) (hr : rowOk 1343 c r) {nw hc : Nat} (hh : hc ≤ 14) (hw : nw < 15) {k : Nat} (hk : k ≤ 9) (e1 : fX6_isName (nI k) = 1) (e2 : fX7_isName (nI k) = some 1) (one two ks dia : Nat → Int32) :
    ∃ A nw' hc' sm' pd' st' le' po' sc' sg' na' v rf c' one' two' ks' dia' r' d, fX6_learn_none (nI k) (nI nw) (nI hc) sm pd st le po sc sg na se ou = some (A, nI nw', nI hc', sm', pd', st', le', po', sc', sg', na', d.1, d.2.1, d.2.2.1, d.2.2.2.1, d.2.2.2.2.1, d.2.2.2.2.2.1, d.2.2.2.2.2.2.1, d.2.2.2.2.2.2.2.1, d.2.2.2.2.2.2.2.2.1, d.2.2.2.2.2.2.2.2.2) ∧ fX7_learn (nI k) (nI hc) c one two ks dia = some (v, rf, nI hc', c', one', two', ks', dia') ∧ aR ["java/lang/IllegalArgumentException", "java/lang/IllegalStateException"] A v rf ∧ rI r' ∧ CS r' sm' pd' st' le' po' sc' sg' na' se ou ∧ rowOk 1343 c' r' ∧ CSv r d ∧ acted r hc nw hc' nw' dia dia' := by
  have h16 := h.h16
  obtain ⟨d, e0, c0⟩ := prep_none h hC
  unfold fX6_learn_none fX7_learn
  rw [e1, if_neg i10, e0, b10_so, e2, b1_so, if_neg i10]
  rcases ckeep_ok h hC hk with ⟨ho, st', na', sc', sg', le', po', e3, c1⟩ | ⟨ho, e3⟩
  · rcases mcan_ok (one := one) (two := two) (cs := ks) hr h hk with ⟨-, one', two', ks', e4⟩ | ⟨hn, -⟩
    · obtain ⟨dia', e5, g1, g2⟩ := mrem_ok hr hh dia
      obtain ⟨c', e6, rl⟩ := mlearn_ok hr (by have := ho.2.1; omega) k
      rw [e3, b9_so, if_neg i10, e4, b4_so, if_neg i10, rf0, if_pos rfl, e5, b2_so, e6, b2_so, ccommit_ok hh hw, nI_pr (by omega), Nat.add_sub_cancel]
      exact ⟨_, _, _, _, _, _, _, _, _, _, _, _, _, _, _, _, _, _, _, _, rfl, rfl, aR_ok rfl, rI_learn h hk ho.2.1, c1, rl, c0, Or.inr ⟨rfl, rfl, g1, g2⟩⟩
    · exact absurd ho hn
  · rcases mcan_ok (one := one) (two := two) (cs := ks) hr h hk with ⟨hn, -⟩ | ⟨-, one', two', ks', e4⟩
    · exact absurd hn ho
    · rw [e3, b9_so, if_pos rfl, e4, b4_so, if_pos rfl, rf2, if_neg i10]
      exact ⟨_, _, _, _, _, _, _, _, _, _, _, _, _, _, _, _, _, _, _, _, rfl, rfl, aR_2, h, hC, hr, c0, Or.inl ⟨rfl, rfl, rfl⟩⟩
theorem forget_none {r : Nat → Nat} {c : Nat → Int32} {sm pd : Int32} {st le po sc sg na se ou : Nat → Int32} (h : rI r) (hC : CS r sm pd st le po sc sg na se ou) (hr : rowOk 1343 c r) {nw hc : Nat} (hh : hc ≤ 14) (hw : nw < 15) (p1 : Int32) (dia : Nat → Int32) :
    ∃ A nw' hc' sm' st' le' po' sc' sg' na' v rf c' dia' r' d, fX6_forget_none p1 (nI nw) (nI hc) sm pd st le po sc sg na se ou = some (A, nI nw', nI hc', sm', st', le', po', sc', sg', na', d.1, d.2.1, d.2.2.1, d.2.2.2.1, d.2.2.2.2.1, d.2.2.2.2.2.1, d.2.2.2.2.2.2.1, d.2.2.2.2.2.2.2.1, d.2.2.2.2.2.2.2.2.1, d.2.2.2.2.2.2.2.2.2) ∧ fX7_forget p1 (nI hc) c dia = some (v, rf, nI hc', c', dia') ∧ aR ["java/lang/IndexOutOfBoundsException"] A v rf ∧ rI r' ∧ CS r' sm' pd st' le' po' sc' sg' na' se ou ∧ rowOk 1343 c' r' ∧ CSv r d ∧ acted r hc nw hc' nw' dia dia' := by
  have h16 := h.h16
  obtain ⟨d, e0, c0⟩ := prep_none h hC
  unfold fX6_forget_none fX7_forget
  rw [e0, b10_so]
  rcases smp_arg p1 hr h16 with ⟨s, hs, rfl, e1, e2⟩ | ⟨e1, e2⟩
  · rw [← hC.1] at e1
    obtain ⟨st', le', po', sc', sg', na', e3, c1⟩ := cdrop_ok h hC hs e1
    obtain ⟨dia', e5, g1, g2⟩ := mrem_ok hr hh dia
    obtain ⟨c', e6, rl⟩ := mforget_ok hr h16 hs
    rw [e3, b8_so, if_neg i10, e2, b1_so, if_neg i10, rf0, if_pos rfl, e5, b2_so, e6, b2_so, ccommit_ok hh hw]
    exact ⟨_, _, _, _, _, _, _, _, _, _, _, _, _, _, _, _, rfl, rfl, aR_ok rfl, rI_forget h hs, c1, rl, c0, Or.inr ⟨rfl, rfl, g1, g2⟩⟩
  · rw [← hC.1] at e1
    rw [cdrop_no e1, b8_so, if_pos rfl, e2, b1_so, if_pos rfl, rf1, if_neg i10]
    exact ⟨_, _, _, _, _, _, _, _, _, _, _, _, _, _, _, _, rfl, rfl, aR_1, h, hC, hr, c0, Or.inl ⟨rfl, rfl, rfl⟩⟩
theorem practise_none {r : Nat → Nat} {c : Nat → Int32} {sm pd : Int32} {st le po sc sg na se ou : Nat → Int32} (h : rI r) (hC : CS r sm pd st le po sc sg na se ou) (hr : rowOk 1343 c r) {nw hc : Nat} (hh : hc ≤ 14) (hw : nw < 15) {k : Nat} (hk : k ≤ 9) (e1 : fX6_isName (nI k) = 1) (e2 : fX7_isName (nI k) = some 1) (v1 v2 v3 v4 w1 w2 w3 : Int32) (cs ds one two ks dia : Nat → Int32) :
    ∃ A nw' hc' pd' st' sc' ou' x1 x2 x3 x4 cs' ds' v rf y1 y2 y3 c' dia' one' two' ks' r' d, fX6_practise_none (nI k) (nI nw) (nI hc) sm pd st le po sc sg na se ou v1 v2 v3 v4 cs ds = some (A, nI nw', nI hc', pd', st', sc', ou', x1, x2, x3, x4, cs', ds', d.1, d.2.1, d.2.2.1, d.2.2.2.1, d.2.2.2.2.1, d.2.2.2.2.2.1, d.2.2.2.2.2.2.1, d.2.2.2.2.2.2.2.1, d.2.2.2.2.2.2.2.2.1, d.2.2.2.2.2.2.2.2.2) ∧ fX7_practise (nI k) (nI hc) w1 w2 w3 c dia one two ks = some (v, rf, nI hc', y1, y2, y3, c', dia', one', two', ks') ∧ aR ["java/lang/IllegalArgumentException", "java/lang/IllegalStateException"] A v rf ∧ rI r' ∧ CS r' sm pd' st' le po sc' sg na se ou' ∧ rowOk 1343 c' r' ∧ CSv r d ∧ acted r hc nw hc' nw' dia dia' := by
  obtain ⟨d, e0, c0⟩ := prep_none h hC
  have h3 := h.hand.1.1.1
  unfold fX6_practise_none fX7_practise
  rw [e1, if_neg i10, e0, b10_so, e2, b1_so, if_neg i10, gk0 (by omega), k0, hr 0 (by omega)]
  by_cases q : r 0 = 0
  · rw [cprac_no hC q, b11_so, if_pos rfl, if_pos (show nI (r 0) = 0 by rw [q]; rfl), rf2, if_neg i10]
    exact ⟨_, _, _, _, _, _, _, _, _, _, _, _, _, _, _, _, _, _, _, _, _, _, _, _, _, rfl, rfl, aR_2, h, hC, hr, c0, Or.inl ⟨rfl, rfl, rfl⟩⟩
  · obtain ⟨st', x1, x2, x3, x4, sc', cs', ds', ou', e3, c1⟩ := cprac_ok h hC hk q v1 v2 v3 v4 cs ds
    obtain ⟨dia', e5, g1, g2⟩ := mrem_ok hr hh dia
    obtain ⟨c', a, b, w, one', two', ks', e6, rl⟩ := mprac_ok hr h hk one two ks
    have hle := pracM_le r k
    rw [e3, b11_so, if_neg (show ¬ nI (pracM r k) = (-1 : Int32) from nI_m1 (by omega)), if_neg (nI_ne0 (by omega) (by omega)), rf0, if_pos rfl, e5, b2_so, e6, b8_so, ccommit_ok hh hw]
    exact ⟨_, _, _, _, _, _, _, _, _, _, _, _, _, _, _, _, _, _, _, _, _, _, _, _, _, rfl, rfl, aR_ok rfl, rI_prac h hk hle, c1, rl, c0, Or.inr ⟨rfl, rfl, g1, g2⟩⟩
theorem set_none {r : Nat → Nat} {c : Nat → Int32} {sm pd : Int32} {st le po sc sg na se ou : Nat → Int32} (h : rI r) (hC : CS r sm pd st le po sc sg na se ou) (hr : rowOk 1343 c r) {nw hc : Nat} (hh : hc ≤ 14) (hw : nw < 15) {w u : Nat} (hs : setD w u) (e1 : fX6_isSetting (nI w) (nI u) = 1) (e2 : fX7_isSetting (nI w) (nI u) = 1) (one dia : Nat → Int32) :
    ∃ A nw' hc' se' sc' sg' v rf c' one' dia' r' d, fX6_set_none (nI w) (nI u) sm pd se (nI nw) (nI hc) st le po sc sg na ou = some (A, se', nI nw', nI hc', sc', sg', d.1, d.2.1, d.2.2.1, d.2.2.2.1, d.2.2.2.2.1, d.2.2.2.2.2.1, d.2.2.2.2.2.2.1, d.2.2.2.2.2.2.2.1, d.2.2.2.2.2.2.2.2.1, d.2.2.2.2.2.2.2.2.2) ∧ fX7_set (nI w) (nI u) (nI hc) c one dia = some (v, rf, nI hc', c', one', dia') ∧ aR ["java/lang/IllegalArgumentException", "java/lang/IllegalStateException"] A v rf ∧ rI r' ∧ CS r' sm pd st le po sc' sg' na se' ou ∧ rowOk 1343 c' r' ∧ CSv r d ∧ acted r hc nw hc' nw' dia dia' := by
  obtain ⟨d, e0, c0⟩ := prep_none h hC
  have hw3 : w < 3 := by rcases hs with ⟨z, -⟩ | ⟨z, -⟩ | ⟨z, -⟩ <;> omega
  unfold fX6_set_none fX7_set
  rw [e1, if_neg i10, e0, b10_so, e2, if_neg i10]
  rcases cset_ok h hC hs with ⟨ho, se', sc', sg', e3, c1⟩ | ⟨ho, e3⟩
  · rcases mcanset_ok (one := one) hr h hs with ⟨-, one', e4⟩ | ⟨hn, -⟩
    · obtain ⟨dia', e5, g1, g2⟩ := mrem_ok hr hh dia
      rw [e3, b4_so, if_neg i10, e4, b2_so, if_neg i10, rf0, if_pos rfl, e5, b2_so, show (77 : Int32) = nI 77 from rfl, nI_add, gk (by omega) (by omega), gk (by omega) (by omega), b1_so, nI_clamp (by omega), hr _ (by omega), ccommit_ok hh hw, hC.se0 hw3]
      exact ⟨_, _, _, _, _, _, _, _, _, _, _, _, _, rfl, rfl, aR_ok rfl, rI_set h hs ho, c1, rowOk_upd hr (77 + w) u, c0, Or.inr ⟨rfl, rfl, g1, g2⟩⟩
    · exact absurd ho hn
  · rcases mcanset_ok (one := one) hr h hs with ⟨hn, -⟩ | ⟨-, one', e4⟩
    · exact absurd hn ho
    · rw [e3, b4_so, if_pos rfl, e4, b2_so, if_pos rfl, rf2, if_neg i10]
      exact ⟨_, _, _, _, _, _, _, _, _, _, _, _, _, rfl, rfl, aR_2, h, hC, hr, c0, Or.inl ⟨rfl, rfl, rfl⟩⟩
theorem point_none {r : Nat → Nat} {c : Nat → Int32} {sm pd : Int32} {st le po sc sg na se ou : Nat → Int32} (h : rI r) (hC : CS r sm pd st le po sc sg na se ou) (hr : rowOk 1343 c r) {nw hc : Nat} (hh : hc ≤ 14) (hw : nw < 15) {x y : Nat} (hx : x ≤ 60) (hy : y ≤ 60) (e1 : fX6_isOnGrid (nI x) = 1) (e1b : fX6_isOnGrid (nI y) = 1) (e2 : fX7_isPoint (nI x) (nI y) = 1) (tr one dia : Nat → Int32) :
    ∃ A nw' hc' pd' st' le' po' sc' sg' v rf c' tr' one' dia' r' d, fX6_point_none (nI x) (nI y) (nI nw) (nI hc) sm pd st le po sc sg na se ou = some (A, nI nw', nI hc', pd', st', le', po', sc', sg', d.1, d.2.1, d.2.2.1, d.2.2.2.1, d.2.2.2.2.1, d.2.2.2.2.2.1, d.2.2.2.2.2.2.1, d.2.2.2.2.2.2.2.1, d.2.2.2.2.2.2.2.2.1, d.2.2.2.2.2.2.2.2.2) ∧ fX7_point (nI x) (nI y) (nI hc) c tr one dia = some (v, rf, nI hc', c', tr', one', dia') ∧ aR ["java/lang/IllegalArgumentException", "java/lang/IllegalStateException"] A v rf ∧ rI r' ∧ CS r' sm pd' st' le' po' sc' sg' na se ou ∧ rowOk 1343 c' r' ∧ CSv r d ∧ acted r hc nw hc' nw' dia dia' := by
  have h16 := h.h16
  obtain ⟨d, e0, c0⟩ := prep_none h hC
  obtain ⟨tr1, e3, t1⟩ := cpnow_ok hr tr
  unfold fX6_point_none fX7_point
  rw [e1, if_neg i10, e1b, if_neg i10, e0, b10_so, e2, if_neg i10, rf0, if_pos rfl, e3, b1_so]
  rcases cadd_ok h hC hx hy with ⟨ho, st', sc', le', po', sg', e4, c1⟩ | ⟨ho, e4⟩
  · rcases mlay_ok (one := one) t1 h hx hy with ⟨-, tr2, one', e5, t2⟩ | ⟨hn, -⟩
    · obtain ⟨dia', e6, g1, g2⟩ := mrem_ok hr hh dia
      obtain ⟨c', e7, t3⟩ := cpnow_ok t2 c
      have h' := rI_lay h hx hy ho
      obtain ⟨one2, e8, -⟩ := msg_ok h' c1 t3 (plc16 _) one'
      have e8 : fX7_signature (0 : Int32) (c' (77 : Int32).toNatClampNeg) 1343 41 c' one' = some (nI (sigM (layR r x y) 0 (layR r x y 77)).length, one2) := by
        rw [show (77 : Int32).toNatClampNeg = 77 by decide, t3 77 (by omega)]; exact e8
      have e9 : fX0_signsOf (16 : Int32) sc' = nI (sigM (layR r x y) 0 (layR r x y 77)).length := by
        unfold fX0_signsOf
        rw [show xcell (16 : Int32) 17 sc' = sc' 16 from xcell_in sc' (i := 16) (by omega) (by omega)]; exact c1.handS.1
      rw [e4, b7_so, if_neg i10, e5, b3_so, if_neg i10, e6, b2_so, e7, b1_so, show (77 : Int32) = nI 77 from rfl, gk (by omega) (by omega), show nI 77 = (77 : Int32) from rfl, e8, b2_so, ccommit_ok hh hw, e9]
      exact ⟨_, _, _, _, _, _, _, _, _, _, _, _, _, _, _, _, _, rfl, rfl, aR_ok rfl, h', c1, t3, c0, Or.inr ⟨rfl, rfl, g1, g2⟩⟩
    · rw [ho] at hn; exact absurd hn (by decide)
  · rcases mlay_ok (one := one) t1 h hx hy with ⟨hn, -⟩ | ⟨-, tr2, one', r2, e5, -⟩
    · rw [ho] at hn; exact absurd hn (by decide)
    · rw [e4, b7_so, if_pos rfl, e5, b3_so, if_pos rfl, rf2, if_neg i10]
      exact ⟨_, _, _, _, _, _, _, _, _, _, _, _, _, _, _, _, _, rfl, rfl, aR_2, h, hC, hr, c0, Or.inl ⟨rfl, rfl, rfl⟩⟩
theorem lift_none {r : Nat → Nat} {c : Nat → Int32} {sm pd : Int32} {st le po sc sg na se ou : Nat → Int32} (h : rI r) (hC : CS r sm pd st le po sc sg na se ou) (hr : rowOk 1343 c r) {nw hc : Nat} (hh : hc ≤ 14) (hw : nw < 15) (dia : Nat → Int32) :
    ∃ nw' hc' v c' dia' r' d, fX6_lift_none (nI nw) (nI hc) sm pd st le po sc sg na se ou = some (v, nI nw', nI hc', 0, d.1, d.2.1, d.2.2.1, d.2.2.2.1, d.2.2.2.2.1, d.2.2.2.2.2.1, d.2.2.2.2.2.2.1, d.2.2.2.2.2.2.2.1, d.2.2.2.2.2.2.2.2.1, d.2.2.2.2.2.2.2.2.2) ∧ fX7_lift (nI hc) c dia = some (v, 0, nI hc', c', dia') ∧ rI r' ∧ CS r' sm 0 st le po sc sg na se ou ∧ rowOk 1343 c' r' ∧ CSv r d ∧ acted r hc nw hc' nw' dia dia' := by
  obtain ⟨d, e0, c0⟩ := prep_none h hC
  obtain ⟨dia', e5, g1, g2⟩ := mrem_ok hr hh dia
  unfold fX6_lift_none fX1_remember_none fX7_lift
  have e9 : fX0_strokesOf (16 : Int32) st = nI (r 0) := by
    rw [show fX0_strokesOf (16 : Int32) st = st 16 from strokes_at (p := 16) (by omega)]; exact hC.handF.1
  rw [e0, b10_so, b12_so, ccommit_ok hh hw, e5, b2_so, show (76 : Int32) = nI 76 from rfl, gk (by omega) (by omega), b1_so, gk0 (by omega), k0, nI_clamp (by omega), e9]
  rw [pk_un (by omega), hr 0 (by omega)]
  exact ⟨_, _, _, _, _, _, _, rfl, rfl, rI_lift h, CS_lift h hC, rowOk_upd hr 76 0, c0, Or.inr ⟨rfl, rfl, g1, g2⟩⟩
theorem learn_arg {p1 : Int32} (e1 : fX6_isName p1 = 0) (e2 : fX7_isName p1 = some 0) (x : Int32) (c one two ks dia : Nat → Int32) : fX6_learn_arg p1 = some (Sum.inr "java/lang/IllegalArgumentException") ∧ fX7_learn p1 x c one two ks dia = some (0, 1, x, c, one, two, ks, dia) := by
  unfold fX6_learn_arg fX7_learn
  rw [e1, e2, b1_so, if_pos rfl, if_pos rfl, rf1, if_neg i10]
  exact ⟨rfl, rfl⟩
theorem practise_arg {p1 : Int32} (e1 : fX6_isName p1 = 0) (e2 : fX7_isName p1 = some 0) (x w1 w2 w3 : Int32) (c one two ks dia : Nat → Int32) : fX6_practise_arg p1 = some (Sum.inr "java/lang/IllegalArgumentException") ∧ fX7_practise p1 x w1 w2 w3 c dia one two ks = some (0, 1, x, w1, w2, w3, c, dia, one, two, ks) := by
  unfold fX6_practise_arg fX7_practise
  rw [e1, e2, b1_so, if_pos rfl, if_pos rfl, rf1, if_neg i10]
  exact ⟨rfl, rfl⟩
theorem set_argx {p1 p2 : Int32} (e1 : fX6_isSetting p1 p2 = 0) (e2 : fX7_isSetting p1 p2 = 0) (x : Int32) (c one dia : Nat → Int32) : fX6_set_arg p1 p2 = some (Sum.inr "java/lang/IllegalArgumentException") ∧ fX7_set p1 p2 x c one dia = some (0, 1, x, c, one, dia) := by
  unfold fX6_set_arg fX7_set
  rw [e1, e2, if_pos rfl, if_pos rfl, rf1, if_neg i10]
  exact ⟨rfl, rfl⟩
theorem point_argx {p1 p2 : Int32} (e1 : fX6_isOnGrid p1 = 0 ∨ (fX6_isOnGrid p1 = 1 ∧ fX6_isOnGrid p2 = 0)) (e2 : fX7_isPoint p1 p2 = 0) (x : Int32) (c tr one dia : Nat → Int32) : fX6_point_arg p1 p2 = some (Sum.inr "java/lang/IllegalArgumentException") ∧ fX7_point p1 p2 x c tr one dia = some (0, 1, x, c, tr, one, dia) := by
  unfold fX6_point_arg fX7_point
  rw [e2, if_pos rfl, rf1, if_neg i10]
  rcases e1 with e1 | ⟨e1, e3⟩
  · rw [e1, if_pos rfl]; exact ⟨rfl, rfl⟩
  · rw [e1, if_neg i10, e3, if_pos rfl]; exact ⟨rfl, rfl⟩
end XPURE65
