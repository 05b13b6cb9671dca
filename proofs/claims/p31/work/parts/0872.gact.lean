/-! GHOST 3: the explicit outcomes of what changes the state -/
section XGACT
/-- the row behind an act, where there is one -/
def rowO (r : RW) : Option RW → RW
  | none => r
  | some r' => r'
def stepO (nw hc nw' hc' : Nat) : Option RW → Prop
  | none => nw' = nw ∧ hc' = hc
  | some _ => nw' = (nw + 1) % 15 ∧ hc' = min (hc + 1) 14
def hisO (r : RW) (hs : List RW) : Option RW → List RW
  | none => hs
  | some _ => pushH r hs
def nxt (G : GS) (o : Option RW) : GS := (rowO G.1 o, G.2.1, G.2.2.1, hisO G.1 G.2.2.2.1 o, G.2.2.2.2)
noncomputable def cIf {α : Sort _} (c : Prop) (x y : α) : α := @ite _ c (Classical.propDecidable _) x y
theorem cIf_pos {α : Sort _} {c : Prop} {x y : α} (h : c) : cIf c x y = x := if_pos h
theorem cIf_neg {α : Sort _} {c : Prop} {x y : α} (h : ¬ c) : cIf c x y = y := if_neg h
theorem HG_acted {nw nw' hc' p : Nat} {L L' : List LE} {hs : List RW} {kp : Nat → Option RW} {cr cr' cs : Nat → Option Nat} {q : Nat → Nat} {v : SV} {r : RW} {o : Option RW} (H : HG nw L hs kp cr cs) (ha : stepO nw hs.length nw' hc' o) (hI : rI r) (hv : CSv r v) (hp : p = (nw + 1) % 15) (hL : ∀ e, e ∈ L' ↔ e ∈ L ∧ e.1 ≠ p) (hn : (L'.map (fun e => e.1)).Nodup) (h1 : cr' p = some (q 0)) (h2 : ∀ j, j ≠ p → cr' j = cr j) : nI hc' = nI (hisO r hs o).length ∧ HG nw' (((p, q, v) : LE) :: L') (hisO r hs o) kp cr' cs := by
  cases o with
  | none =>
    obtain ⟨rfl, rfl⟩ := ha
    exact ⟨rfl, HG_keep H hp hL hn h1 h2⟩
  | some r' =>
    obtain ⟨e1, rfl⟩ := ha
    rw [e1, ← hp]
    refine ⟨?_, HG_push H hI hv hp hL hn h1 h2⟩
    show _ = nI (pushH r hs).length
    rw [pushH_len r hs H.1.1]
noncomputable def gLearn (r : RW) (p : Int32) : (Int32 ⊕ String) × Option RW := if fX6_isName p = 0 then (.inr xIA, none) else cIf (lrnOk r p.toNatClampNeg) (.inl (nI (r 110)), some (learnR r p.toNatClampNeg)) (.inr xIS, none)
def gForget (r : RW) (p : Int32) : (Int32 ⊕ String) × Option RW := if fX4_hasSample p (nI (r 110)) = 0 then (.inr xIO, none) else (.inl (nI (r 110 - 1)), some (forgetR r p.toNatClampNeg))
def gPractise (r : RW) (p : Int32) : (Int32 ⊕ String) × Option RW := if fX6_isName p = 0 then (.inr xIA, none) else if r 0 = 0 then (.inr xIS, none) else (.inl (nI (pracM r p.toNatClampNeg)), some (pracR r p.toNatClampNeg (pracM r p.toNatClampNeg)))
noncomputable def gSet (r : RW) (p q : Int32) : (Int32 ⊕ String) × Option RW := if fX6_isSetting p q = 0 then (.inr xIA, none) else cIf (setOk r p.toNatClampNeg q.toNatClampNeg) (.inl (nI (r (77 + p.toNatClampNeg))), some (setR r p.toNatClampNeg q.toNatClampNeg)) (.inr xIS, none)
def gPoint (r : RW) (p q : Int32) : (Int32 ⊕ String) × Option RW := if fX6_isOnGrid p = 0 then (.inr xIA, none) else if fX6_isOnGrid q = 0 then (.inr xIA, none) else if layOk r p.toNatClampNeg q.toNatClampNeg = true then (.inl (nI (sigM (layR r p.toNatClampNeg q.toNatClampNeg) 0 (layR r p.toNatClampNeg q.toNatClampNeg 77)).length), some (layR r p.toNatClampNeg q.toNatClampNeg)) else (.inr xIS, none)
def gLift (r : RW) : Int32 × Option RW := (nI (r 0), some (updN r 76 0))
noncomputable def gDraw (r : RW) (n : Nat) (t : Nat → Nat) : (Int32 ⊕ String) × Option RW := cIf ((prs t n (n + 1) 1 1 0).2 = none ∧ (sigM (txR t n r) 0 (r 77)).length ≤ 40) (.inl (nI (sigM (txR t n r) 0 (txR t n r 77)).length), some (txR t n r)) (.inr xIS, none)
theorem learn_g_some {r : Nat → Nat} {sm pd : Int32} {st le po sc sg na se ou : Nat → Int32} (h : rI r) (hC : CS r sm pd st le po sc sg na se ou) {nw hc : Nat} (hh : hc ≤ 14) (hw : nw < 15) {k : Nat} (hk : k ≤ 9) (e1 : fX6_isName (nI k) = 1) (D : SV) :
    ∃ nw' hc' sm' pd' st' le' po' sc' sg' na' d, fX6_learn_some (nI k) (nI nw) (nI hc) sm pd st D.2.2.1 le D.2.2.2.1 po D.2.2.2.2.1 sc D.2.2.2.2.2.1 sg D.2.2.2.2.2.2.1 na D.2.2.2.2.2.2.2.1 se D.2.2.2.2.2.2.2.2.1 ou D.2.2.2.2.2.2.2.2.2 = some ((gLearn r (nI k)).1, nI nw', nI hc', d.1, d.2.1, sm', pd', st', d.2.2.1, le', d.2.2.2.1, po', d.2.2.2.2.1, sc', d.2.2.2.2.2.1, sg', d.2.2.2.2.2.2.1, na', d.2.2.2.2.2.2.2.1, d.2.2.2.2.2.2.2.2.1, d.2.2.2.2.2.2.2.2.2) ∧ rI (rowO r (gLearn r (nI k)).2) ∧ CS (rowO r (gLearn r (nI k)).2) sm' pd' st' le' po' sc' sg' na' se ou ∧ CSv r d ∧ stepO nw hc nw' hc' (gLearn r (nI k)).2 := by
  have h16 := h.h16
  obtain ⟨d, e0, c0⟩ := prep_some h hC D
  unfold fX6_learn_some
  rw [e1, if_neg i10, e0, b10_so]
  rcases ckeep_ok h hC hk with ⟨ho, st', na', sc', sg', le', po', e3, c1⟩ | ⟨ho, e3⟩
  · have eg : gLearn r (nI k) = (.inl (nI (r 110)), some (learnR r k)) := by
      unfold gLearn; rw [e1, if_neg i10, nI_clamp (by omega), cIf_pos ho]
    rw [eg, e3, b9_so, if_neg i10, ccommit_ok hh hw, nI_pr (by omega), Nat.add_sub_cancel]
    exact ⟨_, _, _, _, _, _, _, _, _, _, _, rfl, rI_learn h hk ho.2.1, c1, c0, rfl, rfl⟩
  · have eg : gLearn r (nI k) = (.inr xIS, none) := by
      unfold gLearn; rw [e1, if_neg i10, nI_clamp (by omega), cIf_neg ho]
    rw [eg, e3, b9_so, if_pos rfl]
    exact ⟨_, _, _, _, _, _, _, _, _, _, _, rfl, h, hC, c0, rfl, rfl⟩
theorem forget_g_some {r : Nat → Nat} {sm pd : Int32} {st le po sc sg na se ou : Nat → Int32} (h : rI r) (hC : CS r sm pd st le po sc sg na se ou) {nw hc : Nat} (hh : hc ≤ 14) (hw : nw < 15) (p1 : Int32) (D : SV) :
    ∃ nw' hc' sm' st' le' po' sc' sg' na' d, fX6_forget_some p1 (nI nw) (nI hc) sm pd st D.2.2.1 le D.2.2.2.1 po D.2.2.2.2.1 sc D.2.2.2.2.2.1 sg D.2.2.2.2.2.2.1 na D.2.2.2.2.2.2.2.1 se D.2.2.2.2.2.2.2.2.1 ou D.2.2.2.2.2.2.2.2.2 = some ((gForget r p1).1, nI nw', nI hc', d.1, d.2.1, sm', st', d.2.2.1, le', d.2.2.2.1, po', d.2.2.2.2.1, sc', d.2.2.2.2.2.1, sg', d.2.2.2.2.2.2.1, na', d.2.2.2.2.2.2.2.1, d.2.2.2.2.2.2.2.2.1, d.2.2.2.2.2.2.2.2.2) ∧ rI (rowO r (gForget r p1).2) ∧ CS (rowO r (gForget r p1).2) sm' pd st' le' po' sc' sg' na' se ou ∧ CSv r d ∧ stepO nw hc nw' hc' (gForget r p1).2 := by
  have h16 := h.h16
  obtain ⟨d, e0, c0⟩ := prep_some h hC D
  unfold fX6_forget_some
  rw [e0, b10_so]
  rcases has_arg p1 h16 with ⟨s, hs, rfl, e1⟩ | e1
  · have eg : gForget r (nI s) = (.inl (nI (r 110 - 1)), some (forgetR r s)) := by
      unfold gForget; rw [e1, if_neg i10, nI_clamp (by omega)]
    rw [← hC.1] at e1
    obtain ⟨st', le', po', sc', sg', na', e3, c1⟩ := cdrop_ok h hC hs e1
    rw [eg, e3, b8_so, if_neg i10, ccommit_ok hh hw]
    exact ⟨_, _, _, _, _, _, _, _, _, _, rfl, rI_forget h hs, c1, c0, rfl, rfl⟩
  · have eg : gForget r p1 = (.inr xIO, none) := by
      unfold gForget; rw [e1, if_pos rfl]
    rw [← hC.1] at e1
    rw [eg, cdrop_no e1, b8_so, if_pos rfl]
    exact ⟨_, _, _, _, _, _, _, _, _, _, rfl, h, hC, c0, rfl, rfl⟩
theorem practise_g_some {r : Nat → Nat} {sm pd : Int32} {st le po sc sg na se ou : Nat → Int32} (h : rI r) (hC : CS r sm pd st le po sc sg na se ou) {nw hc : Nat} (hh : hc ≤ 14) (hw : nw < 15) {k : Nat} (hk : k ≤ 9) (e1 : fX6_isName (nI k) = 1) (D : SV) (v1 v2 v3 v4 : Int32) (cs ds : Nat → Int32) :
    ∃ nw' hc' pd' st' sc' ou' x1 x2 x3 x4 cs' ds' d, fX6_practise_some (nI k) (nI nw) (nI hc) sm pd st D.2.2.1 le D.2.2.2.1 po D.2.2.2.2.1 sc D.2.2.2.2.2.1 sg D.2.2.2.2.2.2.1 na D.2.2.2.2.2.2.2.1 se D.2.2.2.2.2.2.2.2.1 ou D.2.2.2.2.2.2.2.2.2 v1 v2 v3 v4 cs ds = some ((gPractise r (nI k)).1, nI nw', nI hc', d.1, d.2.1, pd', st', d.2.2.1, d.2.2.2.1, d.2.2.2.2.1, sc', d.2.2.2.2.2.1, d.2.2.2.2.2.2.1, d.2.2.2.2.2.2.2.1, d.2.2.2.2.2.2.2.2.1, ou', d.2.2.2.2.2.2.2.2.2, x1, x2, x3, x4, cs', ds') ∧ rI (rowO r (gPractise r (nI k)).2) ∧ CS (rowO r (gPractise r (nI k)).2) sm pd' st' le po sc' sg na se ou' ∧ CSv r d ∧ stepO nw hc nw' hc' (gPractise r (nI k)).2 := by
  obtain ⟨d, e0, c0⟩ := prep_some h hC D
  have h3 := h.hand.1.1.1
  unfold fX6_practise_some
  rw [e1, if_neg i10, e0, b10_so]
  by_cases q : r 0 = 0
  · have eg : gPractise r (nI k) = (.inr xIS, none) := by
      unfold gPractise; rw [e1, if_neg i10, if_pos q]
    rw [eg, cprac_no hC q, b11_so, if_pos rfl]
    exact ⟨_, _, _, _, _, _, _, _, _, _, _, _, _, rfl, h, hC, c0, rfl, rfl⟩
  · obtain ⟨st', x1, x2, x3, x4, sc', cs', ds', ou', e3, c1⟩ := cprac_ok h hC hk q v1 v2 v3 v4 cs ds
    have hle := pracM_le r k
    have eg : gPractise r (nI k) = (.inl (nI (pracM r k)), some (pracR r k (pracM r k))) := by
      unfold gPractise; rw [e1, if_neg i10, if_neg q, nI_clamp (by omega)]
    rw [eg, e3, b11_so, if_neg (show ¬ nI (pracM r k) = (-1 : Int32) from nI_m1 (by omega)), ccommit_ok hh hw]
    exact ⟨_, _, _, _, _, _, _, _, _, _, _, _, _, rfl, rI_prac h hk hle, c1, c0, rfl, rfl⟩
theorem set_g_some {r : Nat → Nat} {sm pd : Int32} {st le po sc sg na se ou : Nat → Int32} (h : rI r) (hC : CS r sm pd st le po sc sg na se ou) {nw hc : Nat} (hh : hc ≤ 14) (hw : nw < 15) {w u : Nat} (hs : setD w u) (e1 : fX6_isSetting (nI w) (nI u) = 1) (D : SV) :
    ∃ nw' hc' se' sc' sg' d, fX6_set_some (nI w) (nI u) sm pd se (nI nw) (nI hc) st D.2.2.1 le D.2.2.2.1 po D.2.2.2.2.1 sc D.2.2.2.2.2.1 sg D.2.2.2.2.2.2.1 na D.2.2.2.2.2.2.2.1 D.2.2.2.2.2.2.2.2.1 ou D.2.2.2.2.2.2.2.2.2 = some ((gSet r (nI w) (nI u)).1, se', nI nw', nI hc', d.1, d.2.1, d.2.2.1, d.2.2.2.1, d.2.2.2.2.1, sc', d.2.2.2.2.2.1, sg', d.2.2.2.2.2.2.1, d.2.2.2.2.2.2.2.1, d.2.2.2.2.2.2.2.2.1, d.2.2.2.2.2.2.2.2.2) ∧ rI (rowO r (gSet r (nI w) (nI u)).2) ∧ CS (rowO r (gSet r (nI w) (nI u)).2) sm pd st le po sc' sg' na se' ou ∧ CSv r d ∧ stepO nw hc nw' hc' (gSet r (nI w) (nI u)).2 := by
  obtain ⟨d, e0, c0⟩ := prep_some h hC D
  have hw3 : w < 3 := by rcases hs with ⟨z, -⟩ | ⟨z, -⟩ | ⟨z, -⟩ <;> omega
  have hu99 : u ≤ 99 := by rcases hs with ⟨-, -, z⟩ | ⟨-, z⟩ | ⟨-, -, z⟩ <;> omega
  unfold fX6_set_some
  rw [e1, if_neg i10, e0, b10_so]
  rcases cset_ok h hC hs with ⟨ho, se', sc', sg', e3, c1⟩ | ⟨ho, e3⟩
  · have eg : gSet r (nI w) (nI u) = (.inl (nI (r (77 + w))), some (setR r w u)) := by
      unfold gSet; rw [e1, if_neg i10, nI_clamp (by omega), nI_clamp (by omega), cIf_pos ho]
    rw [eg, e3, b4_so, if_neg i10, ccommit_ok hh hw, hC.se0 hw3]
    exact ⟨_, _, _, _, _, _, rfl, rI_set h hs ho, c1, c0, rfl, rfl⟩
  · have eg : gSet r (nI w) (nI u) = (.inr xIS, none) := by
      unfold gSet; rw [e1, if_neg i10, nI_clamp (by omega), nI_clamp (by omega), cIf_neg ho]
    rw [eg, e3, b4_so, if_pos rfl]
    exact ⟨_, _, _, _, _, _, rfl, h, hC, c0, rfl, rfl⟩
theorem point_g_some {r : Nat → Nat} {sm pd : Int32} {st le po sc sg na se ou : Nat → Int32} (h : rI r) (hC : CS r sm pd st le po sc sg na se ou) {nw hc : Nat} (hh : hc ≤ 14) (hw : nw < 15) {x y : Nat} (hx : x ≤ 60) (hy : y ≤ 60) (e1 : fX6_isOnGrid (nI x) = 1) (e1b : fX6_isOnGrid (nI y) = 1) (D : SV) :
    ∃ nw' hc' pd' st' le' po' sc' sg' d, fX6_point_some (nI x) (nI y) (nI nw) (nI hc) sm pd st D.2.2.1 le D.2.2.2.1 po D.2.2.2.2.1 sc D.2.2.2.2.2.1 sg D.2.2.2.2.2.2.1 na D.2.2.2.2.2.2.2.1 se D.2.2.2.2.2.2.2.2.1 ou D.2.2.2.2.2.2.2.2.2 = some ((gPoint r (nI x) (nI y)).1, nI nw', nI hc', d.1, d.2.1, pd', st', d.2.2.1, le', d.2.2.2.1, po', d.2.2.2.2.1, sc', d.2.2.2.2.2.1, sg', d.2.2.2.2.2.2.1, d.2.2.2.2.2.2.2.1, d.2.2.2.2.2.2.2.2.1, d.2.2.2.2.2.2.2.2.2) ∧ rI (rowO r (gPoint r (nI x) (nI y)).2) ∧ CS (rowO r (gPoint r (nI x) (nI y)).2) sm pd' st' le' po' sc' sg' na se ou ∧ CSv r d ∧ stepO nw hc nw' hc' (gPoint r (nI x) (nI y)).2 := by
  have h16 := h.h16
  obtain ⟨d, e0, c0⟩ := prep_some h hC D
  unfold fX6_point_some
  rw [e1, if_neg i10, e1b, if_neg i10, e0, b10_so]
  rcases cadd_ok h hC hx hy with ⟨ho, st', sc', le', po', sg', e4, c1⟩ | ⟨ho, e4⟩
  · have e9 : fX0_signsOf (16 : Int32) sc' = nI (sigM (layR r x y) 0 (layR r x y 77)).length := by
      rw [show fX0_signsOf (16 : Int32) sc' = sc' 16 from signsOf_nI (p := 16) (by omega)]; exact c1.handS.1
    have eg : gPoint r (nI x) (nI y) = (.inl (nI (sigM (layR r x y) 0 (layR r x y 77)).length), some (layR r x y)) := by
      unfold gPoint; rw [e1, if_neg i10, e1b, if_neg i10, nI_clamp (by omega), nI_clamp (by omega), if_pos ho]
    rw [eg, e4, b7_so, if_neg i10, ccommit_ok hh hw, e9]
    exact ⟨_, _, _, _, _, _, _, _, _, rfl, rI_lay h hx hy ho, c1, c0, rfl, rfl⟩
  · have eg : gPoint r (nI x) (nI y) = (.inr xIS, none) := by
      unfold gPoint; rw [e1, if_neg i10, e1b, if_neg i10, nI_clamp (by omega), nI_clamp (by omega), if_neg (by rw [ho]; decide)]
    rw [eg, e4, b7_so, if_pos rfl]
    exact ⟨_, _, _, _, _, _, _, _, _, rfl, h, hC, c0, rfl, rfl⟩
theorem lift_g_some {r : Nat → Nat} {sm pd : Int32} {st le po sc sg na se ou : Nat → Int32} (h : rI r) (hC : CS r sm pd st le po sc sg na se ou) {nw hc : Nat} (hh : hc ≤ 14) (hw : nw < 15) (D : SV) :
    ∃ nw' hc' d, fX6_lift_some (nI nw) (nI hc) sm pd st D.2.2.1 le D.2.2.2.1 po D.2.2.2.2.1 sc D.2.2.2.2.2.1 sg D.2.2.2.2.2.2.1 na D.2.2.2.2.2.2.2.1 se D.2.2.2.2.2.2.2.2.1 ou D.2.2.2.2.2.2.2.2.2 = some (nI (r 0), nI nw', nI hc', d.1, d.2.1, 0, d.2.2.1, d.2.2.2.1, d.2.2.2.2.1, d.2.2.2.2.2.1, d.2.2.2.2.2.2.1, d.2.2.2.2.2.2.2.1, d.2.2.2.2.2.2.2.2.1, d.2.2.2.2.2.2.2.2.2) ∧ rI (updN r 76 0) ∧ CS (updN r 76 0) sm 0 st le po sc sg na se ou ∧ CSv r d ∧ stepO nw hc nw' hc' (some (updN r 76 0)) := by
  obtain ⟨d, e0, c0⟩ := prep_some h hC D
  unfold fX6_lift_some fX1_remember_some
  have e9 : fX0_strokesOf (16 : Int32) st = nI (r 0) := by
    rw [show fX0_strokesOf (16 : Int32) st = st 16 from strokes_at (p := 16) (by omega)]; exact hC.handF.1
  rw [e0, b10_so, b12_so, ccommit_ok hh hw, e9]
  exact ⟨_, _, _, rfl, rI_lift h, CS_lift h hC, c0, rfl, rfl⟩
theorem learn_g_none {r : Nat → Nat} {sm pd : Int32} {st le po sc sg na se ou : Nat → Int32} (h : rI r) (hC : CS r sm pd st le po sc sg na se ou) {nw hc : Nat} (hh : hc ≤ 14) (hw : nw < 15) {k : Nat} (hk : k ≤ 9) (e1 : fX6_isName (nI k) = 1) :
    ∃ nw' hc' sm' pd' st' le' po' sc' sg' na' d, fX6_learn_none (nI k) (nI nw) (nI hc) sm pd st le po sc sg na se ou = some ((gLearn r (nI k)).1, nI nw', nI hc', sm', pd', st', le', po', sc', sg', na', d.1, d.2.1, d.2.2.1, d.2.2.2.1, d.2.2.2.2.1, d.2.2.2.2.2.1, d.2.2.2.2.2.2.1, d.2.2.2.2.2.2.2.1, d.2.2.2.2.2.2.2.2.1, d.2.2.2.2.2.2.2.2.2) ∧ rI (rowO r (gLearn r (nI k)).2) ∧ CS (rowO r (gLearn r (nI k)).2) sm' pd' st' le' po' sc' sg' na' se ou ∧ CSv r d ∧ stepO nw hc nw' hc' (gLearn r (nI k)).2 := by
  have h16 := h.h16
  obtain ⟨d, e0, c0⟩ := prep_none h hC
  unfold fX6_learn_none
  rw [e1, if_neg i10, e0, b10_so]
  rcases ckeep_ok h hC hk with ⟨ho, st', na', sc', sg', le', po', e3, c1⟩ | ⟨ho, e3⟩
  · have eg : gLearn r (nI k) = (.inl (nI (r 110)), some (learnR r k)) := by
      unfold gLearn; rw [e1, if_neg i10, nI_clamp (by omega), cIf_pos ho]
    rw [eg, e3, b9_so, if_neg i10, ccommit_ok hh hw, nI_pr (by omega), Nat.add_sub_cancel]
    exact ⟨_, _, _, _, _, _, _, _, _, _, _, rfl, rI_learn h hk ho.2.1, c1, c0, rfl, rfl⟩
  · have eg : gLearn r (nI k) = (.inr xIS, none) := by
      unfold gLearn; rw [e1, if_neg i10, nI_clamp (by omega), cIf_neg ho]
    rw [eg, e3, b9_so, if_pos rfl]
    exact ⟨_, _, _, _, _, _, _, _, _, _, _, rfl, h, hC, c0, rfl, rfl⟩
theorem forget_g_none {r : Nat → Nat} {sm pd : Int32} {st le po sc sg na se ou : Nat → Int32} (h : rI r) (hC : CS r sm pd st le po sc sg na se ou) {nw hc : Nat} (hh : hc ≤ 14) (hw : nw < 15) (p1 : Int32) :
    ∃ nw' hc' sm' st' le' po' sc' sg' na' d, fX6_forget_none p1 (nI nw) (nI hc) sm pd st le po sc sg na se ou = some ((gForget r p1).1, nI nw', nI hc', sm', st', le', po', sc', sg', na', d.1, d.2.1, d.2.2.1, d.2.2.2.1, d.2.2.2.2.1, d.2.2.2.2.2.1, d.2.2.2.2.2.2.1, d.2.2.2.2.2.2.2.1, d.2.2.2.2.2.2.2.2.1, d.2.2.2.2.2.2.2.2.2) ∧ rI (rowO r (gForget r p1).2) ∧ CS (rowO r (gForget r p1).2) sm' pd st' le' po' sc' sg' na' se ou ∧ CSv r d ∧ stepO nw hc nw' hc' (gForget r p1).2 := by
  have h16 := h.h16
  obtain ⟨d, e0, c0⟩ := prep_none h hC
  unfold fX6_forget_none
  rw [e0, b10_so]
  rcases has_arg p1 h16 with ⟨s, hs, rfl, e1⟩ | e1
  · have eg : gForget r (nI s) = (.inl (nI (r 110 - 1)), some (forgetR r s)) := by
      unfold gForget; rw [e1, if_neg i10, nI_clamp (by omega)]
    rw [← hC.1] at e1
    obtain ⟨st', le', po', sc', sg', na', e3, c1⟩ := cdrop_ok h hC hs e1
    rw [eg, e3, b8_so, if_neg i10, ccommit_ok hh hw]
    exact ⟨_, _, _, _, _, _, _, _, _, _, rfl, rI_forget h hs, c1, c0, rfl, rfl⟩
  · have eg : gForget r p1 = (.inr xIO, none) := by
      unfold gForget; rw [e1, if_pos rfl]
    rw [← hC.1] at e1
    rw [eg, cdrop_no e1, b8_so, if_pos rfl]
    exact ⟨_, _, _, _, _, _, _, _, _, _, rfl, h, hC, c0, rfl, rfl⟩
theorem practise_g_none {r : Nat → Nat} {sm pd : Int32} {st le po sc sg na se ou : Nat → Int32} (h : rI r) (hC : CS r sm pd st le po sc sg na se ou) {nw hc : Nat} (hh : hc ≤ 14) (hw : nw < 15) {k : Nat} (hk : k ≤ 9) (e1 : fX6_isName (nI k) = 1) (v1 v2 v3 v4 : Int32) (cs ds : Nat → Int32) :
    ∃ nw' hc' pd' st' sc' ou' x1 x2 x3 x4 cs' ds' d, fX6_practise_none (nI k) (nI nw) (nI hc) sm pd st le po sc sg na se ou v1 v2 v3 v4 cs ds = some ((gPractise r (nI k)).1, nI nw', nI hc', pd', st', sc', ou', x1, x2, x3, x4, cs', ds', d.1, d.2.1, d.2.2.1, d.2.2.2.1, d.2.2.2.2.1, d.2.2.2.2.2.1, d.2.2.2.2.2.2.1, d.2.2.2.2.2.2.2.1, d.2.2.2.2.2.2.2.2.1, d.2.2.2.2.2.2.2.2.2) ∧ rI (rowO r (gPractise r (nI k)).2) ∧ CS (rowO r (gPractise r (nI k)).2) sm pd' st' le po sc' sg na se ou' ∧ CSv r d ∧ stepO nw hc nw' hc' (gPractise r (nI k)).2 := by
  obtain ⟨d, e0, c0⟩ := prep_none h hC
  have h3 := h.hand.1.1.1
  unfold fX6_practise_none
  rw [e1, if_neg i10, e0, b10_so]
  by_cases q : r 0 = 0
  · have eg : gPractise r (nI k) = (.inr xIS, none) := by
      unfold gPractise; rw [e1, if_neg i10, if_pos q]
    rw [eg, cprac_no hC q, b11_so, if_pos rfl]
    exact ⟨_, _, _, _, _, _, _, _, _, _, _, _, _, rfl, h, hC, c0, rfl, rfl⟩
  · obtain ⟨st', x1, x2, x3, x4, sc', cs', ds', ou', e3, c1⟩ := cprac_ok h hC hk q v1 v2 v3 v4 cs ds
    have hle := pracM_le r k
    have eg : gPractise r (nI k) = (.inl (nI (pracM r k)), some (pracR r k (pracM r k))) := by
      unfold gPractise; rw [e1, if_neg i10, if_neg q, nI_clamp (by omega)]
    rw [eg, e3, b11_so, if_neg (show ¬ nI (pracM r k) = (-1 : Int32) from nI_m1 (by omega)), ccommit_ok hh hw]
    exact ⟨_, _, _, _, _, _, _, _, _, _, _, _, _, rfl, rI_prac h hk hle, c1, c0, rfl, rfl⟩
theorem set_g_none {r : Nat → Nat} {sm pd : Int32} {st le po sc sg na se ou : Nat → Int32} (h : rI r) (hC : CS r sm pd st le po sc sg na se ou) {nw hc : Nat} (hh : hc ≤ 14) (hw : nw < 15) {w u : Nat} (hs : setD w u) (e1 : fX6_isSetting (nI w) (nI u) = 1) :
    ∃ nw' hc' se' sc' sg' d, fX6_set_none (nI w) (nI u) sm pd se (nI nw) (nI hc) st le po sc sg na ou = some ((gSet r (nI w) (nI u)).1, se', nI nw', nI hc', sc', sg', d.1, d.2.1, d.2.2.1, d.2.2.2.1, d.2.2.2.2.1, d.2.2.2.2.2.1, d.2.2.2.2.2.2.1, d.2.2.2.2.2.2.2.1, d.2.2.2.2.2.2.2.2.1, d.2.2.2.2.2.2.2.2.2) ∧ rI (rowO r (gSet r (nI w) (nI u)).2) ∧ CS (rowO r (gSet r (nI w) (nI u)).2) sm pd st le po sc' sg' na se' ou ∧ CSv r d ∧ stepO nw hc nw' hc' (gSet r (nI w) (nI u)).2 := by
  obtain ⟨d, e0, c0⟩ := prep_none h hC
  have hw3 : w < 3 := by rcases hs with ⟨z, -⟩ | ⟨z, -⟩ | ⟨z, -⟩ <;> omega
  have hu99 : u ≤ 99 := by rcases hs with ⟨-, -, z⟩ | ⟨-, z⟩ | ⟨-, -, z⟩ <;> omega
  unfold fX6_set_none
  rw [e1, if_neg i10, e0, b10_so]
  rcases cset_ok h hC hs with ⟨ho, se', sc', sg', e3, c1⟩ | ⟨ho, e3⟩
  · have eg : gSet r (nI w) (nI u) = (.inl (nI (r (77 + w))), some (setR r w u)) := by
      unfold gSet; rw [e1, if_neg i10, nI_clamp (by omega), nI_clamp (by omega), cIf_pos ho]
    rw [eg, e3, b4_so, if_neg i10, ccommit_ok hh hw, hC.se0 hw3]
    exact ⟨_, _, _, _, _, _, rfl, rI_set h hs ho, c1, c0, rfl, rfl⟩
  · have eg : gSet r (nI w) (nI u) = (.inr xIS, none) := by
      unfold gSet; rw [e1, if_neg i10, nI_clamp (by omega), nI_clamp (by omega), cIf_neg ho]
    rw [eg, e3, b4_so, if_pos rfl]
    exact ⟨_, _, _, _, _, _, rfl, h, hC, c0, rfl, rfl⟩
theorem point_g_none {r : Nat → Nat} {sm pd : Int32} {st le po sc sg na se ou : Nat → Int32} (h : rI r) (hC : CS r sm pd st le po sc sg na se ou) {nw hc : Nat} (hh : hc ≤ 14) (hw : nw < 15) {x y : Nat} (hx : x ≤ 60) (hy : y ≤ 60) (e1 : fX6_isOnGrid (nI x) = 1) (e1b : fX6_isOnGrid (nI y) = 1) :
    ∃ nw' hc' pd' st' le' po' sc' sg' d, fX6_point_none (nI x) (nI y) (nI nw) (nI hc) sm pd st le po sc sg na se ou = some ((gPoint r (nI x) (nI y)).1, nI nw', nI hc', pd', st', le', po', sc', sg', d.1, d.2.1, d.2.2.1, d.2.2.2.1, d.2.2.2.2.1, d.2.2.2.2.2.1, d.2.2.2.2.2.2.1, d.2.2.2.2.2.2.2.1, d.2.2.2.2.2.2.2.2.1, d.2.2.2.2.2.2.2.2.2) ∧ rI (rowO r (gPoint r (nI x) (nI y)).2) ∧ CS (rowO r (gPoint r (nI x) (nI y)).2) sm pd' st' le' po' sc' sg' na se ou ∧ CSv r d ∧ stepO nw hc nw' hc' (gPoint r (nI x) (nI y)).2 := by
  have h16 := h.h16
  obtain ⟨d, e0, c0⟩ := prep_none h hC
  unfold fX6_point_none
  rw [e1, if_neg i10, e1b, if_neg i10, e0, b10_so]
  rcases cadd_ok h hC hx hy with ⟨ho, st', sc', le', po', sg', e4, c1⟩ | ⟨ho, e4⟩
  · have e9 : fX0_signsOf (16 : Int32) sc' = nI (sigM (layR r x y) 0 (layR r x y 77)).length := by
      rw [show fX0_signsOf (16 : Int32) sc' = sc' 16 from signsOf_nI (p := 16) (by omega)]; exact c1.handS.1
    have eg : gPoint r (nI x) (nI y) = (.inl (nI (sigM (layR r x y) 0 (layR r x y 77)).length), some (layR r x y)) := by
      unfold gPoint; rw [e1, if_neg i10, e1b, if_neg i10, nI_clamp (by omega), nI_clamp (by omega), if_pos ho]
    rw [eg, e4, b7_so, if_neg i10, ccommit_ok hh hw, e9]
    exact ⟨_, _, _, _, _, _, _, _, _, rfl, rI_lay h hx hy ho, c1, c0, rfl, rfl⟩
  · have eg : gPoint r (nI x) (nI y) = (.inr xIS, none) := by
      unfold gPoint; rw [e1, if_neg i10, e1b, if_neg i10, nI_clamp (by omega), nI_clamp (by omega), if_neg (by rw [ho]; decide)]
    rw [eg, e4, b7_so, if_pos rfl]
    exact ⟨_, _, _, _, _, _, _, _, _, rfl, h, hC, c0, rfl, rfl⟩
theorem lift_g_none {r : Nat → Nat} {sm pd : Int32} {st le po sc sg na se ou : Nat → Int32} (h : rI r) (hC : CS r sm pd st le po sc sg na se ou) {nw hc : Nat} (hh : hc ≤ 14) (hw : nw < 15) :
    ∃ nw' hc' d, fX6_lift_none (nI nw) (nI hc) sm pd st le po sc sg na se ou = some (nI (r 0), nI nw', nI hc', 0, d.1, d.2.1, d.2.2.1, d.2.2.2.1, d.2.2.2.2.1, d.2.2.2.2.2.1, d.2.2.2.2.2.2.1, d.2.2.2.2.2.2.2.1, d.2.2.2.2.2.2.2.2.1, d.2.2.2.2.2.2.2.2.2) ∧ rI (updN r 76 0) ∧ CS (updN r 76 0) sm 0 st le po sc sg na se ou ∧ CSv r d ∧ stepO nw hc nw' hc' (some (updN r 76 0)) := by
  obtain ⟨d, e0, c0⟩ := prep_none h hC
  unfold fX6_lift_none fX1_remember_none
  have e9 : fX0_strokesOf (16 : Int32) st = nI (r 0) := by
    rw [show fX0_strokesOf (16 : Int32) st = st 16 from strokes_at (p := 16) (by omega)]; exact hC.handF.1
  rw [e0, b10_so, b12_so, ccommit_ok hh hw, e9]
  exact ⟨_, _, _, rfl, rI_lift h, CS_lift h hC, c0, rfl, rfl⟩
/-- DRAW, refused -/
theorem draw_g_arg {r : Nat → Nat} {sm pd : Int32} {st le po sc sg na se ou : Nat → Int32} (h : rI r) (hC : CS r sm pd st le po sc sg na se ou) {n : Nat} {t : Nat → Nat} {cc : Nat → Int32} (hc : txC n t cc) (tsm tpd : Int32) (tst tle tpo tsc tsg tna tse tou : Nat → Int32) :
    (gDraw r n t = (.inr xIS, none) ∧ ∃ q : SV, fX6_draw_arg (nI n) cc tsm tpd sm pd st tst le tle po tpo sc tsc sg tsg na tna se tse ou tou = some (Sum.inr xIS, q.1, q.2.1, q.2.2.1, q.2.2.2.1, q.2.2.2.2.1, q.2.2.2.2.2.1, q.2.2.2.2.2.2.1, q.2.2.2.2.2.2.2.1, q.2.2.2.2.2.2.2.2.1, q.2.2.2.2.2.2.2.2.2)) ∨
    ((prs t n (n + 1) 1 1 0).2 = none ∧ (sigM (txR t n r) 0 (r 77)).length ≤ 40 ∧ gDraw r n t = (.inl (nI (sigM (txR t n r) 0 (txR t n r 77)).length), some (txR t n r))) := by
  unfold fX6_draw_arg
  rw [ferr_ok hc, b1_so]
  cases hv : (prs t n (n + 1) 1 1 0).2 with
  | some p =>
    have hp := prs_er (n + 1) 1 1 0 p (Nat.zero_le _) hv
    have h100 := hc.1
    rw [show rsI (some p) = nI p from rfl, if_neg (nI_m1 (by omega))]
    refine Or.inl ⟨?_, (tsm, tpd, tst, tle, tpo, tsc, tsg, tna, tse, tou), rfl⟩
    unfold gDraw
    rw [cIf_neg (fun z => by rw [hv] at z; cases z.1)]
  | none =>
    by_cases hl : (sigM (txR t n r) 0 (r 77)).length ≤ 40
    · refine Or.inr ⟨rfl, hl, ?_⟩
      unfold gDraw
      rw [cIf_pos ⟨hv, hl⟩]
    · obtain ⟨st', le', po', sc', sg', na', se', ou', e4, c1⟩ := ccopy_ok h hC tst tle tpo tsc tsg tna tse tou
      have c2 := CS_clh h c1
      rcases cdraw_ok hc hv h c2 with ⟨z, -⟩ | ⟨-, pd2, st2, sc2, le2, po2, sg2, e5⟩
      · exact absurd z hl
      · rw [show rsI none = (-1 : Int32) from rfl, if_pos rfl, e4, b10_so, cclear_ok]
        dsimp only
        rw [e5, b7_so, if_pos rfl]
        refine Or.inl ⟨?_, (sm, pd2, st2, le2, po2, sc2, sg2, na', se', ou'), rfl⟩
        unfold gDraw
        rw [cIf_neg (fun z => hl z.2)]
/-- DRAW -/
theorem draw_g_some {r : Nat → Nat} {sm pd : Int32} {st le po sc sg na se ou : Nat → Int32} (h : rI r) (hC : CS r sm pd st le po sc sg na se ou) {nw hc : Nat} (hh : hc ≤ 14) (hw : nw < 15) {n : Nat} {t : Nat → Nat} {cc : Nat → Int32} (hcc : txC n t cc) (hv : (prs t n (n + 1) 1 1 0).2 = none) (hl : (sigM (txR t n r) 0 (r 77)).length ≤ 40) (D : SV) (tst tle tpo tsc tsg tna tse tou : Nat → Int32) :
    ∃ (nw' hc' : Nat) (d q s : SV), fX6_draw_some (nI n) cc sm pd st tst le tle po tpo sc tsc sg tsg na tna se tse ou tou (nI nw) (nI hc) D.2.2.1 D.2.2.2.1 D.2.2.2.2.1 D.2.2.2.2.2.1 D.2.2.2.2.2.2.1 D.2.2.2.2.2.2.2.1 D.2.2.2.2.2.2.2.2.1 D.2.2.2.2.2.2.2.2.2 = some (Sum.inl (nI (sigM (txR t n r) 0 (txR t n r 77)).length), q.1, q.2.1, s.1, s.2.1, s.2.2.1, q.2.2.1, s.2.2.2.1, q.2.2.2.1, s.2.2.2.2.1, q.2.2.2.2.1, s.2.2.2.2.2.1, q.2.2.2.2.2.1, s.2.2.2.2.2.2.1, q.2.2.2.2.2.2.1, s.2.2.2.2.2.2.2.1, q.2.2.2.2.2.2.2.1, s.2.2.2.2.2.2.2.2.1, q.2.2.2.2.2.2.2.2.1, s.2.2.2.2.2.2.2.2.2, q.2.2.2.2.2.2.2.2.2, nI nw', nI hc', d.1, d.2.1, d.2.2.1, d.2.2.2.1, d.2.2.2.2.1, d.2.2.2.2.2.1, d.2.2.2.2.2.2.1, d.2.2.2.2.2.2.2.1, d.2.2.2.2.2.2.2.2.1, d.2.2.2.2.2.2.2.2.2) ∧ rI (txR t n r) ∧ CSv (txR t n r) s ∧ CSv r d ∧ stepO nw hc nw' hc' (some (txR t n r)) := by
  obtain ⟨d, e0, c0⟩ := prep_some h hC D
  obtain ⟨st', le', po', sc', sg', na', se', ou', e4, c1⟩ := ccopy_ok h hC tst tle tpo tsc tsg tna tse tou
  have c2 := CS_clh h c1
  rcases cdraw_ok hcc hv h c2 with ⟨-, pd2, st2, sc2, le2, po2, sg2, e5, hI, c3⟩ | ⟨z, -⟩
  · obtain ⟨st3, le3, po3, sc3, sg3, na3, se3, ou3, e6, c4⟩ := ccopy_ok hI c3 st le po sc sg na se ou
    have e10 : fX0_signsOf (16 : Int32) sc3 = nI (sigM (txR t n r) 0 (txR t n r 77)).length := by
      rw [show fX0_signsOf (16 : Int32) sc3 = sc3 16 from signsOf_nI (p := 16) (by omega)]; exact c4.handS.1
    unfold fX6_draw_some fX1_remember_some
    rw [ferr_ok hcc, b1_so, hv, show rsI none = (-1 : Int32) from rfl, if_pos rfl, e4, b10_so, cclear_ok]
    dsimp only
    rw [e5, b7_so, if_neg i10, e0, b10_so, b12_so, ccommit_ok hh hw, e6, b10_so, e10]
    exact ⟨_, _, d, (sm, pd2, st2, le2, po2, sc2, sg2, na', se', ou'), (sm, pd2, st3, le3, po3, sc3, sg3, na3, se3, ou3), rfl, hI, c4, c0, rfl, rfl⟩
  · exact absurd hl z
/-- SAVE -/
theorem save_g_some {r : Nat → Nat} {sm pd : Int32} {st le po sc sg na se ou : Nat → Int32} (h : rI r) (hC : CS r sm pd st le po sc sg na se ou) {s : Nat} (hs : s < 2) (D : SV) :
    ∃ d : SV, fX6_save_some (nI s) sm pd st D.2.2.1 le D.2.2.2.1 po D.2.2.2.2.1 sc D.2.2.2.2.2.1 sg D.2.2.2.2.2.2.1 na D.2.2.2.2.2.2.2.1 se D.2.2.2.2.2.2.2.2.1 ou D.2.2.2.2.2.2.2.2.2 = some (Sum.inl (nI (r 110)), d.1, d.2.1, d.2.2.1, d.2.2.2.1, d.2.2.2.2.1, d.2.2.2.2.2.1, d.2.2.2.2.2.2.1, d.2.2.2.2.2.2.2.1, d.2.2.2.2.2.2.2.2.1, d.2.2.2.2.2.2.2.2.2) ∧ CSv r d := by
  obtain ⟨d, e0, c0⟩ := prep_some h hC D
  have e0 : fX3_keepCopy_some sm pd st D.2.2.1 le D.2.2.2.1 po D.2.2.2.2.1 sc D.2.2.2.2.2.1 sg D.2.2.2.2.2.2.1 na D.2.2.2.2.2.2.2.1 se D.2.2.2.2.2.2.2.2.1 ou D.2.2.2.2.2.2.2.2.2 = some (d.1, d.2.1, d.2.2.1, d.2.2.2.1, d.2.2.2.2.1, d.2.2.2.2.2.1, d.2.2.2.2.2.2.1, d.2.2.2.2.2.2.2.1, d.2.2.2.2.2.2.2.2.1, d.2.2.2.2.2.2.2.2.2) := by
    have := e0
    unfold fX1_prepare_some at this
    obtain ⟨⟨a1, a2, a3, a4, a5, a6, a7, a8, a9, a10⟩, h1, h2⟩ := Option.bind_eq_some_iff.mp this
    rw [h1]; exact h2
  unfold fX6_save_some
  rw [if_neg (nI_pos (by omega)), if_pos (show nI s < (2 : Int32) from nI_lt (b := 2) (by omega) (by omega)), e0, b10_so, hC.1]
  exact ⟨d, rfl, c0⟩
/-- DRAW -/
theorem draw_g_none {r : Nat → Nat} {sm pd : Int32} {st le po sc sg na se ou : Nat → Int32} (h : rI r) (hC : CS r sm pd st le po sc sg na se ou) {nw hc : Nat} (hh : hc ≤ 14) (hw : nw < 15) {n : Nat} {t : Nat → Nat} {cc : Nat → Int32} (hcc : txC n t cc) (hv : (prs t n (n + 1) 1 1 0).2 = none) (hl : (sigM (txR t n r) 0 (r 77)).length ≤ 40) (tst tle tpo tsc tsg tna tse tou : Nat → Int32) :
    ∃ (nw' hc' : Nat) (d q s : SV), fX6_draw_none (nI n) cc sm pd st tst le tle po tpo sc tsc sg tsg na tna se tse ou tou (nI nw) (nI hc) = some (Sum.inl (nI (sigM (txR t n r) 0 (txR t n r 77)).length), q.1, q.2.1, s.1, s.2.1, s.2.2.1, q.2.2.1, s.2.2.2.1, q.2.2.2.1, s.2.2.2.2.1, q.2.2.2.2.1, s.2.2.2.2.2.1, q.2.2.2.2.2.1, s.2.2.2.2.2.2.1, q.2.2.2.2.2.2.1, s.2.2.2.2.2.2.2.1, q.2.2.2.2.2.2.2.1, s.2.2.2.2.2.2.2.2.1, q.2.2.2.2.2.2.2.2.1, s.2.2.2.2.2.2.2.2.2, q.2.2.2.2.2.2.2.2.2, nI nw', nI hc', d.1, d.2.1, d.2.2.1, d.2.2.2.1, d.2.2.2.2.1, d.2.2.2.2.2.1, d.2.2.2.2.2.2.1, d.2.2.2.2.2.2.2.1, d.2.2.2.2.2.2.2.2.1, d.2.2.2.2.2.2.2.2.2) ∧ rI (txR t n r) ∧ CSv (txR t n r) s ∧ CSv r d ∧ stepO nw hc nw' hc' (some (txR t n r)) := by
  obtain ⟨d, e0, c0⟩ := prep_none h hC
  obtain ⟨st', le', po', sc', sg', na', se', ou', e4, c1⟩ := ccopy_ok h hC tst tle tpo tsc tsg tna tse tou
  have c2 := CS_clh h c1
  rcases cdraw_ok hcc hv h c2 with ⟨-, pd2, st2, sc2, le2, po2, sg2, e5, hI, c3⟩ | ⟨z, -⟩
  · obtain ⟨st3, le3, po3, sc3, sg3, na3, se3, ou3, e6, c4⟩ := ccopy_ok hI c3 st le po sc sg na se ou
    have e10 : fX0_signsOf (16 : Int32) sc3 = nI (sigM (txR t n r) 0 (txR t n r 77)).length := by
      rw [show fX0_signsOf (16 : Int32) sc3 = sc3 16 from signsOf_nI (p := 16) (by omega)]; exact c4.handS.1
    unfold fX6_draw_none fX1_remember_none
    rw [ferr_ok hcc, b1_so, hv, show rsI none = (-1 : Int32) from rfl, if_pos rfl, e4, b10_so, cclear_ok]
    dsimp only
    rw [e5, b7_so, if_neg i10, e0, b10_so, b12_so, ccommit_ok hh hw, e6, b10_so, e10]
    exact ⟨_, _, d, (sm, pd2, st2, le2, po2, sc2, sg2, na', se', ou'), (sm, pd2, st3, le3, po3, sc3, sg3, na3, se3, ou3), rfl, hI, c4, c0, rfl, rfl⟩
  · exact absurd hl z
/-- SAVE -/
theorem save_g_none {r : Nat → Nat} {sm pd : Int32} {st le po sc sg na se ou : Nat → Int32} (h : rI r) (hC : CS r sm pd st le po sc sg na se ou) {s : Nat} (hs : s < 2) :
    ∃ d : SV, fX6_save_none (nI s) sm pd st le po sc sg na se ou = some (Sum.inl (nI (r 110)), d.1, d.2.1, d.2.2.1, d.2.2.2.1, d.2.2.2.2.1, d.2.2.2.2.2.1, d.2.2.2.2.2.2.1, d.2.2.2.2.2.2.2.1, d.2.2.2.2.2.2.2.2.1, d.2.2.2.2.2.2.2.2.2) ∧ CSv r d := by
  obtain ⟨d, e0, c0⟩ := prep_none h hC
  have e0 : fX3_keepCopy_none sm pd st le po sc sg na se ou = some (d.1, d.2.1, d.2.2.1, d.2.2.2.1, d.2.2.2.2.1, d.2.2.2.2.2.1, d.2.2.2.2.2.2.1, d.2.2.2.2.2.2.2.1, d.2.2.2.2.2.2.2.2.1, d.2.2.2.2.2.2.2.2.2) := by
    have := e0
    unfold fX1_prepare_none at this
    obtain ⟨⟨a1, a2, a3, a4, a5, a6, a7, a8, a9, a10⟩, h1, h2⟩ := Option.bind_eq_some_iff.mp this
    rw [h1]; exact h2
  unfold fX6_save_none
  rw [if_neg (nI_pos (by omega)), if_pos (show nI s < (2 : Int32) from nI_lt (b := 2) (by omega) (by omega)), e0, b10_so, hC.1]
  exact ⟨d, rfl, c0⟩
def slotB (p : Int32) : Prop := ¬ p < 0 ∧ p < (2 : Int32)
noncomputable def gSave (G : GS) (p : Int32) : (Int32 ⊕ String) × GS := cIf (slotB p) (.inl (nI (G.1 110)), (G.1, G.2.1, G.2.2.1, G.2.2.2.1, setK p.toNatClampNeg G.1 G.2.2.2.2)) (.inr xIO, G)
def rstO (G : GS) : Option RW → (Int32 ⊕ String) × GS
  | none => (.inr xIS, G)
  | some r' => (.inl (nI (r' 110)), (r', G.2.1, G.2.2.1, [], G.2.2.2.2))
noncomputable def gRestore (G : GS) (p : Int32) : (Int32 ⊕ String) × GS := cIf (slotB p) (rstO G (G.2.2.2.2 p.toNatClampNeg)) (.inr xIO, G)
def undO (G : GS) : List RW → (Int32 ⊕ String) × GS
  | [] => (.inr xIS, G)
  | r' :: hs => (.inl (nI hs.length), (r', G.2.1, G.2.2.1, hs, G.2.2.2.2))
def gUndo (G : GS) : (Int32 ⊕ String) × GS := undO G G.2.2.2.1
theorem slot_arg (p : Int32) : (slotB p ∧ ∃ k, k < 2 ∧ p = nI k) ∨ (¬ slotB p ∧ fX6_save_arg p = some (Sum.inr xIO) ∧ fX6_restore_arg p = some (Sum.inr xIO)) := by
  unfold fX6_save_arg fX6_restore_arg slotB
  by_cases q : p < 0
  · refine Or.inr ⟨fun z => z.1 q, ?_, ?_⟩
    · rw [if_pos q]
    · rw [if_pos q]
  · by_cases q2 : p < (2 : Int32)
    · exact Or.inl ⟨⟨q, q2⟩, lt_of_arg (n := 2) (by omega) q q2⟩
    · refine Or.inr ⟨fun z => q2 z.2, ?_, ?_⟩
      · rw [if_neg q, if_neg q2]
      · rw [if_neg q, if_neg q2]
theorem restore_g_none {s : Nat} (hs : s < 2) : fX6_restore_none (nI s) = some (Sum.inr xIS) := by
  unfold fX6_restore_none
  rw [if_neg (nI_pos (by omega)), if_pos (show nI s < (2 : Int32) from nI_lt (b := 2) (by omega) (by omega))]
theorem restore_g_some {s : Nat} (hs : s < 2) {D : SV} {r' : RW} (h1 : rI r') (h2 : CSv r' D) (st le po sc sg na se ou : Nat → Int32) :
    ∃ t : SV, fX6_restore_some (nI s) D.1 D.2.1 D.2.2.1 st D.2.2.2.1 le D.2.2.2.2.1 po D.2.2.2.2.2.1 sc D.2.2.2.2.2.2.1 sg D.2.2.2.2.2.2.2.1 na D.2.2.2.2.2.2.2.2.1 se D.2.2.2.2.2.2.2.2.2 ou = some (Sum.inl (nI (r' 110)), t.1, t.2.1, t.2.2.1, t.2.2.2.1, t.2.2.2.2.1, t.2.2.2.2.2.1, t.2.2.2.2.2.2.1, t.2.2.2.2.2.2.2.1, t.2.2.2.2.2.2.2.2.1, t.2.2.2.2.2.2.2.2.2, (0 : Int32)) ∧ CSv r' t := by
  obtain ⟨t, e1, c1⟩ := csv_copy h1 h2 st le po sc sg na se ou
  unfold fX6_restore_some
  rw [if_neg (nI_pos (by omega)), if_pos (show nI s < (2 : Int32) from nI_lt (b := 2) (by omega) (by omega)), e1, b10_so]
  have e9 : t.1 = nI (r' 110) := c1.1
  exact ⟨t, by rw [e9]; rfl, c1⟩
theorem undo_g_zero : fX6_undo_zero = Sum.inr xIS := rfl
theorem undo_g_some {nw hc : Nat} (hh : hc ≤ 14) (hw : nw < 15) (h0 : 0 < hc) {D : SV} {r' : RW} (h1 : rI r') (h2 : CSv r' D) (st le po sc sg na se ou : Nat → Int32) :
    ∃ t : SV, fX6_undo_some (nI nw) (nI hc) D.1 D.2.1 D.2.2.1 st D.2.2.2.1 le D.2.2.2.2.1 po D.2.2.2.2.2.1 sc D.2.2.2.2.2.2.1 sg D.2.2.2.2.2.2.2.1 na D.2.2.2.2.2.2.2.2.1 se D.2.2.2.2.2.2.2.2.2 ou = some (Sum.inl (nI (hc - 1)), nI ((nw + 14) % 15), nI (hc - 1), t.1, t.2.1, t.2.2.1, t.2.2.2.1, t.2.2.2.2.1, t.2.2.2.2.2.1, t.2.2.2.2.2.2.1, t.2.2.2.2.2.2.2.1, t.2.2.2.2.2.2.2.2.1, t.2.2.2.2.2.2.2.2.2) ∧ CSv r' t := by
  obtain ⟨t, e1, c1⟩ := csv_copy h1 h2 st le po sc sg na se ou
  unfold fX6_undo_some
  rw [e1, b10_so, cdrop1_ok hh h0 hw]
  exact ⟨t, rfl, c1⟩
/-- refused arguments -/
theorem learn_g_arg {p1 : Int32} {r : RW} (e1 : fX6_isName p1 = 0) : fX6_learn_arg p1 = some (Sum.inr xIA) ∧ gLearn r p1 = (.inr xIA, none) := by
  unfold fX6_learn_arg gLearn
  rw [e1, if_pos rfl, if_pos rfl]
  exact ⟨rfl, rfl⟩
theorem practise_g_arg {p1 : Int32} {r : RW} (e1 : fX6_isName p1 = 0) : fX6_practise_arg p1 = some (Sum.inr xIA) ∧ gPractise r p1 = (.inr xIA, none) := by
  unfold fX6_practise_arg gPractise
  rw [e1, if_pos rfl, if_pos rfl]
  exact ⟨rfl, rfl⟩
theorem set_g_arg {p1 p2 : Int32} {r : RW} (e1 : fX6_isSetting p1 p2 = 0) : fX6_set_arg p1 p2 = some (Sum.inr xIA) ∧ gSet r p1 p2 = (.inr xIA, none) := by
  unfold fX6_set_arg gSet
  rw [e1, if_pos rfl, if_pos rfl]
  exact ⟨rfl, rfl⟩
theorem point_g_arg {p1 p2 : Int32} {r : RW} (e1 : fX6_isOnGrid p1 = 0 ∨ (fX6_isOnGrid p1 = 1 ∧ fX6_isOnGrid p2 = 0)) : fX6_point_arg p1 p2 = some (Sum.inr xIA) ∧ gPoint r p1 p2 = (.inr xIA, none) := by
  unfold fX6_point_arg gPoint
  rcases e1 with e1 | ⟨e1, e3⟩
  · rw [e1, if_pos rfl, if_pos rfl]; exact ⟨rfl, rfl⟩
  · rw [e1, if_neg i10, if_neg i10, e3, if_pos rfl, if_pos rfl]; exact ⟨rfl, rfl⟩
end XGACT
