/-! PURE, 66: a text drawn, undone, saved, restored -/
section XPURE66
theorem pt_er {t : Nat → Nat} {n p e : Nat} (hp : p ≤ n) (h : ptM t n p = .inr e) : e ≤ n := by
  unfold ptM at h
  cases h1 : numM t n p with
  | none => rw [h1] at h; cases h; exact hp
  | some a =>
    rw [h1] at h
    dsimp only at h
    have q1 := num_le h1
    split at h
    · rename_i z
      cases h2 : numM t n (a.2 + 1) with
      | none => rw [h2] at h; cases h; exact z.1
      | some b => rw [h2] at h; cases h
    · cases h; exact q1.2.2.1
theorem prs_er {t : Nat → Nat} {n : Nat} : ∀ (f k m p e : Nat), p ≤ n → (prs t n f k m p).2 = some e → e ≤ n := by
  intro f
  induction f with
  | zero => intro k m p e hp h; cases h; exact hp
  | succ f ih =>
    intro k m p e hp h
    unfold prs at h
    cases hq : ptM t n p with
    | inr z => rw [hq] at h; cases h; exact pt_er hp hq
    | inl w =>
      have := (pt_le hq).2.2.2
      rw [hq] at h
      dsimp only at h
      split at h
      · rename_i z; exact ih _ _ _ _ (by omega) h
      · split at h
        · rename_i z; exact ih _ _ _ _ (by omega) h
        · dsimp only at h
          split at h
          · cases h; omega
          · cases h
/-- the row behind a drawing, the model's -/
def dwR (δ r : Nat → Nat) : Nat → Nat := fun j => if j < 76 then δ j else if j = 76 then 0 else r j
theorem mdrw_ok {dr c : Nat → Int32} {δ r : Nat → Nat} (hd : rowOk 76 dr δ) (hr : rowOk 1343 c r) : ∃ c', loopF (fun (z : Int32 × (Nat → Int32)) => fX7_draw_L52 dr z.1 z.2) FUEL ((0 : Int32), c) = some c' ∧ rowOk 1343 (upd c' 76 (0 : Int32)) (dwR δ r) := by
  obtain ⟨x, hx, h1⟩ := loopF_ex (fun (z : Int32 × (Nat → Int32)) => fX7_draw_L52 dr z.1 z.2)
    (fun i z => z.1 = nI i ∧ ∀ j, j < 1343 → z.2 j = nI (if j < i then δ j else r j))
    (fun x => ∀ j, j < 1343 → x j = nI (if j < 76 then δ j else r j)) 0 76 (by omega) (fun i z _ hi hz => Or.inl (by
      obtain ⟨z1, d⟩ := z
      obtain ⟨rfl, g1⟩ := hz
      dsimp only at g1
      refine ⟨(nI (i + 1), upd d i (dr i)), ?_, rfl, fun j hj => ?_⟩
      · show fX7_draw_L52 dr (nI i) d = _
        unfold fX7_draw_L52
        rw [if_neg (show ¬ (76 : Int32) ≤ nI i from nI_ge (b := 76) hi (by omega)), gk (by omega) (by omega), gk (by omega) (by omega), b1_so, nI_clamp (by omega), nI_1]
      · dsimp only
        by_cases q : j = i
        · rw [q, pk_us, if_pos (by omega)]; exact hd i hi
        · rw [pk_un q, g1 j hj]
          by_cases q2 : j < i
          · rw [if_pos q2, if_pos (by omega)]
          · rw [if_neg q2, if_neg (by omega)])) (fun z hz => by
      obtain ⟨z1, d⟩ := z
      obtain ⟨rfl, g1⟩ := hz
      refine ⟨d, ?_, g1⟩
      show fX7_draw_L52 dr (nI 76) d = _
      unfold fX7_draw_L52
      rw [if_pos (show (76 : Int32) ≤ nI 76 from Int32.le_refl _)]) ((0 : Int32), c) ⟨rfl, fun j hj => by rw [if_neg (Nat.not_lt_zero _)]; exact hr j hj⟩ FUEL (by unfold FUEL; omega)
  refine ⟨x, hx, fun j hj => ?_⟩
  unfold dwR
  by_cases q : j = 76
  · subst q; rw [pk_us, if_neg (by omega), if_pos rfl]; rfl
  · rw [pk_un q, h1 j hj]
    by_cases q2 : j < 76
    · rw [if_pos q2, if_pos q2]
    · rw [if_neg q2, if_neg q2, if_neg q]

theorem draw_facts {r : Nat → Nat} {c : Nat → Int32} {sm pd : Int32} {st le po sc sg na se ou : Nat → Int32} (h : rI r) (hC : CS r sm pd st le po sc sg na se ou) (hr : rowOk 1343 c r) {n : Nat} {t : Nat → Nat} (hv : (prs t n (n + 1) 1 1 0).2 = none) {dr : Nat → Int32} (hd : rowOk 76 dr (drR begR (prs t n (n + 1) 1 1 0).1)) (one : Nat → Int32) :
    (∃ one', fX7_signature (0 : Int32) (nI (r 77)) 76 41 dr one = some (nI (min (sigM (txR t n r) 0 (r 77)).length 41), one')) ∧
    (rI (txR t n r) → rLike (txR t n r) (dwR (drR begR (prs t n (n + 1) 1 1 0).1) r)) := by
  have hw := (rI_clh h).w
  obtain ⟨g1, g2⟩ := drR_ok (n + 1) 1 1 0 (clhR r) begR hv hw (cnt_clh r) (jR_clh r)
  obtain ⟨-, k2, k3, k4⟩ := dR_ok (n + 1) 1 1 0 (clhR r) hv hw (cnt_clh r)
  have hsh : shapeI (txR t n r) 0 := k2.1
  have fo : figOk (drR begR (prs t n (n + 1) 1 1 0).1) 0 := by
    refine ⟨by rw [g1.1]; exact hsh.1.1, fun s hs => ?_, fun j hj => ?_⟩
    · rw [(g1.2 s hs).1]; exact hsh.1.2.1 s hs
    · rw [Nat.zero_add]; exact g2 j hj
  have es : sigM (drR begR (prs t n (n + 1) 1 1 0).1) 0 (r 77) = sigM (txR t n r) 0 (r 77) := sigM_eq (r 77) g1 hsh.1.1
  refine ⟨?_, fun hI => ?_⟩
  · obtain ⟨one', e, -⟩ := sig_ok hd fo (by omega) (by omega) (N3 := 41) (by omega) (by omega) h.2.1.1 h.2.1.2 one
    rw [es] at e
    exact ⟨one', e⟩
  · have el : ∀ j, j < 76 → dwR (drR begR (prs t n (n + 1) 1 1 0).1) r (0 + j) = drR begR (prs t n (n + 1) 1 1 0).1 (0 + j) := fun j hj => by rw [Nat.zero_add]; exact if_pos hj
    refine ⟨fun j hj => ?_, ?_, figOk_of el fo⟩
    · unfold dwR
      rw [if_neg (by omega)]
      by_cases q : j = 76
      · subst q; rw [if_pos rfl]; exact k4.symm
      · rw [if_neg q]
        have := k3 j (by omega)
        rw [show txR t n r j = clhR r j from this]
        exact (if_neg (by omega)).symm
    · have e2 := figEq_of el fo.2.1
      refine ⟨by rw [e2.1, g1.1]; rfl, fun s hs => ⟨by rw [(e2.2 s hs).1, (g1.2 s hs).1]; rfl, fun i hi => ?_⟩⟩
      have hi' : i < drR begR (prs t n (n + 1) 1 1 0).1 (0 + 1 + s) := by rw [(g1.2 s hs).1]; exact hi
      exact ⟨by rw [((e2.2 s hs).2 i hi').1, ((g1.2 s hs).2 i hi).1]; rfl, by rw [((e2.2 s hs).2 i hi').2, ((g1.2 s hs).2 i hi).2]; rfl⟩

/-- DRAW, refused -/
theorem draw_argx {r : Nat → Nat} {c : Nat → Int32} {sm pd : Int32} {st le po sc sg na se ou : Nat → Int32} (h : rI r) (hC : CS r sm pd st le po sc sg na se ou) (hr : rowOk 1343 c r) {n : Nat} {t : Nat → Nat} {cc ct : Nat → Int32} (hc : txC n t cc) (ht : txC n t ct) (tsm tpd : Int32) (tst tle tpo tsc tsg tna tse tou dr dia one : Nat → Int32) (acts : Int32) :
    (∃ (q : SV) (v : Int32) (dr' one' : Nat → Int32) (sp : Int32), fX6_draw_arg (nI n) cc tsm tpd sm pd st tst le tle po tpo sc tsc sg tsg na tna se tse ou tou = some (Sum.inr "java/lang/IllegalStateException", q.1, q.2.1, q.2.2.1, q.2.2.2.1, q.2.2.2.2.1, q.2.2.2.2.2.1, q.2.2.2.2.2.2.1, q.2.2.2.2.2.2.2.1, q.2.2.2.2.2.2.2.2.1, q.2.2.2.2.2.2.2.2.2) ∧ fX7_draw (nI n) acts dr ct c dia one = some (v, 1, acts, sp, dr', c, dia, one')) ∨
    ((prs t n (n + 1) 1 1 0).2 = none ∧ (sigM (txR t n r) 0 (r 77)).length ≤ 40) := by
  unfold fX6_draw_arg fX7_draw
  obtain ⟨sp, dr', e2, hd⟩ := mtext_ok ht dr
  rw [ferr_ok hc, b1_so, e2, b3_so]
  cases hv : (prs t n (n + 1) 1 1 0).2 with
  | some p =>
    have hp := prs_er (n + 1) 1 1 0 p (Nat.zero_le _) hv
    have h100 := hc.1
    rw [show rsI (some p) = nI p from rfl, if_neg (nI_m1 (by omega)), if_neg (nI_m1 (by omega)), rf1, if_neg i10]
    exact Or.inl ⟨(tsm, tpd, tst, tle, tpo, tsc, tsg, tna, tse, tou), _, _, _, _, rfl, rfl⟩
  | none =>
    have hd := hd hv
    obtain ⟨⟨one', e3⟩, -⟩ := draw_facts h hC hr hv hd one
    have e3 : fX7_signature (0 : Int32) (c (77 : Int32).toNatClampNeg) 76 41 dr' one = some (nI (min (sigM (txR t n r) 0 (r 77)).length 41), one') := by
      rw [show (77 : Int32).toNatClampNeg = 77 by decide, hr 77 (by omega)]; exact e3
    by_cases hl : (sigM (txR t n r) 0 (r 77)).length ≤ 40
    · exact Or.inr ⟨rfl, hl⟩
    · obtain ⟨st', le', po', sc', sg', na', se', ou', e4, c1⟩ := ccopy_ok h hC tst tle tpo tsc tsg tna tse tou
      have c2 := CS_clh h c1
      rcases cdraw_ok hc hv h c2 with ⟨z, -⟩ | ⟨-, pd2, st2, sc2, le2, po2, sg2, e5⟩
      · exact absurd z hl
      · rw [show rsI none = (-1 : Int32) from rfl, if_pos rfl, if_pos rfl, show (77 : Int32) = nI 77 from rfl, gk (by omega) (by omega), show nI 77 = (77 : Int32) from rfl, e3, b2_so, if_pos (show (40 : Int32) < nI (min (sigM (txR t n r) 0 (r 77)).length 41) from nI_lt (a := 40) (by omega) (by omega)), rf1, if_neg i10, e4, b10_so, cclear_ok]
        dsimp only
        rw [e5, b7_so, if_pos rfl]
        exact Or.inl ⟨(sm, pd2, st2, le2, po2, sc2, sg2, na', se', ou'), _, _, _, _, rfl, rfl⟩

/-- DRAW -/
theorem draw_some {r : Nat → Nat} {c : Nat → Int32} {sm pd : Int32} {st le po sc sg na se ou : Nat → Int32} (h : rI r) (hC : CS r sm pd st le po sc sg na se ou) (hr : rowOk 1343 c r) {nw hc : Nat} (hh : hc ≤ 14) (hw : nw < 15) {n : Nat} {t : Nat → Nat} {cc ct : Nat → Int32} (hcc : txC n t cc) (ht : txC n t ct) (hv : (prs t n (n + 1) 1 1 0).2 = none) (hl : (sigM (txR t n r) 0 (r 77)).length ≤ 40) (D : SV) (tst tle tpo tsc tsg tna tse tou dr dia one : Nat → Int32) :
    ∃ (x : Int32) (nw' hc' : Nat) (dr' one' : Nat → Int32) (sp : Int32) (c' dia' : Nat → Int32) (r' : Nat → Nat) (d q s : SV), fX6_draw_some (nI n) cc sm pd st tst le tle po tpo sc tsc sg tsg na tna se tse ou tou (nI nw) (nI hc) D.2.2.1 D.2.2.2.1 D.2.2.2.2.1 D.2.2.2.2.2.1 D.2.2.2.2.2.2.1 D.2.2.2.2.2.2.2.1 D.2.2.2.2.2.2.2.2.1 D.2.2.2.2.2.2.2.2.2 = some (Sum.inl x, q.1, q.2.1, s.1, s.2.1, s.2.2.1, q.2.2.1, s.2.2.2.1, q.2.2.2.1, s.2.2.2.2.1, q.2.2.2.2.1, s.2.2.2.2.2.1, q.2.2.2.2.2.1, s.2.2.2.2.2.2.1, q.2.2.2.2.2.2.1, s.2.2.2.2.2.2.2.1, q.2.2.2.2.2.2.2.1, s.2.2.2.2.2.2.2.2.1, q.2.2.2.2.2.2.2.2.1, s.2.2.2.2.2.2.2.2.2, q.2.2.2.2.2.2.2.2.2, nI nw', nI hc', d.1, d.2.1, d.2.2.1, d.2.2.2.1, d.2.2.2.2.1, d.2.2.2.2.2.1, d.2.2.2.2.2.2.1, d.2.2.2.2.2.2.2.1, d.2.2.2.2.2.2.2.2.1, d.2.2.2.2.2.2.2.2.2) ∧ fX7_draw (nI n) (nI hc) dr ct c dia one = some (x, 0, nI hc', sp, dr', c', dia', one') ∧ rI r' ∧ CSv r' s ∧ rowOk 1343 c' r' ∧ CSv r d ∧ acted r hc nw hc' nw' dia dia' := by
  obtain ⟨d, e0, c0⟩ := prep_some h hC D
  obtain ⟨sp, dr', e2, hd⟩ := mtext_ok ht dr
  have hd := hd hv
  obtain ⟨⟨one', e3⟩, hlike⟩ := draw_facts h hC hr hv hd one
  have e3 : fX7_signature (0 : Int32) (c (77 : Int32).toNatClampNeg) 76 41 dr' one = some (nI (min (sigM (txR t n r) 0 (r 77)).length 41), one') := by
    rw [show (77 : Int32).toNatClampNeg = 77 by decide, hr 77 (by omega)]; exact e3
  obtain ⟨st', le', po', sc', sg', na', se', ou', e4, c1⟩ := ccopy_ok h hC tst tle tpo tsc tsg tna tse tou
  have c2 := CS_clh h c1
  rcases cdraw_ok hcc hv h c2 with ⟨-, pd2, st2, sc2, le2, po2, sg2, e5, hI, c3⟩ | ⟨z, -⟩
  · have hlk := hlike hI
    obtain ⟨st3, le3, po3, sc3, sg3, na3, se3, ou3, e6, c4⟩ := ccopy_ok hI c3 st le po sc sg na se ou
    have c5 := CS_like hI c4 hlk
    have hI5 := rI_like hI hlk
    obtain ⟨dia', e7, g1, g2⟩ := mrem_ok hr hh dia
    obtain ⟨c', e8, hrow⟩ := mdrw_ok hd hr
    obtain ⟨one2, e9, -⟩ := msg_ok hI5 c5 hrow (plc16 _) one'
    have e9 : fX7_signature (0 : Int32) (upd c' 76 (0 : Int32) (77 : Int32).toNatClampNeg) 1343 41 (upd c' 76 (0 : Int32)) one' = some (nI (sigM (dwR (drR begR (prs t n (n + 1) 1 1 0).1) r) 0 (dwR (drR begR (prs t n (n + 1) 1 1 0).1) r 77)).length, one2) := by
      rw [show (77 : Int32).toNatClampNeg = 77 by decide, hrow 77 (by omega)]; exact e9
    have e10 : fX0_signsOf (16 : Int32) sc3 = nI (sigM (dwR (drR begR (prs t n (n + 1) 1 1 0).1) r) 0 (dwR (drR begR (prs t n (n + 1) 1 1 0).1) r 77)).length := by
      unfold fX0_signsOf
      rw [show xcell (16 : Int32) 17 sc3 = sc3 16 from xcell_in sc3 (i := 16) (by omega) (by omega)]; exact c5.handS.1
    unfold fX6_draw_some fX7_draw fX1_remember_some
    rw [ferr_ok hcc, b1_so, hv, show rsI none = (-1 : Int32) from rfl, if_pos rfl, e4, b10_so, cclear_ok]
    dsimp only
    rw [e5, b7_so, if_neg i10, e0, b10_so, b12_so, ccommit_ok hh hw, e6, b10_so, e10, e2, b3_so, hv, show rsI none = (-1 : Int32) from rfl, if_pos rfl, show (77 : Int32) = nI 77 from rfl, gk (by omega) (by omega), show nI 77 = (77 : Int32) from rfl, e3, b2_so, if_neg (show ¬ (40 : Int32) < nI (min (sigM (txR t n r) 0 (r 77)).length 41) from nI_nlt (a := 40) (b := min (sigM (txR t n r) 0 (r 77)).length 41) (by omega) (by omega)), rf0, if_pos rfl, e7, b2_so, e8, b1_so, show (76 : Int32) = nI 76 from rfl, gk (by omega) (by omega), b1_so, nI_clamp (by omega), show (77 : Int32) = nI 77 from rfl, gk (by omega) (by omega), show nI 77 = (77 : Int32) from rfl, e9, b2_so]
    exact ⟨_, _, _, _, _, _, _, _, _, d, (sm, pd2, st2, le2, po2, sc2, sg2, na', se', ou'), (sm, pd2, st3, le3, po3, sc3, sg3, na3, se3, ou3), rfl, rfl, hI5, c5, hrow, c0, Or.inr ⟨rfl, rfl, g1, g2⟩⟩
  · exact absurd hl z

/-- SAVE -/
theorem save_some {r : Nat → Nat} {c : Nat → Int32} {sm pd : Int32} {st le po sc sg na se ou : Nat → Int32} (h : rI r) (hC : CS r sm pd st le po sc sg na se ou) (hr : rowOk 1343 c r) {s : Nat} (hs : s < 2) (D : SV) (kep isk : Nat → Int32) :
    ∃ (x : Int32) (kep' isk' : Nat → Int32) (d : SV), fX6_save_some (nI s) sm pd st D.2.2.1 le D.2.2.2.1 po D.2.2.2.2.1 sc D.2.2.2.2.2.1 sg D.2.2.2.2.2.2.1 na D.2.2.2.2.2.2.2.1 se D.2.2.2.2.2.2.2.2.1 ou D.2.2.2.2.2.2.2.2.2 = some (Sum.inl x, d.1, d.2.1, d.2.2.1, d.2.2.2.1, d.2.2.2.2.1, d.2.2.2.2.2.1, d.2.2.2.2.2.2.1, d.2.2.2.2.2.2.2.1, d.2.2.2.2.2.2.2.2.1, d.2.2.2.2.2.2.2.2.2) ∧ fX7_save (nI s) c kep isk = some (x, 0, kep', isk') ∧ CSv r d ∧ isk' s = 1 ∧ (∀ j, j ≠ s → isk' j = isk j) ∧ (∀ j, j < 1343 → kep' (1343 * s + j) = nI (r j)) ∧ ∀ t, t ≠ s → ∀ j, j < 1343 → kep' (1343 * t + j) = kep (1343 * t + j) := by
  obtain ⟨d, e0, c0⟩ := prep_some h hC D
  obtain ⟨kep', e1, g1, g2⟩ := cpst_ok (a := 0) (b := 1343 * s) (n := 1343) (m := 2686) c kep (by omega) (by omega) (by omega) (by omega)
  have e0 : fX3_keepCopy_some sm pd st D.2.2.1 le D.2.2.2.1 po D.2.2.2.2.1 sc D.2.2.2.2.2.1 sg D.2.2.2.2.2.2.1 na D.2.2.2.2.2.2.2.1 se D.2.2.2.2.2.2.2.2.1 ou D.2.2.2.2.2.2.2.2.2 = some (d.1, d.2.1, d.2.2.1, d.2.2.2.1, d.2.2.2.2.1, d.2.2.2.2.2.1, d.2.2.2.2.2.2.1, d.2.2.2.2.2.2.2.1, d.2.2.2.2.2.2.2.2.1, d.2.2.2.2.2.2.2.2.2) := by
    have := e0
    unfold fX1_prepare_some at this
    obtain ⟨⟨a1, a2, a3, a4, a5, a6, a7, a8, a9, a10⟩, h1, h2⟩ := Option.bind_eq_some_iff.mp this
    rw [h1]; exact h2
  have hs2 : fX7_in (nI s).toInt64 (0 : Int64) (1 : Int64) = 1 := by
    have := in_nI (k := s) (lo := 0) (hi := 1) (by omega) (by omega) (by omega)
    rw [if_pos ⟨by omega, by omega⟩] at this
    exact this
  unfold fX6_save_some fX7_save
  rw [if_neg (nI_pos (by omega)), if_pos (show nI s < (2 : Int32) from nI_lt (b := 2) (by omega) (by omega)), e0, b10_so, hs2, if_neg i10, rf0, if_pos rfl, show (1343 : Int32) = nI 1343 from rfl, pk_mul, show fX7_copyState (0 : Int32) (nI (1343 * s)) 1343 2686 c kep = some kep' from e1, b1_so, gk (by omega) (by omega), b1_so, show (110 : Int32) = nI 110 from rfl, gk (by omega) (by omega), nI_clamp (by omega), nI_clamp (by omega), hr 110 (by omega), hC.1]
  refine ⟨_, _, _, d, rfl, rfl, c0, by rw [pk_us]; decide, fun j hj => pk_un hj, fun j hj => ?_, fun t ht j hj => g2 _ (by omega)⟩
  have := g1 j hj
  rw [Nat.zero_add] at this
  rw [this]; exact hr j hj

/-- DRAW -/
theorem draw_none {r : Nat → Nat} {c : Nat → Int32} {sm pd : Int32} {st le po sc sg na se ou : Nat → Int32} (h : rI r) (hC : CS r sm pd st le po sc sg na se ou) (hr : rowOk 1343 c r) {nw hc : Nat} (hh : hc ≤ 14) (hw : nw < 15) {n : Nat} {t : Nat → Nat} {cc ct : Nat → Int32} (hcc : txC n t cc) (ht : txC n t ct) (hv : (prs t n (n + 1) 1 1 0).2 = none) (hl : (sigM (txR t n r) 0 (r 77)).length ≤ 40) (tst tle tpo tsc tsg tna tse tou dr dia one : Nat → Int32) :
    ∃ (x : Int32) (nw' hc' : Nat) (dr' one' : Nat → Int32) (sp : Int32) (c' dia' : Nat → Int32) (r' : Nat → Nat) (d q s : SV), fX6_draw_none (nI n) cc sm pd st tst le tle po tpo sc tsc sg tsg na tna se tse ou tou (nI nw) (nI hc) = some (Sum.inl x, q.1, q.2.1, s.1, s.2.1, s.2.2.1, q.2.2.1, s.2.2.2.1, q.2.2.2.1, s.2.2.2.2.1, q.2.2.2.2.1, s.2.2.2.2.2.1, q.2.2.2.2.2.1, s.2.2.2.2.2.2.1, q.2.2.2.2.2.2.1, s.2.2.2.2.2.2.2.1, q.2.2.2.2.2.2.2.1, s.2.2.2.2.2.2.2.2.1, q.2.2.2.2.2.2.2.2.1, s.2.2.2.2.2.2.2.2.2, q.2.2.2.2.2.2.2.2.2, nI nw', nI hc', d.1, d.2.1, d.2.2.1, d.2.2.2.1, d.2.2.2.2.1, d.2.2.2.2.2.1, d.2.2.2.2.2.2.1, d.2.2.2.2.2.2.2.1, d.2.2.2.2.2.2.2.2.1, d.2.2.2.2.2.2.2.2.2) ∧ fX7_draw (nI n) (nI hc) dr ct c dia one = some (x, 0, nI hc', sp, dr', c', dia', one') ∧ rI r' ∧ CSv r' s ∧ rowOk 1343 c' r' ∧ CSv r d ∧ acted r hc nw hc' nw' dia dia' := by
  obtain ⟨d, e0, c0⟩ := prep_none h hC
  obtain ⟨sp, dr', e2, hd⟩ := mtext_ok ht dr
  have hd := hd hv
  obtain ⟨⟨one', e3⟩, hlike⟩ := draw_facts h hC hr hv hd one
  have e3 : fX7_signature (0 : Int32) (c (77 : Int32).toNatClampNeg) 76 41 dr' one = some (nI (min (sigM (txR t n r) 0 (r 77)).length 41), one') := by
    rw [show (77 : Int32).toNatClampNeg = 77 by decide, hr 77 (by omega)]; exact e3
  obtain ⟨st', le', po', sc', sg', na', se', ou', e4, c1⟩ := ccopy_ok h hC tst tle tpo tsc tsg tna tse tou
  have c2 := CS_clh h c1
  rcases cdraw_ok hcc hv h c2 with ⟨-, pd2, st2, sc2, le2, po2, sg2, e5, hI, c3⟩ | ⟨z, -⟩
  · have hlk := hlike hI
    obtain ⟨st3, le3, po3, sc3, sg3, na3, se3, ou3, e6, c4⟩ := ccopy_ok hI c3 st le po sc sg na se ou
    have c5 := CS_like hI c4 hlk
    have hI5 := rI_like hI hlk
    obtain ⟨dia', e7, g1, g2⟩ := mrem_ok hr hh dia
    obtain ⟨c', e8, hrow⟩ := mdrw_ok hd hr
    obtain ⟨one2, e9, -⟩ := msg_ok hI5 c5 hrow (plc16 _) one'
    have e9 : fX7_signature (0 : Int32) (upd c' 76 (0 : Int32) (77 : Int32).toNatClampNeg) 1343 41 (upd c' 76 (0 : Int32)) one' = some (nI (sigM (dwR (drR begR (prs t n (n + 1) 1 1 0).1) r) 0 (dwR (drR begR (prs t n (n + 1) 1 1 0).1) r 77)).length, one2) := by
      rw [show (77 : Int32).toNatClampNeg = 77 by decide, hrow 77 (by omega)]; exact e9
    have e10 : fX0_signsOf (16 : Int32) sc3 = nI (sigM (dwR (drR begR (prs t n (n + 1) 1 1 0).1) r) 0 (dwR (drR begR (prs t n (n + 1) 1 1 0).1) r 77)).length := by
      unfold fX0_signsOf
      rw [show xcell (16 : Int32) 17 sc3 = sc3 16 from xcell_in sc3 (i := 16) (by omega) (by omega)]; exact c5.handS.1
    unfold fX6_draw_none fX7_draw fX1_remember_none
    rw [ferr_ok hcc, b1_so, hv, show rsI none = (-1 : Int32) from rfl, if_pos rfl, e4, b10_so, cclear_ok]
    dsimp only
    rw [e5, b7_so, if_neg i10, e0, b10_so, b12_so, ccommit_ok hh hw, e6, b10_so, e10, e2, b3_so, hv, show rsI none = (-1 : Int32) from rfl, if_pos rfl, show (77 : Int32) = nI 77 from rfl, gk (by omega) (by omega), show nI 77 = (77 : Int32) from rfl, e3, b2_so, if_neg (show ¬ (40 : Int32) < nI (min (sigM (txR t n r) 0 (r 77)).length 41) from nI_nlt (a := 40) (b := min (sigM (txR t n r) 0 (r 77)).length 41) (by omega) (by omega)), rf0, if_pos rfl, e7, b2_so, e8, b1_so, show (76 : Int32) = nI 76 from rfl, gk (by omega) (by omega), b1_so, nI_clamp (by omega), show (77 : Int32) = nI 77 from rfl, gk (by omega) (by omega), show nI 77 = (77 : Int32) from rfl, e9, b2_so]
    exact ⟨_, _, _, _, _, _, _, _, _, d, (sm, pd2, st2, le2, po2, sc2, sg2, na', se', ou'), (sm, pd2, st3, le3, po3, sc3, sg3, na3, se3, ou3), rfl, rfl, hI5, c5, hrow, c0, Or.inr ⟨rfl, rfl, g1, g2⟩⟩
  · exact absurd hl z

/-- SAVE -/
theorem save_none {r : Nat → Nat} {c : Nat → Int32} {sm pd : Int32} {st le po sc sg na se ou : Nat → Int32} (h : rI r) (hC : CS r sm pd st le po sc sg na se ou) (hr : rowOk 1343 c r) {s : Nat} (hs : s < 2) (kep isk : Nat → Int32) :
    ∃ (x : Int32) (kep' isk' : Nat → Int32) (d : SV), fX6_save_none (nI s) sm pd st le po sc sg na se ou = some (Sum.inl x, d.1, d.2.1, d.2.2.1, d.2.2.2.1, d.2.2.2.2.1, d.2.2.2.2.2.1, d.2.2.2.2.2.2.1, d.2.2.2.2.2.2.2.1, d.2.2.2.2.2.2.2.2.1, d.2.2.2.2.2.2.2.2.2) ∧ fX7_save (nI s) c kep isk = some (x, 0, kep', isk') ∧ CSv r d ∧ isk' s = 1 ∧ (∀ j, j ≠ s → isk' j = isk j) ∧ (∀ j, j < 1343 → kep' (1343 * s + j) = nI (r j)) ∧ ∀ t, t ≠ s → ∀ j, j < 1343 → kep' (1343 * t + j) = kep (1343 * t + j) := by
  obtain ⟨d, e0, c0⟩ := prep_none h hC
  obtain ⟨kep', e1, g1, g2⟩ := cpst_ok (a := 0) (b := 1343 * s) (n := 1343) (m := 2686) c kep (by omega) (by omega) (by omega) (by omega)
  have e0 : fX3_keepCopy_none sm pd st le po sc sg na se ou = some (d.1, d.2.1, d.2.2.1, d.2.2.2.1, d.2.2.2.2.1, d.2.2.2.2.2.1, d.2.2.2.2.2.2.1, d.2.2.2.2.2.2.2.1, d.2.2.2.2.2.2.2.2.1, d.2.2.2.2.2.2.2.2.2) := by
    have := e0
    unfold fX1_prepare_none at this
    obtain ⟨⟨a1, a2, a3, a4, a5, a6, a7, a8, a9, a10⟩, h1, h2⟩ := Option.bind_eq_some_iff.mp this
    rw [h1]; exact h2
  have hs2 : fX7_in (nI s).toInt64 (0 : Int64) (1 : Int64) = 1 := by
    have := in_nI (k := s) (lo := 0) (hi := 1) (by omega) (by omega) (by omega)
    rw [if_pos ⟨by omega, by omega⟩] at this
    exact this
  unfold fX6_save_none fX7_save
  rw [if_neg (nI_pos (by omega)), if_pos (show nI s < (2 : Int32) from nI_lt (b := 2) (by omega) (by omega)), e0, b10_so, hs2, if_neg i10, rf0, if_pos rfl, show (1343 : Int32) = nI 1343 from rfl, pk_mul, show fX7_copyState (0 : Int32) (nI (1343 * s)) 1343 2686 c kep = some kep' from e1, b1_so, gk (by omega) (by omega), b1_so, show (110 : Int32) = nI 110 from rfl, gk (by omega) (by omega), nI_clamp (by omega), nI_clamp (by omega), hr 110 (by omega), hC.1]
  refine ⟨_, _, _, d, rfl, rfl, c0, by rw [pk_us]; decide, fun j hj => pk_un hj, fun j hj => ?_, fun t ht j hj => g2 _ (by omega)⟩
  have := g1 j hj
  rw [Nat.zero_add] at this
  rw [this]; exact hr j hj

theorem save_argx {p1 : Int32} (hp : p1 < 0 ∨ (¬ p1 < 0 ∧ ¬ p1 ≤ nI 1)) (e : fX7_in p1.toInt64 (lN 0) (lN 1) = 0) (c kep isk : Nat → Int32) : fX6_save_arg p1 = some (Sum.inr "java/lang/IndexOutOfBoundsException") ∧ fX7_save p1 c kep isk = some (0, 1, kep, isk) := by
  unfold fX6_save_arg fX7_save
  rw [show fX7_in p1.toInt64 (0 : Int64) (1 : Int64) = 0 from e, if_pos rfl, rf1, if_neg i10]
  rcases hp with hp | ⟨h1, h2⟩
  · rw [if_pos hp]; exact ⟨rfl, rfl⟩
  · rw [if_neg h1, if_neg (show ¬ p1 < (2 : Int32) from fun z => h2 ((arg_lt (hi := 1) (by omega)).mpr z))]; exact ⟨rfl, rfl⟩
theorem restore_argx {p1 : Int32} (hp : p1 < 0 ∨ (¬ p1 < 0 ∧ ¬ p1 ≤ nI 1)) (e : fX7_in p1.toInt64 (lN 0) (lN 1) = 0) (x : Int32) (c kep isk : Nat → Int32) : fX6_restore_arg p1 = some (Sum.inr "java/lang/IndexOutOfBoundsException") ∧ fX7_restore p1 x isk kep c = some (0, 1, x, c) := by
  unfold fX6_restore_arg fX7_restore
  rw [show fX7_in p1.toInt64 (0 : Int64) (1 : Int64) = 0 from e, if_pos rfl, rf1, if_neg i10]
  rcases hp with hp | ⟨h1, h2⟩
  · rw [if_pos hp]; exact ⟨rfl, rfl⟩
  · rw [if_neg h1, if_neg (show ¬ p1 < (2 : Int32) from fun z => h2 ((arg_lt (hi := 1) (by omega)).mpr z))]; exact ⟨rfl, rfl⟩
theorem in01_s {s : Nat} (hs : s < 2) : fX7_in (nI s).toInt64 (0 : Int64) (1 : Int64) = 1 := by
  have := in_nI (k := s) (lo := 0) (hi := 1) (by omega) (by omega) (by omega)
  rw [if_pos ⟨by omega, by omega⟩] at this
  exact this
theorem restore_nonex {s : Nat} (hs : s < 2) (x : Int32) (c kep isk : Nat → Int32) (hk : isk s = 0) : fX6_restore_none (nI s) = some (Sum.inr "java/lang/IllegalStateException") ∧ fX7_restore (nI s) x isk kep c = some (0, 2, x, c) := by
  unfold fX6_restore_none fX7_restore
  rw [in01_s hs, if_neg i10, gk (by omega) (by omega), nI_clamp (by omega), hk, if_pos rfl, rf2, if_neg i10, if_neg (nI_pos (by omega)), if_pos (show nI s < (2 : Int32) from nI_lt (b := 2) (by omega) (by omega))]
  exact ⟨rfl, rfl⟩
/-- what a snapshot gives: the state is it -/
theorem csv_copy {v : SV} {r : Nat → Nat} (h : rI r) (hv : CSv r v) (st le po sc sg na se ou : Nat → Int32) : ∃ s : SV, fX4_copyFrom v.1 v.2.1 v.2.2.1 st v.2.2.2.1 le v.2.2.2.2.1 po v.2.2.2.2.2.1 sc v.2.2.2.2.2.2.1 sg v.2.2.2.2.2.2.2.1 na v.2.2.2.2.2.2.2.2.1 se v.2.2.2.2.2.2.2.2.2 ou = some (s.1, s.2.1, s.2.2.1, s.2.2.2.1, s.2.2.2.2.1, s.2.2.2.2.2.1, s.2.2.2.2.2.2.1, s.2.2.2.2.2.2.2.1, s.2.2.2.2.2.2.2.2.1, s.2.2.2.2.2.2.2.2.2) ∧ CSv r s := by
  obtain ⟨st', le', po', sc', sg', na', se', ou', e, c1⟩ := ccopy_ok h hv st le po sc sg na se ou
  exact ⟨(_, _, st', le', po', sc', sg', na', se', ou'), e, c1⟩
/-- RESTORE -/
theorem restore_somex {s : Nat} (hs : s < 2) (x : Int32) (c kep isk : Nat → Int32) (hk : isk s = 1) {D : SV} (hD : snap D kep (1343 * s)) (st le po sc sg na se ou : Nat → Int32) :
    ∃ (u : Int32) (t : SV) (c' : Nat → Int32) (r' : Nat → Nat), fX6_restore_some (nI s) D.1 D.2.1 D.2.2.1 st D.2.2.2.1 le D.2.2.2.2.1 po D.2.2.2.2.2.1 sc D.2.2.2.2.2.2.1 sg D.2.2.2.2.2.2.2.1 na D.2.2.2.2.2.2.2.2.1 se D.2.2.2.2.2.2.2.2.2 ou = some (Sum.inl u, t.1, t.2.1, t.2.2.1, t.2.2.2.1, t.2.2.2.2.1, t.2.2.2.2.2.1, t.2.2.2.2.2.2.1, t.2.2.2.2.2.2.2.1, t.2.2.2.2.2.2.2.2.1, t.2.2.2.2.2.2.2.2.2, (0 : Int32)) ∧ fX7_restore (nI s) x isk kep c = some (u, 0, 0, c') ∧ rI r' ∧ CSv r' t ∧ rowOk 1343 c' r' := by
  obtain ⟨r', h1, h2, h3⟩ := hD
  obtain ⟨t, e1, c1⟩ := csv_copy h1 h2 st le po sc sg na se ou
  obtain ⟨c', e2, g1, -⟩ := cpst_ok (a := 1343 * s) (b := 0) (n := 2686) (m := 1343) kep c (by omega) (by omega) (by omega) (by omega)
  have hrow : rowOk 1343 c' r' := fun j hj => by
    have := g1 j hj
    rw [Nat.zero_add] at this
    rw [this]; exact h3 j hj
  unfold fX6_restore_some fX7_restore
  rw [in01_s hs, if_neg i10, gk (by omega) (by omega), nI_clamp (by omega), hk, if_neg i10, rf0, if_pos rfl, if_neg (nI_pos (by omega)), if_pos (show nI s < (2 : Int32) from nI_lt (b := 2) (by omega) (by omega)), e1, b10_so, show (1343 : Int32) = nI 1343 from rfl, pk_mul, show fX7_copyState (nI (1343 * s)) (0 : Int32) 2686 1343 kep c = some c' from e2, b1_so, show (110 : Int32) = nI 110 from rfl, gk (by omega) (by omega), nI_clamp (by omega), hrow 110 (by omega)]
  have e9 : t.1 = nI (r' 110) := c1.1
  exact ⟨t.1, t, c', r', rfl, by rw [e9], h1, c1, hrow⟩
/-- UNDO -/
theorem undo_zerox (c dia : Nat → Int32) : fX6_undo_zero = Sum.inr "java/lang/IllegalStateException" ∧ fX7_undo (nI 0) dia c = some (0, 1, nI 0, c) := by
  unfold fX6_undo_zero fX7_undo
  rw [if_pos (show nI 0 = (0 : Int32) from rfl), rf1, if_neg i10]
  exact ⟨rfl, rfl⟩
theorem undo_somex {nw hc : Nat} (hh : hc ≤ 14) (hw : nw < 15) (h0 : 0 < hc) (c dia : Nat → Int32) {D : SV} (hD : snap D dia (1343 * (hc - 1))) (st le po sc sg na se ou : Nat → Int32) :
    ∃ (t : SV) (c' : Nat → Int32) (r' : Nat → Nat), fX6_undo_some (nI nw) (nI hc) D.1 D.2.1 D.2.2.1 st D.2.2.2.1 le D.2.2.2.2.1 po D.2.2.2.2.2.1 sc D.2.2.2.2.2.2.1 sg D.2.2.2.2.2.2.2.1 na D.2.2.2.2.2.2.2.2.1 se D.2.2.2.2.2.2.2.2.2 ou = some (Sum.inl (nI (hc - 1)), nI ((nw + 14) % 15), nI (hc - 1), t.1, t.2.1, t.2.2.1, t.2.2.2.1, t.2.2.2.2.1, t.2.2.2.2.2.1, t.2.2.2.2.2.2.1, t.2.2.2.2.2.2.2.1, t.2.2.2.2.2.2.2.2.1, t.2.2.2.2.2.2.2.2.2) ∧ fX7_undo (nI hc) dia c = some (nI (hc - 1), 0, nI (hc - 1), c') ∧ rI r' ∧ CSv r' t ∧ rowOk 1343 c' r' := by
  obtain ⟨r', h1, h2, h3⟩ := hD
  obtain ⟨t, e1, c1⟩ := csv_copy h1 h2 st le po sc sg na se ou
  obtain ⟨c', e2, g1, -⟩ := cpst_ok (a := 1343 * (hc - 1)) (b := 0) (n := 18802) (m := 1343) dia c (by omega) (by omega) (by omega) (by omega)
  have hrow : rowOk 1343 c' r' := fun j hj => by
    have := g1 j hj
    rw [Nat.zero_add] at this
    rw [this]; exact h3 j hj
  unfold fX6_undo_some fX7_undo
  rw [if_neg (nI_ne0 h0 (by omega)), rf0, if_pos rfl, e1, b10_so, cdrop1_ok hh h0 hw, nI_pr h0, show (1343 : Int32) = nI 1343 from rfl, pk_mul, show fX7_copyState (nI (1343 * (hc - 1))) (0 : Int32) 18802 1343 dia c = some c' from e2, b1_so]
  exact ⟨t, c', r', rfl, rfl, h1, c1, hrow⟩
end XPURE66
