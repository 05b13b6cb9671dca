/-! GHOST 2: the explicit answers of what is only looked at -/
section XGANS
theorem has_arg (x : Int32) {r : RW} (h16 : r 110 ≤ 16) : (∃ s, s < r 110 ∧ x = nI s ∧ fX4_hasSample x (nI (r 110)) = 1) ∨ fX4_hasSample x (nI (r 110)) = 0 := by
  have hr : rowOk 1343 (fun j => nI (r j)) r := fun j _ => rfl
  rcases smp_arg x hr h16 with ⟨s, h1, h2, h3, -⟩ | ⟨h1, -⟩
  · exact Or.inl ⟨s, h1, h2, h3⟩
  · exact Or.inr h1
theorem has_nI {s : Nat} {r : RW} (h16 : r 110 ≤ 16) (hs : s < r 110) : fX4_hasSample (nI s) (nI (r 110)) = 1 := by
  unfold fX4_hasSample
  rw [if_neg (nI_pos (by omega)), if_neg (nI_ge hs (by omega))]
/-- a sign by its index -/
def gSgn (L : List Nat) (p : Int32) : Int32 := if p < 0 then -1 else if nI L.length ≤ p then -1 else nI (L.getD p.toNatClampNeg 0)
theorem sgn_g {r : Nat → Nat} {sm pd : Int32} {st le po sc sg na se ou : Nat → Int32} (h : rI r) (hC : CS r sm pd st le po sc sg na se ou) {p : Nat} (hp : plc r p) (x : Int32) : fX0_signAt (nI p) x sc sg = gSgn (sigM r (offM p) (r 77)) x := by
  have h17 := plc_lt h hp
  have h40 := (h.1 p hp).2
  obtain ⟨s1, s2⟩ := (hC.2.2.1 p hp).2
  unfold fX0_signAt gSgn
  rw [xcell_in sc h17 (by omega), s1]
  by_cases hx : x < 0
  · rw [if_pos hx, if_pos hx]
  · obtain ⟨k, hk, rfl⟩ := nI_of hx
    rw [if_neg hx, if_neg hx]
    by_cases q : (sigM r (offM p) (r 77)).length ≤ k
    · rw [if_pos (nI_le q hk), if_pos (nI_le q hk)]
    · rw [if_neg (nI_ge (by omega) (by omega)), if_neg (nI_ge (by omega) (by omega)), nI_clamp hk, l40, pk_mul, nI_add, xcell_in sg (by omega) (by omega), Nat.mul_comm p 40, s2 k (by omega)]
def gAbout (r : RW) (p : Int32) : Int32 ⊕ String := (if p = (0 : Int32) then .inl (nI (r 0)) else (if p = (1 : Int32) then .inl (nI (ptsM r 0)) else (if p = (2 : Int32) then .inl (nI (r 76)) else (if p = (3 : Int32) then .inl (nI (sigM r 0 (r 77)).length) else (if p = (4 : Int32) then .inl (nI (r 110)) else (if p = (5 : Int32) then .inl (nI (ouS r 0 10) + nI (ouS r 1 10) + nI (ouS r 2 10)) else (if p = (6 : Int32) then .inl (nI (ouS r 0 10)) else (if p = (7 : Int32) then .inl (nI (ouS r 1 10)) else .inr xIA))))))))
theorem about_g {r : Nat → Nat} {sm pd : Int32} {st le po sc sg na se ou : Nat → Int32} (h : rI r) (hC : CS r sm pd st le po sc sg na se ou) (p1 : Int32) : fX6_about p1 sm pd st le sc ou = some (gAbout r p1) := by
  have hf := h.hand
  have hF := hC.handF
  have t0 : fX4_outcomesOf (0 : Int32) ou = some (nI (ouS r 0 10)) := couts_ok hC (o := 0) (by omega)
  have t1 : fX4_outcomesOf (1 : Int32) ou = some (nI (ouS r 1 10)) := couts_ok hC (o := 1) (by omega)
  have t2 : fX4_outcomesOf (2 : Int32) ou = some (nI (ouS r 2 10)) := couts_ok hC (o := 2) (by omega)
  have e0 : fX0_strokesOf (16 : Int32) st = nI (r 0) := by
    rw [show fX0_strokesOf (16 : Int32) st = st 16 from strokes_at (p := 16) (by omega)]; exact hF.1
  have e1 : fX0_pointsOf (16 : Int32) st le = some (nI (ptsM r 0)) := pointsOf_ok (p := 16) hF hf.1 (by omega)
  have e3 : fX0_signsOf (16 : Int32) sc = nI (sigM r 0 (r 77)).length := by
    rw [show fX0_signsOf (16 : Int32) sc = sc 16 from signsOf_nI (p := 16) (by omega)]; exact hC.handS.1
  have e2 : (if pd = 0 then some (Sum.inl (0 : Int32)) else some (Sum.inl (1 : Int32)) : Option (Int32 ⊕ String)) = some (.inl (nI (r 76))) := by
    have h76 := h.2.2.2.2.2.1.1
    rw [hC.2.1]
    rcases (by omega : r 76 = 0 ∨ r 76 = 1) with z | z
    · rw [z, if_pos (show nI 0 = (0 : Int32) from rfl)]; rfl
    · rw [z, if_neg (show ¬ nI 1 = (0 : Int32) by decide)]; rfl
  unfold fX6_about gAbout
  rw [e0, e1, b1_so, e2, e3, hC.1, t0, b1_so, t1, b1_so, t2, b1_so, b1_so, b1_so]
  by_cases q0 : p1 = (0 : Int32)
  · rw [if_pos q0, if_pos q0]
  rw [if_neg q0, if_neg q0]
  by_cases q1 : p1 = (1 : Int32)
  · rw [if_pos q1, if_pos q1]
  rw [if_neg q1, if_neg q1]
  by_cases q2 : p1 = (2 : Int32)
  · rw [if_pos q2, if_pos q2]
  rw [if_neg q2, if_neg q2]
  by_cases q3 : p1 = (3 : Int32)
  · rw [if_pos q3, if_pos q3]
  rw [if_neg q3, if_neg q3]
  by_cases q4 : p1 = (4 : Int32)
  · rw [if_pos q4, if_pos q4]
  rw [if_neg q4, if_neg q4]
  by_cases q5 : p1 = (5 : Int32)
  · rw [if_pos q5, if_pos q5]
  rw [if_neg q5, if_neg q5]
  by_cases q6 : p1 = (6 : Int32)
  · rw [if_pos q6, if_pos q6]
  rw [if_neg q6, if_neg q6]
  by_cases q7 : p1 = (7 : Int32)
  · rw [if_pos q7, if_pos q7]
  rw [if_neg q7, if_neg q7]
def gSign (r : RW) (p : Int32) : Int32 ⊕ String := if 0 ≤ p then .inl (gSgn (sigM r 0 (r 77)) p) else .inr xIA
theorem sign_g {r : Nat → Nat} {sm pd : Int32} {st le po sc sg na se ou : Nat → Int32} (h : rI r) (hC : CS r sm pd st le po sc sg na se ou) (p1 : Int32) : fX6_sign p1 sc sg = gSign r p1 := by
  unfold fX6_sign gSign
  rw [show fX0_signAt (16 : Int32) p1 sc sg = gSgn (sigM r 0 (r 77)) p1 from sgn_g h hC (plc16 r) p1]
def gSignOf (r : RW) (p q : Int32) : Int32 ⊕ String := if fX4_hasSample p (nI (r 110)) = 0 then .inr xIO else if 0 ≤ q then .inl (gSgn (sigM r (atM p.toNatClampNeg) (r 77)) q) else .inr xIA
theorem signOf_g {r : Nat → Nat} {sm pd : Int32} {st le po sc sg na se ou : Nat → Int32} (h : rI r) (hC : CS r sm pd st le po sc sg na se ou) (p1 p2 : Int32) : fX6_signOf p1 p2 sm sc sg = gSignOf r p1 p2 := by
  have h16 := h.h16
  unfold fX6_signOf gSignOf
  rw [hC.1]
  rcases has_arg p1 h16 with ⟨s, hs, rfl, e1⟩ | e1
  · rw [e1, if_neg i10, if_neg i10, sgn_g h hC (plcS hs) p2, offS (by omega), nI_clamp (by omega)]
  · rw [e1, if_pos rfl, if_pos rfl]
def gSample (r : RW) (p q : Int32) : Int32 ⊕ String := if fX4_hasSample p (nI (r 110)) = 0 then .inr xIO else (if q = (0 : Int32) then .inl (nI (r (atM p.toNatClampNeg + 76))) else (if q = (1 : Int32) then .inl (nI (r (atM p.toNatClampNeg))) else (if q = (2 : Int32) then .inl (nI (ptsM r (atM p.toNatClampNeg))) else (if q = (3 : Int32) then .inl (nI (sigM r (atM p.toNatClampNeg) (r 77)).length) else .inr xIA))))
theorem sample_g {r : Nat → Nat} {sm pd : Int32} {st le po sc sg na se ou : Nat → Int32} (h : rI r) (hC : CS r sm pd st le po sc sg na se ou) (p1 p2 : Int32) : fX6_sample p1 p2 sm na st le sc = some (gSample r p1 p2) := by
  have h16 := h.h16
  unfold fX6_sample gSample
  rw [hC.1]
  rcases has_arg p1 h16 with ⟨s, hs, rfl, e1⟩ | e1
  · have hf := h.smp hs
    have hF := hC.smpF h hs
    have e4 : fX0_signsOf (nI s) sc = nI (sigM r (atM s) (r 77)).length := by
      rw [signsOf_nI (by omega)]; exact (hC.smpS h hs).1
    rw [e1, if_neg i10, if_neg i10, hC.nm h hs, strokes_at (by omega), hF.1, pointsOf_ok hF hf.1 (by omega), b1_so, e4, nI_clamp (by omega)]
    by_cases q0 : p2 = (0 : Int32)
    · rw [if_pos q0, if_pos q0]
    rw [if_neg q0, if_neg q0]
    by_cases q1 : p2 = (1 : Int32)
    · rw [if_pos q1, if_pos q1]
    rw [if_neg q1, if_neg q1]
    by_cases q2 : p2 = (2 : Int32)
    · rw [if_pos q2, if_pos q2]
    rw [if_neg q2, if_neg q2]
    by_cases q3 : p2 = (3 : Int32)
    · rw [if_pos q3, if_pos q3]
    rw [if_neg q3, if_neg q3]
  · rw [e1, if_pos rfl, if_pos rfl]
/-- PRACTISED -/
def gPractised (r : RW) (p q : Int32) : Int32 ⊕ String := if fX6_isName p = 0 then .inr xIA else if q < 0 then .inr xIA else if q < (3 : Int32) then .inl (nI (r (80 + 10 * q.toNatClampNeg + p.toNatClampNeg))) else .inr xIA
theorem lt_of_arg {x : Int32} {n : Nat} (hn : n < 2 ^ 31) (h0 : ¬ x < 0) (h1 : x < nI n) : ∃ k, k < n ∧ x = nI k := by
  obtain ⟨k, hk, rfl⟩ := nI_of h0
  refine ⟨k, ?_, rfl⟩
  by_cases q : k < n
  · exact q
  · exact absurd h1 (nI_nlt (by omega) hk)
theorem practised_g {r : Nat → Nat} {sm pd : Int32} {st le po sc sg na se ou : Nat → Int32} (h : rI r) (hC : CS r sm pd st le po sc sg na se ou) (p1 p2 : Int32) : fX6_practised p1 p2 ou = gPractised r p1 p2 := by
  unfold fX6_practised gPractised
  rcases name_arg p1 with ⟨k, rfl, hk, e1, -⟩ | ⟨e1, -⟩
  · rw [e1, if_neg i10, if_neg i10]
    by_cases q : p2 < 0
    · rw [if_pos q, if_pos q]
    · rw [if_neg q, if_neg q]
      by_cases q3 : p2 < (3 : Int32)
      · obtain ⟨w, hw, rfl⟩ := lt_of_arg (n := 3) (by omega) q q3
        rw [if_pos q3, if_pos q3]
        unfold fX4_outcomeOf
        rw [l3, pk_mul, nI_add, xcell_in ou (by omega) (by omega), Nat.mul_comm k 3, hC.2.2.2.2.2 k (by omega) w (by omega), nI_clamp (by omega), nI_clamp (by omega)]
      · rw [if_neg q3, if_neg q3]
  · rw [e1, if_pos rfl, if_pos rfl]
/-- SETTING -/
def gSetting (r : RW) (p : Int32) : Int32 ⊕ String := if p < 0 then .inr xIA else if p < (3 : Int32) then .inl (nI (r (77 + p.toNatClampNeg))) else .inr xIA
theorem setting_g {r : Nat → Nat} {sm pd : Int32} {st le po sc sg na se ou : Nat → Int32} (h : rI r) (hC : CS r sm pd st le po sc sg na se ou) (p1 : Int32) : fX6_setting p1 se = gSetting r p1 := by
  unfold fX6_setting gSetting
  by_cases q : p1 < 0
  · rw [if_pos q, if_pos q]
  · rw [if_neg q, if_neg q]
    by_cases q3 : p1 < (3 : Int32)
    · obtain ⟨w, hw, rfl⟩ := lt_of_arg (n := 3) (by omega) q q3
      rw [if_pos q3, if_pos q3, hC.se0 (by omega), nI_clamp (by omega)]
    · rw [if_neg q3, if_neg q3]
/-- READ -/
def gRead (r : RW) (p : Int32) : Int32 ⊕ String := if p < 0 then .inr xIA else if p ≤ (3 : Int32) then (if p = (0 : Int32) then .inl (nI (hhow r 0 99)) else (if p = (1 : Int32) then .inl (hname r 0 99) else (if p = (2 : Int32) then .inl (byI (hnr r 0 99)) else .inl (oneI (hnr r 0 99))))) else .inr xIA
theorem read_g {r : Nat → Nat} {sm pd : Int32} {st le po sc sg na se ou : Nat → Int32} (h : rI r) (hC : CS r sm pd st le po sc sg na se ou) (p1 v1 v2 v3 v4 : Int32) (cs ds : Nat → Int32) : ∃ x1 x2 x3 x4 cs' ds', fX6_read p1 v1 v2 v3 v4 sm sc cs sg ds se na = some (gRead r p1, x1, x2, x3, x4, cs', ds') := by
  unfold fX6_read gRead
  obtain ⟨cs', ds', e6⟩ := crd_ok h hC (plc16 r) butOk_m1 cs ds
  have e6 : fX2_readFigure (16 : Int32) (-1 : Int32) sm sc cs sg ds se na = some (nI (hhow r 0 99), hname r 0 99, byI (hnr r 0 99), oneI (hnr r 0 99), cs', ds') := e6
  by_cases q : p1 < 0
  · rw [if_pos q, if_pos q]; exact ⟨_, _, _, _, _, _, rfl⟩
  rw [if_neg q, if_neg q]
  by_cases q3 : p1 ≤ (3 : Int32)
  · rw [if_pos q3, if_pos q3, e6, b6_so]
    by_cases q0 : p1 = (0 : Int32)
    · rw [if_pos q0, if_pos q0]; exact ⟨_, _, _, _, _, _, rfl⟩
    rw [if_neg q0, if_neg q0]
    by_cases q1 : p1 = (1 : Int32)
    · rw [if_pos q1, if_pos q1]; exact ⟨_, _, _, _, _, _, rfl⟩
    rw [if_neg q1, if_neg q1]
    by_cases q2 : p1 = (2 : Int32)
    · rw [if_pos q2, if_pos q2]; exact ⟨_, _, _, _, _, _, rfl⟩
    rw [if_neg q2, if_neg q2]
    exact ⟨_, _, _, _, _, _, rfl⟩
  · rw [if_neg q3, if_neg q3]; exact ⟨_, _, _, _, _, _, rfl⟩
/-- NEAREST -/
noncomputable def gRk (r : RW) (k : Nat) : Int32 := @dite _ (∃ v, rkP (dtM r r 0 (r 77)) (r 110) k v) (Classical.propDecidable _) (fun e => Classical.choose e) (fun _ => 0)
theorem gRk_is {r : RW} {k : Nat} {v : Int32} (h : rkP (dtM r r 0 (r 77)) (r 110) k v) : gRk r k = v := by
  unfold gRk
  rw [dif_pos ⟨v, h⟩]
  exact rk_uniq (Classical.choose_spec (⟨v, h⟩ : ∃ v, rkP (dtM r r 0 (r 77)) (r 110) k v)) h
noncomputable def gNearest (r : RW) (p : Int32) : Int32 ⊕ String := if fX4_hasSample p (nI (r 110)) = 0 then .inr xIO else .inl (gRk r p.toNatClampNeg)
theorem nearest_g {r : Nat → Nat} {sm pd : Int32} {st le po sc sg na se ou : Nat → Int32} (h : rI r) (hC : CS r sm pd st le po sc sg na se ou) (p1 : Int32) (cs ds : Nat → Int32) : ∃ cs' ds', fX6_nearest p1 sm sc cs sg ds = some (gNearest r p1, cs', ds') := by
  have h16 := h.h16
  unfold fX6_nearest gNearest
  rw [show fX4_hasSample p1 sm = fX4_hasSample p1 (nI (r 110)) by rw [hC.1]]
  rcases has_arg p1 h16 with ⟨s, hs, rfl, e1⟩ | e1
  · obtain ⟨v, cs', ds', e3, k1⟩ := crank_ok h hC (k := s) (by omega) cs ds
    rw [e1, if_neg i10, if_neg i10, e3, b3_so, nI_clamp (by omega), gRk_is k1]
    exact ⟨_, _, rfl⟩
  · rw [e1, if_pos rfl, if_pos rfl]
    exact ⟨_, _, rfl⟩
/-- BETWEEN -/
def gBetween (r : RW) (p q : Int32) : Int32 ⊕ String := if fX4_hasSample p (nI (r 110)) = 0 then .inr xIO else if fX4_hasSample q (nI (r 110)) = 0 then .inr xIO else .inl (nI (pdM r (r 77) p.toNatClampNeg q.toNatClampNeg))
theorem between_g {r : Nat → Nat} {sm pd : Int32} {st le po sc sg na se ou : Nat → Int32} (h : rI r) (hC : CS r sm pd st le po sc sg na se ou) (p1 p2 : Int32) (cs : Nat → Int32) : ∃ cs', fX6_between p1 p2 sm sc cs sg = some (gBetween r p1 p2, cs') := by
  have h16 := h.h16
  unfold fX6_between gBetween
  rw [show ∀ x, fX4_hasSample x sm = fX4_hasSample x (nI (r 110)) from fun x => by rw [hC.1], show fX4_hasSample p2 sm = fX4_hasSample p2 (nI (r 110)) by rw [hC.1]]
  rcases has_arg p1 h16 with ⟨s, hs, rfl, e1⟩ | e1
  · rw [e1, if_neg i10, if_neg i10]
    rcases has_arg p2 h16 with ⟨t, ht, rfl, e3⟩ | e3
    · obtain ⟨-, cs', e5⟩ := hC.pdist h hs ht cs
      rw [e3, if_neg i10, if_neg i10, e5, b2_so, nI_clamp (by omega), nI_clamp (by omega)]
      exact ⟨_, rfl⟩
    · rw [e3, if_pos rfl, if_pos rfl]
      exact ⟨_, rfl⟩
  · rw [e1, if_pos rfl, if_pos rfl]
    exact ⟨_, rfl⟩
/-- BEST RULING -/
theorem best_g {r : Nat → Nat} {sm pd : Int32} {st le po sc sg na se ou : Nat → Int32} (h : rI r) (hC : CS r sm pd st le po sc sg na se ou) (tst tle tpo tsc tsg tna tse tou cs : Nat → Int32) : ∃ sm' pd' st' le' po' sc' sg' na' se' ou' cs', fX6_bestRuling sm pd st tst le tle po tpo sc tsc sg tsg na tna se tse ou tou cs = some (b1I (brM r 16), sm', pd', st', le', po', sc', sg', na', se', ou', cs') := by
  obtain ⟨st', le', po', sc', sg', na', se', ou', e1, c1⟩ := ccopy_ok h hC tst tle tpo tsc tsg tna tse tou
  have c2 := CS_clh h c1
  obtain ⟨sc2, sg2, se2, cs2, r2, e2, -, -⟩ := cbr_loop (r := r) (r0 := clhR r) h (rI_clh h) c2 rfl (if_neg (by omega)) (fun j hj => if_neg (by omega)) cs
  unfold fX6_bestRuling
  rw [e1, b10_so]
  rw [cclear_ok]
  dsimp only
  rw [e2, b5_so]
  exact ⟨_, _, _, _, _, _, _, _, _, _, _, rfl⟩
/-- MIRRORED -/
theorem mirrored_g {r : Nat → Nat} {sm pd : Int32} {st le po sc sg na se ou : Nat → Int32} (h : rI r) (hC : CS r sm pd st le po sc sg na se ou) (v1 v2 v3 v4 : Int32) (tst tle tpo tsc tsg tna tse tou cs ds : Nat → Int32) : ∃ sm' pd' st' le' po' sc' sg' na' se' ou' x1 x2 x3 x4 cs' ds', fX6_mirrored sm pd st tst le tle po tpo sc tsc sg tsg na tna se tse ou tou v1 v2 v3 v4 cs ds = some (mirV r, sm', pd', st', le', po', sc', sg', na', se', ou', x1, x2, x3, x4, cs', ds') := by
  obtain ⟨st', le', po', sc', sg', na', se', ou', e1, c1⟩ := ccopy_ok h hC tst tle tpo tsc tsg tna tse tou
  unfold fX6_mirrored
  rw [e1, b10_so]
  unfold mirV
  rcases cmh_ok h c1 with ⟨hl, po2, sc2, sg2, e2, c2⟩ | ⟨hl, po2, e2⟩
  · obtain ⟨cs', ds', e4⟩ := crd_ok (rI_mir h hl) c2 (plc16 _) butOk_m1 cs ds
    have e4 : fX2_readFigure (16 : Int32) (-1 : Int32) sm sc2 cs sg2 ds se' na' = _ := e4
    rw [e2, b4_so, if_neg i10, e4, b6_so, if_pos hl]
    exact ⟨_, _, _, _, _, _, _, _, _, _, _, _, _, _, _, _, rfl⟩
  · rw [e2, b4_so, if_pos rfl, if_neg hl]
    exact ⟨_, _, _, _, _, _, _, _, _, _, _, _, _, _, _, _, rfl⟩
/-- SCRIPTS, SIMULATIONS: what they answer is told by the row alone -/
def cRow (r : RW) : Nat → Int32 := fun j => nI (r j)
theorem cRow_ok (r : RW) : rowOk 1343 (cRow r) r := fun _ _ => rfl
def unO : Option (Int32 × Int32 × MT) → Int32 ⊕ String
  | none => .inr xIA
  | some e => if e.2.1 = 0 then .inl e.1 else .inr xIA
theorem unO_is {A : Int32 ⊕ String} {v rf : Int32} {m : MT} {w : Option (Int32 × Int32 × MT)} (e : w = some (v, rf, m)) (h : aR [xIA] A v rf) : A = unO w := by
  subst e
  show A = if rf = 0 then .inl v else .inr xIA
  rcases h with ⟨x, h1, h2, h3⟩ | ⟨i, s, hi, h1, h2⟩
  · rw [if_pos h2, h1, h3]
  · rcases i with _ | i
    · cases hi
      rw [if_neg (by rw [h2]; decide), h1]
    · cases hi
def gScript (r : RW) (p1 : Int32) (p2 : Int64) : Int32 ⊕ String := unO (fX7_runScript p1 p2 0 0 0 (cRow r) (fun _ => 0) (fun _ => 0) (fun _ => 0) (fun _ => 0))
theorem script_g {r : Nat → Nat} {sm pd : Int32} {st le po sc sg na se ou : Nat → Int32} (h : rI r) (hC : CS r sm pd st le po sc sg na se ou) (p1 : Int32) (p2 : Int64) (tsm tpd v1 v2 v3 v4 : Int32) (tst tle tpo tsc tsg tna tse tou cs ds : Nat → Int32) :
    ∃ a : CT, fX6_runScript p1 p2 tsm tpd sm pd st tst le tle po tpo sc tsc sg tsg na tna se tse ou tou v1 v2 v3 v4 cs ds = some (gScript r p1 p2, a.1, a.2.1, a.2.2.1, a.2.2.2.1, a.2.2.2.2.1, a.2.2.2.2.2.1, a.2.2.2.2.2.2.1, a.2.2.2.2.2.2.2.1, a.2.2.2.2.2.2.2.2.1, a.2.2.2.2.2.2.2.2.2.1, a.2.2.2.2.2.2.2.2.2.2.1, a.2.2.2.2.2.2.2.2.2.2.2.1, a.2.2.2.2.2.2.2.2.2.2.2.2.1, a.2.2.2.2.2.2.2.2.2.2.2.2.2.1, a.2.2.2.2.2.2.2.2.2.2.2.2.2.2.1, a.2.2.2.2.2.2.2.2.2.2.2.2.2.2.2) := by
  obtain ⟨A, a, v, rf, b, e1, e2, e3⟩ := script_ok h hC (cRow_ok r) p1 p2 tsm tpd v1 v2 v3 v4 0 0 0 tst tle tpo tsc tsg tna tse tou cs ds (fun _ => 0) (fun _ => 0) (fun _ => 0) (fun _ => 0)
  have e4 : A = gScript r p1 p2 := unO_is (m := b) e2 e3
  exact ⟨a, by rw [e1, e4]⟩
def gSim (r : RW) (p1 : Int64) (p3 : Int32) : Int32 ⊕ String := unO (fX7_simulate p1 p3 0 0 0 (cRow r) (fun _ => 0) (fun _ => 0) (fun _ => 0) (fun _ => 0))
theorem simul_g {r : Nat → Nat} {sm pd : Int32} {st le po sc sg na se ou : Nat → Int32} (h : rI r) (hC : CS r sm pd st le po sc sg na se ou) (p1 : Int64) (p3 : Int32) (tsm tpd v1 v2 v3 v4 : Int32) (tst tle tpo tsc tsg tna tse tou cs ds : Nat → Int32) :
    ∃ a : CT, fX6_simulate p1 p3 tsm tpd sm pd st tst le tle po tpo sc tsc sg tsg na tna se tse ou tou v1 v2 v3 v4 cs ds = some (gSim r p1 p3, a.1, a.2.1, a.2.2.1, a.2.2.2.1, a.2.2.2.2.1, a.2.2.2.2.2.1, a.2.2.2.2.2.2.1, a.2.2.2.2.2.2.2.1, a.2.2.2.2.2.2.2.2.1, a.2.2.2.2.2.2.2.2.2.1, a.2.2.2.2.2.2.2.2.2.2.1, a.2.2.2.2.2.2.2.2.2.2.2.1, a.2.2.2.2.2.2.2.2.2.2.2.2.1, a.2.2.2.2.2.2.2.2.2.2.2.2.2.1, a.2.2.2.2.2.2.2.2.2.2.2.2.2.2.1, a.2.2.2.2.2.2.2.2.2.2.2.2.2.2.2) := by
  obtain ⟨A, a, v, rf, b, e1, e2, e3⟩ := simul_ok h hC (cRow_ok r) p1 p3 tsm tpd v1 v2 v3 v4 0 0 0 tst tle tpo tsc tsg tna tse tou cs ds (fun _ => 0) (fun _ => 0) (fun _ => 0) (fun _ => 0)
  have e4 : A = gSim r p1 p3 := unO_is (m := b) e2 e3
  exact ⟨a, by rw [e1, e4]⟩
/-- APPEND -/
def gAppend (n : Nat) (t : Nat → Nat) (p : Int32) : (Int32 ⊕ String) × Nat × (Nat → Nat) := if p < 0 then (.inr xIA, n, t) else if p ≤ (255 : Int32) then (if n < 100 then (.inl (nI (n + 1)), n + 1, updN t n p.toNatClampNeg) else (.inr xIS, n, t)) else (.inr xIA, n, t)
theorem append_g (p1 : Int32) {n : Nat} {t : Nat → Nat} {cc : Nat → Int32} (hc : txC n t cc) : ∃ cc', fX6_append p1 (nI n) cc = ((gAppend n t p1).1, nI (gAppend n t p1).2.1, cc') ∧ txC (gAppend n t p1).2.1 (gAppend n t p1).2.2 cc' := by
  have h100 := hc.1
  unfold fX6_append gAppend
  by_cases q : p1 < 0
  · rw [if_pos q, if_pos q]; exact ⟨_, rfl, hc⟩
  rw [if_neg q, if_neg q]
  by_cases q2 : p1 ≤ (255 : Int32)
  · rw [if_pos q2, if_pos q2]
    obtain ⟨k, hk, rfl⟩ := nI_of q
    have hk2 : k ≤ 255 := by
      by_cases z : k ≤ 255
      · exact z
      · exact absurd q2 (nI_ge (b := k) (a := 255) (by omega) hk)
    by_cases q3 : n < 100
    · rw [if_pos (show nI n < (100 : Int32) from nI_lt (b := 100) q3 (by omega)), if_pos q3]
      unfold fX5_addCode
      rw [xput_in cc (nI k) q3 (by omega), nI_1, nI_clamp hk]
      refine ⟨_, rfl, by show n + 1 ≤ 100; omega, fun j hj => ?_⟩
      have hj : j < n + 1 := hj
      dsimp only
      by_cases z : j = n
      · subst z; rw [pk_us, updN_s]; exact ⟨rfl, hk2⟩
      · rw [pk_un z, updN_n z]; exact hc.2 j (by omega)
    · rw [if_neg (show ¬ nI n < (100 : Int32) from nI_nlt (b := 100) (a := n) (by omega) (by omega)), if_neg q3]; exact ⟨_, rfl, hc⟩
  · rw [if_neg q2, if_neg q2]; exact ⟨_, rfl, hc⟩
theorem errpos_g {n : Nat} {t : Nat → Nat} {cc : Nat → Int32} (hc : txC n t cc) : fX6_errorPosition (nI n) cc = some (rsI (prs t n (n + 1) 1 1 0).2) := by
  unfold fX6_errorPosition
  rw [ferr_ok hc, b1_so]
end XGANS
