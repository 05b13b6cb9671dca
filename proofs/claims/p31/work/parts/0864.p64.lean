/-! PURE, 64: readings, distances -/
section XPURE64
/-- READ -/
theorem read_ok {r : Nat → Nat} {c : Nat → Int32} {sm pd : Int32} {st le po sc sg na se ou : Nat → Int32} (h : rI r) (hC : CS r sm pd st le po sc sg na se ou) (hr : rowOk 1343 c r) (p1 v1 v2 v3 v4 w1 w2 w3 : Int32) (cs ds one two ks : Nat → Int32) : ∃ A x1 x2 x3 x4 cs' ds' v rf y1 y2 y3 one' two' ks', fX6_read p1 v1 v2 v3 v4 sm sc cs sg ds se na = some (A, x1, x2, x3, x4, cs', ds') ∧ fX7_read p1 w1 w2 w3 c one two ks = some (v, rf, y1, y2, y3, one', two', ks') ∧ aR ["java/lang/IllegalArgumentException"] A v rf := by
  have h16 := h.h16
  unfold fX6_read fX7_read
  rcases arg0 p1 (hi := 3) (by omega) with ⟨w, hw, rfl, e3, e4, e5⟩ | ⟨e3, e4⟩
  · obtain ⟨cs', ds', e6⟩ := crd_ok h hC (plc16 r) butOk_m1 cs ds
    obtain ⟨one', two', ks', e7⟩ := mrd_ok hr h (plc16 r) butOk_m1 one two ks
    have e6 : fX2_readFigure (16 : Int32) (-1 : Int32) sm sc cs sg ds se na = _ := e6
    have e7 : fX7_readFigure_s (0 : Int32) (-1 : Int32) 1343 c one two ks = _ := e7
    rw [show fX7_in (nI w).toInt64 (0 : Int64) (3 : Int64) = 1 from e3, if_neg i10, rf0, if_pos rfl, if_neg e4, if_pos (show nI w ≤ (3 : Int32) from e5), e6, b6_so, e7, b6_so]
    rcases (by omega : w = 0 ∨ w = 1 ∨ w = 2 ∨ w = 3) with rfl | rfl | rfl | rfl
    · rw [if_pos (show nI 0 = (0 : Int32) from rfl), if_pos (show nI 0 = (0 : Int32) from rfl)]
      exact ⟨_, _, _, _, _, _, _, _, _, _, _, _, _, _, _, rfl, rfl, aR_ok rfl⟩
    · rw [if_neg (show ¬ nI 1 = (0 : Int32) by decide), if_neg (show ¬ nI 1 = (0 : Int32) by decide), if_pos (show nI 1 = (1 : Int32) from rfl), if_pos (show nI 1 = (1 : Int32) from rfl)]
      have hl := hhow_le r (offM 16) 99
      by_cases q : hhow r (offM 16) 99 = 0
      · obtain ⟨z, hz, hz2⟩ := how0 q
        have e8 : hname r (offM 16) 99 = nI (r (atM z.1 + 76)) := by
          unfold hname; rw [if_pos q, hz]; rfl
        rw [if_pos (show nI (hhow r (offM 16) 99) = (0 : Int32) by rw [q]; rfl), hz, show oneI (some z) = nI z.1 from rfl, mname_ok hr (by omega) (by omega) (by omega), b1_so, e8]
        exact ⟨_, _, _, _, _, _, _, _, _, _, _, _, _, _, _, rfl, rfl, aR_ok rfl⟩
      · have e8 : hname r (offM 16) 99 = -1 := by
          unfold hname; rw [if_neg q]
        rw [if_neg (show ¬ nI (hhow r (offM 16) 99) = (0 : Int32) from fun z => q ((nI_eq (b := 0) (by omega) (by omega)).mp z)), e8]
        exact ⟨_, _, _, _, _, _, _, _, _, _, _, _, _, _, _, rfl, rfl, aR_ok rfl⟩
    · rw [if_neg (show ¬ nI 2 = (0 : Int32) by decide), if_neg (show ¬ nI 2 = (0 : Int32) by decide), if_neg (show ¬ nI 2 = (1 : Int32) by decide), if_neg (show ¬ nI 2 = (1 : Int32) by decide), if_pos (show nI 2 = (2 : Int32) from rfl), if_pos (show nI 2 = (2 : Int32) from rfl)]
      exact ⟨_, _, _, _, _, _, _, _, _, _, _, _, _, _, _, rfl, rfl, aR_ok rfl⟩
    · rw [if_neg (show ¬ nI 3 = (0 : Int32) by decide), if_neg (show ¬ nI 3 = (0 : Int32) by decide), if_neg (show ¬ nI 3 = (1 : Int32) by decide), if_neg (show ¬ nI 3 = (1 : Int32) by decide), if_neg (show ¬ nI 3 = (2 : Int32) by decide), if_neg (show ¬ nI 3 = (2 : Int32) by decide)]
      exact ⟨_, _, _, _, _, _, _, _, _, _, _, _, _, _, _, rfl, rfl, aR_ok rfl⟩
  · rw [show fX7_in p1.toInt64 (0 : Int64) (3 : Int64) = 0 from e3, if_pos rfl, rf1, if_neg i10]
    rcases e4 with e4 | ⟨e4, e5⟩
    · rw [if_pos e4]; exact ⟨_, _, _, _, _, _, _, _, _, _, _, _, _, _, _, rfl, rfl, aR_1⟩
    · rw [if_neg e4, if_neg (show ¬ p1 ≤ (3 : Int32) from e5)]; exact ⟨_, _, _, _, _, _, _, _, _, _, _, _, _, _, _, rfl, rfl, aR_1⟩
/-- NEAREST -/
theorem nearest_ok {r : Nat → Nat} {c : Nat → Int32} {sm pd : Int32} {st le po sc sg na se ou : Nat → Int32} (h : rI r) (hC : CS r sm pd st le po sc sg na se ou) (hr : rowOk 1343 c r) (p1 : Int32) (cs ds one two ks : Nat → Int32) : ∃ A cs' ds' v rf one' two' ks', fX6_nearest p1 sm sc cs sg ds = some (A, cs', ds') ∧ fX7_nearest p1 c one two ks = some (v, rf, one', two', ks') ∧ aR ["java/lang/IndexOutOfBoundsException"] A v rf := by
  have h16 := h.h16
  unfold fX6_nearest fX7_nearest
  rw [show fX4_hasSample p1 sm = fX4_hasSample p1 (nI (r 110)) by rw [hC.1]]
  rcases smp_arg p1 hr h16 with ⟨s, hs, rfl, e1, e2⟩ | ⟨e1, e2⟩
  · obtain ⟨v, cs', ds', e3, k1⟩ := crank_ok h hC (k := s) (by omega) cs ds
    obtain ⟨v', one', two', ks', e4, k2⟩ := mrank_ok hr h (k := s) (by omega) one two ks
    rw [e1, e2, b1_so, if_neg i10, if_neg i10, rf0, if_pos rfl, e3, b3_so, e4, b4_so]
    exact ⟨_, _, _, _, _, _, _, _, rfl, rfl, aR_ok (rk_uniq k2 k1)⟩
  · rw [e1, e2, b1_so, if_pos rfl, if_pos rfl, rf1, if_neg i10]
    exact ⟨_, _, _, _, _, _, _, _, rfl, rfl, aR_1⟩
theorem smF {r : Nat → Nat} (h : rI r) : smFit r (r 77) := fun _ hs => (h.smp hs).2
/-- BETWEEN -/
theorem between_ok {r : Nat → Nat} {c : Nat → Int32} {sm pd : Int32} {st le po sc sg na se ou : Nat → Int32} (h : rI r) (hC : CS r sm pd st le po sc sg na se ou) (hr : rowOk 1343 c r) (p1 p2 : Int32) (cs one two ks : Nat → Int32) : ∃ A cs' v rf one' two' ks', fX6_between p1 p2 sm sc cs sg = some (A, cs') ∧ fX7_between p1 p2 c one two ks = some (v, rf, one', two', ks') ∧ aR ["java/lang/IndexOutOfBoundsException"] A v rf := by
  have h16 := h.h16
  unfold fX6_between fX7_between
  rw [show ∀ x, fX4_hasSample x sm = fX4_hasSample x (nI (r 110)) from fun x => by rw [hC.1], show fX4_hasSample p2 sm = fX4_hasSample p2 (nI (r 110)) by rw [hC.1]]
  rcases smp_arg p1 hr h16 with ⟨s, hs, rfl, e1, e2⟩ | ⟨e1, e2⟩
  · rw [e1, e2, b1_so, if_neg i10, if_neg i10]
    rcases smp_arg p2 hr h16 with ⟨t, ht, rfl, e3, e4⟩ | ⟨e3, e4⟩
    · obtain ⟨-, cs', e5⟩ := hC.pdist h hs ht cs
      obtain ⟨-, one', two', ks', e6⟩ := mdistP hr h h.2.1.1 h.2.1.2 (smF h) hs ht one two ks
      have e7 : fX7_distanceTo_s (fX7_at (nI s)) (nI t) (c (77 : Int32).toNatClampNeg) 1343 c one two ks = some (nI (pdM r (r 77) s t), one', two', ks') := by
        rw [show (77 : Int32).toNatClampNeg = 77 by decide, hr 77 (by omega), at_nI]; exact e6
      rw [e3, e4, b1_so, if_neg i10, if_neg i10, rf0, if_pos rfl, e5, b2_so, show (77 : Int32) = nI 77 from rfl, gk (by omega) (by omega), show nI 77 = (77 : Int32) from rfl, e7, b4_so]
      exact ⟨_, _, _, _, _, _, _, rfl, rfl, aR_ok rfl⟩
    · rw [e3, e4, b1_so, if_pos rfl, if_pos rfl, rf1, if_neg i10]
      exact ⟨_, _, _, _, _, _, _, rfl, rfl, aR_1⟩
  · rw [e1, e2, b1_so, if_pos rfl, if_pos rfl, rf1, if_neg i10]
    exact ⟨_, _, _, _, _, _, _, rfl, rfl, aR_1⟩
/-- CLOSEST -/
theorem closest_ok {r : Nat → Nat} {c : Nat → Int32} {sm pd : Int32} {st le po sc sg na se ou : Nat → Int32} (h : rI r) (hC : CS r sm pd st le po sc sg na se ou) (hr : rowOk 1343 c r) (cs one two ks : Nat → Int32) : ∃ v cs' x1 x2 one' two' ks', fX6_closest sm na sc cs sg = some (v, cs') ∧ fX7_closest c one two ks = some (v, 0, x1, x2, one', two', ks') := by
  obtain ⟨cs', e1⟩ := cclosest_ok h hC cs
  obtain ⟨one', two', ks', e2⟩ := mfc_ok hr h h.2.1.1 h.2.1.2 (smF h) one two ks
  have e3 : fX7_findClosest (c (77 : Int32).toNatClampNeg) c one two ks = some (prI (clM (pdM r (r 77)) (nmF r) (r 110)), lsI (clM (pdM r (r 77)) (nmF r) (r 110)), one', two', ks') := by
    rw [show (77 : Int32).toNatClampNeg = 77 by decide, hr 77 (by omega)]; exact e2
  unfold fX7_closest
  rw [e1, show (77 : Int32) = nI 77 from rfl, gk (by omega) (by omega), show nI 77 = (77 : Int32) from rfl, e3, b5_so]
  exact ⟨_, _, _, _, _, _, _, rfl, rfl⟩
/-- BEST RULING -/
theorem best_ok {r : Nat → Nat} {c : Nat → Int32} {sm pd : Int32} {st le po sc sg na se ou : Nat → Int32} (h : rI r) (hC : CS r sm pd st le po sc sg na se ou) (hr : rowOk 1343 c r) (v1 v2 : Int32) (tst tle tpo tsc tsg tna tse tou cs one two ks : Nat → Int32) : ∃ v sm' pd' st' le' po' sc' sg' na' se' ou' cs' x1 x2 one' two' ks', fX6_bestRuling sm pd st tst le tle po tpo sc tsc sg tsg na tna se tse ou tou cs = some (v, sm', pd', st', le', po', sc', sg', na', se', ou', cs') ∧ fX7_bestRuling v1 v2 c one two ks = some (v, 0, x1, x2, one', two', ks') := by
  obtain ⟨st', le', po', sc', sg', na', se', ou', e1, c1⟩ := ccopy_ok h hC tst tle tpo tsc tsg tna tse tou
  have c2 := CS_clh h c1
  obtain ⟨sc2, sg2, se2, cs2, r2, e2, -, -⟩ := cbr_loop (r := r) (r0 := clhR r) h (rI_clh h) c2 rfl (if_neg (by omega)) (fun j hj => if_neg (by omega)) cs
  obtain ⟨w1, w2, one', two', ks', e3⟩ := mbr_ok hr h v1 v2 one two ks
  unfold fX6_bestRuling
  rw [e1, b10_so, e3]
  rw [cclear_ok]
  dsimp only
  rw [e2, b5_so]
  exact ⟨_, _, _, _, _, _, _, _, _, _, _, _, _, _, _, _, _, rfl, rfl⟩
/-- MIRRORED -/
theorem mirrored_ok {r : Nat → Nat} {c : Nat → Int32} {sm pd : Int32} {st le po sc sg na se ou : Nat → Int32} (h : rI r) (hC : CS r sm pd st le po sc sg na se ou) (hr : rowOk 1343 c r) (v1 v2 v3 v4 w1 w2 w3 : Int32) (tst tle tpo tsc tsg tna tse tou cs ds dr one two ks : Nat → Int32) : ∃ v sm' pd' st' le' po' sc' sg' na' se' ou' x1 x2 x3 x4 cs' ds' y1 y2 y3 dr' one' two' ks', fX6_mirrored sm pd st tst le tle po tpo sc tsc sg tsg na tna se tse ou tou v1 v2 v3 v4 cs ds = some (v, sm', pd', st', le', po', sc', sg', na', se', ou', x1, x2, x3, x4, cs', ds') ∧ fX7_mirrored w1 w2 w3 c dr one two ks = some (v, 0, y1, y2, y3, dr', one', two', ks') := by
  obtain ⟨st', le', po', sc', sg', na', se', ou', e1, c1⟩ := ccopy_ok h hC tst tle tpo tsc tsg tna tse tou
  obtain ⟨y1, y2, y3, dr', one', two', ks', e3⟩ := mmirrored_ok hr h w1 w2 w3 dr one two ks
  unfold fX6_mirrored
  rw [e1, b10_so, e3]
  unfold mirV
  rcases cmh_ok h c1 with ⟨hl, po2, sc2, sg2, e2, c2⟩ | ⟨hl, po2, e2⟩
  · obtain ⟨cs', ds', e4⟩ := crd_ok (rI_mir h hl) c2 (plc16 _) butOk_m1 cs ds
    have e4 : fX2_readFigure (16 : Int32) (-1 : Int32) sm sc2 cs sg2 ds se' na' = _ := e4
    rw [e2, b4_so, if_neg i10, e4, b6_so, if_pos hl]
    exact ⟨_, _, _, _, _, _, _, _, _, _, _, _, _, _, _, _, _, _, _, _, _, _, _, _, rfl, rfl⟩
  · rw [e2, b4_so, if_pos rfl, if_neg hl]
    exact ⟨_, _, _, _, _, _, _, _, _, _, _, _, _, _, _, _, _, _, _, _, _, _, _, _, rfl, rfl⟩
end XPURE64
