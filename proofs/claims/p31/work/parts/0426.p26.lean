/-! PURE, 26: a command of a script, both sides -/
section XPURE26
theorem b8_so {A B C D E F G H β : Type} (e : A) (f : B) (g : C) (i : D) (j : E) (o : F) (u : G) (v : H) (k : A → B → C → D → E → F → G → H → Option β) : b8 (some (e, f, g, i, j, o, u, v)) k = k e f g i j o u v := rfl
theorem b9_so {A B C D E F G H I β : Type} (e : A) (f : B) (g : C) (i : D) (j : E) (o : F) (u : G) (v : H) (w : I) (k : A → B → C → D → E → F → G → H → I → Option β) : b9 (some (e, f, g, i, j, o, u, v, w)) k = k e f g i j o u v w := rfl
theorem b10_so {A B C D E F G H I J β : Type} (e : A) (f : B) (g : C) (i : D) (j : E) (o : F) (u : G) (v : H) (w : I) (x : J) (k : A → B → C → D → E → F → G → H → I → J → Option β) : b10 (some (e, f, g, i, j, o, u, v, w, x)) k = k e f g i j o u v w x := rfl
theorem b11_so {A B C D E F G H I J K β : Type} (e : A) (f : B) (g : C) (i : D) (j : E) (o : F) (u : G) (v : H) (w : I) (x : J) (y : K) (k : A → B → C → D → E → F → G → H → I → J → K → Option β) : b11 (some (e, f, g, i, j, o, u, v, w, x, y)) k = k e f g i j o u v w x y := rfl
theorem grid_arg (x : Int32) : (∃ k, x = nI k ∧ k ≤ 60 ∧ fX6_isOnGrid x = 1 ∧ fX7_in x.toInt64 (0 : Int64) (60 : Int64) = 1) ∨ (fX6_isOnGrid x = 0 ∧ fX7_in x.toInt64 (0 : Int64) (60 : Int64) = 0) := by
  have r1 : fX6_isOnGrid x = fX7_in x.toInt64 (0 : Int64) (60 : Int64) := crng x 0 60 (by omega) (by omega)
  rw [r1]
  rcases in_arg x 0 60 (by omega) (by omega) with ⟨e, k, rfl, h1, h2⟩ | ⟨e, -⟩
  · have e : fX7_in (nI k).toInt64 (0 : Int64) (60 : Int64) = 1 := e
    exact Or.inl ⟨k, rfl, h2, e, e⟩
  · exact Or.inr ⟨e, e⟩
/-- both coordinates in their range, or a refusal on both sides -/
theorem point_arg (x y : Int32) : (∃ a b, x = nI a ∧ y = nI b ∧ a ≤ 60 ∧ b ≤ 60 ∧ fX7_isPoint x y = 1 ∧ fX6_isOnGrid x = 1 ∧ fX6_isOnGrid y = 1) ∨ (fX7_isPoint x y = 0 ∧ (fX6_isOnGrid x = 0 ∨ (fX6_isOnGrid x = 1 ∧ fX6_isOnGrid y = 0))) := by
  unfold fX7_isPoint
  rcases grid_arg x with ⟨a, rfl, h1, e1, e2⟩ | ⟨e1, e2⟩
  · rw [e2, if_neg (show ¬ (1 : Int32) = 0 by decide)]
    rcases grid_arg y with ⟨b, rfl, h2, e3, e4⟩ | ⟨e3, e4⟩
    · left
      rw [e4, if_neg (show ¬ (1 : Int32) = 0 by decide)]
      exact ⟨a, b, rfl, rfl, h1, h2, rfl, e1, e3⟩
    · right
      rw [e4, if_pos rfl]
      exact ⟨rfl, Or.inr ⟨e1, e3⟩⟩
  · right
    rw [e2, if_pos rfl]
    exact ⟨rfl, Or.inl e1⟩
theorem cadd_no {x y pd : Int32} {st sc le po sg se : Nat → Int32} (h : fX6_isOnGrid x = 0 ∨ (fX6_isOnGrid x = 1 ∧ fX6_isOnGrid y = 0)) : fX4_addPoint x y pd st sc le po sg se = some (0, pd, st, sc, le, po, sg) := by
  unfold fX4_addPoint
  rcases h with h | ⟨h, h2⟩
  · rw [h, if_pos rfl]
  · rw [h, h2, if_neg (show ¬ (1 : Int32) = 0 by decide), if_pos rfl]
theorem a01 : ((0 : Int32) &&& 1 = 0) ∧ ((1 : Int32) &&& 1 = 1) := by decide
theorem i10 : ¬ (1 : Int32) = 0 := by decide
theorem cmd_ok {r : Nat → Nat} {c : Nat → Int32} {sm pd : Int32} {st le po sc sg na se ou : Nat → Int32} (h : rI r) (hC : CS r sm pd st le po sc sg na se ou) (hr : rowOk 1343 c r) {j1 : Int32} {g a b l : Nat} (hj : j1 / (10000 : Int32) = nI g) (hg : g ≤ 9) (ha : a ≤ 9) (hb : b ≤ 9) (hl : l ≤ 99) (v1 v2 v3 v4 w1 w2 w3 : Int32) (cs ds one two ks : Nat → Int32) :
    ∃ v sm' pd' st' sc' le' po' sg' se' na' x1 x2 x3 x4 cs' ds' ou' y1 y2 y3 c' one' two' ks',
      fX6_commandSucceeds_J52 j1 (nI a) (nI b) (nI l) (if a = 0 ∧ b = 0 then 1 else 0) (if b = 0 ∧ l = 0 then 1 else 0) sm pd st sc le po sg se na v1 v2 v3 v4 cs ds ou = some (v, sm', pd', st', sc', le', po', sg', se', na', x1, x2, x3, x4, cs', ds', ou') ∧
      fX7_command_J25 (nI g) (nI (1000 * a + 100 * b + l)) (nI a) (nI l) (if b = 0 ∧ l = 0 then 1 else 0) w1 w2 w3 c one two ks = some (v, y1, y2, y3, c', one', two', ks') ∧
      (v = 0 ∨ (v = 1 ∧ ∃ r', rI r' ∧ CS r' sm' pd' st' le' po' sc' sg' na' se' ou' ∧ rowOk 1343 c' r')) := by
  have h16 := h.h16
  have h3 := h.hand.1.1.1
  unfold fX6_commandSucceeds_J52 fX7_command_J25
  rw [hj, b1_so]
  have l100 : (100 : Int32) = nI 100 := rfl
  have l10 : (10 : Int32) = nI 10 := rfl
  have e4l : nI (1000 * a + 100 * b + l) = nI l ↔ a = 0 ∧ b = 0 := by
    rw [nI_eq (by omega) (by omega)]; omega
  rcases (show g = 0 ∨ g = 1 ∨ g = 2 ∨ g = 3 ∨ g = 4 ∨ g = 5 ∨ g = 6 ∨ g = 7 ∨ g = 8 ∨ g = 9 by omega) with rfl | rfl | rfl | rfl | rfl | rfl | rfl | rfl | rfl | rfl
  · -- no such command
    rw [if_neg (show ¬ nI 0 = (1 : Int32) by decide), if_neg (show ¬ nI 0 = (2 : Int32) by decide), if_neg (show ¬ nI 0 = (3 : Int32) by decide), if_neg (show ¬ nI 0 = (4 : Int32) by decide), if_neg (show ¬ nI 0 = (5 : Int32) by decide), if_neg (show ¬ nI 0 = (6 : Int32) by decide), if_neg (show ¬ nI 0 = (7 : Int32) by decide), if_neg (show ¬ nI 0 = (8 : Int32) by decide), if_neg (show ¬ nI 0 = (9 : Int32) by decide)]
    rw [if_neg (show ¬ nI 0 = (1 : Int32) by decide), if_neg (show ¬ nI 0 = (2 : Int32) by decide), if_neg (show ¬ nI 0 = (3 : Int32) by decide), if_neg (show ¬ nI 0 = (4 : Int32) by decide), if_neg (show ¬ nI 0 = (5 : Int32) by decide), if_neg (show ¬ nI 0 = (6 : Int32) by decide), if_neg (show ¬ nI 0 = (7 : Int32) by decide), if_neg (show ¬ nI 0 = (8 : Int32) by decide), if_neg (show ¬ nI 0 = (9 : Int32) by decide)]
    exact ⟨_, _, _, _, _, _, _, _, _, _, _, _, _, _, _, _, _, _, _, _, _, _, _, _, rfl, rfl, Or.inl rfl⟩
  · -- a point
    have e1 : nI a * (10 : Int32) + nI b = nI (10 * a + b) := by rw [l10, pk_mul, nI_add, Nat.mul_comm]
    have e2 : nI (1000 * a + 100 * b + l) / (100 : Int32) = nI (10 * a + b) := by
      rw [l100, pk_div (by omega) (by omega) (by omega)]; congr 1; omega
    rw [if_pos (show nI 1 = (1 : Int32) from rfl), if_pos (show nI 1 = (1 : Int32) from rfl), e1, e2]
    rcases point_arg (nI (10 * a + b)) (nI l) with ⟨x, y, ex, ey, hx, hy, ep, -, -⟩ | ⟨ep, hn⟩
    · rw [ep, if_neg i10, ex, ey]
      rcases cadd_ok h hC hx hy with ⟨ho, st', sc', le', po', sg', e, c1⟩ | ⟨ho, e⟩
      · rcases mlay_ok (one := one) hr h hx hy with ⟨-, c', one', em, rm⟩ | ⟨hn, -⟩
        · rw [e, b7_so, if_pos a01.2, em, b3_so, if_neg i10]
          exact ⟨_, _, _, _, _, _, _, _, _, _, _, _, _, _, _, _, _, _, _, _, _, _, _, _, rfl, rfl, Or.inr ⟨rfl, _, rI_lay h hx hy ho, c1, rm⟩⟩
        · rw [ho] at hn; cases hn
      · rcases mlay_ok (one := one) hr h hx hy with ⟨hn, -⟩ | ⟨-, c', one', r', em, rm, -⟩
        · rw [ho] at hn; cases hn
        · rw [e, b7_so, if_pos a01.1, em, b3_so, if_pos rfl]
          exact ⟨_, _, _, _, _, _, _, _, _, _, _, _, _, _, _, _, _, _, _, _, _, _, _, _, rfl, rfl, Or.inl rfl⟩
    · rw [ep, if_pos rfl, cadd_no hn, b7_so, if_pos a01.1]
      exact ⟨_, _, _, _, _, _, _, _, _, _, _, _, _, _, _, _, _, _, _, _, _, _, _, _, rfl, rfl, Or.inl rfl⟩
  · -- the pen is lifted
    rw [if_neg (show ¬ nI 2 = (1 : Int32) by decide), if_pos (show nI 2 = (2 : Int32) from rfl), if_neg (show ¬ nI 2 = (1 : Int32) by decide), if_pos (show nI 2 = (2 : Int32) from rfl)]
    by_cases q : a = 0 ∧ b = 0 ∧ l = 0
    · obtain ⟨rfl, rfl, rfl⟩ := q
      rw [if_pos (show nI 0 = (0 : Int32) from rfl), if_pos (show (0 : Nat) = 0 ∧ (0 : Nat) = 0 from ⟨rfl, rfl⟩), if_neg i10, if_pos (show nI (1000 * 0 + 100 * 0 + 0) = (0 : Int32) from rfl), l76, gk (by omega) (by omega), b1_so, nI_clamp (by omega)]
      exact ⟨_, _, _, _, _, _, _, _, _, _, _, _, _, _, _, _, _, _, _, _, _, _, _, _, rfl, rfl, Or.inr ⟨rfl, _, rI_lift h, CS_lift h hC, rowOk_upd hr 76 0⟩⟩
    · have n4 : ¬ nI (1000 * a + 100 * b + l) = (0 : Int32) := fun (z : nI _ = nI 0) => by
        have := (nI_eq (by omega) (by omega)).mp z
        omega
      rw [if_neg n4, l76, gk (by omega) (by omega), gk (by omega) (by omega), b1_so]
      by_cases q1 : nI a = (0 : Int32)
      · have q1' : a = 0 := (nI_eq (a := a) (b := 0) (by omega) (by omega)).mp q1
        rw [if_pos q1, if_neg (show ¬ (b = 0 ∧ l = 0) by omega), if_pos rfl]
        exact ⟨_, _, _, _, _, _, _, _, _, _, _, _, _, _, _, _, _, _, _, _, _, _, _, _, rfl, rfl, Or.inl rfl⟩
      · rw [if_neg q1]
        exact ⟨_, _, _, _, _, _, _, _, _, _, _, _, _, _, _, _, _, _, _, _, _, _, _, _, rfl, rfl, Or.inl rfl⟩
  · -- a sample is learned
    rw [if_neg (show ¬ nI 3 = (1 : Int32) by decide), if_neg (show ¬ nI 3 = (2 : Int32) by decide), if_pos (show nI 3 = (3 : Int32) from rfl), if_neg (show ¬ nI 3 = (1 : Int32) by decide), if_neg (show ¬ nI 3 = (2 : Int32) by decide), if_pos (show nI 3 = (3 : Int32) from rfl)]
    by_cases q : b = 0 ∧ l = 0
    · rw [if_pos q, if_neg i10, if_neg i10]
      rcases ckeep_ok h hC (nm := a) ha with ⟨ho, st', na', sc', sg', le', po', e, c1⟩ | ⟨ho, e⟩
      · rcases mcan_ok (one := one) (two := two) (cs := ks) hr h (nm := a) ha with ⟨-, one', two', ks', em⟩ | ⟨hn, -⟩
        · have h15 : r 110 ≠ 16 := ho.2.1
          obtain ⟨c', el, rl⟩ := mlearn_ok hr (by omega) a
          rw [e, b9_so, if_neg i10, em, b4_so, if_neg i10, el, b2_so, if_neg (show ¬ nI (r 110) < 0 from nI_pos (by omega))]
          exact ⟨_, _, _, _, _, _, _, _, _, _, _, _, _, _, _, _, _, _, _, _, _, _, _, _, rfl, rfl, Or.inr ⟨rfl, _, rI_learn h ha h15, c1, rl⟩⟩
        · exact absurd ho hn
      · rcases mcan_ok (one := one) (two := two) (cs := ks) hr h (nm := a) ha with ⟨hn, -⟩ | ⟨-, one', two', ks', em⟩
        · exact absurd hn ho
        · rw [e, b9_so, if_pos rfl, em, b4_so, if_pos rfl]
          exact ⟨_, _, _, _, _, _, _, _, _, _, _, _, _, _, _, _, _, _, _, _, _, _, _, _, rfl, rfl, Or.inl rfl⟩
    · rw [if_neg q, if_pos rfl, if_pos rfl]
      exact ⟨_, _, _, _, _, _, _, _, _, _, _, _, _, _, _, _, _, _, _, _, _, _, _, _, rfl, rfl, Or.inl rfl⟩
  · -- a sample is forgotten
    rw [if_neg (show ¬ nI 4 = (1 : Int32) by decide), if_neg (show ¬ nI 4 = (2 : Int32) by decide), if_neg (show ¬ nI 4 = (3 : Int32) by decide), if_pos (show nI 4 = (4 : Int32) from rfl), if_neg (show ¬ nI 4 = (1 : Int32) by decide), if_neg (show ¬ nI 4 = (2 : Int32) by decide), if_neg (show ¬ nI 4 = (3 : Int32) by decide), if_pos (show nI 4 = (4 : Int32) from rfl)]
    by_cases q : a = 0 ∧ b = 0
    · rw [if_pos q, if_neg i10, if_pos (e4l.mpr q)]
      rcases smp_arg (nI l) hr h16 with ⟨s, hs, es, e1, e2⟩ | ⟨e1, e2⟩
      · rw [es] at e1 e2 ⊢
        rw [← hC.1] at e1
        obtain ⟨st', le', po', sc', sg', na', e, c1⟩ := cdrop_ok h hC hs e1
        obtain ⟨c', ef, rf⟩ := mforget_ok hr h16 hs
        rw [e, b8_so, if_neg i10, e2, b1_so, if_neg i10, ef, b2_so, if_neg (show ¬ nI (r 110 - 1) < 0 from nI_pos (by omega))]
        exact ⟨_, _, _, _, _, _, _, _, _, _, _, _, _, _, _, _, _, _, _, _, _, _, _, _, rfl, rfl, Or.inr ⟨rfl, _, rI_forget h hs, c1, rf⟩⟩
      · rw [← hC.1] at e1
        rw [cdrop_no e1, b8_so, if_pos rfl, e2, b1_so, if_pos rfl]
        exact ⟨_, _, _, _, _, _, _, _, _, _, _, _, _, _, _, _, _, _, _, _, _, _, _, _, rfl, rfl, Or.inl rfl⟩
    · rw [if_neg q, if_pos rfl, if_neg (fun z => q (e4l.mp z))]
      exact ⟨_, _, _, _, _, _, _, _, _, _, _, _, _, _, _, _, _, _, _, _, _, _, _, _, rfl, rfl, Or.inl rfl⟩
  · -- a setting is changed
    have e2 : xrem (nI (1000 * a + 100 * b + l) / (100 : Int32)) (10 : Int32) = nI b := by
      have e3 : nI (1000 * a + 100 * b + l) / (100 : Int32) = nI (10 * a + b) := by
        rw [l100, pk_div (by omega) (by omega) (by omega)]; congr 1; omega
      rw [e3]
      show nI (10 * a + b) - nI (10 * a + b) / (10 : Int32) * (10 : Int32) = _
      rw [l10, pk_rem (by omega) (by omega) (by omega)]; congr 1; omega
    rw [if_neg (show ¬ nI 5 = (1 : Int32) by decide), if_neg (show ¬ nI 5 = (2 : Int32) by decide), if_neg (show ¬ nI 5 = (3 : Int32) by decide), if_neg (show ¬ nI 5 = (4 : Int32) by decide), if_pos (show nI 5 = (5 : Int32) from rfl), if_neg (show ¬ nI 5 = (1 : Int32) by decide), if_neg (show ¬ nI 5 = (2 : Int32) by decide), if_neg (show ¬ nI 5 = (3 : Int32) by decide), if_neg (show ¬ nI 5 = (4 : Int32) by decide), if_pos (show nI 5 = (5 : Int32) from rfl), e2]
    by_cases q : b = 0
    · rw [if_pos (show nI b = (0 : Int32) by rw [q]; rfl), if_neg (show ¬ (0 : Int32) < nI b by rw [q]; decide)]
      rcases set_arg (nI a) (nI l) with ⟨w, u, ew, eu, hd, e6, e7⟩ | ⟨e6, e7⟩
      · rw [ew, eu] at e6 e7 ⊢
        have hw : w < 3 := by unfold setD at hd; omega
        rw [e6, e7, if_neg i10, if_neg i10]
        rcases cset_ok h hC hd with ⟨ho, se', sc', sg', e, c1⟩ | ⟨ho, e⟩
        · rcases mcanset_ok (one := one) hr h hd with ⟨-, one', em⟩ | ⟨hn, -⟩
          · rw [e, b4_so, if_neg i10, em, b2_so, if_neg i10, l77, nI_add, gk (by omega) (by omega), b1_so, nI_clamp (by omega)]
            exact ⟨_, _, _, _, _, _, _, _, _, _, _, _, _, _, _, _, _, _, _, _, _, _, _, _, rfl, rfl, Or.inr ⟨rfl, _, rI_set h hd ho, c1, rowOk_upd hr (77 + w) u⟩⟩
          · exact absurd ho hn
        · rcases mcanset_ok (one := one) hr h hd with ⟨hn, -⟩ | ⟨-, one', em⟩
          · exact absurd hn ho
          · rw [e, b4_so, if_pos rfl, em, b2_so, if_pos rfl]
            exact ⟨_, _, _, _, _, _, _, _, _, _, _, _, _, _, _, _, _, _, _, _, _, _, _, _, rfl, rfl, Or.inl rfl⟩
      · rw [e6, e7, if_pos rfl, if_pos rfl]
        exact ⟨_, _, _, _, _, _, _, _, _, _, _, _, _, _, _, _, _, _, _, _, _, _, _, _, rfl, rfl, Or.inl rfl⟩
    · rw [if_neg (show ¬ nI b = (0 : Int32) from nI_ne0 (by omega) (by omega)), if_pos (show (0 : Int32) < nI b from nI_lt (a := 0) (by omega) (by omega))]
      exact ⟨_, _, _, _, _, _, _, _, _, _, _, _, _, _, _, _, _, _, _, _, _, _, _, _, rfl, rfl, Or.inl rfl⟩
  · -- whether it is read as a name
    obtain ⟨cs', ds', e⟩ := crd_ok h hC (p := 16) (b := 99) (Or.inl rfl) butOk_m1 cs ds
    have e : fX2_readFigure (16 : Int32) (-1 : Int32) sm sc cs sg ds se na = some (nI (hhow r 0 99), hname r 0 99, byI (hnr r 0 99), oneI (hnr r 0 99), cs', ds') := e
    obtain ⟨one', two', ks', em⟩ := mrd_ok hr h (p := 16) (b := 99) (Or.inl rfl) butOk_m1 one two ks
    have em : fX7_readFigure_s (0 : Int32) (-1 : Int32) 1343 c one two ks = some (oneI (hnr r 0 99), byI (hnr r 0 99), nI (hhow r 0 99), one', two', ks') := em
    have hle := hhow_le r 0 99
    rw [if_neg (show ¬ nI 6 = (1 : Int32) by decide), if_neg (show ¬ nI 6 = (2 : Int32) by decide), if_neg (show ¬ nI 6 = (3 : Int32) by decide), if_neg (show ¬ nI 6 = (4 : Int32) by decide), if_neg (show ¬ nI 6 = (5 : Int32) by decide), if_pos (show nI 6 = (6 : Int32) from rfl), if_neg (show ¬ nI 6 = (1 : Int32) by decide), if_neg (show ¬ nI 6 = (2 : Int32) by decide), if_neg (show ¬ nI 6 = (3 : Int32) by decide), if_neg (show ¬ nI 6 = (4 : Int32) by decide), if_neg (show ¬ nI 6 = (5 : Int32) by decide), if_pos (show nI 6 = (6 : Int32) from rfl), e, b6_so, em, b6_so]
    by_cases q : b = 0 ∧ l = 0
    · rw [if_pos q, if_neg i10, if_neg i10]
      by_cases y : hhow r 0 99 = 0
      · obtain ⟨p2, hn, hp2⟩ := how0 y
        have n9 := h.nm hp2
        have en : hname r 0 99 = nI (r (atM p2.1 + 76)) := by unfold hname; rw [if_pos y, hn]; rfl
        have enm : fX7_nameOf (oneI (some p2)) 1343 c = some (nI (r (atM p2.1 + 76))) := mname_ok hr (by omega) (by omega) (by omega)
        rw [en, if_pos (show nI (hhow r 0 99) = (0 : Int32) by rw [y]; rfl), hn, enm, b1_so]
        by_cases z : nI (r (atM p2.1 + 76)) = nI a
        · rw [if_pos z, if_pos z]
          exact ⟨_, _, _, _, _, _, _, _, _, _, _, _, _, _, _, _, _, _, _, _, _, _, _, _, rfl, rfl, Or.inr ⟨rfl, r, h, hC, hr⟩⟩
        · rw [if_neg z, if_neg z]
          exact ⟨_, _, _, _, _, _, _, _, _, _, _, _, _, _, _, _, _, _, _, _, _, _, _, _, rfl, rfl, Or.inl rfl⟩
      · have en : hname r 0 99 = -1 := by unfold hname; rw [if_neg y]
        rw [en, if_neg (show ¬ (-1 : Int32) = nI a from fun z => nI_m1 (show a < 2 ^ 31 by omega) z.symm), if_neg (show ¬ nI (hhow r 0 99) = (0 : Int32) from nI_ne0 (by omega) (by omega))]
        exact ⟨_, _, _, _, _, _, _, _, _, _, _, _, _, _, _, _, _, _, _, _, _, _, _, _, rfl, rfl, Or.inl rfl⟩
    · rw [if_neg q, if_pos rfl, if_pos rfl]
      exact ⟨_, _, _, _, _, _, _, _, _, _, _, _, _, _, _, _, _, _, _, _, _, _, _, _, rfl, rfl, Or.inl rfl⟩
  · -- whether there are so many samples
    rw [if_neg (show ¬ nI 7 = (1 : Int32) by decide), if_neg (show ¬ nI 7 = (2 : Int32) by decide), if_neg (show ¬ nI 7 = (3 : Int32) by decide), if_neg (show ¬ nI 7 = (4 : Int32) by decide), if_neg (show ¬ nI 7 = (5 : Int32) by decide), if_neg (show ¬ nI 7 = (6 : Int32) by decide), if_pos (show nI 7 = (7 : Int32) from rfl), if_neg (show ¬ nI 7 = (1 : Int32) by decide), if_neg (show ¬ nI 7 = (2 : Int32) by decide), if_neg (show ¬ nI 7 = (3 : Int32) by decide), if_neg (show ¬ nI 7 = (4 : Int32) by decide), if_neg (show ¬ nI 7 = (5 : Int32) by decide), if_neg (show ¬ nI 7 = (6 : Int32) by decide), if_pos (show nI 7 = (7 : Int32) from rfl)]
    by_cases q : a = 0 ∧ b = 0
    · rw [if_pos q, if_neg i10, if_pos (e4l.mpr q), l110, gk (by omega) (by omega), nI_clamp (by omega), hr 110 (by omega), hC.1]
      have hC' := hC
      rw [hC.1] at hC'
      by_cases z : nI (r 110) < nI l
      · rw [if_pos z, if_pos z]
        exact ⟨_, _, _, _, _, _, _, _, _, _, _, _, _, _, _, _, _, _, _, _, _, _, _, _, rfl, rfl, Or.inl rfl⟩
      · rw [if_neg z, if_neg z]
        exact ⟨_, _, _, _, _, _, _, _, _, _, _, _, _, _, _, _, _, _, _, _, _, _, _, _, rfl, rfl, Or.inr ⟨rfl, r, h, hC', hr⟩⟩
    · rw [if_neg q, if_pos rfl, if_neg (fun z => q (e4l.mp z))]
      exact ⟨_, _, _, _, _, _, _, _, _, _, _, _, _, _, _, _, _, _, _, _, _, _, _, _, rfl, rfl, Or.inl rfl⟩
  · -- whether the nearest is so near
    obtain ⟨cs', ds', e⟩ := crd_ok h hC (p := 16) (b := 99) (Or.inl rfl) butOk_m1 cs ds
    have e : fX2_readFigure (16 : Int32) (-1 : Int32) sm sc cs sg ds se na = some (nI (hhow r 0 99), hname r 0 99, byI (hnr r 0 99), oneI (hnr r 0 99), cs', ds') := e
    obtain ⟨one', two', ks', em⟩ := mrd_ok hr h (p := 16) (b := 99) (Or.inl rfl) butOk_m1 one two ks
    have em : fX7_readFigure_s (0 : Int32) (-1 : Int32) 1343 c one two ks = some (oneI (hnr r 0 99), byI (hnr r 0 99), nI (hhow r 0 99), one', two', ks') := em
    rw [if_neg (show ¬ nI 8 = (1 : Int32) by decide), if_neg (show ¬ nI 8 = (2 : Int32) by decide), if_neg (show ¬ nI 8 = (3 : Int32) by decide), if_neg (show ¬ nI 8 = (4 : Int32) by decide), if_neg (show ¬ nI 8 = (5 : Int32) by decide), if_neg (show ¬ nI 8 = (6 : Int32) by decide), if_neg (show ¬ nI 8 = (7 : Int32) by decide), if_pos (show nI 8 = (8 : Int32) from rfl), if_neg (show ¬ nI 8 = (1 : Int32) by decide), if_neg (show ¬ nI 8 = (2 : Int32) by decide), if_neg (show ¬ nI 8 = (3 : Int32) by decide), if_neg (show ¬ nI 8 = (4 : Int32) by decide), if_neg (show ¬ nI 8 = (5 : Int32) by decide), if_neg (show ¬ nI 8 = (6 : Int32) by decide), if_neg (show ¬ nI 8 = (7 : Int32) by decide), if_pos (show nI 8 = (8 : Int32) from rfl), e, b6_so, em, b6_so]
    by_cases q : a = 0 ∧ b = 0
    · rw [if_pos q, if_neg i10, if_pos (e4l.mpr q)]
      by_cases y : oneI (hnr r 0 99) = -1
      · rw [if_pos y, if_pos y]
        exact ⟨_, _, _, _, _, _, _, _, _, _, _, _, _, _, _, _, _, _, _, _, _, _, _, _, rfl, rfl, Or.inl rfl⟩
      · rw [if_neg y, if_neg y]
        by_cases z : nI l < byI (hnr r 0 99)
        · rw [if_pos z, if_pos z]
          exact ⟨_, _, _, _, _, _, _, _, _, _, _, _, _, _, _, _, _, _, _, _, _, _, _, _, rfl, rfl, Or.inl rfl⟩
        · rw [if_neg z, if_neg z]
          exact ⟨_, _, _, _, _, _, _, _, _, _, _, _, _, _, _, _, _, _, _, _, _, _, _, _, rfl, rfl, Or.inr ⟨rfl, r, h, hC, hr⟩⟩
    · rw [if_neg q, if_pos rfl, if_neg (fun z => q (e4l.mp z))]
      exact ⟨_, _, _, _, _, _, _, _, _, _, _, _, _, _, _, _, _, _, _, _, _, _, _, _, rfl, rfl, Or.inl rfl⟩
  · -- a name is practised
    rw [if_neg (show ¬ nI 9 = (1 : Int32) by decide), if_neg (show ¬ nI 9 = (2 : Int32) by decide), if_neg (show ¬ nI 9 = (3 : Int32) by decide), if_neg (show ¬ nI 9 = (4 : Int32) by decide), if_neg (show ¬ nI 9 = (5 : Int32) by decide), if_neg (show ¬ nI 9 = (6 : Int32) by decide), if_neg (show ¬ nI 9 = (7 : Int32) by decide), if_neg (show ¬ nI 9 = (8 : Int32) by decide), if_pos (show nI 9 = (9 : Int32) from rfl), if_neg (show ¬ nI 9 = (1 : Int32) by decide), if_neg (show ¬ nI 9 = (2 : Int32) by decide), if_neg (show ¬ nI 9 = (3 : Int32) by decide), if_neg (show ¬ nI 9 = (4 : Int32) by decide), if_neg (show ¬ nI 9 = (5 : Int32) by decide), if_neg (show ¬ nI 9 = (6 : Int32) by decide), if_neg (show ¬ nI 9 = (7 : Int32) by decide), if_neg (show ¬ nI 9 = (8 : Int32) by decide), if_pos (show nI 9 = (9 : Int32) from rfl)]
    by_cases q : b = 0 ∧ l = 0
    · rw [if_pos q, if_neg i10, if_neg i10, gk0 (by omega), k0, hr 0 (by omega)]
      by_cases y : r 0 = 0
      · rw [cprac_no hC y, b11_so, if_neg (show ¬ (-1 : Int32) = 0 by decide), if_pos (show nI (r 0) ≤ 0 by rw [y]; decide)]
        exact ⟨_, _, _, _, _, _, _, _, _, _, _, _, _, _, _, _, _, _, _, _, _, _, _, _, rfl, rfl, Or.inl rfl⟩
      · obtain ⟨st', x1, x2, x3, x4, sc', cs', ds', ou', e, c1⟩ := cprac_ok h hC (nm := a) ha y v1 v2 v3 v4 cs ds
        obtain ⟨c', y1, y2, y3, one', two', ks', em, rm⟩ := mprac_ok hr h (nm := a) ha one two ks
        have hle := pracM_le r a
        rw [e, b11_so, if_neg (show ¬ nI (r 0) ≤ 0 from nI_nle (by omega) (by omega)), em, b8_so]
        by_cases z : pracM r a = 0
        · rw [z, if_pos (show nI 0 = (0 : Int32) from rfl), if_pos (show nI 0 = (0 : Int32) from rfl)]
          rw [z] at c1 rm
          exact ⟨_, _, _, _, _, _, _, _, _, _, _, _, _, _, _, _, _, _, _, _, _, _, _, _, rfl, rfl, Or.inr ⟨rfl, _, rI_prac h ha (by omega), c1, rm⟩⟩
        · rw [if_neg (show ¬ nI (pracM r a) = (0 : Int32) from nI_ne0 (by omega) (by omega)), if_neg (show ¬ nI (pracM r a) = (0 : Int32) from nI_ne0 (by omega) (by omega))]
          exact ⟨_, _, _, _, _, _, _, _, _, _, _, _, _, _, _, _, _, _, _, _, _, _, _, _, rfl, rfl, Or.inl rfl⟩
    · rw [if_neg q, if_pos rfl, if_pos rfl]
      exact ⟨_, _, _, _, _, _, _, _, _, _, _, _, _, _, _, _, _, _, _, _, _, _, _, _, rfl, rfl, Or.inl rfl⟩
end XPURE26
