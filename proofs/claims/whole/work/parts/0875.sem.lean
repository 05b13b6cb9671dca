/-! LAW KIT 7: the methods in the law's world: what changes the state -/
section XSEM2
theorem ringHy {nw : Nat} (hw : nw < 15) {z : Int32} (e : z = nI nw) : ¬ xrem (z + (1 : Int32)) (15 : Int32) < 0 ∧ xrem (z + (1 : Int32)) (15 : Int32) < Int32.ofNat 15 ∧ vp_in (xrem (z + (1 : Int32)) (15 : Int32)) 15 ∧ (xrem (z + (1 : Int32)) (15 : Int32)).toNatClampNeg = (nw + 1) % 15 := by
  rw [e, cplace_rem hw]
  refine ⟨nI_pos (by omega), nI_lt (b := 15) (by omega) (by omega), pk_in _ _ (by omega : (nw + 1) % 15 < 15), nI_clamp (by omega)⟩
theorem HI_mem {h nw : Nat} {L L2 : List LE} {dia kep isk : Nat → Int32} {cr cs : Nat → Option Nat} (H : HI h nw L dia kep isk cr cs) (hm : ∀ e : LE, e ∈ L2 ↔ e ∈ L) (hn : (L2.map (fun e => e.1)).Nodup) : HI h nw L2 dia kep isk cr cs := by
  obtain ⟨g1, -, g3, g4, g5⟩ := H
  refine ⟨g1, hn, fun k hk => ?_, fun j hj => ?_, fun s hs => ?_⟩
  · obtain ⟨q, v, a, b⟩ := g3 k hk
    exact ⟨q, v, (hm _).mpr a, b⟩
  · rcases g4 j hj with ⟨a, b⟩ | ⟨q, v, a, b⟩
    · exact Or.inl ⟨a, fun e he => b e ((hm e).mp he)⟩
    · exact Or.inr ⟨q, v, (hm _).mpr a, b⟩
  · rcases g5 s hs with ⟨a, b, c⟩ | ⟨q, v, a, b⟩
    · exact Or.inl ⟨a, b, fun e he => c e ((hm e).mp he)⟩
    · exact Or.inr ⟨q, v, (hm _).mpr a, b⟩
theorem sem_learn (l : Launch) (hst : l.stackTraces = false) (D : va_G) (cc : Nat → ClassId) (o : Nat) (a b : Nat → Nat) (p1 : Int32) : semT l D cc o a b yX6_learn wsX6_learn yX7_learn wsX7_learn [.int p1] [xIA, xIS] := by
  intro x m L hI
  obtain ⟨r, n, t, h0, nw, h, hC, hr, t1, t2, e1, e2, e3, e4, e5, H⟩ := hI
  have hh := H.1.1
  have hw := H.1.2
  rcases name_arg p1 with ⟨k, rfl, hk, n1, n2⟩ | ⟨n1, n2⟩
  · have R := ringHy hw e3
    rcases H.2.2.2.1 ((nw + 1) % 15) (by omega) with ⟨z1, z2⟩ | ⟨q, v, z1, z2⟩
    · obtain ⟨A, nw', hc', sm', pd', st', le', po', sc', sg', na', vv, rf, c', one', two', ks', dia', r', d, E1, E2, hA, hI', hC', hr', c0, ha⟩ := learn_none h hC hr hh hw hk n1 n2 m.2.2.2.2.2.2.2.2.2.2.2.2.2.2.2.2.1 m.2.2.2.2.2.2.2.2.2.2.2.2.2.2.2.2.2.1 m.2.2.2.2.2.2.2.2.2.2.2.2.2.2.2.2.2.2 m.2.2.2.2.2.2.2.2.2.2.2.2.1
      rw [← e3, ← e4] at E1
      rw [← e5] at E2
      exact ⟨_, _, _, _, _, _, _, _, _, _, _, ⟨fun _ _ h => h, fun _ _ h => h⟩, fun g => (bX6_learn_none l D cc o g a b x m (cp cc L) (hy1 := R.1) (hy2 := R.2.1) (hy3 := by rw [R.2.2.2]; exact z1) (hy4 := R.2.2.1) (hst := hst) (h := E1)).assoc2, fun g x2 pl => bX7_learn l D cc o g a b x2 m pl (h := E2), hA, rfl, fun q => ⟨((nw + 1) % 15, q, d) :: L, rfl, r', n, t, hc', nw', hI', hC', hr', t1, t2, e1, e2, rfl, rfl, rfl, HI_acted H ha h c0 rfl (L_none H.2.1 z2).1 H.2.1 (by rw [R.2.2.2]; exact va_up_self _ _ _) (fun j hj => by rw [R.2.2.2]; exact va_up_ne _ _ hj)⟩, rmOk.of (by decide), rmOk.of (by decide)⟩
    · obtain ⟨A, nw', hc', sm', pd', st', le', po', sc', sg', na', vv, rf, c', one', two', ks', dia', r', d, E1, E2, hA, hI', hC', hr', c0, ha⟩ := learn_some h hC hr hh hw hk n1 n2 v m.2.2.2.2.2.2.2.2.2.2.2.2.2.2.2.2.1 m.2.2.2.2.2.2.2.2.2.2.2.2.2.2.2.2.2.1 m.2.2.2.2.2.2.2.2.2.2.2.2.2.2.2.2.2.2 m.2.2.2.2.2.2.2.2.2.2.2.2.1
      rw [← e3, ← e4] at E1
      rw [← e5] at E2
      obtain ⟨S9, T9, hST, hL', hn'⟩ := L_take H.2.1 z1
      subst hST
      exact ⟨_, _, _, _, _, _, _, _, _, _, _, ⟨fun _ _ hP => cp_P hP, fun _ _ hD => cp_D hD⟩, fun g => (bX6_learn_some l D cc o g a b x m q v (cp cc (T9 ++ S9)) (hy1 := R.1) (hy2 := R.2.1) (hy3 := by rw [R.2.2.2]; exact z2) (hy4 := R.2.2.1) (hst := hst) (h := E1)).assoc.assoc2, fun g x2 pl => bX7_learn l D cc o g a b x2 m pl (h := E2), hA, rfl, fun _ => ⟨((nw + 1) % 15, q, d) :: (T9 ++ S9), rfl, r', n, t, hc', nw', hI', hC', hr', t1, t2, e1, e2, rfl, rfl, rfl, HI_acted H ha h c0 rfl hL' hn' z2 (fun _ _ => rfl)⟩, rmOk.of (by decide), rmOk.of (by decide)⟩
  · obtain ⟨E1, E2⟩ := learn_arg n1 n2 m.2.2.1 m.2.2.2.2.2.2.2.2.2.2.1 m.2.2.2.2.2.2.2.2.2.2.2.2.2.2.2.2.1 m.2.2.2.2.2.2.2.2.2.2.2.2.2.2.2.2.2.1 m.2.2.2.2.2.2.2.2.2.2.2.2.2.2.2.2.2.2 m.2.2.2.2.2.2.2.2.2.2.2.2.1
    exact ⟨_, _, _, _, _, _, _, _, _, _, _, ⟨fun _ _ h => h, fun _ _ h => h⟩, fun g => bX6_learn_arg l D cc o g a b x m (cp cc L) (hst := hst) (h := E1), fun g x2 pl => bX7_learn l D cc o g a b x2 m pl (h := E2), aR_1, rfl, fun _ => ⟨L, rfl, r, n, t, h0, nw, h, hC, hr, t1, t2, e1, e2, e3, e4, e5, H⟩, rmOk.of (by decide), rmOk.of (by decide)⟩
theorem sem_forget (l : Launch) (hst : l.stackTraces = false) (D : va_G) (cc : Nat → ClassId) (o : Nat) (a b : Nat → Nat) (p1 : Int32) : semT l D cc o a b yX6_forget wsX6_forget yX7_forget wsX7_forget [.int p1] [xIO] := by
  intro x m L hI
  obtain ⟨r, n, t, h0, nw, h, hC, hr, t1, t2, e1, e2, e3, e4, e5, H⟩ := hI
  have hh := H.1.1
  have hw := H.1.2
  have R := ringHy hw e3
  rcases H.2.2.2.1 ((nw + 1) % 15) (by omega) with ⟨z1, z2⟩ | ⟨q, v, z1, z2⟩
  · obtain ⟨A, nw', hc', sm', st', le', po', sc', sg', na', vv, rf, c', dia', r', d, E1, E2, hA, hI', hC', hr', c0, ha⟩ := forget_none h hC hr hh hw p1 m.2.2.2.2.2.2.2.2.2.2.2.2.1
    rw [← e3, ← e4] at E1
    rw [← e5] at E2
    exact ⟨_, _, _, _, _, _, _, _, _, _, _, ⟨fun _ _ h => h, fun _ _ h => h⟩, fun g => (bX6_forget_none l D cc o g a b x m (cp cc L) (hy1 := R.1) (hy2 := R.2.1) (hy3 := by rw [R.2.2.2]; exact z1) (hy4 := R.2.2.1) (hst := hst) (h := E1)).assoc2, fun g x2 pl => bX7_forget l D cc o g a b x2 m pl (h := E2), hA, rfl, fun q => ⟨((nw + 1) % 15, q, d) :: L, rfl, r', n, t, hc', nw', hI', hC', hr', t1, t2, e1, e2, rfl, rfl, rfl, HI_acted H ha h c0 rfl (L_none H.2.1 z2).1 H.2.1 (by rw [R.2.2.2]; exact va_up_self _ _ _) (fun j hj => by rw [R.2.2.2]; exact va_up_ne _ _ hj)⟩, rmOk.of (by decide), rmOk.of (by decide)⟩
  · obtain ⟨A, nw', hc', sm', st', le', po', sc', sg', na', vv, rf, c', dia', r', d, E1, E2, hA, hI', hC', hr', c0, ha⟩ := forget_some h hC hr hh hw p1 v m.2.2.2.2.2.2.2.2.2.2.2.2.1
    rw [← e3, ← e4] at E1
    rw [← e5] at E2
    obtain ⟨S9, T9, hST, hL', hn'⟩ := L_take H.2.1 z1
    subst hST
    exact ⟨_, _, _, _, _, _, _, _, _, _, _, ⟨fun _ _ hP => cp_P hP, fun _ _ hD => cp_D hD⟩, fun g => (bX6_forget_some l D cc o g a b x m q v (cp cc (T9 ++ S9)) (hy1 := R.1) (hy2 := R.2.1) (hy3 := by rw [R.2.2.2]; exact z2) (hy4 := R.2.2.1) (hst := hst) (h := E1)).assoc.assoc2, fun g x2 pl => bX7_forget l D cc o g a b x2 m pl (h := E2), hA, rfl, fun _ => ⟨((nw + 1) % 15, q, d) :: (T9 ++ S9), rfl, r', n, t, hc', nw', hI', hC', hr', t1, t2, e1, e2, rfl, rfl, rfl, HI_acted H ha h c0 rfl hL' hn' z2 (fun _ _ => rfl)⟩, rmOk.of (by decide), rmOk.of (by decide)⟩
theorem sem_practise (l : Launch) (hst : l.stackTraces = false) (D : va_G) (cc : Nat → ClassId) (o : Nat) (a b : Nat → Nat) (p1 : Int32) : semT l D cc o a b yX6_practise wsX6_practise yX7_practise wsX7_practise [.int p1] [xIA, xIS] := by
  intro x m L hI
  obtain ⟨r, n, t, h0, nw, h, hC, hr, t1, t2, e1, e2, e3, e4, e5, H⟩ := hI
  have hh := H.1.1
  have hw := H.1.2
  rcases name_arg p1 with ⟨k, rfl, hk, n1, n2⟩ | ⟨n1, n2⟩
  · have R := ringHy hw e3
    rcases H.2.2.2.1 ((nw + 1) % 15) (by omega) with ⟨z1, z2⟩ | ⟨q, v, z1, z2⟩
    · obtain ⟨A, nw', hc', pd', st', sc', ou', x1, x2, x3, x4, cs', ds', vv, rf, y1, y2, y3, c', dia', one', two', ks', r', d, E1, E2, hA, hI', hC', hr', c0, ha⟩ := practise_none h hC hr hh hw hk n1 n2 x.2.2.1.1 x.2.2.1.2.1 x.2.2.1.2.2.1 x.2.2.1.2.2.2 m.2.2.2.1 m.2.2.2.2.1 m.2.2.2.2.2.1 x.2.2.2.1 x.2.2.2.2.1 m.2.2.2.2.2.2.2.2.2.2.2.2.2.2.2.2.1 m.2.2.2.2.2.2.2.2.2.2.2.2.2.2.2.2.2.1 m.2.2.2.2.2.2.2.2.2.2.2.2.2.2.2.2.2.2 m.2.2.2.2.2.2.2.2.2.2.2.2.1
      rw [← e3, ← e4] at E1
      rw [← e5] at E2
      exact ⟨_, _, _, _, _, _, _, _, _, _, _, ⟨fun _ _ h => h, fun _ _ h => h⟩, fun g => (bX6_practise_none l D cc o g a b x m (cp cc L) (hy1 := R.1) (hy2 := R.2.1) (hy3 := by rw [R.2.2.2]; exact z1) (hy4 := R.2.2.1) (hst := hst) (h := E1)).assoc2, fun g x2 pl => bX7_practise l D cc o g a b x2 m pl (h := E2), hA, rfl, fun q => ⟨((nw + 1) % 15, q, d) :: L, rfl, r', n, t, hc', nw', hI', hC', hr', t1, t2, e1, e2, rfl, rfl, rfl, HI_acted H ha h c0 rfl (L_none H.2.1 z2).1 H.2.1 (by rw [R.2.2.2]; exact va_up_self _ _ _) (fun j hj => by rw [R.2.2.2]; exact va_up_ne _ _ hj)⟩, rmOk.of (by decide), rmOk.of (by decide)⟩
    · obtain ⟨A, nw', hc', pd', st', sc', ou', x1, x2, x3, x4, cs', ds', vv, rf, y1, y2, y3, c', dia', one', two', ks', r', d, E1, E2, hA, hI', hC', hr', c0, ha⟩ := practise_some h hC hr hh hw hk n1 n2 v x.2.2.1.1 x.2.2.1.2.1 x.2.2.1.2.2.1 x.2.2.1.2.2.2 m.2.2.2.1 m.2.2.2.2.1 m.2.2.2.2.2.1 x.2.2.2.1 x.2.2.2.2.1 m.2.2.2.2.2.2.2.2.2.2.2.2.2.2.2.2.1 m.2.2.2.2.2.2.2.2.2.2.2.2.2.2.2.2.2.1 m.2.2.2.2.2.2.2.2.2.2.2.2.2.2.2.2.2.2 m.2.2.2.2.2.2.2.2.2.2.2.2.1
      rw [← e3, ← e4] at E1
      rw [← e5] at E2
      obtain ⟨S9, T9, hST, hL', hn'⟩ := L_take H.2.1 z1
      subst hST
      exact ⟨_, _, _, _, _, _, _, _, _, _, _, ⟨fun _ _ hP => cp_P hP, fun _ _ hD => cp_D hD⟩, fun g => (bX6_practise_some l D cc o g a b x m q v (cp cc (T9 ++ S9)) (hy1 := R.1) (hy2 := R.2.1) (hy3 := by rw [R.2.2.2]; exact z2) (hy4 := R.2.2.1) (hst := hst) (h := E1)).assoc.assoc2, fun g x2 pl => bX7_practise l D cc o g a b x2 m pl (h := E2), hA, rfl, fun _ => ⟨((nw + 1) % 15, q, d) :: (T9 ++ S9), rfl, r', n, t, hc', nw', hI', hC', hr', t1, t2, e1, e2, rfl, rfl, rfl, HI_acted H ha h c0 rfl hL' hn' z2 (fun _ _ => rfl)⟩, rmOk.of (by decide), rmOk.of (by decide)⟩
  · obtain ⟨E1, E2⟩ := practise_arg n1 n2 m.2.2.1 m.2.2.2.1 m.2.2.2.2.1 m.2.2.2.2.2.1 m.2.2.2.2.2.2.2.2.2.2.1 m.2.2.2.2.2.2.2.2.2.2.2.2.2.2.2.2.1 m.2.2.2.2.2.2.2.2.2.2.2.2.2.2.2.2.2.1 m.2.2.2.2.2.2.2.2.2.2.2.2.2.2.2.2.2.2 m.2.2.2.2.2.2.2.2.2.2.2.2.1
    exact ⟨_, _, _, _, _, _, _, _, _, _, _, ⟨fun _ _ h => h, fun _ _ h => h⟩, fun g => bX6_practise_arg l D cc o g a b x m (cp cc L) (hst := hst) (h := E1), fun g x2 pl => bX7_practise l D cc o g a b x2 m pl (h := E2), aR_1, rfl, fun _ => ⟨L, rfl, r, n, t, h0, nw, h, hC, hr, t1, t2, e1, e2, e3, e4, e5, H⟩, rmOk.of (by decide), rmOk.of (by decide)⟩
theorem sem_set (l : Launch) (hst : l.stackTraces = false) (D : va_G) (cc : Nat → ClassId) (o : Nat) (a b : Nat → Nat) (p1 : Int32) (p2 : Int32) : semT l D cc o a b yX6_set wsX6_set yX7_set wsX7_set [.int p1, .int p2] [xIA, xIS] := by
  intro x m L hI
  obtain ⟨r, n, t, h0, nw, h, hC, hr, t1, t2, e1, e2, e3, e4, e5, H⟩ := hI
  have hh := H.1.1
  have hw := H.1.2
  rcases set_arg p1 p2 with ⟨w, u, rfl, rfl, hs, n1, n2⟩ | ⟨n1, n2⟩
  · have R := ringHy hw e3
    rcases H.2.2.2.1 ((nw + 1) % 15) (by omega) with ⟨z1, z2⟩ | ⟨q, v, z1, z2⟩
    · obtain ⟨A, nw', hc', se', sc', sg', vv, rf, c', one', dia', r', d, E1, E2, hA, hI', hC', hr', c0, ha⟩ := set_none h hC hr hh hw hs n1 n2 m.2.2.2.2.2.2.2.2.2.2.2.2.2.2.2.2.1 m.2.2.2.2.2.2.2.2.2.2.2.2.1
      rw [← e3, ← e4] at E1
      rw [← e5] at E2
      exact ⟨_, _, _, _, _, _, _, _, _, _, _, ⟨fun _ _ h => h, fun _ _ h => h⟩, fun g => (bX6_set_none l D cc o g a b x m (cp cc L) (hy1 := R.1) (hy2 := R.2.1) (hy3 := by rw [R.2.2.2]; exact z1) (hy4 := R.2.2.1) (hst := hst) (h := E1)).assoc2, fun g x2 pl => bX7_set l D cc o g a b x2 m pl (h := E2), hA, rfl, fun q => ⟨((nw + 1) % 15, q, d) :: L, rfl, r', n, t, hc', nw', hI', hC', hr', t1, t2, e1, e2, rfl, rfl, rfl, HI_acted H ha h c0 rfl (L_none H.2.1 z2).1 H.2.1 (by rw [R.2.2.2]; exact va_up_self _ _ _) (fun j hj => by rw [R.2.2.2]; exact va_up_ne _ _ hj)⟩, rmOk.of (by decide), rmOk.of (by decide)⟩
    · obtain ⟨A, nw', hc', se', sc', sg', vv, rf, c', one', dia', r', d, E1, E2, hA, hI', hC', hr', c0, ha⟩ := set_some h hC hr hh hw hs n1 n2 v m.2.2.2.2.2.2.2.2.2.2.2.2.2.2.2.2.1 m.2.2.2.2.2.2.2.2.2.2.2.2.1
      rw [← e3, ← e4] at E1
      rw [← e5] at E2
      obtain ⟨S9, T9, hST, hL', hn'⟩ := L_take H.2.1 z1
      subst hST
      exact ⟨_, _, _, _, _, _, _, _, _, _, _, ⟨fun _ _ hP => cp_P hP, fun _ _ hD => cp_D hD⟩, fun g => (bX6_set_some l D cc o g a b x m q v (cp cc (T9 ++ S9)) (hy1 := R.1) (hy2 := R.2.1) (hy3 := by rw [R.2.2.2]; exact z2) (hy4 := R.2.2.1) (hst := hst) (h := E1)).assoc.assoc2, fun g x2 pl => bX7_set l D cc o g a b x2 m pl (h := E2), hA, rfl, fun _ => ⟨((nw + 1) % 15, q, d) :: (T9 ++ S9), rfl, r', n, t, hc', nw', hI', hC', hr', t1, t2, e1, e2, rfl, rfl, rfl, HI_acted H ha h c0 rfl hL' hn' z2 (fun _ _ => rfl)⟩, rmOk.of (by decide), rmOk.of (by decide)⟩
  · obtain ⟨E1, E2⟩ := set_argx n1 n2 m.2.2.1 m.2.2.2.2.2.2.2.2.2.2.1 m.2.2.2.2.2.2.2.2.2.2.2.2.2.2.2.2.1 m.2.2.2.2.2.2.2.2.2.2.2.2.1
    exact ⟨_, _, _, _, _, _, _, _, _, _, _, ⟨fun _ _ h => h, fun _ _ h => h⟩, fun g => bX6_set_arg l D cc o g a b x m (cp cc L) (hst := hst) (h := E1), fun g x2 pl => bX7_set l D cc o g a b x2 m pl (h := E2), aR_1, rfl, fun _ => ⟨L, rfl, r, n, t, h0, nw, h, hC, hr, t1, t2, e1, e2, e3, e4, e5, H⟩, rmOk.of (by decide), rmOk.of (by decide)⟩
theorem sem_point (l : Launch) (hst : l.stackTraces = false) (D : va_G) (cc : Nat → ClassId) (o : Nat) (a b : Nat → Nat) (p1 : Int32) (p2 : Int32) : semT l D cc o a b yX6_point wsX6_point yX7_point wsX7_point [.int p1, .int p2] [xIA, xIS] := by
  intro x m L hI
  obtain ⟨r, n, t, h0, nw, h, hC, hr, t1, t2, e1, e2, e3, e4, e5, H⟩ := hI
  have hh := H.1.1
  have hw := H.1.2
  rcases point_arg p1 p2 with ⟨u, w, rfl, rfl, hu, hw2, n1, n2, n3⟩ | ⟨n1, n2⟩
  · have R := ringHy hw e3
    rcases H.2.2.2.1 ((nw + 1) % 15) (by omega) with ⟨z1, z2⟩ | ⟨q, v, z1, z2⟩
    · obtain ⟨A, nw', hc', pd', st', le', po', sc', sg', vv, rf, c', tr', one', dia', r', d, E1, E2, hA, hI', hC', hr', c0, ha⟩ := point_none h hC hr hh hw hu hw2 n2 n3 n1 m.2.2.2.2.2.2.2.2.2.2.2.1 m.2.2.2.2.2.2.2.2.2.2.2.2.2.2.2.2.1 m.2.2.2.2.2.2.2.2.2.2.2.2.1
      rw [← e3, ← e4] at E1
      rw [← e5] at E2
      exact ⟨_, _, _, _, _, _, _, _, _, _, _, ⟨fun _ _ h => h, fun _ _ h => h⟩, fun g => (bX6_point_none l D cc o g a b x m (cp cc L) (hy1 := R.1) (hy2 := R.2.1) (hy3 := by rw [R.2.2.2]; exact z1) (hy4 := R.2.2.1) (hst := hst) (h := E1)).assoc2, fun g x2 pl => bX7_point l D cc o g a b x2 m pl (h := E2), hA, rfl, fun q => ⟨((nw + 1) % 15, q, d) :: L, rfl, r', n, t, hc', nw', hI', hC', hr', t1, t2, e1, e2, rfl, rfl, rfl, HI_acted H ha h c0 rfl (L_none H.2.1 z2).1 H.2.1 (by rw [R.2.2.2]; exact va_up_self _ _ _) (fun j hj => by rw [R.2.2.2]; exact va_up_ne _ _ hj)⟩, rmOk.of (by decide), rmOk.of (by decide)⟩
    · obtain ⟨A, nw', hc', pd', st', le', po', sc', sg', vv, rf, c', tr', one', dia', r', d, E1, E2, hA, hI', hC', hr', c0, ha⟩ := point_some h hC hr hh hw hu hw2 n2 n3 n1 v m.2.2.2.2.2.2.2.2.2.2.2.1 m.2.2.2.2.2.2.2.2.2.2.2.2.2.2.2.2.1 m.2.2.2.2.2.2.2.2.2.2.2.2.1
      rw [← e3, ← e4] at E1
      rw [← e5] at E2
      obtain ⟨S9, T9, hST, hL', hn'⟩ := L_take H.2.1 z1
      subst hST
      exact ⟨_, _, _, _, _, _, _, _, _, _, _, ⟨fun _ _ hP => cp_P hP, fun _ _ hD => cp_D hD⟩, fun g => (bX6_point_some l D cc o g a b x m q v (cp cc (T9 ++ S9)) (hy1 := R.1) (hy2 := R.2.1) (hy3 := by rw [R.2.2.2]; exact z2) (hy4 := R.2.2.1) (hst := hst) (h := E1)).assoc.assoc2, fun g x2 pl => bX7_point l D cc o g a b x2 m pl (h := E2), hA, rfl, fun _ => ⟨((nw + 1) % 15, q, d) :: (T9 ++ S9), rfl, r', n, t, hc', nw', hI', hC', hr', t1, t2, e1, e2, rfl, rfl, rfl, HI_acted H ha h c0 rfl hL' hn' z2 (fun _ _ => rfl)⟩, rmOk.of (by decide), rmOk.of (by decide)⟩
  · obtain ⟨E1, E2⟩ := point_argx n2 n1 m.2.2.1 m.2.2.2.2.2.2.2.2.2.2.1 m.2.2.2.2.2.2.2.2.2.2.2.1 m.2.2.2.2.2.2.2.2.2.2.2.2.2.2.2.2.1 m.2.2.2.2.2.2.2.2.2.2.2.2.1
    exact ⟨_, _, _, _, _, _, _, _, _, _, _, ⟨fun _ _ h => h, fun _ _ h => h⟩, fun g => bX6_point_arg l D cc o g a b x m (cp cc L) (hst := hst) (h := E1), fun g x2 pl => bX7_point l D cc o g a b x2 m pl (h := E2), aR_1, rfl, fun _ => ⟨L, rfl, r, n, t, h0, nw, h, hC, hr, t1, t2, e1, e2, e3, e4, e5, H⟩, rmOk.of (by decide), rmOk.of (by decide)⟩
theorem sem_lift (l : Launch) (hst : l.stackTraces = false) (D : va_G) (cc : Nat → ClassId) (o : Nat) (a b : Nat → Nat) : semN l D cc o a b yX6_lift wsX6_lift yX7_lift wsX7_lift := by
  intro x m L hI
  obtain ⟨r, n, t, h0, nw, h, hC, hr, t1, t2, e1, e2, e3, e4, e5, H⟩ := hI
  have hh := H.1.1
  have hw := H.1.2
  have R := ringHy hw e3
  rcases H.2.2.2.1 ((nw + 1) % 15) (by omega) with ⟨z1, z2⟩ | ⟨q, v, z1, z2⟩
  · obtain ⟨nw', hc', vv, c', dia', r', d, E1, E2, hI', hC', hr', c0, ha⟩ := lift_none h hC hr hh hw m.2.2.2.2.2.2.2.2.2.2.2.2.1
    rw [← e3, ← e4] at E1
    rw [← e5] at E2
    exact ⟨_, _, _, _, _, _, _, _, _, ⟨fun _ _ h => h, fun _ _ h => h⟩, fun g => (bX6_lift_none l D cc o g a b x m (cp cc L) (hy1 := R.1) (hy2 := R.2.1) (hy3 := by rw [R.2.2.2]; exact z1) (hy4 := R.2.2.1) (h := E1)).assoc2, fun g x2 pl => bX7_lift l D cc o g a b x2 m pl (h := E2), fun q => ⟨((nw + 1) % 15, q, d) :: L, rfl, r', n, t, hc', nw', hI', hC', hr', t1, t2, e1, e2, rfl, rfl, rfl, HI_acted H ha h c0 rfl (L_none H.2.1 z2).1 H.2.1 (by rw [R.2.2.2]; exact va_up_self _ _ _) (fun j hj => by rw [R.2.2.2]; exact va_up_ne _ _ hj)⟩, rmOk.of (by decide), rmOk.of (by decide)⟩
  · obtain ⟨nw', hc', vv, c', dia', r', d, E1, E2, hI', hC', hr', c0, ha⟩ := lift_some h hC hr hh hw v m.2.2.2.2.2.2.2.2.2.2.2.2.1
    rw [← e3, ← e4] at E1
    rw [← e5] at E2
    obtain ⟨S9, T9, hST, hL', hn'⟩ := L_take H.2.1 z1
    subst hST
    exact ⟨_, _, _, _, _, _, _, _, _, ⟨fun _ _ hP => cp_P hP, fun _ _ hD => cp_D hD⟩, fun g => (bX6_lift_some l D cc o g a b x m q v (cp cc (T9 ++ S9)) (hy1 := R.1) (hy2 := R.2.1) (hy3 := by rw [R.2.2.2]; exact z2) (hy4 := R.2.2.1) (h := E1)).assoc.assoc2, fun g x2 pl => bX7_lift l D cc o g a b x2 m pl (h := E2), fun _ => ⟨((nw + 1) % 15, q, d) :: (T9 ++ S9), rfl, r', n, t, hc', nw', hI', hC', hr', t1, t2, e1, e2, rfl, rfl, rfl, HI_acted H ha h c0 rfl hL' hn' z2 (fun _ _ => rfl)⟩, rmOk.of (by decide), rmOk.of (by decide)⟩
theorem sem_draw (l : Launch) (hst : l.stackTraces = false) (D : va_G) (cc : Nat → ClassId) (o : Nat) (a b : Nat → Nat) : semT l D cc o a b yX6_draw wsX6_draw yX7_draw wsX7_draw [] [xIS] := by
  intro x m L hI
  obtain ⟨r, n, t, h0, nw, h, hC, hr, t1, t2, e1, e2, e3, e4, e5, H⟩ := hI
  have hh := H.1.1
  have hw := H.1.2
  rcases draw_argx h hC hr t1 t2 x.2.1.1 x.2.1.2.1 x.2.1.2.2.1 x.2.1.2.2.2.1 x.2.1.2.2.2.2.1 x.2.1.2.2.2.2.2.1 x.2.1.2.2.2.2.2.2.1 x.2.1.2.2.2.2.2.2.2.1 x.2.1.2.2.2.2.2.2.2.2.1 x.2.1.2.2.2.2.2.2.2.2.2 m.2.2.2.2.2.2.2.2.2.2.2.2.2.2.2.1 m.2.2.2.2.2.2.2.2.2.2.2.2.1 m.2.2.2.2.2.2.2.2.2.2.2.2.2.2.2.2.1 m.2.2.1 with ⟨q, vv, dr', one', sp, E1, E2⟩ | ⟨hv, hl⟩
  · rw [← e1] at E1
    rw [← e2] at E2
    exact ⟨_, _, _, _, _, _, _, _, _, _, _, ⟨fun _ _ h => h, fun _ _ h => h⟩, fun g => bX6_draw_arg l D cc o g a b x m (cp cc L) (hst := hst) (h := E1), fun g x2 pl => bX7_draw l D cc o g a b x2 m pl (h := E2), aR_1, rfl, fun _ => ⟨L, rfl, r, n, t, h0, nw, h, hC, hr, t1, t2, e1, e2, e3, e4, e5, H⟩, rmOk.of (by decide), rmOk.of (by decide)⟩
  · have R := ringHy hw e3
    rcases H.2.2.2.1 ((nw + 1) % 15) (by omega) with ⟨z1, z2⟩ | ⟨q, v, z1, z2⟩
    · obtain ⟨xx, nw', hc', dr', one', sp, c', dia', r', d, q9, s9, E1, E2, hI', hC', hr', c0, ha⟩ := draw_none h hC hr hh hw t1 t2 hv hl x.2.1.2.2.1 x.2.1.2.2.2.1 x.2.1.2.2.2.2.1 x.2.1.2.2.2.2.2.1 x.2.1.2.2.2.2.2.2.1 x.2.1.2.2.2.2.2.2.2.1 x.2.1.2.2.2.2.2.2.2.2.1 x.2.1.2.2.2.2.2.2.2.2.2 m.2.2.2.2.2.2.2.2.2.2.2.2.2.2.2.1 m.2.2.2.2.2.2.2.2.2.2.2.2.1 m.2.2.2.2.2.2.2.2.2.2.2.2.2.2.2.2.1
      rw [← e3, ← e4, ← e1] at E1
      rw [← e5, ← e2] at E2
      exact ⟨_, _, _, _, _, _, _, _, _, _, _, ⟨fun _ _ h => h, fun _ _ h => h⟩, fun g => (bX6_draw_none l D cc o g a b x m (cp cc L) (hy1 := R.1) (hy2 := R.2.1) (hy3 := by rw [R.2.2.2]; exact z1) (hy4 := R.2.2.1) (hst := hst) (h := E1)).assoc2, fun g x2 pl => bX7_draw l D cc o g a b x2 m pl (h := E2), aR_ok rfl, rfl, fun q => ⟨((nw + 1) % 15, q, d) :: L, rfl, r', n, t, hc', nw', hI', hC', hr', t1, t2, e1, e2, rfl, rfl, rfl, HI_acted H ha h c0 rfl (L_none H.2.1 z2).1 H.2.1 (by rw [R.2.2.2]; exact va_up_self _ _ _) (fun j hj => by rw [R.2.2.2]; exact va_up_ne _ _ hj)⟩, rmOk.of (by decide), rmOk.of (by decide)⟩
    · obtain ⟨xx, nw', hc', dr', one', sp, c', dia', r', d, q9, s9, E1, E2, hI', hC', hr', c0, ha⟩ := draw_some h hC hr hh hw t1 t2 hv hl v x.2.1.2.2.1 x.2.1.2.2.2.1 x.2.1.2.2.2.2.1 x.2.1.2.2.2.2.2.1 x.2.1.2.2.2.2.2.2.1 x.2.1.2.2.2.2.2.2.2.1 x.2.1.2.2.2.2.2.2.2.2.1 x.2.1.2.2.2.2.2.2.2.2.2 m.2.2.2.2.2.2.2.2.2.2.2.2.2.2.2.1 m.2.2.2.2.2.2.2.2.2.2.2.2.1 m.2.2.2.2.2.2.2.2.2.2.2.2.2.2.2.2.1
      rw [← e3, ← e4, ← e1] at E1
      rw [← e5, ← e2] at E2
      obtain ⟨S9, T9, hST, hL', hn'⟩ := L_take H.2.1 z1
      subst hST
      exact ⟨_, _, _, _, _, _, _, _, _, _, _, ⟨fun _ _ hP => cp_P hP, fun _ _ hD => cp_D hD⟩, fun g => (bX6_draw_some l D cc o g a b x m q v (cp cc (T9 ++ S9)) (hy1 := R.1) (hy2 := R.2.1) (hy3 := by rw [R.2.2.2]; exact z2) (hy4 := R.2.2.1) (hst := hst) (h := E1)).assoc.assoc2, fun g x2 pl => bX7_draw l D cc o g a b x2 m pl (h := E2), aR_ok rfl, rfl, fun _ => ⟨((nw + 1) % 15, q, d) :: (T9 ++ S9), rfl, r', n, t, hc', nw', hI', hC', hr', t1, t2, e1, e2, rfl, rfl, rfl, HI_acted H ha h c0 rfl hL' hn' z2 (fun _ _ => rfl)⟩, rmOk.of (by decide), rmOk.of (by decide)⟩
theorem sem_save (l : Launch) (hst : l.stackTraces = false) (D : va_G) (cc : Nat → ClassId) (o : Nat) (a b : Nat → Nat) (p1 : Int32) : semT l D cc o a b yX6_save wsX6_save yX7_save wsX7_save [.int p1] [xIO] := by
  intro x m L hI
  obtain ⟨r, n, t, h0, nw, h, hC, hr, t1, t2, e1, e2, e3, e4, e5, H⟩ := hI
  have hh := H.1.1
  have hw := H.1.2
  rcases arg0 p1 (hi := 1) (by omega) with ⟨k, hk, rfl, -, -, -⟩ | ⟨n1, n2⟩
  · have hk2 : k < 2 := by omega
    rcases H.2.2.2.2 k hk2 with ⟨z1, -, z3⟩ | ⟨q, v, z0, z2, -, -⟩
    · obtain ⟨xx, kep', isk', d, E1, E2, c0, s1, s2, s3, s4⟩ := save_none h hC hr hk2 m.2.2.2.2.2.2.2.2.2.2.2.2.2.1 m.2.2.2.2.2.2.2.2.2.2.2.2.2.2.1
      exact ⟨_, _, _, _, _, _, _, _, _, _, _, ⟨fun _ _ h => h, fun _ _ h => h⟩, fun g => (bX6_save_none l D cc o g a b x m (cp cc L) (hy1 := nI_pos (by omega)) (hy2 := nI_lt (b := 2) (by omega) (by omega)) (hy3 := by rw [nI_clamp (by omega)]; exact z1) (hy4 := pk_in _ _ hk2) (hst := hst) (h := E1)).assoc2, fun g x2 pl => bX7_save l D cc o g a b x2 m pl (h := E2), aR_ok rfl, rfl, fun q => ⟨(15 + k, q, d) :: L, rfl, r, n, t, h0, nw, h, hC, hr, t1, t2, e1, e2, e3, e4, e5, HI_save H hk2 (L_none H.2.1 z3).1 H.2.1 (by rw [nI_clamp (by omega)]; exact va_up_self _ _ _) (fun j hj => by rw [nI_clamp (by omega)]; exact va_up_ne _ _ hj) s1 s2 ⟨r, h, c0, s3⟩ s4⟩, rmOk.of (by decide), rmOk.of (by decide)⟩
    · obtain ⟨xx, kep', isk', d, E1, E2, c0, s1, s2, s3, s4⟩ := save_some h hC hr hk2 v m.2.2.2.2.2.2.2.2.2.2.2.2.2.1 m.2.2.2.2.2.2.2.2.2.2.2.2.2.2.1
      obtain ⟨S9, T9, hST, hL', hn'⟩ := L_take H.2.1 z0
      subst hST
      exact ⟨_, _, _, _, _, _, _, _, _, _, _, ⟨fun _ _ hP => cp_P hP, fun _ _ hD => cp_D hD⟩, fun g => (bX6_save_some l D cc o g a b x m q v (cp cc (T9 ++ S9)) (hy1 := nI_pos (by omega)) (hy2 := nI_lt (b := 2) (by omega) (by omega)) (hy3 := by rw [nI_clamp (by omega)]; exact z2) (hy4 := pk_in _ _ hk2) (hst := hst) (h := E1)).assoc.assoc2, fun g x2 pl => bX7_save l D cc o g a b x2 m pl (h := E2), aR_ok rfl, rfl, fun _ => ⟨(15 + k, q, d) :: (T9 ++ S9), rfl, r, n, t, h0, nw, h, hC, hr, t1, t2, e1, e2, e3, e4, e5, HI_save H hk2 hL' hn' z2 (fun _ _ => rfl) s1 s2 ⟨r, h, c0, s3⟩ s4⟩, rmOk.of (by decide), rmOk.of (by decide)⟩
  · obtain ⟨E1, E2⟩ := save_argx n2 n1 m.2.2.2.2.2.2.2.2.2.2.1 m.2.2.2.2.2.2.2.2.2.2.2.2.2.1 m.2.2.2.2.2.2.2.2.2.2.2.2.2.2.1
    exact ⟨_, _, _, _, _, _, _, _, _, _, _, ⟨fun _ _ h => h, fun _ _ h => h⟩, fun g => bX6_save_arg l D cc o g a b x m (cp cc L) (hst := hst) (h := E1), fun g x2 pl => bX7_save l D cc o g a b x2 m pl (h := E2), aR_1, rfl, fun _ => ⟨L, rfl, r, n, t, h0, nw, h, hC, hr, t1, t2, e1, e2, e3, e4, e5, H⟩, rmOk.of (by decide), rmOk.of (by decide)⟩
theorem sem_restore (l : Launch) (hst : l.stackTraces = false) (D : va_G) (cc : Nat → ClassId) (o : Nat) (a b : Nat → Nat) (p1 : Int32) : semT l D cc o a b yX6_restore wsX6_restore yX7_restore wsX7_restore [.int p1] [xIO, xIS] := by
  intro x m L hI
  obtain ⟨r, n, t, h0, nw, h, hC, hr, t1, t2, e1, e2, e3, e4, e5, H⟩ := hI
  have hh := H.1.1
  have hw := H.1.2
  rcases arg0 p1 (hi := 1) (by omega) with ⟨k, hk, rfl, -, -, -⟩ | ⟨n1, n2⟩
  · have hk2 : k < 2 := by omega
    rcases H.2.2.2.2 k hk2 with ⟨z1, z2, z3⟩ | ⟨q, v, z0, z2, z3, z4⟩
    · obtain ⟨E1, E2⟩ := restore_nonex hk2 m.2.2.1 m.2.2.2.2.2.2.2.2.2.2.1 m.2.2.2.2.2.2.2.2.2.2.2.2.2.1 m.2.2.2.2.2.2.2.2.2.2.2.2.2.2.1 z2
      exact ⟨_, _, _, _, _, _, _, _, _, _, _, ⟨fun _ _ h => h, fun _ _ h => h⟩, fun g => bX6_restore_none l D cc o g a b x m (cp cc L) (hy1 := nI_pos (by omega)) (hy2 := nI_ge (b := 2) (by omega) (by omega)) (hy3 := by rw [nI_clamp (by omega)]; exact z1) (hy4 := pk_in _ _ hk2) (hst := hst) (h := E1), fun g x2 pl => bX7_restore l D cc o g a b x2 m pl (h := E2), aR_2, rfl, fun _ => ⟨L, rfl, r, n, t, h0, nw, h, hC, hr, t1, t2, e1, e2, e3, e4, e5, H⟩, rmOk.of (by decide), rmOk.of (by decide)⟩
    · obtain ⟨uu, tt, c', r', E1, E2, hI', hC', hr'⟩ := restore_somex hk2 m.2.2.1 m.2.2.2.2.2.2.2.2.2.2.1 m.2.2.2.2.2.2.2.2.2.2.2.2.2.1 m.2.2.2.2.2.2.2.2.2.2.2.2.2.2.1 z3 z4 x.1.2.2.1 x.1.2.2.2.1 x.1.2.2.2.2.1 x.1.2.2.2.2.2.1 x.1.2.2.2.2.2.2.1 x.1.2.2.2.2.2.2.2.1 x.1.2.2.2.2.2.2.2.2.1 x.1.2.2.2.2.2.2.2.2.2
      obtain ⟨S9, T9, hST, hL', hn'⟩ := L_take H.2.1 z0
      subst hST
      have hm : ∀ e : LE, e ∈ ((15 + k, q, v) : LE) :: (T9 ++ S9) ↔ e ∈ S9 ++ ((15 + k, q, v) : LE) :: T9 := fun e => by
        simp only [List.mem_append, List.mem_cons]
        constructor
        · rintro (h | h | h)
          · exact Or.inr (Or.inl h)
          · exact Or.inr (Or.inr h)
          · exact Or.inl h
        · rintro (h | h | h)
          · exact Or.inr (Or.inr h)
          · exact Or.inl h
          · exact Or.inr (Or.inl h)
      exact ⟨_, _, _, _, _, _, _, _, _, _, _, ⟨fun _ _ hP => cp_P hP, fun _ _ hD => cp_D hD⟩, fun g => (bX6_restore_some l D cc o g a b x m q v (cp cc (T9 ++ S9)) (hy1 := nI_pos (by omega)) (hy2 := nI_ge (b := 2) (by omega) (by omega)) (hy3 := by rw [nI_clamp (by omega)]; exact z2) (hy4 := pk_in _ _ hk2) (hst := hst) (h := E1)).assoc.assoc2, fun g x2 pl => bX7_restore l D cc o g a b x2 m pl (h := E2), aR_ok rfl, rfl, fun _ => ⟨(15 + k, q, v) :: (T9 ++ S9), rfl, r', n, t, 0, nw, hI', hC', hr', t1, t2, e1, e2, e3, rfl, rfl, HI_mem (HI_zero H) hm (L_cons hL' hn')⟩, rmOk.of (by decide), rmOk.of (by decide)⟩
  · obtain ⟨E1, E2⟩ := restore_argx n2 n1 m.2.2.1 m.2.2.2.2.2.2.2.2.2.2.1 m.2.2.2.2.2.2.2.2.2.2.2.2.2.1 m.2.2.2.2.2.2.2.2.2.2.2.2.2.2.1
    exact ⟨_, _, _, _, _, _, _, _, _, _, _, ⟨fun _ _ h => h, fun _ _ h => h⟩, fun g => bX6_restore_arg l D cc o g a b x m (cp cc L) (hst := hst) (h := E1), fun g x2 pl => bX7_restore l D cc o g a b x2 m pl (h := E2), aR_1, rfl, fun _ => ⟨L, rfl, r, n, t, h0, nw, h, hC, hr, t1, t2, e1, e2, e3, e4, e5, H⟩, rmOk.of (by decide), rmOk.of (by decide)⟩
theorem sem_undo (l : Launch) (hst : l.stackTraces = false) (D : va_G) (cc : Nat → ClassId) (o : Nat) (a b : Nat → Nat) : semT l D cc o a b yX6_undo wsX6_undo yX7_undo wsX7_undo [] [xIS] := by
  intro x m L hI
  obtain ⟨r, n, t, h0, nw, h, hC, hr, t1, t2, e1, e2, e3, e4, e5, H⟩ := hI
  have hh := H.1.1
  have hw := H.1.2
  by_cases hz : h0 = 0
  · subst hz
    obtain ⟨E1, E2⟩ := undo_zerox m.2.2.2.2.2.2.2.2.2.2.1 m.2.2.2.2.2.2.2.2.2.2.2.2.1
    rw [← e5] at E2
    exact ⟨_, _, _, _, _, _, _, _, _, _, _, ⟨fun _ _ h => h, fun _ _ h => h⟩, fun g => bX6_undo_zero l D cc o g a b x m (cp cc L) (hy1 := by rw [e4]; decide) (hst := hst) (h := E1), fun g x2 pl => bX7_undo l D cc o g a b x2 m pl (h := E2), aR_1, rfl, fun _ => ⟨L, rfl, r, n, t, 0, nw, h, hC, hr, t1, t2, e1, e2, e3, e4, e5, H⟩, rmOk.of (by decide), rmOk.of (by decide)⟩
  · have hp : 0 < h0 := by omega
    obtain ⟨q, v, z0, z2, z4⟩ := HI_top H hp
    obtain ⟨tt, c', r', E1, E2, hI', hC', hr'⟩ := undo_somex hh hw hp m.2.2.2.2.2.2.2.2.2.2.1 m.2.2.2.2.2.2.2.2.2.2.2.2.1 z4 x.1.2.2.1 x.1.2.2.2.1 x.1.2.2.2.2.1 x.1.2.2.2.2.2.1 x.1.2.2.2.2.2.2.1 x.1.2.2.2.2.2.2.2.1 x.1.2.2.2.2.2.2.2.2.1 x.1.2.2.2.2.2.2.2.2.2
    rw [← e3, ← e4] at E1
    rw [← e5] at E2
    obtain ⟨S9, T9, hST, hL', hn'⟩ := L_take H.2.1 z0
    subst hST
    have hm : ∀ e : LE, e ∈ ((nw, q, v) : LE) :: (T9 ++ S9) ↔ e ∈ S9 ++ ((nw, q, v) : LE) :: T9 := fun e => by
      simp only [List.mem_append, List.mem_cons]
      constructor
      · rintro (h | h | h)
        · exact Or.inr (Or.inl h)
        · exact Or.inr (Or.inr h)
        · exact Or.inl h
      · rintro (h | h | h)
        · exact Or.inr (Or.inr h)
        · exact Or.inl h
        · exact Or.inr (Or.inl h)
    exact ⟨_, _, _, _, _, _, _, _, _, _, _, ⟨fun _ _ hP => cp_P hP, fun _ _ hD => cp_D hD⟩, fun g => (bX6_undo_some l D cc o g a b x m q v (cp cc (T9 ++ S9)) (hy1 := by rw [e4]; exact nI_nle hp (by omega)) (hy2 := by rw [e3]; exact nI_pos (by omega)) (hy3 := by rw [e3]; exact nI_ge (b := 15) (by omega) (by omega)) (hy4 := by rw [e3, nI_clamp (by omega)]; exact z2) (hy5 := by rw [e3]; exact pk_in _ _ hw) (hst := hst) (h := E1)).assoc.assoc2, fun g x2 pl => bX7_undo l D cc o g a b x2 m pl (h := E2), aR_ok rfl, rfl, fun _ => ⟨(nw, q, v) :: (T9 ++ S9), rfl, r', n, t, h0 - 1, (nw + 14) % 15, hI', hC', hr', t1, t2, e1, e2, rfl, rfl, rfl, HI_mem (HI_undo H hp) hm (L_cons hL' hn')⟩, rmOk.of (by decide), rmOk.of (by decide)⟩
end XSEM2
