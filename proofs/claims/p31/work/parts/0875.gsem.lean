/-! GHOST 6: the methods that change the state -/
section XGSEM2
theorem sg_learn (l : Launch) (hst : l.stackTraces = false) (D : va_G) (cc : Nat → ClassId) (a : Nat → Nat) (G : GS) (p1 : Int32) : gV l D cc a yX6_learn wsX6_learn [.int p1] G (gLearn G.1 p1).1 (nxt G (gLearn G.1 p1).2) 11 1443 := by
  intro x L hI
  obtain ⟨h, hC, t1, e1, nw, e3, e4, H⟩ := id hI
  have hh := H.1.1
  have hw := H.1.2
  rcases name_arg p1 with ⟨k, rfl, hk, n1, -⟩ | ⟨n1, -⟩
  · have R9 := ringHy hw e3
    rcases H.2.2.2.1 ((nw + 1) % 15) (by omega) with ⟨z1, z2⟩ | ⟨q, v, z1, z2⟩
    · obtain ⟨nw', hc', sm', pd', st', le', po', sc', sg', na', d, E1, hI', hC', c0, ha⟩ := learn_g_none h hC hh hw hk n1
      rw [← e3, ← e4] at E1
      have HH := fun q => HG_acted (q := q) H ha h c0 rfl (L_none H.2.1 z2).1 H.2.1 (cr' := va_up x.2.2.2.2.2.2.2.2.2.1 ((nw + 1) % 15) (some (q 0))) (va_up_self _ _ _) (fun j hj => va_up_ne _ _ hj)
      exact ⟨L, _, fun q => ((nw + 1) % 15, q, d) :: L, _, _, _, Or.inl rfl, fun R => (bX6_learn_none l D cc a x (cp cc L ++ R) (hy1 := R9.1) (hy2 := R9.2.1) (hy3 := by rw [R9.2.2.2]; exact z1) (hy4 := R9.2.2.1) (hst := hst) (h := E1)).w rfl (fun q => oW_cons), fun q => ⟨hI', hC', t1, e1, nw', rfl, (HH q).1, by rw [R9.2.2.2]; exact (HH q).2⟩, rmG.of (by decide)⟩
    · obtain ⟨nw', hc', sm', pd', st', le', po', sc', sg', na', d, E1, hI', hC', c0, ha⟩ := learn_g_some h hC hh hw hk n1 v
      rw [← e3, ← e4] at E1
      obtain ⟨S9, T9, hST, hL', hn'⟩ := L_take H.2.1 z1
      have HH := HG_acted H ha h c0 rfl hL' hn' z2 (fun _ _ => rfl)
      exact ⟨((nw + 1) % 15, q, v) :: (T9 ++ S9), _, fun _ => ((nw + 1) % 15, q, d) :: (T9 ++ S9), _, _, _, Or.inr ⟨S9, T9, _, hST, rfl⟩, fun R => (bX6_learn_some l D cc a x q v (cp cc (T9 ++ S9) ++ R) (hy1 := R9.1) (hy2 := R9.2.1) (hy3 := by rw [R9.2.2.2]; exact z2) (hy4 := R9.2.2.1) (hst := hst) (h := E1)).w oW_cons (fun _ => oW_cons), fun _ => ⟨hI', hC', t1, e1, nw', rfl, HH.1, HH.2⟩, rmG.of (by decide)⟩
  · obtain ⟨E1, E2⟩ := learn_g_arg (r := G.1) n1
    rw [E2]
    exact ⟨L, _, _, _, _, _, Or.inl rfl, fun R => bX6_learn_arg l D cc a x (cp cc L ++ R) (hst := hst) (h := E1), fun _ => hI, rmG.of (by decide)⟩
theorem sg_forget (l : Launch) (hst : l.stackTraces = false) (D : va_G) (cc : Nat → ClassId) (a : Nat → Nat) (G : GS) (p1 : Int32) : gV l D cc a yX6_forget wsX6_forget [.int p1] G (gForget G.1 p1).1 (nxt G (gForget G.1 p1).2) 11 1443 := by
  intro x L hI
  obtain ⟨h, hC, t1, e1, nw, e3, e4, H⟩ := id hI
  have hh := H.1.1
  have hw := H.1.2
  have R9 := ringHy hw e3
  rcases H.2.2.2.1 ((nw + 1) % 15) (by omega) with ⟨z1, z2⟩ | ⟨q, v, z1, z2⟩
  · obtain ⟨nw', hc', sm', st', le', po', sc', sg', na', d, E1, hI', hC', c0, ha⟩ := forget_g_none h hC hh hw p1
    rw [← e3, ← e4] at E1
    have HH := fun q => HG_acted (q := q) H ha h c0 rfl (L_none H.2.1 z2).1 H.2.1 (cr' := va_up x.2.2.2.2.2.2.2.2.2.1 ((nw + 1) % 15) (some (q 0))) (va_up_self _ _ _) (fun j hj => va_up_ne _ _ hj)
    exact ⟨L, _, fun q => ((nw + 1) % 15, q, d) :: L, _, _, _, Or.inl rfl, fun R => (bX6_forget_none l D cc a x (cp cc L ++ R) (hy1 := R9.1) (hy2 := R9.2.1) (hy3 := by rw [R9.2.2.2]; exact z1) (hy4 := R9.2.2.1) (hst := hst) (h := E1)).w rfl (fun q => oW_cons), fun q => ⟨hI', hC', t1, e1, nw', rfl, (HH q).1, by rw [R9.2.2.2]; exact (HH q).2⟩, rmG.of (by decide)⟩
  · obtain ⟨nw', hc', sm', st', le', po', sc', sg', na', d, E1, hI', hC', c0, ha⟩ := forget_g_some h hC hh hw p1 v
    rw [← e3, ← e4] at E1
    obtain ⟨S9, T9, hST, hL', hn'⟩ := L_take H.2.1 z1
    have HH := HG_acted H ha h c0 rfl hL' hn' z2 (fun _ _ => rfl)
    exact ⟨((nw + 1) % 15, q, v) :: (T9 ++ S9), _, fun _ => ((nw + 1) % 15, q, d) :: (T9 ++ S9), _, _, _, Or.inr ⟨S9, T9, _, hST, rfl⟩, fun R => (bX6_forget_some l D cc a x q v (cp cc (T9 ++ S9) ++ R) (hy1 := R9.1) (hy2 := R9.2.1) (hy3 := by rw [R9.2.2.2]; exact z2) (hy4 := R9.2.2.1) (hst := hst) (h := E1)).w oW_cons (fun _ => oW_cons), fun _ => ⟨hI', hC', t1, e1, nw', rfl, HH.1, HH.2⟩, rmG.of (by decide)⟩
theorem sg_practise (l : Launch) (hst : l.stackTraces = false) (D : va_G) (cc : Nat → ClassId) (a : Nat → Nat) (G : GS) (p1 : Int32) : gV l D cc a yX6_practise wsX6_practise [.int p1] G (gPractise G.1 p1).1 (nxt G (gPractise G.1 p1).2) 11 1443 := by
  intro x L hI
  obtain ⟨h, hC, t1, e1, nw, e3, e4, H⟩ := id hI
  have hh := H.1.1
  have hw := H.1.2
  rcases name_arg p1 with ⟨k, rfl, hk, n1, -⟩ | ⟨n1, -⟩
  · have R9 := ringHy hw e3
    rcases H.2.2.2.1 ((nw + 1) % 15) (by omega) with ⟨z1, z2⟩ | ⟨q, v, z1, z2⟩
    · obtain ⟨nw', hc', pd', st', sc', ou', x1, x2, x3, x4, cs', ds', d, E1, hI', hC', c0, ha⟩ := practise_g_none h hC hh hw hk n1 x.2.2.1.1 x.2.2.1.2.1 x.2.2.1.2.2.1 x.2.2.1.2.2.2 x.2.2.2.1 x.2.2.2.2.1
      rw [← e3, ← e4] at E1
      have HH := fun q => HG_acted (q := q) H ha h c0 rfl (L_none H.2.1 z2).1 H.2.1 (cr' := va_up x.2.2.2.2.2.2.2.2.2.1 ((nw + 1) % 15) (some (q 0))) (va_up_self _ _ _) (fun j hj => va_up_ne _ _ hj)
      exact ⟨L, _, fun q => ((nw + 1) % 15, q, d) :: L, _, _, _, Or.inl rfl, fun R => (bX6_practise_none l D cc a x (cp cc L ++ R) (hy1 := R9.1) (hy2 := R9.2.1) (hy3 := by rw [R9.2.2.2]; exact z1) (hy4 := R9.2.2.1) (hst := hst) (h := E1)).w rfl (fun q => oW_cons), fun q => ⟨hI', hC', t1, e1, nw', rfl, (HH q).1, by rw [R9.2.2.2]; exact (HH q).2⟩, rmG.of (by decide)⟩
    · obtain ⟨nw', hc', pd', st', sc', ou', x1, x2, x3, x4, cs', ds', d, E1, hI', hC', c0, ha⟩ := practise_g_some h hC hh hw hk n1 v x.2.2.1.1 x.2.2.1.2.1 x.2.2.1.2.2.1 x.2.2.1.2.2.2 x.2.2.2.1 x.2.2.2.2.1
      rw [← e3, ← e4] at E1
      obtain ⟨S9, T9, hST, hL', hn'⟩ := L_take H.2.1 z1
      have HH := HG_acted H ha h c0 rfl hL' hn' z2 (fun _ _ => rfl)
      exact ⟨((nw + 1) % 15, q, v) :: (T9 ++ S9), _, fun _ => ((nw + 1) % 15, q, d) :: (T9 ++ S9), _, _, _, Or.inr ⟨S9, T9, _, hST, rfl⟩, fun R => (bX6_practise_some l D cc a x q v (cp cc (T9 ++ S9) ++ R) (hy1 := R9.1) (hy2 := R9.2.1) (hy3 := by rw [R9.2.2.2]; exact z2) (hy4 := R9.2.2.1) (hst := hst) (h := E1)).w oW_cons (fun _ => oW_cons), fun _ => ⟨hI', hC', t1, e1, nw', rfl, HH.1, HH.2⟩, rmG.of (by decide)⟩
  · obtain ⟨E1, E2⟩ := practise_g_arg (r := G.1) n1
    rw [E2]
    exact ⟨L, _, _, _, _, _, Or.inl rfl, fun R => bX6_practise_arg l D cc a x (cp cc L ++ R) (hst := hst) (h := E1), fun _ => hI, rmG.of (by decide)⟩
theorem sg_set (l : Launch) (hst : l.stackTraces = false) (D : va_G) (cc : Nat → ClassId) (a : Nat → Nat) (G : GS) (p1 : Int32) (p2 : Int32) : gV l D cc a yX6_set wsX6_set [.int p1, .int p2] G (gSet G.1 p1 p2).1 (nxt G (gSet G.1 p1 p2).2) 11 1443 := by
  intro x L hI
  obtain ⟨h, hC, t1, e1, nw, e3, e4, H⟩ := id hI
  have hh := H.1.1
  have hw := H.1.2
  rcases set_arg p1 p2 with ⟨w, u, rfl, rfl, hs, n1, -⟩ | ⟨n1, -⟩
  · have R9 := ringHy hw e3
    rcases H.2.2.2.1 ((nw + 1) % 15) (by omega) with ⟨z1, z2⟩ | ⟨q, v, z1, z2⟩
    · obtain ⟨nw', hc', se', sc', sg', d, E1, hI', hC', c0, ha⟩ := set_g_none h hC hh hw hs n1
      rw [← e3, ← e4] at E1
      have HH := fun q => HG_acted (q := q) H ha h c0 rfl (L_none H.2.1 z2).1 H.2.1 (cr' := va_up x.2.2.2.2.2.2.2.2.2.1 ((nw + 1) % 15) (some (q 0))) (va_up_self _ _ _) (fun j hj => va_up_ne _ _ hj)
      exact ⟨L, _, fun q => ((nw + 1) % 15, q, d) :: L, _, _, _, Or.inl rfl, fun R => (bX6_set_none l D cc a x (cp cc L ++ R) (hy1 := R9.1) (hy2 := R9.2.1) (hy3 := by rw [R9.2.2.2]; exact z1) (hy4 := R9.2.2.1) (hst := hst) (h := E1)).w rfl (fun q => oW_cons), fun q => ⟨hI', hC', t1, e1, nw', rfl, (HH q).1, by rw [R9.2.2.2]; exact (HH q).2⟩, rmG.of (by decide)⟩
    · obtain ⟨nw', hc', se', sc', sg', d, E1, hI', hC', c0, ha⟩ := set_g_some h hC hh hw hs n1 v
      rw [← e3, ← e4] at E1
      obtain ⟨S9, T9, hST, hL', hn'⟩ := L_take H.2.1 z1
      have HH := HG_acted H ha h c0 rfl hL' hn' z2 (fun _ _ => rfl)
      exact ⟨((nw + 1) % 15, q, v) :: (T9 ++ S9), _, fun _ => ((nw + 1) % 15, q, d) :: (T9 ++ S9), _, _, _, Or.inr ⟨S9, T9, _, hST, rfl⟩, fun R => (bX6_set_some l D cc a x q v (cp cc (T9 ++ S9) ++ R) (hy1 := R9.1) (hy2 := R9.2.1) (hy3 := by rw [R9.2.2.2]; exact z2) (hy4 := R9.2.2.1) (hst := hst) (h := E1)).w oW_cons (fun _ => oW_cons), fun _ => ⟨hI', hC', t1, e1, nw', rfl, HH.1, HH.2⟩, rmG.of (by decide)⟩
  · obtain ⟨E1, E2⟩ := set_g_arg (r := G.1) n1
    rw [E2]
    exact ⟨L, _, _, _, _, _, Or.inl rfl, fun R => bX6_set_arg l D cc a x (cp cc L ++ R) (hst := hst) (h := E1), fun _ => hI, rmG.of (by decide)⟩
theorem sg_point (l : Launch) (hst : l.stackTraces = false) (D : va_G) (cc : Nat → ClassId) (a : Nat → Nat) (G : GS) (p1 : Int32) (p2 : Int32) : gV l D cc a yX6_point wsX6_point [.int p1, .int p2] G (gPoint G.1 p1 p2).1 (nxt G (gPoint G.1 p1 p2).2) 11 1443 := by
  intro x L hI
  obtain ⟨h, hC, t1, e1, nw, e3, e4, H⟩ := id hI
  have hh := H.1.1
  have hw := H.1.2
  rcases point_arg p1 p2 with ⟨u, w, rfl, rfl, hu, hw2, -, n2, n3⟩ | ⟨-, n2⟩
  · have R9 := ringHy hw e3
    rcases H.2.2.2.1 ((nw + 1) % 15) (by omega) with ⟨z1, z2⟩ | ⟨q, v, z1, z2⟩
    · obtain ⟨nw', hc', pd', st', le', po', sc', sg', d, E1, hI', hC', c0, ha⟩ := point_g_none h hC hh hw hu hw2 n2 n3
      rw [← e3, ← e4] at E1
      have HH := fun q => HG_acted (q := q) H ha h c0 rfl (L_none H.2.1 z2).1 H.2.1 (cr' := va_up x.2.2.2.2.2.2.2.2.2.1 ((nw + 1) % 15) (some (q 0))) (va_up_self _ _ _) (fun j hj => va_up_ne _ _ hj)
      exact ⟨L, _, fun q => ((nw + 1) % 15, q, d) :: L, _, _, _, Or.inl rfl, fun R => (bX6_point_none l D cc a x (cp cc L ++ R) (hy1 := R9.1) (hy2 := R9.2.1) (hy3 := by rw [R9.2.2.2]; exact z1) (hy4 := R9.2.2.1) (hst := hst) (h := E1)).w rfl (fun q => oW_cons), fun q => ⟨hI', hC', t1, e1, nw', rfl, (HH q).1, by rw [R9.2.2.2]; exact (HH q).2⟩, rmG.of (by decide)⟩
    · obtain ⟨nw', hc', pd', st', le', po', sc', sg', d, E1, hI', hC', c0, ha⟩ := point_g_some h hC hh hw hu hw2 n2 n3 v
      rw [← e3, ← e4] at E1
      obtain ⟨S9, T9, hST, hL', hn'⟩ := L_take H.2.1 z1
      have HH := HG_acted H ha h c0 rfl hL' hn' z2 (fun _ _ => rfl)
      exact ⟨((nw + 1) % 15, q, v) :: (T9 ++ S9), _, fun _ => ((nw + 1) % 15, q, d) :: (T9 ++ S9), _, _, _, Or.inr ⟨S9, T9, _, hST, rfl⟩, fun R => (bX6_point_some l D cc a x q v (cp cc (T9 ++ S9) ++ R) (hy1 := R9.1) (hy2 := R9.2.1) (hy3 := by rw [R9.2.2.2]; exact z2) (hy4 := R9.2.2.1) (hst := hst) (h := E1)).w oW_cons (fun _ => oW_cons), fun _ => ⟨hI', hC', t1, e1, nw', rfl, HH.1, HH.2⟩, rmG.of (by decide)⟩
  · obtain ⟨E1, E2⟩ := point_g_arg (r := G.1) n2
    rw [E2]
    exact ⟨L, _, _, _, _, _, Or.inl rfl, fun R => bX6_point_arg l D cc a x (cp cc L ++ R) (hst := hst) (h := E1), fun _ => hI, rmG.of (by decide)⟩
theorem sg_lift (l : Launch) (hst : l.stackTraces = false) (D : va_G) (cc : Nat → ClassId) (a : Nat → Nat) (G : GS) : gN l D cc a yX6_lift wsX6_lift G (gLift G.1).1 (nxt G (gLift G.1).2) 11 1443 := by
  intro x L hI
  obtain ⟨h, hC, t1, e1, nw, e3, e4, H⟩ := id hI
  have hh := H.1.1
  have hw := H.1.2
  have R9 := ringHy hw e3
  rcases H.2.2.2.1 ((nw + 1) % 15) (by omega) with ⟨z1, z2⟩ | ⟨q, v, z1, z2⟩
  · obtain ⟨nw', hc', d, E1, hI', hC', c0, ha⟩ := lift_g_none h hC hh hw
    rw [← e3, ← e4] at E1
    have HH := fun q => HG_acted (q := q) H ha h c0 rfl (L_none H.2.1 z2).1 H.2.1 (cr' := va_up x.2.2.2.2.2.2.2.2.2.1 ((nw + 1) % 15) (some (q 0))) (va_up_self _ _ _) (fun j hj => va_up_ne _ _ hj)
    exact ⟨L, _, fun q => ((nw + 1) % 15, q, d) :: L, _, _, _, Or.inl rfl, fun R => (bX6_lift_none l D cc a x (cp cc L ++ R) (hy1 := R9.1) (hy2 := R9.2.1) (hy3 := by rw [R9.2.2.2]; exact z1) (hy4 := R9.2.2.1) (h := E1)).w rfl (fun q => oW_cons), fun q => ⟨hI', hC', t1, e1, nw', rfl, (HH q).1, by rw [R9.2.2.2]; exact (HH q).2⟩, rmG.of (by decide)⟩
  · obtain ⟨nw', hc', d, E1, hI', hC', c0, ha⟩ := lift_g_some h hC hh hw v
    rw [← e3, ← e4] at E1
    obtain ⟨S9, T9, hST, hL', hn'⟩ := L_take H.2.1 z1
    have HH := HG_acted H ha h c0 rfl hL' hn' z2 (fun _ _ => rfl)
    exact ⟨((nw + 1) % 15, q, v) :: (T9 ++ S9), _, fun _ => ((nw + 1) % 15, q, d) :: (T9 ++ S9), _, _, _, Or.inr ⟨S9, T9, _, hST, rfl⟩, fun R => (bX6_lift_some l D cc a x q v (cp cc (T9 ++ S9) ++ R) (hy1 := R9.1) (hy2 := R9.2.1) (hy3 := by rw [R9.2.2.2]; exact z2) (hy4 := R9.2.2.1) (h := E1)).w oW_cons (fun _ => oW_cons), fun _ => ⟨hI', hC', t1, e1, nw', rfl, HH.1, HH.2⟩, rmG.of (by decide)⟩
theorem sg_draw (l : Launch) (hst : l.stackTraces = false) (D : va_G) (cc : Nat → ClassId) (a : Nat → Nat) (G : GS) : gV l D cc a yX6_draw wsX6_draw [] G (gDraw G.1 G.2.1 G.2.2.1).1 (nxt G (gDraw G.1 G.2.1 G.2.2.1).2) 11 1443 := by
  intro x L hI
  obtain ⟨h, hC, t1, e1, nw, e3, e4, H⟩ := id hI
  have hh := H.1.1
  have hw := H.1.2
  rcases draw_g_arg h hC t1 x.2.1.1 x.2.1.2.1 x.2.1.2.2.1 x.2.1.2.2.2.1 x.2.1.2.2.2.2.1 x.2.1.2.2.2.2.2.1 x.2.1.2.2.2.2.2.2.1 x.2.1.2.2.2.2.2.2.2.1 x.2.1.2.2.2.2.2.2.2.2.1 x.2.1.2.2.2.2.2.2.2.2.2 with ⟨E2, q, E1⟩ | ⟨hv, hl, E2⟩
  · rw [← e1] at E1
    rw [E2]
    exact ⟨L, _, _, _, _, _, Or.inl rfl, fun R => bX6_draw_arg l D cc a x (cp cc L ++ R) (hst := hst) (h := E1), fun _ => ⟨h, hC, t1, e1, nw, e3, e4, H⟩, rmG.of (by decide)⟩
  rw [E2]
  have R9 := ringHy hw e3
  rcases H.2.2.2.1 ((nw + 1) % 15) (by omega) with ⟨z1, z2⟩ | ⟨q, v, z1, z2⟩
  · obtain ⟨nw', hc', d, q9, s9, E1, hI', hC', c0, ha⟩ := draw_g_none h hC hh hw t1 hv hl x.2.1.2.2.1 x.2.1.2.2.2.1 x.2.1.2.2.2.2.1 x.2.1.2.2.2.2.2.1 x.2.1.2.2.2.2.2.2.1 x.2.1.2.2.2.2.2.2.2.1 x.2.1.2.2.2.2.2.2.2.2.1 x.2.1.2.2.2.2.2.2.2.2.2
    rw [← e3, ← e4, ← e1] at E1
    have HH := fun q => HG_acted (q := q) H ha h c0 rfl (L_none H.2.1 z2).1 H.2.1 (cr' := va_up x.2.2.2.2.2.2.2.2.2.1 ((nw + 1) % 15) (some (q 0))) (va_up_self _ _ _) (fun j hj => va_up_ne _ _ hj)
    exact ⟨L, _, fun q => ((nw + 1) % 15, q, d) :: L, _, _, _, Or.inl rfl, fun R => (bX6_draw_none l D cc a x (cp cc L ++ R) (hy1 := R9.1) (hy2 := R9.2.1) (hy3 := by rw [R9.2.2.2]; exact z1) (hy4 := R9.2.2.1) (hst := hst) (h := E1)).w rfl (fun q => oW_cons), fun q => ⟨hI', hC', t1, e1, nw', rfl, (HH q).1, by rw [R9.2.2.2]; exact (HH q).2⟩, rmG.of (by decide)⟩
  · obtain ⟨nw', hc', d, q9, s9, E1, hI', hC', c0, ha⟩ := draw_g_some h hC hh hw t1 hv hl v x.2.1.2.2.1 x.2.1.2.2.2.1 x.2.1.2.2.2.2.1 x.2.1.2.2.2.2.2.1 x.2.1.2.2.2.2.2.2.1 x.2.1.2.2.2.2.2.2.2.1 x.2.1.2.2.2.2.2.2.2.2.1 x.2.1.2.2.2.2.2.2.2.2.2
    rw [← e3, ← e4, ← e1] at E1
    obtain ⟨S9, T9, hST, hL', hn'⟩ := L_take H.2.1 z1
    have HH := HG_acted H ha h c0 rfl hL' hn' z2 (fun _ _ => rfl)
    exact ⟨((nw + 1) % 15, q, v) :: (T9 ++ S9), _, fun _ => ((nw + 1) % 15, q, d) :: (T9 ++ S9), _, _, _, Or.inr ⟨S9, T9, _, hST, rfl⟩, fun R => (bX6_draw_some l D cc a x q v (cp cc (T9 ++ S9) ++ R) (hy1 := R9.1) (hy2 := R9.2.1) (hy3 := by rw [R9.2.2.2]; exact z2) (hy4 := R9.2.2.1) (hst := hst) (h := E1)).w oW_cons (fun _ => oW_cons), fun _ => ⟨hI', hC', t1, e1, nw', rfl, HH.1, HH.2⟩, rmG.of (by decide)⟩
theorem sg_save (l : Launch) (hst : l.stackTraces = false) (D : va_G) (cc : Nat → ClassId) (a : Nat → Nat) (G : GS) (p1 : Int32) : gV l D cc a yX6_save wsX6_save [.int p1] G (gSave G p1).1 (gSave G p1).2 11 1443 := by
  intro x L hI
  obtain ⟨h, hC, t1, e1, nw, e3, e4, H⟩ := id hI
  have hh := H.1.1
  have hw := H.1.2
  rcases slot_arg p1 with ⟨hb, k, hk, rfl⟩ | ⟨hb, E1, -⟩
  · have eg : gSave G (nI k) = (.inl (nI (G.1 110)), (G.1, G.2.1, G.2.2.1, G.2.2.2.1, setK k G.1 G.2.2.2.2)) := by
      unfold gSave; rw [cIf_pos hb, nI_clamp (by omega)]
    rw [eg]
    rcases H.2.2.2.2 k hk with ⟨z1, -, z3⟩ | ⟨q, v, r9, z0, z2, -, -, -⟩
    · obtain ⟨d, E1, c0⟩ := save_g_none h hC hk
      exact ⟨L, _, fun q => (15 + k, q, d) :: L, _, _, _, Or.inl rfl, fun R => (bX6_save_none l D cc a x (cp cc L ++ R) (hy1 := nI_pos (by omega)) (hy2 := nI_lt (b := 2) (by omega) (by omega)) (hy3 := by rw [nI_clamp (by omega)]; exact z1) (hy4 := pk_in _ _ hk) (hst := hst) (h := E1)).w rfl (fun q => oW_cons), fun q => ⟨h, hC, t1, e1, nw, e3, e4, HG_save H hk (L_none H.2.1 z3).1 H.2.1 (by rw [nI_clamp (by omega)]; exact va_up_self _ _ _) (fun j hj => by rw [nI_clamp (by omega)]; exact va_up_ne _ _ hj) h c0⟩, rmG.of (by decide)⟩
    · obtain ⟨d, E1, c0⟩ := save_g_some h hC hk v
      obtain ⟨S9, T9, hST, hL', hn'⟩ := L_take H.2.1 z0
      exact ⟨(15 + k, q, v) :: (T9 ++ S9), _, fun _ => (15 + k, q, d) :: (T9 ++ S9), _, _, _, Or.inr ⟨S9, T9, _, hST, rfl⟩, fun R => (bX6_save_some l D cc a x q v (cp cc (T9 ++ S9) ++ R) (hy1 := nI_pos (by omega)) (hy2 := nI_lt (b := 2) (by omega) (by omega)) (hy3 := by rw [nI_clamp (by omega)]; exact z2) (hy4 := pk_in _ _ hk) (hst := hst) (h := E1)).w oW_cons (fun _ => oW_cons), fun _ => ⟨h, hC, t1, e1, nw, e3, e4, HG_save H hk hL' hn' z2 (fun _ _ => rfl) h c0⟩, rmG.of (by decide)⟩
  · have eg : gSave G p1 = (.inr xIO, G) := by
      unfold gSave; rw [cIf_neg hb]
    rw [eg]
    exact ⟨L, _, _, _, _, _, Or.inl rfl, fun R => bX6_save_arg l D cc a x (cp cc L ++ R) (hst := hst) (h := E1), fun _ => hI, rmG.of (by decide)⟩
theorem sg_restore (l : Launch) (hst : l.stackTraces = false) (D : va_G) (cc : Nat → ClassId) (a : Nat → Nat) (G : GS) (p1 : Int32) : gV l D cc a yX6_restore wsX6_restore [.int p1] G (gRestore G p1).1 (gRestore G p1).2 1 6 := by
  intro x L hI
  obtain ⟨h, hC, t1, e1, nw, e3, e4, H⟩ := id hI
  have hh := H.1.1
  have hw := H.1.2
  rcases slot_arg p1 with ⟨hb, k, hk, rfl⟩ | ⟨hb, -, E1⟩
  · rcases H.2.2.2.2 k hk with ⟨z1, z2, z3⟩ | ⟨q, v, r9, z0, z2, z3, z4, z5⟩
    · have eg : gRestore G (nI k) = (.inr xIS, G) := by
        unfold gRestore; rw [cIf_pos hb, nI_clamp (by omega), z2]; rfl
      rw [eg]
      have E1 := restore_g_none hk
      exact ⟨L, _, _, _, _, _, Or.inl rfl, fun R => bX6_restore_none l D cc a x (cp cc L ++ R) (hy1 := nI_pos (by omega)) (hy2 := nI_ge (b := 2) (by omega) (by omega)) (hy3 := by rw [nI_clamp (by omega)]; exact z1) (hy4 := pk_in _ _ hk) (hst := hst) (h := E1), fun _ => hI, rmG.of (by decide)⟩
    · have eg : gRestore G (nI k) = (.inl (nI (r9 110)), (r9, G.2.1, G.2.2.1, [], G.2.2.2.2)) := by
        unfold gRestore; rw [cIf_pos hb, nI_clamp (by omega), z3]; rfl
      rw [eg]
      obtain ⟨tt, E1, hC'⟩ := restore_g_some hk z4 z5 x.1.2.2.1 x.1.2.2.2.1 x.1.2.2.2.2.1 x.1.2.2.2.2.2.1 x.1.2.2.2.2.2.2.1 x.1.2.2.2.2.2.2.2.1 x.1.2.2.2.2.2.2.2.2.1 x.1.2.2.2.2.2.2.2.2.2
      obtain ⟨S9, T9, hST, hL', hn'⟩ := L_take H.2.1 z0
      have hm : ∀ e : LE, e ∈ ((15 + k, q, v) : LE) :: (T9 ++ S9) ↔ e ∈ L := fun e => by rw [hST]; exact mem_turn e
      exact ⟨(15 + k, q, v) :: (T9 ++ S9), _, fun _ => (15 + k, q, v) :: (T9 ++ S9), _, _, _, Or.inr ⟨S9, T9, _, hST, rfl⟩, fun R => (bX6_restore_some l D cc a x q v (cp cc (T9 ++ S9) ++ R) (hy1 := nI_pos (by omega)) (hy2 := nI_ge (b := 2) (by omega) (by omega)) (hy3 := by rw [nI_clamp (by omega)]; exact z2) (hy4 := pk_in _ _ hk) (hst := hst) (h := E1)).w oW_cons (fun _ => oW_cons), fun _ => ⟨z4, hC', t1, e1, nw, e3, rfl, HG_mem (HG_zero H) hm (L_cons hL' hn')⟩, rmG.of (by decide)⟩
  · have eg : gRestore G p1 = (.inr xIO, G) := by
      unfold gRestore; rw [cIf_neg hb]
    rw [eg]
    exact ⟨L, _, _, _, _, _, Or.inl rfl, fun R => bX6_restore_arg l D cc a x (cp cc L ++ R) (hst := hst) (h := E1), fun _ => hI, rmG.of (by decide)⟩
theorem sg_undo (l : Launch) (hst : l.stackTraces = false) (D : va_G) (cc : Nat → ClassId) (a : Nat → Nat) (G : GS) : gV l D cc a yX6_undo wsX6_undo [] G (gUndo G).1 (gUndo G).2 1 6 := by
  intro x L hI
  obtain ⟨h, hC, t1, e1, nw, e3, e4, H⟩ := id hI
  have hh := H.1.1
  have hw := H.1.2
  obtain ⟨r, n, t, hs, kp⟩ := G
  cases hs with
  | nil =>
    have E1 := undo_g_zero
    exact ⟨L, _, _, _, _, _, Or.inl rfl, fun R => bX6_undo_zero l D cc a x (cp cc L ++ R) (hy1 := by rw [show x.2.2.2.2.2.2.2.2.1 = 0 from e4]; exact Int32.le_refl 0) (hst := hst) (h := E1), fun _ => hI, rmG.of (by decide)⟩
  | cons r9 hs =>
    have hl9 : (r9 :: hs).length = hs.length + 1 := List.length_cons
    have hh9 : hs.length + 1 ≤ 14 := by rw [← hl9]; exact hh
    have e4 : x.2.2.2.2.2.2.2.2.1 = nI (hs.length + 1) := by rw [← hl9]; exact e4
    obtain ⟨q, v, z0, z2, z4, z5⟩ := HG_top H
    obtain ⟨tt, E1, hC'⟩ := undo_g_some (hc := hs.length + 1) hh9 hw (by omega) z4 z5 x.1.2.2.1 x.1.2.2.2.1 x.1.2.2.2.2.1 x.1.2.2.2.2.2.1 x.1.2.2.2.2.2.2.1 x.1.2.2.2.2.2.2.2.1 x.1.2.2.2.2.2.2.2.2.1 x.1.2.2.2.2.2.2.2.2.2
    rw [← e3, ← e4, Nat.add_sub_cancel] at E1
    obtain ⟨S9, T9, hST, hL', hn'⟩ := L_take H.2.1 z0
    have hm : ∀ e : LE, e ∈ ((nw, q, v) : LE) :: (T9 ++ S9) ↔ e ∈ L := fun e => by rw [hST]; exact mem_turn e
    exact ⟨(nw, q, v) :: (T9 ++ S9), _, fun _ => (nw, q, v) :: (T9 ++ S9), _, _, _, Or.inr ⟨S9, T9, _, hST, rfl⟩, fun R => (bX6_undo_some l D cc a x q v (cp cc (T9 ++ S9) ++ R) (hy1 := by rw [e4]; exact nI_nle (by omega) (by omega)) (hy2 := by rw [e3]; exact nI_pos (by omega)) (hy3 := by rw [e3]; exact nI_ge (b := 15) (by omega) (by omega)) (hy4 := by rw [e3, nI_clamp (by omega)]; exact z2) (hy5 := by rw [e3]; exact pk_in _ _ hw) (hst := hst) (h := E1)).w oW_cons (fun _ => oW_cons), fun _ => ⟨z4, hC', t1, e1, (nw + 14) % 15, rfl, rfl, HG_mem (HG_undo H) hm (L_cons hL' hn')⟩, rmG.of (by decide)⟩
end XGSEM2
