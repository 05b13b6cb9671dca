/-! GHOST 5: the methods of the class, as the state is told -/
section XGSEM
theorem sg_append (l : Launch) (hst : l.stackTraces = false) (D : va_G) (cc : Nat → ClassId) (a : Nat → Nat) (G : GS) (p1 : Int32) : gV l D cc a yX6_append wsX6_append [.int p1] G (gAppend G.2.1 G.2.2.1 p1).1 (G.1, (gAppend G.2.1 G.2.2.1 p1).2.1, (gAppend G.2.1 G.2.2.1 p1).2.2, G.2.2.2.1, G.2.2.2.2) 1 6 := by
  intro x L hI
  obtain ⟨h, hC, t1, e1, nw, e3, e4, H⟩ := id hI
  have hh := H.1.1
  have hw := H.1.2
  obtain ⟨cc', E1, q1⟩ := append_g p1 t1
  rw [← e1] at E1
  exact ⟨L, _, _, _, _, _, Or.inl rfl, fun R => bX6_append l D cc a x (cp cc L ++ R) (hst := hst) (h := E1), fun _ => ⟨h, hC, q1, rfl, nw, e3, e4, H⟩, rmG.of (by decide)⟩
theorem sg_clearText (l : Launch) (hst : l.stackTraces = false) (D : va_G) (cc : Nat → ClassId) (a : Nat → Nat) (G : GS) : gN l D cc a yX6_clearText wsX6_clearText G (nI G.2.1) (G.1, 0, G.2.2.1, G.2.2.2.1, G.2.2.2.2) 1 6 := by
  intro x L hI
  obtain ⟨h, hC, t1, e1, nw, e3, e4, H⟩ := id hI
  have hh := H.1.1
  have hw := H.1.2
  have E1 : fX6_clearText x.2.2.2.2.2.1 = (nI G.2.1, 0) := by rw [e1]; rfl
  exact ⟨L, _, _, _, _, _, Or.inl rfl, fun R => bX6_clearText l D cc a x (cp cc L ++ R) (h := E1), fun _ => ⟨h, hC, ⟨Nat.zero_le _, fun j hj => absurd hj (Nat.not_lt_zero _)⟩, rfl, nw, e3, e4, H⟩, rmG.of (by decide)⟩
theorem sg_errorPosition (l : Launch) (hst : l.stackTraces = false) (D : va_G) (cc : Nat → ClassId) (a : Nat → Nat) (G : GS) : gN l D cc a yX6_errorPosition wsX6_errorPosition G (rsI (prs G.2.2.1 G.2.1 (G.2.1 + 1) 1 1 0).2) G 1 6 := by
  intro x L hI
  obtain ⟨h, hC, t1, e1, nw, e3, e4, H⟩ := id hI
  have hh := H.1.1
  have hw := H.1.2
  have E1 := errpos_g t1
  rw [← e1] at E1
  exact ⟨L, _, _, _, _, _, Or.inl rfl, fun R => bX6_errorPosition l D cc a x (cp cc L ++ R) (h := E1), fun _ => ⟨h, hC, t1, e1, nw, e3, e4, H⟩, rmG.of (by decide)⟩
theorem sg_about (l : Launch) (hst : l.stackTraces = false) (D : va_G) (cc : Nat → ClassId) (a : Nat → Nat) (G : GS) (p1 : Int32) : gV l D cc a yX6_about wsX6_about [.int p1] G (gAbout G.1 p1) G 1 6 := by
  intro x L hI
  obtain ⟨h, hC, t1, e1, nw, e3, e4, H⟩ := id hI
  have hh := H.1.1
  have hw := H.1.2
  have E1 := about_g h hC p1
  exact ⟨L, _, _, _, _, _, Or.inl rfl, fun R => bX6_about l D cc a x (cp cc L ++ R) (hst := hst) (h := E1), fun _ => ⟨h, hC, t1, e1, nw, e3, e4, H⟩, rmG.of (by decide)⟩
theorem sg_sign (l : Launch) (hst : l.stackTraces = false) (D : va_G) (cc : Nat → ClassId) (a : Nat → Nat) (G : GS) (p1 : Int32) : gV l D cc a yX6_sign wsX6_sign [.int p1] G (gSign G.1 p1) G 1 6 := by
  intro x L hI
  obtain ⟨h, hC, t1, e1, nw, e3, e4, H⟩ := id hI
  have hh := H.1.1
  have hw := H.1.2
  have E1 := sign_g h hC p1
  exact ⟨L, _, _, _, _, _, Or.inl rfl, fun R => bX6_sign l D cc a x (cp cc L ++ R) (hst := hst) (h := E1), fun _ => ⟨h, hC, t1, e1, nw, e3, e4, H⟩, rmG.of (by decide)⟩
theorem sg_sample (l : Launch) (hst : l.stackTraces = false) (D : va_G) (cc : Nat → ClassId) (a : Nat → Nat) (G : GS) (p1 : Int32) (p2 : Int32) : gV l D cc a yX6_sample wsX6_sample [.int p1, .int p2] G (gSample G.1 p1 p2) G 1 6 := by
  intro x L hI
  obtain ⟨h, hC, t1, e1, nw, e3, e4, H⟩ := id hI
  have hh := H.1.1
  have hw := H.1.2
  have E1 := sample_g h hC p1 p2
  exact ⟨L, _, _, _, _, _, Or.inl rfl, fun R => bX6_sample l D cc a x (cp cc L ++ R) (hst := hst) (h := E1), fun _ => ⟨h, hC, t1, e1, nw, e3, e4, H⟩, rmG.of (by decide)⟩
theorem sg_signOf (l : Launch) (hst : l.stackTraces = false) (D : va_G) (cc : Nat → ClassId) (a : Nat → Nat) (G : GS) (p1 : Int32) (p2 : Int32) : gV l D cc a yX6_signOf wsX6_signOf [.int p1, .int p2] G (gSignOf G.1 p1 p2) G 1 6 := by
  intro x L hI
  obtain ⟨h, hC, t1, e1, nw, e3, e4, H⟩ := id hI
  have hh := H.1.1
  have hw := H.1.2
  have E1 := signOf_g h hC p1 p2
  exact ⟨L, _, _, _, _, _, Or.inl rfl, fun R => bX6_signOf l D cc a x (cp cc L ++ R) (hst := hst) (h := E1), fun _ => ⟨h, hC, t1, e1, nw, e3, e4, H⟩, rmG.of (by decide)⟩
theorem sg_practised (l : Launch) (hst : l.stackTraces = false) (D : va_G) (cc : Nat → ClassId) (a : Nat → Nat) (G : GS) (p1 : Int32) (p2 : Int32) : gV l D cc a yX6_practised wsX6_practised [.int p1, .int p2] G (gPractised G.1 p1 p2) G 1 6 := by
  intro x L hI
  obtain ⟨h, hC, t1, e1, nw, e3, e4, H⟩ := id hI
  have hh := H.1.1
  have hw := H.1.2
  have E1 := practised_g h hC p1 p2
  exact ⟨L, _, _, _, _, _, Or.inl rfl, fun R => bX6_practised l D cc a x (cp cc L ++ R) (hst := hst) (h := E1), fun _ => ⟨h, hC, t1, e1, nw, e3, e4, H⟩, rmG.of (by decide)⟩
theorem sg_setting (l : Launch) (hst : l.stackTraces = false) (D : va_G) (cc : Nat → ClassId) (a : Nat → Nat) (G : GS) (p1 : Int32) : gV l D cc a yX6_setting wsX6_setting [.int p1] G (gSetting G.1 p1) G 1 6 := by
  intro x L hI
  obtain ⟨h, hC, t1, e1, nw, e3, e4, H⟩ := id hI
  have hh := H.1.1
  have hw := H.1.2
  have E1 := setting_g h hC p1
  exact ⟨L, _, _, _, _, _, Or.inl rfl, fun R => bX6_setting l D cc a x (cp cc L ++ R) (hst := hst) (h := E1), fun _ => ⟨h, hC, t1, e1, nw, e3, e4, H⟩, rmG.of (by decide)⟩
theorem sg_read (l : Launch) (hst : l.stackTraces = false) (D : va_G) (cc : Nat → ClassId) (a : Nat → Nat) (G : GS) (p1 : Int32) : gV l D cc a yX6_read wsX6_read [.int p1] G (gRead G.1 p1) G 1 6 := by
  intro x L hI
  obtain ⟨h, hC, t1, e1, nw, e3, e4, H⟩ := id hI
  have hh := H.1.1
  have hw := H.1.2
  obtain ⟨x1, x2, x3, x4, cs', ds', E1⟩ := read_g h hC p1 x.2.2.1.1 x.2.2.1.2.1 x.2.2.1.2.2.1 x.2.2.1.2.2.2 x.2.2.2.1 x.2.2.2.2.1
  exact ⟨L, _, _, _, _, _, Or.inl rfl, fun R => bX6_read l D cc a x (cp cc L ++ R) (hst := hst) (h := E1), fun _ => ⟨h, hC, t1, e1, nw, e3, e4, H⟩, rmG.of (by decide)⟩
theorem sg_nearest (l : Launch) (hst : l.stackTraces = false) (D : va_G) (cc : Nat → ClassId) (a : Nat → Nat) (G : GS) (p1 : Int32) : gV l D cc a yX6_nearest wsX6_nearest [.int p1] G (gNearest G.1 p1) G 1 6 := by
  intro x L hI
  obtain ⟨h, hC, t1, e1, nw, e3, e4, H⟩ := id hI
  have hh := H.1.1
  have hw := H.1.2
  obtain ⟨cs', ds', E1⟩ := nearest_g h hC p1 x.2.2.2.1 x.2.2.2.2.1
  exact ⟨L, _, _, _, _, _, Or.inl rfl, fun R => bX6_nearest l D cc a x (cp cc L ++ R) (hst := hst) (h := E1), fun _ => ⟨h, hC, t1, e1, nw, e3, e4, H⟩, rmG.of (by decide)⟩
theorem sg_between (l : Launch) (hst : l.stackTraces = false) (D : va_G) (cc : Nat → ClassId) (a : Nat → Nat) (G : GS) (p1 : Int32) (p2 : Int32) : gV l D cc a yX6_between wsX6_between [.int p1, .int p2] G (gBetween G.1 p1 p2) G 1 6 := by
  intro x L hI
  obtain ⟨h, hC, t1, e1, nw, e3, e4, H⟩ := id hI
  have hh := H.1.1
  have hw := H.1.2
  obtain ⟨cs', E1⟩ := between_g h hC p1 p2 x.2.2.2.1
  exact ⟨L, _, _, _, _, _, Or.inl rfl, fun R => bX6_between l D cc a x (cp cc L ++ R) (hst := hst) (h := E1), fun _ => ⟨h, hC, t1, e1, nw, e3, e4, H⟩, rmG.of (by decide)⟩
theorem sg_closest (l : Launch) (hst : l.stackTraces = false) (D : va_G) (cc : Nat → ClassId) (a : Nat → Nat) (G : GS) : gN l D cc a yX6_closest wsX6_closest G (prI (clM (pdM G.1 (G.1 77)) (nmF G.1) (G.1 110))) G 1 6 := by
  intro x L hI
  obtain ⟨h, hC, t1, e1, nw, e3, e4, H⟩ := id hI
  have hh := H.1.1
  have hw := H.1.2
  obtain ⟨cs', E1⟩ := cclosest_ok h hC x.2.2.2.1
  exact ⟨L, _, _, _, _, _, Or.inl rfl, fun R => bX6_closest l D cc a x (cp cc L ++ R) (h := E1), fun _ => ⟨h, hC, t1, e1, nw, e3, e4, H⟩, rmG.of (by decide)⟩
theorem sg_byOthers (l : Launch) (hst : l.stackTraces = false) (D : va_G) (cc : Nat → ClassId) (a : Nat → Nat) (G : GS) : gN l D cc a yX6_byOthers wsX6_byOthers G (nI (boM G.1 (G.1 110))) G 1 6 := by
  intro x L hI
  obtain ⟨h, hC, t1, e1, nw, e3, e4, H⟩ := id hI
  have hh := H.1.1
  have hw := H.1.2
  obtain ⟨w1, w2, w3, w4, cs', ds', E1⟩ := cbo_ok h hC x.2.2.1.1 x.2.2.1.2.1 x.2.2.1.2.2.1 x.2.2.1.2.2.2 x.2.2.2.1 x.2.2.2.2.1
  exact ⟨L, _, _, _, _, _, Or.inl rfl, fun R => bX6_byOthers l D cc a x (cp cc L ++ R) (h := E1), fun _ => ⟨h, hC, t1, e1, nw, e3, e4, H⟩, rmG.of (by decide)⟩
theorem sg_bestRuling (l : Launch) (hst : l.stackTraces = false) (D : va_G) (cc : Nat → ClassId) (a : Nat → Nat) (G : GS) : gN l D cc a yX6_bestRuling wsX6_bestRuling G (b1I (brM G.1 16)) G 1 6 := by
  intro x L hI
  obtain ⟨h, hC, t1, e1, nw, e3, e4, H⟩ := id hI
  have hh := H.1.1
  have hw := H.1.2
  obtain ⟨sm', pd', st', le', po', sc', sg', na', se', ou', cs', E1⟩ := best_g h hC x.2.1.2.2.1 x.2.1.2.2.2.1 x.2.1.2.2.2.2.1 x.2.1.2.2.2.2.2.1 x.2.1.2.2.2.2.2.2.1 x.2.1.2.2.2.2.2.2.2.1 x.2.1.2.2.2.2.2.2.2.2.1 x.2.1.2.2.2.2.2.2.2.2.2 x.2.2.2.1
  exact ⟨L, _, _, _, _, _, Or.inl rfl, fun R => bX6_bestRuling l D cc a x (cp cc L ++ R) (h := E1), fun _ => ⟨h, hC, t1, e1, nw, e3, e4, H⟩, rmG.of (by decide)⟩
theorem sg_mirrored (l : Launch) (hst : l.stackTraces = false) (D : va_G) (cc : Nat → ClassId) (a : Nat → Nat) (G : GS) : gN l D cc a yX6_mirrored wsX6_mirrored G (mirV G.1) G 1 6 := by
  intro x L hI
  obtain ⟨h, hC, t1, e1, nw, e3, e4, H⟩ := id hI
  have hh := H.1.1
  have hw := H.1.2
  obtain ⟨sm', pd', st', le', po', sc', sg', na', se', ou', x1, x2, x3, x4, cs', ds', E1⟩ := mirrored_g h hC x.2.2.1.1 x.2.2.1.2.1 x.2.2.1.2.2.1 x.2.2.1.2.2.2 x.2.1.2.2.1 x.2.1.2.2.2.1 x.2.1.2.2.2.2.1 x.2.1.2.2.2.2.2.1 x.2.1.2.2.2.2.2.2.1 x.2.1.2.2.2.2.2.2.2.1 x.2.1.2.2.2.2.2.2.2.2.1 x.2.1.2.2.2.2.2.2.2.2.2 x.2.2.2.1 x.2.2.2.2.1
  exact ⟨L, _, _, _, _, _, Or.inl rfl, fun R => bX6_mirrored l D cc a x (cp cc L ++ R) (h := E1), fun _ => ⟨h, hC, t1, e1, nw, e3, e4, H⟩, rmG.of (by decide)⟩
theorem sg_runScript (l : Launch) (hst : l.stackTraces = false) (D : va_G) (cc : Nat → ClassId) (a : Nat → Nat) (G : GS) (p1 : Int32) (p2 : Int64) : gV l D cc a yX6_runScript wsX6_runScript [.int p1, .long p2] G (gScript G.1 p1 p2) G 1 6 := by
  intro x L hI
  obtain ⟨h, hC, t1, e1, nw, e3, e4, H⟩ := id hI
  have hh := H.1.1
  have hw := H.1.2
  obtain ⟨aa, E1⟩ := script_g h hC p1 p2 x.2.1.1 x.2.1.2.1 x.2.2.1.1 x.2.2.1.2.1 x.2.2.1.2.2.1 x.2.2.1.2.2.2 x.2.1.2.2.1 x.2.1.2.2.2.1 x.2.1.2.2.2.2.1 x.2.1.2.2.2.2.2.1 x.2.1.2.2.2.2.2.2.1 x.2.1.2.2.2.2.2.2.2.1 x.2.1.2.2.2.2.2.2.2.2.1 x.2.1.2.2.2.2.2.2.2.2.2 x.2.2.2.1 x.2.2.2.2.1
  exact ⟨L, _, _, _, _, _, Or.inl rfl, fun R => bX6_runScript l D cc a x (cp cc L ++ R) (hst := hst) (h := E1), fun _ => ⟨h, hC, t1, e1, nw, e3, e4, H⟩, rmG.of (by decide)⟩
theorem sg_simulate (l : Launch) (hst : l.stackTraces = false) (D : va_G) (cc : Nat → ClassId) (a : Nat → Nat) (G : GS) (p1 : Int64) (p3 : Int32) : gV l D cc a yX6_simulate wsX6_simulate [.long p1, .int p3] G (gSim G.1 p1 p3) G 1 6 := by
  intro x L hI
  obtain ⟨h, hC, t1, e1, nw, e3, e4, H⟩ := id hI
  have hh := H.1.1
  have hw := H.1.2
  obtain ⟨aa, E1⟩ := simul_g h hC p1 p3 x.2.1.1 x.2.1.2.1 x.2.2.1.1 x.2.2.1.2.1 x.2.2.1.2.2.1 x.2.2.1.2.2.2 x.2.1.2.2.1 x.2.1.2.2.2.1 x.2.1.2.2.2.2.1 x.2.1.2.2.2.2.2.1 x.2.1.2.2.2.2.2.2.1 x.2.1.2.2.2.2.2.2.2.1 x.2.1.2.2.2.2.2.2.2.2.1 x.2.1.2.2.2.2.2.2.2.2.2 x.2.2.2.1 x.2.2.2.2.1
  exact ⟨L, _, _, _, _, _, Or.inl rfl, fun R => bX6_simulate l D cc a x (cp cc L ++ R) (hst := hst) (h := E1), fun _ => ⟨h, hC, t1, e1, nw, e3, e4, H⟩, rmG.of (by decide)⟩
end XGSEM
