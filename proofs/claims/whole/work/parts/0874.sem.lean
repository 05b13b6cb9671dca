/-! LAW KIT 6: the methods in the law's world: the text, what is only looked at -/
section XSEM1
theorem sem_append (l : Launch) (hst : l.stackTraces = false) (D : va_G) (cc : Nat → ClassId) (o : Nat) (a b : Nat → Nat) (p1 : Int32) : semT l D cc o a b yX6_append wsX6_append yX7_append wsX7_append [.int p1] [xIA, xIS] := by
  intro x m L hI
  obtain ⟨r, n, t, h0, nw, h, hC, hr, t1, t2, e1, e2, e3, e4, e5, H⟩ := hI
  have hh := H.1.1
  have hw := H.1.2
  obtain ⟨A, n', cc', v, rf, ct', t', E1, E2, q1, q2, hA⟩ := append_ok p1 t1 t2
  rw [← e1] at E1
  rw [← e2] at E2
  exact ⟨_, _, _, _, _, _, _, _, _, _, _, ⟨fun _ _ h => h, fun _ _ h => h⟩, fun g => bX6_append l D cc o g a b x m (cp cc L) (hst := hst) (h := E1), fun g x2 pl => bX7_append l D cc o g a b x2 m pl (h := E2), hA, rfl, fun _ => ⟨L, rfl, r, n', t', h0, nw, h, hC, hr, q1, q2, rfl, rfl, e3, e4, e5, H⟩, rmOk.of (by decide), rmOk.of (by decide)⟩
theorem sem_clearText (l : Launch) (hst : l.stackTraces = false) (D : va_G) (cc : Nat → ClassId) (o : Nat) (a b : Nat → Nat) : semN l D cc o a b yX6_clearText wsX6_clearText yX7_clearText wsX7_clearText := by
  intro x m L hI
  obtain ⟨r, n, t, h0, nw, h, hC, hr, t1, t2, e1, e2, e3, e4, e5, H⟩ := hI
  have hh := H.1.1
  have hw := H.1.2
  have E1 : fX6_clearText x.2.2.2.2.2.1 = (x.2.2.2.2.2.1, 0) := rfl
  have E2 : fX7_clearText m.2.1 = (x.2.2.2.2.2.1, 0, 0) := by rw [e1, e2]; rfl
  exact ⟨_, _, _, _, _, _, _, _, _, ⟨fun _ _ h => h, fun _ _ h => h⟩, fun g => bX6_clearText l D cc o g a b x m (cp cc L) (h := E1), fun g x2 pl => bX7_clearText l D cc o g a b x2 m pl (h := E2), fun _ => ⟨L, rfl, r, 0, t, h0, nw, h, hC, hr, ⟨Nat.zero_le _, fun j hj => absurd hj (Nat.not_lt_zero _)⟩, ⟨Nat.zero_le _, fun j hj => absurd hj (Nat.not_lt_zero _)⟩, rfl, rfl, e3, e4, e5, H⟩, rmOk.of (by decide), rmOk.of (by decide)⟩
theorem sem_errorPosition (l : Launch) (hst : l.stackTraces = false) (D : va_G) (cc : Nat → ClassId) (o : Nat) (a b : Nat → Nat) : semN l D cc o a b yX6_errorPosition wsX6_errorPosition yX7_errorPosition wsX7_errorPosition := by
  intro x m L hI
  obtain ⟨r, n, t, h0, nw, h, hC, hr, t1, t2, e1, e2, e3, e4, e5, H⟩ := hI
  have hh := H.1.1
  have hw := H.1.2
  obtain ⟨v, sp, dr', E1, E2⟩ := errpos_ok t1 t2 m.2.2.2.2.2.2.2.2.2.2.2.2.2.2.2.1
  rw [← e1] at E1
  rw [← e2] at E2
  exact ⟨_, _, _, _, _, _, _, _, _, ⟨fun _ _ h => h, fun _ _ h => h⟩, fun g => bX6_errorPosition l D cc o g a b x m (cp cc L) (h := E1), fun g x2 pl => bX7_errorPosition l D cc o g a b x2 m pl (h := E2), fun _ => ⟨L, rfl, r, n, t, h0, nw, h, hC, hr, t1, t2, e1, e2, e3, e4, e5, H⟩, rmOk.of (by decide), rmOk.of (by decide)⟩
theorem sem_about (l : Launch) (hst : l.stackTraces = false) (D : va_G) (cc : Nat → ClassId) (o : Nat) (a b : Nat → Nat) (p1 : Int32) : semT l D cc o a b yX6_about wsX6_about yX7_about wsX7_about [.int p1] [xIA] := by
  intro x m L hI
  obtain ⟨r, n, t, h0, nw, h, hC, hr, t1, t2, e1, e2, e3, e4, e5, H⟩ := hI
  have hh := H.1.1
  have hw := H.1.2
  obtain ⟨A, v, rf, one', E1, E2, hA⟩ := about_ok h hC hr p1 m.2.2.2.2.2.2.2.2.2.2.2.2.2.2.2.2.1
  exact ⟨_, _, _, _, _, _, _, _, _, _, _, ⟨fun _ _ h => h, fun _ _ h => h⟩, fun g => bX6_about l D cc o g a b x m (cp cc L) (hst := hst) (h := E1), fun g x2 pl => bX7_about l D cc o g a b x2 m pl (h := E2), hA, rfl, fun _ => ⟨L, rfl, r, n, t, h0, nw, h, hC, hr, t1, t2, e1, e2, e3, e4, e5, H⟩, rmOk.of (by decide), rmOk.of (by decide)⟩
theorem sem_sign (l : Launch) (hst : l.stackTraces = false) (D : va_G) (cc : Nat → ClassId) (o : Nat) (a b : Nat → Nat) (p1 : Int32) : semT l D cc o a b yX6_sign wsX6_sign yX7_sign wsX7_sign [.int p1] [xIA] := by
  intro x m L hI
  obtain ⟨r, n, t, h0, nw, h, hC, hr, t1, t2, e1, e2, e3, e4, e5, H⟩ := hI
  have hh := H.1.1
  have hw := H.1.2
  obtain ⟨A, v, rf, one', E1, E2, hA⟩ := sign_ok h hC hr p1 m.2.2.2.2.2.2.2.2.2.2.2.2.2.2.2.2.1
  exact ⟨_, _, _, _, _, _, _, _, _, _, _, ⟨fun _ _ h => h, fun _ _ h => h⟩, fun g => bX6_sign l D cc o g a b x m (cp cc L) (hst := hst) (h := E1), fun g x2 pl => bX7_sign l D cc o g a b x2 m pl (h := E2), hA, rfl, fun _ => ⟨L, rfl, r, n, t, h0, nw, h, hC, hr, t1, t2, e1, e2, e3, e4, e5, H⟩, rmOk.of (by decide), rmOk.of (by decide)⟩
theorem sem_sample (l : Launch) (hst : l.stackTraces = false) (D : va_G) (cc : Nat → ClassId) (o : Nat) (a b : Nat → Nat) (p1 : Int32) (p2 : Int32) : semT l D cc o a b yX6_sample wsX6_sample yX7_sample wsX7_sample [.int p1, .int p2] [xIO, xIA] := by
  intro x m L hI
  obtain ⟨r, n, t, h0, nw, h, hC, hr, t1, t2, e1, e2, e3, e4, e5, H⟩ := hI
  have hh := H.1.1
  have hw := H.1.2
  obtain ⟨A, v, rf, one', E1, E2, hA⟩ := sample_ok h hC hr p1 p2 m.2.2.2.2.2.2.2.2.2.2.2.2.2.2.2.2.1
  exact ⟨_, _, _, _, _, _, _, _, _, _, _, ⟨fun _ _ h => h, fun _ _ h => h⟩, fun g => bX6_sample l D cc o g a b x m (cp cc L) (hst := hst) (h := E1), fun g x2 pl => bX7_sample l D cc o g a b x2 m pl (h := E2), hA, rfl, fun _ => ⟨L, rfl, r, n, t, h0, nw, h, hC, hr, t1, t2, e1, e2, e3, e4, e5, H⟩, rmOk.of (by decide), rmOk.of (by decide)⟩
theorem sem_signOf (l : Launch) (hst : l.stackTraces = false) (D : va_G) (cc : Nat → ClassId) (o : Nat) (a b : Nat → Nat) (p1 : Int32) (p2 : Int32) : semT l D cc o a b yX6_signOf wsX6_signOf yX7_signOf wsX7_signOf [.int p1, .int p2] [xIO, xIA] := by
  intro x m L hI
  obtain ⟨r, n, t, h0, nw, h, hC, hr, t1, t2, e1, e2, e3, e4, e5, H⟩ := hI
  have hh := H.1.1
  have hw := H.1.2
  obtain ⟨A, v, rf, one', E1, E2, hA⟩ := signOf_ok h hC hr p1 p2 m.2.2.2.2.2.2.2.2.2.2.2.2.2.2.2.2.1
  exact ⟨_, _, _, _, _, _, _, _, _, _, _, ⟨fun _ _ h => h, fun _ _ h => h⟩, fun g => bX6_signOf l D cc o g a b x m (cp cc L) (hst := hst) (h := E1), fun g x2 pl => bX7_signOf l D cc o g a b x2 m pl (h := E2), hA, rfl, fun _ => ⟨L, rfl, r, n, t, h0, nw, h, hC, hr, t1, t2, e1, e2, e3, e4, e5, H⟩, rmOk.of (by decide), rmOk.of (by decide)⟩
theorem sem_practised (l : Launch) (hst : l.stackTraces = false) (D : va_G) (cc : Nat → ClassId) (o : Nat) (a b : Nat → Nat) (p1 : Int32) (p2 : Int32) : semT l D cc o a b yX6_practised wsX6_practised yX7_practised wsX7_practised [.int p1, .int p2] [xIA] := by
  intro x m L hI
  obtain ⟨r, n, t, h0, nw, h, hC, hr, t1, t2, e1, e2, e3, e4, e5, H⟩ := hI
  have hh := H.1.1
  have hw := H.1.2
  obtain ⟨A, v, rf, E1, E2, hA⟩ := practised_ok h hC hr p1 p2
  exact ⟨_, _, _, _, _, _, _, _, _, _, _, ⟨fun _ _ h => h, fun _ _ h => h⟩, fun g => bX6_practised l D cc o g a b x m (cp cc L) (hst := hst) (h := E1), fun g x2 pl => bX7_practised l D cc o g a b x2 m pl (h := E2), hA, rfl, fun _ => ⟨L, rfl, r, n, t, h0, nw, h, hC, hr, t1, t2, e1, e2, e3, e4, e5, H⟩, rmOk.of (by decide), rmOk.of (by decide)⟩
theorem sem_setting (l : Launch) (hst : l.stackTraces = false) (D : va_G) (cc : Nat → ClassId) (o : Nat) (a b : Nat → Nat) (p1 : Int32) : semT l D cc o a b yX6_setting wsX6_setting yX7_setting wsX7_setting [.int p1] [xIA] := by
  intro x m L hI
  obtain ⟨r, n, t, h0, nw, h, hC, hr, t1, t2, e1, e2, e3, e4, e5, H⟩ := hI
  have hh := H.1.1
  have hw := H.1.2
  obtain ⟨A, v, rf, E1, E2, hA⟩ := setting_ok h hC hr p1
  exact ⟨_, _, _, _, _, _, _, _, _, _, _, ⟨fun _ _ h => h, fun _ _ h => h⟩, fun g => bX6_setting l D cc o g a b x m (cp cc L) (hst := hst) (h := E1), fun g x2 pl => bX7_setting l D cc o g a b x2 m pl (h := E2), hA, rfl, fun _ => ⟨L, rfl, r, n, t, h0, nw, h, hC, hr, t1, t2, e1, e2, e3, e4, e5, H⟩, rmOk.of (by decide), rmOk.of (by decide)⟩
theorem sem_read (l : Launch) (hst : l.stackTraces = false) (D : va_G) (cc : Nat → ClassId) (o : Nat) (a b : Nat → Nat) (p1 : Int32) : semT l D cc o a b yX6_read wsX6_read yX7_read wsX7_read [.int p1] [xIA] := by
  intro x m L hI
  obtain ⟨r, n, t, h0, nw, h, hC, hr, t1, t2, e1, e2, e3, e4, e5, H⟩ := hI
  have hh := H.1.1
  have hw := H.1.2
  obtain ⟨A, x1, x2, x3, x4, cs', ds', v, rf, y1, y2, y3, one', two', ks', E1, E2, hA⟩ := read_ok h hC hr p1 x.2.2.1.1 x.2.2.1.2.1 x.2.2.1.2.2.1 x.2.2.1.2.2.2 m.2.2.2.1 m.2.2.2.2.1 m.2.2.2.2.2.1 x.2.2.2.1 x.2.2.2.2.1 m.2.2.2.2.2.2.2.2.2.2.2.2.2.2.2.2.1 m.2.2.2.2.2.2.2.2.2.2.2.2.2.2.2.2.2.1 m.2.2.2.2.2.2.2.2.2.2.2.2.2.2.2.2.2.2
  exact ⟨_, _, _, _, _, _, _, _, _, _, _, ⟨fun _ _ h => h, fun _ _ h => h⟩, fun g => bX6_read l D cc o g a b x m (cp cc L) (hst := hst) (h := E1), fun g x2 pl => bX7_read l D cc o g a b x2 m pl (h := E2), hA, rfl, fun _ => ⟨L, rfl, r, n, t, h0, nw, h, hC, hr, t1, t2, e1, e2, e3, e4, e5, H⟩, rmOk.of (by decide), rmOk.of (by decide)⟩
theorem sem_nearest (l : Launch) (hst : l.stackTraces = false) (D : va_G) (cc : Nat → ClassId) (o : Nat) (a b : Nat → Nat) (p1 : Int32) : semT l D cc o a b yX6_nearest wsX6_nearest yX7_nearest wsX7_nearest [.int p1] [xIO] := by
  intro x m L hI
  obtain ⟨r, n, t, h0, nw, h, hC, hr, t1, t2, e1, e2, e3, e4, e5, H⟩ := hI
  have hh := H.1.1
  have hw := H.1.2
  obtain ⟨A, cs', ds', v, rf, one', two', ks', E1, E2, hA⟩ := nearest_ok h hC hr p1 x.2.2.2.1 x.2.2.2.2.1 m.2.2.2.2.2.2.2.2.2.2.2.2.2.2.2.2.1 m.2.2.2.2.2.2.2.2.2.2.2.2.2.2.2.2.2.1 m.2.2.2.2.2.2.2.2.2.2.2.2.2.2.2.2.2.2
  exact ⟨_, _, _, _, _, _, _, _, _, _, _, ⟨fun _ _ h => h, fun _ _ h => h⟩, fun g => bX6_nearest l D cc o g a b x m (cp cc L) (hst := hst) (h := E1), fun g x2 pl => bX7_nearest l D cc o g a b x2 m pl (h := E2), hA, rfl, fun _ => ⟨L, rfl, r, n, t, h0, nw, h, hC, hr, t1, t2, e1, e2, e3, e4, e5, H⟩, rmOk.of (by decide), rmOk.of (by decide)⟩
theorem sem_between (l : Launch) (hst : l.stackTraces = false) (D : va_G) (cc : Nat → ClassId) (o : Nat) (a b : Nat → Nat) (p1 : Int32) (p2 : Int32) : semT l D cc o a b yX6_between wsX6_between yX7_between wsX7_between [.int p1, .int p2] [xIO] := by
  intro x m L hI
  obtain ⟨r, n, t, h0, nw, h, hC, hr, t1, t2, e1, e2, e3, e4, e5, H⟩ := hI
  have hh := H.1.1
  have hw := H.1.2
  obtain ⟨A, cs', v, rf, one', two', ks', E1, E2, hA⟩ := between_ok h hC hr p1 p2 x.2.2.2.1 m.2.2.2.2.2.2.2.2.2.2.2.2.2.2.2.2.1 m.2.2.2.2.2.2.2.2.2.2.2.2.2.2.2.2.2.1 m.2.2.2.2.2.2.2.2.2.2.2.2.2.2.2.2.2.2
  exact ⟨_, _, _, _, _, _, _, _, _, _, _, ⟨fun _ _ h => h, fun _ _ h => h⟩, fun g => bX6_between l D cc o g a b x m (cp cc L) (hst := hst) (h := E1), fun g x2 pl => bX7_between l D cc o g a b x2 m pl (h := E2), hA, rfl, fun _ => ⟨L, rfl, r, n, t, h0, nw, h, hC, hr, t1, t2, e1, e2, e3, e4, e5, H⟩, rmOk.of (by decide), rmOk.of (by decide)⟩
theorem sem_closest (l : Launch) (hst : l.stackTraces = false) (D : va_G) (cc : Nat → ClassId) (o : Nat) (a b : Nat → Nat) : semN l D cc o a b yX6_closest wsX6_closest yX7_closest wsX7_closest := by
  intro x m L hI
  obtain ⟨r, n, t, h0, nw, h, hC, hr, t1, t2, e1, e2, e3, e4, e5, H⟩ := hI
  have hh := H.1.1
  have hw := H.1.2
  obtain ⟨v, cs', x1, x2, one', two', ks', E1, E2⟩ := closest_ok h hC hr x.2.2.2.1 m.2.2.2.2.2.2.2.2.2.2.2.2.2.2.2.2.1 m.2.2.2.2.2.2.2.2.2.2.2.2.2.2.2.2.2.1 m.2.2.2.2.2.2.2.2.2.2.2.2.2.2.2.2.2.2
  exact ⟨_, _, _, _, _, _, _, _, _, ⟨fun _ _ h => h, fun _ _ h => h⟩, fun g => bX6_closest l D cc o g a b x m (cp cc L) (h := E1), fun g x2 pl => bX7_closest l D cc o g a b x2 m pl (h := E2), fun _ => ⟨L, rfl, r, n, t, h0, nw, h, hC, hr, t1, t2, e1, e2, e3, e4, e5, H⟩, rmOk.of (by decide), rmOk.of (by decide)⟩
theorem sem_byOthers (l : Launch) (hst : l.stackTraces = false) (D : va_G) (cc : Nat → ClassId) (o : Nat) (a b : Nat → Nat) : semN l D cc o a b yX6_byOthers wsX6_byOthers yX7_byOthers wsX7_byOthers := by
  intro x m L hI
  obtain ⟨r, n, t, h0, nw, h, hC, hr, t1, t2, e1, e2, e3, e4, e5, H⟩ := hI
  have hh := H.1.1
  have hw := H.1.2
  obtain ⟨w1, w2, w3, w4, cs', ds', E1⟩ := cbo_ok h hC x.2.2.1.1 x.2.2.1.2.1 x.2.2.1.2.2.1 x.2.2.1.2.2.2 x.2.2.2.1 x.2.2.2.2.1
  obtain ⟨y1, y2, y3, one', two', ks', E2⟩ := mbo_ok hr h m.2.2.2.1 m.2.2.2.2.1 m.2.2.2.2.2.1 m.2.2.2.2.2.2.2.2.2.2.2.2.2.2.2.2.1 m.2.2.2.2.2.2.2.2.2.2.2.2.2.2.2.2.2.1 m.2.2.2.2.2.2.2.2.2.2.2.2.2.2.2.2.2.2
  exact ⟨_, _, _, _, _, _, _, _, _, ⟨fun _ _ h => h, fun _ _ h => h⟩, fun g => bX6_byOthers l D cc o g a b x m (cp cc L) (h := E1), fun g x2 pl => bX7_byOthers l D cc o g a b x2 m pl (h := E2), fun _ => ⟨L, rfl, r, n, t, h0, nw, h, hC, hr, t1, t2, e1, e2, e3, e4, e5, H⟩, rmOk.of (by decide), rmOk.of (by decide)⟩
theorem sem_bestRuling (l : Launch) (hst : l.stackTraces = false) (D : va_G) (cc : Nat → ClassId) (o : Nat) (a b : Nat → Nat) : semN l D cc o a b yX6_bestRuling wsX6_bestRuling yX7_bestRuling wsX7_bestRuling := by
  intro x m L hI
  obtain ⟨r, n, t, h0, nw, h, hC, hr, t1, t2, e1, e2, e3, e4, e5, H⟩ := hI
  have hh := H.1.1
  have hw := H.1.2
  obtain ⟨v, sm', pd', st', le', po', sc', sg', na', se', ou', cs', x1, x2, one', two', ks', E1, E2⟩ := best_ok h hC hr m.2.2.2.2.2.2.2.1 m.2.2.2.2.2.2.2.2.1 x.2.1.2.2.1 x.2.1.2.2.2.1 x.2.1.2.2.2.2.1 x.2.1.2.2.2.2.2.1 x.2.1.2.2.2.2.2.2.1 x.2.1.2.2.2.2.2.2.2.1 x.2.1.2.2.2.2.2.2.2.2.1 x.2.1.2.2.2.2.2.2.2.2.2 x.2.2.2.1 m.2.2.2.2.2.2.2.2.2.2.2.2.2.2.2.2.1 m.2.2.2.2.2.2.2.2.2.2.2.2.2.2.2.2.2.1 m.2.2.2.2.2.2.2.2.2.2.2.2.2.2.2.2.2.2
  exact ⟨_, _, _, _, _, _, _, _, _, ⟨fun _ _ h => h, fun _ _ h => h⟩, fun g => bX6_bestRuling l D cc o g a b x m (cp cc L) (h := E1), fun g x2 pl => bX7_bestRuling l D cc o g a b x2 m pl (h := E2), fun _ => ⟨L, rfl, r, n, t, h0, nw, h, hC, hr, t1, t2, e1, e2, e3, e4, e5, H⟩, rmOk.of (by decide), rmOk.of (by decide)⟩
theorem sem_mirrored (l : Launch) (hst : l.stackTraces = false) (D : va_G) (cc : Nat → ClassId) (o : Nat) (a b : Nat → Nat) : semN l D cc o a b yX6_mirrored wsX6_mirrored yX7_mirrored wsX7_mirrored := by
  intro x m L hI
  obtain ⟨r, n, t, h0, nw, h, hC, hr, t1, t2, e1, e2, e3, e4, e5, H⟩ := hI
  have hh := H.1.1
  have hw := H.1.2
  obtain ⟨v, sm', pd', st', le', po', sc', sg', na', se', ou', x1, x2, x3, x4, cs', ds', y1, y2, y3, dr', one', two', ks', E1, E2⟩ := mirrored_ok h hC hr x.2.2.1.1 x.2.2.1.2.1 x.2.2.1.2.2.1 x.2.2.1.2.2.2 m.2.2.2.1 m.2.2.2.2.1 m.2.2.2.2.2.1 x.2.1.2.2.1 x.2.1.2.2.2.1 x.2.1.2.2.2.2.1 x.2.1.2.2.2.2.2.1 x.2.1.2.2.2.2.2.2.1 x.2.1.2.2.2.2.2.2.2.1 x.2.1.2.2.2.2.2.2.2.2.1 x.2.1.2.2.2.2.2.2.2.2.2 x.2.2.2.1 x.2.2.2.2.1 m.2.2.2.2.2.2.2.2.2.2.2.2.2.2.2.1 m.2.2.2.2.2.2.2.2.2.2.2.2.2.2.2.2.1 m.2.2.2.2.2.2.2.2.2.2.2.2.2.2.2.2.2.1 m.2.2.2.2.2.2.2.2.2.2.2.2.2.2.2.2.2.2
  exact ⟨_, _, _, _, _, _, _, _, _, ⟨fun _ _ h => h, fun _ _ h => h⟩, fun g => bX6_mirrored l D cc o g a b x m (cp cc L) (h := E1), fun g x2 pl => bX7_mirrored l D cc o g a b x2 m pl (h := E2), fun _ => ⟨L, rfl, r, n, t, h0, nw, h, hC, hr, t1, t2, e1, e2, e3, e4, e5, H⟩, rmOk.of (by decide), rmOk.of (by decide)⟩
theorem sem_runScript (l : Launch) (hst : l.stackTraces = false) (D : va_G) (cc : Nat → ClassId) (o : Nat) (a b : Nat → Nat) (p1 : Int32) (p2 : Int64) : semT l D cc o a b yX6_runScript wsX6_runScript yX7_runScript wsX7_runScript [.int p1, .long p2] [xIA] := by
  intro x m L hI
  obtain ⟨r, n, t, h0, nw, h, hC, hr, t1, t2, e1, e2, e3, e4, e5, H⟩ := hI
  have hh := H.1.1
  have hw := H.1.2
  obtain ⟨A, aa, v, rf, bb, E1, E2, hA⟩ := script_ok h hC hr p1 p2 x.2.1.1 x.2.1.2.1 x.2.2.1.1 x.2.2.1.2.1 x.2.2.1.2.2.1 x.2.2.1.2.2.2 m.2.2.2.1 m.2.2.2.2.1 m.2.2.2.2.2.1 x.2.1.2.2.1 x.2.1.2.2.2.1 x.2.1.2.2.2.2.1 x.2.1.2.2.2.2.2.1 x.2.1.2.2.2.2.2.2.1 x.2.1.2.2.2.2.2.2.2.1 x.2.1.2.2.2.2.2.2.2.2.1 x.2.1.2.2.2.2.2.2.2.2.2 x.2.2.2.1 x.2.2.2.2.1 m.2.2.2.2.2.2.2.2.2.2.2.1 m.2.2.2.2.2.2.2.2.2.2.2.2.2.2.2.2.1 m.2.2.2.2.2.2.2.2.2.2.2.2.2.2.2.2.2.1 m.2.2.2.2.2.2.2.2.2.2.2.2.2.2.2.2.2.2
  exact ⟨_, _, _, _, _, _, _, _, _, _, _, ⟨fun _ _ h => h, fun _ _ h => h⟩, fun g => bX6_runScript l D cc o g a b x m (cp cc L) (hst := hst) (h := E1), fun g x2 pl => bX7_runScript l D cc o g a b x2 m pl (h := E2), hA, rfl, fun _ => ⟨L, rfl, r, n, t, h0, nw, h, hC, hr, t1, t2, e1, e2, e3, e4, e5, H⟩, rmOk.of (by decide), rmOk.of (by decide)⟩
theorem sem_simulate (l : Launch) (hst : l.stackTraces = false) (D : va_G) (cc : Nat → ClassId) (o : Nat) (a b : Nat → Nat) (p1 : Int64) (p3 : Int32) : semT l D cc o a b yX6_simulate wsX6_simulate yX7_simulate wsX7_simulate [.long p1, .int p3] [xIA] := by
  intro x m L hI
  obtain ⟨r, n, t, h0, nw, h, hC, hr, t1, t2, e1, e2, e3, e4, e5, H⟩ := hI
  have hh := H.1.1
  have hw := H.1.2
  obtain ⟨A, aa, v, rf, bb, E1, E2, hA⟩ := simul_ok h hC hr p1 p3 x.2.1.1 x.2.1.2.1 x.2.2.1.1 x.2.2.1.2.1 x.2.2.1.2.2.1 x.2.2.1.2.2.2 m.2.2.2.1 m.2.2.2.2.1 m.2.2.2.2.2.1 x.2.1.2.2.1 x.2.1.2.2.2.1 x.2.1.2.2.2.2.1 x.2.1.2.2.2.2.2.1 x.2.1.2.2.2.2.2.2.1 x.2.1.2.2.2.2.2.2.2.1 x.2.1.2.2.2.2.2.2.2.2.1 x.2.1.2.2.2.2.2.2.2.2.2 x.2.2.2.1 x.2.2.2.2.1 m.2.2.2.2.2.2.2.2.2.2.2.1 m.2.2.2.2.2.2.2.2.2.2.2.2.2.2.2.2.1 m.2.2.2.2.2.2.2.2.2.2.2.2.2.2.2.2.2.1 m.2.2.2.2.2.2.2.2.2.2.2.2.2.2.2.2.2.2
  exact ⟨_, _, _, _, _, _, _, _, _, _, _, ⟨fun _ _ h => h, fun _ _ h => h⟩, fun g => bX6_simulate l D cc o g a b x m (cp cc L) (hst := hst) (h := E1), fun g x2 pl => bX7_simulate l D cc o g a b x2 m pl (h := E2), hA, rfl, fun _ => ⟨L, rfl, r, n, t, h0, nw, h, hC, hr, t1, t2, e1, e2, e3, e4, e5, H⟩, rmOk.of (by decide), rmOk.of (by decide)⟩
end XSEM1
