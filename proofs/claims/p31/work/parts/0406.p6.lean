/-! PURE, 6: reading a figure, the model's loops -/
section XPURE6
theorem nI_m1 {n : Nat} (h : n < 2 ^ 31) : ¬ nI n = -1 := by
  intro q
  have h1 := nI_toInt h
  rw [q] at h1
  have h2 : (-1 : Int32).toInt = -1 := by decide
  omega
def rdH (N : Nat) (c c3 : Nat → Int32) (r r3 : Nat → Nat) (f d : Nat) : Prop := rowOk N c r ∧ rowOk 1343 c3 r3 ∧ figOk r f ∧ f + 76 ≤ N ∧ N < 2 ^ 30 ∧ 5 ≤ d ∧ d ≤ 20 ∧ (sigM r f d).length ≤ 40 ∧ r3 110 ≤ 16 ∧ ∀ s, s < r3 110 → figOk r3 (atM s) ∧ (sigM r3 (atM s) d).length ≤ 40
def dtM (r r3 : Nat → Nat) (f d s : Nat) : Nat := dsM (sigM r f d) (sigM r3 (atM s) d)
theorem rd_dist {N f d s : Nat} {c c3 : Nat → Int32} {r r3 : Nat → Nat} (h : rdH N c c3 r r3 f d) (hs : s < r3 110) (one two cs : Nat → Int32) : dtM r r3 f d s ≤ 240 ∧ ∃ one' two' cs', fX7_distanceTo (nI f) (nI s) (nI d) N 1343 c one c3 two cs = some (nI (dtM r r3 f d s), one', two', cs') := by
  obtain ⟨h1, h2, h3, h4, h5, h6, h7, h8, h9, h10⟩ := h
  obtain ⟨g1, g2⟩ := h10 s hs
  have := dsM_le (sigM r f d) (sigM r3 (atM s) d)
  exact ⟨by unfold dtM; omega, distTo_ok h1 h2 h3 g1 h4 h5 (by omega) h6 h7 h8 g2⟩
def butOk (but : Int32) (b : Nat) : Prop := ∀ s, s < 16 → (nI s = but ↔ s = b)
theorem butOk_m1 : butOk (-1) 99 := fun s hs => ⟨fun q => absurd q (nI_m1 (by omega)), fun q => by omega⟩
theorem butOk_nI {b : Nat} (hb : b < 16) : butOk (nI b) b := fun s hs => nI_eq (by omega) (by omega)
theorem b4_so {A B C D β : Type} (e : A) (f : B) (g : C) (i : D) (k : A → B → C → D → Option β) : b4 (some (e, f, g, i)) k = k e f g i := rfl
theorem b5_so {A B C D E β : Type} (e : A) (f : B) (g : C) (i : D) (j : E) (k : A → B → C → D → E → Option β) : b5 (some (e, f, g, i, j)) k = k e f g i j := rfl
theorem b6_so {A B C D E F β : Type} (e : A) (f : B) (g : C) (i : D) (j : E) (o : F) (k : A → B → C → D → E → F → Option β) : b6 (some (e, f, g, i, j, o)) k = k e f g i j o := rfl
theorem rd1_body {N f d b s : Nat} {c c3 : Nat → Int32} {r r3 : Nat → Nat} {but : Int32} (h : rdH N c c3 r r3 f d) (hb : butOk but b) (hs : s < r3 110) (one two cs : Nat → Int32) :
    ∃ one' two' cs', fX7_readFigure_L19 1343 N c3 c (nI f) but (nI d) (nI s) (oneI (nrM (dtM r r3 f d) b s)) (byI (nrM (dtM r r3 f d) b s)) one two cs = some (.inl (nI (s + 1), oneI (nrM (dtM r r3 f d) b (s + 1)), byI (nrM (dtM r r3 f d) b (s + 1)), one', two', cs')) := by
  have h16 : r3 110 ≤ 16 := h.2.2.2.2.2.2.2.2.1
  unfold fX7_readFigure_L19
  rw [show (110 : Int32) = nI 110 from rfl, gk (by omega) (by omega), nI_clamp (by omega), h.2.1 110 (by omega), if_neg (nI_ge hs (by omega))]
  by_cases q : s = b
  · rw [if_pos ((hb s (by omega)).mpr q)]
    refine ⟨one, two, cs, ?_⟩
    have e : nrM (dtM r r3 f d) b (s + 1) = nrM (dtM r r3 f d) b s := by
      show (if s = b then _ else _) = _
      rw [if_pos q]
    rw [e, nI_1]
  · rw [if_neg (fun z => q ((hb s (by omega)).mp z))]
    obtain ⟨hd, one', two', cs', e⟩ := rd_dist h hs one two cs
    refine ⟨one', two', cs', ?_⟩
    rw [e, b4_so]
    have e2 : nrM (dtM r r3 f d) b (s + 1) = (match nrM (dtM r r3 f d) b s with
      | none => some (s, dtM r r3 f d s)
      | some p => if dtM r r3 f d s < p.2 then some (s, dtM r r3 f d s) else some p) := by
      show (if s = b then _ else _) = _
      rw [if_neg q]
      rfl
    rw [e2]
    cases hn : nrM (dtM r r3 f d) b s with
    | none =>
      rw [if_pos (show oneI none = -1 from rfl)]
      unfold fX7_readFigure_J19_70
      rw [if_neg (show ¬ (1 : Int32) = 0 from by decide), nI_1]; rfl
    | some p =>
      have hp := nrM_in _ _ _ _ hn
      have hp2 : p.2 ≤ 240 := by rw [hp.2.2]; exact (rd_dist h (by omega) one two cs).1
      rw [if_neg (show ¬ oneI (some p) = -1 from nI_m1 (by omega))]
      by_cases z : dtM r r3 f d s < p.2
      · rw [if_neg (show ¬ byI (some p) ≤ nI (dtM r r3 f d s) from nI_ge z (by omega))]
        unfold fX7_readFigure_J19_70
        rw [if_neg (show ¬ (1 : Int32) = 0 from by decide), nI_1]
        show _ = some (Sum.inl (nI (s + 1), oneI (if _ then _ else _), byI (if _ then _ else _), _))
        rw [if_pos z]; rfl
      · rw [if_pos (show byI (some p) ≤ nI (dtM r r3 f d s) from nI_le (by omega) (by omega))]
        unfold fX7_readFigure_J19_70
        rw [if_pos (show (0 : Int32) = 0 from rfl), nI_1]
        show _ = some (Sum.inl (nI (s + 1), oneI (if _ then _ else _), byI (if _ then _ else _), _))
        rw [if_neg z]
theorem rd1_loop {N f d b : Nat} {c c3 : Nat → Int32} {r r3 : Nat → Nat} {but : Int32} (h : rdH N c c3 r r3 f d) (hb : butOk but b) : ∀ (m s : Nat) (one two cs : Nat → Int32) (M : Nat), m + s = r3 110 → m < M →
    ∃ one' two' cs', loopF (fun (z : Int32 × Int32 × Int32 × (Nat → Int32) × (Nat → Int32) × (Nat → Int32)) => fX7_readFigure_L19 1343 N c3 c (nI f) but (nI d) z.1 z.2.1 z.2.2.1 z.2.2.2.1 z.2.2.2.2.1 z.2.2.2.2.2) M (nI s, oneI (nrM (dtM r r3 f d) b s), byI (nrM (dtM r r3 f d) b s), one, two, cs) = some (oneI (nrM (dtM r r3 f d) b (r3 110)), byI (nrM (dtM r r3 f d) b (r3 110)), one', two', cs') := by
  have h16 : r3 110 ≤ 16 := h.2.2.2.2.2.2.2.2.1
  intro m
  induction m with
  | zero =>
    intro s one two cs M hm hM
    obtain ⟨M, rfl⟩ : ∃ M', M = M' + 1 := ⟨M - 1, by omega⟩
    obtain rfl : s = r3 110 := by omega
    refine ⟨one, two, cs, loopF_out ?_⟩
    show fX7_readFigure_L19 1343 N c3 c (nI f) but (nI d) (nI (r3 110)) _ _ one two cs = _
    unfold fX7_readFigure_L19
    rw [show (110 : Int32) = nI 110 from rfl, gk (by omega) (by omega), nI_clamp (by omega), h.2.1 110 (by omega), if_pos (nI_le (Nat.le_refl _) (by omega))]
  | succ m ih =>
    intro s one two cs M hm hM
    obtain ⟨M, rfl⟩ : ∃ M', M = M' + 1 := ⟨M - 1, by omega⟩
    obtain ⟨one', two', cs', e⟩ := rd1_body h hb (show s < r3 110 by omega) one two cs
    rw [loopF_go (s' := (nI (s + 1), oneI (nrM (dtM r r3 f d) b (s + 1)), byI (nrM (dtM r r3 f d) b (s + 1)), one', two', cs')) e]
    exact ih (s + 1) one' two' cs' M (by omega) (by omega)
/-- the second loop, with nothing to look for -/
theorem rd2_stop {N f d : Nat} {c c3 : Nat → Int32} {r r3 : Nat → Nat} {but how : Int32} (h : rdH N c c3 r r3 f d) (hh : ¬ how = 0) (s : Nat) (hs : s < 2 ^ 31) (o y : Int32) (one two cs : Nat → Int32) :
    fX7_readFigure_L145 1343 N c3 c (nI f) but (nI d) o y (nI s) how one two cs = some (.inr (how, one, two, cs)) := by
  have h16 : r3 110 ≤ 16 := h.2.2.2.2.2.2.2.2.1
  unfold fX7_readFigure_L145
  rw [show (110 : Int32) = nI 110 from rfl, gk (by omega) (by omega), nI_clamp (by omega), h.2.1 110 (by omega)]
  by_cases q : r3 110 ≤ s
  · rw [if_pos (nI_le q hs)]
  · rw [if_neg (nI_ge (by omega) (by omega)), if_neg hh]
theorem rd2_body {N f d b s i e : Nat} {c c3 : Nat → Int32} {r r3 : Nat → Nat} {but : Int32} (h : rdH N c c3 r r3 f d) (hb : butOk but b) (hs : s < r3 110) (hi : i < r3 110) (he : e ≤ 240) (hmg : r3 79 ≤ 20) (hnm : ∀ s, s < r3 110 → r3 (atM s + 76) ≤ 9) (one two cs : Nat → Int32) :
    ∃ one' two' cs', fX7_readFigure_L145 1343 N c3 c (nI f) but (nI d) (nI i) (nI e) (nI s) 0 one two cs = some (.inl (nI (s + 1), (if (decide (s ≠ b) && (decide (r3 (atM s + 76) ≠ r3 (atM i + 76)) && decide (dtM r r3 f d s < e + r3 79))) = true then 1 else 0), one', two', cs')) := by
  have h16 : r3 110 ≤ 16 := h.2.2.2.2.2.2.2.2.1
  unfold fX7_readFigure_L145
  rw [show (110 : Int32) = nI 110 from rfl, gk (by omega) (by omega), nI_clamp (by omega), h.2.1 110 (by omega), if_neg (nI_ge hs (by omega)), if_pos rfl]
  by_cases q : s = b
  · rw [if_pos ((hb s (by omega)).mpr q)]
    refine ⟨one, two, cs, ?_⟩
    unfold fX7_readFigure_J145_198
    rw [if_pos rfl, if_neg (by simp [q]), nI_1]
  · rw [if_neg (fun z => q ((hb s (by omega)).mp z)), at_nI, at_nI, show (76 : Int32) = nI 76 from rfl, nI_add, nI_add, gk (by unfold atM; omega) (by omega), gk (by unfold atM; omega) (by omega), nI_clamp (by unfold atM; omega), nI_clamp (by unfold atM; omega), h.2.1 _ (by unfold atM; omega), h.2.1 _ (by unfold atM; omega)]
    have n1 := hnm s hs
    have n2 := hnm i hi
    by_cases z : r3 (atM s + 76) = r3 (atM i + 76)
    · rw [if_pos (by rw [z])]
      refine ⟨one, two, cs, ?_⟩
      unfold fX7_readFigure_J145_198
      rw [if_pos rfl, if_neg (by simp [z]), nI_1]
    · rw [if_neg (fun y => z ((nI_eq (by omega) (by omega)).mp y))]
      obtain ⟨hd, one', two', cs', e1⟩ := rd_dist h hs one two cs
      refine ⟨one', two', cs', ?_⟩
      unfold fX7_readFigure_J145_198
      rw [if_neg (show ¬ (1 : Int32) = 0 from by decide), e1, b4_so, show (79 : Int32) = nI 79 from rfl, gk (by omega) (by omega), nI_clamp (by omega), h.2.1 79 (by omega), nI_add]
      by_cases y : dtM r r3 f d s < e + r3 79
      · rw [if_neg (nI_ge y (by omega)), if_pos (by simp [q, z, y]), nI_1]
      · rw [if_pos (nI_le (by omega) (by omega)), if_neg (by simp [y]), nI_1]
theorem rd2_loop {N f d b i e : Nat} {c c3 : Nat → Int32} {r r3 : Nat → Nat} {but : Int32} (h : rdH N c c3 r r3 f d) (hb : butOk but b) (hi : i < r3 110) (he : e ≤ 240) (hmg : r3 79 ≤ 20) (hnm : ∀ s, s < r3 110 → r3 (atM s + 76) ≤ 9) : ∀ (m s : Nat) (one two cs : Nat → Int32) (M : Nat), m + s = r3 110 → m + 1 < M → rvM (dtM r r3 f d) (fun s => r3 (atM s + 76)) b i e (r3 79) s = false →
    ∃ one' two' cs', loopF (fun (z : Int32 × Int32 × (Nat → Int32) × (Nat → Int32) × (Nat → Int32)) => fX7_readFigure_L145 1343 N c3 c (nI f) but (nI d) (nI i) (nI e) z.1 z.2.1 z.2.2.1 z.2.2.2.1 z.2.2.2.2) M (nI s, 0, one, two, cs) = some ((if rvM (dtM r r3 f d) (fun s => r3 (atM s + 76)) b i e (r3 79) (r3 110) = true then 1 else 0), one', two', cs') := by
  have h16 : r3 110 ≤ 16 := h.2.2.2.2.2.2.2.2.1
  intro m
  induction m with
  | zero =>
    intro s one two cs M hm hM hv
    obtain ⟨M, rfl⟩ : ∃ M', M = M' + 1 := ⟨M - 1, by omega⟩
    obtain rfl : s = r3 110 := by omega
    refine ⟨one, two, cs, loopF_out ?_⟩
    show fX7_readFigure_L145 1343 N c3 c (nI f) but (nI d) _ _ (nI (r3 110)) 0 one two cs = _
    unfold fX7_readFigure_L145
    rw [show (110 : Int32) = nI 110 from rfl, gk (by omega) (by omega), nI_clamp (by omega), h.2.1 110 (by omega), if_pos (nI_le (Nat.le_refl _) (by omega)), hv, if_neg Bool.false_ne_true]
  | succ m ih =>
    intro s one two cs M hm hM hv
    obtain ⟨M, rfl⟩ : ∃ M', M = M' + 1 := ⟨M - 1, by omega⟩
    obtain ⟨one', two', cs', e1⟩ := rd2_body h hb (show s < r3 110 by omega) hi he hmg hnm one two cs
    have hvs : rvM (dtM r r3 f d) (fun s => r3 (atM s + 76)) b i e (r3 79) (s + 1) = (decide (s ≠ b) && (decide (r3 (atM s + 76) ≠ r3 (atM i + 76)) && decide (dtM r r3 f d s < e + r3 79))) := by
      show (rvM _ _ _ _ _ _ s || _) = _
      rw [hv, Bool.false_or]
    rw [← hvs] at e1
    rw [loopF_go e1]
    cases hv2 : rvM (dtM r r3 f d) (fun s => r3 (atM s + 76)) b i e (r3 79) (s + 1) with
    | true =>
      rw [if_pos rfl, if_pos (rvM_mono hv2 _ (by omega))]
      obtain ⟨M, rfl⟩ : ∃ M', M = M' + 1 := ⟨M - 1, by omega⟩
      exact ⟨one', two', cs', loopF_out (rd2_stop h (show ¬ (1 : Int32) = 0 from by decide) (s + 1) (by omega) _ _ one' two' cs')⟩
    | false =>
      rw [if_neg Bool.false_ne_true]
      exact ih (s + 1) one' two' cs' M (by omega) (by omega) hv2
/-- READING A FIGURE by all samples but b -/
theorem rd_ok {N f b : Nat} {c c3 : Nat → Int32} {r r3 : Nat → Nat} {but : Int32} (h : rdH N c c3 r r3 f (r3 77)) (hb : butOk but b) (hlim : r3 78 ≤ 99) (hmg : r3 79 ≤ 20) (hnm : ∀ s, s < r3 110 → r3 (atM s + 76) ≤ 9) (one two cs : Nat → Int32) :
    ∃ one' two' cs', fX7_readFigure (nI f) but 1343 N c3 c one two cs = some (oneI (nrM (dtM r r3 f (r3 77)) b (r3 110)), byI (nrM (dtM r r3 f (r3 77)) b (r3 110)), nI (howM (dtM r r3 f (r3 77)) (fun s => r3 (atM s + 76)) b (r3 110) (r3 78) (r3 79)), one', two', cs') := by
  have h16 : r3 110 ≤ 16 := h.2.2.2.2.2.2.2.2.1
  unfold fX7_readFigure
  obtain ⟨one1, two1, cs1, e1⟩ := rd1_loop h hb (r3 110) 0 one two cs FUEL (by omega) (by unfold FUEL; omega)
  have e1 : loopF (fun (z : Int32 × Int32 × Int32 × (Nat → Int32) × (Nat → Int32) × (Nat → Int32)) => fX7_readFigure_L19 1343 N c3 c (nI f) but (nI (r3 77)) z.1 z.2.1 z.2.2.1 z.2.2.2.1 z.2.2.2.2.1 z.2.2.2.2.2) FUEL ((0 : Int32), (-1 : Int32), (-1 : Int32), one, two, cs) = _ := e1
  rw [show (77 : Int32) = nI 77 from rfl, gk (by omega) (by omega), nI_clamp (by omega), h.2.1 77 (by omega), e1, b5_so]
  cases hn : nrM (dtM r r3 f (r3 77)) b (r3 110) with
  | none =>
    rw [if_pos (show oneI none = -1 from rfl)]
    have e2 := loopF_out (n := 99999) (body := fun (z : Int32 × Int32 × (Nat → Int32) × (Nat → Int32) × (Nat → Int32)) => fX7_readFigure_L145 1343 N c3 c (nI f) but (nI (r3 77)) (oneI none) (byI none) z.1 z.2.1 z.2.2.1 z.2.2.2.1 z.2.2.2.2) (s := (nI 0, 2, one1, two1, cs1)) (rd2_stop h (show ¬ (2 : Int32) = 0 from by decide) 0 (by omega) (oneI none) (byI none) one1 two1 cs1)
    have e2 : loopF (fun (z : Int32 × Int32 × (Nat → Int32) × (Nat → Int32) × (Nat → Int32)) => fX7_readFigure_L145 1343 N c3 c (nI f) but (nI (r3 77)) (oneI none) (byI none) z.1 z.2.1 z.2.2.1 z.2.2.2.1 z.2.2.2.2) FUEL ((0 : Int32), (2 : Int32), one1, two1, cs1) = _ := e2
    rw [e2, b4_so]
    refine ⟨one1, two1, cs1, ?_⟩
    unfold howM
    rw [hn]; rfl
  | some p =>
    have hp := nrM_in _ _ _ _ hn
    have hp2 : p.2 ≤ 240 := by rw [hp.2.2]; exact (rd_dist h hp.1 one two cs).1
    rw [if_neg (show ¬ oneI (some p) = -1 from nI_m1 (by omega)), show (78 : Int32) = nI 78 from rfl, gk (by omega) (by omega), nI_clamp (by omega), h.2.1 78 (by omega)]
    have hw : howM (dtM r r3 f (r3 77)) (fun s => r3 (atM s + 76)) b (r3 110) (r3 78) (r3 79) = if r3 78 < p.2 then 2 else if rvM (dtM r r3 f (r3 77)) (fun s => r3 (atM s + 76)) b p.1 p.2 (r3 79) (r3 110) = true then 1 else 0 := by
      unfold howM; rw [hn]
    rw [hw]
    by_cases q : r3 78 < p.2
    · rw [if_neg (show ¬ byI (some p) ≤ nI (r3 78) from nI_ge q (by omega)), if_pos q]
      have e2 := loopF_out (n := 99999) (body := fun (z : Int32 × Int32 × (Nat → Int32) × (Nat → Int32) × (Nat → Int32)) => fX7_readFigure_L145 1343 N c3 c (nI f) but (nI (r3 77)) (oneI (some p)) (byI (some p)) z.1 z.2.1 z.2.2.1 z.2.2.2.1 z.2.2.2.2) (s := (nI 0, 2, one1, two1, cs1)) (rd2_stop h (show ¬ (2 : Int32) = 0 from by decide) 0 (by omega) (oneI (some p)) (byI (some p)) one1 two1 cs1)
      have e2 : loopF (fun (z : Int32 × Int32 × (Nat → Int32) × (Nat → Int32) × (Nat → Int32)) => fX7_readFigure_L145 1343 N c3 c (nI f) but (nI (r3 77)) (oneI (some p)) (byI (some p)) z.1 z.2.1 z.2.2.1 z.2.2.2.1 z.2.2.2.2) FUEL ((0 : Int32), (2 : Int32), one1, two1, cs1) = _ := e2
      rw [e2, b4_so]
      exact ⟨one1, two1, cs1, rfl⟩
    · rw [if_pos (show byI (some p) ≤ nI (r3 78) from nI_le (by omega) (by omega)), if_neg q]
      obtain ⟨one2, two2, cs2, e2⟩ := rd2_loop h hb hp.1 hp2 hmg hnm (r3 110) 0 one1 two1 cs1 FUEL (by omega) (by unfold FUEL; omega) rfl
      have e2 : loopF (fun (z : Int32 × Int32 × (Nat → Int32) × (Nat → Int32) × (Nat → Int32)) => fX7_readFigure_L145 1343 N c3 c (nI f) but (nI (r3 77)) (oneI (some p)) (byI (some p)) z.1 z.2.1 z.2.2.1 z.2.2.2.1 z.2.2.2.2) FUEL ((0 : Int32), (0 : Int32), one1, two1, cs1) = _ := e2
      rw [e2, b4_so]
      refine ⟨one2, two2, cs2, ?_⟩
      cases rvM (dtM r r3 f (r3 77)) (fun s => r3 (atM s + 76)) b p.1 p.2 (r3 79) (r3 110) <;> rfl
theorem rd_same (f but : Int32) (N : Nat) (c one two cs : Nat → Int32) : fX7_readFigure_s f but N c one two cs = fX7_readFigure f but N N c c one two cs := rfl
end XPURE6
