/-! PURE, 25: the class draws the figure of a text -/
section XPURE25
theorem rI_lift {r : Nat → Nat} (h : rI r) : rI (updN r 76 0) := by
  have hf := h.hand
  have hj : ∀ j, j < 76 → updN r 76 0 (0 + j) = r (0 + j) := fun j hj => updN_n (by omega)
  refine rI_hand h (fun j hj => updN_n (by omega)) (figI_eq (figEq_of hj hf.1.1.2.1) (figOk_of hj hf.1.1) hf) ?_
  rw [updN_s]
  exact ⟨by omega, fun z => by omega⟩
theorem CS_lift {r : Nat → Nat} {sm pd : Int32} {st le po sc sg na se ou : Nat → Int32} (h : rI r) (hC : CS r sm pd st le po sc sg na se ou) : CS (updN r 76 0) sm 0 st le po sc sg na se ou := by
  have hf := h.hand
  have hj : ∀ j, j < 76 → updN r 76 0 (0 + j) = r (0 + j) := fun j hj => updN_n (by omega)
  have hq := figEq_of hj hf.1.1.2.1
  exact CS_hand h hC (fun j hj => updN_n (by omega)) (by rw [updN_s]; rfl) ⟨fun _ _ => rfl, fun _ _ => rfl, fun _ _ => rfl⟩ sgFr_rf (figC_eq hq hf.1.1.1 hC.handF) (by rw [sigM_eq _ hq hf.1.1.1]; exact hC.handS)
theorem do_digit {n i a v : Nat} {t : Nat → Nat} {c : Nat → Int32} (h : txC n t c) (hd : dgM t n i = some a) (X pd : Int32) (se st sc le po sg : Nat → Int32) :
    fX5_drawOn_L7 (nI n) se c X (nI v) (nI i) pd st sc le po sg = some (Sum.inl (X, nI (10 * v + a), nI (i + 1), pd, st, sc, le, po, sg)) := by
  obtain ⟨hi, h1, h2, rfl⟩ := dg_some hd
  have hn := h.1
  have e1 : nI v * (10 : Int32) + nI (t i) - (48 : Int32) = nI (10 * v + (t i - 48)) := by
    rw [show (10 : Int32) = nI 10 from rfl, show (48 : Int32) = nI 48 from rfl, pk_mul, nI_add, pk_sub (by omega)]; congr 1; omega
  unfold fX5_drawOn_L7
  rw [if_neg (nI_nlt (by omega) (by omega)), if_neg (nI_ge hi (by omega)), tcell h hi, if_neg (show ¬ nI (t i) < (48 : Int32) from nI_nlt (b := 48) h1 (by omega)), if_neg (show ¬ (57 : Int32) < nI (t i) from nI_nlt (a := 57) h2 (by omega)), e1, b1_so, nI_1]
theorem do_other {n i : Nat} {t : Nat → Nat} {c : Nat → Int32} (h : txC n t c) (hi : i < n) (hd : dgM t n i = none) (x2 x3 pd : Int32) (se st sc le po sg : Nat → Int32) :
    fX5_drawOn_L7 (nI n) se c x2 x3 (nI i) pd st sc le po sg = (if (nI (t i)) = (44 : Int32) then (if (nI (t i)) = (47 : Int32) then some (Sum.inl (x3, (0 : Int32), (nI i) + (1 : Int32), fX4_liftPen, st, sc, le, po, sg)) else some (Sum.inl (x3, (0 : Int32), (nI i) + (1 : Int32), pd, st, sc, le, po, sg))) else (b7 (fX4_addPoint x2 x3 pd st sc le po sg se) (fun r_13 v_p1_penDown_13 c_p1_figures_strokes_13 c_p1_figures_signCounts_13 c_p1_figures_lengths_13 c_p1_figures_points_13 c_p1_figures_signs_13 => (if r_13 = 0 then some (Sum.inr (Sum.inl (v_p1_penDown_13, c_p1_figures_strokes_13, c_p1_figures_signCounts_13, c_p1_figures_lengths_13, c_p1_figures_points_13, c_p1_figures_signs_13))) else (if (nI (t i)) = (47 : Int32) then some (Sum.inl (x2, (0 : Int32), (nI i) + (1 : Int32), fX4_liftPen, c_p1_figures_strokes_13, c_p1_figures_signCounts_13, c_p1_figures_lengths_13, c_p1_figures_points_13, c_p1_figures_signs_13)) else some (Sum.inl (x2, (0 : Int32), (nI i) + (1 : Int32), v_p1_penDown_13, c_p1_figures_strokes_13, c_p1_figures_signCounts_13, c_p1_figures_lengths_13, c_p1_figures_points_13, c_p1_figures_signs_13))))))) := by
  have hn := h.1
  obtain ⟨-, g⟩ := h.2 i hi
  unfold fX5_drawOn_L7
  rw [if_neg (nI_nlt (by omega) (by omega)), if_neg (nI_ge hi (by omega)), tcell h hi]
  rcases dg_none hd hi with q | q
  · rw [if_pos (show nI (t i) < (48 : Int32) from nI_lt (b := 48) q (by omega))]
  · rw [if_neg (show ¬ nI (t i) < (48 : Int32) from nI_nlt (b := 48) (by omega) (by omega)), if_pos (show (57 : Int32) < nI (t i) from nI_lt (a := 57) q (by omega))]
def doB (n : Nat) (se c : Nat → Int32) : Int32 × Int32 × Int32 × Int32 × (Nat → Int32) × (Nat → Int32) × (Nat → Int32) × (Nat → Int32) × (Nat → Int32) → Option ((Int32 × Int32 × Int32 × Int32 × (Nat → Int32) × (Nat → Int32) × (Nat → Int32) × (Nat → Int32) × (Nat → Int32)) ⊕ ((Int32 × (Nat → Int32) × (Nat → Int32) × (Nat → Int32) × (Nat → Int32) × (Nat → Int32)) ⊕ (Int32 × (Nat → Int32) × (Nat → Int32) × (Nat → Int32) × (Nat → Int32) × (Nat → Int32)))) :=
  fun z => fX5_drawOn_L7 (nI n) se c z.1 z.2.1 z.2.2.1 z.2.2.2.1 z.2.2.2.2.1 z.2.2.2.2.2.1 z.2.2.2.2.2.2.1 z.2.2.2.2.2.2.2.1 z.2.2.2.2.2.2.2.2
theorem do_num {n p : Nat} {t : Nat → Nat} {c : Nat → Int32} (h : txC n t c) {q : Nat × Nat} (hq : numM t n p = some q) (N : Nat) (X pd : Int32) (se st sc le po sg : Nat → Int32) :
    loopF (doB n se c) (N + (q.2 - p)) (X, 0, nI p, pd, st, sc, le, po, sg) = loopF (doB n se c) N (X, nI q.1, nI q.2, pd, st, sc, le, po, sg) := by
  rcases num_cases t n p with ⟨e, -⟩ | ⟨v, e, d, -⟩ | ⟨a, b, e, d, d2, -, -⟩
  · rw [e] at hq; cases hq
  · rw [e] at hq; cases hq
    have s1 : doB n se c (X, 0, nI p, pd, st, sc, le, po, sg) = some (.inl (X, nI (10 * 0 + v), nI (p + 1), pd, st, sc, le, po, sg)) := do_digit (v := 0) h d X pd se st sc le po sg
    rw [Nat.mul_zero, Nat.zero_add] at s1
    show loopF _ (N + (p + 1 - p)) _ = _
    rw [Nat.add_sub_cancel_left]
    exact loopF_go s1
  · rw [e] at hq; cases hq
    have s1 : doB n se c (X, 0, nI p, pd, st, sc, le, po, sg) = some (.inl (X, nI (10 * 0 + a), nI (p + 1), pd, st, sc, le, po, sg)) := do_digit (v := 0) h d X pd se st sc le po sg
    rw [Nat.mul_zero, Nat.zero_add] at s1
    have s2 : doB n se c (X, nI a, nI (p + 1), pd, st, sc, le, po, sg) = some (.inl (X, nI (10 * a + b), nI (p + 2), pd, st, sc, le, po, sg)) := do_digit (v := a) h d2 X pd se st sc le po sg
    show loopF _ (N + (p + 2 - p)) _ = _
    rw [Nat.add_sub_cancel_left]
    exact (loopF_go s1).trans (loopF_go s2)
theorem do_point {n p : Nat} {t : Nat → Nat} {c : Nat → Int32} (h : txC n t c) {w : Nat × Nat × Nat} (hw : ptM t n p = .inl w) (N : Nat) (X pd : Int32) (se st sc le po sg : Nat → Int32) :
    loopF (doB n se c) (N + (w.2.2 - p)) (X, 0, nI p, pd, st, sc, le, po, sg) = loopF (doB n se c) N (nI w.1, nI w.2.1, nI w.2.2, pd, st, sc, le, po, sg) := by
  unfold ptM at hw
  cases h1 : numM t n p with
  | none => rw [h1] at hw; cases hw
  | some a =>
    rw [h1] at hw
    dsimp only at hw
    by_cases q : a.2 < n ∧ t a.2 = 44
    · rw [if_pos q] at hw
      cases h2 : numM t n (a.2 + 1) with
      | none => rw [h2] at hw; cases hw
      | some b =>
        rw [h2] at hw
        cases hw
        have qa := num_le h1
        have qb := num_le h2
        have hnd : dgM t n a.2 = none := by unfold dgM; rw [if_neg (by omega)]
        have s1 : doB n se c (X, nI a.1, nI a.2, pd, st, sc, le, po, sg) = some (.inl (nI a.1, 0, nI (a.2 + 1), pd, st, sc, le, po, sg)) := by
          show fX5_drawOn_L7 (nI n) se c X (nI a.1) (nI a.2) pd st sc le po sg = _
          rw [do_other h q.1 hnd, q.2, if_pos (show nI 44 = (44 : Int32) from rfl), if_neg (show ¬ nI 44 = (47 : Int32) by decide), nI_1]
        show loopF _ (N + (b.2 - p)) _ = loopF _ N (nI a.1, nI b.1, nI b.2, _)
        rw [show N + (b.2 - p) = (N + (b.2 - (a.2 + 1)) + 1) + (a.2 - p) by omega, do_num h h1, loopF_go s1, do_num h h2]
    · rw [if_neg q] at hw; cases hw
/-- THE CLASS DRAWS, its loop -/
theorem cdraw_loop {n : Nat} {t : Nat → Nat} {c : Nat → Int32} (h : txC n t c) {sm : Int32} {na se ou : Nat → Int32} : ∀ (f k m p N : Nat) (r : Nat → Nat) (X pd : Int32) (st le po sc sg : Nat → Int32), (prs t n f k m p).2 = none → p ≤ n → n - p + 2 < N → rI r → CS r sm pd st le po sc sg na se ou → cnt r k m →
    ∃ e, loopF (doB n se c) N (X, 0, nI p, pd, st, sc, le, po, sg) = some e ∧
      ((∃ pd' st' sc' le' po' sg', e = Sum.inr (pd', st', sc', le', po', sg') ∧ (sigM (dR r (prs t n f k m p).1) 0 (r 77)).length ≤ 40 ∧ rI (dR r (prs t n f k m p).1) ∧ CS (dR r (prs t n f k m p).1) sm pd' st' le' po' sc' sg' na se ou) ∨
       (∃ x, e = Sum.inl x ∧ ¬ (sigM (dR r (prs t n f k m p).1) 0 (r 77)).length ≤ 40)) := by
  have hn := h.1
  intro f
  induction f with
  | zero => intro k m p N r X pd st le po sc sg hz; cases hz
  | succ f ih =>
    intro k m p N r X pd st le po sc sg hz hp hN hI hC hc
    have hz0 := hz
    unfold prs at hz ⊢
    cases hpt : ptM t n p with
    | inr e => rw [hpt] at hz; cases hz
    | inl w =>
      rw [hpt] at hz
      dsimp only at hz ⊢
      obtain ⟨w1, w2, w3, w4⟩ := pt_le hpt
      have hlc := cnt_C hc
      obtain ⟨g1, g2, -⟩ := lay_factsW hI.w hlc
      have hs := lay_shapeW hI.w hlc w1 w2
      have e77 : ∀ b, lftR b (layR r w.1 w.2.1) 77 = r 77 := fun b => by rw [lft_o _ _ (by omega)]; exact lay_hi g1 g2 _ _ (by omega)
      obtain ⟨M, rfl⟩ : ∃ M, N = (M + 1) + (w.2.2 - p) := ⟨N - (w.2.2 - p) - 1, by omega⟩
      rw [do_point h hpt]
      have hop := cadd_ok hI hC w1 w2
      have hno : layOk r w.1 w.2.1 = false → ¬ (sigM (layR r w.1 w.2.1) 0 (r 77)).length ≤ 40 := by
        intro z y
        unfold layOk at z
        rw [hlc, decide_eq_true y] at z
        exact absurd z (by decide)
      by_cases q1 : w.2.2 < n ∧ t w.2.2 = 45 ∧ m < 12
      · rw [if_pos q1] at hz ⊢
        dsimp only at hz ⊢
        have hnd : dgM t n w.2.2 = none := by unfold dgM; rw [if_neg (by omega)]
        have hmono := (dR_ok f k (m + 1) (w.2.2 + 1) _ hz (wI_lay hI.w hlc w1 w2 false) (cnt_dash hc q1.2.2 w.1 w.2.1)).1
        rw [e77, lft_sig _ hs] at hmono
        rcases hop with ⟨ho, st1, sc1, le1, po1, sg1, ea, c1⟩ | ⟨ho, ea⟩
        · have s1 : doB n se c (nI w.1, nI w.2.1, nI w.2.2, pd, st, sc, le, po, sg) = some (.inl (nI w.1, 0, nI (w.2.2 + 1), 1, st1, sc1, le1, po1, sg1)) := by
            show fX5_drawOn_L7 (nI n) se c (nI w.1) (nI w.2.1) (nI w.2.2) pd st sc le po sg = _
            rw [do_other h q1.1 hnd, q1.2.1, if_neg (show ¬ nI 45 = (44 : Int32) by decide), ea, b7_so, if_neg (show ¬ (1 : Int32) = 0 by decide), if_neg (show ¬ nI 45 = (47 : Int32) by decide), nI_1]
          rw [loopF_go s1]
          have := ih k (m + 1) (w.2.2 + 1) M (lftR false (layR r w.1 w.2.1)) (nI w.1) 1 st1 le1 po1 sc1 sg1 hz (by omega) (by omega) (rI_lay hI w1 w2 ho) c1 (cnt_dash hc q1.2.2 w.1 w.2.1)
          rw [e77] at this
          exact this
        · have s1 : doB n se c (nI w.1, nI w.2.1, nI w.2.2, pd, st, sc, le, po, sg) = some (.inr (.inl (pd, st, sc, le, po, sg))) := by
            show fX5_drawOn_L7 (nI n) se c (nI w.1) (nI w.2.1) (nI w.2.2) pd st sc le po sg = _
            rw [do_other h q1.1 hnd, q1.2.1, if_neg (show ¬ nI 45 = (44 : Int32) by decide), ea, b7_so, if_pos rfl]
          have hno := hno ho
          exact ⟨_, loopF_out s1, Or.inr ⟨_, rfl, fun z => hno (Nat.le_trans hmono z)⟩⟩
      · rw [if_neg q1] at hz ⊢
        by_cases q2 : w.2.2 < n ∧ t w.2.2 = 47 ∧ k < 3
        · rw [if_pos q2] at hz ⊢
          dsimp only at hz ⊢
          have hnd : dgM t n w.2.2 = none := by unfold dgM; rw [if_neg (by omega)]
          have hc2 := cnt_slash hI.w hc q2.2.2 w1 w2
          have hmono := (dR_ok f (k + 1) 1 (w.2.2 + 1) _ hz (wI_lay hI.w hlc w1 w2 true) hc2).1
          rw [e77, lft_sig _ hs] at hmono
          rcases hop with ⟨ho, st1, sc1, le1, po1, sg1, ea, c1⟩ | ⟨ho, ea⟩
          · have s1 : doB n se c (nI w.1, nI w.2.1, nI w.2.2, pd, st, sc, le, po, sg) = some (.inl (nI w.1, 0, nI (w.2.2 + 1), 0, st1, sc1, le1, po1, sg1)) := by
              show fX5_drawOn_L7 (nI n) se c (nI w.1) (nI w.2.1) (nI w.2.2) pd st sc le po sg = _
              rw [do_other h q2.1 hnd, q2.2.1, if_neg (show ¬ nI 47 = (44 : Int32) by decide), ea, b7_so, if_neg (show ¬ (1 : Int32) = 0 by decide), if_pos (show nI 47 = (47 : Int32) from rfl), nI_1]; rfl
            rw [loopF_go s1]
            have hI2 := rI_lay hI w1 w2 ho
            have := ih (k + 1) 1 (w.2.2 + 1) M (lftR true (layR r w.1 w.2.1)) (nI w.1) 0 st1 le1 po1 sc1 sg1 hz (by omega) (by omega) (rI_lift hI2) (CS_lift hI2 c1) hc2
            rw [e77] at this
            exact this
          · have s1 : doB n se c (nI w.1, nI w.2.1, nI w.2.2, pd, st, sc, le, po, sg) = some (.inr (.inl (pd, st, sc, le, po, sg))) := by
              show fX5_drawOn_L7 (nI n) se c (nI w.1) (nI w.2.1) (nI w.2.2) pd st sc le po sg = _
              rw [do_other h q2.1 hnd, q2.2.1, if_neg (show ¬ nI 47 = (44 : Int32) by decide), ea, b7_so, if_pos rfl]
            have hno := hno ho
            exact ⟨_, loopF_out s1, Or.inr ⟨_, rfl, fun z => hno (Nat.le_trans hmono z)⟩⟩
        · rw [if_neg q2] at hz ⊢
          dsimp only at hz ⊢
          have ew : w.2.2 = n := by
            by_cases y : w.2.2 < n
            · rw [if_pos y] at hz; cases hz
            · omega
          rw [ew] at *
          show ∃ e, _ ∧ ((∃ pd' st' sc' le' po' sg', e = _ ∧ (sigM (lftR true (layR r w.1 w.2.1)) 0 (r 77)).length ≤ 40 ∧ rI (lftR true (layR r w.1 w.2.1)) ∧ CS (lftR true (layR r w.1 w.2.1)) sm pd' st' le' po' sc' sg' na se ou) ∨ (∃ x, e = _ ∧ ¬ (sigM (lftR true (layR r w.1 w.2.1)) 0 (r 77)).length ≤ 40))
          rw [lft_sig _ hs]
          have h7 : ∀ A, fX5_drawOn_L7 (nI n) se c (nI w.1) (nI w.2.1) (nI n) pd st sc le po sg = A ↔ (b7 (fX4_addPoint (nI w.1) (nI w.2.1) pd st sc le po sg se) (fun r_5 v_p1_penDown_5 c_p1_figures_strokes_5 c_p1_figures_signCounts_5 c_p1_figures_lengths_5 c_p1_figures_points_5 c_p1_figures_signs_5 => (if r_5 = 0 then some (Sum.inr (Sum.inl (v_p1_penDown_5, c_p1_figures_strokes_5, c_p1_figures_signCounts_5, c_p1_figures_lengths_5, c_p1_figures_points_5, c_p1_figures_signs_5))) else some (Sum.inl (nI w.1, (0 : Int32), nI n + (1 : Int32), fX4_liftPen, c_p1_figures_strokes_5, c_p1_figures_signCounts_5, c_p1_figures_lengths_5, c_p1_figures_points_5, c_p1_figures_signs_5))))) = A := by
            intro A
            unfold fX5_drawOn_L7
            rw [if_neg (nI_nlt (Nat.le_refl _) (by omega)), if_pos (nI_le (Nat.le_refl _) (by omega))]
          rcases hop with ⟨ho, st1, sc1, le1, po1, sg1, ea, c1⟩ | ⟨ho, ea⟩
          · have s1 : doB n se c (nI w.1, nI w.2.1, nI n, pd, st, sc, le, po, sg) = some (.inl (nI w.1, 0, nI (n + 1), 0, st1, sc1, le1, po1, sg1)) := by
              show fX5_drawOn_L7 (nI n) se c (nI w.1) (nI w.2.1) (nI n) pd st sc le po sg = _
              rw [h7, ea, b7_so, if_neg (show ¬ (1 : Int32) = 0 by decide), nI_1]; rfl
            have s2 : doB n se c (nI w.1, 0, nI (n + 1), 0, st1, sc1, le1, po1, sg1) = some (.inr (.inr (0, st1, sc1, le1, po1, sg1))) := by
              show fX5_drawOn_L7 (nI n) se c (nI w.1) 0 (nI (n + 1)) 0 st1 sc1 le1 po1 sg1 = _
              unfold fX5_drawOn_L7
              rw [if_pos (nI_lt (by omega) (by omega))]
            obtain ⟨M, rfl⟩ : ∃ M', M = M' + 1 := ⟨M - 1, by omega⟩
            have hI2 := rI_lay hI w1 w2 ho
            have hl : (sigM (layR r w.1 w.2.1) 0 (r 77)).length ≤ 40 := by
              unfold layOk at ho
              rw [Bool.and_eq_true] at ho
              exact of_decide_eq_true ho.2
            exact ⟨_, (loopF_go s1).trans (loopF_out s2), Or.inl ⟨_, _, _, _, _, _, rfl, hl, rI_lift hI2, CS_lift hI2 c1⟩⟩
          · have s1 : doB n se c (nI w.1, nI w.2.1, nI n, pd, st, sc, le, po, sg) = some (.inr (.inl (pd, st, sc, le, po, sg))) := by
              show fX5_drawOn_L7 (nI n) se c (nI w.1) (nI w.2.1) (nI n) pd st sc le po sg = _
              rw [h7, ea, b7_so, if_pos rfl]
            exact ⟨_, loopF_out s1, Or.inr ⟨_, rfl, hno ho⟩⟩
/-- the row of the text's figure at hand -/
def txR (t : Nat → Nat) (n : Nat) (r : Nat → Nat) : Nat → Nat := dR (clhR r) (prs t n (n + 1) 1 1 0).1
/-- THE CLASS DRAWS on a state with no figure at hand -/
theorem cdraw_ok {n : Nat} {t : Nat → Nat} {c : Nat → Int32} (h : txC n t c) (hv : (prs t n (n + 1) 1 1 0).2 = none) {r : Nat → Nat} {sm pd : Int32} {st le po sc sg na se ou : Nat → Int32} (hI : rI r) (hC : CS (clhR r) sm pd st le po sc sg na se ou) :
    ((sigM (txR t n r) 0 (r 77)).length ≤ 40 ∧ ∃ pd' st' sc' le' po' sg', fX5_drawOn (nI n) pd st sc le po sg se c = some (1, pd', st', sc', le', po', sg') ∧ rI (txR t n r) ∧ CS (txR t n r) sm pd' st' le' po' sc' sg' na se ou) ∨
    (¬ (sigM (txR t n r) 0 (r 77)).length ≤ 40 ∧ ∃ pd' st' sc' le' po' sg', fX5_drawOn (nI n) pd st sc le po sg se c = some (0, pd', st', sc', le', po', sg')) := by
  have hn := h.1
  obtain ⟨e, g1, g2⟩ := cdraw_loop h (n + 1) 1 1 0 FUEL (clhR r) 0 pd st le po sc sg hv (Nat.zero_le _) (by unfold FUEL; omega) (rI_clh hI) hC (cnt_clh r)
  unfold fX5_drawOn
  have g1 : loopF (fun (z : Int32 × Int32 × Int32 × Int32 × (Nat → Int32) × (Nat → Int32) × (Nat → Int32) × (Nat → Int32) × (Nat → Int32)) => fX5_drawOn_L7 (nI n) se c z.1 z.2.1 z.2.2.1 z.2.2.2.1 z.2.2.2.2.1 z.2.2.2.2.2.1 z.2.2.2.2.2.2.1 z.2.2.2.2.2.2.2.1 z.2.2.2.2.2.2.2.2) FUEL ((0 : Int32), (0 : Int32), (0 : Int32), pd, st, sc, le, po, sg) = some e := g1
  rw [g1, b1_so]
  rcases g2 with ⟨pd', st', sc', le', po', sg', rfl, a1, a2, a3⟩ | ⟨x, rfl, a1⟩
  · exact Or.inl ⟨a1, pd', st', sc', le', po', sg', rfl, a2, a3⟩
  · exact Or.inr ⟨a1, x.1, x.2.1, x.2.2.1, x.2.2.2.1, x.2.2.2.2.1, x.2.2.2.2.2, rfl⟩
end XPURE25
