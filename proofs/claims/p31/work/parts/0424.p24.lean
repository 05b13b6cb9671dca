/-! PURE, 24: the class reads a text -/
section XPURE24
theorem ch_nI {n i v : Nat} {t : Nat → Nat} {c : Nat → Int32} (h : txC n t c) (hi : i < n) (hv : v ≤ 255) : nI (t i) = nI v ↔ t i = v := by
  obtain ⟨-, g⟩ := h.2 i hi
  exact nI_eq (by omega) (by omega)
theorem tcell {n i : Nat} {t : Nat → Nat} {c : Nat → Int32} (h : txC n t c) (hi : i < n) : xcell (nI i) 100 c = nI (t i) := by
  have hn := h.1
  rw [xcell_in c (by omega) (by omega)]; exact (h.2 i hi).1
theorem fe_digit {n i a v : Nat} {t : Nat → Nat} {c : Nat → Int32} (h : txC n t c) (hd : dgM t n i = some a) (hv : v ≤ 60) (x1 x2 x3 x5 : Int32) :
    fX5_firstError_L15 (nI n) c x1 x2 x3 (nI v) x5 (nI i) = (if x3 = 0 then some (Sum.inl (x1, x2, x3 + (1 : Int32), nI (10 * v + a), x5, nI (i + 1))) else (if 0 < v ∧ 10 * v + a ≤ 60 then some (Sum.inl (x1, x2, x3 + (1 : Int32), nI (10 * v + a), x5, nI (i + 1))) else some (Sum.inr (Sum.inl (nI i))))) := by
  obtain ⟨hi, h1, h2, rfl⟩ := dg_some hd
  have hn := h.1
  have e1 : nI v * (10 : Int32) + nI (t i) - (48 : Int32) = nI (10 * v + (t i - 48)) := by
    rw [show (10 : Int32) = nI 10 from rfl, show (48 : Int32) = nI 48 from rfl, pk_mul, nI_add, pk_sub (by omega)]; congr 1; omega
  have e2 : nI (t i) - (48 : Int32) = nI (t i - 48) := by rw [show (48 : Int32) = nI 48 from rfl, pk_sub h1]
  have e3 : nI v * (10 : Int32) + nI (t i - 48) = nI (10 * v + (t i - 48)) := by
    rw [show (10 : Int32) = nI 10 from rfl, pk_mul, nI_add]; congr 1; omega
  unfold fX5_firstError_L15
  rw [if_neg (nI_ge hi (by omega)), tcell h hi, if_neg (show ¬ nI (t i) < (48 : Int32) from nI_nlt (b := 48) h1 (by omega)), if_neg (show ¬ (57 : Int32) < nI (t i) from nI_nlt (a := 57) h2 (by omega)), e1, b1_so, nI_1, e2]
  by_cases q : x3 = 0
  · rw [if_pos q, if_pos q]
  · rw [if_neg q, if_neg q]
    unfold fX5_goesOn
    rw [e3]
    by_cases y : 0 < v
    · rw [if_neg (nI_nle y (by omega))]
      by_cases z : 10 * v + (t i - 48) ≤ 60
      · rw [if_neg (show ¬ (60 : Int32) < nI _ from nI_nlt (a := 60) z (by omega)), if_neg (show ¬ (1 : Int32) = 0 from by decide), if_pos ⟨y, z⟩]
      · rw [if_pos (show (60 : Int32) < nI _ from nI_lt (a := 60) (by omega) (by omega)), if_pos rfl, if_neg (fun w => z w.2)]
    · rw [if_pos (show nI v ≤ 0 by rw [show v = 0 by omega]; decide), if_pos rfl, if_neg (fun w => y w.1)]
theorem fe_other {n i : Nat} {t : Nat → Nat} {c : Nat → Int32} (h : txC n t c) (hi : i < n) (hd : dgM t n i = none) (x1 x2 x3 x4 x5 : Int32) :
    fX5_firstError_L15 (nI n) c x1 x2 x3 x4 x5 (nI i) = (if x3 = 0 then some (Sum.inr (Sum.inl (nI i))) else (if x5 = 0 then (if (nI (t i)) = (45 : Int32) then (if (12 : Int32) ≤ x2 then (if (nI (t i)) = (47 : Int32) then (if (3 : Int32) ≤ x1 then some (Sum.inr (Sum.inr (Sum.inl (nI i)))) else some (Sum.inl (x1 + (1 : Int32), (1 : Int32), (0 : Int32), (0 : Int32), (1 : Int32), (nI i) + (1 : Int32)))) else some (Sum.inr (Sum.inr (Sum.inl (nI i))))) else some (Sum.inl (x1, x2 + (1 : Int32), (0 : Int32), (0 : Int32), (1 : Int32), (nI i) + (1 : Int32)))) else (if (nI (t i)) = (47 : Int32) then (if (3 : Int32) ≤ x1 then some (Sum.inr (Sum.inr (Sum.inl (nI i)))) else some (Sum.inl (x1 + (1 : Int32), (1 : Int32), (0 : Int32), (0 : Int32), (1 : Int32), (nI i) + (1 : Int32)))) else some (Sum.inr (Sum.inr (Sum.inl (nI i)))))) else (if (nI (t i)) = (44 : Int32) then some (Sum.inl (x1, x2, (0 : Int32), (0 : Int32), (0 : Int32), (nI i) + (1 : Int32))) else some (Sum.inr (Sum.inr (Sum.inl (nI i))))))) := by
  have hn := h.1
  obtain ⟨-, g⟩ := h.2 i hi
  unfold fX5_firstError_L15
  rw [if_neg (nI_ge hi (by omega)), tcell h hi]
  rcases dg_none hd hi with q | q
  · rw [if_pos (show nI (t i) < (48 : Int32) from nI_lt (b := 48) q (by omega))]
  · rw [if_neg (show ¬ nI (t i) < (48 : Int32) from nI_nlt (b := 48) (by omega) (by omega)), if_pos (show (57 : Int32) < nI (t i) from nI_lt (a := 57) q (by omega))]
theorem fe_end {n : Nat} (hn : n ≤ 100) (c : Nat → Int32) (x1 x2 x3 x4 x5 : Int32) : fX5_firstError_L15 (nI n) c x1 x2 x3 x4 x5 (nI n) = some (Sum.inr (Sum.inr (Sum.inr (x3, x5)))) := by
  unfold fX5_firstError_L15
  rw [if_pos (nI_le (Nat.le_refl _) (by omega))]
def feB (n : Nat) (c : Nat → Int32) : Int32 × Int32 × Int32 × Int32 × Int32 × Int32 → Option ((Int32 × Int32 × Int32 × Int32 × Int32 × Int32) ⊕ ((Int32) ⊕ (Int32) ⊕ (Int32 × Int32))) := fun z => fX5_firstError_L15 (nI n) c z.1 z.2.1 z.2.2.1 z.2.2.2.1 z.2.2.2.2.1 z.2.2.2.2.2
def feK (n : Nat) (e9 : (Int32) ⊕ (Int32) ⊕ (Int32 × Int32)) : Option Int32 := Sum.elim (fun y6_44 => some y6_44) (Sum.elim (fun y6_45 => some y6_45) (u2 (fun y3_46 y5_46 => (if y5_46 = 0 then (if y3_46 = 0 then some (nI n) else some (-1 : Int32)) else some (nI n))))) e9
def feV (n : Nat) (c : Nat → Int32) (N : Nat) (s : Int32 × Int32 × Int32 × Int32 × Int32 × Int32) (v : Int32) : Prop := ∃ e9, loopF (feB n c) N s = some e9 ∧ feK n e9 = some v
theorem feV_go {n : Nat} {c : Nat → Int32} {N : Nat} {s s' : Int32 × Int32 × Int32 × Int32 × Int32 × Int32} {v : Int32} (h : feB n c s = some (.inl s')) (h2 : feV n c N s' v) : feV n c (N + 1) s v := by
  obtain ⟨e9, g1, g2⟩ := h2
  exact ⟨e9, (loopF_go h).trans g1, g2⟩
theorem feV_out {n : Nat} {c : Nat → Int32} {N : Nat} {s : Int32 × Int32 × Int32 × Int32 × Int32 × Int32} {e} {v : Int32} (h : feB n c s = some (.inr e)) (h2 : feK n e = some v) : feV n c (N + 1) s v := ⟨e, loopF_out h, h2⟩
/-- a number is read, or not -/
theorem fe_num {n p : Nat} {t : Nat → Nat} {c : Nat → Int32} (h : txC n t c) (hp : p ≤ n) (x1 x2 x5 : Int32) :
    (numM t n p = none ∧ ∀ N, feV n c (N + 1) (x1, x2, 0, 0, x5, nI p) (nI p)) ∨
    (∃ q dg, numM t n p = some q ∧ dg ≠ 0 ∧ (∀ w, dgM t n q.2 = some w → ¬ (0 < q.1 ∧ 10 * q.1 + w ≤ 60)) ∧ ∀ N v, feV n c N (x1, x2, dg, nI q.1, x5, nI q.2) v → feV n c (N + (q.2 - p)) (x1, x2, 0, 0, x5, nI p) v) := by
  have hn := h.1
  rcases num_cases t n p with ⟨e, d⟩ | ⟨v, e, d, hb⟩ | ⟨a, b, e, d, d2, h1, h2⟩
  · left
    refine ⟨e, fun N => ?_⟩
    by_cases q : p < n
    · refine feV_out (e := Sum.inl (nI p)) ?_ rfl
      show fX5_firstError_L15 (nI n) c x1 x2 0 0 x5 (nI p) = _
      rw [fe_other h q d, if_pos rfl]
    · obtain rfl : p = n := by omega
      refine feV_out (e := Sum.inr (Sum.inr (0, x5))) (fe_end hn c _ _ _ _ _) ?_
      show (if x5 = 0 then (if (0 : Int32) = 0 then some (nI p) else some (-1 : Int32)) else some (nI p)) = _
      rw [if_pos rfl]
      split <;> rfl
  · right
    have s1 : feB n c (x1, x2, 0, 0, x5, nI p) = some (.inl (x1, x2, 1, nI v, x5, nI (p + 1))) := by
      show fX5_firstError_L15 (nI n) c x1 x2 0 (nI 0) x5 (nI p) = _
      rw [fe_digit h d (by omega), if_pos rfl, Nat.mul_zero, Nat.zero_add]; rfl
    refine ⟨(v, p + 1), 1, e, by decide, hb, fun N v2 g => ?_⟩
    show feV n c (N + (p + 1 - p)) _ v2
    rw [Nat.add_sub_cancel_left]
    exact feV_go s1 g
  · right
    have a9 := dg_some d
    have s1 : feB n c (x1, x2, 0, 0, x5, nI p) = some (.inl (x1, x2, 1, nI a, x5, nI (p + 1))) := by
      show fX5_firstError_L15 (nI n) c x1 x2 0 (nI 0) x5 (nI p) = _
      rw [fe_digit h d (by omega), if_pos rfl, Nat.mul_zero, Nat.zero_add]; rfl
    have s2 : feB n c (x1, x2, 1, nI a, x5, nI (p + 1)) = some (.inl (x1, x2, 2, nI (10 * a + b), x5, nI (p + 2))) := by
      show fX5_firstError_L15 (nI n) c x1 x2 1 (nI a) x5 (nI (p + 1)) = _
      rw [fe_digit h d2 (by omega), if_neg (show ¬ (1 : Int32) = 0 from by decide), if_pos ⟨h1, h2⟩]; rfl
    refine ⟨(10 * a + b, p + 2), 2, e, by decide, fun w hw z => by
      have z2 : 10 * (10 * a + b) + w ≤ 60 := z.2
      omega, fun N v2 g => ?_⟩
    show feV n c (N + (p + 2 - p)) _ v2
    rw [Nat.add_sub_cancel_left]
    exact feV_go s1 (feV_go s2 g)
/-- a point is read, or not -/
theorem fe_point {n p k m : Nat} {t : Nat → Nat} {c : Nat → Int32} (h : txC n t c) (hp : p ≤ n) :
    (∃ e, ptM t n p = .inr e ∧ ∀ N, feV n c (N + 10) (nI k, nI m, 0, 0, 1, nI p) (nI e)) ∨
    (∃ w dg, ptM t n p = .inl w ∧ dg ≠ 0 ∧ (∀ u, dgM t n w.2.2 = some u → ¬ (0 < w.2.1 ∧ 10 * w.2.1 + u ≤ 60)) ∧ w.2.1 ≤ 60 ∧ ∀ N v, feV n c N (nI k, nI m, dg, nI w.2.1, 0, nI w.2.2) v → ∃ K, K ≤ 5 ∧ feV n c (N + K) (nI k, nI m, 0, 0, 1, nI p) v) := by
  have hn := h.1
  unfold ptM
  rcases fe_num h hp (nI k) (nI m) 1 with ⟨e, g⟩ | ⟨a, dg, e, hdg, hb, g⟩
  · left
    rw [e]
    exact ⟨p, rfl, fun N => g (N + 9)⟩
  · have qa := num_le e
    rw [e]
    dsimp only
    by_cases q : a.2 < n ∧ t a.2 = 44
    · rw [if_pos q]
      have hnd : dgM t n a.2 = none := by
        unfold dgM
        rw [if_neg (by omega)]
      have s1 : feB n c (nI k, nI m, dg, nI a.1, 1, nI a.2) = some (.inl (nI k, nI m, 0, 0, 0, nI (a.2 + 1))) := by
        show fX5_firstError_L15 (nI n) c (nI k) (nI m) dg (nI a.1) 1 (nI a.2) = _
        rw [fe_other h q.1 hnd, if_neg hdg, if_neg (show ¬ (1 : Int32) = 0 from by decide), q.2, if_pos (show nI 44 = (44 : Int32) from rfl), nI_1]
      rcases fe_num h (p := a.2 + 1) (by omega) (nI k) (nI m) 0 with ⟨e2, g2⟩ | ⟨b, dg2, e2, hdg2, hb2, g2⟩
      · left
        rw [e2]
        refine ⟨a.2 + 1, rfl, fun N => ?_⟩
        have := g _ _ (feV_go s1 (g2 (N + 8 - (a.2 - p))))
        rw [show N + 8 - (a.2 - p) + 1 + 1 + (a.2 - p) = N + 10 by omega] at this
        exact this
      · right
        have qb := num_le e2
        rw [e2]
        refine ⟨(a.1, b.1, b.2), dg2, rfl, hdg2, hb2, qb.1, fun N v gv => ?_⟩
        have := g _ _ (feV_go s1 (g2 _ _ gv))
        refine ⟨(b.2 - (a.2 + 1)) + 1 + (a.2 - p), by omega, ?_⟩
        rw [show N + ((b.2 - (a.2 + 1)) + 1 + (a.2 - p)) = N + (b.2 - (a.2 + 1)) + 1 + (a.2 - p) by omega]
        exact this
    · left
      rw [if_neg q]
      refine ⟨a.2, rfl, fun N => ?_⟩
      have fin : feV n c (N + 10 - (a.2 - p) - 1 + 1) (nI k, nI m, dg, nI a.1, 1, nI a.2) (nI a.2) := by
        by_cases y : a.2 < n
        · cases hdd : dgM t n a.2 with
          | none =>
            obtain ⟨-, gg⟩ := h.2 a.2 y
            refine feV_out (e := Sum.inr (Sum.inl (nI a.2))) ?_ rfl
            show fX5_firstError_L15 (nI n) c (nI k) (nI m) dg (nI a.1) 1 (nI a.2) = _
            rw [fe_other h y hdd, if_neg hdg, if_neg (show ¬ (1 : Int32) = 0 from by decide), if_neg (show ¬ nI (t a.2) = (44 : Int32) from fun (z : nI (t a.2) = nI 44) => q ⟨y, (ch_nI h y (by omega)).mp z⟩)]
          | some u =>
            refine feV_out (e := Sum.inl (nI a.2)) ?_ rfl
            show fX5_firstError_L15 (nI n) c (nI k) (nI m) dg (nI a.1) 1 (nI a.2) = _
            rw [fe_digit h hdd qa.1, if_neg hdg, if_neg (hb u hdd)]
        · have ea : a.2 = n := by omega
          rw [ea]
          exact feV_out (e := Sum.inr (Sum.inr (dg, 1))) (fe_end hn c _ _ _ _ _) rfl
      have := g _ _ fin
      rw [show N + 10 - (a.2 - p) - 1 + 1 + (a.2 - p) = N + 10 by omega] at this
      exact this
/-- THE CLASS'S FIRST ERROR, its loop -/
theorem ferr_loop {n : Nat} {t : Nat → Nat} {c : Nat → Int32} (h : txC n t c) : ∀ (f k m p N : Nat), p ≤ n → n - p < f → 10 * f + 10 ≤ N → k ≤ 3 → m ≤ 12 → feV n c N (nI k, nI m, 0, 0, 1, nI p) (rsI (prs t n f k m p).2) := by
  have hn := h.1
  intro f
  induction f with
  | zero => intro k m p N hp hf; omega
  | succ f ih =>
    intro k m p N hp hf hN hk hm
    unfold prs
    rcases fe_point (k := k) (m := m) h hp with ⟨e, ep, g⟩ | ⟨w, dg, ep, hdg, hb, wb, g⟩
    · rw [ep]
      have := g (N - 10)
      rw [show N - 10 + 10 = N by omega] at this
      exact this
    · obtain ⟨w1, w2, w3, w4⟩ := pt_le ep
      rw [ep]
      dsimp only
      have back : ∀ v, (∀ N2, 10 * f + 15 ≤ N2 → feV n c N2 (nI k, nI m, dg, nI w.2.1, 0, nI w.2.2) v) → feV n c N (nI k, nI m, 0, 0, 1, nI p) v := by
        intro v hv
        obtain ⟨K, hK, -⟩ := g (N - 5) v (hv _ (by omega))
        obtain ⟨K2, hK2, g2⟩ := g (N - 5) v (hv _ (by omega))
        have mono : ∀ A B s, A ≤ B → feV n c A s v → feV n c B s v := by
          intro A B s hAB
          rintro ⟨e9, a1, a2⟩
          refine ⟨e9, ?_, a2⟩
          clear hv g2 a2
          induction A generalizing B s with
          | zero => exact absurd a1 (fun z => loopF_zero z)
          | succ A ihA =>
            obtain ⟨B, rfl⟩ : ∃ M, B = M + 1 := ⟨B - 1, by omega⟩
            obtain ⟨x, hx, hx2⟩ := loopF_step a1
            rcases hx2 with ⟨s', rfl, hx2⟩ | rfl
            · rw [loopF_go hx]; exact ihA B s' (by omega) hx2
            · exact loopF_out hx
        exact mono _ _ _ (by omega) g2
      by_cases q1 : w.2.2 < n ∧ t w.2.2 = 45 ∧ m < 12
      · rw [if_pos q1]
        refine back _ (fun N2 hN2 => ?_)
        obtain ⟨N2, rfl⟩ : ∃ M, N2 = M + 1 := ⟨N2 - 1, by omega⟩
        have hnd : dgM t n w.2.2 = none := by unfold dgM; rw [if_neg (by omega)]
        refine feV_go (s' := (nI k, nI (m + 1), 0, 0, 1, nI (w.2.2 + 1))) ?_ (ih k (m + 1) (w.2.2 + 1) N2 (by omega) (by omega) (by omega) hk (by omega))
        show fX5_firstError_L15 (nI n) c (nI k) (nI m) dg (nI w.2.1) 0 (nI w.2.2) = _
        rw [fe_other h q1.1 hnd, if_neg hdg, if_pos rfl, q1.2.1, if_pos (show nI 45 = (45 : Int32) from rfl), if_neg (show ¬ (12 : Int32) ≤ nI m from nI_ge (b := 12) q1.2.2 (by omega)), nI_1, nI_1]
      · rw [if_neg q1]
        by_cases q2 : w.2.2 < n ∧ t w.2.2 = 47 ∧ k < 3
        · rw [if_pos q2]
          refine back _ (fun N2 hN2 => ?_)
          obtain ⟨N2, rfl⟩ : ∃ M, N2 = M + 1 := ⟨N2 - 1, by omega⟩
          have hnd : dgM t n w.2.2 = none := by unfold dgM; rw [if_neg (by omega)]
          refine feV_go (s' := (nI (k + 1), nI 1, 0, 0, 1, nI (w.2.2 + 1))) ?_ (ih (k + 1) 1 (w.2.2 + 1) N2 (by omega) (by omega) (by omega) (by omega) (by omega))
          show fX5_firstError_L15 (nI n) c (nI k) (nI m) dg (nI w.2.1) 0 (nI w.2.2) = _
          rw [fe_other h q2.1 hnd, if_neg hdg, if_pos rfl, q2.2.1, if_neg (show ¬ nI 47 = (45 : Int32) by decide), if_pos (show nI 47 = (47 : Int32) from rfl), if_neg (show ¬ (3 : Int32) ≤ nI k from nI_ge (b := 3) q2.2.2 (by omega)), nI_1, nI_1]; rfl
        · rw [if_neg q2]
          refine back _ (fun N2 hN2 => ?_)
          obtain ⟨N2, rfl⟩ : ∃ M, N2 = M + 1 := ⟨N2 - 1, by omega⟩
          by_cases y : w.2.2 < n
          · rw [if_pos y]
            cases hdd : dgM t n w.2.2 with
            | some u =>
              refine feV_out (e := Sum.inl (nI w.2.2)) ?_ rfl
              show fX5_firstError_L15 (nI n) c (nI k) (nI m) dg (nI w.2.1) 0 (nI w.2.2) = _
              rw [fe_digit h hdd wb, if_neg hdg, if_neg (hb u hdd)]
            | none =>
              refine feV_out (e := Sum.inr (Sum.inl (nI w.2.2))) ?_ rfl
              show fX5_firstError_L15 (nI n) c (nI k) (nI m) dg (nI w.2.1) 0 (nI w.2.2) = _
              rw [fe_other h y hdd, if_neg hdg, if_pos rfl]
              by_cases z1 : t w.2.2 = 45
              · rw [z1, if_pos (show nI 45 = (45 : Int32) from rfl), if_pos (show (12 : Int32) ≤ nI m from nI_le (a := 12) (by omega) (by omega)), if_neg (show ¬ nI 45 = (47 : Int32) by decide)]
              · rw [if_neg (show ¬ nI (t w.2.2) = (45 : Int32) from fun (z : nI (t w.2.2) = nI 45) => z1 ((ch_nI h y (by omega)).mp z))]
                by_cases z2 : t w.2.2 = 47
                · rw [z2, if_pos (show nI 47 = (47 : Int32) from rfl), if_pos (show (3 : Int32) ≤ nI k from nI_le (a := 3) (by omega) (by omega))]
                · rw [if_neg (show ¬ nI (t w.2.2) = (47 : Int32) from fun (z : nI (t w.2.2) = nI 47) => z2 ((ch_nI h y (by omega)).mp z))]
          · have ew : w.2.2 = n := by omega
            rw [if_neg y, ew]
            refine feV_out (e := Sum.inr (Sum.inr (dg, 0))) (fe_end hn c _ _ _ _ _) ?_
            show (if (0 : Int32) = 0 then (if dg = 0 then some (nI n) else some (-1 : Int32)) else some (nI n)) = _
            rw [if_pos rfl, if_neg hdg]; rfl
/-- THE CLASS'S FIRST ERROR -/
theorem ferr_ok {n : Nat} {t : Nat → Nat} {c : Nat → Int32} (h : txC n t c) : fX5_firstError (nI n) c = some (rsI (prs t n (n + 1) 1 1 0).2) := by
  have hn := h.1
  obtain ⟨e9, g1, g2⟩ := ferr_loop h (n + 1) 1 1 0 FUEL (Nat.zero_le _) (by omega) (by unfold FUEL; omega) (by omega) (by omega)
  unfold fX5_firstError
  have g1 : loopF (fun (z : Int32 × Int32 × Int32 × Int32 × Int32 × Int32) => fX5_firstError_L15 (nI n) c z.1 z.2.1 z.2.2.1 z.2.2.2.1 z.2.2.2.2.1 z.2.2.2.2.2) FUEL ((1 : Int32), (1 : Int32), (0 : Int32), (0 : Int32), (1 : Int32), (0 : Int32)) = some e9 := g1
  rw [g1, b1_so]
  exact g2
end XPURE24
