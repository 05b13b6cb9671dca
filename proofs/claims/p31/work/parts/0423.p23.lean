/-! PURE, 23: the points of a text, in rows -/
section XPURE23
/-- a row's shape without its signs' number -/
def wI (r : Nat → Nat) : Prop := shapeI r 0 ∧ (r 76 ≤ 1 ∧ (r 76 = 1 → 1 ≤ r 0))
theorem rI.w {r : Nat → Nat} (h : rI r) : wI r := ⟨h.hand.1, h.2.2.2.2.2.1⟩
theorem lay_factsW {r : Nat → Nat} (h : wI r) (hc : layC r = true) : layS r < 3 ∧ r (1 + layS r) < 12 ∧ ((r 76 = 0 ∧ r (1 + layS r) = 0 ∧ layS r = r 0) ∨ (r 76 = 1 ∧ 1 ≤ r (1 + layS r) ∧ layS r + 1 = r 0)) := by
  have h76 := h.2
  have hs := h.1
  have h3 := hs.1.1
  unfold layC at hc
  by_cases q : r 76 = 0
  · rw [if_pos q] at hc
    have hc := of_decide_eq_true hc
    have e : layS r = r 0 := if_pos q
    have z := (hs.2 (r 0) hc).2 (Nat.le_refl _)
    rw [Nat.zero_add] at z
    rw [e]
    exact ⟨hc, by omega, Or.inl ⟨q, z, rfl⟩⟩
  · rw [if_neg q] at hc
    have hc := of_decide_eq_true hc
    have e : layS r = r 0 - 1 := if_neg q
    have g := h76.2 (by omega)
    have z := (hs.2 (r 0 - 1) (by omega)).1 (by omega)
    rw [Nat.zero_add] at z
    rw [e] at hc ⊢
    exact ⟨by omega, hc, Or.inr ⟨by omega, z, by omega⟩⟩
theorem lay_sigW {r : Nat → Nat} (h : wI r) (hc : layC r = true) (x y : Nat) : sigM (layR r x y) 0 (r 77) = sigM r 0 (r 77) ++ layW r x y := by
  obtain ⟨h1, h2, h3⟩ := lay_factsW h hc
  have h12 := h.1.1.2.1
  have hst : sgM (layR r x y) 0 (r 77) (layS r) = sgM r 0 (r 77) (layS r) := sgM_eq _ (fun t ht => ⟨by rw [lay_len h1 h2 x y (by omega), if_neg (by omega)], fun i hi => lay_old h1 h2 x y (by omega) (by have := h12 t (by omega); omega) (Or.inl (by omega))⟩)
  have hsg : segM (layR r x y) 0 (r 77) (layS r) (r (1 + layS r)) = segM r 0 (r 77) (layS r) (r (1 + layS r)) := segM_eq (K := r (1 + layS r)) (fun i hi => lay_old h1 h2 x y h1 (by omega) (Or.inr (by omega))) _ (Nat.le_refl _)
  have e1 : sigM (layR r x y) 0 (r 77) = (sgM (layR r x y) 0 (r 77) (layS r) ++ (if layS r = 0 then [] else [4])) ++ segM (layR r x y) 0 (r 77) (layS r) (r (1 + layS r) + 1) := by
    unfold sigM
    rw [lay_0 h1 h2]
    show (_ ++ _) ++ segM _ _ _ _ (layR r x y (0 + 1 + layS r)) = _
    rw [lay_len h1 h2 x y h1, if_pos rfl]
  have e2 : segM (layR r x y) 0 (r 77) (layS r) (r (1 + layS r) + 1) = segM (layR r x y) 0 (r 77) (layS r) (r (1 + layS r)) ++ (if r (1 + layS r) = 0 then [] else crossM (pX (layR r x y) 0 (layS r) (r (1 + layS r) - 1)) (pY (layR r x y) 0 (layS r) (r (1 + layS r) - 1)) (pX (layR r x y) 0 (layS r) (r (1 + layS r))) (pY (layR r x y) 0 (layS r) (r (1 + layS r))) (r 77)) := rfl
  rw [e1, e2, hst, hsg]
  unfold layW
  rcases h3 with ⟨q1, q2, q3⟩ | ⟨q1, q2, q3⟩
  · rw [if_pos q1, if_pos q2, q2, q3]
    show (sgM r 0 (r 77) (r 0) ++ _) ++ ([] ++ []) = _
    rw [List.append_nil, List.append_nil]; rfl
  · rw [if_neg (show ¬ r (1 + layS r) = 0 by omega), if_neg (show ¬ r 76 = 0 by omega), (lay_old h1 h2 x y h1 (i := r (1 + layS r) - 1) (by omega) (Or.inr (by omega))).1, (lay_old h1 h2 x y h1 (i := r (1 + layS r) - 1) (by omega) (Or.inr (by omega))).2, (lay_new h1 h2 x y).1, (lay_new h1 h2 x y).2]
    unfold sigM
    rw [← q3]
    show _ = ((sgM r 0 (r 77) (layS r) ++ _) ++ segM r 0 (r 77) (layS r) (r (0 + 1 + layS r))) ++ _
    rw [Nat.zero_add, List.append_assoc, List.append_assoc, List.append_assoc]
theorem lay_shapeW {r : Nat → Nat} (h : wI r) (hc : layC r = true) {x y : Nat} (hx : x ≤ 60) (hy : y ≤ 60) : shapeI (layR r x y) 0 := by
  obtain ⟨h1, h2, h3⟩ := lay_factsW h hc
  have hs := h.1
  have hP := layP_le h1 h2
  refine ⟨⟨by rw [lay_0 h1 h2]; omega, fun t ht => ?_, fun j hj => ?_⟩, fun t ht => ?_⟩
  · have := hs.1.2.1 t ht
    rw [lay_len h1 h2 x y ht]
    split <;> omega
  · have := hs.1.2.2 j hj
    rw [layR_at]
    rw [if_neg (by omega), if_neg (by omega)]
    split
    · exact hy
    · split
      · exact hx
      · rw [if_neg (by omega)]; exact this
  · have g := hs.2 t ht
    rw [lay_len h1 h2 x y ht, lay_0 h1 h2]
    rcases h3 with ⟨q1, q2, q3⟩ | ⟨q1, q2, q3⟩
    · refine ⟨fun z => ?_, fun z => ?_⟩
      · split
        · omega
        · exact g.1 (by omega)
      · rw [if_neg (by omega)]; exact g.2 (by omega)
    · refine ⟨fun z => ?_, fun z => ?_⟩
      · split
        · omega
        · exact g.1 (by omega)
      · rw [if_neg (by omega)]; exact g.2 (by omega)

def lftR (b : Bool) (r : Nat → Nat) : Nat → Nat := if b = true then updN r 76 0 else r
def dR : (Nat → Nat) → List (Nat × Nat × Bool) → (Nat → Nat)
  | r, [] => r
  | r, a :: L => dR (lftR a.2.2 (layR r a.1 a.2.1)) L
def cnt (r : Nat → Nat) (k m : Nat) : Prop := layS r + 1 = k ∧ r (1 + layS r) + 1 = m ∧ k ≤ 3 ∧ m ≤ 12
theorem cnt_C {r : Nat → Nat} {k m : Nat} (h : cnt r k m) : layC r = true := by
  obtain ⟨h1, h2, h3, h4⟩ := h
  unfold layC
  by_cases q : r 76 = 0
  · have e : layS r = r 0 := if_pos q
    rw [if_pos q]
    exact decide_eq_true (by omega)
  · rw [if_neg q]
    exact decide_eq_true (by omega)
theorem lft_o (b : Bool) (r : Nat → Nat) {j : Nat} (h : j ≠ 76) : lftR b r j = r j := by
  unfold lftR
  split
  · exact updN_n h
  · rfl
theorem lftT (r : Nat → Nat) : lftR true r 76 = 0 := (updN_s : updN r 76 0 76 = 0)
theorem cnt_dash {r : Nat → Nat} {k m : Nat} (h : cnt r k m) (hm : m < 12) (x y : Nat) : cnt (lftR false (layR r x y)) k (m + 1) := by
  obtain ⟨h1, h2, h3, h4⟩ := h
  have e0 := lay_0 (r := r) (show layS r < 3 by omega) (show r (1 + layS r) < 12 by omega) x y
  have eS : layS (layR r x y) = layS r := by
    show (if layR r x y 76 = 0 then _ else _) = _
    rw [if_neg (by rw [show layR r x y 76 = 1 from rfl]; omega), e0]; omega
  have eL : layR r x y (1 + layS r) = r (1 + layS r) + 1 := by
    have := lay_len (r := r) (by omega) (show r (1 + layS r) < 12 by omega) x y (t := layS r) (by omega)
    rw [if_pos rfl, Nat.zero_add] at this; exact this
  show cnt (layR r x y) k (m + 1)
  exact ⟨by rw [eS]; exact h1, by rw [eS, eL]; omega, h3, by omega⟩
theorem cnt_slash {r : Nat → Nat} {k m : Nat} (hw : wI r) (h : cnt r k m) (hk : k < 3) {x y : Nat} (hx : x ≤ 60) (hy : y ≤ 60) : cnt (lftR true (layR r x y)) (k + 1) 1 := by
  have hc := cnt_C h
  obtain ⟨h1, h2, h3, h4⟩ := h
  have e0 := lay_0 (r := r) (show layS r < 3 by omega) (show r (1 + layS r) < 12 by omega) x y
  have hs := lay_shapeW hw hc hx hy
  have e : lftR true (layR r x y) = updN (layR r x y) 76 0 := rfl
  have eS : layS (lftR true (layR r x y)) = k := by
    rw [e]
    show (if updN (layR r x y) 76 0 76 = 0 then updN (layR r x y) 76 0 0 else _) = _
    rw [if_pos updN_s, updN_n (by omega), e0]; exact h1
  have z := (hs.2 k hk).2 (by omega)
  rw [Nat.zero_add] at z
  refine ⟨by rw [eS], ?_, by omega, by omega⟩
  rw [eS, lft_o _ _ (by omega), z]
theorem wI_lay {r : Nat → Nat} (h : wI r) (hc : layC r = true) {x y : Nat} (hx : x ≤ 60) (hy : y ≤ 60) (b : Bool) : wI (lftR b (layR r x y)) := by
  obtain ⟨h1, h2, -⟩ := lay_factsW h hc
  have hs := lay_shapeW h hc hx hy
  have hj : ∀ j, j < 76 → lftR b (layR r x y) (0 + j) = layR r x y (0 + j) := fun j hj => lft_o _ _ (by omega)
  refine ⟨shapeI_eq (figEq_of hj hs.1.2.1) (figOk_of hj hs.1) hs, ?_⟩
  cases b with
  | false =>
    have e76 : layR r x y 76 = 1 := rfl
    show layR r x y 76 ≤ 1 ∧ (layR r x y 76 = 1 → 1 ≤ layR r x y 0)
    rw [e76, lay_0 h1 h2]
    exact ⟨by omega, fun _ => by omega⟩
  | true =>
    have e76 : lftR true (layR r x y) 76 = 0 := lftT _
    rw [e76]
    exact ⟨by omega, fun z => by omega⟩
theorem lft_sig (b : Bool) {r : Nat → Nat} (hs : shapeI r 0) (d : Nat) : sigM (lftR b r) 0 d = sigM r 0 d := sigM_eq d (figEq_of (fun j hj => lft_o _ _ (by omega)) hs.1.2.1) hs.1.1
/-- the row behind all points: its shape, its signs grow -/
theorem dR_ok {n : Nat} {t : Nat → Nat} : ∀ (f k m p : Nat) (r : Nat → Nat), (prs t n f k m p).2 = none → wI r → cnt r k m →
    (sigM r 0 (r 77)).length ≤ (sigM (dR r (prs t n f k m p).1) 0 (r 77)).length ∧ wI (dR r (prs t n f k m p).1) ∧ (∀ j, 77 ≤ j → dR r (prs t n f k m p).1 j = r j) ∧ dR r (prs t n f k m p).1 76 = 0 := by
  intro f
  induction f with
  | zero => intro k m p r h; cases h
  | succ f ih =>
    intro k m p r h hw hc
    unfold prs at h ⊢
    cases hp : ptM t n p with
    | inr e => rw [hp] at h; cases h
    | inl w =>
      rw [hp] at h
      dsimp only at h ⊢
      obtain ⟨w1, w2, -, -⟩ := pt_le hp
      have hC := cnt_C hc
      obtain ⟨g1, g2, -⟩ := lay_factsW hw hC
      have hs := lay_shapeW hw hC w1 w2
      have hlen : (sigM r 0 (r 77)).length ≤ (sigM (layR r w.1 w.2.1) 0 (r 77)).length := by
        rw [lay_sigW hw hC, List.length_append]; omega
      have e77 : ∀ b, lftR b (layR r w.1 w.2.1) 77 = r 77 := fun b => by rw [lft_o _ _ (by omega)]; exact lay_hi g1 g2 _ _ (by omega)
      have ehi : ∀ b j, 77 ≤ j → lftR b (layR r w.1 w.2.1) j = r j := fun b j hj => by rw [lft_o _ _ (by omega)]; exact lay_hi g1 g2 _ _ hj
      by_cases q1 : w.2.2 < n ∧ t w.2.2 = 45 ∧ m < 12
      · rw [if_pos q1] at h ⊢
        obtain ⟨a1, a2, a3, a4⟩ := ih k (m + 1) (w.2.2 + 1) _ h (wI_lay hw hC w1 w2 false) (cnt_dash hc q1.2.2 w.1 w.2.1)
        rw [e77, lft_sig _ hs] at a1
        exact ⟨Nat.le_trans hlen a1, a2, fun j hj => (a3 j hj).trans (ehi _ j hj), a4⟩
      · rw [if_neg q1] at h ⊢
        by_cases q2 : w.2.2 < n ∧ t w.2.2 = 47 ∧ k < 3
        · rw [if_pos q2] at h ⊢
          obtain ⟨a1, a2, a3, a4⟩ := ih (k + 1) 1 (w.2.2 + 1) _ h (wI_lay hw hC w1 w2 true) (cnt_slash hw hc q2.2.2 w1 w2)
          rw [e77, lft_sig _ hs] at a1
          exact ⟨Nat.le_trans hlen a1, a2, fun j hj => (a3 j hj).trans (ehi _ j hj), a4⟩
        · rw [if_neg q2]
          show _ ≤ (sigM (lftR true (layR r w.1 w.2.1)) 0 (r 77)).length ∧ wI (lftR true (layR r w.1 w.2.1)) ∧ (∀ j, 77 ≤ j → lftR true (layR r w.1 w.2.1) j = r j) ∧ lftR true (layR r w.1 w.2.1) 76 = 0
          rw [lft_sig _ hs]
          exact ⟨hlen, wI_lay hw hC w1 w2 true, ehi true, lftT _⟩
/-- the model's row goes with it -/
def jR (r d : Nat → Nat) : Prop := d 0 = layS r + 1 ∧ (∀ s, s < 3 → strEq r 0 d 0 s) ∧ ∀ j, j < 72 → d (4 + j) ≤ 60
theorem ad_x {d : Nat → Nat} (h1 : 1 ≤ d 0) (h3 : d 0 ≤ 3) (h12 : d (d 0) < 12) (x y : Nat) {s i : Nat} (hs : s < 3) (hi : i < 12) : pX (adR d x y) 0 s i = (if s = d 0 - 1 ∧ i = d (d 0) then x else pX d 0 s i) ∧ pY (adR d x y) 0 s i = (if s = d 0 - 1 ∧ i = d (d 0) then y else pY d 0 s i) := by
  have at_ : ∀ j, adR d x y j = if j = d 0 then d (d 0) + 1 else if j = 4 + 24 * (d 0 - 1) + 2 * d (d 0) + 1 then y else if j = 4 + 24 * (d 0 - 1) + 2 * d (d 0) then x else d j := fun _ => rfl
  unfold pX pY
  rw [at_, at_]
  by_cases q : s = d 0 - 1 ∧ i = d (d 0)
  · rw [if_pos q, if_pos q]
    obtain ⟨rfl, rfl⟩ := q
    refine ⟨?_, ?_⟩
    · rw [if_neg (by omega), if_neg (by omega), if_pos (by omega)]
    · rw [if_neg (by omega), if_pos (by omega)]
  · rw [if_neg q, if_neg q]
    refine ⟨?_, ?_⟩
    · rw [if_neg (by omega), if_neg (by omega), if_neg (by omega)]
    · rw [if_neg (by omega), if_neg (by omega), if_neg (by omega)]
/-- behind a point -/
theorem jR_add {r d : Nat → Nat} {k m : Nat} (hw : wI r) (hc : cnt r k m) (hj : jR r d) {x y : Nat} (hx : x ≤ 60) (hy : y ≤ 60) : (∀ s, s < 3 → strEq (layR r x y) 0 (adR d x y) 0 s) ∧ adR d x y 0 = layR r x y 0 ∧ ∀ j, j < 72 → adR d x y (4 + j) ≤ 60 := by
  have hC := cnt_C hc
  obtain ⟨g1, g2, -⟩ := lay_factsW hw hC
  obtain ⟨j1, j2, j3⟩ := hj
  obtain ⟨c1, c2, c3, c4⟩ := hc
  have e0 := lay_0 g1 g2 x y
  have hl := hw.1.1.2.1
  have h1 : 1 ≤ d 0 := by omega
  have h3 : d 0 ≤ 3 := by omega
  have hd : d (d 0) = r (1 + layS r) := by
    have := (j2 (layS r) g1).1
    rw [Nat.zero_add] at this
    rw [j1, Nat.add_comm (layS r) 1]; exact this
  refine ⟨fun s hs => ⟨?_, fun i hi => ?_⟩, by rw [adR_0 h1 h3, j1, e0], fun j hj => ?_⟩
  · rw [lay_len g1 g2 x y hs, Nat.zero_add]
    by_cases q : s = layS r
    · rw [if_pos q, show 1 + s = d 0 by omega, adR_l, hd]
    · rw [if_neg q, adR_o h1 x y (by omega) (by omega)]
      have := (j2 s hs).1
      rw [Nat.zero_add] at this; exact this
  · rw [lay_len g1 g2 x y hs] at hi
    have hls := hl s hs
    by_cases q : s = layS r
    · subst q
      rw [if_pos rfl] at hi
      obtain ⟨a1, a2⟩ := ad_x h1 h3 (by omega) x y (s := layS r) (i := i) hs (by omega)
      rw [a1, a2]
      by_cases y2 : i = r (1 + layS r)
      · rw [if_pos ⟨by omega, by omega⟩, if_pos ⟨by omega, by omega⟩, y2, (lay_new g1 g2 x y).1, (lay_new g1 g2 x y).2]
        exact ⟨rfl, rfl⟩
      · obtain ⟨b1, b2⟩ := lay_old g1 g2 x y hs (i := i) (by omega) (Or.inr y2)
        rw [if_neg (by omega), if_neg (by omega), b1, b2]
        exact (j2 _ hs).2 i (by rw [Nat.zero_add]; omega)
    · rw [if_neg q] at hi
      obtain ⟨a1, a2⟩ := ad_x h1 h3 (by omega) x y (s := s) (i := i) hs (by omega)
      obtain ⟨b1, b2⟩ := lay_old g1 g2 x y hs (i := i) (by omega) (Or.inl q)
      rw [a1, a2, if_neg (by omega), if_neg (by omega), b1, b2]
      exact (j2 s hs).2 i hi
  · have := j3 j hj
    unfold adR updN
    rw [if_neg (by omega)]
    split
    · exact hy
    · split
      · exact hx
      · exact this
theorem drR_ok {n : Nat} {t : Nat → Nat} : ∀ (f k m p : Nat) (r d : Nat → Nat), (prs t n f k m p).2 = none → wI r → cnt r k m → jR r d →
    figEq (dR r (prs t n f k m p).1) 0 (drR d (prs t n f k m p).1) 0 ∧ ∀ j, j < 72 → drR d (prs t n f k m p).1 (4 + j) ≤ 60 := by
  intro f
  induction f with
  | zero => intro k m p r d h; cases h
  | succ f ih =>
    intro k m p r d h hw hc hj
    unfold prs at h ⊢
    cases hp : ptM t n p with
    | inr e => rw [hp] at h; cases h
    | inl w =>
      rw [hp] at h
      dsimp only at h ⊢
      obtain ⟨w1, w2, -, -⟩ := pt_le hp
      have hC := cnt_C hc
      obtain ⟨g1, g2, -⟩ := lay_factsW hw hC
      have e0 := lay_0 g1 g2 w.1 w.2.1
      obtain ⟨a1, a2, a3⟩ := jR_add hw hc hj w1 w2
      have hlo : ∀ b s, s < 3 → strEq (lftR b (layR r w.1 w.2.1)) 0 (adR d w.1 w.2.1) 0 s := by
        intro b s hs
        have hls := (lay_shapeW hw hC w1 w2).1.2.1 s hs
        refine ⟨by rw [lft_o _ _ (by omega)]; exact (a1 s hs).1, fun i hi => ?_⟩
        rw [lft_o _ _ (by omega)] at hi
        obtain ⟨b1, b2⟩ := (a1 s hs).2 i hi
        unfold pX at b1 ⊢
        unfold pY at b2 ⊢
        rw [lft_o _ _ (by omega), lft_o _ _ (by omega)]
        exact ⟨b1, b2⟩
      by_cases q1 : w.2.2 < n ∧ t w.2.2 = 45 ∧ m < 12
      · rw [if_pos q1] at h ⊢
        dsimp only at h ⊢
        rw [drR_cons _ _ (prs_ne h)]
        have hc2 := cnt_dash hc q1.2.2 w.1 w.2.1
        have hjr : jR (lftR false (layR r w.1 w.2.1)) (adR d w.1 w.2.1) := ⟨by
          have s1 := hc2.1
          have s2 := hc.1
          rw [a2, e0]; omega, fun s hs => hlo false s hs, a3⟩
        exact ih k (m + 1) (w.2.2 + 1) _ _ h (wI_lay hw hC w1 w2 false) hc2 hjr
      · rw [if_neg q1] at h ⊢
        by_cases q2 : w.2.2 < n ∧ t w.2.2 = 47 ∧ k < 3
        · rw [if_pos q2] at h ⊢
          dsimp only at h ⊢
          rw [drR_cons _ _ (prs_ne h), if_pos rfl]
          have hc2 := cnt_slash hw hc q2.2.2 w1 w2
          have hjr : jR (lftR true (layR r w.1 w.2.1)) (updN (adR d w.1 w.2.1) 0 (d 0 + 1)) := ⟨by
            have s1 := hc2.1
            have s2 := hc.1
            have s3 := hj.1
            rw [updN_s]; omega, fun s hs => by
            obtain ⟨b1, b2⟩ := hlo true s hs
            refine ⟨by rw [updN_n (by omega)]; exact b1, fun i hi => ?_⟩
            obtain ⟨b3, b4⟩ := b2 i hi
            unfold pX at b3 ⊢
            unfold pY at b4 ⊢
            rw [updN_n (by omega), updN_n (by omega)]
            exact ⟨b3, b4⟩, fun j hj => by rw [updN_n (by omega)]; exact a3 j hj⟩
          exact ih (k + 1) 1 (w.2.2 + 1) _ _ h (wI_lay hw hC w1 w2 true) hc2 hjr
        · rw [if_neg q2]
          show figEq (lftR true (layR r w.1 w.2.1)) 0 (adR d w.1 w.2.1) 0 ∧ ∀ j, j < 72 → adR d w.1 w.2.1 (4 + j) ≤ 60
          exact ⟨⟨by rw [lft_o _ _ (by omega)]; exact a2, fun s hs => hlo true s hs⟩, a3⟩
theorem cnt_clh (r : Nat → Nat) : cnt (clhR r) 1 1 := ⟨rfl, rfl, by omega, by omega⟩
theorem jR_clh (r : Nat → Nat) : jR (clhR r) begR := ⟨rfl, fun s hs => by
  have e : clhR r (0 + 1 + s) = 0 := if_pos (by omega)
  refine ⟨by rw [e]; exact if_neg (by omega), fun i hi => ?_⟩
  rw [e] at hi; omega, fun j hj => by rw [show begR (4 + j) = 0 from if_neg (by omega)]; omega⟩
end XPURE23
