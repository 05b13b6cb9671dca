/-! PURE, 21: the mirrored figure -/
section XPURE21
/-- the row, mirrored as far as stroke s, point i -/
def rrM (r : Nat → Nat) (s i : Nat) : Nat → Nat := fun j => if 4 ≤ j ∧ j < 76 ∧ j % 2 = 0 ∧ (((j - 4) / 24 < s ∧ ((j - 4) % 24) / 2 < r (1 + (j - 4) / 24)) ∨ ((j - 4) / 24 = s ∧ ((j - 4) % 24) / 2 < i)) then 60 - r j else r j
def mirR (r : Nat → Nat) : Nat → Nat := rrM r (r 0) 0
theorem rr_lo (r : Nat → Nat) (s i : Nat) {j : Nat} (h : j < 4 ∨ 76 ≤ j) : rrM r s i j = r j := by
  unfold rrM
  rw [if_neg (by omega)]
theorem rr_x (r : Nat → Nat) (s i : Nat) {t u : Nat} (ht : t < 3) (hu : u < 12) : pX (rrM r s i) 0 t u = if (t < s ∧ u < r (1 + t)) ∨ (t = s ∧ u < i) then 60 - pX r 0 t u else pX r 0 t u := by
  unfold pX rrM
  have e1 : (0 + 4 + 24 * t + 2 * u - 4) / 24 = t := by omega
  have e2 : ((0 + 4 + 24 * t + 2 * u - 4) % 24) / 2 = u := by omega
  rw [e1, e2]
  by_cases q : (t < s ∧ u < r (1 + t)) ∨ (t = s ∧ u < i)
  · rw [if_pos q, if_pos ⟨by omega, by omega, by omega, q⟩]
  · rw [if_neg q, if_neg (fun z => q z.2.2.2)]
theorem rr_y (r : Nat → Nat) (s i : Nat) {t u : Nat} : pY (rrM r s i) 0 t u = pY r 0 t u := by
  unfold pY rrM
  rw [if_neg (by omega)]
theorem mir_fig {r : Nat → Nat} (h : rI r) (s i : Nat) : figOk (rrM r s i) 0 := by
  have hf := h.hand.1.1
  refine ⟨by rw [rr_lo r s i (by omega)]; exact hf.1, fun t ht => by rw [rr_lo r s i (by omega)]; exact hf.2.1 t ht, fun j hj => ?_⟩
  have := hf.2.2 j hj
  unfold rrM
  split <;> omega
theorem mir_shape {r : Nat → Nat} (h : rI r) : shapeI (mirR r) 0 := by
  refine ⟨mir_fig h _ _, fun t ht => ?_⟩
  have e1 : mirR r (0 + 1 + t) = r (0 + 1 + t) := rr_lo r _ _ (by omega)
  have e0 : mirR r 0 = r 0 := rr_lo r _ _ (by omega)
  rw [e1, e0]
  exact h.hand.1.2 t ht
/-- the class's points, mirrored as far as stroke s, point i -/
def mpC (r : Nat → Nat) (s i : Nat) (po po' : Nat → Int32) : Prop := (∀ t, t < r 0 → ∀ u, u < r (1 + t) → po' (36 * 16 + 12 * t + u) = nI (ptN (pX (rrM r s i) 0 t u) (pY r 0 t u))) ∧ ∀ j, (j < 36 * 16 ∨ 36 * 16 + 36 ≤ j) → po' j = po j
theorem cmir_in {r : Nat → Nat} {sm pd : Int32} {st le po sc sg na se ou : Nat → Int32} (h : rI r) (hC : CS r sm pd st le po sc sg na se ou) {s : Nat} (hs : s < r 0) {po1 : Nat → Int32} (hp : mpC r s 0 po po1) :
    ∃ po2, loopF (fun (z : Int32 × (Nat → Int32)) => fX0_mirrorPlace_L13 le (16 : Int32) (nI s) z.1 z.2) FUEL ((0 : Int32), po1) = some po2 ∧ mpC r (s + 1) 0 po po2 := by
  have hf := h.hand.1.1
  have h3 := hf.1
  have hl := hf.2.1 s (by omega)
  rw [Nat.zero_add] at hl
  have eL : fX0_lengthOf (16 : Int32) (nI s) le = nI (r (1 + s)) := by
    have := hC.handF.ln hf (show 16 < 17 by omega) hs
    rw [Nat.zero_add] at this; exact this
  exact loopF_ex (fun (z : Int32 × (Nat → Int32)) => fX0_mirrorPlace_L13 le (16 : Int32) (nI s) z.1 z.2)
    (fun i z => z.1 = nI i ∧ mpC r s i po z.2) _ 0 (r (1 + s)) (by omega) (fun i z _ hi hz => Or.inl (by
      obtain ⟨z1, po2⟩ := z
      obtain ⟨rfl, g1, g2⟩ := hz
      dsimp only at g1 g2
      have bx := hf.x (show s < 3 by omega) (i := i) (by omega)
      have by_ := hf.y (show s < 3 by omega) (i := i) (by omega)
      have ex : pX (rrM r s i) 0 s i = pX r 0 s i := by rw [rr_x r s i (by omega) (by omega), if_neg (by omega)]
      have eP : fX0_pointAt (16 : Int32) (nI s) (nI i) po2 = nI (ptN (pX r 0 s i) (pY r 0 s i)) := by
        have := point_at (po := po2) (p := 16) (s := s) (i := i) (by omega) (by omega) (by omega)
        have e2 := g1 s hs i hi
        rw [ex] at e2
        rw [← e2]; exact this
      have eN : (60 : Int32) - nI (pX r 0 s i) = nI (60 - pX r 0 s i) := pk_sub (a := 60) bx
      have eU : fX0_putPoint (16 : Int32) (nI s) (nI i) (nI (ptN (60 - pX r 0 s i) (pY r 0 s i))) po2 = upd po2 (36 * 16 + 12 * s + i) (nI (ptN (60 - pX r 0 s i) (pY r 0 s i))) := putPoint_at (p := 16) (by omega) (by omega) (by omega) _
      refine ⟨(nI (i + 1), upd po2 (36 * 16 + 12 * s + i) (nI (ptN (60 - pX r 0 s i) (pY r 0 s i)))), ?_, rfl, fun t ht u hu => ?_, fun j hj => ?_⟩
      · show fX0_mirrorPlace_L13 le (16 : Int32) (nI s) (nI i) po2 = _
        unfold fX0_mirrorPlace_L13
        rw [eL, if_neg (nI_ge hi (by omega)), eP, pt_div bx by_, pt_rem bx by_, eN, b1_so, pt_nI, eU, nI_1]
      · dsimp only
        have hlt := hf.2.1 t (by omega)
        rw [Nat.zero_add] at hlt
        rw [rr_x r s (i + 1) (by omega) (by omega)]
        by_cases q : t = s ∧ u = i
        · obtain ⟨rfl, rfl⟩ := q
          rw [pk_us, if_pos (by omega)]
        · rw [pk_un (by omega), g1 t ht u hu, rr_x r s i (by omega) (by omega)]
          by_cases y : (t < s ∧ u < r (1 + t)) ∨ (t = s ∧ u < i)
          · rw [if_pos y, if_pos (by omega)]
          · rw [if_neg y, if_neg (by omega)]
      · dsimp only
        rw [pk_un (by omega)]; exact g2 j hj)) (fun z hz => by
      obtain ⟨z1, po2⟩ := z
      obtain ⟨rfl, g1, g2⟩ := hz
      dsimp only at g1 g2
      refine ⟨po2, ?_, fun t ht u hu => ?_, g2⟩
      · show fX0_mirrorPlace_L13 le (16 : Int32) (nI s) (nI (r (1 + s))) po2 = _
        unfold fX0_mirrorPlace_L13
        rw [eL, if_pos (nI_le (Nat.le_refl _) (by omega))]
      · have hlt := hf.2.1 t (by omega)
        rw [Nat.zero_add] at hlt
        rw [g1 t ht u hu, rr_x r s _ (by omega) (by omega), rr_x r (s + 1) 0 (by omega) (by omega)]
        by_cases y : (t < s ∧ u < r (1 + t)) ∨ (t = s ∧ u < r (1 + s))
        · rw [if_pos y, if_pos]
          rcases y with y | y
          · exact Or.inl ⟨by omega, y.2⟩
          · refine Or.inl ⟨by omega, ?_⟩
            rw [y.1]; exact y.2
        · rw [if_neg y, if_neg]
          intro w
          rcases w with w | w
          · apply y
            by_cases v : t = s
            · right
              refine ⟨v, ?_⟩
              rw [← v]; exact w.2
            · exact Or.inl ⟨by omega, w.2⟩
          · omega) ((0 : Int32), po1) ⟨rfl, hp⟩ FUEL (by unfold FUEL; omega)
/-- THE CLASS MIRRORS the points of the figure at hand -/
theorem cmir_ok {r : Nat → Nat} {sm pd : Int32} {st le po sc sg na se ou : Nat → Int32} (h : rI r) (hC : CS r sm pd st le po sc sg na se ou) :
    ∃ po', fX0_mirrorPlace (16 : Int32) st le po = some po' ∧ figC st le po' 16 (mirR r) 0 ∧ figFr 16 st le po st le po' := by
  have hf := h.hand.1.1
  have h3 := hf.1
  have e0 : fX0_strokesOf (16 : Int32) st = nI (r 0) := by rw [l16, strokes_at (by omega)]; exact hC.handF.1
  have m0 : mirR r 0 = r 0 := rr_lo r _ _ (by omega)
  have ml : ∀ t, t < 3 → mirR r (0 + 1 + t) = r (0 + 1 + t) := fun t ht => rr_lo r _ _ (by omega)
  unfold fX0_mirrorPlace
  obtain ⟨x, hx, g1, g2⟩ := loopF_ex (fun (z : Int32 × (Nat → Int32)) => fX0_mirrorPlace_L2 st le (16 : Int32) z.1 z.2)
    (fun i z => z.1 = nI i ∧ mpC r i 0 po z.2) (fun x => mpC r (r 0) 0 po x) 0 (r 0) (by omega) (fun i z _ hi hz => Or.inl (by
      obtain ⟨z1, po1⟩ := z
      obtain ⟨rfl, hz⟩ := hz
      obtain ⟨po2, e, g⟩ := cmir_in h hC hi hz
      refine ⟨(nI (i + 1), po2), ?_, rfl, g⟩
      show fX0_mirrorPlace_L2 st le (16 : Int32) (nI i) po1 = _
      unfold fX0_mirrorPlace_L2
      rw [e0, if_neg (nI_ge hi (by omega)), e, b1_so, nI_1])) (fun z hz => by
      obtain ⟨z1, po1⟩ := z
      obtain ⟨rfl, hz⟩ := hz
      refine ⟨po1, ?_, hz⟩
      show fX0_mirrorPlace_L2 st le (16 : Int32) (nI (r 0)) po1 = _
      unfold fX0_mirrorPlace_L2
      rw [e0, if_pos (nI_le (Nat.le_refl _) (by omega))]) ((0 : Int32), po) ⟨rfl, fun t ht u hu => by
        have hlt := hf.2.1 t (by omega)
        rw [Nat.zero_add] at hlt
        dsimp only
        rw [rr_x r 0 0 (by omega) (by omega), if_neg (by omega)]
        exact hC.handF.2.2 t ht u (by rw [Nat.zero_add]; exact hu), fun _ _ => rfl⟩ FUEL (by unfold FUEL; omega)
  rw [hx, b1_so]
  refine ⟨x, rfl, ⟨by rw [m0]; exact hC.handF.1, fun t ht => ?_, fun t ht u hu => ?_⟩, fun _ _ => rfl, fun _ _ => rfl, g2⟩
  · rw [m0] at ht
    rw [ml t (by omega)]; exact hC.handF.2.1 t ht
  · rw [m0] at ht
    rw [ml t (by omega), Nat.zero_add] at hu
    have e := g1 t ht u hu
    rw [e, show pY (mirR r) 0 t u = pY r 0 t u from rr_y r _ _]; rfl
theorem mir_hi (r : Nat → Nat) {j : Nat} (hj : 76 ≤ j) : mirR r j = r j := rr_lo r _ _ (Or.inr hj)
theorem rI_mir {r : Nat → Nat} (h : rI r) (hl : (sigM (mirR r) 0 (r 77)).length ≤ 40) : rI (mirR r) := rI_hand h (fun j hj => mir_hi r (by omega)) ⟨mir_shape h, hl⟩ (by
  rw [mir_hi r (by omega), show mirR r 0 = r 0 from rr_lo r _ _ (by omega)]; exact h.2.2.2.2.2.1)
/-- the class: mirrorHand -/
theorem cmh_ok {r : Nat → Nat} {sm pd : Int32} {st le po sc sg na se ou : Nat → Int32} (h : rI r) (hC : CS r sm pd st le po sc sg na se ou) :
    ((sigM (mirR r) 0 (r 77)).length ≤ 40 ∧ ∃ po' sc' sg', fX4_mirrorHand st le po se sc sg = some (1, po', sc', sg') ∧ CS (mirR r) sm pd st le po' sc' sg' na se ou) ∨
    (¬ (sigM (mirR r) 0 (r 77)).length ≤ 40 ∧ ∃ po', fX4_mirrorHand st le po se sc sg = some (0, po', sc, sg)) := by
  have hd := h.2.1
  have hse : fX4_settingOf (0 : Int32) se = nI (r 77) := hC.se0 (w := 0) (by omega)
  obtain ⟨po', e, g1, g2⟩ := cmir_ok h hC
  have f16 : fX0_fits (16 : Int32) (nI (r 77)) st le po' = some (if (sigM (mirR r) 0 (r 77)).length ≤ 40 then 1 else 0) := fits_ok (p := 16) g1 (mir_shape h) (by omega) hd.1 hd.2
  unfold fX4_mirrorHand
  rw [e, b1_so, hse, f16, b1_so]
  by_cases q : (sigM (mirR r) 0 (r 77)).length ≤ 40
  · left
    obtain ⟨sc', sg', k1, k2, k3⟩ := ws_ok (p := 16) (d := r 77) g1 (mir_shape h) (by omega) hd.1 hd.2 q sc sg
    have k1 : fX0_writeSigns (16 : Int32) (nI (r 77)) sc st le po' sg = some (sc', sg') := k1
    refine ⟨q, po', sc', sg', ?_, CS_hand h hC (fun j hj => mir_hi r (by omega)) (by rw [mir_hi r (by omega)]; exact hC.2.1) g2 k3 g1 k2⟩
    rw [if_pos q, if_neg (show ¬ (1 : Int32) = 0 from by decide), k1, b2_so]
  · right
    refine ⟨q, po', ?_⟩
    rw [if_neg q, if_pos rfl]
/-- the model's row of a mirrored figure -/
theorem mmir_copy {c dr : Nat → Int32} {r : Nat → Nat} (hr : rowOk 1343 c r) : ∃ d1, loopF (fun (z : Int32 × (Nat → Int32)) => fX7_mirrored_L7 c z.1 z.2) FUEL ((0 : Int32), dr) = some d1 ∧ rowOk 76 d1 r := by
  exact loopF_ex (fun (z : Int32 × (Nat → Int32)) => fX7_mirrored_L7 c z.1 z.2)
    (fun i z => z.1 = nI i ∧ ∀ j, j < i → z.2 j = nI (r j)) _ 0 76 (by omega) (fun i z _ hi hz => Or.inl (by
      obtain ⟨z1, d1⟩ := z
      obtain ⟨rfl, hz⟩ := hz
      dsimp only at hz
      refine ⟨(nI (i + 1), upd d1 i (nI (r i))), ?_, rfl, fun j hj => ?_⟩
      · show fX7_mirrored_L7 c (nI i) d1 = _
        unfold fX7_mirrored_L7
        rw [l76, if_neg (nI_ge hi (by omega)), gk (by omega) (by omega), gk (by omega) (by omega), b1_so, nI_clamp (by omega), hr i (by omega), nI_1]
      · dsimp only
        by_cases q : j = i
        · rw [q, pk_us]
        · rw [pk_un q]; exact hz j (by omega))) (fun z hz => by
      obtain ⟨z1, d1⟩ := z
      obtain ⟨rfl, hz⟩ := hz
      refine ⟨d1, ?_, hz⟩
      show fX7_mirrored_L7 c (nI 76) d1 = _
      unfold fX7_mirrored_L7
      rw [l76, if_pos (nI_le (Nat.le_refl _) (by omega))]) ((0 : Int32), dr) ⟨rfl, fun j hj => absurd hj (Nat.not_lt_zero _)⟩ FUEL (by unfold FUEL; omega)
theorem mmir_in {r : Nat → Nat} (h : rI r) {s : Nat} (hs : s < r 0) {d1 : Nat → Int32} (hd : rowOk 76 d1 (rrM r s 0)) :
    ∃ d2, loopF (fun (z : Int32 × (Nat → Int32)) => fX7_mirrored_L45 (nI s) z.1 z.2) FUEL ((0 : Int32), d1) = some d2 ∧ rowOk 76 d2 (rrM r (s + 1) 0) := by
  have hf := h.hand.1.1
  have h3 := hf.1
  have hl := hf.2.1 s (by omega)
  rw [Nat.zero_add] at hl
  have e1 : (1 : Int32) + nI s = nI (1 + s) := nI_add 1 s
  exact loopF_ex (fun (z : Int32 × (Nat → Int32)) => fX7_mirrored_L45 (nI s) z.1 z.2)
    (fun i z => z.1 = nI i ∧ rowOk 76 z.2 (rrM r s i)) _ 0 (r (1 + s)) (by omega) (fun i z _ hi hz => Or.inl (by
      obtain ⟨z1, d2⟩ := z
      obtain ⟨rfl, hz⟩ := hz
      dsimp only at hz
      have bx := hf.x (show s < 3 by omega) (i := i) (by omega)
      have e2 : d2 (1 + s) = nI (r (1 + s)) := by rw [hz _ (by omega), rr_lo r s i (by omega)]
      have e3 : (4 : Int32) + (24 : Int32) * nI s + (2 : Int32) * nI i = nI (4 + 24 * s + 2 * i) := by rw [l4, l24, l2, pk_mul, pk_mul, nI_add, nI_add]
      have e4 : d2 (4 + 24 * s + 2 * i) = nI (pX r 0 s i) := by
        have ex : pX (rrM r s i) 0 s i = pX r 0 s i := by rw [rr_x r s i (by omega) (by omega), if_neg (by omega)]
        rw [hz _ (by omega), ← ex]
        unfold pX
        rw [Nat.zero_add]
      have eN : (60 : Int32) - nI (pX r 0 s i) = nI (60 - pX r 0 s i) := pk_sub (a := 60) bx
      refine ⟨(nI (i + 1), upd d2 (4 + 24 * s + 2 * i) (nI (60 - pX r 0 s i))), ?_, rfl, fun j hj => ?_⟩
      · show fX7_mirrored_L45 (nI s) (nI i) d2 = _
        unfold fX7_mirrored_L45
        rw [e1, gk (by omega) (by omega), nI_clamp (by omega), e2, if_neg (nI_ge hi (by omega)), e3, b1_so, gk (by omega) (by omega), gk (by omega) (by omega), nI_clamp (by omega), e4, eN, b1_so, nI_1]
      · dsimp only
        by_cases q : j = 4 + 24 * s + 2 * i
        · subst q
          rw [pk_us]
          unfold rrM
          rw [if_pos (by omega)]
          unfold pX
          rw [Nat.zero_add]
        · rw [pk_un q, hz j hj]
          unfold rrM
          by_cases y : 4 ≤ j ∧ j < 76 ∧ j % 2 = 0 ∧ (((j - 4) / 24 < s ∧ ((j - 4) % 24) / 2 < r (1 + (j - 4) / 24)) ∨ ((j - 4) / 24 = s ∧ ((j - 4) % 24) / 2 < i))
          · rw [if_pos y, if_pos (by omega)]
          · rw [if_neg y, if_neg (by omega)])) (fun z hz => by
      obtain ⟨z1, d2⟩ := z
      obtain ⟨rfl, hz⟩ := hz
      dsimp only at hz
      have e2 : d2 (1 + s) = nI (r (1 + s)) := by rw [hz _ (by omega), rr_lo r s _ (by omega)]
      refine ⟨d2, ?_, fun j hj => ?_⟩
      · show fX7_mirrored_L45 (nI s) (nI (r (1 + s))) d2 = _
        unfold fX7_mirrored_L45
        rw [e1, gk (by omega) (by omega), nI_clamp (by omega), e2, if_pos (nI_le (Nat.le_refl _) (by omega))]
      · rw [hz j hj]
        unfold rrM
        by_cases y : 4 ≤ j ∧ j < 76 ∧ j % 2 = 0 ∧ (((j - 4) / 24 < s ∧ ((j - 4) % 24) / 2 < r (1 + (j - 4) / 24)) ∨ ((j - 4) / 24 = s ∧ ((j - 4) % 24) / 2 < r (1 + s)))
        · rw [if_pos y, if_pos]
          refine ⟨y.1, y.2.1, y.2.2.1, Or.inl ?_⟩
          rcases y.2.2.2 with w | w
          · exact ⟨by omega, w.2⟩
          · refine ⟨by omega, ?_⟩
            rw [w.1]; exact w.2
        · rw [if_neg y, if_neg]
          intro z
          apply y
          refine ⟨z.1, z.2.1, z.2.2.1, ?_⟩
          rcases z.2.2.2 with w | w
          · by_cases v : (j - 4) / 24 = s
            · right
              refine ⟨v, ?_⟩
              rw [← v]; exact w.2
            · exact Or.inl ⟨by omega, w.2⟩
          · omega) ((0 : Int32), d1) ⟨rfl, hd⟩ FUEL (by unfold FUEL; omega)
theorem mmir_ok {r : Nat → Nat} (h : rI r) {d1 : Nat → Int32} (hd : rowOk 76 d1 r) :
    ∃ d2, loopF (fun (z : Int32 × (Nat → Int32)) => fX7_mirrored_L33 z.1 z.2) FUEL ((0 : Int32), d1) = some d2 ∧ rowOk 76 d2 (mirR r) := by
  have h3 := h.hand.1.1.1
  exact loopF_ex (fun (z : Int32 × (Nat → Int32)) => fX7_mirrored_L33 z.1 z.2)
    (fun i z => z.1 = nI i ∧ rowOk 76 z.2 (rrM r i 0)) _ 0 (r 0) (by omega) (fun i z _ hi hz => Or.inl (by
      obtain ⟨z1, d2⟩ := z
      obtain ⟨rfl, hz⟩ := hz
      dsimp only at hz
      obtain ⟨d3, e, g⟩ := mmir_in h hi hz
      refine ⟨(nI (i + 1), d3), ?_, rfl, g⟩
      show fX7_mirrored_L33 (nI i) d2 = _
      unfold fX7_mirrored_L33
      rw [k0, hz 0 (by omega), rr_lo r i 0 (by omega)]
      refine gy (by first | exact nI_pos (by omega) | decide) (by first | omega | (rw [nI_clamp (by omega)]; omega)) ?_
      rw [if_neg (nI_ge hi (by omega)), e, b1_so, nI_1])) (fun z hz => by
      obtain ⟨z1, d2⟩ := z
      obtain ⟨rfl, hz⟩ := hz
      dsimp only at hz
      refine ⟨d2, ?_, hz⟩
      show fX7_mirrored_L33 (nI (r 0)) d2 = _
      unfold fX7_mirrored_L33
      rw [k0, hz 0 (by omega), rr_lo r _ 0 (by omega)]
      refine gy (by first | exact nI_pos (by omega) | decide) (by first | omega | (rw [nI_clamp (by omega)]; omega)) ?_
      rw [if_pos (nI_le (Nat.le_refl _) (by omega))]) ((0 : Int32), d1) ⟨rfl, fun j hj => by
        dsimp only
        rw [hd j hj]
        unfold rrM
        rw [if_neg (by omega)]⟩ FUEL (by unfold FUEL; omega)
theorem dt_mir (r : Nat → Nat) (d : Nat) : dtM (mirR r) (mirR r) 0 d = dtM (mirR r) r 0 d := by
  funext s
  unfold dtM
  rw [sigM_hi (fun j hj => mir_hi r (by omega)) (atM_ge s)]
theorem nm_mir (r : Nat → Nat) : (fun s => mirR r (atM s + 76)) = (fun s => r (atM s + 76)) := by
  funext s
  exact mir_hi r (by have := atM_ge s; omega)
theorem hnr_mir (r : Nat → Nat) : hnr (mirR r) 0 99 = nrM (dtM (mirR r) r 0 (r 77)) 99 (r 110) := by
  unfold hnr
  rw [mir_hi r (by omega), mir_hi r (by omega), dt_mir]
theorem hhow_mir (r : Nat → Nat) : hhow (mirR r) 0 99 = howM (dtM (mirR r) r 0 (r 77)) (fun s => r (atM s + 76)) 99 (r 110) (r 78) (r 79) := by
  unfold hhow
  rw [mir_hi r (by omega), mir_hi r (by omega), mir_hi r (by omega), mir_hi r (by omega), dt_mir, nm_mir]
noncomputable def mirV (r : Nat → Nat) : Int32 := if (sigM (mirR r) 0 (r 77)).length ≤ 40 then hname (mirR r) 0 99 else -1
/-- THE MODEL'S ANSWER on the mirrored figure -/
theorem mmirrored_ok {c : Nat → Int32} {r : Nat → Nat} (hr : rowOk 1343 c r) (h : rI r) (v1 v2 v3 : Int32) (dr one two cs : Nat → Int32) :
    ∃ w1 w2 w3 dr' one' two' cs', fX7_mirrored v1 v2 v3 c dr one two cs = some (mirV r, 0, w1, w2, w3, dr', one', two', cs') := by
  have hd := h.2.1
  have h16 := h.h16
  obtain ⟨d1, e1, o1⟩ := mmir_copy (dr := dr) hr
  obtain ⟨d2, e2, o2⟩ := mmir_ok h o1
  obtain ⟨one1, sg⟩ := sig_at (f := 0) (d := r 77) (N3 := 41) o2 (mir_fig h _ _) (by omega) (by omega) (by omega) (by omega) hd.1 hd.2 one
  have sg : fX7_signature (0 : Int32) (nI (r 77)) 76 41 d2 one = some (nI (min (sigM (mirR r) 0 (r 77)).length 41), one1) := sg
  unfold fX7_mirrored
  rw [e1, b1_so, e2, b1_so, l77, gk (by omega) (by omega), nI_clamp (by omega), hr 77 (by omega), sg, b2_so]
  unfold mirV
  by_cases q : (sigM (mirR r) 0 (r 77)).length ≤ 40
  · rw [Nat.min_eq_left (by omega), if_pos (show nI _ ≤ (40 : Int32) from nI_le (b := 40) q (by omega)), if_pos q]
    have hh : rdH 76 d2 c (mirR r) r 0 (r 77) := ⟨o2, hr, mir_fig h _ _, by omega, by omega, hd.1, hd.2, q, h16, fun s hs => ⟨(h.smp hs).1.1, (h.smp hs).2⟩⟩
    obtain ⟨one2, two2, cs2, e⟩ := rd_ok hh butOk_m1 h.2.2.1 h.2.2.2.1.2 (fun s hs => h.nm hs) one1 two cs
    have e : fX7_readFigure (0 : Int32) (-1 : Int32) 1343 76 c d2 one1 two cs = _ := e
    rw [← hnr_mir, ← hhow_mir] at e
    rw [e, b6_so]
    have hl := hhow_le (mirR r) 0 99
    unfold hname
    by_cases y : hhow (mirR r) 0 99 = 0
    · obtain ⟨p2, hn, hp2⟩ := how0 y
      rw [mir_hi r (by omega)] at hp2
      have em : fX7_nameOf (oneI (some p2)) 1343 c = some (nI (r (atM p2.1 + 76))) := mname_ok hr (by omega) (by omega) (by omega)
      have en : nmI (mirR r) (some p2) = nI (r (atM p2.1 + 76)) := by
        show nI (mirR r (atM p2.1 + 76)) = _
        rw [mir_hi r (by have := atM_ge p2.1; omega)]
      rw [if_pos (by rw [y]; rfl), hn, em, b1_so, if_pos y, en]
      exact ⟨_, _, _, _, _, _, _, rfl⟩
    · rw [if_neg (nI_ne0 (by omega) (by omega)), if_neg y]
      exact ⟨_, _, _, _, _, _, _, rfl⟩
  · rw [Nat.min_eq_right (by omega), if_neg (by decide), if_neg q]
    exact ⟨_, _, _, _, _, _, _, rfl⟩
end XPURE21
