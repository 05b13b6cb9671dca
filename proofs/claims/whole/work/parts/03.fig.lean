def fX6_cell (p1 : Int32) (n_p0 : Nat) (c_p0 : Nat → Int32) : Option (Int32) :=
  (if p1 < 0 then some (0 : Int32) else (if (Int32.ofNat n_p0) ≤ p1 then some (0 : Int32) else (if p1 < 0 ∨ n_p0 ≤ p1.toNatClampNeg then none else some (c_p0 p1.toNatClampNeg))))
set_option maxHeartbeats 4000000 in
set_option maxRecDepth 100000 in
theorem kX6_cell (l : Launch) (D : va_G) (cc : Nat → ClassId) (a_p0 : Nat) (n_p0 : Nat) (c_p0 : Nat → Int32) (p1 : Int32) (r0 : Int32) (h : fX6_cell p1 n_p0 c_p0 = some r0) : xMi l yX6_cell wsX6_cell ({ frames := 0, cells := 0, slots := 0, locals := 0 } : Room) D cc [.ref a_p0, .int p1] [(a_p0, .inl (cc 0, n_p0, .inl c_p0))] r0 (fun _ => [(a_p0, .inl (cc 0, n_p0, .inl c_p0))]) 0 0 := by
  intro sz
  refine xstart (bc := cX6_cell) (maxL := 2) (ret := (some .int)) (by decide) rfl (Nat.le_of_ble_eq_true rfl) ?_
  intro p e s m args below meth c A hargs hsz hAe F hK hN hA hmn hP hD hS ls hl
  have hx := F.1.1
  have hb := F.1.2.1
  have hml := F.1.2.2.1
  have hown := F.1.2.2.2.1
  have hts := F.1.2.2.2.2
  have hl : lv_has ls 2 [(0, .ref a_p0), (1, .int p1)] := hl
  unfold fX6_cell at h
  refine lv_iload_n hx hb dX6_cell_0 rfl (lv_at hl 1 rfl) ?_
  refine lv_if_lt (tgt := 16) hx hb dX6_cell_1 (by decide) (fun (c1 : p1 < 0) => ?_) (fun (c1 : ¬ p1 < 0) => ?_)
  · replace h := ip c1 h
    refine lv_iconst (v := (0 : Int32)) hx hb dX6_cell_16 (by decide) ?_
    cases h
    exact xendi (ret := none) F hsz hAe hK hP hD hS (fun _ => 0) rfl rfl (Nat.zero_le _) (Nat.zero_le _) dX6_cell_17
  · replace h := iq c1 h
    refine lv_iload_n hx hb dX6_cell_4 rfl (lv_at hl 1 rfl) ?_
    refine lv_aload_n hx hb dX6_cell_5 rfl (lv_at hl 0 rfl) ?_
    refine va_alen hx hb hK hP 0 0 rfl rfl rfl dX6_cell_6 ?_
    refine lv_icmp_ge (tgt := 16) hx hb dX6_cell_7 (by decide) (fun (c2 : (Int32.ofNat n_p0) ≤ p1) => ?_) (fun (c2 : ¬ (Int32.ofNat n_p0) ≤ p1) => ?_)
    · replace h := ip c2 h
      refine lv_iconst (v := (0 : Int32)) hx hb dX6_cell_16 (by decide) ?_
      cases h
      exact xendi (ret := none) F hsz hAe hK hP hD hS (fun _ => 0) rfl rfl (Nat.zero_le _) (Nat.zero_le _) dX6_cell_17
    · replace h := iq c2 h
      refine lv_aload_n hx hb dX6_cell_10 rfl (lv_at hl 0 rfl) ?_
      refine lv_iload_n hx hb dX6_cell_11 rfl (lv_at hl 1 rfl) ?_
      obtain ⟨g3, h⟩ := gd h
      refine va_iald hx hb hK hP 0 0 rfl rfl g3 dX6_cell_12 ?_
      refine lv_goto (tgt := 17) hx hb dX6_cell_13 (by decide) ?_
      cases h
      exact xendi (ret := none) F hsz hAe hK hP hD hS (fun _ => 0) rfl rfl (Nat.zero_le _) (Nat.zero_le _) dX6_cell_17
def fX6_putCell (p1 : Int32) (p2 : Int32) (n_p0 : Nat) (c_p0 : Nat → Int32) : Option ((Nat → Int32)) :=
  (if p1 < 0 then some c_p0 else (if (Int32.ofNat n_p0) ≤ p1 then some c_p0 else (if p1 < 0 ∨ n_p0 ≤ p1.toNatClampNeg then none else some (upd c_p0 p1.toNatClampNeg p2))))
set_option maxHeartbeats 4000000 in
set_option maxRecDepth 100000 in
theorem kX6_putCell (l : Launch) (D : va_G) (cc : Nat → ClassId) (a_p0 : Nat) (n_p0 : Nat) (c_p0 : Nat → Int32) (p1 : Int32) (p2 : Int32) (c_p0_o : Nat → Int32) (h : fX6_putCell p1 p2 n_p0 c_p0 = some c_p0_o) : xMv l yX6_putCell wsX6_putCell ({ frames := 0, cells := 0, slots := 0, locals := 0 } : Room) D cc [.ref a_p0, .int p1, .int p2] [(a_p0, .inl (cc 0, n_p0, .inl c_p0))] (fun _ => [(a_p0, .inl (cc 0, n_p0, .inl c_p0_o))]) 0 0 := by
  intro sz
  refine xstart (bc := cX6_putCell) (maxL := 3) (ret := none) (by decide) rfl (Nat.le_of_ble_eq_true rfl) ?_
  intro p e s m args below meth c A hargs hsz hAe F hK hN hA hmn hP hD hS ls hl
  have hx := F.1.1
  have hb := F.1.2.1
  have hml := F.1.2.2.1
  have hown := F.1.2.2.2.1
  have hts := F.1.2.2.2.2
  have hl : lv_has ls 3 [(0, .ref a_p0), (1, .int p1), (2, .int p2)] := hl
  unfold fX6_putCell at h
  refine lv_iload_n hx hb dX6_putCell_0 rfl (lv_at hl 1 rfl) ?_
  refine lv_if_lt (tgt := 14) hx hb dX6_putCell_1 (by decide) (fun (c1 : p1 < 0) => ?_) (fun (c1 : ¬ p1 < 0) => ?_)
  · replace h := ip c1 h
    cases h
    exact xendv F hsz hAe hK hP hD hS (fun _ => 0) rfl (Nat.zero_le _) (Nat.zero_le _) dX6_putCell_14
  · replace h := iq c1 h
    refine lv_iload_n hx hb dX6_putCell_4 rfl (lv_at hl 1 rfl) ?_
    refine lv_aload_n hx hb dX6_putCell_5 rfl (lv_at hl 0 rfl) ?_
    refine va_alen hx hb hK hP 0 0 rfl rfl rfl dX6_putCell_6 ?_
    refine lv_icmp_ge (tgt := 14) hx hb dX6_putCell_7 (by decide) (fun (c2 : (Int32.ofNat n_p0) ≤ p1) => ?_) (fun (c2 : ¬ (Int32.ofNat n_p0) ≤ p1) => ?_)
    · replace h := ip c2 h
      cases h
      exact xendv F hsz hAe hK hP hD hS (fun _ => 0) rfl (Nat.zero_le _) (Nat.zero_le _) dX6_putCell_14
    · replace h := iq c2 h
      refine lv_aload_n hx hb dX6_putCell_10 rfl (lv_at hl 0 rfl) ?_
      refine lv_iload_n hx hb dX6_putCell_11 rfl (lv_at hl 1 rfl) ?_
      refine lv_iload_n hx hb dX6_putCell_12 rfl (lv_at hl 2 rfl) ?_
      obtain ⟨g3, h⟩ := gd h
      refine va_iast hx hb hK hP hD hS 0 0 rfl rfl g3 dX6_putCell_13 (fun H locs hP hD hS => ?_)
      have hP : va_P D vwCl [(a_p0, .inl (cc 0, n_p0, .inl (upd c_p0 p1.toNatClampNeg p2)))] H := hP
      have hD : va_D A [(a_p0, .inl (cc 0, n_p0, .inl (upd c_p0 p1.toNatClampNeg p2)))] := hD
      cases h
      exact xendv F hsz hAe hK hP hD hS (fun _ => 0) rfl (Nat.zero_le _) (Nat.zero_le _) dX6_putCell_14
def fX0_strokesOf (p1 : Int32) (c_p0_strokes : Nat → Int32) : Option (Int32) :=
  (b1 (fX6_cell p1 17 c_p0_strokes) (fun r_1 => some r_1))
theorem inX0_strokesOf_X0 : ∀ w ∈ wsX00, w ∈ wsX0_strokesOf := by decide +kernel
set_option maxHeartbeats 4000000 in
set_option maxRecDepth 100000 in
theorem kX0_strokesOf (l : Launch) (D : va_G) (cc : Nat → ClassId) (a_p0 : Nat) (a_p0_strokes : Nat) (a_p0_lengths : Nat) (a_p0_points : Nat) (a_p0_signCounts : Nat) (a_p0_signs : Nat) (c_p0_strokes : Nat → Int32) (p1 : Int32) (r0 : Int32) (h : fX0_strokesOf p1 c_p0_strokes = some r0) : xMi l yX0_strokesOf wsX0_strokesOf ({ frames := 1, cells := 0, slots := 0, locals := 21 } : Room) D cc [.ref a_p0, .int p1] [(a_p0, .inr (0, [.ref a_p0_strokes, .ref a_p0_lengths, .ref a_p0_points, .ref a_p0_signCounts, .ref a_p0_signs])), (a_p0_strokes, .inl (cc 0, 17, .inl c_p0_strokes))] r0 (fun _ => [(a_p0, .inr (0, [.ref a_p0_strokes, .ref a_p0_lengths, .ref a_p0_points, .ref a_p0_signCounts, .ref a_p0_signs])), (a_p0_strokes, .inl (cc 0, 17, .inl c_p0_strokes))]) 0 0 := by
  intro sz
  refine xstart (bc := cX0_strokesOf) (maxL := 2) (ret := (some .int)) (by decide) rfl (Nat.le_of_ble_eq_true rfl) ?_
  intro p e s m args below meth c A hargs hsz hAe F hK hN hA hmn hP hD hS ls hl
  have hx := F.1.1
  have hb := F.1.2.1
  have hml := F.1.2.2.1
  have hown := F.1.2.2.2.1
  have hts := F.1.2.2.2.2
  have hl : lv_has ls 2 [(0, .ref a_p0), (1, .int p1)] := hl
  have k1 := hts (.fieldLink RX0 9 "RuledStrokes$Figures" "strokes" "[I") (by decide +kernel)
  have k2 := hts (.initialized RX6) (by decide +kernel)
  have k3 := hts (.static yX6_cell) (by decide +kernel)
  unfold fX0_strokesOf at h
  refine lv_aload_n hx hb dX0_strokesOf_0 rfl (lv_at hl 0 rfl) ?_
  refine va_get (D := D) (ci := 0) (v := .ref a_p0_strokes) (C := RX0) (T := TX0) (N := 5) hx hb hts inX0_strokesOf_X0 hown hK hP 0 rfl rfl 0 (by decide) k1 (fun _ h9 => h9) rfl dX0_strokesOf_1 ?_
  refine lv_iload_n hx hb dX0_strokesOf_4 rfl (lv_at hl 1 rfl) ?_
  obtain ⟨r_1, hc1, h⟩ := b1_some h
  beta_reduce at h
  refine xcalli (wr := [(a_p0, .inr (0, [.ref a_p0_strokes, .ref a_p0_lengths, .ref a_p0_points, .ref a_p0_signCounts, .ref a_p0_signs]))]) [1] [0] (xrunSN (As := [.ref a_p0_strokes, .int p1]) (rest := []) F (kX6_cell l D cc (a_p0 := a_p0_strokes) (n_p0 := 17) (c_p0 := c_p0_strokes) (p1 := p1) (r0 := r_1) (h := hc1) H.size) ⟨va_cnB 2 hts gX0_strokesOf_X6_cell_n39 rfl rfl rfl (hN (.methodLinkNest RX0 39 yX6_cell RX6) (by simp [xNest])) k2 (by decide +kernel) ⟨Nat.le_of_ble_eq_true rfl, Nat.le_of_ble_eq_true rfl⟩, k3⟩ hK hN hP hD [1] rfl (by decide) rfl hl rfl (Nat.le_of_ble_eq_true rfl) dX0_strokesOf_5 ⟨Nat.zero_le _, Nat.zero_le _⟩) hP hD hS hA rfl rfl (by decide) (by decide) (fun _ H locs hP hD hS => ?_)
  have hP : va_P D vwCl [(a_p0, .inr (0, [.ref a_p0_strokes, .ref a_p0_lengths, .ref a_p0_points, .ref a_p0_signCounts, .ref a_p0_signs])), (a_p0_strokes, .inl (cc 0, 17, .inl c_p0_strokes))] H := hP
  have hD : va_D A [(a_p0, .inr (0, [.ref a_p0_strokes, .ref a_p0_lengths, .ref a_p0_points, .ref a_p0_signCounts, .ref a_p0_signs])), (a_p0_strokes, .inl (cc 0, 17, .inl c_p0_strokes))] := hD
  cases h
  exact xendi (ret := none) F hsz hAe hK hP hD hS (fun _ => 0) rfl rfl (Nat.zero_le _) (Nat.zero_le _) dX0_strokesOf_8
def fX0_lengthOf (p1 : Int32) (p2 : Int32) (c_p0_lengths : Nat → Int32) : Option (Int32) :=
  (b1 (fX6_cell ((p1 * (3 : Int32)) + p2) 51 c_p0_lengths) (fun r_1 => some r_1))
theorem inX0_lengthOf_X0 : ∀ w ∈ wsX00, w ∈ wsX0_lengthOf := by decide +kernel
set_option maxHeartbeats 4000000 in
set_option maxRecDepth 100000 in
theorem kX0_lengthOf (l : Launch) (D : va_G) (cc : Nat → ClassId) (a_p0 : Nat) (a_p0_strokes : Nat) (a_p0_lengths : Nat) (a_p0_points : Nat) (a_p0_signCounts : Nat) (a_p0_signs : Nat) (c_p0_lengths : Nat → Int32) (p1 : Int32) (p2 : Int32) (r0 : Int32) (h : fX0_lengthOf p1 p2 c_p0_lengths = some r0) : xMi l yX0_lengthOf wsX0_lengthOf ({ frames := 1, cells := 0, slots := 0, locals := 21 } : Room) D cc [.ref a_p0, .int p1, .int p2] [(a_p0, .inr (0, [.ref a_p0_strokes, .ref a_p0_lengths, .ref a_p0_points, .ref a_p0_signCounts, .ref a_p0_signs])), (a_p0_lengths, .inl (cc 0, 51, .inl c_p0_lengths))] r0 (fun _ => [(a_p0, .inr (0, [.ref a_p0_strokes, .ref a_p0_lengths, .ref a_p0_points, .ref a_p0_signCounts, .ref a_p0_signs])), (a_p0_lengths, .inl (cc 0, 51, .inl c_p0_lengths))]) 0 0 := by
  intro sz
  refine xstart (bc := cX0_lengthOf) (maxL := 3) (ret := (some .int)) (by decide) rfl (Nat.le_of_ble_eq_true rfl) ?_
  intro p e s m args below meth c A hargs hsz hAe F hK hN hA hmn hP hD hS ls hl
  have hx := F.1.1
  have hb := F.1.2.1
  have hml := F.1.2.2.1
  have hown := F.1.2.2.2.1
  have hts := F.1.2.2.2.2
  have hl : lv_has ls 3 [(0, .ref a_p0), (1, .int p1), (2, .int p2)] := hl
  have k1 := hts (.fieldLink RX0 15 "RuledStrokes$Figures" "lengths" "[I") (by decide +kernel)
  have k2 := hts (.initialized RX6) (by decide +kernel)
  have k3 := hts (.static yX6_cell) (by decide +kernel)
  unfold fX0_lengthOf at h
  refine lv_aload_n hx hb dX0_lengthOf_0 rfl (lv_at hl 0 rfl) ?_
  refine va_get (D := D) (ci := 0) (v := .ref a_p0_lengths) (C := RX0) (T := TX0) (N := 5) hx hb hts inX0_lengthOf_X0 hown hK hP 0 rfl rfl 1 (by decide) k1 (fun _ h9 => h9) rfl dX0_lengthOf_1 ?_
  refine lv_iload_n hx hb dX0_lengthOf_4 rfl (lv_at hl 1 rfl) ?_
  refine lv_iconst (v := (3 : Int32)) hx hb dX0_lengthOf_5 (by decide) ?_
  refine lv_imul hx hb dX0_lengthOf_6 ?_
  refine lv_iload_n hx hb dX0_lengthOf_7 rfl (lv_at hl 2 rfl) ?_
  refine lv_iadd hx hb dX0_lengthOf_8 ?_
  obtain ⟨r_1, hc1, h⟩ := b1_some h
  beta_reduce at h
  refine xcalli (wr := [(a_p0, .inr (0, [.ref a_p0_strokes, .ref a_p0_lengths, .ref a_p0_points, .ref a_p0_signCounts, .ref a_p0_signs]))]) [1] [0] (xrunSN (As := [.ref a_p0_lengths, .int ((p1 * (3 : Int32)) + p2)]) (rest := []) F (kX6_cell l D cc (a_p0 := a_p0_lengths) (n_p0 := 51) (c_p0 := c_p0_lengths) (p1 := (p1 * (3 : Int32)) + p2) (r0 := r_1) (h := hc1) H.size) ⟨va_cnB 2 hts gX0_lengthOf_X6_cell_n39 rfl rfl rfl (hN (.methodLinkNest RX0 39 yX6_cell RX6) (by simp [xNest])) k2 (by decide +kernel) ⟨Nat.le_of_ble_eq_true rfl, Nat.le_of_ble_eq_true rfl⟩, k3⟩ hK hN hP hD [1] rfl (by decide) rfl hl rfl (Nat.le_of_ble_eq_true rfl) dX0_lengthOf_9 ⟨Nat.zero_le _, Nat.zero_le _⟩) hP hD hS hA rfl rfl (by decide) (by decide) (fun _ H locs hP hD hS => ?_)
  have hP : va_P D vwCl [(a_p0, .inr (0, [.ref a_p0_strokes, .ref a_p0_lengths, .ref a_p0_points, .ref a_p0_signCounts, .ref a_p0_signs])), (a_p0_lengths, .inl (cc 0, 51, .inl c_p0_lengths))] H := hP
  have hD : va_D A [(a_p0, .inr (0, [.ref a_p0_strokes, .ref a_p0_lengths, .ref a_p0_points, .ref a_p0_signCounts, .ref a_p0_signs])), (a_p0_lengths, .inl (cc 0, 51, .inl c_p0_lengths))] := hD
  cases h
  exact xendi (ret := none) F hsz hAe hK hP hD hS (fun _ => 0) rfl rfl (Nat.zero_le _) (Nat.zero_le _) dX0_lengthOf_12
def fX0_pointsOf_L4 (c_p0_strokes : Nat → Int32) (c_p0_lengths : Nat → Int32) (k4_1 : Int32) (x2 : Int32) (x3 : Int32) : Option ((Int32 × Int32) ⊕ (Int32)) :=
  (b1 (fX0_strokesOf k4_1 c_p0_strokes) (fun r_1 => (if r_1 ≤ x3 then some (Sum.inr x2) else (b1 (fX0_lengthOf k4_1 x3 c_p0_lengths) (fun r_3 => some (Sum.inl (x2 + r_3, x3 + (1 : Int32))))))))
def fX0_pointsOf (p1 : Int32) (c_p0_strokes : Nat → Int32) (c_p0_lengths : Nat → Int32) : Option (Int32) :=
  (b1 (loopF (fun (z : Int32 × Int32) => fX0_pointsOf_L4 c_p0_strokes c_p0_lengths p1 z.1 z.2) FUEL ((0 : Int32), (0 : Int32))) (fun y2_4 => some y2_4))
set_option maxHeartbeats 4000000 in
set_option maxRecDepth 100000 in
theorem kX0_pointsOf (l : Launch) (D : va_G) (cc : Nat → ClassId) (a_p0 : Nat) (a_p0_strokes : Nat) (a_p0_lengths : Nat) (a_p0_points : Nat) (a_p0_signCounts : Nat) (a_p0_signs : Nat) (c_p0_strokes : Nat → Int32) (c_p0_lengths : Nat → Int32) (p1 : Int32) (r0 : Int32) (h : fX0_pointsOf p1 c_p0_strokes c_p0_lengths = some r0) : xMi l yX0_pointsOf wsX0_pointsOf ({ frames := 2, cells := 0, slots := 0, locals := 43 } : Room) D cc [.ref a_p0, .int p1] [(a_p0, .inr (0, [.ref a_p0_strokes, .ref a_p0_lengths, .ref a_p0_points, .ref a_p0_signCounts, .ref a_p0_signs])), (a_p0_strokes, .inl (cc 0, 17, .inl c_p0_strokes)), (a_p0_lengths, .inl (cc 0, 51, .inl c_p0_lengths))] r0 (fun _ => [(a_p0, .inr (0, [.ref a_p0_strokes, .ref a_p0_lengths, .ref a_p0_points, .ref a_p0_signCounts, .ref a_p0_signs])), (a_p0_strokes, .inl (cc 0, 17, .inl c_p0_strokes)), (a_p0_lengths, .inl (cc 0, 51, .inl c_p0_lengths))]) 0 0 := by
  intro sz
  refine xstart (bc := cX0_pointsOf) (maxL := 4) (ret := (some .int)) (by decide) rfl (Nat.le_of_ble_eq_true rfl) ?_
  intro p e s m args below meth c A hargs hsz hAe F hK hN hA hmn hP hD hS ls hl
  have hx := F.1.1
  have hb := F.1.2.1
  have hml := F.1.2.2.1
  have hown := F.1.2.2.2.1
  have hts := F.1.2.2.2.2
  have hl : lv_has ls 4 [(0, .ref a_p0), (1, .int p1)] := hl
  unfold fX0_pointsOf at h
  have hB4 : ∀ (QQ : State → Prop) (k4_1 : Int32) (x2 : Int32) (x3 : Int32) (r9 : (Int32 × Int32) ⊕ (Int32)), fX0_pointsOf_L4 c_p0_strokes c_p0_lengths k4_1 x2 x3 = some r9 → ∀ (H : Heap) (locs : List Loc) (ls : Array Slot), va_P D vwCl [(a_p0, .inr (0, [.ref a_p0_strokes, .ref a_p0_lengths, .ref a_p0_points, .ref a_p0_signCounts, .ref a_p0_signs])), (a_p0_strokes, .inl (cc 0, 17, .inl c_p0_strokes)), (a_p0_lengths, .inl (cc 0, 51, .inl c_p0_lengths))] H → va_D A [(a_p0, .inr (0, [.ref a_p0_strokes, .ref a_p0_lengths, .ref a_p0_points, .ref a_p0_signCounts, .ref a_p0_signs])), (a_p0_strokes, .inl (cc 0, 17, .inl c_p0_strokes)), (a_p0_lengths, .inl (cc 0, 51, .inl c_p0_lengths))] → va_S A s.heap H locs → lv_has ls 4 [(0, .ref a_p0), (1, .int k4_1), (2, .int x2), (3, .int x3)] → (∀ (x2 : Int32) (x3 : Int32), r9 = Sum.inl (x2, x3) → ∀ (H : Heap) (locs : List Loc) (ls : Array Slot), va_P D vwCl [(a_p0, .inr (0, [.ref a_p0_strokes, .ref a_p0_lengths, .ref a_p0_points, .ref a_p0_signCounts, .ref a_p0_signs])), (a_p0_strokes, .inl (cc 0, 17, .inl c_p0_strokes)), (a_p0_lengths, .inl (cc 0, 51, .inl c_p0_lengths))] H → va_D A [(a_p0, .inr (0, [.ref a_p0_strokes, .ref a_p0_lengths, .ref a_p0_points, .ref a_p0_signCounts, .ref a_p0_signs])), (a_p0_strokes, .inl (cc 0, 17, .inl c_p0_strokes)), (a_p0_lengths, .inl (cc 0, 51, .inl c_p0_lengths))] → va_S A s.heap H locs → lv_has ls 4 [(0, .ref a_p0), (1, .int k4_1), (2, .int x2), (3, .int x3)] → W p l e ({ frames := 2, cells := 0, slots := 0, locals := 43 } : Room) s m args below meth c H locs 0 0 QQ (F0 m 4 ls [])) → (∀ (y2 : Int32), r9 = Sum.inr (y2) → ∀ (H : Heap) (locs : List Loc) (ls : Array Slot), va_P D vwCl [(a_p0, .inr (0, [.ref a_p0_strokes, .ref a_p0_lengths, .ref a_p0_points, .ref a_p0_signCounts, .ref a_p0_signs])), (a_p0_strokes, .inl (cc 0, 17, .inl c_p0_strokes)), (a_p0_lengths, .inl (cc 0, 51, .inl c_p0_lengths))] H → va_D A [(a_p0, .inr (0, [.ref a_p0_strokes, .ref a_p0_lengths, .ref a_p0_points, .ref a_p0_signCounts, .ref a_p0_signs])), (a_p0_strokes, .inl (cc 0, 17, .inl c_p0_strokes)), (a_p0_lengths, .inl (cc 0, 51, .inl c_p0_lengths))] → va_S A s.heap H locs → lv_has ls 4 [(2, .int y2)] → W p l e ({ frames := 2, cells := 0, slots := 0, locals := 43 } : Room) s m args below meth c H locs 0 0 QQ (F0 m 28 ls [])) → W p l e ({ frames := 2, cells := 0, slots := 0, locals := 43 } : Room) s m args below meth c H locs 0 0 QQ (F0 m 4 ls []) := by
    intro QQ k4_1 x2 x3 r9 h H locs ls hP hD hS hl KS KX0
    unfold fX0_pointsOf_L4 at h
    refine lv_iload_n hx hb dX0_pointsOf_4 rfl (lv_at hl 3 rfl) ?_
    refine lv_aload_n hx hb dX0_pointsOf_5 rfl (lv_at hl 0 rfl) ?_
    refine lv_iload_n hx hb dX0_pointsOf_6 rfl (lv_at hl 1 rfl) ?_
    obtain ⟨r_1, hc1, h⟩ := b1_some h
    beta_reduce at h
    refine xcalli (wr := [(a_p0_lengths, .inl (cc 0, 51, .inl c_p0_lengths))]) [0, 1] [2] (xrunV (As := [.int k4_1]) (rest := [.int x3]) F (kX0_strokesOf l D cc (a_p0 := a_p0) (a_p0_strokes := a_p0_strokes) (a_p0_lengths := a_p0_lengths) (a_p0_points := a_p0_points) (a_p0_signCounts := a_p0_signCounts) (a_p0_signs := a_p0_signs) (c_p0_strokes := c_p0_strokes) (p1 := k4_1) (r0 := r_1) (h := hc1) H.size) (cwV 1 hts gX0_pointsOf_X0_strokesOf rfl rfl rfl (by decide +kernel) ⟨Nat.le_of_ble_eq_true rfl, Nat.le_of_ble_eq_true rfl⟩) hK hN hP hD [0, 1] rfl (by decide) (q0 := 0) rfl rfl rfl rfl hl rfl (Nat.le_of_ble_eq_true rfl) dX0_pointsOf_7 ⟨Nat.zero_le _, Nat.zero_le _⟩) hP hD hS hA rfl rfl (by decide) (by decide) (fun _ H locs hP hD hS => ?_)
    have hP : va_P D vwCl [(a_p0_lengths, .inl (cc 0, 51, .inl c_p0_lengths)), (a_p0, .inr (0, [.ref a_p0_strokes, .ref a_p0_lengths, .ref a_p0_points, .ref a_p0_signCounts, .ref a_p0_signs])), (a_p0_strokes, .inl (cc 0, 17, .inl c_p0_strokes))] H := hP
    have hD : va_D A [(a_p0_lengths, .inl (cc 0, 51, .inl c_p0_lengths)), (a_p0, .inr (0, [.ref a_p0_strokes, .ref a_p0_lengths, .ref a_p0_points, .ref a_p0_signCounts, .ref a_p0_signs])), (a_p0_strokes, .inl (cc 0, 17, .inl c_p0_strokes))] := hD
    refine lv_icmp_ge (tgt := 28) hx hb dX0_pointsOf_10 (by decide) (fun (c2 : r_1 ≤ x3) => ?_) (fun (c2 : ¬ r_1 ≤ x3) => ?_)
    · replace h := ip c2 h
      have hP := hP.sub (ws' := [(a_p0, .inr (0, [.ref a_p0_strokes, .ref a_p0_lengths, .ref a_p0_points, .ref a_p0_signCounts, .ref a_p0_signs])), (a_p0_strokes, .inl (cc 0, 17, .inl c_p0_strokes)), (a_p0_lengths, .inl (cc 0, 51, .inl c_p0_lengths))]) [1, 2, 0] rfl
      have hD := hD.sub (ws' := [(a_p0, .inr (0, [.ref a_p0_strokes, .ref a_p0_lengths, .ref a_p0_points, .ref a_p0_signCounts, .ref a_p0_signs])), (a_p0_strokes, .inl (cc 0, 17, .inl c_p0_strokes)), (a_p0_lengths, .inl (cc 0, 51, .inl c_p0_lengths))]) [1, 2, 0] (by decide) rfl
      have hl := lv_sub (l' := [(2, .int x2)]) hl [2] rfl
      cases h
      exact KX0 x2 rfl H locs ls hP hD hS hl
    · replace h := iq c2 h
      refine lv_iload_n hx hb dX0_pointsOf_13 rfl (lv_at hl 2 rfl) ?_
      refine lv_aload_n hx hb dX0_pointsOf_14 rfl (lv_at hl 0 rfl) ?_
      refine lv_iload_n hx hb dX0_pointsOf_15 rfl (lv_at hl 1 rfl) ?_
      refine lv_iload_n hx hb dX0_pointsOf_16 rfl (lv_at hl 3 rfl) ?_
      obtain ⟨r_3, hc3, h⟩ := b1_some h
      beta_reduce at h
      refine xcalli (wr := [(a_p0_strokes, .inl (cc 0, 17, .inl c_p0_strokes))]) [1, 0] [2] (xrunV (As := [.int k4_1, .int x3]) (rest := [.int x2]) F (kX0_lengthOf l D cc (a_p0 := a_p0) (a_p0_lengths := a_p0_lengths) (a_p0_strokes := a_p0_strokes) (a_p0_points := a_p0_points) (a_p0_signCounts := a_p0_signCounts) (a_p0_signs := a_p0_signs) (c_p0_lengths := c_p0_lengths) (p1 := k4_1) (p2 := x3) (r0 := r_3) (h := hc3) H.size) (cwV 2 hts gX0_pointsOf_X0_lengthOf rfl rfl rfl (by decide +kernel) ⟨Nat.le_of_ble_eq_true rfl, Nat.le_of_ble_eq_true rfl⟩) hK hN hP hD [1, 0] rfl (by decide) (q0 := 1) rfl rfl rfl rfl hl rfl (Nat.le_of_ble_eq_true rfl) dX0_pointsOf_17 ⟨Nat.zero_le _, Nat.zero_le _⟩) hP hD hS hA rfl rfl (by decide) (by decide) (fun _ H locs hP hD hS => ?_)
      have hP : va_P D vwCl [(a_p0_strokes, .inl (cc 0, 17, .inl c_p0_strokes)), (a_p0, .inr (0, [.ref a_p0_strokes, .ref a_p0_lengths, .ref a_p0_points, .ref a_p0_signCounts, .ref a_p0_signs])), (a_p0_lengths, .inl (cc 0, 51, .inl c_p0_lengths))] H := hP
      have hD : va_D A [(a_p0_strokes, .inl (cc 0, 17, .inl c_p0_strokes)), (a_p0, .inr (0, [.ref a_p0_strokes, .ref a_p0_lengths, .ref a_p0_points, .ref a_p0_signCounts, .ref a_p0_signs])), (a_p0_lengths, .inl (cc 0, 51, .inl c_p0_lengths))] := hD
      refine lv_iadd hx hb dX0_pointsOf_20 ?_
      refine lv_istore_n (x := x2 + r_3) (lv' := [(2, .int (x2 + r_3)), (0, .ref a_p0), (1, .int k4_1), (3, .int x3)]) hx hb dX0_pointsOf_21 rfl hl (by decide) rfl (fun ls hl => ?_)
      refine lv_iinc (v := x3 + (1 : Int32)) (lv' := [(3, .int (x3 + (1 : Int32))), (2, .int (x2 + r_3)), (0, .ref a_p0), (1, .int k4_1)]) hx hb dX0_pointsOf_22 hl (k := 3) rfl (by first | rfl | decide) (by decide) rfl (fun ls hl => ?_)
      refine lv_goto (tgt := 4) hx hb dX0_pointsOf_25 (by decide) ?_
      have hP := hP.sub (ws' := [(a_p0, .inr (0, [.ref a_p0_strokes, .ref a_p0_lengths, .ref a_p0_points, .ref a_p0_signCounts, .ref a_p0_signs])), (a_p0_strokes, .inl (cc 0, 17, .inl c_p0_strokes)), (a_p0_lengths, .inl (cc 0, 51, .inl c_p0_lengths))]) [1, 0, 2] rfl
      have hD := hD.sub (ws' := [(a_p0, .inr (0, [.ref a_p0_strokes, .ref a_p0_lengths, .ref a_p0_points, .ref a_p0_signCounts, .ref a_p0_signs])), (a_p0_strokes, .inl (cc 0, 17, .inl c_p0_strokes)), (a_p0_lengths, .inl (cc 0, 51, .inl c_p0_lengths))]) [1, 0, 2] (by decide) rfl
      have hl := lv_sub (l' := [(0, .ref a_p0), (1, .int k4_1), (2, .int (x2 + r_3)), (3, .int (x3 + (1 : Int32)))]) hl [2, 3, 1, 0] rfl
      cases h
      exact KS (x2 + r_3) (x3 + (1 : Int32)) rfl H locs ls hP hD hS hl
  have hL4 : ∀ (QQ : State → Prop) (n : Nat) (k4_1 : Int32) (x2 : Int32) (x3 : Int32) (r9 : Int32), loopF (fun (z : Int32 × Int32) => fX0_pointsOf_L4 c_p0_strokes c_p0_lengths k4_1 z.1 z.2) n (x2, x3) = some r9 → ∀ (H : Heap) (locs : List Loc) (ls : Array Slot), va_P D vwCl [(a_p0, .inr (0, [.ref a_p0_strokes, .ref a_p0_lengths, .ref a_p0_points, .ref a_p0_signCounts, .ref a_p0_signs])), (a_p0_strokes, .inl (cc 0, 17, .inl c_p0_strokes)), (a_p0_lengths, .inl (cc 0, 51, .inl c_p0_lengths))] H → va_D A [(a_p0, .inr (0, [.ref a_p0_strokes, .ref a_p0_lengths, .ref a_p0_points, .ref a_p0_signCounts, .ref a_p0_signs])), (a_p0_strokes, .inl (cc 0, 17, .inl c_p0_strokes)), (a_p0_lengths, .inl (cc 0, 51, .inl c_p0_lengths))] → va_S A s.heap H locs → lv_has ls 4 [(0, .ref a_p0), (1, .int k4_1), (2, .int x2), (3, .int x3)] → (∀ (y2 : Int32), r9 = y2 → ∀ (H : Heap) (locs : List Loc) (ls : Array Slot), va_P D vwCl [(a_p0, .inr (0, [.ref a_p0_strokes, .ref a_p0_lengths, .ref a_p0_points, .ref a_p0_signCounts, .ref a_p0_signs])), (a_p0_strokes, .inl (cc 0, 17, .inl c_p0_strokes)), (a_p0_lengths, .inl (cc 0, 51, .inl c_p0_lengths))] H → va_D A [(a_p0, .inr (0, [.ref a_p0_strokes, .ref a_p0_lengths, .ref a_p0_points, .ref a_p0_signCounts, .ref a_p0_signs])), (a_p0_strokes, .inl (cc 0, 17, .inl c_p0_strokes)), (a_p0_lengths, .inl (cc 0, 51, .inl c_p0_lengths))] → va_S A s.heap H locs → lv_has ls 4 [(2, .int y2)] → W p l e ({ frames := 2, cells := 0, slots := 0, locals := 43 } : Room) s m args below meth c H locs 0 0 QQ (F0 m 28 ls [])) → W p l e ({ frames := 2, cells := 0, slots := 0, locals := 43 } : Room) s m args below meth c H locs 0 0 QQ (F0 m 4 ls []) := by
    intro QQ n
    induction n with
    | zero => intro k4_1 x2 x3 r9 h; exact (loopF_zero h).elim
    | succ n ih =>
      intro k4_1 x2 x3 r9 h H locs ls hP hD hS hl KX0
      obtain ⟨z9, hz, h⟩ := loopF_step h
      exact hB4 QQ k4_1 x2 x3 z9 hz H locs ls hP hD hS hl (fun x2_b x3_b q9 H9 locs9 ls9 hP9 hD9 hS9 hl9 => ih k4_1 x2_b x3_b r9 (by rcases h with ⟨s9, h1, h2⟩ | h1 <;> rw [h1] at q9 <;> cases q9; exact h2) H9 locs9 ls9 hP9 hD9 hS9 hl9 KX0) (fun y2 q9 => KX0 y2 (by rcases h with ⟨s9, h1, h2⟩ | h1 <;> rw [h1] at q9 <;> cases q9; rfl))
  refine lv_iconst (v := (0 : Int32)) hx hb dX0_pointsOf_0 (by decide) ?_
  refine lv_istore_n (x := (0 : Int32)) (lv' := [(2, .int (0 : Int32)), (0, .ref a_p0), (1, .int p1)]) hx hb dX0_pointsOf_1 rfl hl (by decide) rfl (fun ls hl => ?_)
  refine lv_iconst (v := (0 : Int32)) hx hb dX0_pointsOf_2 (by decide) ?_
  refine lv_istore_n (x := (0 : Int32)) (lv' := [(3, .int (0 : Int32)), (2, .int (0 : Int32)), (0, .ref a_p0), (1, .int p1)]) hx hb dX0_pointsOf_3 rfl hl (by decide) rfl (fun ls hl => ?_)
  have hl := lv_sub (l' := [(0, .ref a_p0), (1, .int p1), (2, .int (0 : Int32)), (3, .int (0 : Int32))]) hl [2, 3, 1, 0] rfl
  obtain ⟨y2_4, hq9, h⟩ := b1_some h
  beta_reduce at h
  refine hL4 _ FUEL p1 (0 : Int32) (0 : Int32) y2_4 hq9 H locs ls hP hD hS hl (fun y2_4z q9 H locs ls hP hD hS hl => ?_)
  cases q9
  refine lv_iload_n hx hb dX0_pointsOf_28 rfl (lv_at hl 0 rfl) ?_
  cases h
  exact xendi (ret := none) F hsz hAe hK hP hD hS (fun _ => 0) rfl rfl (Nat.zero_le _) (Nat.zero_le _) dX0_pointsOf_29
