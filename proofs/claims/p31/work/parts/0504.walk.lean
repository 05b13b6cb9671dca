theorem inX2_rankedSample_X2 : ∀ w ∈ wsX20, w ∈ wsX2_rankedSample := by decide +kernel
theorem inX2_rankedSample_X4 : ∀ w ∈ wsX40, w ∈ wsX2_rankedSample := by decide +kernel
set_option maxHeartbeats 4000000 in
set_option maxRecDepth 100000 in
theorem kX2_rankedSample (l : Launch) (D : va_G) (cc : Nat → ClassId) (a_p1 : Nat) (a_p1_figures : Nat) (a_p1_names : Nat) (a_p1_settings : Nat) (a_p1_outcomes : Nat) (a_p0 : Nat) (a_p0_costs : Nat) (a_p0_distances : Nat) (a_p1_figures_strokes : Nat) (a_p1_figures_lengths : Nat) (a_p1_figures_points : Nat) (a_p1_figures_signCounts : Nat) (a_p1_figures_signs : Nat) (v_p1_samples : Int32) (v_p1_penDown : Int32) (v_p0_verdict : Int32) (v_p0_name : Int32) (v_p0_distance : Int32) (v_p0_sample : Int32) (c_p1_figures_signCounts : Nat → Int32) (c_p0_costs : Nat → Int32) (c_p1_figures_signs : Nat → Int32) (c_p0_distances : Nat → Int32) (p2 : Int32) (r0 : Int32) (c_p0_costs_o : Nat → Int32) (c_p0_distances_o : Nat → Int32) (h : fX2_rankedSample p2 v_p1_samples c_p1_figures_signCounts c_p0_costs c_p1_figures_signs c_p0_distances = some (r0, c_p0_costs_o, c_p0_distances_o)) : xMi l yX2_rankedSample wsX2_rankedSample ({ frames := 3, cells := 0, slots := 0, locals := 76 } : Room) D cc [.ref a_p0, .ref a_p1, .int p2] [(a_p1, .inr (4, [.ref a_p1_figures, .ref a_p1_names, .ref a_p1_settings, .ref a_p1_outcomes, .int v_p1_samples, .int v_p1_penDown])), (a_p0, .inr (2, [.ref a_p0_costs, .ref a_p0_distances, .int v_p0_verdict, .int v_p0_name, .int v_p0_distance, .int v_p0_sample])), (a_p1_figures, .inr (0, [.ref a_p1_figures_strokes, .ref a_p1_figures_lengths, .ref a_p1_figures_points, .ref a_p1_figures_signCounts, .ref a_p1_figures_signs])), (a_p1_figures_signCounts, .inl (cc 0, 17, .inl c_p1_figures_signCounts)), (a_p0_costs, .inl (cc 0, 41, .inl c_p0_costs)), (a_p1_figures_signs, .inl (cc 0, 680, .inl c_p1_figures_signs)), (a_p0_distances, .inl (cc 0, 16, .inl c_p0_distances))] r0 (fun _ => [(a_p1, .inr (4, [.ref a_p1_figures, .ref a_p1_names, .ref a_p1_settings, .ref a_p1_outcomes, .int v_p1_samples, .int v_p1_penDown])), (a_p0, .inr (2, [.ref a_p0_costs, .ref a_p0_distances, .int v_p0_verdict, .int v_p0_name, .int v_p0_distance, .int v_p0_sample])), (a_p1_figures, .inr (0, [.ref a_p1_figures_strokes, .ref a_p1_figures_lengths, .ref a_p1_figures_points, .ref a_p1_figures_signCounts, .ref a_p1_figures_signs])), (a_p1_figures_signCounts, .inl (cc 0, 17, .inl c_p1_figures_signCounts)), (a_p0_costs, .inl (cc 0, 41, .inl c_p0_costs_o)), (a_p1_figures_signs, .inl (cc 0, 680, .inl c_p1_figures_signs)), (a_p0_distances, .inl (cc 0, 16, .inl c_p0_distances_o))]) 0 0 := by
  intro sz
  refine xstart (bc := cX2_rankedSample) (maxL := 4) (ret := (some .int)) (by decide) rfl (Nat.le_of_ble_eq_true rfl) ?_
  intro p e s m args below meth c A hargs hsz hAe F hK hN hA hmn hP hD hS ls hl
  have hx := F.1.1
  have hb := F.1.2.1
  have hml := F.1.2.2.1
  have hown := F.1.2.2.2.1
  have hts := F.1.2.2.2.2
  have hl : lv_has ls 4 [(0, .ref a_p0), (1, .ref a_p1), (2, .int p2)] := hl
  have k1 := hts (.fieldLink RX2 28 "RuledStrokes$State" "samples" "I") (by decide +kernel)
  have k2 := hts (.fieldLink RX2 15 "RuledStrokes$Reader" "distances" "[I") (by decide +kernel)
  have k3 := hts (.fieldLink RX2 33 "RuledStrokes$State" "figures" "LRuledStrokes$Figures;") (by decide +kernel)
  have k4 := hts (.initialized RX6) (by decide +kernel)
  have k5 := hts (.static yX6_putCell) (by decide +kernel)
  have k6 := hts (.static yX6_cell) (by decide +kernel)
  unfold fX2_rankedSample at h
  have hB2 : ∀ (QQ : State → Prop) (k2_2 : Int32) (x3 : Int32) (c_p0_costs_L2 : Nat → Int32) (c_p0_distances_L2 : Nat → Int32) (r9 : (Int32 × (Nat → Int32) × (Nat → Int32)) ⊕ ((Nat → Int32) × (Nat → Int32))), fX2_rankedSample_L2 v_p1_samples c_p1_figures_signCounts c_p1_figures_signs x3 c_p0_costs_L2 c_p0_distances_L2 = some r9 → ∀ (H : Heap) (locs : List Loc) (ls : Array Slot), va_P D vwCl [(a_p1, .inr (4, [.ref a_p1_figures, .ref a_p1_names, .ref a_p1_settings, .ref a_p1_outcomes, .int v_p1_samples, .int v_p1_penDown])), (a_p0, .inr (2, [.ref a_p0_costs, .ref a_p0_distances, .int v_p0_verdict, .int v_p0_name, .int v_p0_distance, .int v_p0_sample])), (a_p1_figures, .inr (0, [.ref a_p1_figures_strokes, .ref a_p1_figures_lengths, .ref a_p1_figures_points, .ref a_p1_figures_signCounts, .ref a_p1_figures_signs])), (a_p1_figures_signCounts, .inl (cc 0, 17, .inl c_p1_figures_signCounts)), (a_p0_costs, .inl (cc 0, 41, .inl c_p0_costs_L2)), (a_p1_figures_signs, .inl (cc 0, 680, .inl c_p1_figures_signs)), (a_p0_distances, .inl (cc 0, 16, .inl c_p0_distances_L2))] H → va_D A [(a_p1, .inr (4, [.ref a_p1_figures, .ref a_p1_names, .ref a_p1_settings, .ref a_p1_outcomes, .int v_p1_samples, .int v_p1_penDown])), (a_p0, .inr (2, [.ref a_p0_costs, .ref a_p0_distances, .int v_p0_verdict, .int v_p0_name, .int v_p0_distance, .int v_p0_sample])), (a_p1_figures, .inr (0, [.ref a_p1_figures_strokes, .ref a_p1_figures_lengths, .ref a_p1_figures_points, .ref a_p1_figures_signCounts, .ref a_p1_figures_signs])), (a_p1_figures_signCounts, .inl (cc 0, 17, .inl c_p1_figures_signCounts)), (a_p0_costs, .inl (cc 0, 41, .inl c_p0_costs_L2)), (a_p1_figures_signs, .inl (cc 0, 680, .inl c_p1_figures_signs)), (a_p0_distances, .inl (cc 0, 16, .inl c_p0_distances_L2))] → va_S A s.heap H locs → lv_has ls 4 [(0, .ref a_p0), (1, .ref a_p1), (2, .int k2_2), (3, .int x3)] → (∀ (x3 : Int32) (c_p0_costs_L2 : Nat → Int32) (c_p0_distances_L2 : Nat → Int32), r9 = Sum.inl (x3, c_p0_costs_L2, c_p0_distances_L2) → ∀ (H : Heap) (locs : List Loc) (ls : Array Slot), va_P D vwCl [(a_p1, .inr (4, [.ref a_p1_figures, .ref a_p1_names, .ref a_p1_settings, .ref a_p1_outcomes, .int v_p1_samples, .int v_p1_penDown])), (a_p0, .inr (2, [.ref a_p0_costs, .ref a_p0_distances, .int v_p0_verdict, .int v_p0_name, .int v_p0_distance, .int v_p0_sample])), (a_p1_figures, .inr (0, [.ref a_p1_figures_strokes, .ref a_p1_figures_lengths, .ref a_p1_figures_points, .ref a_p1_figures_signCounts, .ref a_p1_figures_signs])), (a_p1_figures_signCounts, .inl (cc 0, 17, .inl c_p1_figures_signCounts)), (a_p0_costs, .inl (cc 0, 41, .inl c_p0_costs_L2)), (a_p1_figures_signs, .inl (cc 0, 680, .inl c_p1_figures_signs)), (a_p0_distances, .inl (cc 0, 16, .inl c_p0_distances_L2))] H → va_D A [(a_p1, .inr (4, [.ref a_p1_figures, .ref a_p1_names, .ref a_p1_settings, .ref a_p1_outcomes, .int v_p1_samples, .int v_p1_penDown])), (a_p0, .inr (2, [.ref a_p0_costs, .ref a_p0_distances, .int v_p0_verdict, .int v_p0_name, .int v_p0_distance, .int v_p0_sample])), (a_p1_figures, .inr (0, [.ref a_p1_figures_strokes, .ref a_p1_figures_lengths, .ref a_p1_figures_points, .ref a_p1_figures_signCounts, .ref a_p1_figures_signs])), (a_p1_figures_signCounts, .inl (cc 0, 17, .inl c_p1_figures_signCounts)), (a_p0_costs, .inl (cc 0, 41, .inl c_p0_costs_L2)), (a_p1_figures_signs, .inl (cc 0, 680, .inl c_p1_figures_signs)), (a_p0_distances, .inl (cc 0, 16, .inl c_p0_distances_L2))] → va_S A s.heap H locs → lv_has ls 4 [(0, .ref a_p0), (1, .ref a_p1), (2, .int k2_2), (3, .int x3)] → W p l e ({ frames := 3, cells := 0, slots := 0, locals := 76 } : Room) s m args below meth c H locs 0 0 QQ (F0 m 2 ls [])) → (∀ (c_p0_costs_E2 : Nat → Int32) (c_p0_distances_E2 : Nat → Int32), r9 = Sum.inr ((c_p0_costs_E2, c_p0_distances_E2)) → ∀ (H : Heap) (locs : List Loc) (ls : Array Slot), va_P D vwCl [(a_p1, .inr (4, [.ref a_p1_figures, .ref a_p1_names, .ref a_p1_settings, .ref a_p1_outcomes, .int v_p1_samples, .int v_p1_penDown])), (a_p0, .inr (2, [.ref a_p0_costs, .ref a_p0_distances, .int v_p0_verdict, .int v_p0_name, .int v_p0_distance, .int v_p0_sample])), (a_p1_figures, .inr (0, [.ref a_p1_figures_strokes, .ref a_p1_figures_lengths, .ref a_p1_figures_points, .ref a_p1_figures_signCounts, .ref a_p1_figures_signs])), (a_p1_figures_signCounts, .inl (cc 0, 17, .inl c_p1_figures_signCounts)), (a_p0_costs, .inl (cc 0, 41, .inl c_p0_costs_E2)), (a_p1_figures_signs, .inl (cc 0, 680, .inl c_p1_figures_signs)), (a_p0_distances, .inl (cc 0, 16, .inl c_p0_distances_E2))] H → va_D A [(a_p1, .inr (4, [.ref a_p1_figures, .ref a_p1_names, .ref a_p1_settings, .ref a_p1_outcomes, .int v_p1_samples, .int v_p1_penDown])), (a_p0, .inr (2, [.ref a_p0_costs, .ref a_p0_distances, .int v_p0_verdict, .int v_p0_name, .int v_p0_distance, .int v_p0_sample])), (a_p1_figures, .inr (0, [.ref a_p1_figures_strokes, .ref a_p1_figures_lengths, .ref a_p1_figures_points, .ref a_p1_figures_signCounts, .ref a_p1_figures_signs])), (a_p1_figures_signCounts, .inl (cc 0, 17, .inl c_p1_figures_signCounts)), (a_p0_costs, .inl (cc 0, 41, .inl c_p0_costs_E2)), (a_p1_figures_signs, .inl (cc 0, 680, .inl c_p1_figures_signs)), (a_p0_distances, .inl (cc 0, 16, .inl c_p0_distances_E2))] → va_S A s.heap H locs → lv_has ls 4 [(0, .ref a_p0), (1, .ref a_p1), (2, .int k2_2)] → W p l e ({ frames := 3, cells := 0, slots := 0, locals := 76 } : Room) s m args below meth c H locs 0 0 QQ (F0 m 35 ls [])) → W p l e ({ frames := 3, cells := 0, slots := 0, locals := 76 } : Room) s m args below meth c H locs 0 0 QQ (F0 m 2 ls []) := by
    intro QQ k2_2 x3 c_p0_costs_L2 c_p0_distances_L2 r9 h H locs ls hP hD hS hl KS KX0
    unfold fX2_rankedSample_L2 at h
    refine lv_iload_n hx hb dX2_rankedSample_2 rfl (lv_at hl 3 rfl) ?_
    refine lv_aload_n hx hb dX2_rankedSample_3 rfl (lv_at hl 1 rfl) ?_
    refine va_get (D := D) (ci := 4) (v := .int v_p1_samples) (C := RX4) (T := TX4) (N := 6) hx hb hts inX2_rankedSample_X4 hown hK hP 0 rfl rfl 4 (by decide) k1 (fun _ h9 => h9) rfl dX2_rankedSample_4 ?_
    refine lv_icmp_ge (tgt := 35) hx hb dX2_rankedSample_7 (by decide) (fun (c1 : v_p1_samples ≤ x3) => ?_) (fun (c1 : ¬ v_p1_samples ≤ x3) => ?_)
    · replace h := ip c1 h
      have hl := lv_sub (l' := [(0, .ref a_p0), (1, .ref a_p1), (2, .int k2_2)]) hl [0, 1, 2] rfl
      cases h
      exact KX0 c_p0_costs_L2 c_p0_distances_L2 rfl _ _ _ hP hD hS hl
    · replace h := iq c1 h
      refine lv_aload_n hx hb dX2_rankedSample_10 rfl (lv_at hl 0 rfl) ?_
      refine va_get (D := D) (ci := 2) (v := .ref a_p0_distances) (C := RX2) (T := TX2) (N := 6) hx hb hts inX2_rankedSample_X2 hown hK hP 1 rfl rfl 1 (by decide) k2 (fun _ h9 => h9) rfl dX2_rankedSample_11 ?_
      refine lv_iload_n hx hb dX2_rankedSample_14 rfl (lv_at hl 3 rfl) ?_
      refine lv_aload_n hx hb dX2_rankedSample_15 rfl (lv_at hl 0 rfl) ?_
      refine lv_aload_n hx hb dX2_rankedSample_16 rfl (lv_at hl 1 rfl) ?_
      refine va_get (D := D) (ci := 4) (v := .ref a_p1_figures) (C := RX4) (T := TX4) (N := 6) hx hb hts inX2_rankedSample_X4 hown hK hP 0 rfl rfl 0 (by decide) k3 (fun _ h9 => h9) rfl dX2_rankedSample_17 ?_
      refine lv_bipush (v := (16 : Int32)) hx hb dX2_rankedSample_20 (by decide) ?_
      refine lv_iload_n hx hb dX2_rankedSample_22 rfl (lv_at hl 3 rfl) ?_
      obtain ⟨r_2, c_p0_costs_2, hc2, h⟩ := b2_some h
      refine xcalli (wr := [(a_p1, .inr (4, [.ref a_p1_figures, .ref a_p1_names, .ref a_p1_settings, .ref a_p1_outcomes, .int v_p1_samples, .int v_p1_penDown])), (a_p0_distances, .inl (cc 0, 16, .inl c_p0_distances_L2))]) [2, 3, 1, 4, 5] [0, 6] (xrunV (As := [.ref a_p1_figures, .int (16 : Int32), .int x3]) (rest := [.int x3, .ref a_p0_distances]) F ((kX2_distanceOf l D cc (a_p1 := a_p1_figures) (a_p1_signCounts := a_p1_figures_signCounts) (a_p0 := a_p0) (a_p0_costs := a_p0_costs) (a_p1_signs := a_p1_figures_signs) (a_p1_strokes := a_p1_figures_strokes) (a_p1_lengths := a_p1_figures_lengths) (a_p1_points := a_p1_figures_points) (a_p0_distances := a_p0_distances) (c_p1_signCounts := c_p1_figures_signCounts) (v_p0_verdict := v_p0_verdict) (v_p0_name := v_p0_name) (v_p0_distance := v_p0_distance) (v_p0_sample := v_p0_sample) (c_p0_costs := c_p0_costs_L2) (c_p1_signs := c_p1_figures_signs) (p2 := (16 : Int32)) (p3 := x3) (r0 := r_2) (c_p0_costs_o := c_p0_costs_2) (h := hc2)) _) (cwV 3 hts gX2_rankedSample_X2_distanceOf rfl rfl rfl (by decide +kernel) ⟨Nat.le_of_ble_eq_true rfl, Nat.le_of_ble_eq_true rfl⟩) hK hN hP hD [2, 3, 1, 4, 5] rfl (by decide) (q0 := 1) rfl rfl rfl rfl hl rfl (Nat.le_of_ble_eq_true rfl) dX2_rankedSample_23 ⟨Nat.zero_le _, Nat.zero_le _⟩) hP hD hS hA rfl rfl (by decide) (by decide) (fun _ H locs hP hD hS => ?_)
      have hP : va_P D vwCl [(a_p1, .inr (4, [.ref a_p1_figures, .ref a_p1_names, .ref a_p1_settings, .ref a_p1_outcomes, .int v_p1_samples, .int v_p1_penDown])), (a_p0_distances, .inl (cc 0, 16, .inl c_p0_distances_L2)), (a_p1_figures, .inr (0, [.ref a_p1_figures_strokes, .ref a_p1_figures_lengths, .ref a_p1_figures_points, .ref a_p1_figures_signCounts, .ref a_p1_figures_signs])), (a_p1_figures_signCounts, .inl (cc 0, 17, .inl c_p1_figures_signCounts)), (a_p0, .inr (2, [.ref a_p0_costs, .ref a_p0_distances, .int v_p0_verdict, .int v_p0_name, .int v_p0_distance, .int v_p0_sample])), (a_p0_costs, .inl (cc 0, 41, .inl c_p0_costs_2)), (a_p1_figures_signs, .inl (cc 0, 680, .inl c_p1_figures_signs))] H := hP
      have hD : va_D A [(a_p1, .inr (4, [.ref a_p1_figures, .ref a_p1_names, .ref a_p1_settings, .ref a_p1_outcomes, .int v_p1_samples, .int v_p1_penDown])), (a_p0_distances, .inl (cc 0, 16, .inl c_p0_distances_L2)), (a_p1_figures, .inr (0, [.ref a_p1_figures_strokes, .ref a_p1_figures_lengths, .ref a_p1_figures_points, .ref a_p1_figures_signCounts, .ref a_p1_figures_signs])), (a_p1_figures_signCounts, .inl (cc 0, 17, .inl c_p1_figures_signCounts)), (a_p0, .inr (2, [.ref a_p0_costs, .ref a_p0_distances, .int v_p0_verdict, .int v_p0_name, .int v_p0_distance, .int v_p0_sample])), (a_p0_costs, .inl (cc 0, 41, .inl c_p0_costs_2)), (a_p1_figures_signs, .inl (cc 0, 680, .inl c_p1_figures_signs))] := hD
      refine xcallv (wr := [(a_p1, .inr (4, [.ref a_p1_figures, .ref a_p1_names, .ref a_p1_settings, .ref a_p1_outcomes, .int v_p1_samples, .int v_p1_penDown])), (a_p1_figures, .inr (0, [.ref a_p1_figures_strokes, .ref a_p1_figures_lengths, .ref a_p1_figures_points, .ref a_p1_figures_signCounts, .ref a_p1_figures_signs])), (a_p1_figures_signCounts, .inl (cc 0, 17, .inl c_p1_figures_signCounts)), (a_p0, .inr (2, [.ref a_p0_costs, .ref a_p0_distances, .int v_p0_verdict, .int v_p0_name, .int v_p0_distance, .int v_p0_sample])), (a_p0_costs, .inl (cc 0, 41, .inl c_p0_costs_2)), (a_p1_figures_signs, .inl (cc 0, 680, .inl c_p1_figures_signs))]) [1] [0, 2, 3, 4, 5, 6] (xrunSN (As := [.ref a_p0_distances, .int x3, .int r_2]) (rest := []) F ((kX6_putCellT l D cc (a_p0 := a_p0_distances) (n_p0 := 16) (c_p0 := c_p0_distances_L2) (p1 := x3) (p2 := r_2) (c_p0_o := (xput x3 r_2 16 c_p0_distances_L2)) (h := rfl)) _) ⟨va_cnB 3 hts gX2_rankedSample_X6_putCell_n41 rfl rfl rfl (hN.1 (.methodLinkNest RX2 41 yX6_putCell RX6) (by simp [xNest])) k4 (by decide +kernel) ⟨Nat.le_of_ble_eq_true rfl, Nat.le_of_ble_eq_true rfl⟩, k5⟩ hK hN hP hD [1] rfl (by decide) rfl hl rfl (Nat.le_of_ble_eq_true rfl) dX2_rankedSample_26 ⟨Nat.zero_le _, Nat.zero_le _⟩) hP hD hS hA rfl rfl (by decide) (by decide) (fun _ H locs hP hD hS => ?_)
      have hP : va_P D vwCl [(a_p1, .inr (4, [.ref a_p1_figures, .ref a_p1_names, .ref a_p1_settings, .ref a_p1_outcomes, .int v_p1_samples, .int v_p1_penDown])), (a_p1_figures, .inr (0, [.ref a_p1_figures_strokes, .ref a_p1_figures_lengths, .ref a_p1_figures_points, .ref a_p1_figures_signCounts, .ref a_p1_figures_signs])), (a_p1_figures_signCounts, .inl (cc 0, 17, .inl c_p1_figures_signCounts)), (a_p0, .inr (2, [.ref a_p0_costs, .ref a_p0_distances, .int v_p0_verdict, .int v_p0_name, .int v_p0_distance, .int v_p0_sample])), (a_p0_costs, .inl (cc 0, 41, .inl c_p0_costs_2)), (a_p1_figures_signs, .inl (cc 0, 680, .inl c_p1_figures_signs)), (a_p0_distances, .inl (cc 0, 16, .inl (xput x3 r_2 16 c_p0_distances_L2)))] H := hP
      have hD : va_D A [(a_p1, .inr (4, [.ref a_p1_figures, .ref a_p1_names, .ref a_p1_settings, .ref a_p1_outcomes, .int v_p1_samples, .int v_p1_penDown])), (a_p1_figures, .inr (0, [.ref a_p1_figures_strokes, .ref a_p1_figures_lengths, .ref a_p1_figures_points, .ref a_p1_figures_signCounts, .ref a_p1_figures_signs])), (a_p1_figures_signCounts, .inl (cc 0, 17, .inl c_p1_figures_signCounts)), (a_p0, .inr (2, [.ref a_p0_costs, .ref a_p0_distances, .int v_p0_verdict, .int v_p0_name, .int v_p0_distance, .int v_p0_sample])), (a_p0_costs, .inl (cc 0, 41, .inl c_p0_costs_2)), (a_p1_figures_signs, .inl (cc 0, 680, .inl c_p1_figures_signs)), (a_p0_distances, .inl (cc 0, 16, .inl (xput x3 r_2 16 c_p0_distances_L2)))] := hD
      refine lv_iinc (v := x3 + (1 : Int32)) (lv' := [(3, .int (x3 + (1 : Int32))), (0, .ref a_p0), (1, .ref a_p1), (2, .int k2_2)]) hx hb dX2_rankedSample_29 hl (k := 3) rfl (by first | rfl | decide) (by decide) rfl (fun ls hl => ?_)
      refine lv_goto (tgt := 2) hx hb dX2_rankedSample_32 (by decide) ?_
      have hP := hP.sub (ws' := [(a_p1, .inr (4, [.ref a_p1_figures, .ref a_p1_names, .ref a_p1_settings, .ref a_p1_outcomes, .int v_p1_samples, .int v_p1_penDown])), (a_p0, .inr (2, [.ref a_p0_costs, .ref a_p0_distances, .int v_p0_verdict, .int v_p0_name, .int v_p0_distance, .int v_p0_sample])), (a_p1_figures, .inr (0, [.ref a_p1_figures_strokes, .ref a_p1_figures_lengths, .ref a_p1_figures_points, .ref a_p1_figures_signCounts, .ref a_p1_figures_signs])), (a_p1_figures_signCounts, .inl (cc 0, 17, .inl c_p1_figures_signCounts)), (a_p0_costs, .inl (cc 0, 41, .inl c_p0_costs_2)), (a_p1_figures_signs, .inl (cc 0, 680, .inl c_p1_figures_signs)), (a_p0_distances, .inl (cc 0, 16, .inl (xput x3 r_2 16 c_p0_distances_L2)))]) [0, 3, 1, 2, 4, 5, 6] rfl
      have hD := hD.sub (ws' := [(a_p1, .inr (4, [.ref a_p1_figures, .ref a_p1_names, .ref a_p1_settings, .ref a_p1_outcomes, .int v_p1_samples, .int v_p1_penDown])), (a_p0, .inr (2, [.ref a_p0_costs, .ref a_p0_distances, .int v_p0_verdict, .int v_p0_name, .int v_p0_distance, .int v_p0_sample])), (a_p1_figures, .inr (0, [.ref a_p1_figures_strokes, .ref a_p1_figures_lengths, .ref a_p1_figures_points, .ref a_p1_figures_signCounts, .ref a_p1_figures_signs])), (a_p1_figures_signCounts, .inl (cc 0, 17, .inl c_p1_figures_signCounts)), (a_p0_costs, .inl (cc 0, 41, .inl c_p0_costs_2)), (a_p1_figures_signs, .inl (cc 0, 680, .inl c_p1_figures_signs)), (a_p0_distances, .inl (cc 0, 16, .inl (xput x3 r_2 16 c_p0_distances_L2)))]) [0, 3, 1, 2, 4, 5, 6] (by decide) rfl
      have hl := lv_sub (l' := [(0, .ref a_p0), (1, .ref a_p1), (2, .int k2_2), (3, .int (x3 + (1 : Int32)))]) hl [1, 2, 3, 0] rfl
      cases h
      exact KS (x3 + (1 : Int32)) c_p0_costs_2 (xput x3 r_2 16 c_p0_distances_L2) rfl _ _ _ hP hD hS hl
  have hL2 : ∀ (QQ : State → Prop) (n : Nat) (k2_2 : Int32) (x3 : Int32) (c_p0_costs_L2 : Nat → Int32) (c_p0_distances_L2 : Nat → Int32) (r9 : (Nat → Int32) × (Nat → Int32)), loopF (fun (z : Int32 × (Nat → Int32) × (Nat → Int32)) => fX2_rankedSample_L2 v_p1_samples c_p1_figures_signCounts c_p1_figures_signs z.1 z.2.1 z.2.2) n (x3, c_p0_costs_L2, c_p0_distances_L2) = some r9 → ∀ (H : Heap) (locs : List Loc) (ls : Array Slot), va_P D vwCl [(a_p1, .inr (4, [.ref a_p1_figures, .ref a_p1_names, .ref a_p1_settings, .ref a_p1_outcomes, .int v_p1_samples, .int v_p1_penDown])), (a_p0, .inr (2, [.ref a_p0_costs, .ref a_p0_distances, .int v_p0_verdict, .int v_p0_name, .int v_p0_distance, .int v_p0_sample])), (a_p1_figures, .inr (0, [.ref a_p1_figures_strokes, .ref a_p1_figures_lengths, .ref a_p1_figures_points, .ref a_p1_figures_signCounts, .ref a_p1_figures_signs])), (a_p1_figures_signCounts, .inl (cc 0, 17, .inl c_p1_figures_signCounts)), (a_p0_costs, .inl (cc 0, 41, .inl c_p0_costs_L2)), (a_p1_figures_signs, .inl (cc 0, 680, .inl c_p1_figures_signs)), (a_p0_distances, .inl (cc 0, 16, .inl c_p0_distances_L2))] H → va_D A [(a_p1, .inr (4, [.ref a_p1_figures, .ref a_p1_names, .ref a_p1_settings, .ref a_p1_outcomes, .int v_p1_samples, .int v_p1_penDown])), (a_p0, .inr (2, [.ref a_p0_costs, .ref a_p0_distances, .int v_p0_verdict, .int v_p0_name, .int v_p0_distance, .int v_p0_sample])), (a_p1_figures, .inr (0, [.ref a_p1_figures_strokes, .ref a_p1_figures_lengths, .ref a_p1_figures_points, .ref a_p1_figures_signCounts, .ref a_p1_figures_signs])), (a_p1_figures_signCounts, .inl (cc 0, 17, .inl c_p1_figures_signCounts)), (a_p0_costs, .inl (cc 0, 41, .inl c_p0_costs_L2)), (a_p1_figures_signs, .inl (cc 0, 680, .inl c_p1_figures_signs)), (a_p0_distances, .inl (cc 0, 16, .inl c_p0_distances_L2))] → va_S A s.heap H locs → lv_has ls 4 [(0, .ref a_p0), (1, .ref a_p1), (2, .int k2_2), (3, .int x3)] → (∀ (c_p0_costs_E2 : Nat → Int32) (c_p0_distances_E2 : Nat → Int32), r9 = (c_p0_costs_E2, c_p0_distances_E2) → ∀ (H : Heap) (locs : List Loc) (ls : Array Slot), va_P D vwCl [(a_p1, .inr (4, [.ref a_p1_figures, .ref a_p1_names, .ref a_p1_settings, .ref a_p1_outcomes, .int v_p1_samples, .int v_p1_penDown])), (a_p0, .inr (2, [.ref a_p0_costs, .ref a_p0_distances, .int v_p0_verdict, .int v_p0_name, .int v_p0_distance, .int v_p0_sample])), (a_p1_figures, .inr (0, [.ref a_p1_figures_strokes, .ref a_p1_figures_lengths, .ref a_p1_figures_points, .ref a_p1_figures_signCounts, .ref a_p1_figures_signs])), (a_p1_figures_signCounts, .inl (cc 0, 17, .inl c_p1_figures_signCounts)), (a_p0_costs, .inl (cc 0, 41, .inl c_p0_costs_E2)), (a_p1_figures_signs, .inl (cc 0, 680, .inl c_p1_figures_signs)), (a_p0_distances, .inl (cc 0, 16, .inl c_p0_distances_E2))] H → va_D A [(a_p1, .inr (4, [.ref a_p1_figures, .ref a_p1_names, .ref a_p1_settings, .ref a_p1_outcomes, .int v_p1_samples, .int v_p1_penDown])), (a_p0, .inr (2, [.ref a_p0_costs, .ref a_p0_distances, .int v_p0_verdict, .int v_p0_name, .int v_p0_distance, .int v_p0_sample])), (a_p1_figures, .inr (0, [.ref a_p1_figures_strokes, .ref a_p1_figures_lengths, .ref a_p1_figures_points, .ref a_p1_figures_signCounts, .ref a_p1_figures_signs])), (a_p1_figures_signCounts, .inl (cc 0, 17, .inl c_p1_figures_signCounts)), (a_p0_costs, .inl (cc 0, 41, .inl c_p0_costs_E2)), (a_p1_figures_signs, .inl (cc 0, 680, .inl c_p1_figures_signs)), (a_p0_distances, .inl (cc 0, 16, .inl c_p0_distances_E2))] → va_S A s.heap H locs → lv_has ls 4 [(0, .ref a_p0), (1, .ref a_p1), (2, .int k2_2)] → W p l e ({ frames := 3, cells := 0, slots := 0, locals := 76 } : Room) s m args below meth c H locs 0 0 QQ (F0 m 35 ls [])) → W p l e ({ frames := 3, cells := 0, slots := 0, locals := 76 } : Room) s m args below meth c H locs 0 0 QQ (F0 m 2 ls []) := by
    intro QQ n
    induction n with
    | zero => intro k2_2 x3 c_p0_costs_L2 c_p0_distances_L2 r9 h; exact (loopF_zero h).elim
    | succ n ih =>
      intro k2_2 x3 c_p0_costs_L2 c_p0_distances_L2 r9 h H locs ls hP hD hS hl KX0
      obtain ⟨z9, hz, h⟩ := loopF_step h
      exact hB2 QQ k2_2 x3 c_p0_costs_L2 c_p0_distances_L2 z9 hz H locs ls hP hD hS hl (fun x3_b c_p0_costs_L2_b c_p0_distances_L2_b q9 H9 locs9 ls9 hP9 hD9 hS9 hl9 => ih k2_2 x3_b c_p0_costs_L2_b c_p0_distances_L2_b r9 (by rcases h with ⟨s9, h1, h2⟩ | h1 <;> rw [h1] at q9 <;> cases q9; exact h2) H9 locs9 ls9 hP9 hD9 hS9 hl9 KX0) (fun c_p0_costs_E2 c_p0_distances_E2 q9 => KX0 c_p0_costs_E2 c_p0_distances_E2 (by rcases h with ⟨s9, h1, h2⟩ | h1 <;> rw [h1] at q9 <;> cases q9; rfl))
  have hB37 : ∀ (QQ : State → Prop) (k37_2 : Int32) (c_p0_costs_K37 : Nat → Int32) (c_p0_distances_K37 : Nat → Int32) (x3 : Int32) (r9 : (Int32) ⊕ ((Int32) ⊕ (Unit))), fX2_rankedSample_L37 v_p1_samples k37_2 c_p0_distances_K37 x3 = some r9 → ∀ (H : Heap) (locs : List Loc) (ls : Array Slot), va_P D vwCl [(a_p1, .inr (4, [.ref a_p1_figures, .ref a_p1_names, .ref a_p1_settings, .ref a_p1_outcomes, .int v_p1_samples, .int v_p1_penDown])), (a_p0, .inr (2, [.ref a_p0_costs, .ref a_p0_distances, .int v_p0_verdict, .int v_p0_name, .int v_p0_distance, .int v_p0_sample])), (a_p1_figures, .inr (0, [.ref a_p1_figures_strokes, .ref a_p1_figures_lengths, .ref a_p1_figures_points, .ref a_p1_figures_signCounts, .ref a_p1_figures_signs])), (a_p1_figures_signCounts, .inl (cc 0, 17, .inl c_p1_figures_signCounts)), (a_p0_costs, .inl (cc 0, 41, .inl c_p0_costs_K37)), (a_p1_figures_signs, .inl (cc 0, 680, .inl c_p1_figures_signs)), (a_p0_distances, .inl (cc 0, 16, .inl c_p0_distances_K37))] H → va_D A [(a_p1, .inr (4, [.ref a_p1_figures, .ref a_p1_names, .ref a_p1_settings, .ref a_p1_outcomes, .int v_p1_samples, .int v_p1_penDown])), (a_p0, .inr (2, [.ref a_p0_costs, .ref a_p0_distances, .int v_p0_verdict, .int v_p0_name, .int v_p0_distance, .int v_p0_sample])), (a_p1_figures, .inr (0, [.ref a_p1_figures_strokes, .ref a_p1_figures_lengths, .ref a_p1_figures_points, .ref a_p1_figures_signCounts, .ref a_p1_figures_signs])), (a_p1_figures_signCounts, .inl (cc 0, 17, .inl c_p1_figures_signCounts)), (a_p0_costs, .inl (cc 0, 41, .inl c_p0_costs_K37)), (a_p1_figures_signs, .inl (cc 0, 680, .inl c_p1_figures_signs)), (a_p0_distances, .inl (cc 0, 16, .inl c_p0_distances_K37))] → va_S A s.heap H locs → lv_has ls 4 [(0, .ref a_p0), (1, .ref a_p1), (2, .int k37_2), (3, .int x3)] → (∀ (x3 : Int32), r9 = Sum.inl x3 → ∀ (H : Heap) (locs : List Loc) (ls : Array Slot), va_P D vwCl [(a_p1, .inr (4, [.ref a_p1_figures, .ref a_p1_names, .ref a_p1_settings, .ref a_p1_outcomes, .int v_p1_samples, .int v_p1_penDown])), (a_p0, .inr (2, [.ref a_p0_costs, .ref a_p0_distances, .int v_p0_verdict, .int v_p0_name, .int v_p0_distance, .int v_p0_sample])), (a_p1_figures, .inr (0, [.ref a_p1_figures_strokes, .ref a_p1_figures_lengths, .ref a_p1_figures_points, .ref a_p1_figures_signCounts, .ref a_p1_figures_signs])), (a_p1_figures_signCounts, .inl (cc 0, 17, .inl c_p1_figures_signCounts)), (a_p0_costs, .inl (cc 0, 41, .inl c_p0_costs_K37)), (a_p1_figures_signs, .inl (cc 0, 680, .inl c_p1_figures_signs)), (a_p0_distances, .inl (cc 0, 16, .inl c_p0_distances_K37))] H → va_D A [(a_p1, .inr (4, [.ref a_p1_figures, .ref a_p1_names, .ref a_p1_settings, .ref a_p1_outcomes, .int v_p1_samples, .int v_p1_penDown])), (a_p0, .inr (2, [.ref a_p0_costs, .ref a_p0_distances, .int v_p0_verdict, .int v_p0_name, .int v_p0_distance, .int v_p0_sample])), (a_p1_figures, .inr (0, [.ref a_p1_figures_strokes, .ref a_p1_figures_lengths, .ref a_p1_figures_points, .ref a_p1_figures_signCounts, .ref a_p1_figures_signs])), (a_p1_figures_signCounts, .inl (cc 0, 17, .inl c_p1_figures_signCounts)), (a_p0_costs, .inl (cc 0, 41, .inl c_p0_costs_K37)), (a_p1_figures_signs, .inl (cc 0, 680, .inl c_p1_figures_signs)), (a_p0_distances, .inl (cc 0, 16, .inl c_p0_distances_K37))] → va_S A s.heap H locs → lv_has ls 4 [(0, .ref a_p0), (1, .ref a_p1), (2, .int k37_2), (3, .int x3)] → W p l e ({ frames := 3, cells := 0, slots := 0, locals := 76 } : Room) s m args below meth c H locs 0 0 QQ (F0 m 37 ls [])) → (∀ (y3 : Int32), r9 = Sum.inr (Sum.inl y3) → ∀ (H : Heap) (locs : List Loc) (ls : Array Slot), va_P D vwCl [(a_p1, .inr (4, [.ref a_p1_figures, .ref a_p1_names, .ref a_p1_settings, .ref a_p1_outcomes, .int v_p1_samples, .int v_p1_penDown])), (a_p0, .inr (2, [.ref a_p0_costs, .ref a_p0_distances, .int v_p0_verdict, .int v_p0_name, .int v_p0_distance, .int v_p0_sample])), (a_p1_figures, .inr (0, [.ref a_p1_figures_strokes, .ref a_p1_figures_lengths, .ref a_p1_figures_points, .ref a_p1_figures_signCounts, .ref a_p1_figures_signs])), (a_p1_figures_signCounts, .inl (cc 0, 17, .inl c_p1_figures_signCounts)), (a_p0_costs, .inl (cc 0, 41, .inl c_p0_costs_K37)), (a_p1_figures_signs, .inl (cc 0, 680, .inl c_p1_figures_signs)), (a_p0_distances, .inl (cc 0, 16, .inl c_p0_distances_K37))] H → va_D A [(a_p1, .inr (4, [.ref a_p1_figures, .ref a_p1_names, .ref a_p1_settings, .ref a_p1_outcomes, .int v_p1_samples, .int v_p1_penDown])), (a_p0, .inr (2, [.ref a_p0_costs, .ref a_p0_distances, .int v_p0_verdict, .int v_p0_name, .int v_p0_distance, .int v_p0_sample])), (a_p1_figures, .inr (0, [.ref a_p1_figures_strokes, .ref a_p1_figures_lengths, .ref a_p1_figures_points, .ref a_p1_figures_signCounts, .ref a_p1_figures_signs])), (a_p1_figures_signCounts, .inl (cc 0, 17, .inl c_p1_figures_signCounts)), (a_p0_costs, .inl (cc 0, 41, .inl c_p0_costs_K37)), (a_p1_figures_signs, .inl (cc 0, 680, .inl c_p1_figures_signs)), (a_p0_distances, .inl (cc 0, 16, .inl c_p0_distances_K37))] → va_S A s.heap H locs → lv_has ls 4 [(0, .ref a_p0), (3, .int y3)] → W p l e ({ frames := 3, cells := 0, slots := 0, locals := 76 } : Room) s m args below meth c H locs 0 0 QQ (F0 m 55 ls [])) → (∀ (_ : Unit), r9 = Sum.inr (Sum.inr ()) → ∀ (H : Heap) (locs : List Loc) (ls : Array Slot), va_P D vwCl [(a_p1, .inr (4, [.ref a_p1_figures, .ref a_p1_names, .ref a_p1_settings, .ref a_p1_outcomes, .int v_p1_samples, .int v_p1_penDown])), (a_p0, .inr (2, [.ref a_p0_costs, .ref a_p0_distances, .int v_p0_verdict, .int v_p0_name, .int v_p0_distance, .int v_p0_sample])), (a_p1_figures, .inr (0, [.ref a_p1_figures_strokes, .ref a_p1_figures_lengths, .ref a_p1_figures_points, .ref a_p1_figures_signCounts, .ref a_p1_figures_signs])), (a_p1_figures_signCounts, .inl (cc 0, 17, .inl c_p1_figures_signCounts)), (a_p0_costs, .inl (cc 0, 41, .inl c_p0_costs_K37)), (a_p1_figures_signs, .inl (cc 0, 680, .inl c_p1_figures_signs)), (a_p0_distances, .inl (cc 0, 16, .inl c_p0_distances_K37))] H → va_D A [(a_p1, .inr (4, [.ref a_p1_figures, .ref a_p1_names, .ref a_p1_settings, .ref a_p1_outcomes, .int v_p1_samples, .int v_p1_penDown])), (a_p0, .inr (2, [.ref a_p0_costs, .ref a_p0_distances, .int v_p0_verdict, .int v_p0_name, .int v_p0_distance, .int v_p0_sample])), (a_p1_figures, .inr (0, [.ref a_p1_figures_strokes, .ref a_p1_figures_lengths, .ref a_p1_figures_points, .ref a_p1_figures_signCounts, .ref a_p1_figures_signs])), (a_p1_figures_signCounts, .inl (cc 0, 17, .inl c_p1_figures_signCounts)), (a_p0_costs, .inl (cc 0, 41, .inl c_p0_costs_K37)), (a_p1_figures_signs, .inl (cc 0, 680, .inl c_p1_figures_signs)), (a_p0_distances, .inl (cc 0, 16, .inl c_p0_distances_K37))] → va_S A s.heap H locs → lv_has ls 4 [] → W p l e ({ frames := 3, cells := 0, slots := 0, locals := 76 } : Room) s m args below meth c H locs 0 0 QQ (F0 m 76 ls [])) → W p l e ({ frames := 3, cells := 0, slots := 0, locals := 76 } : Room) s m args below meth c H locs 0 0 QQ (F0 m 37 ls []) := by
    intro QQ k37_2 c_p0_costs_K37 c_p0_distances_K37 x3 r9 h H locs ls hP hD hS hl KS KX0 KX1
    unfold fX2_rankedSample_L37 at h
    refine lv_iload_n hx hb dX2_rankedSample_37 rfl (lv_at hl 3 rfl) ?_
    refine lv_aload_n hx hb dX2_rankedSample_38 rfl (lv_at hl 1 rfl) ?_
    refine va_get (D := D) (ci := 4) (v := .int v_p1_samples) (C := RX4) (T := TX4) (N := 6) hx hb hts inX2_rankedSample_X4 hown hK hP 0 rfl rfl 4 (by decide) k1 (fun _ h9 => h9) rfl dX2_rankedSample_39 ?_
    refine lv_icmp_ge (tgt := 76) hx hb dX2_rankedSample_42 (by decide) (fun (c6 : v_p1_samples ≤ x3) => ?_) (fun (c6 : ¬ v_p1_samples ≤ x3) => ?_)
    · replace h := ip c6 h
      have hl := lv_sub (l' := []) hl [] rfl
      cases h
      exact KX1 () rfl _ _ _ hP hD hS hl
    · replace h := iq c6 h
      refine lv_aload_n hx hb dX2_rankedSample_45 rfl (lv_at hl 0 rfl) ?_
      refine lv_aload_n hx hb dX2_rankedSample_46 rfl (lv_at hl 1 rfl) ?_
      refine lv_iload_n hx hb dX2_rankedSample_47 rfl (lv_at hl 3 rfl) ?_
      obtain ⟨r_7, hc7, h⟩ := b1_some h
      refine xcalli (wr := [(a_p1_figures, .inr (0, [.ref a_p1_figures_strokes, .ref a_p1_figures_lengths, .ref a_p1_figures_points, .ref a_p1_figures_signCounts, .ref a_p1_figures_signs])), (a_p1_figures_signCounts, .inl (cc 0, 17, .inl c_p1_figures_signCounts)), (a_p0_costs, .inl (cc 0, 41, .inl c_p0_costs_K37)), (a_p1_figures_signs, .inl (cc 0, 680, .inl c_p1_figures_signs))]) [1, 6, 0] [2, 3, 4, 5] (xrunV (As := [.ref a_p1, .int x3]) (rest := []) F ((kX2_samplesBefore l D cc (a_p0 := a_p0) (a_p0_distances := a_p0_distances) (a_p1 := a_p1) (a_p0_costs := a_p0_costs) (a_p1_figures := a_p1_figures) (a_p1_names := a_p1_names) (a_p1_settings := a_p1_settings) (a_p1_outcomes := a_p1_outcomes) (v_p0_verdict := v_p0_verdict) (v_p0_name := v_p0_name) (v_p0_distance := v_p0_distance) (v_p0_sample := v_p0_sample) (c_p0_distances := c_p0_distances_K37) (v_p1_samples := v_p1_samples) (v_p1_penDown := v_p1_penDown) (p2 := x3) (r0 := r_7) (h := hc7)) _) (cwV 2 hts gX2_rankedSample_X2_samplesBefore rfl rfl rfl (by decide +kernel) ⟨Nat.le_of_ble_eq_true rfl, Nat.le_of_ble_eq_true rfl⟩) hK hN hP hD [1, 6, 0] rfl (by decide) (q0 := 1) rfl rfl rfl rfl hl rfl (Nat.le_of_ble_eq_true rfl) dX2_rankedSample_48 ⟨Nat.zero_le _, Nat.zero_le _⟩) hP hD hS hA rfl rfl (by decide) (by decide) (fun _ H locs hP hD hS => ?_)
      have hP : va_P D vwCl [(a_p1_figures, .inr (0, [.ref a_p1_figures_strokes, .ref a_p1_figures_lengths, .ref a_p1_figures_points, .ref a_p1_figures_signCounts, .ref a_p1_figures_signs])), (a_p1_figures_signCounts, .inl (cc 0, 17, .inl c_p1_figures_signCounts)), (a_p0_costs, .inl (cc 0, 41, .inl c_p0_costs_K37)), (a_p1_figures_signs, .inl (cc 0, 680, .inl c_p1_figures_signs)), (a_p0, .inr (2, [.ref a_p0_costs, .ref a_p0_distances, .int v_p0_verdict, .int v_p0_name, .int v_p0_distance, .int v_p0_sample])), (a_p0_distances, .inl (cc 0, 16, .inl c_p0_distances_K37)), (a_p1, .inr (4, [.ref a_p1_figures, .ref a_p1_names, .ref a_p1_settings, .ref a_p1_outcomes, .int v_p1_samples, .int v_p1_penDown]))] H := hP
      have hD : va_D A [(a_p1_figures, .inr (0, [.ref a_p1_figures_strokes, .ref a_p1_figures_lengths, .ref a_p1_figures_points, .ref a_p1_figures_signCounts, .ref a_p1_figures_signs])), (a_p1_figures_signCounts, .inl (cc 0, 17, .inl c_p1_figures_signCounts)), (a_p0_costs, .inl (cc 0, 41, .inl c_p0_costs_K37)), (a_p1_figures_signs, .inl (cc 0, 680, .inl c_p1_figures_signs)), (a_p0, .inr (2, [.ref a_p0_costs, .ref a_p0_distances, .int v_p0_verdict, .int v_p0_name, .int v_p0_distance, .int v_p0_sample])), (a_p0_distances, .inl (cc 0, 16, .inl c_p0_distances_K37)), (a_p1, .inr (4, [.ref a_p1_figures, .ref a_p1_names, .ref a_p1_settings, .ref a_p1_outcomes, .int v_p1_samples, .int v_p1_penDown]))] := hD
      refine lv_iload_n hx hb dX2_rankedSample_51 rfl (lv_at hl 2 rfl) ?_
      refine lv_icmp_ne (tgt := 70) hx hb dX2_rankedSample_52 (by decide) (fun (c9 : ¬ r_7 = k37_2) => ?_) (fun (c9 : r_7 = k37_2) => ?_)
      · replace h := iq c9 h
        refine lv_iinc (v := x3 + (1 : Int32)) (lv' := [(3, .int (x3 + (1 : Int32))), (0, .ref a_p0), (1, .ref a_p1), (2, .int k37_2)]) hx hb dX2_rankedSample_70 hl (k := 3) rfl (by first | rfl | decide) (by decide) rfl (fun ls hl => ?_)
        refine lv_goto (tgt := 37) hx hb dX2_rankedSample_73 (by decide) ?_
        have hP := hP.sub (ws' := [(a_p1, .inr (4, [.ref a_p1_figures, .ref a_p1_names, .ref a_p1_settings, .ref a_p1_outcomes, .int v_p1_samples, .int v_p1_penDown])), (a_p0, .inr (2, [.ref a_p0_costs, .ref a_p0_distances, .int v_p0_verdict, .int v_p0_name, .int v_p0_distance, .int v_p0_sample])), (a_p1_figures, .inr (0, [.ref a_p1_figures_strokes, .ref a_p1_figures_lengths, .ref a_p1_figures_points, .ref a_p1_figures_signCounts, .ref a_p1_figures_signs])), (a_p1_figures_signCounts, .inl (cc 0, 17, .inl c_p1_figures_signCounts)), (a_p0_costs, .inl (cc 0, 41, .inl c_p0_costs_K37)), (a_p1_figures_signs, .inl (cc 0, 680, .inl c_p1_figures_signs)), (a_p0_distances, .inl (cc 0, 16, .inl c_p0_distances_K37))]) [6, 4, 0, 1, 2, 3, 5] rfl
        have hD := hD.sub (ws' := [(a_p1, .inr (4, [.ref a_p1_figures, .ref a_p1_names, .ref a_p1_settings, .ref a_p1_outcomes, .int v_p1_samples, .int v_p1_penDown])), (a_p0, .inr (2, [.ref a_p0_costs, .ref a_p0_distances, .int v_p0_verdict, .int v_p0_name, .int v_p0_distance, .int v_p0_sample])), (a_p1_figures, .inr (0, [.ref a_p1_figures_strokes, .ref a_p1_figures_lengths, .ref a_p1_figures_points, .ref a_p1_figures_signCounts, .ref a_p1_figures_signs])), (a_p1_figures_signCounts, .inl (cc 0, 17, .inl c_p1_figures_signCounts)), (a_p0_costs, .inl (cc 0, 41, .inl c_p0_costs_K37)), (a_p1_figures_signs, .inl (cc 0, 680, .inl c_p1_figures_signs)), (a_p0_distances, .inl (cc 0, 16, .inl c_p0_distances_K37))]) [6, 4, 0, 1, 2, 3, 5] (by decide) rfl
        have hl := lv_sub (l' := [(0, .ref a_p0), (1, .ref a_p1), (2, .int k37_2), (3, .int (x3 + (1 : Int32)))]) hl [1, 2, 3, 0] rfl
        cases h
        exact KS (x3 + (1 : Int32)) rfl _ _ _ hP hD hS hl
      · replace h := ip c9 h
        have hP := hP.sub (ws' := [(a_p1, .inr (4, [.ref a_p1_figures, .ref a_p1_names, .ref a_p1_settings, .ref a_p1_outcomes, .int v_p1_samples, .int v_p1_penDown])), (a_p0, .inr (2, [.ref a_p0_costs, .ref a_p0_distances, .int v_p0_verdict, .int v_p0_name, .int v_p0_distance, .int v_p0_sample])), (a_p1_figures, .inr (0, [.ref a_p1_figures_strokes, .ref a_p1_figures_lengths, .ref a_p1_figures_points, .ref a_p1_figures_signCounts, .ref a_p1_figures_signs])), (a_p1_figures_signCounts, .inl (cc 0, 17, .inl c_p1_figures_signCounts)), (a_p0_costs, .inl (cc 0, 41, .inl c_p0_costs_K37)), (a_p1_figures_signs, .inl (cc 0, 680, .inl c_p1_figures_signs)), (a_p0_distances, .inl (cc 0, 16, .inl c_p0_distances_K37))]) [6, 4, 0, 1, 2, 3, 5] rfl
        have hD := hD.sub (ws' := [(a_p1, .inr (4, [.ref a_p1_figures, .ref a_p1_names, .ref a_p1_settings, .ref a_p1_outcomes, .int v_p1_samples, .int v_p1_penDown])), (a_p0, .inr (2, [.ref a_p0_costs, .ref a_p0_distances, .int v_p0_verdict, .int v_p0_name, .int v_p0_distance, .int v_p0_sample])), (a_p1_figures, .inr (0, [.ref a_p1_figures_strokes, .ref a_p1_figures_lengths, .ref a_p1_figures_points, .ref a_p1_figures_signCounts, .ref a_p1_figures_signs])), (a_p1_figures_signCounts, .inl (cc 0, 17, .inl c_p1_figures_signCounts)), (a_p0_costs, .inl (cc 0, 41, .inl c_p0_costs_K37)), (a_p1_figures_signs, .inl (cc 0, 680, .inl c_p1_figures_signs)), (a_p0_distances, .inl (cc 0, 16, .inl c_p0_distances_K37))]) [6, 4, 0, 1, 2, 3, 5] (by decide) rfl
        have hl := lv_sub (l' := [(0, .ref a_p0), (3, .int x3)]) hl [0, 3] rfl
        cases h
        exact KX0 x3 rfl _ _ _ hP hD hS hl
  have hL37 : ∀ (QQ : State → Prop) (n : Nat) (k37_2 : Int32) (c_p0_costs_K37 : Nat → Int32) (c_p0_distances_K37 : Nat → Int32) (x3 : Int32) (r9 : (Int32) ⊕ (Unit)), loopF (fun (z : Int32) => fX2_rankedSample_L37 v_p1_samples k37_2 c_p0_distances_K37 z) n x3 = some r9 → ∀ (H : Heap) (locs : List Loc) (ls : Array Slot), va_P D vwCl [(a_p1, .inr (4, [.ref a_p1_figures, .ref a_p1_names, .ref a_p1_settings, .ref a_p1_outcomes, .int v_p1_samples, .int v_p1_penDown])), (a_p0, .inr (2, [.ref a_p0_costs, .ref a_p0_distances, .int v_p0_verdict, .int v_p0_name, .int v_p0_distance, .int v_p0_sample])), (a_p1_figures, .inr (0, [.ref a_p1_figures_strokes, .ref a_p1_figures_lengths, .ref a_p1_figures_points, .ref a_p1_figures_signCounts, .ref a_p1_figures_signs])), (a_p1_figures_signCounts, .inl (cc 0, 17, .inl c_p1_figures_signCounts)), (a_p0_costs, .inl (cc 0, 41, .inl c_p0_costs_K37)), (a_p1_figures_signs, .inl (cc 0, 680, .inl c_p1_figures_signs)), (a_p0_distances, .inl (cc 0, 16, .inl c_p0_distances_K37))] H → va_D A [(a_p1, .inr (4, [.ref a_p1_figures, .ref a_p1_names, .ref a_p1_settings, .ref a_p1_outcomes, .int v_p1_samples, .int v_p1_penDown])), (a_p0, .inr (2, [.ref a_p0_costs, .ref a_p0_distances, .int v_p0_verdict, .int v_p0_name, .int v_p0_distance, .int v_p0_sample])), (a_p1_figures, .inr (0, [.ref a_p1_figures_strokes, .ref a_p1_figures_lengths, .ref a_p1_figures_points, .ref a_p1_figures_signCounts, .ref a_p1_figures_signs])), (a_p1_figures_signCounts, .inl (cc 0, 17, .inl c_p1_figures_signCounts)), (a_p0_costs, .inl (cc 0, 41, .inl c_p0_costs_K37)), (a_p1_figures_signs, .inl (cc 0, 680, .inl c_p1_figures_signs)), (a_p0_distances, .inl (cc 0, 16, .inl c_p0_distances_K37))] → va_S A s.heap H locs → lv_has ls 4 [(0, .ref a_p0), (1, .ref a_p1), (2, .int k37_2), (3, .int x3)] → (∀ (y3 : Int32), r9 = Sum.inl y3 → ∀ (H : Heap) (locs : List Loc) (ls : Array Slot), va_P D vwCl [(a_p1, .inr (4, [.ref a_p1_figures, .ref a_p1_names, .ref a_p1_settings, .ref a_p1_outcomes, .int v_p1_samples, .int v_p1_penDown])), (a_p0, .inr (2, [.ref a_p0_costs, .ref a_p0_distances, .int v_p0_verdict, .int v_p0_name, .int v_p0_distance, .int v_p0_sample])), (a_p1_figures, .inr (0, [.ref a_p1_figures_strokes, .ref a_p1_figures_lengths, .ref a_p1_figures_points, .ref a_p1_figures_signCounts, .ref a_p1_figures_signs])), (a_p1_figures_signCounts, .inl (cc 0, 17, .inl c_p1_figures_signCounts)), (a_p0_costs, .inl (cc 0, 41, .inl c_p0_costs_K37)), (a_p1_figures_signs, .inl (cc 0, 680, .inl c_p1_figures_signs)), (a_p0_distances, .inl (cc 0, 16, .inl c_p0_distances_K37))] H → va_D A [(a_p1, .inr (4, [.ref a_p1_figures, .ref a_p1_names, .ref a_p1_settings, .ref a_p1_outcomes, .int v_p1_samples, .int v_p1_penDown])), (a_p0, .inr (2, [.ref a_p0_costs, .ref a_p0_distances, .int v_p0_verdict, .int v_p0_name, .int v_p0_distance, .int v_p0_sample])), (a_p1_figures, .inr (0, [.ref a_p1_figures_strokes, .ref a_p1_figures_lengths, .ref a_p1_figures_points, .ref a_p1_figures_signCounts, .ref a_p1_figures_signs])), (a_p1_figures_signCounts, .inl (cc 0, 17, .inl c_p1_figures_signCounts)), (a_p0_costs, .inl (cc 0, 41, .inl c_p0_costs_K37)), (a_p1_figures_signs, .inl (cc 0, 680, .inl c_p1_figures_signs)), (a_p0_distances, .inl (cc 0, 16, .inl c_p0_distances_K37))] → va_S A s.heap H locs → lv_has ls 4 [(0, .ref a_p0), (3, .int y3)] → W p l e ({ frames := 3, cells := 0, slots := 0, locals := 76 } : Room) s m args below meth c H locs 0 0 QQ (F0 m 55 ls [])) → (∀ (_ : Unit), r9 = Sum.inr () → ∀ (H : Heap) (locs : List Loc) (ls : Array Slot), va_P D vwCl [(a_p1, .inr (4, [.ref a_p1_figures, .ref a_p1_names, .ref a_p1_settings, .ref a_p1_outcomes, .int v_p1_samples, .int v_p1_penDown])), (a_p0, .inr (2, [.ref a_p0_costs, .ref a_p0_distances, .int v_p0_verdict, .int v_p0_name, .int v_p0_distance, .int v_p0_sample])), (a_p1_figures, .inr (0, [.ref a_p1_figures_strokes, .ref a_p1_figures_lengths, .ref a_p1_figures_points, .ref a_p1_figures_signCounts, .ref a_p1_figures_signs])), (a_p1_figures_signCounts, .inl (cc 0, 17, .inl c_p1_figures_signCounts)), (a_p0_costs, .inl (cc 0, 41, .inl c_p0_costs_K37)), (a_p1_figures_signs, .inl (cc 0, 680, .inl c_p1_figures_signs)), (a_p0_distances, .inl (cc 0, 16, .inl c_p0_distances_K37))] H → va_D A [(a_p1, .inr (4, [.ref a_p1_figures, .ref a_p1_names, .ref a_p1_settings, .ref a_p1_outcomes, .int v_p1_samples, .int v_p1_penDown])), (a_p0, .inr (2, [.ref a_p0_costs, .ref a_p0_distances, .int v_p0_verdict, .int v_p0_name, .int v_p0_distance, .int v_p0_sample])), (a_p1_figures, .inr (0, [.ref a_p1_figures_strokes, .ref a_p1_figures_lengths, .ref a_p1_figures_points, .ref a_p1_figures_signCounts, .ref a_p1_figures_signs])), (a_p1_figures_signCounts, .inl (cc 0, 17, .inl c_p1_figures_signCounts)), (a_p0_costs, .inl (cc 0, 41, .inl c_p0_costs_K37)), (a_p1_figures_signs, .inl (cc 0, 680, .inl c_p1_figures_signs)), (a_p0_distances, .inl (cc 0, 16, .inl c_p0_distances_K37))] → va_S A s.heap H locs → lv_has ls 4 [] → W p l e ({ frames := 3, cells := 0, slots := 0, locals := 76 } : Room) s m args below meth c H locs 0 0 QQ (F0 m 76 ls [])) → W p l e ({ frames := 3, cells := 0, slots := 0, locals := 76 } : Room) s m args below meth c H locs 0 0 QQ (F0 m 37 ls []) := by
    intro QQ n
    induction n with
    | zero => intro k37_2 c_p0_costs_K37 c_p0_distances_K37 x3 r9 h; exact (loopF_zero h).elim
    | succ n ih =>
      intro k37_2 c_p0_costs_K37 c_p0_distances_K37 x3 r9 h H locs ls hP hD hS hl KX0 KX1
      obtain ⟨z9, hz, h⟩ := loopF_step h
      exact hB37 QQ k37_2 c_p0_costs_K37 c_p0_distances_K37 x3 z9 hz H locs ls hP hD hS hl (fun x3_b q9 H9 locs9 ls9 hP9 hD9 hS9 hl9 => ih k37_2 c_p0_costs_K37 c_p0_distances_K37 x3_b r9 (by rcases h with ⟨s9, h1, h2⟩ | h1 <;> rw [h1] at q9 <;> cases q9; exact h2) H9 locs9 ls9 hP9 hD9 hS9 hl9 KX0 KX1) (fun y3 q9 => KX0 y3 (by rcases h with ⟨s9, h1, h2⟩ | h1 <;> rw [h1] at q9 <;> cases q9; rfl)) (fun u9 q9 => KX1 u9 (by rcases h with ⟨s9, h1, h2⟩ | h1 <;> rw [h1] at q9 <;> cases q9; rfl))
  refine lv_iconst (v := (0 : Int32)) hx hb dX2_rankedSample_0 (by decide) ?_
  refine lv_istore_n (x := (0 : Int32)) (lv' := [(3, .int (0 : Int32)), (0, .ref a_p0), (1, .ref a_p1), (2, .int p2)]) hx hb dX2_rankedSample_1 rfl hl (by decide) rfl (fun ls hl => ?_)
  have hl := lv_sub (l' := [(0, .ref a_p0), (1, .ref a_p1), (2, .int p2), (3, .int (0 : Int32))]) hl [1, 2, 3, 0] rfl
  obtain ⟨c_p0_costs_5, c_p0_distances_5, hq9, h⟩ := b2_some h
  refine hL2 _ FUEL p2 (0 : Int32) c_p0_costs c_p0_distances (c_p0_costs_5, c_p0_distances_5) hq9 _ _ _ hP hD hS hl (fun c_p0_costs_5z c_p0_distances_5z q9 H locs ls hP hD hS hl => ?_)
  cases q9
  refine lv_iconst (v := (0 : Int32)) hx hb dX2_rankedSample_35 (by decide) ?_
  refine lv_istore_n (x := (0 : Int32)) (lv' := [(3, .int (0 : Int32)), (0, .ref a_p0), (1, .ref a_p1), (2, .int p2)]) hx hb dX2_rankedSample_36 rfl hl (by decide) rfl (fun ls hl => ?_)
  have hl := lv_sub (l' := [(0, .ref a_p0), (1, .ref a_p1), (2, .int p2), (3, .int (0 : Int32))]) hl [1, 2, 3, 0] rfl
  obtain ⟨e9, hq9, h⟩ := b1_some h
  refine hL37 _ FUEL p2 c_p0_costs_5 c_p0_distances_5 (0 : Int32) e9 hq9 _ _ _ hP hD hS hl (fun y3_10 q9 H locs ls hP hD hS hl => ?_) (fun _ q9 H locs ls hP hD hS hl => ?_)
  · subst q9
    replace h := xs20 h
    skip
    refine lv_sipush (v := (1000 : Int32)) hx hb dX2_rankedSample_55 (by decide) ?_
    refine lv_iload_n hx hb dX2_rankedSample_58 rfl (lv_at hl 1 rfl) ?_
    refine lv_imul hx hb dX2_rankedSample_59 ?_
    refine lv_aload_n hx hb dX2_rankedSample_60 rfl (lv_at hl 0 rfl) ?_
    refine va_get (D := D) (ci := 2) (v := .ref a_p0_distances) (C := RX2) (T := TX2) (N := 6) hx hb hts inX2_rankedSample_X2 hown hK hP 1 rfl rfl 1 (by decide) k2 (fun _ h9 => h9) rfl dX2_rankedSample_61 ?_
    refine lv_iload_n hx hb dX2_rankedSample_64 rfl (lv_at hl 1 rfl) ?_
    refine xcalli (wr := [(a_p1, .inr (4, [.ref a_p1_figures, .ref a_p1_names, .ref a_p1_settings, .ref a_p1_outcomes, .int v_p1_samples, .int v_p1_penDown])), (a_p0, .inr (2, [.ref a_p0_costs, .ref a_p0_distances, .int v_p0_verdict, .int v_p0_name, .int v_p0_distance, .int v_p0_sample])), (a_p1_figures, .inr (0, [.ref a_p1_figures_strokes, .ref a_p1_figures_lengths, .ref a_p1_figures_points, .ref a_p1_figures_signCounts, .ref a_p1_figures_signs])), (a_p1_figures_signCounts, .inl (cc 0, 17, .inl c_p1_figures_signCounts)), (a_p0_costs, .inl (cc 0, 41, .inl c_p0_costs_5)), (a_p1_figures_signs, .inl (cc 0, 680, .inl c_p1_figures_signs))]) [6] [0, 1, 2, 3, 4, 5] (xrunSN (As := [.ref a_p0_distances, .int y3_10]) (rest := [.int ((1000 : Int32) * y3_10)]) F ((kX6_cellT l D cc (a_p0 := a_p0_distances) (n_p0 := 16) (c_p0 := c_p0_distances_5) (p1 := y3_10) (r0 := (xcell y3_10 16 c_p0_distances_5)) (h := rfl)) _) ⟨va_cnB 2 hts gX2_rankedSample_X6_cell_n59 rfl rfl rfl (hN.1 (.methodLinkNest RX2 59 yX6_cell RX6) (by simp [xNest])) k4 (by decide +kernel) ⟨Nat.le_of_ble_eq_true rfl, Nat.le_of_ble_eq_true rfl⟩, k6⟩ hK hN hP hD [6] rfl (by decide) rfl hl rfl (Nat.le_of_ble_eq_true rfl) dX2_rankedSample_65 ⟨Nat.zero_le _, Nat.zero_le _⟩) hP hD hS hA rfl rfl (by decide) (by decide) (fun _ H locs hP hD hS => ?_)
    have hP : va_P D vwCl [(a_p1, .inr (4, [.ref a_p1_figures, .ref a_p1_names, .ref a_p1_settings, .ref a_p1_outcomes, .int v_p1_samples, .int v_p1_penDown])), (a_p0, .inr (2, [.ref a_p0_costs, .ref a_p0_distances, .int v_p0_verdict, .int v_p0_name, .int v_p0_distance, .int v_p0_sample])), (a_p1_figures, .inr (0, [.ref a_p1_figures_strokes, .ref a_p1_figures_lengths, .ref a_p1_figures_points, .ref a_p1_figures_signCounts, .ref a_p1_figures_signs])), (a_p1_figures_signCounts, .inl (cc 0, 17, .inl c_p1_figures_signCounts)), (a_p0_costs, .inl (cc 0, 41, .inl c_p0_costs_5)), (a_p1_figures_signs, .inl (cc 0, 680, .inl c_p1_figures_signs)), (a_p0_distances, .inl (cc 0, 16, .inl c_p0_distances_5))] H := hP
    have hD : va_D A [(a_p1, .inr (4, [.ref a_p1_figures, .ref a_p1_names, .ref a_p1_settings, .ref a_p1_outcomes, .int v_p1_samples, .int v_p1_penDown])), (a_p0, .inr (2, [.ref a_p0_costs, .ref a_p0_distances, .int v_p0_verdict, .int v_p0_name, .int v_p0_distance, .int v_p0_sample])), (a_p1_figures, .inr (0, [.ref a_p1_figures_strokes, .ref a_p1_figures_lengths, .ref a_p1_figures_points, .ref a_p1_figures_signCounts, .ref a_p1_figures_signs])), (a_p1_figures_signCounts, .inl (cc 0, 17, .inl c_p1_figures_signCounts)), (a_p0_costs, .inl (cc 0, 41, .inl c_p0_costs_5)), (a_p1_figures_signs, .inl (cc 0, 680, .inl c_p1_figures_signs)), (a_p0_distances, .inl (cc 0, 16, .inl c_p0_distances_5))] := hD
    refine lv_iadd hx hb dX2_rankedSample_68 ?_
    cases h
    exact xendi (ret := none) F hsz hAe hK hP hD hS (fun _ => 0) rfl rfl (Nat.zero_le _) (Nat.zero_le _) dX2_rankedSample_69
  · subst q9
    replace h := xs21 h
    skip
    refine lv_iconst (v := (-1 : Int32)) hx hb dX2_rankedSample_76 (by decide) ?_
    cases h
    exact xendi (ret := none) F hsz hAe hK hP hD hS (fun _ => 0) rfl rfl (Nat.zero_le _) (Nat.zero_le _) dX2_rankedSample_77
theorem inX2_closestPair_X4 : ∀ w ∈ wsX40, w ∈ wsX2_closestPair := by decide +kernel
set_option maxHeartbeats 4000000 in
set_option maxRecDepth 100000 in
theorem kX2_closestPair (l : Launch) (D : va_G) (cc : Nat → ClassId) (a_p1 : Nat) (a_p1_figures : Nat) (a_p1_names : Nat) (a_p1_settings : Nat) (a_p1_outcomes : Nat) (a_p1_figures_strokes : Nat) (a_p1_figures_lengths : Nat) (a_p1_figures_points : Nat) (a_p1_figures_signCounts : Nat) (a_p1_figures_signs : Nat) (a_p0 : Nat) (a_p0_costs : Nat) (a_p0_distances : Nat) (v_p1_samples : Int32) (v_p1_penDown : Int32) (c_p1_names : Nat → Int32) (c_p1_figures_signCounts : Nat → Int32) (v_p0_verdict : Int32) (v_p0_name : Int32) (v_p0_distance : Int32) (v_p0_sample : Int32) (c_p0_costs : Nat → Int32) (c_p1_figures_signs : Nat → Int32) (p2 : Int32) (r0 : Int32) (c_p0_costs_o : Nat → Int32) (h : fX2_closestPair p2 v_p1_samples c_p1_names c_p1_figures_signCounts c_p0_costs c_p1_figures_signs = some (r0, c_p0_costs_o)) : xMi l yX2_closestPair wsX2_closestPair ({ frames := 3, cells := 0, slots := 0, locals := 76 } : Room) D cc [.ref a_p0, .ref a_p1, .int p2] [(a_p1, .inr (4, [.ref a_p1_figures, .ref a_p1_names, .ref a_p1_settings, .ref a_p1_outcomes, .int v_p1_samples, .int v_p1_penDown])), (a_p1_names, .inl (cc 0, 16, .inl c_p1_names)), (a_p1_figures, .inr (0, [.ref a_p1_figures_strokes, .ref a_p1_figures_lengths, .ref a_p1_figures_points, .ref a_p1_figures_signCounts, .ref a_p1_figures_signs])), (a_p1_figures_signCounts, .inl (cc 0, 17, .inl c_p1_figures_signCounts)), (a_p0, .inr (2, [.ref a_p0_costs, .ref a_p0_distances, .int v_p0_verdict, .int v_p0_name, .int v_p0_distance, .int v_p0_sample])), (a_p0_costs, .inl (cc 0, 41, .inl c_p0_costs)), (a_p1_figures_signs, .inl (cc 0, 680, .inl c_p1_figures_signs))] r0 (fun _ => [(a_p1, .inr (4, [.ref a_p1_figures, .ref a_p1_names, .ref a_p1_settings, .ref a_p1_outcomes, .int v_p1_samples, .int v_p1_penDown])), (a_p1_names, .inl (cc 0, 16, .inl c_p1_names)), (a_p1_figures, .inr (0, [.ref a_p1_figures_strokes, .ref a_p1_figures_lengths, .ref a_p1_figures_points, .ref a_p1_figures_signCounts, .ref a_p1_figures_signs])), (a_p1_figures_signCounts, .inl (cc 0, 17, .inl c_p1_figures_signCounts)), (a_p0, .inr (2, [.ref a_p0_costs, .ref a_p0_distances, .int v_p0_verdict, .int v_p0_name, .int v_p0_distance, .int v_p0_sample])), (a_p0_costs, .inl (cc 0, 41, .inl c_p0_costs_o)), (a_p1_figures_signs, .inl (cc 0, 680, .inl c_p1_figures_signs))]) 0 0 := by
  intro sz
  refine xstart (bc := cX2_closestPair) (maxL := 8) (ret := (some .int)) (by decide) rfl (Nat.le_of_ble_eq_true rfl) ?_
  intro p e s m args below meth c A hargs hsz hAe F hK hN hA hmn hP hD hS ls hl
  have hx := F.1.1
  have hb := F.1.2.1
  have hml := F.1.2.2.1
  have hown := F.1.2.2.2.1
  have hts := F.1.2.2.2.2
  have hl : lv_has ls 8 [(0, .ref a_p0), (1, .ref a_p1), (2, .int p2)] := hl
  have k1 := hts (.fieldLink RX2 28 "RuledStrokes$State" "samples" "I") (by decide +kernel)
  have k2 := hts (.fieldLink RX2 33 "RuledStrokes$State" "figures" "LRuledStrokes$Figures;") (by decide +kernel)
  unfold fX2_closestPair at h
  have hB23 : ∀ (QQ : State → Prop) (k23_2 : Int32) (k23_5 : Int32) (x3 : Int32) (x4 : Int32) (x6 : Int32) (c_p0_costs_L23 : Nat → Int32) (r9 : (Int32 × Int32 × Int32 × (Nat → Int32)) ⊕ ((Int32 × (Nat → Int32)) ⊕ (Int32 × Int32 × (Nat → Int32)))), fX2_closestPair_L23 v_p1_samples c_p1_names c_p1_figures_signCounts c_p1_figures_signs k23_2 k23_5 x3 x4 x6 c_p0_costs_L23 = some r9 → ∀ (H : Heap) (locs : List Loc) (ls : Array Slot), va_P D vwCl [(a_p1, .inr (4, [.ref a_p1_figures, .ref a_p1_names, .ref a_p1_settings, .ref a_p1_outcomes, .int v_p1_samples, .int v_p1_penDown])), (a_p1_names, .inl (cc 0, 16, .inl c_p1_names)), (a_p1_figures, .inr (0, [.ref a_p1_figures_strokes, .ref a_p1_figures_lengths, .ref a_p1_figures_points, .ref a_p1_figures_signCounts, .ref a_p1_figures_signs])), (a_p1_figures_signCounts, .inl (cc 0, 17, .inl c_p1_figures_signCounts)), (a_p0, .inr (2, [.ref a_p0_costs, .ref a_p0_distances, .int v_p0_verdict, .int v_p0_name, .int v_p0_distance, .int v_p0_sample])), (a_p0_costs, .inl (cc 0, 41, .inl c_p0_costs_L23)), (a_p1_figures_signs, .inl (cc 0, 680, .inl c_p1_figures_signs))] H → va_D A [(a_p1, .inr (4, [.ref a_p1_figures, .ref a_p1_names, .ref a_p1_settings, .ref a_p1_outcomes, .int v_p1_samples, .int v_p1_penDown])), (a_p1_names, .inl (cc 0, 16, .inl c_p1_names)), (a_p1_figures, .inr (0, [.ref a_p1_figures_strokes, .ref a_p1_figures_lengths, .ref a_p1_figures_points, .ref a_p1_figures_signCounts, .ref a_p1_figures_signs])), (a_p1_figures_signCounts, .inl (cc 0, 17, .inl c_p1_figures_signCounts)), (a_p0, .inr (2, [.ref a_p0_costs, .ref a_p0_distances, .int v_p0_verdict, .int v_p0_name, .int v_p0_distance, .int v_p0_sample])), (a_p0_costs, .inl (cc 0, 41, .inl c_p0_costs_L23)), (a_p1_figures_signs, .inl (cc 0, 680, .inl c_p1_figures_signs))] → va_S A s.heap H locs → lv_has ls 8 [(0, .ref a_p0), (1, .ref a_p1), (2, .int k23_2), (3, .int x3), (4, .int x4), (5, .int k23_5), (6, .int x6)] → (∀ (x3 : Int32) (x4 : Int32) (x6 : Int32) (c_p0_costs_L23 : Nat → Int32), r9 = Sum.inl (x3, x4, x6, c_p0_costs_L23) → ∀ (H : Heap) (locs : List Loc) (ls : Array Slot), va_P D vwCl [(a_p1, .inr (4, [.ref a_p1_figures, .ref a_p1_names, .ref a_p1_settings, .ref a_p1_outcomes, .int v_p1_samples, .int v_p1_penDown])), (a_p1_names, .inl (cc 0, 16, .inl c_p1_names)), (a_p1_figures, .inr (0, [.ref a_p1_figures_strokes, .ref a_p1_figures_lengths, .ref a_p1_figures_points, .ref a_p1_figures_signCounts, .ref a_p1_figures_signs])), (a_p1_figures_signCounts, .inl (cc 0, 17, .inl c_p1_figures_signCounts)), (a_p0, .inr (2, [.ref a_p0_costs, .ref a_p0_distances, .int v_p0_verdict, .int v_p0_name, .int v_p0_distance, .int v_p0_sample])), (a_p0_costs, .inl (cc 0, 41, .inl c_p0_costs_L23)), (a_p1_figures_signs, .inl (cc 0, 680, .inl c_p1_figures_signs))] H → va_D A [(a_p1, .inr (4, [.ref a_p1_figures, .ref a_p1_names, .ref a_p1_settings, .ref a_p1_outcomes, .int v_p1_samples, .int v_p1_penDown])), (a_p1_names, .inl (cc 0, 16, .inl c_p1_names)), (a_p1_figures, .inr (0, [.ref a_p1_figures_strokes, .ref a_p1_figures_lengths, .ref a_p1_figures_points, .ref a_p1_figures_signCounts, .ref a_p1_figures_signs])), (a_p1_figures_signCounts, .inl (cc 0, 17, .inl c_p1_figures_signCounts)), (a_p0, .inr (2, [.ref a_p0_costs, .ref a_p0_distances, .int v_p0_verdict, .int v_p0_name, .int v_p0_distance, .int v_p0_sample])), (a_p0_costs, .inl (cc 0, 41, .inl c_p0_costs_L23)), (a_p1_figures_signs, .inl (cc 0, 680, .inl c_p1_figures_signs))] → va_S A s.heap H locs → lv_has ls 8 [(0, .ref a_p0), (1, .ref a_p1), (2, .int k23_2), (3, .int x3), (4, .int x4), (5, .int k23_5), (6, .int x6)] → W p l e ({ frames := 3, cells := 0, slots := 0, locals := 76 } : Room) s m args below meth c H locs 0 0 QQ (F0 m 23 ls [])) → (∀ (y3 : Int32) (c_p0_costs_E23 : Nat → Int32), r9 = Sum.inr (Sum.inl (y3, c_p0_costs_E23)) → ∀ (H : Heap) (locs : List Loc) (ls : Array Slot), va_P D vwCl [(a_p1, .inr (4, [.ref a_p1_figures, .ref a_p1_names, .ref a_p1_settings, .ref a_p1_outcomes, .int v_p1_samples, .int v_p1_penDown])), (a_p1_names, .inl (cc 0, 16, .inl c_p1_names)), (a_p1_figures, .inr (0, [.ref a_p1_figures_strokes, .ref a_p1_figures_lengths, .ref a_p1_figures_points, .ref a_p1_figures_signCounts, .ref a_p1_figures_signs])), (a_p1_figures_signCounts, .inl (cc 0, 17, .inl c_p1_figures_signCounts)), (a_p0, .inr (2, [.ref a_p0_costs, .ref a_p0_distances, .int v_p0_verdict, .int v_p0_name, .int v_p0_distance, .int v_p0_sample])), (a_p0_costs, .inl (cc 0, 41, .inl c_p0_costs_E23)), (a_p1_figures_signs, .inl (cc 0, 680, .inl c_p1_figures_signs))] H → va_D A [(a_p1, .inr (4, [.ref a_p1_figures, .ref a_p1_names, .ref a_p1_settings, .ref a_p1_outcomes, .int v_p1_samples, .int v_p1_penDown])), (a_p1_names, .inl (cc 0, 16, .inl c_p1_names)), (a_p1_figures, .inr (0, [.ref a_p1_figures_strokes, .ref a_p1_figures_lengths, .ref a_p1_figures_points, .ref a_p1_figures_signCounts, .ref a_p1_figures_signs])), (a_p1_figures_signCounts, .inl (cc 0, 17, .inl c_p1_figures_signCounts)), (a_p0, .inr (2, [.ref a_p0_costs, .ref a_p0_distances, .int v_p0_verdict, .int v_p0_name, .int v_p0_distance, .int v_p0_sample])), (a_p0_costs, .inl (cc 0, 41, .inl c_p0_costs_E23)), (a_p1_figures_signs, .inl (cc 0, 680, .inl c_p1_figures_signs))] → va_S A s.heap H locs → lv_has ls 8 [(3, .int y3)] → W p l e ({ frames := 3, cells := 0, slots := 0, locals := 76 } : Room) s m args below meth c H locs 0 0 QQ (F0 m 95 ls [])) → (∀ (y3 : Int32) (y4 : Int32) (c_p0_costs_E23 : Nat → Int32), r9 = Sum.inr (Sum.inr (y3, y4, c_p0_costs_E23)) → ∀ (H : Heap) (locs : List Loc) (ls : Array Slot), va_P D vwCl [(a_p1, .inr (4, [.ref a_p1_figures, .ref a_p1_names, .ref a_p1_settings, .ref a_p1_outcomes, .int v_p1_samples, .int v_p1_penDown])), (a_p1_names, .inl (cc 0, 16, .inl c_p1_names)), (a_p1_figures, .inr (0, [.ref a_p1_figures_strokes, .ref a_p1_figures_lengths, .ref a_p1_figures_points, .ref a_p1_figures_signCounts, .ref a_p1_figures_signs])), (a_p1_figures_signCounts, .inl (cc 0, 17, .inl c_p1_figures_signCounts)), (a_p0, .inr (2, [.ref a_p0_costs, .ref a_p0_distances, .int v_p0_verdict, .int v_p0_name, .int v_p0_distance, .int v_p0_sample])), (a_p0_costs, .inl (cc 0, 41, .inl c_p0_costs_E23)), (a_p1_figures_signs, .inl (cc 0, 680, .inl c_p1_figures_signs))] H → va_D A [(a_p1, .inr (4, [.ref a_p1_figures, .ref a_p1_names, .ref a_p1_settings, .ref a_p1_outcomes, .int v_p1_samples, .int v_p1_penDown])), (a_p1_names, .inl (cc 0, 16, .inl c_p1_names)), (a_p1_figures, .inr (0, [.ref a_p1_figures_strokes, .ref a_p1_figures_lengths, .ref a_p1_figures_points, .ref a_p1_figures_signCounts, .ref a_p1_figures_signs])), (a_p1_figures_signCounts, .inl (cc 0, 17, .inl c_p1_figures_signCounts)), (a_p0, .inr (2, [.ref a_p0_costs, .ref a_p0_distances, .int v_p0_verdict, .int v_p0_name, .int v_p0_distance, .int v_p0_sample])), (a_p0_costs, .inl (cc 0, 41, .inl c_p0_costs_E23)), (a_p1_figures_signs, .inl (cc 0, 680, .inl c_p1_figures_signs))] → va_S A s.heap H locs → lv_has ls 8 [(0, .ref a_p0), (1, .ref a_p1), (2, .int k23_2), (3, .int y3), (4, .int y4), (5, .int k23_5)] → W p l e ({ frames := 3, cells := 0, slots := 0, locals := 76 } : Room) s m args below meth c H locs 0 0 QQ (F0 m 103 ls [])) → W p l e ({ frames := 3, cells := 0, slots := 0, locals := 76 } : Room) s m args below meth c H locs 0 0 QQ (F0 m 23 ls []) := by
    intro QQ k23_2 k23_5 x3 x4 x6 c_p0_costs_L23 r9 h H locs ls hP hD hS hl KS KX0 KX1
    unfold fX2_closestPair_L23 at h
    refine lv_iload hx hb dX2_closestPair_23 (lv_at hl 6 rfl) ?_
    refine lv_aload_n hx hb dX2_closestPair_25 rfl (lv_at hl 1 rfl) ?_
    refine va_get (D := D) (ci := 4) (v := .int v_p1_samples) (C := RX4) (T := TX4) (N := 6) hx hb hts inX2_closestPair_X4 hown hK hP 0 rfl rfl 4 (by decide) k1 (fun _ h9 => h9) rfl dX2_closestPair_26 ?_
    refine lv_icmp_ge (tgt := 103) hx hb dX2_closestPair_29 (by decide) (fun (c2 : v_p1_samples ≤ x6) => ?_) (fun (c2 : ¬ v_p1_samples ≤ x6) => ?_)
    · replace h := ip c2 h
      have hl := lv_sub (l' := [(0, .ref a_p0), (1, .ref a_p1), (2, .int k23_2), (3, .int x3), (4, .int x4), (5, .int k23_5)]) hl [0, 1, 2, 3, 4, 5] rfl
      cases h
      exact KX1 x3 x4 c_p0_costs_L23 rfl _ _ _ hP hD hS hl
    · replace h := iq c2 h
      refine lv_aload_n hx hb dX2_closestPair_32 rfl (lv_at hl 1 rfl) ?_
      refine lv_iload hx hb dX2_closestPair_33 (lv_at hl 5 rfl) ?_
      refine xcalli (wr := [(a_p1_figures, .inr (0, [.ref a_p1_figures_strokes, .ref a_p1_figures_lengths, .ref a_p1_figures_points, .ref a_p1_figures_signCounts, .ref a_p1_figures_signs])), (a_p1_figures_signCounts, .inl (cc 0, 17, .inl c_p1_figures_signCounts)), (a_p0, .inr (2, [.ref a_p0_costs, .ref a_p0_distances, .int v_p0_verdict, .int v_p0_name, .int v_p0_distance, .int v_p0_sample])), (a_p0_costs, .inl (cc 0, 41, .inl c_p0_costs_L23)), (a_p1_figures_signs, .inl (cc 0, 680, .inl c_p1_figures_signs))]) [0, 1] [2, 3, 4, 5, 6] (xrunV (As := [.int k23_5]) (rest := []) F ((kX4_nameOf l D cc (a_p0 := a_p1) (a_p0_names := a_p1_names) (a_p0_figures := a_p1_figures) (a_p0_settings := a_p1_settings) (a_p0_outcomes := a_p1_outcomes) (v_p0_samples := v_p1_samples) (v_p0_penDown := v_p1_penDown) (c_p0_names := c_p1_names) (p1 := k23_5) (r0 := (fX4_nameOf k23_5 c_p1_names)) (h := rfl)) _) (cwV 1 hts gX2_closestPair_X4_nameOf rfl rfl rfl (by decide +kernel) ⟨Nat.le_of_ble_eq_true rfl, Nat.le_of_ble_eq_true rfl⟩) hK hN hP hD [0, 1] rfl (by decide) (q0 := 0) rfl rfl rfl rfl hl rfl (Nat.le_of_ble_eq_true rfl) dX2_closestPair_35 ⟨Nat.zero_le _, Nat.zero_le _⟩) hP hD hS hA rfl rfl (by decide) (by decide) (fun _ H locs hP hD hS => ?_)
      have hP : va_P D vwCl [(a_p1_figures, .inr (0, [.ref a_p1_figures_strokes, .ref a_p1_figures_lengths, .ref a_p1_figures_points, .ref a_p1_figures_signCounts, .ref a_p1_figures_signs])), (a_p1_figures_signCounts, .inl (cc 0, 17, .inl c_p1_figures_signCounts)), (a_p0, .inr (2, [.ref a_p0_costs, .ref a_p0_distances, .int v_p0_verdict, .int v_p0_name, .int v_p0_distance, .int v_p0_sample])), (a_p0_costs, .inl (cc 0, 41, .inl c_p0_costs_L23)), (a_p1_figures_signs, .inl (cc 0, 680, .inl c_p1_figures_signs)), (a_p1, .inr (4, [.ref a_p1_figures, .ref a_p1_names, .ref a_p1_settings, .ref a_p1_outcomes, .int v_p1_samples, .int v_p1_penDown])), (a_p1_names, .inl (cc 0, 16, .inl c_p1_names))] H := hP
      have hD : va_D A [(a_p1_figures, .inr (0, [.ref a_p1_figures_strokes, .ref a_p1_figures_lengths, .ref a_p1_figures_points, .ref a_p1_figures_signCounts, .ref a_p1_figures_signs])), (a_p1_figures_signCounts, .inl (cc 0, 17, .inl c_p1_figures_signCounts)), (a_p0, .inr (2, [.ref a_p0_costs, .ref a_p0_distances, .int v_p0_verdict, .int v_p0_name, .int v_p0_distance, .int v_p0_sample])), (a_p0_costs, .inl (cc 0, 41, .inl c_p0_costs_L23)), (a_p1_figures_signs, .inl (cc 0, 680, .inl c_p1_figures_signs)), (a_p1, .inr (4, [.ref a_p1_figures, .ref a_p1_names, .ref a_p1_settings, .ref a_p1_outcomes, .int v_p1_samples, .int v_p1_penDown])), (a_p1_names, .inl (cc 0, 16, .inl c_p1_names))] := hD
      refine lv_aload_n hx hb dX2_closestPair_38 rfl (lv_at hl 1 rfl) ?_
      refine lv_iload hx hb dX2_closestPair_39 (lv_at hl 6 rfl) ?_
      refine xcalli (wr := [(a_p1_figures, .inr (0, [.ref a_p1_figures_strokes, .ref a_p1_figures_lengths, .ref a_p1_figures_points, .ref a_p1_figures_signCounts, .ref a_p1_figures_signs])), (a_p1_figures_signCounts, .inl (cc 0, 17, .inl c_p1_figures_signCounts)), (a_p0, .inr (2, [.ref a_p0_costs, .ref a_p0_distances, .int v_p0_verdict, .int v_p0_name, .int v_p0_distance, .int v_p0_sample])), (a_p0_costs, .inl (cc 0, 41, .inl c_p0_costs_L23)), (a_p1_figures_signs, .inl (cc 0, 680, .inl c_p1_figures_signs))]) [5, 6] [0, 1, 2, 3, 4] (xrunV (As := [.int x6]) (rest := [.int (fX4_nameOf k23_5 c_p1_names)]) F ((kX4_nameOf l D cc (a_p0 := a_p1) (a_p0_names := a_p1_names) (a_p0_figures := a_p1_figures) (a_p0_settings := a_p1_settings) (a_p0_outcomes := a_p1_outcomes) (v_p0_samples := v_p1_samples) (v_p0_penDown := v_p1_penDown) (c_p0_names := c_p1_names) (p1 := x6) (r0 := (fX4_nameOf x6 c_p1_names)) (h := rfl)) _) (cwV 1 hts gX2_closestPair_X4_nameOf rfl rfl rfl (by decide +kernel) ⟨Nat.le_of_ble_eq_true rfl, Nat.le_of_ble_eq_true rfl⟩) hK hN hP hD [5, 6] rfl (by decide) (q0 := 5) rfl rfl rfl rfl hl rfl (Nat.le_of_ble_eq_true rfl) dX2_closestPair_41 ⟨Nat.zero_le _, Nat.zero_le _⟩) hP hD hS hA rfl rfl (by decide) (by decide) (fun _ H locs hP hD hS => ?_)
      have hP : va_P D vwCl [(a_p1_figures, .inr (0, [.ref a_p1_figures_strokes, .ref a_p1_figures_lengths, .ref a_p1_figures_points, .ref a_p1_figures_signCounts, .ref a_p1_figures_signs])), (a_p1_figures_signCounts, .inl (cc 0, 17, .inl c_p1_figures_signCounts)), (a_p0, .inr (2, [.ref a_p0_costs, .ref a_p0_distances, .int v_p0_verdict, .int v_p0_name, .int v_p0_distance, .int v_p0_sample])), (a_p0_costs, .inl (cc 0, 41, .inl c_p0_costs_L23)), (a_p1_figures_signs, .inl (cc 0, 680, .inl c_p1_figures_signs)), (a_p1, .inr (4, [.ref a_p1_figures, .ref a_p1_names, .ref a_p1_settings, .ref a_p1_outcomes, .int v_p1_samples, .int v_p1_penDown])), (a_p1_names, .inl (cc 0, 16, .inl c_p1_names))] H := hP
      have hD : va_D A [(a_p1_figures, .inr (0, [.ref a_p1_figures_strokes, .ref a_p1_figures_lengths, .ref a_p1_figures_points, .ref a_p1_figures_signCounts, .ref a_p1_figures_signs])), (a_p1_figures_signCounts, .inl (cc 0, 17, .inl c_p1_figures_signCounts)), (a_p0, .inr (2, [.ref a_p0_costs, .ref a_p0_distances, .int v_p0_verdict, .int v_p0_name, .int v_p0_distance, .int v_p0_sample])), (a_p0_costs, .inl (cc 0, 41, .inl c_p0_costs_L23)), (a_p1_figures_signs, .inl (cc 0, 680, .inl c_p1_figures_signs)), (a_p1, .inr (4, [.ref a_p1_figures, .ref a_p1_names, .ref a_p1_settings, .ref a_p1_outcomes, .int v_p1_samples, .int v_p1_penDown])), (a_p1_names, .inl (cc 0, 16, .inl c_p1_names))] := hD
      refine lv_icmp_ne (tgt := 50) hx hb dX2_closestPair_44 (by decide) (fun (c5 : ¬ (fX4_nameOf k23_5 c_p1_names) = (fX4_nameOf x6 c_p1_names)) => ?_) (fun (c5 : (fX4_nameOf k23_5 c_p1_names) = (fX4_nameOf x6 c_p1_names)) => ?_)
      · replace h := iq c5 h
        refine lv_aload_n hx hb dX2_closestPair_50 rfl (lv_at hl 0 rfl) ?_
        refine lv_aload_n hx hb dX2_closestPair_51 rfl (lv_at hl 1 rfl) ?_
        refine va_get (D := D) (ci := 4) (v := .ref a_p1_figures) (C := RX4) (T := TX4) (N := 6) hx hb hts inX2_closestPair_X4 hown hK hP 5 rfl rfl 0 (by decide) k2 (fun _ h9 => h9) rfl dX2_closestPair_52 ?_
        refine lv_iload hx hb dX2_closestPair_55 (lv_at hl 5 rfl) ?_
        refine lv_iload hx hb dX2_closestPair_57 (lv_at hl 6 rfl) ?_
        obtain ⟨r_6, c_p0_costs_6, hc6, h⟩ := b2_some h
        refine xcalli (wr := [(a_p1, .inr (4, [.ref a_p1_figures, .ref a_p1_names, .ref a_p1_settings, .ref a_p1_outcomes, .int v_p1_samples, .int v_p1_penDown])), (a_p1_names, .inl (cc 0, 16, .inl c_p1_names))]) [0, 1, 2, 3, 4] [5, 6] (xrunV (As := [.ref a_p1_figures, .int k23_5, .int x6]) (rest := []) F ((kX2_distanceOf l D cc (a_p1 := a_p1_figures) (a_p1_signCounts := a_p1_figures_signCounts) (a_p0 := a_p0) (a_p0_costs := a_p0_costs) (a_p1_signs := a_p1_figures_signs) (a_p1_strokes := a_p1_figures_strokes) (a_p1_lengths := a_p1_figures_lengths) (a_p1_points := a_p1_figures_points) (a_p0_distances := a_p0_distances) (c_p1_signCounts := c_p1_figures_signCounts) (v_p0_verdict := v_p0_verdict) (v_p0_name := v_p0_name) (v_p0_distance := v_p0_distance) (v_p0_sample := v_p0_sample) (c_p0_costs := c_p0_costs_L23) (c_p1_signs := c_p1_figures_signs) (p2 := k23_5) (p3 := x6) (r0 := r_6) (c_p0_costs_o := c_p0_costs_6) (h := hc6)) _) (cwV 3 hts gX2_closestPair_X2_distanceOf rfl rfl rfl (by decide +kernel) ⟨Nat.le_of_ble_eq_true rfl, Nat.le_of_ble_eq_true rfl⟩) hK hN hP hD [0, 1, 2, 3, 4] rfl (by decide) (q0 := 2) rfl rfl rfl rfl hl rfl (Nat.le_of_ble_eq_true rfl) dX2_closestPair_59 ⟨Nat.zero_le _, Nat.zero_le _⟩) hP hD hS hA rfl rfl (by decide) (by decide) (fun _ H locs hP hD hS => ?_)
        have hP : va_P D vwCl [(a_p1, .inr (4, [.ref a_p1_figures, .ref a_p1_names, .ref a_p1_settings, .ref a_p1_outcomes, .int v_p1_samples, .int v_p1_penDown])), (a_p1_names, .inl (cc 0, 16, .inl c_p1_names)), (a_p1_figures, .inr (0, [.ref a_p1_figures_strokes, .ref a_p1_figures_lengths, .ref a_p1_figures_points, .ref a_p1_figures_signCounts, .ref a_p1_figures_signs])), (a_p1_figures_signCounts, .inl (cc 0, 17, .inl c_p1_figures_signCounts)), (a_p0, .inr (2, [.ref a_p0_costs, .ref a_p0_distances, .int v_p0_verdict, .int v_p0_name, .int v_p0_distance, .int v_p0_sample])), (a_p0_costs, .inl (cc 0, 41, .inl c_p0_costs_6)), (a_p1_figures_signs, .inl (cc 0, 680, .inl c_p1_figures_signs))] H := hP
        have hD : va_D A [(a_p1, .inr (4, [.ref a_p1_figures, .ref a_p1_names, .ref a_p1_settings, .ref a_p1_outcomes, .int v_p1_samples, .int v_p1_penDown])), (a_p1_names, .inl (cc 0, 16, .inl c_p1_names)), (a_p1_figures, .inr (0, [.ref a_p1_figures_strokes, .ref a_p1_figures_lengths, .ref a_p1_figures_points, .ref a_p1_figures_signCounts, .ref a_p1_figures_signs])), (a_p1_figures_signCounts, .inl (cc 0, 17, .inl c_p1_figures_signCounts)), (a_p0, .inr (2, [.ref a_p0_costs, .ref a_p0_distances, .int v_p0_verdict, .int v_p0_name, .int v_p0_distance, .int v_p0_sample])), (a_p0_costs, .inl (cc 0, 41, .inl c_p0_costs_6)), (a_p1_figures_signs, .inl (cc 0, 680, .inl c_p1_figures_signs))] := hD
        refine lv_istore (x := r_6) (lv' := [(7, .int r_6), (0, .ref a_p0), (1, .ref a_p1), (2, .int k23_2), (3, .int x3), (4, .int x4), (5, .int k23_5), (6, .int x6)]) hx hb dX2_closestPair_62 hl (by decide) rfl (fun ls hl => ?_)
        refine lv_iload_n hx hb dX2_closestPair_64 rfl (lv_at hl 4 rfl) ?_
        refine lv_iconst (v := (-1 : Int32)) hx hb dX2_closestPair_65 (by decide) ?_
        refine lv_icmp_eq (tgt := 76) hx hb dX2_closestPair_66 (by decide) (fun (c8 : x3 = (-1 : Int32)) => ?_) (fun (c8 : ¬ x3 = (-1 : Int32)) => ?_)
        · replace h := ip c8 h
          refine lv_bipush (v := (100 : Int32)) hx hb dX2_closestPair_76 (by decide) ?_
          refine lv_iload hx hb dX2_closestPair_78 (lv_at hl 6 rfl) ?_
          refine lv_imul hx hb dX2_closestPair_80 ?_
          refine lv_iload hx hb dX2_closestPair_81 (lv_at hl 7 rfl) ?_
          refine lv_iadd hx hb dX2_closestPair_83 ?_
          refine lv_istore_n (x := ((100 : Int32) * k23_5) + x6) (lv' := [(3, .int (((100 : Int32) * k23_5) + x6)), (7, .int r_6), (0, .ref a_p0), (1, .ref a_p1), (2, .int k23_2), (4, .int x4), (5, .int k23_5), (6, .int x6)]) hx hb dX2_closestPair_84 rfl hl (by decide) rfl (fun ls hl => ?_)
          refine lv_iload hx hb dX2_closestPair_85 (lv_at hl 1 rfl) ?_
          refine lv_istore (x := r_6) (lv' := [(4, .int r_6), (3, .int (((100 : Int32) * k23_5) + x6)), (7, .int r_6), (0, .ref a_p0), (1, .ref a_p1), (2, .int k23_2), (5, .int k23_5), (6, .int x6)]) hx hb dX2_closestPair_87 hl (by decide) rfl (fun ls hl => ?_)
          refine lv_iload hx hb dX2_closestPair_89 (lv_at hl 0 rfl) ?_
          refine lv_iload_n hx hb dX2_closestPair_91 rfl (lv_at hl 5 rfl) ?_
          refine lv_icmp_gt (tgt := 97) hx hb dX2_closestPair_92 (by decide) (fun (c9 : k23_2 < r_6) => ?_) (fun (c9 : ¬ k23_2 < r_6) => ?_)
          · replace h := ip c9 h
            refine lv_iinc (v := x6 + (1 : Int32)) (lv' := [(6, .int (x6 + (1 : Int32))), (4, .int r_6), (3, .int (((100 : Int32) * k23_5) + x6)), (7, .int r_6), (0, .ref a_p0), (1, .ref a_p1), (2, .int k23_2), (5, .int k23_5)]) hx hb dX2_closestPair_97 hl (k := 7) rfl (by first | rfl | decide) (by decide) rfl (fun ls hl => ?_)
            refine lv_goto (tgt := 23) hx hb dX2_closestPair_100 (by decide) ?_
            have hl := lv_sub (l' := [(0, .ref a_p0), (1, .ref a_p1), (2, .int k23_2), (3, .int (((100 : Int32) * k23_5) + x6)), (4, .int r_6), (5, .int k23_5), (6, .int (x6 + (1 : Int32)))]) hl [4, 5, 6, 2, 1, 7, 0] rfl
            cases h
            exact KS (((100 : Int32) * k23_5) + x6) r_6 (x6 + (1 : Int32)) c_p0_costs_6 rfl _ _ _ hP hD hS hl
          · replace h := iq c9 h
            have hl := lv_sub (l' := [(3, .int (((100 : Int32) * k23_5) + x6))]) hl [1] rfl
            cases h
            exact KX0 (((100 : Int32) * k23_5) + x6) c_p0_costs_6 rfl _ _ _ hP hD hS hl
        · replace h := iq c8 h
          refine lv_iload hx hb dX2_closestPair_69 (lv_at hl 0 rfl) ?_
          refine lv_iload hx hb dX2_closestPair_71 (lv_at hl 5 rfl) ?_
          refine lv_icmp_ge (tgt := 89) hx hb dX2_closestPair_73 (by decide) (fun (c10 : x4 ≤ r_6) => ?_) (fun (c10 : ¬ x4 ≤ r_6) => ?_)
          · replace h := ip c10 h
            refine lv_iload hx hb dX2_closestPair_89 (lv_at hl 5 rfl) ?_
            refine lv_iload_n hx hb dX2_closestPair_91 rfl (lv_at hl 3 rfl) ?_
            refine lv_icmp_gt (tgt := 97) hx hb dX2_closestPair_92 (by decide) (fun (c11 : k23_2 < x4) => ?_) (fun (c11 : ¬ k23_2 < x4) => ?_)
            · replace h := ip c11 h
              refine lv_iinc (v := x6 + (1 : Int32)) (lv' := [(6, .int (x6 + (1 : Int32))), (7, .int r_6), (0, .ref a_p0), (1, .ref a_p1), (2, .int k23_2), (3, .int x3), (4, .int x4), (5, .int k23_5)]) hx hb dX2_closestPair_97 hl (k := 7) rfl (by first | rfl | decide) (by decide) rfl (fun ls hl => ?_)
              refine lv_goto (tgt := 23) hx hb dX2_closestPair_100 (by decide) ?_
              have hl := lv_sub (l' := [(0, .ref a_p0), (1, .ref a_p1), (2, .int k23_2), (3, .int x3), (4, .int x4), (5, .int k23_5), (6, .int (x6 + (1 : Int32)))]) hl [2, 3, 4, 5, 6, 7, 0] rfl
              cases h
              exact KS x3 x4 (x6 + (1 : Int32)) c_p0_costs_6 rfl _ _ _ hP hD hS hl
            · replace h := iq c11 h
              have hl := lv_sub (l' := [(3, .int x3)]) hl [4] rfl
              cases h
              exact KX0 x3 c_p0_costs_6 rfl _ _ _ hP hD hS hl
          · replace h := iq c10 h
            refine lv_bipush (v := (100 : Int32)) hx hb dX2_closestPair_76 (by decide) ?_
            refine lv_iload hx hb dX2_closestPair_78 (lv_at hl 6 rfl) ?_
            refine lv_imul hx hb dX2_closestPair_80 ?_
            refine lv_iload hx hb dX2_closestPair_81 (lv_at hl 7 rfl) ?_
            refine lv_iadd hx hb dX2_closestPair_83 ?_
            refine lv_istore_n (x := ((100 : Int32) * k23_5) + x6) (lv' := [(3, .int (((100 : Int32) * k23_5) + x6)), (7, .int r_6), (0, .ref a_p0), (1, .ref a_p1), (2, .int k23_2), (4, .int x4), (5, .int k23_5), (6, .int x6)]) hx hb dX2_closestPair_84 rfl hl (by decide) rfl (fun ls hl => ?_)
            refine lv_iload hx hb dX2_closestPair_85 (lv_at hl 1 rfl) ?_
            refine lv_istore (x := r_6) (lv' := [(4, .int r_6), (3, .int (((100 : Int32) * k23_5) + x6)), (7, .int r_6), (0, .ref a_p0), (1, .ref a_p1), (2, .int k23_2), (5, .int k23_5), (6, .int x6)]) hx hb dX2_closestPair_87 hl (by decide) rfl (fun ls hl => ?_)
            refine lv_iload hx hb dX2_closestPair_89 (lv_at hl 0 rfl) ?_
            refine lv_iload_n hx hb dX2_closestPair_91 rfl (lv_at hl 5 rfl) ?_
            refine lv_icmp_gt (tgt := 97) hx hb dX2_closestPair_92 (by decide) (fun (c12 : k23_2 < r_6) => ?_) (fun (c12 : ¬ k23_2 < r_6) => ?_)
            · replace h := ip c12 h
              refine lv_iinc (v := x6 + (1 : Int32)) (lv' := [(6, .int (x6 + (1 : Int32))), (4, .int r_6), (3, .int (((100 : Int32) * k23_5) + x6)), (7, .int r_6), (0, .ref a_p0), (1, .ref a_p1), (2, .int k23_2), (5, .int k23_5)]) hx hb dX2_closestPair_97 hl (k := 7) rfl (by first | rfl | decide) (by decide) rfl (fun ls hl => ?_)
              refine lv_goto (tgt := 23) hx hb dX2_closestPair_100 (by decide) ?_
              have hl := lv_sub (l' := [(0, .ref a_p0), (1, .ref a_p1), (2, .int k23_2), (3, .int (((100 : Int32) * k23_5) + x6)), (4, .int r_6), (5, .int k23_5), (6, .int (x6 + (1 : Int32)))]) hl [4, 5, 6, 2, 1, 7, 0] rfl
              cases h
              exact KS (((100 : Int32) * k23_5) + x6) r_6 (x6 + (1 : Int32)) c_p0_costs_6 rfl _ _ _ hP hD hS hl
            · replace h := iq c12 h
              have hl := lv_sub (l' := [(3, .int (((100 : Int32) * k23_5) + x6))]) hl [1] rfl
              cases h
              exact KX0 (((100 : Int32) * k23_5) + x6) c_p0_costs_6 rfl _ _ _ hP hD hS hl
      · replace h := ip c5 h
        refine lv_goto (tgt := 97) hx hb dX2_closestPair_47 (by decide) ?_
        refine lv_iinc (v := x6 + (1 : Int32)) (lv' := [(6, .int (x6 + (1 : Int32))), (0, .ref a_p0), (1, .ref a_p1), (2, .int k23_2), (3, .int x3), (4, .int x4), (5, .int k23_5)]) hx hb dX2_closestPair_97 hl (k := 6) rfl (by first | rfl | decide) (by decide) rfl (fun ls hl => ?_)
        refine lv_goto (tgt := 23) hx hb dX2_closestPair_100 (by decide) ?_
        have hP := hP.sub (ws' := [(a_p1, .inr (4, [.ref a_p1_figures, .ref a_p1_names, .ref a_p1_settings, .ref a_p1_outcomes, .int v_p1_samples, .int v_p1_penDown])), (a_p1_names, .inl (cc 0, 16, .inl c_p1_names)), (a_p1_figures, .inr (0, [.ref a_p1_figures_strokes, .ref a_p1_figures_lengths, .ref a_p1_figures_points, .ref a_p1_figures_signCounts, .ref a_p1_figures_signs])), (a_p1_figures_signCounts, .inl (cc 0, 17, .inl c_p1_figures_signCounts)), (a_p0, .inr (2, [.ref a_p0_costs, .ref a_p0_distances, .int v_p0_verdict, .int v_p0_name, .int v_p0_distance, .int v_p0_sample])), (a_p0_costs, .inl (cc 0, 41, .inl c_p0_costs_L23)), (a_p1_figures_signs, .inl (cc 0, 680, .inl c_p1_figures_signs))]) [5, 6, 0, 1, 2, 3, 4] rfl
        have hD := hD.sub (ws' := [(a_p1, .inr (4, [.ref a_p1_figures, .ref a_p1_names, .ref a_p1_settings, .ref a_p1_outcomes, .int v_p1_samples, .int v_p1_penDown])), (a_p1_names, .inl (cc 0, 16, .inl c_p1_names)), (a_p1_figures, .inr (0, [.ref a_p1_figures_strokes, .ref a_p1_figures_lengths, .ref a_p1_figures_points, .ref a_p1_figures_signCounts, .ref a_p1_figures_signs])), (a_p1_figures_signCounts, .inl (cc 0, 17, .inl c_p1_figures_signCounts)), (a_p0, .inr (2, [.ref a_p0_costs, .ref a_p0_distances, .int v_p0_verdict, .int v_p0_name, .int v_p0_distance, .int v_p0_sample])), (a_p0_costs, .inl (cc 0, 41, .inl c_p0_costs_L23)), (a_p1_figures_signs, .inl (cc 0, 680, .inl c_p1_figures_signs))]) [5, 6, 0, 1, 2, 3, 4] (by decide) rfl
        have hl := lv_sub (l' := [(0, .ref a_p0), (1, .ref a_p1), (2, .int k23_2), (3, .int x3), (4, .int x4), (5, .int k23_5), (6, .int (x6 + (1 : Int32)))]) hl [1, 2, 3, 4, 5, 6, 0] rfl
        cases h
        exact KS x3 x4 (x6 + (1 : Int32)) c_p0_costs_L23 rfl _ _ _ hP hD hS hl
  have hL23 : ∀ (QQ : State → Prop) (n : Nat) (k23_2 : Int32) (k23_5 : Int32) (x3 : Int32) (x4 : Int32) (x6 : Int32) (c_p0_costs_L23 : Nat → Int32) (r9 : (Int32 × (Nat → Int32)) ⊕ (Int32 × Int32 × (Nat → Int32))), loopF (fun (z : Int32 × Int32 × Int32 × (Nat → Int32)) => fX2_closestPair_L23 v_p1_samples c_p1_names c_p1_figures_signCounts c_p1_figures_signs k23_2 k23_5 z.1 z.2.1 z.2.2.1 z.2.2.2) n (x3, x4, x6, c_p0_costs_L23) = some r9 → ∀ (H : Heap) (locs : List Loc) (ls : Array Slot), va_P D vwCl [(a_p1, .inr (4, [.ref a_p1_figures, .ref a_p1_names, .ref a_p1_settings, .ref a_p1_outcomes, .int v_p1_samples, .int v_p1_penDown])), (a_p1_names, .inl (cc 0, 16, .inl c_p1_names)), (a_p1_figures, .inr (0, [.ref a_p1_figures_strokes, .ref a_p1_figures_lengths, .ref a_p1_figures_points, .ref a_p1_figures_signCounts, .ref a_p1_figures_signs])), (a_p1_figures_signCounts, .inl (cc 0, 17, .inl c_p1_figures_signCounts)), (a_p0, .inr (2, [.ref a_p0_costs, .ref a_p0_distances, .int v_p0_verdict, .int v_p0_name, .int v_p0_distance, .int v_p0_sample])), (a_p0_costs, .inl (cc 0, 41, .inl c_p0_costs_L23)), (a_p1_figures_signs, .inl (cc 0, 680, .inl c_p1_figures_signs))] H → va_D A [(a_p1, .inr (4, [.ref a_p1_figures, .ref a_p1_names, .ref a_p1_settings, .ref a_p1_outcomes, .int v_p1_samples, .int v_p1_penDown])), (a_p1_names, .inl (cc 0, 16, .inl c_p1_names)), (a_p1_figures, .inr (0, [.ref a_p1_figures_strokes, .ref a_p1_figures_lengths, .ref a_p1_figures_points, .ref a_p1_figures_signCounts, .ref a_p1_figures_signs])), (a_p1_figures_signCounts, .inl (cc 0, 17, .inl c_p1_figures_signCounts)), (a_p0, .inr (2, [.ref a_p0_costs, .ref a_p0_distances, .int v_p0_verdict, .int v_p0_name, .int v_p0_distance, .int v_p0_sample])), (a_p0_costs, .inl (cc 0, 41, .inl c_p0_costs_L23)), (a_p1_figures_signs, .inl (cc 0, 680, .inl c_p1_figures_signs))] → va_S A s.heap H locs → lv_has ls 8 [(0, .ref a_p0), (1, .ref a_p1), (2, .int k23_2), (3, .int x3), (4, .int x4), (5, .int k23_5), (6, .int x6)] → (∀ (y3 : Int32) (c_p0_costs_E23 : Nat → Int32), r9 = Sum.inl (y3, c_p0_costs_E23) → ∀ (H : Heap) (locs : List Loc) (ls : Array Slot), va_P D vwCl [(a_p1, .inr (4, [.ref a_p1_figures, .ref a_p1_names, .ref a_p1_settings, .ref a_p1_outcomes, .int v_p1_samples, .int v_p1_penDown])), (a_p1_names, .inl (cc 0, 16, .inl c_p1_names)), (a_p1_figures, .inr (0, [.ref a_p1_figures_strokes, .ref a_p1_figures_lengths, .ref a_p1_figures_points, .ref a_p1_figures_signCounts, .ref a_p1_figures_signs])), (a_p1_figures_signCounts, .inl (cc 0, 17, .inl c_p1_figures_signCounts)), (a_p0, .inr (2, [.ref a_p0_costs, .ref a_p0_distances, .int v_p0_verdict, .int v_p0_name, .int v_p0_distance, .int v_p0_sample])), (a_p0_costs, .inl (cc 0, 41, .inl c_p0_costs_E23)), (a_p1_figures_signs, .inl (cc 0, 680, .inl c_p1_figures_signs))] H → va_D A [(a_p1, .inr (4, [.ref a_p1_figures, .ref a_p1_names, .ref a_p1_settings, .ref a_p1_outcomes, .int v_p1_samples, .int v_p1_penDown])), (a_p1_names, .inl (cc 0, 16, .inl c_p1_names)), (a_p1_figures, .inr (0, [.ref a_p1_figures_strokes, .ref a_p1_figures_lengths, .ref a_p1_figures_points, .ref a_p1_figures_signCounts, .ref a_p1_figures_signs])), (a_p1_figures_signCounts, .inl (cc 0, 17, .inl c_p1_figures_signCounts)), (a_p0, .inr (2, [.ref a_p0_costs, .ref a_p0_distances, .int v_p0_verdict, .int v_p0_name, .int v_p0_distance, .int v_p0_sample])), (a_p0_costs, .inl (cc 0, 41, .inl c_p0_costs_E23)), (a_p1_figures_signs, .inl (cc 0, 680, .inl c_p1_figures_signs))] → va_S A s.heap H locs → lv_has ls 8 [(3, .int y3)] → W p l e ({ frames := 3, cells := 0, slots := 0, locals := 76 } : Room) s m args below meth c H locs 0 0 QQ (F0 m 95 ls [])) → (∀ (y3 : Int32) (y4 : Int32) (c_p0_costs_E23 : Nat → Int32), r9 = Sum.inr (y3, y4, c_p0_costs_E23) → ∀ (H : Heap) (locs : List Loc) (ls : Array Slot), va_P D vwCl [(a_p1, .inr (4, [.ref a_p1_figures, .ref a_p1_names, .ref a_p1_settings, .ref a_p1_outcomes, .int v_p1_samples, .int v_p1_penDown])), (a_p1_names, .inl (cc 0, 16, .inl c_p1_names)), (a_p1_figures, .inr (0, [.ref a_p1_figures_strokes, .ref a_p1_figures_lengths, .ref a_p1_figures_points, .ref a_p1_figures_signCounts, .ref a_p1_figures_signs])), (a_p1_figures_signCounts, .inl (cc 0, 17, .inl c_p1_figures_signCounts)), (a_p0, .inr (2, [.ref a_p0_costs, .ref a_p0_distances, .int v_p0_verdict, .int v_p0_name, .int v_p0_distance, .int v_p0_sample])), (a_p0_costs, .inl (cc 0, 41, .inl c_p0_costs_E23)), (a_p1_figures_signs, .inl (cc 0, 680, .inl c_p1_figures_signs))] H → va_D A [(a_p1, .inr (4, [.ref a_p1_figures, .ref a_p1_names, .ref a_p1_settings, .ref a_p1_outcomes, .int v_p1_samples, .int v_p1_penDown])), (a_p1_names, .inl (cc 0, 16, .inl c_p1_names)), (a_p1_figures, .inr (0, [.ref a_p1_figures_strokes, .ref a_p1_figures_lengths, .ref a_p1_figures_points, .ref a_p1_figures_signCounts, .ref a_p1_figures_signs])), (a_p1_figures_signCounts, .inl (cc 0, 17, .inl c_p1_figures_signCounts)), (a_p0, .inr (2, [.ref a_p0_costs, .ref a_p0_distances, .int v_p0_verdict, .int v_p0_name, .int v_p0_distance, .int v_p0_sample])), (a_p0_costs, .inl (cc 0, 41, .inl c_p0_costs_E23)), (a_p1_figures_signs, .inl (cc 0, 680, .inl c_p1_figures_signs))] → va_S A s.heap H locs → lv_has ls 8 [(0, .ref a_p0), (1, .ref a_p1), (2, .int k23_2), (3, .int y3), (4, .int y4), (5, .int k23_5)] → W p l e ({ frames := 3, cells := 0, slots := 0, locals := 76 } : Room) s m args below meth c H locs 0 0 QQ (F0 m 103 ls [])) → W p l e ({ frames := 3, cells := 0, slots := 0, locals := 76 } : Room) s m args below meth c H locs 0 0 QQ (F0 m 23 ls []) := by
    intro QQ n
    induction n with
    | zero => intro k23_2 k23_5 x3 x4 x6 c_p0_costs_L23 r9 h; exact (loopF_zero h).elim
    | succ n ih =>
      intro k23_2 k23_5 x3 x4 x6 c_p0_costs_L23 r9 h H locs ls hP hD hS hl KX0 KX1
      obtain ⟨z9, hz, h⟩ := loopF_step h
      exact hB23 QQ k23_2 k23_5 x3 x4 x6 c_p0_costs_L23 z9 hz H locs ls hP hD hS hl (fun x3_b x4_b x6_b c_p0_costs_L23_b q9 H9 locs9 ls9 hP9 hD9 hS9 hl9 => ih k23_2 k23_5 x3_b x4_b x6_b c_p0_costs_L23_b r9 (by rcases h with ⟨s9, h1, h2⟩ | h1 <;> rw [h1] at q9 <;> cases q9; exact h2) H9 locs9 ls9 hP9 hD9 hS9 hl9 KX0 KX1) (fun y3 c_p0_costs_E23 q9 => KX0 y3 c_p0_costs_E23 (by rcases h with ⟨s9, h1, h2⟩ | h1 <;> rw [h1] at q9 <;> cases q9; rfl)) (fun y3 y4 c_p0_costs_E23 q9 => KX1 y3 y4 c_p0_costs_E23 (by rcases h with ⟨s9, h1, h2⟩ | h1 <;> rw [h1] at q9 <;> cases q9; rfl))
  have hB8 : ∀ (QQ : State → Prop) (k8_2 : Int32) (x3 : Int32) (x4 : Int32) (x5 : Int32) (c_p0_costs_L8 : Nat → Int32) (r9 : (Int32 × Int32 × Int32 × (Nat → Int32)) ⊕ ((Int32 × (Nat → Int32)) ⊕ (Int32 × (Nat → Int32)))), fX2_closestPair_L8 v_p1_samples c_p1_names c_p1_figures_signCounts c_p1_figures_signs k8_2 x3 x4 x5 c_p0_costs_L8 = some r9 → ∀ (H : Heap) (locs : List Loc) (ls : Array Slot), va_P D vwCl [(a_p1, .inr (4, [.ref a_p1_figures, .ref a_p1_names, .ref a_p1_settings, .ref a_p1_outcomes, .int v_p1_samples, .int v_p1_penDown])), (a_p1_names, .inl (cc 0, 16, .inl c_p1_names)), (a_p1_figures, .inr (0, [.ref a_p1_figures_strokes, .ref a_p1_figures_lengths, .ref a_p1_figures_points, .ref a_p1_figures_signCounts, .ref a_p1_figures_signs])), (a_p1_figures_signCounts, .inl (cc 0, 17, .inl c_p1_figures_signCounts)), (a_p0, .inr (2, [.ref a_p0_costs, .ref a_p0_distances, .int v_p0_verdict, .int v_p0_name, .int v_p0_distance, .int v_p0_sample])), (a_p0_costs, .inl (cc 0, 41, .inl c_p0_costs_L8)), (a_p1_figures_signs, .inl (cc 0, 680, .inl c_p1_figures_signs))] H → va_D A [(a_p1, .inr (4, [.ref a_p1_figures, .ref a_p1_names, .ref a_p1_settings, .ref a_p1_outcomes, .int v_p1_samples, .int v_p1_penDown])), (a_p1_names, .inl (cc 0, 16, .inl c_p1_names)), (a_p1_figures, .inr (0, [.ref a_p1_figures_strokes, .ref a_p1_figures_lengths, .ref a_p1_figures_points, .ref a_p1_figures_signCounts, .ref a_p1_figures_signs])), (a_p1_figures_signCounts, .inl (cc 0, 17, .inl c_p1_figures_signCounts)), (a_p0, .inr (2, [.ref a_p0_costs, .ref a_p0_distances, .int v_p0_verdict, .int v_p0_name, .int v_p0_distance, .int v_p0_sample])), (a_p0_costs, .inl (cc 0, 41, .inl c_p0_costs_L8)), (a_p1_figures_signs, .inl (cc 0, 680, .inl c_p1_figures_signs))] → va_S A s.heap H locs → lv_has ls 8 [(0, .ref a_p0), (1, .ref a_p1), (2, .int k8_2), (3, .int x3), (4, .int x4), (5, .int x5)] → (∀ (x3 : Int32) (x4 : Int32) (x5 : Int32) (c_p0_costs_L8 : Nat → Int32), r9 = Sum.inl (x3, x4, x5, c_p0_costs_L8) → ∀ (H : Heap) (locs : List Loc) (ls : Array Slot), va_P D vwCl [(a_p1, .inr (4, [.ref a_p1_figures, .ref a_p1_names, .ref a_p1_settings, .ref a_p1_outcomes, .int v_p1_samples, .int v_p1_penDown])), (a_p1_names, .inl (cc 0, 16, .inl c_p1_names)), (a_p1_figures, .inr (0, [.ref a_p1_figures_strokes, .ref a_p1_figures_lengths, .ref a_p1_figures_points, .ref a_p1_figures_signCounts, .ref a_p1_figures_signs])), (a_p1_figures_signCounts, .inl (cc 0, 17, .inl c_p1_figures_signCounts)), (a_p0, .inr (2, [.ref a_p0_costs, .ref a_p0_distances, .int v_p0_verdict, .int v_p0_name, .int v_p0_distance, .int v_p0_sample])), (a_p0_costs, .inl (cc 0, 41, .inl c_p0_costs_L8)), (a_p1_figures_signs, .inl (cc 0, 680, .inl c_p1_figures_signs))] H → va_D A [(a_p1, .inr (4, [.ref a_p1_figures, .ref a_p1_names, .ref a_p1_settings, .ref a_p1_outcomes, .int v_p1_samples, .int v_p1_penDown])), (a_p1_names, .inl (cc 0, 16, .inl c_p1_names)), (a_p1_figures, .inr (0, [.ref a_p1_figures_strokes, .ref a_p1_figures_lengths, .ref a_p1_figures_points, .ref a_p1_figures_signCounts, .ref a_p1_figures_signs])), (a_p1_figures_signCounts, .inl (cc 0, 17, .inl c_p1_figures_signCounts)), (a_p0, .inr (2, [.ref a_p0_costs, .ref a_p0_distances, .int v_p0_verdict, .int v_p0_name, .int v_p0_distance, .int v_p0_sample])), (a_p0_costs, .inl (cc 0, 41, .inl c_p0_costs_L8)), (a_p1_figures_signs, .inl (cc 0, 680, .inl c_p1_figures_signs))] → va_S A s.heap H locs → lv_has ls 8 [(0, .ref a_p0), (1, .ref a_p1), (2, .int k8_2), (3, .int x3), (4, .int x4), (5, .int x5)] → W p l e ({ frames := 3, cells := 0, slots := 0, locals := 76 } : Room) s m args below meth c H locs 0 0 QQ (F0 m 8 ls [])) → (∀ (y3 : Int32) (c_p0_costs_E8 : Nat → Int32), r9 = Sum.inr (Sum.inl (y3, c_p0_costs_E8)) → ∀ (H : Heap) (locs : List Loc) (ls : Array Slot), va_P D vwCl [(a_p1, .inr (4, [.ref a_p1_figures, .ref a_p1_names, .ref a_p1_settings, .ref a_p1_outcomes, .int v_p1_samples, .int v_p1_penDown])), (a_p1_names, .inl (cc 0, 16, .inl c_p1_names)), (a_p1_figures, .inr (0, [.ref a_p1_figures_strokes, .ref a_p1_figures_lengths, .ref a_p1_figures_points, .ref a_p1_figures_signCounts, .ref a_p1_figures_signs])), (a_p1_figures_signCounts, .inl (cc 0, 17, .inl c_p1_figures_signCounts)), (a_p0, .inr (2, [.ref a_p0_costs, .ref a_p0_distances, .int v_p0_verdict, .int v_p0_name, .int v_p0_distance, .int v_p0_sample])), (a_p0_costs, .inl (cc 0, 41, .inl c_p0_costs_E8)), (a_p1_figures_signs, .inl (cc 0, 680, .inl c_p1_figures_signs))] H → va_D A [(a_p1, .inr (4, [.ref a_p1_figures, .ref a_p1_names, .ref a_p1_settings, .ref a_p1_outcomes, .int v_p1_samples, .int v_p1_penDown])), (a_p1_names, .inl (cc 0, 16, .inl c_p1_names)), (a_p1_figures, .inr (0, [.ref a_p1_figures_strokes, .ref a_p1_figures_lengths, .ref a_p1_figures_points, .ref a_p1_figures_signCounts, .ref a_p1_figures_signs])), (a_p1_figures_signCounts, .inl (cc 0, 17, .inl c_p1_figures_signCounts)), (a_p0, .inr (2, [.ref a_p0_costs, .ref a_p0_distances, .int v_p0_verdict, .int v_p0_name, .int v_p0_distance, .int v_p0_sample])), (a_p0_costs, .inl (cc 0, 41, .inl c_p0_costs_E8)), (a_p1_figures_signs, .inl (cc 0, 680, .inl c_p1_figures_signs))] → va_S A s.heap H locs → lv_has ls 8 [(3, .int y3)] → W p l e ({ frames := 3, cells := 0, slots := 0, locals := 76 } : Room) s m args below meth c H locs 0 0 QQ (F0 m 95 ls [])) → (∀ (y3 : Int32) (c_p0_costs_E8 : Nat → Int32), r9 = Sum.inr (Sum.inr (y3, c_p0_costs_E8)) → ∀ (H : Heap) (locs : List Loc) (ls : Array Slot), va_P D vwCl [(a_p1, .inr (4, [.ref a_p1_figures, .ref a_p1_names, .ref a_p1_settings, .ref a_p1_outcomes, .int v_p1_samples, .int v_p1_penDown])), (a_p1_names, .inl (cc 0, 16, .inl c_p1_names)), (a_p1_figures, .inr (0, [.ref a_p1_figures_strokes, .ref a_p1_figures_lengths, .ref a_p1_figures_points, .ref a_p1_figures_signCounts, .ref a_p1_figures_signs])), (a_p1_figures_signCounts, .inl (cc 0, 17, .inl c_p1_figures_signCounts)), (a_p0, .inr (2, [.ref a_p0_costs, .ref a_p0_distances, .int v_p0_verdict, .int v_p0_name, .int v_p0_distance, .int v_p0_sample])), (a_p0_costs, .inl (cc 0, 41, .inl c_p0_costs_E8)), (a_p1_figures_signs, .inl (cc 0, 680, .inl c_p1_figures_signs))] H → va_D A [(a_p1, .inr (4, [.ref a_p1_figures, .ref a_p1_names, .ref a_p1_settings, .ref a_p1_outcomes, .int v_p1_samples, .int v_p1_penDown])), (a_p1_names, .inl (cc 0, 16, .inl c_p1_names)), (a_p1_figures, .inr (0, [.ref a_p1_figures_strokes, .ref a_p1_figures_lengths, .ref a_p1_figures_points, .ref a_p1_figures_signCounts, .ref a_p1_figures_signs])), (a_p1_figures_signCounts, .inl (cc 0, 17, .inl c_p1_figures_signCounts)), (a_p0, .inr (2, [.ref a_p0_costs, .ref a_p0_distances, .int v_p0_verdict, .int v_p0_name, .int v_p0_distance, .int v_p0_sample])), (a_p0_costs, .inl (cc 0, 41, .inl c_p0_costs_E8)), (a_p1_figures_signs, .inl (cc 0, 680, .inl c_p1_figures_signs))] → va_S A s.heap H locs → lv_has ls 8 [(3, .int y3)] → W p l e ({ frames := 3, cells := 0, slots := 0, locals := 76 } : Room) s m args below meth c H locs 0 0 QQ (F0 m 109 ls [])) → W p l e ({ frames := 3, cells := 0, slots := 0, locals := 76 } : Room) s m args below meth c H locs 0 0 QQ (F0 m 8 ls []) := by
    intro QQ k8_2 x3 x4 x5 c_p0_costs_L8 r9 h H locs ls hP hD hS hl KS KX0 KX1
    unfold fX2_closestPair_L8 at h
    refine lv_iload hx hb dX2_closestPair_8 (lv_at hl 5 rfl) ?_
    refine lv_aload_n hx hb dX2_closestPair_10 rfl (lv_at hl 1 rfl) ?_
    refine va_get (D := D) (ci := 4) (v := .int v_p1_samples) (C := RX4) (T := TX4) (N := 6) hx hb hts inX2_closestPair_X4 hown hK hP 0 rfl rfl 4 (by decide) k1 (fun _ h9 => h9) rfl dX2_closestPair_11 ?_
    refine lv_icmp_ge (tgt := 109) hx hb dX2_closestPair_14 (by decide) (fun (c1 : v_p1_samples ≤ x5) => ?_) (fun (c1 : ¬ v_p1_samples ≤ x5) => ?_)
    · replace h := ip c1 h
      have hl := lv_sub (l' := [(3, .int x3)]) hl [3] rfl
      cases h
      exact KX1 x3 c_p0_costs_L8 rfl _ _ _ hP hD hS hl
    · replace h := iq c1 h
      refine lv_iload hx hb dX2_closestPair_17 (lv_at hl 5 rfl) ?_
      refine lv_iconst (v := (1 : Int32)) hx hb dX2_closestPair_19 (by decide) ?_
      refine lv_iadd hx hb dX2_closestPair_20 ?_
      refine lv_istore (x := x5 + (1 : Int32)) (lv' := [(6, .int (x5 + (1 : Int32))), (0, .ref a_p0), (1, .ref a_p1), (2, .int k8_2), (3, .int x3), (4, .int x4), (5, .int x5)]) hx hb dX2_closestPair_21 hl (by decide) rfl (fun ls hl => ?_)
      have hl := lv_sub (l' := [(0, .ref a_p0), (1, .ref a_p1), (2, .int k8_2), (3, .int x3), (4, .int x4), (5, .int x5), (6, .int (x5 + (1 : Int32)))]) hl [1, 2, 3, 4, 5, 6, 0] rfl
      obtain ⟨e9, hq9, h⟩ := b1_some h
      refine hL23 _ FUEL k8_2 x5 x3 x4 (x5 + (1 : Int32)) c_p0_costs_L8 e9 hq9 _ _ _ hP hD hS hl (fun y3_13 c_p0_costs_13 q9 H locs ls hP hD hS hl => ?_) (fun y3_14 y4_14 c_p0_costs_14 q9 H locs ls hP hD hS hl => ?_)
      · subst q9
        replace h := xs20 h
        replace h := xu2 h
        cases h
        exact KX0 y3_13 c_p0_costs_13 rfl _ _ _ hP hD hS hl
      · subst q9
        replace h := xs21 h
        replace h := xu3 h
        refine lv_iinc (v := x5 + (1 : Int32)) (lv' := [(5, .int (x5 + (1 : Int32))), (0, .ref a_p0), (1, .ref a_p1), (2, .int k8_2), (3, .int y3_14), (4, .int y4_14)]) hx hb dX2_closestPair_103 hl (k := 5) rfl (by first | rfl | decide) (by decide) rfl (fun ls hl => ?_)
        refine lv_goto (tgt := 8) hx hb dX2_closestPair_106 (by decide) ?_
        have hl := lv_sub (l' := [(0, .ref a_p0), (1, .ref a_p1), (2, .int k8_2), (3, .int y3_14), (4, .int y4_14), (5, .int (x5 + (1 : Int32)))]) hl [1, 2, 3, 4, 5, 0] rfl
        cases h
        exact KS y3_14 y4_14 (x5 + (1 : Int32)) c_p0_costs_14 rfl _ _ _ hP hD hS hl
  have hL8 : ∀ (QQ : State → Prop) (n : Nat) (k8_2 : Int32) (x3 : Int32) (x4 : Int32) (x5 : Int32) (c_p0_costs_L8 : Nat → Int32) (r9 : (Int32 × (Nat → Int32)) ⊕ (Int32 × (Nat → Int32))), loopF (fun (z : Int32 × Int32 × Int32 × (Nat → Int32)) => fX2_closestPair_L8 v_p1_samples c_p1_names c_p1_figures_signCounts c_p1_figures_signs k8_2 z.1 z.2.1 z.2.2.1 z.2.2.2) n (x3, x4, x5, c_p0_costs_L8) = some r9 → ∀ (H : Heap) (locs : List Loc) (ls : Array Slot), va_P D vwCl [(a_p1, .inr (4, [.ref a_p1_figures, .ref a_p1_names, .ref a_p1_settings, .ref a_p1_outcomes, .int v_p1_samples, .int v_p1_penDown])), (a_p1_names, .inl (cc 0, 16, .inl c_p1_names)), (a_p1_figures, .inr (0, [.ref a_p1_figures_strokes, .ref a_p1_figures_lengths, .ref a_p1_figures_points, .ref a_p1_figures_signCounts, .ref a_p1_figures_signs])), (a_p1_figures_signCounts, .inl (cc 0, 17, .inl c_p1_figures_signCounts)), (a_p0, .inr (2, [.ref a_p0_costs, .ref a_p0_distances, .int v_p0_verdict, .int v_p0_name, .int v_p0_distance, .int v_p0_sample])), (a_p0_costs, .inl (cc 0, 41, .inl c_p0_costs_L8)), (a_p1_figures_signs, .inl (cc 0, 680, .inl c_p1_figures_signs))] H → va_D A [(a_p1, .inr (4, [.ref a_p1_figures, .ref a_p1_names, .ref a_p1_settings, .ref a_p1_outcomes, .int v_p1_samples, .int v_p1_penDown])), (a_p1_names, .inl (cc 0, 16, .inl c_p1_names)), (a_p1_figures, .inr (0, [.ref a_p1_figures_strokes, .ref a_p1_figures_lengths, .ref a_p1_figures_points, .ref a_p1_figures_signCounts, .ref a_p1_figures_signs])), (a_p1_figures_signCounts, .inl (cc 0, 17, .inl c_p1_figures_signCounts)), (a_p0, .inr (2, [.ref a_p0_costs, .ref a_p0_distances, .int v_p0_verdict, .int v_p0_name, .int v_p0_distance, .int v_p0_sample])), (a_p0_costs, .inl (cc 0, 41, .inl c_p0_costs_L8)), (a_p1_figures_signs, .inl (cc 0, 680, .inl c_p1_figures_signs))] → va_S A s.heap H locs → lv_has ls 8 [(0, .ref a_p0), (1, .ref a_p1), (2, .int k8_2), (3, .int x3), (4, .int x4), (5, .int x5)] → (∀ (y3 : Int32) (c_p0_costs_E8 : Nat → Int32), r9 = Sum.inl (y3, c_p0_costs_E8) → ∀ (H : Heap) (locs : List Loc) (ls : Array Slot), va_P D vwCl [(a_p1, .inr (4, [.ref a_p1_figures, .ref a_p1_names, .ref a_p1_settings, .ref a_p1_outcomes, .int v_p1_samples, .int v_p1_penDown])), (a_p1_names, .inl (cc 0, 16, .inl c_p1_names)), (a_p1_figures, .inr (0, [.ref a_p1_figures_strokes, .ref a_p1_figures_lengths, .ref a_p1_figures_points, .ref a_p1_figures_signCounts, .ref a_p1_figures_signs])), (a_p1_figures_signCounts, .inl (cc 0, 17, .inl c_p1_figures_signCounts)), (a_p0, .inr (2, [.ref a_p0_costs, .ref a_p0_distances, .int v_p0_verdict, .int v_p0_name, .int v_p0_distance, .int v_p0_sample])), (a_p0_costs, .inl (cc 0, 41, .inl c_p0_costs_E8)), (a_p1_figures_signs, .inl (cc 0, 680, .inl c_p1_figures_signs))] H → va_D A [(a_p1, .inr (4, [.ref a_p1_figures, .ref a_p1_names, .ref a_p1_settings, .ref a_p1_outcomes, .int v_p1_samples, .int v_p1_penDown])), (a_p1_names, .inl (cc 0, 16, .inl c_p1_names)), (a_p1_figures, .inr (0, [.ref a_p1_figures_strokes, .ref a_p1_figures_lengths, .ref a_p1_figures_points, .ref a_p1_figures_signCounts, .ref a_p1_figures_signs])), (a_p1_figures_signCounts, .inl (cc 0, 17, .inl c_p1_figures_signCounts)), (a_p0, .inr (2, [.ref a_p0_costs, .ref a_p0_distances, .int v_p0_verdict, .int v_p0_name, .int v_p0_distance, .int v_p0_sample])), (a_p0_costs, .inl (cc 0, 41, .inl c_p0_costs_E8)), (a_p1_figures_signs, .inl (cc 0, 680, .inl c_p1_figures_signs))] → va_S A s.heap H locs → lv_has ls 8 [(3, .int y3)] → W p l e ({ frames := 3, cells := 0, slots := 0, locals := 76 } : Room) s m args below meth c H locs 0 0 QQ (F0 m 95 ls [])) → (∀ (y3 : Int32) (c_p0_costs_E8 : Nat → Int32), r9 = Sum.inr (y3, c_p0_costs_E8) → ∀ (H : Heap) (locs : List Loc) (ls : Array Slot), va_P D vwCl [(a_p1, .inr (4, [.ref a_p1_figures, .ref a_p1_names, .ref a_p1_settings, .ref a_p1_outcomes, .int v_p1_samples, .int v_p1_penDown])), (a_p1_names, .inl (cc 0, 16, .inl c_p1_names)), (a_p1_figures, .inr (0, [.ref a_p1_figures_strokes, .ref a_p1_figures_lengths, .ref a_p1_figures_points, .ref a_p1_figures_signCounts, .ref a_p1_figures_signs])), (a_p1_figures_signCounts, .inl (cc 0, 17, .inl c_p1_figures_signCounts)), (a_p0, .inr (2, [.ref a_p0_costs, .ref a_p0_distances, .int v_p0_verdict, .int v_p0_name, .int v_p0_distance, .int v_p0_sample])), (a_p0_costs, .inl (cc 0, 41, .inl c_p0_costs_E8)), (a_p1_figures_signs, .inl (cc 0, 680, .inl c_p1_figures_signs))] H → va_D A [(a_p1, .inr (4, [.ref a_p1_figures, .ref a_p1_names, .ref a_p1_settings, .ref a_p1_outcomes, .int v_p1_samples, .int v_p1_penDown])), (a_p1_names, .inl (cc 0, 16, .inl c_p1_names)), (a_p1_figures, .inr (0, [.ref a_p1_figures_strokes, .ref a_p1_figures_lengths, .ref a_p1_figures_points, .ref a_p1_figures_signCounts, .ref a_p1_figures_signs])), (a_p1_figures_signCounts, .inl (cc 0, 17, .inl c_p1_figures_signCounts)), (a_p0, .inr (2, [.ref a_p0_costs, .ref a_p0_distances, .int v_p0_verdict, .int v_p0_name, .int v_p0_distance, .int v_p0_sample])), (a_p0_costs, .inl (cc 0, 41, .inl c_p0_costs_E8)), (a_p1_figures_signs, .inl (cc 0, 680, .inl c_p1_figures_signs))] → va_S A s.heap H locs → lv_has ls 8 [(3, .int y3)] → W p l e ({ frames := 3, cells := 0, slots := 0, locals := 76 } : Room) s m args below meth c H locs 0 0 QQ (F0 m 109 ls [])) → W p l e ({ frames := 3, cells := 0, slots := 0, locals := 76 } : Room) s m args below meth c H locs 0 0 QQ (F0 m 8 ls []) := by
    intro QQ n
    induction n with
    | zero => intro k8_2 x3 x4 x5 c_p0_costs_L8 r9 h; exact (loopF_zero h).elim
    | succ n ih =>
      intro k8_2 x3 x4 x5 c_p0_costs_L8 r9 h H locs ls hP hD hS hl KX0 KX1
      obtain ⟨z9, hz, h⟩ := loopF_step h
      exact hB8 QQ k8_2 x3 x4 x5 c_p0_costs_L8 z9 hz H locs ls hP hD hS hl (fun x3_b x4_b x5_b c_p0_costs_L8_b q9 H9 locs9 ls9 hP9 hD9 hS9 hl9 => ih k8_2 x3_b x4_b x5_b c_p0_costs_L8_b r9 (by rcases h with ⟨s9, h1, h2⟩ | h1 <;> rw [h1] at q9 <;> cases q9; exact h2) H9 locs9 ls9 hP9 hD9 hS9 hl9 KX0 KX1) (fun y3 c_p0_costs_E8 q9 => KX0 y3 c_p0_costs_E8 (by rcases h with ⟨s9, h1, h2⟩ | h1 <;> rw [h1] at q9 <;> cases q9; rfl)) (fun y3 c_p0_costs_E8 q9 => KX1 y3 c_p0_costs_E8 (by rcases h with ⟨s9, h1, h2⟩ | h1 <;> rw [h1] at q9 <;> cases q9; rfl))
  refine lv_iconst (v := (-1 : Int32)) hx hb dX2_closestPair_0 (by decide) ?_
  refine lv_istore_n (x := (-1 : Int32)) (lv' := [(3, .int (-1 : Int32)), (0, .ref a_p0), (1, .ref a_p1), (2, .int p2)]) hx hb dX2_closestPair_1 rfl hl (by decide) rfl (fun ls hl => ?_)
  refine lv_iconst (v := (-1 : Int32)) hx hb dX2_closestPair_2 (by decide) ?_
  refine lv_istore (x := (-1 : Int32)) (lv' := [(4, .int (-1 : Int32)), (3, .int (-1 : Int32)), (0, .ref a_p0), (1, .ref a_p1), (2, .int p2)]) hx hb dX2_closestPair_3 hl (by decide) rfl (fun ls hl => ?_)
  refine lv_iconst (v := (0 : Int32)) hx hb dX2_closestPair_5 (by decide) ?_
  refine lv_istore (x := (0 : Int32)) (lv' := [(5, .int (0 : Int32)), (4, .int (-1 : Int32)), (3, .int (-1 : Int32)), (0, .ref a_p0), (1, .ref a_p1), (2, .int p2)]) hx hb dX2_closestPair_6 hl (by decide) rfl (fun ls hl => ?_)
  have hl := lv_sub (l' := [(0, .ref a_p0), (1, .ref a_p1), (2, .int p2), (3, .int (-1 : Int32)), (4, .int (-1 : Int32)), (5, .int (0 : Int32))]) hl [3, 4, 5, 2, 1, 0] rfl
  obtain ⟨e9, hq9, h⟩ := b1_some h
  refine hL8 _ FUEL p2 (-1 : Int32) (-1 : Int32) (0 : Int32) c_p0_costs e9 hq9 _ _ _ hP hD hS hl (fun y3_15 c_p0_costs_15 q9 H locs ls hP hD hS hl => ?_) (fun y3_16 c_p0_costs_16 q9 H locs ls hP hD hS hl => ?_)
  · subst q9
    replace h := xs20 h
    replace h := xu2 h
    refine lv_iload_n hx hb dX2_closestPair_95 rfl (lv_at hl 0 rfl) ?_
    cases h
    exact xendi (ret := none) F hsz hAe hK hP hD hS (fun _ => 0) rfl rfl (Nat.zero_le _) (Nat.zero_le _) dX2_closestPair_96
  · subst q9
    replace h := xs21 h
    replace h := xu2 h
    refine lv_iload_n hx hb dX2_closestPair_109 rfl (lv_at hl 0 rfl) ?_
    cases h
    exact xendi (ret := none) F hsz hAe hK hP hD hS (fun _ => 0) rfl rfl (Nat.zero_le _) (Nat.zero_le _) dX2_closestPair_110
theorem inX5_addCode_X5 : ∀ w ∈ wsX50, w ∈ wsX5_addCode := by decide +kernel
set_option maxHeartbeats 4000000 in
set_option maxRecDepth 100000 in
theorem kX5_addCode (l : Launch) (D : va_G) (cc : Nat → ClassId) (a_p0 : Nat) (a_p0_codes : Nat) (v_p0_length : Int32) (c_p0_codes : Nat → Int32) (p1 : Int32) (v_p0_length_o : Int32) (c_p0_codes_o : Nat → Int32) (h : fX5_addCode p1 v_p0_length c_p0_codes = (v_p0_length_o, c_p0_codes_o)) : xMv l yX5_addCode wsX5_addCode ({ frames := 1, cells := 0, slots := 0, locals := 22 } : Room) D cc [.ref a_p0, .int p1] [(a_p0, .inr (5, [.ref a_p0_codes, .int v_p0_length])), (a_p0_codes, .inl (cc 0, 100, .inl c_p0_codes))] (fun _ => [(a_p0, .inr (5, [.ref a_p0_codes, .int v_p0_length_o])), (a_p0_codes, .inl (cc 0, 100, .inl c_p0_codes_o))]) 0 0 := by
  intro sz
  refine xstart (bc := cX5_addCode) (maxL := 2) (ret := none) (by decide) rfl (Nat.le_of_ble_eq_true rfl) ?_
  intro p e s m args below meth c A hargs hsz hAe F hK hN hA hmn hP hD hS ls hl
  have hx := F.1.1
  have hb := F.1.2.1
  have hml := F.1.2.2.1
  have hown := F.1.2.2.2.1
  have hts := F.1.2.2.2.2
  have hl : lv_has ls 2 [(0, .ref a_p0), (1, .int p1)] := hl
  have k1 := hts (.fieldLink RX5 9 "RuledStrokes$Text" "codes" "[I") (by decide +kernel)
  have k2 := hts (.fieldLink RX5 15 "RuledStrokes$Text" "length" "I") (by decide +kernel)
  have k3 := hts (.initialized RX6) (by decide +kernel)
  have k4 := hts (.static yX6_putCell) (by decide +kernel)
  unfold fX5_addCode at h
  refine lv_aload_n hx hb dX5_addCode_0 rfl (lv_at hl 0 rfl) ?_
  refine va_get (D := D) (ci := 5) (v := .ref a_p0_codes) (C := RX5) (T := TX5) (N := 2) hx hb hts inX5_addCode_X5 hown hK hP 0 rfl rfl 0 (by decide) k1 (fun _ h9 => h9) rfl dX5_addCode_1 ?_
  refine lv_aload_n hx hb dX5_addCode_4 rfl (lv_at hl 0 rfl) ?_
  refine va_get (D := D) (ci := 5) (v := .int v_p0_length) (C := RX5) (T := TX5) (N := 2) hx hb hts inX5_addCode_X5 hown hK hP 0 rfl rfl 1 (by decide) k2 (fun _ h9 => h9) rfl dX5_addCode_5 ?_
  refine lv_iload_n hx hb dX5_addCode_8 rfl (lv_at hl 1 rfl) ?_
  refine xcallv (wr := [(a_p0, .inr (5, [.ref a_p0_codes, .int v_p0_length]))]) [1] [0] (xrunSN (As := [.ref a_p0_codes, .int v_p0_length, .int p1]) (rest := []) F ((kX6_putCellT l D cc (a_p0 := a_p0_codes) (n_p0 := 100) (c_p0 := c_p0_codes) (p1 := v_p0_length) (p2 := p1) (c_p0_o := (xput v_p0_length p1 100 c_p0_codes)) (h := rfl)) _) ⟨va_cnB 3 hts gX5_addCode_X6_putCell_n19 rfl rfl rfl (hN.1 (.methodLinkNest RX5 19 yX6_putCell RX6) (by simp [xNest])) k3 (by decide +kernel) ⟨Nat.le_of_ble_eq_true rfl, Nat.le_of_ble_eq_true rfl⟩, k4⟩ hK hN hP hD [1] rfl (by decide) rfl hl rfl (Nat.le_of_ble_eq_true rfl) dX5_addCode_9 ⟨Nat.zero_le _, Nat.zero_le _⟩) hP hD hS hA rfl rfl (by decide) (by decide) (fun _ H locs hP hD hS => ?_)
  have hP : va_P D vwCl [(a_p0, .inr (5, [.ref a_p0_codes, .int v_p0_length])), (a_p0_codes, .inl (cc 0, 100, .inl (xput v_p0_length p1 100 c_p0_codes)))] H := hP
  have hD : va_D A [(a_p0, .inr (5, [.ref a_p0_codes, .int v_p0_length])), (a_p0_codes, .inl (cc 0, 100, .inl (xput v_p0_length p1 100 c_p0_codes)))] := hD
  refine lv_aload_n hx hb dX5_addCode_12 rfl (lv_at hl 0 rfl) ?_
  refine lv_dup hx hb dX5_addCode_13 rfl ?_
  refine va_get (D := D) (ci := 5) (v := .int v_p0_length) (C := RX5) (T := TX5) (N := 2) hx hb hts inX5_addCode_X5 hown hK hP 0 rfl rfl 1 (by decide) k2 (fun _ h9 => h9) rfl dX5_addCode_14 ?_
  refine lv_iconst (v := (1 : Int32)) hx hb dX5_addCode_17 (by decide) ?_
  refine lv_iadd hx hb dX5_addCode_18 ?_
  refine va_put (D := D) (ci := 5) (v := .int (v_p0_length + (1 : Int32))) (ty := .int) (C := RX5) (T := TX5) (N := 2) hx hb hts inX5_addCode_X5 tyX5 tyX5_ok nmX5 hown hK hP hD hS 0 rfl rfl 1 (by decide) k2 (fun _ h9 => h9) rfl (by decide +kernel) rfl rfl (Nat.le_of_ble_eq_true rfl) dX5_addCode_19 (fun H locs hP hD hS => ?_)
  have hP : va_P D vwCl [(a_p0, .inr (5, [.ref a_p0_codes, .int (v_p0_length + (1 : Int32))])), (a_p0_codes, .inl (cc 0, 100, .inl (xput v_p0_length p1 100 c_p0_codes)))] H := hP
  have hD : va_D A [(a_p0, .inr (5, [.ref a_p0_codes, .int (v_p0_length + (1 : Int32))])), (a_p0_codes, .inl (cc 0, 100, .inl (xput v_p0_length p1 100 c_p0_codes)))] := hD
  cases h
  exact xendv F hsz hAe hK hP hD hS (fun _ => 0) rfl (Nat.zero_le _) (Nat.zero_le _) dX5_addCode_22
set_option maxHeartbeats 4000000 in
set_option maxRecDepth 100000 in
theorem kX5_goesOn (l : Launch) (D : va_G) (cc : Nat → ClassId) (p0 : Int32) (p1 : Int32) (r0 : Int32) (h : fX5_goesOn p0 p1 = r0) : xMi l yX5_goesOn wsX5_goesOn ({ frames := 0, cells := 0, slots := 0, locals := 0 } : Room) D cc [.int p0, .int p1] [] r0 (fun _ => []) 0 0 := by
  intro sz
  refine xstart (bc := cX5_goesOn) (maxL := 2) (ret := (some .boolean)) (by decide) rfl (Nat.le_of_ble_eq_true rfl) ?_
  intro p e s m args below meth c A hargs hsz hAe F hK hN hA hmn hP hD hS ls hl
  have hx := F.1.1
  have hb := F.1.2.1
  have hml := F.1.2.2.1
  have hown := F.1.2.2.2.1
  have hts := F.1.2.2.2.2
  have hl : lv_has ls 2 [(0, .int p0), (1, .int p1)] := hl
  unfold fX5_goesOn at h
  refine lv_iload_n hx hb dX5_goesOn_0 rfl (lv_at hl 0 rfl) ?_
  refine lv_if_le (tgt := 19) hx hb dX5_goesOn_1 (by decide) (fun (c1 : p0 ≤ 0) => ?_) (fun (c1 : ¬ p0 ≤ 0) => ?_)
  · replace h := ip c1 h
    refine lv_iconst (v := (0 : Int32)) hx hb dX5_goesOn_19 (by decide) ?_
    cases h
    exact xendz F (by decide) hsz hAe hK hP hD hS (fun _ => 0) rfl rfl (Nat.zero_le _) (Nat.zero_le _) dX5_goesOn_20
  · replace h := iq c1 h
    refine lv_iload_n hx hb dX5_goesOn_4 rfl (lv_at hl 0 rfl) ?_
    refine lv_bipush (v := (10 : Int32)) hx hb dX5_goesOn_5 (by decide) ?_
    refine lv_imul hx hb dX5_goesOn_7 ?_
    refine lv_iload_n hx hb dX5_goesOn_8 rfl (lv_at hl 1 rfl) ?_
    refine lv_iadd hx hb dX5_goesOn_9 ?_
    refine lv_bipush (v := (60 : Int32)) hx hb dX5_goesOn_10 (by decide) ?_
    refine lv_icmp_gt (tgt := 19) hx hb dX5_goesOn_12 (by decide) (fun (c2 : (60 : Int32) < ((p0 * (10 : Int32)) + p1)) => ?_) (fun (c2 : ¬ (60 : Int32) < ((p0 * (10 : Int32)) + p1)) => ?_)
    · replace h := ip c2 h
      refine lv_iconst (v := (0 : Int32)) hx hb dX5_goesOn_19 (by decide) ?_
      cases h
      exact xendz F (by decide) hsz hAe hK hP hD hS (fun _ => 0) rfl rfl (Nat.zero_le _) (Nat.zero_le _) dX5_goesOn_20
    · replace h := iq c2 h
      refine lv_iconst (v := (1 : Int32)) hx hb dX5_goesOn_15 (by decide) ?_
      refine lv_goto (tgt := 20) hx hb dX5_goesOn_16 (by decide) ?_
      cases h
      exact xendz F (by decide) hsz hAe hK hP hD hS (fun _ => 0) rfl rfl (Nat.zero_le _) (Nat.zero_le _) dX5_goesOn_20
theorem inX5_firstError_X5 : ∀ w ∈ wsX50, w ∈ wsX5_firstError := by decide +kernel
set_option maxHeartbeats 4000000 in
set_option maxRecDepth 100000 in
theorem kX5_firstError (l : Launch) (D : va_G) (cc : Nat → ClassId) (a_p0 : Nat) (a_p0_codes : Nat) (v_p0_length : Int32) (c_p0_codes : Nat → Int32) (r0 : Int32) (h : fX5_firstError v_p0_length c_p0_codes = some r0) : xMi l yX5_firstError wsX5_firstError ({ frames := 1, cells := 0, slots := 0, locals := 21 } : Room) D cc [.ref a_p0] [(a_p0, .inr (5, [.ref a_p0_codes, .int v_p0_length])), (a_p0_codes, .inl (cc 0, 100, .inl c_p0_codes))] r0 (fun _ => [(a_p0, .inr (5, [.ref a_p0_codes, .int v_p0_length])), (a_p0_codes, .inl (cc 0, 100, .inl c_p0_codes))]) 0 0 := by
  intro sz
  refine xstart (bc := cX5_firstError) (maxL := 9) (ret := (some .int)) (by decide) rfl (Nat.le_of_ble_eq_true rfl) ?_
  intro p e s m args below meth c A hargs hsz hAe F hK hN hA hmn hP hD hS ls hl
  have hx := F.1.1
  have hb := F.1.2.1
  have hml := F.1.2.2.1
  have hown := F.1.2.2.2.1
  have hts := F.1.2.2.2.2
  have hl : lv_has ls 9 [(0, .ref a_p0)] := hl
  have k1 := hts (.fieldLink RX5 15 "RuledStrokes$Text" "length" "I") (by decide +kernel)
  have k2 := hts (.fieldLink RX5 9 "RuledStrokes$Text" "codes" "[I") (by decide +kernel)
  have k3 := hts (.initialized RX6) (by decide +kernel)
  have k4 := hts (.static yX6_cell) (by decide +kernel)
  unfold fX5_firstError at h
  have hB15 : ∀ (QQ : State → Prop)  (x1 : Int32) (x2 : Int32) (x3 : Int32) (x4 : Int32) (x5 : Int32) (x6 : Int32) (r9 : (Int32 × Int32 × Int32 × Int32 × Int32 × Int32) ⊕ ((Int32) ⊕ (Int32) ⊕ (Int32 × Int32))), fX5_firstError_L15 v_p0_length c_p0_codes x1 x2 x3 x4 x5 x6 = some r9 → ∀ (H : Heap) (locs : List Loc) (ls : Array Slot), va_P D vwCl [(a_p0, .inr (5, [.ref a_p0_codes, .int v_p0_length])), (a_p0_codes, .inl (cc 0, 100, .inl c_p0_codes))] H → va_D A [(a_p0, .inr (5, [.ref a_p0_codes, .int v_p0_length])), (a_p0_codes, .inl (cc 0, 100, .inl c_p0_codes))] → va_S A s.heap H locs → lv_has ls 9 [(0, .ref a_p0), (1, .int x1), (2, .int x2), (3, .int x3), (4, .int x4), (5, .int x5), (6, .int x6)] → (∀ (x1 : Int32) (x2 : Int32) (x3 : Int32) (x4 : Int32) (x5 : Int32) (x6 : Int32), r9 = Sum.inl (x1, x2, x3, x4, x5, x6) → ∀ (H : Heap) (locs : List Loc) (ls : Array Slot), va_P D vwCl [(a_p0, .inr (5, [.ref a_p0_codes, .int v_p0_length])), (a_p0_codes, .inl (cc 0, 100, .inl c_p0_codes))] H → va_D A [(a_p0, .inr (5, [.ref a_p0_codes, .int v_p0_length])), (a_p0_codes, .inl (cc 0, 100, .inl c_p0_codes))] → va_S A s.heap H locs → lv_has ls 9 [(0, .ref a_p0), (1, .int x1), (2, .int x2), (3, .int x3), (4, .int x4), (5, .int x5), (6, .int x6)] → W p l e ({ frames := 1, cells := 0, slots := 0, locals := 21 } : Room) s m args below meth c H locs 0 0 QQ (F0 m 15 ls [])) → (∀ (y6 : Int32), r9 = Sum.inr (Sum.inl y6) → ∀ (H : Heap) (locs : List Loc) (ls : Array Slot), va_P D vwCl [(a_p0, .inr (5, [.ref a_p0_codes, .int v_p0_length])), (a_p0_codes, .inl (cc 0, 100, .inl c_p0_codes))] H → va_D A [(a_p0, .inr (5, [.ref a_p0_codes, .int v_p0_length])), (a_p0_codes, .inl (cc 0, 100, .inl c_p0_codes))] → va_S A s.heap H locs → lv_has ls 9 [(6, .int y6)] → W p l e ({ frames := 1, cells := 0, slots := 0, locals := 21 } : Room) s m args below meth c H locs 0 0 QQ (F0 m 106 ls [])) → (∀ (y6 : Int32), r9 = Sum.inr (Sum.inr (Sum.inl y6)) → ∀ (H : Heap) (locs : List Loc) (ls : Array Slot), va_P D vwCl [(a_p0, .inr (5, [.ref a_p0_codes, .int v_p0_length])), (a_p0_codes, .inl (cc 0, 100, .inl c_p0_codes))] H → va_D A [(a_p0, .inr (5, [.ref a_p0_codes, .int v_p0_length])), (a_p0_codes, .inl (cc 0, 100, .inl c_p0_codes))] → va_S A s.heap H locs → lv_has ls 9 [(6, .int y6)] → W p l e ({ frames := 1, cells := 0, slots := 0, locals := 21 } : Room) s m args below meth c H locs 0 0 QQ (F0 m 182 ls [])) → (∀ (y3 : Int32) (y5 : Int32), r9 = Sum.inr (Sum.inr (Sum.inr (y3, y5))) → ∀ (H : Heap) (locs : List Loc) (ls : Array Slot), va_P D vwCl [(a_p0, .inr (5, [.ref a_p0_codes, .int v_p0_length])), (a_p0_codes, .inl (cc 0, 100, .inl c_p0_codes))] H → va_D A [(a_p0, .inr (5, [.ref a_p0_codes, .int v_p0_length])), (a_p0_codes, .inl (cc 0, 100, .inl c_p0_codes))] → va_S A s.heap H locs → lv_has ls 9 [(0, .ref a_p0), (3, .int y3), (5, .int y5)] → W p l e ({ frames := 1, cells := 0, slots := 0, locals := 21 } : Room) s m args below meth c H locs 0 0 QQ (F0 m 196 ls [])) → W p l e ({ frames := 1, cells := 0, slots := 0, locals := 21 } : Room) s m args below meth c H locs 0 0 QQ (F0 m 15 ls []) := by
    intro QQ x1 x2 x3 x4 x5 x6 r9 h H locs ls hP hD hS hl KS KX0 KX1 KX2
    unfold fX5_firstError_L15 at h
    refine lv_iload hx hb dX5_firstError_15 (lv_at hl 6 rfl) ?_
    refine lv_aload_n hx hb dX5_firstError_17 rfl (lv_at hl 0 rfl) ?_
    refine va_get (D := D) (ci := 5) (v := .int v_p0_length) (C := RX5) (T := TX5) (N := 2) hx hb hts inX5_firstError_X5 hown hK hP 0 rfl rfl 1 (by decide) k1 (fun _ h9 => h9) rfl dX5_firstError_18 ?_
    refine lv_icmp_ge (tgt := 196) hx hb dX5_firstError_21 (by decide) (fun (c1 : v_p0_length ≤ x6) => ?_) (fun (c1 : ¬ v_p0_length ≤ x6) => ?_)
    · replace h := ip c1 h
      have hl := lv_sub (l' := [(0, .ref a_p0), (3, .int x3), (5, .int x5)]) hl [0, 3, 5] rfl
      cases h
      exact KX2 x3 x5 rfl _ _ _ hP hD hS hl
    · replace h := iq c1 h
      refine lv_aload_n hx hb dX5_firstError_24 rfl (lv_at hl 0 rfl) ?_
      refine va_get (D := D) (ci := 5) (v := .ref a_p0_codes) (C := RX5) (T := TX5) (N := 2) hx hb hts inX5_firstError_X5 hown hK hP 0 rfl rfl 0 (by decide) k2 (fun _ h9 => h9) rfl dX5_firstError_25 ?_
      refine lv_iload hx hb dX5_firstError_28 (lv_at hl 6 rfl) ?_
      refine xcalli (wr := [(a_p0, .inr (5, [.ref a_p0_codes, .int v_p0_length]))]) [1] [0] (xrunSN (As := [.ref a_p0_codes, .int x6]) (rest := []) F ((kX6_cellT l D cc (a_p0 := a_p0_codes) (n_p0 := 100) (c_p0 := c_p0_codes) (p1 := x6) (r0 := (xcell x6 100 c_p0_codes)) (h := rfl)) _) ⟨va_cnB 2 hts gX5_firstError_X6_cell_n23 rfl rfl rfl (hN.1 (.methodLinkNest RX5 23 yX6_cell RX6) (by simp [xNest])) k3 (by decide +kernel) ⟨Nat.le_of_ble_eq_true rfl, Nat.le_of_ble_eq_true rfl⟩, k4⟩ hK hN hP hD [1] rfl (by decide) rfl hl rfl (Nat.le_of_ble_eq_true rfl) dX5_firstError_30 ⟨Nat.zero_le _, Nat.zero_le _⟩) hP hD hS hA rfl rfl (by decide) (by decide) (fun _ H locs hP hD hS => ?_)
      have hP : va_P D vwCl [(a_p0, .inr (5, [.ref a_p0_codes, .int v_p0_length])), (a_p0_codes, .inl (cc 0, 100, .inl c_p0_codes))] H := hP
      have hD : va_D A [(a_p0, .inr (5, [.ref a_p0_codes, .int v_p0_length])), (a_p0_codes, .inl (cc 0, 100, .inl c_p0_codes))] := hD
      refine lv_istore (x := (xcell x6 100 c_p0_codes)) (lv' := [(7, .int (xcell x6 100 c_p0_codes)), (0, .ref a_p0), (1, .int x1), (2, .int x2), (3, .int x3), (4, .int x4), (5, .int x5), (6, .int x6)]) hx hb dX5_firstError_33 hl (by decide) rfl (fun ls hl => ?_)
      refine lv_iload hx hb dX5_firstError_35 (lv_at hl 0 rfl) ?_
      refine lv_bipush (v := (48 : Int32)) hx hb dX5_firstError_37 (by decide) ?_
      refine lv_icmp_lt (tgt := 53) hx hb dX5_firstError_39 (by decide) (fun (c3 : (xcell x6 100 c_p0_codes) < (48 : Int32)) => ?_) (fun (c3 : ¬ (xcell x6 100 c_p0_codes) < (48 : Int32)) => ?_)
      · replace h := ip c3 h
        refine lv_iconst (v := (0 : Int32)) hx hb dX5_firstError_53 (by decide) ?_
        refine lv_istore (x := (0 : Int32)) (lv' := [(8, .int (0 : Int32)), (7, .int (xcell x6 100 c_p0_codes)), (0, .ref a_p0), (1, .int x1), (2, .int x2), (3, .int x3), (4, .int x4), (5, .int x5), (6, .int x6)]) hx hb dX5_firstError_54 hl (by decide) rfl (fun ls hl => ?_)
        refine lv_iload hx hb dX5_firstError_56 (lv_at hl 0 rfl) ?_
        refine lv_if_eq (tgt := 97) hx hb dX5_firstError_58 (by decide) (fun _ => ?_) (fun c4 => absurd (by decide) c4)
        refine lv_iload hx hb dX5_firstError_97 (lv_at hl 0 rfl) ?_
        refine lv_if_ne (tgt := 106) hx hb dX5_firstError_99 (by decide) (fun c5 => absurd (by decide) c5) (fun _ => ?_)
        refine lv_iload_n hx hb dX5_firstError_102 rfl (lv_at hl 5 rfl) ?_
        refine lv_if_ne (tgt := 109) hx hb dX5_firstError_103 (by decide) (fun (c6 : ¬ x3 = 0) => ?_) (fun (c6 : x3 = 0) => ?_)
        · replace h := iq c6 h
          refine lv_iload hx hb dX5_firstError_109 (lv_at hl 7 rfl) ?_
          refine lv_if_eq (tgt := 127) hx hb dX5_firstError_111 (by decide) (fun (c7 : x5 = 0) => ?_) (fun (c7 : ¬ x5 = 0) => ?_)
          · replace h := ip c7 h
            refine lv_iload hx hb dX5_firstError_127 (lv_at hl 7 rfl) ?_
            refine lv_if_ne (tgt := 154) hx hb dX5_firstError_129 (by decide) (fun c8 => absurd c7 c8) (fun _ => ?_)
            refine lv_iload hx hb dX5_firstError_132 (lv_at hl 1 rfl) ?_
            refine lv_bipush (v := (45 : Int32)) hx hb dX5_firstError_134 (by decide) ?_
            refine lv_icmp_ne (tgt := 154) hx hb dX5_firstError_136 (by decide) (fun (c9 : ¬ (xcell x6 100 c_p0_codes) = (45 : Int32)) => ?_) (fun (c9 : (xcell x6 100 c_p0_codes) = (45 : Int32)) => ?_)
            · replace h := iq c9 h
              refine lv_iload hx hb dX5_firstError_154 (lv_at hl 7 rfl) ?_
              refine lv_if_ne (tgt := 182) hx hb dX5_firstError_156 (by decide) (fun c10 => absurd c7 c10) (fun _ => ?_)
              refine lv_iload hx hb dX5_firstError_159 (lv_at hl 1 rfl) ?_
              refine lv_bipush (v := (47 : Int32)) hx hb dX5_firstError_161 (by decide) ?_
              refine lv_icmp_ne (tgt := 182) hx hb dX5_firstError_163 (by decide) (fun (c11 : ¬ (xcell x6 100 c_p0_codes) = (47 : Int32)) => ?_) (fun (c11 : (xcell x6 100 c_p0_codes) = (47 : Int32)) => ?_)
              · replace h := iq c11 h
                have hl := lv_sub (l' := [(6, .int x6)]) hl [8] rfl
                cases h
                exact KX1 x6 rfl _ _ _ hP hD hS hl
              · replace h := ip c11 h
                refine lv_iload_n hx hb dX5_firstError_166 rfl (lv_at hl 3 rfl) ?_
                refine lv_iconst (v := (3 : Int32)) hx hb dX5_firstError_167 (by decide) ?_
                refine lv_icmp_ge (tgt := 182) hx hb dX5_firstError_168 (by decide) (fun (c12 : (3 : Int32) ≤ x1) => ?_) (fun (c12 : ¬ (3 : Int32) ≤ x1) => ?_)
                · replace h := ip c12 h
                  have hl := lv_sub (l' := [(6, .int x6)]) hl [8] rfl
                  cases h
                  exact KX1 x6 rfl _ _ _ hP hD hS hl
                · replace h := iq c12 h
                  refine lv_iinc (v := x1 + (1 : Int32)) (lv' := [(1, .int (x1 + (1 : Int32))), (8, .int (0 : Int32)), (7, .int (xcell x6 100 c_p0_codes)), (0, .ref a_p0), (2, .int x2), (3, .int x3), (4, .int x4), (5, .int x5), (6, .int x6)]) hx hb dX5_firstError_171 hl (k := 3) rfl (by first | rfl | decide) (by decide) rfl (fun ls hl => ?_)
                  refine lv_iconst (v := (1 : Int32)) hx hb dX5_firstError_174 (by decide) ?_
                  refine lv_istore_n (x := (1 : Int32)) (lv' := [(2, .int (1 : Int32)), (1, .int (x1 + (1 : Int32))), (8, .int (0 : Int32)), (7, .int (xcell x6 100 c_p0_codes)), (0, .ref a_p0), (3, .int x3), (4, .int x4), (5, .int x5), (6, .int x6)]) hx hb dX5_firstError_175 rfl hl (by decide) rfl (fun ls hl => ?_)
                  refine lv_iconst (v := (1 : Int32)) hx hb dX5_firstError_176 (by decide) ?_
                  refine lv_istore (x := (1 : Int32)) (lv' := [(5, .int (1 : Int32)), (2, .int (1 : Int32)), (1, .int (x1 + (1 : Int32))), (8, .int (0 : Int32)), (7, .int (xcell x6 100 c_p0_codes)), (0, .ref a_p0), (3, .int x3), (4, .int x4), (6, .int x6)]) hx hb dX5_firstError_177 hl (by decide) rfl (fun ls hl => ?_)
                  refine lv_goto (tgt := 185) hx hb dX5_firstError_179 (by decide) ?_
                  refine lv_iconst (v := (0 : Int32)) hx hb dX5_firstError_185 (by decide) ?_
                  refine lv_istore_n (x := (0 : Int32)) (lv' := [(3, .int (0 : Int32)), (5, .int (1 : Int32)), (2, .int (1 : Int32)), (1, .int (x1 + (1 : Int32))), (8, .int (0 : Int32)), (7, .int (xcell x6 100 c_p0_codes)), (0, .ref a_p0), (4, .int x4), (6, .int x6)]) hx hb dX5_firstError_186 rfl hl (by decide) rfl (fun ls hl => ?_)
                  refine lv_iconst (v := (0 : Int32)) hx hb dX5_firstError_187 (by decide) ?_
                  refine lv_istore (x := (0 : Int32)) (lv' := [(4, .int (0 : Int32)), (3, .int (0 : Int32)), (5, .int (1 : Int32)), (2, .int (1 : Int32)), (1, .int (x1 + (1 : Int32))), (8, .int (0 : Int32)), (7, .int (xcell x6 100 c_p0_codes)), (0, .ref a_p0), (6, .int x6)]) hx hb dX5_firstError_188 hl (by decide) rfl (fun ls hl => ?_)
                  refine lv_iinc (v := x6 + (1 : Int32)) (lv' := [(6, .int (x6 + (1 : Int32))), (4, .int (0 : Int32)), (3, .int (0 : Int32)), (5, .int (1 : Int32)), (2, .int (1 : Int32)), (1, .int (x1 + (1 : Int32))), (8, .int (0 : Int32)), (7, .int (xcell x6 100 c_p0_codes)), (0, .ref a_p0)]) hx hb dX5_firstError_190 hl (k := 8) rfl (by first | rfl | decide) (by decide) rfl (fun ls hl => ?_)
                  refine lv_goto (tgt := 15) hx hb dX5_firstError_193 (by decide) ?_
                  have hl := lv_sub (l' := [(0, .ref a_p0), (1, .int (x1 + (1 : Int32))), (2, .int (1 : Int32)), (3, .int (0 : Int32)), (4, .int (0 : Int32)), (5, .int (1 : Int32)), (6, .int (x6 + (1 : Int32)))]) hl [8, 5, 4, 2, 1, 3, 0] rfl
                  cases h
                  exact KS (x1 + (1 : Int32)) (1 : Int32) (0 : Int32) (0 : Int32) (1 : Int32) (x6 + (1 : Int32)) rfl _ _ _ hP hD hS hl
            · replace h := ip c9 h
              refine lv_iload_n hx hb dX5_firstError_139 rfl (lv_at hl 4 rfl) ?_
              refine lv_bipush (v := (12 : Int32)) hx hb dX5_firstError_140 (by decide) ?_
              refine lv_icmp_ge (tgt := 154) hx hb dX5_firstError_142 (by decide) (fun (c13 : (12 : Int32) ≤ x2) => ?_) (fun (c13 : ¬ (12 : Int32) ≤ x2) => ?_)
              · replace h := ip c13 h
                refine lv_iload hx hb dX5_firstError_154 (lv_at hl 7 rfl) ?_
                refine lv_if_ne (tgt := 182) hx hb dX5_firstError_156 (by decide) (fun c14 => absurd c7 c14) (fun _ => ?_)
                refine lv_iload hx hb dX5_firstError_159 (lv_at hl 1 rfl) ?_
                refine lv_bipush (v := (47 : Int32)) hx hb dX5_firstError_161 (by decide) ?_
                refine lv_icmp_ne (tgt := 182) hx hb dX5_firstError_163 (by decide) (fun (c15 : ¬ (xcell x6 100 c_p0_codes) = (47 : Int32)) => ?_) (fun (c15 : (xcell x6 100 c_p0_codes) = (47 : Int32)) => ?_)
                · replace h := iq c15 h
                  have hl := lv_sub (l' := [(6, .int x6)]) hl [8] rfl
                  cases h
                  exact KX1 x6 rfl _ _ _ hP hD hS hl
                · replace h := ip c15 h
                  refine lv_iload_n hx hb dX5_firstError_166 rfl (lv_at hl 3 rfl) ?_
                  refine lv_iconst (v := (3 : Int32)) hx hb dX5_firstError_167 (by decide) ?_
                  refine lv_icmp_ge (tgt := 182) hx hb dX5_firstError_168 (by decide) (fun (c16 : (3 : Int32) ≤ x1) => ?_) (fun (c16 : ¬ (3 : Int32) ≤ x1) => ?_)
                  · replace h := ip c16 h
                    have hl := lv_sub (l' := [(6, .int x6)]) hl [8] rfl
                    cases h
                    exact KX1 x6 rfl _ _ _ hP hD hS hl
                  · replace h := iq c16 h
                    refine lv_iinc (v := x1 + (1 : Int32)) (lv' := [(1, .int (x1 + (1 : Int32))), (8, .int (0 : Int32)), (7, .int (xcell x6 100 c_p0_codes)), (0, .ref a_p0), (2, .int x2), (3, .int x3), (4, .int x4), (5, .int x5), (6, .int x6)]) hx hb dX5_firstError_171 hl (k := 3) rfl (by first | rfl | decide) (by decide) rfl (fun ls hl => ?_)
                    refine lv_iconst (v := (1 : Int32)) hx hb dX5_firstError_174 (by decide) ?_
                    refine lv_istore_n (x := (1 : Int32)) (lv' := [(2, .int (1 : Int32)), (1, .int (x1 + (1 : Int32))), (8, .int (0 : Int32)), (7, .int (xcell x6 100 c_p0_codes)), (0, .ref a_p0), (3, .int x3), (4, .int x4), (5, .int x5), (6, .int x6)]) hx hb dX5_firstError_175 rfl hl (by decide) rfl (fun ls hl => ?_)
                    refine lv_iconst (v := (1 : Int32)) hx hb dX5_firstError_176 (by decide) ?_
                    refine lv_istore (x := (1 : Int32)) (lv' := [(5, .int (1 : Int32)), (2, .int (1 : Int32)), (1, .int (x1 + (1 : Int32))), (8, .int (0 : Int32)), (7, .int (xcell x6 100 c_p0_codes)), (0, .ref a_p0), (3, .int x3), (4, .int x4), (6, .int x6)]) hx hb dX5_firstError_177 hl (by decide) rfl (fun ls hl => ?_)
                    refine lv_goto (tgt := 185) hx hb dX5_firstError_179 (by decide) ?_
                    refine lv_iconst (v := (0 : Int32)) hx hb dX5_firstError_185 (by decide) ?_
                    refine lv_istore_n (x := (0 : Int32)) (lv' := [(3, .int (0 : Int32)), (5, .int (1 : Int32)), (2, .int (1 : Int32)), (1, .int (x1 + (1 : Int32))), (8, .int (0 : Int32)), (7, .int (xcell x6 100 c_p0_codes)), (0, .ref a_p0), (4, .int x4), (6, .int x6)]) hx hb dX5_firstError_186 rfl hl (by decide) rfl (fun ls hl => ?_)
                    refine lv_iconst (v := (0 : Int32)) hx hb dX5_firstError_187 (by decide) ?_
                    refine lv_istore (x := (0 : Int32)) (lv' := [(4, .int (0 : Int32)), (3, .int (0 : Int32)), (5, .int (1 : Int32)), (2, .int (1 : Int32)), (1, .int (x1 + (1 : Int32))), (8, .int (0 : Int32)), (7, .int (xcell x6 100 c_p0_codes)), (0, .ref a_p0), (6, .int x6)]) hx hb dX5_firstError_188 hl (by decide) rfl (fun ls hl => ?_)
                    refine lv_iinc (v := x6 + (1 : Int32)) (lv' := [(6, .int (x6 + (1 : Int32))), (4, .int (0 : Int32)), (3, .int (0 : Int32)), (5, .int (1 : Int32)), (2, .int (1 : Int32)), (1, .int (x1 + (1 : Int32))), (8, .int (0 : Int32)), (7, .int (xcell x6 100 c_p0_codes)), (0, .ref a_p0)]) hx hb dX5_firstError_190 hl (k := 8) rfl (by first | rfl | decide) (by decide) rfl (fun ls hl => ?_)
                    refine lv_goto (tgt := 15) hx hb dX5_firstError_193 (by decide) ?_
                    have hl := lv_sub (l' := [(0, .ref a_p0), (1, .int (x1 + (1 : Int32))), (2, .int (1 : Int32)), (3, .int (0 : Int32)), (4, .int (0 : Int32)), (5, .int (1 : Int32)), (6, .int (x6 + (1 : Int32)))]) hl [8, 5, 4, 2, 1, 3, 0] rfl
                    cases h
                    exact KS (x1 + (1 : Int32)) (1 : Int32) (0 : Int32) (0 : Int32) (1 : Int32) (x6 + (1 : Int32)) rfl _ _ _ hP hD hS hl
              · replace h := iq c13 h
                refine lv_iinc (v := x2 + (1 : Int32)) (lv' := [(2, .int (x2 + (1 : Int32))), (8, .int (0 : Int32)), (7, .int (xcell x6 100 c_p0_codes)), (0, .ref a_p0), (1, .int x1), (3, .int x3), (4, .int x4), (5, .int x5), (6, .int x6)]) hx hb dX5_firstError_145 hl (k := 4) rfl (by first | rfl | decide) (by decide) rfl (fun ls hl => ?_)
                refine lv_iconst (v := (1 : Int32)) hx hb dX5_firstError_148 (by decide) ?_
                refine lv_istore (x := (1 : Int32)) (lv' := [(5, .int (1 : Int32)), (2, .int (x2 + (1 : Int32))), (8, .int (0 : Int32)), (7, .int (xcell x6 100 c_p0_codes)), (0, .ref a_p0), (1, .int x1), (3, .int x3), (4, .int x4), (6, .int x6)]) hx hb dX5_firstError_149 hl (by decide) rfl (fun ls hl => ?_)
                refine lv_goto (tgt := 185) hx hb dX5_firstError_151 (by decide) ?_
                refine lv_iconst (v := (0 : Int32)) hx hb dX5_firstError_185 (by decide) ?_
                refine lv_istore_n (x := (0 : Int32)) (lv' := [(3, .int (0 : Int32)), (5, .int (1 : Int32)), (2, .int (x2 + (1 : Int32))), (8, .int (0 : Int32)), (7, .int (xcell x6 100 c_p0_codes)), (0, .ref a_p0), (1, .int x1), (4, .int x4), (6, .int x6)]) hx hb dX5_firstError_186 rfl hl (by decide) rfl (fun ls hl => ?_)
                refine lv_iconst (v := (0 : Int32)) hx hb dX5_firstError_187 (by decide) ?_
                refine lv_istore (x := (0 : Int32)) (lv' := [(4, .int (0 : Int32)), (3, .int (0 : Int32)), (5, .int (1 : Int32)), (2, .int (x2 + (1 : Int32))), (8, .int (0 : Int32)), (7, .int (xcell x6 100 c_p0_codes)), (0, .ref a_p0), (1, .int x1), (6, .int x6)]) hx hb dX5_firstError_188 hl (by decide) rfl (fun ls hl => ?_)
                refine lv_iinc (v := x6 + (1 : Int32)) (lv' := [(6, .int (x6 + (1 : Int32))), (4, .int (0 : Int32)), (3, .int (0 : Int32)), (5, .int (1 : Int32)), (2, .int (x2 + (1 : Int32))), (8, .int (0 : Int32)), (7, .int (xcell x6 100 c_p0_codes)), (0, .ref a_p0), (1, .int x1)]) hx hb dX5_firstError_190 hl (k := 8) rfl (by first | rfl | decide) (by decide) rfl (fun ls hl => ?_)
                refine lv_goto (tgt := 15) hx hb dX5_firstError_193 (by decide) ?_
                have hl := lv_sub (l' := [(0, .ref a_p0), (1, .int x1), (2, .int (x2 + (1 : Int32))), (3, .int (0 : Int32)), (4, .int (0 : Int32)), (5, .int (1 : Int32)), (6, .int (x6 + (1 : Int32)))]) hl [7, 8, 4, 2, 1, 3, 0] rfl
                cases h
                exact KS x1 (x2 + (1 : Int32)) (0 : Int32) (0 : Int32) (1 : Int32) (x6 + (1 : Int32)) rfl _ _ _ hP hD hS hl
          · replace h := iq c7 h
            refine lv_iload hx hb dX5_firstError_114 (lv_at hl 1 rfl) ?_
            refine lv_bipush (v := (44 : Int32)) hx hb dX5_firstError_116 (by decide) ?_
            refine lv_icmp_ne (tgt := 127) hx hb dX5_firstError_118 (by decide) (fun (c17 : ¬ (xcell x6 100 c_p0_codes) = (44 : Int32)) => ?_) (fun (c17 : (xcell x6 100 c_p0_codes) = (44 : Int32)) => ?_)
            · replace h := iq c17 h
              refine lv_iload hx hb dX5_firstError_127 (lv_at hl 7 rfl) ?_
              refine lv_if_ne (tgt := 154) hx hb dX5_firstError_129 (by decide) (fun _ => ?_) (fun c18 => absurd c18 c7)
              refine lv_iload hx hb dX5_firstError_154 (lv_at hl 7 rfl) ?_
              refine lv_if_ne (tgt := 182) hx hb dX5_firstError_156 (by decide) (fun _ => ?_) (fun c19 => absurd c19 c7)
              have hl := lv_sub (l' := [(6, .int x6)]) hl [8] rfl
              cases h
              exact KX1 x6 rfl _ _ _ hP hD hS hl
            · replace h := ip c17 h
              refine lv_iconst (v := (0 : Int32)) hx hb dX5_firstError_121 (by decide) ?_
              refine lv_istore (x := (0 : Int32)) (lv' := [(5, .int (0 : Int32)), (8, .int (0 : Int32)), (7, .int (xcell x6 100 c_p0_codes)), (0, .ref a_p0), (1, .int x1), (2, .int x2), (3, .int x3), (4, .int x4), (6, .int x6)]) hx hb dX5_firstError_122 hl (by decide) rfl (fun ls hl => ?_)
              refine lv_goto (tgt := 185) hx hb dX5_firstError_124 (by decide) ?_
              refine lv_iconst (v := (0 : Int32)) hx hb dX5_firstError_185 (by decide) ?_
              refine lv_istore_n (x := (0 : Int32)) (lv' := [(3, .int (0 : Int32)), (5, .int (0 : Int32)), (8, .int (0 : Int32)), (7, .int (xcell x6 100 c_p0_codes)), (0, .ref a_p0), (1, .int x1), (2, .int x2), (4, .int x4), (6, .int x6)]) hx hb dX5_firstError_186 rfl hl (by decide) rfl (fun ls hl => ?_)
              refine lv_iconst (v := (0 : Int32)) hx hb dX5_firstError_187 (by decide) ?_
              refine lv_istore (x := (0 : Int32)) (lv' := [(4, .int (0 : Int32)), (3, .int (0 : Int32)), (5, .int (0 : Int32)), (8, .int (0 : Int32)), (7, .int (xcell x6 100 c_p0_codes)), (0, .ref a_p0), (1, .int x1), (2, .int x2), (6, .int x6)]) hx hb dX5_firstError_188 hl (by decide) rfl (fun ls hl => ?_)
              refine lv_iinc (v := x6 + (1 : Int32)) (lv' := [(6, .int (x6 + (1 : Int32))), (4, .int (0 : Int32)), (3, .int (0 : Int32)), (5, .int (0 : Int32)), (8, .int (0 : Int32)), (7, .int (xcell x6 100 c_p0_codes)), (0, .ref a_p0), (1, .int x1), (2, .int x2)]) hx hb dX5_firstError_190 hl (k := 8) rfl (by first | rfl | decide) (by decide) rfl (fun ls hl => ?_)
              refine lv_goto (tgt := 15) hx hb dX5_firstError_193 (by decide) ?_
              have hl := lv_sub (l' := [(0, .ref a_p0), (1, .int x1), (2, .int x2), (3, .int (0 : Int32)), (4, .int (0 : Int32)), (5, .int (0 : Int32)), (6, .int (x6 + (1 : Int32)))]) hl [6, 7, 8, 2, 1, 3, 0] rfl
              cases h
              exact KS x1 x2 (0 : Int32) (0 : Int32) (0 : Int32) (x6 + (1 : Int32)) rfl _ _ _ hP hD hS hl
        · replace h := ip c6 h
          have hl := lv_sub (l' := [(6, .int x6)]) hl [8] rfl
          cases h
          exact KX0 x6 rfl _ _ _ hP hD hS hl
      · replace h := iq c3 h
        refine lv_iload hx hb dX5_firstError_42 (lv_at hl 0 rfl) ?_
        refine lv_bipush (v := (57 : Int32)) hx hb dX5_firstError_44 (by decide) ?_
        refine lv_icmp_gt (tgt := 53) hx hb dX5_firstError_46 (by decide) (fun (c20 : (57 : Int32) < (xcell x6 100 c_p0_codes)) => ?_) (fun (c20 : ¬ (57 : Int32) < (xcell x6 100 c_p0_codes)) => ?_)
        · replace h := ip c20 h
          refine lv_iconst (v := (0 : Int32)) hx hb dX5_firstError_53 (by decide) ?_
          refine lv_istore (x := (0 : Int32)) (lv' := [(8, .int (0 : Int32)), (7, .int (xcell x6 100 c_p0_codes)), (0, .ref a_p0), (1, .int x1), (2, .int x2), (3, .int x3), (4, .int x4), (5, .int x5), (6, .int x6)]) hx hb dX5_firstError_54 hl (by decide) rfl (fun ls hl => ?_)
          refine lv_iload hx hb dX5_firstError_56 (lv_at hl 0 rfl) ?_
          refine lv_if_eq (tgt := 97) hx hb dX5_firstError_58 (by decide) (fun _ => ?_) (fun c21 => absurd (by decide) c21)
          refine lv_iload hx hb dX5_firstError_97 (lv_at hl 0 rfl) ?_
          refine lv_if_ne (tgt := 106) hx hb dX5_firstError_99 (by decide) (fun c22 => absurd (by decide) c22) (fun _ => ?_)
          refine lv_iload_n hx hb dX5_firstError_102 rfl (lv_at hl 5 rfl) ?_
          refine lv_if_ne (tgt := 109) hx hb dX5_firstError_103 (by decide) (fun (c23 : ¬ x3 = 0) => ?_) (fun (c23 : x3 = 0) => ?_)
          · replace h := iq c23 h
            refine lv_iload hx hb dX5_firstError_109 (lv_at hl 7 rfl) ?_
            refine lv_if_eq (tgt := 127) hx hb dX5_firstError_111 (by decide) (fun (c24 : x5 = 0) => ?_) (fun (c24 : ¬ x5 = 0) => ?_)
            · replace h := ip c24 h
              refine lv_iload hx hb dX5_firstError_127 (lv_at hl 7 rfl) ?_
              refine lv_if_ne (tgt := 154) hx hb dX5_firstError_129 (by decide) (fun c25 => absurd c24 c25) (fun _ => ?_)
              refine lv_iload hx hb dX5_firstError_132 (lv_at hl 1 rfl) ?_
              refine lv_bipush (v := (45 : Int32)) hx hb dX5_firstError_134 (by decide) ?_
              refine lv_icmp_ne (tgt := 154) hx hb dX5_firstError_136 (by decide) (fun (c26 : ¬ (xcell x6 100 c_p0_codes) = (45 : Int32)) => ?_) (fun (c26 : (xcell x6 100 c_p0_codes) = (45 : Int32)) => ?_)
              · replace h := iq c26 h
                refine lv_iload hx hb dX5_firstError_154 (lv_at hl 7 rfl) ?_
                refine lv_if_ne (tgt := 182) hx hb dX5_firstError_156 (by decide) (fun c27 => absurd c24 c27) (fun _ => ?_)
                refine lv_iload hx hb dX5_firstError_159 (lv_at hl 1 rfl) ?_
                refine lv_bipush (v := (47 : Int32)) hx hb dX5_firstError_161 (by decide) ?_
                refine lv_icmp_ne (tgt := 182) hx hb dX5_firstError_163 (by decide) (fun (c28 : ¬ (xcell x6 100 c_p0_codes) = (47 : Int32)) => ?_) (fun (c28 : (xcell x6 100 c_p0_codes) = (47 : Int32)) => ?_)
                · replace h := iq c28 h
                  have hl := lv_sub (l' := [(6, .int x6)]) hl [8] rfl
                  cases h
                  exact KX1 x6 rfl _ _ _ hP hD hS hl
                · replace h := ip c28 h
                  refine lv_iload_n hx hb dX5_firstError_166 rfl (lv_at hl 3 rfl) ?_
                  refine lv_iconst (v := (3 : Int32)) hx hb dX5_firstError_167 (by decide) ?_
                  refine lv_icmp_ge (tgt := 182) hx hb dX5_firstError_168 (by decide) (fun (c29 : (3 : Int32) ≤ x1) => ?_) (fun (c29 : ¬ (3 : Int32) ≤ x1) => ?_)
                  · replace h := ip c29 h
                    have hl := lv_sub (l' := [(6, .int x6)]) hl [8] rfl
                    cases h
                    exact KX1 x6 rfl _ _ _ hP hD hS hl
                  · replace h := iq c29 h
                    refine lv_iinc (v := x1 + (1 : Int32)) (lv' := [(1, .int (x1 + (1 : Int32))), (8, .int (0 : Int32)), (7, .int (xcell x6 100 c_p0_codes)), (0, .ref a_p0), (2, .int x2), (3, .int x3), (4, .int x4), (5, .int x5), (6, .int x6)]) hx hb dX5_firstError_171 hl (k := 3) rfl (by first | rfl | decide) (by decide) rfl (fun ls hl => ?_)
                    refine lv_iconst (v := (1 : Int32)) hx hb dX5_firstError_174 (by decide) ?_
                    refine lv_istore_n (x := (1 : Int32)) (lv' := [(2, .int (1 : Int32)), (1, .int (x1 + (1 : Int32))), (8, .int (0 : Int32)), (7, .int (xcell x6 100 c_p0_codes)), (0, .ref a_p0), (3, .int x3), (4, .int x4), (5, .int x5), (6, .int x6)]) hx hb dX5_firstError_175 rfl hl (by decide) rfl (fun ls hl => ?_)
                    refine lv_iconst (v := (1 : Int32)) hx hb dX5_firstError_176 (by decide) ?_
                    refine lv_istore (x := (1 : Int32)) (lv' := [(5, .int (1 : Int32)), (2, .int (1 : Int32)), (1, .int (x1 + (1 : Int32))), (8, .int (0 : Int32)), (7, .int (xcell x6 100 c_p0_codes)), (0, .ref a_p0), (3, .int x3), (4, .int x4), (6, .int x6)]) hx hb dX5_firstError_177 hl (by decide) rfl (fun ls hl => ?_)
                    refine lv_goto (tgt := 185) hx hb dX5_firstError_179 (by decide) ?_
                    refine lv_iconst (v := (0 : Int32)) hx hb dX5_firstError_185 (by decide) ?_
                    refine lv_istore_n (x := (0 : Int32)) (lv' := [(3, .int (0 : Int32)), (5, .int (1 : Int32)), (2, .int (1 : Int32)), (1, .int (x1 + (1 : Int32))), (8, .int (0 : Int32)), (7, .int (xcell x6 100 c_p0_codes)), (0, .ref a_p0), (4, .int x4), (6, .int x6)]) hx hb dX5_firstError_186 rfl hl (by decide) rfl (fun ls hl => ?_)
                    refine lv_iconst (v := (0 : Int32)) hx hb dX5_firstError_187 (by decide) ?_
                    refine lv_istore (x := (0 : Int32)) (lv' := [(4, .int (0 : Int32)), (3, .int (0 : Int32)), (5, .int (1 : Int32)), (2, .int (1 : Int32)), (1, .int (x1 + (1 : Int32))), (8, .int (0 : Int32)), (7, .int (xcell x6 100 c_p0_codes)), (0, .ref a_p0), (6, .int x6)]) hx hb dX5_firstError_188 hl (by decide) rfl (fun ls hl => ?_)
                    refine lv_iinc (v := x6 + (1 : Int32)) (lv' := [(6, .int (x6 + (1 : Int32))), (4, .int (0 : Int32)), (3, .int (0 : Int32)), (5, .int (1 : Int32)), (2, .int (1 : Int32)), (1, .int (x1 + (1 : Int32))), (8, .int (0 : Int32)), (7, .int (xcell x6 100 c_p0_codes)), (0, .ref a_p0)]) hx hb dX5_firstError_190 hl (k := 8) rfl (by first | rfl | decide) (by decide) rfl (fun ls hl => ?_)
                    refine lv_goto (tgt := 15) hx hb dX5_firstError_193 (by decide) ?_
                    have hl := lv_sub (l' := [(0, .ref a_p0), (1, .int (x1 + (1 : Int32))), (2, .int (1 : Int32)), (3, .int (0 : Int32)), (4, .int (0 : Int32)), (5, .int (1 : Int32)), (6, .int (x6 + (1 : Int32)))]) hl [8, 5, 4, 2, 1, 3, 0] rfl
                    cases h
                    exact KS (x1 + (1 : Int32)) (1 : Int32) (0 : Int32) (0 : Int32) (1 : Int32) (x6 + (1 : Int32)) rfl _ _ _ hP hD hS hl
              · replace h := ip c26 h
                refine lv_iload_n hx hb dX5_firstError_139 rfl (lv_at hl 4 rfl) ?_
                refine lv_bipush (v := (12 : Int32)) hx hb dX5_firstError_140 (by decide) ?_
                refine lv_icmp_ge (tgt := 154) hx hb dX5_firstError_142 (by decide) (fun (c30 : (12 : Int32) ≤ x2) => ?_) (fun (c30 : ¬ (12 : Int32) ≤ x2) => ?_)
                · replace h := ip c30 h
                  refine lv_iload hx hb dX5_firstError_154 (lv_at hl 7 rfl) ?_
                  refine lv_if_ne (tgt := 182) hx hb dX5_firstError_156 (by decide) (fun c31 => absurd c24 c31) (fun _ => ?_)
                  refine lv_iload hx hb dX5_firstError_159 (lv_at hl 1 rfl) ?_
                  refine lv_bipush (v := (47 : Int32)) hx hb dX5_firstError_161 (by decide) ?_
                  refine lv_icmp_ne (tgt := 182) hx hb dX5_firstError_163 (by decide) (fun (c32 : ¬ (xcell x6 100 c_p0_codes) = (47 : Int32)) => ?_) (fun (c32 : (xcell x6 100 c_p0_codes) = (47 : Int32)) => ?_)
                  · replace h := iq c32 h
                    have hl := lv_sub (l' := [(6, .int x6)]) hl [8] rfl
                    cases h
                    exact KX1 x6 rfl _ _ _ hP hD hS hl
                  · replace h := ip c32 h
                    refine lv_iload_n hx hb dX5_firstError_166 rfl (lv_at hl 3 rfl) ?_
                    refine lv_iconst (v := (3 : Int32)) hx hb dX5_firstError_167 (by decide) ?_
                    refine lv_icmp_ge (tgt := 182) hx hb dX5_firstError_168 (by decide) (fun (c33 : (3 : Int32) ≤ x1) => ?_) (fun (c33 : ¬ (3 : Int32) ≤ x1) => ?_)
                    · replace h := ip c33 h
                      have hl := lv_sub (l' := [(6, .int x6)]) hl [8] rfl
                      cases h
                      exact KX1 x6 rfl _ _ _ hP hD hS hl
                    · replace h := iq c33 h
                      refine lv_iinc (v := x1 + (1 : Int32)) (lv' := [(1, .int (x1 + (1 : Int32))), (8, .int (0 : Int32)), (7, .int (xcell x6 100 c_p0_codes)), (0, .ref a_p0), (2, .int x2), (3, .int x3), (4, .int x4), (5, .int x5), (6, .int x6)]) hx hb dX5_firstError_171 hl (k := 3) rfl (by first | rfl | decide) (by decide) rfl (fun ls hl => ?_)
                      refine lv_iconst (v := (1 : Int32)) hx hb dX5_firstError_174 (by decide) ?_
                      refine lv_istore_n (x := (1 : Int32)) (lv' := [(2, .int (1 : Int32)), (1, .int (x1 + (1 : Int32))), (8, .int (0 : Int32)), (7, .int (xcell x6 100 c_p0_codes)), (0, .ref a_p0), (3, .int x3), (4, .int x4), (5, .int x5), (6, .int x6)]) hx hb dX5_firstError_175 rfl hl (by decide) rfl (fun ls hl => ?_)
                      refine lv_iconst (v := (1 : Int32)) hx hb dX5_firstError_176 (by decide) ?_
                      refine lv_istore (x := (1 : Int32)) (lv' := [(5, .int (1 : Int32)), (2, .int (1 : Int32)), (1, .int (x1 + (1 : Int32))), (8, .int (0 : Int32)), (7, .int (xcell x6 100 c_p0_codes)), (0, .ref a_p0), (3, .int x3), (4, .int x4), (6, .int x6)]) hx hb dX5_firstError_177 hl (by decide) rfl (fun ls hl => ?_)
                      refine lv_goto (tgt := 185) hx hb dX5_firstError_179 (by decide) ?_
                      refine lv_iconst (v := (0 : Int32)) hx hb dX5_firstError_185 (by decide) ?_
                      refine lv_istore_n (x := (0 : Int32)) (lv' := [(3, .int (0 : Int32)), (5, .int (1 : Int32)), (2, .int (1 : Int32)), (1, .int (x1 + (1 : Int32))), (8, .int (0 : Int32)), (7, .int (xcell x6 100 c_p0_codes)), (0, .ref a_p0), (4, .int x4), (6, .int x6)]) hx hb dX5_firstError_186 rfl hl (by decide) rfl (fun ls hl => ?_)
                      refine lv_iconst (v := (0 : Int32)) hx hb dX5_firstError_187 (by decide) ?_
                      refine lv_istore (x := (0 : Int32)) (lv' := [(4, .int (0 : Int32)), (3, .int (0 : Int32)), (5, .int (1 : Int32)), (2, .int (1 : Int32)), (1, .int (x1 + (1 : Int32))), (8, .int (0 : Int32)), (7, .int (xcell x6 100 c_p0_codes)), (0, .ref a_p0), (6, .int x6)]) hx hb dX5_firstError_188 hl (by decide) rfl (fun ls hl => ?_)
                      refine lv_iinc (v := x6 + (1 : Int32)) (lv' := [(6, .int (x6 + (1 : Int32))), (4, .int (0 : Int32)), (3, .int (0 : Int32)), (5, .int (1 : Int32)), (2, .int (1 : Int32)), (1, .int (x1 + (1 : Int32))), (8, .int (0 : Int32)), (7, .int (xcell x6 100 c_p0_codes)), (0, .ref a_p0)]) hx hb dX5_firstError_190 hl (k := 8) rfl (by first | rfl | decide) (by decide) rfl (fun ls hl => ?_)
                      refine lv_goto (tgt := 15) hx hb dX5_firstError_193 (by decide) ?_
                      have hl := lv_sub (l' := [(0, .ref a_p0), (1, .int (x1 + (1 : Int32))), (2, .int (1 : Int32)), (3, .int (0 : Int32)), (4, .int (0 : Int32)), (5, .int (1 : Int32)), (6, .int (x6 + (1 : Int32)))]) hl [8, 5, 4, 2, 1, 3, 0] rfl
                      cases h
                      exact KS (x1 + (1 : Int32)) (1 : Int32) (0 : Int32) (0 : Int32) (1 : Int32) (x6 + (1 : Int32)) rfl _ _ _ hP hD hS hl
                · replace h := iq c30 h
                  refine lv_iinc (v := x2 + (1 : Int32)) (lv' := [(2, .int (x2 + (1 : Int32))), (8, .int (0 : Int32)), (7, .int (xcell x6 100 c_p0_codes)), (0, .ref a_p0), (1, .int x1), (3, .int x3), (4, .int x4), (5, .int x5), (6, .int x6)]) hx hb dX5_firstError_145 hl (k := 4) rfl (by first | rfl | decide) (by decide) rfl (fun ls hl => ?_)
                  refine lv_iconst (v := (1 : Int32)) hx hb dX5_firstError_148 (by decide) ?_
                  refine lv_istore (x := (1 : Int32)) (lv' := [(5, .int (1 : Int32)), (2, .int (x2 + (1 : Int32))), (8, .int (0 : Int32)), (7, .int (xcell x6 100 c_p0_codes)), (0, .ref a_p0), (1, .int x1), (3, .int x3), (4, .int x4), (6, .int x6)]) hx hb dX5_firstError_149 hl (by decide) rfl (fun ls hl => ?_)
                  refine lv_goto (tgt := 185) hx hb dX5_firstError_151 (by decide) ?_
                  refine lv_iconst (v := (0 : Int32)) hx hb dX5_firstError_185 (by decide) ?_
                  refine lv_istore_n (x := (0 : Int32)) (lv' := [(3, .int (0 : Int32)), (5, .int (1 : Int32)), (2, .int (x2 + (1 : Int32))), (8, .int (0 : Int32)), (7, .int (xcell x6 100 c_p0_codes)), (0, .ref a_p0), (1, .int x1), (4, .int x4), (6, .int x6)]) hx hb dX5_firstError_186 rfl hl (by decide) rfl (fun ls hl => ?_)
                  refine lv_iconst (v := (0 : Int32)) hx hb dX5_firstError_187 (by decide) ?_
                  refine lv_istore (x := (0 : Int32)) (lv' := [(4, .int (0 : Int32)), (3, .int (0 : Int32)), (5, .int (1 : Int32)), (2, .int (x2 + (1 : Int32))), (8, .int (0 : Int32)), (7, .int (xcell x6 100 c_p0_codes)), (0, .ref a_p0), (1, .int x1), (6, .int x6)]) hx hb dX5_firstError_188 hl (by decide) rfl (fun ls hl => ?_)
                  refine lv_iinc (v := x6 + (1 : Int32)) (lv' := [(6, .int (x6 + (1 : Int32))), (4, .int (0 : Int32)), (3, .int (0 : Int32)), (5, .int (1 : Int32)), (2, .int (x2 + (1 : Int32))), (8, .int (0 : Int32)), (7, .int (xcell x6 100 c_p0_codes)), (0, .ref a_p0), (1, .int x1)]) hx hb dX5_firstError_190 hl (k := 8) rfl (by first | rfl | decide) (by decide) rfl (fun ls hl => ?_)
                  refine lv_goto (tgt := 15) hx hb dX5_firstError_193 (by decide) ?_
                  have hl := lv_sub (l' := [(0, .ref a_p0), (1, .int x1), (2, .int (x2 + (1 : Int32))), (3, .int (0 : Int32)), (4, .int (0 : Int32)), (5, .int (1 : Int32)), (6, .int (x6 + (1 : Int32)))]) hl [7, 8, 4, 2, 1, 3, 0] rfl
                  cases h
                  exact KS x1 (x2 + (1 : Int32)) (0 : Int32) (0 : Int32) (1 : Int32) (x6 + (1 : Int32)) rfl _ _ _ hP hD hS hl
            · replace h := iq c24 h
              refine lv_iload hx hb dX5_firstError_114 (lv_at hl 1 rfl) ?_
              refine lv_bipush (v := (44 : Int32)) hx hb dX5_firstError_116 (by decide) ?_
              refine lv_icmp_ne (tgt := 127) hx hb dX5_firstError_118 (by decide) (fun (c34 : ¬ (xcell x6 100 c_p0_codes) = (44 : Int32)) => ?_) (fun (c34 : (xcell x6 100 c_p0_codes) = (44 : Int32)) => ?_)
              · replace h := iq c34 h
                refine lv_iload hx hb dX5_firstError_127 (lv_at hl 7 rfl) ?_
                refine lv_if_ne (tgt := 154) hx hb dX5_firstError_129 (by decide) (fun _ => ?_) (fun c35 => absurd c35 c24)
                refine lv_iload hx hb dX5_firstError_154 (lv_at hl 7 rfl) ?_
                refine lv_if_ne (tgt := 182) hx hb dX5_firstError_156 (by decide) (fun _ => ?_) (fun c36 => absurd c36 c24)
                have hl := lv_sub (l' := [(6, .int x6)]) hl [8] rfl
                cases h
                exact KX1 x6 rfl _ _ _ hP hD hS hl
              · replace h := ip c34 h
                refine lv_iconst (v := (0 : Int32)) hx hb dX5_firstError_121 (by decide) ?_
                refine lv_istore (x := (0 : Int32)) (lv' := [(5, .int (0 : Int32)), (8, .int (0 : Int32)), (7, .int (xcell x6 100 c_p0_codes)), (0, .ref a_p0), (1, .int x1), (2, .int x2), (3, .int x3), (4, .int x4), (6, .int x6)]) hx hb dX5_firstError_122 hl (by decide) rfl (fun ls hl => ?_)
                refine lv_goto (tgt := 185) hx hb dX5_firstError_124 (by decide) ?_
                refine lv_iconst (v := (0 : Int32)) hx hb dX5_firstError_185 (by decide) ?_
                refine lv_istore_n (x := (0 : Int32)) (lv' := [(3, .int (0 : Int32)), (5, .int (0 : Int32)), (8, .int (0 : Int32)), (7, .int (xcell x6 100 c_p0_codes)), (0, .ref a_p0), (1, .int x1), (2, .int x2), (4, .int x4), (6, .int x6)]) hx hb dX5_firstError_186 rfl hl (by decide) rfl (fun ls hl => ?_)
                refine lv_iconst (v := (0 : Int32)) hx hb dX5_firstError_187 (by decide) ?_
                refine lv_istore (x := (0 : Int32)) (lv' := [(4, .int (0 : Int32)), (3, .int (0 : Int32)), (5, .int (0 : Int32)), (8, .int (0 : Int32)), (7, .int (xcell x6 100 c_p0_codes)), (0, .ref a_p0), (1, .int x1), (2, .int x2), (6, .int x6)]) hx hb dX5_firstError_188 hl (by decide) rfl (fun ls hl => ?_)
                refine lv_iinc (v := x6 + (1 : Int32)) (lv' := [(6, .int (x6 + (1 : Int32))), (4, .int (0 : Int32)), (3, .int (0 : Int32)), (5, .int (0 : Int32)), (8, .int (0 : Int32)), (7, .int (xcell x6 100 c_p0_codes)), (0, .ref a_p0), (1, .int x1), (2, .int x2)]) hx hb dX5_firstError_190 hl (k := 8) rfl (by first | rfl | decide) (by decide) rfl (fun ls hl => ?_)
                refine lv_goto (tgt := 15) hx hb dX5_firstError_193 (by decide) ?_
                have hl := lv_sub (l' := [(0, .ref a_p0), (1, .int x1), (2, .int x2), (3, .int (0 : Int32)), (4, .int (0 : Int32)), (5, .int (0 : Int32)), (6, .int (x6 + (1 : Int32)))]) hl [6, 7, 8, 2, 1, 3, 0] rfl
                cases h
                exact KS x1 x2 (0 : Int32) (0 : Int32) (0 : Int32) (x6 + (1 : Int32)) rfl _ _ _ hP hD hS hl
          · replace h := ip c23 h
            have hl := lv_sub (l' := [(6, .int x6)]) hl [8] rfl
            cases h
            exact KX0 x6 rfl _ _ _ hP hD hS hl
        · replace h := iq c20 h
          refine lv_iconst (v := (1 : Int32)) hx hb dX5_firstError_49 (by decide) ?_
          refine lv_goto (tgt := 54) hx hb dX5_firstError_50 (by decide) ?_
          refine lv_istore (x := (1 : Int32)) (lv' := [(8, .int (1 : Int32)), (7, .int (xcell x6 100 c_p0_codes)), (0, .ref a_p0), (1, .int x1), (2, .int x2), (3, .int x3), (4, .int x4), (5, .int x5), (6, .int x6)]) hx hb dX5_firstError_54 hl (by decide) rfl (fun ls hl => ?_)
          refine lv_iload hx hb dX5_firstError_56 (lv_at hl 0 rfl) ?_
          refine lv_if_eq (tgt := 97) hx hb dX5_firstError_58 (by decide) (fun c37 => absurd c37 (by decide)) (fun _ => ?_)
          refine lv_iload_n hx hb dX5_firstError_61 rfl (lv_at hl 5 rfl) ?_
          refine lv_if_eq (tgt := 78) hx hb dX5_firstError_62 (by decide) (fun (c38 : x3 = 0) => ?_) (fun (c38 : ¬ x3 = 0) => ?_)
          · replace h := ip c38 h
            refine lv_iload hx hb dX5_firstError_78 (lv_at hl 6 rfl) ?_
            refine lv_bipush (v := (10 : Int32)) hx hb dX5_firstError_80 (by decide) ?_
            refine lv_imul hx hb dX5_firstError_82 ?_
            refine lv_iload hx hb dX5_firstError_83 (lv_at hl 1 rfl) ?_
            refine lv_iadd hx hb dX5_firstError_85 ?_
            refine lv_bipush (v := (48 : Int32)) hx hb dX5_firstError_86 (by decide) ?_
            refine lv_isub hx hb dX5_firstError_88 ?_
            obtain ⟨n4_39, q39, h⟩ := b1_some h
            replace q39 := Option.some.inj q39
            refine W.eq (g2 := F0 m 89 ls [.int n4_39]) (by rw [q39]) ?_
            refine lv_istore (x := n4_39) (lv' := [(4, .int n4_39), (8, .int (1 : Int32)), (7, .int (xcell x6 100 c_p0_codes)), (0, .ref a_p0), (1, .int x1), (2, .int x2), (3, .int x3), (5, .int x5), (6, .int x6)]) hx hb dX5_firstError_89 hl (by decide) rfl (fun ls hl => ?_)
            refine lv_iinc (v := x3 + (1 : Int32)) (lv' := [(3, .int (x3 + (1 : Int32))), (4, .int n4_39), (8, .int (1 : Int32)), (7, .int (xcell x6 100 c_p0_codes)), (0, .ref a_p0), (1, .int x1), (2, .int x2), (5, .int x5), (6, .int x6)]) hx hb dX5_firstError_91 hl (k := 6) rfl (by first | rfl | decide) (by decide) rfl (fun ls hl => ?_)
            refine lv_goto (tgt := 190) hx hb dX5_firstError_94 (by decide) ?_
            refine lv_iinc (v := x6 + (1 : Int32)) (lv' := [(6, .int (x6 + (1 : Int32))), (3, .int (x3 + (1 : Int32))), (4, .int n4_39), (8, .int (1 : Int32)), (7, .int (xcell x6 100 c_p0_codes)), (0, .ref a_p0), (1, .int x1), (2, .int x2), (5, .int x5)]) hx hb dX5_firstError_190 hl (k := 8) rfl (by first | rfl | decide) (by decide) rfl (fun ls hl => ?_)
            refine lv_goto (tgt := 15) hx hb dX5_firstError_193 (by decide) ?_
            have hl := lv_sub (l' := [(0, .ref a_p0), (1, .int x1), (2, .int x2), (3, .int (x3 + (1 : Int32))), (4, .int n4_39), (5, .int x5), (6, .int (x6 + (1 : Int32)))]) hl [5, 6, 7, 1, 2, 8, 0] rfl
            cases h
            exact KS x1 x2 (x3 + (1 : Int32)) n4_39 x5 (x6 + (1 : Int32)) rfl _ _ _ hP hD hS hl
          · replace h := iq c38 h
            refine lv_iload hx hb dX5_firstError_65 (lv_at hl 6 rfl) ?_
            refine lv_iload hx hb dX5_firstError_67 (lv_at hl 1 rfl) ?_
            refine lv_bipush (v := (48 : Int32)) hx hb dX5_firstError_69 (by decide) ?_
            refine lv_isub hx hb dX5_firstError_71 ?_
            refine xcalli (wr := [(a_p0, .inr (5, [.ref a_p0_codes, .int v_p0_length])), (a_p0_codes, .inl (cc 0, 100, .inl c_p0_codes))]) [] [0, 1] (xrunS (As := [.int x4, .int ((xcell x6 100 c_p0_codes) - (48 : Int32))]) (rest := []) F ((kX5_goesOn l D cc (p0 := x4) (p1 := (xcell x6 100 c_p0_codes) - (48 : Int32)) (r0 := (fX5_goesOn x4 ((xcell x6 100 c_p0_codes) - (48 : Int32)))) (h := rfl)) _) (cwS 2 hts gX5_firstError_X5_goesOn rfl rfl rfl (by decide +kernel) ⟨Nat.le_of_ble_eq_true rfl, Nat.le_of_ble_eq_true rfl⟩) hK hN hP hD [] rfl (by decide) rfl hl rfl (Nat.le_of_ble_eq_true rfl) dX5_firstError_72 ⟨Nat.zero_le _, Nat.zero_le _⟩) hP hD hS hA rfl rfl (by decide) (by decide) (fun _ H locs hP hD hS => ?_)
            have hP : va_P D vwCl [(a_p0, .inr (5, [.ref a_p0_codes, .int v_p0_length])), (a_p0_codes, .inl (cc 0, 100, .inl c_p0_codes))] H := hP
            have hD : va_D A [(a_p0, .inr (5, [.ref a_p0_codes, .int v_p0_length])), (a_p0_codes, .inl (cc 0, 100, .inl c_p0_codes))] := hD
            refine lv_if_eq (tgt := 97) hx hb dX5_firstError_75 (by decide) (fun (c41 : (fX5_goesOn x4 ((xcell x6 100 c_p0_codes) - (48 : Int32))) = 0) => ?_) (fun (c41 : ¬ (fX5_goesOn x4 ((xcell x6 100 c_p0_codes) - (48 : Int32))) = 0) => ?_)
            · replace h := ip c41 h
              refine lv_iload hx hb dX5_firstError_97 (lv_at hl 0 rfl) ?_
              refine lv_if_ne (tgt := 106) hx hb dX5_firstError_99 (by decide) (fun _ => ?_) (fun c42 => absurd c42 (by decide))
              have hl := lv_sub (l' := [(6, .int x6)]) hl [8] rfl
              cases h
              exact KX0 x6 rfl _ _ _ hP hD hS hl
            · replace h := iq c41 h
              refine lv_iload hx hb dX5_firstError_78 (lv_at hl 6 rfl) ?_
              refine lv_bipush (v := (10 : Int32)) hx hb dX5_firstError_80 (by decide) ?_
              refine lv_imul hx hb dX5_firstError_82 ?_
              refine lv_iload hx hb dX5_firstError_83 (lv_at hl 1 rfl) ?_
              refine lv_iadd hx hb dX5_firstError_85 ?_
              refine lv_bipush (v := (48 : Int32)) hx hb dX5_firstError_86 (by decide) ?_
              refine lv_isub hx hb dX5_firstError_88 ?_
              obtain ⟨n4_43, q43, h⟩ := b1_some h
              replace q43 := Option.some.inj q43
              refine W.eq (g2 := F0 m 89 ls [.int n4_43]) (by rw [q43]) ?_
              refine lv_istore (x := n4_43) (lv' := [(4, .int n4_43), (8, .int (1 : Int32)), (7, .int (xcell x6 100 c_p0_codes)), (0, .ref a_p0), (1, .int x1), (2, .int x2), (3, .int x3), (5, .int x5), (6, .int x6)]) hx hb dX5_firstError_89 hl (by decide) rfl (fun ls hl => ?_)
              refine lv_iinc (v := x3 + (1 : Int32)) (lv' := [(3, .int (x3 + (1 : Int32))), (4, .int n4_43), (8, .int (1 : Int32)), (7, .int (xcell x6 100 c_p0_codes)), (0, .ref a_p0), (1, .int x1), (2, .int x2), (5, .int x5), (6, .int x6)]) hx hb dX5_firstError_91 hl (k := 6) rfl (by first | rfl | decide) (by decide) rfl (fun ls hl => ?_)
              refine lv_goto (tgt := 190) hx hb dX5_firstError_94 (by decide) ?_
              refine lv_iinc (v := x6 + (1 : Int32)) (lv' := [(6, .int (x6 + (1 : Int32))), (3, .int (x3 + (1 : Int32))), (4, .int n4_43), (8, .int (1 : Int32)), (7, .int (xcell x6 100 c_p0_codes)), (0, .ref a_p0), (1, .int x1), (2, .int x2), (5, .int x5)]) hx hb dX5_firstError_190 hl (k := 8) rfl (by first | rfl | decide) (by decide) rfl (fun ls hl => ?_)
              refine lv_goto (tgt := 15) hx hb dX5_firstError_193 (by decide) ?_
              have hl := lv_sub (l' := [(0, .ref a_p0), (1, .int x1), (2, .int x2), (3, .int (x3 + (1 : Int32))), (4, .int n4_43), (5, .int x5), (6, .int (x6 + (1 : Int32)))]) hl [5, 6, 7, 1, 2, 8, 0] rfl
              cases h
              exact KS x1 x2 (x3 + (1 : Int32)) n4_43 x5 (x6 + (1 : Int32)) rfl _ _ _ hP hD hS hl
  have hL15 : ∀ (QQ : State → Prop) (n : Nat)  (x1 : Int32) (x2 : Int32) (x3 : Int32) (x4 : Int32) (x5 : Int32) (x6 : Int32) (r9 : (Int32) ⊕ (Int32) ⊕ (Int32 × Int32)), loopF (fun (z : Int32 × Int32 × Int32 × Int32 × Int32 × Int32) => fX5_firstError_L15 v_p0_length c_p0_codes z.1 z.2.1 z.2.2.1 z.2.2.2.1 z.2.2.2.2.1 z.2.2.2.2.2) n (x1, x2, x3, x4, x5, x6) = some r9 → ∀ (H : Heap) (locs : List Loc) (ls : Array Slot), va_P D vwCl [(a_p0, .inr (5, [.ref a_p0_codes, .int v_p0_length])), (a_p0_codes, .inl (cc 0, 100, .inl c_p0_codes))] H → va_D A [(a_p0, .inr (5, [.ref a_p0_codes, .int v_p0_length])), (a_p0_codes, .inl (cc 0, 100, .inl c_p0_codes))] → va_S A s.heap H locs → lv_has ls 9 [(0, .ref a_p0), (1, .int x1), (2, .int x2), (3, .int x3), (4, .int x4), (5, .int x5), (6, .int x6)] → (∀ (y6 : Int32), r9 = Sum.inl y6 → ∀ (H : Heap) (locs : List Loc) (ls : Array Slot), va_P D vwCl [(a_p0, .inr (5, [.ref a_p0_codes, .int v_p0_length])), (a_p0_codes, .inl (cc 0, 100, .inl c_p0_codes))] H → va_D A [(a_p0, .inr (5, [.ref a_p0_codes, .int v_p0_length])), (a_p0_codes, .inl (cc 0, 100, .inl c_p0_codes))] → va_S A s.heap H locs → lv_has ls 9 [(6, .int y6)] → W p l e ({ frames := 1, cells := 0, slots := 0, locals := 21 } : Room) s m args below meth c H locs 0 0 QQ (F0 m 106 ls [])) → (∀ (y6 : Int32), r9 = Sum.inr (Sum.inl y6) → ∀ (H : Heap) (locs : List Loc) (ls : Array Slot), va_P D vwCl [(a_p0, .inr (5, [.ref a_p0_codes, .int v_p0_length])), (a_p0_codes, .inl (cc 0, 100, .inl c_p0_codes))] H → va_D A [(a_p0, .inr (5, [.ref a_p0_codes, .int v_p0_length])), (a_p0_codes, .inl (cc 0, 100, .inl c_p0_codes))] → va_S A s.heap H locs → lv_has ls 9 [(6, .int y6)] → W p l e ({ frames := 1, cells := 0, slots := 0, locals := 21 } : Room) s m args below meth c H locs 0 0 QQ (F0 m 182 ls [])) → (∀ (y3 : Int32) (y5 : Int32), r9 = Sum.inr (Sum.inr (y3, y5)) → ∀ (H : Heap) (locs : List Loc) (ls : Array Slot), va_P D vwCl [(a_p0, .inr (5, [.ref a_p0_codes, .int v_p0_length])), (a_p0_codes, .inl (cc 0, 100, .inl c_p0_codes))] H → va_D A [(a_p0, .inr (5, [.ref a_p0_codes, .int v_p0_length])), (a_p0_codes, .inl (cc 0, 100, .inl c_p0_codes))] → va_S A s.heap H locs → lv_has ls 9 [(0, .ref a_p0), (3, .int y3), (5, .int y5)] → W p l e ({ frames := 1, cells := 0, slots := 0, locals := 21 } : Room) s m args below meth c H locs 0 0 QQ (F0 m 196 ls [])) → W p l e ({ frames := 1, cells := 0, slots := 0, locals := 21 } : Room) s m args below meth c H locs 0 0 QQ (F0 m 15 ls []) := by
    intro QQ n
    induction n with
    | zero => intro x1 x2 x3 x4 x5 x6 r9 h; exact (loopF_zero h).elim
    | succ n ih =>
      intro x1 x2 x3 x4 x5 x6 r9 h H locs ls hP hD hS hl KX0 KX1 KX2
      obtain ⟨z9, hz, h⟩ := loopF_step h
      exact hB15 QQ x1 x2 x3 x4 x5 x6 z9 hz H locs ls hP hD hS hl (fun x1_b x2_b x3_b x4_b x5_b x6_b q9 H9 locs9 ls9 hP9 hD9 hS9 hl9 => ih  x1_b x2_b x3_b x4_b x5_b x6_b r9 (by rcases h with ⟨s9, h1, h2⟩ | h1 <;> rw [h1] at q9 <;> cases q9; exact h2) H9 locs9 ls9 hP9 hD9 hS9 hl9 KX0 KX1 KX2) (fun y6 q9 => KX0 y6 (by rcases h with ⟨s9, h1, h2⟩ | h1 <;> rw [h1] at q9 <;> cases q9; rfl)) (fun y6 q9 => KX1 y6 (by rcases h with ⟨s9, h1, h2⟩ | h1 <;> rw [h1] at q9 <;> cases q9; rfl)) (fun y3 y5 q9 => KX2 y3 y5 (by rcases h with ⟨s9, h1, h2⟩ | h1 <;> rw [h1] at q9 <;> cases q9; rfl))
  refine lv_iconst (v := (1 : Int32)) hx hb dX5_firstError_0 (by decide) ?_
  refine lv_istore_n (x := (1 : Int32)) (lv' := [(1, .int (1 : Int32)), (0, .ref a_p0)]) hx hb dX5_firstError_1 rfl hl (by decide) rfl (fun ls hl => ?_)
  refine lv_iconst (v := (1 : Int32)) hx hb dX5_firstError_2 (by decide) ?_
  refine lv_istore_n (x := (1 : Int32)) (lv' := [(2, .int (1 : Int32)), (1, .int (1 : Int32)), (0, .ref a_p0)]) hx hb dX5_firstError_3 rfl hl (by decide) rfl (fun ls hl => ?_)
  refine lv_iconst (v := (0 : Int32)) hx hb dX5_firstError_4 (by decide) ?_
  refine lv_istore_n (x := (0 : Int32)) (lv' := [(3, .int (0 : Int32)), (2, .int (1 : Int32)), (1, .int (1 : Int32)), (0, .ref a_p0)]) hx hb dX5_firstError_5 rfl hl (by decide) rfl (fun ls hl => ?_)
  refine lv_iconst (v := (0 : Int32)) hx hb dX5_firstError_6 (by decide) ?_
  refine lv_istore (x := (0 : Int32)) (lv' := [(4, .int (0 : Int32)), (3, .int (0 : Int32)), (2, .int (1 : Int32)), (1, .int (1 : Int32)), (0, .ref a_p0)]) hx hb dX5_firstError_7 hl (by decide) rfl (fun ls hl => ?_)
  refine lv_iconst (v := (1 : Int32)) hx hb dX5_firstError_9 (by decide) ?_
  refine lv_istore (x := (1 : Int32)) (lv' := [(5, .int (1 : Int32)), (4, .int (0 : Int32)), (3, .int (0 : Int32)), (2, .int (1 : Int32)), (1, .int (1 : Int32)), (0, .ref a_p0)]) hx hb dX5_firstError_10 hl (by decide) rfl (fun ls hl => ?_)
  refine lv_iconst (v := (0 : Int32)) hx hb dX5_firstError_12 (by decide) ?_
  refine lv_istore (x := (0 : Int32)) (lv' := [(6, .int (0 : Int32)), (5, .int (1 : Int32)), (4, .int (0 : Int32)), (3, .int (0 : Int32)), (2, .int (1 : Int32)), (1, .int (1 : Int32)), (0, .ref a_p0)]) hx hb dX5_firstError_13 hl (by decide) rfl (fun ls hl => ?_)
  have hl := lv_sub (l' := [(0, .ref a_p0), (1, .int (1 : Int32)), (2, .int (1 : Int32)), (3, .int (0 : Int32)), (4, .int (0 : Int32)), (5, .int (1 : Int32)), (6, .int (0 : Int32))]) hl [6, 5, 4, 3, 2, 1, 0] rfl
  obtain ⟨e9, hq9, h⟩ := b1_some h
  refine hL15 _ FUEL  (1 : Int32) (1 : Int32) (0 : Int32) (0 : Int32) (1 : Int32) (0 : Int32) e9 hq9 _ _ _ hP hD hS hl (fun y6_44 q9 H locs ls hP hD hS hl => ?_) (fun y6_45 q9 H locs ls hP hD hS hl => ?_) (fun y3_46 y5_46 q9 H locs ls hP hD hS hl => ?_)
  · subst q9
    replace h := xs30 h
    skip
    refine lv_iload hx hb dX5_firstError_106 (lv_at hl 0 rfl) ?_
    cases h
    exact xendi (ret := none) F hsz hAe hK hP hD hS (fun _ => 0) rfl rfl (Nat.zero_le _) (Nat.zero_le _) dX5_firstError_108
  · subst q9
    replace h := xs31 h
    skip
    refine lv_iload hx hb dX5_firstError_182 (lv_at hl 0 rfl) ?_
    cases h
    exact xendi (ret := none) F hsz hAe hK hP hD hS (fun _ => 0) rfl rfl (Nat.zero_le _) (Nat.zero_le _) dX5_firstError_184
  · subst q9
    replace h := xs32 h
    replace h := xu2 h
    refine lv_iload hx hb dX5_firstError_196 (lv_at hl 2 rfl) ?_
    refine lv_if_ne (tgt := 205) hx hb dX5_firstError_198 (by decide) (fun (c47 : ¬ y5_46 = 0) => ?_) (fun (c47 : y5_46 = 0) => ?_)
    · replace h := iq c47 h
      refine lv_aload_n hx hb dX5_firstError_205 rfl (lv_at hl 0 rfl) ?_
      refine va_get (D := D) (ci := 5) (v := .int v_p0_length) (C := RX5) (T := TX5) (N := 2) hx hb hts inX5_firstError_X5 hown hK hP 0 rfl rfl 1 (by decide) k1 (fun _ h9 => h9) rfl dX5_firstError_206 ?_
      refine lv_goto (tgt := 213) hx hb dX5_firstError_209 (by decide) ?_
      cases h
      exact xendi (ret := none) F hsz hAe hK hP hD hS (fun _ => 0) rfl rfl (Nat.zero_le _) (Nat.zero_le _) dX5_firstError_213
    · replace h := ip c47 h
      refine lv_iload_n hx hb dX5_firstError_201 rfl (lv_at hl 1 rfl) ?_
      refine lv_if_ne (tgt := 212) hx hb dX5_firstError_202 (by decide) (fun (c48 : ¬ y3_46 = 0) => ?_) (fun (c48 : y3_46 = 0) => ?_)
      · replace h := iq c48 h
        refine lv_iconst (v := (-1 : Int32)) hx hb dX5_firstError_212 (by decide) ?_
        cases h
        exact xendi (ret := none) F hsz hAe hK hP hD hS (fun _ => 0) rfl rfl (Nat.zero_le _) (Nat.zero_le _) dX5_firstError_213
      · replace h := ip c48 h
        refine lv_aload_n hx hb dX5_firstError_205 rfl (lv_at hl 0 rfl) ?_
        refine va_get (D := D) (ci := 5) (v := .int v_p0_length) (C := RX5) (T := TX5) (N := 2) hx hb hts inX5_firstError_X5 hown hK hP 0 rfl rfl 1 (by decide) k1 (fun _ h9 => h9) rfl dX5_firstError_206 ?_
        refine lv_goto (tgt := 213) hx hb dX5_firstError_209 (by decide) ?_
        cases h
        exact xendi (ret := none) F hsz hAe hK hP hD hS (fun _ => 0) rfl rfl (Nat.zero_le _) (Nat.zero_le _) dX5_firstError_213
