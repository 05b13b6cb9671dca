theorem inX2_init_X2 : ∀ w ∈ wsX20, w ∈ wsX2_init := by decide +kernel
set_option maxHeartbeats 4000000 in
set_option maxRecDepth 100000 in
theorem kX2_init (l : Launch) (D : va_G) (cc : Nat → ClassId) (a_p0 : Nat) (v_p0_verdict : Int32) (v_p0_name : Int32) (v_p0_distance : Int32) (v_p0_sample : Int32) (h : fX2_init = ()) : xMv l yX2_init wsX2_init ({ frames := 1, cells := 2, slots := 57, locals := 20 } : Room) D cc [.ref a_p0] [(a_p0, .inr (2, [.null, .null, .int v_p0_verdict, .int v_p0_name, .int v_p0_distance, .int v_p0_sample]))] (fun q => [(a_p0, .inr (2, [.ref (q 0), .ref (q 1), .int v_p0_verdict, .int v_p0_name, .int v_p0_distance, .int v_p0_sample])), ((q 0), .inl (cc 0, 41, .inl (fun _ => (0 : Int32)))), ((q 1), .inl (cc 0, 16, .inl (fun _ => (0 : Int32))))]) 2 57 := by
  intro sz
  refine xstart (bc := cX2_init) (maxL := 1) (ret := none) (by decide) rfl (Nat.le_of_ble_eq_true rfl) ?_
  intro p e s m args below meth c A hargs hsz hAe F hK hN hA hmn hP hD hS ls hl
  have hx := F.1.1
  have hb := F.1.2.1
  have hml := F.1.2.2.1
  have hown := F.1.2.2.2.1
  have hts := F.1.2.2.2.2
  have hl : lv_has ls 1 [(0, .ref a_p0)] := hl
  have k1 := hts (.methodLink RX2 3 objectInit) (by decide +kernel)
  have k2 := hts (.instanceMethod objectInit) (by decide +kernel)
  have k3 := hts (.code objectInit ⟨#[0xb1]⟩ 1 none) (by decide +kernel)
  have k4 := hts (.arrayClass .int) (by decide +kernel)
  have k5 := hts (.fieldLink RX2 9 "RuledStrokes$Reader" "costs" "[I") (by decide +kernel)
  have k6 := hts (.fieldLink RX2 15 "RuledStrokes$Reader" "distances" "[I") (by decide +kernel)
  unfold fX2_init at h
  refine lv_aload_n hx hb dX2_init_0 rfl (lv_at hl 0 rfl) ?_
  refine W.objInit hx hb hown k1 k2 k3 rfl (by rw [hml]; exact hl.1) rfl dX2_init_1 (Nat.le_of_ble_eq_true rfl) (Nat.le_of_ble_eq_true rfl) ?_
  refine W.eq (g2 := F0 m 4 ls []) rfl ?_
  refine lv_aload_n hx hb dX2_init_4 rfl (lv_at hl 0 rfl) ?_
  refine lv_bipush (v := (41 : Int32)) hx hb dX2_init_5 (by decide) ?_
  refine xnewa (atype := .int) (ty := .int) (N' := 41) (a0 := (41, .inl (fun _ => (0 : Int32)))) hx hb k4 rfl 0 rfl (fun _ h9 => h9) hK hP hD hS hA (fun _ => rfl) (nI_pos (n := 41) (Nat.le_of_ble_eq_true rfl)) (nI_clamp (n := 41) (Nat.le_of_ble_eq_true rfl)) (Nat.le_of_ble_eq_true rfl) (Nat.le_of_ble_eq_true rfl) (Nat.le_of_ble_eq_true rfl) dX2_init_7 (fun qn1 H hP hD hS => ?_)
  have hP : va_P D vwCl [(a_p0, .inr (2, [.null, .null, .int v_p0_verdict, .int v_p0_name, .int v_p0_distance, .int v_p0_sample])), (qn1, .inl (cc 0, 41, .inl (fun _ => (0 : Int32))))] H := hP
  have hD : va_D A [(a_p0, .inr (2, [.null, .null, .int v_p0_verdict, .int v_p0_name, .int v_p0_distance, .int v_p0_sample])), (qn1, .inl (cc 0, 41, .inl (fun _ => (0 : Int32))))] := hD
  refine va_putF (D := D) (ci := 2) (v := .ref qn1) (ty := .array .int) (C := RX2) (T := TX2) (N := 6) hx hb hts inX2_init_X2 tyX2 tyX2_ok nmX2 hown hK hP hD hS 0 rfl rfl 0 (by decide) k5 (fun _ h9 => h9) rfl hmn rfl (by decide +kernel) rfl rfl (Nat.le_of_ble_eq_true rfl) dX2_init_9 (fun H locs hP hD hS => ?_)
  have hP : va_P D vwCl [(a_p0, .inr (2, [.ref qn1, .null, .int v_p0_verdict, .int v_p0_name, .int v_p0_distance, .int v_p0_sample])), (qn1, .inl (cc 0, 41, .inl (fun _ => (0 : Int32))))] H := hP
  have hD : va_D A [(a_p0, .inr (2, [.ref qn1, .null, .int v_p0_verdict, .int v_p0_name, .int v_p0_distance, .int v_p0_sample])), (qn1, .inl (cc 0, 41, .inl (fun _ => (0 : Int32))))] := hD
  refine lv_aload_n hx hb dX2_init_12 rfl (lv_at hl 0 rfl) ?_
  refine lv_bipush (v := (16 : Int32)) hx hb dX2_init_13 (by decide) ?_
  refine xnewa (atype := .int) (ty := .int) (N' := 16) (a0 := (16, .inl (fun _ => (0 : Int32)))) hx hb k4 rfl 0 rfl (fun _ h9 => h9) hK hP hD hS hA (fun _ => rfl) (nI_pos (n := 16) (Nat.le_of_ble_eq_true rfl)) (nI_clamp (n := 16) (Nat.le_of_ble_eq_true rfl)) (Nat.le_of_ble_eq_true rfl) (Nat.le_of_ble_eq_true rfl) (Nat.le_of_ble_eq_true rfl) dX2_init_15 (fun qn2 H hP hD hS => ?_)
  have hP : va_P D vwCl [(a_p0, .inr (2, [.ref qn1, .null, .int v_p0_verdict, .int v_p0_name, .int v_p0_distance, .int v_p0_sample])), (qn1, .inl (cc 0, 41, .inl (fun _ => (0 : Int32)))), (qn2, .inl (cc 0, 16, .inl (fun _ => (0 : Int32))))] H := hP
  have hD : va_D A [(a_p0, .inr (2, [.ref qn1, .null, .int v_p0_verdict, .int v_p0_name, .int v_p0_distance, .int v_p0_sample])), (qn1, .inl (cc 0, 41, .inl (fun _ => (0 : Int32)))), (qn2, .inl (cc 0, 16, .inl (fun _ => (0 : Int32))))] := hD
  refine va_putF (D := D) (ci := 2) (v := .ref qn2) (ty := .array .int) (C := RX2) (T := TX2) (N := 6) hx hb hts inX2_init_X2 tyX2 tyX2_ok nmX2 hown hK hP hD hS 0 rfl rfl 1 (by decide) k6 (fun _ h9 => h9) rfl hmn rfl (by decide +kernel) rfl rfl (Nat.le_of_ble_eq_true rfl) dX2_init_17 (fun H locs hP hD hS => ?_)
  have hP : va_P D vwCl [(a_p0, .inr (2, [.ref qn1, .ref qn2, .int v_p0_verdict, .int v_p0_name, .int v_p0_distance, .int v_p0_sample])), (qn1, .inl (cc 0, 41, .inl (fun _ => (0 : Int32)))), (qn2, .inl (cc 0, 16, .inl (fun _ => (0 : Int32))))] H := hP
  have hD : va_D A [(a_p0, .inr (2, [.ref qn1, .ref qn2, .int v_p0_verdict, .int v_p0_name, .int v_p0_distance, .int v_p0_sample])), (qn1, .inl (cc 0, 41, .inl (fun _ => (0 : Int32)))), (qn2, .inl (cc 0, 16, .inl (fun _ => (0 : Int32))))] := hD
  cases h
  exact xendv F hsz hAe hK hP hD hS (fun k => ([qn1, qn2] : List Nat).getD k 0) rfl (Nat.le_of_ble_eq_true rfl) (Nat.le_of_ble_eq_true rfl) dX2_init_20
