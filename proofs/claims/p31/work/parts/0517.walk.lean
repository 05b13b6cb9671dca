theorem inX0_init_X0 : ∀ w ∈ wsX00, w ∈ wsX0_init := by decide +kernel
set_option maxHeartbeats 4000000 in
set_option maxRecDepth 100000 in
theorem kX0_init (l : Launch) (D : va_G) (cc : Nat → ClassId) (a_p0 : Nat) (h : fX0_init = ()) : xMv l yX0_init wsX0_init ({ frames := 1, cells := 5, slots := 1377, locals := 20 } : Room) D cc [.ref a_p0] [(a_p0, .inr (0, [.null, .null, .null, .null, .null]))] (fun q => [(a_p0, .inr (0, [.ref (q 0), .ref (q 1), .ref (q 2), .ref (q 3), .ref (q 4)])), ((q 0), .inl (cc 0, 17, .inl (fun _ => (0 : Int32)))), ((q 1), .inl (cc 0, 51, .inl (fun _ => (0 : Int32)))), ((q 2), .inl (cc 0, 612, .inl (fun _ => (0 : Int32)))), ((q 3), .inl (cc 0, 17, .inl (fun _ => (0 : Int32)))), ((q 4), .inl (cc 0, 680, .inl (fun _ => (0 : Int32))))]) 5 1377 := by
  intro sz
  refine xstart (bc := cX0_init) (maxL := 1) (ret := none) (by decide) rfl (Nat.le_of_ble_eq_true rfl) ?_
  intro p e s m args below meth c A hargs hsz hAe F hK hN hA hmn hP hD hS ls hl
  have hx := F.1.1
  have hb := F.1.2.1
  have hml := F.1.2.2.1
  have hown := F.1.2.2.2.1
  have hts := F.1.2.2.2.2
  have hl : lv_has ls 1 [(0, .ref a_p0)] := hl
  have k1 := hts (.methodLink RX0 3 objectInit) (by decide +kernel)
  have k2 := hts (.instanceMethod objectInit) (by decide +kernel)
  have k3 := hts (.code objectInit ⟨#[0xb1]⟩ 1 none) (by decide +kernel)
  have k4 := hts (.arrayClass .int) (by decide +kernel)
  have k5 := hts (.fieldLink RX0 9 "RuledStrokes$Figures" "strokes" "[I") (by decide +kernel)
  have k6 := hts (.fieldLink RX0 15 "RuledStrokes$Figures" "lengths" "[I") (by decide +kernel)
  have k7 := hts (.fieldLink RX0 18 "RuledStrokes$Figures" "points" "[I") (by decide +kernel)
  have k8 := hts (.fieldLink RX0 21 "RuledStrokes$Figures" "signCounts" "[I") (by decide +kernel)
  have k9 := hts (.fieldLink RX0 24 "RuledStrokes$Figures" "signs" "[I") (by decide +kernel)
  unfold fX0_init at h
  refine lv_aload_n hx hb dX0_init_0 rfl (lv_at hl 0 rfl) ?_
  refine W.objInit hx hb hown k1 k2 k3 rfl (by rw [hml]; exact hl.1) rfl dX0_init_1 (Nat.le_of_ble_eq_true rfl) (Nat.le_of_ble_eq_true rfl) ?_
  refine W.eq (g2 := F0 m 4 ls []) rfl ?_
  refine lv_aload_n hx hb dX0_init_4 rfl (lv_at hl 0 rfl) ?_
  refine lv_bipush (v := (17 : Int32)) hx hb dX0_init_5 (by decide) ?_
  refine xnewa (atype := .int) (ty := .int) (N' := 17) (a0 := (17, .inl (fun _ => (0 : Int32)))) hx hb k4 rfl 0 rfl (fun _ h9 => h9) hK hP hD hS hA (fun _ => rfl) (nI_pos (n := 17) (Nat.le_of_ble_eq_true rfl)) (nI_clamp (n := 17) (Nat.le_of_ble_eq_true rfl)) (Nat.le_of_ble_eq_true rfl) (Nat.le_of_ble_eq_true rfl) (Nat.le_of_ble_eq_true rfl) dX0_init_7 (fun qn1 H hP hD hS => ?_)
  have hP : va_P D vwCl [(a_p0, .inr (0, [.null, .null, .null, .null, .null])), (qn1, .inl (cc 0, 17, .inl (fun _ => (0 : Int32))))] H := hP
  have hD : va_D A [(a_p0, .inr (0, [.null, .null, .null, .null, .null])), (qn1, .inl (cc 0, 17, .inl (fun _ => (0 : Int32))))] := hD
  refine va_putF (D := D) (ci := 0) (v := .ref qn1) (ty := .array .int) (C := RX0) (T := TX0) (N := 5) hx hb hts inX0_init_X0 tyX0 tyX0_ok nmX0 hown hK hP hD hS 0 rfl rfl 0 (by decide) k5 (fun _ h9 => h9) rfl hmn rfl (by decide +kernel) rfl rfl (Nat.le_of_ble_eq_true rfl) dX0_init_9 (fun H locs hP hD hS => ?_)
  have hP : va_P D vwCl [(a_p0, .inr (0, [.ref qn1, .null, .null, .null, .null])), (qn1, .inl (cc 0, 17, .inl (fun _ => (0 : Int32))))] H := hP
  have hD : va_D A [(a_p0, .inr (0, [.ref qn1, .null, .null, .null, .null])), (qn1, .inl (cc 0, 17, .inl (fun _ => (0 : Int32))))] := hD
  refine lv_aload_n hx hb dX0_init_12 rfl (lv_at hl 0 rfl) ?_
  refine lv_bipush (v := (51 : Int32)) hx hb dX0_init_13 (by decide) ?_
  refine xnewa (atype := .int) (ty := .int) (N' := 51) (a0 := (51, .inl (fun _ => (0 : Int32)))) hx hb k4 rfl 0 rfl (fun _ h9 => h9) hK hP hD hS hA (fun _ => rfl) (nI_pos (n := 51) (Nat.le_of_ble_eq_true rfl)) (nI_clamp (n := 51) (Nat.le_of_ble_eq_true rfl)) (Nat.le_of_ble_eq_true rfl) (Nat.le_of_ble_eq_true rfl) (Nat.le_of_ble_eq_true rfl) dX0_init_15 (fun qn2 H hP hD hS => ?_)
  have hP : va_P D vwCl [(a_p0, .inr (0, [.ref qn1, .null, .null, .null, .null])), (qn1, .inl (cc 0, 17, .inl (fun _ => (0 : Int32)))), (qn2, .inl (cc 0, 51, .inl (fun _ => (0 : Int32))))] H := hP
  have hD : va_D A [(a_p0, .inr (0, [.ref qn1, .null, .null, .null, .null])), (qn1, .inl (cc 0, 17, .inl (fun _ => (0 : Int32)))), (qn2, .inl (cc 0, 51, .inl (fun _ => (0 : Int32))))] := hD
  refine va_putF (D := D) (ci := 0) (v := .ref qn2) (ty := .array .int) (C := RX0) (T := TX0) (N := 5) hx hb hts inX0_init_X0 tyX0 tyX0_ok nmX0 hown hK hP hD hS 0 rfl rfl 1 (by decide) k6 (fun _ h9 => h9) rfl hmn rfl (by decide +kernel) rfl rfl (Nat.le_of_ble_eq_true rfl) dX0_init_17 (fun H locs hP hD hS => ?_)
  have hP : va_P D vwCl [(a_p0, .inr (0, [.ref qn1, .ref qn2, .null, .null, .null])), (qn1, .inl (cc 0, 17, .inl (fun _ => (0 : Int32)))), (qn2, .inl (cc 0, 51, .inl (fun _ => (0 : Int32))))] H := hP
  have hD : va_D A [(a_p0, .inr (0, [.ref qn1, .ref qn2, .null, .null, .null])), (qn1, .inl (cc 0, 17, .inl (fun _ => (0 : Int32)))), (qn2, .inl (cc 0, 51, .inl (fun _ => (0 : Int32))))] := hD
  refine lv_aload_n hx hb dX0_init_20 rfl (lv_at hl 0 rfl) ?_
  refine lv_sipush (v := (612 : Int32)) hx hb dX0_init_21 (by decide) ?_
  refine xnewa (atype := .int) (ty := .int) (N' := 612) (a0 := (612, .inl (fun _ => (0 : Int32)))) hx hb k4 rfl 0 rfl (fun _ h9 => h9) hK hP hD hS hA (fun _ => rfl) (nI_pos (n := 612) (Nat.le_of_ble_eq_true rfl)) (nI_clamp (n := 612) (Nat.le_of_ble_eq_true rfl)) (Nat.le_of_ble_eq_true rfl) (Nat.le_of_ble_eq_true rfl) (Nat.le_of_ble_eq_true rfl) dX0_init_24 (fun qn3 H hP hD hS => ?_)
  have hP : va_P D vwCl [(a_p0, .inr (0, [.ref qn1, .ref qn2, .null, .null, .null])), (qn1, .inl (cc 0, 17, .inl (fun _ => (0 : Int32)))), (qn2, .inl (cc 0, 51, .inl (fun _ => (0 : Int32)))), (qn3, .inl (cc 0, 612, .inl (fun _ => (0 : Int32))))] H := hP
  have hD : va_D A [(a_p0, .inr (0, [.ref qn1, .ref qn2, .null, .null, .null])), (qn1, .inl (cc 0, 17, .inl (fun _ => (0 : Int32)))), (qn2, .inl (cc 0, 51, .inl (fun _ => (0 : Int32)))), (qn3, .inl (cc 0, 612, .inl (fun _ => (0 : Int32))))] := hD
  refine va_putF (D := D) (ci := 0) (v := .ref qn3) (ty := .array .int) (C := RX0) (T := TX0) (N := 5) hx hb hts inX0_init_X0 tyX0 tyX0_ok nmX0 hown hK hP hD hS 0 rfl rfl 2 (by decide) k7 (fun _ h9 => h9) rfl hmn rfl (by decide +kernel) rfl rfl (Nat.le_of_ble_eq_true rfl) dX0_init_26 (fun H locs hP hD hS => ?_)
  have hP : va_P D vwCl [(a_p0, .inr (0, [.ref qn1, .ref qn2, .ref qn3, .null, .null])), (qn1, .inl (cc 0, 17, .inl (fun _ => (0 : Int32)))), (qn2, .inl (cc 0, 51, .inl (fun _ => (0 : Int32)))), (qn3, .inl (cc 0, 612, .inl (fun _ => (0 : Int32))))] H := hP
  have hD : va_D A [(a_p0, .inr (0, [.ref qn1, .ref qn2, .ref qn3, .null, .null])), (qn1, .inl (cc 0, 17, .inl (fun _ => (0 : Int32)))), (qn2, .inl (cc 0, 51, .inl (fun _ => (0 : Int32)))), (qn3, .inl (cc 0, 612, .inl (fun _ => (0 : Int32))))] := hD
  refine lv_aload_n hx hb dX0_init_29 rfl (lv_at hl 0 rfl) ?_
  refine lv_bipush (v := (17 : Int32)) hx hb dX0_init_30 (by decide) ?_
  refine xnewa (atype := .int) (ty := .int) (N' := 17) (a0 := (17, .inl (fun _ => (0 : Int32)))) hx hb k4 rfl 0 rfl (fun _ h9 => h9) hK hP hD hS hA (fun _ => rfl) (nI_pos (n := 17) (Nat.le_of_ble_eq_true rfl)) (nI_clamp (n := 17) (Nat.le_of_ble_eq_true rfl)) (Nat.le_of_ble_eq_true rfl) (Nat.le_of_ble_eq_true rfl) (Nat.le_of_ble_eq_true rfl) dX0_init_32 (fun qn4 H hP hD hS => ?_)
  have hP : va_P D vwCl [(a_p0, .inr (0, [.ref qn1, .ref qn2, .ref qn3, .null, .null])), (qn1, .inl (cc 0, 17, .inl (fun _ => (0 : Int32)))), (qn2, .inl (cc 0, 51, .inl (fun _ => (0 : Int32)))), (qn3, .inl (cc 0, 612, .inl (fun _ => (0 : Int32)))), (qn4, .inl (cc 0, 17, .inl (fun _ => (0 : Int32))))] H := hP
  have hD : va_D A [(a_p0, .inr (0, [.ref qn1, .ref qn2, .ref qn3, .null, .null])), (qn1, .inl (cc 0, 17, .inl (fun _ => (0 : Int32)))), (qn2, .inl (cc 0, 51, .inl (fun _ => (0 : Int32)))), (qn3, .inl (cc 0, 612, .inl (fun _ => (0 : Int32)))), (qn4, .inl (cc 0, 17, .inl (fun _ => (0 : Int32))))] := hD
  refine va_putF (D := D) (ci := 0) (v := .ref qn4) (ty := .array .int) (C := RX0) (T := TX0) (N := 5) hx hb hts inX0_init_X0 tyX0 tyX0_ok nmX0 hown hK hP hD hS 0 rfl rfl 3 (by decide) k8 (fun _ h9 => h9) rfl hmn rfl (by decide +kernel) rfl rfl (Nat.le_of_ble_eq_true rfl) dX0_init_34 (fun H locs hP hD hS => ?_)
  have hP : va_P D vwCl [(a_p0, .inr (0, [.ref qn1, .ref qn2, .ref qn3, .ref qn4, .null])), (qn1, .inl (cc 0, 17, .inl (fun _ => (0 : Int32)))), (qn2, .inl (cc 0, 51, .inl (fun _ => (0 : Int32)))), (qn3, .inl (cc 0, 612, .inl (fun _ => (0 : Int32)))), (qn4, .inl (cc 0, 17, .inl (fun _ => (0 : Int32))))] H := hP
  have hD : va_D A [(a_p0, .inr (0, [.ref qn1, .ref qn2, .ref qn3, .ref qn4, .null])), (qn1, .inl (cc 0, 17, .inl (fun _ => (0 : Int32)))), (qn2, .inl (cc 0, 51, .inl (fun _ => (0 : Int32)))), (qn3, .inl (cc 0, 612, .inl (fun _ => (0 : Int32)))), (qn4, .inl (cc 0, 17, .inl (fun _ => (0 : Int32))))] := hD
  refine lv_aload_n hx hb dX0_init_37 rfl (lv_at hl 0 rfl) ?_
  refine lv_sipush (v := (680 : Int32)) hx hb dX0_init_38 (by decide) ?_
  refine xnewa (atype := .int) (ty := .int) (N' := 680) (a0 := (680, .inl (fun _ => (0 : Int32)))) hx hb k4 rfl 0 rfl (fun _ h9 => h9) hK hP hD hS hA (fun _ => rfl) (nI_pos (n := 680) (Nat.le_of_ble_eq_true rfl)) (nI_clamp (n := 680) (Nat.le_of_ble_eq_true rfl)) (Nat.le_of_ble_eq_true rfl) (Nat.le_of_ble_eq_true rfl) (Nat.le_of_ble_eq_true rfl) dX0_init_41 (fun qn5 H hP hD hS => ?_)
  have hP : va_P D vwCl [(a_p0, .inr (0, [.ref qn1, .ref qn2, .ref qn3, .ref qn4, .null])), (qn1, .inl (cc 0, 17, .inl (fun _ => (0 : Int32)))), (qn2, .inl (cc 0, 51, .inl (fun _ => (0 : Int32)))), (qn3, .inl (cc 0, 612, .inl (fun _ => (0 : Int32)))), (qn4, .inl (cc 0, 17, .inl (fun _ => (0 : Int32)))), (qn5, .inl (cc 0, 680, .inl (fun _ => (0 : Int32))))] H := hP
  have hD : va_D A [(a_p0, .inr (0, [.ref qn1, .ref qn2, .ref qn3, .ref qn4, .null])), (qn1, .inl (cc 0, 17, .inl (fun _ => (0 : Int32)))), (qn2, .inl (cc 0, 51, .inl (fun _ => (0 : Int32)))), (qn3, .inl (cc 0, 612, .inl (fun _ => (0 : Int32)))), (qn4, .inl (cc 0, 17, .inl (fun _ => (0 : Int32)))), (qn5, .inl (cc 0, 680, .inl (fun _ => (0 : Int32))))] := hD
  refine va_putF (D := D) (ci := 0) (v := .ref qn5) (ty := .array .int) (C := RX0) (T := TX0) (N := 5) hx hb hts inX0_init_X0 tyX0 tyX0_ok nmX0 hown hK hP hD hS 0 rfl rfl 4 (by decide) k9 (fun _ h9 => h9) rfl hmn rfl (by decide +kernel) rfl rfl (Nat.le_of_ble_eq_true rfl) dX0_init_43 (fun H locs hP hD hS => ?_)
  have hP : va_P D vwCl [(a_p0, .inr (0, [.ref qn1, .ref qn2, .ref qn3, .ref qn4, .ref qn5])), (qn1, .inl (cc 0, 17, .inl (fun _ => (0 : Int32)))), (qn2, .inl (cc 0, 51, .inl (fun _ => (0 : Int32)))), (qn3, .inl (cc 0, 612, .inl (fun _ => (0 : Int32)))), (qn4, .inl (cc 0, 17, .inl (fun _ => (0 : Int32)))), (qn5, .inl (cc 0, 680, .inl (fun _ => (0 : Int32))))] H := hP
  have hD : va_D A [(a_p0, .inr (0, [.ref qn1, .ref qn2, .ref qn3, .ref qn4, .ref qn5])), (qn1, .inl (cc 0, 17, .inl (fun _ => (0 : Int32)))), (qn2, .inl (cc 0, 51, .inl (fun _ => (0 : Int32)))), (qn3, .inl (cc 0, 612, .inl (fun _ => (0 : Int32)))), (qn4, .inl (cc 0, 17, .inl (fun _ => (0 : Int32)))), (qn5, .inl (cc 0, 680, .inl (fun _ => (0 : Int32))))] := hD
  cases h
  exact xendv F hsz hAe hK hP hD hS (fun k => ([qn1, qn2, qn3, qn4, qn5] : List Nat).getD k 0) rfl (Nat.le_of_ble_eq_true rfl) (Nat.le_of_ble_eq_true rfl) dX0_init_46
