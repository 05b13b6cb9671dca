theorem inX5_init_X5 : ∀ w ∈ wsX50, w ∈ wsX5_init := by decide +kernel
set_option maxHeartbeats 4000000 in
set_option maxRecDepth 100000 in
theorem kX5_init (l : Launch) (D : va_G) (cc : Nat → ClassId) (a_p0 : Nat) (v_p0_length : Int32) (h : fX5_init = ()) : xMv l yX5_init wsX5_init ({ frames := 1, cells := 1, slots := 100, locals := 20 } : Room) D cc [.ref a_p0] [(a_p0, .inr (5, [.null, .int v_p0_length]))] (fun q => [(a_p0, .inr (5, [.ref (q 0), .int v_p0_length])), ((q 0), .inl (cc 0, 100, .inl (fun _ => (0 : Int32))))]) 1 100 := by
  intro sz
  refine xstart (bc := cX5_init) (maxL := 1) (ret := none) (by decide) rfl (Nat.le_of_ble_eq_true rfl) ?_
  intro p e s m args below meth c A hargs hsz hAe F hK hN hA hmn hP hD hS ls hl
  have hx := F.1.1
  have hb := F.1.2.1
  have hml := F.1.2.2.1
  have hown := F.1.2.2.2.1
  have hts := F.1.2.2.2.2
  have hl : lv_has ls 1 [(0, .ref a_p0)] := hl
  have k1 := hts (.methodLink RX5 3 objectInit) (by decide +kernel)
  have k2 := hts (.instanceMethod objectInit) (by decide +kernel)
  have k3 := hts (.code objectInit ⟨#[0xb1]⟩ 1 none) (by decide +kernel)
  have k4 := hts (.arrayClass .int) (by decide +kernel)
  have k5 := hts (.fieldLink RX5 9 "RuledStrokes$Text" "codes" "[I") (by decide +kernel)
  unfold fX5_init at h
  refine lv_aload_n hx hb dX5_init_0 rfl (lv_at hl 0 rfl) ?_
  refine W.objInit hx hb hown k1 k2 k3 rfl (by rw [hml]; exact hl.1) rfl dX5_init_1 (Nat.le_of_ble_eq_true rfl) (Nat.le_of_ble_eq_true rfl) ?_
  refine W.eq (g2 := F0 m 4 ls []) rfl ?_
  refine lv_aload_n hx hb dX5_init_4 rfl (lv_at hl 0 rfl) ?_
  refine lv_bipush (v := (100 : Int32)) hx hb dX5_init_5 (by decide) ?_
  refine xnewa (atype := .int) (ty := .int) (N' := 100) (a0 := (100, .inl (fun _ => (0 : Int32)))) hx hb k4 rfl 0 rfl (fun _ h9 => h9) hK hP hD hS hA (fun _ => rfl) (nI_pos (n := 100) (Nat.le_of_ble_eq_true rfl)) (nI_clamp (n := 100) (Nat.le_of_ble_eq_true rfl)) (Nat.le_of_ble_eq_true rfl) (Nat.le_of_ble_eq_true rfl) (Nat.le_of_ble_eq_true rfl) dX5_init_7 (fun qn1 H hP hD hS => ?_)
  have hP : va_P D vwCl [(a_p0, .inr (5, [.null, .int v_p0_length])), (qn1, .inl (cc 0, 100, .inl (fun _ => (0 : Int32))))] H := hP
  have hD : va_D A [(a_p0, .inr (5, [.null, .int v_p0_length])), (qn1, .inl (cc 0, 100, .inl (fun _ => (0 : Int32))))] := hD
  refine va_putF (D := D) (ci := 5) (v := .ref qn1) (ty := .array .int) (C := RX5) (T := TX5) (N := 2) hx hb hts inX5_init_X5 tyX5 tyX5_ok nmX5 hown hK hP hD hS 0 rfl rfl 0 (by decide) k5 (fun _ h9 => h9) rfl hmn rfl (by decide +kernel) rfl rfl (Nat.le_of_ble_eq_true rfl) dX5_init_9 (fun H locs hP hD hS => ?_)
  have hP : va_P D vwCl [(a_p0, .inr (5, [.ref qn1, .int v_p0_length])), (qn1, .inl (cc 0, 100, .inl (fun _ => (0 : Int32))))] H := hP
  have hD : va_D A [(a_p0, .inr (5, [.ref qn1, .int v_p0_length])), (qn1, .inl (cc 0, 100, .inl (fun _ => (0 : Int32))))] := hD
  cases h
  exact xendv F hsz hAe hK hP hD hS (fun k => ([qn1] : List Nat).getD k 0) rfl (Nat.le_of_ble_eq_true rfl) (Nat.le_of_ble_eq_true rfl) dX5_init_12
