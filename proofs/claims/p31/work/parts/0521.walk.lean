set_option maxHeartbeats 4000000 in
set_option maxRecDepth 100000 in
theorem kX3_init_2 (l : Launch) (D : va_G) (cc : Nat → ClassId) (a_p0 : Nat) (h : fX3_init_2 = ()) : xMv l yX3_init wsX3_init ({ frames := 1, cells := 1, slots := 2, locals := 21 } : Room) D cc [.ref a_p0, .int (2 : Int32)] [(a_p0, .inr (3, [.null]))] (fun q => [(a_p0, .inr (3, [.ref (q 0)])), ((q 0), .inl (cc 2, 2, .inr (.inr (.inr (.inr (fun _ => none))))))]) 1 2 := by
  intro sz
  refine xstart (bc := cX3_init) (maxL := 2) (ret := none) (by decide) rfl (Nat.le_of_ble_eq_true rfl) ?_
  intro p e s m args below meth c A hargs hsz hAe F hK hN hA hmn hP hD hS ls hl
  have hx := F.1.1
  have hb := F.1.2.1
  have hml := F.1.2.2.1
  have hown := F.1.2.2.2.1
  have hts := F.1.2.2.2.2
  have hl : lv_has ls 2 [(0, .ref a_p0), (1, .int (2 : Int32))] := hl
  have k1 := hts (.methodLink RX3 1 objectInit) (by decide +kernel)
  have k2 := hts (.instanceMethod objectInit) (by decide +kernel)
  have k3 := hts (.code objectInit ⟨#[0xb1]⟩ 1 none) (by decide +kernel)
  have k4 := hts (.methodLink RX3 7 Lib.Math.max.name) (by decide +kernel)
  have k5 := hts (.static Lib.Math.max.name) (by decide +kernel)
  have k6 := hts (.initialized "java/lang/Math") (by decide +kernel)
  have k7 := hts (.code Lib.Math.max.name Lib.Math.max.code 2 (some .int)) (by decide +kernel)
  have k8 := hts (.classLink RX3 13 RX4) (by decide +kernel)
  have k9 := hts (.fieldLink RX3 15 "RuledStrokes$Shelf" "copies" "[LRuledStrokes$State;") (by decide +kernel)
  unfold fX3_init_2 at h
  refine lv_aload_n hx hb dX3_init_0 rfl (lv_at hl 0 rfl) ?_
  refine W.objInit hx hb hown k1 k2 k3 rfl (by rw [hml]; exact hl.1) rfl dX3_init_1 (Nat.le_of_ble_eq_true rfl) (Nat.le_of_ble_eq_true rfl) ?_
  refine W.eq (g2 := F0 m 4 ls []) rfl ?_
  refine lv_aload_n hx hb dX3_init_4 rfl (lv_at hl 0 rfl) ?_
  refine lv_iload_n hx hb dX3_init_5 rfl (lv_at hl 1 rfl) ?_
  refine lv_iconst (v := (0 : Int32)) hx hb dX3_init_6 (by decide) ?_
  refine va_mmax hx hb (hml.trans hl.1.symm) hown k4 k5 k6 k7 (Nat.le_of_ble_eq_true rfl) (Nat.le_of_ble_eq_true rfl) (Nat.zero_le _) (Nat.zero_le _) dX3_init_7 ?_
  refine W.eq (g2 := F0 m 10 ls [.int (xmax (2 : Int32) (0 : Int32)), .ref a_p0]) rfl ?_
  refine xnewq (N' := 2) hx hb hown k8 hN hK hP hD hS hA (nI_pos (n := 2) (Nat.le_of_ble_eq_true rfl)) (nI_clamp (n := 2) (Nat.le_of_ble_eq_true rfl)) (Nat.le_of_ble_eq_true rfl) (Nat.le_of_ble_eq_true rfl) (Nat.le_of_ble_eq_true rfl) dX3_init_10 (fun qn1 H hP hD hS => ?_)
  have hP : va_P D vwCl [(a_p0, .inr (3, [.null])), (qn1, .inl (cc 2, 2, .inr (.inr (.inr (.inr (fun _ => none))))))] H := hP
  have hD : va_D A [(a_p0, .inr (3, [.null])), (qn1, .inl (cc 2, 2, .inr (.inr (.inr (.inr (fun _ => none))))))] := hD
  refine va_putF (D := D) (ci := 3) (v := .ref qn1) (ty := .array (.object "RuledStrokes$State")) (C := RX3) (T := TX3) (N := 1) hx hb hts inX3_init_X3 tyX3 tyX3_ok nmX3 hown hK hP hD hS 0 rfl rfl 0 (by decide) k9 (fun _ h9 => h9) rfl hmn rfl (by decide +kernel) rfl rfl (Nat.le_of_ble_eq_true rfl) dX3_init_13 (fun H locs hP hD hS => ?_)
  have hP : va_P D vwCl [(a_p0, .inr (3, [.ref qn1])), (qn1, .inl (cc 2, 2, .inr (.inr (.inr (.inr (fun _ => none))))))] H := hP
  have hD : va_D A [(a_p0, .inr (3, [.ref qn1])), (qn1, .inl (cc 2, 2, .inr (.inr (.inr (.inr (fun _ => none))))))] := hD
  cases h
  exact xendv F hsz hAe hK hP hD hS (fun k => ([qn1] : List Nat).getD k 0) rfl (Nat.le_of_ble_eq_true rfl) (Nat.le_of_ble_eq_true rfl) dX3_init_16
