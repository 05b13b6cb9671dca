theorem inX1_init_X1 : ∀ w ∈ wsX10, w ∈ wsX1_init := by decide +kernel
theorem inX1_init_X3 : ∀ w ∈ wsX30, w ∈ wsX1_init := by decide +kernel
set_option maxHeartbeats 4000000 in
set_option maxRecDepth 100000 in
theorem kX1_init (l : Launch) (D : va_G) (cc : Nat → ClassId) (a_p0 : Nat) (v_p0_newest : Int32) (v_p0_count : Int32) (h : fX1_init = ()) : xMv l yX1_init wsX1_init ({ frames := 2, cells := 2, slots := 16, locals := 42 } : Room) D cc [.ref a_p0] [(a_p0, .inr (1, [.null, .int v_p0_newest, .int v_p0_count]))] (fun q => [(a_p0, .inr (1, [.ref (q 0), .int v_p0_newest, .int v_p0_count])), ((q 0), .inr (3, [.ref (q 1)])), ((q 1), .inl (cc 2, 15, .inr (.inr (.inr (.inr (fun _ => none))))))]) 2 16 := by
  intro sz
  refine xstart (bc := cX1_init) (maxL := 1) (ret := none) (by decide) rfl (Nat.le_of_ble_eq_true rfl) ?_
  intro p e s m args below meth c A hargs hsz hAe F hK hN hA hmn hP hD hS ls hl
  have hx := F.1.1
  have hb := F.1.2.1
  have hml := F.1.2.2.1
  have hown := F.1.2.2.2.1
  have hts := F.1.2.2.2.2
  have hl : lv_has ls 1 [(0, .ref a_p0)] := hl
  have k1 := hts (.methodLink RX1 3 objectInit) (by decide +kernel)
  have k2 := hts (.instanceMethod objectInit) (by decide +kernel)
  have k3 := hts (.code objectInit ⟨#[0xb1]⟩ 1 none) (by decide +kernel)
  have k4 := hts (.classLink RX1 9 RX3) (by decide +kernel)
  have k5 := hts (.instantiable RX3 1) (by decide +kernel)
  have k6 := hts (.initialized RX3) (by decide +kernel)
  have k7 := hts (.methodLink RX1 13 yX3_init) (by decide +kernel)
  have k8 := hts (.instanceMethod yX3_init) (by decide +kernel)
  have k9 := hts (.fieldLink RX1 16 "RuledStrokes$History" "ring" "LRuledStrokes$Shelf;") (by decide +kernel)
  unfold fX1_init at h
  refine lv_aload_n hx hb dX1_init_0 rfl (lv_at hl 0 rfl) ?_
  refine W.objInit hx hb hown k1 k2 k3 rfl (by rw [hml]; exact hl.1) rfl dX1_init_1 (Nat.le_of_ble_eq_true rfl) (Nat.le_of_ble_eq_true rfl) ?_
  refine W.eq (g2 := F0 m 4 ls []) rfl ?_
  refine lv_aload_n hx hb dX1_init_4 rfl (lv_at hl 0 rfl) ?_
  refine va_new (ci := 3) (fs := [.null]) (C := RX3) (T := TX3) (N := 1) hx hb hts inX1_init_X3 tyX3 tyX3_ok hown k4 k5 k6 hK hP hD hS hA rfl (fun j hj => by rcases (show j = 0 by omega) with rfl <;> rfl) (Nat.le_of_ble_eq_true rfl) (Nat.le_of_ble_eq_true rfl) dX1_init_5 (fun qn1 H hP hD hS => ?_)
  have hP : va_P D vwCl [(a_p0, .inr (1, [.null, .int v_p0_newest, .int v_p0_count])), (qn1, .inr (3, [.null]))] H := hP
  have hD : va_D A [(a_p0, .inr (1, [.null, .int v_p0_newest, .int v_p0_count])), (qn1, .inr (3, [.null]))] := hD
  refine lv_dup hx hb dX1_init_8 rfl ?_
  refine lv_bipush (v := (15 : Int32)) hx hb dX1_init_9 (by decide) ?_
  refine xcallv (wr := [(a_p0, .inr (1, [.null, .int v_p0_newest, .int v_p0_count]))]) [1] [0] (xrunI (As := [.int (15 : Int32)]) (rest := [.ref qn1, .ref a_p0]) F ((kX3_init_15 l D cc (a_p0 := qn1) (h := rfl)) _) (cwI 1 hts gX1_init_X3_init rfl rfl rfl k6 k7 k8 rfl (by decide +kernel) ⟨Nat.le_of_ble_eq_true rfl, Nat.le_of_ble_eq_true rfl⟩) hK hN hP hD [1] rfl (by decide) rfl hl rfl (Nat.le_of_ble_eq_true rfl) dX1_init_11 ⟨Nat.le_of_ble_eq_true rfl, Nat.le_of_ble_eq_true rfl⟩) hP hD hS hA rfl rfl (by decide) (by decide) (fun qc2 H locs hP hD hS => ?_)
  have hP : va_P D vwCl [(a_p0, .inr (1, [.null, .int v_p0_newest, .int v_p0_count])), (qn1, .inr (3, [.ref (qc2 0)])), ((qc2 0), .inl (cc 2, 15, .inr (.inr (.inr (.inr (fun _ => none))))))] H := hP
  have hD : va_D A [(a_p0, .inr (1, [.null, .int v_p0_newest, .int v_p0_count])), (qn1, .inr (3, [.ref (qc2 0)])), ((qc2 0), .inl (cc 2, 15, .inr (.inr (.inr (.inr (fun _ => none))))))] := hD
  refine va_putF (D := D) (ci := 1) (v := .ref qn1) (ty := .object "RuledStrokes$Shelf") (C := RX1) (T := TX1) (N := 3) hx hb hts inX1_init_X1 tyX1 tyX1_ok nmX1 hown hK hP hD hS 0 rfl rfl 0 (by decide) k9 (fun _ h9 => h9) rfl hmn rfl (by decide +kernel) rfl rfl (Nat.le_of_ble_eq_true rfl) dX1_init_14 (fun H locs hP hD hS => ?_)
  have hP : va_P D vwCl [(a_p0, .inr (1, [.ref qn1, .int v_p0_newest, .int v_p0_count])), (qn1, .inr (3, [.ref (qc2 0)])), ((qc2 0), .inl (cc 2, 15, .inr (.inr (.inr (.inr (fun _ => none))))))] H := hP
  have hD : va_D A [(a_p0, .inr (1, [.ref qn1, .int v_p0_newest, .int v_p0_count])), (qn1, .inr (3, [.ref (qc2 0)])), ((qc2 0), .inl (cc 2, 15, .inr (.inr (.inr (.inr (fun _ => none))))))] := hD
  cases h
  exact xendv F hsz hAe hK hP hD hS (fun k => ([qn1, (qc2 0)] : List Nat).getD k 0) rfl (Nat.le_of_ble_eq_true rfl) (Nat.le_of_ble_eq_true rfl) dX1_init_17
