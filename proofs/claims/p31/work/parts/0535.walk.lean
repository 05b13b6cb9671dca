set_option maxHeartbeats 4000000 in
set_option maxRecDepth 100000 in
theorem kX1_newestState_zero (l : Launch) (D : va_G) (cc : Nat → ClassId) (a_p0 : Nat) (a_p0_ring : Nat) (v_p0_newest : Int32) (v_p0_count : Int32) (hy1 : v_p0_count ≤ 0) (h : fX1_newestState_zero = ()) : xMq l yX1_newestState wsX1_newestState ({ frames := 0, cells := 0, slots := 0, locals := 0 } : Room) D cc [.ref a_p0] [(a_p0, .inr (1, [.ref a_p0_ring, .int v_p0_newest, .int v_p0_count]))] none (fun _ => [(a_p0, .inr (1, [.ref a_p0_ring, .int v_p0_newest, .int v_p0_count]))]) 0 0 := by
  intro sz
  refine xstart (bc := cX1_newestState) (maxL := 1) (ret := (some (.object "RuledStrokes$State"))) (by decide) rfl (Nat.le_of_ble_eq_true rfl) ?_
  intro p e s m args below meth c A hargs hsz hAe F hK hN hA hmn hP hD hS ls hl
  have hx := F.1.1
  have hb := F.1.2.1
  have hml := F.1.2.2.1
  have hown := F.1.2.2.2.1
  have hts := F.1.2.2.2.2
  have hl : lv_has ls 1 [(0, .ref a_p0)] := hl
  have k1 := hts (.fieldLink RX1 28 "RuledStrokes$History" "count" "I") (by decide +kernel)
  unfold fX1_newestState_zero at h
  refine lv_aload_n hx hb dX1_newestState_0 rfl (lv_at hl 0 rfl) ?_
  refine va_get (D := D) (ci := 1) (v := .int v_p0_count) (C := RX1) (T := TX1) (N := 3) hx hb hts inX1_newestState_X1 hown hK hP 0 rfl rfl 2 (by decide) k1 (fun _ h9 => h9) rfl dX1_newestState_1 ?_
  refine lv_if_le (tgt := 21) hx hb dX1_newestState_4 (by decide) (fun _ => ?_) (fun c1 => absurd hy1 c1)
  refine lv_null hx hb dX1_newestState_21 ?_
  cases h
  exact xendq F hsz hAe hK hP hD hS (fun _ => 0) rfl (o := none) rfl (Nat.zero_le _) (Nat.zero_le _) dX1_newestState_22
