theorem inX1_newestState_X1 : ∀ w ∈ wsX10, w ∈ wsX1_newestState := by decide +kernel
set_option maxHeartbeats 4000000 in
set_option maxRecDepth 100000 in
theorem kX1_newestState_some (l : Launch) (D : va_G) (cc : Nat → ClassId) (a_p0 : Nat) (a_p0_ring : Nat) (a_p0_ring_copies : Nat) (a_D : Nat) (v_p0_newest : Int32) (v_p0_count : Int32) (c_p0_ring_copies : Nat → Option Nat) (hy1 : ¬ (v_p0_count ≤ 0)) (hy2 : ¬ (v_p0_newest < 0)) (hy3 : ¬ ((Int32.ofNat 15) ≤ v_p0_newest)) (hy4 : c_p0_ring_copies v_p0_newest.toNatClampNeg = some a_D) (hy5 : vp_in v_p0_newest 15) (h : fX1_newestState_some = ()) : xMq l yX1_newestState wsX1_newestState ({ frames := 1, cells := 0, slots := 0, locals := 21 } : Room) D cc [.ref a_p0] [(a_p0, .inr (1, [.ref a_p0_ring, .int v_p0_newest, .int v_p0_count])), (a_p0_ring, .inr (3, [.ref a_p0_ring_copies])), (a_p0_ring_copies, .inl (cc 2, 15, .inr (.inr (.inr (.inr c_p0_ring_copies)))))] (some a_D) (fun _ => [(a_p0, .inr (1, [.ref a_p0_ring, .int v_p0_newest, .int v_p0_count])), (a_p0_ring, .inr (3, [.ref a_p0_ring_copies])), (a_p0_ring_copies, .inl (cc 2, 15, .inr (.inr (.inr (.inr c_p0_ring_copies)))))]) 0 0 := by
  intro sz
  refine xstart (bc := cX1_newestState) (maxL := 1) (ret := (some (.object "RuledStrokes$State"))) (by decide) rfl (Nat.le_of_ble_eq_true rfl) ?_
  intro p e s m args below meth c A hargs hsz hAe F hK hN hA hmn hP hD hS ls hl
  have hx := F.1.1
  have hb := F.1.2.1
  have hml := F.1.2.2.1
  have hown := F.1.2.2.2.1
  have hts := F.1.2.2.2.2
  have hl : lv_has ls 1 [(0, .ref a_p0)] := hl
  have k1 := hts (.fieldLink RX1 28 "RuledStrokes$History" "count" "I") (by decide +kernel)
  have k2 := hts (.fieldLink RX1 16 "RuledStrokes$History" "ring" "LRuledStrokes$Shelf;") (by decide +kernel)
  have k3 := hts (.fieldLink RX1 20 "RuledStrokes$History" "newest" "I") (by decide +kernel)
  unfold fX1_newestState_some at h
  refine lv_aload_n hx hb dX1_newestState_0 rfl (lv_at hl 0 rfl) ?_
  refine va_get (D := D) (ci := 1) (v := .int v_p0_count) (C := RX1) (T := TX1) (N := 3) hx hb hts inX1_newestState_X1 hown hK hP 0 rfl rfl 2 (by decide) k1 (fun _ h9 => h9) rfl dX1_newestState_1 ?_
  refine lv_if_le (tgt := 21) hx hb dX1_newestState_4 (by decide) (fun c1 => absurd c1 hy1) (fun _ => ?_)
  refine lv_aload_n hx hb dX1_newestState_7 rfl (lv_at hl 0 rfl) ?_
  refine va_get (D := D) (ci := 1) (v := .ref a_p0_ring) (C := RX1) (T := TX1) (N := 3) hx hb hts inX1_newestState_X1 hown hK hP 0 rfl rfl 0 (by decide) k2 (fun _ h9 => h9) rfl dX1_newestState_8 ?_
  refine lv_aload_n hx hb dX1_newestState_11 rfl (lv_at hl 0 rfl) ?_
  refine va_get (D := D) (ci := 1) (v := .int v_p0_newest) (C := RX1) (T := TX1) (N := 3) hx hb hts inX1_newestState_X1 hown hK hP 0 rfl rfl 1 (by decide) k3 (fun _ h9 => h9) rfl dX1_newestState_12 ?_
  refine xcallq (wr := [(a_p0, .inr (1, [.ref a_p0_ring, .int v_p0_newest, .int v_p0_count]))]) [1, 2] [0] (xrunV (As := [.int v_p0_newest]) (rest := []) F ((kX3_copyAt_some l D cc (a_p0 := a_p0_ring) (a_p0_copies := a_p0_ring_copies) (a_D := a_D) (n_p0_copies := 15) (c_p0_copies := c_p0_ring_copies) (p1 := v_p0_newest) (hy1 := hy2) (hy2 := hy3) (hy3 := hy4) (hy4 := hy5) (h := rfl)) _) (cwV 1 hts gX1_newestState_X3_copyAt rfl rfl rfl (by decide +kernel) ⟨Nat.le_of_ble_eq_true rfl, Nat.le_of_ble_eq_true rfl⟩) hK hN hP hD [1, 2] rfl (by decide) (q0 := 1) rfl rfl rfl rfl hl rfl (Nat.le_of_ble_eq_true rfl) dX1_newestState_15 ⟨Nat.zero_le _, Nat.zero_le _⟩) hP hD hS hA rfl rfl (by decide) (by decide) (fun _ H locs hP hD hS => ?_)
  have hP : va_P D vwCl [(a_p0, .inr (1, [.ref a_p0_ring, .int v_p0_newest, .int v_p0_count])), (a_p0_ring, .inr (3, [.ref a_p0_ring_copies])), (a_p0_ring_copies, .inl (cc 2, 15, .inr (.inr (.inr (.inr c_p0_ring_copies)))))] H := hP
  have hD : va_D A [(a_p0, .inr (1, [.ref a_p0_ring, .int v_p0_newest, .int v_p0_count])), (a_p0_ring, .inr (3, [.ref a_p0_ring_copies])), (a_p0_ring_copies, .inl (cc 2, 15, .inr (.inr (.inr (.inr c_p0_ring_copies)))))] := hD
  refine W.eq (g2 := F0 m 18 ls [.ref a_D]) rfl ?_
  refine lv_goto (tgt := 22) hx hb dX1_newestState_18 (by decide) ?_
  cases h
  exact xendq F hsz hAe hK hP hD hS (fun _ => 0) rfl (o := some a_D) rfl (Nat.zero_le _) (Nat.zero_le _) dX1_newestState_22
