theorem inX3_copyAt_X3 : ∀ w ∈ wsX30, w ∈ wsX3_copyAt := by decide +kernel
set_option maxHeartbeats 4000000 in
set_option maxRecDepth 100000 in
theorem kX3_copyAt_some (l : Launch) (D : va_G) (cc : Nat → ClassId) (a_p0 : Nat) (a_p0_copies : Nat) (a_D : Nat) (n_p0_copies : Nat) (c_p0_copies : Nat → Option Nat) (p1 : Int32) (hy1 : ¬ (p1 < 0)) (hy2 : ¬ ((Int32.ofNat n_p0_copies) ≤ p1)) (hy3 : c_p0_copies p1.toNatClampNeg = some a_D) (hy4 : vp_in p1 n_p0_copies) (h : fX3_copyAt_some = ()) : xMq l yX3_copyAt wsX3_copyAt ({ frames := 0, cells := 0, slots := 0, locals := 0 } : Room) D cc [.ref a_p0, .int p1] [(a_p0, .inr (3, [.ref a_p0_copies])), (a_p0_copies, .inl (cc 2, n_p0_copies, .inr (.inr (.inr (.inr c_p0_copies)))))] (some a_D) (fun _ => [(a_p0, .inr (3, [.ref a_p0_copies])), (a_p0_copies, .inl (cc 2, n_p0_copies, .inr (.inr (.inr (.inr c_p0_copies)))))]) 0 0 := by
  intro sz
  refine xstart (bc := cX3_copyAt) (maxL := 2) (ret := (some (.object "RuledStrokes$State"))) (by decide) rfl (Nat.le_of_ble_eq_true rfl) ?_
  intro p e s m args below meth c A hargs hsz hAe F hK hN hA hmn hP hD hS ls hl
  have hx := F.1.1
  have hb := F.1.2.1
  have hml := F.1.2.2.1
  have hown := F.1.2.2.2.1
  have hts := F.1.2.2.2.2
  have hl : lv_has ls 2 [(0, .ref a_p0), (1, .int p1)] := hl
  have k1 := hts (.fieldLink RX3 15 "RuledStrokes$Shelf" "copies" "[LRuledStrokes$State;") (by decide +kernel)
  unfold fX3_copyAt_some at h
  refine lv_iload_n hx hb dX3_copyAt_0 rfl (lv_at hl 1 rfl) ?_
  refine lv_if_lt (tgt := 22) hx hb dX3_copyAt_1 (by decide) (fun c1 => absurd c1 hy1) (fun _ => ?_)
  refine lv_iload_n hx hb dX3_copyAt_4 rfl (lv_at hl 1 rfl) ?_
  refine lv_aload_n hx hb dX3_copyAt_5 rfl (lv_at hl 0 rfl) ?_
  refine va_get (D := D) (ci := 3) (v := .ref a_p0_copies) (C := RX3) (T := TX3) (N := 1) hx hb hts inX3_copyAt_X3 hown hK hP 0 rfl rfl 0 (by decide) k1 (fun _ h9 => h9) rfl dX3_copyAt_6 ?_
  refine va_alen hx hb hK hP 1 2 rfl rfl rfl dX3_copyAt_9 ?_
  refine lv_icmp_ge (tgt := 22) hx hb dX3_copyAt_10 (by decide) (fun c2 => absurd c2 hy2) (fun _ => ?_)
  refine lv_aload_n hx hb dX3_copyAt_13 rfl (lv_at hl 0 rfl) ?_
  refine va_get (D := D) (ci := 3) (v := .ref a_p0_copies) (C := RX3) (T := TX3) (N := 1) hx hb hts inX3_copyAt_X3 hown hK hP 0 rfl rfl 0 (by decide) k1 (fun _ h9 => h9) rfl dX3_copyAt_14 ?_
  refine lv_iload_n hx hb dX3_copyAt_17 rfl (lv_at hl 1 rfl) ?_
  refine va_aldq hx hb hK hP 1 2 rfl rfl hy4 dX3_copyAt_18 ?_
  refine W.eq (g2 := F0 m 19 ls [.ref a_D]) (by rw [hy3]; rfl) ?_
  refine lv_goto (tgt := 23) hx hb dX3_copyAt_19 (by decide) ?_
  cases h
  exact xendq F hsz hAe hK hP hD hS (fun _ => 0) rfl (o := some a_D) rfl (Nat.zero_le _) (Nat.zero_le _) dX3_copyAt_23
