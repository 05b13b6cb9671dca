theorem inX6_draw_X4 : ∀ w ∈ wsX40, w ∈ wsX6_draw := by decide +kernel
set_option maxHeartbeats 4000000 in
set_option maxRecDepth 100000 in
theorem inX6_save_X6 : ∀ w ∈ wsX60, w ∈ wsX6_save := by decide +kernel
set_option maxHeartbeats 4000000 in
set_option maxRecDepth 100000 in
theorem kX6_save_arg (l : Launch) (D : va_G) (cc : Nat → ClassId) (a_p0 : Nat) (a_p0_state : Nat) (a_p0_trial : Nat) (a_p0_reader : Nat) (a_p0_text : Nat) (a_p0_history : Nat) (a_p0_slots : Nat) (p1 : Int32) (r0 : Int32 ⊕ String) (hst : l.stackTraces = false) (h : fX6_save_arg p1 = some r0) : vMi l yX6_save wsX6_save ({ frames := 6, cells := 1, slots := 6, locals := 90 } : Room) D cc [.ref a_p0, .int p1] [(a_p0, .inr (6, [.ref a_p0_state, .ref a_p0_trial, .ref a_p0_reader, .ref a_p0_text, .ref a_p0_history, .ref a_p0_slots]))] r0 (fun _ => [(a_p0, .inr (6, [.ref a_p0_state, .ref a_p0_trial, .ref a_p0_reader, .ref a_p0_text, .ref a_p0_history, .ref a_p0_slots]))]) 1 6 := by
  intro sz
  refine xvstart (bc := cX6_save) (maxL := 2) (ret := (some .int)) (by decide) rfl (Nat.le_of_ble_eq_true rfl) ?_
  intro p e s m args below meth c A hargs hsz hAe F hK hN hA hex hX hP hD hS ls hl
  have hx := F.1.1
  have hb := F.1.2.1
  have hml := F.1.2.2.1
  have hown := F.1.2.2.2.1
  have hts := F.1.2.2.2.2
  have hl : lv_has ls 2 [(0, .ref a_p0), (1, .int p1)] := hl
  have k1 := hts (.classLink RX6 110 "java/lang/IndexOutOfBoundsException") (by decide +kernel)
  have k2 := hts (.initialized "java/lang/IndexOutOfBoundsException") (by decide +kernel)
  have k3 := hts (.fieldLink RX6 45 "RuledStrokes" "slots" "LRuledStrokes$Shelf;") (by decide +kernel)
  have k4 := hts (.fieldLink RX6 12 "RuledStrokes" "state" "LRuledStrokes$State;") (by decide +kernel)
  unfold fX6_save_arg at h
  refine lv_iload_n hx hb dX6_save_0 rfl (lv_at hl 1 rfl) ?_
  refine lv_if_lt (tgt := 9) hx hb dX6_save_1 (by decide) (fun (c1 : p1 < 0) => ?_) (fun (c1 : ¬ p1 < 0) => ?_)
  · replace h := ip c1 h
    cases h
    exact xvthrowW F hst hex hX hsz hAe hK hP hD hS hl (fun w hw => hts w (List.mem_cons_of_mem _ (List.mem_append_right _ hw))) xAt_good.2.2 xAt_bad.2.2 xFit.2.2 (text := "there is no such save slot") (by decide +kernel) k1 k2 (fun _ => 0) rfl rfl dX6_save_9 dX6_save_12 dX6_save_13 dX6_save_16 dX6_save_19 (by decide) (Nat.le_of_ble_eq_true rfl) (Nat.le_of_ble_eq_true rfl) (Nat.le_of_ble_eq_true rfl) (Nat.le_of_ble_eq_true rfl) (Nat.le_of_ble_eq_true rfl)
  · replace h := iq c1 h
    refine lv_iload_n hx hb dX6_save_4 rfl (lv_at hl 1 rfl) ?_
    refine lv_iconst (v := (2 : Int32)) hx hb dX6_save_5 (by decide) ?_
    refine lv_icmp_lt (tgt := 20) hx hb dX6_save_6 (by decide) (fun (c2 : p1 < (2 : Int32)) => ?_) (fun (c2 : ¬ p1 < (2 : Int32)) => ?_)
    · replace h := ip c2 h
      refine lv_aload_n hx hb dX6_save_20 rfl (lv_at hl 0 rfl) ?_
      refine va_get (D := D) (ci := 6) (v := .ref a_p0_slots) (C := RX6) (T := TX6) (N := 6) hx hb hts inX6_save_X6 hown hK hP 0 rfl rfl 5 (by decide) k3 (fun _ h9 => h9) rfl dX6_save_21 ?_
      refine lv_iload_n hx hb dX6_save_24 rfl (lv_at hl 1 rfl) ?_
      refine lv_aload_n hx hb dX6_save_25 rfl (lv_at hl 0 rfl) ?_
      refine va_get (D := D) (ci := 6) (v := .ref a_p0_state) (C := RX6) (T := TX6) (N := 6) hx hb hts inX6_save_X6 hown hK hP 0 rfl rfl 0 (by decide) k4 (fun _ h9 => h9) rfl dX6_save_26 ?_
      cases h
    · replace h := iq c2 h
      cases h
      exact xvthrowW F hst hex hX hsz hAe hK hP hD hS hl (fun w hw => hts w (List.mem_cons_of_mem _ (List.mem_append_right _ hw))) xAt_good.2.2 xAt_bad.2.2 xFit.2.2 (text := "there is no such save slot") (by decide +kernel) k1 k2 (fun _ => 0) rfl rfl dX6_save_9 dX6_save_12 dX6_save_13 dX6_save_16 dX6_save_19 (by decide) (Nat.le_of_ble_eq_true rfl) (Nat.le_of_ble_eq_true rfl) (Nat.le_of_ble_eq_true rfl) (Nat.le_of_ble_eq_true rfl) (Nat.le_of_ble_eq_true rfl)
