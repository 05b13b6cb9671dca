theorem inX7_sample_X7 : ∀ w ∈ wsX70, w ∈ wsX7_sample := by decide +kernel
set_option maxHeartbeats 4000000 in
set_option maxRecDepth 100000 in
theorem kX7_sample (l : Launch) (D : va_G) (cc : Nat → ClassId) (a_p0 : Nat) (a_p0_text : Nat) (a_p0_now : Nat) (a_p0_trial : Nat) (a_p0_diary : Nat) (a_p0_kept : Nat) (a_p0_isKept : Nat) (a_p0_drawn : Nat) (a_p0_one : Nat) (a_p0_two : Nat) (a_p0_costs : Nat) (v_p0_refusal : Int32) (v_p0_size : Int32) (v_p0_acts : Int32) (v_p0_nearestOne : Int32) (v_p0_nearestBy : Int32) (v_p0_how : Int32) (v_p0_spot : Int32) (v_p0_closestTwo : Int32) (v_p0_closestBy : Int32) (c_p0_now : Nat → Int32) (c_p0_one : Nat → Int32) (p1 : Int32) (p2 : Int32) (r0 : Int32) (v_p0_refusal_o : Int32) (c_p0_one_o : Nat → Int32) (h : fX7_sample p1 p2 c_p0_now c_p0_one = some (r0, v_p0_refusal_o, c_p0_one_o)) : xMi l yX7_sample wsX7_sample ({ frames := 3, cells := 0, slots := 0, locals := 82 } : Room) D cc [.ref a_p0, .int p1, .int p2] [(a_p0, .inr (7, [.int v_p0_refusal, .ref a_p0_text, .int v_p0_size, .ref a_p0_now, .ref a_p0_trial, .ref a_p0_diary, .int v_p0_acts, .ref a_p0_kept, .ref a_p0_isKept, .ref a_p0_drawn, .ref a_p0_one, .ref a_p0_two, .ref a_p0_costs, .int v_p0_nearestOne, .int v_p0_nearestBy, .int v_p0_how, .int v_p0_spot, .int v_p0_closestTwo, .int v_p0_closestBy])), (a_p0_now, .inl (cc 0, 1343, .inl c_p0_now)), (a_p0_one, .inl (cc 0, 41, .inl c_p0_one))] r0 (fun _ => [(a_p0, .inr (7, [.int v_p0_refusal_o, .ref a_p0_text, .int v_p0_size, .ref a_p0_now, .ref a_p0_trial, .ref a_p0_diary, .int v_p0_acts, .ref a_p0_kept, .ref a_p0_isKept, .ref a_p0_drawn, .ref a_p0_one, .ref a_p0_two, .ref a_p0_costs, .int v_p0_nearestOne, .int v_p0_nearestBy, .int v_p0_how, .int v_p0_spot, .int v_p0_closestTwo, .int v_p0_closestBy])), (a_p0_now, .inl (cc 0, 1343, .inl c_p0_now)), (a_p0_one, .inl (cc 0, 41, .inl c_p0_one_o))]) 0 0 := by
  intro sz
  refine xstart (bc := cX7_sample) (maxL := 3) (ret := (some .int)) (by decide) rfl (Nat.le_of_ble_eq_true rfl) ?_
  intro p e s m args below meth c A hargs hsz hAe F hK hN hA hmn hP hD hS ls hl
  have hx := F.1.1
  have hb := F.1.2.1
  have hml := F.1.2.2.1
  have hown := F.1.2.2.2.1
  have hts := F.1.2.2.2.2
  have hl : lv_has ls 3 [(0, .ref a_p0), (1, .int p1), (2, .int p2)] := hl
  have k1 := hts (.fieldLink RX7 13 "RuledStrokesModel" "now" "[I") (by decide +kernel)
  have k2 := hts (.constantLong RX7 144 (3 : Int64)) (by decide +kernel)
  have k3 := hts (.fieldLink RX7 32 "RuledStrokesModel" "one" "[I") (by decide +kernel)
  unfold fX7_sample at h
  refine lv_aload_n hx hb dX7_sample_0 rfl (lv_at hl 0 rfl) ?_
  refine lv_aload_n hx hb dX7_sample_1 rfl (lv_at hl 0 rfl) ?_
  refine va_get (D := D) (ci := 7) (v := .ref a_p0_now) (C := RX7) (T := TX7) (N := 19) hx hb hts inX7_sample_X7 hown hK hP 0 rfl rfl 3 (by decide) k1 (fun _ h9 => h9) rfl dX7_sample_2 ?_
  refine lv_iload_n hx hb dX7_sample_5 rfl (lv_at hl 1 rfl) ?_
  obtain ⟨r_1, hc1, h⟩ := b1_some h
  refine xcalli (wr := [(a_p0, .inr (7, [.int v_p0_refusal, .ref a_p0_text, .int v_p0_size, .ref a_p0_now, .ref a_p0_trial, .ref a_p0_diary, .int v_p0_acts, .ref a_p0_kept, .ref a_p0_isKept, .ref a_p0_drawn, .ref a_p0_one, .ref a_p0_two, .ref a_p0_costs, .int v_p0_nearestOne, .int v_p0_nearestBy, .int v_p0_how, .int v_p0_spot, .int v_p0_closestTwo, .int v_p0_closestBy])), (a_p0_one, .inl (cc 0, 41, .inl c_p0_one))]) [1] [0, 2] (xrunS (As := [.ref a_p0_now, .int p1]) (rest := [.ref a_p0]) F ((kX7_isSample l D cc (a_p0 := a_p0_now) (n_p0 := 1343) (c_p0 := c_p0_now) (p1 := p1) (r0 := r_1) (h := hc1)) _) (cwS 2 hts gX7_sample_X7_isSample rfl rfl rfl (by decide +kernel) ⟨Nat.le_of_ble_eq_true rfl, Nat.le_of_ble_eq_true rfl⟩) hK hN hP hD [1] rfl (by decide) rfl hl rfl (Nat.le_of_ble_eq_true rfl) dX7_sample_6 ⟨Nat.zero_le _, Nat.zero_le _⟩) hP hD hS hA rfl rfl (by decide) (by decide) (fun _ H locs hP hD hS => ?_)
  have hP : va_P D vwCl [(a_p0, .inr (7, [.int v_p0_refusal, .ref a_p0_text, .int v_p0_size, .ref a_p0_now, .ref a_p0_trial, .ref a_p0_diary, .int v_p0_acts, .ref a_p0_kept, .ref a_p0_isKept, .ref a_p0_drawn, .ref a_p0_one, .ref a_p0_two, .ref a_p0_costs, .int v_p0_nearestOne, .int v_p0_nearestBy, .int v_p0_how, .int v_p0_spot, .int v_p0_closestTwo, .int v_p0_closestBy])), (a_p0_one, .inl (cc 0, 41, .inl c_p0_one)), (a_p0_now, .inl (cc 0, 1343, .inl c_p0_now))] H := hP
  have hD : va_D A [(a_p0, .inr (7, [.int v_p0_refusal, .ref a_p0_text, .int v_p0_size, .ref a_p0_now, .ref a_p0_trial, .ref a_p0_diary, .int v_p0_acts, .ref a_p0_kept, .ref a_p0_isKept, .ref a_p0_drawn, .ref a_p0_one, .ref a_p0_two, .ref a_p0_costs, .int v_p0_nearestOne, .int v_p0_nearestBy, .int v_p0_how, .int v_p0_spot, .int v_p0_closestTwo, .int v_p0_closestBy])), (a_p0_one, .inl (cc 0, 41, .inl c_p0_one)), (a_p0_now, .inl (cc 0, 1343, .inl c_p0_now))] := hD
  refine lv_if_ne (tgt := 16) hx hb dX7_sample_9 (by decide) (fun (c3 : ¬ r_1 = 0) => ?_) (fun (c3 : r_1 = 0) => ?_)
  · replace h := iq c3 h
    refine lv_iload_n hx hb dX7_sample_16 rfl (lv_at hl 2 rfl) ?_
    refine lv_i2l (v := p2.toInt64) hx hb dX7_sample_17 (by first | rfl | decide) ?_
    refine lv_lconst (v := (0 : Int64)) hx hb dX7_sample_18 (by decide) ?_
    refine lv_ldc2 (v := (3 : Int64)) hx hb hown k2 dX7_sample_19 ?_
    refine xcalli (wr := [(a_p0, .inr (7, [.int v_p0_refusal, .ref a_p0_text, .int v_p0_size, .ref a_p0_now, .ref a_p0_trial, .ref a_p0_diary, .int v_p0_acts, .ref a_p0_kept, .ref a_p0_isKept, .ref a_p0_drawn, .ref a_p0_one, .ref a_p0_two, .ref a_p0_costs, .int v_p0_nearestOne, .int v_p0_nearestBy, .int v_p0_how, .int v_p0_spot, .int v_p0_closestTwo, .int v_p0_closestBy])), (a_p0_one, .inl (cc 0, 41, .inl c_p0_one)), (a_p0_now, .inl (cc 0, 1343, .inl c_p0_now))]) [] [0, 1, 2] (xrunS (As := [.long p2.toInt64, .long (0 : Int64), .long (3 : Int64)]) (rest := [.ref a_p0]) F ((kX7_in l D cc (p0 := p2.toInt64) (p2 := (0 : Int64)) (p4 := (3 : Int64)) (r0 := (fX7_in p2.toInt64 (0 : Int64) (3 : Int64))) (h := rfl)) _) (cwS 3 hts gX7_sample_X7_in rfl rfl rfl (by decide +kernel) ⟨Nat.le_of_ble_eq_true rfl, Nat.le_of_ble_eq_true rfl⟩) hK hN hP hD [] rfl (by decide) rfl hl rfl (Nat.le_of_ble_eq_true rfl) dX7_sample_22 ⟨Nat.zero_le _, Nat.zero_le _⟩) hP hD hS hA rfl rfl (by decide) (by decide) (fun _ H locs hP hD hS => ?_)
    have hP : va_P D vwCl [(a_p0, .inr (7, [.int v_p0_refusal, .ref a_p0_text, .int v_p0_size, .ref a_p0_now, .ref a_p0_trial, .ref a_p0_diary, .int v_p0_acts, .ref a_p0_kept, .ref a_p0_isKept, .ref a_p0_drawn, .ref a_p0_one, .ref a_p0_two, .ref a_p0_costs, .int v_p0_nearestOne, .int v_p0_nearestBy, .int v_p0_how, .int v_p0_spot, .int v_p0_closestTwo, .int v_p0_closestBy])), (a_p0_one, .inl (cc 0, 41, .inl c_p0_one)), (a_p0_now, .inl (cc 0, 1343, .inl c_p0_now))] H := hP
    have hD : va_D A [(a_p0, .inr (7, [.int v_p0_refusal, .ref a_p0_text, .int v_p0_size, .ref a_p0_now, .ref a_p0_trial, .ref a_p0_diary, .int v_p0_acts, .ref a_p0_kept, .ref a_p0_isKept, .ref a_p0_drawn, .ref a_p0_one, .ref a_p0_two, .ref a_p0_costs, .int v_p0_nearestOne, .int v_p0_nearestBy, .int v_p0_how, .int v_p0_spot, .int v_p0_closestTwo, .int v_p0_closestBy])), (a_p0_one, .inl (cc 0, 41, .inl c_p0_one)), (a_p0_now, .inl (cc 0, 1343, .inl c_p0_now))] := hD
    refine lv_if_eq (tgt := 32) hx hb dX7_sample_25 (by decide) (fun (c5 : (fX7_in p2.toInt64 (0 : Int64) (3 : Int64)) = 0) => ?_) (fun (c5 : ¬ (fX7_in p2.toInt64 (0 : Int64) (3 : Int64)) = 0) => ?_)
    · replace h := ip c5 h
      refine lv_iconst (v := (2 : Int32)) hx hb dX7_sample_32 (by decide) ?_
      refine xcalli (wr := [(a_p0_one, .inl (cc 0, 41, .inl c_p0_one)), (a_p0_now, .inl (cc 0, 1343, .inl c_p0_now))]) [0] [1, 2] (xrunV (As := [.int (2 : Int32)]) (rest := []) F ((kX7_refused l D cc (a_p0 := a_p0) (a_p0_text := a_p0_text) (a_p0_now := a_p0_now) (a_p0_trial := a_p0_trial) (a_p0_diary := a_p0_diary) (a_p0_kept := a_p0_kept) (a_p0_isKept := a_p0_isKept) (a_p0_drawn := a_p0_drawn) (a_p0_one := a_p0_one) (a_p0_two := a_p0_two) (a_p0_costs := a_p0_costs) (v_p0_refusal := v_p0_refusal) (v_p0_size := v_p0_size) (v_p0_acts := v_p0_acts) (v_p0_nearestOne := v_p0_nearestOne) (v_p0_nearestBy := v_p0_nearestBy) (v_p0_how := v_p0_how) (v_p0_spot := v_p0_spot) (v_p0_closestTwo := v_p0_closestTwo) (v_p0_closestBy := v_p0_closestBy) (p1 := (2 : Int32)) (r0 := (fX7_refused (2 : Int32)).1) (v_p0_refusal_o := (fX7_refused (2 : Int32)).2) (h := rfl)) _) (cwV 1 hts gX7_sample_X7_refused rfl rfl rfl (by decide +kernel) ⟨Nat.le_of_ble_eq_true rfl, Nat.le_of_ble_eq_true rfl⟩) hK hN hP hD [0] rfl (by decide) (q0 := 0) rfl rfl rfl rfl hl rfl (Nat.le_of_ble_eq_true rfl) dX7_sample_33 ⟨Nat.zero_le _, Nat.zero_le _⟩) hP hD hS hA rfl rfl (by decide) (by decide) (fun _ H locs hP hD hS => ?_)
      have hP : va_P D vwCl [(a_p0_one, .inl (cc 0, 41, .inl c_p0_one)), (a_p0_now, .inl (cc 0, 1343, .inl c_p0_now)), (a_p0, .inr (7, [.int ((fX7_refused (2 : Int32)).2), .ref a_p0_text, .int v_p0_size, .ref a_p0_now, .ref a_p0_trial, .ref a_p0_diary, .int v_p0_acts, .ref a_p0_kept, .ref a_p0_isKept, .ref a_p0_drawn, .ref a_p0_one, .ref a_p0_two, .ref a_p0_costs, .int v_p0_nearestOne, .int v_p0_nearestBy, .int v_p0_how, .int v_p0_spot, .int v_p0_closestTwo, .int v_p0_closestBy]))] H := hP
      have hD : va_D A [(a_p0_one, .inl (cc 0, 41, .inl c_p0_one)), (a_p0_now, .inl (cc 0, 1343, .inl c_p0_now)), (a_p0, .inr (7, [.int ((fX7_refused (2 : Int32)).2), .ref a_p0_text, .int v_p0_size, .ref a_p0_now, .ref a_p0_trial, .ref a_p0_diary, .int v_p0_acts, .ref a_p0_kept, .ref a_p0_isKept, .ref a_p0_drawn, .ref a_p0_one, .ref a_p0_two, .ref a_p0_costs, .int v_p0_nearestOne, .int v_p0_nearestBy, .int v_p0_how, .int v_p0_spot, .int v_p0_closestTwo, .int v_p0_closestBy]))] := hD
      refine lv_if_eq (tgt := 41) hx hb dX7_sample_36 (by decide) (fun (c7 : ((fX7_refused (2 : Int32)).1) = 0) => ?_) (fun (c7 : ¬ ((fX7_refused (2 : Int32)).1) = 0) => ?_)
      · replace h := ip c7 h
        refine lv_iload_n hx hb dX7_sample_41 rfl (lv_at hl 2 rfl) ?_
        refine lv_if_ne (tgt := 56) hx hb dX7_sample_42 (by decide) (fun (c8 : ¬ p2 = 0) => ?_) (fun (c8 : p2 = 0) => ?_)
        · replace h := iq c8 h
          refine lv_iload_n hx hb dX7_sample_56 rfl (lv_at hl 2 rfl) ?_
          refine lv_iconst (v := (1 : Int32)) hx hb dX7_sample_57 (by decide) ?_
          refine lv_icmp_ne (tgt := 73) hx hb dX7_sample_58 (by decide) (fun (c9 : ¬ p2 = (1 : Int32)) => ?_) (fun (c9 : p2 = (1 : Int32)) => ?_)
          · replace h := iq c9 h
            refine lv_iload_n hx hb dX7_sample_73 rfl (lv_at hl 2 rfl) ?_
            refine lv_iconst (v := (2 : Int32)) hx hb dX7_sample_74 (by decide) ?_
            refine lv_icmp_ne (tgt := 92) hx hb dX7_sample_75 (by decide) (fun (c10 : ¬ p2 = (2 : Int32)) => ?_) (fun (c10 : p2 = (2 : Int32)) => ?_)
            · replace h := iq c10 h
              refine lv_aload_n hx hb dX7_sample_92 rfl (lv_at hl 0 rfl) ?_
              refine va_get (D := D) (ci := 7) (v := .ref a_p0_now) (C := RX7) (T := TX7) (N := 19) hx hb hts inX7_sample_X7 hown hK hP 2 rfl rfl 3 (by decide) k1 (fun _ h9 => h9) rfl dX7_sample_93 ?_
              refine lv_iload_n hx hb dX7_sample_96 rfl (lv_at hl 1 rfl) ?_
              refine xcalli (wr := [(a_p0_one, .inl (cc 0, 41, .inl c_p0_one)), (a_p0_now, .inl (cc 0, 1343, .inl c_p0_now)), (a_p0, .inr (7, [.int ((fX7_refused (2 : Int32)).2), .ref a_p0_text, .int v_p0_size, .ref a_p0_now, .ref a_p0_trial, .ref a_p0_diary, .int v_p0_acts, .ref a_p0_kept, .ref a_p0_isKept, .ref a_p0_drawn, .ref a_p0_one, .ref a_p0_two, .ref a_p0_costs, .int v_p0_nearestOne, .int v_p0_nearestBy, .int v_p0_how, .int v_p0_spot, .int v_p0_closestTwo, .int v_p0_closestBy]))]) [] [0, 1, 2] (xrunS (As := [.int p1]) (rest := [.ref a_p0_now]) F ((kX7_at l D cc (p0 := p1) (r0 := (fX7_at p1)) (h := rfl)) _) (cwS 1 hts gX7_sample_X7_at rfl rfl rfl (by decide +kernel) ⟨Nat.le_of_ble_eq_true rfl, Nat.le_of_ble_eq_true rfl⟩) hK hN hP hD [] rfl (by decide) rfl hl rfl (Nat.le_of_ble_eq_true rfl) dX7_sample_97 ⟨Nat.zero_le _, Nat.zero_le _⟩) hP hD hS hA rfl rfl (by decide) (by decide) (fun _ H locs hP hD hS => ?_)
              have hP : va_P D vwCl [(a_p0_one, .inl (cc 0, 41, .inl c_p0_one)), (a_p0_now, .inl (cc 0, 1343, .inl c_p0_now)), (a_p0, .inr (7, [.int ((fX7_refused (2 : Int32)).2), .ref a_p0_text, .int v_p0_size, .ref a_p0_now, .ref a_p0_trial, .ref a_p0_diary, .int v_p0_acts, .ref a_p0_kept, .ref a_p0_isKept, .ref a_p0_drawn, .ref a_p0_one, .ref a_p0_two, .ref a_p0_costs, .int v_p0_nearestOne, .int v_p0_nearestBy, .int v_p0_how, .int v_p0_spot, .int v_p0_closestTwo, .int v_p0_closestBy]))] H := hP
              have hD : va_D A [(a_p0_one, .inl (cc 0, 41, .inl c_p0_one)), (a_p0_now, .inl (cc 0, 1343, .inl c_p0_now)), (a_p0, .inr (7, [.int ((fX7_refused (2 : Int32)).2), .ref a_p0_text, .int v_p0_size, .ref a_p0_now, .ref a_p0_trial, .ref a_p0_diary, .int v_p0_acts, .ref a_p0_kept, .ref a_p0_isKept, .ref a_p0_drawn, .ref a_p0_one, .ref a_p0_two, .ref a_p0_costs, .int v_p0_nearestOne, .int v_p0_nearestBy, .int v_p0_how, .int v_p0_spot, .int v_p0_closestTwo, .int v_p0_closestBy]))] := hD
              refine lv_aload_n hx hb dX7_sample_100 rfl (lv_at hl 0 rfl) ?_
              refine va_get (D := D) (ci := 7) (v := .ref a_p0_now) (C := RX7) (T := TX7) (N := 19) hx hb hts inX7_sample_X7 hown hK hP 2 rfl rfl 3 (by decide) k1 (fun _ h9 => h9) rfl dX7_sample_101 ?_
              refine lv_bipush (v := (77 : Int32)) hx hb dX7_sample_104 (by decide) ?_
              obtain ⟨g12, h⟩ := gd h
              refine va_iald hx hb hK hP 1 0 rfl rfl g12 dX7_sample_106 ?_
              refine lv_aload_n hx hb dX7_sample_107 rfl (lv_at hl 0 rfl) ?_
              refine va_get (D := D) (ci := 7) (v := .ref a_p0_one) (C := RX7) (T := TX7) (N := 19) hx hb hts inX7_sample_X7 hown hK hP 2 rfl rfl 10 (by decide) k3 (fun _ h9 => h9) rfl dX7_sample_108 ?_
              obtain ⟨r_13, c_p0_one_13, hc13, h⟩ := b2_some h
              refine xcalli (wr := [(a_p0, .inr (7, [.int ((fX7_refused (2 : Int32)).2), .ref a_p0_text, .int v_p0_size, .ref a_p0_now, .ref a_p0_trial, .ref a_p0_diary, .int v_p0_acts, .ref a_p0_kept, .ref a_p0_isKept, .ref a_p0_drawn, .ref a_p0_one, .ref a_p0_two, .ref a_p0_costs, .int v_p0_nearestOne, .int v_p0_nearestBy, .int v_p0_how, .int v_p0_spot, .int v_p0_closestTwo, .int v_p0_closestBy]))]) [1, 0] [2] (xrunS (As := [.ref a_p0_now, .int (fX7_at p1), .int (c_p0_now (77 : Int32).toNatClampNeg), .ref a_p0_one]) (rest := []) F ((kX7_signature l D cc (a_p0 := a_p0_now) (a_p3 := a_p0_one) (n_p0 := 1343) (n_p3 := 41) (c_p0 := c_p0_now) (c_p3 := c_p0_one) (p1 := (fX7_at p1)) (p2 := c_p0_now (77 : Int32).toNatClampNeg) (r0 := r_13) (c_p3_o := c_p0_one_13) (h := hc13)) _) (cwS 4 hts gX7_sample_X7_signature rfl rfl rfl (by decide +kernel) ⟨Nat.le_of_ble_eq_true rfl, Nat.le_of_ble_eq_true rfl⟩) hK hN hP hD [1, 0] rfl (by decide) rfl hl rfl (Nat.le_of_ble_eq_true rfl) dX7_sample_111 ⟨Nat.zero_le _, Nat.zero_le _⟩) hP hD hS hA rfl rfl (by decide) (by decide) (fun _ H locs hP hD hS => ?_)
              have hP : va_P D vwCl [(a_p0, .inr (7, [.int ((fX7_refused (2 : Int32)).2), .ref a_p0_text, .int v_p0_size, .ref a_p0_now, .ref a_p0_trial, .ref a_p0_diary, .int v_p0_acts, .ref a_p0_kept, .ref a_p0_isKept, .ref a_p0_drawn, .ref a_p0_one, .ref a_p0_two, .ref a_p0_costs, .int v_p0_nearestOne, .int v_p0_nearestBy, .int v_p0_how, .int v_p0_spot, .int v_p0_closestTwo, .int v_p0_closestBy])), (a_p0_now, .inl (cc 0, 1343, .inl c_p0_now)), (a_p0_one, .inl (cc 0, 41, .inl c_p0_one_13))] H := hP
              have hD : va_D A [(a_p0, .inr (7, [.int ((fX7_refused (2 : Int32)).2), .ref a_p0_text, .int v_p0_size, .ref a_p0_now, .ref a_p0_trial, .ref a_p0_diary, .int v_p0_acts, .ref a_p0_kept, .ref a_p0_isKept, .ref a_p0_drawn, .ref a_p0_one, .ref a_p0_two, .ref a_p0_costs, .int v_p0_nearestOne, .int v_p0_nearestBy, .int v_p0_how, .int v_p0_spot, .int v_p0_closestTwo, .int v_p0_closestBy])), (a_p0_now, .inl (cc 0, 1343, .inl c_p0_now)), (a_p0_one, .inl (cc 0, 41, .inl c_p0_one_13))] := hD
              cases h
              exact xendi (ret := none) F hsz hAe hK hP hD hS (fun _ => 0) rfl rfl (Nat.zero_le _) (Nat.zero_le _) dX7_sample_114
            · replace h := ip c10 h
              refine lv_aload_n hx hb dX7_sample_78 rfl (lv_at hl 0 rfl) ?_
              refine va_get (D := D) (ci := 7) (v := .ref a_p0_now) (C := RX7) (T := TX7) (N := 19) hx hb hts inX7_sample_X7 hown hK hP 2 rfl rfl 3 (by decide) k1 (fun _ h9 => h9) rfl dX7_sample_79 ?_
              refine lv_iload_n hx hb dX7_sample_82 rfl (lv_at hl 1 rfl) ?_
              refine xcalli (wr := [(a_p0_one, .inl (cc 0, 41, .inl c_p0_one)), (a_p0_now, .inl (cc 0, 1343, .inl c_p0_now)), (a_p0, .inr (7, [.int ((fX7_refused (2 : Int32)).2), .ref a_p0_text, .int v_p0_size, .ref a_p0_now, .ref a_p0_trial, .ref a_p0_diary, .int v_p0_acts, .ref a_p0_kept, .ref a_p0_isKept, .ref a_p0_drawn, .ref a_p0_one, .ref a_p0_two, .ref a_p0_costs, .int v_p0_nearestOne, .int v_p0_nearestBy, .int v_p0_how, .int v_p0_spot, .int v_p0_closestTwo, .int v_p0_closestBy]))]) [] [0, 1, 2] (xrunS (As := [.int p1]) (rest := [.ref a_p0_now]) F ((kX7_at l D cc (p0 := p1) (r0 := (fX7_at p1)) (h := rfl)) _) (cwS 1 hts gX7_sample_X7_at rfl rfl rfl (by decide +kernel) ⟨Nat.le_of_ble_eq_true rfl, Nat.le_of_ble_eq_true rfl⟩) hK hN hP hD [] rfl (by decide) rfl hl rfl (Nat.le_of_ble_eq_true rfl) dX7_sample_83 ⟨Nat.zero_le _, Nat.zero_le _⟩) hP hD hS hA rfl rfl (by decide) (by decide) (fun _ H locs hP hD hS => ?_)
              have hP : va_P D vwCl [(a_p0_one, .inl (cc 0, 41, .inl c_p0_one)), (a_p0_now, .inl (cc 0, 1343, .inl c_p0_now)), (a_p0, .inr (7, [.int ((fX7_refused (2 : Int32)).2), .ref a_p0_text, .int v_p0_size, .ref a_p0_now, .ref a_p0_trial, .ref a_p0_diary, .int v_p0_acts, .ref a_p0_kept, .ref a_p0_isKept, .ref a_p0_drawn, .ref a_p0_one, .ref a_p0_two, .ref a_p0_costs, .int v_p0_nearestOne, .int v_p0_nearestBy, .int v_p0_how, .int v_p0_spot, .int v_p0_closestTwo, .int v_p0_closestBy]))] H := hP
              have hD : va_D A [(a_p0_one, .inl (cc 0, 41, .inl c_p0_one)), (a_p0_now, .inl (cc 0, 1343, .inl c_p0_now)), (a_p0, .inr (7, [.int ((fX7_refused (2 : Int32)).2), .ref a_p0_text, .int v_p0_size, .ref a_p0_now, .ref a_p0_trial, .ref a_p0_diary, .int v_p0_acts, .ref a_p0_kept, .ref a_p0_isKept, .ref a_p0_drawn, .ref a_p0_one, .ref a_p0_two, .ref a_p0_costs, .int v_p0_nearestOne, .int v_p0_nearestBy, .int v_p0_how, .int v_p0_spot, .int v_p0_closestTwo, .int v_p0_closestBy]))] := hD
              obtain ⟨r_16, hc16, h⟩ := b1_some h
              refine xcalli (wr := [(a_p0_one, .inl (cc 0, 41, .inl c_p0_one)), (a_p0, .inr (7, [.int ((fX7_refused (2 : Int32)).2), .ref a_p0_text, .int v_p0_size, .ref a_p0_now, .ref a_p0_trial, .ref a_p0_diary, .int v_p0_acts, .ref a_p0_kept, .ref a_p0_isKept, .ref a_p0_drawn, .ref a_p0_one, .ref a_p0_two, .ref a_p0_costs, .int v_p0_nearestOne, .int v_p0_nearestBy, .int v_p0_how, .int v_p0_spot, .int v_p0_closestTwo, .int v_p0_closestBy]))]) [1] [0, 2] (xrunS (As := [.ref a_p0_now, .int (fX7_at p1)]) (rest := []) F ((kX7_pointsOf l D cc (a_p0 := a_p0_now) (n_p0 := 1343) (c_p0 := c_p0_now) (p1 := (fX7_at p1)) (r0 := r_16) (h := hc16)) _) (cwS 2 hts gX7_sample_X7_pointsOf rfl rfl rfl (by decide +kernel) ⟨Nat.le_of_ble_eq_true rfl, Nat.le_of_ble_eq_true rfl⟩) hK hN hP hD [1] rfl (by decide) rfl hl rfl (Nat.le_of_ble_eq_true rfl) dX7_sample_86 ⟨Nat.zero_le _, Nat.zero_le _⟩) hP hD hS hA rfl rfl (by decide) (by decide) (fun _ H locs hP hD hS => ?_)
              have hP : va_P D vwCl [(a_p0_one, .inl (cc 0, 41, .inl c_p0_one)), (a_p0, .inr (7, [.int ((fX7_refused (2 : Int32)).2), .ref a_p0_text, .int v_p0_size, .ref a_p0_now, .ref a_p0_trial, .ref a_p0_diary, .int v_p0_acts, .ref a_p0_kept, .ref a_p0_isKept, .ref a_p0_drawn, .ref a_p0_one, .ref a_p0_two, .ref a_p0_costs, .int v_p0_nearestOne, .int v_p0_nearestBy, .int v_p0_how, .int v_p0_spot, .int v_p0_closestTwo, .int v_p0_closestBy])), (a_p0_now, .inl (cc 0, 1343, .inl c_p0_now))] H := hP
              have hD : va_D A [(a_p0_one, .inl (cc 0, 41, .inl c_p0_one)), (a_p0, .inr (7, [.int ((fX7_refused (2 : Int32)).2), .ref a_p0_text, .int v_p0_size, .ref a_p0_now, .ref a_p0_trial, .ref a_p0_diary, .int v_p0_acts, .ref a_p0_kept, .ref a_p0_isKept, .ref a_p0_drawn, .ref a_p0_one, .ref a_p0_two, .ref a_p0_costs, .int v_p0_nearestOne, .int v_p0_nearestBy, .int v_p0_how, .int v_p0_spot, .int v_p0_closestTwo, .int v_p0_closestBy])), (a_p0_now, .inl (cc 0, 1343, .inl c_p0_now))] := hD
              refine lv_goto (tgt := 114) hx hb dX7_sample_89 (by decide) ?_
              have hP := hP.sub (ws' := [(a_p0, .inr (7, [.int ((fX7_refused (2 : Int32)).2), .ref a_p0_text, .int v_p0_size, .ref a_p0_now, .ref a_p0_trial, .ref a_p0_diary, .int v_p0_acts, .ref a_p0_kept, .ref a_p0_isKept, .ref a_p0_drawn, .ref a_p0_one, .ref a_p0_two, .ref a_p0_costs, .int v_p0_nearestOne, .int v_p0_nearestBy, .int v_p0_how, .int v_p0_spot, .int v_p0_closestTwo, .int v_p0_closestBy])), (a_p0_now, .inl (cc 0, 1343, .inl c_p0_now)), (a_p0_one, .inl (cc 0, 41, .inl c_p0_one))]) [1, 2, 0] rfl
              have hD := hD.sub (ws' := [(a_p0, .inr (7, [.int ((fX7_refused (2 : Int32)).2), .ref a_p0_text, .int v_p0_size, .ref a_p0_now, .ref a_p0_trial, .ref a_p0_diary, .int v_p0_acts, .ref a_p0_kept, .ref a_p0_isKept, .ref a_p0_drawn, .ref a_p0_one, .ref a_p0_two, .ref a_p0_costs, .int v_p0_nearestOne, .int v_p0_nearestBy, .int v_p0_how, .int v_p0_spot, .int v_p0_closestTwo, .int v_p0_closestBy])), (a_p0_now, .inl (cc 0, 1343, .inl c_p0_now)), (a_p0_one, .inl (cc 0, 41, .inl c_p0_one))]) [1, 2, 0] (by decide) rfl
              cases h
              exact xendi (ret := none) F hsz hAe hK hP hD hS (fun _ => 0) rfl rfl (Nat.zero_le _) (Nat.zero_le _) dX7_sample_114
          · replace h := ip c9 h
            refine lv_aload_n hx hb dX7_sample_61 rfl (lv_at hl 0 rfl) ?_
            refine va_get (D := D) (ci := 7) (v := .ref a_p0_now) (C := RX7) (T := TX7) (N := 19) hx hb hts inX7_sample_X7 hown hK hP 2 rfl rfl 3 (by decide) k1 (fun _ h9 => h9) rfl dX7_sample_62 ?_
            refine lv_iload_n hx hb dX7_sample_65 rfl (lv_at hl 1 rfl) ?_
            refine xcalli (wr := [(a_p0_one, .inl (cc 0, 41, .inl c_p0_one)), (a_p0_now, .inl (cc 0, 1343, .inl c_p0_now)), (a_p0, .inr (7, [.int ((fX7_refused (2 : Int32)).2), .ref a_p0_text, .int v_p0_size, .ref a_p0_now, .ref a_p0_trial, .ref a_p0_diary, .int v_p0_acts, .ref a_p0_kept, .ref a_p0_isKept, .ref a_p0_drawn, .ref a_p0_one, .ref a_p0_two, .ref a_p0_costs, .int v_p0_nearestOne, .int v_p0_nearestBy, .int v_p0_how, .int v_p0_spot, .int v_p0_closestTwo, .int v_p0_closestBy]))]) [] [0, 1, 2] (xrunS (As := [.int p1]) (rest := [.ref a_p0_now]) F ((kX7_at l D cc (p0 := p1) (r0 := (fX7_at p1)) (h := rfl)) _) (cwS 1 hts gX7_sample_X7_at rfl rfl rfl (by decide +kernel) ⟨Nat.le_of_ble_eq_true rfl, Nat.le_of_ble_eq_true rfl⟩) hK hN hP hD [] rfl (by decide) rfl hl rfl (Nat.le_of_ble_eq_true rfl) dX7_sample_66 ⟨Nat.zero_le _, Nat.zero_le _⟩) hP hD hS hA rfl rfl (by decide) (by decide) (fun _ H locs hP hD hS => ?_)
            have hP : va_P D vwCl [(a_p0_one, .inl (cc 0, 41, .inl c_p0_one)), (a_p0_now, .inl (cc 0, 1343, .inl c_p0_now)), (a_p0, .inr (7, [.int ((fX7_refused (2 : Int32)).2), .ref a_p0_text, .int v_p0_size, .ref a_p0_now, .ref a_p0_trial, .ref a_p0_diary, .int v_p0_acts, .ref a_p0_kept, .ref a_p0_isKept, .ref a_p0_drawn, .ref a_p0_one, .ref a_p0_two, .ref a_p0_costs, .int v_p0_nearestOne, .int v_p0_nearestBy, .int v_p0_how, .int v_p0_spot, .int v_p0_closestTwo, .int v_p0_closestBy]))] H := hP
            have hD : va_D A [(a_p0_one, .inl (cc 0, 41, .inl c_p0_one)), (a_p0_now, .inl (cc 0, 1343, .inl c_p0_now)), (a_p0, .inr (7, [.int ((fX7_refused (2 : Int32)).2), .ref a_p0_text, .int v_p0_size, .ref a_p0_now, .ref a_p0_trial, .ref a_p0_diary, .int v_p0_acts, .ref a_p0_kept, .ref a_p0_isKept, .ref a_p0_drawn, .ref a_p0_one, .ref a_p0_two, .ref a_p0_costs, .int v_p0_nearestOne, .int v_p0_nearestBy, .int v_p0_how, .int v_p0_spot, .int v_p0_closestTwo, .int v_p0_closestBy]))] := hD
            obtain ⟨g19, h⟩ := gd h
            refine va_iald hx hb hK hP 1 0 rfl rfl g19 dX7_sample_69 ?_
            refine lv_goto (tgt := 114) hx hb dX7_sample_70 (by decide) ?_
            have hP := hP.sub (ws' := [(a_p0, .inr (7, [.int ((fX7_refused (2 : Int32)).2), .ref a_p0_text, .int v_p0_size, .ref a_p0_now, .ref a_p0_trial, .ref a_p0_diary, .int v_p0_acts, .ref a_p0_kept, .ref a_p0_isKept, .ref a_p0_drawn, .ref a_p0_one, .ref a_p0_two, .ref a_p0_costs, .int v_p0_nearestOne, .int v_p0_nearestBy, .int v_p0_how, .int v_p0_spot, .int v_p0_closestTwo, .int v_p0_closestBy])), (a_p0_now, .inl (cc 0, 1343, .inl c_p0_now)), (a_p0_one, .inl (cc 0, 41, .inl c_p0_one))]) [2, 1, 0] rfl
            have hD := hD.sub (ws' := [(a_p0, .inr (7, [.int ((fX7_refused (2 : Int32)).2), .ref a_p0_text, .int v_p0_size, .ref a_p0_now, .ref a_p0_trial, .ref a_p0_diary, .int v_p0_acts, .ref a_p0_kept, .ref a_p0_isKept, .ref a_p0_drawn, .ref a_p0_one, .ref a_p0_two, .ref a_p0_costs, .int v_p0_nearestOne, .int v_p0_nearestBy, .int v_p0_how, .int v_p0_spot, .int v_p0_closestTwo, .int v_p0_closestBy])), (a_p0_now, .inl (cc 0, 1343, .inl c_p0_now)), (a_p0_one, .inl (cc 0, 41, .inl c_p0_one))]) [2, 1, 0] (by decide) rfl
            cases h
            exact xendi (ret := none) F hsz hAe hK hP hD hS (fun _ => 0) rfl rfl (Nat.zero_le _) (Nat.zero_le _) dX7_sample_114
        · replace h := ip c8 h
          refine lv_aload_n hx hb dX7_sample_45 rfl (lv_at hl 0 rfl) ?_
          refine va_get (D := D) (ci := 7) (v := .ref a_p0_now) (C := RX7) (T := TX7) (N := 19) hx hb hts inX7_sample_X7 hown hK hP 2 rfl rfl 3 (by decide) k1 (fun _ h9 => h9) rfl dX7_sample_46 ?_
          refine lv_iload_n hx hb dX7_sample_49 rfl (lv_at hl 1 rfl) ?_
          obtain ⟨r_20, hc20, h⟩ := b1_some h
          refine xcalli (wr := [(a_p0_one, .inl (cc 0, 41, .inl c_p0_one)), (a_p0, .inr (7, [.int ((fX7_refused (2 : Int32)).2), .ref a_p0_text, .int v_p0_size, .ref a_p0_now, .ref a_p0_trial, .ref a_p0_diary, .int v_p0_acts, .ref a_p0_kept, .ref a_p0_isKept, .ref a_p0_drawn, .ref a_p0_one, .ref a_p0_two, .ref a_p0_costs, .int v_p0_nearestOne, .int v_p0_nearestBy, .int v_p0_how, .int v_p0_spot, .int v_p0_closestTwo, .int v_p0_closestBy]))]) [1] [0, 2] (xrunS (As := [.ref a_p0_now, .int p1]) (rest := []) F ((kX7_nameOf l D cc (a_p0 := a_p0_now) (n_p0 := 1343) (c_p0 := c_p0_now) (p1 := p1) (r0 := r_20) (h := hc20)) _) (cwS 2 hts gX7_sample_X7_nameOf rfl rfl rfl (by decide +kernel) ⟨Nat.le_of_ble_eq_true rfl, Nat.le_of_ble_eq_true rfl⟩) hK hN hP hD [1] rfl (by decide) rfl hl rfl (Nat.le_of_ble_eq_true rfl) dX7_sample_50 ⟨Nat.zero_le _, Nat.zero_le _⟩) hP hD hS hA rfl rfl (by decide) (by decide) (fun _ H locs hP hD hS => ?_)
          have hP : va_P D vwCl [(a_p0_one, .inl (cc 0, 41, .inl c_p0_one)), (a_p0, .inr (7, [.int ((fX7_refused (2 : Int32)).2), .ref a_p0_text, .int v_p0_size, .ref a_p0_now, .ref a_p0_trial, .ref a_p0_diary, .int v_p0_acts, .ref a_p0_kept, .ref a_p0_isKept, .ref a_p0_drawn, .ref a_p0_one, .ref a_p0_two, .ref a_p0_costs, .int v_p0_nearestOne, .int v_p0_nearestBy, .int v_p0_how, .int v_p0_spot, .int v_p0_closestTwo, .int v_p0_closestBy])), (a_p0_now, .inl (cc 0, 1343, .inl c_p0_now))] H := hP
          have hD : va_D A [(a_p0_one, .inl (cc 0, 41, .inl c_p0_one)), (a_p0, .inr (7, [.int ((fX7_refused (2 : Int32)).2), .ref a_p0_text, .int v_p0_size, .ref a_p0_now, .ref a_p0_trial, .ref a_p0_diary, .int v_p0_acts, .ref a_p0_kept, .ref a_p0_isKept, .ref a_p0_drawn, .ref a_p0_one, .ref a_p0_two, .ref a_p0_costs, .int v_p0_nearestOne, .int v_p0_nearestBy, .int v_p0_how, .int v_p0_spot, .int v_p0_closestTwo, .int v_p0_closestBy])), (a_p0_now, .inl (cc 0, 1343, .inl c_p0_now))] := hD
          refine lv_goto (tgt := 114) hx hb dX7_sample_53 (by decide) ?_
          have hP := hP.sub (ws' := [(a_p0, .inr (7, [.int ((fX7_refused (2 : Int32)).2), .ref a_p0_text, .int v_p0_size, .ref a_p0_now, .ref a_p0_trial, .ref a_p0_diary, .int v_p0_acts, .ref a_p0_kept, .ref a_p0_isKept, .ref a_p0_drawn, .ref a_p0_one, .ref a_p0_two, .ref a_p0_costs, .int v_p0_nearestOne, .int v_p0_nearestBy, .int v_p0_how, .int v_p0_spot, .int v_p0_closestTwo, .int v_p0_closestBy])), (a_p0_now, .inl (cc 0, 1343, .inl c_p0_now)), (a_p0_one, .inl (cc 0, 41, .inl c_p0_one))]) [1, 2, 0] rfl
          have hD := hD.sub (ws' := [(a_p0, .inr (7, [.int ((fX7_refused (2 : Int32)).2), .ref a_p0_text, .int v_p0_size, .ref a_p0_now, .ref a_p0_trial, .ref a_p0_diary, .int v_p0_acts, .ref a_p0_kept, .ref a_p0_isKept, .ref a_p0_drawn, .ref a_p0_one, .ref a_p0_two, .ref a_p0_costs, .int v_p0_nearestOne, .int v_p0_nearestBy, .int v_p0_how, .int v_p0_spot, .int v_p0_closestTwo, .int v_p0_closestBy])), (a_p0_now, .inl (cc 0, 1343, .inl c_p0_now)), (a_p0_one, .inl (cc 0, 41, .inl c_p0_one))]) [1, 2, 0] (by decide) rfl
          cases h
          exact xendi (ret := none) F hsz hAe hK hP hD hS (fun _ => 0) rfl rfl (Nat.zero_le _) (Nat.zero_le _) dX7_sample_114
      · replace h := iq c7 h
        refine lv_iconst (v := (0 : Int32)) hx hb dX7_sample_39 (by decide) ?_
        have hP := hP.sub (ws' := [(a_p0, .inr (7, [.int ((fX7_refused (2 : Int32)).2), .ref a_p0_text, .int v_p0_size, .ref a_p0_now, .ref a_p0_trial, .ref a_p0_diary, .int v_p0_acts, .ref a_p0_kept, .ref a_p0_isKept, .ref a_p0_drawn, .ref a_p0_one, .ref a_p0_two, .ref a_p0_costs, .int v_p0_nearestOne, .int v_p0_nearestBy, .int v_p0_how, .int v_p0_spot, .int v_p0_closestTwo, .int v_p0_closestBy])), (a_p0_now, .inl (cc 0, 1343, .inl c_p0_now)), (a_p0_one, .inl (cc 0, 41, .inl c_p0_one))]) [2, 1, 0] rfl
        have hD := hD.sub (ws' := [(a_p0, .inr (7, [.int ((fX7_refused (2 : Int32)).2), .ref a_p0_text, .int v_p0_size, .ref a_p0_now, .ref a_p0_trial, .ref a_p0_diary, .int v_p0_acts, .ref a_p0_kept, .ref a_p0_isKept, .ref a_p0_drawn, .ref a_p0_one, .ref a_p0_two, .ref a_p0_costs, .int v_p0_nearestOne, .int v_p0_nearestBy, .int v_p0_how, .int v_p0_spot, .int v_p0_closestTwo, .int v_p0_closestBy])), (a_p0_now, .inl (cc 0, 1343, .inl c_p0_now)), (a_p0_one, .inl (cc 0, 41, .inl c_p0_one))]) [2, 1, 0] (by decide) rfl
        cases h
        exact xendi (ret := none) F hsz hAe hK hP hD hS (fun _ => 0) rfl rfl (Nat.zero_le _) (Nat.zero_le _) dX7_sample_40
    · replace h := iq c5 h
      refine lv_iconst (v := (0 : Int32)) hx hb dX7_sample_28 (by decide) ?_
      refine lv_goto (tgt := 33) hx hb dX7_sample_29 (by decide) ?_
      refine xcalli (wr := [(a_p0_one, .inl (cc 0, 41, .inl c_p0_one)), (a_p0_now, .inl (cc 0, 1343, .inl c_p0_now))]) [0] [1, 2] (xrunV (As := [.int (0 : Int32)]) (rest := []) F ((kX7_refused l D cc (a_p0 := a_p0) (a_p0_text := a_p0_text) (a_p0_now := a_p0_now) (a_p0_trial := a_p0_trial) (a_p0_diary := a_p0_diary) (a_p0_kept := a_p0_kept) (a_p0_isKept := a_p0_isKept) (a_p0_drawn := a_p0_drawn) (a_p0_one := a_p0_one) (a_p0_two := a_p0_two) (a_p0_costs := a_p0_costs) (v_p0_refusal := v_p0_refusal) (v_p0_size := v_p0_size) (v_p0_acts := v_p0_acts) (v_p0_nearestOne := v_p0_nearestOne) (v_p0_nearestBy := v_p0_nearestBy) (v_p0_how := v_p0_how) (v_p0_spot := v_p0_spot) (v_p0_closestTwo := v_p0_closestTwo) (v_p0_closestBy := v_p0_closestBy) (p1 := (0 : Int32)) (r0 := (fX7_refused (0 : Int32)).1) (v_p0_refusal_o := (fX7_refused (0 : Int32)).2) (h := rfl)) _) (cwV 1 hts gX7_sample_X7_refused rfl rfl rfl (by decide +kernel) ⟨Nat.le_of_ble_eq_true rfl, Nat.le_of_ble_eq_true rfl⟩) hK hN hP hD [0] rfl (by decide) (q0 := 0) rfl rfl rfl rfl hl rfl (Nat.le_of_ble_eq_true rfl) dX7_sample_33 ⟨Nat.zero_le _, Nat.zero_le _⟩) hP hD hS hA rfl rfl (by decide) (by decide) (fun _ H locs hP hD hS => ?_)
      have hP : va_P D vwCl [(a_p0_one, .inl (cc 0, 41, .inl c_p0_one)), (a_p0_now, .inl (cc 0, 1343, .inl c_p0_now)), (a_p0, .inr (7, [.int ((fX7_refused (0 : Int32)).2), .ref a_p0_text, .int v_p0_size, .ref a_p0_now, .ref a_p0_trial, .ref a_p0_diary, .int v_p0_acts, .ref a_p0_kept, .ref a_p0_isKept, .ref a_p0_drawn, .ref a_p0_one, .ref a_p0_two, .ref a_p0_costs, .int v_p0_nearestOne, .int v_p0_nearestBy, .int v_p0_how, .int v_p0_spot, .int v_p0_closestTwo, .int v_p0_closestBy]))] H := hP
      have hD : va_D A [(a_p0_one, .inl (cc 0, 41, .inl c_p0_one)), (a_p0_now, .inl (cc 0, 1343, .inl c_p0_now)), (a_p0, .inr (7, [.int ((fX7_refused (0 : Int32)).2), .ref a_p0_text, .int v_p0_size, .ref a_p0_now, .ref a_p0_trial, .ref a_p0_diary, .int v_p0_acts, .ref a_p0_kept, .ref a_p0_isKept, .ref a_p0_drawn, .ref a_p0_one, .ref a_p0_two, .ref a_p0_costs, .int v_p0_nearestOne, .int v_p0_nearestBy, .int v_p0_how, .int v_p0_spot, .int v_p0_closestTwo, .int v_p0_closestBy]))] := hD
      refine lv_if_eq (tgt := 41) hx hb dX7_sample_36 (by decide) (fun (c23 : ((fX7_refused (0 : Int32)).1) = 0) => ?_) (fun (c23 : ¬ ((fX7_refused (0 : Int32)).1) = 0) => ?_)
      · replace h := ip c23 h
        refine lv_iload_n hx hb dX7_sample_41 rfl (lv_at hl 2 rfl) ?_
        refine lv_if_ne (tgt := 56) hx hb dX7_sample_42 (by decide) (fun (c24 : ¬ p2 = 0) => ?_) (fun (c24 : p2 = 0) => ?_)
        · replace h := iq c24 h
          refine lv_iload_n hx hb dX7_sample_56 rfl (lv_at hl 2 rfl) ?_
          refine lv_iconst (v := (1 : Int32)) hx hb dX7_sample_57 (by decide) ?_
          refine lv_icmp_ne (tgt := 73) hx hb dX7_sample_58 (by decide) (fun (c25 : ¬ p2 = (1 : Int32)) => ?_) (fun (c25 : p2 = (1 : Int32)) => ?_)
          · replace h := iq c25 h
            refine lv_iload_n hx hb dX7_sample_73 rfl (lv_at hl 2 rfl) ?_
            refine lv_iconst (v := (2 : Int32)) hx hb dX7_sample_74 (by decide) ?_
            refine lv_icmp_ne (tgt := 92) hx hb dX7_sample_75 (by decide) (fun (c26 : ¬ p2 = (2 : Int32)) => ?_) (fun (c26 : p2 = (2 : Int32)) => ?_)
            · replace h := iq c26 h
              refine lv_aload_n hx hb dX7_sample_92 rfl (lv_at hl 0 rfl) ?_
              refine va_get (D := D) (ci := 7) (v := .ref a_p0_now) (C := RX7) (T := TX7) (N := 19) hx hb hts inX7_sample_X7 hown hK hP 2 rfl rfl 3 (by decide) k1 (fun _ h9 => h9) rfl dX7_sample_93 ?_
              refine lv_iload_n hx hb dX7_sample_96 rfl (lv_at hl 1 rfl) ?_
              refine xcalli (wr := [(a_p0_one, .inl (cc 0, 41, .inl c_p0_one)), (a_p0_now, .inl (cc 0, 1343, .inl c_p0_now)), (a_p0, .inr (7, [.int ((fX7_refused (0 : Int32)).2), .ref a_p0_text, .int v_p0_size, .ref a_p0_now, .ref a_p0_trial, .ref a_p0_diary, .int v_p0_acts, .ref a_p0_kept, .ref a_p0_isKept, .ref a_p0_drawn, .ref a_p0_one, .ref a_p0_two, .ref a_p0_costs, .int v_p0_nearestOne, .int v_p0_nearestBy, .int v_p0_how, .int v_p0_spot, .int v_p0_closestTwo, .int v_p0_closestBy]))]) [] [0, 1, 2] (xrunS (As := [.int p1]) (rest := [.ref a_p0_now]) F ((kX7_at l D cc (p0 := p1) (r0 := (fX7_at p1)) (h := rfl)) _) (cwS 1 hts gX7_sample_X7_at rfl rfl rfl (by decide +kernel) ⟨Nat.le_of_ble_eq_true rfl, Nat.le_of_ble_eq_true rfl⟩) hK hN hP hD [] rfl (by decide) rfl hl rfl (Nat.le_of_ble_eq_true rfl) dX7_sample_97 ⟨Nat.zero_le _, Nat.zero_le _⟩) hP hD hS hA rfl rfl (by decide) (by decide) (fun _ H locs hP hD hS => ?_)
              have hP : va_P D vwCl [(a_p0_one, .inl (cc 0, 41, .inl c_p0_one)), (a_p0_now, .inl (cc 0, 1343, .inl c_p0_now)), (a_p0, .inr (7, [.int ((fX7_refused (0 : Int32)).2), .ref a_p0_text, .int v_p0_size, .ref a_p0_now, .ref a_p0_trial, .ref a_p0_diary, .int v_p0_acts, .ref a_p0_kept, .ref a_p0_isKept, .ref a_p0_drawn, .ref a_p0_one, .ref a_p0_two, .ref a_p0_costs, .int v_p0_nearestOne, .int v_p0_nearestBy, .int v_p0_how, .int v_p0_spot, .int v_p0_closestTwo, .int v_p0_closestBy]))] H := hP
              have hD : va_D A [(a_p0_one, .inl (cc 0, 41, .inl c_p0_one)), (a_p0_now, .inl (cc 0, 1343, .inl c_p0_now)), (a_p0, .inr (7, [.int ((fX7_refused (0 : Int32)).2), .ref a_p0_text, .int v_p0_size, .ref a_p0_now, .ref a_p0_trial, .ref a_p0_diary, .int v_p0_acts, .ref a_p0_kept, .ref a_p0_isKept, .ref a_p0_drawn, .ref a_p0_one, .ref a_p0_two, .ref a_p0_costs, .int v_p0_nearestOne, .int v_p0_nearestBy, .int v_p0_how, .int v_p0_spot, .int v_p0_closestTwo, .int v_p0_closestBy]))] := hD
              refine lv_aload_n hx hb dX7_sample_100 rfl (lv_at hl 0 rfl) ?_
              refine va_get (D := D) (ci := 7) (v := .ref a_p0_now) (C := RX7) (T := TX7) (N := 19) hx hb hts inX7_sample_X7 hown hK hP 2 rfl rfl 3 (by decide) k1 (fun _ h9 => h9) rfl dX7_sample_101 ?_
              refine lv_bipush (v := (77 : Int32)) hx hb dX7_sample_104 (by decide) ?_
              obtain ⟨g28, h⟩ := gd h
              refine va_iald hx hb hK hP 1 0 rfl rfl g28 dX7_sample_106 ?_
              refine lv_aload_n hx hb dX7_sample_107 rfl (lv_at hl 0 rfl) ?_
              refine va_get (D := D) (ci := 7) (v := .ref a_p0_one) (C := RX7) (T := TX7) (N := 19) hx hb hts inX7_sample_X7 hown hK hP 2 rfl rfl 10 (by decide) k3 (fun _ h9 => h9) rfl dX7_sample_108 ?_
              obtain ⟨r_29, c_p0_one_29, hc29, h⟩ := b2_some h
              refine xcalli (wr := [(a_p0, .inr (7, [.int ((fX7_refused (0 : Int32)).2), .ref a_p0_text, .int v_p0_size, .ref a_p0_now, .ref a_p0_trial, .ref a_p0_diary, .int v_p0_acts, .ref a_p0_kept, .ref a_p0_isKept, .ref a_p0_drawn, .ref a_p0_one, .ref a_p0_two, .ref a_p0_costs, .int v_p0_nearestOne, .int v_p0_nearestBy, .int v_p0_how, .int v_p0_spot, .int v_p0_closestTwo, .int v_p0_closestBy]))]) [1, 0] [2] (xrunS (As := [.ref a_p0_now, .int (fX7_at p1), .int (c_p0_now (77 : Int32).toNatClampNeg), .ref a_p0_one]) (rest := []) F ((kX7_signature l D cc (a_p0 := a_p0_now) (a_p3 := a_p0_one) (n_p0 := 1343) (n_p3 := 41) (c_p0 := c_p0_now) (c_p3 := c_p0_one) (p1 := (fX7_at p1)) (p2 := c_p0_now (77 : Int32).toNatClampNeg) (r0 := r_29) (c_p3_o := c_p0_one_29) (h := hc29)) _) (cwS 4 hts gX7_sample_X7_signature rfl rfl rfl (by decide +kernel) ⟨Nat.le_of_ble_eq_true rfl, Nat.le_of_ble_eq_true rfl⟩) hK hN hP hD [1, 0] rfl (by decide) rfl hl rfl (Nat.le_of_ble_eq_true rfl) dX7_sample_111 ⟨Nat.zero_le _, Nat.zero_le _⟩) hP hD hS hA rfl rfl (by decide) (by decide) (fun _ H locs hP hD hS => ?_)
              have hP : va_P D vwCl [(a_p0, .inr (7, [.int ((fX7_refused (0 : Int32)).2), .ref a_p0_text, .int v_p0_size, .ref a_p0_now, .ref a_p0_trial, .ref a_p0_diary, .int v_p0_acts, .ref a_p0_kept, .ref a_p0_isKept, .ref a_p0_drawn, .ref a_p0_one, .ref a_p0_two, .ref a_p0_costs, .int v_p0_nearestOne, .int v_p0_nearestBy, .int v_p0_how, .int v_p0_spot, .int v_p0_closestTwo, .int v_p0_closestBy])), (a_p0_now, .inl (cc 0, 1343, .inl c_p0_now)), (a_p0_one, .inl (cc 0, 41, .inl c_p0_one_29))] H := hP
              have hD : va_D A [(a_p0, .inr (7, [.int ((fX7_refused (0 : Int32)).2), .ref a_p0_text, .int v_p0_size, .ref a_p0_now, .ref a_p0_trial, .ref a_p0_diary, .int v_p0_acts, .ref a_p0_kept, .ref a_p0_isKept, .ref a_p0_drawn, .ref a_p0_one, .ref a_p0_two, .ref a_p0_costs, .int v_p0_nearestOne, .int v_p0_nearestBy, .int v_p0_how, .int v_p0_spot, .int v_p0_closestTwo, .int v_p0_closestBy])), (a_p0_now, .inl (cc 0, 1343, .inl c_p0_now)), (a_p0_one, .inl (cc 0, 41, .inl c_p0_one_29))] := hD
              cases h
              exact xendi (ret := none) F hsz hAe hK hP hD hS (fun _ => 0) rfl rfl (Nat.zero_le _) (Nat.zero_le _) dX7_sample_114
            · replace h := ip c26 h
              refine lv_aload_n hx hb dX7_sample_78 rfl (lv_at hl 0 rfl) ?_
              refine va_get (D := D) (ci := 7) (v := .ref a_p0_now) (C := RX7) (T := TX7) (N := 19) hx hb hts inX7_sample_X7 hown hK hP 2 rfl rfl 3 (by decide) k1 (fun _ h9 => h9) rfl dX7_sample_79 ?_
              refine lv_iload_n hx hb dX7_sample_82 rfl (lv_at hl 1 rfl) ?_
              refine xcalli (wr := [(a_p0_one, .inl (cc 0, 41, .inl c_p0_one)), (a_p0_now, .inl (cc 0, 1343, .inl c_p0_now)), (a_p0, .inr (7, [.int ((fX7_refused (0 : Int32)).2), .ref a_p0_text, .int v_p0_size, .ref a_p0_now, .ref a_p0_trial, .ref a_p0_diary, .int v_p0_acts, .ref a_p0_kept, .ref a_p0_isKept, .ref a_p0_drawn, .ref a_p0_one, .ref a_p0_two, .ref a_p0_costs, .int v_p0_nearestOne, .int v_p0_nearestBy, .int v_p0_how, .int v_p0_spot, .int v_p0_closestTwo, .int v_p0_closestBy]))]) [] [0, 1, 2] (xrunS (As := [.int p1]) (rest := [.ref a_p0_now]) F ((kX7_at l D cc (p0 := p1) (r0 := (fX7_at p1)) (h := rfl)) _) (cwS 1 hts gX7_sample_X7_at rfl rfl rfl (by decide +kernel) ⟨Nat.le_of_ble_eq_true rfl, Nat.le_of_ble_eq_true rfl⟩) hK hN hP hD [] rfl (by decide) rfl hl rfl (Nat.le_of_ble_eq_true rfl) dX7_sample_83 ⟨Nat.zero_le _, Nat.zero_le _⟩) hP hD hS hA rfl rfl (by decide) (by decide) (fun _ H locs hP hD hS => ?_)
              have hP : va_P D vwCl [(a_p0_one, .inl (cc 0, 41, .inl c_p0_one)), (a_p0_now, .inl (cc 0, 1343, .inl c_p0_now)), (a_p0, .inr (7, [.int ((fX7_refused (0 : Int32)).2), .ref a_p0_text, .int v_p0_size, .ref a_p0_now, .ref a_p0_trial, .ref a_p0_diary, .int v_p0_acts, .ref a_p0_kept, .ref a_p0_isKept, .ref a_p0_drawn, .ref a_p0_one, .ref a_p0_two, .ref a_p0_costs, .int v_p0_nearestOne, .int v_p0_nearestBy, .int v_p0_how, .int v_p0_spot, .int v_p0_closestTwo, .int v_p0_closestBy]))] H := hP
              have hD : va_D A [(a_p0_one, .inl (cc 0, 41, .inl c_p0_one)), (a_p0_now, .inl (cc 0, 1343, .inl c_p0_now)), (a_p0, .inr (7, [.int ((fX7_refused (0 : Int32)).2), .ref a_p0_text, .int v_p0_size, .ref a_p0_now, .ref a_p0_trial, .ref a_p0_diary, .int v_p0_acts, .ref a_p0_kept, .ref a_p0_isKept, .ref a_p0_drawn, .ref a_p0_one, .ref a_p0_two, .ref a_p0_costs, .int v_p0_nearestOne, .int v_p0_nearestBy, .int v_p0_how, .int v_p0_spot, .int v_p0_closestTwo, .int v_p0_closestBy]))] := hD
              obtain ⟨r_32, hc32, h⟩ := b1_some h
              refine xcalli (wr := [(a_p0_one, .inl (cc 0, 41, .inl c_p0_one)), (a_p0, .inr (7, [.int ((fX7_refused (0 : Int32)).2), .ref a_p0_text, .int v_p0_size, .ref a_p0_now, .ref a_p0_trial, .ref a_p0_diary, .int v_p0_acts, .ref a_p0_kept, .ref a_p0_isKept, .ref a_p0_drawn, .ref a_p0_one, .ref a_p0_two, .ref a_p0_costs, .int v_p0_nearestOne, .int v_p0_nearestBy, .int v_p0_how, .int v_p0_spot, .int v_p0_closestTwo, .int v_p0_closestBy]))]) [1] [0, 2] (xrunS (As := [.ref a_p0_now, .int (fX7_at p1)]) (rest := []) F ((kX7_pointsOf l D cc (a_p0 := a_p0_now) (n_p0 := 1343) (c_p0 := c_p0_now) (p1 := (fX7_at p1)) (r0 := r_32) (h := hc32)) _) (cwS 2 hts gX7_sample_X7_pointsOf rfl rfl rfl (by decide +kernel) ⟨Nat.le_of_ble_eq_true rfl, Nat.le_of_ble_eq_true rfl⟩) hK hN hP hD [1] rfl (by decide) rfl hl rfl (Nat.le_of_ble_eq_true rfl) dX7_sample_86 ⟨Nat.zero_le _, Nat.zero_le _⟩) hP hD hS hA rfl rfl (by decide) (by decide) (fun _ H locs hP hD hS => ?_)
              have hP : va_P D vwCl [(a_p0_one, .inl (cc 0, 41, .inl c_p0_one)), (a_p0, .inr (7, [.int ((fX7_refused (0 : Int32)).2), .ref a_p0_text, .int v_p0_size, .ref a_p0_now, .ref a_p0_trial, .ref a_p0_diary, .int v_p0_acts, .ref a_p0_kept, .ref a_p0_isKept, .ref a_p0_drawn, .ref a_p0_one, .ref a_p0_two, .ref a_p0_costs, .int v_p0_nearestOne, .int v_p0_nearestBy, .int v_p0_how, .int v_p0_spot, .int v_p0_closestTwo, .int v_p0_closestBy])), (a_p0_now, .inl (cc 0, 1343, .inl c_p0_now))] H := hP
              have hD : va_D A [(a_p0_one, .inl (cc 0, 41, .inl c_p0_one)), (a_p0, .inr (7, [.int ((fX7_refused (0 : Int32)).2), .ref a_p0_text, .int v_p0_size, .ref a_p0_now, .ref a_p0_trial, .ref a_p0_diary, .int v_p0_acts, .ref a_p0_kept, .ref a_p0_isKept, .ref a_p0_drawn, .ref a_p0_one, .ref a_p0_two, .ref a_p0_costs, .int v_p0_nearestOne, .int v_p0_nearestBy, .int v_p0_how, .int v_p0_spot, .int v_p0_closestTwo, .int v_p0_closestBy])), (a_p0_now, .inl (cc 0, 1343, .inl c_p0_now))] := hD
              refine lv_goto (tgt := 114) hx hb dX7_sample_89 (by decide) ?_
              have hP := hP.sub (ws' := [(a_p0, .inr (7, [.int ((fX7_refused (0 : Int32)).2), .ref a_p0_text, .int v_p0_size, .ref a_p0_now, .ref a_p0_trial, .ref a_p0_diary, .int v_p0_acts, .ref a_p0_kept, .ref a_p0_isKept, .ref a_p0_drawn, .ref a_p0_one, .ref a_p0_two, .ref a_p0_costs, .int v_p0_nearestOne, .int v_p0_nearestBy, .int v_p0_how, .int v_p0_spot, .int v_p0_closestTwo, .int v_p0_closestBy])), (a_p0_now, .inl (cc 0, 1343, .inl c_p0_now)), (a_p0_one, .inl (cc 0, 41, .inl c_p0_one))]) [1, 2, 0] rfl
              have hD := hD.sub (ws' := [(a_p0, .inr (7, [.int ((fX7_refused (0 : Int32)).2), .ref a_p0_text, .int v_p0_size, .ref a_p0_now, .ref a_p0_trial, .ref a_p0_diary, .int v_p0_acts, .ref a_p0_kept, .ref a_p0_isKept, .ref a_p0_drawn, .ref a_p0_one, .ref a_p0_two, .ref a_p0_costs, .int v_p0_nearestOne, .int v_p0_nearestBy, .int v_p0_how, .int v_p0_spot, .int v_p0_closestTwo, .int v_p0_closestBy])), (a_p0_now, .inl (cc 0, 1343, .inl c_p0_now)), (a_p0_one, .inl (cc 0, 41, .inl c_p0_one))]) [1, 2, 0] (by decide) rfl
              cases h
              exact xendi (ret := none) F hsz hAe hK hP hD hS (fun _ => 0) rfl rfl (Nat.zero_le _) (Nat.zero_le _) dX7_sample_114
          · replace h := ip c25 h
            refine lv_aload_n hx hb dX7_sample_61 rfl (lv_at hl 0 rfl) ?_
            refine va_get (D := D) (ci := 7) (v := .ref a_p0_now) (C := RX7) (T := TX7) (N := 19) hx hb hts inX7_sample_X7 hown hK hP 2 rfl rfl 3 (by decide) k1 (fun _ h9 => h9) rfl dX7_sample_62 ?_
            refine lv_iload_n hx hb dX7_sample_65 rfl (lv_at hl 1 rfl) ?_
            refine xcalli (wr := [(a_p0_one, .inl (cc 0, 41, .inl c_p0_one)), (a_p0_now, .inl (cc 0, 1343, .inl c_p0_now)), (a_p0, .inr (7, [.int ((fX7_refused (0 : Int32)).2), .ref a_p0_text, .int v_p0_size, .ref a_p0_now, .ref a_p0_trial, .ref a_p0_diary, .int v_p0_acts, .ref a_p0_kept, .ref a_p0_isKept, .ref a_p0_drawn, .ref a_p0_one, .ref a_p0_two, .ref a_p0_costs, .int v_p0_nearestOne, .int v_p0_nearestBy, .int v_p0_how, .int v_p0_spot, .int v_p0_closestTwo, .int v_p0_closestBy]))]) [] [0, 1, 2] (xrunS (As := [.int p1]) (rest := [.ref a_p0_now]) F ((kX7_at l D cc (p0 := p1) (r0 := (fX7_at p1)) (h := rfl)) _) (cwS 1 hts gX7_sample_X7_at rfl rfl rfl (by decide +kernel) ⟨Nat.le_of_ble_eq_true rfl, Nat.le_of_ble_eq_true rfl⟩) hK hN hP hD [] rfl (by decide) rfl hl rfl (Nat.le_of_ble_eq_true rfl) dX7_sample_66 ⟨Nat.zero_le _, Nat.zero_le _⟩) hP hD hS hA rfl rfl (by decide) (by decide) (fun _ H locs hP hD hS => ?_)
            have hP : va_P D vwCl [(a_p0_one, .inl (cc 0, 41, .inl c_p0_one)), (a_p0_now, .inl (cc 0, 1343, .inl c_p0_now)), (a_p0, .inr (7, [.int ((fX7_refused (0 : Int32)).2), .ref a_p0_text, .int v_p0_size, .ref a_p0_now, .ref a_p0_trial, .ref a_p0_diary, .int v_p0_acts, .ref a_p0_kept, .ref a_p0_isKept, .ref a_p0_drawn, .ref a_p0_one, .ref a_p0_two, .ref a_p0_costs, .int v_p0_nearestOne, .int v_p0_nearestBy, .int v_p0_how, .int v_p0_spot, .int v_p0_closestTwo, .int v_p0_closestBy]))] H := hP
            have hD : va_D A [(a_p0_one, .inl (cc 0, 41, .inl c_p0_one)), (a_p0_now, .inl (cc 0, 1343, .inl c_p0_now)), (a_p0, .inr (7, [.int ((fX7_refused (0 : Int32)).2), .ref a_p0_text, .int v_p0_size, .ref a_p0_now, .ref a_p0_trial, .ref a_p0_diary, .int v_p0_acts, .ref a_p0_kept, .ref a_p0_isKept, .ref a_p0_drawn, .ref a_p0_one, .ref a_p0_two, .ref a_p0_costs, .int v_p0_nearestOne, .int v_p0_nearestBy, .int v_p0_how, .int v_p0_spot, .int v_p0_closestTwo, .int v_p0_closestBy]))] := hD
            obtain ⟨g35, h⟩ := gd h
            refine va_iald hx hb hK hP 1 0 rfl rfl g35 dX7_sample_69 ?_
            refine lv_goto (tgt := 114) hx hb dX7_sample_70 (by decide) ?_
            have hP := hP.sub (ws' := [(a_p0, .inr (7, [.int ((fX7_refused (0 : Int32)).2), .ref a_p0_text, .int v_p0_size, .ref a_p0_now, .ref a_p0_trial, .ref a_p0_diary, .int v_p0_acts, .ref a_p0_kept, .ref a_p0_isKept, .ref a_p0_drawn, .ref a_p0_one, .ref a_p0_two, .ref a_p0_costs, .int v_p0_nearestOne, .int v_p0_nearestBy, .int v_p0_how, .int v_p0_spot, .int v_p0_closestTwo, .int v_p0_closestBy])), (a_p0_now, .inl (cc 0, 1343, .inl c_p0_now)), (a_p0_one, .inl (cc 0, 41, .inl c_p0_one))]) [2, 1, 0] rfl
            have hD := hD.sub (ws' := [(a_p0, .inr (7, [.int ((fX7_refused (0 : Int32)).2), .ref a_p0_text, .int v_p0_size, .ref a_p0_now, .ref a_p0_trial, .ref a_p0_diary, .int v_p0_acts, .ref a_p0_kept, .ref a_p0_isKept, .ref a_p0_drawn, .ref a_p0_one, .ref a_p0_two, .ref a_p0_costs, .int v_p0_nearestOne, .int v_p0_nearestBy, .int v_p0_how, .int v_p0_spot, .int v_p0_closestTwo, .int v_p0_closestBy])), (a_p0_now, .inl (cc 0, 1343, .inl c_p0_now)), (a_p0_one, .inl (cc 0, 41, .inl c_p0_one))]) [2, 1, 0] (by decide) rfl
            cases h
            exact xendi (ret := none) F hsz hAe hK hP hD hS (fun _ => 0) rfl rfl (Nat.zero_le _) (Nat.zero_le _) dX7_sample_114
        · replace h := ip c24 h
          refine lv_aload_n hx hb dX7_sample_45 rfl (lv_at hl 0 rfl) ?_
          refine va_get (D := D) (ci := 7) (v := .ref a_p0_now) (C := RX7) (T := TX7) (N := 19) hx hb hts inX7_sample_X7 hown hK hP 2 rfl rfl 3 (by decide) k1 (fun _ h9 => h9) rfl dX7_sample_46 ?_
          refine lv_iload_n hx hb dX7_sample_49 rfl (lv_at hl 1 rfl) ?_
          obtain ⟨r_36, hc36, h⟩ := b1_some h
          refine xcalli (wr := [(a_p0_one, .inl (cc 0, 41, .inl c_p0_one)), (a_p0, .inr (7, [.int ((fX7_refused (0 : Int32)).2), .ref a_p0_text, .int v_p0_size, .ref a_p0_now, .ref a_p0_trial, .ref a_p0_diary, .int v_p0_acts, .ref a_p0_kept, .ref a_p0_isKept, .ref a_p0_drawn, .ref a_p0_one, .ref a_p0_two, .ref a_p0_costs, .int v_p0_nearestOne, .int v_p0_nearestBy, .int v_p0_how, .int v_p0_spot, .int v_p0_closestTwo, .int v_p0_closestBy]))]) [1] [0, 2] (xrunS (As := [.ref a_p0_now, .int p1]) (rest := []) F ((kX7_nameOf l D cc (a_p0 := a_p0_now) (n_p0 := 1343) (c_p0 := c_p0_now) (p1 := p1) (r0 := r_36) (h := hc36)) _) (cwS 2 hts gX7_sample_X7_nameOf rfl rfl rfl (by decide +kernel) ⟨Nat.le_of_ble_eq_true rfl, Nat.le_of_ble_eq_true rfl⟩) hK hN hP hD [1] rfl (by decide) rfl hl rfl (Nat.le_of_ble_eq_true rfl) dX7_sample_50 ⟨Nat.zero_le _, Nat.zero_le _⟩) hP hD hS hA rfl rfl (by decide) (by decide) (fun _ H locs hP hD hS => ?_)
          have hP : va_P D vwCl [(a_p0_one, .inl (cc 0, 41, .inl c_p0_one)), (a_p0, .inr (7, [.int ((fX7_refused (0 : Int32)).2), .ref a_p0_text, .int v_p0_size, .ref a_p0_now, .ref a_p0_trial, .ref a_p0_diary, .int v_p0_acts, .ref a_p0_kept, .ref a_p0_isKept, .ref a_p0_drawn, .ref a_p0_one, .ref a_p0_two, .ref a_p0_costs, .int v_p0_nearestOne, .int v_p0_nearestBy, .int v_p0_how, .int v_p0_spot, .int v_p0_closestTwo, .int v_p0_closestBy])), (a_p0_now, .inl (cc 0, 1343, .inl c_p0_now))] H := hP
          have hD : va_D A [(a_p0_one, .inl (cc 0, 41, .inl c_p0_one)), (a_p0, .inr (7, [.int ((fX7_refused (0 : Int32)).2), .ref a_p0_text, .int v_p0_size, .ref a_p0_now, .ref a_p0_trial, .ref a_p0_diary, .int v_p0_acts, .ref a_p0_kept, .ref a_p0_isKept, .ref a_p0_drawn, .ref a_p0_one, .ref a_p0_two, .ref a_p0_costs, .int v_p0_nearestOne, .int v_p0_nearestBy, .int v_p0_how, .int v_p0_spot, .int v_p0_closestTwo, .int v_p0_closestBy])), (a_p0_now, .inl (cc 0, 1343, .inl c_p0_now))] := hD
          refine lv_goto (tgt := 114) hx hb dX7_sample_53 (by decide) ?_
          have hP := hP.sub (ws' := [(a_p0, .inr (7, [.int ((fX7_refused (0 : Int32)).2), .ref a_p0_text, .int v_p0_size, .ref a_p0_now, .ref a_p0_trial, .ref a_p0_diary, .int v_p0_acts, .ref a_p0_kept, .ref a_p0_isKept, .ref a_p0_drawn, .ref a_p0_one, .ref a_p0_two, .ref a_p0_costs, .int v_p0_nearestOne, .int v_p0_nearestBy, .int v_p0_how, .int v_p0_spot, .int v_p0_closestTwo, .int v_p0_closestBy])), (a_p0_now, .inl (cc 0, 1343, .inl c_p0_now)), (a_p0_one, .inl (cc 0, 41, .inl c_p0_one))]) [1, 2, 0] rfl
          have hD := hD.sub (ws' := [(a_p0, .inr (7, [.int ((fX7_refused (0 : Int32)).2), .ref a_p0_text, .int v_p0_size, .ref a_p0_now, .ref a_p0_trial, .ref a_p0_diary, .int v_p0_acts, .ref a_p0_kept, .ref a_p0_isKept, .ref a_p0_drawn, .ref a_p0_one, .ref a_p0_two, .ref a_p0_costs, .int v_p0_nearestOne, .int v_p0_nearestBy, .int v_p0_how, .int v_p0_spot, .int v_p0_closestTwo, .int v_p0_closestBy])), (a_p0_now, .inl (cc 0, 1343, .inl c_p0_now)), (a_p0_one, .inl (cc 0, 41, .inl c_p0_one))]) [1, 2, 0] (by decide) rfl
          cases h
          exact xendi (ret := none) F hsz hAe hK hP hD hS (fun _ => 0) rfl rfl (Nat.zero_le _) (Nat.zero_le _) dX7_sample_114
      · replace h := iq c23 h
        refine lv_iconst (v := (0 : Int32)) hx hb dX7_sample_39 (by decide) ?_
        have hP := hP.sub (ws' := [(a_p0, .inr (7, [.int ((fX7_refused (0 : Int32)).2), .ref a_p0_text, .int v_p0_size, .ref a_p0_now, .ref a_p0_trial, .ref a_p0_diary, .int v_p0_acts, .ref a_p0_kept, .ref a_p0_isKept, .ref a_p0_drawn, .ref a_p0_one, .ref a_p0_two, .ref a_p0_costs, .int v_p0_nearestOne, .int v_p0_nearestBy, .int v_p0_how, .int v_p0_spot, .int v_p0_closestTwo, .int v_p0_closestBy])), (a_p0_now, .inl (cc 0, 1343, .inl c_p0_now)), (a_p0_one, .inl (cc 0, 41, .inl c_p0_one))]) [2, 1, 0] rfl
        have hD := hD.sub (ws' := [(a_p0, .inr (7, [.int ((fX7_refused (0 : Int32)).2), .ref a_p0_text, .int v_p0_size, .ref a_p0_now, .ref a_p0_trial, .ref a_p0_diary, .int v_p0_acts, .ref a_p0_kept, .ref a_p0_isKept, .ref a_p0_drawn, .ref a_p0_one, .ref a_p0_two, .ref a_p0_costs, .int v_p0_nearestOne, .int v_p0_nearestBy, .int v_p0_how, .int v_p0_spot, .int v_p0_closestTwo, .int v_p0_closestBy])), (a_p0_now, .inl (cc 0, 1343, .inl c_p0_now)), (a_p0_one, .inl (cc 0, 41, .inl c_p0_one))]) [2, 1, 0] (by decide) rfl
        cases h
        exact xendi (ret := none) F hsz hAe hK hP hD hS (fun _ => 0) rfl rfl (Nat.zero_le _) (Nat.zero_le _) dX7_sample_40
  · replace h := ip c3 h
    refine lv_iconst (v := (1 : Int32)) hx hb dX7_sample_12 (by decide) ?_
    refine lv_goto (tgt := 33) hx hb dX7_sample_13 (by decide) ?_
    refine xcalli (wr := [(a_p0_one, .inl (cc 0, 41, .inl c_p0_one)), (a_p0_now, .inl (cc 0, 1343, .inl c_p0_now))]) [0] [1, 2] (xrunV (As := [.int (1 : Int32)]) (rest := []) F ((kX7_refused l D cc (a_p0 := a_p0) (a_p0_text := a_p0_text) (a_p0_now := a_p0_now) (a_p0_trial := a_p0_trial) (a_p0_diary := a_p0_diary) (a_p0_kept := a_p0_kept) (a_p0_isKept := a_p0_isKept) (a_p0_drawn := a_p0_drawn) (a_p0_one := a_p0_one) (a_p0_two := a_p0_two) (a_p0_costs := a_p0_costs) (v_p0_refusal := v_p0_refusal) (v_p0_size := v_p0_size) (v_p0_acts := v_p0_acts) (v_p0_nearestOne := v_p0_nearestOne) (v_p0_nearestBy := v_p0_nearestBy) (v_p0_how := v_p0_how) (v_p0_spot := v_p0_spot) (v_p0_closestTwo := v_p0_closestTwo) (v_p0_closestBy := v_p0_closestBy) (p1 := (1 : Int32)) (r0 := (fX7_refused (1 : Int32)).1) (v_p0_refusal_o := (fX7_refused (1 : Int32)).2) (h := rfl)) _) (cwV 1 hts gX7_sample_X7_refused rfl rfl rfl (by decide +kernel) ⟨Nat.le_of_ble_eq_true rfl, Nat.le_of_ble_eq_true rfl⟩) hK hN hP hD [0] rfl (by decide) (q0 := 0) rfl rfl rfl rfl hl rfl (Nat.le_of_ble_eq_true rfl) dX7_sample_33 ⟨Nat.zero_le _, Nat.zero_le _⟩) hP hD hS hA rfl rfl (by decide) (by decide) (fun _ H locs hP hD hS => ?_)
    have hP : va_P D vwCl [(a_p0_one, .inl (cc 0, 41, .inl c_p0_one)), (a_p0_now, .inl (cc 0, 1343, .inl c_p0_now)), (a_p0, .inr (7, [.int ((fX7_refused (1 : Int32)).2), .ref a_p0_text, .int v_p0_size, .ref a_p0_now, .ref a_p0_trial, .ref a_p0_diary, .int v_p0_acts, .ref a_p0_kept, .ref a_p0_isKept, .ref a_p0_drawn, .ref a_p0_one, .ref a_p0_two, .ref a_p0_costs, .int v_p0_nearestOne, .int v_p0_nearestBy, .int v_p0_how, .int v_p0_spot, .int v_p0_closestTwo, .int v_p0_closestBy]))] H := hP
    have hD : va_D A [(a_p0_one, .inl (cc 0, 41, .inl c_p0_one)), (a_p0_now, .inl (cc 0, 1343, .inl c_p0_now)), (a_p0, .inr (7, [.int ((fX7_refused (1 : Int32)).2), .ref a_p0_text, .int v_p0_size, .ref a_p0_now, .ref a_p0_trial, .ref a_p0_diary, .int v_p0_acts, .ref a_p0_kept, .ref a_p0_isKept, .ref a_p0_drawn, .ref a_p0_one, .ref a_p0_two, .ref a_p0_costs, .int v_p0_nearestOne, .int v_p0_nearestBy, .int v_p0_how, .int v_p0_spot, .int v_p0_closestTwo, .int v_p0_closestBy]))] := hD
    refine lv_if_eq (tgt := 41) hx hb dX7_sample_36 (by decide) (fun (c39 : ((fX7_refused (1 : Int32)).1) = 0) => ?_) (fun (c39 : ¬ ((fX7_refused (1 : Int32)).1) = 0) => ?_)
    · replace h := ip c39 h
      refine lv_iload_n hx hb dX7_sample_41 rfl (lv_at hl 2 rfl) ?_
      refine lv_if_ne (tgt := 56) hx hb dX7_sample_42 (by decide) (fun (c40 : ¬ p2 = 0) => ?_) (fun (c40 : p2 = 0) => ?_)
      · replace h := iq c40 h
        refine lv_iload_n hx hb dX7_sample_56 rfl (lv_at hl 2 rfl) ?_
        refine lv_iconst (v := (1 : Int32)) hx hb dX7_sample_57 (by decide) ?_
        refine lv_icmp_ne (tgt := 73) hx hb dX7_sample_58 (by decide) (fun (c41 : ¬ p2 = (1 : Int32)) => ?_) (fun (c41 : p2 = (1 : Int32)) => ?_)
        · replace h := iq c41 h
          refine lv_iload_n hx hb dX7_sample_73 rfl (lv_at hl 2 rfl) ?_
          refine lv_iconst (v := (2 : Int32)) hx hb dX7_sample_74 (by decide) ?_
          refine lv_icmp_ne (tgt := 92) hx hb dX7_sample_75 (by decide) (fun (c42 : ¬ p2 = (2 : Int32)) => ?_) (fun (c42 : p2 = (2 : Int32)) => ?_)
          · replace h := iq c42 h
            refine lv_aload_n hx hb dX7_sample_92 rfl (lv_at hl 0 rfl) ?_
            refine va_get (D := D) (ci := 7) (v := .ref a_p0_now) (C := RX7) (T := TX7) (N := 19) hx hb hts inX7_sample_X7 hown hK hP 2 rfl rfl 3 (by decide) k1 (fun _ h9 => h9) rfl dX7_sample_93 ?_
            refine lv_iload_n hx hb dX7_sample_96 rfl (lv_at hl 1 rfl) ?_
            refine xcalli (wr := [(a_p0_one, .inl (cc 0, 41, .inl c_p0_one)), (a_p0_now, .inl (cc 0, 1343, .inl c_p0_now)), (a_p0, .inr (7, [.int ((fX7_refused (1 : Int32)).2), .ref a_p0_text, .int v_p0_size, .ref a_p0_now, .ref a_p0_trial, .ref a_p0_diary, .int v_p0_acts, .ref a_p0_kept, .ref a_p0_isKept, .ref a_p0_drawn, .ref a_p0_one, .ref a_p0_two, .ref a_p0_costs, .int v_p0_nearestOne, .int v_p0_nearestBy, .int v_p0_how, .int v_p0_spot, .int v_p0_closestTwo, .int v_p0_closestBy]))]) [] [0, 1, 2] (xrunS (As := [.int p1]) (rest := [.ref a_p0_now]) F ((kX7_at l D cc (p0 := p1) (r0 := (fX7_at p1)) (h := rfl)) _) (cwS 1 hts gX7_sample_X7_at rfl rfl rfl (by decide +kernel) ⟨Nat.le_of_ble_eq_true rfl, Nat.le_of_ble_eq_true rfl⟩) hK hN hP hD [] rfl (by decide) rfl hl rfl (Nat.le_of_ble_eq_true rfl) dX7_sample_97 ⟨Nat.zero_le _, Nat.zero_le _⟩) hP hD hS hA rfl rfl (by decide) (by decide) (fun _ H locs hP hD hS => ?_)
            have hP : va_P D vwCl [(a_p0_one, .inl (cc 0, 41, .inl c_p0_one)), (a_p0_now, .inl (cc 0, 1343, .inl c_p0_now)), (a_p0, .inr (7, [.int ((fX7_refused (1 : Int32)).2), .ref a_p0_text, .int v_p0_size, .ref a_p0_now, .ref a_p0_trial, .ref a_p0_diary, .int v_p0_acts, .ref a_p0_kept, .ref a_p0_isKept, .ref a_p0_drawn, .ref a_p0_one, .ref a_p0_two, .ref a_p0_costs, .int v_p0_nearestOne, .int v_p0_nearestBy, .int v_p0_how, .int v_p0_spot, .int v_p0_closestTwo, .int v_p0_closestBy]))] H := hP
            have hD : va_D A [(a_p0_one, .inl (cc 0, 41, .inl c_p0_one)), (a_p0_now, .inl (cc 0, 1343, .inl c_p0_now)), (a_p0, .inr (7, [.int ((fX7_refused (1 : Int32)).2), .ref a_p0_text, .int v_p0_size, .ref a_p0_now, .ref a_p0_trial, .ref a_p0_diary, .int v_p0_acts, .ref a_p0_kept, .ref a_p0_isKept, .ref a_p0_drawn, .ref a_p0_one, .ref a_p0_two, .ref a_p0_costs, .int v_p0_nearestOne, .int v_p0_nearestBy, .int v_p0_how, .int v_p0_spot, .int v_p0_closestTwo, .int v_p0_closestBy]))] := hD
            refine lv_aload_n hx hb dX7_sample_100 rfl (lv_at hl 0 rfl) ?_
            refine va_get (D := D) (ci := 7) (v := .ref a_p0_now) (C := RX7) (T := TX7) (N := 19) hx hb hts inX7_sample_X7 hown hK hP 2 rfl rfl 3 (by decide) k1 (fun _ h9 => h9) rfl dX7_sample_101 ?_
            refine lv_bipush (v := (77 : Int32)) hx hb dX7_sample_104 (by decide) ?_
            obtain ⟨g44, h⟩ := gd h
            refine va_iald hx hb hK hP 1 0 rfl rfl g44 dX7_sample_106 ?_
            refine lv_aload_n hx hb dX7_sample_107 rfl (lv_at hl 0 rfl) ?_
            refine va_get (D := D) (ci := 7) (v := .ref a_p0_one) (C := RX7) (T := TX7) (N := 19) hx hb hts inX7_sample_X7 hown hK hP 2 rfl rfl 10 (by decide) k3 (fun _ h9 => h9) rfl dX7_sample_108 ?_
            obtain ⟨r_45, c_p0_one_45, hc45, h⟩ := b2_some h
            refine xcalli (wr := [(a_p0, .inr (7, [.int ((fX7_refused (1 : Int32)).2), .ref a_p0_text, .int v_p0_size, .ref a_p0_now, .ref a_p0_trial, .ref a_p0_diary, .int v_p0_acts, .ref a_p0_kept, .ref a_p0_isKept, .ref a_p0_drawn, .ref a_p0_one, .ref a_p0_two, .ref a_p0_costs, .int v_p0_nearestOne, .int v_p0_nearestBy, .int v_p0_how, .int v_p0_spot, .int v_p0_closestTwo, .int v_p0_closestBy]))]) [1, 0] [2] (xrunS (As := [.ref a_p0_now, .int (fX7_at p1), .int (c_p0_now (77 : Int32).toNatClampNeg), .ref a_p0_one]) (rest := []) F ((kX7_signature l D cc (a_p0 := a_p0_now) (a_p3 := a_p0_one) (n_p0 := 1343) (n_p3 := 41) (c_p0 := c_p0_now) (c_p3 := c_p0_one) (p1 := (fX7_at p1)) (p2 := c_p0_now (77 : Int32).toNatClampNeg) (r0 := r_45) (c_p3_o := c_p0_one_45) (h := hc45)) _) (cwS 4 hts gX7_sample_X7_signature rfl rfl rfl (by decide +kernel) ⟨Nat.le_of_ble_eq_true rfl, Nat.le_of_ble_eq_true rfl⟩) hK hN hP hD [1, 0] rfl (by decide) rfl hl rfl (Nat.le_of_ble_eq_true rfl) dX7_sample_111 ⟨Nat.zero_le _, Nat.zero_le _⟩) hP hD hS hA rfl rfl (by decide) (by decide) (fun _ H locs hP hD hS => ?_)
            have hP : va_P D vwCl [(a_p0, .inr (7, [.int ((fX7_refused (1 : Int32)).2), .ref a_p0_text, .int v_p0_size, .ref a_p0_now, .ref a_p0_trial, .ref a_p0_diary, .int v_p0_acts, .ref a_p0_kept, .ref a_p0_isKept, .ref a_p0_drawn, .ref a_p0_one, .ref a_p0_two, .ref a_p0_costs, .int v_p0_nearestOne, .int v_p0_nearestBy, .int v_p0_how, .int v_p0_spot, .int v_p0_closestTwo, .int v_p0_closestBy])), (a_p0_now, .inl (cc 0, 1343, .inl c_p0_now)), (a_p0_one, .inl (cc 0, 41, .inl c_p0_one_45))] H := hP
            have hD : va_D A [(a_p0, .inr (7, [.int ((fX7_refused (1 : Int32)).2), .ref a_p0_text, .int v_p0_size, .ref a_p0_now, .ref a_p0_trial, .ref a_p0_diary, .int v_p0_acts, .ref a_p0_kept, .ref a_p0_isKept, .ref a_p0_drawn, .ref a_p0_one, .ref a_p0_two, .ref a_p0_costs, .int v_p0_nearestOne, .int v_p0_nearestBy, .int v_p0_how, .int v_p0_spot, .int v_p0_closestTwo, .int v_p0_closestBy])), (a_p0_now, .inl (cc 0, 1343, .inl c_p0_now)), (a_p0_one, .inl (cc 0, 41, .inl c_p0_one_45))] := hD
            cases h
            exact xendi (ret := none) F hsz hAe hK hP hD hS (fun _ => 0) rfl rfl (Nat.zero_le _) (Nat.zero_le _) dX7_sample_114
          · replace h := ip c42 h
            refine lv_aload_n hx hb dX7_sample_78 rfl (lv_at hl 0 rfl) ?_
            refine va_get (D := D) (ci := 7) (v := .ref a_p0_now) (C := RX7) (T := TX7) (N := 19) hx hb hts inX7_sample_X7 hown hK hP 2 rfl rfl 3 (by decide) k1 (fun _ h9 => h9) rfl dX7_sample_79 ?_
            refine lv_iload_n hx hb dX7_sample_82 rfl (lv_at hl 1 rfl) ?_
            refine xcalli (wr := [(a_p0_one, .inl (cc 0, 41, .inl c_p0_one)), (a_p0_now, .inl (cc 0, 1343, .inl c_p0_now)), (a_p0, .inr (7, [.int ((fX7_refused (1 : Int32)).2), .ref a_p0_text, .int v_p0_size, .ref a_p0_now, .ref a_p0_trial, .ref a_p0_diary, .int v_p0_acts, .ref a_p0_kept, .ref a_p0_isKept, .ref a_p0_drawn, .ref a_p0_one, .ref a_p0_two, .ref a_p0_costs, .int v_p0_nearestOne, .int v_p0_nearestBy, .int v_p0_how, .int v_p0_spot, .int v_p0_closestTwo, .int v_p0_closestBy]))]) [] [0, 1, 2] (xrunS (As := [.int p1]) (rest := [.ref a_p0_now]) F ((kX7_at l D cc (p0 := p1) (r0 := (fX7_at p1)) (h := rfl)) _) (cwS 1 hts gX7_sample_X7_at rfl rfl rfl (by decide +kernel) ⟨Nat.le_of_ble_eq_true rfl, Nat.le_of_ble_eq_true rfl⟩) hK hN hP hD [] rfl (by decide) rfl hl rfl (Nat.le_of_ble_eq_true rfl) dX7_sample_83 ⟨Nat.zero_le _, Nat.zero_le _⟩) hP hD hS hA rfl rfl (by decide) (by decide) (fun _ H locs hP hD hS => ?_)
            have hP : va_P D vwCl [(a_p0_one, .inl (cc 0, 41, .inl c_p0_one)), (a_p0_now, .inl (cc 0, 1343, .inl c_p0_now)), (a_p0, .inr (7, [.int ((fX7_refused (1 : Int32)).2), .ref a_p0_text, .int v_p0_size, .ref a_p0_now, .ref a_p0_trial, .ref a_p0_diary, .int v_p0_acts, .ref a_p0_kept, .ref a_p0_isKept, .ref a_p0_drawn, .ref a_p0_one, .ref a_p0_two, .ref a_p0_costs, .int v_p0_nearestOne, .int v_p0_nearestBy, .int v_p0_how, .int v_p0_spot, .int v_p0_closestTwo, .int v_p0_closestBy]))] H := hP
            have hD : va_D A [(a_p0_one, .inl (cc 0, 41, .inl c_p0_one)), (a_p0_now, .inl (cc 0, 1343, .inl c_p0_now)), (a_p0, .inr (7, [.int ((fX7_refused (1 : Int32)).2), .ref a_p0_text, .int v_p0_size, .ref a_p0_now, .ref a_p0_trial, .ref a_p0_diary, .int v_p0_acts, .ref a_p0_kept, .ref a_p0_isKept, .ref a_p0_drawn, .ref a_p0_one, .ref a_p0_two, .ref a_p0_costs, .int v_p0_nearestOne, .int v_p0_nearestBy, .int v_p0_how, .int v_p0_spot, .int v_p0_closestTwo, .int v_p0_closestBy]))] := hD
            obtain ⟨r_48, hc48, h⟩ := b1_some h
            refine xcalli (wr := [(a_p0_one, .inl (cc 0, 41, .inl c_p0_one)), (a_p0, .inr (7, [.int ((fX7_refused (1 : Int32)).2), .ref a_p0_text, .int v_p0_size, .ref a_p0_now, .ref a_p0_trial, .ref a_p0_diary, .int v_p0_acts, .ref a_p0_kept, .ref a_p0_isKept, .ref a_p0_drawn, .ref a_p0_one, .ref a_p0_two, .ref a_p0_costs, .int v_p0_nearestOne, .int v_p0_nearestBy, .int v_p0_how, .int v_p0_spot, .int v_p0_closestTwo, .int v_p0_closestBy]))]) [1] [0, 2] (xrunS (As := [.ref a_p0_now, .int (fX7_at p1)]) (rest := []) F ((kX7_pointsOf l D cc (a_p0 := a_p0_now) (n_p0 := 1343) (c_p0 := c_p0_now) (p1 := (fX7_at p1)) (r0 := r_48) (h := hc48)) _) (cwS 2 hts gX7_sample_X7_pointsOf rfl rfl rfl (by decide +kernel) ⟨Nat.le_of_ble_eq_true rfl, Nat.le_of_ble_eq_true rfl⟩) hK hN hP hD [1] rfl (by decide) rfl hl rfl (Nat.le_of_ble_eq_true rfl) dX7_sample_86 ⟨Nat.zero_le _, Nat.zero_le _⟩) hP hD hS hA rfl rfl (by decide) (by decide) (fun _ H locs hP hD hS => ?_)
            have hP : va_P D vwCl [(a_p0_one, .inl (cc 0, 41, .inl c_p0_one)), (a_p0, .inr (7, [.int ((fX7_refused (1 : Int32)).2), .ref a_p0_text, .int v_p0_size, .ref a_p0_now, .ref a_p0_trial, .ref a_p0_diary, .int v_p0_acts, .ref a_p0_kept, .ref a_p0_isKept, .ref a_p0_drawn, .ref a_p0_one, .ref a_p0_two, .ref a_p0_costs, .int v_p0_nearestOne, .int v_p0_nearestBy, .int v_p0_how, .int v_p0_spot, .int v_p0_closestTwo, .int v_p0_closestBy])), (a_p0_now, .inl (cc 0, 1343, .inl c_p0_now))] H := hP
            have hD : va_D A [(a_p0_one, .inl (cc 0, 41, .inl c_p0_one)), (a_p0, .inr (7, [.int ((fX7_refused (1 : Int32)).2), .ref a_p0_text, .int v_p0_size, .ref a_p0_now, .ref a_p0_trial, .ref a_p0_diary, .int v_p0_acts, .ref a_p0_kept, .ref a_p0_isKept, .ref a_p0_drawn, .ref a_p0_one, .ref a_p0_two, .ref a_p0_costs, .int v_p0_nearestOne, .int v_p0_nearestBy, .int v_p0_how, .int v_p0_spot, .int v_p0_closestTwo, .int v_p0_closestBy])), (a_p0_now, .inl (cc 0, 1343, .inl c_p0_now))] := hD
            refine lv_goto (tgt := 114) hx hb dX7_sample_89 (by decide) ?_
            have hP := hP.sub (ws' := [(a_p0, .inr (7, [.int ((fX7_refused (1 : Int32)).2), .ref a_p0_text, .int v_p0_size, .ref a_p0_now, .ref a_p0_trial, .ref a_p0_diary, .int v_p0_acts, .ref a_p0_kept, .ref a_p0_isKept, .ref a_p0_drawn, .ref a_p0_one, .ref a_p0_two, .ref a_p0_costs, .int v_p0_nearestOne, .int v_p0_nearestBy, .int v_p0_how, .int v_p0_spot, .int v_p0_closestTwo, .int v_p0_closestBy])), (a_p0_now, .inl (cc 0, 1343, .inl c_p0_now)), (a_p0_one, .inl (cc 0, 41, .inl c_p0_one))]) [1, 2, 0] rfl
            have hD := hD.sub (ws' := [(a_p0, .inr (7, [.int ((fX7_refused (1 : Int32)).2), .ref a_p0_text, .int v_p0_size, .ref a_p0_now, .ref a_p0_trial, .ref a_p0_diary, .int v_p0_acts, .ref a_p0_kept, .ref a_p0_isKept, .ref a_p0_drawn, .ref a_p0_one, .ref a_p0_two, .ref a_p0_costs, .int v_p0_nearestOne, .int v_p0_nearestBy, .int v_p0_how, .int v_p0_spot, .int v_p0_closestTwo, .int v_p0_closestBy])), (a_p0_now, .inl (cc 0, 1343, .inl c_p0_now)), (a_p0_one, .inl (cc 0, 41, .inl c_p0_one))]) [1, 2, 0] (by decide) rfl
            cases h
            exact xendi (ret := none) F hsz hAe hK hP hD hS (fun _ => 0) rfl rfl (Nat.zero_le _) (Nat.zero_le _) dX7_sample_114
        · replace h := ip c41 h
          refine lv_aload_n hx hb dX7_sample_61 rfl (lv_at hl 0 rfl) ?_
          refine va_get (D := D) (ci := 7) (v := .ref a_p0_now) (C := RX7) (T := TX7) (N := 19) hx hb hts inX7_sample_X7 hown hK hP 2 rfl rfl 3 (by decide) k1 (fun _ h9 => h9) rfl dX7_sample_62 ?_
          refine lv_iload_n hx hb dX7_sample_65 rfl (lv_at hl 1 rfl) ?_
          refine xcalli (wr := [(a_p0_one, .inl (cc 0, 41, .inl c_p0_one)), (a_p0_now, .inl (cc 0, 1343, .inl c_p0_now)), (a_p0, .inr (7, [.int ((fX7_refused (1 : Int32)).2), .ref a_p0_text, .int v_p0_size, .ref a_p0_now, .ref a_p0_trial, .ref a_p0_diary, .int v_p0_acts, .ref a_p0_kept, .ref a_p0_isKept, .ref a_p0_drawn, .ref a_p0_one, .ref a_p0_two, .ref a_p0_costs, .int v_p0_nearestOne, .int v_p0_nearestBy, .int v_p0_how, .int v_p0_spot, .int v_p0_closestTwo, .int v_p0_closestBy]))]) [] [0, 1, 2] (xrunS (As := [.int p1]) (rest := [.ref a_p0_now]) F ((kX7_at l D cc (p0 := p1) (r0 := (fX7_at p1)) (h := rfl)) _) (cwS 1 hts gX7_sample_X7_at rfl rfl rfl (by decide +kernel) ⟨Nat.le_of_ble_eq_true rfl, Nat.le_of_ble_eq_true rfl⟩) hK hN hP hD [] rfl (by decide) rfl hl rfl (Nat.le_of_ble_eq_true rfl) dX7_sample_66 ⟨Nat.zero_le _, Nat.zero_le _⟩) hP hD hS hA rfl rfl (by decide) (by decide) (fun _ H locs hP hD hS => ?_)
          have hP : va_P D vwCl [(a_p0_one, .inl (cc 0, 41, .inl c_p0_one)), (a_p0_now, .inl (cc 0, 1343, .inl c_p0_now)), (a_p0, .inr (7, [.int ((fX7_refused (1 : Int32)).2), .ref a_p0_text, .int v_p0_size, .ref a_p0_now, .ref a_p0_trial, .ref a_p0_diary, .int v_p0_acts, .ref a_p0_kept, .ref a_p0_isKept, .ref a_p0_drawn, .ref a_p0_one, .ref a_p0_two, .ref a_p0_costs, .int v_p0_nearestOne, .int v_p0_nearestBy, .int v_p0_how, .int v_p0_spot, .int v_p0_closestTwo, .int v_p0_closestBy]))] H := hP
          have hD : va_D A [(a_p0_one, .inl (cc 0, 41, .inl c_p0_one)), (a_p0_now, .inl (cc 0, 1343, .inl c_p0_now)), (a_p0, .inr (7, [.int ((fX7_refused (1 : Int32)).2), .ref a_p0_text, .int v_p0_size, .ref a_p0_now, .ref a_p0_trial, .ref a_p0_diary, .int v_p0_acts, .ref a_p0_kept, .ref a_p0_isKept, .ref a_p0_drawn, .ref a_p0_one, .ref a_p0_two, .ref a_p0_costs, .int v_p0_nearestOne, .int v_p0_nearestBy, .int v_p0_how, .int v_p0_spot, .int v_p0_closestTwo, .int v_p0_closestBy]))] := hD
          obtain ⟨g51, h⟩ := gd h
          refine va_iald hx hb hK hP 1 0 rfl rfl g51 dX7_sample_69 ?_
          refine lv_goto (tgt := 114) hx hb dX7_sample_70 (by decide) ?_
          have hP := hP.sub (ws' := [(a_p0, .inr (7, [.int ((fX7_refused (1 : Int32)).2), .ref a_p0_text, .int v_p0_size, .ref a_p0_now, .ref a_p0_trial, .ref a_p0_diary, .int v_p0_acts, .ref a_p0_kept, .ref a_p0_isKept, .ref a_p0_drawn, .ref a_p0_one, .ref a_p0_two, .ref a_p0_costs, .int v_p0_nearestOne, .int v_p0_nearestBy, .int v_p0_how, .int v_p0_spot, .int v_p0_closestTwo, .int v_p0_closestBy])), (a_p0_now, .inl (cc 0, 1343, .inl c_p0_now)), (a_p0_one, .inl (cc 0, 41, .inl c_p0_one))]) [2, 1, 0] rfl
          have hD := hD.sub (ws' := [(a_p0, .inr (7, [.int ((fX7_refused (1 : Int32)).2), .ref a_p0_text, .int v_p0_size, .ref a_p0_now, .ref a_p0_trial, .ref a_p0_diary, .int v_p0_acts, .ref a_p0_kept, .ref a_p0_isKept, .ref a_p0_drawn, .ref a_p0_one, .ref a_p0_two, .ref a_p0_costs, .int v_p0_nearestOne, .int v_p0_nearestBy, .int v_p0_how, .int v_p0_spot, .int v_p0_closestTwo, .int v_p0_closestBy])), (a_p0_now, .inl (cc 0, 1343, .inl c_p0_now)), (a_p0_one, .inl (cc 0, 41, .inl c_p0_one))]) [2, 1, 0] (by decide) rfl
          cases h
          exact xendi (ret := none) F hsz hAe hK hP hD hS (fun _ => 0) rfl rfl (Nat.zero_le _) (Nat.zero_le _) dX7_sample_114
      · replace h := ip c40 h
        refine lv_aload_n hx hb dX7_sample_45 rfl (lv_at hl 0 rfl) ?_
        refine va_get (D := D) (ci := 7) (v := .ref a_p0_now) (C := RX7) (T := TX7) (N := 19) hx hb hts inX7_sample_X7 hown hK hP 2 rfl rfl 3 (by decide) k1 (fun _ h9 => h9) rfl dX7_sample_46 ?_
        refine lv_iload_n hx hb dX7_sample_49 rfl (lv_at hl 1 rfl) ?_
        obtain ⟨r_52, hc52, h⟩ := b1_some h
        refine xcalli (wr := [(a_p0_one, .inl (cc 0, 41, .inl c_p0_one)), (a_p0, .inr (7, [.int ((fX7_refused (1 : Int32)).2), .ref a_p0_text, .int v_p0_size, .ref a_p0_now, .ref a_p0_trial, .ref a_p0_diary, .int v_p0_acts, .ref a_p0_kept, .ref a_p0_isKept, .ref a_p0_drawn, .ref a_p0_one, .ref a_p0_two, .ref a_p0_costs, .int v_p0_nearestOne, .int v_p0_nearestBy, .int v_p0_how, .int v_p0_spot, .int v_p0_closestTwo, .int v_p0_closestBy]))]) [1] [0, 2] (xrunS (As := [.ref a_p0_now, .int p1]) (rest := []) F ((kX7_nameOf l D cc (a_p0 := a_p0_now) (n_p0 := 1343) (c_p0 := c_p0_now) (p1 := p1) (r0 := r_52) (h := hc52)) _) (cwS 2 hts gX7_sample_X7_nameOf rfl rfl rfl (by decide +kernel) ⟨Nat.le_of_ble_eq_true rfl, Nat.le_of_ble_eq_true rfl⟩) hK hN hP hD [1] rfl (by decide) rfl hl rfl (Nat.le_of_ble_eq_true rfl) dX7_sample_50 ⟨Nat.zero_le _, Nat.zero_le _⟩) hP hD hS hA rfl rfl (by decide) (by decide) (fun _ H locs hP hD hS => ?_)
        have hP : va_P D vwCl [(a_p0_one, .inl (cc 0, 41, .inl c_p0_one)), (a_p0, .inr (7, [.int ((fX7_refused (1 : Int32)).2), .ref a_p0_text, .int v_p0_size, .ref a_p0_now, .ref a_p0_trial, .ref a_p0_diary, .int v_p0_acts, .ref a_p0_kept, .ref a_p0_isKept, .ref a_p0_drawn, .ref a_p0_one, .ref a_p0_two, .ref a_p0_costs, .int v_p0_nearestOne, .int v_p0_nearestBy, .int v_p0_how, .int v_p0_spot, .int v_p0_closestTwo, .int v_p0_closestBy])), (a_p0_now, .inl (cc 0, 1343, .inl c_p0_now))] H := hP
        have hD : va_D A [(a_p0_one, .inl (cc 0, 41, .inl c_p0_one)), (a_p0, .inr (7, [.int ((fX7_refused (1 : Int32)).2), .ref a_p0_text, .int v_p0_size, .ref a_p0_now, .ref a_p0_trial, .ref a_p0_diary, .int v_p0_acts, .ref a_p0_kept, .ref a_p0_isKept, .ref a_p0_drawn, .ref a_p0_one, .ref a_p0_two, .ref a_p0_costs, .int v_p0_nearestOne, .int v_p0_nearestBy, .int v_p0_how, .int v_p0_spot, .int v_p0_closestTwo, .int v_p0_closestBy])), (a_p0_now, .inl (cc 0, 1343, .inl c_p0_now))] := hD
        refine lv_goto (tgt := 114) hx hb dX7_sample_53 (by decide) ?_
        have hP := hP.sub (ws' := [(a_p0, .inr (7, [.int ((fX7_refused (1 : Int32)).2), .ref a_p0_text, .int v_p0_size, .ref a_p0_now, .ref a_p0_trial, .ref a_p0_diary, .int v_p0_acts, .ref a_p0_kept, .ref a_p0_isKept, .ref a_p0_drawn, .ref a_p0_one, .ref a_p0_two, .ref a_p0_costs, .int v_p0_nearestOne, .int v_p0_nearestBy, .int v_p0_how, .int v_p0_spot, .int v_p0_closestTwo, .int v_p0_closestBy])), (a_p0_now, .inl (cc 0, 1343, .inl c_p0_now)), (a_p0_one, .inl (cc 0, 41, .inl c_p0_one))]) [1, 2, 0] rfl
        have hD := hD.sub (ws' := [(a_p0, .inr (7, [.int ((fX7_refused (1 : Int32)).2), .ref a_p0_text, .int v_p0_size, .ref a_p0_now, .ref a_p0_trial, .ref a_p0_diary, .int v_p0_acts, .ref a_p0_kept, .ref a_p0_isKept, .ref a_p0_drawn, .ref a_p0_one, .ref a_p0_two, .ref a_p0_costs, .int v_p0_nearestOne, .int v_p0_nearestBy, .int v_p0_how, .int v_p0_spot, .int v_p0_closestTwo, .int v_p0_closestBy])), (a_p0_now, .inl (cc 0, 1343, .inl c_p0_now)), (a_p0_one, .inl (cc 0, 41, .inl c_p0_one))]) [1, 2, 0] (by decide) rfl
        cases h
        exact xendi (ret := none) F hsz hAe hK hP hD hS (fun _ => 0) rfl rfl (Nat.zero_le _) (Nat.zero_le _) dX7_sample_114
    · replace h := iq c39 h
      refine lv_iconst (v := (0 : Int32)) hx hb dX7_sample_39 (by decide) ?_
      have hP := hP.sub (ws' := [(a_p0, .inr (7, [.int ((fX7_refused (1 : Int32)).2), .ref a_p0_text, .int v_p0_size, .ref a_p0_now, .ref a_p0_trial, .ref a_p0_diary, .int v_p0_acts, .ref a_p0_kept, .ref a_p0_isKept, .ref a_p0_drawn, .ref a_p0_one, .ref a_p0_two, .ref a_p0_costs, .int v_p0_nearestOne, .int v_p0_nearestBy, .int v_p0_how, .int v_p0_spot, .int v_p0_closestTwo, .int v_p0_closestBy])), (a_p0_now, .inl (cc 0, 1343, .inl c_p0_now)), (a_p0_one, .inl (cc 0, 41, .inl c_p0_one))]) [2, 1, 0] rfl
      have hD := hD.sub (ws' := [(a_p0, .inr (7, [.int ((fX7_refused (1 : Int32)).2), .ref a_p0_text, .int v_p0_size, .ref a_p0_now, .ref a_p0_trial, .ref a_p0_diary, .int v_p0_acts, .ref a_p0_kept, .ref a_p0_isKept, .ref a_p0_drawn, .ref a_p0_one, .ref a_p0_two, .ref a_p0_costs, .int v_p0_nearestOne, .int v_p0_nearestBy, .int v_p0_how, .int v_p0_spot, .int v_p0_closestTwo, .int v_p0_closestBy])), (a_p0_now, .inl (cc 0, 1343, .inl c_p0_now)), (a_p0_one, .inl (cc 0, 41, .inl c_p0_one))]) [2, 1, 0] (by decide) rfl
      cases h
      exact xendi (ret := none) F hsz hAe hK hP hD hS (fun _ => 0) rfl rfl (Nat.zero_le _) (Nat.zero_le _) dX7_sample_40
theorem inX7_signOf_X7 : ∀ w ∈ wsX70, w ∈ wsX7_signOf := by decide +kernel
set_option maxHeartbeats 4000000 in
set_option maxRecDepth 100000 in
theorem kX7_signOf (l : Launch) (D : va_G) (cc : Nat → ClassId) (a_p0 : Nat) (a_p0_text : Nat) (a_p0_now : Nat) (a_p0_trial : Nat) (a_p0_diary : Nat) (a_p0_kept : Nat) (a_p0_isKept : Nat) (a_p0_drawn : Nat) (a_p0_one : Nat) (a_p0_two : Nat) (a_p0_costs : Nat) (v_p0_refusal : Int32) (v_p0_size : Int32) (v_p0_acts : Int32) (v_p0_nearestOne : Int32) (v_p0_nearestBy : Int32) (v_p0_how : Int32) (v_p0_spot : Int32) (v_p0_closestTwo : Int32) (v_p0_closestBy : Int32) (c_p0_now : Nat → Int32) (c_p0_one : Nat → Int32) (p1 : Int32) (p2 : Int32) (r0 : Int32) (v_p0_refusal_o : Int32) (c_p0_one_o : Nat → Int32) (h : fX7_signOf p1 p2 c_p0_now c_p0_one = some (r0, v_p0_refusal_o, c_p0_one_o)) : xMi l yX7_signOf wsX7_signOf ({ frames := 3, cells := 0, slots := 0, locals := 82 } : Room) D cc [.ref a_p0, .int p1, .int p2] [(a_p0, .inr (7, [.int v_p0_refusal, .ref a_p0_text, .int v_p0_size, .ref a_p0_now, .ref a_p0_trial, .ref a_p0_diary, .int v_p0_acts, .ref a_p0_kept, .ref a_p0_isKept, .ref a_p0_drawn, .ref a_p0_one, .ref a_p0_two, .ref a_p0_costs, .int v_p0_nearestOne, .int v_p0_nearestBy, .int v_p0_how, .int v_p0_spot, .int v_p0_closestTwo, .int v_p0_closestBy])), (a_p0_now, .inl (cc 0, 1343, .inl c_p0_now)), (a_p0_one, .inl (cc 0, 41, .inl c_p0_one))] r0 (fun _ => [(a_p0, .inr (7, [.int v_p0_refusal_o, .ref a_p0_text, .int v_p0_size, .ref a_p0_now, .ref a_p0_trial, .ref a_p0_diary, .int v_p0_acts, .ref a_p0_kept, .ref a_p0_isKept, .ref a_p0_drawn, .ref a_p0_one, .ref a_p0_two, .ref a_p0_costs, .int v_p0_nearestOne, .int v_p0_nearestBy, .int v_p0_how, .int v_p0_spot, .int v_p0_closestTwo, .int v_p0_closestBy])), (a_p0_now, .inl (cc 0, 1343, .inl c_p0_now)), (a_p0_one, .inl (cc 0, 41, .inl c_p0_one_o))]) 0 0 := by
  intro sz
  refine xstart (bc := cX7_signOf) (maxL := 4) (ret := (some .int)) (by decide) rfl (Nat.le_of_ble_eq_true rfl) ?_
  intro p e s m args below meth c A hargs hsz hAe F hK hN hA hmn hP hD hS ls hl
  have hx := F.1.1
  have hb := F.1.2.1
  have hml := F.1.2.2.1
  have hown := F.1.2.2.2.1
  have hts := F.1.2.2.2.2
  have hl : lv_has ls 4 [(0, .ref a_p0), (1, .int p1), (2, .int p2)] := hl
  have k1 := hts (.fieldLink RX7 13 "RuledStrokesModel" "now" "[I") (by decide +kernel)
  have k2 := hts (.fieldLink RX7 32 "RuledStrokesModel" "one" "[I") (by decide +kernel)
  unfold fX7_signOf at h
  refine lv_aload_n hx hb dX7_signOf_0 rfl (lv_at hl 0 rfl) ?_
  refine lv_aload_n hx hb dX7_signOf_1 rfl (lv_at hl 0 rfl) ?_
  refine va_get (D := D) (ci := 7) (v := .ref a_p0_now) (C := RX7) (T := TX7) (N := 19) hx hb hts inX7_signOf_X7 hown hK hP 0 rfl rfl 3 (by decide) k1 (fun _ h9 => h9) rfl dX7_signOf_2 ?_
  refine lv_iload_n hx hb dX7_signOf_5 rfl (lv_at hl 1 rfl) ?_
  obtain ⟨r_1, hc1, h⟩ := b1_some h
  refine xcalli (wr := [(a_p0, .inr (7, [.int v_p0_refusal, .ref a_p0_text, .int v_p0_size, .ref a_p0_now, .ref a_p0_trial, .ref a_p0_diary, .int v_p0_acts, .ref a_p0_kept, .ref a_p0_isKept, .ref a_p0_drawn, .ref a_p0_one, .ref a_p0_two, .ref a_p0_costs, .int v_p0_nearestOne, .int v_p0_nearestBy, .int v_p0_how, .int v_p0_spot, .int v_p0_closestTwo, .int v_p0_closestBy])), (a_p0_one, .inl (cc 0, 41, .inl c_p0_one))]) [1] [0, 2] (xrunS (As := [.ref a_p0_now, .int p1]) (rest := [.ref a_p0]) F ((kX7_isSample l D cc (a_p0 := a_p0_now) (n_p0 := 1343) (c_p0 := c_p0_now) (p1 := p1) (r0 := r_1) (h := hc1)) _) (cwS 2 hts gX7_signOf_X7_isSample rfl rfl rfl (by decide +kernel) ⟨Nat.le_of_ble_eq_true rfl, Nat.le_of_ble_eq_true rfl⟩) hK hN hP hD [1] rfl (by decide) rfl hl rfl (Nat.le_of_ble_eq_true rfl) dX7_signOf_6 ⟨Nat.zero_le _, Nat.zero_le _⟩) hP hD hS hA rfl rfl (by decide) (by decide) (fun _ H locs hP hD hS => ?_)
  have hP : va_P D vwCl [(a_p0, .inr (7, [.int v_p0_refusal, .ref a_p0_text, .int v_p0_size, .ref a_p0_now, .ref a_p0_trial, .ref a_p0_diary, .int v_p0_acts, .ref a_p0_kept, .ref a_p0_isKept, .ref a_p0_drawn, .ref a_p0_one, .ref a_p0_two, .ref a_p0_costs, .int v_p0_nearestOne, .int v_p0_nearestBy, .int v_p0_how, .int v_p0_spot, .int v_p0_closestTwo, .int v_p0_closestBy])), (a_p0_one, .inl (cc 0, 41, .inl c_p0_one)), (a_p0_now, .inl (cc 0, 1343, .inl c_p0_now))] H := hP
  have hD : va_D A [(a_p0, .inr (7, [.int v_p0_refusal, .ref a_p0_text, .int v_p0_size, .ref a_p0_now, .ref a_p0_trial, .ref a_p0_diary, .int v_p0_acts, .ref a_p0_kept, .ref a_p0_isKept, .ref a_p0_drawn, .ref a_p0_one, .ref a_p0_two, .ref a_p0_costs, .int v_p0_nearestOne, .int v_p0_nearestBy, .int v_p0_how, .int v_p0_spot, .int v_p0_closestTwo, .int v_p0_closestBy])), (a_p0_one, .inl (cc 0, 41, .inl c_p0_one)), (a_p0_now, .inl (cc 0, 1343, .inl c_p0_now))] := hD
  refine lv_if_ne (tgt := 16) hx hb dX7_signOf_9 (by decide) (fun (c3 : ¬ r_1 = 0) => ?_) (fun (c3 : r_1 = 0) => ?_)
  · replace h := iq c3 h
    refine lv_iload_n hx hb dX7_signOf_16 rfl (lv_at hl 2 rfl) ?_
    refine lv_if_ge (tgt := 24) hx hb dX7_signOf_17 (by decide) (fun (c4 : 0 ≤ p2) => ?_) (fun (c4 : ¬ 0 ≤ p2) => ?_)
    · replace h := ip c4 h
      refine lv_iconst (v := (0 : Int32)) hx hb dX7_signOf_24 (by decide) ?_
      refine xcalli (wr := [(a_p0_one, .inl (cc 0, 41, .inl c_p0_one)), (a_p0_now, .inl (cc 0, 1343, .inl c_p0_now))]) [0] [1, 2] (xrunV (As := [.int (0 : Int32)]) (rest := []) F ((kX7_refused l D cc (a_p0 := a_p0) (a_p0_text := a_p0_text) (a_p0_now := a_p0_now) (a_p0_trial := a_p0_trial) (a_p0_diary := a_p0_diary) (a_p0_kept := a_p0_kept) (a_p0_isKept := a_p0_isKept) (a_p0_drawn := a_p0_drawn) (a_p0_one := a_p0_one) (a_p0_two := a_p0_two) (a_p0_costs := a_p0_costs) (v_p0_refusal := v_p0_refusal) (v_p0_size := v_p0_size) (v_p0_acts := v_p0_acts) (v_p0_nearestOne := v_p0_nearestOne) (v_p0_nearestBy := v_p0_nearestBy) (v_p0_how := v_p0_how) (v_p0_spot := v_p0_spot) (v_p0_closestTwo := v_p0_closestTwo) (v_p0_closestBy := v_p0_closestBy) (p1 := (0 : Int32)) (r0 := (fX7_refused (0 : Int32)).1) (v_p0_refusal_o := (fX7_refused (0 : Int32)).2) (h := rfl)) _) (cwV 1 hts gX7_signOf_X7_refused rfl rfl rfl (by decide +kernel) ⟨Nat.le_of_ble_eq_true rfl, Nat.le_of_ble_eq_true rfl⟩) hK hN hP hD [0] rfl (by decide) (q0 := 0) rfl rfl rfl rfl hl rfl (Nat.le_of_ble_eq_true rfl) dX7_signOf_25 ⟨Nat.zero_le _, Nat.zero_le _⟩) hP hD hS hA rfl rfl (by decide) (by decide) (fun _ H locs hP hD hS => ?_)
      have hP : va_P D vwCl [(a_p0_one, .inl (cc 0, 41, .inl c_p0_one)), (a_p0_now, .inl (cc 0, 1343, .inl c_p0_now)), (a_p0, .inr (7, [.int ((fX7_refused (0 : Int32)).2), .ref a_p0_text, .int v_p0_size, .ref a_p0_now, .ref a_p0_trial, .ref a_p0_diary, .int v_p0_acts, .ref a_p0_kept, .ref a_p0_isKept, .ref a_p0_drawn, .ref a_p0_one, .ref a_p0_two, .ref a_p0_costs, .int v_p0_nearestOne, .int v_p0_nearestBy, .int v_p0_how, .int v_p0_spot, .int v_p0_closestTwo, .int v_p0_closestBy]))] H := hP
      have hD : va_D A [(a_p0_one, .inl (cc 0, 41, .inl c_p0_one)), (a_p0_now, .inl (cc 0, 1343, .inl c_p0_now)), (a_p0, .inr (7, [.int ((fX7_refused (0 : Int32)).2), .ref a_p0_text, .int v_p0_size, .ref a_p0_now, .ref a_p0_trial, .ref a_p0_diary, .int v_p0_acts, .ref a_p0_kept, .ref a_p0_isKept, .ref a_p0_drawn, .ref a_p0_one, .ref a_p0_two, .ref a_p0_costs, .int v_p0_nearestOne, .int v_p0_nearestBy, .int v_p0_how, .int v_p0_spot, .int v_p0_closestTwo, .int v_p0_closestBy]))] := hD
      refine lv_if_eq (tgt := 33) hx hb dX7_signOf_28 (by decide) (fun (c6 : ((fX7_refused (0 : Int32)).1) = 0) => ?_) (fun (c6 : ¬ ((fX7_refused (0 : Int32)).1) = 0) => ?_)
      · replace h := ip c6 h
        refine lv_aload_n hx hb dX7_signOf_33 rfl (lv_at hl 0 rfl) ?_
        refine va_get (D := D) (ci := 7) (v := .ref a_p0_now) (C := RX7) (T := TX7) (N := 19) hx hb hts inX7_signOf_X7 hown hK hP 2 rfl rfl 3 (by decide) k1 (fun _ h9 => h9) rfl dX7_signOf_34 ?_
        refine lv_iload_n hx hb dX7_signOf_37 rfl (lv_at hl 1 rfl) ?_
        refine xcalli (wr := [(a_p0_one, .inl (cc 0, 41, .inl c_p0_one)), (a_p0_now, .inl (cc 0, 1343, .inl c_p0_now)), (a_p0, .inr (7, [.int ((fX7_refused (0 : Int32)).2), .ref a_p0_text, .int v_p0_size, .ref a_p0_now, .ref a_p0_trial, .ref a_p0_diary, .int v_p0_acts, .ref a_p0_kept, .ref a_p0_isKept, .ref a_p0_drawn, .ref a_p0_one, .ref a_p0_two, .ref a_p0_costs, .int v_p0_nearestOne, .int v_p0_nearestBy, .int v_p0_how, .int v_p0_spot, .int v_p0_closestTwo, .int v_p0_closestBy]))]) [] [0, 1, 2] (xrunS (As := [.int p1]) (rest := [.ref a_p0_now]) F ((kX7_at l D cc (p0 := p1) (r0 := (fX7_at p1)) (h := rfl)) _) (cwS 1 hts gX7_signOf_X7_at rfl rfl rfl (by decide +kernel) ⟨Nat.le_of_ble_eq_true rfl, Nat.le_of_ble_eq_true rfl⟩) hK hN hP hD [] rfl (by decide) rfl hl rfl (Nat.le_of_ble_eq_true rfl) dX7_signOf_38 ⟨Nat.zero_le _, Nat.zero_le _⟩) hP hD hS hA rfl rfl (by decide) (by decide) (fun _ H locs hP hD hS => ?_)
        have hP : va_P D vwCl [(a_p0_one, .inl (cc 0, 41, .inl c_p0_one)), (a_p0_now, .inl (cc 0, 1343, .inl c_p0_now)), (a_p0, .inr (7, [.int ((fX7_refused (0 : Int32)).2), .ref a_p0_text, .int v_p0_size, .ref a_p0_now, .ref a_p0_trial, .ref a_p0_diary, .int v_p0_acts, .ref a_p0_kept, .ref a_p0_isKept, .ref a_p0_drawn, .ref a_p0_one, .ref a_p0_two, .ref a_p0_costs, .int v_p0_nearestOne, .int v_p0_nearestBy, .int v_p0_how, .int v_p0_spot, .int v_p0_closestTwo, .int v_p0_closestBy]))] H := hP
        have hD : va_D A [(a_p0_one, .inl (cc 0, 41, .inl c_p0_one)), (a_p0_now, .inl (cc 0, 1343, .inl c_p0_now)), (a_p0, .inr (7, [.int ((fX7_refused (0 : Int32)).2), .ref a_p0_text, .int v_p0_size, .ref a_p0_now, .ref a_p0_trial, .ref a_p0_diary, .int v_p0_acts, .ref a_p0_kept, .ref a_p0_isKept, .ref a_p0_drawn, .ref a_p0_one, .ref a_p0_two, .ref a_p0_costs, .int v_p0_nearestOne, .int v_p0_nearestBy, .int v_p0_how, .int v_p0_spot, .int v_p0_closestTwo, .int v_p0_closestBy]))] := hD
        refine lv_aload_n hx hb dX7_signOf_41 rfl (lv_at hl 0 rfl) ?_
        refine va_get (D := D) (ci := 7) (v := .ref a_p0_now) (C := RX7) (T := TX7) (N := 19) hx hb hts inX7_signOf_X7 hown hK hP 2 rfl rfl 3 (by decide) k1 (fun _ h9 => h9) rfl dX7_signOf_42 ?_
        refine lv_bipush (v := (77 : Int32)) hx hb dX7_signOf_45 (by decide) ?_
        obtain ⟨g8, h⟩ := gd h
        refine va_iald hx hb hK hP 1 0 rfl rfl g8 dX7_signOf_47 ?_
        refine lv_aload_n hx hb dX7_signOf_48 rfl (lv_at hl 0 rfl) ?_
        refine va_get (D := D) (ci := 7) (v := .ref a_p0_one) (C := RX7) (T := TX7) (N := 19) hx hb hts inX7_signOf_X7 hown hK hP 2 rfl rfl 10 (by decide) k2 (fun _ h9 => h9) rfl dX7_signOf_49 ?_
        obtain ⟨r_9, c_p0_one_9, hc9, h⟩ := b2_some h
        refine xcalli (wr := [(a_p0, .inr (7, [.int ((fX7_refused (0 : Int32)).2), .ref a_p0_text, .int v_p0_size, .ref a_p0_now, .ref a_p0_trial, .ref a_p0_diary, .int v_p0_acts, .ref a_p0_kept, .ref a_p0_isKept, .ref a_p0_drawn, .ref a_p0_one, .ref a_p0_two, .ref a_p0_costs, .int v_p0_nearestOne, .int v_p0_nearestBy, .int v_p0_how, .int v_p0_spot, .int v_p0_closestTwo, .int v_p0_closestBy]))]) [1, 0] [2] (xrunS (As := [.ref a_p0_now, .int (fX7_at p1), .int (c_p0_now (77 : Int32).toNatClampNeg), .ref a_p0_one]) (rest := []) F ((kX7_signature l D cc (a_p0 := a_p0_now) (a_p3 := a_p0_one) (n_p0 := 1343) (n_p3 := 41) (c_p0 := c_p0_now) (c_p3 := c_p0_one) (p1 := (fX7_at p1)) (p2 := c_p0_now (77 : Int32).toNatClampNeg) (r0 := r_9) (c_p3_o := c_p0_one_9) (h := hc9)) _) (cwS 4 hts gX7_signOf_X7_signature rfl rfl rfl (by decide +kernel) ⟨Nat.le_of_ble_eq_true rfl, Nat.le_of_ble_eq_true rfl⟩) hK hN hP hD [1, 0] rfl (by decide) rfl hl rfl (Nat.le_of_ble_eq_true rfl) dX7_signOf_52 ⟨Nat.zero_le _, Nat.zero_le _⟩) hP hD hS hA rfl rfl (by decide) (by decide) (fun _ H locs hP hD hS => ?_)
        have hP : va_P D vwCl [(a_p0, .inr (7, [.int ((fX7_refused (0 : Int32)).2), .ref a_p0_text, .int v_p0_size, .ref a_p0_now, .ref a_p0_trial, .ref a_p0_diary, .int v_p0_acts, .ref a_p0_kept, .ref a_p0_isKept, .ref a_p0_drawn, .ref a_p0_one, .ref a_p0_two, .ref a_p0_costs, .int v_p0_nearestOne, .int v_p0_nearestBy, .int v_p0_how, .int v_p0_spot, .int v_p0_closestTwo, .int v_p0_closestBy])), (a_p0_now, .inl (cc 0, 1343, .inl c_p0_now)), (a_p0_one, .inl (cc 0, 41, .inl c_p0_one_9))] H := hP
        have hD : va_D A [(a_p0, .inr (7, [.int ((fX7_refused (0 : Int32)).2), .ref a_p0_text, .int v_p0_size, .ref a_p0_now, .ref a_p0_trial, .ref a_p0_diary, .int v_p0_acts, .ref a_p0_kept, .ref a_p0_isKept, .ref a_p0_drawn, .ref a_p0_one, .ref a_p0_two, .ref a_p0_costs, .int v_p0_nearestOne, .int v_p0_nearestBy, .int v_p0_how, .int v_p0_spot, .int v_p0_closestTwo, .int v_p0_closestBy])), (a_p0_now, .inl (cc 0, 1343, .inl c_p0_now)), (a_p0_one, .inl (cc 0, 41, .inl c_p0_one_9))] := hD
        refine lv_istore_n (x := r_9) (lv' := [(3, .int r_9), (0, .ref a_p0), (1, .int p1), (2, .int p2)]) hx hb dX7_signOf_55 rfl hl (by decide) rfl (fun ls hl => ?_)
        refine lv_iload_n hx hb dX7_signOf_56 rfl (lv_at hl 3 rfl) ?_
        refine lv_iload_n hx hb dX7_signOf_57 rfl (lv_at hl 0 rfl) ?_
        refine lv_icmp_ge (tgt := 70) hx hb dX7_signOf_58 (by decide) (fun (c11 : r_9 ≤ p2) => ?_) (fun (c11 : ¬ r_9 ≤ p2) => ?_)
        · replace h := ip c11 h
          refine lv_iconst (v := (-1 : Int32)) hx hb dX7_signOf_70 (by decide) ?_
          cases h
          exact xendi (ret := none) F hsz hAe hK hP hD hS (fun _ => 0) rfl rfl (Nat.zero_le _) (Nat.zero_le _) dX7_signOf_71
        · replace h := iq c11 h
          refine lv_aload_n hx hb dX7_signOf_61 rfl (lv_at hl 1 rfl) ?_
          refine va_get (D := D) (ci := 7) (v := .ref a_p0_one) (C := RX7) (T := TX7) (N := 19) hx hb hts inX7_signOf_X7 hown hK hP 0 rfl rfl 10 (by decide) k2 (fun _ h9 => h9) rfl dX7_signOf_62 ?_
          refine lv_iload_n hx hb dX7_signOf_65 rfl (lv_at hl 3 rfl) ?_
          obtain ⟨g12, h⟩ := gd h
          refine va_iald hx hb hK hP 2 0 rfl rfl g12 dX7_signOf_66 ?_
          refine lv_goto (tgt := 71) hx hb dX7_signOf_67 (by decide) ?_
          cases h
          exact xendi (ret := none) F hsz hAe hK hP hD hS (fun _ => 0) rfl rfl (Nat.zero_le _) (Nat.zero_le _) dX7_signOf_71
      · replace h := iq c6 h
        refine lv_iconst (v := (0 : Int32)) hx hb dX7_signOf_31 (by decide) ?_
        have hP := hP.sub (ws' := [(a_p0, .inr (7, [.int ((fX7_refused (0 : Int32)).2), .ref a_p0_text, .int v_p0_size, .ref a_p0_now, .ref a_p0_trial, .ref a_p0_diary, .int v_p0_acts, .ref a_p0_kept, .ref a_p0_isKept, .ref a_p0_drawn, .ref a_p0_one, .ref a_p0_two, .ref a_p0_costs, .int v_p0_nearestOne, .int v_p0_nearestBy, .int v_p0_how, .int v_p0_spot, .int v_p0_closestTwo, .int v_p0_closestBy])), (a_p0_now, .inl (cc 0, 1343, .inl c_p0_now)), (a_p0_one, .inl (cc 0, 41, .inl c_p0_one))]) [2, 1, 0] rfl
        have hD := hD.sub (ws' := [(a_p0, .inr (7, [.int ((fX7_refused (0 : Int32)).2), .ref a_p0_text, .int v_p0_size, .ref a_p0_now, .ref a_p0_trial, .ref a_p0_diary, .int v_p0_acts, .ref a_p0_kept, .ref a_p0_isKept, .ref a_p0_drawn, .ref a_p0_one, .ref a_p0_two, .ref a_p0_costs, .int v_p0_nearestOne, .int v_p0_nearestBy, .int v_p0_how, .int v_p0_spot, .int v_p0_closestTwo, .int v_p0_closestBy])), (a_p0_now, .inl (cc 0, 1343, .inl c_p0_now)), (a_p0_one, .inl (cc 0, 41, .inl c_p0_one))]) [2, 1, 0] (by decide) rfl
        cases h
        exact xendi (ret := none) F hsz hAe hK hP hD hS (fun _ => 0) rfl rfl (Nat.zero_le _) (Nat.zero_le _) dX7_signOf_32
    · replace h := iq c4 h
      refine lv_iconst (v := (2 : Int32)) hx hb dX7_signOf_20 (by decide) ?_
      refine lv_goto (tgt := 25) hx hb dX7_signOf_21 (by decide) ?_
      refine xcalli (wr := [(a_p0_one, .inl (cc 0, 41, .inl c_p0_one)), (a_p0_now, .inl (cc 0, 1343, .inl c_p0_now))]) [0] [1, 2] (xrunV (As := [.int (2 : Int32)]) (rest := []) F ((kX7_refused l D cc (a_p0 := a_p0) (a_p0_text := a_p0_text) (a_p0_now := a_p0_now) (a_p0_trial := a_p0_trial) (a_p0_diary := a_p0_diary) (a_p0_kept := a_p0_kept) (a_p0_isKept := a_p0_isKept) (a_p0_drawn := a_p0_drawn) (a_p0_one := a_p0_one) (a_p0_two := a_p0_two) (a_p0_costs := a_p0_costs) (v_p0_refusal := v_p0_refusal) (v_p0_size := v_p0_size) (v_p0_acts := v_p0_acts) (v_p0_nearestOne := v_p0_nearestOne) (v_p0_nearestBy := v_p0_nearestBy) (v_p0_how := v_p0_how) (v_p0_spot := v_p0_spot) (v_p0_closestTwo := v_p0_closestTwo) (v_p0_closestBy := v_p0_closestBy) (p1 := (2 : Int32)) (r0 := (fX7_refused (2 : Int32)).1) (v_p0_refusal_o := (fX7_refused (2 : Int32)).2) (h := rfl)) _) (cwV 1 hts gX7_signOf_X7_refused rfl rfl rfl (by decide +kernel) ⟨Nat.le_of_ble_eq_true rfl, Nat.le_of_ble_eq_true rfl⟩) hK hN hP hD [0] rfl (by decide) (q0 := 0) rfl rfl rfl rfl hl rfl (Nat.le_of_ble_eq_true rfl) dX7_signOf_25 ⟨Nat.zero_le _, Nat.zero_le _⟩) hP hD hS hA rfl rfl (by decide) (by decide) (fun _ H locs hP hD hS => ?_)
      have hP : va_P D vwCl [(a_p0_one, .inl (cc 0, 41, .inl c_p0_one)), (a_p0_now, .inl (cc 0, 1343, .inl c_p0_now)), (a_p0, .inr (7, [.int ((fX7_refused (2 : Int32)).2), .ref a_p0_text, .int v_p0_size, .ref a_p0_now, .ref a_p0_trial, .ref a_p0_diary, .int v_p0_acts, .ref a_p0_kept, .ref a_p0_isKept, .ref a_p0_drawn, .ref a_p0_one, .ref a_p0_two, .ref a_p0_costs, .int v_p0_nearestOne, .int v_p0_nearestBy, .int v_p0_how, .int v_p0_spot, .int v_p0_closestTwo, .int v_p0_closestBy]))] H := hP
      have hD : va_D A [(a_p0_one, .inl (cc 0, 41, .inl c_p0_one)), (a_p0_now, .inl (cc 0, 1343, .inl c_p0_now)), (a_p0, .inr (7, [.int ((fX7_refused (2 : Int32)).2), .ref a_p0_text, .int v_p0_size, .ref a_p0_now, .ref a_p0_trial, .ref a_p0_diary, .int v_p0_acts, .ref a_p0_kept, .ref a_p0_isKept, .ref a_p0_drawn, .ref a_p0_one, .ref a_p0_two, .ref a_p0_costs, .int v_p0_nearestOne, .int v_p0_nearestBy, .int v_p0_how, .int v_p0_spot, .int v_p0_closestTwo, .int v_p0_closestBy]))] := hD
      refine lv_if_eq (tgt := 33) hx hb dX7_signOf_28 (by decide) (fun (c14 : ((fX7_refused (2 : Int32)).1) = 0) => ?_) (fun (c14 : ¬ ((fX7_refused (2 : Int32)).1) = 0) => ?_)
      · replace h := ip c14 h
        refine lv_aload_n hx hb dX7_signOf_33 rfl (lv_at hl 0 rfl) ?_
        refine va_get (D := D) (ci := 7) (v := .ref a_p0_now) (C := RX7) (T := TX7) (N := 19) hx hb hts inX7_signOf_X7 hown hK hP 2 rfl rfl 3 (by decide) k1 (fun _ h9 => h9) rfl dX7_signOf_34 ?_
        refine lv_iload_n hx hb dX7_signOf_37 rfl (lv_at hl 1 rfl) ?_
        refine xcalli (wr := [(a_p0_one, .inl (cc 0, 41, .inl c_p0_one)), (a_p0_now, .inl (cc 0, 1343, .inl c_p0_now)), (a_p0, .inr (7, [.int ((fX7_refused (2 : Int32)).2), .ref a_p0_text, .int v_p0_size, .ref a_p0_now, .ref a_p0_trial, .ref a_p0_diary, .int v_p0_acts, .ref a_p0_kept, .ref a_p0_isKept, .ref a_p0_drawn, .ref a_p0_one, .ref a_p0_two, .ref a_p0_costs, .int v_p0_nearestOne, .int v_p0_nearestBy, .int v_p0_how, .int v_p0_spot, .int v_p0_closestTwo, .int v_p0_closestBy]))]) [] [0, 1, 2] (xrunS (As := [.int p1]) (rest := [.ref a_p0_now]) F ((kX7_at l D cc (p0 := p1) (r0 := (fX7_at p1)) (h := rfl)) _) (cwS 1 hts gX7_signOf_X7_at rfl rfl rfl (by decide +kernel) ⟨Nat.le_of_ble_eq_true rfl, Nat.le_of_ble_eq_true rfl⟩) hK hN hP hD [] rfl (by decide) rfl hl rfl (Nat.le_of_ble_eq_true rfl) dX7_signOf_38 ⟨Nat.zero_le _, Nat.zero_le _⟩) hP hD hS hA rfl rfl (by decide) (by decide) (fun _ H locs hP hD hS => ?_)
        have hP : va_P D vwCl [(a_p0_one, .inl (cc 0, 41, .inl c_p0_one)), (a_p0_now, .inl (cc 0, 1343, .inl c_p0_now)), (a_p0, .inr (7, [.int ((fX7_refused (2 : Int32)).2), .ref a_p0_text, .int v_p0_size, .ref a_p0_now, .ref a_p0_trial, .ref a_p0_diary, .int v_p0_acts, .ref a_p0_kept, .ref a_p0_isKept, .ref a_p0_drawn, .ref a_p0_one, .ref a_p0_two, .ref a_p0_costs, .int v_p0_nearestOne, .int v_p0_nearestBy, .int v_p0_how, .int v_p0_spot, .int v_p0_closestTwo, .int v_p0_closestBy]))] H := hP
        have hD : va_D A [(a_p0_one, .inl (cc 0, 41, .inl c_p0_one)), (a_p0_now, .inl (cc 0, 1343, .inl c_p0_now)), (a_p0, .inr (7, [.int ((fX7_refused (2 : Int32)).2), .ref a_p0_text, .int v_p0_size, .ref a_p0_now, .ref a_p0_trial, .ref a_p0_diary, .int v_p0_acts, .ref a_p0_kept, .ref a_p0_isKept, .ref a_p0_drawn, .ref a_p0_one, .ref a_p0_two, .ref a_p0_costs, .int v_p0_nearestOne, .int v_p0_nearestBy, .int v_p0_how, .int v_p0_spot, .int v_p0_closestTwo, .int v_p0_closestBy]))] := hD
        refine lv_aload_n hx hb dX7_signOf_41 rfl (lv_at hl 0 rfl) ?_
        refine va_get (D := D) (ci := 7) (v := .ref a_p0_now) (C := RX7) (T := TX7) (N := 19) hx hb hts inX7_signOf_X7 hown hK hP 2 rfl rfl 3 (by decide) k1 (fun _ h9 => h9) rfl dX7_signOf_42 ?_
        refine lv_bipush (v := (77 : Int32)) hx hb dX7_signOf_45 (by decide) ?_
        obtain ⟨g16, h⟩ := gd h
        refine va_iald hx hb hK hP 1 0 rfl rfl g16 dX7_signOf_47 ?_
        refine lv_aload_n hx hb dX7_signOf_48 rfl (lv_at hl 0 rfl) ?_
        refine va_get (D := D) (ci := 7) (v := .ref a_p0_one) (C := RX7) (T := TX7) (N := 19) hx hb hts inX7_signOf_X7 hown hK hP 2 rfl rfl 10 (by decide) k2 (fun _ h9 => h9) rfl dX7_signOf_49 ?_
        obtain ⟨r_17, c_p0_one_17, hc17, h⟩ := b2_some h
        refine xcalli (wr := [(a_p0, .inr (7, [.int ((fX7_refused (2 : Int32)).2), .ref a_p0_text, .int v_p0_size, .ref a_p0_now, .ref a_p0_trial, .ref a_p0_diary, .int v_p0_acts, .ref a_p0_kept, .ref a_p0_isKept, .ref a_p0_drawn, .ref a_p0_one, .ref a_p0_two, .ref a_p0_costs, .int v_p0_nearestOne, .int v_p0_nearestBy, .int v_p0_how, .int v_p0_spot, .int v_p0_closestTwo, .int v_p0_closestBy]))]) [1, 0] [2] (xrunS (As := [.ref a_p0_now, .int (fX7_at p1), .int (c_p0_now (77 : Int32).toNatClampNeg), .ref a_p0_one]) (rest := []) F ((kX7_signature l D cc (a_p0 := a_p0_now) (a_p3 := a_p0_one) (n_p0 := 1343) (n_p3 := 41) (c_p0 := c_p0_now) (c_p3 := c_p0_one) (p1 := (fX7_at p1)) (p2 := c_p0_now (77 : Int32).toNatClampNeg) (r0 := r_17) (c_p3_o := c_p0_one_17) (h := hc17)) _) (cwS 4 hts gX7_signOf_X7_signature rfl rfl rfl (by decide +kernel) ⟨Nat.le_of_ble_eq_true rfl, Nat.le_of_ble_eq_true rfl⟩) hK hN hP hD [1, 0] rfl (by decide) rfl hl rfl (Nat.le_of_ble_eq_true rfl) dX7_signOf_52 ⟨Nat.zero_le _, Nat.zero_le _⟩) hP hD hS hA rfl rfl (by decide) (by decide) (fun _ H locs hP hD hS => ?_)
        have hP : va_P D vwCl [(a_p0, .inr (7, [.int ((fX7_refused (2 : Int32)).2), .ref a_p0_text, .int v_p0_size, .ref a_p0_now, .ref a_p0_trial, .ref a_p0_diary, .int v_p0_acts, .ref a_p0_kept, .ref a_p0_isKept, .ref a_p0_drawn, .ref a_p0_one, .ref a_p0_two, .ref a_p0_costs, .int v_p0_nearestOne, .int v_p0_nearestBy, .int v_p0_how, .int v_p0_spot, .int v_p0_closestTwo, .int v_p0_closestBy])), (a_p0_now, .inl (cc 0, 1343, .inl c_p0_now)), (a_p0_one, .inl (cc 0, 41, .inl c_p0_one_17))] H := hP
        have hD : va_D A [(a_p0, .inr (7, [.int ((fX7_refused (2 : Int32)).2), .ref a_p0_text, .int v_p0_size, .ref a_p0_now, .ref a_p0_trial, .ref a_p0_diary, .int v_p0_acts, .ref a_p0_kept, .ref a_p0_isKept, .ref a_p0_drawn, .ref a_p0_one, .ref a_p0_two, .ref a_p0_costs, .int v_p0_nearestOne, .int v_p0_nearestBy, .int v_p0_how, .int v_p0_spot, .int v_p0_closestTwo, .int v_p0_closestBy])), (a_p0_now, .inl (cc 0, 1343, .inl c_p0_now)), (a_p0_one, .inl (cc 0, 41, .inl c_p0_one_17))] := hD
        refine lv_istore_n (x := r_17) (lv' := [(3, .int r_17), (0, .ref a_p0), (1, .int p1), (2, .int p2)]) hx hb dX7_signOf_55 rfl hl (by decide) rfl (fun ls hl => ?_)
        refine lv_iload_n hx hb dX7_signOf_56 rfl (lv_at hl 3 rfl) ?_
        refine lv_iload_n hx hb dX7_signOf_57 rfl (lv_at hl 0 rfl) ?_
        refine lv_icmp_ge (tgt := 70) hx hb dX7_signOf_58 (by decide) (fun (c19 : r_17 ≤ p2) => ?_) (fun (c19 : ¬ r_17 ≤ p2) => ?_)
        · replace h := ip c19 h
          refine lv_iconst (v := (-1 : Int32)) hx hb dX7_signOf_70 (by decide) ?_
          cases h
          exact xendi (ret := none) F hsz hAe hK hP hD hS (fun _ => 0) rfl rfl (Nat.zero_le _) (Nat.zero_le _) dX7_signOf_71
        · replace h := iq c19 h
          refine lv_aload_n hx hb dX7_signOf_61 rfl (lv_at hl 1 rfl) ?_
          refine va_get (D := D) (ci := 7) (v := .ref a_p0_one) (C := RX7) (T := TX7) (N := 19) hx hb hts inX7_signOf_X7 hown hK hP 0 rfl rfl 10 (by decide) k2 (fun _ h9 => h9) rfl dX7_signOf_62 ?_
          refine lv_iload_n hx hb dX7_signOf_65 rfl (lv_at hl 3 rfl) ?_
          obtain ⟨g20, h⟩ := gd h
          refine va_iald hx hb hK hP 2 0 rfl rfl g20 dX7_signOf_66 ?_
          refine lv_goto (tgt := 71) hx hb dX7_signOf_67 (by decide) ?_
          cases h
          exact xendi (ret := none) F hsz hAe hK hP hD hS (fun _ => 0) rfl rfl (Nat.zero_le _) (Nat.zero_le _) dX7_signOf_71
      · replace h := iq c14 h
        refine lv_iconst (v := (0 : Int32)) hx hb dX7_signOf_31 (by decide) ?_
        have hP := hP.sub (ws' := [(a_p0, .inr (7, [.int ((fX7_refused (2 : Int32)).2), .ref a_p0_text, .int v_p0_size, .ref a_p0_now, .ref a_p0_trial, .ref a_p0_diary, .int v_p0_acts, .ref a_p0_kept, .ref a_p0_isKept, .ref a_p0_drawn, .ref a_p0_one, .ref a_p0_two, .ref a_p0_costs, .int v_p0_nearestOne, .int v_p0_nearestBy, .int v_p0_how, .int v_p0_spot, .int v_p0_closestTwo, .int v_p0_closestBy])), (a_p0_now, .inl (cc 0, 1343, .inl c_p0_now)), (a_p0_one, .inl (cc 0, 41, .inl c_p0_one))]) [2, 1, 0] rfl
        have hD := hD.sub (ws' := [(a_p0, .inr (7, [.int ((fX7_refused (2 : Int32)).2), .ref a_p0_text, .int v_p0_size, .ref a_p0_now, .ref a_p0_trial, .ref a_p0_diary, .int v_p0_acts, .ref a_p0_kept, .ref a_p0_isKept, .ref a_p0_drawn, .ref a_p0_one, .ref a_p0_two, .ref a_p0_costs, .int v_p0_nearestOne, .int v_p0_nearestBy, .int v_p0_how, .int v_p0_spot, .int v_p0_closestTwo, .int v_p0_closestBy])), (a_p0_now, .inl (cc 0, 1343, .inl c_p0_now)), (a_p0_one, .inl (cc 0, 41, .inl c_p0_one))]) [2, 1, 0] (by decide) rfl
        cases h
        exact xendi (ret := none) F hsz hAe hK hP hD hS (fun _ => 0) rfl rfl (Nat.zero_le _) (Nat.zero_le _) dX7_signOf_32
  · replace h := ip c3 h
    refine lv_iconst (v := (1 : Int32)) hx hb dX7_signOf_12 (by decide) ?_
    refine lv_goto (tgt := 25) hx hb dX7_signOf_13 (by decide) ?_
    refine xcalli (wr := [(a_p0_one, .inl (cc 0, 41, .inl c_p0_one)), (a_p0_now, .inl (cc 0, 1343, .inl c_p0_now))]) [0] [1, 2] (xrunV (As := [.int (1 : Int32)]) (rest := []) F ((kX7_refused l D cc (a_p0 := a_p0) (a_p0_text := a_p0_text) (a_p0_now := a_p0_now) (a_p0_trial := a_p0_trial) (a_p0_diary := a_p0_diary) (a_p0_kept := a_p0_kept) (a_p0_isKept := a_p0_isKept) (a_p0_drawn := a_p0_drawn) (a_p0_one := a_p0_one) (a_p0_two := a_p0_two) (a_p0_costs := a_p0_costs) (v_p0_refusal := v_p0_refusal) (v_p0_size := v_p0_size) (v_p0_acts := v_p0_acts) (v_p0_nearestOne := v_p0_nearestOne) (v_p0_nearestBy := v_p0_nearestBy) (v_p0_how := v_p0_how) (v_p0_spot := v_p0_spot) (v_p0_closestTwo := v_p0_closestTwo) (v_p0_closestBy := v_p0_closestBy) (p1 := (1 : Int32)) (r0 := (fX7_refused (1 : Int32)).1) (v_p0_refusal_o := (fX7_refused (1 : Int32)).2) (h := rfl)) _) (cwV 1 hts gX7_signOf_X7_refused rfl rfl rfl (by decide +kernel) ⟨Nat.le_of_ble_eq_true rfl, Nat.le_of_ble_eq_true rfl⟩) hK hN hP hD [0] rfl (by decide) (q0 := 0) rfl rfl rfl rfl hl rfl (Nat.le_of_ble_eq_true rfl) dX7_signOf_25 ⟨Nat.zero_le _, Nat.zero_le _⟩) hP hD hS hA rfl rfl (by decide) (by decide) (fun _ H locs hP hD hS => ?_)
    have hP : va_P D vwCl [(a_p0_one, .inl (cc 0, 41, .inl c_p0_one)), (a_p0_now, .inl (cc 0, 1343, .inl c_p0_now)), (a_p0, .inr (7, [.int ((fX7_refused (1 : Int32)).2), .ref a_p0_text, .int v_p0_size, .ref a_p0_now, .ref a_p0_trial, .ref a_p0_diary, .int v_p0_acts, .ref a_p0_kept, .ref a_p0_isKept, .ref a_p0_drawn, .ref a_p0_one, .ref a_p0_two, .ref a_p0_costs, .int v_p0_nearestOne, .int v_p0_nearestBy, .int v_p0_how, .int v_p0_spot, .int v_p0_closestTwo, .int v_p0_closestBy]))] H := hP
    have hD : va_D A [(a_p0_one, .inl (cc 0, 41, .inl c_p0_one)), (a_p0_now, .inl (cc 0, 1343, .inl c_p0_now)), (a_p0, .inr (7, [.int ((fX7_refused (1 : Int32)).2), .ref a_p0_text, .int v_p0_size, .ref a_p0_now, .ref a_p0_trial, .ref a_p0_diary, .int v_p0_acts, .ref a_p0_kept, .ref a_p0_isKept, .ref a_p0_drawn, .ref a_p0_one, .ref a_p0_two, .ref a_p0_costs, .int v_p0_nearestOne, .int v_p0_nearestBy, .int v_p0_how, .int v_p0_spot, .int v_p0_closestTwo, .int v_p0_closestBy]))] := hD
    refine lv_if_eq (tgt := 33) hx hb dX7_signOf_28 (by decide) (fun (c22 : ((fX7_refused (1 : Int32)).1) = 0) => ?_) (fun (c22 : ¬ ((fX7_refused (1 : Int32)).1) = 0) => ?_)
    · replace h := ip c22 h
      refine lv_aload_n hx hb dX7_signOf_33 rfl (lv_at hl 0 rfl) ?_
      refine va_get (D := D) (ci := 7) (v := .ref a_p0_now) (C := RX7) (T := TX7) (N := 19) hx hb hts inX7_signOf_X7 hown hK hP 2 rfl rfl 3 (by decide) k1 (fun _ h9 => h9) rfl dX7_signOf_34 ?_
      refine lv_iload_n hx hb dX7_signOf_37 rfl (lv_at hl 1 rfl) ?_
      refine xcalli (wr := [(a_p0_one, .inl (cc 0, 41, .inl c_p0_one)), (a_p0_now, .inl (cc 0, 1343, .inl c_p0_now)), (a_p0, .inr (7, [.int ((fX7_refused (1 : Int32)).2), .ref a_p0_text, .int v_p0_size, .ref a_p0_now, .ref a_p0_trial, .ref a_p0_diary, .int v_p0_acts, .ref a_p0_kept, .ref a_p0_isKept, .ref a_p0_drawn, .ref a_p0_one, .ref a_p0_two, .ref a_p0_costs, .int v_p0_nearestOne, .int v_p0_nearestBy, .int v_p0_how, .int v_p0_spot, .int v_p0_closestTwo, .int v_p0_closestBy]))]) [] [0, 1, 2] (xrunS (As := [.int p1]) (rest := [.ref a_p0_now]) F ((kX7_at l D cc (p0 := p1) (r0 := (fX7_at p1)) (h := rfl)) _) (cwS 1 hts gX7_signOf_X7_at rfl rfl rfl (by decide +kernel) ⟨Nat.le_of_ble_eq_true rfl, Nat.le_of_ble_eq_true rfl⟩) hK hN hP hD [] rfl (by decide) rfl hl rfl (Nat.le_of_ble_eq_true rfl) dX7_signOf_38 ⟨Nat.zero_le _, Nat.zero_le _⟩) hP hD hS hA rfl rfl (by decide) (by decide) (fun _ H locs hP hD hS => ?_)
      have hP : va_P D vwCl [(a_p0_one, .inl (cc 0, 41, .inl c_p0_one)), (a_p0_now, .inl (cc 0, 1343, .inl c_p0_now)), (a_p0, .inr (7, [.int ((fX7_refused (1 : Int32)).2), .ref a_p0_text, .int v_p0_size, .ref a_p0_now, .ref a_p0_trial, .ref a_p0_diary, .int v_p0_acts, .ref a_p0_kept, .ref a_p0_isKept, .ref a_p0_drawn, .ref a_p0_one, .ref a_p0_two, .ref a_p0_costs, .int v_p0_nearestOne, .int v_p0_nearestBy, .int v_p0_how, .int v_p0_spot, .int v_p0_closestTwo, .int v_p0_closestBy]))] H := hP
      have hD : va_D A [(a_p0_one, .inl (cc 0, 41, .inl c_p0_one)), (a_p0_now, .inl (cc 0, 1343, .inl c_p0_now)), (a_p0, .inr (7, [.int ((fX7_refused (1 : Int32)).2), .ref a_p0_text, .int v_p0_size, .ref a_p0_now, .ref a_p0_trial, .ref a_p0_diary, .int v_p0_acts, .ref a_p0_kept, .ref a_p0_isKept, .ref a_p0_drawn, .ref a_p0_one, .ref a_p0_two, .ref a_p0_costs, .int v_p0_nearestOne, .int v_p0_nearestBy, .int v_p0_how, .int v_p0_spot, .int v_p0_closestTwo, .int v_p0_closestBy]))] := hD
      refine lv_aload_n hx hb dX7_signOf_41 rfl (lv_at hl 0 rfl) ?_
      refine va_get (D := D) (ci := 7) (v := .ref a_p0_now) (C := RX7) (T := TX7) (N := 19) hx hb hts inX7_signOf_X7 hown hK hP 2 rfl rfl 3 (by decide) k1 (fun _ h9 => h9) rfl dX7_signOf_42 ?_
      refine lv_bipush (v := (77 : Int32)) hx hb dX7_signOf_45 (by decide) ?_
      obtain ⟨g24, h⟩ := gd h
      refine va_iald hx hb hK hP 1 0 rfl rfl g24 dX7_signOf_47 ?_
      refine lv_aload_n hx hb dX7_signOf_48 rfl (lv_at hl 0 rfl) ?_
      refine va_get (D := D) (ci := 7) (v := .ref a_p0_one) (C := RX7) (T := TX7) (N := 19) hx hb hts inX7_signOf_X7 hown hK hP 2 rfl rfl 10 (by decide) k2 (fun _ h9 => h9) rfl dX7_signOf_49 ?_
      obtain ⟨r_25, c_p0_one_25, hc25, h⟩ := b2_some h
      refine xcalli (wr := [(a_p0, .inr (7, [.int ((fX7_refused (1 : Int32)).2), .ref a_p0_text, .int v_p0_size, .ref a_p0_now, .ref a_p0_trial, .ref a_p0_diary, .int v_p0_acts, .ref a_p0_kept, .ref a_p0_isKept, .ref a_p0_drawn, .ref a_p0_one, .ref a_p0_two, .ref a_p0_costs, .int v_p0_nearestOne, .int v_p0_nearestBy, .int v_p0_how, .int v_p0_spot, .int v_p0_closestTwo, .int v_p0_closestBy]))]) [1, 0] [2] (xrunS (As := [.ref a_p0_now, .int (fX7_at p1), .int (c_p0_now (77 : Int32).toNatClampNeg), .ref a_p0_one]) (rest := []) F ((kX7_signature l D cc (a_p0 := a_p0_now) (a_p3 := a_p0_one) (n_p0 := 1343) (n_p3 := 41) (c_p0 := c_p0_now) (c_p3 := c_p0_one) (p1 := (fX7_at p1)) (p2 := c_p0_now (77 : Int32).toNatClampNeg) (r0 := r_25) (c_p3_o := c_p0_one_25) (h := hc25)) _) (cwS 4 hts gX7_signOf_X7_signature rfl rfl rfl (by decide +kernel) ⟨Nat.le_of_ble_eq_true rfl, Nat.le_of_ble_eq_true rfl⟩) hK hN hP hD [1, 0] rfl (by decide) rfl hl rfl (Nat.le_of_ble_eq_true rfl) dX7_signOf_52 ⟨Nat.zero_le _, Nat.zero_le _⟩) hP hD hS hA rfl rfl (by decide) (by decide) (fun _ H locs hP hD hS => ?_)
      have hP : va_P D vwCl [(a_p0, .inr (7, [.int ((fX7_refused (1 : Int32)).2), .ref a_p0_text, .int v_p0_size, .ref a_p0_now, .ref a_p0_trial, .ref a_p0_diary, .int v_p0_acts, .ref a_p0_kept, .ref a_p0_isKept, .ref a_p0_drawn, .ref a_p0_one, .ref a_p0_two, .ref a_p0_costs, .int v_p0_nearestOne, .int v_p0_nearestBy, .int v_p0_how, .int v_p0_spot, .int v_p0_closestTwo, .int v_p0_closestBy])), (a_p0_now, .inl (cc 0, 1343, .inl c_p0_now)), (a_p0_one, .inl (cc 0, 41, .inl c_p0_one_25))] H := hP
      have hD : va_D A [(a_p0, .inr (7, [.int ((fX7_refused (1 : Int32)).2), .ref a_p0_text, .int v_p0_size, .ref a_p0_now, .ref a_p0_trial, .ref a_p0_diary, .int v_p0_acts, .ref a_p0_kept, .ref a_p0_isKept, .ref a_p0_drawn, .ref a_p0_one, .ref a_p0_two, .ref a_p0_costs, .int v_p0_nearestOne, .int v_p0_nearestBy, .int v_p0_how, .int v_p0_spot, .int v_p0_closestTwo, .int v_p0_closestBy])), (a_p0_now, .inl (cc 0, 1343, .inl c_p0_now)), (a_p0_one, .inl (cc 0, 41, .inl c_p0_one_25))] := hD
      refine lv_istore_n (x := r_25) (lv' := [(3, .int r_25), (0, .ref a_p0), (1, .int p1), (2, .int p2)]) hx hb dX7_signOf_55 rfl hl (by decide) rfl (fun ls hl => ?_)
      refine lv_iload_n hx hb dX7_signOf_56 rfl (lv_at hl 3 rfl) ?_
      refine lv_iload_n hx hb dX7_signOf_57 rfl (lv_at hl 0 rfl) ?_
      refine lv_icmp_ge (tgt := 70) hx hb dX7_signOf_58 (by decide) (fun (c27 : r_25 ≤ p2) => ?_) (fun (c27 : ¬ r_25 ≤ p2) => ?_)
      · replace h := ip c27 h
        refine lv_iconst (v := (-1 : Int32)) hx hb dX7_signOf_70 (by decide) ?_
        cases h
        exact xendi (ret := none) F hsz hAe hK hP hD hS (fun _ => 0) rfl rfl (Nat.zero_le _) (Nat.zero_le _) dX7_signOf_71
      · replace h := iq c27 h
        refine lv_aload_n hx hb dX7_signOf_61 rfl (lv_at hl 1 rfl) ?_
        refine va_get (D := D) (ci := 7) (v := .ref a_p0_one) (C := RX7) (T := TX7) (N := 19) hx hb hts inX7_signOf_X7 hown hK hP 0 rfl rfl 10 (by decide) k2 (fun _ h9 => h9) rfl dX7_signOf_62 ?_
        refine lv_iload_n hx hb dX7_signOf_65 rfl (lv_at hl 3 rfl) ?_
        obtain ⟨g28, h⟩ := gd h
        refine va_iald hx hb hK hP 2 0 rfl rfl g28 dX7_signOf_66 ?_
        refine lv_goto (tgt := 71) hx hb dX7_signOf_67 (by decide) ?_
        cases h
        exact xendi (ret := none) F hsz hAe hK hP hD hS (fun _ => 0) rfl rfl (Nat.zero_le _) (Nat.zero_le _) dX7_signOf_71
    · replace h := iq c22 h
      refine lv_iconst (v := (0 : Int32)) hx hb dX7_signOf_31 (by decide) ?_
      have hP := hP.sub (ws' := [(a_p0, .inr (7, [.int ((fX7_refused (1 : Int32)).2), .ref a_p0_text, .int v_p0_size, .ref a_p0_now, .ref a_p0_trial, .ref a_p0_diary, .int v_p0_acts, .ref a_p0_kept, .ref a_p0_isKept, .ref a_p0_drawn, .ref a_p0_one, .ref a_p0_two, .ref a_p0_costs, .int v_p0_nearestOne, .int v_p0_nearestBy, .int v_p0_how, .int v_p0_spot, .int v_p0_closestTwo, .int v_p0_closestBy])), (a_p0_now, .inl (cc 0, 1343, .inl c_p0_now)), (a_p0_one, .inl (cc 0, 41, .inl c_p0_one))]) [2, 1, 0] rfl
      have hD := hD.sub (ws' := [(a_p0, .inr (7, [.int ((fX7_refused (1 : Int32)).2), .ref a_p0_text, .int v_p0_size, .ref a_p0_now, .ref a_p0_trial, .ref a_p0_diary, .int v_p0_acts, .ref a_p0_kept, .ref a_p0_isKept, .ref a_p0_drawn, .ref a_p0_one, .ref a_p0_two, .ref a_p0_costs, .int v_p0_nearestOne, .int v_p0_nearestBy, .int v_p0_how, .int v_p0_spot, .int v_p0_closestTwo, .int v_p0_closestBy])), (a_p0_now, .inl (cc 0, 1343, .inl c_p0_now)), (a_p0_one, .inl (cc 0, 41, .inl c_p0_one))]) [2, 1, 0] (by decide) rfl
      cases h
      exact xendi (ret := none) F hsz hAe hK hP hD hS (fun _ => 0) rfl rfl (Nat.zero_le _) (Nat.zero_le _) dX7_signOf_32
set_option maxHeartbeats 4000000 in
set_option maxRecDepth 100000 in
theorem kX7_isName (l : Launch) (D : va_G) (cc : Nat → ClassId) (p0 : Int32) (r0 : Int32) (h : fX7_isName p0 = some r0) : xMi l yX7_isName wsX7_isName ({ frames := 1, cells := 0, slots := 0, locals := 25 } : Room) D cc [.int p0] [] r0 (fun _ => []) 0 0 := by
  intro sz
  refine xstart (bc := cX7_isName) (maxL := 1) (ret := (some .boolean)) (by decide) rfl (Nat.le_of_ble_eq_true rfl) ?_
  intro p e s m args below meth c A hargs hsz hAe F hK hN hA hmn hP hD hS ls hl
  have hx := F.1.1
  have hb := F.1.2.1
  have hml := F.1.2.2.1
  have hown := F.1.2.2.2.1
  have hts := F.1.2.2.2.2
  have hl : lv_has ls 1 [(0, .int p0)] := hl
  have k1 := hts (.constantLong RX7 149 (9 : Int64)) (by decide +kernel)
  unfold fX7_isName at h
  refine lv_iload_n hx hb dX7_isName_0 rfl (lv_at hl 0 rfl) ?_
  refine lv_i2l (v := p0.toInt64) hx hb dX7_isName_1 (by first | rfl | decide) ?_
  refine lv_lconst (v := (0 : Int64)) hx hb dX7_isName_2 (by decide) ?_
  refine lv_ldc2 (v := (9 : Int64)) hx hb hown k1 dX7_isName_3 ?_
  refine xcalli (wr := []) [] [] (xrunS (As := [.long p0.toInt64, .long (0 : Int64), .long (9 : Int64)]) (rest := []) F ((kX7_in l D cc (p0 := p0.toInt64) (p2 := (0 : Int64)) (p4 := (9 : Int64)) (r0 := (fX7_in p0.toInt64 (0 : Int64) (9 : Int64))) (h := rfl)) _) (cwS 3 hts gX7_isName_X7_in rfl rfl rfl (by decide +kernel) ⟨Nat.le_of_ble_eq_true rfl, Nat.le_of_ble_eq_true rfl⟩) hK hN hP hD [] rfl (by decide) rfl hl rfl (Nat.le_of_ble_eq_true rfl) dX7_isName_6 ⟨Nat.zero_le _, Nat.zero_le _⟩) hP hD hS hA rfl rfl (by decide) (by decide) (fun _ H locs hP hD hS => ?_)
  have hP : va_P D vwCl [] H := hP
  have hD : va_D A [] := hD
  obtain ⟨g2, h⟩ := gz h
  cases h
  exact xendz F g2 hsz hAe hK hP hD hS (fun _ => 0) rfl rfl (Nat.zero_le _) (Nat.zero_le _) dX7_isName_9
theorem inX7_practised_X7 : ∀ w ∈ wsX70, w ∈ wsX7_practised := by decide +kernel
set_option maxHeartbeats 4000000 in
set_option maxRecDepth 100000 in
theorem kX7_practised (l : Launch) (D : va_G) (cc : Nat → ClassId) (a_p0 : Nat) (a_p0_text : Nat) (a_p0_now : Nat) (a_p0_trial : Nat) (a_p0_diary : Nat) (a_p0_kept : Nat) (a_p0_isKept : Nat) (a_p0_drawn : Nat) (a_p0_one : Nat) (a_p0_two : Nat) (a_p0_costs : Nat) (v_p0_refusal : Int32) (v_p0_size : Int32) (v_p0_acts : Int32) (v_p0_nearestOne : Int32) (v_p0_nearestBy : Int32) (v_p0_how : Int32) (v_p0_spot : Int32) (v_p0_closestTwo : Int32) (v_p0_closestBy : Int32) (c_p0_now : Nat → Int32) (p1 : Int32) (p2 : Int32) (r0 : Int32) (v_p0_refusal_o : Int32) (h : fX7_practised p1 p2 c_p0_now = some (r0, v_p0_refusal_o)) : xMi l yX7_practised wsX7_practised ({ frames := 2, cells := 0, slots := 0, locals := 45 } : Room) D cc [.ref a_p0, .int p1, .int p2] [(a_p0, .inr (7, [.int v_p0_refusal, .ref a_p0_text, .int v_p0_size, .ref a_p0_now, .ref a_p0_trial, .ref a_p0_diary, .int v_p0_acts, .ref a_p0_kept, .ref a_p0_isKept, .ref a_p0_drawn, .ref a_p0_one, .ref a_p0_two, .ref a_p0_costs, .int v_p0_nearestOne, .int v_p0_nearestBy, .int v_p0_how, .int v_p0_spot, .int v_p0_closestTwo, .int v_p0_closestBy])), (a_p0_now, .inl (cc 0, 1343, .inl c_p0_now))] r0 (fun _ => [(a_p0, .inr (7, [.int v_p0_refusal_o, .ref a_p0_text, .int v_p0_size, .ref a_p0_now, .ref a_p0_trial, .ref a_p0_diary, .int v_p0_acts, .ref a_p0_kept, .ref a_p0_isKept, .ref a_p0_drawn, .ref a_p0_one, .ref a_p0_two, .ref a_p0_costs, .int v_p0_nearestOne, .int v_p0_nearestBy, .int v_p0_how, .int v_p0_spot, .int v_p0_closestTwo, .int v_p0_closestBy])), (a_p0_now, .inl (cc 0, 1343, .inl c_p0_now))]) 0 0 := by
  intro sz
  refine xstart (bc := cX7_practised) (maxL := 3) (ret := (some .int)) (by decide) rfl (Nat.le_of_ble_eq_true rfl) ?_
  intro p e s m args below meth c A hargs hsz hAe F hK hN hA hmn hP hD hS ls hl
  have hx := F.1.1
  have hb := F.1.2.1
  have hml := F.1.2.2.1
  have hown := F.1.2.2.2.1
  have hts := F.1.2.2.2.2
  have hl : lv_has ls 3 [(0, .ref a_p0), (1, .int p1), (2, .int p2)] := hl
  have k1 := hts (.fieldLink RX7 13 "RuledStrokesModel" "now" "[I") (by decide +kernel)
  have k2 := hts (.constantLong RX7 154 (2 : Int64)) (by decide +kernel)
  unfold fX7_practised at h
  refine lv_aload_n hx hb dX7_practised_0 rfl (lv_at hl 0 rfl) ?_
  refine lv_iload_n hx hb dX7_practised_1 rfl (lv_at hl 1 rfl) ?_
  obtain ⟨r_1, hc1, h⟩ := b1_some h
  refine xcalli (wr := [(a_p0, .inr (7, [.int v_p0_refusal, .ref a_p0_text, .int v_p0_size, .ref a_p0_now, .ref a_p0_trial, .ref a_p0_diary, .int v_p0_acts, .ref a_p0_kept, .ref a_p0_isKept, .ref a_p0_drawn, .ref a_p0_one, .ref a_p0_two, .ref a_p0_costs, .int v_p0_nearestOne, .int v_p0_nearestBy, .int v_p0_how, .int v_p0_spot, .int v_p0_closestTwo, .int v_p0_closestBy])), (a_p0_now, .inl (cc 0, 1343, .inl c_p0_now))]) [] [0, 1] (xrunS (As := [.int p1]) (rest := [.ref a_p0]) F ((kX7_isName l D cc (p0 := p1) (r0 := r_1) (h := hc1)) _) (cwS 1 hts gX7_practised_X7_isName rfl rfl rfl (by decide +kernel) ⟨Nat.le_of_ble_eq_true rfl, Nat.le_of_ble_eq_true rfl⟩) hK hN hP hD [] rfl (by decide) rfl hl rfl (Nat.le_of_ble_eq_true rfl) dX7_practised_2 ⟨Nat.zero_le _, Nat.zero_le _⟩) hP hD hS hA rfl rfl (by decide) (by decide) (fun _ H locs hP hD hS => ?_)
  have hP : va_P D vwCl [(a_p0, .inr (7, [.int v_p0_refusal, .ref a_p0_text, .int v_p0_size, .ref a_p0_now, .ref a_p0_trial, .ref a_p0_diary, .int v_p0_acts, .ref a_p0_kept, .ref a_p0_isKept, .ref a_p0_drawn, .ref a_p0_one, .ref a_p0_two, .ref a_p0_costs, .int v_p0_nearestOne, .int v_p0_nearestBy, .int v_p0_how, .int v_p0_spot, .int v_p0_closestTwo, .int v_p0_closestBy])), (a_p0_now, .inl (cc 0, 1343, .inl c_p0_now))] H := hP
  have hD : va_D A [(a_p0, .inr (7, [.int v_p0_refusal, .ref a_p0_text, .int v_p0_size, .ref a_p0_now, .ref a_p0_trial, .ref a_p0_diary, .int v_p0_acts, .ref a_p0_kept, .ref a_p0_isKept, .ref a_p0_drawn, .ref a_p0_one, .ref a_p0_two, .ref a_p0_costs, .int v_p0_nearestOne, .int v_p0_nearestBy, .int v_p0_how, .int v_p0_spot, .int v_p0_closestTwo, .int v_p0_closestBy])), (a_p0_now, .inl (cc 0, 1343, .inl c_p0_now))] := hD
  refine lv_if_eq (tgt := 24) hx hb dX7_practised_5 (by decide) (fun (c3 : r_1 = 0) => ?_) (fun (c3 : ¬ r_1 = 0) => ?_)
  · replace h := ip c3 h
    refine lv_iconst (v := (1 : Int32)) hx hb dX7_practised_24 (by decide) ?_
    refine xcalli (wr := [(a_p0_now, .inl (cc 0, 1343, .inl c_p0_now))]) [0] [1] (xrunV (As := [.int (1 : Int32)]) (rest := []) F ((kX7_refused l D cc (a_p0 := a_p0) (a_p0_text := a_p0_text) (a_p0_now := a_p0_now) (a_p0_trial := a_p0_trial) (a_p0_diary := a_p0_diary) (a_p0_kept := a_p0_kept) (a_p0_isKept := a_p0_isKept) (a_p0_drawn := a_p0_drawn) (a_p0_one := a_p0_one) (a_p0_two := a_p0_two) (a_p0_costs := a_p0_costs) (v_p0_refusal := v_p0_refusal) (v_p0_size := v_p0_size) (v_p0_acts := v_p0_acts) (v_p0_nearestOne := v_p0_nearestOne) (v_p0_nearestBy := v_p0_nearestBy) (v_p0_how := v_p0_how) (v_p0_spot := v_p0_spot) (v_p0_closestTwo := v_p0_closestTwo) (v_p0_closestBy := v_p0_closestBy) (p1 := (1 : Int32)) (r0 := (fX7_refused (1 : Int32)).1) (v_p0_refusal_o := (fX7_refused (1 : Int32)).2) (h := rfl)) _) (cwV 1 hts gX7_practised_X7_refused rfl rfl rfl (by decide +kernel) ⟨Nat.le_of_ble_eq_true rfl, Nat.le_of_ble_eq_true rfl⟩) hK hN hP hD [0] rfl (by decide) (q0 := 0) rfl rfl rfl rfl hl rfl (Nat.le_of_ble_eq_true rfl) dX7_practised_25 ⟨Nat.zero_le _, Nat.zero_le _⟩) hP hD hS hA rfl rfl (by decide) (by decide) (fun _ H locs hP hD hS => ?_)
    have hP : va_P D vwCl [(a_p0_now, .inl (cc 0, 1343, .inl c_p0_now)), (a_p0, .inr (7, [.int ((fX7_refused (1 : Int32)).2), .ref a_p0_text, .int v_p0_size, .ref a_p0_now, .ref a_p0_trial, .ref a_p0_diary, .int v_p0_acts, .ref a_p0_kept, .ref a_p0_isKept, .ref a_p0_drawn, .ref a_p0_one, .ref a_p0_two, .ref a_p0_costs, .int v_p0_nearestOne, .int v_p0_nearestBy, .int v_p0_how, .int v_p0_spot, .int v_p0_closestTwo, .int v_p0_closestBy]))] H := hP
    have hD : va_D A [(a_p0_now, .inl (cc 0, 1343, .inl c_p0_now)), (a_p0, .inr (7, [.int ((fX7_refused (1 : Int32)).2), .ref a_p0_text, .int v_p0_size, .ref a_p0_now, .ref a_p0_trial, .ref a_p0_diary, .int v_p0_acts, .ref a_p0_kept, .ref a_p0_isKept, .ref a_p0_drawn, .ref a_p0_one, .ref a_p0_two, .ref a_p0_costs, .int v_p0_nearestOne, .int v_p0_nearestBy, .int v_p0_how, .int v_p0_spot, .int v_p0_closestTwo, .int v_p0_closestBy]))] := hD
    refine lv_if_eq (tgt := 33) hx hb dX7_practised_28 (by decide) (fun (c5 : ((fX7_refused (1 : Int32)).1) = 0) => ?_) (fun (c5 : ¬ ((fX7_refused (1 : Int32)).1) = 0) => ?_)
    · replace h := ip c5 h
      refine lv_aload_n hx hb dX7_practised_33 rfl (lv_at hl 0 rfl) ?_
      refine va_get (D := D) (ci := 7) (v := .ref a_p0_now) (C := RX7) (T := TX7) (N := 19) hx hb hts inX7_practised_X7 hown hK hP 1 rfl rfl 3 (by decide) k1 (fun _ h9 => h9) rfl dX7_practised_34 ?_
      refine lv_bipush (v := (80 : Int32)) hx hb dX7_practised_37 (by decide) ?_
      refine lv_bipush (v := (10 : Int32)) hx hb dX7_practised_39 (by decide) ?_
      refine lv_iload_n hx hb dX7_practised_41 rfl (lv_at hl 2 rfl) ?_
      refine lv_imul hx hb dX7_practised_42 ?_
      refine lv_iadd hx hb dX7_practised_43 ?_
      refine lv_iload_n hx hb dX7_practised_44 rfl (lv_at hl 1 rfl) ?_
      refine lv_iadd hx hb dX7_practised_45 ?_
      obtain ⟨g6, h⟩ := gd h
      refine va_iald hx hb hK hP 0 0 rfl rfl g6 dX7_practised_46 ?_
      have hP := hP.sub (ws' := [(a_p0, .inr (7, [.int ((fX7_refused (1 : Int32)).2), .ref a_p0_text, .int v_p0_size, .ref a_p0_now, .ref a_p0_trial, .ref a_p0_diary, .int v_p0_acts, .ref a_p0_kept, .ref a_p0_isKept, .ref a_p0_drawn, .ref a_p0_one, .ref a_p0_two, .ref a_p0_costs, .int v_p0_nearestOne, .int v_p0_nearestBy, .int v_p0_how, .int v_p0_spot, .int v_p0_closestTwo, .int v_p0_closestBy])), (a_p0_now, .inl (cc 0, 1343, .inl c_p0_now))]) [1, 0] rfl
      have hD := hD.sub (ws' := [(a_p0, .inr (7, [.int ((fX7_refused (1 : Int32)).2), .ref a_p0_text, .int v_p0_size, .ref a_p0_now, .ref a_p0_trial, .ref a_p0_diary, .int v_p0_acts, .ref a_p0_kept, .ref a_p0_isKept, .ref a_p0_drawn, .ref a_p0_one, .ref a_p0_two, .ref a_p0_costs, .int v_p0_nearestOne, .int v_p0_nearestBy, .int v_p0_how, .int v_p0_spot, .int v_p0_closestTwo, .int v_p0_closestBy])), (a_p0_now, .inl (cc 0, 1343, .inl c_p0_now))]) [1, 0] (by decide) rfl
      cases h
      exact xendi (ret := none) F hsz hAe hK hP hD hS (fun _ => 0) rfl rfl (Nat.zero_le _) (Nat.zero_le _) dX7_practised_47
    · replace h := iq c5 h
      refine lv_iconst (v := (0 : Int32)) hx hb dX7_practised_31 (by decide) ?_
      have hP := hP.sub (ws' := [(a_p0, .inr (7, [.int ((fX7_refused (1 : Int32)).2), .ref a_p0_text, .int v_p0_size, .ref a_p0_now, .ref a_p0_trial, .ref a_p0_diary, .int v_p0_acts, .ref a_p0_kept, .ref a_p0_isKept, .ref a_p0_drawn, .ref a_p0_one, .ref a_p0_two, .ref a_p0_costs, .int v_p0_nearestOne, .int v_p0_nearestBy, .int v_p0_how, .int v_p0_spot, .int v_p0_closestTwo, .int v_p0_closestBy])), (a_p0_now, .inl (cc 0, 1343, .inl c_p0_now))]) [1, 0] rfl
      have hD := hD.sub (ws' := [(a_p0, .inr (7, [.int ((fX7_refused (1 : Int32)).2), .ref a_p0_text, .int v_p0_size, .ref a_p0_now, .ref a_p0_trial, .ref a_p0_diary, .int v_p0_acts, .ref a_p0_kept, .ref a_p0_isKept, .ref a_p0_drawn, .ref a_p0_one, .ref a_p0_two, .ref a_p0_costs, .int v_p0_nearestOne, .int v_p0_nearestBy, .int v_p0_how, .int v_p0_spot, .int v_p0_closestTwo, .int v_p0_closestBy])), (a_p0_now, .inl (cc 0, 1343, .inl c_p0_now))]) [1, 0] (by decide) rfl
      cases h
      exact xendi (ret := none) F hsz hAe hK hP hD hS (fun _ => 0) rfl rfl (Nat.zero_le _) (Nat.zero_le _) dX7_practised_32
  · replace h := iq c3 h
    refine lv_iload_n hx hb dX7_practised_8 rfl (lv_at hl 2 rfl) ?_
    refine lv_i2l (v := p2.toInt64) hx hb dX7_practised_9 (by first | rfl | decide) ?_
    refine lv_lconst (v := (0 : Int64)) hx hb dX7_practised_10 (by decide) ?_
    refine lv_ldc2 (v := (2 : Int64)) hx hb hown k2 dX7_practised_11 ?_
    refine xcalli (wr := [(a_p0, .inr (7, [.int v_p0_refusal, .ref a_p0_text, .int v_p0_size, .ref a_p0_now, .ref a_p0_trial, .ref a_p0_diary, .int v_p0_acts, .ref a_p0_kept, .ref a_p0_isKept, .ref a_p0_drawn, .ref a_p0_one, .ref a_p0_two, .ref a_p0_costs, .int v_p0_nearestOne, .int v_p0_nearestBy, .int v_p0_how, .int v_p0_spot, .int v_p0_closestTwo, .int v_p0_closestBy])), (a_p0_now, .inl (cc 0, 1343, .inl c_p0_now))]) [] [0, 1] (xrunS (As := [.long p2.toInt64, .long (0 : Int64), .long (2 : Int64)]) (rest := [.ref a_p0]) F ((kX7_in l D cc (p0 := p2.toInt64) (p2 := (0 : Int64)) (p4 := (2 : Int64)) (r0 := (fX7_in p2.toInt64 (0 : Int64) (2 : Int64))) (h := rfl)) _) (cwS 3 hts gX7_practised_X7_in rfl rfl rfl (by decide +kernel) ⟨Nat.le_of_ble_eq_true rfl, Nat.le_of_ble_eq_true rfl⟩) hK hN hP hD [] rfl (by decide) rfl hl rfl (Nat.le_of_ble_eq_true rfl) dX7_practised_14 ⟨Nat.zero_le _, Nat.zero_le _⟩) hP hD hS hA rfl rfl (by decide) (by decide) (fun _ H locs hP hD hS => ?_)
    have hP : va_P D vwCl [(a_p0, .inr (7, [.int v_p0_refusal, .ref a_p0_text, .int v_p0_size, .ref a_p0_now, .ref a_p0_trial, .ref a_p0_diary, .int v_p0_acts, .ref a_p0_kept, .ref a_p0_isKept, .ref a_p0_drawn, .ref a_p0_one, .ref a_p0_two, .ref a_p0_costs, .int v_p0_nearestOne, .int v_p0_nearestBy, .int v_p0_how, .int v_p0_spot, .int v_p0_closestTwo, .int v_p0_closestBy])), (a_p0_now, .inl (cc 0, 1343, .inl c_p0_now))] H := hP
    have hD : va_D A [(a_p0, .inr (7, [.int v_p0_refusal, .ref a_p0_text, .int v_p0_size, .ref a_p0_now, .ref a_p0_trial, .ref a_p0_diary, .int v_p0_acts, .ref a_p0_kept, .ref a_p0_isKept, .ref a_p0_drawn, .ref a_p0_one, .ref a_p0_two, .ref a_p0_costs, .int v_p0_nearestOne, .int v_p0_nearestBy, .int v_p0_how, .int v_p0_spot, .int v_p0_closestTwo, .int v_p0_closestBy])), (a_p0_now, .inl (cc 0, 1343, .inl c_p0_now))] := hD
    refine lv_if_eq (tgt := 24) hx hb dX7_practised_17 (by decide) (fun (c8 : (fX7_in p2.toInt64 (0 : Int64) (2 : Int64)) = 0) => ?_) (fun (c8 : ¬ (fX7_in p2.toInt64 (0 : Int64) (2 : Int64)) = 0) => ?_)
    · replace h := ip c8 h
      refine lv_iconst (v := (1 : Int32)) hx hb dX7_practised_24 (by decide) ?_
      refine xcalli (wr := [(a_p0_now, .inl (cc 0, 1343, .inl c_p0_now))]) [0] [1] (xrunV (As := [.int (1 : Int32)]) (rest := []) F ((kX7_refused l D cc (a_p0 := a_p0) (a_p0_text := a_p0_text) (a_p0_now := a_p0_now) (a_p0_trial := a_p0_trial) (a_p0_diary := a_p0_diary) (a_p0_kept := a_p0_kept) (a_p0_isKept := a_p0_isKept) (a_p0_drawn := a_p0_drawn) (a_p0_one := a_p0_one) (a_p0_two := a_p0_two) (a_p0_costs := a_p0_costs) (v_p0_refusal := v_p0_refusal) (v_p0_size := v_p0_size) (v_p0_acts := v_p0_acts) (v_p0_nearestOne := v_p0_nearestOne) (v_p0_nearestBy := v_p0_nearestBy) (v_p0_how := v_p0_how) (v_p0_spot := v_p0_spot) (v_p0_closestTwo := v_p0_closestTwo) (v_p0_closestBy := v_p0_closestBy) (p1 := (1 : Int32)) (r0 := (fX7_refused (1 : Int32)).1) (v_p0_refusal_o := (fX7_refused (1 : Int32)).2) (h := rfl)) _) (cwV 1 hts gX7_practised_X7_refused rfl rfl rfl (by decide +kernel) ⟨Nat.le_of_ble_eq_true rfl, Nat.le_of_ble_eq_true rfl⟩) hK hN hP hD [0] rfl (by decide) (q0 := 0) rfl rfl rfl rfl hl rfl (Nat.le_of_ble_eq_true rfl) dX7_practised_25 ⟨Nat.zero_le _, Nat.zero_le _⟩) hP hD hS hA rfl rfl (by decide) (by decide) (fun _ H locs hP hD hS => ?_)
      have hP : va_P D vwCl [(a_p0_now, .inl (cc 0, 1343, .inl c_p0_now)), (a_p0, .inr (7, [.int ((fX7_refused (1 : Int32)).2), .ref a_p0_text, .int v_p0_size, .ref a_p0_now, .ref a_p0_trial, .ref a_p0_diary, .int v_p0_acts, .ref a_p0_kept, .ref a_p0_isKept, .ref a_p0_drawn, .ref a_p0_one, .ref a_p0_two, .ref a_p0_costs, .int v_p0_nearestOne, .int v_p0_nearestBy, .int v_p0_how, .int v_p0_spot, .int v_p0_closestTwo, .int v_p0_closestBy]))] H := hP
      have hD : va_D A [(a_p0_now, .inl (cc 0, 1343, .inl c_p0_now)), (a_p0, .inr (7, [.int ((fX7_refused (1 : Int32)).2), .ref a_p0_text, .int v_p0_size, .ref a_p0_now, .ref a_p0_trial, .ref a_p0_diary, .int v_p0_acts, .ref a_p0_kept, .ref a_p0_isKept, .ref a_p0_drawn, .ref a_p0_one, .ref a_p0_two, .ref a_p0_costs, .int v_p0_nearestOne, .int v_p0_nearestBy, .int v_p0_how, .int v_p0_spot, .int v_p0_closestTwo, .int v_p0_closestBy]))] := hD
      refine lv_if_eq (tgt := 33) hx hb dX7_practised_28 (by decide) (fun (c10 : ((fX7_refused (1 : Int32)).1) = 0) => ?_) (fun (c10 : ¬ ((fX7_refused (1 : Int32)).1) = 0) => ?_)
      · replace h := ip c10 h
        refine lv_aload_n hx hb dX7_practised_33 rfl (lv_at hl 0 rfl) ?_
        refine va_get (D := D) (ci := 7) (v := .ref a_p0_now) (C := RX7) (T := TX7) (N := 19) hx hb hts inX7_practised_X7 hown hK hP 1 rfl rfl 3 (by decide) k1 (fun _ h9 => h9) rfl dX7_practised_34 ?_
        refine lv_bipush (v := (80 : Int32)) hx hb dX7_practised_37 (by decide) ?_
        refine lv_bipush (v := (10 : Int32)) hx hb dX7_practised_39 (by decide) ?_
        refine lv_iload_n hx hb dX7_practised_41 rfl (lv_at hl 2 rfl) ?_
        refine lv_imul hx hb dX7_practised_42 ?_
        refine lv_iadd hx hb dX7_practised_43 ?_
        refine lv_iload_n hx hb dX7_practised_44 rfl (lv_at hl 1 rfl) ?_
        refine lv_iadd hx hb dX7_practised_45 ?_
        obtain ⟨g11, h⟩ := gd h
        refine va_iald hx hb hK hP 0 0 rfl rfl g11 dX7_practised_46 ?_
        have hP := hP.sub (ws' := [(a_p0, .inr (7, [.int ((fX7_refused (1 : Int32)).2), .ref a_p0_text, .int v_p0_size, .ref a_p0_now, .ref a_p0_trial, .ref a_p0_diary, .int v_p0_acts, .ref a_p0_kept, .ref a_p0_isKept, .ref a_p0_drawn, .ref a_p0_one, .ref a_p0_two, .ref a_p0_costs, .int v_p0_nearestOne, .int v_p0_nearestBy, .int v_p0_how, .int v_p0_spot, .int v_p0_closestTwo, .int v_p0_closestBy])), (a_p0_now, .inl (cc 0, 1343, .inl c_p0_now))]) [1, 0] rfl
        have hD := hD.sub (ws' := [(a_p0, .inr (7, [.int ((fX7_refused (1 : Int32)).2), .ref a_p0_text, .int v_p0_size, .ref a_p0_now, .ref a_p0_trial, .ref a_p0_diary, .int v_p0_acts, .ref a_p0_kept, .ref a_p0_isKept, .ref a_p0_drawn, .ref a_p0_one, .ref a_p0_two, .ref a_p0_costs, .int v_p0_nearestOne, .int v_p0_nearestBy, .int v_p0_how, .int v_p0_spot, .int v_p0_closestTwo, .int v_p0_closestBy])), (a_p0_now, .inl (cc 0, 1343, .inl c_p0_now))]) [1, 0] (by decide) rfl
        cases h
        exact xendi (ret := none) F hsz hAe hK hP hD hS (fun _ => 0) rfl rfl (Nat.zero_le _) (Nat.zero_le _) dX7_practised_47
      · replace h := iq c10 h
        refine lv_iconst (v := (0 : Int32)) hx hb dX7_practised_31 (by decide) ?_
        have hP := hP.sub (ws' := [(a_p0, .inr (7, [.int ((fX7_refused (1 : Int32)).2), .ref a_p0_text, .int v_p0_size, .ref a_p0_now, .ref a_p0_trial, .ref a_p0_diary, .int v_p0_acts, .ref a_p0_kept, .ref a_p0_isKept, .ref a_p0_drawn, .ref a_p0_one, .ref a_p0_two, .ref a_p0_costs, .int v_p0_nearestOne, .int v_p0_nearestBy, .int v_p0_how, .int v_p0_spot, .int v_p0_closestTwo, .int v_p0_closestBy])), (a_p0_now, .inl (cc 0, 1343, .inl c_p0_now))]) [1, 0] rfl
        have hD := hD.sub (ws' := [(a_p0, .inr (7, [.int ((fX7_refused (1 : Int32)).2), .ref a_p0_text, .int v_p0_size, .ref a_p0_now, .ref a_p0_trial, .ref a_p0_diary, .int v_p0_acts, .ref a_p0_kept, .ref a_p0_isKept, .ref a_p0_drawn, .ref a_p0_one, .ref a_p0_two, .ref a_p0_costs, .int v_p0_nearestOne, .int v_p0_nearestBy, .int v_p0_how, .int v_p0_spot, .int v_p0_closestTwo, .int v_p0_closestBy])), (a_p0_now, .inl (cc 0, 1343, .inl c_p0_now))]) [1, 0] (by decide) rfl
        cases h
        exact xendi (ret := none) F hsz hAe hK hP hD hS (fun _ => 0) rfl rfl (Nat.zero_le _) (Nat.zero_le _) dX7_practised_32
    · replace h := iq c8 h
      refine lv_iconst (v := (0 : Int32)) hx hb dX7_practised_20 (by decide) ?_
      refine lv_goto (tgt := 25) hx hb dX7_practised_21 (by decide) ?_
      refine xcalli (wr := [(a_p0_now, .inl (cc 0, 1343, .inl c_p0_now))]) [0] [1] (xrunV (As := [.int (0 : Int32)]) (rest := []) F ((kX7_refused l D cc (a_p0 := a_p0) (a_p0_text := a_p0_text) (a_p0_now := a_p0_now) (a_p0_trial := a_p0_trial) (a_p0_diary := a_p0_diary) (a_p0_kept := a_p0_kept) (a_p0_isKept := a_p0_isKept) (a_p0_drawn := a_p0_drawn) (a_p0_one := a_p0_one) (a_p0_two := a_p0_two) (a_p0_costs := a_p0_costs) (v_p0_refusal := v_p0_refusal) (v_p0_size := v_p0_size) (v_p0_acts := v_p0_acts) (v_p0_nearestOne := v_p0_nearestOne) (v_p0_nearestBy := v_p0_nearestBy) (v_p0_how := v_p0_how) (v_p0_spot := v_p0_spot) (v_p0_closestTwo := v_p0_closestTwo) (v_p0_closestBy := v_p0_closestBy) (p1 := (0 : Int32)) (r0 := (fX7_refused (0 : Int32)).1) (v_p0_refusal_o := (fX7_refused (0 : Int32)).2) (h := rfl)) _) (cwV 1 hts gX7_practised_X7_refused rfl rfl rfl (by decide +kernel) ⟨Nat.le_of_ble_eq_true rfl, Nat.le_of_ble_eq_true rfl⟩) hK hN hP hD [0] rfl (by decide) (q0 := 0) rfl rfl rfl rfl hl rfl (Nat.le_of_ble_eq_true rfl) dX7_practised_25 ⟨Nat.zero_le _, Nat.zero_le _⟩) hP hD hS hA rfl rfl (by decide) (by decide) (fun _ H locs hP hD hS => ?_)
      have hP : va_P D vwCl [(a_p0_now, .inl (cc 0, 1343, .inl c_p0_now)), (a_p0, .inr (7, [.int ((fX7_refused (0 : Int32)).2), .ref a_p0_text, .int v_p0_size, .ref a_p0_now, .ref a_p0_trial, .ref a_p0_diary, .int v_p0_acts, .ref a_p0_kept, .ref a_p0_isKept, .ref a_p0_drawn, .ref a_p0_one, .ref a_p0_two, .ref a_p0_costs, .int v_p0_nearestOne, .int v_p0_nearestBy, .int v_p0_how, .int v_p0_spot, .int v_p0_closestTwo, .int v_p0_closestBy]))] H := hP
      have hD : va_D A [(a_p0_now, .inl (cc 0, 1343, .inl c_p0_now)), (a_p0, .inr (7, [.int ((fX7_refused (0 : Int32)).2), .ref a_p0_text, .int v_p0_size, .ref a_p0_now, .ref a_p0_trial, .ref a_p0_diary, .int v_p0_acts, .ref a_p0_kept, .ref a_p0_isKept, .ref a_p0_drawn, .ref a_p0_one, .ref a_p0_two, .ref a_p0_costs, .int v_p0_nearestOne, .int v_p0_nearestBy, .int v_p0_how, .int v_p0_spot, .int v_p0_closestTwo, .int v_p0_closestBy]))] := hD
      refine lv_if_eq (tgt := 33) hx hb dX7_practised_28 (by decide) (fun (c13 : ((fX7_refused (0 : Int32)).1) = 0) => ?_) (fun (c13 : ¬ ((fX7_refused (0 : Int32)).1) = 0) => ?_)
      · replace h := ip c13 h
        refine lv_aload_n hx hb dX7_practised_33 rfl (lv_at hl 0 rfl) ?_
        refine va_get (D := D) (ci := 7) (v := .ref a_p0_now) (C := RX7) (T := TX7) (N := 19) hx hb hts inX7_practised_X7 hown hK hP 1 rfl rfl 3 (by decide) k1 (fun _ h9 => h9) rfl dX7_practised_34 ?_
        refine lv_bipush (v := (80 : Int32)) hx hb dX7_practised_37 (by decide) ?_
        refine lv_bipush (v := (10 : Int32)) hx hb dX7_practised_39 (by decide) ?_
        refine lv_iload_n hx hb dX7_practised_41 rfl (lv_at hl 2 rfl) ?_
        refine lv_imul hx hb dX7_practised_42 ?_
        refine lv_iadd hx hb dX7_practised_43 ?_
        refine lv_iload_n hx hb dX7_practised_44 rfl (lv_at hl 1 rfl) ?_
        refine lv_iadd hx hb dX7_practised_45 ?_
        obtain ⟨g14, h⟩ := gd h
        refine va_iald hx hb hK hP 0 0 rfl rfl g14 dX7_practised_46 ?_
        have hP := hP.sub (ws' := [(a_p0, .inr (7, [.int ((fX7_refused (0 : Int32)).2), .ref a_p0_text, .int v_p0_size, .ref a_p0_now, .ref a_p0_trial, .ref a_p0_diary, .int v_p0_acts, .ref a_p0_kept, .ref a_p0_isKept, .ref a_p0_drawn, .ref a_p0_one, .ref a_p0_two, .ref a_p0_costs, .int v_p0_nearestOne, .int v_p0_nearestBy, .int v_p0_how, .int v_p0_spot, .int v_p0_closestTwo, .int v_p0_closestBy])), (a_p0_now, .inl (cc 0, 1343, .inl c_p0_now))]) [1, 0] rfl
        have hD := hD.sub (ws' := [(a_p0, .inr (7, [.int ((fX7_refused (0 : Int32)).2), .ref a_p0_text, .int v_p0_size, .ref a_p0_now, .ref a_p0_trial, .ref a_p0_diary, .int v_p0_acts, .ref a_p0_kept, .ref a_p0_isKept, .ref a_p0_drawn, .ref a_p0_one, .ref a_p0_two, .ref a_p0_costs, .int v_p0_nearestOne, .int v_p0_nearestBy, .int v_p0_how, .int v_p0_spot, .int v_p0_closestTwo, .int v_p0_closestBy])), (a_p0_now, .inl (cc 0, 1343, .inl c_p0_now))]) [1, 0] (by decide) rfl
        cases h
        exact xendi (ret := none) F hsz hAe hK hP hD hS (fun _ => 0) rfl rfl (Nat.zero_le _) (Nat.zero_le _) dX7_practised_47
      · replace h := iq c13 h
        refine lv_iconst (v := (0 : Int32)) hx hb dX7_practised_31 (by decide) ?_
        have hP := hP.sub (ws' := [(a_p0, .inr (7, [.int ((fX7_refused (0 : Int32)).2), .ref a_p0_text, .int v_p0_size, .ref a_p0_now, .ref a_p0_trial, .ref a_p0_diary, .int v_p0_acts, .ref a_p0_kept, .ref a_p0_isKept, .ref a_p0_drawn, .ref a_p0_one, .ref a_p0_two, .ref a_p0_costs, .int v_p0_nearestOne, .int v_p0_nearestBy, .int v_p0_how, .int v_p0_spot, .int v_p0_closestTwo, .int v_p0_closestBy])), (a_p0_now, .inl (cc 0, 1343, .inl c_p0_now))]) [1, 0] rfl
        have hD := hD.sub (ws' := [(a_p0, .inr (7, [.int ((fX7_refused (0 : Int32)).2), .ref a_p0_text, .int v_p0_size, .ref a_p0_now, .ref a_p0_trial, .ref a_p0_diary, .int v_p0_acts, .ref a_p0_kept, .ref a_p0_isKept, .ref a_p0_drawn, .ref a_p0_one, .ref a_p0_two, .ref a_p0_costs, .int v_p0_nearestOne, .int v_p0_nearestBy, .int v_p0_how, .int v_p0_spot, .int v_p0_closestTwo, .int v_p0_closestBy])), (a_p0_now, .inl (cc 0, 1343, .inl c_p0_now))]) [1, 0] (by decide) rfl
        cases h
        exact xendi (ret := none) F hsz hAe hK hP hD hS (fun _ => 0) rfl rfl (Nat.zero_le _) (Nat.zero_le _) dX7_practised_32
theorem inX7_setting_X7 : ∀ w ∈ wsX70, w ∈ wsX7_setting := by decide +kernel
set_option maxHeartbeats 4000000 in
set_option maxRecDepth 100000 in
theorem kX7_setting (l : Launch) (D : va_G) (cc : Nat → ClassId) (a_p0 : Nat) (a_p0_text : Nat) (a_p0_now : Nat) (a_p0_trial : Nat) (a_p0_diary : Nat) (a_p0_kept : Nat) (a_p0_isKept : Nat) (a_p0_drawn : Nat) (a_p0_one : Nat) (a_p0_two : Nat) (a_p0_costs : Nat) (v_p0_refusal : Int32) (v_p0_size : Int32) (v_p0_acts : Int32) (v_p0_nearestOne : Int32) (v_p0_nearestBy : Int32) (v_p0_how : Int32) (v_p0_spot : Int32) (v_p0_closestTwo : Int32) (v_p0_closestBy : Int32) (c_p0_now : Nat → Int32) (p1 : Int32) (r0 : Int32) (v_p0_refusal_o : Int32) (h : fX7_setting p1 c_p0_now = some (r0, v_p0_refusal_o)) : xMi l yX7_setting wsX7_setting ({ frames := 1, cells := 0, slots := 0, locals := 25 } : Room) D cc [.ref a_p0, .int p1] [(a_p0, .inr (7, [.int v_p0_refusal, .ref a_p0_text, .int v_p0_size, .ref a_p0_now, .ref a_p0_trial, .ref a_p0_diary, .int v_p0_acts, .ref a_p0_kept, .ref a_p0_isKept, .ref a_p0_drawn, .ref a_p0_one, .ref a_p0_two, .ref a_p0_costs, .int v_p0_nearestOne, .int v_p0_nearestBy, .int v_p0_how, .int v_p0_spot, .int v_p0_closestTwo, .int v_p0_closestBy])), (a_p0_now, .inl (cc 0, 1343, .inl c_p0_now))] r0 (fun _ => [(a_p0, .inr (7, [.int v_p0_refusal_o, .ref a_p0_text, .int v_p0_size, .ref a_p0_now, .ref a_p0_trial, .ref a_p0_diary, .int v_p0_acts, .ref a_p0_kept, .ref a_p0_isKept, .ref a_p0_drawn, .ref a_p0_one, .ref a_p0_two, .ref a_p0_costs, .int v_p0_nearestOne, .int v_p0_nearestBy, .int v_p0_how, .int v_p0_spot, .int v_p0_closestTwo, .int v_p0_closestBy])), (a_p0_now, .inl (cc 0, 1343, .inl c_p0_now))]) 0 0 := by
  intro sz
  refine xstart (bc := cX7_setting) (maxL := 2) (ret := (some .int)) (by decide) rfl (Nat.le_of_ble_eq_true rfl) ?_
  intro p e s m args below meth c A hargs hsz hAe F hK hN hA hmn hP hD hS ls hl
  have hx := F.1.1
  have hb := F.1.2.1
  have hml := F.1.2.2.1
  have hown := F.1.2.2.2.1
  have hts := F.1.2.2.2.2
  have hl : lv_has ls 2 [(0, .ref a_p0), (1, .int p1)] := hl
  have k1 := hts (.constantLong RX7 154 (2 : Int64)) (by decide +kernel)
  have k2 := hts (.fieldLink RX7 13 "RuledStrokesModel" "now" "[I") (by decide +kernel)
  unfold fX7_setting at h
  refine lv_aload_n hx hb dX7_setting_0 rfl (lv_at hl 0 rfl) ?_
  refine lv_iload_n hx hb dX7_setting_1 rfl (lv_at hl 1 rfl) ?_
  refine lv_i2l (v := p1.toInt64) hx hb dX7_setting_2 (by first | rfl | decide) ?_
  refine lv_lconst (v := (0 : Int64)) hx hb dX7_setting_3 (by decide) ?_
  refine lv_ldc2 (v := (2 : Int64)) hx hb hown k1 dX7_setting_4 ?_
  refine xcalli (wr := [(a_p0, .inr (7, [.int v_p0_refusal, .ref a_p0_text, .int v_p0_size, .ref a_p0_now, .ref a_p0_trial, .ref a_p0_diary, .int v_p0_acts, .ref a_p0_kept, .ref a_p0_isKept, .ref a_p0_drawn, .ref a_p0_one, .ref a_p0_two, .ref a_p0_costs, .int v_p0_nearestOne, .int v_p0_nearestBy, .int v_p0_how, .int v_p0_spot, .int v_p0_closestTwo, .int v_p0_closestBy])), (a_p0_now, .inl (cc 0, 1343, .inl c_p0_now))]) [] [0, 1] (xrunS (As := [.long p1.toInt64, .long (0 : Int64), .long (2 : Int64)]) (rest := [.ref a_p0]) F ((kX7_in l D cc (p0 := p1.toInt64) (p2 := (0 : Int64)) (p4 := (2 : Int64)) (r0 := (fX7_in p1.toInt64 (0 : Int64) (2 : Int64))) (h := rfl)) _) (cwS 3 hts gX7_setting_X7_in rfl rfl rfl (by decide +kernel) ⟨Nat.le_of_ble_eq_true rfl, Nat.le_of_ble_eq_true rfl⟩) hK hN hP hD [] rfl (by decide) rfl hl rfl (Nat.le_of_ble_eq_true rfl) dX7_setting_7 ⟨Nat.zero_le _, Nat.zero_le _⟩) hP hD hS hA rfl rfl (by decide) (by decide) (fun _ H locs hP hD hS => ?_)
  have hP : va_P D vwCl [(a_p0, .inr (7, [.int v_p0_refusal, .ref a_p0_text, .int v_p0_size, .ref a_p0_now, .ref a_p0_trial, .ref a_p0_diary, .int v_p0_acts, .ref a_p0_kept, .ref a_p0_isKept, .ref a_p0_drawn, .ref a_p0_one, .ref a_p0_two, .ref a_p0_costs, .int v_p0_nearestOne, .int v_p0_nearestBy, .int v_p0_how, .int v_p0_spot, .int v_p0_closestTwo, .int v_p0_closestBy])), (a_p0_now, .inl (cc 0, 1343, .inl c_p0_now))] H := hP
  have hD : va_D A [(a_p0, .inr (7, [.int v_p0_refusal, .ref a_p0_text, .int v_p0_size, .ref a_p0_now, .ref a_p0_trial, .ref a_p0_diary, .int v_p0_acts, .ref a_p0_kept, .ref a_p0_isKept, .ref a_p0_drawn, .ref a_p0_one, .ref a_p0_two, .ref a_p0_costs, .int v_p0_nearestOne, .int v_p0_nearestBy, .int v_p0_how, .int v_p0_spot, .int v_p0_closestTwo, .int v_p0_closestBy])), (a_p0_now, .inl (cc 0, 1343, .inl c_p0_now))] := hD
  refine lv_if_eq (tgt := 17) hx hb dX7_setting_10 (by decide) (fun (c2 : (fX7_in p1.toInt64 (0 : Int64) (2 : Int64)) = 0) => ?_) (fun (c2 : ¬ (fX7_in p1.toInt64 (0 : Int64) (2 : Int64)) = 0) => ?_)
  · replace h := ip c2 h
    refine lv_iconst (v := (1 : Int32)) hx hb dX7_setting_17 (by decide) ?_
    refine xcalli (wr := [(a_p0_now, .inl (cc 0, 1343, .inl c_p0_now))]) [0] [1] (xrunV (As := [.int (1 : Int32)]) (rest := []) F ((kX7_refused l D cc (a_p0 := a_p0) (a_p0_text := a_p0_text) (a_p0_now := a_p0_now) (a_p0_trial := a_p0_trial) (a_p0_diary := a_p0_diary) (a_p0_kept := a_p0_kept) (a_p0_isKept := a_p0_isKept) (a_p0_drawn := a_p0_drawn) (a_p0_one := a_p0_one) (a_p0_two := a_p0_two) (a_p0_costs := a_p0_costs) (v_p0_refusal := v_p0_refusal) (v_p0_size := v_p0_size) (v_p0_acts := v_p0_acts) (v_p0_nearestOne := v_p0_nearestOne) (v_p0_nearestBy := v_p0_nearestBy) (v_p0_how := v_p0_how) (v_p0_spot := v_p0_spot) (v_p0_closestTwo := v_p0_closestTwo) (v_p0_closestBy := v_p0_closestBy) (p1 := (1 : Int32)) (r0 := (fX7_refused (1 : Int32)).1) (v_p0_refusal_o := (fX7_refused (1 : Int32)).2) (h := rfl)) _) (cwV 1 hts gX7_setting_X7_refused rfl rfl rfl (by decide +kernel) ⟨Nat.le_of_ble_eq_true rfl, Nat.le_of_ble_eq_true rfl⟩) hK hN hP hD [0] rfl (by decide) (q0 := 0) rfl rfl rfl rfl hl rfl (Nat.le_of_ble_eq_true rfl) dX7_setting_18 ⟨Nat.zero_le _, Nat.zero_le _⟩) hP hD hS hA rfl rfl (by decide) (by decide) (fun _ H locs hP hD hS => ?_)
    have hP : va_P D vwCl [(a_p0_now, .inl (cc 0, 1343, .inl c_p0_now)), (a_p0, .inr (7, [.int ((fX7_refused (1 : Int32)).2), .ref a_p0_text, .int v_p0_size, .ref a_p0_now, .ref a_p0_trial, .ref a_p0_diary, .int v_p0_acts, .ref a_p0_kept, .ref a_p0_isKept, .ref a_p0_drawn, .ref a_p0_one, .ref a_p0_two, .ref a_p0_costs, .int v_p0_nearestOne, .int v_p0_nearestBy, .int v_p0_how, .int v_p0_spot, .int v_p0_closestTwo, .int v_p0_closestBy]))] H := hP
    have hD : va_D A [(a_p0_now, .inl (cc 0, 1343, .inl c_p0_now)), (a_p0, .inr (7, [.int ((fX7_refused (1 : Int32)).2), .ref a_p0_text, .int v_p0_size, .ref a_p0_now, .ref a_p0_trial, .ref a_p0_diary, .int v_p0_acts, .ref a_p0_kept, .ref a_p0_isKept, .ref a_p0_drawn, .ref a_p0_one, .ref a_p0_two, .ref a_p0_costs, .int v_p0_nearestOne, .int v_p0_nearestBy, .int v_p0_how, .int v_p0_spot, .int v_p0_closestTwo, .int v_p0_closestBy]))] := hD
    refine lv_if_eq (tgt := 26) hx hb dX7_setting_21 (by decide) (fun (c4 : ((fX7_refused (1 : Int32)).1) = 0) => ?_) (fun (c4 : ¬ ((fX7_refused (1 : Int32)).1) = 0) => ?_)
    · replace h := ip c4 h
      refine lv_aload_n hx hb dX7_setting_26 rfl (lv_at hl 0 rfl) ?_
      refine va_get (D := D) (ci := 7) (v := .ref a_p0_now) (C := RX7) (T := TX7) (N := 19) hx hb hts inX7_setting_X7 hown hK hP 1 rfl rfl 3 (by decide) k2 (fun _ h9 => h9) rfl dX7_setting_27 ?_
      refine lv_bipush (v := (77 : Int32)) hx hb dX7_setting_30 (by decide) ?_
      refine lv_iload_n hx hb dX7_setting_32 rfl (lv_at hl 1 rfl) ?_
      refine lv_iadd hx hb dX7_setting_33 ?_
      obtain ⟨g5, h⟩ := gd h
      refine va_iald hx hb hK hP 0 0 rfl rfl g5 dX7_setting_34 ?_
      have hP := hP.sub (ws' := [(a_p0, .inr (7, [.int ((fX7_refused (1 : Int32)).2), .ref a_p0_text, .int v_p0_size, .ref a_p0_now, .ref a_p0_trial, .ref a_p0_diary, .int v_p0_acts, .ref a_p0_kept, .ref a_p0_isKept, .ref a_p0_drawn, .ref a_p0_one, .ref a_p0_two, .ref a_p0_costs, .int v_p0_nearestOne, .int v_p0_nearestBy, .int v_p0_how, .int v_p0_spot, .int v_p0_closestTwo, .int v_p0_closestBy])), (a_p0_now, .inl (cc 0, 1343, .inl c_p0_now))]) [1, 0] rfl
      have hD := hD.sub (ws' := [(a_p0, .inr (7, [.int ((fX7_refused (1 : Int32)).2), .ref a_p0_text, .int v_p0_size, .ref a_p0_now, .ref a_p0_trial, .ref a_p0_diary, .int v_p0_acts, .ref a_p0_kept, .ref a_p0_isKept, .ref a_p0_drawn, .ref a_p0_one, .ref a_p0_two, .ref a_p0_costs, .int v_p0_nearestOne, .int v_p0_nearestBy, .int v_p0_how, .int v_p0_spot, .int v_p0_closestTwo, .int v_p0_closestBy])), (a_p0_now, .inl (cc 0, 1343, .inl c_p0_now))]) [1, 0] (by decide) rfl
      cases h
      exact xendi (ret := none) F hsz hAe hK hP hD hS (fun _ => 0) rfl rfl (Nat.zero_le _) (Nat.zero_le _) dX7_setting_35
    · replace h := iq c4 h
      refine lv_iconst (v := (0 : Int32)) hx hb dX7_setting_24 (by decide) ?_
      have hP := hP.sub (ws' := [(a_p0, .inr (7, [.int ((fX7_refused (1 : Int32)).2), .ref a_p0_text, .int v_p0_size, .ref a_p0_now, .ref a_p0_trial, .ref a_p0_diary, .int v_p0_acts, .ref a_p0_kept, .ref a_p0_isKept, .ref a_p0_drawn, .ref a_p0_one, .ref a_p0_two, .ref a_p0_costs, .int v_p0_nearestOne, .int v_p0_nearestBy, .int v_p0_how, .int v_p0_spot, .int v_p0_closestTwo, .int v_p0_closestBy])), (a_p0_now, .inl (cc 0, 1343, .inl c_p0_now))]) [1, 0] rfl
      have hD := hD.sub (ws' := [(a_p0, .inr (7, [.int ((fX7_refused (1 : Int32)).2), .ref a_p0_text, .int v_p0_size, .ref a_p0_now, .ref a_p0_trial, .ref a_p0_diary, .int v_p0_acts, .ref a_p0_kept, .ref a_p0_isKept, .ref a_p0_drawn, .ref a_p0_one, .ref a_p0_two, .ref a_p0_costs, .int v_p0_nearestOne, .int v_p0_nearestBy, .int v_p0_how, .int v_p0_spot, .int v_p0_closestTwo, .int v_p0_closestBy])), (a_p0_now, .inl (cc 0, 1343, .inl c_p0_now))]) [1, 0] (by decide) rfl
      cases h
      exact xendi (ret := none) F hsz hAe hK hP hD hS (fun _ => 0) rfl rfl (Nat.zero_le _) (Nat.zero_le _) dX7_setting_25
  · replace h := iq c2 h
    refine lv_iconst (v := (0 : Int32)) hx hb dX7_setting_13 (by decide) ?_
    refine lv_goto (tgt := 18) hx hb dX7_setting_14 (by decide) ?_
    refine xcalli (wr := [(a_p0_now, .inl (cc 0, 1343, .inl c_p0_now))]) [0] [1] (xrunV (As := [.int (0 : Int32)]) (rest := []) F ((kX7_refused l D cc (a_p0 := a_p0) (a_p0_text := a_p0_text) (a_p0_now := a_p0_now) (a_p0_trial := a_p0_trial) (a_p0_diary := a_p0_diary) (a_p0_kept := a_p0_kept) (a_p0_isKept := a_p0_isKept) (a_p0_drawn := a_p0_drawn) (a_p0_one := a_p0_one) (a_p0_two := a_p0_two) (a_p0_costs := a_p0_costs) (v_p0_refusal := v_p0_refusal) (v_p0_size := v_p0_size) (v_p0_acts := v_p0_acts) (v_p0_nearestOne := v_p0_nearestOne) (v_p0_nearestBy := v_p0_nearestBy) (v_p0_how := v_p0_how) (v_p0_spot := v_p0_spot) (v_p0_closestTwo := v_p0_closestTwo) (v_p0_closestBy := v_p0_closestBy) (p1 := (0 : Int32)) (r0 := (fX7_refused (0 : Int32)).1) (v_p0_refusal_o := (fX7_refused (0 : Int32)).2) (h := rfl)) _) (cwV 1 hts gX7_setting_X7_refused rfl rfl rfl (by decide +kernel) ⟨Nat.le_of_ble_eq_true rfl, Nat.le_of_ble_eq_true rfl⟩) hK hN hP hD [0] rfl (by decide) (q0 := 0) rfl rfl rfl rfl hl rfl (Nat.le_of_ble_eq_true rfl) dX7_setting_18 ⟨Nat.zero_le _, Nat.zero_le _⟩) hP hD hS hA rfl rfl (by decide) (by decide) (fun _ H locs hP hD hS => ?_)
    have hP : va_P D vwCl [(a_p0_now, .inl (cc 0, 1343, .inl c_p0_now)), (a_p0, .inr (7, [.int ((fX7_refused (0 : Int32)).2), .ref a_p0_text, .int v_p0_size, .ref a_p0_now, .ref a_p0_trial, .ref a_p0_diary, .int v_p0_acts, .ref a_p0_kept, .ref a_p0_isKept, .ref a_p0_drawn, .ref a_p0_one, .ref a_p0_two, .ref a_p0_costs, .int v_p0_nearestOne, .int v_p0_nearestBy, .int v_p0_how, .int v_p0_spot, .int v_p0_closestTwo, .int v_p0_closestBy]))] H := hP
    have hD : va_D A [(a_p0_now, .inl (cc 0, 1343, .inl c_p0_now)), (a_p0, .inr (7, [.int ((fX7_refused (0 : Int32)).2), .ref a_p0_text, .int v_p0_size, .ref a_p0_now, .ref a_p0_trial, .ref a_p0_diary, .int v_p0_acts, .ref a_p0_kept, .ref a_p0_isKept, .ref a_p0_drawn, .ref a_p0_one, .ref a_p0_two, .ref a_p0_costs, .int v_p0_nearestOne, .int v_p0_nearestBy, .int v_p0_how, .int v_p0_spot, .int v_p0_closestTwo, .int v_p0_closestBy]))] := hD
    refine lv_if_eq (tgt := 26) hx hb dX7_setting_21 (by decide) (fun (c7 : ((fX7_refused (0 : Int32)).1) = 0) => ?_) (fun (c7 : ¬ ((fX7_refused (0 : Int32)).1) = 0) => ?_)
    · replace h := ip c7 h
      refine lv_aload_n hx hb dX7_setting_26 rfl (lv_at hl 0 rfl) ?_
      refine va_get (D := D) (ci := 7) (v := .ref a_p0_now) (C := RX7) (T := TX7) (N := 19) hx hb hts inX7_setting_X7 hown hK hP 1 rfl rfl 3 (by decide) k2 (fun _ h9 => h9) rfl dX7_setting_27 ?_
      refine lv_bipush (v := (77 : Int32)) hx hb dX7_setting_30 (by decide) ?_
      refine lv_iload_n hx hb dX7_setting_32 rfl (lv_at hl 1 rfl) ?_
      refine lv_iadd hx hb dX7_setting_33 ?_
      obtain ⟨g8, h⟩ := gd h
      refine va_iald hx hb hK hP 0 0 rfl rfl g8 dX7_setting_34 ?_
      have hP := hP.sub (ws' := [(a_p0, .inr (7, [.int ((fX7_refused (0 : Int32)).2), .ref a_p0_text, .int v_p0_size, .ref a_p0_now, .ref a_p0_trial, .ref a_p0_diary, .int v_p0_acts, .ref a_p0_kept, .ref a_p0_isKept, .ref a_p0_drawn, .ref a_p0_one, .ref a_p0_two, .ref a_p0_costs, .int v_p0_nearestOne, .int v_p0_nearestBy, .int v_p0_how, .int v_p0_spot, .int v_p0_closestTwo, .int v_p0_closestBy])), (a_p0_now, .inl (cc 0, 1343, .inl c_p0_now))]) [1, 0] rfl
      have hD := hD.sub (ws' := [(a_p0, .inr (7, [.int ((fX7_refused (0 : Int32)).2), .ref a_p0_text, .int v_p0_size, .ref a_p0_now, .ref a_p0_trial, .ref a_p0_diary, .int v_p0_acts, .ref a_p0_kept, .ref a_p0_isKept, .ref a_p0_drawn, .ref a_p0_one, .ref a_p0_two, .ref a_p0_costs, .int v_p0_nearestOne, .int v_p0_nearestBy, .int v_p0_how, .int v_p0_spot, .int v_p0_closestTwo, .int v_p0_closestBy])), (a_p0_now, .inl (cc 0, 1343, .inl c_p0_now))]) [1, 0] (by decide) rfl
      cases h
      exact xendi (ret := none) F hsz hAe hK hP hD hS (fun _ => 0) rfl rfl (Nat.zero_le _) (Nat.zero_le _) dX7_setting_35
    · replace h := iq c7 h
      refine lv_iconst (v := (0 : Int32)) hx hb dX7_setting_24 (by decide) ?_
      have hP := hP.sub (ws' := [(a_p0, .inr (7, [.int ((fX7_refused (0 : Int32)).2), .ref a_p0_text, .int v_p0_size, .ref a_p0_now, .ref a_p0_trial, .ref a_p0_diary, .int v_p0_acts, .ref a_p0_kept, .ref a_p0_isKept, .ref a_p0_drawn, .ref a_p0_one, .ref a_p0_two, .ref a_p0_costs, .int v_p0_nearestOne, .int v_p0_nearestBy, .int v_p0_how, .int v_p0_spot, .int v_p0_closestTwo, .int v_p0_closestBy])), (a_p0_now, .inl (cc 0, 1343, .inl c_p0_now))]) [1, 0] rfl
      have hD := hD.sub (ws' := [(a_p0, .inr (7, [.int ((fX7_refused (0 : Int32)).2), .ref a_p0_text, .int v_p0_size, .ref a_p0_now, .ref a_p0_trial, .ref a_p0_diary, .int v_p0_acts, .ref a_p0_kept, .ref a_p0_isKept, .ref a_p0_drawn, .ref a_p0_one, .ref a_p0_two, .ref a_p0_costs, .int v_p0_nearestOne, .int v_p0_nearestBy, .int v_p0_how, .int v_p0_spot, .int v_p0_closestTwo, .int v_p0_closestBy])), (a_p0_now, .inl (cc 0, 1343, .inl c_p0_now))]) [1, 0] (by decide) rfl
      cases h
      exact xendi (ret := none) F hsz hAe hK hP hD hS (fun _ => 0) rfl rfl (Nat.zero_le _) (Nat.zero_le _) dX7_setting_25
theorem inX7_remember_X7 : ∀ w ∈ wsX70, w ∈ wsX7_remember := by decide +kernel
set_option maxHeartbeats 4000000 in
set_option maxRecDepth 100000 in
theorem kX7_remember (l : Launch) (D : va_G) (cc : Nat → ClassId) (a_p0 : Nat) (a_p0_text : Nat) (a_p0_now : Nat) (a_p0_trial : Nat) (a_p0_diary : Nat) (a_p0_kept : Nat) (a_p0_isKept : Nat) (a_p0_drawn : Nat) (a_p0_one : Nat) (a_p0_two : Nat) (a_p0_costs : Nat) (v_p0_refusal : Int32) (v_p0_size : Int32) (v_p0_acts : Int32) (v_p0_nearestOne : Int32) (v_p0_nearestBy : Int32) (v_p0_how : Int32) (v_p0_spot : Int32) (v_p0_closestTwo : Int32) (v_p0_closestBy : Int32) (c_p0_now : Nat → Int32) (c_p0_diary : Nat → Int32) (v_p0_acts_o : Int32) (c_p0_diary_o : Nat → Int32) (h : fX7_remember v_p0_acts c_p0_now c_p0_diary = some (v_p0_acts_o, c_p0_diary_o)) : xMv l yX7_remember wsX7_remember ({ frames := 1, cells := 0, slots := 0, locals := 24 } : Room) D cc [.ref a_p0] [(a_p0, .inr (7, [.int v_p0_refusal, .ref a_p0_text, .int v_p0_size, .ref a_p0_now, .ref a_p0_trial, .ref a_p0_diary, .int v_p0_acts, .ref a_p0_kept, .ref a_p0_isKept, .ref a_p0_drawn, .ref a_p0_one, .ref a_p0_two, .ref a_p0_costs, .int v_p0_nearestOne, .int v_p0_nearestBy, .int v_p0_how, .int v_p0_spot, .int v_p0_closestTwo, .int v_p0_closestBy])), (a_p0_now, .inl (cc 0, 1343, .inl c_p0_now)), (a_p0_diary, .inl (cc 0, 18802, .inl c_p0_diary))] (fun _ => [(a_p0, .inr (7, [.int v_p0_refusal, .ref a_p0_text, .int v_p0_size, .ref a_p0_now, .ref a_p0_trial, .ref a_p0_diary, .int v_p0_acts_o, .ref a_p0_kept, .ref a_p0_isKept, .ref a_p0_drawn, .ref a_p0_one, .ref a_p0_two, .ref a_p0_costs, .int v_p0_nearestOne, .int v_p0_nearestBy, .int v_p0_how, .int v_p0_spot, .int v_p0_closestTwo, .int v_p0_closestBy])), (a_p0_now, .inl (cc 0, 1343, .inl c_p0_now)), (a_p0_diary, .inl (cc 0, 18802, .inl c_p0_diary_o))]) 0 0 := by
  intro sz
  refine xstart (bc := cX7_remember) (maxL := 2) (ret := none) (by decide) rfl (Nat.le_of_ble_eq_true rfl) ?_
  intro p e s m args below meth c A hargs hsz hAe F hK hN hA hmn hP hD hS ls hl
  have hx := F.1.1
  have hb := F.1.2.1
  have hml := F.1.2.2.1
  have hown := F.1.2.2.2.1
  have hts := F.1.2.2.2.2
  have hl : lv_has ls 2 [(0, .ref a_p0)] := hl
  have k1 := hts (.fieldLink RX7 156 "RuledStrokesModel" "acts" "I") (by decide +kernel)
  have k2 := hts (.fieldLink RX7 13 "RuledStrokesModel" "now" "[I") (by decide +kernel)
  have k3 := hts (.fieldLink RX7 19 "RuledStrokesModel" "diary" "[I") (by decide +kernel)
  unfold fX7_remember at h
  have hB11 : ∀ (QQ : State → Prop) (v_p0_acts_K11 : Int32) (x1 : Int32) (c_p0_diary_L11 : Nat → Int32) (r9 : (Int32 × (Nat → Int32)) ⊕ ((Nat → Int32))), fX7_remember_L11  x1 c_p0_diary_L11 = some r9 → ∀ (H : Heap) (locs : List Loc) (ls : Array Slot), va_P D vwCl [(a_p0, .inr (7, [.int v_p0_refusal, .ref a_p0_text, .int v_p0_size, .ref a_p0_now, .ref a_p0_trial, .ref a_p0_diary, .int v_p0_acts_K11, .ref a_p0_kept, .ref a_p0_isKept, .ref a_p0_drawn, .ref a_p0_one, .ref a_p0_two, .ref a_p0_costs, .int v_p0_nearestOne, .int v_p0_nearestBy, .int v_p0_how, .int v_p0_spot, .int v_p0_closestTwo, .int v_p0_closestBy])), (a_p0_now, .inl (cc 0, 1343, .inl c_p0_now)), (a_p0_diary, .inl (cc 0, 18802, .inl c_p0_diary_L11))] H → va_D A [(a_p0, .inr (7, [.int v_p0_refusal, .ref a_p0_text, .int v_p0_size, .ref a_p0_now, .ref a_p0_trial, .ref a_p0_diary, .int v_p0_acts_K11, .ref a_p0_kept, .ref a_p0_isKept, .ref a_p0_drawn, .ref a_p0_one, .ref a_p0_two, .ref a_p0_costs, .int v_p0_nearestOne, .int v_p0_nearestBy, .int v_p0_how, .int v_p0_spot, .int v_p0_closestTwo, .int v_p0_closestBy])), (a_p0_now, .inl (cc 0, 1343, .inl c_p0_now)), (a_p0_diary, .inl (cc 0, 18802, .inl c_p0_diary_L11))] → va_S A s.heap H locs → lv_has ls 2 [(0, .ref a_p0), (1, .int x1)] → (∀ (x1 : Int32) (c_p0_diary_L11 : Nat → Int32), r9 = Sum.inl (x1, c_p0_diary_L11) → ∀ (H : Heap) (locs : List Loc) (ls : Array Slot), va_P D vwCl [(a_p0, .inr (7, [.int v_p0_refusal, .ref a_p0_text, .int v_p0_size, .ref a_p0_now, .ref a_p0_trial, .ref a_p0_diary, .int v_p0_acts_K11, .ref a_p0_kept, .ref a_p0_isKept, .ref a_p0_drawn, .ref a_p0_one, .ref a_p0_two, .ref a_p0_costs, .int v_p0_nearestOne, .int v_p0_nearestBy, .int v_p0_how, .int v_p0_spot, .int v_p0_closestTwo, .int v_p0_closestBy])), (a_p0_now, .inl (cc 0, 1343, .inl c_p0_now)), (a_p0_diary, .inl (cc 0, 18802, .inl c_p0_diary_L11))] H → va_D A [(a_p0, .inr (7, [.int v_p0_refusal, .ref a_p0_text, .int v_p0_size, .ref a_p0_now, .ref a_p0_trial, .ref a_p0_diary, .int v_p0_acts_K11, .ref a_p0_kept, .ref a_p0_isKept, .ref a_p0_drawn, .ref a_p0_one, .ref a_p0_two, .ref a_p0_costs, .int v_p0_nearestOne, .int v_p0_nearestBy, .int v_p0_how, .int v_p0_spot, .int v_p0_closestTwo, .int v_p0_closestBy])), (a_p0_now, .inl (cc 0, 1343, .inl c_p0_now)), (a_p0_diary, .inl (cc 0, 18802, .inl c_p0_diary_L11))] → va_S A s.heap H locs → lv_has ls 2 [(0, .ref a_p0), (1, .int x1)] → W p l e ({ frames := 1, cells := 0, slots := 0, locals := 24 } : Room) s m args below meth c H locs 0 0 QQ (F0 m 11 ls [])) → (∀ (c_p0_diary_E11 : Nat → Int32), r9 = Sum.inr (c_p0_diary_E11) → ∀ (H : Heap) (locs : List Loc) (ls : Array Slot), va_P D vwCl [(a_p0, .inr (7, [.int v_p0_refusal, .ref a_p0_text, .int v_p0_size, .ref a_p0_now, .ref a_p0_trial, .ref a_p0_diary, .int v_p0_acts_K11, .ref a_p0_kept, .ref a_p0_isKept, .ref a_p0_drawn, .ref a_p0_one, .ref a_p0_two, .ref a_p0_costs, .int v_p0_nearestOne, .int v_p0_nearestBy, .int v_p0_how, .int v_p0_spot, .int v_p0_closestTwo, .int v_p0_closestBy])), (a_p0_now, .inl (cc 0, 1343, .inl c_p0_now)), (a_p0_diary, .inl (cc 0, 18802, .inl c_p0_diary_E11))] H → va_D A [(a_p0, .inr (7, [.int v_p0_refusal, .ref a_p0_text, .int v_p0_size, .ref a_p0_now, .ref a_p0_trial, .ref a_p0_diary, .int v_p0_acts_K11, .ref a_p0_kept, .ref a_p0_isKept, .ref a_p0_drawn, .ref a_p0_one, .ref a_p0_two, .ref a_p0_costs, .int v_p0_nearestOne, .int v_p0_nearestBy, .int v_p0_how, .int v_p0_spot, .int v_p0_closestTwo, .int v_p0_closestBy])), (a_p0_now, .inl (cc 0, 1343, .inl c_p0_now)), (a_p0_diary, .inl (cc 0, 18802, .inl c_p0_diary_E11))] → va_S A s.heap H locs → lv_has ls 2 [(0, .ref a_p0)] → W p l e ({ frames := 1, cells := 0, slots := 0, locals := 24 } : Room) s m args below meth c H locs 0 0 QQ (F0 m 40 ls [])) → W p l e ({ frames := 1, cells := 0, slots := 0, locals := 24 } : Room) s m args below meth c H locs 0 0 QQ (F0 m 11 ls []) := by
    intro QQ v_p0_acts_K11 x1 c_p0_diary_L11 r9 h H locs ls hP hD hS hl KS KX0
    unfold fX7_remember_L11 at h
    refine lv_iload_n hx hb dX7_remember_11 rfl (lv_at hl 1 rfl) ?_
    refine lv_sipush (v := (17459 : Int32)) hx hb dX7_remember_12 (by decide) ?_
    refine lv_icmp_ge (tgt := 40) hx hb dX7_remember_15 (by decide) (fun (c4 : (17459 : Int32) ≤ x1) => ?_) (fun (c4 : ¬ (17459 : Int32) ≤ x1) => ?_)
    · replace h := ip c4 h
      have hl := lv_sub (l' := [(0, .ref a_p0)]) hl [0] rfl
      cases h
      exact KX0 c_p0_diary_L11 rfl _ _ _ hP hD hS hl
    · replace h := iq c4 h
      refine lv_aload_n hx hb dX7_remember_18 rfl (lv_at hl 0 rfl) ?_
      refine va_get (D := D) (ci := 7) (v := .ref a_p0_diary) (C := RX7) (T := TX7) (N := 19) hx hb hts inX7_remember_X7 hown hK hP 0 rfl rfl 5 (by decide) k3 (fun _ h9 => h9) rfl dX7_remember_19 ?_
      refine lv_iload_n hx hb dX7_remember_22 rfl (lv_at hl 1 rfl) ?_
      refine lv_aload_n hx hb dX7_remember_23 rfl (lv_at hl 0 rfl) ?_
      refine va_get (D := D) (ci := 7) (v := .ref a_p0_diary) (C := RX7) (T := TX7) (N := 19) hx hb hts inX7_remember_X7 hown hK hP 0 rfl rfl 5 (by decide) k3 (fun _ h9 => h9) rfl dX7_remember_24 ?_
      refine lv_iload_n hx hb dX7_remember_27 rfl (lv_at hl 1 rfl) ?_
      refine lv_sipush (v := (1343 : Int32)) hx hb dX7_remember_28 (by decide) ?_
      refine lv_iadd hx hb dX7_remember_31 ?_
      obtain ⟨g5, h⟩ := gd h
      refine va_iald hx hb hK hP 2 0 rfl rfl g5 dX7_remember_32 ?_
      obtain ⟨g6, h⟩ := gd h
      refine va_iast hx hb hK hP hD hS 2 0 rfl rfl g6 dX7_remember_33 (fun H locs hP hD hS => ?_)
      have hP : va_P D vwCl [(a_p0, .inr (7, [.int v_p0_refusal, .ref a_p0_text, .int v_p0_size, .ref a_p0_now, .ref a_p0_trial, .ref a_p0_diary, .int v_p0_acts_K11, .ref a_p0_kept, .ref a_p0_isKept, .ref a_p0_drawn, .ref a_p0_one, .ref a_p0_two, .ref a_p0_costs, .int v_p0_nearestOne, .int v_p0_nearestBy, .int v_p0_how, .int v_p0_spot, .int v_p0_closestTwo, .int v_p0_closestBy])), (a_p0_now, .inl (cc 0, 1343, .inl c_p0_now)), (a_p0_diary, .inl (cc 0, 18802, .inl (upd c_p0_diary_L11 x1.toNatClampNeg (c_p0_diary_L11 (x1 + (1343 : Int32)).toNatClampNeg))))] H := hP
      have hD : va_D A [(a_p0, .inr (7, [.int v_p0_refusal, .ref a_p0_text, .int v_p0_size, .ref a_p0_now, .ref a_p0_trial, .ref a_p0_diary, .int v_p0_acts_K11, .ref a_p0_kept, .ref a_p0_isKept, .ref a_p0_drawn, .ref a_p0_one, .ref a_p0_two, .ref a_p0_costs, .int v_p0_nearestOne, .int v_p0_nearestBy, .int v_p0_how, .int v_p0_spot, .int v_p0_closestTwo, .int v_p0_closestBy])), (a_p0_now, .inl (cc 0, 1343, .inl c_p0_now)), (a_p0_diary, .inl (cc 0, 18802, .inl (upd c_p0_diary_L11 x1.toNatClampNeg (c_p0_diary_L11 (x1 + (1343 : Int32)).toNatClampNeg))))] := hD
      obtain ⟨c_p0_diary_7, q7, h⟩ := b1_some h
      replace q7 := Option.some.inj q7
      rw [q7] at hP hD
      refine lv_iinc (v := x1 + (1 : Int32)) (lv' := [(1, .int (x1 + (1 : Int32))), (0, .ref a_p0)]) hx hb dX7_remember_34 hl (k := 1) rfl (by first | rfl | decide) (by decide) rfl (fun ls hl => ?_)
      refine lv_goto (tgt := 11) hx hb dX7_remember_37 (by decide) ?_
      have hl := lv_sub (l' := [(0, .ref a_p0), (1, .int (x1 + (1 : Int32)))]) hl [1, 0] rfl
      cases h
      exact KS (x1 + (1 : Int32)) c_p0_diary_7 rfl _ _ _ hP hD hS hl
  have hL11 : ∀ (QQ : State → Prop) (n : Nat) (v_p0_acts_K11 : Int32) (x1 : Int32) (c_p0_diary_L11 : Nat → Int32) (r9 : (Nat → Int32)), loopF (fun (z : Int32 × (Nat → Int32)) => fX7_remember_L11  z.1 z.2) n (x1, c_p0_diary_L11) = some r9 → ∀ (H : Heap) (locs : List Loc) (ls : Array Slot), va_P D vwCl [(a_p0, .inr (7, [.int v_p0_refusal, .ref a_p0_text, .int v_p0_size, .ref a_p0_now, .ref a_p0_trial, .ref a_p0_diary, .int v_p0_acts_K11, .ref a_p0_kept, .ref a_p0_isKept, .ref a_p0_drawn, .ref a_p0_one, .ref a_p0_two, .ref a_p0_costs, .int v_p0_nearestOne, .int v_p0_nearestBy, .int v_p0_how, .int v_p0_spot, .int v_p0_closestTwo, .int v_p0_closestBy])), (a_p0_now, .inl (cc 0, 1343, .inl c_p0_now)), (a_p0_diary, .inl (cc 0, 18802, .inl c_p0_diary_L11))] H → va_D A [(a_p0, .inr (7, [.int v_p0_refusal, .ref a_p0_text, .int v_p0_size, .ref a_p0_now, .ref a_p0_trial, .ref a_p0_diary, .int v_p0_acts_K11, .ref a_p0_kept, .ref a_p0_isKept, .ref a_p0_drawn, .ref a_p0_one, .ref a_p0_two, .ref a_p0_costs, .int v_p0_nearestOne, .int v_p0_nearestBy, .int v_p0_how, .int v_p0_spot, .int v_p0_closestTwo, .int v_p0_closestBy])), (a_p0_now, .inl (cc 0, 1343, .inl c_p0_now)), (a_p0_diary, .inl (cc 0, 18802, .inl c_p0_diary_L11))] → va_S A s.heap H locs → lv_has ls 2 [(0, .ref a_p0), (1, .int x1)] → (∀ (c_p0_diary_E11 : Nat → Int32), r9 = c_p0_diary_E11 → ∀ (H : Heap) (locs : List Loc) (ls : Array Slot), va_P D vwCl [(a_p0, .inr (7, [.int v_p0_refusal, .ref a_p0_text, .int v_p0_size, .ref a_p0_now, .ref a_p0_trial, .ref a_p0_diary, .int v_p0_acts_K11, .ref a_p0_kept, .ref a_p0_isKept, .ref a_p0_drawn, .ref a_p0_one, .ref a_p0_two, .ref a_p0_costs, .int v_p0_nearestOne, .int v_p0_nearestBy, .int v_p0_how, .int v_p0_spot, .int v_p0_closestTwo, .int v_p0_closestBy])), (a_p0_now, .inl (cc 0, 1343, .inl c_p0_now)), (a_p0_diary, .inl (cc 0, 18802, .inl c_p0_diary_E11))] H → va_D A [(a_p0, .inr (7, [.int v_p0_refusal, .ref a_p0_text, .int v_p0_size, .ref a_p0_now, .ref a_p0_trial, .ref a_p0_diary, .int v_p0_acts_K11, .ref a_p0_kept, .ref a_p0_isKept, .ref a_p0_drawn, .ref a_p0_one, .ref a_p0_two, .ref a_p0_costs, .int v_p0_nearestOne, .int v_p0_nearestBy, .int v_p0_how, .int v_p0_spot, .int v_p0_closestTwo, .int v_p0_closestBy])), (a_p0_now, .inl (cc 0, 1343, .inl c_p0_now)), (a_p0_diary, .inl (cc 0, 18802, .inl c_p0_diary_E11))] → va_S A s.heap H locs → lv_has ls 2 [(0, .ref a_p0)] → W p l e ({ frames := 1, cells := 0, slots := 0, locals := 24 } : Room) s m args below meth c H locs 0 0 QQ (F0 m 40 ls [])) → W p l e ({ frames := 1, cells := 0, slots := 0, locals := 24 } : Room) s m args below meth c H locs 0 0 QQ (F0 m 11 ls []) := by
    intro QQ n
    induction n with
    | zero => intro v_p0_acts_K11 x1 c_p0_diary_L11 r9 h; exact (loopF_zero h).elim
    | succ n ih =>
      intro v_p0_acts_K11 x1 c_p0_diary_L11 r9 h H locs ls hP hD hS hl KX0
      obtain ⟨z9, hz, h⟩ := loopF_step h
      exact hB11 QQ v_p0_acts_K11 x1 c_p0_diary_L11 z9 hz H locs ls hP hD hS hl (fun x1_b c_p0_diary_L11_b q9 H9 locs9 ls9 hP9 hD9 hS9 hl9 => ih v_p0_acts_K11 x1_b c_p0_diary_L11_b r9 (by rcases h with ⟨s9, h1, h2⟩ | h1 <;> rw [h1] at q9 <;> cases q9; exact h2) H9 locs9 ls9 hP9 hD9 hS9 hl9 KX0) (fun c_p0_diary_E11 q9 => KX0 c_p0_diary_E11 (by rcases h with ⟨s9, h1, h2⟩ | h1 <;> rw [h1] at q9 <;> cases q9; rfl))
  refine lv_aload_n hx hb dX7_remember_0 rfl (lv_at hl 0 rfl) ?_
  refine va_get (D := D) (ci := 7) (v := .int v_p0_acts) (C := RX7) (T := TX7) (N := 19) hx hb hts inX7_remember_X7 hown hK hP 0 rfl rfl 6 (by decide) k1 (fun _ h9 => h9) rfl dX7_remember_1 ?_
  refine lv_bipush (v := (14 : Int32)) hx hb dX7_remember_4 (by decide) ?_
  refine lv_icmp_ne (tgt := 50) hx hb dX7_remember_6 (by decide) (fun (c1 : ¬ v_p0_acts = (14 : Int32)) => ?_) (fun (c1 : v_p0_acts = (14 : Int32)) => ?_)
  · replace h := iq c1 h
    refine lv_aload_n hx hb dX7_remember_50 rfl (lv_at hl 0 rfl) ?_
    refine va_get (D := D) (ci := 7) (v := .ref a_p0_now) (C := RX7) (T := TX7) (N := 19) hx hb hts inX7_remember_X7 hown hK hP 0 rfl rfl 3 (by decide) k2 (fun _ h9 => h9) rfl dX7_remember_51 ?_
    refine lv_iconst (v := (0 : Int32)) hx hb dX7_remember_54 (by decide) ?_
    refine lv_aload_n hx hb dX7_remember_55 rfl (lv_at hl 0 rfl) ?_
    refine va_get (D := D) (ci := 7) (v := .ref a_p0_diary) (C := RX7) (T := TX7) (N := 19) hx hb hts inX7_remember_X7 hown hK hP 0 rfl rfl 5 (by decide) k3 (fun _ h9 => h9) rfl dX7_remember_56 ?_
    refine lv_sipush (v := (1343 : Int32)) hx hb dX7_remember_59 (by decide) ?_
    refine lv_aload_n hx hb dX7_remember_62 rfl (lv_at hl 0 rfl) ?_
    refine va_get (D := D) (ci := 7) (v := .int v_p0_acts) (C := RX7) (T := TX7) (N := 19) hx hb hts inX7_remember_X7 hown hK hP 0 rfl rfl 6 (by decide) k1 (fun _ h9 => h9) rfl dX7_remember_63 ?_
    refine lv_imul hx hb dX7_remember_66 ?_
    obtain ⟨c_p0_diary_2, hc2, h⟩ := b1_some h
    refine xcallv (wr := [(a_p0, .inr (7, [.int v_p0_refusal, .ref a_p0_text, .int v_p0_size, .ref a_p0_now, .ref a_p0_trial, .ref a_p0_diary, .int v_p0_acts, .ref a_p0_kept, .ref a_p0_isKept, .ref a_p0_drawn, .ref a_p0_one, .ref a_p0_two, .ref a_p0_costs, .int v_p0_nearestOne, .int v_p0_nearestBy, .int v_p0_how, .int v_p0_spot, .int v_p0_closestTwo, .int v_p0_closestBy]))]) [1, 2] [0] (xrunS (As := [.ref a_p0_now, .int (0 : Int32), .ref a_p0_diary, .int ((1343 : Int32) * v_p0_acts)]) (rest := []) F ((kX7_copyState l D cc (a_p0 := a_p0_now) (a_p2 := a_p0_diary) (n_p0 := 1343) (n_p2 := 18802) (c_p0 := c_p0_now) (c_p2 := c_p0_diary) (p1 := (0 : Int32)) (p3 := (1343 : Int32) * v_p0_acts) (c_p2_o := c_p0_diary_2) (h := hc2)) _) (cwS 4 hts gX7_remember_X7_copyState rfl rfl rfl (by decide +kernel) ⟨Nat.le_of_ble_eq_true rfl, Nat.le_of_ble_eq_true rfl⟩) hK hN hP hD [1, 2] rfl (by decide) rfl hl rfl (Nat.le_of_ble_eq_true rfl) dX7_remember_67 ⟨Nat.zero_le _, Nat.zero_le _⟩) hP hD hS hA rfl rfl (by decide) (by decide) (fun _ H locs hP hD hS => ?_)
    have hP : va_P D vwCl [(a_p0, .inr (7, [.int v_p0_refusal, .ref a_p0_text, .int v_p0_size, .ref a_p0_now, .ref a_p0_trial, .ref a_p0_diary, .int v_p0_acts, .ref a_p0_kept, .ref a_p0_isKept, .ref a_p0_drawn, .ref a_p0_one, .ref a_p0_two, .ref a_p0_costs, .int v_p0_nearestOne, .int v_p0_nearestBy, .int v_p0_how, .int v_p0_spot, .int v_p0_closestTwo, .int v_p0_closestBy])), (a_p0_now, .inl (cc 0, 1343, .inl c_p0_now)), (a_p0_diary, .inl (cc 0, 18802, .inl c_p0_diary_2))] H := hP
    have hD : va_D A [(a_p0, .inr (7, [.int v_p0_refusal, .ref a_p0_text, .int v_p0_size, .ref a_p0_now, .ref a_p0_trial, .ref a_p0_diary, .int v_p0_acts, .ref a_p0_kept, .ref a_p0_isKept, .ref a_p0_drawn, .ref a_p0_one, .ref a_p0_two, .ref a_p0_costs, .int v_p0_nearestOne, .int v_p0_nearestBy, .int v_p0_how, .int v_p0_spot, .int v_p0_closestTwo, .int v_p0_closestBy])), (a_p0_now, .inl (cc 0, 1343, .inl c_p0_now)), (a_p0_diary, .inl (cc 0, 18802, .inl c_p0_diary_2))] := hD
    refine lv_aload_n hx hb dX7_remember_70 rfl (lv_at hl 0 rfl) ?_
    refine lv_dup hx hb dX7_remember_71 rfl ?_
    refine va_get (D := D) (ci := 7) (v := .int v_p0_acts) (C := RX7) (T := TX7) (N := 19) hx hb hts inX7_remember_X7 hown hK hP 0 rfl rfl 6 (by decide) k1 (fun _ h9 => h9) rfl dX7_remember_72 ?_
    refine lv_iconst (v := (1 : Int32)) hx hb dX7_remember_75 (by decide) ?_
    refine lv_iadd hx hb dX7_remember_76 ?_
    refine va_put (D := D) (ci := 7) (v := .int (v_p0_acts + (1 : Int32))) (ty := .int) (C := RX7) (T := TX7) (N := 19) hx hb hts inX7_remember_X7 tyX7 tyX7_ok nmX7 hown hK hP hD hS 0 rfl rfl 6 (by decide) k1 (fun _ h9 => h9) rfl (by decide +kernel) rfl rfl (Nat.le_of_ble_eq_true rfl) dX7_remember_77 (fun H locs hP hD hS => ?_)
    have hP : va_P D vwCl [(a_p0, .inr (7, [.int v_p0_refusal, .ref a_p0_text, .int v_p0_size, .ref a_p0_now, .ref a_p0_trial, .ref a_p0_diary, .int (v_p0_acts + (1 : Int32)), .ref a_p0_kept, .ref a_p0_isKept, .ref a_p0_drawn, .ref a_p0_one, .ref a_p0_two, .ref a_p0_costs, .int v_p0_nearestOne, .int v_p0_nearestBy, .int v_p0_how, .int v_p0_spot, .int v_p0_closestTwo, .int v_p0_closestBy])), (a_p0_now, .inl (cc 0, 1343, .inl c_p0_now)), (a_p0_diary, .inl (cc 0, 18802, .inl c_p0_diary_2))] H := hP
    have hD : va_D A [(a_p0, .inr (7, [.int v_p0_refusal, .ref a_p0_text, .int v_p0_size, .ref a_p0_now, .ref a_p0_trial, .ref a_p0_diary, .int (v_p0_acts + (1 : Int32)), .ref a_p0_kept, .ref a_p0_isKept, .ref a_p0_drawn, .ref a_p0_one, .ref a_p0_two, .ref a_p0_costs, .int v_p0_nearestOne, .int v_p0_nearestBy, .int v_p0_how, .int v_p0_spot, .int v_p0_closestTwo, .int v_p0_closestBy])), (a_p0_now, .inl (cc 0, 1343, .inl c_p0_now)), (a_p0_diary, .inl (cc 0, 18802, .inl c_p0_diary_2))] := hD
    cases h
    exact xendv F hsz hAe hK hP hD hS (fun _ => 0) rfl (Nat.zero_le _) (Nat.zero_le _) dX7_remember_80
  · replace h := ip c1 h
    refine lv_iconst (v := (0 : Int32)) hx hb dX7_remember_9 (by decide) ?_
    refine lv_istore_n (x := (0 : Int32)) (lv' := [(1, .int (0 : Int32)), (0, .ref a_p0)]) hx hb dX7_remember_10 rfl hl (by decide) rfl (fun ls hl => ?_)
    have hl := lv_sub (l' := [(0, .ref a_p0), (1, .int (0 : Int32))]) hl [1, 0] rfl
    obtain ⟨c_p0_diary_8, hq9, h⟩ := b1_some h
    refine hL11 _ FUEL v_p0_acts (0 : Int32) c_p0_diary c_p0_diary_8 hq9 _ _ _ hP hD hS hl (fun c_p0_diary_8z q9 H locs ls hP hD hS hl => ?_)
    cases q9
    refine lv_aload_n hx hb dX7_remember_40 rfl (lv_at hl 0 rfl) ?_
    refine lv_dup hx hb dX7_remember_41 rfl ?_
    refine va_get (D := D) (ci := 7) (v := .int v_p0_acts) (C := RX7) (T := TX7) (N := 19) hx hb hts inX7_remember_X7 hown hK hP 0 rfl rfl 6 (by decide) k1 (fun _ h9 => h9) rfl dX7_remember_42 ?_
    refine lv_iconst (v := (1 : Int32)) hx hb dX7_remember_45 (by decide) ?_
    refine lv_isub hx hb dX7_remember_46 ?_
    refine va_put (D := D) (ci := 7) (v := .int (v_p0_acts - (1 : Int32))) (ty := .int) (C := RX7) (T := TX7) (N := 19) hx hb hts inX7_remember_X7 tyX7 tyX7_ok nmX7 hown hK hP hD hS 0 rfl rfl 6 (by decide) k1 (fun _ h9 => h9) rfl (by decide +kernel) rfl rfl (Nat.le_of_ble_eq_true rfl) dX7_remember_47 (fun H locs hP hD hS => ?_)
    have hP : va_P D vwCl [(a_p0, .inr (7, [.int v_p0_refusal, .ref a_p0_text, .int v_p0_size, .ref a_p0_now, .ref a_p0_trial, .ref a_p0_diary, .int (v_p0_acts - (1 : Int32)), .ref a_p0_kept, .ref a_p0_isKept, .ref a_p0_drawn, .ref a_p0_one, .ref a_p0_two, .ref a_p0_costs, .int v_p0_nearestOne, .int v_p0_nearestBy, .int v_p0_how, .int v_p0_spot, .int v_p0_closestTwo, .int v_p0_closestBy])), (a_p0_now, .inl (cc 0, 1343, .inl c_p0_now)), (a_p0_diary, .inl (cc 0, 18802, .inl c_p0_diary_8))] H := hP
    have hD : va_D A [(a_p0, .inr (7, [.int v_p0_refusal, .ref a_p0_text, .int v_p0_size, .ref a_p0_now, .ref a_p0_trial, .ref a_p0_diary, .int (v_p0_acts - (1 : Int32)), .ref a_p0_kept, .ref a_p0_isKept, .ref a_p0_drawn, .ref a_p0_one, .ref a_p0_two, .ref a_p0_costs, .int v_p0_nearestOne, .int v_p0_nearestBy, .int v_p0_how, .int v_p0_spot, .int v_p0_closestTwo, .int v_p0_closestBy])), (a_p0_now, .inl (cc 0, 1343, .inl c_p0_now)), (a_p0_diary, .inl (cc 0, 18802, .inl c_p0_diary_8))] := hD
    refine lv_aload_n hx hb dX7_remember_50 rfl (lv_at hl 0 rfl) ?_
    refine va_get (D := D) (ci := 7) (v := .ref a_p0_now) (C := RX7) (T := TX7) (N := 19) hx hb hts inX7_remember_X7 hown hK hP 0 rfl rfl 3 (by decide) k2 (fun _ h9 => h9) rfl dX7_remember_51 ?_
    refine lv_iconst (v := (0 : Int32)) hx hb dX7_remember_54 (by decide) ?_
    refine lv_aload_n hx hb dX7_remember_55 rfl (lv_at hl 0 rfl) ?_
    refine va_get (D := D) (ci := 7) (v := .ref a_p0_diary) (C := RX7) (T := TX7) (N := 19) hx hb hts inX7_remember_X7 hown hK hP 0 rfl rfl 5 (by decide) k3 (fun _ h9 => h9) rfl dX7_remember_56 ?_
    refine lv_sipush (v := (1343 : Int32)) hx hb dX7_remember_59 (by decide) ?_
    refine lv_aload_n hx hb dX7_remember_62 rfl (lv_at hl 0 rfl) ?_
    refine va_get (D := D) (ci := 7) (v := .int (v_p0_acts - (1 : Int32))) (C := RX7) (T := TX7) (N := 19) hx hb hts inX7_remember_X7 hown hK hP 0 rfl rfl 6 (by decide) k1 (fun _ h9 => h9) rfl dX7_remember_63 ?_
    refine lv_imul hx hb dX7_remember_66 ?_
    obtain ⟨c_p0_diary_9, hc9, h⟩ := b1_some h
    refine xcallv (wr := [(a_p0, .inr (7, [.int v_p0_refusal, .ref a_p0_text, .int v_p0_size, .ref a_p0_now, .ref a_p0_trial, .ref a_p0_diary, .int (v_p0_acts - (1 : Int32)), .ref a_p0_kept, .ref a_p0_isKept, .ref a_p0_drawn, .ref a_p0_one, .ref a_p0_two, .ref a_p0_costs, .int v_p0_nearestOne, .int v_p0_nearestBy, .int v_p0_how, .int v_p0_spot, .int v_p0_closestTwo, .int v_p0_closestBy]))]) [1, 2] [0] (xrunS (As := [.ref a_p0_now, .int (0 : Int32), .ref a_p0_diary, .int ((1343 : Int32) * (v_p0_acts - (1 : Int32)))]) (rest := []) F ((kX7_copyState l D cc (a_p0 := a_p0_now) (a_p2 := a_p0_diary) (n_p0 := 1343) (n_p2 := 18802) (c_p0 := c_p0_now) (c_p2 := c_p0_diary_8) (p1 := (0 : Int32)) (p3 := (1343 : Int32) * (v_p0_acts - (1 : Int32))) (c_p2_o := c_p0_diary_9) (h := hc9)) _) (cwS 4 hts gX7_remember_X7_copyState rfl rfl rfl (by decide +kernel) ⟨Nat.le_of_ble_eq_true rfl, Nat.le_of_ble_eq_true rfl⟩) hK hN hP hD [1, 2] rfl (by decide) rfl hl rfl (Nat.le_of_ble_eq_true rfl) dX7_remember_67 ⟨Nat.zero_le _, Nat.zero_le _⟩) hP hD hS hA rfl rfl (by decide) (by decide) (fun _ H locs hP hD hS => ?_)
    have hP : va_P D vwCl [(a_p0, .inr (7, [.int v_p0_refusal, .ref a_p0_text, .int v_p0_size, .ref a_p0_now, .ref a_p0_trial, .ref a_p0_diary, .int (v_p0_acts - (1 : Int32)), .ref a_p0_kept, .ref a_p0_isKept, .ref a_p0_drawn, .ref a_p0_one, .ref a_p0_two, .ref a_p0_costs, .int v_p0_nearestOne, .int v_p0_nearestBy, .int v_p0_how, .int v_p0_spot, .int v_p0_closestTwo, .int v_p0_closestBy])), (a_p0_now, .inl (cc 0, 1343, .inl c_p0_now)), (a_p0_diary, .inl (cc 0, 18802, .inl c_p0_diary_9))] H := hP
    have hD : va_D A [(a_p0, .inr (7, [.int v_p0_refusal, .ref a_p0_text, .int v_p0_size, .ref a_p0_now, .ref a_p0_trial, .ref a_p0_diary, .int (v_p0_acts - (1 : Int32)), .ref a_p0_kept, .ref a_p0_isKept, .ref a_p0_drawn, .ref a_p0_one, .ref a_p0_two, .ref a_p0_costs, .int v_p0_nearestOne, .int v_p0_nearestBy, .int v_p0_how, .int v_p0_spot, .int v_p0_closestTwo, .int v_p0_closestBy])), (a_p0_now, .inl (cc 0, 1343, .inl c_p0_now)), (a_p0_diary, .inl (cc 0, 18802, .inl c_p0_diary_9))] := hD
    refine lv_aload_n hx hb dX7_remember_70 rfl (lv_at hl 0 rfl) ?_
    refine lv_dup hx hb dX7_remember_71 rfl ?_
    refine va_get (D := D) (ci := 7) (v := .int (v_p0_acts - (1 : Int32))) (C := RX7) (T := TX7) (N := 19) hx hb hts inX7_remember_X7 hown hK hP 0 rfl rfl 6 (by decide) k1 (fun _ h9 => h9) rfl dX7_remember_72 ?_
    refine lv_iconst (v := (1 : Int32)) hx hb dX7_remember_75 (by decide) ?_
    refine lv_iadd hx hb dX7_remember_76 ?_
    refine va_put (D := D) (ci := 7) (v := .int ((v_p0_acts - (1 : Int32)) + (1 : Int32))) (ty := .int) (C := RX7) (T := TX7) (N := 19) hx hb hts inX7_remember_X7 tyX7 tyX7_ok nmX7 hown hK hP hD hS 0 rfl rfl 6 (by decide) k1 (fun _ h9 => h9) rfl (by decide +kernel) rfl rfl (Nat.le_of_ble_eq_true rfl) dX7_remember_77 (fun H locs hP hD hS => ?_)
    have hP : va_P D vwCl [(a_p0, .inr (7, [.int v_p0_refusal, .ref a_p0_text, .int v_p0_size, .ref a_p0_now, .ref a_p0_trial, .ref a_p0_diary, .int ((v_p0_acts - (1 : Int32)) + (1 : Int32)), .ref a_p0_kept, .ref a_p0_isKept, .ref a_p0_drawn, .ref a_p0_one, .ref a_p0_two, .ref a_p0_costs, .int v_p0_nearestOne, .int v_p0_nearestBy, .int v_p0_how, .int v_p0_spot, .int v_p0_closestTwo, .int v_p0_closestBy])), (a_p0_now, .inl (cc 0, 1343, .inl c_p0_now)), (a_p0_diary, .inl (cc 0, 18802, .inl c_p0_diary_9))] H := hP
    have hD : va_D A [(a_p0, .inr (7, [.int v_p0_refusal, .ref a_p0_text, .int v_p0_size, .ref a_p0_now, .ref a_p0_trial, .ref a_p0_diary, .int ((v_p0_acts - (1 : Int32)) + (1 : Int32)), .ref a_p0_kept, .ref a_p0_isKept, .ref a_p0_drawn, .ref a_p0_one, .ref a_p0_two, .ref a_p0_costs, .int v_p0_nearestOne, .int v_p0_nearestBy, .int v_p0_how, .int v_p0_spot, .int v_p0_closestTwo, .int v_p0_closestBy])), (a_p0_now, .inl (cc 0, 1343, .inl c_p0_now)), (a_p0_diary, .inl (cc 0, 18802, .inl c_p0_diary_9))] := hD
    cases h
    exact xendv F hsz hAe hK hP hD hS (fun _ => 0) rfl (Nat.zero_le _) (Nat.zero_le _) dX7_remember_80
set_option maxHeartbeats 4000000 in
set_option maxRecDepth 100000 in
theorem kX7_isPoint (l : Launch) (D : va_G) (cc : Nat → ClassId) (p0 : Int32) (p1 : Int32) (r0 : Int32) (h : fX7_isPoint p0 p1 = r0) : xMi l yX7_isPoint wsX7_isPoint ({ frames := 1, cells := 0, slots := 0, locals := 25 } : Room) D cc [.int p0, .int p1] [] r0 (fun _ => []) 0 0 := by
  intro sz
  refine xstart (bc := cX7_isPoint) (maxL := 2) (ret := (some .boolean)) (by decide) rfl (Nat.le_of_ble_eq_true rfl) ?_
  intro p e s m args below meth c A hargs hsz hAe F hK hN hA hmn hP hD hS ls hl
  have hx := F.1.1
  have hb := F.1.2.1
  have hml := F.1.2.2.1
  have hown := F.1.2.2.2.1
  have hts := F.1.2.2.2.2
  have hl : lv_has ls 2 [(0, .int p0), (1, .int p1)] := hl
  have k1 := hts (.constantLong RX7 163 (60 : Int64)) (by decide +kernel)
  unfold fX7_isPoint at h
  refine lv_iload_n hx hb dX7_isPoint_0 rfl (lv_at hl 0 rfl) ?_
  refine lv_i2l (v := p0.toInt64) hx hb dX7_isPoint_1 (by first | rfl | decide) ?_
  refine lv_lconst (v := (0 : Int64)) hx hb dX7_isPoint_2 (by decide) ?_
  refine lv_ldc2 (v := (60 : Int64)) hx hb hown k1 dX7_isPoint_3 ?_
  refine xcalli (wr := []) [] [] (xrunS (As := [.long p0.toInt64, .long (0 : Int64), .long (60 : Int64)]) (rest := []) F ((kX7_in l D cc (p0 := p0.toInt64) (p2 := (0 : Int64)) (p4 := (60 : Int64)) (r0 := (fX7_in p0.toInt64 (0 : Int64) (60 : Int64))) (h := rfl)) _) (cwS 3 hts gX7_isPoint_X7_in rfl rfl rfl (by decide +kernel) ⟨Nat.le_of_ble_eq_true rfl, Nat.le_of_ble_eq_true rfl⟩) hK hN hP hD [] rfl (by decide) rfl hl rfl (Nat.le_of_ble_eq_true rfl) dX7_isPoint_6 ⟨Nat.zero_le _, Nat.zero_le _⟩) hP hD hS hA rfl rfl (by decide) (by decide) (fun _ H locs hP hD hS => ?_)
  have hP : va_P D vwCl [] H := hP
  have hD : va_D A [] := hD
  refine lv_if_eq (tgt := 28) hx hb dX7_isPoint_9 (by decide) (fun (c2 : (fX7_in p0.toInt64 (0 : Int64) (60 : Int64)) = 0) => ?_) (fun (c2 : ¬ (fX7_in p0.toInt64 (0 : Int64) (60 : Int64)) = 0) => ?_)
  · replace h := ip c2 h
    refine lv_iconst (v := (0 : Int32)) hx hb dX7_isPoint_28 (by decide) ?_
    cases h
    exact xendz F (by decide) hsz hAe hK hP hD hS (fun _ => 0) rfl rfl (Nat.zero_le _) (Nat.zero_le _) dX7_isPoint_29
  · replace h := iq c2 h
    refine lv_iload_n hx hb dX7_isPoint_12 rfl (lv_at hl 1 rfl) ?_
    refine lv_i2l (v := p1.toInt64) hx hb dX7_isPoint_13 (by first | rfl | decide) ?_
    refine lv_lconst (v := (0 : Int64)) hx hb dX7_isPoint_14 (by decide) ?_
    refine lv_ldc2 (v := (60 : Int64)) hx hb hown k1 dX7_isPoint_15 ?_
    refine xcalli (wr := []) [] [] (xrunS (As := [.long p1.toInt64, .long (0 : Int64), .long (60 : Int64)]) (rest := []) F ((kX7_in l D cc (p0 := p1.toInt64) (p2 := (0 : Int64)) (p4 := (60 : Int64)) (r0 := (fX7_in p1.toInt64 (0 : Int64) (60 : Int64))) (h := rfl)) _) (cwS 3 hts gX7_isPoint_X7_in rfl rfl rfl (by decide +kernel) ⟨Nat.le_of_ble_eq_true rfl, Nat.le_of_ble_eq_true rfl⟩) hK hN hP hD [] rfl (by decide) rfl hl rfl (Nat.le_of_ble_eq_true rfl) dX7_isPoint_18 ⟨Nat.zero_le _, Nat.zero_le _⟩) hP hD hS hA rfl rfl (by decide) (by decide) (fun _ H locs hP hD hS => ?_)
    have hP : va_P D vwCl [] H := hP
    have hD : va_D A [] := hD
    refine lv_if_eq (tgt := 28) hx hb dX7_isPoint_21 (by decide) (fun (c4 : (fX7_in p1.toInt64 (0 : Int64) (60 : Int64)) = 0) => ?_) (fun (c4 : ¬ (fX7_in p1.toInt64 (0 : Int64) (60 : Int64)) = 0) => ?_)
    · replace h := ip c4 h
      refine lv_iconst (v := (0 : Int32)) hx hb dX7_isPoint_28 (by decide) ?_
      cases h
      exact xendz F (by decide) hsz hAe hK hP hD hS (fun _ => 0) rfl rfl (Nat.zero_le _) (Nat.zero_le _) dX7_isPoint_29
    · replace h := iq c4 h
      refine lv_iconst (v := (1 : Int32)) hx hb dX7_isPoint_24 (by decide) ?_
      refine lv_goto (tgt := 29) hx hb dX7_isPoint_25 (by decide) ?_
      cases h
      exact xendz F (by decide) hsz hAe hK hP hD hS (fun _ => 0) rfl rfl (Nat.zero_le _) (Nat.zero_le _) dX7_isPoint_29
theorem inX7_layPoint_X7 : ∀ w ∈ wsX70, w ∈ wsX7_layPoint := by decide +kernel
set_option maxHeartbeats 4000000 in
set_option maxRecDepth 100000 in
theorem kX7_layPoint (l : Launch) (D : va_G) (cc : Nat → ClassId) (a_p1 : Nat) (a_p0 : Nat) (a_p0_text : Nat) (a_p0_now : Nat) (a_p0_trial : Nat) (a_p0_diary : Nat) (a_p0_kept : Nat) (a_p0_isKept : Nat) (a_p0_drawn : Nat) (a_p0_one : Nat) (a_p0_two : Nat) (a_p0_costs : Nat) (n_p1 : Nat) (c_p1 : Nat → Int32) (v_p0_refusal : Int32) (v_p0_size : Int32) (v_p0_acts : Int32) (v_p0_nearestOne : Int32) (v_p0_nearestBy : Int32) (v_p0_how : Int32) (v_p0_spot : Int32) (v_p0_closestTwo : Int32) (v_p0_closestBy : Int32) (c_p0_one : Nat → Int32) (p2 : Int32) (p3 : Int32) (r0 : Int32) (c_p1_o : Nat → Int32) (c_p0_one_o : Nat → Int32) (h : fX7_layPoint p2 p3 n_p1 c_p1 c_p0_one = some (r0, c_p1_o, c_p0_one_o)) : xMi l yX7_layPoint wsX7_layPoint ({ frames := 3, cells := 0, slots := 0, locals := 82 } : Room) D cc [.ref a_p0, .ref a_p1, .int p2, .int p3] [(a_p1, .inl (cc 0, n_p1, .inl c_p1)), (a_p0, .inr (7, [.int v_p0_refusal, .ref a_p0_text, .int v_p0_size, .ref a_p0_now, .ref a_p0_trial, .ref a_p0_diary, .int v_p0_acts, .ref a_p0_kept, .ref a_p0_isKept, .ref a_p0_drawn, .ref a_p0_one, .ref a_p0_two, .ref a_p0_costs, .int v_p0_nearestOne, .int v_p0_nearestBy, .int v_p0_how, .int v_p0_spot, .int v_p0_closestTwo, .int v_p0_closestBy])), (a_p0_one, .inl (cc 0, 41, .inl c_p0_one))] r0 (fun _ => [(a_p1, .inl (cc 0, n_p1, .inl c_p1_o)), (a_p0, .inr (7, [.int v_p0_refusal, .ref a_p0_text, .int v_p0_size, .ref a_p0_now, .ref a_p0_trial, .ref a_p0_diary, .int v_p0_acts, .ref a_p0_kept, .ref a_p0_isKept, .ref a_p0_drawn, .ref a_p0_one, .ref a_p0_two, .ref a_p0_costs, .int v_p0_nearestOne, .int v_p0_nearestBy, .int v_p0_how, .int v_p0_spot, .int v_p0_closestTwo, .int v_p0_closestBy])), (a_p0_one, .inl (cc 0, 41, .inl c_p0_one_o))]) 0 0 := by
  intro sz
  refine xstart (bc := cX7_layPoint) (maxL := 7) (ret := (some .boolean)) (by decide) rfl (Nat.le_of_ble_eq_true rfl) ?_
  intro p e s m args below meth c A hargs hsz hAe F hK hN hA hmn hP hD hS ls hl
  have hx := F.1.1
  have hb := F.1.2.1
  have hml := F.1.2.2.1
  have hown := F.1.2.2.2.1
  have hts := F.1.2.2.2.2
  have hl : lv_has ls 7 [(0, .ref a_p0), (1, .ref a_p1), (2, .int p2), (3, .int p3)] := hl
  have k1 := hts (.fieldLink RX7 32 "RuledStrokesModel" "one" "[I") (by decide +kernel)
  unfold fX7_layPoint at h
  refine lv_aload_n hx hb dX7_layPoint_0 rfl (lv_at hl 1 rfl) ?_
  refine lv_bipush (v := (76 : Int32)) hx hb dX7_layPoint_1 (by decide) ?_
  obtain ⟨g1, h⟩ := gd h
  refine va_iald hx hb hK hP 0 0 rfl rfl g1 dX7_layPoint_3 ?_
  refine lv_if_ne (tgt := 11) hx hb dX7_layPoint_4 (by decide) (fun (c2 : ¬ (c_p1 (76 : Int32).toNatClampNeg) = 0) => ?_) (fun (c2 : (c_p1 (76 : Int32).toNatClampNeg) = 0) => ?_)
  · replace h := iq c2 h
    refine lv_iconst (v := (0 : Int32)) hx hb dX7_layPoint_11 (by decide) ?_
    refine lv_istore (x := (0 : Int32)) (lv' := [(4, .int (0 : Int32)), (0, .ref a_p0), (1, .ref a_p1), (2, .int p2), (3, .int p3)]) hx hb dX7_layPoint_12 hl (by decide) rfl (fun ls hl => ?_)
    refine lv_iload hx hb dX7_layPoint_14 (lv_at hl 0 rfl) ?_
    refine lv_if_eq (tgt := 29) hx hb dX7_layPoint_16 (by decide) (fun _ => ?_) (fun c3 => absurd (by decide) c3)
    refine lv_aload_n hx hb dX7_layPoint_29 rfl (lv_at hl 2 rfl) ?_
    refine lv_iconst (v := (1 : Int32)) hx hb dX7_layPoint_30 (by decide) ?_
    refine lv_aload_n hx hb dX7_layPoint_31 rfl (lv_at hl 2 rfl) ?_
    refine lv_iconst (v := (0 : Int32)) hx hb dX7_layPoint_32 (by decide) ?_
    obtain ⟨g4, h⟩ := gd h
    refine va_iald hx hb hK hP 0 0 rfl rfl g4 dX7_layPoint_33 ?_
    refine lv_iadd hx hb dX7_layPoint_34 ?_
    refine lv_iconst (v := (1 : Int32)) hx hb dX7_layPoint_35 (by decide) ?_
    refine lv_isub hx hb dX7_layPoint_36 ?_
    obtain ⟨g5, h⟩ := gd h
    refine va_iald hx hb hK hP 0 0 rfl rfl g5 dX7_layPoint_37 ?_
    refine lv_bipush (v := (12 : Int32)) hx hb dX7_layPoint_38 (by decide) ?_
    refine lv_icmp_ne (tgt := 45) hx hb dX7_layPoint_40 (by decide) (fun (c6 : ¬ (c_p1 (((1 : Int32) + (c_p1 (0 : Int32).toNatClampNeg)) - (1 : Int32)).toNatClampNeg) = (12 : Int32)) => ?_) (fun (c6 : (c_p1 (((1 : Int32) + (c_p1 (0 : Int32).toNatClampNeg)) - (1 : Int32)).toNatClampNeg) = (12 : Int32)) => ?_)
    · replace h := iq c6 h
      refine lv_aload_n hx hb dX7_layPoint_45 rfl (lv_at hl 2 rfl) ?_
      refine lv_iconst (v := (0 : Int32)) hx hb dX7_layPoint_46 (by decide) ?_
      refine lv_dup2_11 hx hb dX7_layPoint_47 rfl rfl ?_
      obtain ⟨g7, h⟩ := gd h
      refine va_iald hx hb hK hP 0 0 rfl rfl g7 dX7_layPoint_48 ?_
      refine lv_iload hx hb dX7_layPoint_49 (lv_at hl 0 rfl) ?_
      refine lv_if_eq (tgt := 58) hx hb dX7_layPoint_51 (by decide) (fun _ => ?_) (fun c8 => absurd (by decide) c8)
      refine lv_iconst (v := (0 : Int32)) hx hb dX7_layPoint_58 (by decide) ?_
      refine lv_iadd hx hb dX7_layPoint_59 ?_
      obtain ⟨g9, h⟩ := gd h
      refine va_iast hx hb hK hP hD hS 0 0 rfl rfl g9 dX7_layPoint_60 (fun H locs hP hD hS => ?_)
      have hP : va_P D vwCl [(a_p1, .inl (cc 0, n_p1, .inl (upd c_p1 (0 : Int32).toNatClampNeg ((c_p1 (0 : Int32).toNatClampNeg) + (0 : Int32))))), (a_p0, .inr (7, [.int v_p0_refusal, .ref a_p0_text, .int v_p0_size, .ref a_p0_now, .ref a_p0_trial, .ref a_p0_diary, .int v_p0_acts, .ref a_p0_kept, .ref a_p0_isKept, .ref a_p0_drawn, .ref a_p0_one, .ref a_p0_two, .ref a_p0_costs, .int v_p0_nearestOne, .int v_p0_nearestBy, .int v_p0_how, .int v_p0_spot, .int v_p0_closestTwo, .int v_p0_closestBy])), (a_p0_one, .inl (cc 0, 41, .inl c_p0_one))] H := hP
      have hD : va_D A [(a_p1, .inl (cc 0, n_p1, .inl (upd c_p1 (0 : Int32).toNatClampNeg ((c_p1 (0 : Int32).toNatClampNeg) + (0 : Int32))))), (a_p0, .inr (7, [.int v_p0_refusal, .ref a_p0_text, .int v_p0_size, .ref a_p0_now, .ref a_p0_trial, .ref a_p0_diary, .int v_p0_acts, .ref a_p0_kept, .ref a_p0_isKept, .ref a_p0_drawn, .ref a_p0_one, .ref a_p0_two, .ref a_p0_costs, .int v_p0_nearestOne, .int v_p0_nearestBy, .int v_p0_how, .int v_p0_spot, .int v_p0_closestTwo, .int v_p0_closestBy])), (a_p0_one, .inl (cc 0, 41, .inl c_p0_one))] := hD
      obtain ⟨c_p1_10, q10, h⟩ := b1_some h
      replace q10 := Option.some.inj q10
      rw [q10] at hP hD
      refine lv_aload_n hx hb dX7_layPoint_61 rfl (lv_at hl 2 rfl) ?_
      refine lv_iconst (v := (0 : Int32)) hx hb dX7_layPoint_62 (by decide) ?_
      obtain ⟨g11, h⟩ := gd h
      refine va_iald hx hb hK hP 0 0 rfl rfl g11 dX7_layPoint_63 ?_
      refine lv_iconst (v := (1 : Int32)) hx hb dX7_layPoint_64 (by decide) ?_
      refine lv_isub hx hb dX7_layPoint_65 ?_
      obtain ⟨n5_12, q12, h⟩ := b1_some h
      replace q12 := Option.some.inj q12
      refine W.eq (g2 := F0 m 66 ls [.int n5_12]) (by rw [q12]) ?_
      refine lv_istore (x := n5_12) (lv' := [(5, .int n5_12), (4, .int (0 : Int32)), (0, .ref a_p0), (1, .ref a_p1), (2, .int p2), (3, .int p3)]) hx hb dX7_layPoint_66 hl (by decide) rfl (fun ls hl => ?_)
      refine lv_iconst (v := (4 : Int32)) hx hb dX7_layPoint_68 (by decide) ?_
      refine lv_bipush (v := (24 : Int32)) hx hb dX7_layPoint_69 (by decide) ?_
      refine lv_iload hx hb dX7_layPoint_71 (lv_at hl 0 rfl) ?_
      refine lv_imul hx hb dX7_layPoint_73 ?_
      refine lv_iadd hx hb dX7_layPoint_74 ?_
      refine lv_iconst (v := (2 : Int32)) hx hb dX7_layPoint_75 (by decide) ?_
      refine lv_aload_n hx hb dX7_layPoint_76 rfl (lv_at hl 3 rfl) ?_
      refine lv_iconst (v := (1 : Int32)) hx hb dX7_layPoint_77 (by decide) ?_
      refine lv_iload hx hb dX7_layPoint_78 (lv_at hl 0 rfl) ?_
      refine lv_iadd hx hb dX7_layPoint_80 ?_
      obtain ⟨g13, h⟩ := gd h
      refine va_iald hx hb hK hP 0 0 rfl rfl g13 dX7_layPoint_81 ?_
      refine lv_imul hx hb dX7_layPoint_82 ?_
      refine lv_iadd hx hb dX7_layPoint_83 ?_
      obtain ⟨n6_14, q14, h⟩ := b1_some h
      replace q14 := Option.some.inj q14
      refine W.eq (g2 := F0 m 84 ls [.int n6_14]) (by rw [q14]) ?_
      refine lv_istore (x := n6_14) (lv' := [(6, .int n6_14), (5, .int n5_12), (4, .int (0 : Int32)), (0, .ref a_p0), (1, .ref a_p1), (2, .int p2), (3, .int p3)]) hx hb dX7_layPoint_84 hl (by decide) rfl (fun ls hl => ?_)
      refine lv_aload_n hx hb dX7_layPoint_86 rfl (lv_at hl 4 rfl) ?_
      refine lv_iload hx hb dX7_layPoint_87 (lv_at hl 0 rfl) ?_
      refine lv_iload_n hx hb dX7_layPoint_89 rfl (lv_at hl 5 rfl) ?_
      obtain ⟨g15, h⟩ := gd h
      refine va_iast hx hb hK hP hD hS 0 0 rfl rfl g15 dX7_layPoint_90 (fun H locs hP hD hS => ?_)
      have hP : va_P D vwCl [(a_p1, .inl (cc 0, n_p1, .inl (upd c_p1_10 n6_14.toNatClampNeg p2))), (a_p0, .inr (7, [.int v_p0_refusal, .ref a_p0_text, .int v_p0_size, .ref a_p0_now, .ref a_p0_trial, .ref a_p0_diary, .int v_p0_acts, .ref a_p0_kept, .ref a_p0_isKept, .ref a_p0_drawn, .ref a_p0_one, .ref a_p0_two, .ref a_p0_costs, .int v_p0_nearestOne, .int v_p0_nearestBy, .int v_p0_how, .int v_p0_spot, .int v_p0_closestTwo, .int v_p0_closestBy])), (a_p0_one, .inl (cc 0, 41, .inl c_p0_one))] H := hP
      have hD : va_D A [(a_p1, .inl (cc 0, n_p1, .inl (upd c_p1_10 n6_14.toNatClampNeg p2))), (a_p0, .inr (7, [.int v_p0_refusal, .ref a_p0_text, .int v_p0_size, .ref a_p0_now, .ref a_p0_trial, .ref a_p0_diary, .int v_p0_acts, .ref a_p0_kept, .ref a_p0_isKept, .ref a_p0_drawn, .ref a_p0_one, .ref a_p0_two, .ref a_p0_costs, .int v_p0_nearestOne, .int v_p0_nearestBy, .int v_p0_how, .int v_p0_spot, .int v_p0_closestTwo, .int v_p0_closestBy])), (a_p0_one, .inl (cc 0, 41, .inl c_p0_one))] := hD
      obtain ⟨c_p1_16, q16, h⟩ := b1_some h
      replace q16 := Option.some.inj q16
      rw [q16] at hP hD
      refine lv_aload_n hx hb dX7_layPoint_91 rfl (lv_at hl 4 rfl) ?_
      refine lv_iload hx hb dX7_layPoint_92 (lv_at hl 0 rfl) ?_
      refine lv_iconst (v := (1 : Int32)) hx hb dX7_layPoint_94 (by decide) ?_
      refine lv_iadd hx hb dX7_layPoint_95 ?_
      refine lv_iload_n hx hb dX7_layPoint_96 rfl (lv_at hl 6 rfl) ?_
      obtain ⟨g17, h⟩ := gd h
      refine va_iast hx hb hK hP hD hS 0 0 rfl rfl g17 dX7_layPoint_97 (fun H locs hP hD hS => ?_)
      have hP : va_P D vwCl [(a_p1, .inl (cc 0, n_p1, .inl (upd c_p1_16 (n6_14 + (1 : Int32)).toNatClampNeg p3))), (a_p0, .inr (7, [.int v_p0_refusal, .ref a_p0_text, .int v_p0_size, .ref a_p0_now, .ref a_p0_trial, .ref a_p0_diary, .int v_p0_acts, .ref a_p0_kept, .ref a_p0_isKept, .ref a_p0_drawn, .ref a_p0_one, .ref a_p0_two, .ref a_p0_costs, .int v_p0_nearestOne, .int v_p0_nearestBy, .int v_p0_how, .int v_p0_spot, .int v_p0_closestTwo, .int v_p0_closestBy])), (a_p0_one, .inl (cc 0, 41, .inl c_p0_one))] H := hP
      have hD : va_D A [(a_p1, .inl (cc 0, n_p1, .inl (upd c_p1_16 (n6_14 + (1 : Int32)).toNatClampNeg p3))), (a_p0, .inr (7, [.int v_p0_refusal, .ref a_p0_text, .int v_p0_size, .ref a_p0_now, .ref a_p0_trial, .ref a_p0_diary, .int v_p0_acts, .ref a_p0_kept, .ref a_p0_isKept, .ref a_p0_drawn, .ref a_p0_one, .ref a_p0_two, .ref a_p0_costs, .int v_p0_nearestOne, .int v_p0_nearestBy, .int v_p0_how, .int v_p0_spot, .int v_p0_closestTwo, .int v_p0_closestBy])), (a_p0_one, .inl (cc 0, 41, .inl c_p0_one))] := hD
      obtain ⟨c_p1_18, q18, h⟩ := b1_some h
      replace q18 := Option.some.inj q18
      rw [q18] at hP hD
      refine lv_aload_n hx hb dX7_layPoint_98 rfl (lv_at hl 4 rfl) ?_
      refine lv_iconst (v := (1 : Int32)) hx hb dX7_layPoint_99 (by decide) ?_
      refine lv_iload hx hb dX7_layPoint_100 (lv_at hl 1 rfl) ?_
      refine lv_iadd hx hb dX7_layPoint_102 ?_
      refine lv_dup2_11 hx hb dX7_layPoint_103 rfl rfl ?_
      obtain ⟨g19, h⟩ := gd h
      refine va_iald hx hb hK hP 0 0 rfl rfl g19 dX7_layPoint_104 ?_
      refine lv_iconst (v := (1 : Int32)) hx hb dX7_layPoint_105 (by decide) ?_
      refine lv_iadd hx hb dX7_layPoint_106 ?_
      obtain ⟨g20, h⟩ := gd h
      refine va_iast hx hb hK hP hD hS 0 0 rfl rfl g20 dX7_layPoint_107 (fun H locs hP hD hS => ?_)
      have hP : va_P D vwCl [(a_p1, .inl (cc 0, n_p1, .inl (upd c_p1_18 ((1 : Int32) + n5_12).toNatClampNeg ((c_p1_18 ((1 : Int32) + n5_12).toNatClampNeg) + (1 : Int32))))), (a_p0, .inr (7, [.int v_p0_refusal, .ref a_p0_text, .int v_p0_size, .ref a_p0_now, .ref a_p0_trial, .ref a_p0_diary, .int v_p0_acts, .ref a_p0_kept, .ref a_p0_isKept, .ref a_p0_drawn, .ref a_p0_one, .ref a_p0_two, .ref a_p0_costs, .int v_p0_nearestOne, .int v_p0_nearestBy, .int v_p0_how, .int v_p0_spot, .int v_p0_closestTwo, .int v_p0_closestBy])), (a_p0_one, .inl (cc 0, 41, .inl c_p0_one))] H := hP
      have hD : va_D A [(a_p1, .inl (cc 0, n_p1, .inl (upd c_p1_18 ((1 : Int32) + n5_12).toNatClampNeg ((c_p1_18 ((1 : Int32) + n5_12).toNatClampNeg) + (1 : Int32))))), (a_p0, .inr (7, [.int v_p0_refusal, .ref a_p0_text, .int v_p0_size, .ref a_p0_now, .ref a_p0_trial, .ref a_p0_diary, .int v_p0_acts, .ref a_p0_kept, .ref a_p0_isKept, .ref a_p0_drawn, .ref a_p0_one, .ref a_p0_two, .ref a_p0_costs, .int v_p0_nearestOne, .int v_p0_nearestBy, .int v_p0_how, .int v_p0_spot, .int v_p0_closestTwo, .int v_p0_closestBy])), (a_p0_one, .inl (cc 0, 41, .inl c_p0_one))] := hD
      obtain ⟨c_p1_21, q21, h⟩ := b1_some h
      replace q21 := Option.some.inj q21
      rw [q21] at hP hD
      refine lv_aload_n hx hb dX7_layPoint_108 rfl (lv_at hl 4 rfl) ?_
      refine lv_bipush (v := (76 : Int32)) hx hb dX7_layPoint_109 (by decide) ?_
      refine lv_iconst (v := (1 : Int32)) hx hb dX7_layPoint_111 (by decide) ?_
      obtain ⟨g22, h⟩ := gd h
      refine va_iast hx hb hK hP hD hS 0 0 rfl rfl g22 dX7_layPoint_112 (fun H locs hP hD hS => ?_)
      have hP : va_P D vwCl [(a_p1, .inl (cc 0, n_p1, .inl (upd c_p1_21 (76 : Int32).toNatClampNeg (1 : Int32)))), (a_p0, .inr (7, [.int v_p0_refusal, .ref a_p0_text, .int v_p0_size, .ref a_p0_now, .ref a_p0_trial, .ref a_p0_diary, .int v_p0_acts, .ref a_p0_kept, .ref a_p0_isKept, .ref a_p0_drawn, .ref a_p0_one, .ref a_p0_two, .ref a_p0_costs, .int v_p0_nearestOne, .int v_p0_nearestBy, .int v_p0_how, .int v_p0_spot, .int v_p0_closestTwo, .int v_p0_closestBy])), (a_p0_one, .inl (cc 0, 41, .inl c_p0_one))] H := hP
      have hD : va_D A [(a_p1, .inl (cc 0, n_p1, .inl (upd c_p1_21 (76 : Int32).toNatClampNeg (1 : Int32)))), (a_p0, .inr (7, [.int v_p0_refusal, .ref a_p0_text, .int v_p0_size, .ref a_p0_now, .ref a_p0_trial, .ref a_p0_diary, .int v_p0_acts, .ref a_p0_kept, .ref a_p0_isKept, .ref a_p0_drawn, .ref a_p0_one, .ref a_p0_two, .ref a_p0_costs, .int v_p0_nearestOne, .int v_p0_nearestBy, .int v_p0_how, .int v_p0_spot, .int v_p0_closestTwo, .int v_p0_closestBy])), (a_p0_one, .inl (cc 0, 41, .inl c_p0_one))] := hD
      obtain ⟨c_p1_23, q23, h⟩ := b1_some h
      replace q23 := Option.some.inj q23
      rw [q23] at hP hD
      refine lv_aload_n hx hb dX7_layPoint_113 rfl (lv_at hl 4 rfl) ?_
      refine lv_iconst (v := (0 : Int32)) hx hb dX7_layPoint_114 (by decide) ?_
      refine lv_aload_n hx hb dX7_layPoint_115 rfl (lv_at hl 4 rfl) ?_
      refine lv_bipush (v := (77 : Int32)) hx hb dX7_layPoint_116 (by decide) ?_
      obtain ⟨g24, h⟩ := gd h
      refine va_iald hx hb hK hP 0 0 rfl rfl g24 dX7_layPoint_118 ?_
      refine lv_aload_n hx hb dX7_layPoint_119 rfl (lv_at hl 3 rfl) ?_
      refine va_get (D := D) (ci := 7) (v := .ref a_p0_one) (C := RX7) (T := TX7) (N := 19) hx hb hts inX7_layPoint_X7 hown hK hP 1 rfl rfl 10 (by decide) k1 (fun _ h9 => h9) rfl dX7_layPoint_120 ?_
      obtain ⟨r_25, c_p0_one_25, hc25, h⟩ := b2_some h
      refine xcalli (wr := [(a_p0, .inr (7, [.int v_p0_refusal, .ref a_p0_text, .int v_p0_size, .ref a_p0_now, .ref a_p0_trial, .ref a_p0_diary, .int v_p0_acts, .ref a_p0_kept, .ref a_p0_isKept, .ref a_p0_drawn, .ref a_p0_one, .ref a_p0_two, .ref a_p0_costs, .int v_p0_nearestOne, .int v_p0_nearestBy, .int v_p0_how, .int v_p0_spot, .int v_p0_closestTwo, .int v_p0_closestBy]))]) [0, 2] [1] (xrunS (As := [.ref a_p1, .int (0 : Int32), .int (c_p1_23 (77 : Int32).toNatClampNeg), .ref a_p0_one]) (rest := []) F ((kX7_signature l D cc (a_p0 := a_p1) (a_p3 := a_p0_one) (n_p0 := n_p1) (n_p3 := 41) (c_p0 := c_p1_23) (c_p3 := c_p0_one) (p1 := (0 : Int32)) (p2 := c_p1_23 (77 : Int32).toNatClampNeg) (r0 := r_25) (c_p3_o := c_p0_one_25) (h := hc25)) _) (cwS 4 hts gX7_layPoint_X7_signature rfl rfl rfl (by decide +kernel) ⟨Nat.le_of_ble_eq_true rfl, Nat.le_of_ble_eq_true rfl⟩) hK hN hP hD [0, 2] rfl (by decide) rfl hl rfl (Nat.le_of_ble_eq_true rfl) dX7_layPoint_123 ⟨Nat.zero_le _, Nat.zero_le _⟩) hP hD hS hA rfl rfl (by decide) (by decide) (fun _ H locs hP hD hS => ?_)
      have hP : va_P D vwCl [(a_p0, .inr (7, [.int v_p0_refusal, .ref a_p0_text, .int v_p0_size, .ref a_p0_now, .ref a_p0_trial, .ref a_p0_diary, .int v_p0_acts, .ref a_p0_kept, .ref a_p0_isKept, .ref a_p0_drawn, .ref a_p0_one, .ref a_p0_two, .ref a_p0_costs, .int v_p0_nearestOne, .int v_p0_nearestBy, .int v_p0_how, .int v_p0_spot, .int v_p0_closestTwo, .int v_p0_closestBy])), (a_p1, .inl (cc 0, n_p1, .inl c_p1_23)), (a_p0_one, .inl (cc 0, 41, .inl c_p0_one_25))] H := hP
      have hD : va_D A [(a_p0, .inr (7, [.int v_p0_refusal, .ref a_p0_text, .int v_p0_size, .ref a_p0_now, .ref a_p0_trial, .ref a_p0_diary, .int v_p0_acts, .ref a_p0_kept, .ref a_p0_isKept, .ref a_p0_drawn, .ref a_p0_one, .ref a_p0_two, .ref a_p0_costs, .int v_p0_nearestOne, .int v_p0_nearestBy, .int v_p0_how, .int v_p0_spot, .int v_p0_closestTwo, .int v_p0_closestBy])), (a_p1, .inl (cc 0, n_p1, .inl c_p1_23)), (a_p0_one, .inl (cc 0, 41, .inl c_p0_one_25))] := hD
      refine lv_bipush (v := (40 : Int32)) hx hb dX7_layPoint_126 (by decide) ?_
      refine lv_icmp_gt (tgt := 133) hx hb dX7_layPoint_128 (by decide) (fun (c27 : (40 : Int32) < r_25) => ?_) (fun (c27 : ¬ (40 : Int32) < r_25) => ?_)
      · replace h := ip c27 h
        refine lv_aload_n hx hb dX7_layPoint_133 rfl (lv_at hl 4 rfl) ?_
        refine lv_iconst (v := (1 : Int32)) hx hb dX7_layPoint_134 (by decide) ?_
        refine lv_iload hx hb dX7_layPoint_135 (lv_at hl 1 rfl) ?_
        refine lv_iadd hx hb dX7_layPoint_137 ?_
        refine lv_dup2_11 hx hb dX7_layPoint_138 rfl rfl ?_
        obtain ⟨g28, h⟩ := gd h
        refine va_iald hx hb hK hP 1 0 rfl rfl g28 dX7_layPoint_139 ?_
        refine lv_iconst (v := (1 : Int32)) hx hb dX7_layPoint_140 (by decide) ?_
        refine lv_isub hx hb dX7_layPoint_141 ?_
        obtain ⟨g29, h⟩ := gd h
        refine va_iast hx hb hK hP hD hS 1 0 rfl rfl g29 dX7_layPoint_142 (fun H locs hP hD hS => ?_)
        have hP : va_P D vwCl [(a_p0, .inr (7, [.int v_p0_refusal, .ref a_p0_text, .int v_p0_size, .ref a_p0_now, .ref a_p0_trial, .ref a_p0_diary, .int v_p0_acts, .ref a_p0_kept, .ref a_p0_isKept, .ref a_p0_drawn, .ref a_p0_one, .ref a_p0_two, .ref a_p0_costs, .int v_p0_nearestOne, .int v_p0_nearestBy, .int v_p0_how, .int v_p0_spot, .int v_p0_closestTwo, .int v_p0_closestBy])), (a_p1, .inl (cc 0, n_p1, .inl (upd c_p1_23 ((1 : Int32) + n5_12).toNatClampNeg ((c_p1_23 ((1 : Int32) + n5_12).toNatClampNeg) - (1 : Int32))))), (a_p0_one, .inl (cc 0, 41, .inl c_p0_one_25))] H := hP
        have hD : va_D A [(a_p0, .inr (7, [.int v_p0_refusal, .ref a_p0_text, .int v_p0_size, .ref a_p0_now, .ref a_p0_trial, .ref a_p0_diary, .int v_p0_acts, .ref a_p0_kept, .ref a_p0_isKept, .ref a_p0_drawn, .ref a_p0_one, .ref a_p0_two, .ref a_p0_costs, .int v_p0_nearestOne, .int v_p0_nearestBy, .int v_p0_how, .int v_p0_spot, .int v_p0_closestTwo, .int v_p0_closestBy])), (a_p1, .inl (cc 0, n_p1, .inl (upd c_p1_23 ((1 : Int32) + n5_12).toNatClampNeg ((c_p1_23 ((1 : Int32) + n5_12).toNatClampNeg) - (1 : Int32))))), (a_p0_one, .inl (cc 0, 41, .inl c_p0_one_25))] := hD
        obtain ⟨c_p1_30, q30, h⟩ := b1_some h
        replace q30 := Option.some.inj q30
        rw [q30] at hP hD
        refine lv_aload_n hx hb dX7_layPoint_143 rfl (lv_at hl 4 rfl) ?_
        refine lv_iload hx hb dX7_layPoint_144 (lv_at hl 0 rfl) ?_
        refine lv_iconst (v := (0 : Int32)) hx hb dX7_layPoint_146 (by decide) ?_
        obtain ⟨g31, h⟩ := gd h
        refine va_iast hx hb hK hP hD hS 1 0 rfl rfl g31 dX7_layPoint_147 (fun H locs hP hD hS => ?_)
        have hP : va_P D vwCl [(a_p0, .inr (7, [.int v_p0_refusal, .ref a_p0_text, .int v_p0_size, .ref a_p0_now, .ref a_p0_trial, .ref a_p0_diary, .int v_p0_acts, .ref a_p0_kept, .ref a_p0_isKept, .ref a_p0_drawn, .ref a_p0_one, .ref a_p0_two, .ref a_p0_costs, .int v_p0_nearestOne, .int v_p0_nearestBy, .int v_p0_how, .int v_p0_spot, .int v_p0_closestTwo, .int v_p0_closestBy])), (a_p1, .inl (cc 0, n_p1, .inl (upd c_p1_30 n6_14.toNatClampNeg (0 : Int32)))), (a_p0_one, .inl (cc 0, 41, .inl c_p0_one_25))] H := hP
        have hD : va_D A [(a_p0, .inr (7, [.int v_p0_refusal, .ref a_p0_text, .int v_p0_size, .ref a_p0_now, .ref a_p0_trial, .ref a_p0_diary, .int v_p0_acts, .ref a_p0_kept, .ref a_p0_isKept, .ref a_p0_drawn, .ref a_p0_one, .ref a_p0_two, .ref a_p0_costs, .int v_p0_nearestOne, .int v_p0_nearestBy, .int v_p0_how, .int v_p0_spot, .int v_p0_closestTwo, .int v_p0_closestBy])), (a_p1, .inl (cc 0, n_p1, .inl (upd c_p1_30 n6_14.toNatClampNeg (0 : Int32)))), (a_p0_one, .inl (cc 0, 41, .inl c_p0_one_25))] := hD
        obtain ⟨c_p1_32, q32, h⟩ := b1_some h
        replace q32 := Option.some.inj q32
        rw [q32] at hP hD
        refine lv_aload_n hx hb dX7_layPoint_148 rfl (lv_at hl 4 rfl) ?_
        refine lv_iload hx hb dX7_layPoint_149 (lv_at hl 0 rfl) ?_
        refine lv_iconst (v := (1 : Int32)) hx hb dX7_layPoint_151 (by decide) ?_
        refine lv_iadd hx hb dX7_layPoint_152 ?_
        refine lv_iconst (v := (0 : Int32)) hx hb dX7_layPoint_153 (by decide) ?_
        obtain ⟨g33, h⟩ := gd h
        refine va_iast hx hb hK hP hD hS 1 0 rfl rfl g33 dX7_layPoint_154 (fun H locs hP hD hS => ?_)
        have hP : va_P D vwCl [(a_p0, .inr (7, [.int v_p0_refusal, .ref a_p0_text, .int v_p0_size, .ref a_p0_now, .ref a_p0_trial, .ref a_p0_diary, .int v_p0_acts, .ref a_p0_kept, .ref a_p0_isKept, .ref a_p0_drawn, .ref a_p0_one, .ref a_p0_two, .ref a_p0_costs, .int v_p0_nearestOne, .int v_p0_nearestBy, .int v_p0_how, .int v_p0_spot, .int v_p0_closestTwo, .int v_p0_closestBy])), (a_p1, .inl (cc 0, n_p1, .inl (upd c_p1_32 (n6_14 + (1 : Int32)).toNatClampNeg (0 : Int32)))), (a_p0_one, .inl (cc 0, 41, .inl c_p0_one_25))] H := hP
        have hD : va_D A [(a_p0, .inr (7, [.int v_p0_refusal, .ref a_p0_text, .int v_p0_size, .ref a_p0_now, .ref a_p0_trial, .ref a_p0_diary, .int v_p0_acts, .ref a_p0_kept, .ref a_p0_isKept, .ref a_p0_drawn, .ref a_p0_one, .ref a_p0_two, .ref a_p0_costs, .int v_p0_nearestOne, .int v_p0_nearestBy, .int v_p0_how, .int v_p0_spot, .int v_p0_closestTwo, .int v_p0_closestBy])), (a_p1, .inl (cc 0, n_p1, .inl (upd c_p1_32 (n6_14 + (1 : Int32)).toNatClampNeg (0 : Int32)))), (a_p0_one, .inl (cc 0, 41, .inl c_p0_one_25))] := hD
        obtain ⟨c_p1_34, q34, h⟩ := b1_some h
        replace q34 := Option.some.inj q34
        rw [q34] at hP hD
        refine lv_aload_n hx hb dX7_layPoint_155 rfl (lv_at hl 4 rfl) ?_
        refine lv_iconst (v := (0 : Int32)) hx hb dX7_layPoint_156 (by decide) ?_
        refine lv_dup2_11 hx hb dX7_layPoint_157 rfl rfl ?_
        obtain ⟨g35, h⟩ := gd h
        refine va_iald hx hb hK hP 1 0 rfl rfl g35 dX7_layPoint_158 ?_
        refine lv_iload hx hb dX7_layPoint_159 (lv_at hl 2 rfl) ?_
        refine lv_if_eq (tgt := 168) hx hb dX7_layPoint_161 (by decide) (fun _ => ?_) (fun c36 => absurd (by decide) c36)
        refine lv_iconst (v := (0 : Int32)) hx hb dX7_layPoint_168 (by decide) ?_
        refine lv_isub hx hb dX7_layPoint_169 ?_
        obtain ⟨g37, h⟩ := gd h
        refine va_iast hx hb hK hP hD hS 1 0 rfl rfl g37 dX7_layPoint_170 (fun H locs hP hD hS => ?_)
        have hP : va_P D vwCl [(a_p0, .inr (7, [.int v_p0_refusal, .ref a_p0_text, .int v_p0_size, .ref a_p0_now, .ref a_p0_trial, .ref a_p0_diary, .int v_p0_acts, .ref a_p0_kept, .ref a_p0_isKept, .ref a_p0_drawn, .ref a_p0_one, .ref a_p0_two, .ref a_p0_costs, .int v_p0_nearestOne, .int v_p0_nearestBy, .int v_p0_how, .int v_p0_spot, .int v_p0_closestTwo, .int v_p0_closestBy])), (a_p1, .inl (cc 0, n_p1, .inl (upd c_p1_34 (0 : Int32).toNatClampNeg ((c_p1_34 (0 : Int32).toNatClampNeg) - (0 : Int32))))), (a_p0_one, .inl (cc 0, 41, .inl c_p0_one_25))] H := hP
        have hD : va_D A [(a_p0, .inr (7, [.int v_p0_refusal, .ref a_p0_text, .int v_p0_size, .ref a_p0_now, .ref a_p0_trial, .ref a_p0_diary, .int v_p0_acts, .ref a_p0_kept, .ref a_p0_isKept, .ref a_p0_drawn, .ref a_p0_one, .ref a_p0_two, .ref a_p0_costs, .int v_p0_nearestOne, .int v_p0_nearestBy, .int v_p0_how, .int v_p0_spot, .int v_p0_closestTwo, .int v_p0_closestBy])), (a_p1, .inl (cc 0, n_p1, .inl (upd c_p1_34 (0 : Int32).toNatClampNeg ((c_p1_34 (0 : Int32).toNatClampNeg) - (0 : Int32))))), (a_p0_one, .inl (cc 0, 41, .inl c_p0_one_25))] := hD
        obtain ⟨c_p1_38, q38, h⟩ := b1_some h
        replace q38 := Option.some.inj q38
        rw [q38] at hP hD
        refine lv_aload_n hx hb dX7_layPoint_171 rfl (lv_at hl 4 rfl) ?_
        refine lv_bipush (v := (76 : Int32)) hx hb dX7_layPoint_172 (by decide) ?_
        refine lv_iload hx hb dX7_layPoint_174 (lv_at hl 2 rfl) ?_
        refine lv_if_eq (tgt := 183) hx hb dX7_layPoint_176 (by decide) (fun _ => ?_) (fun c39 => absurd (by decide) c39)
        refine lv_iconst (v := (1 : Int32)) hx hb dX7_layPoint_183 (by decide) ?_
        obtain ⟨g40, h⟩ := gd h
        refine va_iast hx hb hK hP hD hS 1 0 rfl rfl g40 dX7_layPoint_184 (fun H locs hP hD hS => ?_)
        have hP : va_P D vwCl [(a_p0, .inr (7, [.int v_p0_refusal, .ref a_p0_text, .int v_p0_size, .ref a_p0_now, .ref a_p0_trial, .ref a_p0_diary, .int v_p0_acts, .ref a_p0_kept, .ref a_p0_isKept, .ref a_p0_drawn, .ref a_p0_one, .ref a_p0_two, .ref a_p0_costs, .int v_p0_nearestOne, .int v_p0_nearestBy, .int v_p0_how, .int v_p0_spot, .int v_p0_closestTwo, .int v_p0_closestBy])), (a_p1, .inl (cc 0, n_p1, .inl (upd c_p1_38 (76 : Int32).toNatClampNeg (1 : Int32)))), (a_p0_one, .inl (cc 0, 41, .inl c_p0_one_25))] H := hP
        have hD : va_D A [(a_p0, .inr (7, [.int v_p0_refusal, .ref a_p0_text, .int v_p0_size, .ref a_p0_now, .ref a_p0_trial, .ref a_p0_diary, .int v_p0_acts, .ref a_p0_kept, .ref a_p0_isKept, .ref a_p0_drawn, .ref a_p0_one, .ref a_p0_two, .ref a_p0_costs, .int v_p0_nearestOne, .int v_p0_nearestBy, .int v_p0_how, .int v_p0_spot, .int v_p0_closestTwo, .int v_p0_closestBy])), (a_p1, .inl (cc 0, n_p1, .inl (upd c_p1_38 (76 : Int32).toNatClampNeg (1 : Int32)))), (a_p0_one, .inl (cc 0, 41, .inl c_p0_one_25))] := hD
        obtain ⟨c_p1_41, q41, h⟩ := b1_some h
        replace q41 := Option.some.inj q41
        rw [q41] at hP hD
        refine lv_iconst (v := (0 : Int32)) hx hb dX7_layPoint_185 (by decide) ?_
        have hP := hP.sub (ws' := [(a_p1, .inl (cc 0, n_p1, .inl c_p1_41)), (a_p0, .inr (7, [.int v_p0_refusal, .ref a_p0_text, .int v_p0_size, .ref a_p0_now, .ref a_p0_trial, .ref a_p0_diary, .int v_p0_acts, .ref a_p0_kept, .ref a_p0_isKept, .ref a_p0_drawn, .ref a_p0_one, .ref a_p0_two, .ref a_p0_costs, .int v_p0_nearestOne, .int v_p0_nearestBy, .int v_p0_how, .int v_p0_spot, .int v_p0_closestTwo, .int v_p0_closestBy])), (a_p0_one, .inl (cc 0, 41, .inl c_p0_one_25))]) [1, 0, 2] rfl
        have hD := hD.sub (ws' := [(a_p1, .inl (cc 0, n_p1, .inl c_p1_41)), (a_p0, .inr (7, [.int v_p0_refusal, .ref a_p0_text, .int v_p0_size, .ref a_p0_now, .ref a_p0_trial, .ref a_p0_diary, .int v_p0_acts, .ref a_p0_kept, .ref a_p0_isKept, .ref a_p0_drawn, .ref a_p0_one, .ref a_p0_two, .ref a_p0_costs, .int v_p0_nearestOne, .int v_p0_nearestBy, .int v_p0_how, .int v_p0_spot, .int v_p0_closestTwo, .int v_p0_closestBy])), (a_p0_one, .inl (cc 0, 41, .inl c_p0_one_25))]) [1, 0, 2] (by decide) rfl
        cases h
        exact xendz F (by decide) hsz hAe hK hP hD hS (fun _ => 0) rfl rfl (Nat.zero_le _) (Nat.zero_le _) dX7_layPoint_186
      · replace h := iq c27 h
        refine lv_iconst (v := (1 : Int32)) hx hb dX7_layPoint_131 (by decide) ?_
        have hP := hP.sub (ws' := [(a_p1, .inl (cc 0, n_p1, .inl c_p1_23)), (a_p0, .inr (7, [.int v_p0_refusal, .ref a_p0_text, .int v_p0_size, .ref a_p0_now, .ref a_p0_trial, .ref a_p0_diary, .int v_p0_acts, .ref a_p0_kept, .ref a_p0_isKept, .ref a_p0_drawn, .ref a_p0_one, .ref a_p0_two, .ref a_p0_costs, .int v_p0_nearestOne, .int v_p0_nearestBy, .int v_p0_how, .int v_p0_spot, .int v_p0_closestTwo, .int v_p0_closestBy])), (a_p0_one, .inl (cc 0, 41, .inl c_p0_one_25))]) [1, 0, 2] rfl
        have hD := hD.sub (ws' := [(a_p1, .inl (cc 0, n_p1, .inl c_p1_23)), (a_p0, .inr (7, [.int v_p0_refusal, .ref a_p0_text, .int v_p0_size, .ref a_p0_now, .ref a_p0_trial, .ref a_p0_diary, .int v_p0_acts, .ref a_p0_kept, .ref a_p0_isKept, .ref a_p0_drawn, .ref a_p0_one, .ref a_p0_two, .ref a_p0_costs, .int v_p0_nearestOne, .int v_p0_nearestBy, .int v_p0_how, .int v_p0_spot, .int v_p0_closestTwo, .int v_p0_closestBy])), (a_p0_one, .inl (cc 0, 41, .inl c_p0_one_25))]) [1, 0, 2] (by decide) rfl
        cases h
        exact xendz F (by decide) hsz hAe hK hP hD hS (fun _ => 0) rfl rfl (Nat.zero_le _) (Nat.zero_le _) dX7_layPoint_132
    · replace h := ip c6 h
      refine lv_iconst (v := (0 : Int32)) hx hb dX7_layPoint_43 (by decide) ?_
      cases h
      exact xendz F (by decide) hsz hAe hK hP hD hS (fun _ => 0) rfl rfl (Nat.zero_le _) (Nat.zero_le _) dX7_layPoint_44
  · replace h := ip c2 h
    refine lv_iconst (v := (1 : Int32)) hx hb dX7_layPoint_7 (by decide) ?_
    refine lv_goto (tgt := 12) hx hb dX7_layPoint_8 (by decide) ?_
    refine lv_istore (x := (1 : Int32)) (lv' := [(4, .int (1 : Int32)), (0, .ref a_p0), (1, .ref a_p1), (2, .int p2), (3, .int p3)]) hx hb dX7_layPoint_12 hl (by decide) rfl (fun ls hl => ?_)
    refine lv_iload hx hb dX7_layPoint_14 (lv_at hl 0 rfl) ?_
    refine lv_if_eq (tgt := 29) hx hb dX7_layPoint_16 (by decide) (fun c42 => absurd c42 (by decide)) (fun _ => ?_)
    refine lv_aload_n hx hb dX7_layPoint_19 rfl (lv_at hl 2 rfl) ?_
    refine lv_iconst (v := (0 : Int32)) hx hb dX7_layPoint_20 (by decide) ?_
    obtain ⟨g43, h⟩ := gd h
    refine va_iald hx hb hK hP 0 0 rfl rfl g43 dX7_layPoint_21 ?_
    refine lv_iconst (v := (3 : Int32)) hx hb dX7_layPoint_22 (by decide) ?_
    refine lv_icmp_ne (tgt := 45) hx hb dX7_layPoint_23 (by decide) (fun (c44 : ¬ (c_p1 (0 : Int32).toNatClampNeg) = (3 : Int32)) => ?_) (fun (c44 : (c_p1 (0 : Int32).toNatClampNeg) = (3 : Int32)) => ?_)
    · replace h := iq c44 h
      refine lv_aload_n hx hb dX7_layPoint_45 rfl (lv_at hl 2 rfl) ?_
      refine lv_iconst (v := (0 : Int32)) hx hb dX7_layPoint_46 (by decide) ?_
      refine lv_dup2_11 hx hb dX7_layPoint_47 rfl rfl ?_
      obtain ⟨g45, h⟩ := gd h
      refine va_iald hx hb hK hP 0 0 rfl rfl g45 dX7_layPoint_48 ?_
      refine lv_iload hx hb dX7_layPoint_49 (lv_at hl 0 rfl) ?_
      refine lv_if_eq (tgt := 58) hx hb dX7_layPoint_51 (by decide) (fun c46 => absurd c46 (by decide)) (fun _ => ?_)
      refine lv_iconst (v := (1 : Int32)) hx hb dX7_layPoint_54 (by decide) ?_
      refine lv_goto (tgt := 59) hx hb dX7_layPoint_55 (by decide) ?_
      refine lv_iadd hx hb dX7_layPoint_59 ?_
      obtain ⟨g47, h⟩ := gd h
      refine va_iast hx hb hK hP hD hS 0 0 rfl rfl g47 dX7_layPoint_60 (fun H locs hP hD hS => ?_)
      have hP : va_P D vwCl [(a_p1, .inl (cc 0, n_p1, .inl (upd c_p1 (0 : Int32).toNatClampNeg ((c_p1 (0 : Int32).toNatClampNeg) + (1 : Int32))))), (a_p0, .inr (7, [.int v_p0_refusal, .ref a_p0_text, .int v_p0_size, .ref a_p0_now, .ref a_p0_trial, .ref a_p0_diary, .int v_p0_acts, .ref a_p0_kept, .ref a_p0_isKept, .ref a_p0_drawn, .ref a_p0_one, .ref a_p0_two, .ref a_p0_costs, .int v_p0_nearestOne, .int v_p0_nearestBy, .int v_p0_how, .int v_p0_spot, .int v_p0_closestTwo, .int v_p0_closestBy])), (a_p0_one, .inl (cc 0, 41, .inl c_p0_one))] H := hP
      have hD : va_D A [(a_p1, .inl (cc 0, n_p1, .inl (upd c_p1 (0 : Int32).toNatClampNeg ((c_p1 (0 : Int32).toNatClampNeg) + (1 : Int32))))), (a_p0, .inr (7, [.int v_p0_refusal, .ref a_p0_text, .int v_p0_size, .ref a_p0_now, .ref a_p0_trial, .ref a_p0_diary, .int v_p0_acts, .ref a_p0_kept, .ref a_p0_isKept, .ref a_p0_drawn, .ref a_p0_one, .ref a_p0_two, .ref a_p0_costs, .int v_p0_nearestOne, .int v_p0_nearestBy, .int v_p0_how, .int v_p0_spot, .int v_p0_closestTwo, .int v_p0_closestBy])), (a_p0_one, .inl (cc 0, 41, .inl c_p0_one))] := hD
      obtain ⟨c_p1_48, q48, h⟩ := b1_some h
      replace q48 := Option.some.inj q48
      rw [q48] at hP hD
      refine lv_aload_n hx hb dX7_layPoint_61 rfl (lv_at hl 2 rfl) ?_
      refine lv_iconst (v := (0 : Int32)) hx hb dX7_layPoint_62 (by decide) ?_
      obtain ⟨g49, h⟩ := gd h
      refine va_iald hx hb hK hP 0 0 rfl rfl g49 dX7_layPoint_63 ?_
      refine lv_iconst (v := (1 : Int32)) hx hb dX7_layPoint_64 (by decide) ?_
      refine lv_isub hx hb dX7_layPoint_65 ?_
      obtain ⟨n5_50, q50, h⟩ := b1_some h
      replace q50 := Option.some.inj q50
      refine W.eq (g2 := F0 m 66 ls [.int n5_50]) (by rw [q50]) ?_
      refine lv_istore (x := n5_50) (lv' := [(5, .int n5_50), (4, .int (1 : Int32)), (0, .ref a_p0), (1, .ref a_p1), (2, .int p2), (3, .int p3)]) hx hb dX7_layPoint_66 hl (by decide) rfl (fun ls hl => ?_)
      refine lv_iconst (v := (4 : Int32)) hx hb dX7_layPoint_68 (by decide) ?_
      refine lv_bipush (v := (24 : Int32)) hx hb dX7_layPoint_69 (by decide) ?_
      refine lv_iload hx hb dX7_layPoint_71 (lv_at hl 0 rfl) ?_
      refine lv_imul hx hb dX7_layPoint_73 ?_
      refine lv_iadd hx hb dX7_layPoint_74 ?_
      refine lv_iconst (v := (2 : Int32)) hx hb dX7_layPoint_75 (by decide) ?_
      refine lv_aload_n hx hb dX7_layPoint_76 rfl (lv_at hl 3 rfl) ?_
      refine lv_iconst (v := (1 : Int32)) hx hb dX7_layPoint_77 (by decide) ?_
      refine lv_iload hx hb dX7_layPoint_78 (lv_at hl 0 rfl) ?_
      refine lv_iadd hx hb dX7_layPoint_80 ?_
      obtain ⟨g51, h⟩ := gd h
      refine va_iald hx hb hK hP 0 0 rfl rfl g51 dX7_layPoint_81 ?_
      refine lv_imul hx hb dX7_layPoint_82 ?_
      refine lv_iadd hx hb dX7_layPoint_83 ?_
      obtain ⟨n6_52, q52, h⟩ := b1_some h
      replace q52 := Option.some.inj q52
      refine W.eq (g2 := F0 m 84 ls [.int n6_52]) (by rw [q52]) ?_
      refine lv_istore (x := n6_52) (lv' := [(6, .int n6_52), (5, .int n5_50), (4, .int (1 : Int32)), (0, .ref a_p0), (1, .ref a_p1), (2, .int p2), (3, .int p3)]) hx hb dX7_layPoint_84 hl (by decide) rfl (fun ls hl => ?_)
      refine lv_aload_n hx hb dX7_layPoint_86 rfl (lv_at hl 4 rfl) ?_
      refine lv_iload hx hb dX7_layPoint_87 (lv_at hl 0 rfl) ?_
      refine lv_iload_n hx hb dX7_layPoint_89 rfl (lv_at hl 5 rfl) ?_
      obtain ⟨g53, h⟩ := gd h
      refine va_iast hx hb hK hP hD hS 0 0 rfl rfl g53 dX7_layPoint_90 (fun H locs hP hD hS => ?_)
      have hP : va_P D vwCl [(a_p1, .inl (cc 0, n_p1, .inl (upd c_p1_48 n6_52.toNatClampNeg p2))), (a_p0, .inr (7, [.int v_p0_refusal, .ref a_p0_text, .int v_p0_size, .ref a_p0_now, .ref a_p0_trial, .ref a_p0_diary, .int v_p0_acts, .ref a_p0_kept, .ref a_p0_isKept, .ref a_p0_drawn, .ref a_p0_one, .ref a_p0_two, .ref a_p0_costs, .int v_p0_nearestOne, .int v_p0_nearestBy, .int v_p0_how, .int v_p0_spot, .int v_p0_closestTwo, .int v_p0_closestBy])), (a_p0_one, .inl (cc 0, 41, .inl c_p0_one))] H := hP
      have hD : va_D A [(a_p1, .inl (cc 0, n_p1, .inl (upd c_p1_48 n6_52.toNatClampNeg p2))), (a_p0, .inr (7, [.int v_p0_refusal, .ref a_p0_text, .int v_p0_size, .ref a_p0_now, .ref a_p0_trial, .ref a_p0_diary, .int v_p0_acts, .ref a_p0_kept, .ref a_p0_isKept, .ref a_p0_drawn, .ref a_p0_one, .ref a_p0_two, .ref a_p0_costs, .int v_p0_nearestOne, .int v_p0_nearestBy, .int v_p0_how, .int v_p0_spot, .int v_p0_closestTwo, .int v_p0_closestBy])), (a_p0_one, .inl (cc 0, 41, .inl c_p0_one))] := hD
      obtain ⟨c_p1_54, q54, h⟩ := b1_some h
      replace q54 := Option.some.inj q54
      rw [q54] at hP hD
      refine lv_aload_n hx hb dX7_layPoint_91 rfl (lv_at hl 4 rfl) ?_
      refine lv_iload hx hb dX7_layPoint_92 (lv_at hl 0 rfl) ?_
      refine lv_iconst (v := (1 : Int32)) hx hb dX7_layPoint_94 (by decide) ?_
      refine lv_iadd hx hb dX7_layPoint_95 ?_
      refine lv_iload_n hx hb dX7_layPoint_96 rfl (lv_at hl 6 rfl) ?_
      obtain ⟨g55, h⟩ := gd h
      refine va_iast hx hb hK hP hD hS 0 0 rfl rfl g55 dX7_layPoint_97 (fun H locs hP hD hS => ?_)
      have hP : va_P D vwCl [(a_p1, .inl (cc 0, n_p1, .inl (upd c_p1_54 (n6_52 + (1 : Int32)).toNatClampNeg p3))), (a_p0, .inr (7, [.int v_p0_refusal, .ref a_p0_text, .int v_p0_size, .ref a_p0_now, .ref a_p0_trial, .ref a_p0_diary, .int v_p0_acts, .ref a_p0_kept, .ref a_p0_isKept, .ref a_p0_drawn, .ref a_p0_one, .ref a_p0_two, .ref a_p0_costs, .int v_p0_nearestOne, .int v_p0_nearestBy, .int v_p0_how, .int v_p0_spot, .int v_p0_closestTwo, .int v_p0_closestBy])), (a_p0_one, .inl (cc 0, 41, .inl c_p0_one))] H := hP
      have hD : va_D A [(a_p1, .inl (cc 0, n_p1, .inl (upd c_p1_54 (n6_52 + (1 : Int32)).toNatClampNeg p3))), (a_p0, .inr (7, [.int v_p0_refusal, .ref a_p0_text, .int v_p0_size, .ref a_p0_now, .ref a_p0_trial, .ref a_p0_diary, .int v_p0_acts, .ref a_p0_kept, .ref a_p0_isKept, .ref a_p0_drawn, .ref a_p0_one, .ref a_p0_two, .ref a_p0_costs, .int v_p0_nearestOne, .int v_p0_nearestBy, .int v_p0_how, .int v_p0_spot, .int v_p0_closestTwo, .int v_p0_closestBy])), (a_p0_one, .inl (cc 0, 41, .inl c_p0_one))] := hD
      obtain ⟨c_p1_56, q56, h⟩ := b1_some h
      replace q56 := Option.some.inj q56
      rw [q56] at hP hD
      refine lv_aload_n hx hb dX7_layPoint_98 rfl (lv_at hl 4 rfl) ?_
      refine lv_iconst (v := (1 : Int32)) hx hb dX7_layPoint_99 (by decide) ?_
      refine lv_iload hx hb dX7_layPoint_100 (lv_at hl 1 rfl) ?_
      refine lv_iadd hx hb dX7_layPoint_102 ?_
      refine lv_dup2_11 hx hb dX7_layPoint_103 rfl rfl ?_
      obtain ⟨g57, h⟩ := gd h
      refine va_iald hx hb hK hP 0 0 rfl rfl g57 dX7_layPoint_104 ?_
      refine lv_iconst (v := (1 : Int32)) hx hb dX7_layPoint_105 (by decide) ?_
      refine lv_iadd hx hb dX7_layPoint_106 ?_
      obtain ⟨g58, h⟩ := gd h
      refine va_iast hx hb hK hP hD hS 0 0 rfl rfl g58 dX7_layPoint_107 (fun H locs hP hD hS => ?_)
      have hP : va_P D vwCl [(a_p1, .inl (cc 0, n_p1, .inl (upd c_p1_56 ((1 : Int32) + n5_50).toNatClampNeg ((c_p1_56 ((1 : Int32) + n5_50).toNatClampNeg) + (1 : Int32))))), (a_p0, .inr (7, [.int v_p0_refusal, .ref a_p0_text, .int v_p0_size, .ref a_p0_now, .ref a_p0_trial, .ref a_p0_diary, .int v_p0_acts, .ref a_p0_kept, .ref a_p0_isKept, .ref a_p0_drawn, .ref a_p0_one, .ref a_p0_two, .ref a_p0_costs, .int v_p0_nearestOne, .int v_p0_nearestBy, .int v_p0_how, .int v_p0_spot, .int v_p0_closestTwo, .int v_p0_closestBy])), (a_p0_one, .inl (cc 0, 41, .inl c_p0_one))] H := hP
      have hD : va_D A [(a_p1, .inl (cc 0, n_p1, .inl (upd c_p1_56 ((1 : Int32) + n5_50).toNatClampNeg ((c_p1_56 ((1 : Int32) + n5_50).toNatClampNeg) + (1 : Int32))))), (a_p0, .inr (7, [.int v_p0_refusal, .ref a_p0_text, .int v_p0_size, .ref a_p0_now, .ref a_p0_trial, .ref a_p0_diary, .int v_p0_acts, .ref a_p0_kept, .ref a_p0_isKept, .ref a_p0_drawn, .ref a_p0_one, .ref a_p0_two, .ref a_p0_costs, .int v_p0_nearestOne, .int v_p0_nearestBy, .int v_p0_how, .int v_p0_spot, .int v_p0_closestTwo, .int v_p0_closestBy])), (a_p0_one, .inl (cc 0, 41, .inl c_p0_one))] := hD
      obtain ⟨c_p1_59, q59, h⟩ := b1_some h
      replace q59 := Option.some.inj q59
      rw [q59] at hP hD
      refine lv_aload_n hx hb dX7_layPoint_108 rfl (lv_at hl 4 rfl) ?_
      refine lv_bipush (v := (76 : Int32)) hx hb dX7_layPoint_109 (by decide) ?_
      refine lv_iconst (v := (1 : Int32)) hx hb dX7_layPoint_111 (by decide) ?_
      obtain ⟨g60, h⟩ := gd h
      refine va_iast hx hb hK hP hD hS 0 0 rfl rfl g60 dX7_layPoint_112 (fun H locs hP hD hS => ?_)
      have hP : va_P D vwCl [(a_p1, .inl (cc 0, n_p1, .inl (upd c_p1_59 (76 : Int32).toNatClampNeg (1 : Int32)))), (a_p0, .inr (7, [.int v_p0_refusal, .ref a_p0_text, .int v_p0_size, .ref a_p0_now, .ref a_p0_trial, .ref a_p0_diary, .int v_p0_acts, .ref a_p0_kept, .ref a_p0_isKept, .ref a_p0_drawn, .ref a_p0_one, .ref a_p0_two, .ref a_p0_costs, .int v_p0_nearestOne, .int v_p0_nearestBy, .int v_p0_how, .int v_p0_spot, .int v_p0_closestTwo, .int v_p0_closestBy])), (a_p0_one, .inl (cc 0, 41, .inl c_p0_one))] H := hP
      have hD : va_D A [(a_p1, .inl (cc 0, n_p1, .inl (upd c_p1_59 (76 : Int32).toNatClampNeg (1 : Int32)))), (a_p0, .inr (7, [.int v_p0_refusal, .ref a_p0_text, .int v_p0_size, .ref a_p0_now, .ref a_p0_trial, .ref a_p0_diary, .int v_p0_acts, .ref a_p0_kept, .ref a_p0_isKept, .ref a_p0_drawn, .ref a_p0_one, .ref a_p0_two, .ref a_p0_costs, .int v_p0_nearestOne, .int v_p0_nearestBy, .int v_p0_how, .int v_p0_spot, .int v_p0_closestTwo, .int v_p0_closestBy])), (a_p0_one, .inl (cc 0, 41, .inl c_p0_one))] := hD
      obtain ⟨c_p1_61, q61, h⟩ := b1_some h
      replace q61 := Option.some.inj q61
      rw [q61] at hP hD
      refine lv_aload_n hx hb dX7_layPoint_113 rfl (lv_at hl 4 rfl) ?_
      refine lv_iconst (v := (0 : Int32)) hx hb dX7_layPoint_114 (by decide) ?_
      refine lv_aload_n hx hb dX7_layPoint_115 rfl (lv_at hl 4 rfl) ?_
      refine lv_bipush (v := (77 : Int32)) hx hb dX7_layPoint_116 (by decide) ?_
      obtain ⟨g62, h⟩ := gd h
      refine va_iald hx hb hK hP 0 0 rfl rfl g62 dX7_layPoint_118 ?_
      refine lv_aload_n hx hb dX7_layPoint_119 rfl (lv_at hl 3 rfl) ?_
      refine va_get (D := D) (ci := 7) (v := .ref a_p0_one) (C := RX7) (T := TX7) (N := 19) hx hb hts inX7_layPoint_X7 hown hK hP 1 rfl rfl 10 (by decide) k1 (fun _ h9 => h9) rfl dX7_layPoint_120 ?_
      obtain ⟨r_63, c_p0_one_63, hc63, h⟩ := b2_some h
      refine xcalli (wr := [(a_p0, .inr (7, [.int v_p0_refusal, .ref a_p0_text, .int v_p0_size, .ref a_p0_now, .ref a_p0_trial, .ref a_p0_diary, .int v_p0_acts, .ref a_p0_kept, .ref a_p0_isKept, .ref a_p0_drawn, .ref a_p0_one, .ref a_p0_two, .ref a_p0_costs, .int v_p0_nearestOne, .int v_p0_nearestBy, .int v_p0_how, .int v_p0_spot, .int v_p0_closestTwo, .int v_p0_closestBy]))]) [0, 2] [1] (xrunS (As := [.ref a_p1, .int (0 : Int32), .int (c_p1_61 (77 : Int32).toNatClampNeg), .ref a_p0_one]) (rest := []) F ((kX7_signature l D cc (a_p0 := a_p1) (a_p3 := a_p0_one) (n_p0 := n_p1) (n_p3 := 41) (c_p0 := c_p1_61) (c_p3 := c_p0_one) (p1 := (0 : Int32)) (p2 := c_p1_61 (77 : Int32).toNatClampNeg) (r0 := r_63) (c_p3_o := c_p0_one_63) (h := hc63)) _) (cwS 4 hts gX7_layPoint_X7_signature rfl rfl rfl (by decide +kernel) ⟨Nat.le_of_ble_eq_true rfl, Nat.le_of_ble_eq_true rfl⟩) hK hN hP hD [0, 2] rfl (by decide) rfl hl rfl (Nat.le_of_ble_eq_true rfl) dX7_layPoint_123 ⟨Nat.zero_le _, Nat.zero_le _⟩) hP hD hS hA rfl rfl (by decide) (by decide) (fun _ H locs hP hD hS => ?_)
      have hP : va_P D vwCl [(a_p0, .inr (7, [.int v_p0_refusal, .ref a_p0_text, .int v_p0_size, .ref a_p0_now, .ref a_p0_trial, .ref a_p0_diary, .int v_p0_acts, .ref a_p0_kept, .ref a_p0_isKept, .ref a_p0_drawn, .ref a_p0_one, .ref a_p0_two, .ref a_p0_costs, .int v_p0_nearestOne, .int v_p0_nearestBy, .int v_p0_how, .int v_p0_spot, .int v_p0_closestTwo, .int v_p0_closestBy])), (a_p1, .inl (cc 0, n_p1, .inl c_p1_61)), (a_p0_one, .inl (cc 0, 41, .inl c_p0_one_63))] H := hP
      have hD : va_D A [(a_p0, .inr (7, [.int v_p0_refusal, .ref a_p0_text, .int v_p0_size, .ref a_p0_now, .ref a_p0_trial, .ref a_p0_diary, .int v_p0_acts, .ref a_p0_kept, .ref a_p0_isKept, .ref a_p0_drawn, .ref a_p0_one, .ref a_p0_two, .ref a_p0_costs, .int v_p0_nearestOne, .int v_p0_nearestBy, .int v_p0_how, .int v_p0_spot, .int v_p0_closestTwo, .int v_p0_closestBy])), (a_p1, .inl (cc 0, n_p1, .inl c_p1_61)), (a_p0_one, .inl (cc 0, 41, .inl c_p0_one_63))] := hD
      refine lv_bipush (v := (40 : Int32)) hx hb dX7_layPoint_126 (by decide) ?_
      refine lv_icmp_gt (tgt := 133) hx hb dX7_layPoint_128 (by decide) (fun (c65 : (40 : Int32) < r_63) => ?_) (fun (c65 : ¬ (40 : Int32) < r_63) => ?_)
      · replace h := ip c65 h
        refine lv_aload_n hx hb dX7_layPoint_133 rfl (lv_at hl 4 rfl) ?_
        refine lv_iconst (v := (1 : Int32)) hx hb dX7_layPoint_134 (by decide) ?_
        refine lv_iload hx hb dX7_layPoint_135 (lv_at hl 1 rfl) ?_
        refine lv_iadd hx hb dX7_layPoint_137 ?_
        refine lv_dup2_11 hx hb dX7_layPoint_138 rfl rfl ?_
        obtain ⟨g66, h⟩ := gd h
        refine va_iald hx hb hK hP 1 0 rfl rfl g66 dX7_layPoint_139 ?_
        refine lv_iconst (v := (1 : Int32)) hx hb dX7_layPoint_140 (by decide) ?_
        refine lv_isub hx hb dX7_layPoint_141 ?_
        obtain ⟨g67, h⟩ := gd h
        refine va_iast hx hb hK hP hD hS 1 0 rfl rfl g67 dX7_layPoint_142 (fun H locs hP hD hS => ?_)
        have hP : va_P D vwCl [(a_p0, .inr (7, [.int v_p0_refusal, .ref a_p0_text, .int v_p0_size, .ref a_p0_now, .ref a_p0_trial, .ref a_p0_diary, .int v_p0_acts, .ref a_p0_kept, .ref a_p0_isKept, .ref a_p0_drawn, .ref a_p0_one, .ref a_p0_two, .ref a_p0_costs, .int v_p0_nearestOne, .int v_p0_nearestBy, .int v_p0_how, .int v_p0_spot, .int v_p0_closestTwo, .int v_p0_closestBy])), (a_p1, .inl (cc 0, n_p1, .inl (upd c_p1_61 ((1 : Int32) + n5_50).toNatClampNeg ((c_p1_61 ((1 : Int32) + n5_50).toNatClampNeg) - (1 : Int32))))), (a_p0_one, .inl (cc 0, 41, .inl c_p0_one_63))] H := hP
        have hD : va_D A [(a_p0, .inr (7, [.int v_p0_refusal, .ref a_p0_text, .int v_p0_size, .ref a_p0_now, .ref a_p0_trial, .ref a_p0_diary, .int v_p0_acts, .ref a_p0_kept, .ref a_p0_isKept, .ref a_p0_drawn, .ref a_p0_one, .ref a_p0_two, .ref a_p0_costs, .int v_p0_nearestOne, .int v_p0_nearestBy, .int v_p0_how, .int v_p0_spot, .int v_p0_closestTwo, .int v_p0_closestBy])), (a_p1, .inl (cc 0, n_p1, .inl (upd c_p1_61 ((1 : Int32) + n5_50).toNatClampNeg ((c_p1_61 ((1 : Int32) + n5_50).toNatClampNeg) - (1 : Int32))))), (a_p0_one, .inl (cc 0, 41, .inl c_p0_one_63))] := hD
        obtain ⟨c_p1_68, q68, h⟩ := b1_some h
        replace q68 := Option.some.inj q68
        rw [q68] at hP hD
        refine lv_aload_n hx hb dX7_layPoint_143 rfl (lv_at hl 4 rfl) ?_
        refine lv_iload hx hb dX7_layPoint_144 (lv_at hl 0 rfl) ?_
        refine lv_iconst (v := (0 : Int32)) hx hb dX7_layPoint_146 (by decide) ?_
        obtain ⟨g69, h⟩ := gd h
        refine va_iast hx hb hK hP hD hS 1 0 rfl rfl g69 dX7_layPoint_147 (fun H locs hP hD hS => ?_)
        have hP : va_P D vwCl [(a_p0, .inr (7, [.int v_p0_refusal, .ref a_p0_text, .int v_p0_size, .ref a_p0_now, .ref a_p0_trial, .ref a_p0_diary, .int v_p0_acts, .ref a_p0_kept, .ref a_p0_isKept, .ref a_p0_drawn, .ref a_p0_one, .ref a_p0_two, .ref a_p0_costs, .int v_p0_nearestOne, .int v_p0_nearestBy, .int v_p0_how, .int v_p0_spot, .int v_p0_closestTwo, .int v_p0_closestBy])), (a_p1, .inl (cc 0, n_p1, .inl (upd c_p1_68 n6_52.toNatClampNeg (0 : Int32)))), (a_p0_one, .inl (cc 0, 41, .inl c_p0_one_63))] H := hP
        have hD : va_D A [(a_p0, .inr (7, [.int v_p0_refusal, .ref a_p0_text, .int v_p0_size, .ref a_p0_now, .ref a_p0_trial, .ref a_p0_diary, .int v_p0_acts, .ref a_p0_kept, .ref a_p0_isKept, .ref a_p0_drawn, .ref a_p0_one, .ref a_p0_two, .ref a_p0_costs, .int v_p0_nearestOne, .int v_p0_nearestBy, .int v_p0_how, .int v_p0_spot, .int v_p0_closestTwo, .int v_p0_closestBy])), (a_p1, .inl (cc 0, n_p1, .inl (upd c_p1_68 n6_52.toNatClampNeg (0 : Int32)))), (a_p0_one, .inl (cc 0, 41, .inl c_p0_one_63))] := hD
        obtain ⟨c_p1_70, q70, h⟩ := b1_some h
        replace q70 := Option.some.inj q70
        rw [q70] at hP hD
        refine lv_aload_n hx hb dX7_layPoint_148 rfl (lv_at hl 4 rfl) ?_
        refine lv_iload hx hb dX7_layPoint_149 (lv_at hl 0 rfl) ?_
        refine lv_iconst (v := (1 : Int32)) hx hb dX7_layPoint_151 (by decide) ?_
        refine lv_iadd hx hb dX7_layPoint_152 ?_
        refine lv_iconst (v := (0 : Int32)) hx hb dX7_layPoint_153 (by decide) ?_
        obtain ⟨g71, h⟩ := gd h
        refine va_iast hx hb hK hP hD hS 1 0 rfl rfl g71 dX7_layPoint_154 (fun H locs hP hD hS => ?_)
        have hP : va_P D vwCl [(a_p0, .inr (7, [.int v_p0_refusal, .ref a_p0_text, .int v_p0_size, .ref a_p0_now, .ref a_p0_trial, .ref a_p0_diary, .int v_p0_acts, .ref a_p0_kept, .ref a_p0_isKept, .ref a_p0_drawn, .ref a_p0_one, .ref a_p0_two, .ref a_p0_costs, .int v_p0_nearestOne, .int v_p0_nearestBy, .int v_p0_how, .int v_p0_spot, .int v_p0_closestTwo, .int v_p0_closestBy])), (a_p1, .inl (cc 0, n_p1, .inl (upd c_p1_70 (n6_52 + (1 : Int32)).toNatClampNeg (0 : Int32)))), (a_p0_one, .inl (cc 0, 41, .inl c_p0_one_63))] H := hP
        have hD : va_D A [(a_p0, .inr (7, [.int v_p0_refusal, .ref a_p0_text, .int v_p0_size, .ref a_p0_now, .ref a_p0_trial, .ref a_p0_diary, .int v_p0_acts, .ref a_p0_kept, .ref a_p0_isKept, .ref a_p0_drawn, .ref a_p0_one, .ref a_p0_two, .ref a_p0_costs, .int v_p0_nearestOne, .int v_p0_nearestBy, .int v_p0_how, .int v_p0_spot, .int v_p0_closestTwo, .int v_p0_closestBy])), (a_p1, .inl (cc 0, n_p1, .inl (upd c_p1_70 (n6_52 + (1 : Int32)).toNatClampNeg (0 : Int32)))), (a_p0_one, .inl (cc 0, 41, .inl c_p0_one_63))] := hD
        obtain ⟨c_p1_72, q72, h⟩ := b1_some h
        replace q72 := Option.some.inj q72
        rw [q72] at hP hD
        refine lv_aload_n hx hb dX7_layPoint_155 rfl (lv_at hl 4 rfl) ?_
        refine lv_iconst (v := (0 : Int32)) hx hb dX7_layPoint_156 (by decide) ?_
        refine lv_dup2_11 hx hb dX7_layPoint_157 rfl rfl ?_
        obtain ⟨g73, h⟩ := gd h
        refine va_iald hx hb hK hP 1 0 rfl rfl g73 dX7_layPoint_158 ?_
        refine lv_iload hx hb dX7_layPoint_159 (lv_at hl 2 rfl) ?_
        refine lv_if_eq (tgt := 168) hx hb dX7_layPoint_161 (by decide) (fun c74 => absurd c74 (by decide)) (fun _ => ?_)
        refine lv_iconst (v := (1 : Int32)) hx hb dX7_layPoint_164 (by decide) ?_
        refine lv_goto (tgt := 169) hx hb dX7_layPoint_165 (by decide) ?_
        refine lv_isub hx hb dX7_layPoint_169 ?_
        obtain ⟨g75, h⟩ := gd h
        refine va_iast hx hb hK hP hD hS 1 0 rfl rfl g75 dX7_layPoint_170 (fun H locs hP hD hS => ?_)
        have hP : va_P D vwCl [(a_p0, .inr (7, [.int v_p0_refusal, .ref a_p0_text, .int v_p0_size, .ref a_p0_now, .ref a_p0_trial, .ref a_p0_diary, .int v_p0_acts, .ref a_p0_kept, .ref a_p0_isKept, .ref a_p0_drawn, .ref a_p0_one, .ref a_p0_two, .ref a_p0_costs, .int v_p0_nearestOne, .int v_p0_nearestBy, .int v_p0_how, .int v_p0_spot, .int v_p0_closestTwo, .int v_p0_closestBy])), (a_p1, .inl (cc 0, n_p1, .inl (upd c_p1_72 (0 : Int32).toNatClampNeg ((c_p1_72 (0 : Int32).toNatClampNeg) - (1 : Int32))))), (a_p0_one, .inl (cc 0, 41, .inl c_p0_one_63))] H := hP
        have hD : va_D A [(a_p0, .inr (7, [.int v_p0_refusal, .ref a_p0_text, .int v_p0_size, .ref a_p0_now, .ref a_p0_trial, .ref a_p0_diary, .int v_p0_acts, .ref a_p0_kept, .ref a_p0_isKept, .ref a_p0_drawn, .ref a_p0_one, .ref a_p0_two, .ref a_p0_costs, .int v_p0_nearestOne, .int v_p0_nearestBy, .int v_p0_how, .int v_p0_spot, .int v_p0_closestTwo, .int v_p0_closestBy])), (a_p1, .inl (cc 0, n_p1, .inl (upd c_p1_72 (0 : Int32).toNatClampNeg ((c_p1_72 (0 : Int32).toNatClampNeg) - (1 : Int32))))), (a_p0_one, .inl (cc 0, 41, .inl c_p0_one_63))] := hD
        obtain ⟨c_p1_76, q76, h⟩ := b1_some h
        replace q76 := Option.some.inj q76
        rw [q76] at hP hD
        refine lv_aload_n hx hb dX7_layPoint_171 rfl (lv_at hl 4 rfl) ?_
        refine lv_bipush (v := (76 : Int32)) hx hb dX7_layPoint_172 (by decide) ?_
        refine lv_iload hx hb dX7_layPoint_174 (lv_at hl 2 rfl) ?_
        refine lv_if_eq (tgt := 183) hx hb dX7_layPoint_176 (by decide) (fun c77 => absurd c77 (by decide)) (fun _ => ?_)
        refine lv_iconst (v := (0 : Int32)) hx hb dX7_layPoint_179 (by decide) ?_
        refine lv_goto (tgt := 184) hx hb dX7_layPoint_180 (by decide) ?_
        obtain ⟨g78, h⟩ := gd h
        refine va_iast hx hb hK hP hD hS 1 0 rfl rfl g78 dX7_layPoint_184 (fun H locs hP hD hS => ?_)
        have hP : va_P D vwCl [(a_p0, .inr (7, [.int v_p0_refusal, .ref a_p0_text, .int v_p0_size, .ref a_p0_now, .ref a_p0_trial, .ref a_p0_diary, .int v_p0_acts, .ref a_p0_kept, .ref a_p0_isKept, .ref a_p0_drawn, .ref a_p0_one, .ref a_p0_two, .ref a_p0_costs, .int v_p0_nearestOne, .int v_p0_nearestBy, .int v_p0_how, .int v_p0_spot, .int v_p0_closestTwo, .int v_p0_closestBy])), (a_p1, .inl (cc 0, n_p1, .inl (upd c_p1_76 (76 : Int32).toNatClampNeg (0 : Int32)))), (a_p0_one, .inl (cc 0, 41, .inl c_p0_one_63))] H := hP
        have hD : va_D A [(a_p0, .inr (7, [.int v_p0_refusal, .ref a_p0_text, .int v_p0_size, .ref a_p0_now, .ref a_p0_trial, .ref a_p0_diary, .int v_p0_acts, .ref a_p0_kept, .ref a_p0_isKept, .ref a_p0_drawn, .ref a_p0_one, .ref a_p0_two, .ref a_p0_costs, .int v_p0_nearestOne, .int v_p0_nearestBy, .int v_p0_how, .int v_p0_spot, .int v_p0_closestTwo, .int v_p0_closestBy])), (a_p1, .inl (cc 0, n_p1, .inl (upd c_p1_76 (76 : Int32).toNatClampNeg (0 : Int32)))), (a_p0_one, .inl (cc 0, 41, .inl c_p0_one_63))] := hD
        obtain ⟨c_p1_79, q79, h⟩ := b1_some h
        replace q79 := Option.some.inj q79
        rw [q79] at hP hD
        refine lv_iconst (v := (0 : Int32)) hx hb dX7_layPoint_185 (by decide) ?_
        have hP := hP.sub (ws' := [(a_p1, .inl (cc 0, n_p1, .inl c_p1_79)), (a_p0, .inr (7, [.int v_p0_refusal, .ref a_p0_text, .int v_p0_size, .ref a_p0_now, .ref a_p0_trial, .ref a_p0_diary, .int v_p0_acts, .ref a_p0_kept, .ref a_p0_isKept, .ref a_p0_drawn, .ref a_p0_one, .ref a_p0_two, .ref a_p0_costs, .int v_p0_nearestOne, .int v_p0_nearestBy, .int v_p0_how, .int v_p0_spot, .int v_p0_closestTwo, .int v_p0_closestBy])), (a_p0_one, .inl (cc 0, 41, .inl c_p0_one_63))]) [1, 0, 2] rfl
        have hD := hD.sub (ws' := [(a_p1, .inl (cc 0, n_p1, .inl c_p1_79)), (a_p0, .inr (7, [.int v_p0_refusal, .ref a_p0_text, .int v_p0_size, .ref a_p0_now, .ref a_p0_trial, .ref a_p0_diary, .int v_p0_acts, .ref a_p0_kept, .ref a_p0_isKept, .ref a_p0_drawn, .ref a_p0_one, .ref a_p0_two, .ref a_p0_costs, .int v_p0_nearestOne, .int v_p0_nearestBy, .int v_p0_how, .int v_p0_spot, .int v_p0_closestTwo, .int v_p0_closestBy])), (a_p0_one, .inl (cc 0, 41, .inl c_p0_one_63))]) [1, 0, 2] (by decide) rfl
        cases h
        exact xendz F (by decide) hsz hAe hK hP hD hS (fun _ => 0) rfl rfl (Nat.zero_le _) (Nat.zero_le _) dX7_layPoint_186
      · replace h := iq c65 h
        refine lv_iconst (v := (1 : Int32)) hx hb dX7_layPoint_131 (by decide) ?_
        have hP := hP.sub (ws' := [(a_p1, .inl (cc 0, n_p1, .inl c_p1_61)), (a_p0, .inr (7, [.int v_p0_refusal, .ref a_p0_text, .int v_p0_size, .ref a_p0_now, .ref a_p0_trial, .ref a_p0_diary, .int v_p0_acts, .ref a_p0_kept, .ref a_p0_isKept, .ref a_p0_drawn, .ref a_p0_one, .ref a_p0_two, .ref a_p0_costs, .int v_p0_nearestOne, .int v_p0_nearestBy, .int v_p0_how, .int v_p0_spot, .int v_p0_closestTwo, .int v_p0_closestBy])), (a_p0_one, .inl (cc 0, 41, .inl c_p0_one_63))]) [1, 0, 2] rfl
        have hD := hD.sub (ws' := [(a_p1, .inl (cc 0, n_p1, .inl c_p1_61)), (a_p0, .inr (7, [.int v_p0_refusal, .ref a_p0_text, .int v_p0_size, .ref a_p0_now, .ref a_p0_trial, .ref a_p0_diary, .int v_p0_acts, .ref a_p0_kept, .ref a_p0_isKept, .ref a_p0_drawn, .ref a_p0_one, .ref a_p0_two, .ref a_p0_costs, .int v_p0_nearestOne, .int v_p0_nearestBy, .int v_p0_how, .int v_p0_spot, .int v_p0_closestTwo, .int v_p0_closestBy])), (a_p0_one, .inl (cc 0, 41, .inl c_p0_one_63))]) [1, 0, 2] (by decide) rfl
        cases h
        exact xendz F (by decide) hsz hAe hK hP hD hS (fun _ => 0) rfl rfl (Nat.zero_le _) (Nat.zero_le _) dX7_layPoint_132
    · replace h := ip c44 h
      refine lv_goto (tgt := 43) hx hb dX7_layPoint_26 (by decide) ?_
      refine lv_iconst (v := (0 : Int32)) hx hb dX7_layPoint_43 (by decide) ?_
      cases h
      exact xendz F (by decide) hsz hAe hK hP hD hS (fun _ => 0) rfl rfl (Nat.zero_le _) (Nat.zero_le _) dX7_layPoint_44
