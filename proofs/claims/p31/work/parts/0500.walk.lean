set_option maxHeartbeats 4000000 in
set_option maxRecDepth 100000 in
theorem kX6_cell (l : Launch) (D : va_G) (cc : Nat → ClassId) (a_p0 : Nat) (n_p0 : Nat) (c_p0 : Nat → Int32) (p1 : Int32) (r0 : Int32) (h : fX6_cell p1 n_p0 c_p0 = some r0) : xMi l yX6_cell wsX6_cell ({ frames := 0, cells := 0, slots := 0, locals := 0 } : Room) D cc [.ref a_p0, .int p1] [(a_p0, .inl (cc 0, n_p0, .inl c_p0))] r0 (fun _ => [(a_p0, .inl (cc 0, n_p0, .inl c_p0))]) 0 0 := by
  intro sz
  refine xstart (bc := cX6_cell) (maxL := 2) (ret := (some .int)) (by decide) rfl (Nat.le_of_ble_eq_true rfl) ?_
  intro p e s m args below meth c A hargs hsz hAe F hK hN hA hmn hP hD hS ls hl
  have hx := F.1.1
  have hb := F.1.2.1
  have hml := F.1.2.2.1
  have hown := F.1.2.2.2.1
  have hts := F.1.2.2.2.2
  have hl : lv_has ls 2 [(0, .ref a_p0), (1, .int p1)] := hl
  unfold fX6_cell at h
  refine lv_iload_n hx hb dX6_cell_0 rfl (lv_at hl 1 rfl) ?_
  refine lv_if_lt (tgt := 16) hx hb dX6_cell_1 (by decide) (fun (c1 : p1 < 0) => ?_) (fun (c1 : ¬ p1 < 0) => ?_)
  · replace h := ip c1 h
    refine lv_iconst (v := (0 : Int32)) hx hb dX6_cell_16 (by decide) ?_
    cases h
    exact xendi (ret := none) F hsz hAe hK hP hD hS (fun _ => 0) rfl rfl (Nat.zero_le _) (Nat.zero_le _) dX6_cell_17
  · replace h := iq c1 h
    refine lv_iload_n hx hb dX6_cell_4 rfl (lv_at hl 1 rfl) ?_
    refine lv_aload_n hx hb dX6_cell_5 rfl (lv_at hl 0 rfl) ?_
    refine va_alen hx hb hK hP 0 0 rfl rfl rfl dX6_cell_6 ?_
    refine lv_icmp_ge (tgt := 16) hx hb dX6_cell_7 (by decide) (fun (c2 : (Int32.ofNat n_p0) ≤ p1) => ?_) (fun (c2 : ¬ (Int32.ofNat n_p0) ≤ p1) => ?_)
    · replace h := ip c2 h
      refine lv_iconst (v := (0 : Int32)) hx hb dX6_cell_16 (by decide) ?_
      cases h
      exact xendi (ret := none) F hsz hAe hK hP hD hS (fun _ => 0) rfl rfl (Nat.zero_le _) (Nat.zero_le _) dX6_cell_17
    · replace h := iq c2 h
      refine lv_aload_n hx hb dX6_cell_10 rfl (lv_at hl 0 rfl) ?_
      refine lv_iload_n hx hb dX6_cell_11 rfl (lv_at hl 1 rfl) ?_
      obtain ⟨g3, h⟩ := gd h
      refine va_iald hx hb hK hP 0 0 rfl rfl g3 dX6_cell_12 ?_
      refine lv_goto (tgt := 17) hx hb dX6_cell_13 (by decide) ?_
      cases h
      exact xendi (ret := none) F hsz hAe hK hP hD hS (fun _ => 0) rfl rfl (Nat.zero_le _) (Nat.zero_le _) dX6_cell_17
theorem kX6_cellT (l : Launch) (D : va_G) (cc : Nat → ClassId) (a_p0 : Nat) (n_p0 : Nat) (c_p0 : Nat → Int32) (p1 : Int32) (r0 : Int32) (h : xcell p1 n_p0 c_p0 = r0) (hn_p0 : n_p0 < 2 ^ 31 := by decide) : xMi l yX6_cell wsX6_cell ({ frames := 0, cells := 0, slots := 0, locals := 0 } : Room) D cc [.ref a_p0, .int p1] [(a_p0, .inl (cc 0, n_p0, .inl c_p0))] r0 (fun _ => [(a_p0, .inl (cc 0, n_p0, .inl c_p0))]) 0 0 :=
  kX6_cell l D cc a_p0 n_p0 c_p0 p1 r0 (by rw [xcell_eq hn_p0, h])
set_option maxHeartbeats 4000000 in
set_option maxRecDepth 100000 in
theorem kX6_putCell (l : Launch) (D : va_G) (cc : Nat → ClassId) (a_p0 : Nat) (n_p0 : Nat) (c_p0 : Nat → Int32) (p1 : Int32) (p2 : Int32) (c_p0_o : Nat → Int32) (h : fX6_putCell p1 p2 n_p0 c_p0 = some c_p0_o) : xMv l yX6_putCell wsX6_putCell ({ frames := 0, cells := 0, slots := 0, locals := 0 } : Room) D cc [.ref a_p0, .int p1, .int p2] [(a_p0, .inl (cc 0, n_p0, .inl c_p0))] (fun _ => [(a_p0, .inl (cc 0, n_p0, .inl c_p0_o))]) 0 0 := by
  intro sz
  refine xstart (bc := cX6_putCell) (maxL := 3) (ret := none) (by decide) rfl (Nat.le_of_ble_eq_true rfl) ?_
  intro p e s m args below meth c A hargs hsz hAe F hK hN hA hmn hP hD hS ls hl
  have hx := F.1.1
  have hb := F.1.2.1
  have hml := F.1.2.2.1
  have hown := F.1.2.2.2.1
  have hts := F.1.2.2.2.2
  have hl : lv_has ls 3 [(0, .ref a_p0), (1, .int p1), (2, .int p2)] := hl
  unfold fX6_putCell at h
  refine lv_iload_n hx hb dX6_putCell_0 rfl (lv_at hl 1 rfl) ?_
  refine lv_if_lt (tgt := 14) hx hb dX6_putCell_1 (by decide) (fun (c1 : p1 < 0) => ?_) (fun (c1 : ¬ p1 < 0) => ?_)
  · replace h := ip c1 h
    cases h
    exact xendv F hsz hAe hK hP hD hS (fun _ => 0) rfl (Nat.zero_le _) (Nat.zero_le _) dX6_putCell_14
  · replace h := iq c1 h
    refine lv_iload_n hx hb dX6_putCell_4 rfl (lv_at hl 1 rfl) ?_
    refine lv_aload_n hx hb dX6_putCell_5 rfl (lv_at hl 0 rfl) ?_
    refine va_alen hx hb hK hP 0 0 rfl rfl rfl dX6_putCell_6 ?_
    refine lv_icmp_ge (tgt := 14) hx hb dX6_putCell_7 (by decide) (fun (c2 : (Int32.ofNat n_p0) ≤ p1) => ?_) (fun (c2 : ¬ (Int32.ofNat n_p0) ≤ p1) => ?_)
    · replace h := ip c2 h
      cases h
      exact xendv F hsz hAe hK hP hD hS (fun _ => 0) rfl (Nat.zero_le _) (Nat.zero_le _) dX6_putCell_14
    · replace h := iq c2 h
      refine lv_aload_n hx hb dX6_putCell_10 rfl (lv_at hl 0 rfl) ?_
      refine lv_iload_n hx hb dX6_putCell_11 rfl (lv_at hl 1 rfl) ?_
      refine lv_iload_n hx hb dX6_putCell_12 rfl (lv_at hl 2 rfl) ?_
      obtain ⟨g3, h⟩ := gd h
      refine va_iast hx hb hK hP hD hS 0 0 rfl rfl g3 dX6_putCell_13 (fun H locs hP hD hS => ?_)
      have hP : va_P D vwCl [(a_p0, .inl (cc 0, n_p0, .inl (upd c_p0 p1.toNatClampNeg p2)))] H := hP
      have hD : va_D A [(a_p0, .inl (cc 0, n_p0, .inl (upd c_p0 p1.toNatClampNeg p2)))] := hD
      obtain ⟨c_p0_4, q4, h⟩ := b1_some h
      replace q4 := Option.some.inj q4
      rw [q4] at hP hD
      cases h
      exact xendv F hsz hAe hK hP hD hS (fun _ => 0) rfl (Nat.zero_le _) (Nat.zero_le _) dX6_putCell_14
theorem kX6_putCellT (l : Launch) (D : va_G) (cc : Nat → ClassId) (a_p0 : Nat) (n_p0 : Nat) (c_p0 : Nat → Int32) (p1 : Int32) (p2 : Int32) (c_p0_o : Nat → Int32) (h : xput p1 p2 n_p0 c_p0 = c_p0_o) (hn_p0 : n_p0 < 2 ^ 31 := by decide) : xMv l yX6_putCell wsX6_putCell ({ frames := 0, cells := 0, slots := 0, locals := 0 } : Room) D cc [.ref a_p0, .int p1, .int p2] [(a_p0, .inl (cc 0, n_p0, .inl c_p0))] (fun _ => [(a_p0, .inl (cc 0, n_p0, .inl c_p0_o))]) 0 0 :=
  kX6_putCell l D cc a_p0 n_p0 c_p0 p1 p2 c_p0_o (by rw [xput_eq hn_p0, h])
set_option maxHeartbeats 4000000 in
set_option maxRecDepth 100000 in
theorem kX6_copyCells (l : Launch) (D : va_G) (cc : Nat → ClassId) (a_p0 : Nat) (a_p2 : Nat) (n_p0 : Nat) (n_p2 : Nat) (c_p0 : Nat → Int32) (c_p2 : Nat → Int32) (p1 : Int32) (p3 : Int32) (p4 : Int32) (c_p2_o : Nat → Int32) (h : fX6_copyCells p1 p3 p4 n_p0 n_p2 c_p0 c_p2 = some c_p2_o) : xMv l yX6_copyCells wsX6_copyCells ({ frames := 1, cells := 0, slots := 0, locals := 26 } : Room) D cc [.ref a_p0, .int p1, .ref a_p2, .int p3, .int p4] [(a_p0, .inl (cc 0, n_p0, .inl c_p0)), (a_p2, .inl (cc 0, n_p2, .inl c_p2))] (fun _ => [(a_p0, .inl (cc 0, n_p0, .inl c_p0)), (a_p2, .inl (cc 0, n_p2, .inl c_p2_o))]) 0 0 := by
  intro sz
  refine xstart (bc := cX6_copyCells) (maxL := 6) (ret := none) (by decide) rfl (Nat.le_of_ble_eq_true rfl) ?_
  intro p e s m args below meth c A hargs hsz hAe F hK hN hA hmn hP hD hS ls hl
  have hx := F.1.1
  have hb := F.1.2.1
  have hml := F.1.2.2.1
  have hown := F.1.2.2.2.1
  have hts := F.1.2.2.2.2
  have hl : lv_has ls 6 [(0, .ref a_p0), (1, .int p1), (2, .ref a_p2), (3, .int p3), (4, .int p4)] := hl
  have k1 := hts (.methodLink RX6 279 arraycopyName) (by decide +kernel)
  have k2 := hts (.native arraycopyName) (by decide +kernel)
  have k3 := hts (.static arraycopyName) (by decide +kernel)
  have k4 := hts (.initialized "java/lang/System") (by decide +kernel)
  unfold fX6_copyCells at h
  refine lv_iload hx hb dX6_copyCells_0 (lv_at hl 4 rfl) ?_
  refine lv_if_lt (tgt := 49) hx hb dX6_copyCells_2 (by decide) (fun (c1 : p4 < 0) => ?_) (fun (c1 : ¬ p4 < 0) => ?_)
  · replace h := ip c1 h
    refine lv_iconst (v := (0 : Int32)) hx hb dX6_copyCells_49 (by decide) ?_
    refine lv_istore (x := (0 : Int32)) (lv' := [(5, .int (0 : Int32)), (0, .ref a_p0), (1, .int p1), (2, .ref a_p2), (3, .int p3), (4, .int p4)]) hx hb dX6_copyCells_50 hl (by decide) rfl (fun ls hl => ?_)
    refine lv_iload hx hb dX6_copyCells_52 (lv_at hl 0 rfl) ?_
    refine lv_if_eq (tgt := 66) hx hb dX6_copyCells_54 (by decide) (fun _ => ?_) (fun c2 => absurd (by decide) c2)
    cases h
    exact xendv F hsz hAe hK hP hD hS (fun _ => 0) rfl (Nat.zero_le _) (Nat.zero_le _) dX6_copyCells_66
  · replace h := iq c1 h
    refine lv_iload_n hx hb dX6_copyCells_5 rfl (lv_at hl 1 rfl) ?_
    refine lv_if_lt (tgt := 49) hx hb dX6_copyCells_6 (by decide) (fun (c3 : p1 < 0) => ?_) (fun (c3 : ¬ p1 < 0) => ?_)
    · replace h := ip c3 h
      refine lv_iconst (v := (0 : Int32)) hx hb dX6_copyCells_49 (by decide) ?_
      refine lv_istore (x := (0 : Int32)) (lv' := [(5, .int (0 : Int32)), (0, .ref a_p0), (1, .int p1), (2, .ref a_p2), (3, .int p3), (4, .int p4)]) hx hb dX6_copyCells_50 hl (by decide) rfl (fun ls hl => ?_)
      refine lv_iload hx hb dX6_copyCells_52 (lv_at hl 0 rfl) ?_
      refine lv_if_eq (tgt := 66) hx hb dX6_copyCells_54 (by decide) (fun _ => ?_) (fun c4 => absurd (by decide) c4)
      cases h
      exact xendv F hsz hAe hK hP hD hS (fun _ => 0) rfl (Nat.zero_le _) (Nat.zero_le _) dX6_copyCells_66
    · replace h := iq c3 h
      refine lv_iload_n hx hb dX6_copyCells_9 rfl (lv_at hl 3 rfl) ?_
      refine lv_if_lt (tgt := 49) hx hb dX6_copyCells_10 (by decide) (fun (c5 : p3 < 0) => ?_) (fun (c5 : ¬ p3 < 0) => ?_)
      · replace h := ip c5 h
        refine lv_iconst (v := (0 : Int32)) hx hb dX6_copyCells_49 (by decide) ?_
        refine lv_istore (x := (0 : Int32)) (lv' := [(5, .int (0 : Int32)), (0, .ref a_p0), (1, .int p1), (2, .ref a_p2), (3, .int p3), (4, .int p4)]) hx hb dX6_copyCells_50 hl (by decide) rfl (fun ls hl => ?_)
        refine lv_iload hx hb dX6_copyCells_52 (lv_at hl 0 rfl) ?_
        refine lv_if_eq (tgt := 66) hx hb dX6_copyCells_54 (by decide) (fun _ => ?_) (fun c6 => absurd (by decide) c6)
        cases h
        exact xendv F hsz hAe hK hP hD hS (fun _ => 0) rfl (Nat.zero_le _) (Nat.zero_le _) dX6_copyCells_66
      · replace h := iq c5 h
        refine lv_iload hx hb dX6_copyCells_13 (lv_at hl 4 rfl) ?_
        refine lv_aload_n hx hb dX6_copyCells_15 rfl (lv_at hl 0 rfl) ?_
        refine va_alen hx hb hK hP 0 0 rfl rfl rfl dX6_copyCells_16 ?_
        refine lv_icmp_gt (tgt := 49) hx hb dX6_copyCells_17 (by decide) (fun (c7 : (Int32.ofNat n_p0) < p4) => ?_) (fun (c7 : ¬ (Int32.ofNat n_p0) < p4) => ?_)
        · replace h := ip c7 h
          refine lv_iconst (v := (0 : Int32)) hx hb dX6_copyCells_49 (by decide) ?_
          refine lv_istore (x := (0 : Int32)) (lv' := [(5, .int (0 : Int32)), (0, .ref a_p0), (1, .int p1), (2, .ref a_p2), (3, .int p3), (4, .int p4)]) hx hb dX6_copyCells_50 hl (by decide) rfl (fun ls hl => ?_)
          refine lv_iload hx hb dX6_copyCells_52 (lv_at hl 0 rfl) ?_
          refine lv_if_eq (tgt := 66) hx hb dX6_copyCells_54 (by decide) (fun _ => ?_) (fun c8 => absurd (by decide) c8)
          cases h
          exact xendv F hsz hAe hK hP hD hS (fun _ => 0) rfl (Nat.zero_le _) (Nat.zero_le _) dX6_copyCells_66
        · replace h := iq c7 h
          refine lv_iload_n hx hb dX6_copyCells_20 rfl (lv_at hl 1 rfl) ?_
          refine lv_aload_n hx hb dX6_copyCells_21 rfl (lv_at hl 0 rfl) ?_
          refine va_alen hx hb hK hP 0 0 rfl rfl rfl dX6_copyCells_22 ?_
          refine lv_iload hx hb dX6_copyCells_23 (lv_at hl 4 rfl) ?_
          refine lv_isub hx hb dX6_copyCells_25 ?_
          refine lv_icmp_gt (tgt := 49) hx hb dX6_copyCells_26 (by decide) (fun (c9 : ((Int32.ofNat n_p0) - p4) < p1) => ?_) (fun (c9 : ¬ ((Int32.ofNat n_p0) - p4) < p1) => ?_)
          · replace h := ip c9 h
            refine lv_iconst (v := (0 : Int32)) hx hb dX6_copyCells_49 (by decide) ?_
            refine lv_istore (x := (0 : Int32)) (lv' := [(5, .int (0 : Int32)), (0, .ref a_p0), (1, .int p1), (2, .ref a_p2), (3, .int p3), (4, .int p4)]) hx hb dX6_copyCells_50 hl (by decide) rfl (fun ls hl => ?_)
            refine lv_iload hx hb dX6_copyCells_52 (lv_at hl 0 rfl) ?_
            refine lv_if_eq (tgt := 66) hx hb dX6_copyCells_54 (by decide) (fun _ => ?_) (fun c10 => absurd (by decide) c10)
            cases h
            exact xendv F hsz hAe hK hP hD hS (fun _ => 0) rfl (Nat.zero_le _) (Nat.zero_le _) dX6_copyCells_66
          · replace h := iq c9 h
            refine lv_iload hx hb dX6_copyCells_29 (lv_at hl 4 rfl) ?_
            refine lv_aload_n hx hb dX6_copyCells_31 rfl (lv_at hl 2 rfl) ?_
            refine va_alen hx hb hK hP 1 0 rfl rfl rfl dX6_copyCells_32 ?_
            refine lv_icmp_gt (tgt := 49) hx hb dX6_copyCells_33 (by decide) (fun (c11 : (Int32.ofNat n_p2) < p4) => ?_) (fun (c11 : ¬ (Int32.ofNat n_p2) < p4) => ?_)
            · replace h := ip c11 h
              refine lv_iconst (v := (0 : Int32)) hx hb dX6_copyCells_49 (by decide) ?_
              refine lv_istore (x := (0 : Int32)) (lv' := [(5, .int (0 : Int32)), (0, .ref a_p0), (1, .int p1), (2, .ref a_p2), (3, .int p3), (4, .int p4)]) hx hb dX6_copyCells_50 hl (by decide) rfl (fun ls hl => ?_)
              refine lv_iload hx hb dX6_copyCells_52 (lv_at hl 0 rfl) ?_
              refine lv_if_eq (tgt := 66) hx hb dX6_copyCells_54 (by decide) (fun _ => ?_) (fun c12 => absurd (by decide) c12)
              cases h
              exact xendv F hsz hAe hK hP hD hS (fun _ => 0) rfl (Nat.zero_le _) (Nat.zero_le _) dX6_copyCells_66
            · replace h := iq c11 h
              refine lv_iload_n hx hb dX6_copyCells_36 rfl (lv_at hl 3 rfl) ?_
              refine lv_aload_n hx hb dX6_copyCells_37 rfl (lv_at hl 2 rfl) ?_
              refine va_alen hx hb hK hP 1 0 rfl rfl rfl dX6_copyCells_38 ?_
              refine lv_iload hx hb dX6_copyCells_39 (lv_at hl 4 rfl) ?_
              refine lv_isub hx hb dX6_copyCells_41 ?_
              refine lv_icmp_gt (tgt := 49) hx hb dX6_copyCells_42 (by decide) (fun (c13 : ((Int32.ofNat n_p2) - p4) < p3) => ?_) (fun (c13 : ¬ ((Int32.ofNat n_p2) - p4) < p3) => ?_)
              · replace h := ip c13 h
                refine lv_iconst (v := (0 : Int32)) hx hb dX6_copyCells_49 (by decide) ?_
                refine lv_istore (x := (0 : Int32)) (lv' := [(5, .int (0 : Int32)), (0, .ref a_p0), (1, .int p1), (2, .ref a_p2), (3, .int p3), (4, .int p4)]) hx hb dX6_copyCells_50 hl (by decide) rfl (fun ls hl => ?_)
                refine lv_iload hx hb dX6_copyCells_52 (lv_at hl 0 rfl) ?_
                refine lv_if_eq (tgt := 66) hx hb dX6_copyCells_54 (by decide) (fun _ => ?_) (fun c14 => absurd (by decide) c14)
                cases h
                exact xendv F hsz hAe hK hP hD hS (fun _ => 0) rfl (Nat.zero_le _) (Nat.zero_le _) dX6_copyCells_66
              · replace h := iq c13 h
                refine lv_iconst (v := (1 : Int32)) hx hb dX6_copyCells_45 (by decide) ?_
                refine lv_goto (tgt := 50) hx hb dX6_copyCells_46 (by decide) ?_
                refine lv_istore (x := (1 : Int32)) (lv' := [(5, .int (1 : Int32)), (0, .ref a_p0), (1, .int p1), (2, .ref a_p2), (3, .int p3), (4, .int p4)]) hx hb dX6_copyCells_50 hl (by decide) rfl (fun ls hl => ?_)
                refine lv_iload hx hb dX6_copyCells_52 (lv_at hl 0 rfl) ?_
                refine lv_if_eq (tgt := 66) hx hb dX6_copyCells_54 (by decide) (fun c15 => absurd c15 (by decide)) (fun _ => ?_)
                refine lv_aload_n hx hb dX6_copyCells_57 rfl (lv_at hl 1 rfl) ?_
                refine lv_iload_n hx hb dX6_copyCells_58 rfl (lv_at hl 2 rfl) ?_
                refine lv_aload_n hx hb dX6_copyCells_59 rfl (lv_at hl 3 rfl) ?_
                refine lv_iload_n hx hb dX6_copyCells_60 rfl (lv_at hl 4 rfl) ?_
                refine lv_iload hx hb dX6_copyCells_61 (lv_at hl 5 rfl) ?_
                obtain ⟨g16, h⟩ := gd h
                obtain ⟨g17, h⟩ := gd h
                obtain ⟨g18, h⟩ := gd h
                obtain ⟨g19, h⟩ := gd h
                obtain ⟨g20, h⟩ := gd h
                refine va_copyi hx hb (hml.trans hl.1.symm) hown k1 k2 k3 k4 hK hP hD hS 0 1 0 0 rfl rfl rfl rfl rfl g16 g17 g18 (Nat.not_lt.mp g19) (Nat.not_lt.mp g20) (fun _ _ => rfl) (Nat.le_of_ble_eq_true rfl) (Nat.le_of_ble_eq_true rfl) dX6_copyCells_63 (fun H locs hP hD hS => ?_)
                have hP : va_P D vwCl [(a_p0, .inl (cc 0, n_p0, .inl c_p0)), (a_p2, .inl (cc 0, n_p2, .inl (va_cpy c_p0 c_p2 p1.toNatClampNeg p3.toNatClampNeg p4.toNatClampNeg)))] H := hP
                have hD : va_D A [(a_p0, .inl (cc 0, n_p0, .inl c_p0)), (a_p2, .inl (cc 0, n_p2, .inl (va_cpy c_p0 c_p2 p1.toNatClampNeg p3.toNatClampNeg p4.toNatClampNeg)))] := hD
                cases h
                exact xendv F hsz hAe hK hP hD hS (fun _ => 0) rfl (Nat.zero_le _) (Nat.zero_le _) dX6_copyCells_66
set_option maxHeartbeats 4000000 in
set_option maxRecDepth 100000 in
theorem kX6_copyCells_s (l : Launch) (D : va_G) (cc : Nat → ClassId) (a_p0 : Nat) (n_p0 : Nat) (c_p0 : Nat → Int32) (p1 : Int32) (p3 : Int32) (p4 : Int32) (c_p0_o : Nat → Int32) (h : fX6_copyCells_s p1 p3 p4 n_p0 c_p0 = some c_p0_o) : xMv l yX6_copyCells wsX6_copyCells ({ frames := 1, cells := 0, slots := 0, locals := 26 } : Room) D cc [.ref a_p0, .int p1, .ref a_p0, .int p3, .int p4] [(a_p0, .inl (cc 0, n_p0, .inl c_p0))] (fun _ => [(a_p0, .inl (cc 0, n_p0, .inl c_p0_o))]) 0 0 := by
  intro sz
  refine xstart (bc := cX6_copyCells) (maxL := 6) (ret := none) (by decide) rfl (Nat.le_of_ble_eq_true rfl) ?_
  intro p e s m args below meth c A hargs hsz hAe F hK hN hA hmn hP hD hS ls hl
  have hx := F.1.1
  have hb := F.1.2.1
  have hml := F.1.2.2.1
  have hown := F.1.2.2.2.1
  have hts := F.1.2.2.2.2
  have hl : lv_has ls 6 [(0, .ref a_p0), (1, .int p1), (2, .ref a_p0), (3, .int p3), (4, .int p4)] := hl
  have k1 := hts (.methodLink RX6 279 arraycopyName) (by decide +kernel)
  have k2 := hts (.native arraycopyName) (by decide +kernel)
  have k3 := hts (.static arraycopyName) (by decide +kernel)
  have k4 := hts (.initialized "java/lang/System") (by decide +kernel)
  unfold fX6_copyCells_s at h
  refine lv_iload hx hb dX6_copyCells_0 (lv_at hl 4 rfl) ?_
  refine lv_if_lt (tgt := 49) hx hb dX6_copyCells_2 (by decide) (fun (c1 : p4 < 0) => ?_) (fun (c1 : ¬ p4 < 0) => ?_)
  · replace h := ip c1 h
    refine lv_iconst (v := (0 : Int32)) hx hb dX6_copyCells_49 (by decide) ?_
    refine lv_istore (x := (0 : Int32)) (lv' := [(5, .int (0 : Int32)), (0, .ref a_p0), (1, .int p1), (2, .ref a_p0), (3, .int p3), (4, .int p4)]) hx hb dX6_copyCells_50 hl (by decide) rfl (fun ls hl => ?_)
    refine lv_iload hx hb dX6_copyCells_52 (lv_at hl 0 rfl) ?_
    refine lv_if_eq (tgt := 66) hx hb dX6_copyCells_54 (by decide) (fun _ => ?_) (fun c2 => absurd (by decide) c2)
    cases h
    exact xendv F hsz hAe hK hP hD hS (fun _ => 0) rfl (Nat.zero_le _) (Nat.zero_le _) dX6_copyCells_66
  · replace h := iq c1 h
    refine lv_iload_n hx hb dX6_copyCells_5 rfl (lv_at hl 1 rfl) ?_
    refine lv_if_lt (tgt := 49) hx hb dX6_copyCells_6 (by decide) (fun (c3 : p1 < 0) => ?_) (fun (c3 : ¬ p1 < 0) => ?_)
    · replace h := ip c3 h
      refine lv_iconst (v := (0 : Int32)) hx hb dX6_copyCells_49 (by decide) ?_
      refine lv_istore (x := (0 : Int32)) (lv' := [(5, .int (0 : Int32)), (0, .ref a_p0), (1, .int p1), (2, .ref a_p0), (3, .int p3), (4, .int p4)]) hx hb dX6_copyCells_50 hl (by decide) rfl (fun ls hl => ?_)
      refine lv_iload hx hb dX6_copyCells_52 (lv_at hl 0 rfl) ?_
      refine lv_if_eq (tgt := 66) hx hb dX6_copyCells_54 (by decide) (fun _ => ?_) (fun c4 => absurd (by decide) c4)
      cases h
      exact xendv F hsz hAe hK hP hD hS (fun _ => 0) rfl (Nat.zero_le _) (Nat.zero_le _) dX6_copyCells_66
    · replace h := iq c3 h
      refine lv_iload_n hx hb dX6_copyCells_9 rfl (lv_at hl 3 rfl) ?_
      refine lv_if_lt (tgt := 49) hx hb dX6_copyCells_10 (by decide) (fun (c5 : p3 < 0) => ?_) (fun (c5 : ¬ p3 < 0) => ?_)
      · replace h := ip c5 h
        refine lv_iconst (v := (0 : Int32)) hx hb dX6_copyCells_49 (by decide) ?_
        refine lv_istore (x := (0 : Int32)) (lv' := [(5, .int (0 : Int32)), (0, .ref a_p0), (1, .int p1), (2, .ref a_p0), (3, .int p3), (4, .int p4)]) hx hb dX6_copyCells_50 hl (by decide) rfl (fun ls hl => ?_)
        refine lv_iload hx hb dX6_copyCells_52 (lv_at hl 0 rfl) ?_
        refine lv_if_eq (tgt := 66) hx hb dX6_copyCells_54 (by decide) (fun _ => ?_) (fun c6 => absurd (by decide) c6)
        cases h
        exact xendv F hsz hAe hK hP hD hS (fun _ => 0) rfl (Nat.zero_le _) (Nat.zero_le _) dX6_copyCells_66
      · replace h := iq c5 h
        refine lv_iload hx hb dX6_copyCells_13 (lv_at hl 4 rfl) ?_
        refine lv_aload_n hx hb dX6_copyCells_15 rfl (lv_at hl 0 rfl) ?_
        refine va_alen hx hb hK hP 0 0 rfl rfl rfl dX6_copyCells_16 ?_
        refine lv_icmp_gt (tgt := 49) hx hb dX6_copyCells_17 (by decide) (fun (c7 : (Int32.ofNat n_p0) < p4) => ?_) (fun (c7 : ¬ (Int32.ofNat n_p0) < p4) => ?_)
        · replace h := ip c7 h
          refine lv_iconst (v := (0 : Int32)) hx hb dX6_copyCells_49 (by decide) ?_
          refine lv_istore (x := (0 : Int32)) (lv' := [(5, .int (0 : Int32)), (0, .ref a_p0), (1, .int p1), (2, .ref a_p0), (3, .int p3), (4, .int p4)]) hx hb dX6_copyCells_50 hl (by decide) rfl (fun ls hl => ?_)
          refine lv_iload hx hb dX6_copyCells_52 (lv_at hl 0 rfl) ?_
          refine lv_if_eq (tgt := 66) hx hb dX6_copyCells_54 (by decide) (fun _ => ?_) (fun c8 => absurd (by decide) c8)
          cases h
          exact xendv F hsz hAe hK hP hD hS (fun _ => 0) rfl (Nat.zero_le _) (Nat.zero_le _) dX6_copyCells_66
        · replace h := iq c7 h
          refine lv_iload_n hx hb dX6_copyCells_20 rfl (lv_at hl 1 rfl) ?_
          refine lv_aload_n hx hb dX6_copyCells_21 rfl (lv_at hl 0 rfl) ?_
          refine va_alen hx hb hK hP 0 0 rfl rfl rfl dX6_copyCells_22 ?_
          refine lv_iload hx hb dX6_copyCells_23 (lv_at hl 4 rfl) ?_
          refine lv_isub hx hb dX6_copyCells_25 ?_
          refine lv_icmp_gt (tgt := 49) hx hb dX6_copyCells_26 (by decide) (fun (c9 : ((Int32.ofNat n_p0) - p4) < p1) => ?_) (fun (c9 : ¬ ((Int32.ofNat n_p0) - p4) < p1) => ?_)
          · replace h := ip c9 h
            refine lv_iconst (v := (0 : Int32)) hx hb dX6_copyCells_49 (by decide) ?_
            refine lv_istore (x := (0 : Int32)) (lv' := [(5, .int (0 : Int32)), (0, .ref a_p0), (1, .int p1), (2, .ref a_p0), (3, .int p3), (4, .int p4)]) hx hb dX6_copyCells_50 hl (by decide) rfl (fun ls hl => ?_)
            refine lv_iload hx hb dX6_copyCells_52 (lv_at hl 0 rfl) ?_
            refine lv_if_eq (tgt := 66) hx hb dX6_copyCells_54 (by decide) (fun _ => ?_) (fun c10 => absurd (by decide) c10)
            cases h
            exact xendv F hsz hAe hK hP hD hS (fun _ => 0) rfl (Nat.zero_le _) (Nat.zero_le _) dX6_copyCells_66
          · replace h := iq c9 h
            refine lv_iload hx hb dX6_copyCells_29 (lv_at hl 4 rfl) ?_
            refine lv_aload_n hx hb dX6_copyCells_31 rfl (lv_at hl 2 rfl) ?_
            refine va_alen hx hb hK hP 0 0 rfl rfl rfl dX6_copyCells_32 ?_
            refine lv_icmp_gt (tgt := 49) hx hb dX6_copyCells_33 (by decide) (fun c11 => absurd c11 c7) (fun _ => ?_)
            refine lv_iload_n hx hb dX6_copyCells_36 rfl (lv_at hl 3 rfl) ?_
            refine lv_aload_n hx hb dX6_copyCells_37 rfl (lv_at hl 2 rfl) ?_
            refine va_alen hx hb hK hP 0 0 rfl rfl rfl dX6_copyCells_38 ?_
            refine lv_iload hx hb dX6_copyCells_39 (lv_at hl 4 rfl) ?_
            refine lv_isub hx hb dX6_copyCells_41 ?_
            refine lv_icmp_gt (tgt := 49) hx hb dX6_copyCells_42 (by decide) (fun (c12 : ((Int32.ofNat n_p0) - p4) < p3) => ?_) (fun (c12 : ¬ ((Int32.ofNat n_p0) - p4) < p3) => ?_)
            · replace h := ip c12 h
              refine lv_iconst (v := (0 : Int32)) hx hb dX6_copyCells_49 (by decide) ?_
              refine lv_istore (x := (0 : Int32)) (lv' := [(5, .int (0 : Int32)), (0, .ref a_p0), (1, .int p1), (2, .ref a_p0), (3, .int p3), (4, .int p4)]) hx hb dX6_copyCells_50 hl (by decide) rfl (fun ls hl => ?_)
              refine lv_iload hx hb dX6_copyCells_52 (lv_at hl 0 rfl) ?_
              refine lv_if_eq (tgt := 66) hx hb dX6_copyCells_54 (by decide) (fun _ => ?_) (fun c13 => absurd (by decide) c13)
              cases h
              exact xendv F hsz hAe hK hP hD hS (fun _ => 0) rfl (Nat.zero_le _) (Nat.zero_le _) dX6_copyCells_66
            · replace h := iq c12 h
              refine lv_iconst (v := (1 : Int32)) hx hb dX6_copyCells_45 (by decide) ?_
              refine lv_goto (tgt := 50) hx hb dX6_copyCells_46 (by decide) ?_
              refine lv_istore (x := (1 : Int32)) (lv' := [(5, .int (1 : Int32)), (0, .ref a_p0), (1, .int p1), (2, .ref a_p0), (3, .int p3), (4, .int p4)]) hx hb dX6_copyCells_50 hl (by decide) rfl (fun ls hl => ?_)
              refine lv_iload hx hb dX6_copyCells_52 (lv_at hl 0 rfl) ?_
              refine lv_if_eq (tgt := 66) hx hb dX6_copyCells_54 (by decide) (fun c14 => absurd c14 (by decide)) (fun _ => ?_)
              refine lv_aload_n hx hb dX6_copyCells_57 rfl (lv_at hl 1 rfl) ?_
              refine lv_iload_n hx hb dX6_copyCells_58 rfl (lv_at hl 2 rfl) ?_
              refine lv_aload_n hx hb dX6_copyCells_59 rfl (lv_at hl 3 rfl) ?_
              refine lv_iload_n hx hb dX6_copyCells_60 rfl (lv_at hl 4 rfl) ?_
              refine lv_iload hx hb dX6_copyCells_61 (lv_at hl 5 rfl) ?_
              obtain ⟨g15, h⟩ := gd h
              obtain ⟨g16, h⟩ := gd h
              obtain ⟨g17, h⟩ := gd h
              obtain ⟨g18, h⟩ := gd h
              obtain ⟨g19, h⟩ := gd h
              refine va_copyi hx hb (hml.trans hl.1.symm) hown k1 k2 k3 k4 hK hP hD hS 0 0 0 0 rfl rfl rfl rfl rfl g15 g16 g17 (Nat.not_lt.mp g18) (Nat.not_lt.mp g19) (fun _ _ => rfl) (Nat.le_of_ble_eq_true rfl) (Nat.le_of_ble_eq_true rfl) dX6_copyCells_63 (fun H locs hP hD hS => ?_)
              have hP : va_P D vwCl [(a_p0, .inl (cc 0, n_p0, .inl (va_cpy c_p0 c_p0 p1.toNatClampNeg p3.toNatClampNeg p4.toNatClampNeg)))] H := hP
              have hD : va_D A [(a_p0, .inl (cc 0, n_p0, .inl (va_cpy c_p0 c_p0 p1.toNatClampNeg p3.toNatClampNeg p4.toNatClampNeg)))] := hD
              cases h
              exact xendv F hsz hAe hK hP hD hS (fun _ => 0) rfl (Nat.zero_le _) (Nat.zero_le _) dX6_copyCells_66
set_option maxHeartbeats 4000000 in
set_option maxRecDepth 100000 in
theorem kX6_copyRow (l : Launch) (D : va_G) (cc : Nat → ClassId) (a_p0 : Nat) (a_p1 : Nat) (n_p0 : Nat) (n_p1 : Nat) (c_p0 : Nat → Int32) (c_p1 : Nat → Int32) (c_p1_o : Nat → Int32) (h : fX6_copyRow n_p0 n_p1 c_p0 c_p1 = some c_p1_o) : xMv l yX6_copyRow wsX6_copyRow ({ frames := 1, cells := 0, slots := 0, locals := 26 } : Room) D cc [.ref a_p0, .ref a_p1] [(a_p0, .inl (cc 0, n_p0, .inl c_p0)), (a_p1, .inl (cc 0, n_p1, .inl c_p1))] (fun _ => [(a_p0, .inl (cc 0, n_p0, .inl c_p0)), (a_p1, .inl (cc 0, n_p1, .inl c_p1_o))]) 0 0 := by
  intro sz
  refine xstart (bc := cX6_copyRow) (maxL := 2) (ret := none) (by decide) rfl (Nat.le_of_ble_eq_true rfl) ?_
  intro p e s m args below meth c A hargs hsz hAe F hK hN hA hmn hP hD hS ls hl
  have hx := F.1.1
  have hb := F.1.2.1
  have hml := F.1.2.2.1
  have hown := F.1.2.2.2.1
  have hts := F.1.2.2.2.2
  have hl : lv_has ls 2 [(0, .ref a_p0), (1, .ref a_p1)] := hl
  have k1 := hts (.methodLink RX6 285 Lib.Math.min.name) (by decide +kernel)
  have k2 := hts (.static Lib.Math.min.name) (by decide +kernel)
  have k3 := hts (.initialized "java/lang/Math") (by decide +kernel)
  have k4 := hts (.code Lib.Math.min.name Lib.Math.min.code 2 (some .int)) (by decide +kernel)
  have k5 := hts (.methodLink RX6 279 arraycopyName) (by decide +kernel)
  have k6 := hts (.native arraycopyName) (by decide +kernel)
  have k7 := hts (.static arraycopyName) (by decide +kernel)
  have k8 := hts (.initialized "java/lang/System") (by decide +kernel)
  unfold fX6_copyRow at h
  refine lv_aload_n hx hb dX6_copyRow_0 rfl (lv_at hl 0 rfl) ?_
  refine lv_iconst (v := (0 : Int32)) hx hb dX6_copyRow_1 (by decide) ?_
  refine lv_aload_n hx hb dX6_copyRow_2 rfl (lv_at hl 1 rfl) ?_
  refine lv_iconst (v := (0 : Int32)) hx hb dX6_copyRow_3 (by decide) ?_
  refine lv_aload_n hx hb dX6_copyRow_4 rfl (lv_at hl 0 rfl) ?_
  refine va_alen hx hb hK hP 0 0 rfl rfl rfl dX6_copyRow_5 ?_
  refine lv_aload_n hx hb dX6_copyRow_6 rfl (lv_at hl 1 rfl) ?_
  refine va_alen hx hb hK hP 1 0 rfl rfl rfl dX6_copyRow_7 ?_
  refine va_mmin hx hb (hml.trans hl.1.symm) hown k1 k2 k3 k4 (Nat.le_of_ble_eq_true rfl) (Nat.le_of_ble_eq_true rfl) (Nat.zero_le _) (Nat.zero_le _) dX6_copyRow_8 ?_
  refine W.eq (g2 := F0 m 11 ls [.int (xmin (Int32.ofNat n_p0) (Int32.ofNat n_p1)), .int (0 : Int32), .ref a_p1, .int (0 : Int32), .ref a_p0]) rfl ?_
  obtain ⟨g1, h⟩ := gd h
  obtain ⟨g2, h⟩ := gd h
  obtain ⟨g3, h⟩ := gd h
  obtain ⟨g4, h⟩ := gd h
  obtain ⟨g5, h⟩ := gd h
  refine va_copyi hx hb (hml.trans hl.1.symm) hown k5 k6 k7 k8 hK hP hD hS 0 1 0 0 rfl rfl rfl rfl rfl g1 g2 g3 (Nat.not_lt.mp g4) (Nat.not_lt.mp g5) (fun _ _ => rfl) (Nat.le_of_ble_eq_true rfl) (Nat.le_of_ble_eq_true rfl) dX6_copyRow_11 (fun H locs hP hD hS => ?_)
  have hP : va_P D vwCl [(a_p0, .inl (cc 0, n_p0, .inl c_p0)), (a_p1, .inl (cc 0, n_p1, .inl (va_cpy c_p0 c_p1 (0 : Int32).toNatClampNeg (0 : Int32).toNatClampNeg (xmin (Int32.ofNat n_p0) (Int32.ofNat n_p1)).toNatClampNeg)))] H := hP
  have hD : va_D A [(a_p0, .inl (cc 0, n_p0, .inl c_p0)), (a_p1, .inl (cc 0, n_p1, .inl (va_cpy c_p0 c_p1 (0 : Int32).toNatClampNeg (0 : Int32).toNatClampNeg (xmin (Int32.ofNat n_p0) (Int32.ofNat n_p1)).toNatClampNeg)))] := hD
  cases h
  exact xendv F hsz hAe hK hP hD hS (fun _ => 0) rfl (Nat.zero_le _) (Nat.zero_le _) dX6_copyRow_14
theorem kX6_copyRowT (l : Launch) (D : va_G) (cc : Nat → ClassId) (a_p0 : Nat) (a_p1 : Nat) (n_p0 : Nat) (n_p1 : Nat) (c_p0 : Nat → Int32) (c_p1 : Nat → Int32) (c_p1_o : Nat → Int32) (h : xcopyRow n_p0 n_p1 c_p0 c_p1 = c_p1_o) (hn_p0 : n_p0 < 2 ^ 31 := by decide) (hn_p1 : n_p1 < 2 ^ 31 := by decide) : xMv l yX6_copyRow wsX6_copyRow ({ frames := 1, cells := 0, slots := 0, locals := 26 } : Room) D cc [.ref a_p0, .ref a_p1] [(a_p0, .inl (cc 0, n_p0, .inl c_p0)), (a_p1, .inl (cc 0, n_p1, .inl c_p1))] (fun _ => [(a_p0, .inl (cc 0, n_p0, .inl c_p0)), (a_p1, .inl (cc 0, n_p1, .inl c_p1_o))]) 0 0 :=
  kX6_copyRow l D cc a_p0 a_p1 n_p0 n_p1 c_p0 c_p1 c_p1_o (by rw [xcopyRow_eq hn_p0 hn_p1, h])
set_option maxHeartbeats 4000000 in
set_option maxRecDepth 100000 in
theorem kX6_isOnGrid (l : Launch) (D : va_G) (cc : Nat → ClassId) (p0 : Int32) (r0 : Int32) (h : fX6_isOnGrid p0 = r0) : xMi l yX6_isOnGrid wsX6_isOnGrid ({ frames := 0, cells := 0, slots := 0, locals := 0 } : Room) D cc [.int p0] [] r0 (fun _ => []) 0 0 := by
  intro sz
  refine xstart (bc := cX6_isOnGrid) (maxL := 1) (ret := (some .boolean)) (by decide) rfl (Nat.le_of_ble_eq_true rfl) ?_
  intro p e s m args below meth c A hargs hsz hAe F hK hN hA hmn hP hD hS ls hl
  have hx := F.1.1
  have hb := F.1.2.1
  have hml := F.1.2.2.1
  have hown := F.1.2.2.2.1
  have hts := F.1.2.2.2.2
  have hl : lv_has ls 1 [(0, .int p0)] := hl
  unfold fX6_isOnGrid at h
  refine lv_iload_n hx hb dX6_isOnGrid_0 rfl (lv_at hl 0 rfl) ?_
  refine lv_if_lt (tgt := 14) hx hb dX6_isOnGrid_1 (by decide) (fun (c1 : p0 < 0) => ?_) (fun (c1 : ¬ p0 < 0) => ?_)
  · replace h := ip c1 h
    refine lv_iconst (v := (0 : Int32)) hx hb dX6_isOnGrid_14 (by decide) ?_
    cases h
    exact xendz F (by decide) hsz hAe hK hP hD hS (fun _ => 0) rfl rfl (Nat.zero_le _) (Nat.zero_le _) dX6_isOnGrid_15
  · replace h := iq c1 h
    refine lv_iload_n hx hb dX6_isOnGrid_4 rfl (lv_at hl 0 rfl) ?_
    refine lv_bipush (v := (60 : Int32)) hx hb dX6_isOnGrid_5 (by decide) ?_
    refine lv_icmp_gt (tgt := 14) hx hb dX6_isOnGrid_7 (by decide) (fun (c2 : (60 : Int32) < p0) => ?_) (fun (c2 : ¬ (60 : Int32) < p0) => ?_)
    · replace h := ip c2 h
      refine lv_iconst (v := (0 : Int32)) hx hb dX6_isOnGrid_14 (by decide) ?_
      cases h
      exact xendz F (by decide) hsz hAe hK hP hD hS (fun _ => 0) rfl rfl (Nat.zero_le _) (Nat.zero_le _) dX6_isOnGrid_15
    · replace h := iq c2 h
      refine lv_iconst (v := (1 : Int32)) hx hb dX6_isOnGrid_10 (by decide) ?_
      refine lv_goto (tgt := 15) hx hb dX6_isOnGrid_11 (by decide) ?_
      cases h
      exact xendz F (by decide) hsz hAe hK hP hD hS (fun _ => 0) rfl rfl (Nat.zero_le _) (Nat.zero_le _) dX6_isOnGrid_15
set_option maxHeartbeats 4000000 in
set_option maxRecDepth 100000 in
theorem kX6_isName (l : Launch) (D : va_G) (cc : Nat → ClassId) (p0 : Int32) (r0 : Int32) (h : fX6_isName p0 = r0) : xMi l yX6_isName wsX6_isName ({ frames := 0, cells := 0, slots := 0, locals := 0 } : Room) D cc [.int p0] [] r0 (fun _ => []) 0 0 := by
  intro sz
  refine xstart (bc := cX6_isName) (maxL := 1) (ret := (some .boolean)) (by decide) rfl (Nat.le_of_ble_eq_true rfl) ?_
  intro p e s m args below meth c A hargs hsz hAe F hK hN hA hmn hP hD hS ls hl
  have hx := F.1.1
  have hb := F.1.2.1
  have hml := F.1.2.2.1
  have hown := F.1.2.2.2.1
  have hts := F.1.2.2.2.2
  have hl : lv_has ls 1 [(0, .int p0)] := hl
  unfold fX6_isName at h
  refine lv_iload_n hx hb dX6_isName_0 rfl (lv_at hl 0 rfl) ?_
  refine lv_if_lt (tgt := 14) hx hb dX6_isName_1 (by decide) (fun (c1 : p0 < 0) => ?_) (fun (c1 : ¬ p0 < 0) => ?_)
  · replace h := ip c1 h
    refine lv_iconst (v := (0 : Int32)) hx hb dX6_isName_14 (by decide) ?_
    cases h
    exact xendz F (by decide) hsz hAe hK hP hD hS (fun _ => 0) rfl rfl (Nat.zero_le _) (Nat.zero_le _) dX6_isName_15
  · replace h := iq c1 h
    refine lv_iload_n hx hb dX6_isName_4 rfl (lv_at hl 0 rfl) ?_
    refine lv_bipush (v := (10 : Int32)) hx hb dX6_isName_5 (by decide) ?_
    refine lv_icmp_ge (tgt := 14) hx hb dX6_isName_7 (by decide) (fun (c2 : (10 : Int32) ≤ p0) => ?_) (fun (c2 : ¬ (10 : Int32) ≤ p0) => ?_)
    · replace h := ip c2 h
      refine lv_iconst (v := (0 : Int32)) hx hb dX6_isName_14 (by decide) ?_
      cases h
      exact xendz F (by decide) hsz hAe hK hP hD hS (fun _ => 0) rfl rfl (Nat.zero_le _) (Nat.zero_le _) dX6_isName_15
    · replace h := iq c2 h
      refine lv_iconst (v := (1 : Int32)) hx hb dX6_isName_10 (by decide) ?_
      refine lv_goto (tgt := 15) hx hb dX6_isName_11 (by decide) ?_
      cases h
      exact xendz F (by decide) hsz hAe hK hP hD hS (fun _ => 0) rfl rfl (Nat.zero_le _) (Nat.zero_le _) dX6_isName_15
set_option maxHeartbeats 4000000 in
set_option maxRecDepth 100000 in
theorem kX6_isSetting (l : Launch) (D : va_G) (cc : Nat → ClassId) (p0 : Int32) (p1 : Int32) (r0 : Int32) (h : fX6_isSetting p0 p1 = r0) : xMi l yX6_isSetting wsX6_isSetting ({ frames := 0, cells := 0, slots := 0, locals := 0 } : Room) D cc [.int p0, .int p1] [] r0 (fun _ => []) 0 0 := by
  intro sz
  refine xstart (bc := cX6_isSetting) (maxL := 2) (ret := (some .boolean)) (by decide) rfl (Nat.le_of_ble_eq_true rfl) ?_
  intro p e s m args below meth c A hargs hsz hAe F hK hN hA hmn hP hD hS ls hl
  have hx := F.1.1
  have hb := F.1.2.1
  have hml := F.1.2.2.1
  have hown := F.1.2.2.2.1
  have hts := F.1.2.2.2.2
  have hl : lv_has ls 2 [(0, .int p0), (1, .int p1)] := hl
  unfold fX6_isSetting at h
  refine lv_iload_n hx hb dX6_isSetting_0 rfl (lv_at hl 0 rfl) ?_
  by_cases c1 : p0 = (0 : Int32)
  · replace h := ip c1 h
    refine lv_tableIn (tgt := 28) hx hb dX6_isSetting_1 (by rw [c1]; decide) (by rw [c1]; decide) (by rw [c1]; rfl) (by decide) ?_
    refine lv_iload_n hx hb dX6_isSetting_28 rfl (lv_at hl 1 rfl) ?_
    refine lv_iconst (v := (5 : Int32)) hx hb dX6_isSetting_29 (by decide) ?_
    refine lv_icmp_lt (tgt := 43) hx hb dX6_isSetting_30 (by decide) (fun (c2 : p1 < (5 : Int32)) => ?_) (fun (c2 : ¬ p1 < (5 : Int32)) => ?_)
    · replace h := ip c2 h
      refine lv_iconst (v := (0 : Int32)) hx hb dX6_isSetting_43 (by decide) ?_
      cases h
      exact xendz F (by decide) hsz hAe hK hP hD hS (fun _ => 0) rfl rfl (Nat.zero_le _) (Nat.zero_le _) dX6_isSetting_44
    · replace h := iq c2 h
      refine lv_iload_n hx hb dX6_isSetting_33 rfl (lv_at hl 1 rfl) ?_
      refine lv_bipush (v := (20 : Int32)) hx hb dX6_isSetting_34 (by decide) ?_
      refine lv_icmp_gt (tgt := 43) hx hb dX6_isSetting_36 (by decide) (fun (c3 : (20 : Int32) < p1) => ?_) (fun (c3 : ¬ (20 : Int32) < p1) => ?_)
      · replace h := ip c3 h
        refine lv_iconst (v := (0 : Int32)) hx hb dX6_isSetting_43 (by decide) ?_
        cases h
        exact xendz F (by decide) hsz hAe hK hP hD hS (fun _ => 0) rfl rfl (Nat.zero_le _) (Nat.zero_le _) dX6_isSetting_44
      · replace h := iq c3 h
        refine lv_iconst (v := (1 : Int32)) hx hb dX6_isSetting_39 (by decide) ?_
        refine lv_goto (tgt := 44) hx hb dX6_isSetting_40 (by decide) ?_
        cases h
        exact xendz F (by decide) hsz hAe hK hP hD hS (fun _ => 0) rfl rfl (Nat.zero_le _) (Nat.zero_le _) dX6_isSetting_44
  · replace h := iq c1 h
    by_cases c4 : p0 = (1 : Int32)
    · replace h := ip c4 h
      refine lv_tableIn (tgt := 45) hx hb dX6_isSetting_1 (by rw [c4]; decide) (by rw [c4]; decide) (by rw [c4]; rfl) (by decide) ?_
      refine lv_iload_n hx hb dX6_isSetting_45 rfl (lv_at hl 1 rfl) ?_
      refine lv_if_lt (tgt := 59) hx hb dX6_isSetting_46 (by decide) (fun (c5 : p1 < 0) => ?_) (fun (c5 : ¬ p1 < 0) => ?_)
      · replace h := ip c5 h
        refine lv_iconst (v := (0 : Int32)) hx hb dX6_isSetting_59 (by decide) ?_
        cases h
        exact xendz F (by decide) hsz hAe hK hP hD hS (fun _ => 0) rfl rfl (Nat.zero_le _) (Nat.zero_le _) dX6_isSetting_60
      · replace h := iq c5 h
        refine lv_iload_n hx hb dX6_isSetting_49 rfl (lv_at hl 1 rfl) ?_
        refine lv_bipush (v := (99 : Int32)) hx hb dX6_isSetting_50 (by decide) ?_
        refine lv_icmp_gt (tgt := 59) hx hb dX6_isSetting_52 (by decide) (fun (c6 : (99 : Int32) < p1) => ?_) (fun (c6 : ¬ (99 : Int32) < p1) => ?_)
        · replace h := ip c6 h
          refine lv_iconst (v := (0 : Int32)) hx hb dX6_isSetting_59 (by decide) ?_
          cases h
          exact xendz F (by decide) hsz hAe hK hP hD hS (fun _ => 0) rfl rfl (Nat.zero_le _) (Nat.zero_le _) dX6_isSetting_60
        · replace h := iq c6 h
          refine lv_iconst (v := (1 : Int32)) hx hb dX6_isSetting_55 (by decide) ?_
          refine lv_goto (tgt := 60) hx hb dX6_isSetting_56 (by decide) ?_
          cases h
          exact xendz F (by decide) hsz hAe hK hP hD hS (fun _ => 0) rfl rfl (Nat.zero_le _) (Nat.zero_le _) dX6_isSetting_60
    · replace h := iq c4 h
      by_cases c7 : p0 = (2 : Int32)
      · replace h := ip c7 h
        refine lv_tableIn (tgt := 61) hx hb dX6_isSetting_1 (by rw [c7]; decide) (by rw [c7]; decide) (by rw [c7]; rfl) (by decide) ?_
        refine lv_iload_n hx hb dX6_isSetting_61 rfl (lv_at hl 1 rfl) ?_
        refine lv_iconst (v := (1 : Int32)) hx hb dX6_isSetting_62 (by decide) ?_
        refine lv_icmp_lt (tgt := 76) hx hb dX6_isSetting_63 (by decide) (fun (c8 : p1 < (1 : Int32)) => ?_) (fun (c8 : ¬ p1 < (1 : Int32)) => ?_)
        · replace h := ip c8 h
          refine lv_iconst (v := (0 : Int32)) hx hb dX6_isSetting_76 (by decide) ?_
          cases h
          exact xendz F (by decide) hsz hAe hK hP hD hS (fun _ => 0) rfl rfl (Nat.zero_le _) (Nat.zero_le _) dX6_isSetting_77
        · replace h := iq c8 h
          refine lv_iload_n hx hb dX6_isSetting_66 rfl (lv_at hl 1 rfl) ?_
          refine lv_bipush (v := (20 : Int32)) hx hb dX6_isSetting_67 (by decide) ?_
          refine lv_icmp_gt (tgt := 76) hx hb dX6_isSetting_69 (by decide) (fun (c9 : (20 : Int32) < p1) => ?_) (fun (c9 : ¬ (20 : Int32) < p1) => ?_)
          · replace h := ip c9 h
            refine lv_iconst (v := (0 : Int32)) hx hb dX6_isSetting_76 (by decide) ?_
            cases h
            exact xendz F (by decide) hsz hAe hK hP hD hS (fun _ => 0) rfl rfl (Nat.zero_le _) (Nat.zero_le _) dX6_isSetting_77
          · replace h := iq c9 h
            refine lv_iconst (v := (1 : Int32)) hx hb dX6_isSetting_72 (by decide) ?_
            refine lv_goto (tgt := 77) hx hb dX6_isSetting_73 (by decide) ?_
            cases h
            exact xendz F (by decide) hsz hAe hK hP hD hS (fun _ => 0) rfl rfl (Nat.zero_le _) (Nat.zero_le _) dX6_isSetting_77
      · replace h := iq c7 h
        refine lv_tableOut (tgt := 78) hx hb dX6_isSetting_1 (by have q0 := lv_neT (a := 0) c1 (by decide); have q1 := lv_neT (a := 1) c4 (by decide); have q2 := lv_neT (a := 2) c7 (by decide); omega) (by decide) ?_
        refine lv_iconst (v := (0 : Int32)) hx hb dX6_isSetting_78 (by decide) ?_
        cases h
        exact xendz F (by decide) hsz hAe hK hP hD hS (fun _ => 0) rfl rfl (Nat.zero_le _) (Nat.zero_le _) dX6_isSetting_79
set_option maxHeartbeats 4000000 in
set_option maxRecDepth 100000 in
theorem kX6_withoutGroups (l : Launch) (D : va_G) (cc : Nat → ClassId) (p0 : Int64) (p2 : Int32) (r0 : Int64) (h : fX6_withoutGroups p0 p2 = some r0) : xMl l yX6_withoutGroups wsX6_withoutGroups ({ frames := 0, cells := 0, slots := 0, locals := 0 } : Room) D cc [.long p0, .int p2] [] r0 (fun _ => []) 0 0 := by
  intro sz
  refine xstart (bc := cX6_withoutGroups) (maxL := 6) (ret := (some .long)) (by decide) rfl (Nat.le_of_ble_eq_true rfl) ?_
  intro p e s m args below meth c A hargs hsz hAe F hK hN hA hmn hP hD hS ls hl
  have hx := F.1.1
  have hb := F.1.2.1
  have hml := F.1.2.2.1
  have hown := F.1.2.2.2.1
  have hts := F.1.2.2.2.2
  have hl : lv_has ls 6 [(0, .long p0), (2, .int p2)] := hl
  have k1 := hts (.constantLong RX6 250 (100000 : Int64)) (by decide +kernel)
  unfold fX6_withoutGroups at h
  have hB5 : ∀ (QQ : State → Prop) (k5_2 : Int32) (x3 : Int64) (x5 : Int32) (r9 : (Int64 × Int32) ⊕ (Int64)), fX6_withoutGroups_L5 k5_2 x3 x5 = some r9 → ∀ (H : Heap) (locs : List Loc) (ls : Array Slot), va_P D vwCl [] H → va_D A [] → va_S A s.heap H locs → lv_has ls 6 [(2, .int k5_2), (3, .long x3), (5, .int x5)] → (∀ (x3 : Int64) (x5 : Int32), r9 = Sum.inl (x3, x5) → ∀ (H : Heap) (locs : List Loc) (ls : Array Slot), va_P D vwCl [] H → va_D A [] → va_S A s.heap H locs → lv_has ls 6 [(2, .int k5_2), (3, .long x3), (5, .int x5)] → W p l e ({ frames := 0, cells := 0, slots := 0, locals := 0 } : Room) s m args below meth c H locs 0 0 QQ (F0 m 5 ls [])) → (∀ (y3 : Int64), r9 = Sum.inr (y3) → ∀ (H : Heap) (locs : List Loc) (ls : Array Slot), va_P D vwCl [] H → va_D A [] → va_S A s.heap H locs → lv_has ls 6 [(3, .long y3)] → W p l e ({ frames := 0, cells := 0, slots := 0, locals := 0 } : Room) s m args below meth c H locs 0 0 QQ (F0 m 23 ls [])) → W p l e ({ frames := 0, cells := 0, slots := 0, locals := 0 } : Room) s m args below meth c H locs 0 0 QQ (F0 m 5 ls []) := by
    intro QQ k5_2 x3 x5 r9 h H locs ls hP hD hS hl KS KX0
    unfold fX6_withoutGroups_L5 at h
    refine lv_iload hx hb dX6_withoutGroups_5 (lv_at hl 2 rfl) ?_
    refine lv_iload_n hx hb dX6_withoutGroups_7 rfl (lv_at hl 0 rfl) ?_
    refine lv_icmp_ge (tgt := 23) hx hb dX6_withoutGroups_8 (by decide) (fun (c1 : k5_2 ≤ x5) => ?_) (fun (c1 : ¬ k5_2 ≤ x5) => ?_)
    · replace h := ip c1 h
      have hl := lv_sub (l' := [(3, .long x3)]) hl [1] rfl
      cases h
      exact KX0 x3 rfl _ _ _ hP hD hS hl
    · replace h := iq c1 h
      refine lv_lload_n hx hb dX6_withoutGroups_11 rfl (lv_at hl 1 rfl) ?_
      refine lv_ldc2 (v := (100000 : Int64)) hx hb hown k1 dX6_withoutGroups_12 ?_
      refine lv_ldiv hx hb dX6_withoutGroups_15 (by decide) ?_
      refine lv_lstore_n (x := x3 / (100000 : Int64)) (lv' := [(3, .long (x3 / (100000 : Int64))), (2, .int k5_2), (5, .int x5)]) hx hb dX6_withoutGroups_16 rfl hl (by decide) rfl (fun ls hl => ?_)
      refine lv_iinc (v := x5 + (1 : Int32)) (lv' := [(5, .int (x5 + (1 : Int32))), (3, .long (x3 / (100000 : Int64))), (2, .int k5_2)]) hx hb dX6_withoutGroups_17 hl (k := 2) rfl (by first | rfl | decide) (by decide) rfl (fun ls hl => ?_)
      refine lv_goto (tgt := 5) hx hb dX6_withoutGroups_20 (by decide) ?_
      have hl := lv_sub (l' := [(2, .int k5_2), (3, .long (x3 / (100000 : Int64))), (5, .int (x5 + (1 : Int32)))]) hl [2, 1, 0] rfl
      cases h
      exact KS (x3 / (100000 : Int64)) (x5 + (1 : Int32)) rfl _ _ _ hP hD hS hl
  have hL5 : ∀ (QQ : State → Prop) (n : Nat) (k5_2 : Int32) (x3 : Int64) (x5 : Int32) (r9 : Int64), loopF (fun (z : Int64 × Int32) => fX6_withoutGroups_L5 k5_2 z.1 z.2) n (x3, x5) = some r9 → ∀ (H : Heap) (locs : List Loc) (ls : Array Slot), va_P D vwCl [] H → va_D A [] → va_S A s.heap H locs → lv_has ls 6 [(2, .int k5_2), (3, .long x3), (5, .int x5)] → (∀ (y3 : Int64), r9 = y3 → ∀ (H : Heap) (locs : List Loc) (ls : Array Slot), va_P D vwCl [] H → va_D A [] → va_S A s.heap H locs → lv_has ls 6 [(3, .long y3)] → W p l e ({ frames := 0, cells := 0, slots := 0, locals := 0 } : Room) s m args below meth c H locs 0 0 QQ (F0 m 23 ls [])) → W p l e ({ frames := 0, cells := 0, slots := 0, locals := 0 } : Room) s m args below meth c H locs 0 0 QQ (F0 m 5 ls []) := by
    intro QQ n
    induction n with
    | zero => intro k5_2 x3 x5 r9 h; exact (loopF_zero h).elim
    | succ n ih =>
      intro k5_2 x3 x5 r9 h H locs ls hP hD hS hl KX0
      obtain ⟨z9, hz, h⟩ := loopF_step h
      exact hB5 QQ k5_2 x3 x5 z9 hz H locs ls hP hD hS hl (fun x3_b x5_b q9 H9 locs9 ls9 hP9 hD9 hS9 hl9 => ih k5_2 x3_b x5_b r9 (by rcases h with ⟨s9, h1, h2⟩ | h1 <;> rw [h1] at q9 <;> cases q9; exact h2) H9 locs9 ls9 hP9 hD9 hS9 hl9 KX0) (fun y3 q9 => KX0 y3 (by rcases h with ⟨s9, h1, h2⟩ | h1 <;> rw [h1] at q9 <;> cases q9; rfl))
  refine lv_lload_n hx hb dX6_withoutGroups_0 rfl (lv_at hl 0 rfl) ?_
  refine lv_lstore_n (x := p0) (lv' := [(3, .long p0), (0, .long p0), (2, .int p2)]) hx hb dX6_withoutGroups_1 rfl hl (by decide) rfl (fun ls hl => ?_)
  refine lv_iconst (v := (0 : Int32)) hx hb dX6_withoutGroups_2 (by decide) ?_
  refine lv_istore (x := (0 : Int32)) (lv' := [(5, .int (0 : Int32)), (3, .long p0), (0, .long p0), (2, .int p2)]) hx hb dX6_withoutGroups_3 hl (by decide) rfl (fun ls hl => ?_)
  have hl := lv_sub (l' := [(2, .int p2), (3, .long p0), (5, .int (0 : Int32))]) hl [3, 1, 0] rfl
  obtain ⟨y3_2, hq9, h⟩ := b1_some h
  refine hL5 _ FUEL p2 p0 (0 : Int32) y3_2 hq9 _ _ _ hP hD hS hl (fun y3_2z q9 H locs ls hP hD hS hl => ?_)
  cases q9
  refine lv_lload_n hx hb dX6_withoutGroups_23 rfl (lv_at hl 0 rfl) ?_
  cases h
  exact xendl F hsz hAe hK hP hD hS (fun _ => 0) rfl rfl (Nat.zero_le _) (Nat.zero_le _) dX6_withoutGroups_24
theorem inX0_strokesOf_X0 : ∀ w ∈ wsX00, w ∈ wsX0_strokesOf := by decide +kernel
set_option maxHeartbeats 4000000 in
set_option maxRecDepth 100000 in
theorem kX0_strokesOf (l : Launch) (D : va_G) (cc : Nat → ClassId) (a_p0 : Nat) (a_p0_strokes : Nat) (a_p0_lengths : Nat) (a_p0_points : Nat) (a_p0_signCounts : Nat) (a_p0_signs : Nat) (c_p0_strokes : Nat → Int32) (p1 : Int32) (r0 : Int32) (h : fX0_strokesOf p1 c_p0_strokes = r0) : xMi l yX0_strokesOf wsX0_strokesOf ({ frames := 1, cells := 0, slots := 0, locals := 21 } : Room) D cc [.ref a_p0, .int p1] [(a_p0, .inr (0, [.ref a_p0_strokes, .ref a_p0_lengths, .ref a_p0_points, .ref a_p0_signCounts, .ref a_p0_signs])), (a_p0_strokes, .inl (cc 0, 17, .inl c_p0_strokes))] r0 (fun _ => [(a_p0, .inr (0, [.ref a_p0_strokes, .ref a_p0_lengths, .ref a_p0_points, .ref a_p0_signCounts, .ref a_p0_signs])), (a_p0_strokes, .inl (cc 0, 17, .inl c_p0_strokes))]) 0 0 := by
  intro sz
  refine xstart (bc := cX0_strokesOf) (maxL := 2) (ret := (some .int)) (by decide) rfl (Nat.le_of_ble_eq_true rfl) ?_
  intro p e s m args below meth c A hargs hsz hAe F hK hN hA hmn hP hD hS ls hl
  have hx := F.1.1
  have hb := F.1.2.1
  have hml := F.1.2.2.1
  have hown := F.1.2.2.2.1
  have hts := F.1.2.2.2.2
  have hl : lv_has ls 2 [(0, .ref a_p0), (1, .int p1)] := hl
  have k1 := hts (.fieldLink RX0 9 "RuledStrokes$Figures" "strokes" "[I") (by decide +kernel)
  have k2 := hts (.initialized RX6) (by decide +kernel)
  have k3 := hts (.static yX6_cell) (by decide +kernel)
  unfold fX0_strokesOf at h
  refine lv_aload_n hx hb dX0_strokesOf_0 rfl (lv_at hl 0 rfl) ?_
  refine va_get (D := D) (ci := 0) (v := .ref a_p0_strokes) (C := RX0) (T := TX0) (N := 5) hx hb hts inX0_strokesOf_X0 hown hK hP 0 rfl rfl 0 (by decide) k1 (fun _ h9 => h9) rfl dX0_strokesOf_1 ?_
  refine lv_iload_n hx hb dX0_strokesOf_4 rfl (lv_at hl 1 rfl) ?_
  refine xcalli (wr := [(a_p0, .inr (0, [.ref a_p0_strokes, .ref a_p0_lengths, .ref a_p0_points, .ref a_p0_signCounts, .ref a_p0_signs]))]) [1] [0] (xrunSN (As := [.ref a_p0_strokes, .int p1]) (rest := []) F ((kX6_cellT l D cc (a_p0 := a_p0_strokes) (n_p0 := 17) (c_p0 := c_p0_strokes) (p1 := p1) (r0 := (xcell p1 17 c_p0_strokes)) (h := rfl)) _) ⟨va_cnB 2 hts gX0_strokesOf_X6_cell_n39 rfl rfl rfl (hN.1 (.methodLinkNest RX0 39 yX6_cell RX6) (by simp [xNest])) k2 (by decide +kernel) ⟨Nat.le_of_ble_eq_true rfl, Nat.le_of_ble_eq_true rfl⟩, k3⟩ hK hN hP hD [1] rfl (by decide) rfl hl rfl (Nat.le_of_ble_eq_true rfl) dX0_strokesOf_5 ⟨Nat.zero_le _, Nat.zero_le _⟩) hP hD hS hA rfl rfl (by decide) (by decide) (fun _ H locs hP hD hS => ?_)
  have hP : va_P D vwCl [(a_p0, .inr (0, [.ref a_p0_strokes, .ref a_p0_lengths, .ref a_p0_points, .ref a_p0_signCounts, .ref a_p0_signs])), (a_p0_strokes, .inl (cc 0, 17, .inl c_p0_strokes))] H := hP
  have hD : va_D A [(a_p0, .inr (0, [.ref a_p0_strokes, .ref a_p0_lengths, .ref a_p0_points, .ref a_p0_signCounts, .ref a_p0_signs])), (a_p0_strokes, .inl (cc 0, 17, .inl c_p0_strokes))] := hD
  cases h
  exact xendi (ret := none) F hsz hAe hK hP hD hS (fun _ => 0) rfl rfl (Nat.zero_le _) (Nat.zero_le _) dX0_strokesOf_8
theorem inX0_lengthOf_X0 : ∀ w ∈ wsX00, w ∈ wsX0_lengthOf := by decide +kernel
set_option maxHeartbeats 4000000 in
set_option maxRecDepth 100000 in
theorem kX0_lengthOf (l : Launch) (D : va_G) (cc : Nat → ClassId) (a_p0 : Nat) (a_p0_strokes : Nat) (a_p0_lengths : Nat) (a_p0_points : Nat) (a_p0_signCounts : Nat) (a_p0_signs : Nat) (c_p0_lengths : Nat → Int32) (p1 : Int32) (p2 : Int32) (r0 : Int32) (h : fX0_lengthOf p1 p2 c_p0_lengths = r0) : xMi l yX0_lengthOf wsX0_lengthOf ({ frames := 1, cells := 0, slots := 0, locals := 21 } : Room) D cc [.ref a_p0, .int p1, .int p2] [(a_p0, .inr (0, [.ref a_p0_strokes, .ref a_p0_lengths, .ref a_p0_points, .ref a_p0_signCounts, .ref a_p0_signs])), (a_p0_lengths, .inl (cc 0, 51, .inl c_p0_lengths))] r0 (fun _ => [(a_p0, .inr (0, [.ref a_p0_strokes, .ref a_p0_lengths, .ref a_p0_points, .ref a_p0_signCounts, .ref a_p0_signs])), (a_p0_lengths, .inl (cc 0, 51, .inl c_p0_lengths))]) 0 0 := by
  intro sz
  refine xstart (bc := cX0_lengthOf) (maxL := 3) (ret := (some .int)) (by decide) rfl (Nat.le_of_ble_eq_true rfl) ?_
  intro p e s m args below meth c A hargs hsz hAe F hK hN hA hmn hP hD hS ls hl
  have hx := F.1.1
  have hb := F.1.2.1
  have hml := F.1.2.2.1
  have hown := F.1.2.2.2.1
  have hts := F.1.2.2.2.2
  have hl : lv_has ls 3 [(0, .ref a_p0), (1, .int p1), (2, .int p2)] := hl
  have k1 := hts (.fieldLink RX0 15 "RuledStrokes$Figures" "lengths" "[I") (by decide +kernel)
  have k2 := hts (.initialized RX6) (by decide +kernel)
  have k3 := hts (.static yX6_cell) (by decide +kernel)
  unfold fX0_lengthOf at h
  refine lv_aload_n hx hb dX0_lengthOf_0 rfl (lv_at hl 0 rfl) ?_
  refine va_get (D := D) (ci := 0) (v := .ref a_p0_lengths) (C := RX0) (T := TX0) (N := 5) hx hb hts inX0_lengthOf_X0 hown hK hP 0 rfl rfl 1 (by decide) k1 (fun _ h9 => h9) rfl dX0_lengthOf_1 ?_
  refine lv_iload_n hx hb dX0_lengthOf_4 rfl (lv_at hl 1 rfl) ?_
  refine lv_iconst (v := (3 : Int32)) hx hb dX0_lengthOf_5 (by decide) ?_
  refine lv_imul hx hb dX0_lengthOf_6 ?_
  refine lv_iload_n hx hb dX0_lengthOf_7 rfl (lv_at hl 2 rfl) ?_
  refine lv_iadd hx hb dX0_lengthOf_8 ?_
  refine xcalli (wr := [(a_p0, .inr (0, [.ref a_p0_strokes, .ref a_p0_lengths, .ref a_p0_points, .ref a_p0_signCounts, .ref a_p0_signs]))]) [1] [0] (xrunSN (As := [.ref a_p0_lengths, .int ((p1 * (3 : Int32)) + p2)]) (rest := []) F ((kX6_cellT l D cc (a_p0 := a_p0_lengths) (n_p0 := 51) (c_p0 := c_p0_lengths) (p1 := (p1 * (3 : Int32)) + p2) (r0 := (xcell ((p1 * (3 : Int32)) + p2) 51 c_p0_lengths)) (h := rfl)) _) ⟨va_cnB 2 hts gX0_lengthOf_X6_cell_n39 rfl rfl rfl (hN.1 (.methodLinkNest RX0 39 yX6_cell RX6) (by simp [xNest])) k2 (by decide +kernel) ⟨Nat.le_of_ble_eq_true rfl, Nat.le_of_ble_eq_true rfl⟩, k3⟩ hK hN hP hD [1] rfl (by decide) rfl hl rfl (Nat.le_of_ble_eq_true rfl) dX0_lengthOf_9 ⟨Nat.zero_le _, Nat.zero_le _⟩) hP hD hS hA rfl rfl (by decide) (by decide) (fun _ H locs hP hD hS => ?_)
  have hP : va_P D vwCl [(a_p0, .inr (0, [.ref a_p0_strokes, .ref a_p0_lengths, .ref a_p0_points, .ref a_p0_signCounts, .ref a_p0_signs])), (a_p0_lengths, .inl (cc 0, 51, .inl c_p0_lengths))] H := hP
  have hD : va_D A [(a_p0, .inr (0, [.ref a_p0_strokes, .ref a_p0_lengths, .ref a_p0_points, .ref a_p0_signCounts, .ref a_p0_signs])), (a_p0_lengths, .inl (cc 0, 51, .inl c_p0_lengths))] := hD
  cases h
  exact xendi (ret := none) F hsz hAe hK hP hD hS (fun _ => 0) rfl rfl (Nat.zero_le _) (Nat.zero_le _) dX0_lengthOf_12
set_option maxHeartbeats 4000000 in
set_option maxRecDepth 100000 in
theorem kX0_pointsOf (l : Launch) (D : va_G) (cc : Nat → ClassId) (a_p0 : Nat) (a_p0_strokes : Nat) (a_p0_lengths : Nat) (a_p0_points : Nat) (a_p0_signCounts : Nat) (a_p0_signs : Nat) (c_p0_strokes : Nat → Int32) (c_p0_lengths : Nat → Int32) (p1 : Int32) (r0 : Int32) (h : fX0_pointsOf p1 c_p0_strokes c_p0_lengths = some r0) : xMi l yX0_pointsOf wsX0_pointsOf ({ frames := 2, cells := 0, slots := 0, locals := 43 } : Room) D cc [.ref a_p0, .int p1] [(a_p0, .inr (0, [.ref a_p0_strokes, .ref a_p0_lengths, .ref a_p0_points, .ref a_p0_signCounts, .ref a_p0_signs])), (a_p0_strokes, .inl (cc 0, 17, .inl c_p0_strokes)), (a_p0_lengths, .inl (cc 0, 51, .inl c_p0_lengths))] r0 (fun _ => [(a_p0, .inr (0, [.ref a_p0_strokes, .ref a_p0_lengths, .ref a_p0_points, .ref a_p0_signCounts, .ref a_p0_signs])), (a_p0_strokes, .inl (cc 0, 17, .inl c_p0_strokes)), (a_p0_lengths, .inl (cc 0, 51, .inl c_p0_lengths))]) 0 0 := by
  intro sz
  refine xstart (bc := cX0_pointsOf) (maxL := 4) (ret := (some .int)) (by decide) rfl (Nat.le_of_ble_eq_true rfl) ?_
  intro p e s m args below meth c A hargs hsz hAe F hK hN hA hmn hP hD hS ls hl
  have hx := F.1.1
  have hb := F.1.2.1
  have hml := F.1.2.2.1
  have hown := F.1.2.2.2.1
  have hts := F.1.2.2.2.2
  have hl : lv_has ls 4 [(0, .ref a_p0), (1, .int p1)] := hl
  unfold fX0_pointsOf at h
  have hB4 : ∀ (QQ : State → Prop) (k4_1 : Int32) (x2 : Int32) (x3 : Int32) (r9 : (Int32 × Int32) ⊕ (Int32)), fX0_pointsOf_L4 c_p0_strokes c_p0_lengths k4_1 x2 x3 = some r9 → ∀ (H : Heap) (locs : List Loc) (ls : Array Slot), va_P D vwCl [(a_p0, .inr (0, [.ref a_p0_strokes, .ref a_p0_lengths, .ref a_p0_points, .ref a_p0_signCounts, .ref a_p0_signs])), (a_p0_strokes, .inl (cc 0, 17, .inl c_p0_strokes)), (a_p0_lengths, .inl (cc 0, 51, .inl c_p0_lengths))] H → va_D A [(a_p0, .inr (0, [.ref a_p0_strokes, .ref a_p0_lengths, .ref a_p0_points, .ref a_p0_signCounts, .ref a_p0_signs])), (a_p0_strokes, .inl (cc 0, 17, .inl c_p0_strokes)), (a_p0_lengths, .inl (cc 0, 51, .inl c_p0_lengths))] → va_S A s.heap H locs → lv_has ls 4 [(0, .ref a_p0), (1, .int k4_1), (2, .int x2), (3, .int x3)] → (∀ (x2 : Int32) (x3 : Int32), r9 = Sum.inl (x2, x3) → ∀ (H : Heap) (locs : List Loc) (ls : Array Slot), va_P D vwCl [(a_p0, .inr (0, [.ref a_p0_strokes, .ref a_p0_lengths, .ref a_p0_points, .ref a_p0_signCounts, .ref a_p0_signs])), (a_p0_strokes, .inl (cc 0, 17, .inl c_p0_strokes)), (a_p0_lengths, .inl (cc 0, 51, .inl c_p0_lengths))] H → va_D A [(a_p0, .inr (0, [.ref a_p0_strokes, .ref a_p0_lengths, .ref a_p0_points, .ref a_p0_signCounts, .ref a_p0_signs])), (a_p0_strokes, .inl (cc 0, 17, .inl c_p0_strokes)), (a_p0_lengths, .inl (cc 0, 51, .inl c_p0_lengths))] → va_S A s.heap H locs → lv_has ls 4 [(0, .ref a_p0), (1, .int k4_1), (2, .int x2), (3, .int x3)] → W p l e ({ frames := 2, cells := 0, slots := 0, locals := 43 } : Room) s m args below meth c H locs 0 0 QQ (F0 m 4 ls [])) → (∀ (y2 : Int32), r9 = Sum.inr (y2) → ∀ (H : Heap) (locs : List Loc) (ls : Array Slot), va_P D vwCl [(a_p0, .inr (0, [.ref a_p0_strokes, .ref a_p0_lengths, .ref a_p0_points, .ref a_p0_signCounts, .ref a_p0_signs])), (a_p0_strokes, .inl (cc 0, 17, .inl c_p0_strokes)), (a_p0_lengths, .inl (cc 0, 51, .inl c_p0_lengths))] H → va_D A [(a_p0, .inr (0, [.ref a_p0_strokes, .ref a_p0_lengths, .ref a_p0_points, .ref a_p0_signCounts, .ref a_p0_signs])), (a_p0_strokes, .inl (cc 0, 17, .inl c_p0_strokes)), (a_p0_lengths, .inl (cc 0, 51, .inl c_p0_lengths))] → va_S A s.heap H locs → lv_has ls 4 [(2, .int y2)] → W p l e ({ frames := 2, cells := 0, slots := 0, locals := 43 } : Room) s m args below meth c H locs 0 0 QQ (F0 m 28 ls [])) → W p l e ({ frames := 2, cells := 0, slots := 0, locals := 43 } : Room) s m args below meth c H locs 0 0 QQ (F0 m 4 ls []) := by
    intro QQ k4_1 x2 x3 r9 h H locs ls hP hD hS hl KS KX0
    unfold fX0_pointsOf_L4 at h
    refine lv_iload_n hx hb dX0_pointsOf_4 rfl (lv_at hl 3 rfl) ?_
    refine lv_aload_n hx hb dX0_pointsOf_5 rfl (lv_at hl 0 rfl) ?_
    refine lv_iload_n hx hb dX0_pointsOf_6 rfl (lv_at hl 1 rfl) ?_
    refine xcalli (wr := [(a_p0_lengths, .inl (cc 0, 51, .inl c_p0_lengths))]) [0, 1] [2] (xrunV (As := [.int k4_1]) (rest := [.int x3]) F ((kX0_strokesOf l D cc (a_p0 := a_p0) (a_p0_strokes := a_p0_strokes) (a_p0_lengths := a_p0_lengths) (a_p0_points := a_p0_points) (a_p0_signCounts := a_p0_signCounts) (a_p0_signs := a_p0_signs) (c_p0_strokes := c_p0_strokes) (p1 := k4_1) (r0 := (fX0_strokesOf k4_1 c_p0_strokes)) (h := rfl)) _) (cwV 1 hts gX0_pointsOf_X0_strokesOf rfl rfl rfl (by decide +kernel) ⟨Nat.le_of_ble_eq_true rfl, Nat.le_of_ble_eq_true rfl⟩) hK hN hP hD [0, 1] rfl (by decide) (q0 := 0) rfl rfl rfl rfl hl rfl (Nat.le_of_ble_eq_true rfl) dX0_pointsOf_7 ⟨Nat.zero_le _, Nat.zero_le _⟩) hP hD hS hA rfl rfl (by decide) (by decide) (fun _ H locs hP hD hS => ?_)
    have hP : va_P D vwCl [(a_p0_lengths, .inl (cc 0, 51, .inl c_p0_lengths)), (a_p0, .inr (0, [.ref a_p0_strokes, .ref a_p0_lengths, .ref a_p0_points, .ref a_p0_signCounts, .ref a_p0_signs])), (a_p0_strokes, .inl (cc 0, 17, .inl c_p0_strokes))] H := hP
    have hD : va_D A [(a_p0_lengths, .inl (cc 0, 51, .inl c_p0_lengths)), (a_p0, .inr (0, [.ref a_p0_strokes, .ref a_p0_lengths, .ref a_p0_points, .ref a_p0_signCounts, .ref a_p0_signs])), (a_p0_strokes, .inl (cc 0, 17, .inl c_p0_strokes))] := hD
    refine lv_icmp_ge (tgt := 28) hx hb dX0_pointsOf_10 (by decide) (fun (c2 : (fX0_strokesOf k4_1 c_p0_strokes) ≤ x3) => ?_) (fun (c2 : ¬ (fX0_strokesOf k4_1 c_p0_strokes) ≤ x3) => ?_)
    · replace h := ip c2 h
      have hP := hP.sub (ws' := [(a_p0, .inr (0, [.ref a_p0_strokes, .ref a_p0_lengths, .ref a_p0_points, .ref a_p0_signCounts, .ref a_p0_signs])), (a_p0_strokes, .inl (cc 0, 17, .inl c_p0_strokes)), (a_p0_lengths, .inl (cc 0, 51, .inl c_p0_lengths))]) [1, 2, 0] rfl
      have hD := hD.sub (ws' := [(a_p0, .inr (0, [.ref a_p0_strokes, .ref a_p0_lengths, .ref a_p0_points, .ref a_p0_signCounts, .ref a_p0_signs])), (a_p0_strokes, .inl (cc 0, 17, .inl c_p0_strokes)), (a_p0_lengths, .inl (cc 0, 51, .inl c_p0_lengths))]) [1, 2, 0] (by decide) rfl
      have hl := lv_sub (l' := [(2, .int x2)]) hl [2] rfl
      cases h
      exact KX0 x2 rfl _ _ _ hP hD hS hl
    · replace h := iq c2 h
      refine lv_iload_n hx hb dX0_pointsOf_13 rfl (lv_at hl 2 rfl) ?_
      refine lv_aload_n hx hb dX0_pointsOf_14 rfl (lv_at hl 0 rfl) ?_
      refine lv_iload_n hx hb dX0_pointsOf_15 rfl (lv_at hl 1 rfl) ?_
      refine lv_iload_n hx hb dX0_pointsOf_16 rfl (lv_at hl 3 rfl) ?_
      refine xcalli (wr := [(a_p0_strokes, .inl (cc 0, 17, .inl c_p0_strokes))]) [1, 0] [2] (xrunV (As := [.int k4_1, .int x3]) (rest := [.int x2]) F ((kX0_lengthOf l D cc (a_p0 := a_p0) (a_p0_lengths := a_p0_lengths) (a_p0_strokes := a_p0_strokes) (a_p0_points := a_p0_points) (a_p0_signCounts := a_p0_signCounts) (a_p0_signs := a_p0_signs) (c_p0_lengths := c_p0_lengths) (p1 := k4_1) (p2 := x3) (r0 := (fX0_lengthOf k4_1 x3 c_p0_lengths)) (h := rfl)) _) (cwV 2 hts gX0_pointsOf_X0_lengthOf rfl rfl rfl (by decide +kernel) ⟨Nat.le_of_ble_eq_true rfl, Nat.le_of_ble_eq_true rfl⟩) hK hN hP hD [1, 0] rfl (by decide) (q0 := 1) rfl rfl rfl rfl hl rfl (Nat.le_of_ble_eq_true rfl) dX0_pointsOf_17 ⟨Nat.zero_le _, Nat.zero_le _⟩) hP hD hS hA rfl rfl (by decide) (by decide) (fun _ H locs hP hD hS => ?_)
      have hP : va_P D vwCl [(a_p0_strokes, .inl (cc 0, 17, .inl c_p0_strokes)), (a_p0, .inr (0, [.ref a_p0_strokes, .ref a_p0_lengths, .ref a_p0_points, .ref a_p0_signCounts, .ref a_p0_signs])), (a_p0_lengths, .inl (cc 0, 51, .inl c_p0_lengths))] H := hP
      have hD : va_D A [(a_p0_strokes, .inl (cc 0, 17, .inl c_p0_strokes)), (a_p0, .inr (0, [.ref a_p0_strokes, .ref a_p0_lengths, .ref a_p0_points, .ref a_p0_signCounts, .ref a_p0_signs])), (a_p0_lengths, .inl (cc 0, 51, .inl c_p0_lengths))] := hD
      refine lv_iadd hx hb dX0_pointsOf_20 ?_
      refine lv_istore_n (x := x2 + (fX0_lengthOf k4_1 x3 c_p0_lengths)) (lv' := [(2, .int (x2 + (fX0_lengthOf k4_1 x3 c_p0_lengths))), (0, .ref a_p0), (1, .int k4_1), (3, .int x3)]) hx hb dX0_pointsOf_21 rfl hl (by decide) rfl (fun ls hl => ?_)
      refine lv_iinc (v := x3 + (1 : Int32)) (lv' := [(3, .int (x3 + (1 : Int32))), (2, .int (x2 + (fX0_lengthOf k4_1 x3 c_p0_lengths))), (0, .ref a_p0), (1, .int k4_1)]) hx hb dX0_pointsOf_22 hl (k := 3) rfl (by first | rfl | decide) (by decide) rfl (fun ls hl => ?_)
      refine lv_goto (tgt := 4) hx hb dX0_pointsOf_25 (by decide) ?_
      have hP := hP.sub (ws' := [(a_p0, .inr (0, [.ref a_p0_strokes, .ref a_p0_lengths, .ref a_p0_points, .ref a_p0_signCounts, .ref a_p0_signs])), (a_p0_strokes, .inl (cc 0, 17, .inl c_p0_strokes)), (a_p0_lengths, .inl (cc 0, 51, .inl c_p0_lengths))]) [1, 0, 2] rfl
      have hD := hD.sub (ws' := [(a_p0, .inr (0, [.ref a_p0_strokes, .ref a_p0_lengths, .ref a_p0_points, .ref a_p0_signCounts, .ref a_p0_signs])), (a_p0_strokes, .inl (cc 0, 17, .inl c_p0_strokes)), (a_p0_lengths, .inl (cc 0, 51, .inl c_p0_lengths))]) [1, 0, 2] (by decide) rfl
      have hl := lv_sub (l' := [(0, .ref a_p0), (1, .int k4_1), (2, .int (x2 + (fX0_lengthOf k4_1 x3 c_p0_lengths))), (3, .int (x3 + (1 : Int32)))]) hl [2, 3, 1, 0] rfl
      cases h
      exact KS (x2 + (fX0_lengthOf k4_1 x3 c_p0_lengths)) (x3 + (1 : Int32)) rfl _ _ _ hP hD hS hl
  have hL4 : ∀ (QQ : State → Prop) (n : Nat) (k4_1 : Int32) (x2 : Int32) (x3 : Int32) (r9 : Int32), loopF (fun (z : Int32 × Int32) => fX0_pointsOf_L4 c_p0_strokes c_p0_lengths k4_1 z.1 z.2) n (x2, x3) = some r9 → ∀ (H : Heap) (locs : List Loc) (ls : Array Slot), va_P D vwCl [(a_p0, .inr (0, [.ref a_p0_strokes, .ref a_p0_lengths, .ref a_p0_points, .ref a_p0_signCounts, .ref a_p0_signs])), (a_p0_strokes, .inl (cc 0, 17, .inl c_p0_strokes)), (a_p0_lengths, .inl (cc 0, 51, .inl c_p0_lengths))] H → va_D A [(a_p0, .inr (0, [.ref a_p0_strokes, .ref a_p0_lengths, .ref a_p0_points, .ref a_p0_signCounts, .ref a_p0_signs])), (a_p0_strokes, .inl (cc 0, 17, .inl c_p0_strokes)), (a_p0_lengths, .inl (cc 0, 51, .inl c_p0_lengths))] → va_S A s.heap H locs → lv_has ls 4 [(0, .ref a_p0), (1, .int k4_1), (2, .int x2), (3, .int x3)] → (∀ (y2 : Int32), r9 = y2 → ∀ (H : Heap) (locs : List Loc) (ls : Array Slot), va_P D vwCl [(a_p0, .inr (0, [.ref a_p0_strokes, .ref a_p0_lengths, .ref a_p0_points, .ref a_p0_signCounts, .ref a_p0_signs])), (a_p0_strokes, .inl (cc 0, 17, .inl c_p0_strokes)), (a_p0_lengths, .inl (cc 0, 51, .inl c_p0_lengths))] H → va_D A [(a_p0, .inr (0, [.ref a_p0_strokes, .ref a_p0_lengths, .ref a_p0_points, .ref a_p0_signCounts, .ref a_p0_signs])), (a_p0_strokes, .inl (cc 0, 17, .inl c_p0_strokes)), (a_p0_lengths, .inl (cc 0, 51, .inl c_p0_lengths))] → va_S A s.heap H locs → lv_has ls 4 [(2, .int y2)] → W p l e ({ frames := 2, cells := 0, slots := 0, locals := 43 } : Room) s m args below meth c H locs 0 0 QQ (F0 m 28 ls [])) → W p l e ({ frames := 2, cells := 0, slots := 0, locals := 43 } : Room) s m args below meth c H locs 0 0 QQ (F0 m 4 ls []) := by
    intro QQ n
    induction n with
    | zero => intro k4_1 x2 x3 r9 h; exact (loopF_zero h).elim
    | succ n ih =>
      intro k4_1 x2 x3 r9 h H locs ls hP hD hS hl KX0
      obtain ⟨z9, hz, h⟩ := loopF_step h
      exact hB4 QQ k4_1 x2 x3 z9 hz H locs ls hP hD hS hl (fun x2_b x3_b q9 H9 locs9 ls9 hP9 hD9 hS9 hl9 => ih k4_1 x2_b x3_b r9 (by rcases h with ⟨s9, h1, h2⟩ | h1 <;> rw [h1] at q9 <;> cases q9; exact h2) H9 locs9 ls9 hP9 hD9 hS9 hl9 KX0) (fun y2 q9 => KX0 y2 (by rcases h with ⟨s9, h1, h2⟩ | h1 <;> rw [h1] at q9 <;> cases q9; rfl))
  refine lv_iconst (v := (0 : Int32)) hx hb dX0_pointsOf_0 (by decide) ?_
  refine lv_istore_n (x := (0 : Int32)) (lv' := [(2, .int (0 : Int32)), (0, .ref a_p0), (1, .int p1)]) hx hb dX0_pointsOf_1 rfl hl (by decide) rfl (fun ls hl => ?_)
  refine lv_iconst (v := (0 : Int32)) hx hb dX0_pointsOf_2 (by decide) ?_
  refine lv_istore_n (x := (0 : Int32)) (lv' := [(3, .int (0 : Int32)), (2, .int (0 : Int32)), (0, .ref a_p0), (1, .int p1)]) hx hb dX0_pointsOf_3 rfl hl (by decide) rfl (fun ls hl => ?_)
  have hl := lv_sub (l' := [(0, .ref a_p0), (1, .int p1), (2, .int (0 : Int32)), (3, .int (0 : Int32))]) hl [2, 3, 1, 0] rfl
  obtain ⟨y2_4, hq9, h⟩ := b1_some h
  refine hL4 _ FUEL p1 (0 : Int32) (0 : Int32) y2_4 hq9 _ _ _ hP hD hS hl (fun y2_4z q9 H locs ls hP hD hS hl => ?_)
  cases q9
  refine lv_iload_n hx hb dX0_pointsOf_28 rfl (lv_at hl 0 rfl) ?_
  cases h
  exact xendi (ret := none) F hsz hAe hK hP hD hS (fun _ => 0) rfl rfl (Nat.zero_le _) (Nat.zero_le _) dX0_pointsOf_29
theorem inX0_signsOf_X0 : ∀ w ∈ wsX00, w ∈ wsX0_signsOf := by decide +kernel
set_option maxHeartbeats 4000000 in
set_option maxRecDepth 100000 in
theorem kX0_signsOf (l : Launch) (D : va_G) (cc : Nat → ClassId) (a_p0 : Nat) (a_p0_strokes : Nat) (a_p0_lengths : Nat) (a_p0_points : Nat) (a_p0_signCounts : Nat) (a_p0_signs : Nat) (c_p0_signCounts : Nat → Int32) (p1 : Int32) (r0 : Int32) (h : fX0_signsOf p1 c_p0_signCounts = r0) : xMi l yX0_signsOf wsX0_signsOf ({ frames := 1, cells := 0, slots := 0, locals := 21 } : Room) D cc [.ref a_p0, .int p1] [(a_p0, .inr (0, [.ref a_p0_strokes, .ref a_p0_lengths, .ref a_p0_points, .ref a_p0_signCounts, .ref a_p0_signs])), (a_p0_signCounts, .inl (cc 0, 17, .inl c_p0_signCounts))] r0 (fun _ => [(a_p0, .inr (0, [.ref a_p0_strokes, .ref a_p0_lengths, .ref a_p0_points, .ref a_p0_signCounts, .ref a_p0_signs])), (a_p0_signCounts, .inl (cc 0, 17, .inl c_p0_signCounts))]) 0 0 := by
  intro sz
  refine xstart (bc := cX0_signsOf) (maxL := 2) (ret := (some .int)) (by decide) rfl (Nat.le_of_ble_eq_true rfl) ?_
  intro p e s m args below meth c A hargs hsz hAe F hK hN hA hmn hP hD hS ls hl
  have hx := F.1.1
  have hb := F.1.2.1
  have hml := F.1.2.2.1
  have hown := F.1.2.2.2.1
  have hts := F.1.2.2.2.2
  have hl : lv_has ls 2 [(0, .ref a_p0), (1, .int p1)] := hl
  have k1 := hts (.fieldLink RX0 21 "RuledStrokes$Figures" "signCounts" "[I") (by decide +kernel)
  have k2 := hts (.initialized RX6) (by decide +kernel)
  have k3 := hts (.static yX6_cell) (by decide +kernel)
  unfold fX0_signsOf at h
  refine lv_aload_n hx hb dX0_signsOf_0 rfl (lv_at hl 0 rfl) ?_
  refine va_get (D := D) (ci := 0) (v := .ref a_p0_signCounts) (C := RX0) (T := TX0) (N := 5) hx hb hts inX0_signsOf_X0 hown hK hP 0 rfl rfl 3 (by decide) k1 (fun _ h9 => h9) rfl dX0_signsOf_1 ?_
  refine lv_iload_n hx hb dX0_signsOf_4 rfl (lv_at hl 1 rfl) ?_
  refine xcalli (wr := [(a_p0, .inr (0, [.ref a_p0_strokes, .ref a_p0_lengths, .ref a_p0_points, .ref a_p0_signCounts, .ref a_p0_signs]))]) [1] [0] (xrunSN (As := [.ref a_p0_signCounts, .int p1]) (rest := []) F ((kX6_cellT l D cc (a_p0 := a_p0_signCounts) (n_p0 := 17) (c_p0 := c_p0_signCounts) (p1 := p1) (r0 := (xcell p1 17 c_p0_signCounts)) (h := rfl)) _) ⟨va_cnB 2 hts gX0_signsOf_X6_cell_n39 rfl rfl rfl (hN.1 (.methodLinkNest RX0 39 yX6_cell RX6) (by simp [xNest])) k2 (by decide +kernel) ⟨Nat.le_of_ble_eq_true rfl, Nat.le_of_ble_eq_true rfl⟩, k3⟩ hK hN hP hD [1] rfl (by decide) rfl hl rfl (Nat.le_of_ble_eq_true rfl) dX0_signsOf_5 ⟨Nat.zero_le _, Nat.zero_le _⟩) hP hD hS hA rfl rfl (by decide) (by decide) (fun _ H locs hP hD hS => ?_)
  have hP : va_P D vwCl [(a_p0, .inr (0, [.ref a_p0_strokes, .ref a_p0_lengths, .ref a_p0_points, .ref a_p0_signCounts, .ref a_p0_signs])), (a_p0_signCounts, .inl (cc 0, 17, .inl c_p0_signCounts))] H := hP
  have hD : va_D A [(a_p0, .inr (0, [.ref a_p0_strokes, .ref a_p0_lengths, .ref a_p0_points, .ref a_p0_signCounts, .ref a_p0_signs])), (a_p0_signCounts, .inl (cc 0, 17, .inl c_p0_signCounts))] := hD
  cases h
  exact xendi (ret := none) F hsz hAe hK hP hD hS (fun _ => 0) rfl rfl (Nat.zero_le _) (Nat.zero_le _) dX0_signsOf_8
theorem inX0_signAt_X0 : ∀ w ∈ wsX00, w ∈ wsX0_signAt := by decide +kernel
set_option maxHeartbeats 4000000 in
set_option maxRecDepth 100000 in
theorem kX0_signAt (l : Launch) (D : va_G) (cc : Nat → ClassId) (a_p0 : Nat) (a_p0_strokes : Nat) (a_p0_lengths : Nat) (a_p0_points : Nat) (a_p0_signCounts : Nat) (a_p0_signs : Nat) (c_p0_signCounts : Nat → Int32) (c_p0_signs : Nat → Int32) (p1 : Int32) (p2 : Int32) (r0 : Int32) (h : fX0_signAt p1 p2 c_p0_signCounts c_p0_signs = r0) : xMi l yX0_signAt wsX0_signAt ({ frames := 1, cells := 0, slots := 0, locals := 21 } : Room) D cc [.ref a_p0, .int p1, .int p2] [(a_p0, .inr (0, [.ref a_p0_strokes, .ref a_p0_lengths, .ref a_p0_points, .ref a_p0_signCounts, .ref a_p0_signs])), (a_p0_signCounts, .inl (cc 0, 17, .inl c_p0_signCounts)), (a_p0_signs, .inl (cc 0, 680, .inl c_p0_signs))] r0 (fun _ => [(a_p0, .inr (0, [.ref a_p0_strokes, .ref a_p0_lengths, .ref a_p0_points, .ref a_p0_signCounts, .ref a_p0_signs])), (a_p0_signCounts, .inl (cc 0, 17, .inl c_p0_signCounts)), (a_p0_signs, .inl (cc 0, 680, .inl c_p0_signs))]) 0 0 := by
  intro sz
  refine xstart (bc := cX0_signAt) (maxL := 4) (ret := (some .int)) (by decide) rfl (Nat.le_of_ble_eq_true rfl) ?_
  intro p e s m args below meth c A hargs hsz hAe F hK hN hA hmn hP hD hS ls hl
  have hx := F.1.1
  have hb := F.1.2.1
  have hml := F.1.2.2.1
  have hown := F.1.2.2.2.1
  have hts := F.1.2.2.2.2
  have hl : lv_has ls 4 [(0, .ref a_p0), (1, .int p1), (2, .int p2)] := hl
  have k1 := hts (.fieldLink RX0 21 "RuledStrokes$Figures" "signCounts" "[I") (by decide +kernel)
  have k2 := hts (.initialized RX6) (by decide +kernel)
  have k3 := hts (.static yX6_cell) (by decide +kernel)
  have k4 := hts (.fieldLink RX0 24 "RuledStrokes$Figures" "signs" "[I") (by decide +kernel)
  unfold fX0_signAt at h
  refine lv_iload_n hx hb dX0_signAt_0 rfl (lv_at hl 2 rfl) ?_
  refine lv_if_lt (tgt := 20) hx hb dX0_signAt_1 (by decide) (fun (c1 : p2 < 0) => ?_) (fun (c1 : ¬ p2 < 0) => ?_)
  · replace h := ip c1 h
    refine lv_iconst (v := (0 : Int32)) hx hb dX0_signAt_20 (by decide) ?_
    refine lv_istore_n (x := (0 : Int32)) (lv' := [(3, .int (0 : Int32)), (0, .ref a_p0), (1, .int p1), (2, .int p2)]) hx hb dX0_signAt_21 rfl hl (by decide) rfl (fun ls hl => ?_)
    refine lv_iload_n hx hb dX0_signAt_22 rfl (lv_at hl 0 rfl) ?_
    refine lv_if_eq (tgt := 42) hx hb dX0_signAt_23 (by decide) (fun _ => ?_) (fun c2 => absurd (by decide) c2)
    refine lv_iconst (v := (-1 : Int32)) hx hb dX0_signAt_42 (by decide) ?_
    cases h
    exact xendi (ret := none) F hsz hAe hK hP hD hS (fun _ => 0) rfl rfl (Nat.zero_le _) (Nat.zero_le _) dX0_signAt_43
  · replace h := iq c1 h
    refine lv_iload_n hx hb dX0_signAt_4 rfl (lv_at hl 2 rfl) ?_
    refine lv_aload_n hx hb dX0_signAt_5 rfl (lv_at hl 0 rfl) ?_
    refine va_get (D := D) (ci := 0) (v := .ref a_p0_signCounts) (C := RX0) (T := TX0) (N := 5) hx hb hts inX0_signAt_X0 hown hK hP 0 rfl rfl 3 (by decide) k1 (fun _ h9 => h9) rfl dX0_signAt_6 ?_
    refine lv_iload_n hx hb dX0_signAt_9 rfl (lv_at hl 1 rfl) ?_
    refine xcalli (wr := [(a_p0, .inr (0, [.ref a_p0_strokes, .ref a_p0_lengths, .ref a_p0_points, .ref a_p0_signCounts, .ref a_p0_signs])), (a_p0_signs, .inl (cc 0, 680, .inl c_p0_signs))]) [1] [0, 2] (xrunSN (As := [.ref a_p0_signCounts, .int p1]) (rest := [.int p2]) F ((kX6_cellT l D cc (a_p0 := a_p0_signCounts) (n_p0 := 17) (c_p0 := c_p0_signCounts) (p1 := p1) (r0 := (xcell p1 17 c_p0_signCounts)) (h := rfl)) _) ⟨va_cnB 2 hts gX0_signAt_X6_cell_n39 rfl rfl rfl (hN.1 (.methodLinkNest RX0 39 yX6_cell RX6) (by simp [xNest])) k2 (by decide +kernel) ⟨Nat.le_of_ble_eq_true rfl, Nat.le_of_ble_eq_true rfl⟩, k3⟩ hK hN hP hD [1] rfl (by decide) rfl hl rfl (Nat.le_of_ble_eq_true rfl) dX0_signAt_10 ⟨Nat.zero_le _, Nat.zero_le _⟩) hP hD hS hA rfl rfl (by decide) (by decide) (fun _ H locs hP hD hS => ?_)
    have hP : va_P D vwCl [(a_p0, .inr (0, [.ref a_p0_strokes, .ref a_p0_lengths, .ref a_p0_points, .ref a_p0_signCounts, .ref a_p0_signs])), (a_p0_signs, .inl (cc 0, 680, .inl c_p0_signs)), (a_p0_signCounts, .inl (cc 0, 17, .inl c_p0_signCounts))] H := hP
    have hD : va_D A [(a_p0, .inr (0, [.ref a_p0_strokes, .ref a_p0_lengths, .ref a_p0_points, .ref a_p0_signCounts, .ref a_p0_signs])), (a_p0_signs, .inl (cc 0, 680, .inl c_p0_signs)), (a_p0_signCounts, .inl (cc 0, 17, .inl c_p0_signCounts))] := hD
    refine lv_icmp_ge (tgt := 20) hx hb dX0_signAt_13 (by decide) (fun (c4 : (xcell p1 17 c_p0_signCounts) ≤ p2) => ?_) (fun (c4 : ¬ (xcell p1 17 c_p0_signCounts) ≤ p2) => ?_)
    · replace h := ip c4 h
      refine lv_iconst (v := (0 : Int32)) hx hb dX0_signAt_20 (by decide) ?_
      refine lv_istore_n (x := (0 : Int32)) (lv' := [(3, .int (0 : Int32)), (0, .ref a_p0), (1, .int p1), (2, .int p2)]) hx hb dX0_signAt_21 rfl hl (by decide) rfl (fun ls hl => ?_)
      refine lv_iload_n hx hb dX0_signAt_22 rfl (lv_at hl 0 rfl) ?_
      refine lv_if_eq (tgt := 42) hx hb dX0_signAt_23 (by decide) (fun _ => ?_) (fun c5 => absurd (by decide) c5)
      refine lv_iconst (v := (-1 : Int32)) hx hb dX0_signAt_42 (by decide) ?_
      have hP := hP.sub (ws' := [(a_p0, .inr (0, [.ref a_p0_strokes, .ref a_p0_lengths, .ref a_p0_points, .ref a_p0_signCounts, .ref a_p0_signs])), (a_p0_signCounts, .inl (cc 0, 17, .inl c_p0_signCounts)), (a_p0_signs, .inl (cc 0, 680, .inl c_p0_signs))]) [0, 2, 1] rfl
      have hD := hD.sub (ws' := [(a_p0, .inr (0, [.ref a_p0_strokes, .ref a_p0_lengths, .ref a_p0_points, .ref a_p0_signCounts, .ref a_p0_signs])), (a_p0_signCounts, .inl (cc 0, 17, .inl c_p0_signCounts)), (a_p0_signs, .inl (cc 0, 680, .inl c_p0_signs))]) [0, 2, 1] (by decide) rfl
      cases h
      exact xendi (ret := none) F hsz hAe hK hP hD hS (fun _ => 0) rfl rfl (Nat.zero_le _) (Nat.zero_le _) dX0_signAt_43
    · replace h := iq c4 h
      refine lv_iconst (v := (1 : Int32)) hx hb dX0_signAt_16 (by decide) ?_
      refine lv_goto (tgt := 21) hx hb dX0_signAt_17 (by decide) ?_
      refine lv_istore_n (x := (1 : Int32)) (lv' := [(3, .int (1 : Int32)), (0, .ref a_p0), (1, .int p1), (2, .int p2)]) hx hb dX0_signAt_21 rfl hl (by decide) rfl (fun ls hl => ?_)
      refine lv_iload_n hx hb dX0_signAt_22 rfl (lv_at hl 0 rfl) ?_
      refine lv_if_eq (tgt := 42) hx hb dX0_signAt_23 (by decide) (fun c6 => absurd c6 (by decide)) (fun _ => ?_)
      refine lv_aload_n hx hb dX0_signAt_26 rfl (lv_at hl 1 rfl) ?_
      refine va_get (D := D) (ci := 0) (v := .ref a_p0_signs) (C := RX0) (T := TX0) (N := 5) hx hb hts inX0_signAt_X0 hown hK hP 0 rfl rfl 4 (by decide) k4 (fun _ h9 => h9) rfl dX0_signAt_27 ?_
      refine lv_iload_n hx hb dX0_signAt_30 rfl (lv_at hl 2 rfl) ?_
      refine lv_bipush (v := (40 : Int32)) hx hb dX0_signAt_31 (by decide) ?_
      refine lv_imul hx hb dX0_signAt_33 ?_
      refine lv_iload_n hx hb dX0_signAt_34 rfl (lv_at hl 3 rfl) ?_
      refine lv_iadd hx hb dX0_signAt_35 ?_
      refine xcalli (wr := [(a_p0, .inr (0, [.ref a_p0_strokes, .ref a_p0_lengths, .ref a_p0_points, .ref a_p0_signCounts, .ref a_p0_signs])), (a_p0_signCounts, .inl (cc 0, 17, .inl c_p0_signCounts))]) [1] [0, 2] (xrunSN (As := [.ref a_p0_signs, .int ((p1 * (40 : Int32)) + p2)]) (rest := []) F ((kX6_cellT l D cc (a_p0 := a_p0_signs) (n_p0 := 680) (c_p0 := c_p0_signs) (p1 := (p1 * (40 : Int32)) + p2) (r0 := (xcell ((p1 * (40 : Int32)) + p2) 680 c_p0_signs)) (h := rfl)) _) ⟨va_cnB 2 hts gX0_signAt_X6_cell_n39 rfl rfl rfl (hN.1 (.methodLinkNest RX0 39 yX6_cell RX6) (by simp [xNest])) k2 (by decide +kernel) ⟨Nat.le_of_ble_eq_true rfl, Nat.le_of_ble_eq_true rfl⟩, k3⟩ hK hN hP hD [1] rfl (by decide) rfl hl rfl (Nat.le_of_ble_eq_true rfl) dX0_signAt_36 ⟨Nat.zero_le _, Nat.zero_le _⟩) hP hD hS hA rfl rfl (by decide) (by decide) (fun _ H locs hP hD hS => ?_)
      have hP : va_P D vwCl [(a_p0, .inr (0, [.ref a_p0_strokes, .ref a_p0_lengths, .ref a_p0_points, .ref a_p0_signCounts, .ref a_p0_signs])), (a_p0_signCounts, .inl (cc 0, 17, .inl c_p0_signCounts)), (a_p0_signs, .inl (cc 0, 680, .inl c_p0_signs))] H := hP
      have hD : va_D A [(a_p0, .inr (0, [.ref a_p0_strokes, .ref a_p0_lengths, .ref a_p0_points, .ref a_p0_signCounts, .ref a_p0_signs])), (a_p0_signCounts, .inl (cc 0, 17, .inl c_p0_signCounts)), (a_p0_signs, .inl (cc 0, 680, .inl c_p0_signs))] := hD
      refine lv_goto (tgt := 43) hx hb dX0_signAt_39 (by decide) ?_
      cases h
      exact xendi (ret := none) F hsz hAe hK hP hD hS (fun _ => 0) rfl rfl (Nat.zero_le _) (Nat.zero_le _) dX0_signAt_43
theorem inX0_pointAt_X0 : ∀ w ∈ wsX00, w ∈ wsX0_pointAt := by decide +kernel
set_option maxHeartbeats 4000000 in
set_option maxRecDepth 100000 in
theorem kX0_pointAt (l : Launch) (D : va_G) (cc : Nat → ClassId) (a_p0 : Nat) (a_p0_strokes : Nat) (a_p0_lengths : Nat) (a_p0_points : Nat) (a_p0_signCounts : Nat) (a_p0_signs : Nat) (c_p0_points : Nat → Int32) (p1 : Int32) (p2 : Int32) (p3 : Int32) (r0 : Int32) (h : fX0_pointAt p1 p2 p3 c_p0_points = r0) : xMi l yX0_pointAt wsX0_pointAt ({ frames := 1, cells := 0, slots := 0, locals := 21 } : Room) D cc [.ref a_p0, .int p1, .int p2, .int p3] [(a_p0, .inr (0, [.ref a_p0_strokes, .ref a_p0_lengths, .ref a_p0_points, .ref a_p0_signCounts, .ref a_p0_signs])), (a_p0_points, .inl (cc 0, 612, .inl c_p0_points))] r0 (fun _ => [(a_p0, .inr (0, [.ref a_p0_strokes, .ref a_p0_lengths, .ref a_p0_points, .ref a_p0_signCounts, .ref a_p0_signs])), (a_p0_points, .inl (cc 0, 612, .inl c_p0_points))]) 0 0 := by
  intro sz
  refine xstart (bc := cX0_pointAt) (maxL := 4) (ret := (some .int)) (by decide) rfl (Nat.le_of_ble_eq_true rfl) ?_
  intro p e s m args below meth c A hargs hsz hAe F hK hN hA hmn hP hD hS ls hl
  have hx := F.1.1
  have hb := F.1.2.1
  have hml := F.1.2.2.1
  have hown := F.1.2.2.2.1
  have hts := F.1.2.2.2.2
  have hl : lv_has ls 4 [(0, .ref a_p0), (1, .int p1), (2, .int p2), (3, .int p3)] := hl
  have k1 := hts (.fieldLink RX0 18 "RuledStrokes$Figures" "points" "[I") (by decide +kernel)
  have k2 := hts (.initialized RX6) (by decide +kernel)
  have k3 := hts (.static yX6_cell) (by decide +kernel)
  unfold fX0_pointAt at h
  refine lv_aload_n hx hb dX0_pointAt_0 rfl (lv_at hl 0 rfl) ?_
  refine va_get (D := D) (ci := 0) (v := .ref a_p0_points) (C := RX0) (T := TX0) (N := 5) hx hb hts inX0_pointAt_X0 hown hK hP 0 rfl rfl 2 (by decide) k1 (fun _ h9 => h9) rfl dX0_pointAt_1 ?_
  refine lv_iload_n hx hb dX0_pointAt_4 rfl (lv_at hl 1 rfl) ?_
  refine lv_iconst (v := (3 : Int32)) hx hb dX0_pointAt_5 (by decide) ?_
  refine lv_imul hx hb dX0_pointAt_6 ?_
  refine lv_iload_n hx hb dX0_pointAt_7 rfl (lv_at hl 2 rfl) ?_
  refine lv_iadd hx hb dX0_pointAt_8 ?_
  refine lv_bipush (v := (12 : Int32)) hx hb dX0_pointAt_9 (by decide) ?_
  refine lv_imul hx hb dX0_pointAt_11 ?_
  refine lv_iload_n hx hb dX0_pointAt_12 rfl (lv_at hl 3 rfl) ?_
  refine lv_iadd hx hb dX0_pointAt_13 ?_
  refine xcalli (wr := [(a_p0, .inr (0, [.ref a_p0_strokes, .ref a_p0_lengths, .ref a_p0_points, .ref a_p0_signCounts, .ref a_p0_signs]))]) [1] [0] (xrunSN (As := [.ref a_p0_points, .int ((((p1 * (3 : Int32)) + p2) * (12 : Int32)) + p3)]) (rest := []) F ((kX6_cellT l D cc (a_p0 := a_p0_points) (n_p0 := 612) (c_p0 := c_p0_points) (p1 := (((p1 * (3 : Int32)) + p2) * (12 : Int32)) + p3) (r0 := (xcell ((((p1 * (3 : Int32)) + p2) * (12 : Int32)) + p3) 612 c_p0_points)) (h := rfl)) _) ⟨va_cnB 2 hts gX0_pointAt_X6_cell_n39 rfl rfl rfl (hN.1 (.methodLinkNest RX0 39 yX6_cell RX6) (by simp [xNest])) k2 (by decide +kernel) ⟨Nat.le_of_ble_eq_true rfl, Nat.le_of_ble_eq_true rfl⟩, k3⟩ hK hN hP hD [1] rfl (by decide) rfl hl rfl (Nat.le_of_ble_eq_true rfl) dX0_pointAt_14 ⟨Nat.zero_le _, Nat.zero_le _⟩) hP hD hS hA rfl rfl (by decide) (by decide) (fun _ H locs hP hD hS => ?_)
  have hP : va_P D vwCl [(a_p0, .inr (0, [.ref a_p0_strokes, .ref a_p0_lengths, .ref a_p0_points, .ref a_p0_signCounts, .ref a_p0_signs])), (a_p0_points, .inl (cc 0, 612, .inl c_p0_points))] H := hP
  have hD : va_D A [(a_p0, .inr (0, [.ref a_p0_strokes, .ref a_p0_lengths, .ref a_p0_points, .ref a_p0_signCounts, .ref a_p0_signs])), (a_p0_points, .inl (cc 0, 612, .inl c_p0_points))] := hD
  cases h
  exact xendi (ret := none) F hsz hAe hK hP hD hS (fun _ => 0) rfl rfl (Nat.zero_le _) (Nat.zero_le _) dX0_pointAt_17
theorem inX0_putPoint_X0 : ∀ w ∈ wsX00, w ∈ wsX0_putPoint := by decide +kernel
set_option maxHeartbeats 4000000 in
set_option maxRecDepth 100000 in
theorem kX0_putPoint (l : Launch) (D : va_G) (cc : Nat → ClassId) (a_p0 : Nat) (a_p0_strokes : Nat) (a_p0_lengths : Nat) (a_p0_points : Nat) (a_p0_signCounts : Nat) (a_p0_signs : Nat) (c_p0_points : Nat → Int32) (p1 : Int32) (p2 : Int32) (p3 : Int32) (p4 : Int32) (c_p0_points_o : Nat → Int32) (h : fX0_putPoint p1 p2 p3 p4 c_p0_points = c_p0_points_o) : xMv l yX0_putPoint wsX0_putPoint ({ frames := 1, cells := 0, slots := 0, locals := 22 } : Room) D cc [.ref a_p0, .int p1, .int p2, .int p3, .int p4] [(a_p0, .inr (0, [.ref a_p0_strokes, .ref a_p0_lengths, .ref a_p0_points, .ref a_p0_signCounts, .ref a_p0_signs])), (a_p0_points, .inl (cc 0, 612, .inl c_p0_points))] (fun _ => [(a_p0, .inr (0, [.ref a_p0_strokes, .ref a_p0_lengths, .ref a_p0_points, .ref a_p0_signCounts, .ref a_p0_signs])), (a_p0_points, .inl (cc 0, 612, .inl c_p0_points_o))]) 0 0 := by
  intro sz
  refine xstart (bc := cX0_putPoint) (maxL := 5) (ret := none) (by decide) rfl (Nat.le_of_ble_eq_true rfl) ?_
  intro p e s m args below meth c A hargs hsz hAe F hK hN hA hmn hP hD hS ls hl
  have hx := F.1.1
  have hb := F.1.2.1
  have hml := F.1.2.2.1
  have hown := F.1.2.2.2.1
  have hts := F.1.2.2.2.2
  have hl : lv_has ls 5 [(0, .ref a_p0), (1, .int p1), (2, .int p2), (3, .int p3), (4, .int p4)] := hl
  have k1 := hts (.fieldLink RX0 18 "RuledStrokes$Figures" "points" "[I") (by decide +kernel)
  have k2 := hts (.initialized RX6) (by decide +kernel)
  have k3 := hts (.static yX6_putCell) (by decide +kernel)
  unfold fX0_putPoint at h
  refine lv_aload_n hx hb dX0_putPoint_0 rfl (lv_at hl 0 rfl) ?_
  refine va_get (D := D) (ci := 0) (v := .ref a_p0_points) (C := RX0) (T := TX0) (N := 5) hx hb hts inX0_putPoint_X0 hown hK hP 0 rfl rfl 2 (by decide) k1 (fun _ h9 => h9) rfl dX0_putPoint_1 ?_
  refine lv_iload_n hx hb dX0_putPoint_4 rfl (lv_at hl 1 rfl) ?_
  refine lv_iconst (v := (3 : Int32)) hx hb dX0_putPoint_5 (by decide) ?_
  refine lv_imul hx hb dX0_putPoint_6 ?_
  refine lv_iload_n hx hb dX0_putPoint_7 rfl (lv_at hl 2 rfl) ?_
  refine lv_iadd hx hb dX0_putPoint_8 ?_
  refine lv_bipush (v := (12 : Int32)) hx hb dX0_putPoint_9 (by decide) ?_
  refine lv_imul hx hb dX0_putPoint_11 ?_
  refine lv_iload_n hx hb dX0_putPoint_12 rfl (lv_at hl 3 rfl) ?_
  refine lv_iadd hx hb dX0_putPoint_13 ?_
  refine lv_iload hx hb dX0_putPoint_14 (lv_at hl 4 rfl) ?_
  refine xcallv (wr := [(a_p0, .inr (0, [.ref a_p0_strokes, .ref a_p0_lengths, .ref a_p0_points, .ref a_p0_signCounts, .ref a_p0_signs]))]) [1] [0] (xrunSN (As := [.ref a_p0_points, .int ((((p1 * (3 : Int32)) + p2) * (12 : Int32)) + p3), .int p4]) (rest := []) F ((kX6_putCellT l D cc (a_p0 := a_p0_points) (n_p0 := 612) (c_p0 := c_p0_points) (p1 := (((p1 * (3 : Int32)) + p2) * (12 : Int32)) + p3) (p2 := p4) (c_p0_o := (xput ((((p1 * (3 : Int32)) + p2) * (12 : Int32)) + p3) p4 612 c_p0_points)) (h := rfl)) _) ⟨va_cnB 3 hts gX0_putPoint_X6_putCell_n35 rfl rfl rfl (hN.1 (.methodLinkNest RX0 35 yX6_putCell RX6) (by simp [xNest])) k2 (by decide +kernel) ⟨Nat.le_of_ble_eq_true rfl, Nat.le_of_ble_eq_true rfl⟩, k3⟩ hK hN hP hD [1] rfl (by decide) rfl hl rfl (Nat.le_of_ble_eq_true rfl) dX0_putPoint_16 ⟨Nat.zero_le _, Nat.zero_le _⟩) hP hD hS hA rfl rfl (by decide) (by decide) (fun _ H locs hP hD hS => ?_)
  have hP : va_P D vwCl [(a_p0, .inr (0, [.ref a_p0_strokes, .ref a_p0_lengths, .ref a_p0_points, .ref a_p0_signCounts, .ref a_p0_signs])), (a_p0_points, .inl (cc 0, 612, .inl (xput ((((p1 * (3 : Int32)) + p2) * (12 : Int32)) + p3) p4 612 c_p0_points)))] H := hP
  have hD : va_D A [(a_p0, .inr (0, [.ref a_p0_strokes, .ref a_p0_lengths, .ref a_p0_points, .ref a_p0_signCounts, .ref a_p0_signs])), (a_p0_points, .inl (cc 0, 612, .inl (xput ((((p1 * (3 : Int32)) + p2) * (12 : Int32)) + p3) p4 612 c_p0_points)))] := hD
  cases h
  exact xendv F hsz hAe hK hP hD hS (fun _ => 0) rfl (Nat.zero_le _) (Nat.zero_le _) dX0_putPoint_19
theorem inX0_writeSign_X0 : ∀ w ∈ wsX00, w ∈ wsX0_writeSign := by decide +kernel
set_option maxHeartbeats 4000000 in
set_option maxRecDepth 100000 in
theorem kX0_writeSign (l : Launch) (D : va_G) (cc : Nat → ClassId) (a_p0 : Nat) (a_p0_strokes : Nat) (a_p0_lengths : Nat) (a_p0_points : Nat) (a_p0_signCounts : Nat) (a_p0_signs : Nat) (c_p0_signCounts : Nat → Int32) (c_p0_signs : Nat → Int32) (p1 : Int32) (p2 : Int32) (c_p0_signCounts_o : Nat → Int32) (c_p0_signs_o : Nat → Int32) (h : fX0_writeSign p1 p2 c_p0_signCounts c_p0_signs = (c_p0_signCounts_o, c_p0_signs_o)) : xMv l yX0_writeSign wsX0_writeSign ({ frames := 2, cells := 0, slots := 0, locals := 42 } : Room) D cc [.ref a_p0, .int p1, .int p2] [(a_p0, .inr (0, [.ref a_p0_strokes, .ref a_p0_lengths, .ref a_p0_points, .ref a_p0_signCounts, .ref a_p0_signs])), (a_p0_signCounts, .inl (cc 0, 17, .inl c_p0_signCounts)), (a_p0_signs, .inl (cc 0, 680, .inl c_p0_signs))] (fun _ => [(a_p0, .inr (0, [.ref a_p0_strokes, .ref a_p0_lengths, .ref a_p0_points, .ref a_p0_signCounts, .ref a_p0_signs])), (a_p0_signCounts, .inl (cc 0, 17, .inl c_p0_signCounts_o)), (a_p0_signs, .inl (cc 0, 680, .inl c_p0_signs_o))]) 0 0 := by
  intro sz
  refine xstart (bc := cX0_writeSign) (maxL := 4) (ret := none) (by decide) rfl (Nat.le_of_ble_eq_true rfl) ?_
  intro p e s m args below meth c A hargs hsz hAe F hK hN hA hmn hP hD hS ls hl
  have hx := F.1.1
  have hb := F.1.2.1
  have hml := F.1.2.2.1
  have hown := F.1.2.2.2.1
  have hts := F.1.2.2.2.2
  have hl : lv_has ls 4 [(0, .ref a_p0), (1, .int p1), (2, .int p2)] := hl
  have k1 := hts (.fieldLink RX0 24 "RuledStrokes$Figures" "signs" "[I") (by decide +kernel)
  have k2 := hts (.initialized RX6) (by decide +kernel)
  have k3 := hts (.static yX6_putCell) (by decide +kernel)
  have k4 := hts (.fieldLink RX0 21 "RuledStrokes$Figures" "signCounts" "[I") (by decide +kernel)
  unfold fX0_writeSign at h
  refine lv_aload_n hx hb dX0_writeSign_0 rfl (lv_at hl 0 rfl) ?_
  refine lv_iload_n hx hb dX0_writeSign_1 rfl (lv_at hl 1 rfl) ?_
  refine xcalli (wr := [(a_p0_signs, .inl (cc 0, 680, .inl c_p0_signs))]) [0, 1] [2] (xrunV (As := [.int p1]) (rest := []) F ((kX0_signsOf l D cc (a_p0 := a_p0) (a_p0_signCounts := a_p0_signCounts) (a_p0_strokes := a_p0_strokes) (a_p0_lengths := a_p0_lengths) (a_p0_points := a_p0_points) (a_p0_signs := a_p0_signs) (c_p0_signCounts := c_p0_signCounts) (p1 := p1) (r0 := (fX0_signsOf p1 c_p0_signCounts)) (h := rfl)) _) (cwV 1 hts gX0_writeSign_X0_signsOf rfl rfl rfl (by decide +kernel) ⟨Nat.le_of_ble_eq_true rfl, Nat.le_of_ble_eq_true rfl⟩) hK hN hP hD [0, 1] rfl (by decide) (q0 := 0) rfl rfl rfl rfl hl rfl (Nat.le_of_ble_eq_true rfl) dX0_writeSign_2 ⟨Nat.zero_le _, Nat.zero_le _⟩) hP hD hS hA rfl rfl (by decide) (by decide) (fun _ H locs hP hD hS => ?_)
  have hP : va_P D vwCl [(a_p0_signs, .inl (cc 0, 680, .inl c_p0_signs)), (a_p0, .inr (0, [.ref a_p0_strokes, .ref a_p0_lengths, .ref a_p0_points, .ref a_p0_signCounts, .ref a_p0_signs])), (a_p0_signCounts, .inl (cc 0, 17, .inl c_p0_signCounts))] H := hP
  have hD : va_D A [(a_p0_signs, .inl (cc 0, 680, .inl c_p0_signs)), (a_p0, .inr (0, [.ref a_p0_strokes, .ref a_p0_lengths, .ref a_p0_points, .ref a_p0_signCounts, .ref a_p0_signs])), (a_p0_signCounts, .inl (cc 0, 17, .inl c_p0_signCounts))] := hD
  refine lv_istore_n (x := (fX0_signsOf p1 c_p0_signCounts)) (lv' := [(3, .int (fX0_signsOf p1 c_p0_signCounts)), (0, .ref a_p0), (1, .int p1), (2, .int p2)]) hx hb dX0_writeSign_5 rfl hl (by decide) rfl (fun ls hl => ?_)
  refine lv_iload_n hx hb dX0_writeSign_6 rfl (lv_at hl 0 rfl) ?_
  refine lv_bipush (v := (40 : Int32)) hx hb dX0_writeSign_7 (by decide) ?_
  refine lv_icmp_ge (tgt := 37) hx hb dX0_writeSign_9 (by decide) (fun (c2 : (40 : Int32) ≤ (fX0_signsOf p1 c_p0_signCounts)) => ?_) (fun (c2 : ¬ (40 : Int32) ≤ (fX0_signsOf p1 c_p0_signCounts)) => ?_)
  · replace h := ip c2 h
    have hP := hP.sub (ws' := [(a_p0, .inr (0, [.ref a_p0_strokes, .ref a_p0_lengths, .ref a_p0_points, .ref a_p0_signCounts, .ref a_p0_signs])), (a_p0_signCounts, .inl (cc 0, 17, .inl c_p0_signCounts)), (a_p0_signs, .inl (cc 0, 680, .inl c_p0_signs))]) [1, 2, 0] rfl
    have hD := hD.sub (ws' := [(a_p0, .inr (0, [.ref a_p0_strokes, .ref a_p0_lengths, .ref a_p0_points, .ref a_p0_signCounts, .ref a_p0_signs])), (a_p0_signCounts, .inl (cc 0, 17, .inl c_p0_signCounts)), (a_p0_signs, .inl (cc 0, 680, .inl c_p0_signs))]) [1, 2, 0] (by decide) rfl
    cases h
    exact xendv F hsz hAe hK hP hD hS (fun _ => 0) rfl (Nat.zero_le _) (Nat.zero_le _) dX0_writeSign_37
  · replace h := iq c2 h
    refine lv_aload_n hx hb dX0_writeSign_12 rfl (lv_at hl 1 rfl) ?_
    refine va_get (D := D) (ci := 0) (v := .ref a_p0_signs) (C := RX0) (T := TX0) (N := 5) hx hb hts inX0_writeSign_X0 hown hK hP 1 rfl rfl 4 (by decide) k1 (fun _ h9 => h9) rfl dX0_writeSign_13 ?_
    refine lv_iload_n hx hb dX0_writeSign_16 rfl (lv_at hl 2 rfl) ?_
    refine lv_bipush (v := (40 : Int32)) hx hb dX0_writeSign_17 (by decide) ?_
    refine lv_imul hx hb dX0_writeSign_19 ?_
    refine lv_iload_n hx hb dX0_writeSign_20 rfl (lv_at hl 0 rfl) ?_
    refine lv_iadd hx hb dX0_writeSign_21 ?_
    refine lv_iload_n hx hb dX0_writeSign_22 rfl (lv_at hl 3 rfl) ?_
    refine xcallv (wr := [(a_p0, .inr (0, [.ref a_p0_strokes, .ref a_p0_lengths, .ref a_p0_points, .ref a_p0_signCounts, .ref a_p0_signs])), (a_p0_signCounts, .inl (cc 0, 17, .inl c_p0_signCounts))]) [0] [1, 2] (xrunSN (As := [.ref a_p0_signs, .int ((p1 * (40 : Int32)) + (fX0_signsOf p1 c_p0_signCounts)), .int p2]) (rest := []) F ((kX6_putCellT l D cc (a_p0 := a_p0_signs) (n_p0 := 680) (c_p0 := c_p0_signs) (p1 := (p1 * (40 : Int32)) + (fX0_signsOf p1 c_p0_signCounts)) (p2 := p2) (c_p0_o := (xput ((p1 * (40 : Int32)) + (fX0_signsOf p1 c_p0_signCounts)) p2 680 c_p0_signs)) (h := rfl)) _) ⟨va_cnB 3 hts gX0_writeSign_X6_putCell_n35 rfl rfl rfl (hN.1 (.methodLinkNest RX0 35 yX6_putCell RX6) (by simp [xNest])) k2 (by decide +kernel) ⟨Nat.le_of_ble_eq_true rfl, Nat.le_of_ble_eq_true rfl⟩, k3⟩ hK hN hP hD [0] rfl (by decide) rfl hl rfl (Nat.le_of_ble_eq_true rfl) dX0_writeSign_23 ⟨Nat.zero_le _, Nat.zero_le _⟩) hP hD hS hA rfl rfl (by decide) (by decide) (fun _ H locs hP hD hS => ?_)
    have hP : va_P D vwCl [(a_p0, .inr (0, [.ref a_p0_strokes, .ref a_p0_lengths, .ref a_p0_points, .ref a_p0_signCounts, .ref a_p0_signs])), (a_p0_signCounts, .inl (cc 0, 17, .inl c_p0_signCounts)), (a_p0_signs, .inl (cc 0, 680, .inl (xput ((p1 * (40 : Int32)) + (fX0_signsOf p1 c_p0_signCounts)) p2 680 c_p0_signs)))] H := hP
    have hD : va_D A [(a_p0, .inr (0, [.ref a_p0_strokes, .ref a_p0_lengths, .ref a_p0_points, .ref a_p0_signCounts, .ref a_p0_signs])), (a_p0_signCounts, .inl (cc 0, 17, .inl c_p0_signCounts)), (a_p0_signs, .inl (cc 0, 680, .inl (xput ((p1 * (40 : Int32)) + (fX0_signsOf p1 c_p0_signCounts)) p2 680 c_p0_signs)))] := hD
    refine lv_aload_n hx hb dX0_writeSign_26 rfl (lv_at hl 1 rfl) ?_
    refine va_get (D := D) (ci := 0) (v := .ref a_p0_signCounts) (C := RX0) (T := TX0) (N := 5) hx hb hts inX0_writeSign_X0 hown hK hP 0 rfl rfl 3 (by decide) k4 (fun _ h9 => h9) rfl dX0_writeSign_27 ?_
    refine lv_iload_n hx hb dX0_writeSign_30 rfl (lv_at hl 2 rfl) ?_
    refine lv_iload_n hx hb dX0_writeSign_31 rfl (lv_at hl 0 rfl) ?_
    refine lv_iconst (v := (1 : Int32)) hx hb dX0_writeSign_32 (by decide) ?_
    refine lv_iadd hx hb dX0_writeSign_33 ?_
    refine xcallv (wr := [(a_p0, .inr (0, [.ref a_p0_strokes, .ref a_p0_lengths, .ref a_p0_points, .ref a_p0_signCounts, .ref a_p0_signs])), (a_p0_signs, .inl (cc 0, 680, .inl (xput ((p1 * (40 : Int32)) + (fX0_signsOf p1 c_p0_signCounts)) p2 680 c_p0_signs)))]) [1] [0, 2] (xrunSN (As := [.ref a_p0_signCounts, .int p1, .int ((fX0_signsOf p1 c_p0_signCounts) + (1 : Int32))]) (rest := []) F ((kX6_putCellT l D cc (a_p0 := a_p0_signCounts) (n_p0 := 17) (c_p0 := c_p0_signCounts) (p1 := p1) (p2 := (fX0_signsOf p1 c_p0_signCounts) + (1 : Int32)) (c_p0_o := (xput p1 ((fX0_signsOf p1 c_p0_signCounts) + (1 : Int32)) 17 c_p0_signCounts)) (h := rfl)) _) ⟨va_cnB 3 hts gX0_writeSign_X6_putCell_n35 rfl rfl rfl (hN.1 (.methodLinkNest RX0 35 yX6_putCell RX6) (by simp [xNest])) k2 (by decide +kernel) ⟨Nat.le_of_ble_eq_true rfl, Nat.le_of_ble_eq_true rfl⟩, k3⟩ hK hN hP hD [1] rfl (by decide) rfl hl rfl (Nat.le_of_ble_eq_true rfl) dX0_writeSign_34 ⟨Nat.zero_le _, Nat.zero_le _⟩) hP hD hS hA rfl rfl (by decide) (by decide) (fun _ H locs hP hD hS => ?_)
    have hP : va_P D vwCl [(a_p0, .inr (0, [.ref a_p0_strokes, .ref a_p0_lengths, .ref a_p0_points, .ref a_p0_signCounts, .ref a_p0_signs])), (a_p0_signs, .inl (cc 0, 680, .inl (xput ((p1 * (40 : Int32)) + (fX0_signsOf p1 c_p0_signCounts)) p2 680 c_p0_signs))), (a_p0_signCounts, .inl (cc 0, 17, .inl (xput p1 ((fX0_signsOf p1 c_p0_signCounts) + (1 : Int32)) 17 c_p0_signCounts)))] H := hP
    have hD : va_D A [(a_p0, .inr (0, [.ref a_p0_strokes, .ref a_p0_lengths, .ref a_p0_points, .ref a_p0_signCounts, .ref a_p0_signs])), (a_p0_signs, .inl (cc 0, 680, .inl (xput ((p1 * (40 : Int32)) + (fX0_signsOf p1 c_p0_signCounts)) p2 680 c_p0_signs))), (a_p0_signCounts, .inl (cc 0, 17, .inl (xput p1 ((fX0_signsOf p1 c_p0_signCounts) + (1 : Int32)) 17 c_p0_signCounts)))] := hD
    have hP := hP.sub (ws' := [(a_p0, .inr (0, [.ref a_p0_strokes, .ref a_p0_lengths, .ref a_p0_points, .ref a_p0_signCounts, .ref a_p0_signs])), (a_p0_signCounts, .inl (cc 0, 17, .inl (xput p1 ((fX0_signsOf p1 c_p0_signCounts) + (1 : Int32)) 17 c_p0_signCounts))), (a_p0_signs, .inl (cc 0, 680, .inl (xput ((p1 * (40 : Int32)) + (fX0_signsOf p1 c_p0_signCounts)) p2 680 c_p0_signs)))]) [0, 2, 1] rfl
    have hD := hD.sub (ws' := [(a_p0, .inr (0, [.ref a_p0_strokes, .ref a_p0_lengths, .ref a_p0_points, .ref a_p0_signCounts, .ref a_p0_signs])), (a_p0_signCounts, .inl (cc 0, 17, .inl (xput p1 ((fX0_signsOf p1 c_p0_signCounts) + (1 : Int32)) 17 c_p0_signCounts))), (a_p0_signs, .inl (cc 0, 680, .inl (xput ((p1 * (40 : Int32)) + (fX0_signsOf p1 c_p0_signCounts)) p2 680 c_p0_signs)))]) [0, 2, 1] (by decide) rfl
    cases h
    exact xendv F hsz hAe hK hP hD hS (fun _ => 0) rfl (Nat.zero_le _) (Nat.zero_le _) dX0_writeSign_37
set_option maxHeartbeats 4000000 in
set_option maxRecDepth 100000 in
theorem kX0_linesBetween (l : Launch) (D : va_G) (cc : Nat → ClassId) (p0 : Int32) (p1 : Int32) (p2 : Int32) (r0 : Int32) (h : fX0_linesBetween p0 p1 p2 = some r0) : xMi l yX0_linesBetween wsX0_linesBetween ({ frames := 1, cells := 0, slots := 0, locals := 21 } : Room) D cc [.int p0, .int p1, .int p2] [] r0 (fun _ => []) 0 0 := by
  intro sz
  refine xstart (bc := cX0_linesBetween) (maxL := 3) (ret := (some .int)) (by decide) rfl (Nat.le_of_ble_eq_true rfl) ?_
  intro p e s m args below meth c A hargs hsz hAe F hK hN hA hmn hP hD hS ls hl
  have hx := F.1.1
  have hb := F.1.2.1
  have hml := F.1.2.2.1
  have hown := F.1.2.2.2.1
  have hts := F.1.2.2.2.2
  have hl : lv_has ls 3 [(0, .int p0), (1, .int p1), (2, .int p2)] := hl
  have k1 := hts (.methodLink RX0 77 Lib.Math.abs.name) (by decide +kernel)
  have k2 := hts (.static Lib.Math.abs.name) (by decide +kernel)
  have k3 := hts (.initialized "java/lang/Math") (by decide +kernel)
  have k4 := hts (.code Lib.Math.abs.name Lib.Math.abs.code 1 (some .int)) (by decide +kernel)
  unfold fX0_linesBetween at h
  refine lv_iload_n hx hb dX0_linesBetween_0 rfl (lv_at hl 2 rfl) ?_
  refine lv_if_le (tgt := 17) hx hb dX0_linesBetween_1 (by decide) (fun (c1 : p2 ≤ 0) => ?_) (fun (c1 : ¬ p2 ≤ 0) => ?_)
  · replace h := ip c1 h
    refine lv_iconst (v := (0 : Int32)) hx hb dX0_linesBetween_17 (by decide) ?_
    cases h
    exact xendi (ret := none) F hsz hAe hK hP hD hS (fun _ => 0) rfl rfl (Nat.zero_le _) (Nat.zero_le _) dX0_linesBetween_18
  · replace h := iq c1 h
    refine lv_iload_n hx hb dX0_linesBetween_4 rfl (lv_at hl 1 rfl) ?_
    refine lv_iload_n hx hb dX0_linesBetween_5 rfl (lv_at hl 2 rfl) ?_
    obtain ⟨g2, h⟩ := gd h
    refine lv_idiv hx hb dX0_linesBetween_6 g2 ?_
    refine lv_iload_n hx hb dX0_linesBetween_7 rfl (lv_at hl 0 rfl) ?_
    refine lv_iload_n hx hb dX0_linesBetween_8 rfl (lv_at hl 2 rfl) ?_
    obtain ⟨g3, h⟩ := gd h
    refine lv_idiv hx hb dX0_linesBetween_9 g3 ?_
    refine lv_isub hx hb dX0_linesBetween_10 ?_
    refine va_mabs hx hb (hml.trans hl.1.symm) hown k1 k2 k3 k4 (Nat.le_of_ble_eq_true rfl) (Nat.le_of_ble_eq_true rfl) (Nat.zero_le _) (Nat.zero_le _) dX0_linesBetween_11 ?_
    refine W.eq (g2 := F0 m 14 ls [.int (xabs ((p1 / p2) - (p0 / p2)))]) rfl ?_
    refine lv_goto (tgt := 18) hx hb dX0_linesBetween_14 (by decide) ?_
    cases h
    exact xendi (ret := none) F hsz hAe hK hP hD hS (fun _ => 0) rfl rfl (Nat.zero_le _) (Nat.zero_le _) dX0_linesBetween_18
set_option maxHeartbeats 4000000 in
set_option maxRecDepth 100000 in
theorem kX0_crossings (l : Launch) (D : va_G) (cc : Nat → ClassId) (p0 : Int32) (p1 : Int32) (p2 : Int32) (r0 : Int32) (h : fX0_crossings p0 p1 p2 = some r0) : xMi l yX0_crossings wsX0_crossings ({ frames := 2, cells := 0, slots := 0, locals := 43 } : Room) D cc [.int p0, .int p1, .int p2] [] r0 (fun _ => []) 0 0 := by
  intro sz
  refine xstart (bc := cX0_crossings) (maxL := 3) (ret := (some .int)) (by decide) rfl (Nat.le_of_ble_eq_true rfl) ?_
  intro p e s m args below meth c A hargs hsz hAe F hK hN hA hmn hP hD hS ls hl
  have hx := F.1.1
  have hb := F.1.2.1
  have hml := F.1.2.2.1
  have hown := F.1.2.2.2.1
  have hts := F.1.2.2.2.2
  have hl : lv_has ls 3 [(0, .int p0), (1, .int p1), (2, .int p2)] := hl
  unfold fX0_crossings at h
  refine lv_iload_n hx hb dX0_crossings_0 rfl (lv_at hl 0 rfl) ?_
  refine lv_bipush (v := (61 : Int32)) hx hb dX0_crossings_1 (by decide) ?_
  refine lv_idiv hx hb dX0_crossings_3 (by decide) ?_
  refine lv_iload_n hx hb dX0_crossings_4 rfl (lv_at hl 1 rfl) ?_
  refine lv_bipush (v := (61 : Int32)) hx hb dX0_crossings_5 (by decide) ?_
  refine lv_idiv hx hb dX0_crossings_7 (by decide) ?_
  refine lv_iload_n hx hb dX0_crossings_8 rfl (lv_at hl 2 rfl) ?_
  obtain ⟨r_1, hc1, h⟩ := b1_some h
  refine xcalli (wr := []) [] [] (xrunS (As := [.int (p0 / (61 : Int32)), .int (p1 / (61 : Int32)), .int p2]) (rest := []) F ((kX0_linesBetween l D cc (p0 := p0 / (61 : Int32)) (p1 := p1 / (61 : Int32)) (p2 := p2) (r0 := r_1) (h := hc1)) _) (cwS 3 hts gX0_crossings_X0_linesBetween rfl rfl rfl (by decide +kernel) ⟨Nat.le_of_ble_eq_true rfl, Nat.le_of_ble_eq_true rfl⟩) hK hN hP hD [] rfl (by decide) rfl hl rfl (Nat.le_of_ble_eq_true rfl) dX0_crossings_9 ⟨Nat.zero_le _, Nat.zero_le _⟩) hP hD hS hA rfl rfl (by decide) (by decide) (fun _ H locs hP hD hS => ?_)
  have hP : va_P D vwCl [] H := hP
  have hD : va_D A [] := hD
  refine lv_iload_n hx hb dX0_crossings_12 rfl (lv_at hl 0 rfl) ?_
  refine lv_bipush (v := (61 : Int32)) hx hb dX0_crossings_13 (by decide) ?_
  refine lv_irem hx hb dX0_crossings_15 (by decide) ?_
  refine lv_iload_n hx hb dX0_crossings_16 rfl (lv_at hl 1 rfl) ?_
  refine lv_bipush (v := (61 : Int32)) hx hb dX0_crossings_17 (by decide) ?_
  refine lv_irem hx hb dX0_crossings_19 (by decide) ?_
  refine lv_iload_n hx hb dX0_crossings_20 rfl (lv_at hl 2 rfl) ?_
  obtain ⟨r_3, hc3, h⟩ := b1_some h
  refine xcalli (wr := []) [] [] (xrunS (As := [.int (xrem p0 (61 : Int32)), .int (xrem p1 (61 : Int32)), .int p2]) (rest := [.int r_1]) F ((kX0_linesBetween l D cc (p0 := xrem p0 (61 : Int32)) (p1 := xrem p1 (61 : Int32)) (p2 := p2) (r0 := r_3) (h := hc3)) _) (cwS 3 hts gX0_crossings_X0_linesBetween rfl rfl rfl (by decide +kernel) ⟨Nat.le_of_ble_eq_true rfl, Nat.le_of_ble_eq_true rfl⟩) hK hN hP hD [] rfl (by decide) rfl hl rfl (Nat.le_of_ble_eq_true rfl) dX0_crossings_21 ⟨Nat.zero_le _, Nat.zero_le _⟩) hP hD hS hA rfl rfl (by decide) (by decide) (fun _ H locs hP hD hS => ?_)
  have hP : va_P D vwCl [] H := hP
  have hD : va_D A [] := hD
  refine lv_iadd hx hb dX0_crossings_24 ?_
  cases h
  exact xendi (ret := none) F hsz hAe hK hP hD hS (fun _ => 0) rfl rfl (Nat.zero_le _) (Nat.zero_le _) dX0_crossings_25
set_option maxHeartbeats 4000000 in
set_option maxRecDepth 100000 in
theorem kX0_wayToLine (l : Launch) (D : va_G) (cc : Nat → ClassId) (p0 : Int32) (p1 : Int32) (p2 : Int32) (r0 : Int32) (h : fX0_wayToLine p0 p1 p2 = some r0) : xMi l yX0_wayToLine wsX0_wayToLine ({ frames := 0, cells := 0, slots := 0, locals := 0 } : Room) D cc [.int p0, .int p1, .int p2] [] r0 (fun _ => []) 0 0 := by
  intro sz
  refine xstart (bc := cX0_wayToLine) (maxL := 4) (ret := (some .int)) (by decide) rfl (Nat.le_of_ble_eq_true rfl) ?_
  intro p e s m args below meth c A hargs hsz hAe F hK hN hA hmn hP hD hS ls hl
  have hx := F.1.1
  have hb := F.1.2.1
  have hml := F.1.2.2.1
  have hown := F.1.2.2.2.1
  have hts := F.1.2.2.2.2
  have hl : lv_has ls 4 [(0, .int p0), (1, .int p1), (2, .int p2)] := hl
  unfold fX0_wayToLine at h
  refine lv_iload_n hx hb dX0_wayToLine_0 rfl (lv_at hl 2 rfl) ?_
  refine lv_if_le (tgt := 10) hx hb dX0_wayToLine_1 (by decide) (fun (c1 : p2 ≤ 0) => ?_) (fun (c1 : ¬ p2 ≤ 0) => ?_)
  · replace h := ip c1 h
    refine lv_iconst (v := (0 : Int32)) hx hb dX0_wayToLine_10 (by decide) ?_
    refine lv_istore_n (x := (0 : Int32)) (lv' := [(3, .int (0 : Int32)), (0, .int p0), (1, .int p1), (2, .int p2)]) hx hb dX0_wayToLine_11 rfl hl (by decide) rfl (fun ls hl => ?_)
    refine lv_iload_n hx hb dX0_wayToLine_12 rfl (lv_at hl 2 rfl) ?_
    refine lv_iload_n hx hb dX0_wayToLine_13 rfl (lv_at hl 1 rfl) ?_
    refine lv_icmp_le (tgt := 23) hx hb dX0_wayToLine_14 (by decide) (fun (c2 : p1 ≤ p0) => ?_) (fun (c2 : ¬ p1 ≤ p0) => ?_)
    · replace h := ip c2 h
      refine lv_iload_n hx hb dX0_wayToLine_23 rfl (lv_at hl 0 rfl) ?_
      cases h
      exact xendi (ret := none) F hsz hAe hK hP hD hS (fun _ => 0) rfl rfl (Nat.zero_le _) (Nat.zero_le _) dX0_wayToLine_24
    · replace h := iq c2 h
      refine lv_iload_n hx hb dX0_wayToLine_17 rfl (lv_at hl 3 rfl) ?_
      refine lv_iload_n hx hb dX0_wayToLine_18 rfl (lv_at hl 0 rfl) ?_
      refine lv_isub hx hb dX0_wayToLine_19 ?_
      refine lv_goto (tgt := 24) hx hb dX0_wayToLine_20 (by decide) ?_
      cases h
      exact xendi (ret := none) F hsz hAe hK hP hD hS (fun _ => 0) rfl rfl (Nat.zero_le _) (Nat.zero_le _) dX0_wayToLine_24
  · replace h := iq c1 h
    refine lv_iload_n hx hb dX0_wayToLine_4 rfl (lv_at hl 0 rfl) ?_
    refine lv_iload_n hx hb dX0_wayToLine_5 rfl (lv_at hl 2 rfl) ?_
    obtain ⟨g3, h⟩ := gd h
    refine lv_irem hx hb dX0_wayToLine_6 g3 ?_
    refine lv_goto (tgt := 11) hx hb dX0_wayToLine_7 (by decide) ?_
    refine lv_istore_n (x := xrem p0 p2) (lv' := [(3, .int (xrem p0 p2)), (0, .int p0), (1, .int p1), (2, .int p2)]) hx hb dX0_wayToLine_11 rfl hl (by decide) rfl (fun ls hl => ?_)
    refine lv_iload_n hx hb dX0_wayToLine_12 rfl (lv_at hl 2 rfl) ?_
    refine lv_iload_n hx hb dX0_wayToLine_13 rfl (lv_at hl 1 rfl) ?_
    refine lv_icmp_le (tgt := 23) hx hb dX0_wayToLine_14 (by decide) (fun (c4 : p1 ≤ p0) => ?_) (fun (c4 : ¬ p1 ≤ p0) => ?_)
    · replace h := ip c4 h
      refine lv_iload_n hx hb dX0_wayToLine_23 rfl (lv_at hl 0 rfl) ?_
      cases h
      exact xendi (ret := none) F hsz hAe hK hP hD hS (fun _ => 0) rfl rfl (Nat.zero_le _) (Nat.zero_le _) dX0_wayToLine_24
    · replace h := iq c4 h
      refine lv_iload_n hx hb dX0_wayToLine_17 rfl (lv_at hl 3 rfl) ?_
      refine lv_iload_n hx hb dX0_wayToLine_18 rfl (lv_at hl 0 rfl) ?_
      refine lv_isub hx hb dX0_wayToLine_19 ?_
      refine lv_goto (tgt := 24) hx hb dX0_wayToLine_20 (by decide) ?_
      cases h
      exact xendi (ret := none) F hsz hAe hK hP hD hS (fun _ => 0) rfl rfl (Nat.zero_le _) (Nat.zero_le _) dX0_wayToLine_24
set_option maxHeartbeats 4000000 in
set_option maxRecDepth 100000 in
theorem kX0_writeCrossings (l : Launch) (D : va_G) (cc : Nat → ClassId) (a_p0 : Nat) (a_p0_strokes : Nat) (a_p0_lengths : Nat) (a_p0_points : Nat) (a_p0_signCounts : Nat) (a_p0_signs : Nat) (c_p0_signCounts : Nat → Int32) (c_p0_signs : Nat → Int32) (p1 : Int32) (p2 : Int32) (p3 : Int32) (p4 : Int32) (c_p0_signCounts_o : Nat → Int32) (c_p0_signs_o : Nat → Int32) (h : fX0_writeCrossings p1 p2 p3 p4 c_p0_signCounts c_p0_signs = some (c_p0_signCounts_o, c_p0_signs_o)) : xMv l yX0_writeCrossings wsX0_writeCrossings ({ frames := 3, cells := 0, slots := 0, locals := 65 } : Room) D cc [.ref a_p0, .int p1, .int p2, .int p3, .int p4] [(a_p0, .inr (0, [.ref a_p0_strokes, .ref a_p0_lengths, .ref a_p0_points, .ref a_p0_signCounts, .ref a_p0_signs])), (a_p0_signCounts, .inl (cc 0, 17, .inl c_p0_signCounts)), (a_p0_signs, .inl (cc 0, 680, .inl c_p0_signs))] (fun _ => [(a_p0, .inr (0, [.ref a_p0_strokes, .ref a_p0_lengths, .ref a_p0_points, .ref a_p0_signCounts, .ref a_p0_signs])), (a_p0_signCounts, .inl (cc 0, 17, .inl c_p0_signCounts_o)), (a_p0_signs, .inl (cc 0, 680, .inl c_p0_signs_o))]) 0 0 := by
  intro sz
  refine xstart (bc := cX0_writeCrossings) (maxL := 18) (ret := none) (by decide) rfl (Nat.le_of_ble_eq_true rfl) ?_
  intro p e s m args below meth c A hargs hsz hAe F hK hN hA hmn hP hD hS ls hl
  have hx := F.1.1
  have hb := F.1.2.1
  have hml := F.1.2.2.1
  have hown := F.1.2.2.2.1
  have hts := F.1.2.2.2.2
  have hl : lv_has ls 18 [(0, .ref a_p0), (1, .int p1), (2, .int p2), (3, .int p3), (4, .int p4)] := hl
  have k1 := hts (.methodLink RX0 77 Lib.Math.abs.name) (by decide +kernel)
  have k2 := hts (.static Lib.Math.abs.name) (by decide +kernel)
  have k3 := hts (.initialized "java/lang/Math") (by decide +kernel)
  have k4 := hts (.code Lib.Math.abs.name Lib.Math.abs.code 1 (some .int)) (by decide +kernel)
  unfold fX0_writeCrossings at h
  have hB94 : ∀ (QQ : State → Prop) (k94_1 : Int32) (k94_4 : Int32) (k94_5 : Int32) (k94_6 : Int32) (k94_7 : Int32) (k94_8 : Int32) (k94_9 : Int32) (k94_10 : Int32) (k94_11 : Int32) (k94_12 : Int32) (x13 : Int32) (x14 : Int32) (x15 : Int32) (x16 : Int32) (c_p0_signCounts_L94 : Nat → Int32) (c_p0_signs_L94 : Nat → Int32) (r9 : (Int32 × Int32 × Int32 × Int32 × (Nat → Int32) × (Nat → Int32)) ⊕ ((Nat → Int32) × (Nat → Int32))), fX0_writeCrossings_L94 k94_1 k94_4 k94_5 k94_6 k94_7 k94_8 k94_9 k94_10 k94_11 k94_12 x13 x14 x15 x16 c_p0_signCounts_L94 c_p0_signs_L94 = some r9 → ∀ (H : Heap) (locs : List Loc) (ls : Array Slot), va_P D vwCl [(a_p0, .inr (0, [.ref a_p0_strokes, .ref a_p0_lengths, .ref a_p0_points, .ref a_p0_signCounts, .ref a_p0_signs])), (a_p0_signCounts, .inl (cc 0, 17, .inl c_p0_signCounts_L94)), (a_p0_signs, .inl (cc 0, 680, .inl c_p0_signs_L94))] H → va_D A [(a_p0, .inr (0, [.ref a_p0_strokes, .ref a_p0_lengths, .ref a_p0_points, .ref a_p0_signCounts, .ref a_p0_signs])), (a_p0_signCounts, .inl (cc 0, 17, .inl c_p0_signCounts_L94)), (a_p0_signs, .inl (cc 0, 680, .inl c_p0_signs_L94))] → va_S A s.heap H locs → lv_has ls 18 [(0, .ref a_p0), (1, .int k94_1), (4, .int k94_4), (5, .int k94_5), (6, .int k94_6), (7, .int k94_7), (8, .int k94_8), (9, .int k94_9), (10, .int k94_10), (11, .int k94_11), (12, .int k94_12), (13, .int x13), (14, .int x14), (15, .int x15), (16, .int x16)] → (∀ (x13 : Int32) (x14 : Int32) (x15 : Int32) (x16 : Int32) (c_p0_signCounts_L94 : Nat → Int32) (c_p0_signs_L94 : Nat → Int32), r9 = Sum.inl (x13, x14, x15, x16, c_p0_signCounts_L94, c_p0_signs_L94) → ∀ (H : Heap) (locs : List Loc) (ls : Array Slot), va_P D vwCl [(a_p0, .inr (0, [.ref a_p0_strokes, .ref a_p0_lengths, .ref a_p0_points, .ref a_p0_signCounts, .ref a_p0_signs])), (a_p0_signCounts, .inl (cc 0, 17, .inl c_p0_signCounts_L94)), (a_p0_signs, .inl (cc 0, 680, .inl c_p0_signs_L94))] H → va_D A [(a_p0, .inr (0, [.ref a_p0_strokes, .ref a_p0_lengths, .ref a_p0_points, .ref a_p0_signCounts, .ref a_p0_signs])), (a_p0_signCounts, .inl (cc 0, 17, .inl c_p0_signCounts_L94)), (a_p0_signs, .inl (cc 0, 680, .inl c_p0_signs_L94))] → va_S A s.heap H locs → lv_has ls 18 [(0, .ref a_p0), (1, .int k94_1), (4, .int k94_4), (5, .int k94_5), (6, .int k94_6), (7, .int k94_7), (8, .int k94_8), (9, .int k94_9), (10, .int k94_10), (11, .int k94_11), (12, .int k94_12), (13, .int x13), (14, .int x14), (15, .int x15), (16, .int x16)] → W p l e ({ frames := 3, cells := 0, slots := 0, locals := 65 } : Room) s m args below meth c H locs 0 0 QQ (F0 m 94 ls [])) → (∀ (c_p0_signCounts_E94 : Nat → Int32) (c_p0_signs_E94 : Nat → Int32), r9 = Sum.inr ((c_p0_signCounts_E94, c_p0_signs_E94)) → ∀ (H : Heap) (locs : List Loc) (ls : Array Slot), va_P D vwCl [(a_p0, .inr (0, [.ref a_p0_strokes, .ref a_p0_lengths, .ref a_p0_points, .ref a_p0_signCounts, .ref a_p0_signs])), (a_p0_signCounts, .inl (cc 0, 17, .inl c_p0_signCounts_E94)), (a_p0_signs, .inl (cc 0, 680, .inl c_p0_signs_E94))] H → va_D A [(a_p0, .inr (0, [.ref a_p0_strokes, .ref a_p0_lengths, .ref a_p0_points, .ref a_p0_signCounts, .ref a_p0_signs])), (a_p0_signCounts, .inl (cc 0, 17, .inl c_p0_signCounts_E94)), (a_p0_signs, .inl (cc 0, 680, .inl c_p0_signs_E94))] → va_S A s.heap H locs → lv_has ls 18 [] → W p l e ({ frames := 3, cells := 0, slots := 0, locals := 65 } : Room) s m args below meth c H locs 0 0 QQ (F0 m 206 ls [])) → W p l e ({ frames := 3, cells := 0, slots := 0, locals := 65 } : Room) s m args below meth c H locs 0 0 QQ (F0 m 94 ls []) := by
    intro QQ k94_1 k94_4 k94_5 k94_6 k94_7 k94_8 k94_9 k94_10 k94_11 k94_12 x13 x14 x15 x16 c_p0_signCounts_L94 c_p0_signs_L94 r9 h H locs ls hP hD hS hl KS KX0
    unfold fX0_writeCrossings_L94 at h
    refine lv_iload hx hb dX0_writeCrossings_94 (lv_at hl 14 rfl) ?_
    refine lv_iload hx hb dX0_writeCrossings_96 (lv_at hl 9 rfl) ?_
    refine lv_iload hx hb dX0_writeCrossings_98 (lv_at hl 10 rfl) ?_
    refine lv_iadd hx hb dX0_writeCrossings_100 ?_
    refine lv_icmp_ge (tgt := 206) hx hb dX0_writeCrossings_101 (by decide) (fun (c11 : (k94_11 + k94_12) ≤ x16) => ?_) (fun (c11 : ¬ (k94_11 + k94_12) ≤ x16) => ?_)
    · replace h := ip c11 h
      have hl := lv_sub (l' := []) hl [] rfl
      cases h
      exact KX0 c_p0_signCounts_L94 c_p0_signs_L94 rfl _ _ _ hP hD hS hl
    · replace h := iq c11 h
      refine lv_iload hx hb dX0_writeCrossings_104 (lv_at hl 14 rfl) ?_
      refine lv_iload hx hb dX0_writeCrossings_106 (lv_at hl 13 rfl) ?_
      refine lv_isub hx hb dX0_writeCrossings_108 ?_
      refine lv_iload hx hb dX0_writeCrossings_109 (lv_at hl 10 rfl) ?_
      refine lv_icmp_lt (tgt := 118) hx hb dX0_writeCrossings_111 (by decide) (fun (c12 : (x16 - x15) < k94_12) => ?_) (fun (c12 : ¬ (x16 - x15) < k94_12) => ?_)
      · replace h := ip c12 h
        refine lv_iconst (v := (0 : Int32)) hx hb dX0_writeCrossings_118 (by decide) ?_
        refine lv_istore (x := (0 : Int32)) (lv' := [(17, .int (0 : Int32)), (0, .ref a_p0), (1, .int k94_1), (4, .int k94_4), (5, .int k94_5), (6, .int k94_6), (7, .int k94_7), (8, .int k94_8), (9, .int k94_9), (10, .int k94_10), (11, .int k94_11), (12, .int k94_12), (13, .int x13), (14, .int x14), (15, .int x15), (16, .int x16)]) hx hb dX0_writeCrossings_119 hl (by decide) rfl (fun ls hl => ?_)
        refine lv_iload hx hb dX0_writeCrossings_121 (lv_at hl 0 rfl) ?_
        refine lv_if_ne (tgt := 146) hx hb dX0_writeCrossings_123 (by decide) (fun c13 => absurd (by decide) c13) (fun _ => ?_)
        refine lv_iload hx hb dX0_writeCrossings_126 (lv_at hl 14 rfl) ?_
        refine lv_iload hx hb dX0_writeCrossings_128 (lv_at hl 10 rfl) ?_
        refine lv_icmp_ge (tgt := 176) hx hb dX0_writeCrossings_130 (by decide) (fun (c14 : k94_11 ≤ x15) => ?_) (fun (c14 : ¬ k94_11 ≤ x15) => ?_)
        · replace h := ip c14 h
          refine lv_aload_n hx hb dX0_writeCrossings_176 rfl (lv_at hl 1 rfl) ?_
          refine lv_iload_n hx hb dX0_writeCrossings_177 rfl (lv_at hl 2 rfl) ?_
          refine lv_iload hx hb dX0_writeCrossings_178 (lv_at hl 7 rfl) ?_
          refine lv_iload hx hb dX0_writeCrossings_180 (lv_at hl 5 rfl) ?_
          refine lv_icmp_le (tgt := 189) hx hb dX0_writeCrossings_182 (by decide) (fun (c15 : k94_8 ≤ k94_6) => ?_) (fun (c15 : ¬ k94_8 ≤ k94_6) => ?_)
          · replace h := ip c15 h
            refine lv_iconst (v := (3 : Int32)) hx hb dX0_writeCrossings_189 (by decide) ?_
            refine xcallv (wr := []) [0, 1, 2] [] (xrunV (As := [.int k94_1, .int (3 : Int32)]) (rest := []) F ((kX0_writeSign l D cc (a_p0 := a_p0) (a_p0_signCounts := a_p0_signCounts) (a_p0_signs := a_p0_signs) (a_p0_strokes := a_p0_strokes) (a_p0_lengths := a_p0_lengths) (a_p0_points := a_p0_points) (c_p0_signCounts := c_p0_signCounts_L94) (c_p0_signs := c_p0_signs_L94) (p1 := k94_1) (p2 := (3 : Int32)) (c_p0_signCounts_o := (fX0_writeSign k94_1 (3 : Int32) c_p0_signCounts_L94 c_p0_signs_L94).1) (c_p0_signs_o := (fX0_writeSign k94_1 (3 : Int32) c_p0_signCounts_L94 c_p0_signs_L94).2) (h := rfl)) _) (cwV 2 hts gX0_writeCrossings_X0_writeSign rfl rfl rfl (by decide +kernel) ⟨Nat.le_of_ble_eq_true rfl, Nat.le_of_ble_eq_true rfl⟩) hK hN hP hD [0, 1, 2] rfl (by decide) (q0 := 0) rfl rfl rfl rfl hl rfl (Nat.le_of_ble_eq_true rfl) dX0_writeCrossings_190 ⟨Nat.zero_le _, Nat.zero_le _⟩) hP hD hS hA rfl rfl (by decide) (by decide) (fun _ H locs hP hD hS => ?_)
            have hP : va_P D vwCl [(a_p0, .inr (0, [.ref a_p0_strokes, .ref a_p0_lengths, .ref a_p0_points, .ref a_p0_signCounts, .ref a_p0_signs])), (a_p0_signCounts, .inl (cc 0, 17, .inl ((fX0_writeSign k94_1 (3 : Int32) c_p0_signCounts_L94 c_p0_signs_L94).1))), (a_p0_signs, .inl (cc 0, 680, .inl ((fX0_writeSign k94_1 (3 : Int32) c_p0_signCounts_L94 c_p0_signs_L94).2)))] H := hP
            have hD : va_D A [(a_p0, .inr (0, [.ref a_p0_strokes, .ref a_p0_lengths, .ref a_p0_points, .ref a_p0_signCounts, .ref a_p0_signs])), (a_p0_signCounts, .inl (cc 0, 17, .inl ((fX0_writeSign k94_1 (3 : Int32) c_p0_signCounts_L94 c_p0_signs_L94).1))), (a_p0_signs, .inl (cc 0, 680, .inl ((fX0_writeSign k94_1 (3 : Int32) c_p0_signCounts_L94 c_p0_signs_L94).2)))] := hD
            refine lv_iload hx hb dX0_writeCrossings_193 (lv_at hl 13 rfl) ?_
            refine lv_iload hx hb dX0_writeCrossings_195 (lv_at hl 3 rfl) ?_
            refine lv_iadd hx hb dX0_writeCrossings_197 ?_
            refine lv_istore (x := x14 + k94_4) (lv' := [(14, .int (x14 + k94_4)), (17, .int (0 : Int32)), (0, .ref a_p0), (1, .int k94_1), (4, .int k94_4), (5, .int k94_5), (6, .int k94_6), (7, .int k94_7), (8, .int k94_8), (9, .int k94_9), (10, .int k94_10), (11, .int k94_11), (12, .int k94_12), (13, .int x13), (15, .int x15), (16, .int x16)]) hx hb dX0_writeCrossings_198 hl (by decide) rfl (fun ls hl => ?_)
            refine lv_iinc (v := x16 + (1 : Int32)) (lv' := [(16, .int (x16 + (1 : Int32))), (14, .int (x14 + k94_4)), (17, .int (0 : Int32)), (0, .ref a_p0), (1, .int k94_1), (4, .int k94_4), (5, .int k94_5), (6, .int k94_6), (7, .int k94_7), (8, .int k94_8), (9, .int k94_9), (10, .int k94_10), (11, .int k94_11), (12, .int k94_12), (13, .int x13), (15, .int x15)]) hx hb dX0_writeCrossings_200 hl (k := 15) rfl (by first | rfl | decide) (by decide) rfl (fun ls hl => ?_)
            refine lv_goto (tgt := 94) hx hb dX0_writeCrossings_203 (by decide) ?_
            have hl := lv_sub (l' := [(0, .ref a_p0), (1, .int k94_1), (4, .int k94_4), (5, .int k94_5), (6, .int k94_6), (7, .int k94_7), (8, .int k94_8), (9, .int k94_9), (10, .int k94_10), (11, .int k94_11), (12, .int k94_12), (13, .int x13), (14, .int (x14 + k94_4)), (15, .int x15), (16, .int (x16 + (1 : Int32)))]) hl [3, 4, 5, 6, 7, 8, 9, 10, 11, 12, 13, 14, 1, 15, 0] rfl
            cases h
            exact KS x13 (x14 + k94_4) x15 (x16 + (1 : Int32)) ((fX0_writeSign k94_1 (3 : Int32) c_p0_signCounts_L94 c_p0_signs_L94).1) ((fX0_writeSign k94_1 (3 : Int32) c_p0_signCounts_L94 c_p0_signs_L94).2) rfl _ _ _ hP hD hS hl
          · replace h := iq c15 h
            refine lv_iconst (v := (1 : Int32)) hx hb dX0_writeCrossings_185 (by decide) ?_
            refine lv_goto (tgt := 190) hx hb dX0_writeCrossings_186 (by decide) ?_
            refine xcallv (wr := []) [0, 1, 2] [] (xrunV (As := [.int k94_1, .int (1 : Int32)]) (rest := []) F ((kX0_writeSign l D cc (a_p0 := a_p0) (a_p0_signCounts := a_p0_signCounts) (a_p0_signs := a_p0_signs) (a_p0_strokes := a_p0_strokes) (a_p0_lengths := a_p0_lengths) (a_p0_points := a_p0_points) (c_p0_signCounts := c_p0_signCounts_L94) (c_p0_signs := c_p0_signs_L94) (p1 := k94_1) (p2 := (1 : Int32)) (c_p0_signCounts_o := (fX0_writeSign k94_1 (1 : Int32) c_p0_signCounts_L94 c_p0_signs_L94).1) (c_p0_signs_o := (fX0_writeSign k94_1 (1 : Int32) c_p0_signCounts_L94 c_p0_signs_L94).2) (h := rfl)) _) (cwV 2 hts gX0_writeCrossings_X0_writeSign rfl rfl rfl (by decide +kernel) ⟨Nat.le_of_ble_eq_true rfl, Nat.le_of_ble_eq_true rfl⟩) hK hN hP hD [0, 1, 2] rfl (by decide) (q0 := 0) rfl rfl rfl rfl hl rfl (Nat.le_of_ble_eq_true rfl) dX0_writeCrossings_190 ⟨Nat.zero_le _, Nat.zero_le _⟩) hP hD hS hA rfl rfl (by decide) (by decide) (fun _ H locs hP hD hS => ?_)
            have hP : va_P D vwCl [(a_p0, .inr (0, [.ref a_p0_strokes, .ref a_p0_lengths, .ref a_p0_points, .ref a_p0_signCounts, .ref a_p0_signs])), (a_p0_signCounts, .inl (cc 0, 17, .inl ((fX0_writeSign k94_1 (1 : Int32) c_p0_signCounts_L94 c_p0_signs_L94).1))), (a_p0_signs, .inl (cc 0, 680, .inl ((fX0_writeSign k94_1 (1 : Int32) c_p0_signCounts_L94 c_p0_signs_L94).2)))] H := hP
            have hD : va_D A [(a_p0, .inr (0, [.ref a_p0_strokes, .ref a_p0_lengths, .ref a_p0_points, .ref a_p0_signCounts, .ref a_p0_signs])), (a_p0_signCounts, .inl (cc 0, 17, .inl ((fX0_writeSign k94_1 (1 : Int32) c_p0_signCounts_L94 c_p0_signs_L94).1))), (a_p0_signs, .inl (cc 0, 680, .inl ((fX0_writeSign k94_1 (1 : Int32) c_p0_signCounts_L94 c_p0_signs_L94).2)))] := hD
            refine lv_iload hx hb dX0_writeCrossings_193 (lv_at hl 13 rfl) ?_
            refine lv_iload hx hb dX0_writeCrossings_195 (lv_at hl 3 rfl) ?_
            refine lv_iadd hx hb dX0_writeCrossings_197 ?_
            refine lv_istore (x := x14 + k94_4) (lv' := [(14, .int (x14 + k94_4)), (17, .int (0 : Int32)), (0, .ref a_p0), (1, .int k94_1), (4, .int k94_4), (5, .int k94_5), (6, .int k94_6), (7, .int k94_7), (8, .int k94_8), (9, .int k94_9), (10, .int k94_10), (11, .int k94_11), (12, .int k94_12), (13, .int x13), (15, .int x15), (16, .int x16)]) hx hb dX0_writeCrossings_198 hl (by decide) rfl (fun ls hl => ?_)
            refine lv_iinc (v := x16 + (1 : Int32)) (lv' := [(16, .int (x16 + (1 : Int32))), (14, .int (x14 + k94_4)), (17, .int (0 : Int32)), (0, .ref a_p0), (1, .int k94_1), (4, .int k94_4), (5, .int k94_5), (6, .int k94_6), (7, .int k94_7), (8, .int k94_8), (9, .int k94_9), (10, .int k94_10), (11, .int k94_11), (12, .int k94_12), (13, .int x13), (15, .int x15)]) hx hb dX0_writeCrossings_200 hl (k := 15) rfl (by first | rfl | decide) (by decide) rfl (fun ls hl => ?_)
            refine lv_goto (tgt := 94) hx hb dX0_writeCrossings_203 (by decide) ?_
            have hl := lv_sub (l' := [(0, .ref a_p0), (1, .int k94_1), (4, .int k94_4), (5, .int k94_5), (6, .int k94_6), (7, .int k94_7), (8, .int k94_8), (9, .int k94_9), (10, .int k94_10), (11, .int k94_11), (12, .int k94_12), (13, .int x13), (14, .int (x14 + k94_4)), (15, .int x15), (16, .int (x16 + (1 : Int32)))]) hl [3, 4, 5, 6, 7, 8, 9, 10, 11, 12, 13, 14, 1, 15, 0] rfl
            cases h
            exact KS x13 (x14 + k94_4) x15 (x16 + (1 : Int32)) ((fX0_writeSign k94_1 (1 : Int32) c_p0_signCounts_L94 c_p0_signs_L94).1) ((fX0_writeSign k94_1 (1 : Int32) c_p0_signCounts_L94 c_p0_signs_L94).2) rfl _ _ _ hP hD hS hl
        · replace h := iq c14 h
          refine lv_iload hx hb dX0_writeCrossings_133 (lv_at hl 12 rfl) ?_
          refine lv_iload hx hb dX0_writeCrossings_135 (lv_at hl 9 rfl) ?_
          refine lv_imul hx hb dX0_writeCrossings_137 ?_
          refine lv_iload hx hb dX0_writeCrossings_138 (lv_at hl 13 rfl) ?_
          refine lv_iload hx hb dX0_writeCrossings_140 (lv_at hl 8 rfl) ?_
          refine lv_imul hx hb dX0_writeCrossings_142 ?_
          refine lv_icmp_gt (tgt := 176) hx hb dX0_writeCrossings_143 (by decide) (fun (c18 : (x14 * k94_9) < (x13 * k94_10)) => ?_) (fun (c18 : ¬ (x14 * k94_9) < (x13 * k94_10)) => ?_)
          · replace h := ip c18 h
            refine lv_aload_n hx hb dX0_writeCrossings_176 rfl (lv_at hl 1 rfl) ?_
            refine lv_iload_n hx hb dX0_writeCrossings_177 rfl (lv_at hl 2 rfl) ?_
            refine lv_iload hx hb dX0_writeCrossings_178 (lv_at hl 7 rfl) ?_
            refine lv_iload hx hb dX0_writeCrossings_180 (lv_at hl 5 rfl) ?_
            refine lv_icmp_le (tgt := 189) hx hb dX0_writeCrossings_182 (by decide) (fun (c19 : k94_8 ≤ k94_6) => ?_) (fun (c19 : ¬ k94_8 ≤ k94_6) => ?_)
            · replace h := ip c19 h
              refine lv_iconst (v := (3 : Int32)) hx hb dX0_writeCrossings_189 (by decide) ?_
              refine xcallv (wr := []) [0, 1, 2] [] (xrunV (As := [.int k94_1, .int (3 : Int32)]) (rest := []) F ((kX0_writeSign l D cc (a_p0 := a_p0) (a_p0_signCounts := a_p0_signCounts) (a_p0_signs := a_p0_signs) (a_p0_strokes := a_p0_strokes) (a_p0_lengths := a_p0_lengths) (a_p0_points := a_p0_points) (c_p0_signCounts := c_p0_signCounts_L94) (c_p0_signs := c_p0_signs_L94) (p1 := k94_1) (p2 := (3 : Int32)) (c_p0_signCounts_o := (fX0_writeSign k94_1 (3 : Int32) c_p0_signCounts_L94 c_p0_signs_L94).1) (c_p0_signs_o := (fX0_writeSign k94_1 (3 : Int32) c_p0_signCounts_L94 c_p0_signs_L94).2) (h := rfl)) _) (cwV 2 hts gX0_writeCrossings_X0_writeSign rfl rfl rfl (by decide +kernel) ⟨Nat.le_of_ble_eq_true rfl, Nat.le_of_ble_eq_true rfl⟩) hK hN hP hD [0, 1, 2] rfl (by decide) (q0 := 0) rfl rfl rfl rfl hl rfl (Nat.le_of_ble_eq_true rfl) dX0_writeCrossings_190 ⟨Nat.zero_le _, Nat.zero_le _⟩) hP hD hS hA rfl rfl (by decide) (by decide) (fun _ H locs hP hD hS => ?_)
              have hP : va_P D vwCl [(a_p0, .inr (0, [.ref a_p0_strokes, .ref a_p0_lengths, .ref a_p0_points, .ref a_p0_signCounts, .ref a_p0_signs])), (a_p0_signCounts, .inl (cc 0, 17, .inl ((fX0_writeSign k94_1 (3 : Int32) c_p0_signCounts_L94 c_p0_signs_L94).1))), (a_p0_signs, .inl (cc 0, 680, .inl ((fX0_writeSign k94_1 (3 : Int32) c_p0_signCounts_L94 c_p0_signs_L94).2)))] H := hP
              have hD : va_D A [(a_p0, .inr (0, [.ref a_p0_strokes, .ref a_p0_lengths, .ref a_p0_points, .ref a_p0_signCounts, .ref a_p0_signs])), (a_p0_signCounts, .inl (cc 0, 17, .inl ((fX0_writeSign k94_1 (3 : Int32) c_p0_signCounts_L94 c_p0_signs_L94).1))), (a_p0_signs, .inl (cc 0, 680, .inl ((fX0_writeSign k94_1 (3 : Int32) c_p0_signCounts_L94 c_p0_signs_L94).2)))] := hD
              refine lv_iload hx hb dX0_writeCrossings_193 (lv_at hl 13 rfl) ?_
              refine lv_iload hx hb dX0_writeCrossings_195 (lv_at hl 3 rfl) ?_
              refine lv_iadd hx hb dX0_writeCrossings_197 ?_
              refine lv_istore (x := x14 + k94_4) (lv' := [(14, .int (x14 + k94_4)), (17, .int (0 : Int32)), (0, .ref a_p0), (1, .int k94_1), (4, .int k94_4), (5, .int k94_5), (6, .int k94_6), (7, .int k94_7), (8, .int k94_8), (9, .int k94_9), (10, .int k94_10), (11, .int k94_11), (12, .int k94_12), (13, .int x13), (15, .int x15), (16, .int x16)]) hx hb dX0_writeCrossings_198 hl (by decide) rfl (fun ls hl => ?_)
              refine lv_iinc (v := x16 + (1 : Int32)) (lv' := [(16, .int (x16 + (1 : Int32))), (14, .int (x14 + k94_4)), (17, .int (0 : Int32)), (0, .ref a_p0), (1, .int k94_1), (4, .int k94_4), (5, .int k94_5), (6, .int k94_6), (7, .int k94_7), (8, .int k94_8), (9, .int k94_9), (10, .int k94_10), (11, .int k94_11), (12, .int k94_12), (13, .int x13), (15, .int x15)]) hx hb dX0_writeCrossings_200 hl (k := 15) rfl (by first | rfl | decide) (by decide) rfl (fun ls hl => ?_)
              refine lv_goto (tgt := 94) hx hb dX0_writeCrossings_203 (by decide) ?_
              have hl := lv_sub (l' := [(0, .ref a_p0), (1, .int k94_1), (4, .int k94_4), (5, .int k94_5), (6, .int k94_6), (7, .int k94_7), (8, .int k94_8), (9, .int k94_9), (10, .int k94_10), (11, .int k94_11), (12, .int k94_12), (13, .int x13), (14, .int (x14 + k94_4)), (15, .int x15), (16, .int (x16 + (1 : Int32)))]) hl [3, 4, 5, 6, 7, 8, 9, 10, 11, 12, 13, 14, 1, 15, 0] rfl
              cases h
              exact KS x13 (x14 + k94_4) x15 (x16 + (1 : Int32)) ((fX0_writeSign k94_1 (3 : Int32) c_p0_signCounts_L94 c_p0_signs_L94).1) ((fX0_writeSign k94_1 (3 : Int32) c_p0_signCounts_L94 c_p0_signs_L94).2) rfl _ _ _ hP hD hS hl
            · replace h := iq c19 h
              refine lv_iconst (v := (1 : Int32)) hx hb dX0_writeCrossings_185 (by decide) ?_
              refine lv_goto (tgt := 190) hx hb dX0_writeCrossings_186 (by decide) ?_
              refine xcallv (wr := []) [0, 1, 2] [] (xrunV (As := [.int k94_1, .int (1 : Int32)]) (rest := []) F ((kX0_writeSign l D cc (a_p0 := a_p0) (a_p0_signCounts := a_p0_signCounts) (a_p0_signs := a_p0_signs) (a_p0_strokes := a_p0_strokes) (a_p0_lengths := a_p0_lengths) (a_p0_points := a_p0_points) (c_p0_signCounts := c_p0_signCounts_L94) (c_p0_signs := c_p0_signs_L94) (p1 := k94_1) (p2 := (1 : Int32)) (c_p0_signCounts_o := (fX0_writeSign k94_1 (1 : Int32) c_p0_signCounts_L94 c_p0_signs_L94).1) (c_p0_signs_o := (fX0_writeSign k94_1 (1 : Int32) c_p0_signCounts_L94 c_p0_signs_L94).2) (h := rfl)) _) (cwV 2 hts gX0_writeCrossings_X0_writeSign rfl rfl rfl (by decide +kernel) ⟨Nat.le_of_ble_eq_true rfl, Nat.le_of_ble_eq_true rfl⟩) hK hN hP hD [0, 1, 2] rfl (by decide) (q0 := 0) rfl rfl rfl rfl hl rfl (Nat.le_of_ble_eq_true rfl) dX0_writeCrossings_190 ⟨Nat.zero_le _, Nat.zero_le _⟩) hP hD hS hA rfl rfl (by decide) (by decide) (fun _ H locs hP hD hS => ?_)
              have hP : va_P D vwCl [(a_p0, .inr (0, [.ref a_p0_strokes, .ref a_p0_lengths, .ref a_p0_points, .ref a_p0_signCounts, .ref a_p0_signs])), (a_p0_signCounts, .inl (cc 0, 17, .inl ((fX0_writeSign k94_1 (1 : Int32) c_p0_signCounts_L94 c_p0_signs_L94).1))), (a_p0_signs, .inl (cc 0, 680, .inl ((fX0_writeSign k94_1 (1 : Int32) c_p0_signCounts_L94 c_p0_signs_L94).2)))] H := hP
              have hD : va_D A [(a_p0, .inr (0, [.ref a_p0_strokes, .ref a_p0_lengths, .ref a_p0_points, .ref a_p0_signCounts, .ref a_p0_signs])), (a_p0_signCounts, .inl (cc 0, 17, .inl ((fX0_writeSign k94_1 (1 : Int32) c_p0_signCounts_L94 c_p0_signs_L94).1))), (a_p0_signs, .inl (cc 0, 680, .inl ((fX0_writeSign k94_1 (1 : Int32) c_p0_signCounts_L94 c_p0_signs_L94).2)))] := hD
              refine lv_iload hx hb dX0_writeCrossings_193 (lv_at hl 13 rfl) ?_
              refine lv_iload hx hb dX0_writeCrossings_195 (lv_at hl 3 rfl) ?_
              refine lv_iadd hx hb dX0_writeCrossings_197 ?_
              refine lv_istore (x := x14 + k94_4) (lv' := [(14, .int (x14 + k94_4)), (17, .int (0 : Int32)), (0, .ref a_p0), (1, .int k94_1), (4, .int k94_4), (5, .int k94_5), (6, .int k94_6), (7, .int k94_7), (8, .int k94_8), (9, .int k94_9), (10, .int k94_10), (11, .int k94_11), (12, .int k94_12), (13, .int x13), (15, .int x15), (16, .int x16)]) hx hb dX0_writeCrossings_198 hl (by decide) rfl (fun ls hl => ?_)
              refine lv_iinc (v := x16 + (1 : Int32)) (lv' := [(16, .int (x16 + (1 : Int32))), (14, .int (x14 + k94_4)), (17, .int (0 : Int32)), (0, .ref a_p0), (1, .int k94_1), (4, .int k94_4), (5, .int k94_5), (6, .int k94_6), (7, .int k94_7), (8, .int k94_8), (9, .int k94_9), (10, .int k94_10), (11, .int k94_11), (12, .int k94_12), (13, .int x13), (15, .int x15)]) hx hb dX0_writeCrossings_200 hl (k := 15) rfl (by first | rfl | decide) (by decide) rfl (fun ls hl => ?_)
              refine lv_goto (tgt := 94) hx hb dX0_writeCrossings_203 (by decide) ?_
              have hl := lv_sub (l' := [(0, .ref a_p0), (1, .int k94_1), (4, .int k94_4), (5, .int k94_5), (6, .int k94_6), (7, .int k94_7), (8, .int k94_8), (9, .int k94_9), (10, .int k94_10), (11, .int k94_11), (12, .int k94_12), (13, .int x13), (14, .int (x14 + k94_4)), (15, .int x15), (16, .int (x16 + (1 : Int32)))]) hl [3, 4, 5, 6, 7, 8, 9, 10, 11, 12, 13, 14, 1, 15, 0] rfl
              cases h
              exact KS x13 (x14 + k94_4) x15 (x16 + (1 : Int32)) ((fX0_writeSign k94_1 (1 : Int32) c_p0_signCounts_L94 c_p0_signs_L94).1) ((fX0_writeSign k94_1 (1 : Int32) c_p0_signCounts_L94 c_p0_signs_L94).2) rfl _ _ _ hP hD hS hl
          · replace h := iq c18 h
            refine lv_aload_n hx hb dX0_writeCrossings_146 rfl (lv_at hl 1 rfl) ?_
            refine lv_iload_n hx hb dX0_writeCrossings_147 rfl (lv_at hl 2 rfl) ?_
            refine lv_iload hx hb dX0_writeCrossings_148 (lv_at hl 6 rfl) ?_
            refine lv_iload hx hb dX0_writeCrossings_150 (lv_at hl 4 rfl) ?_
            refine lv_icmp_le (tgt := 159) hx hb dX0_writeCrossings_152 (by decide) (fun (c22 : k94_7 ≤ k94_5) => ?_) (fun (c22 : ¬ k94_7 ≤ k94_5) => ?_)
            · replace h := ip c22 h
              refine lv_iconst (v := (2 : Int32)) hx hb dX0_writeCrossings_159 (by decide) ?_
              refine xcallv (wr := []) [0, 1, 2] [] (xrunV (As := [.int k94_1, .int (2 : Int32)]) (rest := []) F ((kX0_writeSign l D cc (a_p0 := a_p0) (a_p0_signCounts := a_p0_signCounts) (a_p0_signs := a_p0_signs) (a_p0_strokes := a_p0_strokes) (a_p0_lengths := a_p0_lengths) (a_p0_points := a_p0_points) (c_p0_signCounts := c_p0_signCounts_L94) (c_p0_signs := c_p0_signs_L94) (p1 := k94_1) (p2 := (2 : Int32)) (c_p0_signCounts_o := (fX0_writeSign k94_1 (2 : Int32) c_p0_signCounts_L94 c_p0_signs_L94).1) (c_p0_signs_o := (fX0_writeSign k94_1 (2 : Int32) c_p0_signCounts_L94 c_p0_signs_L94).2) (h := rfl)) _) (cwV 2 hts gX0_writeCrossings_X0_writeSign rfl rfl rfl (by decide +kernel) ⟨Nat.le_of_ble_eq_true rfl, Nat.le_of_ble_eq_true rfl⟩) hK hN hP hD [0, 1, 2] rfl (by decide) (q0 := 0) rfl rfl rfl rfl hl rfl (Nat.le_of_ble_eq_true rfl) dX0_writeCrossings_160 ⟨Nat.zero_le _, Nat.zero_le _⟩) hP hD hS hA rfl rfl (by decide) (by decide) (fun _ H locs hP hD hS => ?_)
              have hP : va_P D vwCl [(a_p0, .inr (0, [.ref a_p0_strokes, .ref a_p0_lengths, .ref a_p0_points, .ref a_p0_signCounts, .ref a_p0_signs])), (a_p0_signCounts, .inl (cc 0, 17, .inl ((fX0_writeSign k94_1 (2 : Int32) c_p0_signCounts_L94 c_p0_signs_L94).1))), (a_p0_signs, .inl (cc 0, 680, .inl ((fX0_writeSign k94_1 (2 : Int32) c_p0_signCounts_L94 c_p0_signs_L94).2)))] H := hP
              have hD : va_D A [(a_p0, .inr (0, [.ref a_p0_strokes, .ref a_p0_lengths, .ref a_p0_points, .ref a_p0_signCounts, .ref a_p0_signs])), (a_p0_signCounts, .inl (cc 0, 17, .inl ((fX0_writeSign k94_1 (2 : Int32) c_p0_signCounts_L94 c_p0_signs_L94).1))), (a_p0_signs, .inl (cc 0, 680, .inl ((fX0_writeSign k94_1 (2 : Int32) c_p0_signCounts_L94 c_p0_signs_L94).2)))] := hD
              refine lv_iload hx hb dX0_writeCrossings_163 (lv_at hl 12 rfl) ?_
              refine lv_iload hx hb dX0_writeCrossings_165 (lv_at hl 3 rfl) ?_
              refine lv_iadd hx hb dX0_writeCrossings_167 ?_
              refine lv_istore (x := x13 + k94_4) (lv' := [(13, .int (x13 + k94_4)), (17, .int (0 : Int32)), (0, .ref a_p0), (1, .int k94_1), (4, .int k94_4), (5, .int k94_5), (6, .int k94_6), (7, .int k94_7), (8, .int k94_8), (9, .int k94_9), (10, .int k94_10), (11, .int k94_11), (12, .int k94_12), (14, .int x14), (15, .int x15), (16, .int x16)]) hx hb dX0_writeCrossings_168 hl (by decide) rfl (fun ls hl => ?_)
              refine lv_iinc (v := x15 + (1 : Int32)) (lv' := [(15, .int (x15 + (1 : Int32))), (13, .int (x13 + k94_4)), (17, .int (0 : Int32)), (0, .ref a_p0), (1, .int k94_1), (4, .int k94_4), (5, .int k94_5), (6, .int k94_6), (7, .int k94_7), (8, .int k94_8), (9, .int k94_9), (10, .int k94_10), (11, .int k94_11), (12, .int k94_12), (14, .int x14), (16, .int x16)]) hx hb dX0_writeCrossings_170 hl (k := 14) rfl (by first | rfl | decide) (by decide) rfl (fun ls hl => ?_)
              refine lv_goto (tgt := 200) hx hb dX0_writeCrossings_173 (by decide) ?_
              refine lv_iinc (v := x16 + (1 : Int32)) (lv' := [(16, .int (x16 + (1 : Int32))), (15, .int (x15 + (1 : Int32))), (13, .int (x13 + k94_4)), (17, .int (0 : Int32)), (0, .ref a_p0), (1, .int k94_1), (4, .int k94_4), (5, .int k94_5), (6, .int k94_6), (7, .int k94_7), (8, .int k94_8), (9, .int k94_9), (10, .int k94_10), (11, .int k94_11), (12, .int k94_12), (14, .int x14)]) hx hb dX0_writeCrossings_200 hl (k := 15) rfl (by first | rfl | decide) (by decide) rfl (fun ls hl => ?_)
              refine lv_goto (tgt := 94) hx hb dX0_writeCrossings_203 (by decide) ?_
              have hl := lv_sub (l' := [(0, .ref a_p0), (1, .int k94_1), (4, .int k94_4), (5, .int k94_5), (6, .int k94_6), (7, .int k94_7), (8, .int k94_8), (9, .int k94_9), (10, .int k94_10), (11, .int k94_11), (12, .int k94_12), (13, .int (x13 + k94_4)), (14, .int x14), (15, .int (x15 + (1 : Int32))), (16, .int (x16 + (1 : Int32)))]) hl [4, 5, 6, 7, 8, 9, 10, 11, 12, 13, 14, 2, 15, 1, 0] rfl
              cases h
              exact KS (x13 + k94_4) x14 (x15 + (1 : Int32)) (x16 + (1 : Int32)) ((fX0_writeSign k94_1 (2 : Int32) c_p0_signCounts_L94 c_p0_signs_L94).1) ((fX0_writeSign k94_1 (2 : Int32) c_p0_signCounts_L94 c_p0_signs_L94).2) rfl _ _ _ hP hD hS hl
            · replace h := iq c22 h
              refine lv_iconst (v := (0 : Int32)) hx hb dX0_writeCrossings_155 (by decide) ?_
              refine lv_goto (tgt := 160) hx hb dX0_writeCrossings_156 (by decide) ?_
              refine xcallv (wr := []) [0, 1, 2] [] (xrunV (As := [.int k94_1, .int (0 : Int32)]) (rest := []) F ((kX0_writeSign l D cc (a_p0 := a_p0) (a_p0_signCounts := a_p0_signCounts) (a_p0_signs := a_p0_signs) (a_p0_strokes := a_p0_strokes) (a_p0_lengths := a_p0_lengths) (a_p0_points := a_p0_points) (c_p0_signCounts := c_p0_signCounts_L94) (c_p0_signs := c_p0_signs_L94) (p1 := k94_1) (p2 := (0 : Int32)) (c_p0_signCounts_o := (fX0_writeSign k94_1 (0 : Int32) c_p0_signCounts_L94 c_p0_signs_L94).1) (c_p0_signs_o := (fX0_writeSign k94_1 (0 : Int32) c_p0_signCounts_L94 c_p0_signs_L94).2) (h := rfl)) _) (cwV 2 hts gX0_writeCrossings_X0_writeSign rfl rfl rfl (by decide +kernel) ⟨Nat.le_of_ble_eq_true rfl, Nat.le_of_ble_eq_true rfl⟩) hK hN hP hD [0, 1, 2] rfl (by decide) (q0 := 0) rfl rfl rfl rfl hl rfl (Nat.le_of_ble_eq_true rfl) dX0_writeCrossings_160 ⟨Nat.zero_le _, Nat.zero_le _⟩) hP hD hS hA rfl rfl (by decide) (by decide) (fun _ H locs hP hD hS => ?_)
              have hP : va_P D vwCl [(a_p0, .inr (0, [.ref a_p0_strokes, .ref a_p0_lengths, .ref a_p0_points, .ref a_p0_signCounts, .ref a_p0_signs])), (a_p0_signCounts, .inl (cc 0, 17, .inl ((fX0_writeSign k94_1 (0 : Int32) c_p0_signCounts_L94 c_p0_signs_L94).1))), (a_p0_signs, .inl (cc 0, 680, .inl ((fX0_writeSign k94_1 (0 : Int32) c_p0_signCounts_L94 c_p0_signs_L94).2)))] H := hP
              have hD : va_D A [(a_p0, .inr (0, [.ref a_p0_strokes, .ref a_p0_lengths, .ref a_p0_points, .ref a_p0_signCounts, .ref a_p0_signs])), (a_p0_signCounts, .inl (cc 0, 17, .inl ((fX0_writeSign k94_1 (0 : Int32) c_p0_signCounts_L94 c_p0_signs_L94).1))), (a_p0_signs, .inl (cc 0, 680, .inl ((fX0_writeSign k94_1 (0 : Int32) c_p0_signCounts_L94 c_p0_signs_L94).2)))] := hD
              refine lv_iload hx hb dX0_writeCrossings_163 (lv_at hl 12 rfl) ?_
              refine lv_iload hx hb dX0_writeCrossings_165 (lv_at hl 3 rfl) ?_
              refine lv_iadd hx hb dX0_writeCrossings_167 ?_
              refine lv_istore (x := x13 + k94_4) (lv' := [(13, .int (x13 + k94_4)), (17, .int (0 : Int32)), (0, .ref a_p0), (1, .int k94_1), (4, .int k94_4), (5, .int k94_5), (6, .int k94_6), (7, .int k94_7), (8, .int k94_8), (9, .int k94_9), (10, .int k94_10), (11, .int k94_11), (12, .int k94_12), (14, .int x14), (15, .int x15), (16, .int x16)]) hx hb dX0_writeCrossings_168 hl (by decide) rfl (fun ls hl => ?_)
              refine lv_iinc (v := x15 + (1 : Int32)) (lv' := [(15, .int (x15 + (1 : Int32))), (13, .int (x13 + k94_4)), (17, .int (0 : Int32)), (0, .ref a_p0), (1, .int k94_1), (4, .int k94_4), (5, .int k94_5), (6, .int k94_6), (7, .int k94_7), (8, .int k94_8), (9, .int k94_9), (10, .int k94_10), (11, .int k94_11), (12, .int k94_12), (14, .int x14), (16, .int x16)]) hx hb dX0_writeCrossings_170 hl (k := 14) rfl (by first | rfl | decide) (by decide) rfl (fun ls hl => ?_)
              refine lv_goto (tgt := 200) hx hb dX0_writeCrossings_173 (by decide) ?_
              refine lv_iinc (v := x16 + (1 : Int32)) (lv' := [(16, .int (x16 + (1 : Int32))), (15, .int (x15 + (1 : Int32))), (13, .int (x13 + k94_4)), (17, .int (0 : Int32)), (0, .ref a_p0), (1, .int k94_1), (4, .int k94_4), (5, .int k94_5), (6, .int k94_6), (7, .int k94_7), (8, .int k94_8), (9, .int k94_9), (10, .int k94_10), (11, .int k94_11), (12, .int k94_12), (14, .int x14)]) hx hb dX0_writeCrossings_200 hl (k := 15) rfl (by first | rfl | decide) (by decide) rfl (fun ls hl => ?_)
              refine lv_goto (tgt := 94) hx hb dX0_writeCrossings_203 (by decide) ?_
              have hl := lv_sub (l' := [(0, .ref a_p0), (1, .int k94_1), (4, .int k94_4), (5, .int k94_5), (6, .int k94_6), (7, .int k94_7), (8, .int k94_8), (9, .int k94_9), (10, .int k94_10), (11, .int k94_11), (12, .int k94_12), (13, .int (x13 + k94_4)), (14, .int x14), (15, .int (x15 + (1 : Int32))), (16, .int (x16 + (1 : Int32)))]) hl [4, 5, 6, 7, 8, 9, 10, 11, 12, 13, 14, 2, 15, 1, 0] rfl
              cases h
              exact KS (x13 + k94_4) x14 (x15 + (1 : Int32)) (x16 + (1 : Int32)) ((fX0_writeSign k94_1 (0 : Int32) c_p0_signCounts_L94 c_p0_signs_L94).1) ((fX0_writeSign k94_1 (0 : Int32) c_p0_signCounts_L94 c_p0_signs_L94).2) rfl _ _ _ hP hD hS hl
      · replace h := iq c12 h
        refine lv_iconst (v := (1 : Int32)) hx hb dX0_writeCrossings_114 (by decide) ?_
        refine lv_goto (tgt := 119) hx hb dX0_writeCrossings_115 (by decide) ?_
        refine lv_istore (x := (1 : Int32)) (lv' := [(17, .int (1 : Int32)), (0, .ref a_p0), (1, .int k94_1), (4, .int k94_4), (5, .int k94_5), (6, .int k94_6), (7, .int k94_7), (8, .int k94_8), (9, .int k94_9), (10, .int k94_10), (11, .int k94_11), (12, .int k94_12), (13, .int x13), (14, .int x14), (15, .int x15), (16, .int x16)]) hx hb dX0_writeCrossings_119 hl (by decide) rfl (fun ls hl => ?_)
        refine lv_iload hx hb dX0_writeCrossings_121 (lv_at hl 0 rfl) ?_
        refine lv_if_ne (tgt := 146) hx hb dX0_writeCrossings_123 (by decide) (fun _ => ?_) (fun c25 => absurd c25 (by decide))
        refine lv_aload_n hx hb dX0_writeCrossings_146 rfl (lv_at hl 1 rfl) ?_
        refine lv_iload_n hx hb dX0_writeCrossings_147 rfl (lv_at hl 2 rfl) ?_
        refine lv_iload hx hb dX0_writeCrossings_148 (lv_at hl 6 rfl) ?_
        refine lv_iload hx hb dX0_writeCrossings_150 (lv_at hl 4 rfl) ?_
        refine lv_icmp_le (tgt := 159) hx hb dX0_writeCrossings_152 (by decide) (fun (c26 : k94_7 ≤ k94_5) => ?_) (fun (c26 : ¬ k94_7 ≤ k94_5) => ?_)
        · replace h := ip c26 h
          refine lv_iconst (v := (2 : Int32)) hx hb dX0_writeCrossings_159 (by decide) ?_
          refine xcallv (wr := []) [0, 1, 2] [] (xrunV (As := [.int k94_1, .int (2 : Int32)]) (rest := []) F ((kX0_writeSign l D cc (a_p0 := a_p0) (a_p0_signCounts := a_p0_signCounts) (a_p0_signs := a_p0_signs) (a_p0_strokes := a_p0_strokes) (a_p0_lengths := a_p0_lengths) (a_p0_points := a_p0_points) (c_p0_signCounts := c_p0_signCounts_L94) (c_p0_signs := c_p0_signs_L94) (p1 := k94_1) (p2 := (2 : Int32)) (c_p0_signCounts_o := (fX0_writeSign k94_1 (2 : Int32) c_p0_signCounts_L94 c_p0_signs_L94).1) (c_p0_signs_o := (fX0_writeSign k94_1 (2 : Int32) c_p0_signCounts_L94 c_p0_signs_L94).2) (h := rfl)) _) (cwV 2 hts gX0_writeCrossings_X0_writeSign rfl rfl rfl (by decide +kernel) ⟨Nat.le_of_ble_eq_true rfl, Nat.le_of_ble_eq_true rfl⟩) hK hN hP hD [0, 1, 2] rfl (by decide) (q0 := 0) rfl rfl rfl rfl hl rfl (Nat.le_of_ble_eq_true rfl) dX0_writeCrossings_160 ⟨Nat.zero_le _, Nat.zero_le _⟩) hP hD hS hA rfl rfl (by decide) (by decide) (fun _ H locs hP hD hS => ?_)
          have hP : va_P D vwCl [(a_p0, .inr (0, [.ref a_p0_strokes, .ref a_p0_lengths, .ref a_p0_points, .ref a_p0_signCounts, .ref a_p0_signs])), (a_p0_signCounts, .inl (cc 0, 17, .inl ((fX0_writeSign k94_1 (2 : Int32) c_p0_signCounts_L94 c_p0_signs_L94).1))), (a_p0_signs, .inl (cc 0, 680, .inl ((fX0_writeSign k94_1 (2 : Int32) c_p0_signCounts_L94 c_p0_signs_L94).2)))] H := hP
          have hD : va_D A [(a_p0, .inr (0, [.ref a_p0_strokes, .ref a_p0_lengths, .ref a_p0_points, .ref a_p0_signCounts, .ref a_p0_signs])), (a_p0_signCounts, .inl (cc 0, 17, .inl ((fX0_writeSign k94_1 (2 : Int32) c_p0_signCounts_L94 c_p0_signs_L94).1))), (a_p0_signs, .inl (cc 0, 680, .inl ((fX0_writeSign k94_1 (2 : Int32) c_p0_signCounts_L94 c_p0_signs_L94).2)))] := hD
          refine lv_iload hx hb dX0_writeCrossings_163 (lv_at hl 12 rfl) ?_
          refine lv_iload hx hb dX0_writeCrossings_165 (lv_at hl 3 rfl) ?_
          refine lv_iadd hx hb dX0_writeCrossings_167 ?_
          refine lv_istore (x := x13 + k94_4) (lv' := [(13, .int (x13 + k94_4)), (17, .int (1 : Int32)), (0, .ref a_p0), (1, .int k94_1), (4, .int k94_4), (5, .int k94_5), (6, .int k94_6), (7, .int k94_7), (8, .int k94_8), (9, .int k94_9), (10, .int k94_10), (11, .int k94_11), (12, .int k94_12), (14, .int x14), (15, .int x15), (16, .int x16)]) hx hb dX0_writeCrossings_168 hl (by decide) rfl (fun ls hl => ?_)
          refine lv_iinc (v := x15 + (1 : Int32)) (lv' := [(15, .int (x15 + (1 : Int32))), (13, .int (x13 + k94_4)), (17, .int (1 : Int32)), (0, .ref a_p0), (1, .int k94_1), (4, .int k94_4), (5, .int k94_5), (6, .int k94_6), (7, .int k94_7), (8, .int k94_8), (9, .int k94_9), (10, .int k94_10), (11, .int k94_11), (12, .int k94_12), (14, .int x14), (16, .int x16)]) hx hb dX0_writeCrossings_170 hl (k := 14) rfl (by first | rfl | decide) (by decide) rfl (fun ls hl => ?_)
          refine lv_goto (tgt := 200) hx hb dX0_writeCrossings_173 (by decide) ?_
          refine lv_iinc (v := x16 + (1 : Int32)) (lv' := [(16, .int (x16 + (1 : Int32))), (15, .int (x15 + (1 : Int32))), (13, .int (x13 + k94_4)), (17, .int (1 : Int32)), (0, .ref a_p0), (1, .int k94_1), (4, .int k94_4), (5, .int k94_5), (6, .int k94_6), (7, .int k94_7), (8, .int k94_8), (9, .int k94_9), (10, .int k94_10), (11, .int k94_11), (12, .int k94_12), (14, .int x14)]) hx hb dX0_writeCrossings_200 hl (k := 15) rfl (by first | rfl | decide) (by decide) rfl (fun ls hl => ?_)
          refine lv_goto (tgt := 94) hx hb dX0_writeCrossings_203 (by decide) ?_
          have hl := lv_sub (l' := [(0, .ref a_p0), (1, .int k94_1), (4, .int k94_4), (5, .int k94_5), (6, .int k94_6), (7, .int k94_7), (8, .int k94_8), (9, .int k94_9), (10, .int k94_10), (11, .int k94_11), (12, .int k94_12), (13, .int (x13 + k94_4)), (14, .int x14), (15, .int (x15 + (1 : Int32))), (16, .int (x16 + (1 : Int32)))]) hl [4, 5, 6, 7, 8, 9, 10, 11, 12, 13, 14, 2, 15, 1, 0] rfl
          cases h
          exact KS (x13 + k94_4) x14 (x15 + (1 : Int32)) (x16 + (1 : Int32)) ((fX0_writeSign k94_1 (2 : Int32) c_p0_signCounts_L94 c_p0_signs_L94).1) ((fX0_writeSign k94_1 (2 : Int32) c_p0_signCounts_L94 c_p0_signs_L94).2) rfl _ _ _ hP hD hS hl
        · replace h := iq c26 h
          refine lv_iconst (v := (0 : Int32)) hx hb dX0_writeCrossings_155 (by decide) ?_
          refine lv_goto (tgt := 160) hx hb dX0_writeCrossings_156 (by decide) ?_
          refine xcallv (wr := []) [0, 1, 2] [] (xrunV (As := [.int k94_1, .int (0 : Int32)]) (rest := []) F ((kX0_writeSign l D cc (a_p0 := a_p0) (a_p0_signCounts := a_p0_signCounts) (a_p0_signs := a_p0_signs) (a_p0_strokes := a_p0_strokes) (a_p0_lengths := a_p0_lengths) (a_p0_points := a_p0_points) (c_p0_signCounts := c_p0_signCounts_L94) (c_p0_signs := c_p0_signs_L94) (p1 := k94_1) (p2 := (0 : Int32)) (c_p0_signCounts_o := (fX0_writeSign k94_1 (0 : Int32) c_p0_signCounts_L94 c_p0_signs_L94).1) (c_p0_signs_o := (fX0_writeSign k94_1 (0 : Int32) c_p0_signCounts_L94 c_p0_signs_L94).2) (h := rfl)) _) (cwV 2 hts gX0_writeCrossings_X0_writeSign rfl rfl rfl (by decide +kernel) ⟨Nat.le_of_ble_eq_true rfl, Nat.le_of_ble_eq_true rfl⟩) hK hN hP hD [0, 1, 2] rfl (by decide) (q0 := 0) rfl rfl rfl rfl hl rfl (Nat.le_of_ble_eq_true rfl) dX0_writeCrossings_160 ⟨Nat.zero_le _, Nat.zero_le _⟩) hP hD hS hA rfl rfl (by decide) (by decide) (fun _ H locs hP hD hS => ?_)
          have hP : va_P D vwCl [(a_p0, .inr (0, [.ref a_p0_strokes, .ref a_p0_lengths, .ref a_p0_points, .ref a_p0_signCounts, .ref a_p0_signs])), (a_p0_signCounts, .inl (cc 0, 17, .inl ((fX0_writeSign k94_1 (0 : Int32) c_p0_signCounts_L94 c_p0_signs_L94).1))), (a_p0_signs, .inl (cc 0, 680, .inl ((fX0_writeSign k94_1 (0 : Int32) c_p0_signCounts_L94 c_p0_signs_L94).2)))] H := hP
          have hD : va_D A [(a_p0, .inr (0, [.ref a_p0_strokes, .ref a_p0_lengths, .ref a_p0_points, .ref a_p0_signCounts, .ref a_p0_signs])), (a_p0_signCounts, .inl (cc 0, 17, .inl ((fX0_writeSign k94_1 (0 : Int32) c_p0_signCounts_L94 c_p0_signs_L94).1))), (a_p0_signs, .inl (cc 0, 680, .inl ((fX0_writeSign k94_1 (0 : Int32) c_p0_signCounts_L94 c_p0_signs_L94).2)))] := hD
          refine lv_iload hx hb dX0_writeCrossings_163 (lv_at hl 12 rfl) ?_
          refine lv_iload hx hb dX0_writeCrossings_165 (lv_at hl 3 rfl) ?_
          refine lv_iadd hx hb dX0_writeCrossings_167 ?_
          refine lv_istore (x := x13 + k94_4) (lv' := [(13, .int (x13 + k94_4)), (17, .int (1 : Int32)), (0, .ref a_p0), (1, .int k94_1), (4, .int k94_4), (5, .int k94_5), (6, .int k94_6), (7, .int k94_7), (8, .int k94_8), (9, .int k94_9), (10, .int k94_10), (11, .int k94_11), (12, .int k94_12), (14, .int x14), (15, .int x15), (16, .int x16)]) hx hb dX0_writeCrossings_168 hl (by decide) rfl (fun ls hl => ?_)
          refine lv_iinc (v := x15 + (1 : Int32)) (lv' := [(15, .int (x15 + (1 : Int32))), (13, .int (x13 + k94_4)), (17, .int (1 : Int32)), (0, .ref a_p0), (1, .int k94_1), (4, .int k94_4), (5, .int k94_5), (6, .int k94_6), (7, .int k94_7), (8, .int k94_8), (9, .int k94_9), (10, .int k94_10), (11, .int k94_11), (12, .int k94_12), (14, .int x14), (16, .int x16)]) hx hb dX0_writeCrossings_170 hl (k := 14) rfl (by first | rfl | decide) (by decide) rfl (fun ls hl => ?_)
          refine lv_goto (tgt := 200) hx hb dX0_writeCrossings_173 (by decide) ?_
          refine lv_iinc (v := x16 + (1 : Int32)) (lv' := [(16, .int (x16 + (1 : Int32))), (15, .int (x15 + (1 : Int32))), (13, .int (x13 + k94_4)), (17, .int (1 : Int32)), (0, .ref a_p0), (1, .int k94_1), (4, .int k94_4), (5, .int k94_5), (6, .int k94_6), (7, .int k94_7), (8, .int k94_8), (9, .int k94_9), (10, .int k94_10), (11, .int k94_11), (12, .int k94_12), (14, .int x14)]) hx hb dX0_writeCrossings_200 hl (k := 15) rfl (by first | rfl | decide) (by decide) rfl (fun ls hl => ?_)
          refine lv_goto (tgt := 94) hx hb dX0_writeCrossings_203 (by decide) ?_
          have hl := lv_sub (l' := [(0, .ref a_p0), (1, .int k94_1), (4, .int k94_4), (5, .int k94_5), (6, .int k94_6), (7, .int k94_7), (8, .int k94_8), (9, .int k94_9), (10, .int k94_10), (11, .int k94_11), (12, .int k94_12), (13, .int (x13 + k94_4)), (14, .int x14), (15, .int (x15 + (1 : Int32))), (16, .int (x16 + (1 : Int32)))]) hl [4, 5, 6, 7, 8, 9, 10, 11, 12, 13, 14, 2, 15, 1, 0] rfl
          cases h
          exact KS (x13 + k94_4) x14 (x15 + (1 : Int32)) (x16 + (1 : Int32)) ((fX0_writeSign k94_1 (0 : Int32) c_p0_signCounts_L94 c_p0_signs_L94).1) ((fX0_writeSign k94_1 (0 : Int32) c_p0_signCounts_L94 c_p0_signs_L94).2) rfl _ _ _ hP hD hS hl
  have hL94 : ∀ (QQ : State → Prop) (n : Nat) (k94_1 : Int32) (k94_4 : Int32) (k94_5 : Int32) (k94_6 : Int32) (k94_7 : Int32) (k94_8 : Int32) (k94_9 : Int32) (k94_10 : Int32) (k94_11 : Int32) (k94_12 : Int32) (x13 : Int32) (x14 : Int32) (x15 : Int32) (x16 : Int32) (c_p0_signCounts_L94 : Nat → Int32) (c_p0_signs_L94 : Nat → Int32) (r9 : (Nat → Int32) × (Nat → Int32)), loopF (fun (z : Int32 × Int32 × Int32 × Int32 × (Nat → Int32) × (Nat → Int32)) => fX0_writeCrossings_L94 k94_1 k94_4 k94_5 k94_6 k94_7 k94_8 k94_9 k94_10 k94_11 k94_12 z.1 z.2.1 z.2.2.1 z.2.2.2.1 z.2.2.2.2.1 z.2.2.2.2.2) n (x13, x14, x15, x16, c_p0_signCounts_L94, c_p0_signs_L94) = some r9 → ∀ (H : Heap) (locs : List Loc) (ls : Array Slot), va_P D vwCl [(a_p0, .inr (0, [.ref a_p0_strokes, .ref a_p0_lengths, .ref a_p0_points, .ref a_p0_signCounts, .ref a_p0_signs])), (a_p0_signCounts, .inl (cc 0, 17, .inl c_p0_signCounts_L94)), (a_p0_signs, .inl (cc 0, 680, .inl c_p0_signs_L94))] H → va_D A [(a_p0, .inr (0, [.ref a_p0_strokes, .ref a_p0_lengths, .ref a_p0_points, .ref a_p0_signCounts, .ref a_p0_signs])), (a_p0_signCounts, .inl (cc 0, 17, .inl c_p0_signCounts_L94)), (a_p0_signs, .inl (cc 0, 680, .inl c_p0_signs_L94))] → va_S A s.heap H locs → lv_has ls 18 [(0, .ref a_p0), (1, .int k94_1), (4, .int k94_4), (5, .int k94_5), (6, .int k94_6), (7, .int k94_7), (8, .int k94_8), (9, .int k94_9), (10, .int k94_10), (11, .int k94_11), (12, .int k94_12), (13, .int x13), (14, .int x14), (15, .int x15), (16, .int x16)] → (∀ (c_p0_signCounts_E94 : Nat → Int32) (c_p0_signs_E94 : Nat → Int32), r9 = (c_p0_signCounts_E94, c_p0_signs_E94) → ∀ (H : Heap) (locs : List Loc) (ls : Array Slot), va_P D vwCl [(a_p0, .inr (0, [.ref a_p0_strokes, .ref a_p0_lengths, .ref a_p0_points, .ref a_p0_signCounts, .ref a_p0_signs])), (a_p0_signCounts, .inl (cc 0, 17, .inl c_p0_signCounts_E94)), (a_p0_signs, .inl (cc 0, 680, .inl c_p0_signs_E94))] H → va_D A [(a_p0, .inr (0, [.ref a_p0_strokes, .ref a_p0_lengths, .ref a_p0_points, .ref a_p0_signCounts, .ref a_p0_signs])), (a_p0_signCounts, .inl (cc 0, 17, .inl c_p0_signCounts_E94)), (a_p0_signs, .inl (cc 0, 680, .inl c_p0_signs_E94))] → va_S A s.heap H locs → lv_has ls 18 [] → W p l e ({ frames := 3, cells := 0, slots := 0, locals := 65 } : Room) s m args below meth c H locs 0 0 QQ (F0 m 206 ls [])) → W p l e ({ frames := 3, cells := 0, slots := 0, locals := 65 } : Room) s m args below meth c H locs 0 0 QQ (F0 m 94 ls []) := by
    intro QQ n
    induction n with
    | zero => intro k94_1 k94_4 k94_5 k94_6 k94_7 k94_8 k94_9 k94_10 k94_11 k94_12 x13 x14 x15 x16 c_p0_signCounts_L94 c_p0_signs_L94 r9 h; exact (loopF_zero h).elim
    | succ n ih =>
      intro k94_1 k94_4 k94_5 k94_6 k94_7 k94_8 k94_9 k94_10 k94_11 k94_12 x13 x14 x15 x16 c_p0_signCounts_L94 c_p0_signs_L94 r9 h H locs ls hP hD hS hl KX0
      obtain ⟨z9, hz, h⟩ := loopF_step h
      exact hB94 QQ k94_1 k94_4 k94_5 k94_6 k94_7 k94_8 k94_9 k94_10 k94_11 k94_12 x13 x14 x15 x16 c_p0_signCounts_L94 c_p0_signs_L94 z9 hz H locs ls hP hD hS hl (fun x13_b x14_b x15_b x16_b c_p0_signCounts_L94_b c_p0_signs_L94_b q9 H9 locs9 ls9 hP9 hD9 hS9 hl9 => ih k94_1 k94_4 k94_5 k94_6 k94_7 k94_8 k94_9 k94_10 k94_11 k94_12 x13_b x14_b x15_b x16_b c_p0_signCounts_L94_b c_p0_signs_L94_b r9 (by rcases h with ⟨s9, h1, h2⟩ | h1 <;> rw [h1] at q9 <;> cases q9; exact h2) H9 locs9 ls9 hP9 hD9 hS9 hl9 KX0) (fun c_p0_signCounts_E94 c_p0_signs_E94 q9 => KX0 c_p0_signCounts_E94 c_p0_signs_E94 (by rcases h with ⟨s9, h1, h2⟩ | h1 <;> rw [h1] at q9 <;> cases q9; rfl))
  refine lv_iload_n hx hb dX0_writeCrossings_0 rfl (lv_at hl 2 rfl) ?_
  refine lv_bipush (v := (61 : Int32)) hx hb dX0_writeCrossings_1 (by decide) ?_
  refine lv_idiv hx hb dX0_writeCrossings_3 (by decide) ?_
  refine lv_istore (x := p2 / (61 : Int32)) (lv' := [(5, .int (p2 / (61 : Int32))), (0, .ref a_p0), (1, .int p1), (2, .int p2), (3, .int p3), (4, .int p4)]) hx hb dX0_writeCrossings_4 hl (by decide) rfl (fun ls hl => ?_)
  refine lv_iload_n hx hb dX0_writeCrossings_6 rfl (lv_at hl 3 rfl) ?_
  refine lv_bipush (v := (61 : Int32)) hx hb dX0_writeCrossings_7 (by decide) ?_
  refine lv_irem hx hb dX0_writeCrossings_9 (by decide) ?_
  refine lv_istore (x := xrem p2 (61 : Int32)) (lv' := [(6, .int (xrem p2 (61 : Int32))), (5, .int (p2 / (61 : Int32))), (0, .ref a_p0), (1, .int p1), (2, .int p2), (3, .int p3), (4, .int p4)]) hx hb dX0_writeCrossings_10 hl (by decide) rfl (fun ls hl => ?_)
  refine lv_iload_n hx hb dX0_writeCrossings_12 rfl (lv_at hl 5 rfl) ?_
  refine lv_bipush (v := (61 : Int32)) hx hb dX0_writeCrossings_13 (by decide) ?_
  refine lv_idiv hx hb dX0_writeCrossings_15 (by decide) ?_
  refine lv_istore (x := p3 / (61 : Int32)) (lv' := [(7, .int (p3 / (61 : Int32))), (6, .int (xrem p2 (61 : Int32))), (5, .int (p2 / (61 : Int32))), (0, .ref a_p0), (1, .int p1), (2, .int p2), (3, .int p3), (4, .int p4)]) hx hb dX0_writeCrossings_16 hl (by decide) rfl (fun ls hl => ?_)
  refine lv_iload_n hx hb dX0_writeCrossings_18 rfl (lv_at hl 6 rfl) ?_
  refine lv_bipush (v := (61 : Int32)) hx hb dX0_writeCrossings_19 (by decide) ?_
  refine lv_irem hx hb dX0_writeCrossings_21 (by decide) ?_
  refine lv_istore (x := xrem p3 (61 : Int32)) (lv' := [(8, .int (xrem p3 (61 : Int32))), (7, .int (p3 / (61 : Int32))), (6, .int (xrem p2 (61 : Int32))), (5, .int (p2 / (61 : Int32))), (0, .ref a_p0), (1, .int p1), (2, .int p2), (3, .int p3), (4, .int p4)]) hx hb dX0_writeCrossings_22 hl (by decide) rfl (fun ls hl => ?_)
  refine lv_iload hx hb dX0_writeCrossings_24 (lv_at hl 1 rfl) ?_
  refine lv_iload hx hb dX0_writeCrossings_26 (lv_at hl 3 rfl) ?_
  refine lv_isub hx hb dX0_writeCrossings_28 ?_
  refine va_mabs hx hb (hml.trans hl.1.symm) hown k1 k2 k3 k4 (Nat.le_of_ble_eq_true rfl) (Nat.le_of_ble_eq_true rfl) (Nat.zero_le _) (Nat.zero_le _) dX0_writeCrossings_29 ?_
  refine W.eq (g2 := F0 m 32 ls [.int (xabs ((p3 / (61 : Int32)) - (p2 / (61 : Int32))))]) rfl ?_
  obtain ⟨n9_1, q1, h⟩ := b1_some h
  replace q1 := Option.some.inj q1
  refine W.eq (g2 := F0 m 32 ls [.int n9_1]) (by rw [q1]) ?_
  refine lv_istore (x := n9_1) (lv' := [(9, .int n9_1), (8, .int (xrem p3 (61 : Int32))), (7, .int (p3 / (61 : Int32))), (6, .int (xrem p2 (61 : Int32))), (5, .int (p2 / (61 : Int32))), (0, .ref a_p0), (1, .int p1), (2, .int p2), (3, .int p3), (4, .int p4)]) hx hb dX0_writeCrossings_32 hl (by decide) rfl (fun ls hl => ?_)
  refine lv_iload hx hb dX0_writeCrossings_34 (lv_at hl 1 rfl) ?_
  refine lv_iload hx hb dX0_writeCrossings_36 (lv_at hl 3 rfl) ?_
  refine lv_isub hx hb dX0_writeCrossings_38 ?_
  refine va_mabs hx hb (hml.trans hl.1.symm) hown k1 k2 k3 k4 (Nat.le_of_ble_eq_true rfl) (Nat.le_of_ble_eq_true rfl) (Nat.zero_le _) (Nat.zero_le _) dX0_writeCrossings_39 ?_
  refine W.eq (g2 := F0 m 42 ls [.int (xabs ((xrem p3 (61 : Int32)) - (xrem p2 (61 : Int32))))]) rfl ?_
  obtain ⟨n10_2, q2, h⟩ := b1_some h
  replace q2 := Option.some.inj q2
  refine W.eq (g2 := F0 m 42 ls [.int n10_2]) (by rw [q2]) ?_
  refine lv_istore (x := n10_2) (lv' := [(10, .int n10_2), (9, .int n9_1), (8, .int (xrem p3 (61 : Int32))), (7, .int (p3 / (61 : Int32))), (6, .int (xrem p2 (61 : Int32))), (5, .int (p2 / (61 : Int32))), (0, .ref a_p0), (1, .int p1), (2, .int p2), (3, .int p3), (4, .int p4)]) hx hb dX0_writeCrossings_42 hl (by decide) rfl (fun ls hl => ?_)
  refine lv_iload hx hb dX0_writeCrossings_44 (lv_at hl 5 rfl) ?_
  refine lv_iload hx hb dX0_writeCrossings_46 (lv_at hl 3 rfl) ?_
  refine lv_iload hx hb dX0_writeCrossings_48 (lv_at hl 10 rfl) ?_
  obtain ⟨r_3, hc3, h⟩ := b1_some h
  refine xcalli (wr := [(a_p0, .inr (0, [.ref a_p0_strokes, .ref a_p0_lengths, .ref a_p0_points, .ref a_p0_signCounts, .ref a_p0_signs])), (a_p0_signCounts, .inl (cc 0, 17, .inl c_p0_signCounts)), (a_p0_signs, .inl (cc 0, 680, .inl c_p0_signs))]) [] [0, 1, 2] (xrunS (As := [.int (p2 / (61 : Int32)), .int (p3 / (61 : Int32)), .int p4]) (rest := []) F ((kX0_linesBetween l D cc (p0 := p2 / (61 : Int32)) (p1 := p3 / (61 : Int32)) (p2 := p4) (r0 := r_3) (h := hc3)) _) (cwS 3 hts gX0_writeCrossings_X0_linesBetween rfl rfl rfl (by decide +kernel) ⟨Nat.le_of_ble_eq_true rfl, Nat.le_of_ble_eq_true rfl⟩) hK hN hP hD [] rfl (by decide) rfl hl rfl (Nat.le_of_ble_eq_true rfl) dX0_writeCrossings_50 ⟨Nat.zero_le _, Nat.zero_le _⟩) hP hD hS hA rfl rfl (by decide) (by decide) (fun _ H locs hP hD hS => ?_)
  have hP : va_P D vwCl [(a_p0, .inr (0, [.ref a_p0_strokes, .ref a_p0_lengths, .ref a_p0_points, .ref a_p0_signCounts, .ref a_p0_signs])), (a_p0_signCounts, .inl (cc 0, 17, .inl c_p0_signCounts)), (a_p0_signs, .inl (cc 0, 680, .inl c_p0_signs))] H := hP
  have hD : va_D A [(a_p0, .inr (0, [.ref a_p0_strokes, .ref a_p0_lengths, .ref a_p0_points, .ref a_p0_signCounts, .ref a_p0_signs])), (a_p0_signCounts, .inl (cc 0, 17, .inl c_p0_signCounts)), (a_p0_signs, .inl (cc 0, 680, .inl c_p0_signs))] := hD
  refine lv_istore (x := r_3) (lv' := [(11, .int r_3), (10, .int n10_2), (9, .int n9_1), (8, .int (xrem p3 (61 : Int32))), (7, .int (p3 / (61 : Int32))), (6, .int (xrem p2 (61 : Int32))), (5, .int (p2 / (61 : Int32))), (0, .ref a_p0), (1, .int p1), (2, .int p2), (3, .int p3), (4, .int p4)]) hx hb dX0_writeCrossings_53 hl (by decide) rfl (fun ls hl => ?_)
  refine lv_iload hx hb dX0_writeCrossings_55 (lv_at hl 5 rfl) ?_
  refine lv_iload hx hb dX0_writeCrossings_57 (lv_at hl 3 rfl) ?_
  refine lv_iload hx hb dX0_writeCrossings_59 (lv_at hl 11 rfl) ?_
  obtain ⟨r_5, hc5, h⟩ := b1_some h
  refine xcalli (wr := [(a_p0, .inr (0, [.ref a_p0_strokes, .ref a_p0_lengths, .ref a_p0_points, .ref a_p0_signCounts, .ref a_p0_signs])), (a_p0_signCounts, .inl (cc 0, 17, .inl c_p0_signCounts)), (a_p0_signs, .inl (cc 0, 680, .inl c_p0_signs))]) [] [0, 1, 2] (xrunS (As := [.int (xrem p2 (61 : Int32)), .int (xrem p3 (61 : Int32)), .int p4]) (rest := []) F ((kX0_linesBetween l D cc (p0 := xrem p2 (61 : Int32)) (p1 := xrem p3 (61 : Int32)) (p2 := p4) (r0 := r_5) (h := hc5)) _) (cwS 3 hts gX0_writeCrossings_X0_linesBetween rfl rfl rfl (by decide +kernel) ⟨Nat.le_of_ble_eq_true rfl, Nat.le_of_ble_eq_true rfl⟩) hK hN hP hD [] rfl (by decide) rfl hl rfl (Nat.le_of_ble_eq_true rfl) dX0_writeCrossings_61 ⟨Nat.zero_le _, Nat.zero_le _⟩) hP hD hS hA rfl rfl (by decide) (by decide) (fun _ H locs hP hD hS => ?_)
  have hP : va_P D vwCl [(a_p0, .inr (0, [.ref a_p0_strokes, .ref a_p0_lengths, .ref a_p0_points, .ref a_p0_signCounts, .ref a_p0_signs])), (a_p0_signCounts, .inl (cc 0, 17, .inl c_p0_signCounts)), (a_p0_signs, .inl (cc 0, 680, .inl c_p0_signs))] H := hP
  have hD : va_D A [(a_p0, .inr (0, [.ref a_p0_strokes, .ref a_p0_lengths, .ref a_p0_points, .ref a_p0_signCounts, .ref a_p0_signs])), (a_p0_signCounts, .inl (cc 0, 17, .inl c_p0_signCounts)), (a_p0_signs, .inl (cc 0, 680, .inl c_p0_signs))] := hD
  refine lv_istore (x := r_5) (lv' := [(12, .int r_5), (11, .int r_3), (10, .int n10_2), (9, .int n9_1), (8, .int (xrem p3 (61 : Int32))), (7, .int (p3 / (61 : Int32))), (6, .int (xrem p2 (61 : Int32))), (5, .int (p2 / (61 : Int32))), (0, .ref a_p0), (1, .int p1), (2, .int p2), (3, .int p3), (4, .int p4)]) hx hb dX0_writeCrossings_64 hl (by decide) rfl (fun ls hl => ?_)
  refine lv_iload hx hb dX0_writeCrossings_66 (lv_at hl 7 rfl) ?_
  refine lv_iload hx hb dX0_writeCrossings_68 (lv_at hl 5 rfl) ?_
  refine lv_iload hx hb dX0_writeCrossings_70 (lv_at hl 12 rfl) ?_
  obtain ⟨r_7, hc7, h⟩ := b1_some h
  refine xcalli (wr := [(a_p0, .inr (0, [.ref a_p0_strokes, .ref a_p0_lengths, .ref a_p0_points, .ref a_p0_signCounts, .ref a_p0_signs])), (a_p0_signCounts, .inl (cc 0, 17, .inl c_p0_signCounts)), (a_p0_signs, .inl (cc 0, 680, .inl c_p0_signs))]) [] [0, 1, 2] (xrunS (As := [.int (p2 / (61 : Int32)), .int (p3 / (61 : Int32)), .int p4]) (rest := []) F ((kX0_wayToLine l D cc (p0 := p2 / (61 : Int32)) (p1 := p3 / (61 : Int32)) (p2 := p4) (r0 := r_7) (h := hc7)) _) (cwS 3 hts gX0_writeCrossings_X0_wayToLine rfl rfl rfl (by decide +kernel) ⟨Nat.le_of_ble_eq_true rfl, Nat.le_of_ble_eq_true rfl⟩) hK hN hP hD [] rfl (by decide) rfl hl rfl (Nat.le_of_ble_eq_true rfl) dX0_writeCrossings_72 ⟨Nat.zero_le _, Nat.zero_le _⟩) hP hD hS hA rfl rfl (by decide) (by decide) (fun _ H locs hP hD hS => ?_)
  have hP : va_P D vwCl [(a_p0, .inr (0, [.ref a_p0_strokes, .ref a_p0_lengths, .ref a_p0_points, .ref a_p0_signCounts, .ref a_p0_signs])), (a_p0_signCounts, .inl (cc 0, 17, .inl c_p0_signCounts)), (a_p0_signs, .inl (cc 0, 680, .inl c_p0_signs))] H := hP
  have hD : va_D A [(a_p0, .inr (0, [.ref a_p0_strokes, .ref a_p0_lengths, .ref a_p0_points, .ref a_p0_signCounts, .ref a_p0_signs])), (a_p0_signCounts, .inl (cc 0, 17, .inl c_p0_signCounts)), (a_p0_signs, .inl (cc 0, 680, .inl c_p0_signs))] := hD
  refine lv_istore (x := r_7) (lv' := [(13, .int r_7), (12, .int r_5), (11, .int r_3), (10, .int n10_2), (9, .int n9_1), (8, .int (xrem p3 (61 : Int32))), (7, .int (p3 / (61 : Int32))), (6, .int (xrem p2 (61 : Int32))), (5, .int (p2 / (61 : Int32))), (0, .ref a_p0), (1, .int p1), (2, .int p2), (3, .int p3), (4, .int p4)]) hx hb dX0_writeCrossings_75 hl (by decide) rfl (fun ls hl => ?_)
  refine lv_iload hx hb dX0_writeCrossings_77 (lv_at hl 7 rfl) ?_
  refine lv_iload hx hb dX0_writeCrossings_79 (lv_at hl 5 rfl) ?_
  refine lv_iload hx hb dX0_writeCrossings_81 (lv_at hl 13 rfl) ?_
  obtain ⟨r_9, hc9, h⟩ := b1_some h
  refine xcalli (wr := [(a_p0, .inr (0, [.ref a_p0_strokes, .ref a_p0_lengths, .ref a_p0_points, .ref a_p0_signCounts, .ref a_p0_signs])), (a_p0_signCounts, .inl (cc 0, 17, .inl c_p0_signCounts)), (a_p0_signs, .inl (cc 0, 680, .inl c_p0_signs))]) [] [0, 1, 2] (xrunS (As := [.int (xrem p2 (61 : Int32)), .int (xrem p3 (61 : Int32)), .int p4]) (rest := []) F ((kX0_wayToLine l D cc (p0 := xrem p2 (61 : Int32)) (p1 := xrem p3 (61 : Int32)) (p2 := p4) (r0 := r_9) (h := hc9)) _) (cwS 3 hts gX0_writeCrossings_X0_wayToLine rfl rfl rfl (by decide +kernel) ⟨Nat.le_of_ble_eq_true rfl, Nat.le_of_ble_eq_true rfl⟩) hK hN hP hD [] rfl (by decide) rfl hl rfl (Nat.le_of_ble_eq_true rfl) dX0_writeCrossings_83 ⟨Nat.zero_le _, Nat.zero_le _⟩) hP hD hS hA rfl rfl (by decide) (by decide) (fun _ H locs hP hD hS => ?_)
  have hP : va_P D vwCl [(a_p0, .inr (0, [.ref a_p0_strokes, .ref a_p0_lengths, .ref a_p0_points, .ref a_p0_signCounts, .ref a_p0_signs])), (a_p0_signCounts, .inl (cc 0, 17, .inl c_p0_signCounts)), (a_p0_signs, .inl (cc 0, 680, .inl c_p0_signs))] H := hP
  have hD : va_D A [(a_p0, .inr (0, [.ref a_p0_strokes, .ref a_p0_lengths, .ref a_p0_points, .ref a_p0_signCounts, .ref a_p0_signs])), (a_p0_signCounts, .inl (cc 0, 17, .inl c_p0_signCounts)), (a_p0_signs, .inl (cc 0, 680, .inl c_p0_signs))] := hD
  refine lv_istore (x := r_9) (lv' := [(14, .int r_9), (13, .int r_7), (12, .int r_5), (11, .int r_3), (10, .int n10_2), (9, .int n9_1), (8, .int (xrem p3 (61 : Int32))), (7, .int (p3 / (61 : Int32))), (6, .int (xrem p2 (61 : Int32))), (5, .int (p2 / (61 : Int32))), (0, .ref a_p0), (1, .int p1), (2, .int p2), (3, .int p3), (4, .int p4)]) hx hb dX0_writeCrossings_86 hl (by decide) rfl (fun ls hl => ?_)
  refine lv_iconst (v := (0 : Int32)) hx hb dX0_writeCrossings_88 (by decide) ?_
  refine lv_istore (x := (0 : Int32)) (lv' := [(15, .int (0 : Int32)), (14, .int r_9), (13, .int r_7), (12, .int r_5), (11, .int r_3), (10, .int n10_2), (9, .int n9_1), (8, .int (xrem p3 (61 : Int32))), (7, .int (p3 / (61 : Int32))), (6, .int (xrem p2 (61 : Int32))), (5, .int (p2 / (61 : Int32))), (0, .ref a_p0), (1, .int p1), (2, .int p2), (3, .int p3), (4, .int p4)]) hx hb dX0_writeCrossings_89 hl (by decide) rfl (fun ls hl => ?_)
  refine lv_iconst (v := (0 : Int32)) hx hb dX0_writeCrossings_91 (by decide) ?_
  refine lv_istore (x := (0 : Int32)) (lv' := [(16, .int (0 : Int32)), (15, .int (0 : Int32)), (14, .int r_9), (13, .int r_7), (12, .int r_5), (11, .int r_3), (10, .int n10_2), (9, .int n9_1), (8, .int (xrem p3 (61 : Int32))), (7, .int (p3 / (61 : Int32))), (6, .int (xrem p2 (61 : Int32))), (5, .int (p2 / (61 : Int32))), (0, .ref a_p0), (1, .int p1), (2, .int p2), (3, .int p3), (4, .int p4)]) hx hb dX0_writeCrossings_92 hl (by decide) rfl (fun ls hl => ?_)
  have hl := lv_sub (l' := [(0, .ref a_p0), (1, .int p1), (4, .int p4), (5, .int (p2 / (61 : Int32))), (6, .int (xrem p2 (61 : Int32))), (7, .int (p3 / (61 : Int32))), (8, .int (xrem p3 (61 : Int32))), (9, .int n9_1), (10, .int n10_2), (11, .int r_3), (12, .int r_5), (13, .int r_7), (14, .int r_9), (15, .int (0 : Int32)), (16, .int (0 : Int32))]) hl [12, 13, 16, 11, 10, 9, 8, 7, 6, 5, 4, 3, 2, 1, 0] rfl
  obtain ⟨c_p0_signCounts_29, c_p0_signs_29, hq9, h⟩ := b2_some h
  refine hL94 _ FUEL p1 p4 (p2 / (61 : Int32)) (xrem p2 (61 : Int32)) (p3 / (61 : Int32)) (xrem p3 (61 : Int32)) n9_1 n10_2 r_3 r_5 r_7 r_9 (0 : Int32) (0 : Int32) c_p0_signCounts c_p0_signs (c_p0_signCounts_29, c_p0_signs_29) hq9 _ _ _ hP hD hS hl (fun c_p0_signCounts_29z c_p0_signs_29z q9 H locs ls hP hD hS hl => ?_)
  cases q9
  cases h
  exact xendv F hsz hAe hK hP hD hS (fun _ => 0) rfl (Nat.zero_le _) (Nat.zero_le _) dX0_writeCrossings_206
theorem inX0_beginStroke_X0 : ∀ w ∈ wsX00, w ∈ wsX0_beginStroke := by decide +kernel
set_option maxHeartbeats 4000000 in
set_option maxRecDepth 100000 in
theorem kX0_beginStroke (l : Launch) (D : va_G) (cc : Nat → ClassId) (a_p0 : Nat) (a_p0_strokes : Nat) (a_p0_lengths : Nat) (a_p0_points : Nat) (a_p0_signCounts : Nat) (a_p0_signs : Nat) (c_p0_strokes : Nat → Int32) (c_p0_signCounts : Nat → Int32) (c_p0_lengths : Nat → Int32) (c_p0_points : Nat → Int32) (c_p0_signs : Nat → Int32) (p1 : Int32) (p2 : Int32) (r0 : Int32) (c_p0_strokes_o : Nat → Int32) (c_p0_signCounts_o : Nat → Int32) (c_p0_lengths_o : Nat → Int32) (c_p0_points_o : Nat → Int32) (c_p0_signs_o : Nat → Int32) (h : fX0_beginStroke p1 p2 c_p0_strokes c_p0_signCounts c_p0_lengths c_p0_points c_p0_signs = (r0, c_p0_strokes_o, c_p0_signCounts_o, c_p0_lengths_o, c_p0_points_o, c_p0_signs_o)) : xMi l yX0_beginStroke wsX0_beginStroke ({ frames := 3, cells := 0, slots := 0, locals := 65 } : Room) D cc [.ref a_p0, .int p1, .int p2] [(a_p0, .inr (0, [.ref a_p0_strokes, .ref a_p0_lengths, .ref a_p0_points, .ref a_p0_signCounts, .ref a_p0_signs])), (a_p0_strokes, .inl (cc 0, 17, .inl c_p0_strokes)), (a_p0_signCounts, .inl (cc 0, 17, .inl c_p0_signCounts)), (a_p0_lengths, .inl (cc 0, 51, .inl c_p0_lengths)), (a_p0_points, .inl (cc 0, 612, .inl c_p0_points)), (a_p0_signs, .inl (cc 0, 680, .inl c_p0_signs))] r0 (fun _ => [(a_p0, .inr (0, [.ref a_p0_strokes, .ref a_p0_lengths, .ref a_p0_points, .ref a_p0_signCounts, .ref a_p0_signs])), (a_p0_strokes, .inl (cc 0, 17, .inl c_p0_strokes_o)), (a_p0_signCounts, .inl (cc 0, 17, .inl c_p0_signCounts_o)), (a_p0_lengths, .inl (cc 0, 51, .inl c_p0_lengths_o)), (a_p0_points, .inl (cc 0, 612, .inl c_p0_points_o)), (a_p0_signs, .inl (cc 0, 680, .inl c_p0_signs_o))]) 0 0 := by
  intro sz
  refine xstart (bc := cX0_beginStroke) (maxL := 5) (ret := (some .boolean)) (by decide) rfl (Nat.le_of_ble_eq_true rfl) ?_
  intro p e s m args below meth c A hargs hsz hAe F hK hN hA hmn hP hD hS ls hl
  have hx := F.1.1
  have hb := F.1.2.1
  have hml := F.1.2.2.1
  have hown := F.1.2.2.2.1
  have hts := F.1.2.2.2.2
  have hl : lv_has ls 5 [(0, .ref a_p0), (1, .int p1), (2, .int p2)] := hl
  have k1 := hts (.fieldLink RX0 9 "RuledStrokes$Figures" "strokes" "[I") (by decide +kernel)
  have k2 := hts (.initialized RX6) (by decide +kernel)
  have k3 := hts (.static yX6_putCell) (by decide +kernel)
  have k4 := hts (.fieldLink RX0 15 "RuledStrokes$Figures" "lengths" "[I") (by decide +kernel)
  unfold fX0_beginStroke at h
  refine lv_aload_n hx hb dX0_beginStroke_0 rfl (lv_at hl 0 rfl) ?_
  refine lv_iload_n hx hb dX0_beginStroke_1 rfl (lv_at hl 1 rfl) ?_
  refine xcalli (wr := [(a_p0_signCounts, .inl (cc 0, 17, .inl c_p0_signCounts)), (a_p0_lengths, .inl (cc 0, 51, .inl c_p0_lengths)), (a_p0_points, .inl (cc 0, 612, .inl c_p0_points)), (a_p0_signs, .inl (cc 0, 680, .inl c_p0_signs))]) [0, 1] [2, 3, 4, 5] (xrunV (As := [.int p1]) (rest := []) F ((kX0_strokesOf l D cc (a_p0 := a_p0) (a_p0_strokes := a_p0_strokes) (a_p0_lengths := a_p0_lengths) (a_p0_points := a_p0_points) (a_p0_signCounts := a_p0_signCounts) (a_p0_signs := a_p0_signs) (c_p0_strokes := c_p0_strokes) (p1 := p1) (r0 := (fX0_strokesOf p1 c_p0_strokes)) (h := rfl)) _) (cwV 1 hts gX0_beginStroke_X0_strokesOf rfl rfl rfl (by decide +kernel) ⟨Nat.le_of_ble_eq_true rfl, Nat.le_of_ble_eq_true rfl⟩) hK hN hP hD [0, 1] rfl (by decide) (q0 := 0) rfl rfl rfl rfl hl rfl (Nat.le_of_ble_eq_true rfl) dX0_beginStroke_2 ⟨Nat.zero_le _, Nat.zero_le _⟩) hP hD hS hA rfl rfl (by decide) (by decide) (fun _ H locs hP hD hS => ?_)
  have hP : va_P D vwCl [(a_p0_signCounts, .inl (cc 0, 17, .inl c_p0_signCounts)), (a_p0_lengths, .inl (cc 0, 51, .inl c_p0_lengths)), (a_p0_points, .inl (cc 0, 612, .inl c_p0_points)), (a_p0_signs, .inl (cc 0, 680, .inl c_p0_signs)), (a_p0, .inr (0, [.ref a_p0_strokes, .ref a_p0_lengths, .ref a_p0_points, .ref a_p0_signCounts, .ref a_p0_signs])), (a_p0_strokes, .inl (cc 0, 17, .inl c_p0_strokes))] H := hP
  have hD : va_D A [(a_p0_signCounts, .inl (cc 0, 17, .inl c_p0_signCounts)), (a_p0_lengths, .inl (cc 0, 51, .inl c_p0_lengths)), (a_p0_points, .inl (cc 0, 612, .inl c_p0_points)), (a_p0_signs, .inl (cc 0, 680, .inl c_p0_signs)), (a_p0, .inr (0, [.ref a_p0_strokes, .ref a_p0_lengths, .ref a_p0_points, .ref a_p0_signCounts, .ref a_p0_signs])), (a_p0_strokes, .inl (cc 0, 17, .inl c_p0_strokes))] := hD
  refine lv_istore_n (x := (fX0_strokesOf p1 c_p0_strokes)) (lv' := [(3, .int (fX0_strokesOf p1 c_p0_strokes)), (0, .ref a_p0), (1, .int p1), (2, .int p2)]) hx hb dX0_beginStroke_5 rfl hl (by decide) rfl (fun ls hl => ?_)
  refine lv_iload_n hx hb dX0_beginStroke_6 rfl (lv_at hl 0 rfl) ?_
  refine lv_if_le (tgt := 14) hx hb dX0_beginStroke_7 (by decide) (fun (c2 : (fX0_strokesOf p1 c_p0_strokes) ≤ 0) => ?_) (fun (c2 : ¬ (fX0_strokesOf p1 c_p0_strokes) ≤ 0) => ?_)
  · replace h := ip c2 h
    refine lv_iconst (v := (0 : Int32)) hx hb dX0_beginStroke_14 (by decide) ?_
    refine lv_istore (x := (0 : Int32)) (lv' := [(4, .int (0 : Int32)), (3, .int (fX0_strokesOf p1 c_p0_strokes)), (0, .ref a_p0), (1, .int p1), (2, .int p2)]) hx hb dX0_beginStroke_15 hl (by decide) rfl (fun ls hl => ?_)
    refine lv_iload_n hx hb dX0_beginStroke_17 rfl (lv_at hl 1 rfl) ?_
    refine lv_iconst (v := (3 : Int32)) hx hb dX0_beginStroke_18 (by decide) ?_
    refine lv_icmp_ge (tgt := 35) hx hb dX0_beginStroke_19 (by decide) (fun (c3 : (3 : Int32) ≤ (fX0_strokesOf p1 c_p0_strokes)) => ?_) (fun (c3 : ¬ (3 : Int32) ≤ (fX0_strokesOf p1 c_p0_strokes)) => ?_)
    · replace h := ip c3 h
      refine lv_iconst (v := (0 : Int32)) hx hb dX0_beginStroke_35 (by decide) ?_
      have hP := hP.sub (ws' := [(a_p0, .inr (0, [.ref a_p0_strokes, .ref a_p0_lengths, .ref a_p0_points, .ref a_p0_signCounts, .ref a_p0_signs])), (a_p0_strokes, .inl (cc 0, 17, .inl c_p0_strokes)), (a_p0_signCounts, .inl (cc 0, 17, .inl c_p0_signCounts)), (a_p0_lengths, .inl (cc 0, 51, .inl c_p0_lengths)), (a_p0_points, .inl (cc 0, 612, .inl c_p0_points)), (a_p0_signs, .inl (cc 0, 680, .inl c_p0_signs))]) [4, 5, 0, 1, 2, 3] rfl
      have hD := hD.sub (ws' := [(a_p0, .inr (0, [.ref a_p0_strokes, .ref a_p0_lengths, .ref a_p0_points, .ref a_p0_signCounts, .ref a_p0_signs])), (a_p0_strokes, .inl (cc 0, 17, .inl c_p0_strokes)), (a_p0_signCounts, .inl (cc 0, 17, .inl c_p0_signCounts)), (a_p0_lengths, .inl (cc 0, 51, .inl c_p0_lengths)), (a_p0_points, .inl (cc 0, 612, .inl c_p0_points)), (a_p0_signs, .inl (cc 0, 680, .inl c_p0_signs))]) [4, 5, 0, 1, 2, 3] (by decide) rfl
      cases h
      exact xendz F (by decide) hsz hAe hK hP hD hS (fun _ => 0) rfl rfl (Nat.zero_le _) (Nat.zero_le _) dX0_beginStroke_36
    · replace h := iq c3 h
      refine lv_aload_n hx hb dX0_beginStroke_22 rfl (lv_at hl 2 rfl) ?_
      refine lv_iload_n hx hb dX0_beginStroke_23 rfl (lv_at hl 3 rfl) ?_
      refine xcalli (wr := [(a_p0_lengths, .inl (cc 0, 51, .inl c_p0_lengths)), (a_p0_points, .inl (cc 0, 612, .inl c_p0_points)), (a_p0_signs, .inl (cc 0, 680, .inl c_p0_signs)), (a_p0_strokes, .inl (cc 0, 17, .inl c_p0_strokes))]) [4, 0] [1, 2, 3, 5] (xrunV (As := [.int p1]) (rest := []) F ((kX0_signsOf l D cc (a_p0 := a_p0) (a_p0_signCounts := a_p0_signCounts) (a_p0_strokes := a_p0_strokes) (a_p0_lengths := a_p0_lengths) (a_p0_points := a_p0_points) (a_p0_signs := a_p0_signs) (c_p0_signCounts := c_p0_signCounts) (p1 := p1) (r0 := (fX0_signsOf p1 c_p0_signCounts)) (h := rfl)) _) (cwV 1 hts gX0_beginStroke_X0_signsOf rfl rfl rfl (by decide +kernel) ⟨Nat.le_of_ble_eq_true rfl, Nat.le_of_ble_eq_true rfl⟩) hK hN hP hD [4, 0] rfl (by decide) (q0 := 4) rfl rfl rfl rfl hl rfl (Nat.le_of_ble_eq_true rfl) dX0_beginStroke_24 ⟨Nat.zero_le _, Nat.zero_le _⟩) hP hD hS hA rfl rfl (by decide) (by decide) (fun _ H locs hP hD hS => ?_)
      have hP : va_P D vwCl [(a_p0_lengths, .inl (cc 0, 51, .inl c_p0_lengths)), (a_p0_points, .inl (cc 0, 612, .inl c_p0_points)), (a_p0_signs, .inl (cc 0, 680, .inl c_p0_signs)), (a_p0_strokes, .inl (cc 0, 17, .inl c_p0_strokes)), (a_p0, .inr (0, [.ref a_p0_strokes, .ref a_p0_lengths, .ref a_p0_points, .ref a_p0_signCounts, .ref a_p0_signs])), (a_p0_signCounts, .inl (cc 0, 17, .inl c_p0_signCounts))] H := hP
      have hD : va_D A [(a_p0_lengths, .inl (cc 0, 51, .inl c_p0_lengths)), (a_p0_points, .inl (cc 0, 612, .inl c_p0_points)), (a_p0_signs, .inl (cc 0, 680, .inl c_p0_signs)), (a_p0_strokes, .inl (cc 0, 17, .inl c_p0_strokes)), (a_p0, .inr (0, [.ref a_p0_strokes, .ref a_p0_lengths, .ref a_p0_points, .ref a_p0_signCounts, .ref a_p0_signs])), (a_p0_signCounts, .inl (cc 0, 17, .inl c_p0_signCounts))] := hD
      refine lv_iload hx hb dX0_beginStroke_27 (lv_at hl 0 rfl) ?_
      refine lv_iadd hx hb dX0_beginStroke_29 ?_
      refine lv_bipush (v := (40 : Int32)) hx hb dX0_beginStroke_30 (by decide) ?_
      refine lv_icmp_le (tgt := 37) hx hb dX0_beginStroke_32 (by decide) (fun (c5 : ((fX0_signsOf p1 c_p0_signCounts) + (0 : Int32)) ≤ (40 : Int32)) => ?_) (fun (c5 : ¬ ((fX0_signsOf p1 c_p0_signCounts) + (0 : Int32)) ≤ (40 : Int32)) => ?_)
      · replace h := ip c5 h
        refine lv_aload_n hx hb dX0_beginStroke_37 rfl (lv_at hl 2 rfl) ?_
        refine va_get (D := D) (ci := 0) (v := .ref a_p0_strokes) (C := RX0) (T := TX0) (N := 5) hx hb hts inX0_beginStroke_X0 hown hK hP 4 rfl rfl 0 (by decide) k1 (fun _ h9 => h9) rfl dX0_beginStroke_38 ?_
        refine lv_iload_n hx hb dX0_beginStroke_41 rfl (lv_at hl 3 rfl) ?_
        refine lv_iload_n hx hb dX0_beginStroke_42 rfl (lv_at hl 1 rfl) ?_
        refine lv_iconst (v := (1 : Int32)) hx hb dX0_beginStroke_43 (by decide) ?_
        refine lv_iadd hx hb dX0_beginStroke_44 ?_
        refine xcallv (wr := [(a_p0_lengths, .inl (cc 0, 51, .inl c_p0_lengths)), (a_p0_points, .inl (cc 0, 612, .inl c_p0_points)), (a_p0_signs, .inl (cc 0, 680, .inl c_p0_signs)), (a_p0, .inr (0, [.ref a_p0_strokes, .ref a_p0_lengths, .ref a_p0_points, .ref a_p0_signCounts, .ref a_p0_signs])), (a_p0_signCounts, .inl (cc 0, 17, .inl c_p0_signCounts))]) [3] [0, 1, 2, 4, 5] (xrunSN (As := [.ref a_p0_strokes, .int p1, .int ((fX0_strokesOf p1 c_p0_strokes) + (1 : Int32))]) (rest := []) F ((kX6_putCellT l D cc (a_p0 := a_p0_strokes) (n_p0 := 17) (c_p0 := c_p0_strokes) (p1 := p1) (p2 := (fX0_strokesOf p1 c_p0_strokes) + (1 : Int32)) (c_p0_o := (xput p1 ((fX0_strokesOf p1 c_p0_strokes) + (1 : Int32)) 17 c_p0_strokes)) (h := rfl)) _) ⟨va_cnB 3 hts gX0_beginStroke_X6_putCell_n35 rfl rfl rfl (hN.1 (.methodLinkNest RX0 35 yX6_putCell RX6) (by simp [xNest])) k2 (by decide +kernel) ⟨Nat.le_of_ble_eq_true rfl, Nat.le_of_ble_eq_true rfl⟩, k3⟩ hK hN hP hD [3] rfl (by decide) rfl hl rfl (Nat.le_of_ble_eq_true rfl) dX0_beginStroke_45 ⟨Nat.zero_le _, Nat.zero_le _⟩) hP hD hS hA rfl rfl (by decide) (by decide) (fun _ H locs hP hD hS => ?_)
        have hP : va_P D vwCl [(a_p0_lengths, .inl (cc 0, 51, .inl c_p0_lengths)), (a_p0_points, .inl (cc 0, 612, .inl c_p0_points)), (a_p0_signs, .inl (cc 0, 680, .inl c_p0_signs)), (a_p0, .inr (0, [.ref a_p0_strokes, .ref a_p0_lengths, .ref a_p0_points, .ref a_p0_signCounts, .ref a_p0_signs])), (a_p0_signCounts, .inl (cc 0, 17, .inl c_p0_signCounts)), (a_p0_strokes, .inl (cc 0, 17, .inl (xput p1 ((fX0_strokesOf p1 c_p0_strokes) + (1 : Int32)) 17 c_p0_strokes)))] H := hP
        have hD : va_D A [(a_p0_lengths, .inl (cc 0, 51, .inl c_p0_lengths)), (a_p0_points, .inl (cc 0, 612, .inl c_p0_points)), (a_p0_signs, .inl (cc 0, 680, .inl c_p0_signs)), (a_p0, .inr (0, [.ref a_p0_strokes, .ref a_p0_lengths, .ref a_p0_points, .ref a_p0_signCounts, .ref a_p0_signs])), (a_p0_signCounts, .inl (cc 0, 17, .inl c_p0_signCounts)), (a_p0_strokes, .inl (cc 0, 17, .inl (xput p1 ((fX0_strokesOf p1 c_p0_strokes) + (1 : Int32)) 17 c_p0_strokes)))] := hD
        refine lv_aload_n hx hb dX0_beginStroke_48 rfl (lv_at hl 2 rfl) ?_
        refine va_get (D := D) (ci := 0) (v := .ref a_p0_lengths) (C := RX0) (T := TX0) (N := 5) hx hb hts inX0_beginStroke_X0 hown hK hP 3 rfl rfl 1 (by decide) k4 (fun _ h9 => h9) rfl dX0_beginStroke_49 ?_
        refine lv_iload_n hx hb dX0_beginStroke_52 rfl (lv_at hl 3 rfl) ?_
        refine lv_iconst (v := (3 : Int32)) hx hb dX0_beginStroke_53 (by decide) ?_
        refine lv_imul hx hb dX0_beginStroke_54 ?_
        refine lv_iload_n hx hb dX0_beginStroke_55 rfl (lv_at hl 1 rfl) ?_
        refine lv_iadd hx hb dX0_beginStroke_56 ?_
        refine lv_iconst (v := (1 : Int32)) hx hb dX0_beginStroke_57 (by decide) ?_
        refine xcallv (wr := [(a_p0_points, .inl (cc 0, 612, .inl c_p0_points)), (a_p0_signs, .inl (cc 0, 680, .inl c_p0_signs)), (a_p0, .inr (0, [.ref a_p0_strokes, .ref a_p0_lengths, .ref a_p0_points, .ref a_p0_signCounts, .ref a_p0_signs])), (a_p0_signCounts, .inl (cc 0, 17, .inl c_p0_signCounts)), (a_p0_strokes, .inl (cc 0, 17, .inl (xput p1 ((fX0_strokesOf p1 c_p0_strokes) + (1 : Int32)) 17 c_p0_strokes)))]) [0] [1, 2, 3, 4, 5] (xrunSN (As := [.ref a_p0_lengths, .int ((p1 * (3 : Int32)) + (fX0_strokesOf p1 c_p0_strokes)), .int (1 : Int32)]) (rest := []) F ((kX6_putCellT l D cc (a_p0 := a_p0_lengths) (n_p0 := 51) (c_p0 := c_p0_lengths) (p1 := (p1 * (3 : Int32)) + (fX0_strokesOf p1 c_p0_strokes)) (p2 := (1 : Int32)) (c_p0_o := (xput ((p1 * (3 : Int32)) + (fX0_strokesOf p1 c_p0_strokes)) (1 : Int32) 51 c_p0_lengths)) (h := rfl)) _) ⟨va_cnB 3 hts gX0_beginStroke_X6_putCell_n35 rfl rfl rfl (hN.1 (.methodLinkNest RX0 35 yX6_putCell RX6) (by simp [xNest])) k2 (by decide +kernel) ⟨Nat.le_of_ble_eq_true rfl, Nat.le_of_ble_eq_true rfl⟩, k3⟩ hK hN hP hD [0] rfl (by decide) rfl hl rfl (Nat.le_of_ble_eq_true rfl) dX0_beginStroke_58 ⟨Nat.zero_le _, Nat.zero_le _⟩) hP hD hS hA rfl rfl (by decide) (by decide) (fun _ H locs hP hD hS => ?_)
        have hP : va_P D vwCl [(a_p0_points, .inl (cc 0, 612, .inl c_p0_points)), (a_p0_signs, .inl (cc 0, 680, .inl c_p0_signs)), (a_p0, .inr (0, [.ref a_p0_strokes, .ref a_p0_lengths, .ref a_p0_points, .ref a_p0_signCounts, .ref a_p0_signs])), (a_p0_signCounts, .inl (cc 0, 17, .inl c_p0_signCounts)), (a_p0_strokes, .inl (cc 0, 17, .inl (xput p1 ((fX0_strokesOf p1 c_p0_strokes) + (1 : Int32)) 17 c_p0_strokes))), (a_p0_lengths, .inl (cc 0, 51, .inl (xput ((p1 * (3 : Int32)) + (fX0_strokesOf p1 c_p0_strokes)) (1 : Int32) 51 c_p0_lengths)))] H := hP
        have hD : va_D A [(a_p0_points, .inl (cc 0, 612, .inl c_p0_points)), (a_p0_signs, .inl (cc 0, 680, .inl c_p0_signs)), (a_p0, .inr (0, [.ref a_p0_strokes, .ref a_p0_lengths, .ref a_p0_points, .ref a_p0_signCounts, .ref a_p0_signs])), (a_p0_signCounts, .inl (cc 0, 17, .inl c_p0_signCounts)), (a_p0_strokes, .inl (cc 0, 17, .inl (xput p1 ((fX0_strokesOf p1 c_p0_strokes) + (1 : Int32)) 17 c_p0_strokes))), (a_p0_lengths, .inl (cc 0, 51, .inl (xput ((p1 * (3 : Int32)) + (fX0_strokesOf p1 c_p0_strokes)) (1 : Int32) 51 c_p0_lengths)))] := hD
        refine lv_aload_n hx hb dX0_beginStroke_61 rfl (lv_at hl 2 rfl) ?_
        refine lv_iload_n hx hb dX0_beginStroke_62 rfl (lv_at hl 3 rfl) ?_
        refine lv_iload_n hx hb dX0_beginStroke_63 rfl (lv_at hl 1 rfl) ?_
        refine lv_iconst (v := (0 : Int32)) hx hb dX0_beginStroke_64 (by decide) ?_
        refine lv_iload_n hx hb dX0_beginStroke_65 rfl (lv_at hl 4 rfl) ?_
        refine xcallv (wr := [(a_p0_signs, .inl (cc 0, 680, .inl c_p0_signs)), (a_p0_signCounts, .inl (cc 0, 17, .inl c_p0_signCounts)), (a_p0_strokes, .inl (cc 0, 17, .inl (xput p1 ((fX0_strokesOf p1 c_p0_strokes) + (1 : Int32)) 17 c_p0_strokes))), (a_p0_lengths, .inl (cc 0, 51, .inl (xput ((p1 * (3 : Int32)) + (fX0_strokesOf p1 c_p0_strokes)) (1 : Int32) 51 c_p0_lengths)))]) [2, 0] [1, 3, 4, 5] (xrunV (As := [.int p1, .int (fX0_strokesOf p1 c_p0_strokes), .int (0 : Int32), .int p2]) (rest := []) F ((kX0_putPoint l D cc (a_p0 := a_p0) (a_p0_points := a_p0_points) (a_p0_strokes := a_p0_strokes) (a_p0_lengths := a_p0_lengths) (a_p0_signCounts := a_p0_signCounts) (a_p0_signs := a_p0_signs) (c_p0_points := c_p0_points) (p1 := p1) (p2 := (fX0_strokesOf p1 c_p0_strokes)) (p3 := (0 : Int32)) (p4 := p2) (c_p0_points_o := (fX0_putPoint p1 (fX0_strokesOf p1 c_p0_strokes) (0 : Int32) p2 c_p0_points)) (h := rfl)) _) (cwV 4 hts gX0_beginStroke_X0_putPoint rfl rfl rfl (by decide +kernel) ⟨Nat.le_of_ble_eq_true rfl, Nat.le_of_ble_eq_true rfl⟩) hK hN hP hD [2, 0] rfl (by decide) (q0 := 2) rfl rfl rfl rfl hl rfl (Nat.le_of_ble_eq_true rfl) dX0_beginStroke_66 ⟨Nat.zero_le _, Nat.zero_le _⟩) hP hD hS hA rfl rfl (by decide) (by decide) (fun _ H locs hP hD hS => ?_)
        have hP : va_P D vwCl [(a_p0_signs, .inl (cc 0, 680, .inl c_p0_signs)), (a_p0_signCounts, .inl (cc 0, 17, .inl c_p0_signCounts)), (a_p0_strokes, .inl (cc 0, 17, .inl (xput p1 ((fX0_strokesOf p1 c_p0_strokes) + (1 : Int32)) 17 c_p0_strokes))), (a_p0_lengths, .inl (cc 0, 51, .inl (xput ((p1 * (3 : Int32)) + (fX0_strokesOf p1 c_p0_strokes)) (1 : Int32) 51 c_p0_lengths))), (a_p0, .inr (0, [.ref a_p0_strokes, .ref a_p0_lengths, .ref a_p0_points, .ref a_p0_signCounts, .ref a_p0_signs])), (a_p0_points, .inl (cc 0, 612, .inl (fX0_putPoint p1 (fX0_strokesOf p1 c_p0_strokes) (0 : Int32) p2 c_p0_points)))] H := hP
        have hD : va_D A [(a_p0_signs, .inl (cc 0, 680, .inl c_p0_signs)), (a_p0_signCounts, .inl (cc 0, 17, .inl c_p0_signCounts)), (a_p0_strokes, .inl (cc 0, 17, .inl (xput p1 ((fX0_strokesOf p1 c_p0_strokes) + (1 : Int32)) 17 c_p0_strokes))), (a_p0_lengths, .inl (cc 0, 51, .inl (xput ((p1 * (3 : Int32)) + (fX0_strokesOf p1 c_p0_strokes)) (1 : Int32) 51 c_p0_lengths))), (a_p0, .inr (0, [.ref a_p0_strokes, .ref a_p0_lengths, .ref a_p0_points, .ref a_p0_signCounts, .ref a_p0_signs])), (a_p0_points, .inl (cc 0, 612, .inl (fX0_putPoint p1 (fX0_strokesOf p1 c_p0_strokes) (0 : Int32) p2 c_p0_points)))] := hD
        refine lv_iload_n hx hb dX0_beginStroke_69 rfl (lv_at hl 1 rfl) ?_
        refine lv_if_le (tgt := 79) hx hb dX0_beginStroke_70 (by decide) (fun _ => ?_) (fun c9 => absurd c2 c9)
        refine lv_iconst (v := (1 : Int32)) hx hb dX0_beginStroke_79 (by decide) ?_
        have hP := hP.sub (ws' := [(a_p0, .inr (0, [.ref a_p0_strokes, .ref a_p0_lengths, .ref a_p0_points, .ref a_p0_signCounts, .ref a_p0_signs])), (a_p0_strokes, .inl (cc 0, 17, .inl (xput p1 ((fX0_strokesOf p1 c_p0_strokes) + (1 : Int32)) 17 c_p0_strokes))), (a_p0_signCounts, .inl (cc 0, 17, .inl c_p0_signCounts)), (a_p0_lengths, .inl (cc 0, 51, .inl (xput ((p1 * (3 : Int32)) + (fX0_strokesOf p1 c_p0_strokes)) (1 : Int32) 51 c_p0_lengths))), (a_p0_points, .inl (cc 0, 612, .inl (fX0_putPoint p1 (fX0_strokesOf p1 c_p0_strokes) (0 : Int32) p2 c_p0_points))), (a_p0_signs, .inl (cc 0, 680, .inl c_p0_signs))]) [4, 2, 1, 3, 5, 0] rfl
        have hD := hD.sub (ws' := [(a_p0, .inr (0, [.ref a_p0_strokes, .ref a_p0_lengths, .ref a_p0_points, .ref a_p0_signCounts, .ref a_p0_signs])), (a_p0_strokes, .inl (cc 0, 17, .inl (xput p1 ((fX0_strokesOf p1 c_p0_strokes) + (1 : Int32)) 17 c_p0_strokes))), (a_p0_signCounts, .inl (cc 0, 17, .inl c_p0_signCounts)), (a_p0_lengths, .inl (cc 0, 51, .inl (xput ((p1 * (3 : Int32)) + (fX0_strokesOf p1 c_p0_strokes)) (1 : Int32) 51 c_p0_lengths))), (a_p0_points, .inl (cc 0, 612, .inl (fX0_putPoint p1 (fX0_strokesOf p1 c_p0_strokes) (0 : Int32) p2 c_p0_points))), (a_p0_signs, .inl (cc 0, 680, .inl c_p0_signs))]) [4, 2, 1, 3, 5, 0] (by decide) rfl
        cases h
        exact xendz F (by decide) hsz hAe hK hP hD hS (fun _ => 0) rfl rfl (Nat.zero_le _) (Nat.zero_le _) dX0_beginStroke_80
      · replace h := iq c5 h
        refine lv_iconst (v := (0 : Int32)) hx hb dX0_beginStroke_35 (by decide) ?_
        have hP := hP.sub (ws' := [(a_p0, .inr (0, [.ref a_p0_strokes, .ref a_p0_lengths, .ref a_p0_points, .ref a_p0_signCounts, .ref a_p0_signs])), (a_p0_strokes, .inl (cc 0, 17, .inl c_p0_strokes)), (a_p0_signCounts, .inl (cc 0, 17, .inl c_p0_signCounts)), (a_p0_lengths, .inl (cc 0, 51, .inl c_p0_lengths)), (a_p0_points, .inl (cc 0, 612, .inl c_p0_points)), (a_p0_signs, .inl (cc 0, 680, .inl c_p0_signs))]) [4, 3, 5, 0, 1, 2] rfl
        have hD := hD.sub (ws' := [(a_p0, .inr (0, [.ref a_p0_strokes, .ref a_p0_lengths, .ref a_p0_points, .ref a_p0_signCounts, .ref a_p0_signs])), (a_p0_strokes, .inl (cc 0, 17, .inl c_p0_strokes)), (a_p0_signCounts, .inl (cc 0, 17, .inl c_p0_signCounts)), (a_p0_lengths, .inl (cc 0, 51, .inl c_p0_lengths)), (a_p0_points, .inl (cc 0, 612, .inl c_p0_points)), (a_p0_signs, .inl (cc 0, 680, .inl c_p0_signs))]) [4, 3, 5, 0, 1, 2] (by decide) rfl
        cases h
        exact xendz F (by decide) hsz hAe hK hP hD hS (fun _ => 0) rfl rfl (Nat.zero_le _) (Nat.zero_le _) dX0_beginStroke_36
  · replace h := iq c2 h
    refine lv_iconst (v := (1 : Int32)) hx hb dX0_beginStroke_10 (by decide) ?_
    refine lv_goto (tgt := 15) hx hb dX0_beginStroke_11 (by decide) ?_
    refine lv_istore (x := (1 : Int32)) (lv' := [(4, .int (1 : Int32)), (3, .int (fX0_strokesOf p1 c_p0_strokes)), (0, .ref a_p0), (1, .int p1), (2, .int p2)]) hx hb dX0_beginStroke_15 hl (by decide) rfl (fun ls hl => ?_)
    refine lv_iload_n hx hb dX0_beginStroke_17 rfl (lv_at hl 1 rfl) ?_
    refine lv_iconst (v := (3 : Int32)) hx hb dX0_beginStroke_18 (by decide) ?_
    refine lv_icmp_ge (tgt := 35) hx hb dX0_beginStroke_19 (by decide) (fun (c10 : (3 : Int32) ≤ (fX0_strokesOf p1 c_p0_strokes)) => ?_) (fun (c10 : ¬ (3 : Int32) ≤ (fX0_strokesOf p1 c_p0_strokes)) => ?_)
    · replace h := ip c10 h
      refine lv_iconst (v := (0 : Int32)) hx hb dX0_beginStroke_35 (by decide) ?_
      have hP := hP.sub (ws' := [(a_p0, .inr (0, [.ref a_p0_strokes, .ref a_p0_lengths, .ref a_p0_points, .ref a_p0_signCounts, .ref a_p0_signs])), (a_p0_strokes, .inl (cc 0, 17, .inl c_p0_strokes)), (a_p0_signCounts, .inl (cc 0, 17, .inl c_p0_signCounts)), (a_p0_lengths, .inl (cc 0, 51, .inl c_p0_lengths)), (a_p0_points, .inl (cc 0, 612, .inl c_p0_points)), (a_p0_signs, .inl (cc 0, 680, .inl c_p0_signs))]) [4, 5, 0, 1, 2, 3] rfl
      have hD := hD.sub (ws' := [(a_p0, .inr (0, [.ref a_p0_strokes, .ref a_p0_lengths, .ref a_p0_points, .ref a_p0_signCounts, .ref a_p0_signs])), (a_p0_strokes, .inl (cc 0, 17, .inl c_p0_strokes)), (a_p0_signCounts, .inl (cc 0, 17, .inl c_p0_signCounts)), (a_p0_lengths, .inl (cc 0, 51, .inl c_p0_lengths)), (a_p0_points, .inl (cc 0, 612, .inl c_p0_points)), (a_p0_signs, .inl (cc 0, 680, .inl c_p0_signs))]) [4, 5, 0, 1, 2, 3] (by decide) rfl
      cases h
      exact xendz F (by decide) hsz hAe hK hP hD hS (fun _ => 0) rfl rfl (Nat.zero_le _) (Nat.zero_le _) dX0_beginStroke_36
    · replace h := iq c10 h
      refine lv_aload_n hx hb dX0_beginStroke_22 rfl (lv_at hl 2 rfl) ?_
      refine lv_iload_n hx hb dX0_beginStroke_23 rfl (lv_at hl 3 rfl) ?_
      refine xcalli (wr := [(a_p0_lengths, .inl (cc 0, 51, .inl c_p0_lengths)), (a_p0_points, .inl (cc 0, 612, .inl c_p0_points)), (a_p0_signs, .inl (cc 0, 680, .inl c_p0_signs)), (a_p0_strokes, .inl (cc 0, 17, .inl c_p0_strokes))]) [4, 0] [1, 2, 3, 5] (xrunV (As := [.int p1]) (rest := []) F ((kX0_signsOf l D cc (a_p0 := a_p0) (a_p0_signCounts := a_p0_signCounts) (a_p0_strokes := a_p0_strokes) (a_p0_lengths := a_p0_lengths) (a_p0_points := a_p0_points) (a_p0_signs := a_p0_signs) (c_p0_signCounts := c_p0_signCounts) (p1 := p1) (r0 := (fX0_signsOf p1 c_p0_signCounts)) (h := rfl)) _) (cwV 1 hts gX0_beginStroke_X0_signsOf rfl rfl rfl (by decide +kernel) ⟨Nat.le_of_ble_eq_true rfl, Nat.le_of_ble_eq_true rfl⟩) hK hN hP hD [4, 0] rfl (by decide) (q0 := 4) rfl rfl rfl rfl hl rfl (Nat.le_of_ble_eq_true rfl) dX0_beginStroke_24 ⟨Nat.zero_le _, Nat.zero_le _⟩) hP hD hS hA rfl rfl (by decide) (by decide) (fun _ H locs hP hD hS => ?_)
      have hP : va_P D vwCl [(a_p0_lengths, .inl (cc 0, 51, .inl c_p0_lengths)), (a_p0_points, .inl (cc 0, 612, .inl c_p0_points)), (a_p0_signs, .inl (cc 0, 680, .inl c_p0_signs)), (a_p0_strokes, .inl (cc 0, 17, .inl c_p0_strokes)), (a_p0, .inr (0, [.ref a_p0_strokes, .ref a_p0_lengths, .ref a_p0_points, .ref a_p0_signCounts, .ref a_p0_signs])), (a_p0_signCounts, .inl (cc 0, 17, .inl c_p0_signCounts))] H := hP
      have hD : va_D A [(a_p0_lengths, .inl (cc 0, 51, .inl c_p0_lengths)), (a_p0_points, .inl (cc 0, 612, .inl c_p0_points)), (a_p0_signs, .inl (cc 0, 680, .inl c_p0_signs)), (a_p0_strokes, .inl (cc 0, 17, .inl c_p0_strokes)), (a_p0, .inr (0, [.ref a_p0_strokes, .ref a_p0_lengths, .ref a_p0_points, .ref a_p0_signCounts, .ref a_p0_signs])), (a_p0_signCounts, .inl (cc 0, 17, .inl c_p0_signCounts))] := hD
      refine lv_iload hx hb dX0_beginStroke_27 (lv_at hl 0 rfl) ?_
      refine lv_iadd hx hb dX0_beginStroke_29 ?_
      refine lv_bipush (v := (40 : Int32)) hx hb dX0_beginStroke_30 (by decide) ?_
      refine lv_icmp_le (tgt := 37) hx hb dX0_beginStroke_32 (by decide) (fun (c12 : ((fX0_signsOf p1 c_p0_signCounts) + (1 : Int32)) ≤ (40 : Int32)) => ?_) (fun (c12 : ¬ ((fX0_signsOf p1 c_p0_signCounts) + (1 : Int32)) ≤ (40 : Int32)) => ?_)
      · replace h := ip c12 h
        refine lv_aload_n hx hb dX0_beginStroke_37 rfl (lv_at hl 2 rfl) ?_
        refine va_get (D := D) (ci := 0) (v := .ref a_p0_strokes) (C := RX0) (T := TX0) (N := 5) hx hb hts inX0_beginStroke_X0 hown hK hP 4 rfl rfl 0 (by decide) k1 (fun _ h9 => h9) rfl dX0_beginStroke_38 ?_
        refine lv_iload_n hx hb dX0_beginStroke_41 rfl (lv_at hl 3 rfl) ?_
        refine lv_iload_n hx hb dX0_beginStroke_42 rfl (lv_at hl 1 rfl) ?_
        refine lv_iconst (v := (1 : Int32)) hx hb dX0_beginStroke_43 (by decide) ?_
        refine lv_iadd hx hb dX0_beginStroke_44 ?_
        refine xcallv (wr := [(a_p0_lengths, .inl (cc 0, 51, .inl c_p0_lengths)), (a_p0_points, .inl (cc 0, 612, .inl c_p0_points)), (a_p0_signs, .inl (cc 0, 680, .inl c_p0_signs)), (a_p0, .inr (0, [.ref a_p0_strokes, .ref a_p0_lengths, .ref a_p0_points, .ref a_p0_signCounts, .ref a_p0_signs])), (a_p0_signCounts, .inl (cc 0, 17, .inl c_p0_signCounts))]) [3] [0, 1, 2, 4, 5] (xrunSN (As := [.ref a_p0_strokes, .int p1, .int ((fX0_strokesOf p1 c_p0_strokes) + (1 : Int32))]) (rest := []) F ((kX6_putCellT l D cc (a_p0 := a_p0_strokes) (n_p0 := 17) (c_p0 := c_p0_strokes) (p1 := p1) (p2 := (fX0_strokesOf p1 c_p0_strokes) + (1 : Int32)) (c_p0_o := (xput p1 ((fX0_strokesOf p1 c_p0_strokes) + (1 : Int32)) 17 c_p0_strokes)) (h := rfl)) _) ⟨va_cnB 3 hts gX0_beginStroke_X6_putCell_n35 rfl rfl rfl (hN.1 (.methodLinkNest RX0 35 yX6_putCell RX6) (by simp [xNest])) k2 (by decide +kernel) ⟨Nat.le_of_ble_eq_true rfl, Nat.le_of_ble_eq_true rfl⟩, k3⟩ hK hN hP hD [3] rfl (by decide) rfl hl rfl (Nat.le_of_ble_eq_true rfl) dX0_beginStroke_45 ⟨Nat.zero_le _, Nat.zero_le _⟩) hP hD hS hA rfl rfl (by decide) (by decide) (fun _ H locs hP hD hS => ?_)
        have hP : va_P D vwCl [(a_p0_lengths, .inl (cc 0, 51, .inl c_p0_lengths)), (a_p0_points, .inl (cc 0, 612, .inl c_p0_points)), (a_p0_signs, .inl (cc 0, 680, .inl c_p0_signs)), (a_p0, .inr (0, [.ref a_p0_strokes, .ref a_p0_lengths, .ref a_p0_points, .ref a_p0_signCounts, .ref a_p0_signs])), (a_p0_signCounts, .inl (cc 0, 17, .inl c_p0_signCounts)), (a_p0_strokes, .inl (cc 0, 17, .inl (xput p1 ((fX0_strokesOf p1 c_p0_strokes) + (1 : Int32)) 17 c_p0_strokes)))] H := hP
        have hD : va_D A [(a_p0_lengths, .inl (cc 0, 51, .inl c_p0_lengths)), (a_p0_points, .inl (cc 0, 612, .inl c_p0_points)), (a_p0_signs, .inl (cc 0, 680, .inl c_p0_signs)), (a_p0, .inr (0, [.ref a_p0_strokes, .ref a_p0_lengths, .ref a_p0_points, .ref a_p0_signCounts, .ref a_p0_signs])), (a_p0_signCounts, .inl (cc 0, 17, .inl c_p0_signCounts)), (a_p0_strokes, .inl (cc 0, 17, .inl (xput p1 ((fX0_strokesOf p1 c_p0_strokes) + (1 : Int32)) 17 c_p0_strokes)))] := hD
        refine lv_aload_n hx hb dX0_beginStroke_48 rfl (lv_at hl 2 rfl) ?_
        refine va_get (D := D) (ci := 0) (v := .ref a_p0_lengths) (C := RX0) (T := TX0) (N := 5) hx hb hts inX0_beginStroke_X0 hown hK hP 3 rfl rfl 1 (by decide) k4 (fun _ h9 => h9) rfl dX0_beginStroke_49 ?_
        refine lv_iload_n hx hb dX0_beginStroke_52 rfl (lv_at hl 3 rfl) ?_
        refine lv_iconst (v := (3 : Int32)) hx hb dX0_beginStroke_53 (by decide) ?_
        refine lv_imul hx hb dX0_beginStroke_54 ?_
        refine lv_iload_n hx hb dX0_beginStroke_55 rfl (lv_at hl 1 rfl) ?_
        refine lv_iadd hx hb dX0_beginStroke_56 ?_
        refine lv_iconst (v := (1 : Int32)) hx hb dX0_beginStroke_57 (by decide) ?_
        refine xcallv (wr := [(a_p0_points, .inl (cc 0, 612, .inl c_p0_points)), (a_p0_signs, .inl (cc 0, 680, .inl c_p0_signs)), (a_p0, .inr (0, [.ref a_p0_strokes, .ref a_p0_lengths, .ref a_p0_points, .ref a_p0_signCounts, .ref a_p0_signs])), (a_p0_signCounts, .inl (cc 0, 17, .inl c_p0_signCounts)), (a_p0_strokes, .inl (cc 0, 17, .inl (xput p1 ((fX0_strokesOf p1 c_p0_strokes) + (1 : Int32)) 17 c_p0_strokes)))]) [0] [1, 2, 3, 4, 5] (xrunSN (As := [.ref a_p0_lengths, .int ((p1 * (3 : Int32)) + (fX0_strokesOf p1 c_p0_strokes)), .int (1 : Int32)]) (rest := []) F ((kX6_putCellT l D cc (a_p0 := a_p0_lengths) (n_p0 := 51) (c_p0 := c_p0_lengths) (p1 := (p1 * (3 : Int32)) + (fX0_strokesOf p1 c_p0_strokes)) (p2 := (1 : Int32)) (c_p0_o := (xput ((p1 * (3 : Int32)) + (fX0_strokesOf p1 c_p0_strokes)) (1 : Int32) 51 c_p0_lengths)) (h := rfl)) _) ⟨va_cnB 3 hts gX0_beginStroke_X6_putCell_n35 rfl rfl rfl (hN.1 (.methodLinkNest RX0 35 yX6_putCell RX6) (by simp [xNest])) k2 (by decide +kernel) ⟨Nat.le_of_ble_eq_true rfl, Nat.le_of_ble_eq_true rfl⟩, k3⟩ hK hN hP hD [0] rfl (by decide) rfl hl rfl (Nat.le_of_ble_eq_true rfl) dX0_beginStroke_58 ⟨Nat.zero_le _, Nat.zero_le _⟩) hP hD hS hA rfl rfl (by decide) (by decide) (fun _ H locs hP hD hS => ?_)
        have hP : va_P D vwCl [(a_p0_points, .inl (cc 0, 612, .inl c_p0_points)), (a_p0_signs, .inl (cc 0, 680, .inl c_p0_signs)), (a_p0, .inr (0, [.ref a_p0_strokes, .ref a_p0_lengths, .ref a_p0_points, .ref a_p0_signCounts, .ref a_p0_signs])), (a_p0_signCounts, .inl (cc 0, 17, .inl c_p0_signCounts)), (a_p0_strokes, .inl (cc 0, 17, .inl (xput p1 ((fX0_strokesOf p1 c_p0_strokes) + (1 : Int32)) 17 c_p0_strokes))), (a_p0_lengths, .inl (cc 0, 51, .inl (xput ((p1 * (3 : Int32)) + (fX0_strokesOf p1 c_p0_strokes)) (1 : Int32) 51 c_p0_lengths)))] H := hP
        have hD : va_D A [(a_p0_points, .inl (cc 0, 612, .inl c_p0_points)), (a_p0_signs, .inl (cc 0, 680, .inl c_p0_signs)), (a_p0, .inr (0, [.ref a_p0_strokes, .ref a_p0_lengths, .ref a_p0_points, .ref a_p0_signCounts, .ref a_p0_signs])), (a_p0_signCounts, .inl (cc 0, 17, .inl c_p0_signCounts)), (a_p0_strokes, .inl (cc 0, 17, .inl (xput p1 ((fX0_strokesOf p1 c_p0_strokes) + (1 : Int32)) 17 c_p0_strokes))), (a_p0_lengths, .inl (cc 0, 51, .inl (xput ((p1 * (3 : Int32)) + (fX0_strokesOf p1 c_p0_strokes)) (1 : Int32) 51 c_p0_lengths)))] := hD
        refine lv_aload_n hx hb dX0_beginStroke_61 rfl (lv_at hl 2 rfl) ?_
        refine lv_iload_n hx hb dX0_beginStroke_62 rfl (lv_at hl 3 rfl) ?_
        refine lv_iload_n hx hb dX0_beginStroke_63 rfl (lv_at hl 1 rfl) ?_
        refine lv_iconst (v := (0 : Int32)) hx hb dX0_beginStroke_64 (by decide) ?_
        refine lv_iload_n hx hb dX0_beginStroke_65 rfl (lv_at hl 4 rfl) ?_
        refine xcallv (wr := [(a_p0_signs, .inl (cc 0, 680, .inl c_p0_signs)), (a_p0_signCounts, .inl (cc 0, 17, .inl c_p0_signCounts)), (a_p0_strokes, .inl (cc 0, 17, .inl (xput p1 ((fX0_strokesOf p1 c_p0_strokes) + (1 : Int32)) 17 c_p0_strokes))), (a_p0_lengths, .inl (cc 0, 51, .inl (xput ((p1 * (3 : Int32)) + (fX0_strokesOf p1 c_p0_strokes)) (1 : Int32) 51 c_p0_lengths)))]) [2, 0] [1, 3, 4, 5] (xrunV (As := [.int p1, .int (fX0_strokesOf p1 c_p0_strokes), .int (0 : Int32), .int p2]) (rest := []) F ((kX0_putPoint l D cc (a_p0 := a_p0) (a_p0_points := a_p0_points) (a_p0_strokes := a_p0_strokes) (a_p0_lengths := a_p0_lengths) (a_p0_signCounts := a_p0_signCounts) (a_p0_signs := a_p0_signs) (c_p0_points := c_p0_points) (p1 := p1) (p2 := (fX0_strokesOf p1 c_p0_strokes)) (p3 := (0 : Int32)) (p4 := p2) (c_p0_points_o := (fX0_putPoint p1 (fX0_strokesOf p1 c_p0_strokes) (0 : Int32) p2 c_p0_points)) (h := rfl)) _) (cwV 4 hts gX0_beginStroke_X0_putPoint rfl rfl rfl (by decide +kernel) ⟨Nat.le_of_ble_eq_true rfl, Nat.le_of_ble_eq_true rfl⟩) hK hN hP hD [2, 0] rfl (by decide) (q0 := 2) rfl rfl rfl rfl hl rfl (Nat.le_of_ble_eq_true rfl) dX0_beginStroke_66 ⟨Nat.zero_le _, Nat.zero_le _⟩) hP hD hS hA rfl rfl (by decide) (by decide) (fun _ H locs hP hD hS => ?_)
        have hP : va_P D vwCl [(a_p0_signs, .inl (cc 0, 680, .inl c_p0_signs)), (a_p0_signCounts, .inl (cc 0, 17, .inl c_p0_signCounts)), (a_p0_strokes, .inl (cc 0, 17, .inl (xput p1 ((fX0_strokesOf p1 c_p0_strokes) + (1 : Int32)) 17 c_p0_strokes))), (a_p0_lengths, .inl (cc 0, 51, .inl (xput ((p1 * (3 : Int32)) + (fX0_strokesOf p1 c_p0_strokes)) (1 : Int32) 51 c_p0_lengths))), (a_p0, .inr (0, [.ref a_p0_strokes, .ref a_p0_lengths, .ref a_p0_points, .ref a_p0_signCounts, .ref a_p0_signs])), (a_p0_points, .inl (cc 0, 612, .inl (fX0_putPoint p1 (fX0_strokesOf p1 c_p0_strokes) (0 : Int32) p2 c_p0_points)))] H := hP
        have hD : va_D A [(a_p0_signs, .inl (cc 0, 680, .inl c_p0_signs)), (a_p0_signCounts, .inl (cc 0, 17, .inl c_p0_signCounts)), (a_p0_strokes, .inl (cc 0, 17, .inl (xput p1 ((fX0_strokesOf p1 c_p0_strokes) + (1 : Int32)) 17 c_p0_strokes))), (a_p0_lengths, .inl (cc 0, 51, .inl (xput ((p1 * (3 : Int32)) + (fX0_strokesOf p1 c_p0_strokes)) (1 : Int32) 51 c_p0_lengths))), (a_p0, .inr (0, [.ref a_p0_strokes, .ref a_p0_lengths, .ref a_p0_points, .ref a_p0_signCounts, .ref a_p0_signs])), (a_p0_points, .inl (cc 0, 612, .inl (fX0_putPoint p1 (fX0_strokesOf p1 c_p0_strokes) (0 : Int32) p2 c_p0_points)))] := hD
        refine lv_iload_n hx hb dX0_beginStroke_69 rfl (lv_at hl 1 rfl) ?_
        refine lv_if_le (tgt := 79) hx hb dX0_beginStroke_70 (by decide) (fun c16 => absurd c16 c2) (fun _ => ?_)
        refine lv_aload_n hx hb dX0_beginStroke_73 rfl (lv_at hl 2 rfl) ?_
        refine lv_iload_n hx hb dX0_beginStroke_74 rfl (lv_at hl 3 rfl) ?_
        refine lv_iconst (v := (4 : Int32)) hx hb dX0_beginStroke_75 (by decide) ?_
        refine xcallv (wr := [(a_p0_strokes, .inl (cc 0, 17, .inl (xput p1 ((fX0_strokesOf p1 c_p0_strokes) + (1 : Int32)) 17 c_p0_strokes))), (a_p0_lengths, .inl (cc 0, 51, .inl (xput ((p1 * (3 : Int32)) + (fX0_strokesOf p1 c_p0_strokes)) (1 : Int32) 51 c_p0_lengths))), (a_p0_points, .inl (cc 0, 612, .inl (fX0_putPoint p1 (fX0_strokesOf p1 c_p0_strokes) (0 : Int32) p2 c_p0_points)))]) [4, 1, 0] [2, 3, 5] (xrunV (As := [.int p1, .int (4 : Int32)]) (rest := []) F ((kX0_writeSign l D cc (a_p0 := a_p0) (a_p0_signCounts := a_p0_signCounts) (a_p0_signs := a_p0_signs) (a_p0_strokes := a_p0_strokes) (a_p0_lengths := a_p0_lengths) (a_p0_points := a_p0_points) (c_p0_signCounts := c_p0_signCounts) (c_p0_signs := c_p0_signs) (p1 := p1) (p2 := (4 : Int32)) (c_p0_signCounts_o := (fX0_writeSign p1 (4 : Int32) c_p0_signCounts c_p0_signs).1) (c_p0_signs_o := (fX0_writeSign p1 (4 : Int32) c_p0_signCounts c_p0_signs).2) (h := rfl)) _) (cwV 2 hts gX0_beginStroke_X0_writeSign rfl rfl rfl (by decide +kernel) ⟨Nat.le_of_ble_eq_true rfl, Nat.le_of_ble_eq_true rfl⟩) hK hN hP hD [4, 1, 0] rfl (by decide) (q0 := 4) rfl rfl rfl rfl hl rfl (Nat.le_of_ble_eq_true rfl) dX0_beginStroke_76 ⟨Nat.zero_le _, Nat.zero_le _⟩) hP hD hS hA rfl rfl (by decide) (by decide) (fun _ H locs hP hD hS => ?_)
        have hP : va_P D vwCl [(a_p0_strokes, .inl (cc 0, 17, .inl (xput p1 ((fX0_strokesOf p1 c_p0_strokes) + (1 : Int32)) 17 c_p0_strokes))), (a_p0_lengths, .inl (cc 0, 51, .inl (xput ((p1 * (3 : Int32)) + (fX0_strokesOf p1 c_p0_strokes)) (1 : Int32) 51 c_p0_lengths))), (a_p0_points, .inl (cc 0, 612, .inl (fX0_putPoint p1 (fX0_strokesOf p1 c_p0_strokes) (0 : Int32) p2 c_p0_points))), (a_p0, .inr (0, [.ref a_p0_strokes, .ref a_p0_lengths, .ref a_p0_points, .ref a_p0_signCounts, .ref a_p0_signs])), (a_p0_signCounts, .inl (cc 0, 17, .inl ((fX0_writeSign p1 (4 : Int32) c_p0_signCounts c_p0_signs).1))), (a_p0_signs, .inl (cc 0, 680, .inl ((fX0_writeSign p1 (4 : Int32) c_p0_signCounts c_p0_signs).2)))] H := hP
        have hD : va_D A [(a_p0_strokes, .inl (cc 0, 17, .inl (xput p1 ((fX0_strokesOf p1 c_p0_strokes) + (1 : Int32)) 17 c_p0_strokes))), (a_p0_lengths, .inl (cc 0, 51, .inl (xput ((p1 * (3 : Int32)) + (fX0_strokesOf p1 c_p0_strokes)) (1 : Int32) 51 c_p0_lengths))), (a_p0_points, .inl (cc 0, 612, .inl (fX0_putPoint p1 (fX0_strokesOf p1 c_p0_strokes) (0 : Int32) p2 c_p0_points))), (a_p0, .inr (0, [.ref a_p0_strokes, .ref a_p0_lengths, .ref a_p0_points, .ref a_p0_signCounts, .ref a_p0_signs])), (a_p0_signCounts, .inl (cc 0, 17, .inl ((fX0_writeSign p1 (4 : Int32) c_p0_signCounts c_p0_signs).1))), (a_p0_signs, .inl (cc 0, 680, .inl ((fX0_writeSign p1 (4 : Int32) c_p0_signCounts c_p0_signs).2)))] := hD
        refine lv_iconst (v := (1 : Int32)) hx hb dX0_beginStroke_79 (by decide) ?_
        have hP := hP.sub (ws' := [(a_p0, .inr (0, [.ref a_p0_strokes, .ref a_p0_lengths, .ref a_p0_points, .ref a_p0_signCounts, .ref a_p0_signs])), (a_p0_strokes, .inl (cc 0, 17, .inl (xput p1 ((fX0_strokesOf p1 c_p0_strokes) + (1 : Int32)) 17 c_p0_strokes))), (a_p0_signCounts, .inl (cc 0, 17, .inl ((fX0_writeSign p1 (4 : Int32) c_p0_signCounts c_p0_signs).1))), (a_p0_lengths, .inl (cc 0, 51, .inl (xput ((p1 * (3 : Int32)) + (fX0_strokesOf p1 c_p0_strokes)) (1 : Int32) 51 c_p0_lengths))), (a_p0_points, .inl (cc 0, 612, .inl (fX0_putPoint p1 (fX0_strokesOf p1 c_p0_strokes) (0 : Int32) p2 c_p0_points))), (a_p0_signs, .inl (cc 0, 680, .inl ((fX0_writeSign p1 (4 : Int32) c_p0_signCounts c_p0_signs).2)))]) [3, 0, 4, 1, 2, 5] rfl
        have hD := hD.sub (ws' := [(a_p0, .inr (0, [.ref a_p0_strokes, .ref a_p0_lengths, .ref a_p0_points, .ref a_p0_signCounts, .ref a_p0_signs])), (a_p0_strokes, .inl (cc 0, 17, .inl (xput p1 ((fX0_strokesOf p1 c_p0_strokes) + (1 : Int32)) 17 c_p0_strokes))), (a_p0_signCounts, .inl (cc 0, 17, .inl ((fX0_writeSign p1 (4 : Int32) c_p0_signCounts c_p0_signs).1))), (a_p0_lengths, .inl (cc 0, 51, .inl (xput ((p1 * (3 : Int32)) + (fX0_strokesOf p1 c_p0_strokes)) (1 : Int32) 51 c_p0_lengths))), (a_p0_points, .inl (cc 0, 612, .inl (fX0_putPoint p1 (fX0_strokesOf p1 c_p0_strokes) (0 : Int32) p2 c_p0_points))), (a_p0_signs, .inl (cc 0, 680, .inl ((fX0_writeSign p1 (4 : Int32) c_p0_signCounts c_p0_signs).2)))]) [3, 0, 4, 1, 2, 5] (by decide) rfl
        cases h
        exact xendz F (by decide) hsz hAe hK hP hD hS (fun _ => 0) rfl rfl (Nat.zero_le _) (Nat.zero_le _) dX0_beginStroke_80
      · replace h := iq c12 h
        refine lv_iconst (v := (0 : Int32)) hx hb dX0_beginStroke_35 (by decide) ?_
        have hP := hP.sub (ws' := [(a_p0, .inr (0, [.ref a_p0_strokes, .ref a_p0_lengths, .ref a_p0_points, .ref a_p0_signCounts, .ref a_p0_signs])), (a_p0_strokes, .inl (cc 0, 17, .inl c_p0_strokes)), (a_p0_signCounts, .inl (cc 0, 17, .inl c_p0_signCounts)), (a_p0_lengths, .inl (cc 0, 51, .inl c_p0_lengths)), (a_p0_points, .inl (cc 0, 612, .inl c_p0_points)), (a_p0_signs, .inl (cc 0, 680, .inl c_p0_signs))]) [4, 3, 5, 0, 1, 2] rfl
        have hD := hD.sub (ws' := [(a_p0, .inr (0, [.ref a_p0_strokes, .ref a_p0_lengths, .ref a_p0_points, .ref a_p0_signCounts, .ref a_p0_signs])), (a_p0_strokes, .inl (cc 0, 17, .inl c_p0_strokes)), (a_p0_signCounts, .inl (cc 0, 17, .inl c_p0_signCounts)), (a_p0_lengths, .inl (cc 0, 51, .inl c_p0_lengths)), (a_p0_points, .inl (cc 0, 612, .inl c_p0_points)), (a_p0_signs, .inl (cc 0, 680, .inl c_p0_signs))]) [4, 3, 5, 0, 1, 2] (by decide) rfl
        cases h
        exact xendz F (by decide) hsz hAe hK hP hD hS (fun _ => 0) rfl rfl (Nat.zero_le _) (Nat.zero_le _) dX0_beginStroke_36
theorem inX0_extendStroke_X0 : ∀ w ∈ wsX00, w ∈ wsX0_extendStroke := by decide +kernel
set_option maxHeartbeats 4000000 in
set_option maxRecDepth 100000 in
theorem kX0_extendStroke (l : Launch) (D : va_G) (cc : Nat → ClassId) (a_p0 : Nat) (a_p0_strokes : Nat) (a_p0_lengths : Nat) (a_p0_points : Nat) (a_p0_signCounts : Nat) (a_p0_signs : Nat) (c_p0_strokes : Nat → Int32) (c_p0_lengths : Nat → Int32) (c_p0_points : Nat → Int32) (c_p0_signCounts : Nat → Int32) (c_p0_signs : Nat → Int32) (p1 : Int32) (p2 : Int32) (p3 : Int32) (r0 : Int32) (c_p0_lengths_o : Nat → Int32) (c_p0_points_o : Nat → Int32) (c_p0_signCounts_o : Nat → Int32) (c_p0_signs_o : Nat → Int32) (h : fX0_extendStroke p1 p2 p3 c_p0_strokes c_p0_lengths c_p0_points c_p0_signCounts c_p0_signs = some (r0, c_p0_lengths_o, c_p0_points_o, c_p0_signCounts_o, c_p0_signs_o)) : xMi l yX0_extendStroke wsX0_extendStroke ({ frames := 4, cells := 0, slots := 0, locals := 102 } : Room) D cc [.ref a_p0, .int p1, .int p2, .int p3] [(a_p0, .inr (0, [.ref a_p0_strokes, .ref a_p0_lengths, .ref a_p0_points, .ref a_p0_signCounts, .ref a_p0_signs])), (a_p0_strokes, .inl (cc 0, 17, .inl c_p0_strokes)), (a_p0_lengths, .inl (cc 0, 51, .inl c_p0_lengths)), (a_p0_points, .inl (cc 0, 612, .inl c_p0_points)), (a_p0_signCounts, .inl (cc 0, 17, .inl c_p0_signCounts)), (a_p0_signs, .inl (cc 0, 680, .inl c_p0_signs))] r0 (fun _ => [(a_p0, .inr (0, [.ref a_p0_strokes, .ref a_p0_lengths, .ref a_p0_points, .ref a_p0_signCounts, .ref a_p0_signs])), (a_p0_strokes, .inl (cc 0, 17, .inl c_p0_strokes)), (a_p0_lengths, .inl (cc 0, 51, .inl c_p0_lengths_o)), (a_p0_points, .inl (cc 0, 612, .inl c_p0_points_o)), (a_p0_signCounts, .inl (cc 0, 17, .inl c_p0_signCounts_o)), (a_p0_signs, .inl (cc 0, 680, .inl c_p0_signs_o))]) 0 0 := by
  intro sz
  refine xstart (bc := cX0_extendStroke) (maxL := 7) (ret := (some .boolean)) (by decide) rfl (Nat.le_of_ble_eq_true rfl) ?_
  intro p e s m args below meth c A hargs hsz hAe F hK hN hA hmn hP hD hS ls hl
  have hx := F.1.1
  have hb := F.1.2.1
  have hml := F.1.2.2.1
  have hown := F.1.2.2.2.1
  have hts := F.1.2.2.2.2
  have hl : lv_has ls 7 [(0, .ref a_p0), (1, .int p1), (2, .int p2), (3, .int p3)] := hl
  have k1 := hts (.fieldLink RX0 15 "RuledStrokes$Figures" "lengths" "[I") (by decide +kernel)
  have k2 := hts (.initialized RX6) (by decide +kernel)
  have k3 := hts (.static yX6_putCell) (by decide +kernel)
  unfold fX0_extendStroke at h
  refine lv_aload_n hx hb dX0_extendStroke_0 rfl (lv_at hl 0 rfl) ?_
  refine lv_iload_n hx hb dX0_extendStroke_1 rfl (lv_at hl 1 rfl) ?_
  refine xcalli (wr := [(a_p0_lengths, .inl (cc 0, 51, .inl c_p0_lengths)), (a_p0_points, .inl (cc 0, 612, .inl c_p0_points)), (a_p0_signCounts, .inl (cc 0, 17, .inl c_p0_signCounts)), (a_p0_signs, .inl (cc 0, 680, .inl c_p0_signs))]) [0, 1] [2, 3, 4, 5] (xrunV (As := [.int p1]) (rest := []) F ((kX0_strokesOf l D cc (a_p0 := a_p0) (a_p0_strokes := a_p0_strokes) (a_p0_lengths := a_p0_lengths) (a_p0_points := a_p0_points) (a_p0_signCounts := a_p0_signCounts) (a_p0_signs := a_p0_signs) (c_p0_strokes := c_p0_strokes) (p1 := p1) (r0 := (fX0_strokesOf p1 c_p0_strokes)) (h := rfl)) _) (cwV 1 hts gX0_extendStroke_X0_strokesOf rfl rfl rfl (by decide +kernel) ⟨Nat.le_of_ble_eq_true rfl, Nat.le_of_ble_eq_true rfl⟩) hK hN hP hD [0, 1] rfl (by decide) (q0 := 0) rfl rfl rfl rfl hl rfl (Nat.le_of_ble_eq_true rfl) dX0_extendStroke_2 ⟨Nat.zero_le _, Nat.zero_le _⟩) hP hD hS hA rfl rfl (by decide) (by decide) (fun _ H locs hP hD hS => ?_)
  have hP : va_P D vwCl [(a_p0_lengths, .inl (cc 0, 51, .inl c_p0_lengths)), (a_p0_points, .inl (cc 0, 612, .inl c_p0_points)), (a_p0_signCounts, .inl (cc 0, 17, .inl c_p0_signCounts)), (a_p0_signs, .inl (cc 0, 680, .inl c_p0_signs)), (a_p0, .inr (0, [.ref a_p0_strokes, .ref a_p0_lengths, .ref a_p0_points, .ref a_p0_signCounts, .ref a_p0_signs])), (a_p0_strokes, .inl (cc 0, 17, .inl c_p0_strokes))] H := hP
  have hD : va_D A [(a_p0_lengths, .inl (cc 0, 51, .inl c_p0_lengths)), (a_p0_points, .inl (cc 0, 612, .inl c_p0_points)), (a_p0_signCounts, .inl (cc 0, 17, .inl c_p0_signCounts)), (a_p0_signs, .inl (cc 0, 680, .inl c_p0_signs)), (a_p0, .inr (0, [.ref a_p0_strokes, .ref a_p0_lengths, .ref a_p0_points, .ref a_p0_signCounts, .ref a_p0_signs])), (a_p0_strokes, .inl (cc 0, 17, .inl c_p0_strokes))] := hD
  refine lv_iconst (v := (1 : Int32)) hx hb dX0_extendStroke_5 (by decide) ?_
  refine lv_isub hx hb dX0_extendStroke_6 ?_
  refine lv_istore (x := (fX0_strokesOf p1 c_p0_strokes) - (1 : Int32)) (lv' := [(4, .int ((fX0_strokesOf p1 c_p0_strokes) - (1 : Int32))), (0, .ref a_p0), (1, .int p1), (2, .int p2), (3, .int p3)]) hx hb dX0_extendStroke_7 hl (by decide) rfl (fun ls hl => ?_)
  refine lv_iload hx hb dX0_extendStroke_9 (lv_at hl 0 rfl) ?_
  refine lv_if_ge (tgt := 19) hx hb dX0_extendStroke_11 (by decide) (fun (c2 : 0 ≤ ((fX0_strokesOf p1 c_p0_strokes) - (1 : Int32))) => ?_) (fun (c2 : ¬ 0 ≤ ((fX0_strokesOf p1 c_p0_strokes) - (1 : Int32))) => ?_)
  · replace h := ip c2 h
    refine lv_aload_n hx hb dX0_extendStroke_19 rfl (lv_at hl 1 rfl) ?_
    refine lv_iload_n hx hb dX0_extendStroke_20 rfl (lv_at hl 2 rfl) ?_
    refine lv_iload hx hb dX0_extendStroke_21 (lv_at hl 0 rfl) ?_
    refine xcalli (wr := [(a_p0_points, .inl (cc 0, 612, .inl c_p0_points)), (a_p0_signCounts, .inl (cc 0, 17, .inl c_p0_signCounts)), (a_p0_signs, .inl (cc 0, 680, .inl c_p0_signs)), (a_p0_strokes, .inl (cc 0, 17, .inl c_p0_strokes))]) [4, 0] [1, 2, 3, 5] (xrunV (As := [.int p1, .int ((fX0_strokesOf p1 c_p0_strokes) - (1 : Int32))]) (rest := []) F ((kX0_lengthOf l D cc (a_p0 := a_p0) (a_p0_lengths := a_p0_lengths) (a_p0_strokes := a_p0_strokes) (a_p0_points := a_p0_points) (a_p0_signCounts := a_p0_signCounts) (a_p0_signs := a_p0_signs) (c_p0_lengths := c_p0_lengths) (p1 := p1) (p2 := (fX0_strokesOf p1 c_p0_strokes) - (1 : Int32)) (r0 := (fX0_lengthOf p1 ((fX0_strokesOf p1 c_p0_strokes) - (1 : Int32)) c_p0_lengths)) (h := rfl)) _) (cwV 2 hts gX0_extendStroke_X0_lengthOf rfl rfl rfl (by decide +kernel) ⟨Nat.le_of_ble_eq_true rfl, Nat.le_of_ble_eq_true rfl⟩) hK hN hP hD [4, 0] rfl (by decide) (q0 := 4) rfl rfl rfl rfl hl rfl (Nat.le_of_ble_eq_true rfl) dX0_extendStroke_23 ⟨Nat.zero_le _, Nat.zero_le _⟩) hP hD hS hA rfl rfl (by decide) (by decide) (fun _ H locs hP hD hS => ?_)
    have hP : va_P D vwCl [(a_p0_points, .inl (cc 0, 612, .inl c_p0_points)), (a_p0_signCounts, .inl (cc 0, 17, .inl c_p0_signCounts)), (a_p0_signs, .inl (cc 0, 680, .inl c_p0_signs)), (a_p0_strokes, .inl (cc 0, 17, .inl c_p0_strokes)), (a_p0, .inr (0, [.ref a_p0_strokes, .ref a_p0_lengths, .ref a_p0_points, .ref a_p0_signCounts, .ref a_p0_signs])), (a_p0_lengths, .inl (cc 0, 51, .inl c_p0_lengths))] H := hP
    have hD : va_D A [(a_p0_points, .inl (cc 0, 612, .inl c_p0_points)), (a_p0_signCounts, .inl (cc 0, 17, .inl c_p0_signCounts)), (a_p0_signs, .inl (cc 0, 680, .inl c_p0_signs)), (a_p0_strokes, .inl (cc 0, 17, .inl c_p0_strokes)), (a_p0, .inr (0, [.ref a_p0_strokes, .ref a_p0_lengths, .ref a_p0_points, .ref a_p0_signCounts, .ref a_p0_signs])), (a_p0_lengths, .inl (cc 0, 51, .inl c_p0_lengths))] := hD
    obtain ⟨n5_4, q4, h⟩ := b1_some h
    replace q4 := Option.some.inj q4
    refine W.eq (g2 := F0 m 26 ls [.int n5_4]) (by rw [q4]) ?_
    refine lv_istore (x := n5_4) (lv' := [(5, .int n5_4), (4, .int ((fX0_strokesOf p1 c_p0_strokes) - (1 : Int32))), (0, .ref a_p0), (1, .int p1), (2, .int p2), (3, .int p3)]) hx hb dX0_extendStroke_26 hl (by decide) rfl (fun ls hl => ?_)
    refine lv_iload hx hb dX0_extendStroke_28 (lv_at hl 0 rfl) ?_
    refine lv_bipush (v := (12 : Int32)) hx hb dX0_extendStroke_30 (by decide) ?_
    refine lv_icmp_lt (tgt := 37) hx hb dX0_extendStroke_32 (by decide) (fun (c5 : n5_4 < (12 : Int32)) => ?_) (fun (c5 : ¬ n5_4 < (12 : Int32)) => ?_)
    · replace h := ip c5 h
      refine lv_aload_n hx hb dX0_extendStroke_37 rfl (lv_at hl 2 rfl) ?_
      refine lv_iload_n hx hb dX0_extendStroke_38 rfl (lv_at hl 3 rfl) ?_
      refine lv_iload hx hb dX0_extendStroke_39 (lv_at hl 1 rfl) ?_
      refine lv_iload hx hb dX0_extendStroke_41 (lv_at hl 0 rfl) ?_
      refine lv_iconst (v := (1 : Int32)) hx hb dX0_extendStroke_43 (by decide) ?_
      refine lv_isub hx hb dX0_extendStroke_44 ?_
      refine xcalli (wr := [(a_p0_signCounts, .inl (cc 0, 17, .inl c_p0_signCounts)), (a_p0_signs, .inl (cc 0, 680, .inl c_p0_signs)), (a_p0_strokes, .inl (cc 0, 17, .inl c_p0_strokes)), (a_p0_lengths, .inl (cc 0, 51, .inl c_p0_lengths))]) [4, 0] [1, 2, 3, 5] (xrunV (As := [.int p1, .int ((fX0_strokesOf p1 c_p0_strokes) - (1 : Int32)), .int (n5_4 - (1 : Int32))]) (rest := []) F ((kX0_pointAt l D cc (a_p0 := a_p0) (a_p0_points := a_p0_points) (a_p0_strokes := a_p0_strokes) (a_p0_lengths := a_p0_lengths) (a_p0_signCounts := a_p0_signCounts) (a_p0_signs := a_p0_signs) (c_p0_points := c_p0_points) (p1 := p1) (p2 := (fX0_strokesOf p1 c_p0_strokes) - (1 : Int32)) (p3 := n5_4 - (1 : Int32)) (r0 := (fX0_pointAt p1 ((fX0_strokesOf p1 c_p0_strokes) - (1 : Int32)) (n5_4 - (1 : Int32)) c_p0_points)) (h := rfl)) _) (cwV 3 hts gX0_extendStroke_X0_pointAt rfl rfl rfl (by decide +kernel) ⟨Nat.le_of_ble_eq_true rfl, Nat.le_of_ble_eq_true rfl⟩) hK hN hP hD [4, 0] rfl (by decide) (q0 := 4) rfl rfl rfl rfl hl rfl (Nat.le_of_ble_eq_true rfl) dX0_extendStroke_45 ⟨Nat.zero_le _, Nat.zero_le _⟩) hP hD hS hA rfl rfl (by decide) (by decide) (fun _ H locs hP hD hS => ?_)
      have hP : va_P D vwCl [(a_p0_signCounts, .inl (cc 0, 17, .inl c_p0_signCounts)), (a_p0_signs, .inl (cc 0, 680, .inl c_p0_signs)), (a_p0_strokes, .inl (cc 0, 17, .inl c_p0_strokes)), (a_p0_lengths, .inl (cc 0, 51, .inl c_p0_lengths)), (a_p0, .inr (0, [.ref a_p0_strokes, .ref a_p0_lengths, .ref a_p0_points, .ref a_p0_signCounts, .ref a_p0_signs])), (a_p0_points, .inl (cc 0, 612, .inl c_p0_points))] H := hP
      have hD : va_D A [(a_p0_signCounts, .inl (cc 0, 17, .inl c_p0_signCounts)), (a_p0_signs, .inl (cc 0, 680, .inl c_p0_signs)), (a_p0_strokes, .inl (cc 0, 17, .inl c_p0_strokes)), (a_p0_lengths, .inl (cc 0, 51, .inl c_p0_lengths)), (a_p0, .inr (0, [.ref a_p0_strokes, .ref a_p0_lengths, .ref a_p0_points, .ref a_p0_signCounts, .ref a_p0_signs])), (a_p0_points, .inl (cc 0, 612, .inl c_p0_points))] := hD
      obtain ⟨n6_7, q7, h⟩ := b1_some h
      replace q7 := Option.some.inj q7
      refine W.eq (g2 := F0 m 48 ls [.int n6_7]) (by rw [q7]) ?_
      refine lv_istore (x := n6_7) (lv' := [(6, .int n6_7), (5, .int n5_4), (4, .int ((fX0_strokesOf p1 c_p0_strokes) - (1 : Int32))), (0, .ref a_p0), (1, .int p1), (2, .int p2), (3, .int p3)]) hx hb dX0_extendStroke_48 hl (by decide) rfl (fun ls hl => ?_)
      refine lv_aload_n hx hb dX0_extendStroke_50 rfl (lv_at hl 3 rfl) ?_
      refine lv_iload_n hx hb dX0_extendStroke_51 rfl (lv_at hl 4 rfl) ?_
      refine xcalli (wr := [(a_p0_signs, .inl (cc 0, 680, .inl c_p0_signs)), (a_p0_strokes, .inl (cc 0, 17, .inl c_p0_strokes)), (a_p0_lengths, .inl (cc 0, 51, .inl c_p0_lengths)), (a_p0_points, .inl (cc 0, 612, .inl c_p0_points))]) [4, 0] [1, 2, 3, 5] (xrunV (As := [.int p1]) (rest := []) F ((kX0_signsOf l D cc (a_p0 := a_p0) (a_p0_signCounts := a_p0_signCounts) (a_p0_strokes := a_p0_strokes) (a_p0_lengths := a_p0_lengths) (a_p0_points := a_p0_points) (a_p0_signs := a_p0_signs) (c_p0_signCounts := c_p0_signCounts) (p1 := p1) (r0 := (fX0_signsOf p1 c_p0_signCounts)) (h := rfl)) _) (cwV 1 hts gX0_extendStroke_X0_signsOf rfl rfl rfl (by decide +kernel) ⟨Nat.le_of_ble_eq_true rfl, Nat.le_of_ble_eq_true rfl⟩) hK hN hP hD [4, 0] rfl (by decide) (q0 := 4) rfl rfl rfl rfl hl rfl (Nat.le_of_ble_eq_true rfl) dX0_extendStroke_52 ⟨Nat.zero_le _, Nat.zero_le _⟩) hP hD hS hA rfl rfl (by decide) (by decide) (fun _ H locs hP hD hS => ?_)
      have hP : va_P D vwCl [(a_p0_signs, .inl (cc 0, 680, .inl c_p0_signs)), (a_p0_strokes, .inl (cc 0, 17, .inl c_p0_strokes)), (a_p0_lengths, .inl (cc 0, 51, .inl c_p0_lengths)), (a_p0_points, .inl (cc 0, 612, .inl c_p0_points)), (a_p0, .inr (0, [.ref a_p0_strokes, .ref a_p0_lengths, .ref a_p0_points, .ref a_p0_signCounts, .ref a_p0_signs])), (a_p0_signCounts, .inl (cc 0, 17, .inl c_p0_signCounts))] H := hP
      have hD : va_D A [(a_p0_signs, .inl (cc 0, 680, .inl c_p0_signs)), (a_p0_strokes, .inl (cc 0, 17, .inl c_p0_strokes)), (a_p0_lengths, .inl (cc 0, 51, .inl c_p0_lengths)), (a_p0_points, .inl (cc 0, 612, .inl c_p0_points)), (a_p0, .inr (0, [.ref a_p0_strokes, .ref a_p0_lengths, .ref a_p0_points, .ref a_p0_signCounts, .ref a_p0_signs])), (a_p0_signCounts, .inl (cc 0, 17, .inl c_p0_signCounts))] := hD
      refine lv_iload hx hb dX0_extendStroke_55 (lv_at hl 0 rfl) ?_
      refine lv_iload_n hx hb dX0_extendStroke_57 rfl (lv_at hl 5 rfl) ?_
      refine lv_iload_n hx hb dX0_extendStroke_58 rfl (lv_at hl 6 rfl) ?_
      obtain ⟨r_9, hc9, h⟩ := b1_some h
      refine xcalli (wr := [(a_p0_signs, .inl (cc 0, 680, .inl c_p0_signs)), (a_p0_strokes, .inl (cc 0, 17, .inl c_p0_strokes)), (a_p0_lengths, .inl (cc 0, 51, .inl c_p0_lengths)), (a_p0_points, .inl (cc 0, 612, .inl c_p0_points)), (a_p0, .inr (0, [.ref a_p0_strokes, .ref a_p0_lengths, .ref a_p0_points, .ref a_p0_signCounts, .ref a_p0_signs])), (a_p0_signCounts, .inl (cc 0, 17, .inl c_p0_signCounts))]) [] [0, 1, 2, 3, 4, 5] (xrunS (As := [.int n6_7, .int p2, .int p3]) (rest := [.int (fX0_signsOf p1 c_p0_signCounts)]) F ((kX0_crossings l D cc (p0 := n6_7) (p1 := p2) (p2 := p3) (r0 := r_9) (h := hc9)) _) (cwS 3 hts gX0_extendStroke_X0_crossings rfl rfl rfl (by decide +kernel) ⟨Nat.le_of_ble_eq_true rfl, Nat.le_of_ble_eq_true rfl⟩) hK hN hP hD [] rfl (by decide) rfl hl rfl (Nat.le_of_ble_eq_true rfl) dX0_extendStroke_59 ⟨Nat.zero_le _, Nat.zero_le _⟩) hP hD hS hA rfl rfl (by decide) (by decide) (fun _ H locs hP hD hS => ?_)
      have hP : va_P D vwCl [(a_p0_signs, .inl (cc 0, 680, .inl c_p0_signs)), (a_p0_strokes, .inl (cc 0, 17, .inl c_p0_strokes)), (a_p0_lengths, .inl (cc 0, 51, .inl c_p0_lengths)), (a_p0_points, .inl (cc 0, 612, .inl c_p0_points)), (a_p0, .inr (0, [.ref a_p0_strokes, .ref a_p0_lengths, .ref a_p0_points, .ref a_p0_signCounts, .ref a_p0_signs])), (a_p0_signCounts, .inl (cc 0, 17, .inl c_p0_signCounts))] H := hP
      have hD : va_D A [(a_p0_signs, .inl (cc 0, 680, .inl c_p0_signs)), (a_p0_strokes, .inl (cc 0, 17, .inl c_p0_strokes)), (a_p0_lengths, .inl (cc 0, 51, .inl c_p0_lengths)), (a_p0_points, .inl (cc 0, 612, .inl c_p0_points)), (a_p0, .inr (0, [.ref a_p0_strokes, .ref a_p0_lengths, .ref a_p0_points, .ref a_p0_signCounts, .ref a_p0_signs])), (a_p0_signCounts, .inl (cc 0, 17, .inl c_p0_signCounts))] := hD
      refine lv_iadd hx hb dX0_extendStroke_62 ?_
      refine lv_bipush (v := (40 : Int32)) hx hb dX0_extendStroke_63 (by decide) ?_
      refine lv_icmp_le (tgt := 70) hx hb dX0_extendStroke_65 (by decide) (fun (c11 : ((fX0_signsOf p1 c_p0_signCounts) + r_9) ≤ (40 : Int32)) => ?_) (fun (c11 : ¬ ((fX0_signsOf p1 c_p0_signCounts) + r_9) ≤ (40 : Int32)) => ?_)
      · replace h := ip c11 h
        refine lv_aload_n hx hb dX0_extendStroke_70 rfl (lv_at hl 3 rfl) ?_
        refine va_get (D := D) (ci := 0) (v := .ref a_p0_lengths) (C := RX0) (T := TX0) (N := 5) hx hb hts inX0_extendStroke_X0 hown hK hP 4 rfl rfl 1 (by decide) k1 (fun _ h9 => h9) rfl dX0_extendStroke_71 ?_
        refine lv_iload_n hx hb dX0_extendStroke_74 rfl (lv_at hl 4 rfl) ?_
        refine lv_iconst (v := (3 : Int32)) hx hb dX0_extendStroke_75 (by decide) ?_
        refine lv_imul hx hb dX0_extendStroke_76 ?_
        refine lv_iload hx hb dX0_extendStroke_77 (lv_at hl 2 rfl) ?_
        refine lv_iadd hx hb dX0_extendStroke_79 ?_
        refine lv_iload hx hb dX0_extendStroke_80 (lv_at hl 1 rfl) ?_
        refine lv_iconst (v := (1 : Int32)) hx hb dX0_extendStroke_82 (by decide) ?_
        refine lv_iadd hx hb dX0_extendStroke_83 ?_
        refine xcallv (wr := [(a_p0_signs, .inl (cc 0, 680, .inl c_p0_signs)), (a_p0_strokes, .inl (cc 0, 17, .inl c_p0_strokes)), (a_p0_points, .inl (cc 0, 612, .inl c_p0_points)), (a_p0, .inr (0, [.ref a_p0_strokes, .ref a_p0_lengths, .ref a_p0_points, .ref a_p0_signCounts, .ref a_p0_signs])), (a_p0_signCounts, .inl (cc 0, 17, .inl c_p0_signCounts))]) [2] [0, 1, 3, 4, 5] (xrunSN (As := [.ref a_p0_lengths, .int ((p1 * (3 : Int32)) + ((fX0_strokesOf p1 c_p0_strokes) - (1 : Int32))), .int (n5_4 + (1 : Int32))]) (rest := []) F ((kX6_putCellT l D cc (a_p0 := a_p0_lengths) (n_p0 := 51) (c_p0 := c_p0_lengths) (p1 := (p1 * (3 : Int32)) + ((fX0_strokesOf p1 c_p0_strokes) - (1 : Int32))) (p2 := n5_4 + (1 : Int32)) (c_p0_o := (xput ((p1 * (3 : Int32)) + ((fX0_strokesOf p1 c_p0_strokes) - (1 : Int32))) (n5_4 + (1 : Int32)) 51 c_p0_lengths)) (h := rfl)) _) ⟨va_cnB 3 hts gX0_extendStroke_X6_putCell_n35 rfl rfl rfl (hN.1 (.methodLinkNest RX0 35 yX6_putCell RX6) (by simp [xNest])) k2 (by decide +kernel) ⟨Nat.le_of_ble_eq_true rfl, Nat.le_of_ble_eq_true rfl⟩, k3⟩ hK hN hP hD [2] rfl (by decide) rfl hl rfl (Nat.le_of_ble_eq_true rfl) dX0_extendStroke_84 ⟨Nat.zero_le _, Nat.zero_le _⟩) hP hD hS hA rfl rfl (by decide) (by decide) (fun _ H locs hP hD hS => ?_)
        have hP : va_P D vwCl [(a_p0_signs, .inl (cc 0, 680, .inl c_p0_signs)), (a_p0_strokes, .inl (cc 0, 17, .inl c_p0_strokes)), (a_p0_points, .inl (cc 0, 612, .inl c_p0_points)), (a_p0, .inr (0, [.ref a_p0_strokes, .ref a_p0_lengths, .ref a_p0_points, .ref a_p0_signCounts, .ref a_p0_signs])), (a_p0_signCounts, .inl (cc 0, 17, .inl c_p0_signCounts)), (a_p0_lengths, .inl (cc 0, 51, .inl (xput ((p1 * (3 : Int32)) + ((fX0_strokesOf p1 c_p0_strokes) - (1 : Int32))) (n5_4 + (1 : Int32)) 51 c_p0_lengths)))] H := hP
        have hD : va_D A [(a_p0_signs, .inl (cc 0, 680, .inl c_p0_signs)), (a_p0_strokes, .inl (cc 0, 17, .inl c_p0_strokes)), (a_p0_points, .inl (cc 0, 612, .inl c_p0_points)), (a_p0, .inr (0, [.ref a_p0_strokes, .ref a_p0_lengths, .ref a_p0_points, .ref a_p0_signCounts, .ref a_p0_signs])), (a_p0_signCounts, .inl (cc 0, 17, .inl c_p0_signCounts)), (a_p0_lengths, .inl (cc 0, 51, .inl (xput ((p1 * (3 : Int32)) + ((fX0_strokesOf p1 c_p0_strokes) - (1 : Int32))) (n5_4 + (1 : Int32)) 51 c_p0_lengths)))] := hD
        refine lv_aload_n hx hb dX0_extendStroke_87 rfl (lv_at hl 3 rfl) ?_
        refine lv_iload_n hx hb dX0_extendStroke_88 rfl (lv_at hl 4 rfl) ?_
        refine lv_iload hx hb dX0_extendStroke_89 (lv_at hl 2 rfl) ?_
        refine lv_iload hx hb dX0_extendStroke_91 (lv_at hl 1 rfl) ?_
        refine lv_iload_n hx hb dX0_extendStroke_93 rfl (lv_at hl 5 rfl) ?_
        refine xcallv (wr := [(a_p0_signs, .inl (cc 0, 680, .inl c_p0_signs)), (a_p0_strokes, .inl (cc 0, 17, .inl c_p0_strokes)), (a_p0_signCounts, .inl (cc 0, 17, .inl c_p0_signCounts)), (a_p0_lengths, .inl (cc 0, 51, .inl (xput ((p1 * (3 : Int32)) + ((fX0_strokesOf p1 c_p0_strokes) - (1 : Int32))) (n5_4 + (1 : Int32)) 51 c_p0_lengths)))]) [3, 2] [0, 1, 4, 5] (xrunV (As := [.int p1, .int ((fX0_strokesOf p1 c_p0_strokes) - (1 : Int32)), .int n5_4, .int p2]) (rest := []) F ((kX0_putPoint l D cc (a_p0 := a_p0) (a_p0_points := a_p0_points) (a_p0_strokes := a_p0_strokes) (a_p0_lengths := a_p0_lengths) (a_p0_signCounts := a_p0_signCounts) (a_p0_signs := a_p0_signs) (c_p0_points := c_p0_points) (p1 := p1) (p2 := (fX0_strokesOf p1 c_p0_strokes) - (1 : Int32)) (p3 := n5_4) (p4 := p2) (c_p0_points_o := (fX0_putPoint p1 ((fX0_strokesOf p1 c_p0_strokes) - (1 : Int32)) n5_4 p2 c_p0_points)) (h := rfl)) _) (cwV 4 hts gX0_extendStroke_X0_putPoint rfl rfl rfl (by decide +kernel) ⟨Nat.le_of_ble_eq_true rfl, Nat.le_of_ble_eq_true rfl⟩) hK hN hP hD [3, 2] rfl (by decide) (q0 := 3) rfl rfl rfl rfl hl rfl (Nat.le_of_ble_eq_true rfl) dX0_extendStroke_94 ⟨Nat.zero_le _, Nat.zero_le _⟩) hP hD hS hA rfl rfl (by decide) (by decide) (fun _ H locs hP hD hS => ?_)
        have hP : va_P D vwCl [(a_p0_signs, .inl (cc 0, 680, .inl c_p0_signs)), (a_p0_strokes, .inl (cc 0, 17, .inl c_p0_strokes)), (a_p0_signCounts, .inl (cc 0, 17, .inl c_p0_signCounts)), (a_p0_lengths, .inl (cc 0, 51, .inl (xput ((p1 * (3 : Int32)) + ((fX0_strokesOf p1 c_p0_strokes) - (1 : Int32))) (n5_4 + (1 : Int32)) 51 c_p0_lengths))), (a_p0, .inr (0, [.ref a_p0_strokes, .ref a_p0_lengths, .ref a_p0_points, .ref a_p0_signCounts, .ref a_p0_signs])), (a_p0_points, .inl (cc 0, 612, .inl (fX0_putPoint p1 ((fX0_strokesOf p1 c_p0_strokes) - (1 : Int32)) n5_4 p2 c_p0_points)))] H := hP
        have hD : va_D A [(a_p0_signs, .inl (cc 0, 680, .inl c_p0_signs)), (a_p0_strokes, .inl (cc 0, 17, .inl c_p0_strokes)), (a_p0_signCounts, .inl (cc 0, 17, .inl c_p0_signCounts)), (a_p0_lengths, .inl (cc 0, 51, .inl (xput ((p1 * (3 : Int32)) + ((fX0_strokesOf p1 c_p0_strokes) - (1 : Int32))) (n5_4 + (1 : Int32)) 51 c_p0_lengths))), (a_p0, .inr (0, [.ref a_p0_strokes, .ref a_p0_lengths, .ref a_p0_points, .ref a_p0_signCounts, .ref a_p0_signs])), (a_p0_points, .inl (cc 0, 612, .inl (fX0_putPoint p1 ((fX0_strokesOf p1 c_p0_strokes) - (1 : Int32)) n5_4 p2 c_p0_points)))] := hD
        refine lv_aload_n hx hb dX0_extendStroke_97 rfl (lv_at hl 3 rfl) ?_
        refine lv_iload_n hx hb dX0_extendStroke_98 rfl (lv_at hl 4 rfl) ?_
        refine lv_iload hx hb dX0_extendStroke_99 (lv_at hl 0 rfl) ?_
        refine lv_iload_n hx hb dX0_extendStroke_101 rfl (lv_at hl 5 rfl) ?_
        refine lv_iload_n hx hb dX0_extendStroke_102 rfl (lv_at hl 6 rfl) ?_
        obtain ⟨c_p0_signCounts_14, c_p0_signs_14, hc14, h⟩ := b2_some h
        refine xcallv (wr := [(a_p0_strokes, .inl (cc 0, 17, .inl c_p0_strokes)), (a_p0_lengths, .inl (cc 0, 51, .inl (xput ((p1 * (3 : Int32)) + ((fX0_strokesOf p1 c_p0_strokes) - (1 : Int32))) (n5_4 + (1 : Int32)) 51 c_p0_lengths))), (a_p0_points, .inl (cc 0, 612, .inl (fX0_putPoint p1 ((fX0_strokesOf p1 c_p0_strokes) - (1 : Int32)) n5_4 p2 c_p0_points)))]) [4, 2, 0] [1, 3, 5] (xrunV (As := [.int p1, .int n6_7, .int p2, .int p3]) (rest := []) F ((kX0_writeCrossings l D cc (a_p0 := a_p0) (a_p0_signCounts := a_p0_signCounts) (a_p0_signs := a_p0_signs) (a_p0_strokes := a_p0_strokes) (a_p0_lengths := a_p0_lengths) (a_p0_points := a_p0_points) (c_p0_signCounts := c_p0_signCounts) (c_p0_signs := c_p0_signs) (p1 := p1) (p2 := n6_7) (p3 := p2) (p4 := p3) (c_p0_signCounts_o := c_p0_signCounts_14) (c_p0_signs_o := c_p0_signs_14) (h := hc14)) _) (cwV 4 hts gX0_extendStroke_X0_writeCrossings rfl rfl rfl (by decide +kernel) ⟨Nat.le_of_ble_eq_true rfl, Nat.le_of_ble_eq_true rfl⟩) hK hN hP hD [4, 2, 0] rfl (by decide) (q0 := 4) rfl rfl rfl rfl hl rfl (Nat.le_of_ble_eq_true rfl) dX0_extendStroke_103 ⟨Nat.zero_le _, Nat.zero_le _⟩) hP hD hS hA rfl rfl (by decide) (by decide) (fun _ H locs hP hD hS => ?_)
        have hP : va_P D vwCl [(a_p0_strokes, .inl (cc 0, 17, .inl c_p0_strokes)), (a_p0_lengths, .inl (cc 0, 51, .inl (xput ((p1 * (3 : Int32)) + ((fX0_strokesOf p1 c_p0_strokes) - (1 : Int32))) (n5_4 + (1 : Int32)) 51 c_p0_lengths))), (a_p0_points, .inl (cc 0, 612, .inl (fX0_putPoint p1 ((fX0_strokesOf p1 c_p0_strokes) - (1 : Int32)) n5_4 p2 c_p0_points))), (a_p0, .inr (0, [.ref a_p0_strokes, .ref a_p0_lengths, .ref a_p0_points, .ref a_p0_signCounts, .ref a_p0_signs])), (a_p0_signCounts, .inl (cc 0, 17, .inl c_p0_signCounts_14)), (a_p0_signs, .inl (cc 0, 680, .inl c_p0_signs_14))] H := hP
        have hD : va_D A [(a_p0_strokes, .inl (cc 0, 17, .inl c_p0_strokes)), (a_p0_lengths, .inl (cc 0, 51, .inl (xput ((p1 * (3 : Int32)) + ((fX0_strokesOf p1 c_p0_strokes) - (1 : Int32))) (n5_4 + (1 : Int32)) 51 c_p0_lengths))), (a_p0_points, .inl (cc 0, 612, .inl (fX0_putPoint p1 ((fX0_strokesOf p1 c_p0_strokes) - (1 : Int32)) n5_4 p2 c_p0_points))), (a_p0, .inr (0, [.ref a_p0_strokes, .ref a_p0_lengths, .ref a_p0_points, .ref a_p0_signCounts, .ref a_p0_signs])), (a_p0_signCounts, .inl (cc 0, 17, .inl c_p0_signCounts_14)), (a_p0_signs, .inl (cc 0, 680, .inl c_p0_signs_14))] := hD
        refine lv_iconst (v := (1 : Int32)) hx hb dX0_extendStroke_106 (by decide) ?_
        have hP := hP.sub (ws' := [(a_p0, .inr (0, [.ref a_p0_strokes, .ref a_p0_lengths, .ref a_p0_points, .ref a_p0_signCounts, .ref a_p0_signs])), (a_p0_strokes, .inl (cc 0, 17, .inl c_p0_strokes)), (a_p0_lengths, .inl (cc 0, 51, .inl (xput ((p1 * (3 : Int32)) + ((fX0_strokesOf p1 c_p0_strokes) - (1 : Int32))) (n5_4 + (1 : Int32)) 51 c_p0_lengths))), (a_p0_points, .inl (cc 0, 612, .inl (fX0_putPoint p1 ((fX0_strokesOf p1 c_p0_strokes) - (1 : Int32)) n5_4 p2 c_p0_points))), (a_p0_signCounts, .inl (cc 0, 17, .inl c_p0_signCounts_14)), (a_p0_signs, .inl (cc 0, 680, .inl c_p0_signs_14))]) [3, 0, 1, 2, 4, 5] rfl
        have hD := hD.sub (ws' := [(a_p0, .inr (0, [.ref a_p0_strokes, .ref a_p0_lengths, .ref a_p0_points, .ref a_p0_signCounts, .ref a_p0_signs])), (a_p0_strokes, .inl (cc 0, 17, .inl c_p0_strokes)), (a_p0_lengths, .inl (cc 0, 51, .inl (xput ((p1 * (3 : Int32)) + ((fX0_strokesOf p1 c_p0_strokes) - (1 : Int32))) (n5_4 + (1 : Int32)) 51 c_p0_lengths))), (a_p0_points, .inl (cc 0, 612, .inl (fX0_putPoint p1 ((fX0_strokesOf p1 c_p0_strokes) - (1 : Int32)) n5_4 p2 c_p0_points))), (a_p0_signCounts, .inl (cc 0, 17, .inl c_p0_signCounts_14)), (a_p0_signs, .inl (cc 0, 680, .inl c_p0_signs_14))]) [3, 0, 1, 2, 4, 5] (by decide) rfl
        cases h
        exact xendz F (by decide) hsz hAe hK hP hD hS (fun _ => 0) rfl rfl (Nat.zero_le _) (Nat.zero_le _) dX0_extendStroke_107
      · replace h := iq c11 h
        refine lv_iconst (v := (0 : Int32)) hx hb dX0_extendStroke_68 (by decide) ?_
        have hP := hP.sub (ws' := [(a_p0, .inr (0, [.ref a_p0_strokes, .ref a_p0_lengths, .ref a_p0_points, .ref a_p0_signCounts, .ref a_p0_signs])), (a_p0_strokes, .inl (cc 0, 17, .inl c_p0_strokes)), (a_p0_lengths, .inl (cc 0, 51, .inl c_p0_lengths)), (a_p0_points, .inl (cc 0, 612, .inl c_p0_points)), (a_p0_signCounts, .inl (cc 0, 17, .inl c_p0_signCounts)), (a_p0_signs, .inl (cc 0, 680, .inl c_p0_signs))]) [4, 1, 2, 3, 5, 0] rfl
        have hD := hD.sub (ws' := [(a_p0, .inr (0, [.ref a_p0_strokes, .ref a_p0_lengths, .ref a_p0_points, .ref a_p0_signCounts, .ref a_p0_signs])), (a_p0_strokes, .inl (cc 0, 17, .inl c_p0_strokes)), (a_p0_lengths, .inl (cc 0, 51, .inl c_p0_lengths)), (a_p0_points, .inl (cc 0, 612, .inl c_p0_points)), (a_p0_signCounts, .inl (cc 0, 17, .inl c_p0_signCounts)), (a_p0_signs, .inl (cc 0, 680, .inl c_p0_signs))]) [4, 1, 2, 3, 5, 0] (by decide) rfl
        cases h
        exact xendz F (by decide) hsz hAe hK hP hD hS (fun _ => 0) rfl rfl (Nat.zero_le _) (Nat.zero_le _) dX0_extendStroke_69
    · replace h := iq c5 h
      refine lv_iconst (v := (0 : Int32)) hx hb dX0_extendStroke_35 (by decide) ?_
      have hP := hP.sub (ws' := [(a_p0, .inr (0, [.ref a_p0_strokes, .ref a_p0_lengths, .ref a_p0_points, .ref a_p0_signCounts, .ref a_p0_signs])), (a_p0_strokes, .inl (cc 0, 17, .inl c_p0_strokes)), (a_p0_lengths, .inl (cc 0, 51, .inl c_p0_lengths)), (a_p0_points, .inl (cc 0, 612, .inl c_p0_points)), (a_p0_signCounts, .inl (cc 0, 17, .inl c_p0_signCounts)), (a_p0_signs, .inl (cc 0, 680, .inl c_p0_signs))]) [4, 3, 5, 0, 1, 2] rfl
      have hD := hD.sub (ws' := [(a_p0, .inr (0, [.ref a_p0_strokes, .ref a_p0_lengths, .ref a_p0_points, .ref a_p0_signCounts, .ref a_p0_signs])), (a_p0_strokes, .inl (cc 0, 17, .inl c_p0_strokes)), (a_p0_lengths, .inl (cc 0, 51, .inl c_p0_lengths)), (a_p0_points, .inl (cc 0, 612, .inl c_p0_points)), (a_p0_signCounts, .inl (cc 0, 17, .inl c_p0_signCounts)), (a_p0_signs, .inl (cc 0, 680, .inl c_p0_signs))]) [4, 3, 5, 0, 1, 2] (by decide) rfl
      cases h
      exact xendz F (by decide) hsz hAe hK hP hD hS (fun _ => 0) rfl rfl (Nat.zero_le _) (Nat.zero_le _) dX0_extendStroke_36
  · replace h := iq c2 h
    refine lv_bipush (v := (12 : Int32)) hx hb dX0_extendStroke_14 (by decide) ?_
    refine lv_goto (tgt := 26) hx hb dX0_extendStroke_16 (by decide) ?_
    refine lv_istore (x := (12 : Int32)) (lv' := [(5, .int (12 : Int32)), (4, .int ((fX0_strokesOf p1 c_p0_strokes) - (1 : Int32))), (0, .ref a_p0), (1, .int p1), (2, .int p2), (3, .int p3)]) hx hb dX0_extendStroke_26 hl (by decide) rfl (fun ls hl => ?_)
    refine lv_iload hx hb dX0_extendStroke_28 (lv_at hl 0 rfl) ?_
    refine lv_bipush (v := (12 : Int32)) hx hb dX0_extendStroke_30 (by decide) ?_
    refine lv_icmp_lt (tgt := 37) hx hb dX0_extendStroke_32 (by decide) (fun c16 => absurd c16 (by decide)) (fun _ => ?_)
    refine lv_iconst (v := (0 : Int32)) hx hb dX0_extendStroke_35 (by decide) ?_
    have hP := hP.sub (ws' := [(a_p0, .inr (0, [.ref a_p0_strokes, .ref a_p0_lengths, .ref a_p0_points, .ref a_p0_signCounts, .ref a_p0_signs])), (a_p0_strokes, .inl (cc 0, 17, .inl c_p0_strokes)), (a_p0_lengths, .inl (cc 0, 51, .inl c_p0_lengths)), (a_p0_points, .inl (cc 0, 612, .inl c_p0_points)), (a_p0_signCounts, .inl (cc 0, 17, .inl c_p0_signCounts)), (a_p0_signs, .inl (cc 0, 680, .inl c_p0_signs))]) [4, 5, 0, 1, 2, 3] rfl
    have hD := hD.sub (ws' := [(a_p0, .inr (0, [.ref a_p0_strokes, .ref a_p0_lengths, .ref a_p0_points, .ref a_p0_signCounts, .ref a_p0_signs])), (a_p0_strokes, .inl (cc 0, 17, .inl c_p0_strokes)), (a_p0_lengths, .inl (cc 0, 51, .inl c_p0_lengths)), (a_p0_points, .inl (cc 0, 612, .inl c_p0_points)), (a_p0_signCounts, .inl (cc 0, 17, .inl c_p0_signCounts)), (a_p0_signs, .inl (cc 0, 680, .inl c_p0_signs))]) [4, 5, 0, 1, 2, 3] (by decide) rfl
    cases h
    exact xendz F (by decide) hsz hAe hK hP hD hS (fun _ => 0) rfl rfl (Nat.zero_le _) (Nat.zero_le _) dX0_extendStroke_36
