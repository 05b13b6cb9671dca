set_option maxHeartbeats 4000000 in
set_option maxRecDepth 100000 in
theorem kX7_cross (l : Launch) (D : va_G) (cc : Nat → ClassId) (a_p0 : Nat) (n_p0 : Nat) (c_p0 : Nat → Int32) (p1 : Int32) (p2 : Int32) (p3 : Int32) (p4 : Int32) (p5 : Int32) (p6 : Int32) (r0 : Int32) (c_p0_o : Nat → Int32) (h : fX7_cross p1 p2 p3 p4 p5 p6 n_p0 c_p0 = some (r0, c_p0_o)) : xMi l yX7_cross wsX7_cross ({ frames := 1, cells := 0, slots := 0, locals := 23 } : Room) D cc [.ref a_p0, .int p1, .int p2, .int p3, .int p4, .int p5, .int p6] [(a_p0, .inl (cc 0, n_p0, .inl c_p0))] r0 (fun _ => [(a_p0, .inl (cc 0, n_p0, .inl c_p0_o))]) 0 0 := by
  intro sz
  refine xstart (bc := cX7_cross) (maxL := 13) (ret := (some .int)) (by decide) rfl (Nat.le_of_ble_eq_true rfl) ?_
  intro p e s m args below meth c A hargs hsz hAe F hK hN hA hmn hP hD hS ls hl
  have hx := F.1.1
  have hb := F.1.2.1
  have hml := F.1.2.2.1
  have hown := F.1.2.2.2.1
  have hts := F.1.2.2.2.2
  have hl : lv_has ls 13 [(0, .ref a_p0), (1, .int p1), (2, .int p2), (3, .int p3), (4, .int p4), (5, .int p5), (6, .int p6)] := hl
  unfold fX7_cross at h
  have hJ39_130 : ∀ (QQ : State → Prop) (k39_2 : Int32) (k39_3 : Int32) (k39_4 : Int32) (k39_5 : Int32) (k39_6 : Int32) (k39_7 : Int32) (k39_8 : Int32) (j39_130_9 : Int32) (j39_130_10 : Int32) (j39_130_11 : Int32) (s39_130_0 : Int32) (c_p0_J39_130 : Nat → Int32) (r9 : (Int32 × Int32 × Int32 × (Nat → Int32)) ⊕ (Int32 × (Nat → Int32))), fX7_cross_J39_130 n_p0 k39_2 k39_3 k39_4 k39_5 j39_130_9 j39_130_10 j39_130_11 s39_130_0 c_p0_J39_130 = some r9 → ∀ (H : Heap) (locs : List Loc) (ls : Array Slot), va_P D vwCl [(a_p0, .inl (cc 0, n_p0, .inl c_p0_J39_130))] H → va_D A [(a_p0, .inl (cc 0, n_p0, .inl c_p0_J39_130))] → va_S A s.heap H locs → lv_has ls 13 [(0, .ref a_p0), (2, .int k39_2), (3, .int k39_3), (4, .int k39_4), (5, .int k39_5), (6, .int k39_6), (7, .int k39_7), (8, .int k39_8), (9, .int j39_130_9), (10, .int j39_130_10), (11, .int j39_130_11)] → (∀ (x9 : Int32) (x10 : Int32) (x11 : Int32) (c_p0_L39 : Nat → Int32), r9 = Sum.inl (x9, x10, x11, c_p0_L39) → ∀ (H : Heap) (locs : List Loc) (ls : Array Slot), va_P D vwCl [(a_p0, .inl (cc 0, n_p0, .inl c_p0_L39))] H → va_D A [(a_p0, .inl (cc 0, n_p0, .inl c_p0_L39))] → va_S A s.heap H locs → lv_has ls 13 [(0, .ref a_p0), (2, .int k39_2), (3, .int k39_3), (4, .int k39_4), (5, .int k39_5), (6, .int k39_6), (7, .int k39_7), (8, .int k39_8), (9, .int x9), (10, .int x10), (11, .int x11)] → W p l e ({ frames := 1, cells := 0, slots := 0, locals := 23 } : Room) s m args below meth c H locs 0 0 QQ (F0 m 39 ls [])) → (∀ (y11 : Int32) (c_p0_E39 : Nat → Int32), r9 = Sum.inr ((y11, c_p0_E39)) → ∀ (H : Heap) (locs : List Loc) (ls : Array Slot), va_P D vwCl [(a_p0, .inl (cc 0, n_p0, .inl c_p0_E39))] H → va_D A [(a_p0, .inl (cc 0, n_p0, .inl c_p0_E39))] → va_S A s.heap H locs → lv_has ls 13 [(11, .int y11)] → W p l e ({ frames := 1, cells := 0, slots := 0, locals := 23 } : Room) s m args below meth c H locs 0 0 QQ (F0 m 187 ls [])) → W p l e ({ frames := 1, cells := 0, slots := 0, locals := 23 } : Room) s m args below meth c H locs 0 0 QQ (F0 m 130 ls [.int s39_130_0]) := by
    intro QQ k39_2 k39_3 k39_4 k39_5 k39_6 k39_7 k39_8 j39_130_9 j39_130_10 j39_130_11 s39_130_0 c_p0_J39_130 r9 h H locs ls hP hD hS hl KS KX0
    unfold fX7_cross_J39_130 at h
    refine lv_istore (x := s39_130_0) (lv' := [(12, .int s39_130_0), (0, .ref a_p0), (2, .int k39_2), (3, .int k39_3), (4, .int k39_4), (5, .int k39_5), (6, .int k39_6), (7, .int k39_7), (8, .int k39_8), (9, .int j39_130_9), (10, .int j39_130_10), (11, .int j39_130_11)]) hx hb dX7_cross_130 hl (by decide) rfl (fun ls hl => ?_)
    refine lv_iload hx hb dX7_cross_132 (lv_at hl 0 rfl) ?_
    refine lv_if_eq (tgt := 162) hx hb dX7_cross_134 (by decide) (fun (c31 : s39_130_0 = 0) => ?_) (fun (c31 : ¬ s39_130_0 = 0) => ?_)
    · replace h := ip c31 h
      refine lv_aload_n hx hb dX7_cross_162 rfl (lv_at hl 1 rfl) ?_
      refine lv_iload hx hb dX7_cross_163 (lv_at hl 11 rfl) ?_
      refine lv_iload hx hb dX7_cross_165 (lv_at hl 5 rfl) ?_
      refine lv_iload_n hx hb dX7_cross_167 rfl (lv_at hl 3 rfl) ?_
      refine lv_icmp_le (tgt := 175) hx hb dX7_cross_168 (by decide) (fun (c32 : k39_5 ≤ k39_3) => ?_) (fun (c32 : ¬ k39_5 ≤ k39_3) => ?_)
      · replace h := ip c32 h
        refine lv_iconst (v := (3 : Int32)) hx hb dX7_cross_175 (by decide) ?_
        obtain ⟨r_33, c_p0_33, hc33, h⟩ := b2_some h
        refine xcalli (wr := []) [0] [] (xrunS (As := [.ref a_p0, .int j39_130_11, .int (3 : Int32)]) (rest := []) F ((kX7_next l D cc (a_p0 := a_p0) (n_p0 := n_p0) (c_p0 := c_p0_J39_130) (p1 := j39_130_11) (p2 := (3 : Int32)) (r0 := r_33) (c_p0_o := c_p0_33) (h := hc33)) _) (cwS 3 hts gX7_cross_X7_next rfl rfl rfl (by decide +kernel) ⟨Nat.le_of_ble_eq_true rfl, Nat.le_of_ble_eq_true rfl⟩) hK hN hP hD [0] rfl (by decide) rfl hl rfl (Nat.le_of_ble_eq_true rfl) dX7_cross_176 ⟨Nat.zero_le _, Nat.zero_le _⟩) hP hD hS hA rfl rfl (by decide) (by decide) (fun _ H locs hP hD hS => ?_)
        have hP : va_P D vwCl [(a_p0, .inl (cc 0, n_p0, .inl c_p0_33))] H := hP
        have hD : va_D A [(a_p0, .inl (cc 0, n_p0, .inl c_p0_33))] := hD
        refine lv_istore (x := r_33) (lv' := [(11, .int r_33), (12, .int s39_130_0), (0, .ref a_p0), (2, .int k39_2), (3, .int k39_3), (4, .int k39_4), (5, .int k39_5), (6, .int k39_6), (7, .int k39_7), (8, .int k39_8), (9, .int j39_130_9), (10, .int j39_130_10)]) hx hb dX7_cross_179 hl (by decide) rfl (fun ls hl => ?_)
        refine lv_iinc (v := j39_130_10 + (1 : Int32)) (lv' := [(10, .int (j39_130_10 + (1 : Int32))), (11, .int r_33), (12, .int s39_130_0), (0, .ref a_p0), (2, .int k39_2), (3, .int k39_3), (4, .int k39_4), (5, .int k39_5), (6, .int k39_6), (7, .int k39_7), (8, .int k39_8), (9, .int j39_130_9)]) hx hb dX7_cross_181 hl (k := 11) rfl (by first | rfl | decide) (by decide) rfl (fun ls hl => ?_)
        refine lv_goto (tgt := 39) hx hb dX7_cross_184 (by decide) ?_
        have hl := lv_sub (l' := [(0, .ref a_p0), (2, .int k39_2), (3, .int k39_3), (4, .int k39_4), (5, .int k39_5), (6, .int k39_6), (7, .int k39_7), (8, .int k39_8), (9, .int j39_130_9), (10, .int (j39_130_10 + (1 : Int32))), (11, .int r_33)]) hl [3, 4, 5, 6, 7, 8, 9, 10, 11, 0, 1] rfl
        cases h
        exact KS j39_130_9 (j39_130_10 + (1 : Int32)) r_33 c_p0_33 rfl _ _ _ hP hD hS hl
      · replace h := iq c32 h
        refine lv_iconst (v := (1 : Int32)) hx hb dX7_cross_171 (by decide) ?_
        refine lv_goto (tgt := 176) hx hb dX7_cross_172 (by decide) ?_
        obtain ⟨r_35, c_p0_35, hc35, h⟩ := b2_some h
        refine xcalli (wr := []) [0] [] (xrunS (As := [.ref a_p0, .int j39_130_11, .int (1 : Int32)]) (rest := []) F ((kX7_next l D cc (a_p0 := a_p0) (n_p0 := n_p0) (c_p0 := c_p0_J39_130) (p1 := j39_130_11) (p2 := (1 : Int32)) (r0 := r_35) (c_p0_o := c_p0_35) (h := hc35)) _) (cwS 3 hts gX7_cross_X7_next rfl rfl rfl (by decide +kernel) ⟨Nat.le_of_ble_eq_true rfl, Nat.le_of_ble_eq_true rfl⟩) hK hN hP hD [0] rfl (by decide) rfl hl rfl (Nat.le_of_ble_eq_true rfl) dX7_cross_176 ⟨Nat.zero_le _, Nat.zero_le _⟩) hP hD hS hA rfl rfl (by decide) (by decide) (fun _ H locs hP hD hS => ?_)
        have hP : va_P D vwCl [(a_p0, .inl (cc 0, n_p0, .inl c_p0_35))] H := hP
        have hD : va_D A [(a_p0, .inl (cc 0, n_p0, .inl c_p0_35))] := hD
        refine lv_istore (x := r_35) (lv' := [(11, .int r_35), (12, .int s39_130_0), (0, .ref a_p0), (2, .int k39_2), (3, .int k39_3), (4, .int k39_4), (5, .int k39_5), (6, .int k39_6), (7, .int k39_7), (8, .int k39_8), (9, .int j39_130_9), (10, .int j39_130_10)]) hx hb dX7_cross_179 hl (by decide) rfl (fun ls hl => ?_)
        refine lv_iinc (v := j39_130_10 + (1 : Int32)) (lv' := [(10, .int (j39_130_10 + (1 : Int32))), (11, .int r_35), (12, .int s39_130_0), (0, .ref a_p0), (2, .int k39_2), (3, .int k39_3), (4, .int k39_4), (5, .int k39_5), (6, .int k39_6), (7, .int k39_7), (8, .int k39_8), (9, .int j39_130_9)]) hx hb dX7_cross_181 hl (k := 11) rfl (by first | rfl | decide) (by decide) rfl (fun ls hl => ?_)
        refine lv_goto (tgt := 39) hx hb dX7_cross_184 (by decide) ?_
        have hl := lv_sub (l' := [(0, .ref a_p0), (2, .int k39_2), (3, .int k39_3), (4, .int k39_4), (5, .int k39_5), (6, .int k39_6), (7, .int k39_7), (8, .int k39_8), (9, .int j39_130_9), (10, .int (j39_130_10 + (1 : Int32))), (11, .int r_35)]) hl [3, 4, 5, 6, 7, 8, 9, 10, 11, 0, 1] rfl
        cases h
        exact KS j39_130_9 (j39_130_10 + (1 : Int32)) r_35 c_p0_35 rfl _ _ _ hP hD hS hl
    · replace h := iq c31 h
      refine lv_aload_n hx hb dX7_cross_137 rfl (lv_at hl 1 rfl) ?_
      refine lv_iload hx hb dX7_cross_138 (lv_at hl 11 rfl) ?_
      refine lv_iload hx hb dX7_cross_140 (lv_at hl 4 rfl) ?_
      refine lv_iload_n hx hb dX7_cross_142 rfl (lv_at hl 2 rfl) ?_
      refine lv_icmp_le (tgt := 150) hx hb dX7_cross_143 (by decide) (fun (c37 : k39_4 ≤ k39_2) => ?_) (fun (c37 : ¬ k39_4 ≤ k39_2) => ?_)
      · replace h := ip c37 h
        refine lv_iconst (v := (2 : Int32)) hx hb dX7_cross_150 (by decide) ?_
        obtain ⟨r_38, c_p0_38, hc38, h⟩ := b2_some h
        refine xcalli (wr := []) [0] [] (xrunS (As := [.ref a_p0, .int j39_130_11, .int (2 : Int32)]) (rest := []) F ((kX7_next l D cc (a_p0 := a_p0) (n_p0 := n_p0) (c_p0 := c_p0_J39_130) (p1 := j39_130_11) (p2 := (2 : Int32)) (r0 := r_38) (c_p0_o := c_p0_38) (h := hc38)) _) (cwS 3 hts gX7_cross_X7_next rfl rfl rfl (by decide +kernel) ⟨Nat.le_of_ble_eq_true rfl, Nat.le_of_ble_eq_true rfl⟩) hK hN hP hD [0] rfl (by decide) rfl hl rfl (Nat.le_of_ble_eq_true rfl) dX7_cross_151 ⟨Nat.zero_le _, Nat.zero_le _⟩) hP hD hS hA rfl rfl (by decide) (by decide) (fun _ H locs hP hD hS => ?_)
        have hP : va_P D vwCl [(a_p0, .inl (cc 0, n_p0, .inl c_p0_38))] H := hP
        have hD : va_D A [(a_p0, .inl (cc 0, n_p0, .inl c_p0_38))] := hD
        refine lv_istore (x := r_38) (lv' := [(11, .int r_38), (12, .int s39_130_0), (0, .ref a_p0), (2, .int k39_2), (3, .int k39_3), (4, .int k39_4), (5, .int k39_5), (6, .int k39_6), (7, .int k39_7), (8, .int k39_8), (9, .int j39_130_9), (10, .int j39_130_10)]) hx hb dX7_cross_154 hl (by decide) rfl (fun ls hl => ?_)
        refine lv_iinc (v := j39_130_9 + (1 : Int32)) (lv' := [(9, .int (j39_130_9 + (1 : Int32))), (11, .int r_38), (12, .int s39_130_0), (0, .ref a_p0), (2, .int k39_2), (3, .int k39_3), (4, .int k39_4), (5, .int k39_5), (6, .int k39_6), (7, .int k39_7), (8, .int k39_8), (10, .int j39_130_10)]) hx hb dX7_cross_156 hl (k := 10) rfl (by first | rfl | decide) (by decide) rfl (fun ls hl => ?_)
        refine lv_goto (tgt := 184) hx hb dX7_cross_159 (by decide) ?_
        refine lv_goto (tgt := 39) hx hb dX7_cross_184 (by decide) ?_
        have hl := lv_sub (l' := [(0, .ref a_p0), (2, .int k39_2), (3, .int k39_3), (4, .int k39_4), (5, .int k39_5), (6, .int k39_6), (7, .int k39_7), (8, .int k39_8), (9, .int (j39_130_9 + (1 : Int32))), (10, .int j39_130_10), (11, .int r_38)]) hl [3, 4, 5, 6, 7, 8, 9, 10, 0, 11, 1] rfl
        cases h
        exact KS (j39_130_9 + (1 : Int32)) j39_130_10 r_38 c_p0_38 rfl _ _ _ hP hD hS hl
      · replace h := iq c37 h
        refine lv_iconst (v := (0 : Int32)) hx hb dX7_cross_146 (by decide) ?_
        refine lv_goto (tgt := 151) hx hb dX7_cross_147 (by decide) ?_
        obtain ⟨r_40, c_p0_40, hc40, h⟩ := b2_some h
        refine xcalli (wr := []) [0] [] (xrunS (As := [.ref a_p0, .int j39_130_11, .int (0 : Int32)]) (rest := []) F ((kX7_next l D cc (a_p0 := a_p0) (n_p0 := n_p0) (c_p0 := c_p0_J39_130) (p1 := j39_130_11) (p2 := (0 : Int32)) (r0 := r_40) (c_p0_o := c_p0_40) (h := hc40)) _) (cwS 3 hts gX7_cross_X7_next rfl rfl rfl (by decide +kernel) ⟨Nat.le_of_ble_eq_true rfl, Nat.le_of_ble_eq_true rfl⟩) hK hN hP hD [0] rfl (by decide) rfl hl rfl (Nat.le_of_ble_eq_true rfl) dX7_cross_151 ⟨Nat.zero_le _, Nat.zero_le _⟩) hP hD hS hA rfl rfl (by decide) (by decide) (fun _ H locs hP hD hS => ?_)
        have hP : va_P D vwCl [(a_p0, .inl (cc 0, n_p0, .inl c_p0_40))] H := hP
        have hD : va_D A [(a_p0, .inl (cc 0, n_p0, .inl c_p0_40))] := hD
        refine lv_istore (x := r_40) (lv' := [(11, .int r_40), (12, .int s39_130_0), (0, .ref a_p0), (2, .int k39_2), (3, .int k39_3), (4, .int k39_4), (5, .int k39_5), (6, .int k39_6), (7, .int k39_7), (8, .int k39_8), (9, .int j39_130_9), (10, .int j39_130_10)]) hx hb dX7_cross_154 hl (by decide) rfl (fun ls hl => ?_)
        refine lv_iinc (v := j39_130_9 + (1 : Int32)) (lv' := [(9, .int (j39_130_9 + (1 : Int32))), (11, .int r_40), (12, .int s39_130_0), (0, .ref a_p0), (2, .int k39_2), (3, .int k39_3), (4, .int k39_4), (5, .int k39_5), (6, .int k39_6), (7, .int k39_7), (8, .int k39_8), (10, .int j39_130_10)]) hx hb dX7_cross_156 hl (k := 10) rfl (by first | rfl | decide) (by decide) rfl (fun ls hl => ?_)
        refine lv_goto (tgt := 184) hx hb dX7_cross_159 (by decide) ?_
        refine lv_goto (tgt := 39) hx hb dX7_cross_184 (by decide) ?_
        have hl := lv_sub (l' := [(0, .ref a_p0), (2, .int k39_2), (3, .int k39_3), (4, .int k39_4), (5, .int k39_5), (6, .int k39_6), (7, .int k39_7), (8, .int k39_8), (9, .int (j39_130_9 + (1 : Int32))), (10, .int j39_130_10), (11, .int r_40)]) hl [3, 4, 5, 6, 7, 8, 9, 10, 0, 11, 1] rfl
        cases h
        exact KS (j39_130_9 + (1 : Int32)) j39_130_10 r_40 c_p0_40 rfl _ _ _ hP hD hS hl
  have hJ39_72 : ∀ (QQ : State → Prop) (k39_2 : Int32) (k39_3 : Int32) (k39_4 : Int32) (k39_5 : Int32) (k39_6 : Int32) (k39_7 : Int32) (k39_8 : Int32) (j39_72_9 : Int32) (j39_72_10 : Int32) (j39_72_11 : Int32) (s39_72_0 : Int32) (c_p0_J39_72 : Nat → Int32) (r9 : (Int32 × Int32 × Int32 × (Nat → Int32)) ⊕ (Int32 × (Nat → Int32))), fX7_cross_J39_72 n_p0 k39_2 k39_3 k39_4 k39_5 k39_6 k39_8 j39_72_9 j39_72_10 j39_72_11 s39_72_0 c_p0_J39_72 = some r9 → ∀ (H : Heap) (locs : List Loc) (ls : Array Slot), va_P D vwCl [(a_p0, .inl (cc 0, n_p0, .inl c_p0_J39_72))] H → va_D A [(a_p0, .inl (cc 0, n_p0, .inl c_p0_J39_72))] → va_S A s.heap H locs → lv_has ls 13 [(0, .ref a_p0), (2, .int k39_2), (3, .int k39_3), (4, .int k39_4), (5, .int k39_5), (6, .int k39_6), (7, .int k39_7), (8, .int k39_8), (9, .int j39_72_9), (10, .int j39_72_10), (11, .int j39_72_11)] → (∀ (x9 : Int32) (x10 : Int32) (x11 : Int32) (c_p0_L39 : Nat → Int32), r9 = Sum.inl (x9, x10, x11, c_p0_L39) → ∀ (H : Heap) (locs : List Loc) (ls : Array Slot), va_P D vwCl [(a_p0, .inl (cc 0, n_p0, .inl c_p0_L39))] H → va_D A [(a_p0, .inl (cc 0, n_p0, .inl c_p0_L39))] → va_S A s.heap H locs → lv_has ls 13 [(0, .ref a_p0), (2, .int k39_2), (3, .int k39_3), (4, .int k39_4), (5, .int k39_5), (6, .int k39_6), (7, .int k39_7), (8, .int k39_8), (9, .int x9), (10, .int x10), (11, .int x11)] → W p l e ({ frames := 1, cells := 0, slots := 0, locals := 23 } : Room) s m args below meth c H locs 0 0 QQ (F0 m 39 ls [])) → (∀ (y11 : Int32) (c_p0_E39 : Nat → Int32), r9 = Sum.inr ((y11, c_p0_E39)) → ∀ (H : Heap) (locs : List Loc) (ls : Array Slot), va_P D vwCl [(a_p0, .inl (cc 0, n_p0, .inl c_p0_E39))] H → va_D A [(a_p0, .inl (cc 0, n_p0, .inl c_p0_E39))] → va_S A s.heap H locs → lv_has ls 13 [(11, .int y11)] → W p l e ({ frames := 1, cells := 0, slots := 0, locals := 23 } : Room) s m args below meth c H locs 0 0 QQ (F0 m 187 ls [])) → W p l e ({ frames := 1, cells := 0, slots := 0, locals := 23 } : Room) s m args below meth c H locs 0 0 QQ (F0 m 72 ls [.int s39_72_0]) := by
    intro QQ k39_2 k39_3 k39_4 k39_5 k39_6 k39_7 k39_8 j39_72_9 j39_72_10 j39_72_11 s39_72_0 c_p0_J39_72 r9 h H locs ls hP hD hS hl KS KX0
    unfold fX7_cross_J39_72 at h
    refine lv_istore (x := s39_72_0) (lv' := [(12, .int s39_72_0), (0, .ref a_p0), (2, .int k39_2), (3, .int k39_3), (4, .int k39_4), (5, .int k39_5), (6, .int k39_6), (7, .int k39_7), (8, .int k39_8), (9, .int j39_72_9), (10, .int j39_72_10), (11, .int j39_72_11)]) hx hb dX7_cross_72 hl (by decide) rfl (fun ls hl => ?_)
    refine lv_iload hx hb dX7_cross_74 (lv_at hl 0 rfl) ?_
    refine lv_if_eq (tgt := 132) hx hb dX7_cross_76 (by decide) (fun (c10 : s39_72_0 = 0) => ?_) (fun (c10 : ¬ s39_72_0 = 0) => ?_)
    · replace h := ip c10 h
      refine lv_iload hx hb dX7_cross_132 (lv_at hl 0 rfl) ?_
      refine lv_if_eq (tgt := 162) hx hb dX7_cross_134 (by decide) (fun _ => ?_) (fun c11 => absurd c10 c11)
      refine lv_aload_n hx hb dX7_cross_162 rfl (lv_at hl 1 rfl) ?_
      refine lv_iload hx hb dX7_cross_163 (lv_at hl 11 rfl) ?_
      refine lv_iload hx hb dX7_cross_165 (lv_at hl 5 rfl) ?_
      refine lv_iload_n hx hb dX7_cross_167 rfl (lv_at hl 3 rfl) ?_
      refine lv_icmp_le (tgt := 175) hx hb dX7_cross_168 (by decide) (fun (c12 : k39_5 ≤ k39_3) => ?_) (fun (c12 : ¬ k39_5 ≤ k39_3) => ?_)
      · replace h := ip c12 h
        refine lv_iconst (v := (3 : Int32)) hx hb dX7_cross_175 (by decide) ?_
        obtain ⟨r_13, c_p0_13, hc13, h⟩ := b2_some h
        refine xcalli (wr := []) [0] [] (xrunS (As := [.ref a_p0, .int j39_72_11, .int (3 : Int32)]) (rest := []) F ((kX7_next l D cc (a_p0 := a_p0) (n_p0 := n_p0) (c_p0 := c_p0_J39_72) (p1 := j39_72_11) (p2 := (3 : Int32)) (r0 := r_13) (c_p0_o := c_p0_13) (h := hc13)) _) (cwS 3 hts gX7_cross_X7_next rfl rfl rfl (by decide +kernel) ⟨Nat.le_of_ble_eq_true rfl, Nat.le_of_ble_eq_true rfl⟩) hK hN hP hD [0] rfl (by decide) rfl hl rfl (Nat.le_of_ble_eq_true rfl) dX7_cross_176 ⟨Nat.zero_le _, Nat.zero_le _⟩) hP hD hS hA rfl rfl (by decide) (by decide) (fun _ H locs hP hD hS => ?_)
        have hP : va_P D vwCl [(a_p0, .inl (cc 0, n_p0, .inl c_p0_13))] H := hP
        have hD : va_D A [(a_p0, .inl (cc 0, n_p0, .inl c_p0_13))] := hD
        refine lv_istore (x := r_13) (lv' := [(11, .int r_13), (12, .int s39_72_0), (0, .ref a_p0), (2, .int k39_2), (3, .int k39_3), (4, .int k39_4), (5, .int k39_5), (6, .int k39_6), (7, .int k39_7), (8, .int k39_8), (9, .int j39_72_9), (10, .int j39_72_10)]) hx hb dX7_cross_179 hl (by decide) rfl (fun ls hl => ?_)
        refine lv_iinc (v := j39_72_10 + (1 : Int32)) (lv' := [(10, .int (j39_72_10 + (1 : Int32))), (11, .int r_13), (12, .int s39_72_0), (0, .ref a_p0), (2, .int k39_2), (3, .int k39_3), (4, .int k39_4), (5, .int k39_5), (6, .int k39_6), (7, .int k39_7), (8, .int k39_8), (9, .int j39_72_9)]) hx hb dX7_cross_181 hl (k := 11) rfl (by first | rfl | decide) (by decide) rfl (fun ls hl => ?_)
        refine lv_goto (tgt := 39) hx hb dX7_cross_184 (by decide) ?_
        have hl := lv_sub (l' := [(0, .ref a_p0), (2, .int k39_2), (3, .int k39_3), (4, .int k39_4), (5, .int k39_5), (6, .int k39_6), (7, .int k39_7), (8, .int k39_8), (9, .int j39_72_9), (10, .int (j39_72_10 + (1 : Int32))), (11, .int r_13)]) hl [3, 4, 5, 6, 7, 8, 9, 10, 11, 0, 1] rfl
        cases h
        exact KS j39_72_9 (j39_72_10 + (1 : Int32)) r_13 c_p0_13 rfl _ _ _ hP hD hS hl
      · replace h := iq c12 h
        refine lv_iconst (v := (1 : Int32)) hx hb dX7_cross_171 (by decide) ?_
        refine lv_goto (tgt := 176) hx hb dX7_cross_172 (by decide) ?_
        obtain ⟨r_15, c_p0_15, hc15, h⟩ := b2_some h
        refine xcalli (wr := []) [0] [] (xrunS (As := [.ref a_p0, .int j39_72_11, .int (1 : Int32)]) (rest := []) F ((kX7_next l D cc (a_p0 := a_p0) (n_p0 := n_p0) (c_p0 := c_p0_J39_72) (p1 := j39_72_11) (p2 := (1 : Int32)) (r0 := r_15) (c_p0_o := c_p0_15) (h := hc15)) _) (cwS 3 hts gX7_cross_X7_next rfl rfl rfl (by decide +kernel) ⟨Nat.le_of_ble_eq_true rfl, Nat.le_of_ble_eq_true rfl⟩) hK hN hP hD [0] rfl (by decide) rfl hl rfl (Nat.le_of_ble_eq_true rfl) dX7_cross_176 ⟨Nat.zero_le _, Nat.zero_le _⟩) hP hD hS hA rfl rfl (by decide) (by decide) (fun _ H locs hP hD hS => ?_)
        have hP : va_P D vwCl [(a_p0, .inl (cc 0, n_p0, .inl c_p0_15))] H := hP
        have hD : va_D A [(a_p0, .inl (cc 0, n_p0, .inl c_p0_15))] := hD
        refine lv_istore (x := r_15) (lv' := [(11, .int r_15), (12, .int s39_72_0), (0, .ref a_p0), (2, .int k39_2), (3, .int k39_3), (4, .int k39_4), (5, .int k39_5), (6, .int k39_6), (7, .int k39_7), (8, .int k39_8), (9, .int j39_72_9), (10, .int j39_72_10)]) hx hb dX7_cross_179 hl (by decide) rfl (fun ls hl => ?_)
        refine lv_iinc (v := j39_72_10 + (1 : Int32)) (lv' := [(10, .int (j39_72_10 + (1 : Int32))), (11, .int r_15), (12, .int s39_72_0), (0, .ref a_p0), (2, .int k39_2), (3, .int k39_3), (4, .int k39_4), (5, .int k39_5), (6, .int k39_6), (7, .int k39_7), (8, .int k39_8), (9, .int j39_72_9)]) hx hb dX7_cross_181 hl (k := 11) rfl (by first | rfl | decide) (by decide) rfl (fun ls hl => ?_)
        refine lv_goto (tgt := 39) hx hb dX7_cross_184 (by decide) ?_
        have hl := lv_sub (l' := [(0, .ref a_p0), (2, .int k39_2), (3, .int k39_3), (4, .int k39_4), (5, .int k39_5), (6, .int k39_6), (7, .int k39_7), (8, .int k39_8), (9, .int j39_72_9), (10, .int (j39_72_10 + (1 : Int32))), (11, .int r_15)]) hl [3, 4, 5, 6, 7, 8, 9, 10, 11, 0, 1] rfl
        cases h
        exact KS j39_72_9 (j39_72_10 + (1 : Int32)) r_15 c_p0_15 rfl _ _ _ hP hD hS hl
    · replace h := iq c10 h
      refine lv_iload hx hb dX7_cross_79 (lv_at hl 10 rfl) ?_
      refine lv_iload hx hb dX7_cross_81 (lv_at hl 8 rfl) ?_
      refine lv_icmp_ge (tgt := 132) hx hb dX7_cross_83 (by decide) (fun (c17 : k39_8 ≤ j39_72_10) => ?_) (fun (c17 : ¬ k39_8 ≤ j39_72_10) => ?_)
      · replace h := ip c17 h
        refine lv_iload hx hb dX7_cross_132 (lv_at hl 0 rfl) ?_
        refine lv_if_eq (tgt := 162) hx hb dX7_cross_134 (by decide) (fun c18 => absurd c18 c10) (fun _ => ?_)
        refine lv_aload_n hx hb dX7_cross_137 rfl (lv_at hl 1 rfl) ?_
        refine lv_iload hx hb dX7_cross_138 (lv_at hl 11 rfl) ?_
        refine lv_iload hx hb dX7_cross_140 (lv_at hl 4 rfl) ?_
        refine lv_iload_n hx hb dX7_cross_142 rfl (lv_at hl 2 rfl) ?_
        refine lv_icmp_le (tgt := 150) hx hb dX7_cross_143 (by decide) (fun (c19 : k39_4 ≤ k39_2) => ?_) (fun (c19 : ¬ k39_4 ≤ k39_2) => ?_)
        · replace h := ip c19 h
          refine lv_iconst (v := (2 : Int32)) hx hb dX7_cross_150 (by decide) ?_
          obtain ⟨r_20, c_p0_20, hc20, h⟩ := b2_some h
          refine xcalli (wr := []) [0] [] (xrunS (As := [.ref a_p0, .int j39_72_11, .int (2 : Int32)]) (rest := []) F ((kX7_next l D cc (a_p0 := a_p0) (n_p0 := n_p0) (c_p0 := c_p0_J39_72) (p1 := j39_72_11) (p2 := (2 : Int32)) (r0 := r_20) (c_p0_o := c_p0_20) (h := hc20)) _) (cwS 3 hts gX7_cross_X7_next rfl rfl rfl (by decide +kernel) ⟨Nat.le_of_ble_eq_true rfl, Nat.le_of_ble_eq_true rfl⟩) hK hN hP hD [0] rfl (by decide) rfl hl rfl (Nat.le_of_ble_eq_true rfl) dX7_cross_151 ⟨Nat.zero_le _, Nat.zero_le _⟩) hP hD hS hA rfl rfl (by decide) (by decide) (fun _ H locs hP hD hS => ?_)
          have hP : va_P D vwCl [(a_p0, .inl (cc 0, n_p0, .inl c_p0_20))] H := hP
          have hD : va_D A [(a_p0, .inl (cc 0, n_p0, .inl c_p0_20))] := hD
          refine lv_istore (x := r_20) (lv' := [(11, .int r_20), (12, .int s39_72_0), (0, .ref a_p0), (2, .int k39_2), (3, .int k39_3), (4, .int k39_4), (5, .int k39_5), (6, .int k39_6), (7, .int k39_7), (8, .int k39_8), (9, .int j39_72_9), (10, .int j39_72_10)]) hx hb dX7_cross_154 hl (by decide) rfl (fun ls hl => ?_)
          refine lv_iinc (v := j39_72_9 + (1 : Int32)) (lv' := [(9, .int (j39_72_9 + (1 : Int32))), (11, .int r_20), (12, .int s39_72_0), (0, .ref a_p0), (2, .int k39_2), (3, .int k39_3), (4, .int k39_4), (5, .int k39_5), (6, .int k39_6), (7, .int k39_7), (8, .int k39_8), (10, .int j39_72_10)]) hx hb dX7_cross_156 hl (k := 10) rfl (by first | rfl | decide) (by decide) rfl (fun ls hl => ?_)
          refine lv_goto (tgt := 184) hx hb dX7_cross_159 (by decide) ?_
          refine lv_goto (tgt := 39) hx hb dX7_cross_184 (by decide) ?_
          have hl := lv_sub (l' := [(0, .ref a_p0), (2, .int k39_2), (3, .int k39_3), (4, .int k39_4), (5, .int k39_5), (6, .int k39_6), (7, .int k39_7), (8, .int k39_8), (9, .int (j39_72_9 + (1 : Int32))), (10, .int j39_72_10), (11, .int r_20)]) hl [3, 4, 5, 6, 7, 8, 9, 10, 0, 11, 1] rfl
          cases h
          exact KS (j39_72_9 + (1 : Int32)) j39_72_10 r_20 c_p0_20 rfl _ _ _ hP hD hS hl
        · replace h := iq c19 h
          refine lv_iconst (v := (0 : Int32)) hx hb dX7_cross_146 (by decide) ?_
          refine lv_goto (tgt := 151) hx hb dX7_cross_147 (by decide) ?_
          obtain ⟨r_22, c_p0_22, hc22, h⟩ := b2_some h
          refine xcalli (wr := []) [0] [] (xrunS (As := [.ref a_p0, .int j39_72_11, .int (0 : Int32)]) (rest := []) F ((kX7_next l D cc (a_p0 := a_p0) (n_p0 := n_p0) (c_p0 := c_p0_J39_72) (p1 := j39_72_11) (p2 := (0 : Int32)) (r0 := r_22) (c_p0_o := c_p0_22) (h := hc22)) _) (cwS 3 hts gX7_cross_X7_next rfl rfl rfl (by decide +kernel) ⟨Nat.le_of_ble_eq_true rfl, Nat.le_of_ble_eq_true rfl⟩) hK hN hP hD [0] rfl (by decide) rfl hl rfl (Nat.le_of_ble_eq_true rfl) dX7_cross_151 ⟨Nat.zero_le _, Nat.zero_le _⟩) hP hD hS hA rfl rfl (by decide) (by decide) (fun _ H locs hP hD hS => ?_)
          have hP : va_P D vwCl [(a_p0, .inl (cc 0, n_p0, .inl c_p0_22))] H := hP
          have hD : va_D A [(a_p0, .inl (cc 0, n_p0, .inl c_p0_22))] := hD
          refine lv_istore (x := r_22) (lv' := [(11, .int r_22), (12, .int s39_72_0), (0, .ref a_p0), (2, .int k39_2), (3, .int k39_3), (4, .int k39_4), (5, .int k39_5), (6, .int k39_6), (7, .int k39_7), (8, .int k39_8), (9, .int j39_72_9), (10, .int j39_72_10)]) hx hb dX7_cross_154 hl (by decide) rfl (fun ls hl => ?_)
          refine lv_iinc (v := j39_72_9 + (1 : Int32)) (lv' := [(9, .int (j39_72_9 + (1 : Int32))), (11, .int r_22), (12, .int s39_72_0), (0, .ref a_p0), (2, .int k39_2), (3, .int k39_3), (4, .int k39_4), (5, .int k39_5), (6, .int k39_6), (7, .int k39_7), (8, .int k39_8), (10, .int j39_72_10)]) hx hb dX7_cross_156 hl (k := 10) rfl (by first | rfl | decide) (by decide) rfl (fun ls hl => ?_)
          refine lv_goto (tgt := 184) hx hb dX7_cross_159 (by decide) ?_
          refine lv_goto (tgt := 39) hx hb dX7_cross_184 (by decide) ?_
          have hl := lv_sub (l' := [(0, .ref a_p0), (2, .int k39_2), (3, .int k39_3), (4, .int k39_4), (5, .int k39_5), (6, .int k39_6), (7, .int k39_7), (8, .int k39_8), (9, .int (j39_72_9 + (1 : Int32))), (10, .int j39_72_10), (11, .int r_22)]) hl [3, 4, 5, 6, 7, 8, 9, 10, 0, 11, 1] rfl
          cases h
          exact KS (j39_72_9 + (1 : Int32)) j39_72_10 r_22 c_p0_22 rfl _ _ _ hP hD hS hl
      · replace h := iq c17 h
        refine lv_iload_n hx hb dX7_cross_86 rfl (lv_at hl 2 rfl) ?_
        refine lv_iload hx hb dX7_cross_87 (lv_at hl 4 rfl) ?_
        refine lv_iload hx hb dX7_cross_89 (lv_at hl 6 rfl) ?_
        refine lv_iload hx hb dX7_cross_91 (lv_at hl 9 rfl) ?_
        obtain ⟨r_24, hc24, h⟩ := b1_some h
        refine xcalli (wr := [(a_p0, .inl (cc 0, n_p0, .inl c_p0_J39_72))]) [] [0] (xrunS (As := [.int k39_2, .int k39_4, .int k39_6, .int j39_72_9]) (rest := []) F ((kX7_ahead l D cc (p0 := k39_2) (p1 := k39_4) (p2 := k39_6) (p3 := j39_72_9) (r0 := r_24) (h := hc24)) _) (cwS 4 hts gX7_cross_X7_ahead rfl rfl rfl (by decide +kernel) ⟨Nat.le_of_ble_eq_true rfl, Nat.le_of_ble_eq_true rfl⟩) hK hN hP hD [] rfl (by decide) rfl hl rfl (Nat.le_of_ble_eq_true rfl) dX7_cross_93 ⟨Nat.zero_le _, Nat.zero_le _⟩) hP hD hS hA rfl rfl (by decide) (by decide) (fun _ H locs hP hD hS => ?_)
        have hP : va_P D vwCl [(a_p0, .inl (cc 0, n_p0, .inl c_p0_J39_72))] H := hP
        have hD : va_D A [(a_p0, .inl (cc 0, n_p0, .inl c_p0_J39_72))] := hD
        refine lv_iload hx hb dX7_cross_96 (lv_at hl 5 rfl) ?_
        refine lv_iload_n hx hb dX7_cross_98 rfl (lv_at hl 3 rfl) ?_
        refine lv_isub hx hb dX7_cross_99 ?_
        refine xcalli (wr := [(a_p0, .inl (cc 0, n_p0, .inl c_p0_J39_72))]) [] [0] (xrunS (As := [.int (k39_5 - k39_3)]) (rest := [.int r_24]) F ((kX7_size l D cc (p0 := k39_5 - k39_3) (r0 := (fX7_size (k39_5 - k39_3))) (h := rfl)) _) (cwS 1 hts gX7_cross_X7_size rfl rfl rfl (by decide +kernel) ⟨Nat.le_of_ble_eq_true rfl, Nat.le_of_ble_eq_true rfl⟩) hK hN hP hD [] rfl (by decide) rfl hl rfl (Nat.le_of_ble_eq_true rfl) dX7_cross_100 ⟨Nat.zero_le _, Nat.zero_le _⟩) hP hD hS hA rfl rfl (by decide) (by decide) (fun _ H locs hP hD hS => ?_)
        have hP : va_P D vwCl [(a_p0, .inl (cc 0, n_p0, .inl c_p0_J39_72))] H := hP
        have hD : va_D A [(a_p0, .inl (cc 0, n_p0, .inl c_p0_J39_72))] := hD
        refine lv_imul hx hb dX7_cross_103 ?_
        refine lv_iload_n hx hb dX7_cross_104 rfl (lv_at hl 3 rfl) ?_
        refine lv_iload hx hb dX7_cross_105 (lv_at hl 5 rfl) ?_
        refine lv_iload hx hb dX7_cross_107 (lv_at hl 6 rfl) ?_
        refine lv_iload hx hb dX7_cross_109 (lv_at hl 10 rfl) ?_
        obtain ⟨r_27, hc27, h⟩ := b1_some h
        refine xcalli (wr := [(a_p0, .inl (cc 0, n_p0, .inl c_p0_J39_72))]) [] [0] (xrunS (As := [.int k39_3, .int k39_5, .int k39_6, .int j39_72_10]) (rest := [.int (r_24 * (fX7_size (k39_5 - k39_3)))]) F ((kX7_ahead l D cc (p0 := k39_3) (p1 := k39_5) (p2 := k39_6) (p3 := j39_72_10) (r0 := r_27) (h := hc27)) _) (cwS 4 hts gX7_cross_X7_ahead rfl rfl rfl (by decide +kernel) ⟨Nat.le_of_ble_eq_true rfl, Nat.le_of_ble_eq_true rfl⟩) hK hN hP hD [] rfl (by decide) rfl hl rfl (Nat.le_of_ble_eq_true rfl) dX7_cross_111 ⟨Nat.zero_le _, Nat.zero_le _⟩) hP hD hS hA rfl rfl (by decide) (by decide) (fun _ H locs hP hD hS => ?_)
        have hP : va_P D vwCl [(a_p0, .inl (cc 0, n_p0, .inl c_p0_J39_72))] H := hP
        have hD : va_D A [(a_p0, .inl (cc 0, n_p0, .inl c_p0_J39_72))] := hD
        refine lv_iload hx hb dX7_cross_114 (lv_at hl 4 rfl) ?_
        refine lv_iload_n hx hb dX7_cross_116 rfl (lv_at hl 2 rfl) ?_
        refine lv_isub hx hb dX7_cross_117 ?_
        refine xcalli (wr := [(a_p0, .inl (cc 0, n_p0, .inl c_p0_J39_72))]) [] [0] (xrunS (As := [.int (k39_4 - k39_2)]) (rest := [.int r_27, .int (r_24 * (fX7_size (k39_5 - k39_3)))]) F ((kX7_size l D cc (p0 := k39_4 - k39_2) (r0 := (fX7_size (k39_4 - k39_2))) (h := rfl)) _) (cwS 1 hts gX7_cross_X7_size rfl rfl rfl (by decide +kernel) ⟨Nat.le_of_ble_eq_true rfl, Nat.le_of_ble_eq_true rfl⟩) hK hN hP hD [] rfl (by decide) rfl hl rfl (Nat.le_of_ble_eq_true rfl) dX7_cross_118 ⟨Nat.zero_le _, Nat.zero_le _⟩) hP hD hS hA rfl rfl (by decide) (by decide) (fun _ H locs hP hD hS => ?_)
        have hP : va_P D vwCl [(a_p0, .inl (cc 0, n_p0, .inl c_p0_J39_72))] H := hP
        have hD : va_D A [(a_p0, .inl (cc 0, n_p0, .inl c_p0_J39_72))] := hD
        refine lv_imul hx hb dX7_cross_121 ?_
        refine lv_icmp_gt (tgt := 129) hx hb dX7_cross_122 (by decide) (fun (c30 : (r_27 * (fX7_size (k39_4 - k39_2))) < (r_24 * (fX7_size (k39_5 - k39_3)))) => ?_) (fun (c30 : ¬ (r_27 * (fX7_size (k39_4 - k39_2))) < (r_24 * (fX7_size (k39_5 - k39_3)))) => ?_)
        · replace h := ip c30 h
          refine lv_iconst (v := (0 : Int32)) hx hb dX7_cross_129 (by decide) ?_
          have hl := lv_sub (l' := [(0, .ref a_p0), (2, .int k39_2), (3, .int k39_3), (4, .int k39_4), (5, .int k39_5), (6, .int k39_6), (7, .int k39_7), (8, .int k39_8), (9, .int j39_72_9), (10, .int j39_72_10), (11, .int j39_72_11)]) hl [1, 2, 3, 4, 5, 6, 7, 8, 9, 10, 11] rfl
          exact hJ39_130 _ k39_2 k39_3 k39_4 k39_5 k39_6 k39_7 k39_8 j39_72_9 j39_72_10 j39_72_11 (0 : Int32) c_p0_J39_72 r9 h _ _ _ hP hD hS hl KS KX0
        · replace h := iq c30 h
          refine lv_iconst (v := (1 : Int32)) hx hb dX7_cross_125 (by decide) ?_
          refine lv_goto (tgt := 130) hx hb dX7_cross_126 (by decide) ?_
          have hl := lv_sub (l' := [(0, .ref a_p0), (2, .int k39_2), (3, .int k39_3), (4, .int k39_4), (5, .int k39_5), (6, .int k39_6), (7, .int k39_7), (8, .int k39_8), (9, .int j39_72_9), (10, .int j39_72_10), (11, .int j39_72_11)]) hl [1, 2, 3, 4, 5, 6, 7, 8, 9, 10, 11] rfl
          exact hJ39_130 _ k39_2 k39_3 k39_4 k39_5 k39_6 k39_7 k39_8 j39_72_9 j39_72_10 j39_72_11 (1 : Int32) c_p0_J39_72 r9 h _ _ _ hP hD hS hl KS KX0
  have hB39 : ∀ (QQ : State → Prop) (k39_2 : Int32) (k39_3 : Int32) (k39_4 : Int32) (k39_5 : Int32) (k39_6 : Int32) (k39_7 : Int32) (k39_8 : Int32) (x9 : Int32) (x10 : Int32) (x11 : Int32) (c_p0_L39 : Nat → Int32) (r9 : (Int32 × Int32 × Int32 × (Nat → Int32)) ⊕ (Int32 × (Nat → Int32))), fX7_cross_L39 n_p0 k39_2 k39_3 k39_4 k39_5 k39_6 k39_7 k39_8 x9 x10 x11 c_p0_L39 = some r9 → ∀ (H : Heap) (locs : List Loc) (ls : Array Slot), va_P D vwCl [(a_p0, .inl (cc 0, n_p0, .inl c_p0_L39))] H → va_D A [(a_p0, .inl (cc 0, n_p0, .inl c_p0_L39))] → va_S A s.heap H locs → lv_has ls 13 [(0, .ref a_p0), (2, .int k39_2), (3, .int k39_3), (4, .int k39_4), (5, .int k39_5), (6, .int k39_6), (7, .int k39_7), (8, .int k39_8), (9, .int x9), (10, .int x10), (11, .int x11)] → (∀ (x9 : Int32) (x10 : Int32) (x11 : Int32) (c_p0_L39 : Nat → Int32), r9 = Sum.inl (x9, x10, x11, c_p0_L39) → ∀ (H : Heap) (locs : List Loc) (ls : Array Slot), va_P D vwCl [(a_p0, .inl (cc 0, n_p0, .inl c_p0_L39))] H → va_D A [(a_p0, .inl (cc 0, n_p0, .inl c_p0_L39))] → va_S A s.heap H locs → lv_has ls 13 [(0, .ref a_p0), (2, .int k39_2), (3, .int k39_3), (4, .int k39_4), (5, .int k39_5), (6, .int k39_6), (7, .int k39_7), (8, .int k39_8), (9, .int x9), (10, .int x10), (11, .int x11)] → W p l e ({ frames := 1, cells := 0, slots := 0, locals := 23 } : Room) s m args below meth c H locs 0 0 QQ (F0 m 39 ls [])) → (∀ (y11 : Int32) (c_p0_E39 : Nat → Int32), r9 = Sum.inr ((y11, c_p0_E39)) → ∀ (H : Heap) (locs : List Loc) (ls : Array Slot), va_P D vwCl [(a_p0, .inl (cc 0, n_p0, .inl c_p0_E39))] H → va_D A [(a_p0, .inl (cc 0, n_p0, .inl c_p0_E39))] → va_S A s.heap H locs → lv_has ls 13 [(11, .int y11)] → W p l e ({ frames := 1, cells := 0, slots := 0, locals := 23 } : Room) s m args below meth c H locs 0 0 QQ (F0 m 187 ls [])) → W p l e ({ frames := 1, cells := 0, slots := 0, locals := 23 } : Room) s m args below meth c H locs 0 0 QQ (F0 m 39 ls []) := by
    intro QQ k39_2 k39_3 k39_4 k39_5 k39_6 k39_7 k39_8 x9 x10 x11 c_p0_L39 r9 h H locs ls hP hD hS hl KS KX0
    unfold fX7_cross_L39 at h
    refine lv_iload hx hb dX7_cross_39 (lv_at hl 8 rfl) ?_
    refine lv_iload hx hb dX7_cross_41 (lv_at hl 6 rfl) ?_
    refine lv_icmp_lt (tgt := 53) hx hb dX7_cross_43 (by decide) (fun (c7 : x9 < k39_7) => ?_) (fun (c7 : ¬ x9 < k39_7) => ?_)
    · replace h := ip c7 h
      refine lv_iload hx hb dX7_cross_53 (lv_at hl 10 rfl) ?_
      refine lv_bipush (v := (40 : Int32)) hx hb dX7_cross_55 (by decide) ?_
      refine lv_icmp_gt (tgt := 187) hx hb dX7_cross_57 (by decide) (fun (c8 : (40 : Int32) < x11) => ?_) (fun (c8 : ¬ (40 : Int32) < x11) => ?_)
      · replace h := ip c8 h
        have hl := lv_sub (l' := [(11, .int x11)]) hl [10] rfl
        cases h
        exact KX0 x11 c_p0_L39 rfl _ _ _ hP hD hS hl
      · replace h := iq c8 h
        refine lv_iload hx hb dX7_cross_60 (lv_at hl 8 rfl) ?_
        refine lv_iload hx hb dX7_cross_62 (lv_at hl 6 rfl) ?_
        refine lv_icmp_ge (tgt := 71) hx hb dX7_cross_64 (by decide) (fun (c9 : k39_7 ≤ x9) => ?_) (fun (c9 : ¬ k39_7 ≤ x9) => ?_)
        · replace h := ip c9 h
          refine lv_iconst (v := (0 : Int32)) hx hb dX7_cross_71 (by decide) ?_
          exact hJ39_72 _ k39_2 k39_3 k39_4 k39_5 k39_6 k39_7 k39_8 x9 x10 x11 (0 : Int32) c_p0_L39 r9 h _ _ _ hP hD hS hl KS KX0
        · replace h := iq c9 h
          refine lv_iconst (v := (1 : Int32)) hx hb dX7_cross_67 (by decide) ?_
          refine lv_goto (tgt := 72) hx hb dX7_cross_68 (by decide) ?_
          exact hJ39_72 _ k39_2 k39_3 k39_4 k39_5 k39_6 k39_7 k39_8 x9 x10 x11 (1 : Int32) c_p0_L39 r9 h _ _ _ hP hD hS hl KS KX0
    · replace h := iq c7 h
      refine lv_iload hx hb dX7_cross_46 (lv_at hl 9 rfl) ?_
      refine lv_iload hx hb dX7_cross_48 (lv_at hl 7 rfl) ?_
      refine lv_icmp_ge (tgt := 187) hx hb dX7_cross_50 (by decide) (fun (c42 : k39_8 ≤ x10) => ?_) (fun (c42 : ¬ k39_8 ≤ x10) => ?_)
      · replace h := ip c42 h
        have hl := lv_sub (l' := [(11, .int x11)]) hl [10] rfl
        cases h
        exact KX0 x11 c_p0_L39 rfl _ _ _ hP hD hS hl
      · replace h := iq c42 h
        refine lv_iload hx hb dX7_cross_53 (lv_at hl 10 rfl) ?_
        refine lv_bipush (v := (40 : Int32)) hx hb dX7_cross_55 (by decide) ?_
        refine lv_icmp_gt (tgt := 187) hx hb dX7_cross_57 (by decide) (fun (c43 : (40 : Int32) < x11) => ?_) (fun (c43 : ¬ (40 : Int32) < x11) => ?_)
        · replace h := ip c43 h
          have hl := lv_sub (l' := [(11, .int x11)]) hl [10] rfl
          cases h
          exact KX0 x11 c_p0_L39 rfl _ _ _ hP hD hS hl
        · replace h := iq c43 h
          refine lv_iload hx hb dX7_cross_60 (lv_at hl 8 rfl) ?_
          refine lv_iload hx hb dX7_cross_62 (lv_at hl 6 rfl) ?_
          refine lv_icmp_ge (tgt := 71) hx hb dX7_cross_64 (by decide) (fun (c44 : k39_7 ≤ x9) => ?_) (fun (c44 : ¬ k39_7 ≤ x9) => ?_)
          · replace h := ip c44 h
            refine lv_iconst (v := (0 : Int32)) hx hb dX7_cross_71 (by decide) ?_
            exact hJ39_72 _ k39_2 k39_3 k39_4 k39_5 k39_6 k39_7 k39_8 x9 x10 x11 (0 : Int32) c_p0_L39 r9 h _ _ _ hP hD hS hl KS KX0
          · replace h := iq c44 h
            refine lv_iconst (v := (1 : Int32)) hx hb dX7_cross_67 (by decide) ?_
            refine lv_goto (tgt := 72) hx hb dX7_cross_68 (by decide) ?_
            exact hJ39_72 _ k39_2 k39_3 k39_4 k39_5 k39_6 k39_7 k39_8 x9 x10 x11 (1 : Int32) c_p0_L39 r9 h _ _ _ hP hD hS hl KS KX0
  have hL39 : ∀ (QQ : State → Prop) (n : Nat) (k39_2 : Int32) (k39_3 : Int32) (k39_4 : Int32) (k39_5 : Int32) (k39_6 : Int32) (k39_7 : Int32) (k39_8 : Int32) (x9 : Int32) (x10 : Int32) (x11 : Int32) (c_p0_L39 : Nat → Int32) (r9 : Int32 × (Nat → Int32)), loopF (fun (z : Int32 × Int32 × Int32 × (Nat → Int32)) => fX7_cross_L39 n_p0 k39_2 k39_3 k39_4 k39_5 k39_6 k39_7 k39_8 z.1 z.2.1 z.2.2.1 z.2.2.2) n (x9, x10, x11, c_p0_L39) = some r9 → ∀ (H : Heap) (locs : List Loc) (ls : Array Slot), va_P D vwCl [(a_p0, .inl (cc 0, n_p0, .inl c_p0_L39))] H → va_D A [(a_p0, .inl (cc 0, n_p0, .inl c_p0_L39))] → va_S A s.heap H locs → lv_has ls 13 [(0, .ref a_p0), (2, .int k39_2), (3, .int k39_3), (4, .int k39_4), (5, .int k39_5), (6, .int k39_6), (7, .int k39_7), (8, .int k39_8), (9, .int x9), (10, .int x10), (11, .int x11)] → (∀ (y11 : Int32) (c_p0_E39 : Nat → Int32), r9 = (y11, c_p0_E39) → ∀ (H : Heap) (locs : List Loc) (ls : Array Slot), va_P D vwCl [(a_p0, .inl (cc 0, n_p0, .inl c_p0_E39))] H → va_D A [(a_p0, .inl (cc 0, n_p0, .inl c_p0_E39))] → va_S A s.heap H locs → lv_has ls 13 [(11, .int y11)] → W p l e ({ frames := 1, cells := 0, slots := 0, locals := 23 } : Room) s m args below meth c H locs 0 0 QQ (F0 m 187 ls [])) → W p l e ({ frames := 1, cells := 0, slots := 0, locals := 23 } : Room) s m args below meth c H locs 0 0 QQ (F0 m 39 ls []) := by
    intro QQ n
    induction n with
    | zero => intro k39_2 k39_3 k39_4 k39_5 k39_6 k39_7 k39_8 x9 x10 x11 c_p0_L39 r9 h; exact (loopF_zero h).elim
    | succ n ih =>
      intro k39_2 k39_3 k39_4 k39_5 k39_6 k39_7 k39_8 x9 x10 x11 c_p0_L39 r9 h H locs ls hP hD hS hl KX0
      obtain ⟨z9, hz, h⟩ := loopF_step h
      exact hB39 QQ k39_2 k39_3 k39_4 k39_5 k39_6 k39_7 k39_8 x9 x10 x11 c_p0_L39 z9 hz H locs ls hP hD hS hl (fun x9_b x10_b x11_b c_p0_L39_b q9 H9 locs9 ls9 hP9 hD9 hS9 hl9 => ih k39_2 k39_3 k39_4 k39_5 k39_6 k39_7 k39_8 x9_b x10_b x11_b c_p0_L39_b r9 (by rcases h with ⟨s9, h1, h2⟩ | h1 <;> rw [h1] at q9 <;> cases q9; exact h2) H9 locs9 ls9 hP9 hD9 hS9 hl9 KX0) (fun y11 c_p0_E39 q9 => KX0 y11 c_p0_E39 (by rcases h with ⟨s9, h1, h2⟩ | h1 <;> rw [h1] at q9 <;> cases q9; rfl))
  refine lv_iload hx hb dX7_cross_0 (lv_at hl 4 rfl) ?_
  refine lv_iload hx hb dX7_cross_2 (lv_at hl 6 rfl) ?_
  obtain ⟨g1, h⟩ := gd h
  refine lv_idiv hx hb dX7_cross_4 g1 ?_
  refine lv_iload_n hx hb dX7_cross_5 rfl (lv_at hl 2 rfl) ?_
  refine lv_iload hx hb dX7_cross_6 (lv_at hl 6 rfl) ?_
  obtain ⟨g2, h⟩ := gd h
  refine lv_idiv hx hb dX7_cross_8 g2 ?_
  refine lv_isub hx hb dX7_cross_9 ?_
  refine xcalli (wr := [(a_p0, .inl (cc 0, n_p0, .inl c_p0))]) [] [0] (xrunS (As := [.int ((p4 / p6) - (p2 / p6))]) (rest := []) F ((kX7_size l D cc (p0 := (p4 / p6) - (p2 / p6)) (r0 := (fX7_size ((p4 / p6) - (p2 / p6)))) (h := rfl)) _) (cwS 1 hts gX7_cross_X7_size rfl rfl rfl (by decide +kernel) ⟨Nat.le_of_ble_eq_true rfl, Nat.le_of_ble_eq_true rfl⟩) hK hN hP hD [] rfl (by decide) rfl hl rfl (Nat.le_of_ble_eq_true rfl) dX7_cross_10 ⟨Nat.zero_le _, Nat.zero_le _⟩) hP hD hS hA rfl rfl (by decide) (by decide) (fun _ H locs hP hD hS => ?_)
  have hP : va_P D vwCl [(a_p0, .inl (cc 0, n_p0, .inl c_p0))] H := hP
  have hD : va_D A [(a_p0, .inl (cc 0, n_p0, .inl c_p0))] := hD
  refine lv_istore (x := (fX7_size ((p4 / p6) - (p2 / p6)))) (lv' := [(7, .int (fX7_size ((p4 / p6) - (p2 / p6)))), (0, .ref a_p0), (1, .int p1), (2, .int p2), (3, .int p3), (4, .int p4), (5, .int p5), (6, .int p6)]) hx hb dX7_cross_13 hl (by decide) rfl (fun ls hl => ?_)
  refine lv_iload hx hb dX7_cross_15 (lv_at hl 6 rfl) ?_
  refine lv_iload hx hb dX7_cross_17 (lv_at hl 7 rfl) ?_
  obtain ⟨g4, h⟩ := gd h
  refine lv_idiv hx hb dX7_cross_19 g4 ?_
  refine lv_iload_n hx hb dX7_cross_20 rfl (lv_at hl 4 rfl) ?_
  refine lv_iload hx hb dX7_cross_21 (lv_at hl 7 rfl) ?_
  obtain ⟨g5, h⟩ := gd h
  refine lv_idiv hx hb dX7_cross_23 g5 ?_
  refine lv_isub hx hb dX7_cross_24 ?_
  refine xcalli (wr := [(a_p0, .inl (cc 0, n_p0, .inl c_p0))]) [] [0] (xrunS (As := [.int ((p5 / p6) - (p3 / p6))]) (rest := []) F ((kX7_size l D cc (p0 := (p5 / p6) - (p3 / p6)) (r0 := (fX7_size ((p5 / p6) - (p3 / p6)))) (h := rfl)) _) (cwS 1 hts gX7_cross_X7_size rfl rfl rfl (by decide +kernel) ⟨Nat.le_of_ble_eq_true rfl, Nat.le_of_ble_eq_true rfl⟩) hK hN hP hD [] rfl (by decide) rfl hl rfl (Nat.le_of_ble_eq_true rfl) dX7_cross_25 ⟨Nat.zero_le _, Nat.zero_le _⟩) hP hD hS hA rfl rfl (by decide) (by decide) (fun _ H locs hP hD hS => ?_)
  have hP : va_P D vwCl [(a_p0, .inl (cc 0, n_p0, .inl c_p0))] H := hP
  have hD : va_D A [(a_p0, .inl (cc 0, n_p0, .inl c_p0))] := hD
  refine lv_istore (x := (fX7_size ((p5 / p6) - (p3 / p6)))) (lv' := [(8, .int (fX7_size ((p5 / p6) - (p3 / p6)))), (7, .int (fX7_size ((p4 / p6) - (p2 / p6)))), (0, .ref a_p0), (1, .int p1), (2, .int p2), (3, .int p3), (4, .int p4), (5, .int p5), (6, .int p6)]) hx hb dX7_cross_28 hl (by decide) rfl (fun ls hl => ?_)
  refine lv_iconst (v := (0 : Int32)) hx hb dX7_cross_30 (by decide) ?_
  refine lv_istore (x := (0 : Int32)) (lv' := [(9, .int (0 : Int32)), (8, .int (fX7_size ((p5 / p6) - (p3 / p6)))), (7, .int (fX7_size ((p4 / p6) - (p2 / p6)))), (0, .ref a_p0), (1, .int p1), (2, .int p2), (3, .int p3), (4, .int p4), (5, .int p5), (6, .int p6)]) hx hb dX7_cross_31 hl (by decide) rfl (fun ls hl => ?_)
  refine lv_iconst (v := (0 : Int32)) hx hb dX7_cross_33 (by decide) ?_
  refine lv_istore (x := (0 : Int32)) (lv' := [(10, .int (0 : Int32)), (9, .int (0 : Int32)), (8, .int (fX7_size ((p5 / p6) - (p3 / p6)))), (7, .int (fX7_size ((p4 / p6) - (p2 / p6)))), (0, .ref a_p0), (1, .int p1), (2, .int p2), (3, .int p3), (4, .int p4), (5, .int p5), (6, .int p6)]) hx hb dX7_cross_34 hl (by decide) rfl (fun ls hl => ?_)
  refine lv_iload_n hx hb dX7_cross_36 rfl (lv_at hl 5 rfl) ?_
  refine lv_istore (x := p1) (lv' := [(11, .int p1), (10, .int (0 : Int32)), (9, .int (0 : Int32)), (8, .int (fX7_size ((p5 / p6) - (p3 / p6)))), (7, .int (fX7_size ((p4 / p6) - (p2 / p6)))), (0, .ref a_p0), (1, .int p1), (2, .int p2), (3, .int p3), (4, .int p4), (5, .int p5), (6, .int p6)]) hx hb dX7_cross_37 hl (by decide) rfl (fun ls hl => ?_)
  have hl := lv_sub (l' := [(0, .ref a_p0), (2, .int p2), (3, .int p3), (4, .int p4), (5, .int p5), (6, .int p6), (7, .int (fX7_size ((p4 / p6) - (p2 / p6)))), (8, .int (fX7_size ((p5 / p6) - (p3 / p6)))), (9, .int (0 : Int32)), (10, .int (0 : Int32)), (11, .int p1)]) hl [5, 7, 8, 9, 10, 11, 4, 3, 2, 1, 0] rfl
  obtain ⟨y11_45, c_p0_45, hq9, h⟩ := b2_some h
  refine hL39 _ FUEL p2 p3 p4 p5 p6 (fX7_size ((p4 / p6) - (p2 / p6))) (fX7_size ((p5 / p6) - (p3 / p6))) (0 : Int32) (0 : Int32) p1 c_p0 (y11_45, c_p0_45) hq9 _ _ _ hP hD hS hl (fun y11_45z c_p0_45z q9 H locs ls hP hD hS hl => ?_)
  cases q9
  refine lv_iload hx hb dX7_cross_187 (lv_at hl 0 rfl) ?_
  cases h
  exact xendi (ret := none) F hsz hAe hK hP hD hS (fun _ => 0) rfl rfl (Nat.zero_le _) (Nat.zero_le _) dX7_cross_189
set_option maxHeartbeats 4000000 in
set_option maxRecDepth 100000 in
theorem kX7_signature (l : Launch) (D : va_G) (cc : Nat → ClassId) (a_p0 : Nat) (a_p3 : Nat) (n_p0 : Nat) (n_p3 : Nat) (c_p0 : Nat → Int32) (c_p3 : Nat → Int32) (p1 : Int32) (p2 : Int32) (r0 : Int32) (c_p3_o : Nat → Int32) (h : fX7_signature p1 p2 n_p0 n_p3 c_p0 c_p3 = some (r0, c_p3_o)) : xMi l yX7_signature wsX7_signature ({ frames := 2, cells := 0, slots := 0, locals := 55 } : Room) D cc [.ref a_p0, .int p1, .int p2, .ref a_p3] [(a_p0, .inl (cc 0, n_p0, .inl c_p0)), (a_p3, .inl (cc 0, n_p3, .inl c_p3))] r0 (fun _ => [(a_p0, .inl (cc 0, n_p0, .inl c_p0)), (a_p3, .inl (cc 0, n_p3, .inl c_p3_o))]) 0 0 := by
  intro sz
  refine xstart (bc := cX7_signature) (maxL := 8) (ret := (some .int)) (by decide) rfl (Nat.le_of_ble_eq_true rfl) ?_
  intro p e s m args below meth c A hargs hsz hAe F hK hN hA hmn hP hD hS ls hl
  have hx := F.1.1
  have hb := F.1.2.1
  have hml := F.1.2.2.1
  have hown := F.1.2.2.2.1
  have hts := F.1.2.2.2.2
  have hl : lv_has ls 8 [(0, .ref a_p0), (1, .int p1), (2, .int p2), (3, .ref a_p3)] := hl
  unfold fX7_signature at h
  have hB36 : ∀ (QQ : State → Prop) (k36_1 : Int32) (k36_2 : Int32) (k36_5 : Int32) (x4 : Int32) (x6 : Int32) (c_p3_L36 : Nat → Int32) (r9 : (Int32 × Int32 × (Nat → Int32)) ⊕ (Int32 × (Nat → Int32))), fX7_signature_L36 n_p0 n_p3 c_p0 k36_1 k36_2 k36_5 x4 x6 c_p3_L36 = some r9 → ∀ (H : Heap) (locs : List Loc) (ls : Array Slot), va_P D vwCl [(a_p0, .inl (cc 0, n_p0, .inl c_p0)), (a_p3, .inl (cc 0, n_p3, .inl c_p3_L36))] H → va_D A [(a_p0, .inl (cc 0, n_p0, .inl c_p0)), (a_p3, .inl (cc 0, n_p3, .inl c_p3_L36))] → va_S A s.heap H locs → lv_has ls 8 [(0, .ref a_p0), (1, .int k36_1), (2, .int k36_2), (3, .ref a_p3), (4, .int x4), (5, .int k36_5), (6, .int x6)] → (∀ (x4 : Int32) (x6 : Int32) (c_p3_L36 : Nat → Int32), r9 = Sum.inl (x4, x6, c_p3_L36) → ∀ (H : Heap) (locs : List Loc) (ls : Array Slot), va_P D vwCl [(a_p0, .inl (cc 0, n_p0, .inl c_p0)), (a_p3, .inl (cc 0, n_p3, .inl c_p3_L36))] H → va_D A [(a_p0, .inl (cc 0, n_p0, .inl c_p0)), (a_p3, .inl (cc 0, n_p3, .inl c_p3_L36))] → va_S A s.heap H locs → lv_has ls 8 [(0, .ref a_p0), (1, .int k36_1), (2, .int k36_2), (3, .ref a_p3), (4, .int x4), (5, .int k36_5), (6, .int x6)] → W p l e ({ frames := 2, cells := 0, slots := 0, locals := 55 } : Room) s m args below meth c H locs 0 0 QQ (F0 m 36 ls [])) → (∀ (y4 : Int32) (c_p3_E36 : Nat → Int32), r9 = Sum.inr ((y4, c_p3_E36)) → ∀ (H : Heap) (locs : List Loc) (ls : Array Slot), va_P D vwCl [(a_p0, .inl (cc 0, n_p0, .inl c_p0)), (a_p3, .inl (cc 0, n_p3, .inl c_p3_E36))] H → va_D A [(a_p0, .inl (cc 0, n_p0, .inl c_p0)), (a_p3, .inl (cc 0, n_p3, .inl c_p3_E36))] → va_S A s.heap H locs → lv_has ls 8 [(0, .ref a_p0), (1, .int k36_1), (2, .int k36_2), (3, .ref a_p3), (4, .int y4), (5, .int k36_5)] → W p l e ({ frames := 2, cells := 0, slots := 0, locals := 55 } : Room) s m args below meth c H locs 0 0 QQ (F0 m 102 ls [])) → W p l e ({ frames := 2, cells := 0, slots := 0, locals := 55 } : Room) s m args below meth c H locs 0 0 QQ (F0 m 36 ls []) := by
    intro QQ k36_1 k36_2 k36_5 x4 x6 c_p3_L36 r9 h H locs ls hP hD hS hl KS KX0
    unfold fX7_signature_L36 at h
    refine lv_iload hx hb dX7_signature_36 (lv_at hl 6 rfl) ?_
    refine lv_aload_n hx hb dX7_signature_38 rfl (lv_at hl 0 rfl) ?_
    refine lv_iload_n hx hb dX7_signature_39 rfl (lv_at hl 1 rfl) ?_
    refine lv_iconst (v := (1 : Int32)) hx hb dX7_signature_40 (by decide) ?_
    refine lv_iadd hx hb dX7_signature_41 ?_
    refine lv_iload hx hb dX7_signature_42 (lv_at hl 5 rfl) ?_
    refine lv_iadd hx hb dX7_signature_44 ?_
    obtain ⟨g4, h⟩ := gd h
    refine va_iald hx hb hK hP 0 0 rfl rfl g4 dX7_signature_45 ?_
    refine lv_icmp_ge (tgt := 102) hx hb dX7_signature_46 (by decide) (fun (c5 : (c_p0 ((k36_1 + (1 : Int32)) + k36_5).toNatClampNeg) ≤ x6) => ?_) (fun (c5 : ¬ (c_p0 ((k36_1 + (1 : Int32)) + k36_5).toNatClampNeg) ≤ x6) => ?_)
    · replace h := ip c5 h
      have hl := lv_sub (l' := [(0, .ref a_p0), (1, .int k36_1), (2, .int k36_2), (3, .ref a_p3), (4, .int x4), (5, .int k36_5)]) hl [0, 1, 2, 3, 4, 5] rfl
      cases h
      exact KX0 x4 c_p3_L36 rfl _ _ _ hP hD hS hl
    · replace h := iq c5 h
      refine lv_iload_n hx hb dX7_signature_49 rfl (lv_at hl 1 rfl) ?_
      refine lv_iconst (v := (4 : Int32)) hx hb dX7_signature_50 (by decide) ?_
      refine lv_iadd hx hb dX7_signature_51 ?_
      refine lv_bipush (v := (24 : Int32)) hx hb dX7_signature_52 (by decide) ?_
      refine lv_iload hx hb dX7_signature_54 (lv_at hl 5 rfl) ?_
      refine lv_imul hx hb dX7_signature_56 ?_
      refine lv_iadd hx hb dX7_signature_57 ?_
      refine lv_iconst (v := (2 : Int32)) hx hb dX7_signature_58 (by decide) ?_
      refine lv_iload hx hb dX7_signature_59 (lv_at hl 6 rfl) ?_
      refine lv_imul hx hb dX7_signature_61 ?_
      refine lv_iadd hx hb dX7_signature_62 ?_
      obtain ⟨n7_6, q6, h⟩ := b1_some h
      replace q6 := Option.some.inj q6
      refine W.eq (g2 := F0 m 63 ls [.int n7_6]) (by rw [q6]) ?_
      refine lv_istore (x := n7_6) (lv' := [(7, .int n7_6), (0, .ref a_p0), (1, .int k36_1), (2, .int k36_2), (3, .ref a_p3), (4, .int x4), (5, .int k36_5), (6, .int x6)]) hx hb dX7_signature_63 hl (by decide) rfl (fun ls hl => ?_)
      refine lv_aload_n hx hb dX7_signature_65 rfl (lv_at hl 4 rfl) ?_
      refine lv_iload hx hb dX7_signature_66 (lv_at hl 5 rfl) ?_
      refine lv_aload_n hx hb dX7_signature_68 rfl (lv_at hl 1 rfl) ?_
      refine lv_iload hx hb dX7_signature_69 (lv_at hl 0 rfl) ?_
      refine lv_iconst (v := (2 : Int32)) hx hb dX7_signature_71 (by decide) ?_
      refine lv_isub hx hb dX7_signature_72 ?_
      obtain ⟨g7, h⟩ := gd h
      refine va_iald hx hb hK hP 0 0 rfl rfl g7 dX7_signature_73 ?_
      refine lv_aload_n hx hb dX7_signature_74 rfl (lv_at hl 1 rfl) ?_
      refine lv_iload hx hb dX7_signature_75 (lv_at hl 0 rfl) ?_
      refine lv_iconst (v := (1 : Int32)) hx hb dX7_signature_77 (by decide) ?_
      refine lv_isub hx hb dX7_signature_78 ?_
      obtain ⟨g8, h⟩ := gd h
      refine va_iald hx hb hK hP 0 0 rfl rfl g8 dX7_signature_79 ?_
      refine lv_aload_n hx hb dX7_signature_80 rfl (lv_at hl 1 rfl) ?_
      refine lv_iload hx hb dX7_signature_81 (lv_at hl 0 rfl) ?_
      obtain ⟨g9, h⟩ := gd h
      refine va_iald hx hb hK hP 0 0 rfl rfl g9 dX7_signature_83 ?_
      refine lv_aload_n hx hb dX7_signature_84 rfl (lv_at hl 1 rfl) ?_
      refine lv_iload hx hb dX7_signature_85 (lv_at hl 0 rfl) ?_
      refine lv_iconst (v := (1 : Int32)) hx hb dX7_signature_87 (by decide) ?_
      refine lv_iadd hx hb dX7_signature_88 ?_
      obtain ⟨g10, h⟩ := gd h
      refine va_iald hx hb hK hP 0 0 rfl rfl g10 dX7_signature_89 ?_
      refine lv_iload_n hx hb dX7_signature_90 rfl (lv_at hl 3 rfl) ?_
      obtain ⟨r_11, c_p3_11, hc11, h⟩ := b2_some h
      refine xcalli (wr := [(a_p0, .inl (cc 0, n_p0, .inl c_p0))]) [1] [0] (xrunS (As := [.ref a_p3, .int x4, .int (c_p0 (n7_6 - (2 : Int32)).toNatClampNeg), .int (c_p0 (n7_6 - (1 : Int32)).toNatClampNeg), .int (c_p0 n7_6.toNatClampNeg), .int (c_p0 (n7_6 + (1 : Int32)).toNatClampNeg), .int k36_2]) (rest := []) F ((kX7_cross l D cc (a_p0 := a_p3) (n_p0 := n_p3) (c_p0 := c_p3_L36) (p1 := x4) (p2 := c_p0 (n7_6 - (2 : Int32)).toNatClampNeg) (p3 := c_p0 (n7_6 - (1 : Int32)).toNatClampNeg) (p4 := c_p0 n7_6.toNatClampNeg) (p5 := c_p0 (n7_6 + (1 : Int32)).toNatClampNeg) (p6 := k36_2) (r0 := r_11) (c_p0_o := c_p3_11) (h := hc11)) _) (cwS 7 hts gX7_signature_X7_cross rfl rfl rfl (by decide +kernel) ⟨Nat.le_of_ble_eq_true rfl, Nat.le_of_ble_eq_true rfl⟩) hK hN hP hD [1] rfl (by decide) rfl hl rfl (Nat.le_of_ble_eq_true rfl) dX7_signature_91 ⟨Nat.zero_le _, Nat.zero_le _⟩) hP hD hS hA rfl rfl (by decide) (by decide) (fun _ H locs hP hD hS => ?_)
      have hP : va_P D vwCl [(a_p0, .inl (cc 0, n_p0, .inl c_p0)), (a_p3, .inl (cc 0, n_p3, .inl c_p3_11))] H := hP
      have hD : va_D A [(a_p0, .inl (cc 0, n_p0, .inl c_p0)), (a_p3, .inl (cc 0, n_p3, .inl c_p3_11))] := hD
      refine lv_istore (x := r_11) (lv' := [(4, .int r_11), (7, .int n7_6), (0, .ref a_p0), (1, .int k36_1), (2, .int k36_2), (3, .ref a_p3), (5, .int k36_5), (6, .int x6)]) hx hb dX7_signature_94 hl (by decide) rfl (fun ls hl => ?_)
      refine lv_iinc (v := x6 + (1 : Int32)) (lv' := [(6, .int (x6 + (1 : Int32))), (4, .int r_11), (7, .int n7_6), (0, .ref a_p0), (1, .int k36_1), (2, .int k36_2), (3, .ref a_p3), (5, .int k36_5)]) hx hb dX7_signature_96 hl (k := 7) rfl (by first | rfl | decide) (by decide) rfl (fun ls hl => ?_)
      refine lv_goto (tgt := 36) hx hb dX7_signature_99 (by decide) ?_
      have hl := lv_sub (l' := [(0, .ref a_p0), (1, .int k36_1), (2, .int k36_2), (3, .ref a_p3), (4, .int r_11), (5, .int k36_5), (6, .int (x6 + (1 : Int32)))]) hl [3, 4, 5, 6, 1, 7, 0] rfl
      cases h
      exact KS r_11 (x6 + (1 : Int32)) c_p3_11 rfl _ _ _ hP hD hS hl
  have hL36 : ∀ (QQ : State → Prop) (n : Nat) (k36_1 : Int32) (k36_2 : Int32) (k36_5 : Int32) (x4 : Int32) (x6 : Int32) (c_p3_L36 : Nat → Int32) (r9 : Int32 × (Nat → Int32)), loopF (fun (z : Int32 × Int32 × (Nat → Int32)) => fX7_signature_L36 n_p0 n_p3 c_p0 k36_1 k36_2 k36_5 z.1 z.2.1 z.2.2) n (x4, x6, c_p3_L36) = some r9 → ∀ (H : Heap) (locs : List Loc) (ls : Array Slot), va_P D vwCl [(a_p0, .inl (cc 0, n_p0, .inl c_p0)), (a_p3, .inl (cc 0, n_p3, .inl c_p3_L36))] H → va_D A [(a_p0, .inl (cc 0, n_p0, .inl c_p0)), (a_p3, .inl (cc 0, n_p3, .inl c_p3_L36))] → va_S A s.heap H locs → lv_has ls 8 [(0, .ref a_p0), (1, .int k36_1), (2, .int k36_2), (3, .ref a_p3), (4, .int x4), (5, .int k36_5), (6, .int x6)] → (∀ (y4 : Int32) (c_p3_E36 : Nat → Int32), r9 = (y4, c_p3_E36) → ∀ (H : Heap) (locs : List Loc) (ls : Array Slot), va_P D vwCl [(a_p0, .inl (cc 0, n_p0, .inl c_p0)), (a_p3, .inl (cc 0, n_p3, .inl c_p3_E36))] H → va_D A [(a_p0, .inl (cc 0, n_p0, .inl c_p0)), (a_p3, .inl (cc 0, n_p3, .inl c_p3_E36))] → va_S A s.heap H locs → lv_has ls 8 [(0, .ref a_p0), (1, .int k36_1), (2, .int k36_2), (3, .ref a_p3), (4, .int y4), (5, .int k36_5)] → W p l e ({ frames := 2, cells := 0, slots := 0, locals := 55 } : Room) s m args below meth c H locs 0 0 QQ (F0 m 102 ls [])) → W p l e ({ frames := 2, cells := 0, slots := 0, locals := 55 } : Room) s m args below meth c H locs 0 0 QQ (F0 m 36 ls []) := by
    intro QQ n
    induction n with
    | zero => intro k36_1 k36_2 k36_5 x4 x6 c_p3_L36 r9 h; exact (loopF_zero h).elim
    | succ n ih =>
      intro k36_1 k36_2 k36_5 x4 x6 c_p3_L36 r9 h H locs ls hP hD hS hl KX0
      obtain ⟨z9, hz, h⟩ := loopF_step h
      exact hB36 QQ k36_1 k36_2 k36_5 x4 x6 c_p3_L36 z9 hz H locs ls hP hD hS hl (fun x4_b x6_b c_p3_L36_b q9 H9 locs9 ls9 hP9 hD9 hS9 hl9 => ih k36_1 k36_2 k36_5 x4_b x6_b c_p3_L36_b r9 (by rcases h with ⟨s9, h1, h2⟩ | h1 <;> rw [h1] at q9 <;> cases q9; exact h2) H9 locs9 ls9 hP9 hD9 hS9 hl9 KX0) (fun y4 c_p3_E36 q9 => KX0 y4 c_p3_E36 (by rcases h with ⟨s9, h1, h2⟩ | h1 <;> rw [h1] at q9 <;> cases q9; rfl))
  have hB6 : ∀ (QQ : State → Prop) (k6_1 : Int32) (k6_2 : Int32) (x4 : Int32) (x5 : Int32) (c_p3_L6 : Nat → Int32) (r9 : (Int32 × Int32 × (Nat → Int32)) ⊕ (Int32 × (Nat → Int32))), fX7_signature_L6 n_p0 n_p3 c_p0 k6_1 k6_2 x4 x5 c_p3_L6 = some r9 → ∀ (H : Heap) (locs : List Loc) (ls : Array Slot), va_P D vwCl [(a_p0, .inl (cc 0, n_p0, .inl c_p0)), (a_p3, .inl (cc 0, n_p3, .inl c_p3_L6))] H → va_D A [(a_p0, .inl (cc 0, n_p0, .inl c_p0)), (a_p3, .inl (cc 0, n_p3, .inl c_p3_L6))] → va_S A s.heap H locs → lv_has ls 8 [(0, .ref a_p0), (1, .int k6_1), (2, .int k6_2), (3, .ref a_p3), (4, .int x4), (5, .int x5)] → (∀ (x4 : Int32) (x5 : Int32) (c_p3_L6 : Nat → Int32), r9 = Sum.inl (x4, x5, c_p3_L6) → ∀ (H : Heap) (locs : List Loc) (ls : Array Slot), va_P D vwCl [(a_p0, .inl (cc 0, n_p0, .inl c_p0)), (a_p3, .inl (cc 0, n_p3, .inl c_p3_L6))] H → va_D A [(a_p0, .inl (cc 0, n_p0, .inl c_p0)), (a_p3, .inl (cc 0, n_p3, .inl c_p3_L6))] → va_S A s.heap H locs → lv_has ls 8 [(0, .ref a_p0), (1, .int k6_1), (2, .int k6_2), (3, .ref a_p3), (4, .int x4), (5, .int x5)] → W p l e ({ frames := 2, cells := 0, slots := 0, locals := 55 } : Room) s m args below meth c H locs 0 0 QQ (F0 m 6 ls [])) → (∀ (y4 : Int32) (c_p3_E6 : Nat → Int32), r9 = Sum.inr ((y4, c_p3_E6)) → ∀ (H : Heap) (locs : List Loc) (ls : Array Slot), va_P D vwCl [(a_p0, .inl (cc 0, n_p0, .inl c_p0)), (a_p3, .inl (cc 0, n_p3, .inl c_p3_E6))] H → va_D A [(a_p0, .inl (cc 0, n_p0, .inl c_p0)), (a_p3, .inl (cc 0, n_p3, .inl c_p3_E6))] → va_S A s.heap H locs → lv_has ls 8 [(4, .int y4)] → W p l e ({ frames := 2, cells := 0, slots := 0, locals := 55 } : Room) s m args below meth c H locs 0 0 QQ (F0 m 108 ls [])) → W p l e ({ frames := 2, cells := 0, slots := 0, locals := 55 } : Room) s m args below meth c H locs 0 0 QQ (F0 m 6 ls []) := by
    intro QQ k6_1 k6_2 x4 x5 c_p3_L6 r9 h H locs ls hP hD hS hl KS KX0
    unfold fX7_signature_L6 at h
    refine lv_iload hx hb dX7_signature_6 (lv_at hl 5 rfl) ?_
    refine lv_aload_n hx hb dX7_signature_8 rfl (lv_at hl 0 rfl) ?_
    refine lv_iload_n hx hb dX7_signature_9 rfl (lv_at hl 1 rfl) ?_
    obtain ⟨g1, h⟩ := gd h
    refine va_iald hx hb hK hP 0 0 rfl rfl g1 dX7_signature_10 ?_
    refine lv_icmp_ge (tgt := 108) hx hb dX7_signature_11 (by decide) (fun (c2 : (c_p0 k6_1.toNatClampNeg) ≤ x5) => ?_) (fun (c2 : ¬ (c_p0 k6_1.toNatClampNeg) ≤ x5) => ?_)
    · replace h := ip c2 h
      have hl := lv_sub (l' := [(4, .int x4)]) hl [4] rfl
      cases h
      exact KX0 x4 c_p3_L6 rfl _ _ _ hP hD hS hl
    · replace h := iq c2 h
      refine lv_iload hx hb dX7_signature_14 (lv_at hl 5 rfl) ?_
      refine lv_if_le (tgt := 29) hx hb dX7_signature_16 (by decide) (fun (c3 : x5 ≤ 0) => ?_) (fun (c3 : ¬ x5 ≤ 0) => ?_)
      · replace h := ip c3 h
        refine lv_iload hx hb dX7_signature_29 (lv_at hl 4 rfl) ?_
        refine lv_istore (x := x4) (lv' := [(4, .int x4), (0, .ref a_p0), (1, .int k6_1), (2, .int k6_2), (3, .ref a_p3), (5, .int x5)]) hx hb dX7_signature_31 hl (by decide) rfl (fun ls hl => ?_)
        refine lv_iconst (v := (1 : Int32)) hx hb dX7_signature_33 (by decide) ?_
        refine lv_istore (x := (1 : Int32)) (lv' := [(6, .int (1 : Int32)), (4, .int x4), (0, .ref a_p0), (1, .int k6_1), (2, .int k6_2), (3, .ref a_p3), (5, .int x5)]) hx hb dX7_signature_34 hl (by decide) rfl (fun ls hl => ?_)
        have hl := lv_sub (l' := [(0, .ref a_p0), (1, .int k6_1), (2, .int k6_2), (3, .ref a_p3), (4, .int x4), (5, .int x5), (6, .int (1 : Int32))]) hl [2, 3, 4, 5, 1, 6, 0] rfl
        obtain ⟨y4_13, c_p3_13, hq9, h⟩ := b2_some h
        refine hL36 _ FUEL k6_1 k6_2 x5 x4 (1 : Int32) c_p3_L6 (y4_13, c_p3_13) hq9 _ _ _ hP hD hS hl (fun y4_13z c_p3_13z q9 H locs ls hP hD hS hl => ?_)
        cases q9
        refine lv_iinc (v := x5 + (1 : Int32)) (lv' := [(5, .int (x5 + (1 : Int32))), (0, .ref a_p0), (1, .int k6_1), (2, .int k6_2), (3, .ref a_p3), (4, .int y4_13)]) hx hb dX7_signature_102 hl (k := 5) rfl (by first | rfl | decide) (by decide) rfl (fun ls hl => ?_)
        refine lv_goto (tgt := 6) hx hb dX7_signature_105 (by decide) ?_
        have hl := lv_sub (l' := [(0, .ref a_p0), (1, .int k6_1), (2, .int k6_2), (3, .ref a_p3), (4, .int y4_13), (5, .int (x5 + (1 : Int32)))]) hl [1, 2, 3, 4, 5, 0] rfl
        cases h
        exact KS y4_13 (x5 + (1 : Int32)) c_p3_13 rfl _ _ _ hP hD hS hl
      · replace h := iq c3 h
        refine lv_aload_n hx hb dX7_signature_19 rfl (lv_at hl 3 rfl) ?_
        refine lv_iload hx hb dX7_signature_20 (lv_at hl 4 rfl) ?_
        refine lv_iconst (v := (4 : Int32)) hx hb dX7_signature_22 (by decide) ?_
        obtain ⟨r_14, c_p3_14, hc14, h⟩ := b2_some h
        refine xcalli (wr := [(a_p0, .inl (cc 0, n_p0, .inl c_p0))]) [1] [0] (xrunS (As := [.ref a_p3, .int x4, .int (4 : Int32)]) (rest := []) F ((kX7_next l D cc (a_p0 := a_p3) (n_p0 := n_p3) (c_p0 := c_p3_L6) (p1 := x4) (p2 := (4 : Int32)) (r0 := r_14) (c_p0_o := c_p3_14) (h := hc14)) _) (cwS 3 hts gX7_signature_X7_next rfl rfl rfl (by decide +kernel) ⟨Nat.le_of_ble_eq_true rfl, Nat.le_of_ble_eq_true rfl⟩) hK hN hP hD [1] rfl (by decide) rfl hl rfl (Nat.le_of_ble_eq_true rfl) dX7_signature_23 ⟨Nat.zero_le _, Nat.zero_le _⟩) hP hD hS hA rfl rfl (by decide) (by decide) (fun _ H locs hP hD hS => ?_)
        have hP : va_P D vwCl [(a_p0, .inl (cc 0, n_p0, .inl c_p0)), (a_p3, .inl (cc 0, n_p3, .inl c_p3_14))] H := hP
        have hD : va_D A [(a_p0, .inl (cc 0, n_p0, .inl c_p0)), (a_p3, .inl (cc 0, n_p3, .inl c_p3_14))] := hD
        refine lv_goto (tgt := 31) hx hb dX7_signature_26 (by decide) ?_
        refine lv_istore (x := r_14) (lv' := [(4, .int r_14), (0, .ref a_p0), (1, .int k6_1), (2, .int k6_2), (3, .ref a_p3), (5, .int x5)]) hx hb dX7_signature_31 hl (by decide) rfl (fun ls hl => ?_)
        refine lv_iconst (v := (1 : Int32)) hx hb dX7_signature_33 (by decide) ?_
        refine lv_istore (x := (1 : Int32)) (lv' := [(6, .int (1 : Int32)), (4, .int r_14), (0, .ref a_p0), (1, .int k6_1), (2, .int k6_2), (3, .ref a_p3), (5, .int x5)]) hx hb dX7_signature_34 hl (by decide) rfl (fun ls hl => ?_)
        have hl := lv_sub (l' := [(0, .ref a_p0), (1, .int k6_1), (2, .int k6_2), (3, .ref a_p3), (4, .int r_14), (5, .int x5), (6, .int (1 : Int32))]) hl [2, 3, 4, 5, 1, 6, 0] rfl
        obtain ⟨y4_16, c_p3_16, hq9, h⟩ := b2_some h
        refine hL36 _ FUEL k6_1 k6_2 x5 r_14 (1 : Int32) c_p3_14 (y4_16, c_p3_16) hq9 _ _ _ hP hD hS hl (fun y4_16z c_p3_16z q9 H locs ls hP hD hS hl => ?_)
        cases q9
        refine lv_iinc (v := x5 + (1 : Int32)) (lv' := [(5, .int (x5 + (1 : Int32))), (0, .ref a_p0), (1, .int k6_1), (2, .int k6_2), (3, .ref a_p3), (4, .int y4_16)]) hx hb dX7_signature_102 hl (k := 5) rfl (by first | rfl | decide) (by decide) rfl (fun ls hl => ?_)
        refine lv_goto (tgt := 6) hx hb dX7_signature_105 (by decide) ?_
        have hl := lv_sub (l' := [(0, .ref a_p0), (1, .int k6_1), (2, .int k6_2), (3, .ref a_p3), (4, .int y4_16), (5, .int (x5 + (1 : Int32)))]) hl [1, 2, 3, 4, 5, 0] rfl
        cases h
        exact KS y4_16 (x5 + (1 : Int32)) c_p3_16 rfl _ _ _ hP hD hS hl
  have hL6 : ∀ (QQ : State → Prop) (n : Nat) (k6_1 : Int32) (k6_2 : Int32) (x4 : Int32) (x5 : Int32) (c_p3_L6 : Nat → Int32) (r9 : Int32 × (Nat → Int32)), loopF (fun (z : Int32 × Int32 × (Nat → Int32)) => fX7_signature_L6 n_p0 n_p3 c_p0 k6_1 k6_2 z.1 z.2.1 z.2.2) n (x4, x5, c_p3_L6) = some r9 → ∀ (H : Heap) (locs : List Loc) (ls : Array Slot), va_P D vwCl [(a_p0, .inl (cc 0, n_p0, .inl c_p0)), (a_p3, .inl (cc 0, n_p3, .inl c_p3_L6))] H → va_D A [(a_p0, .inl (cc 0, n_p0, .inl c_p0)), (a_p3, .inl (cc 0, n_p3, .inl c_p3_L6))] → va_S A s.heap H locs → lv_has ls 8 [(0, .ref a_p0), (1, .int k6_1), (2, .int k6_2), (3, .ref a_p3), (4, .int x4), (5, .int x5)] → (∀ (y4 : Int32) (c_p3_E6 : Nat → Int32), r9 = (y4, c_p3_E6) → ∀ (H : Heap) (locs : List Loc) (ls : Array Slot), va_P D vwCl [(a_p0, .inl (cc 0, n_p0, .inl c_p0)), (a_p3, .inl (cc 0, n_p3, .inl c_p3_E6))] H → va_D A [(a_p0, .inl (cc 0, n_p0, .inl c_p0)), (a_p3, .inl (cc 0, n_p3, .inl c_p3_E6))] → va_S A s.heap H locs → lv_has ls 8 [(4, .int y4)] → W p l e ({ frames := 2, cells := 0, slots := 0, locals := 55 } : Room) s m args below meth c H locs 0 0 QQ (F0 m 108 ls [])) → W p l e ({ frames := 2, cells := 0, slots := 0, locals := 55 } : Room) s m args below meth c H locs 0 0 QQ (F0 m 6 ls []) := by
    intro QQ n
    induction n with
    | zero => intro k6_1 k6_2 x4 x5 c_p3_L6 r9 h; exact (loopF_zero h).elim
    | succ n ih =>
      intro k6_1 k6_2 x4 x5 c_p3_L6 r9 h H locs ls hP hD hS hl KX0
      obtain ⟨z9, hz, h⟩ := loopF_step h
      exact hB6 QQ k6_1 k6_2 x4 x5 c_p3_L6 z9 hz H locs ls hP hD hS hl (fun x4_b x5_b c_p3_L6_b q9 H9 locs9 ls9 hP9 hD9 hS9 hl9 => ih k6_1 k6_2 x4_b x5_b c_p3_L6_b r9 (by rcases h with ⟨s9, h1, h2⟩ | h1 <;> rw [h1] at q9 <;> cases q9; exact h2) H9 locs9 ls9 hP9 hD9 hS9 hl9 KX0) (fun y4 c_p3_E6 q9 => KX0 y4 c_p3_E6 (by rcases h with ⟨s9, h1, h2⟩ | h1 <;> rw [h1] at q9 <;> cases q9; rfl))
  refine lv_iconst (v := (0 : Int32)) hx hb dX7_signature_0 (by decide) ?_
  refine lv_istore (x := (0 : Int32)) (lv' := [(4, .int (0 : Int32)), (0, .ref a_p0), (1, .int p1), (2, .int p2), (3, .ref a_p3)]) hx hb dX7_signature_1 hl (by decide) rfl (fun ls hl => ?_)
  refine lv_iconst (v := (0 : Int32)) hx hb dX7_signature_3 (by decide) ?_
  refine lv_istore (x := (0 : Int32)) (lv' := [(5, .int (0 : Int32)), (4, .int (0 : Int32)), (0, .ref a_p0), (1, .int p1), (2, .int p2), (3, .ref a_p3)]) hx hb dX7_signature_4 hl (by decide) rfl (fun ls hl => ?_)
  have hl := lv_sub (l' := [(0, .ref a_p0), (1, .int p1), (2, .int p2), (3, .ref a_p3), (4, .int (0 : Int32)), (5, .int (0 : Int32))]) hl [2, 3, 4, 5, 1, 0] rfl
  obtain ⟨y4_17, c_p3_17, hq9, h⟩ := b2_some h
  refine hL6 _ FUEL p1 p2 (0 : Int32) (0 : Int32) c_p3 (y4_17, c_p3_17) hq9 _ _ _ hP hD hS hl (fun y4_17z c_p3_17z q9 H locs ls hP hD hS hl => ?_)
  cases q9
  refine lv_iload hx hb dX7_signature_108 (lv_at hl 0 rfl) ?_
  cases h
  exact xendi (ret := none) F hsz hAe hK hP hD hS (fun _ => 0) rfl rfl (Nat.zero_le _) (Nat.zero_le _) dX7_signature_110
set_option maxHeartbeats 4000000 in
set_option maxRecDepth 100000 in
theorem kX7_alone (l : Launch) (D : va_G) (cc : Nat → ClassId) (p0 : Int32) (r0 : Int32) (h : fX7_alone p0 = r0) : xMi l yX7_alone wsX7_alone ({ frames := 0, cells := 0, slots := 0, locals := 0 } : Room) D cc [.int p0] [] r0 (fun _ => []) 0 0 := by
  intro sz
  refine xstart (bc := cX7_alone) (maxL := 1) (ret := (some .int)) (by decide) rfl (Nat.le_of_ble_eq_true rfl) ?_
  intro p e s m args below meth c A hargs hsz hAe F hK hN hA hmn hP hD hS ls hl
  have hx := F.1.1
  have hb := F.1.2.1
  have hml := F.1.2.2.1
  have hown := F.1.2.2.2.1
  have hts := F.1.2.2.2.2
  have hl : lv_has ls 1 [(0, .int p0)] := hl
  unfold fX7_alone at h
  refine lv_iload_n hx hb dX7_alone_0 rfl (lv_at hl 0 rfl) ?_
  refine lv_iconst (v := (4 : Int32)) hx hb dX7_alone_1 (by decide) ?_
  refine lv_icmp_ne (tgt := 9) hx hb dX7_alone_2 (by decide) (fun (c1 : ¬ p0 = (4 : Int32)) => ?_) (fun (c1 : p0 = (4 : Int32)) => ?_)
  · replace h := iq c1 h
    refine lv_iconst (v := (2 : Int32)) hx hb dX7_alone_9 (by decide) ?_
    cases h
    exact xendi (ret := none) F hsz hAe hK hP hD hS (fun _ => 0) rfl rfl (Nat.zero_le _) (Nat.zero_le _) dX7_alone_10
  · replace h := ip c1 h
    refine lv_iconst (v := (3 : Int32)) hx hb dX7_alone_5 (by decide) ?_
    refine lv_goto (tgt := 10) hx hb dX7_alone_6 (by decide) ?_
    cases h
    exact xendi (ret := none) F hsz hAe hK hP hD hS (fun _ => 0) rfl rfl (Nat.zero_le _) (Nat.zero_le _) dX7_alone_10
set_option maxHeartbeats 4000000 in
set_option maxRecDepth 100000 in
theorem kX7_instead (l : Launch) (D : va_G) (cc : Nat → ClassId) (p0 : Int32) (p1 : Int32) (r0 : Int32) (h : fX7_instead p0 p1 = r0) : xMi l yX7_instead wsX7_instead ({ frames := 1, cells := 0, slots := 0, locals := 20 } : Room) D cc [.int p0, .int p1] [] r0 (fun _ => []) 0 0 := by
  intro sz
  refine xstart (bc := cX7_instead) (maxL := 2) (ret := (some .int)) (by decide) rfl (Nat.le_of_ble_eq_true rfl) ?_
  intro p e s m args below meth c A hargs hsz hAe F hK hN hA hmn hP hD hS ls hl
  have hx := F.1.1
  have hb := F.1.2.1
  have hml := F.1.2.2.1
  have hown := F.1.2.2.2.1
  have hts := F.1.2.2.2.2
  have hl : lv_has ls 2 [(0, .int p0), (1, .int p1)] := hl
  unfold fX7_instead at h
  refine lv_iload_n hx hb dX7_instead_0 rfl (lv_at hl 0 rfl) ?_
  refine lv_iload_n hx hb dX7_instead_1 rfl (lv_at hl 1 rfl) ?_
  refine lv_icmp_ne (tgt := 9) hx hb dX7_instead_2 (by decide) (fun (c1 : ¬ p0 = p1) => ?_) (fun (c1 : p0 = p1) => ?_)
  · replace h := iq c1 h
    refine lv_iload_n hx hb dX7_instead_9 rfl (lv_at hl 0 rfl) ?_
    refine lv_iconst (v := (4 : Int32)) hx hb dX7_instead_10 (by decide) ?_
    refine lv_icmp_eq (tgt := 19) hx hb dX7_instead_11 (by decide) (fun (c2 : p0 = (4 : Int32)) => ?_) (fun (c2 : ¬ p0 = (4 : Int32)) => ?_)
    · replace h := ip c2 h
      refine lv_iconst (v := (5 : Int32)) hx hb dX7_instead_19 (by decide) ?_
      refine lv_goto (tgt := 38) hx hb dX7_instead_20 (by decide) ?_
      cases h
      exact xendi (ret := none) F hsz hAe hK hP hD hS (fun _ => 0) rfl rfl (Nat.zero_le _) (Nat.zero_le _) dX7_instead_38
    · replace h := iq c2 h
      refine lv_iload_n hx hb dX7_instead_14 rfl (lv_at hl 1 rfl) ?_
      refine lv_iconst (v := (4 : Int32)) hx hb dX7_instead_15 (by decide) ?_
      refine lv_icmp_ne (tgt := 23) hx hb dX7_instead_16 (by decide) (fun (c3 : ¬ p1 = (4 : Int32)) => ?_) (fun (c3 : p1 = (4 : Int32)) => ?_)
      · replace h := iq c3 h
        refine lv_iload_n hx hb dX7_instead_23 rfl (lv_at hl 0 rfl) ?_
        refine lv_iload_n hx hb dX7_instead_24 rfl (lv_at hl 1 rfl) ?_
        refine lv_isub hx hb dX7_instead_25 ?_
        refine xcalli (wr := []) [] [] (xrunS (As := [.int (p0 - p1)]) (rest := []) F ((kX7_size l D cc (p0 := p0 - p1) (r0 := (fX7_size (p0 - p1))) (h := rfl)) _) (cwS 1 hts gX7_instead_X7_size rfl rfl rfl (by decide +kernel) ⟨Nat.le_of_ble_eq_true rfl, Nat.le_of_ble_eq_true rfl⟩) hK hN hP hD [] rfl (by decide) rfl hl rfl (Nat.le_of_ble_eq_true rfl) dX7_instead_26 ⟨Nat.zero_le _, Nat.zero_le _⟩) hP hD hS hA rfl rfl (by decide) (by decide) (fun _ H locs hP hD hS => ?_)
        have hP : va_P D vwCl [] H := hP
        have hD : va_D A [] := hD
        refine lv_iconst (v := (2 : Int32)) hx hb dX7_instead_29 (by decide) ?_
        refine lv_icmp_ne (tgt := 37) hx hb dX7_instead_30 (by decide) (fun (c5 : ¬ (fX7_size (p0 - p1)) = (2 : Int32)) => ?_) (fun (c5 : (fX7_size (p0 - p1)) = (2 : Int32)) => ?_)
        · replace h := iq c5 h
          refine lv_iconst (v := (2 : Int32)) hx hb dX7_instead_37 (by decide) ?_
          cases h
          exact xendi (ret := none) F hsz hAe hK hP hD hS (fun _ => 0) rfl rfl (Nat.zero_le _) (Nat.zero_le _) dX7_instead_38
        · replace h := ip c5 h
          refine lv_iconst (v := (3 : Int32)) hx hb dX7_instead_33 (by decide) ?_
          refine lv_goto (tgt := 38) hx hb dX7_instead_34 (by decide) ?_
          cases h
          exact xendi (ret := none) F hsz hAe hK hP hD hS (fun _ => 0) rfl rfl (Nat.zero_le _) (Nat.zero_le _) dX7_instead_38
      · replace h := ip c3 h
        refine lv_iconst (v := (5 : Int32)) hx hb dX7_instead_19 (by decide) ?_
        refine lv_goto (tgt := 38) hx hb dX7_instead_20 (by decide) ?_
        cases h
        exact xendi (ret := none) F hsz hAe hK hP hD hS (fun _ => 0) rfl rfl (Nat.zero_le _) (Nat.zero_le _) dX7_instead_38
  · replace h := ip c1 h
    refine lv_iconst (v := (0 : Int32)) hx hb dX7_instead_5 (by decide) ?_
    refine lv_goto (tgt := 38) hx hb dX7_instead_6 (by decide) ?_
    cases h
    exact xendi (ret := none) F hsz hAe hK hP hD hS (fun _ => 0) rfl rfl (Nat.zero_le _) (Nat.zero_le _) dX7_instead_38
set_option maxHeartbeats 4000000 in
set_option maxRecDepth 100000 in
theorem kX7_least (l : Launch) (D : va_G) (cc : Nat → ClassId) (p0 : Int32) (p1 : Int32) (r0 : Int32) (h : fX7_least p0 p1 = r0) : xMi l yX7_least wsX7_least ({ frames := 0, cells := 0, slots := 0, locals := 0 } : Room) D cc [.int p0, .int p1] [] r0 (fun _ => []) 0 0 := by
  intro sz
  refine xstart (bc := cX7_least) (maxL := 2) (ret := (some .int)) (by decide) rfl (Nat.le_of_ble_eq_true rfl) ?_
  intro p e s m args below meth c A hargs hsz hAe F hK hN hA hmn hP hD hS ls hl
  have hx := F.1.1
  have hb := F.1.2.1
  have hml := F.1.2.2.1
  have hown := F.1.2.2.2.1
  have hts := F.1.2.2.2.2
  have hl : lv_has ls 2 [(0, .int p0), (1, .int p1)] := hl
  unfold fX7_least at h
  refine lv_iload_n hx hb dX7_least_0 rfl (lv_at hl 0 rfl) ?_
  refine lv_iload_n hx hb dX7_least_1 rfl (lv_at hl 1 rfl) ?_
  refine lv_icmp_ge (tgt := 9) hx hb dX7_least_2 (by decide) (fun (c1 : p1 ≤ p0) => ?_) (fun (c1 : ¬ p1 ≤ p0) => ?_)
  · replace h := ip c1 h
    refine lv_iload_n hx hb dX7_least_9 rfl (lv_at hl 1 rfl) ?_
    cases h
    exact xendi (ret := none) F hsz hAe hK hP hD hS (fun _ => 0) rfl rfl (Nat.zero_le _) (Nat.zero_le _) dX7_least_10
  · replace h := iq c1 h
    refine lv_iload_n hx hb dX7_least_5 rfl (lv_at hl 0 rfl) ?_
    refine lv_goto (tgt := 10) hx hb dX7_least_6 (by decide) ?_
    cases h
    exact xendi (ret := none) F hsz hAe hK hP hD hS (fun _ => 0) rfl rfl (Nat.zero_le _) (Nat.zero_le _) dX7_least_10
theorem inX7_distance_X7 : ∀ w ∈ wsX70, w ∈ wsX7_distance := by decide +kernel
set_option maxHeartbeats 4000000 in
set_option maxRecDepth 100000 in
theorem kX7_distance (l : Launch) (D : va_G) (cc : Nat → ClassId) (a_p0 : Nat) (a_p0_text : Nat) (a_p0_now : Nat) (a_p0_trial : Nat) (a_p0_diary : Nat) (a_p0_kept : Nat) (a_p0_isKept : Nat) (a_p0_drawn : Nat) (a_p0_one : Nat) (a_p0_two : Nat) (a_p0_costs : Nat) (v_p0_refusal : Int32) (v_p0_size : Int32) (v_p0_acts : Int32) (v_p0_nearestOne : Int32) (v_p0_nearestBy : Int32) (v_p0_how : Int32) (v_p0_spot : Int32) (v_p0_closestTwo : Int32) (v_p0_closestBy : Int32) (c_p0_costs : Nat → Int32) (c_p0_one : Nat → Int32) (c_p0_two : Nat → Int32) (p1 : Int32) (p2 : Int32) (r0 : Int32) (c_p0_costs_o : Nat → Int32) (h : fX7_distance p1 p2 c_p0_costs c_p0_one c_p0_two = some (r0, c_p0_costs_o)) : xMi l yX7_distance wsX7_distance ({ frames := 2, cells := 0, slots := 0, locals := 41 } : Room) D cc [.ref a_p0, .int p1, .int p2] [(a_p0, .inr (7, [.int v_p0_refusal, .ref a_p0_text, .int v_p0_size, .ref a_p0_now, .ref a_p0_trial, .ref a_p0_diary, .int v_p0_acts, .ref a_p0_kept, .ref a_p0_isKept, .ref a_p0_drawn, .ref a_p0_one, .ref a_p0_two, .ref a_p0_costs, .int v_p0_nearestOne, .int v_p0_nearestBy, .int v_p0_how, .int v_p0_spot, .int v_p0_closestTwo, .int v_p0_closestBy])), (a_p0_costs, .inl (cc 0, 1681, .inl c_p0_costs)), (a_p0_one, .inl (cc 0, 41, .inl c_p0_one)), (a_p0_two, .inl (cc 0, 41, .inl c_p0_two))] r0 (fun _ => [(a_p0, .inr (7, [.int v_p0_refusal, .ref a_p0_text, .int v_p0_size, .ref a_p0_now, .ref a_p0_trial, .ref a_p0_diary, .int v_p0_acts, .ref a_p0_kept, .ref a_p0_isKept, .ref a_p0_drawn, .ref a_p0_one, .ref a_p0_two, .ref a_p0_costs, .int v_p0_nearestOne, .int v_p0_nearestBy, .int v_p0_how, .int v_p0_spot, .int v_p0_closestTwo, .int v_p0_closestBy])), (a_p0_costs, .inl (cc 0, 1681, .inl c_p0_costs_o)), (a_p0_one, .inl (cc 0, 41, .inl c_p0_one)), (a_p0_two, .inl (cc 0, 41, .inl c_p0_two))]) 0 0 := by
  intro sz
  refine xstart (bc := cX7_distance) (maxL := 6) (ret := (some .int)) (by decide) rfl (Nat.le_of_ble_eq_true rfl) ?_
  intro p e s m args below meth c A hargs hsz hAe F hK hN hA hmn hP hD hS ls hl
  have hx := F.1.1
  have hb := F.1.2.1
  have hml := F.1.2.2.1
  have hown := F.1.2.2.2.1
  have hts := F.1.2.2.2.2
  have hl : lv_has ls 6 [(0, .ref a_p0), (1, .int p1), (2, .int p2)] := hl
  have k1 := hts (.fieldLink RX7 38 "RuledStrokesModel" "costs" "[I") (by decide +kernel)
  have k2 := hts (.fieldLink RX7 32 "RuledStrokesModel" "one" "[I") (by decide +kernel)
  have k3 := hts (.fieldLink RX7 35 "RuledStrokesModel" "two" "[I") (by decide +kernel)
  unfold fX7_distance at h
  have hJ10_176 : ∀ (QQ : State → Prop) (k10_1 : Int32) (k10_2 : Int32) (k10_3 : Int32) (j10_176_4 : Int32) (s10_176_0 : Int32) (c_p0_costs_J10_176 : Nat → Int32) (r9 : (Int32 × (Nat → Int32)) ⊕ ((Nat → Int32))), fX7_distance_J10_176 k10_3 j10_176_4 s10_176_0 c_p0_costs_J10_176 = some r9 → ∀ (H : Heap) (locs : List Loc) (ls : Array Slot), va_P D vwCl [(a_p0, .inr (7, [.int v_p0_refusal, .ref a_p0_text, .int v_p0_size, .ref a_p0_now, .ref a_p0_trial, .ref a_p0_diary, .int v_p0_acts, .ref a_p0_kept, .ref a_p0_isKept, .ref a_p0_drawn, .ref a_p0_one, .ref a_p0_two, .ref a_p0_costs, .int v_p0_nearestOne, .int v_p0_nearestBy, .int v_p0_how, .int v_p0_spot, .int v_p0_closestTwo, .int v_p0_closestBy])), (a_p0_costs, .inl (cc 0, 1681, .inl c_p0_costs_J10_176)), (a_p0_one, .inl (cc 0, 41, .inl c_p0_one)), (a_p0_two, .inl (cc 0, 41, .inl c_p0_two))] H → va_D A [(a_p0, .inr (7, [.int v_p0_refusal, .ref a_p0_text, .int v_p0_size, .ref a_p0_now, .ref a_p0_trial, .ref a_p0_diary, .int v_p0_acts, .ref a_p0_kept, .ref a_p0_isKept, .ref a_p0_drawn, .ref a_p0_one, .ref a_p0_two, .ref a_p0_costs, .int v_p0_nearestOne, .int v_p0_nearestBy, .int v_p0_how, .int v_p0_spot, .int v_p0_closestTwo, .int v_p0_closestBy])), (a_p0_costs, .inl (cc 0, 1681, .inl c_p0_costs_J10_176)), (a_p0_one, .inl (cc 0, 41, .inl c_p0_one)), (a_p0_two, .inl (cc 0, 41, .inl c_p0_two))] → va_S A s.heap H locs → lv_has ls 6 [(0, .ref a_p0), (1, .int k10_1), (2, .int k10_2), (3, .int k10_3), (4, .int j10_176_4)] → (∀ (x4 : Int32) (c_p0_costs_L10 : Nat → Int32), r9 = Sum.inl (x4, c_p0_costs_L10) → ∀ (H : Heap) (locs : List Loc) (ls : Array Slot), va_P D vwCl [(a_p0, .inr (7, [.int v_p0_refusal, .ref a_p0_text, .int v_p0_size, .ref a_p0_now, .ref a_p0_trial, .ref a_p0_diary, .int v_p0_acts, .ref a_p0_kept, .ref a_p0_isKept, .ref a_p0_drawn, .ref a_p0_one, .ref a_p0_two, .ref a_p0_costs, .int v_p0_nearestOne, .int v_p0_nearestBy, .int v_p0_how, .int v_p0_spot, .int v_p0_closestTwo, .int v_p0_closestBy])), (a_p0_costs, .inl (cc 0, 1681, .inl c_p0_costs_L10)), (a_p0_one, .inl (cc 0, 41, .inl c_p0_one)), (a_p0_two, .inl (cc 0, 41, .inl c_p0_two))] H → va_D A [(a_p0, .inr (7, [.int v_p0_refusal, .ref a_p0_text, .int v_p0_size, .ref a_p0_now, .ref a_p0_trial, .ref a_p0_diary, .int v_p0_acts, .ref a_p0_kept, .ref a_p0_isKept, .ref a_p0_drawn, .ref a_p0_one, .ref a_p0_two, .ref a_p0_costs, .int v_p0_nearestOne, .int v_p0_nearestBy, .int v_p0_how, .int v_p0_spot, .int v_p0_closestTwo, .int v_p0_closestBy])), (a_p0_costs, .inl (cc 0, 1681, .inl c_p0_costs_L10)), (a_p0_one, .inl (cc 0, 41, .inl c_p0_one)), (a_p0_two, .inl (cc 0, 41, .inl c_p0_two))] → va_S A s.heap H locs → lv_has ls 6 [(0, .ref a_p0), (1, .int k10_1), (2, .int k10_2), (3, .int k10_3), (4, .int x4)] → W p l e ({ frames := 2, cells := 0, slots := 0, locals := 41 } : Room) s m args below meth c H locs 0 0 QQ (F0 m 10 ls [])) → (∀ (c_p0_costs_E10 : Nat → Int32), r9 = Sum.inr (c_p0_costs_E10) → ∀ (H : Heap) (locs : List Loc) (ls : Array Slot), va_P D vwCl [(a_p0, .inr (7, [.int v_p0_refusal, .ref a_p0_text, .int v_p0_size, .ref a_p0_now, .ref a_p0_trial, .ref a_p0_diary, .int v_p0_acts, .ref a_p0_kept, .ref a_p0_isKept, .ref a_p0_drawn, .ref a_p0_one, .ref a_p0_two, .ref a_p0_costs, .int v_p0_nearestOne, .int v_p0_nearestBy, .int v_p0_how, .int v_p0_spot, .int v_p0_closestTwo, .int v_p0_closestBy])), (a_p0_costs, .inl (cc 0, 1681, .inl c_p0_costs_E10)), (a_p0_one, .inl (cc 0, 41, .inl c_p0_one)), (a_p0_two, .inl (cc 0, 41, .inl c_p0_two))] H → va_D A [(a_p0, .inr (7, [.int v_p0_refusal, .ref a_p0_text, .int v_p0_size, .ref a_p0_now, .ref a_p0_trial, .ref a_p0_diary, .int v_p0_acts, .ref a_p0_kept, .ref a_p0_isKept, .ref a_p0_drawn, .ref a_p0_one, .ref a_p0_two, .ref a_p0_costs, .int v_p0_nearestOne, .int v_p0_nearestBy, .int v_p0_how, .int v_p0_spot, .int v_p0_closestTwo, .int v_p0_closestBy])), (a_p0_costs, .inl (cc 0, 1681, .inl c_p0_costs_E10)), (a_p0_one, .inl (cc 0, 41, .inl c_p0_one)), (a_p0_two, .inl (cc 0, 41, .inl c_p0_two))] → va_S A s.heap H locs → lv_has ls 6 [(0, .ref a_p0), (1, .int k10_1), (2, .int k10_2), (3, .int k10_3)] → W p l e ({ frames := 2, cells := 0, slots := 0, locals := 41 } : Room) s m args below meth c H locs 0 0 QQ (F0 m 198 ls [])) → W p l e ({ frames := 2, cells := 0, slots := 0, locals := 41 } : Room) s m args below meth c H locs 0 0 QQ (F0 m 176 ls [.int s10_176_0]) := by
    intro QQ k10_1 k10_2 k10_3 j10_176_4 s10_176_0 c_p0_costs_J10_176 r9 h H locs ls hP hD hS hl KS KX0
    unfold fX7_distance_J10_176 at h
    refine lv_istore (x := s10_176_0) (lv' := [(5, .int s10_176_0), (0, .ref a_p0), (1, .int k10_1), (2, .int k10_2), (3, .int k10_3), (4, .int j10_176_4)]) hx hb dX7_distance_176 hl (by decide) rfl (fun ls hl => ?_)
    refine lv_aload_n hx hb dX7_distance_178 rfl (lv_at hl 1 rfl) ?_
    refine va_get (D := D) (ci := 7) (v := .ref a_p0_costs) (C := RX7) (T := TX7) (N := 19) hx hb hts inX7_distance_X7 hown hK hP 0 rfl rfl 12 (by decide) k1 (fun _ h9 => h9) rfl dX7_distance_179 ?_
    refine lv_bipush (v := (41 : Int32)) hx hb dX7_distance_182 (by decide) ?_
    refine lv_iload_n hx hb dX7_distance_184 rfl (lv_at hl 4 rfl) ?_
    refine lv_imul hx hb dX7_distance_185 ?_
    refine lv_iload hx hb dX7_distance_186 (lv_at hl 5 rfl) ?_
    refine lv_iadd hx hb dX7_distance_188 ?_
    refine lv_iload hx hb dX7_distance_189 (lv_at hl 0 rfl) ?_
    obtain ⟨g7, h⟩ := gd h
    refine va_iast hx hb hK hP hD hS 1 0 rfl rfl g7 dX7_distance_191 (fun H locs hP hD hS => ?_)
    have hP : va_P D vwCl [(a_p0, .inr (7, [.int v_p0_refusal, .ref a_p0_text, .int v_p0_size, .ref a_p0_now, .ref a_p0_trial, .ref a_p0_diary, .int v_p0_acts, .ref a_p0_kept, .ref a_p0_isKept, .ref a_p0_drawn, .ref a_p0_one, .ref a_p0_two, .ref a_p0_costs, .int v_p0_nearestOne, .int v_p0_nearestBy, .int v_p0_how, .int v_p0_spot, .int v_p0_closestTwo, .int v_p0_closestBy])), (a_p0_costs, .inl (cc 0, 1681, .inl (upd c_p0_costs_J10_176 (((41 : Int32) * k10_3) + j10_176_4).toNatClampNeg s10_176_0))), (a_p0_one, .inl (cc 0, 41, .inl c_p0_one)), (a_p0_two, .inl (cc 0, 41, .inl c_p0_two))] H := hP
    have hD : va_D A [(a_p0, .inr (7, [.int v_p0_refusal, .ref a_p0_text, .int v_p0_size, .ref a_p0_now, .ref a_p0_trial, .ref a_p0_diary, .int v_p0_acts, .ref a_p0_kept, .ref a_p0_isKept, .ref a_p0_drawn, .ref a_p0_one, .ref a_p0_two, .ref a_p0_costs, .int v_p0_nearestOne, .int v_p0_nearestBy, .int v_p0_how, .int v_p0_spot, .int v_p0_closestTwo, .int v_p0_closestBy])), (a_p0_costs, .inl (cc 0, 1681, .inl (upd c_p0_costs_J10_176 (((41 : Int32) * k10_3) + j10_176_4).toNatClampNeg s10_176_0))), (a_p0_one, .inl (cc 0, 41, .inl c_p0_one)), (a_p0_two, .inl (cc 0, 41, .inl c_p0_two))] := hD
    obtain ⟨c_p0_costs_8, q8, h⟩ := b1_some h
    replace q8 := Option.some.inj q8
    rw [q8] at hP hD
    refine lv_iinc (v := j10_176_4 + (1 : Int32)) (lv' := [(4, .int (j10_176_4 + (1 : Int32))), (5, .int s10_176_0), (0, .ref a_p0), (1, .int k10_1), (2, .int k10_2), (3, .int k10_3)]) hx hb dX7_distance_192 hl (k := 5) rfl (by first | rfl | decide) (by decide) rfl (fun ls hl => ?_)
    refine lv_goto (tgt := 10) hx hb dX7_distance_195 (by decide) ?_
    have hl := lv_sub (l' := [(0, .ref a_p0), (1, .int k10_1), (2, .int k10_2), (3, .int k10_3), (4, .int (j10_176_4 + (1 : Int32)))]) hl [2, 3, 4, 5, 0] rfl
    cases h
    exact KS (j10_176_4 + (1 : Int32)) c_p0_costs_8 rfl _ _ _ hP hD hS hl
  have hJ10_118 : ∀ (QQ : State → Prop) (k10_1 : Int32) (k10_2 : Int32) (k10_3 : Int32) (j10_118_4 : Int32) (s10_118_0 : Int32) (c_p0_costs_J10_118 : Nat → Int32) (r9 : (Int32 × (Nat → Int32)) ⊕ ((Nat → Int32))), fX7_distance_J10_118 c_p0_one c_p0_two k10_3 j10_118_4 s10_118_0 c_p0_costs_J10_118 = some r9 → ∀ (H : Heap) (locs : List Loc) (ls : Array Slot), va_P D vwCl [(a_p0, .inr (7, [.int v_p0_refusal, .ref a_p0_text, .int v_p0_size, .ref a_p0_now, .ref a_p0_trial, .ref a_p0_diary, .int v_p0_acts, .ref a_p0_kept, .ref a_p0_isKept, .ref a_p0_drawn, .ref a_p0_one, .ref a_p0_two, .ref a_p0_costs, .int v_p0_nearestOne, .int v_p0_nearestBy, .int v_p0_how, .int v_p0_spot, .int v_p0_closestTwo, .int v_p0_closestBy])), (a_p0_costs, .inl (cc 0, 1681, .inl c_p0_costs_J10_118)), (a_p0_one, .inl (cc 0, 41, .inl c_p0_one)), (a_p0_two, .inl (cc 0, 41, .inl c_p0_two))] H → va_D A [(a_p0, .inr (7, [.int v_p0_refusal, .ref a_p0_text, .int v_p0_size, .ref a_p0_now, .ref a_p0_trial, .ref a_p0_diary, .int v_p0_acts, .ref a_p0_kept, .ref a_p0_isKept, .ref a_p0_drawn, .ref a_p0_one, .ref a_p0_two, .ref a_p0_costs, .int v_p0_nearestOne, .int v_p0_nearestBy, .int v_p0_how, .int v_p0_spot, .int v_p0_closestTwo, .int v_p0_closestBy])), (a_p0_costs, .inl (cc 0, 1681, .inl c_p0_costs_J10_118)), (a_p0_one, .inl (cc 0, 41, .inl c_p0_one)), (a_p0_two, .inl (cc 0, 41, .inl c_p0_two))] → va_S A s.heap H locs → lv_has ls 6 [(0, .ref a_p0), (1, .int k10_1), (2, .int k10_2), (3, .int k10_3), (4, .int j10_118_4)] → (∀ (x4 : Int32) (c_p0_costs_L10 : Nat → Int32), r9 = Sum.inl (x4, c_p0_costs_L10) → ∀ (H : Heap) (locs : List Loc) (ls : Array Slot), va_P D vwCl [(a_p0, .inr (7, [.int v_p0_refusal, .ref a_p0_text, .int v_p0_size, .ref a_p0_now, .ref a_p0_trial, .ref a_p0_diary, .int v_p0_acts, .ref a_p0_kept, .ref a_p0_isKept, .ref a_p0_drawn, .ref a_p0_one, .ref a_p0_two, .ref a_p0_costs, .int v_p0_nearestOne, .int v_p0_nearestBy, .int v_p0_how, .int v_p0_spot, .int v_p0_closestTwo, .int v_p0_closestBy])), (a_p0_costs, .inl (cc 0, 1681, .inl c_p0_costs_L10)), (a_p0_one, .inl (cc 0, 41, .inl c_p0_one)), (a_p0_two, .inl (cc 0, 41, .inl c_p0_two))] H → va_D A [(a_p0, .inr (7, [.int v_p0_refusal, .ref a_p0_text, .int v_p0_size, .ref a_p0_now, .ref a_p0_trial, .ref a_p0_diary, .int v_p0_acts, .ref a_p0_kept, .ref a_p0_isKept, .ref a_p0_drawn, .ref a_p0_one, .ref a_p0_two, .ref a_p0_costs, .int v_p0_nearestOne, .int v_p0_nearestBy, .int v_p0_how, .int v_p0_spot, .int v_p0_closestTwo, .int v_p0_closestBy])), (a_p0_costs, .inl (cc 0, 1681, .inl c_p0_costs_L10)), (a_p0_one, .inl (cc 0, 41, .inl c_p0_one)), (a_p0_two, .inl (cc 0, 41, .inl c_p0_two))] → va_S A s.heap H locs → lv_has ls 6 [(0, .ref a_p0), (1, .int k10_1), (2, .int k10_2), (3, .int k10_3), (4, .int x4)] → W p l e ({ frames := 2, cells := 0, slots := 0, locals := 41 } : Room) s m args below meth c H locs 0 0 QQ (F0 m 10 ls [])) → (∀ (c_p0_costs_E10 : Nat → Int32), r9 = Sum.inr (c_p0_costs_E10) → ∀ (H : Heap) (locs : List Loc) (ls : Array Slot), va_P D vwCl [(a_p0, .inr (7, [.int v_p0_refusal, .ref a_p0_text, .int v_p0_size, .ref a_p0_now, .ref a_p0_trial, .ref a_p0_diary, .int v_p0_acts, .ref a_p0_kept, .ref a_p0_isKept, .ref a_p0_drawn, .ref a_p0_one, .ref a_p0_two, .ref a_p0_costs, .int v_p0_nearestOne, .int v_p0_nearestBy, .int v_p0_how, .int v_p0_spot, .int v_p0_closestTwo, .int v_p0_closestBy])), (a_p0_costs, .inl (cc 0, 1681, .inl c_p0_costs_E10)), (a_p0_one, .inl (cc 0, 41, .inl c_p0_one)), (a_p0_two, .inl (cc 0, 41, .inl c_p0_two))] H → va_D A [(a_p0, .inr (7, [.int v_p0_refusal, .ref a_p0_text, .int v_p0_size, .ref a_p0_now, .ref a_p0_trial, .ref a_p0_diary, .int v_p0_acts, .ref a_p0_kept, .ref a_p0_isKept, .ref a_p0_drawn, .ref a_p0_one, .ref a_p0_two, .ref a_p0_costs, .int v_p0_nearestOne, .int v_p0_nearestBy, .int v_p0_how, .int v_p0_spot, .int v_p0_closestTwo, .int v_p0_closestBy])), (a_p0_costs, .inl (cc 0, 1681, .inl c_p0_costs_E10)), (a_p0_one, .inl (cc 0, 41, .inl c_p0_one)), (a_p0_two, .inl (cc 0, 41, .inl c_p0_two))] → va_S A s.heap H locs → lv_has ls 6 [(0, .ref a_p0), (1, .int k10_1), (2, .int k10_2), (3, .int k10_3)] → W p l e ({ frames := 2, cells := 0, slots := 0, locals := 41 } : Room) s m args below meth c H locs 0 0 QQ (F0 m 198 ls [])) → W p l e ({ frames := 2, cells := 0, slots := 0, locals := 41 } : Room) s m args below meth c H locs 0 0 QQ (F0 m 118 ls [.int s10_118_0]) := by
    intro QQ k10_1 k10_2 k10_3 j10_118_4 s10_118_0 c_p0_costs_J10_118 r9 h H locs ls hP hD hS hl KS KX0
    unfold fX7_distance_J10_118 at h
    refine lv_istore (x := s10_118_0) (lv' := [(5, .int s10_118_0), (0, .ref a_p0), (1, .int k10_1), (2, .int k10_2), (3, .int k10_3), (4, .int j10_118_4)]) hx hb dX7_distance_118 hl (by decide) rfl (fun ls hl => ?_)
    refine lv_iload_n hx hb dX7_distance_120 rfl (lv_at hl 4 rfl) ?_
    refine lv_if_le (tgt := 174) hx hb dX7_distance_121 (by decide) (fun (c6 : k10_3 ≤ 0) => ?_) (fun (c6 : ¬ k10_3 ≤ 0) => ?_)
    · replace h := ip c6 h
      refine lv_iload hx hb dX7_distance_174 (lv_at hl 0 rfl) ?_
      have hl := lv_sub (l' := [(0, .ref a_p0), (1, .int k10_1), (2, .int k10_2), (3, .int k10_3), (4, .int j10_118_4)]) hl [1, 2, 3, 4, 5] rfl
      exact hJ10_176 _ k10_1 k10_2 k10_3 j10_118_4 s10_118_0 c_p0_costs_J10_118 r9 h _ _ _ hP hD hS hl KS KX0
    · replace h := iq c6 h
      refine lv_iload hx hb dX7_distance_124 (lv_at hl 5 rfl) ?_
      refine lv_if_le (tgt := 174) hx hb dX7_distance_126 (by decide) (fun (c9 : j10_118_4 ≤ 0) => ?_) (fun (c9 : ¬ j10_118_4 ≤ 0) => ?_)
      · replace h := ip c9 h
        refine lv_iload hx hb dX7_distance_174 (lv_at hl 0 rfl) ?_
        have hl := lv_sub (l' := [(0, .ref a_p0), (1, .int k10_1), (2, .int k10_2), (3, .int k10_3), (4, .int j10_118_4)]) hl [1, 2, 3, 4, 5] rfl
        exact hJ10_176 _ k10_1 k10_2 k10_3 j10_118_4 s10_118_0 c_p0_costs_J10_118 r9 h _ _ _ hP hD hS hl KS KX0
      · replace h := iq c9 h
        refine lv_iload hx hb dX7_distance_129 (lv_at hl 0 rfl) ?_
        refine lv_aload_n hx hb dX7_distance_131 rfl (lv_at hl 1 rfl) ?_
        refine va_get (D := D) (ci := 7) (v := .ref a_p0_costs) (C := RX7) (T := TX7) (N := 19) hx hb hts inX7_distance_X7 hown hK hP 0 rfl rfl 12 (by decide) k1 (fun _ h9 => h9) rfl dX7_distance_132 ?_
        refine lv_bipush (v := (41 : Int32)) hx hb dX7_distance_135 (by decide) ?_
        refine lv_iload_n hx hb dX7_distance_137 rfl (lv_at hl 4 rfl) ?_
        refine lv_iconst (v := (1 : Int32)) hx hb dX7_distance_138 (by decide) ?_
        refine lv_isub hx hb dX7_distance_139 ?_
        refine lv_imul hx hb dX7_distance_140 ?_
        refine lv_iload hx hb dX7_distance_141 (lv_at hl 5 rfl) ?_
        refine lv_iadd hx hb dX7_distance_143 ?_
        refine lv_iconst (v := (1 : Int32)) hx hb dX7_distance_144 (by decide) ?_
        refine lv_isub hx hb dX7_distance_145 ?_
        obtain ⟨g10, h⟩ := gd h
        refine va_iald hx hb hK hP 1 0 rfl rfl g10 dX7_distance_146 ?_
        refine lv_aload_n hx hb dX7_distance_147 rfl (lv_at hl 1 rfl) ?_
        refine va_get (D := D) (ci := 7) (v := .ref a_p0_one) (C := RX7) (T := TX7) (N := 19) hx hb hts inX7_distance_X7 hown hK hP 0 rfl rfl 10 (by decide) k2 (fun _ h9 => h9) rfl dX7_distance_148 ?_
        refine lv_iload_n hx hb dX7_distance_151 rfl (lv_at hl 4 rfl) ?_
        refine lv_iconst (v := (1 : Int32)) hx hb dX7_distance_152 (by decide) ?_
        refine lv_isub hx hb dX7_distance_153 ?_
        obtain ⟨g11, h⟩ := gd h
        refine va_iald hx hb hK hP 2 0 rfl rfl g11 dX7_distance_154 ?_
        refine lv_aload_n hx hb dX7_distance_155 rfl (lv_at hl 1 rfl) ?_
        refine va_get (D := D) (ci := 7) (v := .ref a_p0_two) (C := RX7) (T := TX7) (N := 19) hx hb hts inX7_distance_X7 hown hK hP 0 rfl rfl 11 (by decide) k3 (fun _ h9 => h9) rfl dX7_distance_156 ?_
        refine lv_iload hx hb dX7_distance_159 (lv_at hl 5 rfl) ?_
        refine lv_iconst (v := (1 : Int32)) hx hb dX7_distance_161 (by decide) ?_
        refine lv_isub hx hb dX7_distance_162 ?_
        obtain ⟨g12, h⟩ := gd h
        refine va_iald hx hb hK hP 3 0 rfl rfl g12 dX7_distance_163 ?_
        refine xcalli (wr := [(a_p0, .inr (7, [.int v_p0_refusal, .ref a_p0_text, .int v_p0_size, .ref a_p0_now, .ref a_p0_trial, .ref a_p0_diary, .int v_p0_acts, .ref a_p0_kept, .ref a_p0_isKept, .ref a_p0_drawn, .ref a_p0_one, .ref a_p0_two, .ref a_p0_costs, .int v_p0_nearestOne, .int v_p0_nearestBy, .int v_p0_how, .int v_p0_spot, .int v_p0_closestTwo, .int v_p0_closestBy])), (a_p0_costs, .inl (cc 0, 1681, .inl c_p0_costs_J10_118)), (a_p0_one, .inl (cc 0, 41, .inl c_p0_one)), (a_p0_two, .inl (cc 0, 41, .inl c_p0_two))]) [] [0, 1, 2, 3] (xrunS (As := [.int (c_p0_one (k10_3 - (1 : Int32)).toNatClampNeg), .int (c_p0_two (j10_118_4 - (1 : Int32)).toNatClampNeg)]) (rest := [.int (c_p0_costs_J10_118 ((((41 : Int32) * (k10_3 - (1 : Int32))) + j10_118_4) - (1 : Int32)).toNatClampNeg), .int s10_118_0]) F ((kX7_instead l D cc (p0 := c_p0_one (k10_3 - (1 : Int32)).toNatClampNeg) (p1 := c_p0_two (j10_118_4 - (1 : Int32)).toNatClampNeg) (r0 := (fX7_instead (c_p0_one (k10_3 - (1 : Int32)).toNatClampNeg) (c_p0_two (j10_118_4 - (1 : Int32)).toNatClampNeg))) (h := rfl)) _) (cwS 2 hts gX7_distance_X7_instead rfl rfl rfl (by decide +kernel) ⟨Nat.le_of_ble_eq_true rfl, Nat.le_of_ble_eq_true rfl⟩) hK hN hP hD [] rfl (by decide) rfl hl rfl (Nat.le_of_ble_eq_true rfl) dX7_distance_164 ⟨Nat.zero_le _, Nat.zero_le _⟩) hP hD hS hA rfl rfl (by decide) (by decide) (fun _ H locs hP hD hS => ?_)
        have hP : va_P D vwCl [(a_p0, .inr (7, [.int v_p0_refusal, .ref a_p0_text, .int v_p0_size, .ref a_p0_now, .ref a_p0_trial, .ref a_p0_diary, .int v_p0_acts, .ref a_p0_kept, .ref a_p0_isKept, .ref a_p0_drawn, .ref a_p0_one, .ref a_p0_two, .ref a_p0_costs, .int v_p0_nearestOne, .int v_p0_nearestBy, .int v_p0_how, .int v_p0_spot, .int v_p0_closestTwo, .int v_p0_closestBy])), (a_p0_costs, .inl (cc 0, 1681, .inl c_p0_costs_J10_118)), (a_p0_one, .inl (cc 0, 41, .inl c_p0_one)), (a_p0_two, .inl (cc 0, 41, .inl c_p0_two))] H := hP
        have hD : va_D A [(a_p0, .inr (7, [.int v_p0_refusal, .ref a_p0_text, .int v_p0_size, .ref a_p0_now, .ref a_p0_trial, .ref a_p0_diary, .int v_p0_acts, .ref a_p0_kept, .ref a_p0_isKept, .ref a_p0_drawn, .ref a_p0_one, .ref a_p0_two, .ref a_p0_costs, .int v_p0_nearestOne, .int v_p0_nearestBy, .int v_p0_how, .int v_p0_spot, .int v_p0_closestTwo, .int v_p0_closestBy])), (a_p0_costs, .inl (cc 0, 1681, .inl c_p0_costs_J10_118)), (a_p0_one, .inl (cc 0, 41, .inl c_p0_one)), (a_p0_two, .inl (cc 0, 41, .inl c_p0_two))] := hD
        refine lv_iadd hx hb dX7_distance_167 ?_
        refine xcalli (wr := [(a_p0, .inr (7, [.int v_p0_refusal, .ref a_p0_text, .int v_p0_size, .ref a_p0_now, .ref a_p0_trial, .ref a_p0_diary, .int v_p0_acts, .ref a_p0_kept, .ref a_p0_isKept, .ref a_p0_drawn, .ref a_p0_one, .ref a_p0_two, .ref a_p0_costs, .int v_p0_nearestOne, .int v_p0_nearestBy, .int v_p0_how, .int v_p0_spot, .int v_p0_closestTwo, .int v_p0_closestBy])), (a_p0_costs, .inl (cc 0, 1681, .inl c_p0_costs_J10_118)), (a_p0_one, .inl (cc 0, 41, .inl c_p0_one)), (a_p0_two, .inl (cc 0, 41, .inl c_p0_two))]) [] [0, 1, 2, 3] (xrunS (As := [.int s10_118_0, .int ((c_p0_costs_J10_118 ((((41 : Int32) * (k10_3 - (1 : Int32))) + j10_118_4) - (1 : Int32)).toNatClampNeg) + (fX7_instead (c_p0_one (k10_3 - (1 : Int32)).toNatClampNeg) (c_p0_two (j10_118_4 - (1 : Int32)).toNatClampNeg)))]) (rest := []) F ((kX7_least l D cc (p0 := s10_118_0) (p1 := (c_p0_costs_J10_118 ((((41 : Int32) * (k10_3 - (1 : Int32))) + j10_118_4) - (1 : Int32)).toNatClampNeg) + (fX7_instead (c_p0_one (k10_3 - (1 : Int32)).toNatClampNeg) (c_p0_two (j10_118_4 - (1 : Int32)).toNatClampNeg))) (r0 := (fX7_least s10_118_0 ((c_p0_costs_J10_118 ((((41 : Int32) * (k10_3 - (1 : Int32))) + j10_118_4) - (1 : Int32)).toNatClampNeg) + (fX7_instead (c_p0_one (k10_3 - (1 : Int32)).toNatClampNeg) (c_p0_two (j10_118_4 - (1 : Int32)).toNatClampNeg))))) (h := rfl)) _) (cwS 2 hts gX7_distance_X7_least rfl rfl rfl (by decide +kernel) ⟨Nat.le_of_ble_eq_true rfl, Nat.le_of_ble_eq_true rfl⟩) hK hN hP hD [] rfl (by decide) rfl hl rfl (Nat.le_of_ble_eq_true rfl) dX7_distance_168 ⟨Nat.zero_le _, Nat.zero_le _⟩) hP hD hS hA rfl rfl (by decide) (by decide) (fun _ H locs hP hD hS => ?_)
        have hP : va_P D vwCl [(a_p0, .inr (7, [.int v_p0_refusal, .ref a_p0_text, .int v_p0_size, .ref a_p0_now, .ref a_p0_trial, .ref a_p0_diary, .int v_p0_acts, .ref a_p0_kept, .ref a_p0_isKept, .ref a_p0_drawn, .ref a_p0_one, .ref a_p0_two, .ref a_p0_costs, .int v_p0_nearestOne, .int v_p0_nearestBy, .int v_p0_how, .int v_p0_spot, .int v_p0_closestTwo, .int v_p0_closestBy])), (a_p0_costs, .inl (cc 0, 1681, .inl c_p0_costs_J10_118)), (a_p0_one, .inl (cc 0, 41, .inl c_p0_one)), (a_p0_two, .inl (cc 0, 41, .inl c_p0_two))] H := hP
        have hD : va_D A [(a_p0, .inr (7, [.int v_p0_refusal, .ref a_p0_text, .int v_p0_size, .ref a_p0_now, .ref a_p0_trial, .ref a_p0_diary, .int v_p0_acts, .ref a_p0_kept, .ref a_p0_isKept, .ref a_p0_drawn, .ref a_p0_one, .ref a_p0_two, .ref a_p0_costs, .int v_p0_nearestOne, .int v_p0_nearestBy, .int v_p0_how, .int v_p0_spot, .int v_p0_closestTwo, .int v_p0_closestBy])), (a_p0_costs, .inl (cc 0, 1681, .inl c_p0_costs_J10_118)), (a_p0_one, .inl (cc 0, 41, .inl c_p0_one)), (a_p0_two, .inl (cc 0, 41, .inl c_p0_two))] := hD
        refine lv_goto (tgt := 176) hx hb dX7_distance_171 (by decide) ?_
        have hl := lv_sub (l' := [(0, .ref a_p0), (1, .int k10_1), (2, .int k10_2), (3, .int k10_3), (4, .int j10_118_4)]) hl [1, 2, 3, 4, 5] rfl
        exact hJ10_176 _ k10_1 k10_2 k10_3 j10_118_4 (fX7_least s10_118_0 ((c_p0_costs_J10_118 ((((41 : Int32) * (k10_3 - (1 : Int32))) + j10_118_4) - (1 : Int32)).toNatClampNeg) + (fX7_instead (c_p0_one (k10_3 - (1 : Int32)).toNatClampNeg) (c_p0_two (j10_118_4 - (1 : Int32)).toNatClampNeg)))) c_p0_costs_J10_118 r9 h _ _ _ hP hD hS hl KS KX0
  have hJ10_74 : ∀ (QQ : State → Prop) (k10_1 : Int32) (k10_2 : Int32) (k10_3 : Int32) (j10_74_4 : Int32) (s10_74_0 : Int32) (c_p0_costs_J10_74 : Nat → Int32) (r9 : (Int32 × (Nat → Int32)) ⊕ ((Nat → Int32))), fX7_distance_J10_74 c_p0_one c_p0_two k10_3 j10_74_4 s10_74_0 c_p0_costs_J10_74 = some r9 → ∀ (H : Heap) (locs : List Loc) (ls : Array Slot), va_P D vwCl [(a_p0, .inr (7, [.int v_p0_refusal, .ref a_p0_text, .int v_p0_size, .ref a_p0_now, .ref a_p0_trial, .ref a_p0_diary, .int v_p0_acts, .ref a_p0_kept, .ref a_p0_isKept, .ref a_p0_drawn, .ref a_p0_one, .ref a_p0_two, .ref a_p0_costs, .int v_p0_nearestOne, .int v_p0_nearestBy, .int v_p0_how, .int v_p0_spot, .int v_p0_closestTwo, .int v_p0_closestBy])), (a_p0_costs, .inl (cc 0, 1681, .inl c_p0_costs_J10_74)), (a_p0_one, .inl (cc 0, 41, .inl c_p0_one)), (a_p0_two, .inl (cc 0, 41, .inl c_p0_two))] H → va_D A [(a_p0, .inr (7, [.int v_p0_refusal, .ref a_p0_text, .int v_p0_size, .ref a_p0_now, .ref a_p0_trial, .ref a_p0_diary, .int v_p0_acts, .ref a_p0_kept, .ref a_p0_isKept, .ref a_p0_drawn, .ref a_p0_one, .ref a_p0_two, .ref a_p0_costs, .int v_p0_nearestOne, .int v_p0_nearestBy, .int v_p0_how, .int v_p0_spot, .int v_p0_closestTwo, .int v_p0_closestBy])), (a_p0_costs, .inl (cc 0, 1681, .inl c_p0_costs_J10_74)), (a_p0_one, .inl (cc 0, 41, .inl c_p0_one)), (a_p0_two, .inl (cc 0, 41, .inl c_p0_two))] → va_S A s.heap H locs → lv_has ls 6 [(0, .ref a_p0), (1, .int k10_1), (2, .int k10_2), (3, .int k10_3), (4, .int j10_74_4)] → (∀ (x4 : Int32) (c_p0_costs_L10 : Nat → Int32), r9 = Sum.inl (x4, c_p0_costs_L10) → ∀ (H : Heap) (locs : List Loc) (ls : Array Slot), va_P D vwCl [(a_p0, .inr (7, [.int v_p0_refusal, .ref a_p0_text, .int v_p0_size, .ref a_p0_now, .ref a_p0_trial, .ref a_p0_diary, .int v_p0_acts, .ref a_p0_kept, .ref a_p0_isKept, .ref a_p0_drawn, .ref a_p0_one, .ref a_p0_two, .ref a_p0_costs, .int v_p0_nearestOne, .int v_p0_nearestBy, .int v_p0_how, .int v_p0_spot, .int v_p0_closestTwo, .int v_p0_closestBy])), (a_p0_costs, .inl (cc 0, 1681, .inl c_p0_costs_L10)), (a_p0_one, .inl (cc 0, 41, .inl c_p0_one)), (a_p0_two, .inl (cc 0, 41, .inl c_p0_two))] H → va_D A [(a_p0, .inr (7, [.int v_p0_refusal, .ref a_p0_text, .int v_p0_size, .ref a_p0_now, .ref a_p0_trial, .ref a_p0_diary, .int v_p0_acts, .ref a_p0_kept, .ref a_p0_isKept, .ref a_p0_drawn, .ref a_p0_one, .ref a_p0_two, .ref a_p0_costs, .int v_p0_nearestOne, .int v_p0_nearestBy, .int v_p0_how, .int v_p0_spot, .int v_p0_closestTwo, .int v_p0_closestBy])), (a_p0_costs, .inl (cc 0, 1681, .inl c_p0_costs_L10)), (a_p0_one, .inl (cc 0, 41, .inl c_p0_one)), (a_p0_two, .inl (cc 0, 41, .inl c_p0_two))] → va_S A s.heap H locs → lv_has ls 6 [(0, .ref a_p0), (1, .int k10_1), (2, .int k10_2), (3, .int k10_3), (4, .int x4)] → W p l e ({ frames := 2, cells := 0, slots := 0, locals := 41 } : Room) s m args below meth c H locs 0 0 QQ (F0 m 10 ls [])) → (∀ (c_p0_costs_E10 : Nat → Int32), r9 = Sum.inr (c_p0_costs_E10) → ∀ (H : Heap) (locs : List Loc) (ls : Array Slot), va_P D vwCl [(a_p0, .inr (7, [.int v_p0_refusal, .ref a_p0_text, .int v_p0_size, .ref a_p0_now, .ref a_p0_trial, .ref a_p0_diary, .int v_p0_acts, .ref a_p0_kept, .ref a_p0_isKept, .ref a_p0_drawn, .ref a_p0_one, .ref a_p0_two, .ref a_p0_costs, .int v_p0_nearestOne, .int v_p0_nearestBy, .int v_p0_how, .int v_p0_spot, .int v_p0_closestTwo, .int v_p0_closestBy])), (a_p0_costs, .inl (cc 0, 1681, .inl c_p0_costs_E10)), (a_p0_one, .inl (cc 0, 41, .inl c_p0_one)), (a_p0_two, .inl (cc 0, 41, .inl c_p0_two))] H → va_D A [(a_p0, .inr (7, [.int v_p0_refusal, .ref a_p0_text, .int v_p0_size, .ref a_p0_now, .ref a_p0_trial, .ref a_p0_diary, .int v_p0_acts, .ref a_p0_kept, .ref a_p0_isKept, .ref a_p0_drawn, .ref a_p0_one, .ref a_p0_two, .ref a_p0_costs, .int v_p0_nearestOne, .int v_p0_nearestBy, .int v_p0_how, .int v_p0_spot, .int v_p0_closestTwo, .int v_p0_closestBy])), (a_p0_costs, .inl (cc 0, 1681, .inl c_p0_costs_E10)), (a_p0_one, .inl (cc 0, 41, .inl c_p0_one)), (a_p0_two, .inl (cc 0, 41, .inl c_p0_two))] → va_S A s.heap H locs → lv_has ls 6 [(0, .ref a_p0), (1, .int k10_1), (2, .int k10_2), (3, .int k10_3)] → W p l e ({ frames := 2, cells := 0, slots := 0, locals := 41 } : Room) s m args below meth c H locs 0 0 QQ (F0 m 198 ls [])) → W p l e ({ frames := 2, cells := 0, slots := 0, locals := 41 } : Room) s m args below meth c H locs 0 0 QQ (F0 m 74 ls [.int s10_74_0]) := by
    intro QQ k10_1 k10_2 k10_3 j10_74_4 s10_74_0 c_p0_costs_J10_74 r9 h H locs ls hP hD hS hl KS KX0
    unfold fX7_distance_J10_74 at h
    refine lv_istore (x := s10_74_0) (lv' := [(5, .int s10_74_0), (0, .ref a_p0), (1, .int k10_1), (2, .int k10_2), (3, .int k10_3), (4, .int j10_74_4)]) hx hb dX7_distance_74 hl (by decide) rfl (fun ls hl => ?_)
    refine lv_iload hx hb dX7_distance_76 (lv_at hl 5 rfl) ?_
    refine lv_if_le (tgt := 116) hx hb dX7_distance_78 (by decide) (fun (c5 : j10_74_4 ≤ 0) => ?_) (fun (c5 : ¬ j10_74_4 ≤ 0) => ?_)
    · replace h := ip c5 h
      refine lv_iload hx hb dX7_distance_116 (lv_at hl 0 rfl) ?_
      have hl := lv_sub (l' := [(0, .ref a_p0), (1, .int k10_1), (2, .int k10_2), (3, .int k10_3), (4, .int j10_74_4)]) hl [1, 2, 3, 4, 5] rfl
      exact hJ10_118 _ k10_1 k10_2 k10_3 j10_74_4 s10_74_0 c_p0_costs_J10_74 r9 h _ _ _ hP hD hS hl KS KX0
    · replace h := iq c5 h
      refine lv_iload hx hb dX7_distance_81 (lv_at hl 0 rfl) ?_
      refine lv_aload_n hx hb dX7_distance_83 rfl (lv_at hl 1 rfl) ?_
      refine va_get (D := D) (ci := 7) (v := .ref a_p0_costs) (C := RX7) (T := TX7) (N := 19) hx hb hts inX7_distance_X7 hown hK hP 0 rfl rfl 12 (by decide) k1 (fun _ h9 => h9) rfl dX7_distance_84 ?_
      refine lv_bipush (v := (41 : Int32)) hx hb dX7_distance_87 (by decide) ?_
      refine lv_iload_n hx hb dX7_distance_89 rfl (lv_at hl 4 rfl) ?_
      refine lv_imul hx hb dX7_distance_90 ?_
      refine lv_iload hx hb dX7_distance_91 (lv_at hl 5 rfl) ?_
      refine lv_iadd hx hb dX7_distance_93 ?_
      refine lv_iconst (v := (1 : Int32)) hx hb dX7_distance_94 (by decide) ?_
      refine lv_isub hx hb dX7_distance_95 ?_
      obtain ⟨g15, h⟩ := gd h
      refine va_iald hx hb hK hP 1 0 rfl rfl g15 dX7_distance_96 ?_
      refine lv_aload_n hx hb dX7_distance_97 rfl (lv_at hl 1 rfl) ?_
      refine va_get (D := D) (ci := 7) (v := .ref a_p0_two) (C := RX7) (T := TX7) (N := 19) hx hb hts inX7_distance_X7 hown hK hP 0 rfl rfl 11 (by decide) k3 (fun _ h9 => h9) rfl dX7_distance_98 ?_
      refine lv_iload hx hb dX7_distance_101 (lv_at hl 5 rfl) ?_
      refine lv_iconst (v := (1 : Int32)) hx hb dX7_distance_103 (by decide) ?_
      refine lv_isub hx hb dX7_distance_104 ?_
      obtain ⟨g16, h⟩ := gd h
      refine va_iald hx hb hK hP 3 0 rfl rfl g16 dX7_distance_105 ?_
      refine xcalli (wr := [(a_p0, .inr (7, [.int v_p0_refusal, .ref a_p0_text, .int v_p0_size, .ref a_p0_now, .ref a_p0_trial, .ref a_p0_diary, .int v_p0_acts, .ref a_p0_kept, .ref a_p0_isKept, .ref a_p0_drawn, .ref a_p0_one, .ref a_p0_two, .ref a_p0_costs, .int v_p0_nearestOne, .int v_p0_nearestBy, .int v_p0_how, .int v_p0_spot, .int v_p0_closestTwo, .int v_p0_closestBy])), (a_p0_costs, .inl (cc 0, 1681, .inl c_p0_costs_J10_74)), (a_p0_one, .inl (cc 0, 41, .inl c_p0_one)), (a_p0_two, .inl (cc 0, 41, .inl c_p0_two))]) [] [0, 1, 2, 3] (xrunS (As := [.int (c_p0_two (j10_74_4 - (1 : Int32)).toNatClampNeg)]) (rest := [.int (c_p0_costs_J10_74 ((((41 : Int32) * k10_3) + j10_74_4) - (1 : Int32)).toNatClampNeg), .int s10_74_0]) F ((kX7_alone l D cc (p0 := c_p0_two (j10_74_4 - (1 : Int32)).toNatClampNeg) (r0 := (fX7_alone (c_p0_two (j10_74_4 - (1 : Int32)).toNatClampNeg))) (h := rfl)) _) (cwS 1 hts gX7_distance_X7_alone rfl rfl rfl (by decide +kernel) ⟨Nat.le_of_ble_eq_true rfl, Nat.le_of_ble_eq_true rfl⟩) hK hN hP hD [] rfl (by decide) rfl hl rfl (Nat.le_of_ble_eq_true rfl) dX7_distance_106 ⟨Nat.zero_le _, Nat.zero_le _⟩) hP hD hS hA rfl rfl (by decide) (by decide) (fun _ H locs hP hD hS => ?_)
      have hP : va_P D vwCl [(a_p0, .inr (7, [.int v_p0_refusal, .ref a_p0_text, .int v_p0_size, .ref a_p0_now, .ref a_p0_trial, .ref a_p0_diary, .int v_p0_acts, .ref a_p0_kept, .ref a_p0_isKept, .ref a_p0_drawn, .ref a_p0_one, .ref a_p0_two, .ref a_p0_costs, .int v_p0_nearestOne, .int v_p0_nearestBy, .int v_p0_how, .int v_p0_spot, .int v_p0_closestTwo, .int v_p0_closestBy])), (a_p0_costs, .inl (cc 0, 1681, .inl c_p0_costs_J10_74)), (a_p0_one, .inl (cc 0, 41, .inl c_p0_one)), (a_p0_two, .inl (cc 0, 41, .inl c_p0_two))] H := hP
      have hD : va_D A [(a_p0, .inr (7, [.int v_p0_refusal, .ref a_p0_text, .int v_p0_size, .ref a_p0_now, .ref a_p0_trial, .ref a_p0_diary, .int v_p0_acts, .ref a_p0_kept, .ref a_p0_isKept, .ref a_p0_drawn, .ref a_p0_one, .ref a_p0_two, .ref a_p0_costs, .int v_p0_nearestOne, .int v_p0_nearestBy, .int v_p0_how, .int v_p0_spot, .int v_p0_closestTwo, .int v_p0_closestBy])), (a_p0_costs, .inl (cc 0, 1681, .inl c_p0_costs_J10_74)), (a_p0_one, .inl (cc 0, 41, .inl c_p0_one)), (a_p0_two, .inl (cc 0, 41, .inl c_p0_two))] := hD
      refine lv_iadd hx hb dX7_distance_109 ?_
      refine xcalli (wr := [(a_p0, .inr (7, [.int v_p0_refusal, .ref a_p0_text, .int v_p0_size, .ref a_p0_now, .ref a_p0_trial, .ref a_p0_diary, .int v_p0_acts, .ref a_p0_kept, .ref a_p0_isKept, .ref a_p0_drawn, .ref a_p0_one, .ref a_p0_two, .ref a_p0_costs, .int v_p0_nearestOne, .int v_p0_nearestBy, .int v_p0_how, .int v_p0_spot, .int v_p0_closestTwo, .int v_p0_closestBy])), (a_p0_costs, .inl (cc 0, 1681, .inl c_p0_costs_J10_74)), (a_p0_one, .inl (cc 0, 41, .inl c_p0_one)), (a_p0_two, .inl (cc 0, 41, .inl c_p0_two))]) [] [0, 1, 2, 3] (xrunS (As := [.int s10_74_0, .int ((c_p0_costs_J10_74 ((((41 : Int32) * k10_3) + j10_74_4) - (1 : Int32)).toNatClampNeg) + (fX7_alone (c_p0_two (j10_74_4 - (1 : Int32)).toNatClampNeg)))]) (rest := []) F ((kX7_least l D cc (p0 := s10_74_0) (p1 := (c_p0_costs_J10_74 ((((41 : Int32) * k10_3) + j10_74_4) - (1 : Int32)).toNatClampNeg) + (fX7_alone (c_p0_two (j10_74_4 - (1 : Int32)).toNatClampNeg))) (r0 := (fX7_least s10_74_0 ((c_p0_costs_J10_74 ((((41 : Int32) * k10_3) + j10_74_4) - (1 : Int32)).toNatClampNeg) + (fX7_alone (c_p0_two (j10_74_4 - (1 : Int32)).toNatClampNeg))))) (h := rfl)) _) (cwS 2 hts gX7_distance_X7_least rfl rfl rfl (by decide +kernel) ⟨Nat.le_of_ble_eq_true rfl, Nat.le_of_ble_eq_true rfl⟩) hK hN hP hD [] rfl (by decide) rfl hl rfl (Nat.le_of_ble_eq_true rfl) dX7_distance_110 ⟨Nat.zero_le _, Nat.zero_le _⟩) hP hD hS hA rfl rfl (by decide) (by decide) (fun _ H locs hP hD hS => ?_)
      have hP : va_P D vwCl [(a_p0, .inr (7, [.int v_p0_refusal, .ref a_p0_text, .int v_p0_size, .ref a_p0_now, .ref a_p0_trial, .ref a_p0_diary, .int v_p0_acts, .ref a_p0_kept, .ref a_p0_isKept, .ref a_p0_drawn, .ref a_p0_one, .ref a_p0_two, .ref a_p0_costs, .int v_p0_nearestOne, .int v_p0_nearestBy, .int v_p0_how, .int v_p0_spot, .int v_p0_closestTwo, .int v_p0_closestBy])), (a_p0_costs, .inl (cc 0, 1681, .inl c_p0_costs_J10_74)), (a_p0_one, .inl (cc 0, 41, .inl c_p0_one)), (a_p0_two, .inl (cc 0, 41, .inl c_p0_two))] H := hP
      have hD : va_D A [(a_p0, .inr (7, [.int v_p0_refusal, .ref a_p0_text, .int v_p0_size, .ref a_p0_now, .ref a_p0_trial, .ref a_p0_diary, .int v_p0_acts, .ref a_p0_kept, .ref a_p0_isKept, .ref a_p0_drawn, .ref a_p0_one, .ref a_p0_two, .ref a_p0_costs, .int v_p0_nearestOne, .int v_p0_nearestBy, .int v_p0_how, .int v_p0_spot, .int v_p0_closestTwo, .int v_p0_closestBy])), (a_p0_costs, .inl (cc 0, 1681, .inl c_p0_costs_J10_74)), (a_p0_one, .inl (cc 0, 41, .inl c_p0_one)), (a_p0_two, .inl (cc 0, 41, .inl c_p0_two))] := hD
      refine lv_goto (tgt := 118) hx hb dX7_distance_113 (by decide) ?_
      have hl := lv_sub (l' := [(0, .ref a_p0), (1, .int k10_1), (2, .int k10_2), (3, .int k10_3), (4, .int j10_74_4)]) hl [1, 2, 3, 4, 5] rfl
      exact hJ10_118 _ k10_1 k10_2 k10_3 j10_74_4 (fX7_least s10_74_0 ((c_p0_costs_J10_74 ((((41 : Int32) * k10_3) + j10_74_4) - (1 : Int32)).toNatClampNeg) + (fX7_alone (c_p0_two (j10_74_4 - (1 : Int32)).toNatClampNeg)))) c_p0_costs_J10_74 r9 h _ _ _ hP hD hS hl KS KX0
  have hJ10_32 : ∀ (QQ : State → Prop) (k10_1 : Int32) (k10_2 : Int32) (k10_3 : Int32) (j10_32_4 : Int32) (s10_32_0 : Int32) (c_p0_costs_J10_32 : Nat → Int32) (r9 : (Int32 × (Nat → Int32)) ⊕ ((Nat → Int32))), fX7_distance_J10_32 c_p0_one c_p0_two k10_3 j10_32_4 s10_32_0 c_p0_costs_J10_32 = some r9 → ∀ (H : Heap) (locs : List Loc) (ls : Array Slot), va_P D vwCl [(a_p0, .inr (7, [.int v_p0_refusal, .ref a_p0_text, .int v_p0_size, .ref a_p0_now, .ref a_p0_trial, .ref a_p0_diary, .int v_p0_acts, .ref a_p0_kept, .ref a_p0_isKept, .ref a_p0_drawn, .ref a_p0_one, .ref a_p0_two, .ref a_p0_costs, .int v_p0_nearestOne, .int v_p0_nearestBy, .int v_p0_how, .int v_p0_spot, .int v_p0_closestTwo, .int v_p0_closestBy])), (a_p0_costs, .inl (cc 0, 1681, .inl c_p0_costs_J10_32)), (a_p0_one, .inl (cc 0, 41, .inl c_p0_one)), (a_p0_two, .inl (cc 0, 41, .inl c_p0_two))] H → va_D A [(a_p0, .inr (7, [.int v_p0_refusal, .ref a_p0_text, .int v_p0_size, .ref a_p0_now, .ref a_p0_trial, .ref a_p0_diary, .int v_p0_acts, .ref a_p0_kept, .ref a_p0_isKept, .ref a_p0_drawn, .ref a_p0_one, .ref a_p0_two, .ref a_p0_costs, .int v_p0_nearestOne, .int v_p0_nearestBy, .int v_p0_how, .int v_p0_spot, .int v_p0_closestTwo, .int v_p0_closestBy])), (a_p0_costs, .inl (cc 0, 1681, .inl c_p0_costs_J10_32)), (a_p0_one, .inl (cc 0, 41, .inl c_p0_one)), (a_p0_two, .inl (cc 0, 41, .inl c_p0_two))] → va_S A s.heap H locs → lv_has ls 6 [(0, .ref a_p0), (1, .int k10_1), (2, .int k10_2), (3, .int k10_3), (4, .int j10_32_4)] → (∀ (x4 : Int32) (c_p0_costs_L10 : Nat → Int32), r9 = Sum.inl (x4, c_p0_costs_L10) → ∀ (H : Heap) (locs : List Loc) (ls : Array Slot), va_P D vwCl [(a_p0, .inr (7, [.int v_p0_refusal, .ref a_p0_text, .int v_p0_size, .ref a_p0_now, .ref a_p0_trial, .ref a_p0_diary, .int v_p0_acts, .ref a_p0_kept, .ref a_p0_isKept, .ref a_p0_drawn, .ref a_p0_one, .ref a_p0_two, .ref a_p0_costs, .int v_p0_nearestOne, .int v_p0_nearestBy, .int v_p0_how, .int v_p0_spot, .int v_p0_closestTwo, .int v_p0_closestBy])), (a_p0_costs, .inl (cc 0, 1681, .inl c_p0_costs_L10)), (a_p0_one, .inl (cc 0, 41, .inl c_p0_one)), (a_p0_two, .inl (cc 0, 41, .inl c_p0_two))] H → va_D A [(a_p0, .inr (7, [.int v_p0_refusal, .ref a_p0_text, .int v_p0_size, .ref a_p0_now, .ref a_p0_trial, .ref a_p0_diary, .int v_p0_acts, .ref a_p0_kept, .ref a_p0_isKept, .ref a_p0_drawn, .ref a_p0_one, .ref a_p0_two, .ref a_p0_costs, .int v_p0_nearestOne, .int v_p0_nearestBy, .int v_p0_how, .int v_p0_spot, .int v_p0_closestTwo, .int v_p0_closestBy])), (a_p0_costs, .inl (cc 0, 1681, .inl c_p0_costs_L10)), (a_p0_one, .inl (cc 0, 41, .inl c_p0_one)), (a_p0_two, .inl (cc 0, 41, .inl c_p0_two))] → va_S A s.heap H locs → lv_has ls 6 [(0, .ref a_p0), (1, .int k10_1), (2, .int k10_2), (3, .int k10_3), (4, .int x4)] → W p l e ({ frames := 2, cells := 0, slots := 0, locals := 41 } : Room) s m args below meth c H locs 0 0 QQ (F0 m 10 ls [])) → (∀ (c_p0_costs_E10 : Nat → Int32), r9 = Sum.inr (c_p0_costs_E10) → ∀ (H : Heap) (locs : List Loc) (ls : Array Slot), va_P D vwCl [(a_p0, .inr (7, [.int v_p0_refusal, .ref a_p0_text, .int v_p0_size, .ref a_p0_now, .ref a_p0_trial, .ref a_p0_diary, .int v_p0_acts, .ref a_p0_kept, .ref a_p0_isKept, .ref a_p0_drawn, .ref a_p0_one, .ref a_p0_two, .ref a_p0_costs, .int v_p0_nearestOne, .int v_p0_nearestBy, .int v_p0_how, .int v_p0_spot, .int v_p0_closestTwo, .int v_p0_closestBy])), (a_p0_costs, .inl (cc 0, 1681, .inl c_p0_costs_E10)), (a_p0_one, .inl (cc 0, 41, .inl c_p0_one)), (a_p0_two, .inl (cc 0, 41, .inl c_p0_two))] H → va_D A [(a_p0, .inr (7, [.int v_p0_refusal, .ref a_p0_text, .int v_p0_size, .ref a_p0_now, .ref a_p0_trial, .ref a_p0_diary, .int v_p0_acts, .ref a_p0_kept, .ref a_p0_isKept, .ref a_p0_drawn, .ref a_p0_one, .ref a_p0_two, .ref a_p0_costs, .int v_p0_nearestOne, .int v_p0_nearestBy, .int v_p0_how, .int v_p0_spot, .int v_p0_closestTwo, .int v_p0_closestBy])), (a_p0_costs, .inl (cc 0, 1681, .inl c_p0_costs_E10)), (a_p0_one, .inl (cc 0, 41, .inl c_p0_one)), (a_p0_two, .inl (cc 0, 41, .inl c_p0_two))] → va_S A s.heap H locs → lv_has ls 6 [(0, .ref a_p0), (1, .int k10_1), (2, .int k10_2), (3, .int k10_3)] → W p l e ({ frames := 2, cells := 0, slots := 0, locals := 41 } : Room) s m args below meth c H locs 0 0 QQ (F0 m 198 ls [])) → W p l e ({ frames := 2, cells := 0, slots := 0, locals := 41 } : Room) s m args below meth c H locs 0 0 QQ (F0 m 32 ls [.int s10_32_0]) := by
    intro QQ k10_1 k10_2 k10_3 j10_32_4 s10_32_0 c_p0_costs_J10_32 r9 h H locs ls hP hD hS hl KS KX0
    unfold fX7_distance_J10_32 at h
    refine lv_istore (x := s10_32_0) (lv' := [(5, .int s10_32_0), (0, .ref a_p0), (1, .int k10_1), (2, .int k10_2), (3, .int k10_3), (4, .int j10_32_4)]) hx hb dX7_distance_32 hl (by decide) rfl (fun ls hl => ?_)
    refine lv_iload_n hx hb dX7_distance_34 rfl (lv_at hl 4 rfl) ?_
    refine lv_if_le (tgt := 72) hx hb dX7_distance_35 (by decide) (fun (c4 : k10_3 ≤ 0) => ?_) (fun (c4 : ¬ k10_3 ≤ 0) => ?_)
    · replace h := ip c4 h
      refine lv_iload hx hb dX7_distance_72 (lv_at hl 0 rfl) ?_
      have hl := lv_sub (l' := [(0, .ref a_p0), (1, .int k10_1), (2, .int k10_2), (3, .int k10_3), (4, .int j10_32_4)]) hl [1, 2, 3, 4, 5] rfl
      exact hJ10_74 _ k10_1 k10_2 k10_3 j10_32_4 s10_32_0 c_p0_costs_J10_32 r9 h _ _ _ hP hD hS hl KS KX0
    · replace h := iq c4 h
      refine lv_iload hx hb dX7_distance_38 (lv_at hl 0 rfl) ?_
      refine lv_aload_n hx hb dX7_distance_40 rfl (lv_at hl 1 rfl) ?_
      refine va_get (D := D) (ci := 7) (v := .ref a_p0_costs) (C := RX7) (T := TX7) (N := 19) hx hb hts inX7_distance_X7 hown hK hP 0 rfl rfl 12 (by decide) k1 (fun _ h9 => h9) rfl dX7_distance_41 ?_
      refine lv_bipush (v := (41 : Int32)) hx hb dX7_distance_44 (by decide) ?_
      refine lv_iload_n hx hb dX7_distance_46 rfl (lv_at hl 4 rfl) ?_
      refine lv_iconst (v := (1 : Int32)) hx hb dX7_distance_47 (by decide) ?_
      refine lv_isub hx hb dX7_distance_48 ?_
      refine lv_imul hx hb dX7_distance_49 ?_
      refine lv_iload hx hb dX7_distance_50 (lv_at hl 5 rfl) ?_
      refine lv_iadd hx hb dX7_distance_52 ?_
      obtain ⟨g19, h⟩ := gd h
      refine va_iald hx hb hK hP 1 0 rfl rfl g19 dX7_distance_53 ?_
      refine lv_aload_n hx hb dX7_distance_54 rfl (lv_at hl 1 rfl) ?_
      refine va_get (D := D) (ci := 7) (v := .ref a_p0_one) (C := RX7) (T := TX7) (N := 19) hx hb hts inX7_distance_X7 hown hK hP 0 rfl rfl 10 (by decide) k2 (fun _ h9 => h9) rfl dX7_distance_55 ?_
      refine lv_iload_n hx hb dX7_distance_58 rfl (lv_at hl 4 rfl) ?_
      refine lv_iconst (v := (1 : Int32)) hx hb dX7_distance_59 (by decide) ?_
      refine lv_isub hx hb dX7_distance_60 ?_
      obtain ⟨g20, h⟩ := gd h
      refine va_iald hx hb hK hP 2 0 rfl rfl g20 dX7_distance_61 ?_
      refine xcalli (wr := [(a_p0, .inr (7, [.int v_p0_refusal, .ref a_p0_text, .int v_p0_size, .ref a_p0_now, .ref a_p0_trial, .ref a_p0_diary, .int v_p0_acts, .ref a_p0_kept, .ref a_p0_isKept, .ref a_p0_drawn, .ref a_p0_one, .ref a_p0_two, .ref a_p0_costs, .int v_p0_nearestOne, .int v_p0_nearestBy, .int v_p0_how, .int v_p0_spot, .int v_p0_closestTwo, .int v_p0_closestBy])), (a_p0_costs, .inl (cc 0, 1681, .inl c_p0_costs_J10_32)), (a_p0_one, .inl (cc 0, 41, .inl c_p0_one)), (a_p0_two, .inl (cc 0, 41, .inl c_p0_two))]) [] [0, 1, 2, 3] (xrunS (As := [.int (c_p0_one (k10_3 - (1 : Int32)).toNatClampNeg)]) (rest := [.int (c_p0_costs_J10_32 (((41 : Int32) * (k10_3 - (1 : Int32))) + j10_32_4).toNatClampNeg), .int s10_32_0]) F ((kX7_alone l D cc (p0 := c_p0_one (k10_3 - (1 : Int32)).toNatClampNeg) (r0 := (fX7_alone (c_p0_one (k10_3 - (1 : Int32)).toNatClampNeg))) (h := rfl)) _) (cwS 1 hts gX7_distance_X7_alone rfl rfl rfl (by decide +kernel) ⟨Nat.le_of_ble_eq_true rfl, Nat.le_of_ble_eq_true rfl⟩) hK hN hP hD [] rfl (by decide) rfl hl rfl (Nat.le_of_ble_eq_true rfl) dX7_distance_62 ⟨Nat.zero_le _, Nat.zero_le _⟩) hP hD hS hA rfl rfl (by decide) (by decide) (fun _ H locs hP hD hS => ?_)
      have hP : va_P D vwCl [(a_p0, .inr (7, [.int v_p0_refusal, .ref a_p0_text, .int v_p0_size, .ref a_p0_now, .ref a_p0_trial, .ref a_p0_diary, .int v_p0_acts, .ref a_p0_kept, .ref a_p0_isKept, .ref a_p0_drawn, .ref a_p0_one, .ref a_p0_two, .ref a_p0_costs, .int v_p0_nearestOne, .int v_p0_nearestBy, .int v_p0_how, .int v_p0_spot, .int v_p0_closestTwo, .int v_p0_closestBy])), (a_p0_costs, .inl (cc 0, 1681, .inl c_p0_costs_J10_32)), (a_p0_one, .inl (cc 0, 41, .inl c_p0_one)), (a_p0_two, .inl (cc 0, 41, .inl c_p0_two))] H := hP
      have hD : va_D A [(a_p0, .inr (7, [.int v_p0_refusal, .ref a_p0_text, .int v_p0_size, .ref a_p0_now, .ref a_p0_trial, .ref a_p0_diary, .int v_p0_acts, .ref a_p0_kept, .ref a_p0_isKept, .ref a_p0_drawn, .ref a_p0_one, .ref a_p0_two, .ref a_p0_costs, .int v_p0_nearestOne, .int v_p0_nearestBy, .int v_p0_how, .int v_p0_spot, .int v_p0_closestTwo, .int v_p0_closestBy])), (a_p0_costs, .inl (cc 0, 1681, .inl c_p0_costs_J10_32)), (a_p0_one, .inl (cc 0, 41, .inl c_p0_one)), (a_p0_two, .inl (cc 0, 41, .inl c_p0_two))] := hD
      refine lv_iadd hx hb dX7_distance_65 ?_
      refine xcalli (wr := [(a_p0, .inr (7, [.int v_p0_refusal, .ref a_p0_text, .int v_p0_size, .ref a_p0_now, .ref a_p0_trial, .ref a_p0_diary, .int v_p0_acts, .ref a_p0_kept, .ref a_p0_isKept, .ref a_p0_drawn, .ref a_p0_one, .ref a_p0_two, .ref a_p0_costs, .int v_p0_nearestOne, .int v_p0_nearestBy, .int v_p0_how, .int v_p0_spot, .int v_p0_closestTwo, .int v_p0_closestBy])), (a_p0_costs, .inl (cc 0, 1681, .inl c_p0_costs_J10_32)), (a_p0_one, .inl (cc 0, 41, .inl c_p0_one)), (a_p0_two, .inl (cc 0, 41, .inl c_p0_two))]) [] [0, 1, 2, 3] (xrunS (As := [.int s10_32_0, .int ((c_p0_costs_J10_32 (((41 : Int32) * (k10_3 - (1 : Int32))) + j10_32_4).toNatClampNeg) + (fX7_alone (c_p0_one (k10_3 - (1 : Int32)).toNatClampNeg)))]) (rest := []) F ((kX7_least l D cc (p0 := s10_32_0) (p1 := (c_p0_costs_J10_32 (((41 : Int32) * (k10_3 - (1 : Int32))) + j10_32_4).toNatClampNeg) + (fX7_alone (c_p0_one (k10_3 - (1 : Int32)).toNatClampNeg))) (r0 := (fX7_least s10_32_0 ((c_p0_costs_J10_32 (((41 : Int32) * (k10_3 - (1 : Int32))) + j10_32_4).toNatClampNeg) + (fX7_alone (c_p0_one (k10_3 - (1 : Int32)).toNatClampNeg))))) (h := rfl)) _) (cwS 2 hts gX7_distance_X7_least rfl rfl rfl (by decide +kernel) ⟨Nat.le_of_ble_eq_true rfl, Nat.le_of_ble_eq_true rfl⟩) hK hN hP hD [] rfl (by decide) rfl hl rfl (Nat.le_of_ble_eq_true rfl) dX7_distance_66 ⟨Nat.zero_le _, Nat.zero_le _⟩) hP hD hS hA rfl rfl (by decide) (by decide) (fun _ H locs hP hD hS => ?_)
      have hP : va_P D vwCl [(a_p0, .inr (7, [.int v_p0_refusal, .ref a_p0_text, .int v_p0_size, .ref a_p0_now, .ref a_p0_trial, .ref a_p0_diary, .int v_p0_acts, .ref a_p0_kept, .ref a_p0_isKept, .ref a_p0_drawn, .ref a_p0_one, .ref a_p0_two, .ref a_p0_costs, .int v_p0_nearestOne, .int v_p0_nearestBy, .int v_p0_how, .int v_p0_spot, .int v_p0_closestTwo, .int v_p0_closestBy])), (a_p0_costs, .inl (cc 0, 1681, .inl c_p0_costs_J10_32)), (a_p0_one, .inl (cc 0, 41, .inl c_p0_one)), (a_p0_two, .inl (cc 0, 41, .inl c_p0_two))] H := hP
      have hD : va_D A [(a_p0, .inr (7, [.int v_p0_refusal, .ref a_p0_text, .int v_p0_size, .ref a_p0_now, .ref a_p0_trial, .ref a_p0_diary, .int v_p0_acts, .ref a_p0_kept, .ref a_p0_isKept, .ref a_p0_drawn, .ref a_p0_one, .ref a_p0_two, .ref a_p0_costs, .int v_p0_nearestOne, .int v_p0_nearestBy, .int v_p0_how, .int v_p0_spot, .int v_p0_closestTwo, .int v_p0_closestBy])), (a_p0_costs, .inl (cc 0, 1681, .inl c_p0_costs_J10_32)), (a_p0_one, .inl (cc 0, 41, .inl c_p0_one)), (a_p0_two, .inl (cc 0, 41, .inl c_p0_two))] := hD
      refine lv_goto (tgt := 74) hx hb dX7_distance_69 (by decide) ?_
      have hl := lv_sub (l' := [(0, .ref a_p0), (1, .int k10_1), (2, .int k10_2), (3, .int k10_3), (4, .int j10_32_4)]) hl [1, 2, 3, 4, 5] rfl
      exact hJ10_74 _ k10_1 k10_2 k10_3 j10_32_4 (fX7_least s10_32_0 ((c_p0_costs_J10_32 (((41 : Int32) * (k10_3 - (1 : Int32))) + j10_32_4).toNatClampNeg) + (fX7_alone (c_p0_one (k10_3 - (1 : Int32)).toNatClampNeg)))) c_p0_costs_J10_32 r9 h _ _ _ hP hD hS hl KS KX0
  have hB10 : ∀ (QQ : State → Prop) (k10_1 : Int32) (k10_2 : Int32) (k10_3 : Int32) (x4 : Int32) (c_p0_costs_L10 : Nat → Int32) (r9 : (Int32 × (Nat → Int32)) ⊕ ((Nat → Int32))), fX7_distance_L10 c_p0_one c_p0_two k10_2 k10_3 x4 c_p0_costs_L10 = some r9 → ∀ (H : Heap) (locs : List Loc) (ls : Array Slot), va_P D vwCl [(a_p0, .inr (7, [.int v_p0_refusal, .ref a_p0_text, .int v_p0_size, .ref a_p0_now, .ref a_p0_trial, .ref a_p0_diary, .int v_p0_acts, .ref a_p0_kept, .ref a_p0_isKept, .ref a_p0_drawn, .ref a_p0_one, .ref a_p0_two, .ref a_p0_costs, .int v_p0_nearestOne, .int v_p0_nearestBy, .int v_p0_how, .int v_p0_spot, .int v_p0_closestTwo, .int v_p0_closestBy])), (a_p0_costs, .inl (cc 0, 1681, .inl c_p0_costs_L10)), (a_p0_one, .inl (cc 0, 41, .inl c_p0_one)), (a_p0_two, .inl (cc 0, 41, .inl c_p0_two))] H → va_D A [(a_p0, .inr (7, [.int v_p0_refusal, .ref a_p0_text, .int v_p0_size, .ref a_p0_now, .ref a_p0_trial, .ref a_p0_diary, .int v_p0_acts, .ref a_p0_kept, .ref a_p0_isKept, .ref a_p0_drawn, .ref a_p0_one, .ref a_p0_two, .ref a_p0_costs, .int v_p0_nearestOne, .int v_p0_nearestBy, .int v_p0_how, .int v_p0_spot, .int v_p0_closestTwo, .int v_p0_closestBy])), (a_p0_costs, .inl (cc 0, 1681, .inl c_p0_costs_L10)), (a_p0_one, .inl (cc 0, 41, .inl c_p0_one)), (a_p0_two, .inl (cc 0, 41, .inl c_p0_two))] → va_S A s.heap H locs → lv_has ls 6 [(0, .ref a_p0), (1, .int k10_1), (2, .int k10_2), (3, .int k10_3), (4, .int x4)] → (∀ (x4 : Int32) (c_p0_costs_L10 : Nat → Int32), r9 = Sum.inl (x4, c_p0_costs_L10) → ∀ (H : Heap) (locs : List Loc) (ls : Array Slot), va_P D vwCl [(a_p0, .inr (7, [.int v_p0_refusal, .ref a_p0_text, .int v_p0_size, .ref a_p0_now, .ref a_p0_trial, .ref a_p0_diary, .int v_p0_acts, .ref a_p0_kept, .ref a_p0_isKept, .ref a_p0_drawn, .ref a_p0_one, .ref a_p0_two, .ref a_p0_costs, .int v_p0_nearestOne, .int v_p0_nearestBy, .int v_p0_how, .int v_p0_spot, .int v_p0_closestTwo, .int v_p0_closestBy])), (a_p0_costs, .inl (cc 0, 1681, .inl c_p0_costs_L10)), (a_p0_one, .inl (cc 0, 41, .inl c_p0_one)), (a_p0_two, .inl (cc 0, 41, .inl c_p0_two))] H → va_D A [(a_p0, .inr (7, [.int v_p0_refusal, .ref a_p0_text, .int v_p0_size, .ref a_p0_now, .ref a_p0_trial, .ref a_p0_diary, .int v_p0_acts, .ref a_p0_kept, .ref a_p0_isKept, .ref a_p0_drawn, .ref a_p0_one, .ref a_p0_two, .ref a_p0_costs, .int v_p0_nearestOne, .int v_p0_nearestBy, .int v_p0_how, .int v_p0_spot, .int v_p0_closestTwo, .int v_p0_closestBy])), (a_p0_costs, .inl (cc 0, 1681, .inl c_p0_costs_L10)), (a_p0_one, .inl (cc 0, 41, .inl c_p0_one)), (a_p0_two, .inl (cc 0, 41, .inl c_p0_two))] → va_S A s.heap H locs → lv_has ls 6 [(0, .ref a_p0), (1, .int k10_1), (2, .int k10_2), (3, .int k10_3), (4, .int x4)] → W p l e ({ frames := 2, cells := 0, slots := 0, locals := 41 } : Room) s m args below meth c H locs 0 0 QQ (F0 m 10 ls [])) → (∀ (c_p0_costs_E10 : Nat → Int32), r9 = Sum.inr (c_p0_costs_E10) → ∀ (H : Heap) (locs : List Loc) (ls : Array Slot), va_P D vwCl [(a_p0, .inr (7, [.int v_p0_refusal, .ref a_p0_text, .int v_p0_size, .ref a_p0_now, .ref a_p0_trial, .ref a_p0_diary, .int v_p0_acts, .ref a_p0_kept, .ref a_p0_isKept, .ref a_p0_drawn, .ref a_p0_one, .ref a_p0_two, .ref a_p0_costs, .int v_p0_nearestOne, .int v_p0_nearestBy, .int v_p0_how, .int v_p0_spot, .int v_p0_closestTwo, .int v_p0_closestBy])), (a_p0_costs, .inl (cc 0, 1681, .inl c_p0_costs_E10)), (a_p0_one, .inl (cc 0, 41, .inl c_p0_one)), (a_p0_two, .inl (cc 0, 41, .inl c_p0_two))] H → va_D A [(a_p0, .inr (7, [.int v_p0_refusal, .ref a_p0_text, .int v_p0_size, .ref a_p0_now, .ref a_p0_trial, .ref a_p0_diary, .int v_p0_acts, .ref a_p0_kept, .ref a_p0_isKept, .ref a_p0_drawn, .ref a_p0_one, .ref a_p0_two, .ref a_p0_costs, .int v_p0_nearestOne, .int v_p0_nearestBy, .int v_p0_how, .int v_p0_spot, .int v_p0_closestTwo, .int v_p0_closestBy])), (a_p0_costs, .inl (cc 0, 1681, .inl c_p0_costs_E10)), (a_p0_one, .inl (cc 0, 41, .inl c_p0_one)), (a_p0_two, .inl (cc 0, 41, .inl c_p0_two))] → va_S A s.heap H locs → lv_has ls 6 [(0, .ref a_p0), (1, .int k10_1), (2, .int k10_2), (3, .int k10_3)] → W p l e ({ frames := 2, cells := 0, slots := 0, locals := 41 } : Room) s m args below meth c H locs 0 0 QQ (F0 m 198 ls [])) → W p l e ({ frames := 2, cells := 0, slots := 0, locals := 41 } : Room) s m args below meth c H locs 0 0 QQ (F0 m 10 ls []) := by
    intro QQ k10_1 k10_2 k10_3 x4 c_p0_costs_L10 r9 h H locs ls hP hD hS hl KS KX0
    unfold fX7_distance_L10 at h
    refine lv_iload hx hb dX7_distance_10 (lv_at hl 4 rfl) ?_
    refine lv_iload_n hx hb dX7_distance_12 rfl (lv_at hl 2 rfl) ?_
    refine lv_icmp_gt (tgt := 198) hx hb dX7_distance_13 (by decide) (fun (c2 : k10_2 < x4) => ?_) (fun (c2 : ¬ k10_2 < x4) => ?_)
    · replace h := ip c2 h
      have hl := lv_sub (l' := [(0, .ref a_p0), (1, .int k10_1), (2, .int k10_2), (3, .int k10_3)]) hl [0, 1, 2, 3] rfl
      cases h
      exact KX0 c_p0_costs_L10 rfl _ _ _ hP hD hS hl
    · replace h := iq c2 h
      refine lv_iload_n hx hb dX7_distance_16 rfl (lv_at hl 3 rfl) ?_
      refine lv_if_ne (tgt := 29) hx hb dX7_distance_17 (by decide) (fun (c3 : ¬ k10_3 = 0) => ?_) (fun (c3 : k10_3 = 0) => ?_)
      · replace h := iq c3 h
        refine lv_sipush (v := (1000 : Int32)) hx hb dX7_distance_29 (by decide) ?_
        exact hJ10_32 _ k10_1 k10_2 k10_3 x4 (1000 : Int32) c_p0_costs_L10 r9 h _ _ _ hP hD hS hl KS KX0
      · replace h := ip c3 h
        refine lv_iload hx hb dX7_distance_20 (lv_at hl 4 rfl) ?_
        refine lv_if_ne (tgt := 29) hx hb dX7_distance_22 (by decide) (fun (c23 : ¬ x4 = 0) => ?_) (fun (c23 : x4 = 0) => ?_)
        · replace h := iq c23 h
          refine lv_sipush (v := (1000 : Int32)) hx hb dX7_distance_29 (by decide) ?_
          exact hJ10_32 _ k10_1 k10_2 k10_3 x4 (1000 : Int32) c_p0_costs_L10 r9 h _ _ _ hP hD hS hl KS KX0
        · replace h := ip c23 h
          refine lv_iconst (v := (0 : Int32)) hx hb dX7_distance_25 (by decide) ?_
          refine lv_goto (tgt := 32) hx hb dX7_distance_26 (by decide) ?_
          exact hJ10_32 _ k10_1 k10_2 k10_3 x4 (0 : Int32) c_p0_costs_L10 r9 h _ _ _ hP hD hS hl KS KX0
  have hL10 : ∀ (QQ : State → Prop) (n : Nat) (k10_1 : Int32) (k10_2 : Int32) (k10_3 : Int32) (x4 : Int32) (c_p0_costs_L10 : Nat → Int32) (r9 : (Nat → Int32)), loopF (fun (z : Int32 × (Nat → Int32)) => fX7_distance_L10 c_p0_one c_p0_two k10_2 k10_3 z.1 z.2) n (x4, c_p0_costs_L10) = some r9 → ∀ (H : Heap) (locs : List Loc) (ls : Array Slot), va_P D vwCl [(a_p0, .inr (7, [.int v_p0_refusal, .ref a_p0_text, .int v_p0_size, .ref a_p0_now, .ref a_p0_trial, .ref a_p0_diary, .int v_p0_acts, .ref a_p0_kept, .ref a_p0_isKept, .ref a_p0_drawn, .ref a_p0_one, .ref a_p0_two, .ref a_p0_costs, .int v_p0_nearestOne, .int v_p0_nearestBy, .int v_p0_how, .int v_p0_spot, .int v_p0_closestTwo, .int v_p0_closestBy])), (a_p0_costs, .inl (cc 0, 1681, .inl c_p0_costs_L10)), (a_p0_one, .inl (cc 0, 41, .inl c_p0_one)), (a_p0_two, .inl (cc 0, 41, .inl c_p0_two))] H → va_D A [(a_p0, .inr (7, [.int v_p0_refusal, .ref a_p0_text, .int v_p0_size, .ref a_p0_now, .ref a_p0_trial, .ref a_p0_diary, .int v_p0_acts, .ref a_p0_kept, .ref a_p0_isKept, .ref a_p0_drawn, .ref a_p0_one, .ref a_p0_two, .ref a_p0_costs, .int v_p0_nearestOne, .int v_p0_nearestBy, .int v_p0_how, .int v_p0_spot, .int v_p0_closestTwo, .int v_p0_closestBy])), (a_p0_costs, .inl (cc 0, 1681, .inl c_p0_costs_L10)), (a_p0_one, .inl (cc 0, 41, .inl c_p0_one)), (a_p0_two, .inl (cc 0, 41, .inl c_p0_two))] → va_S A s.heap H locs → lv_has ls 6 [(0, .ref a_p0), (1, .int k10_1), (2, .int k10_2), (3, .int k10_3), (4, .int x4)] → (∀ (c_p0_costs_E10 : Nat → Int32), r9 = c_p0_costs_E10 → ∀ (H : Heap) (locs : List Loc) (ls : Array Slot), va_P D vwCl [(a_p0, .inr (7, [.int v_p0_refusal, .ref a_p0_text, .int v_p0_size, .ref a_p0_now, .ref a_p0_trial, .ref a_p0_diary, .int v_p0_acts, .ref a_p0_kept, .ref a_p0_isKept, .ref a_p0_drawn, .ref a_p0_one, .ref a_p0_two, .ref a_p0_costs, .int v_p0_nearestOne, .int v_p0_nearestBy, .int v_p0_how, .int v_p0_spot, .int v_p0_closestTwo, .int v_p0_closestBy])), (a_p0_costs, .inl (cc 0, 1681, .inl c_p0_costs_E10)), (a_p0_one, .inl (cc 0, 41, .inl c_p0_one)), (a_p0_two, .inl (cc 0, 41, .inl c_p0_two))] H → va_D A [(a_p0, .inr (7, [.int v_p0_refusal, .ref a_p0_text, .int v_p0_size, .ref a_p0_now, .ref a_p0_trial, .ref a_p0_diary, .int v_p0_acts, .ref a_p0_kept, .ref a_p0_isKept, .ref a_p0_drawn, .ref a_p0_one, .ref a_p0_two, .ref a_p0_costs, .int v_p0_nearestOne, .int v_p0_nearestBy, .int v_p0_how, .int v_p0_spot, .int v_p0_closestTwo, .int v_p0_closestBy])), (a_p0_costs, .inl (cc 0, 1681, .inl c_p0_costs_E10)), (a_p0_one, .inl (cc 0, 41, .inl c_p0_one)), (a_p0_two, .inl (cc 0, 41, .inl c_p0_two))] → va_S A s.heap H locs → lv_has ls 6 [(0, .ref a_p0), (1, .int k10_1), (2, .int k10_2), (3, .int k10_3)] → W p l e ({ frames := 2, cells := 0, slots := 0, locals := 41 } : Room) s m args below meth c H locs 0 0 QQ (F0 m 198 ls [])) → W p l e ({ frames := 2, cells := 0, slots := 0, locals := 41 } : Room) s m args below meth c H locs 0 0 QQ (F0 m 10 ls []) := by
    intro QQ n
    induction n with
    | zero => intro k10_1 k10_2 k10_3 x4 c_p0_costs_L10 r9 h; exact (loopF_zero h).elim
    | succ n ih =>
      intro k10_1 k10_2 k10_3 x4 c_p0_costs_L10 r9 h H locs ls hP hD hS hl KX0
      obtain ⟨z9, hz, h⟩ := loopF_step h
      exact hB10 QQ k10_1 k10_2 k10_3 x4 c_p0_costs_L10 z9 hz H locs ls hP hD hS hl (fun x4_b c_p0_costs_L10_b q9 H9 locs9 ls9 hP9 hD9 hS9 hl9 => ih k10_1 k10_2 k10_3 x4_b c_p0_costs_L10_b r9 (by rcases h with ⟨s9, h1, h2⟩ | h1 <;> rw [h1] at q9 <;> cases q9; exact h2) H9 locs9 ls9 hP9 hD9 hS9 hl9 KX0) (fun c_p0_costs_E10 q9 => KX0 c_p0_costs_E10 (by rcases h with ⟨s9, h1, h2⟩ | h1 <;> rw [h1] at q9 <;> cases q9; rfl))
  have hB2 : ∀ (QQ : State → Prop) (k2_1 : Int32) (k2_2 : Int32) (x3 : Int32) (c_p0_costs_L2 : Nat → Int32) (r9 : (Int32 × (Nat → Int32)) ⊕ ((Nat → Int32))), fX7_distance_L2 c_p0_one c_p0_two k2_1 k2_2 x3 c_p0_costs_L2 = some r9 → ∀ (H : Heap) (locs : List Loc) (ls : Array Slot), va_P D vwCl [(a_p0, .inr (7, [.int v_p0_refusal, .ref a_p0_text, .int v_p0_size, .ref a_p0_now, .ref a_p0_trial, .ref a_p0_diary, .int v_p0_acts, .ref a_p0_kept, .ref a_p0_isKept, .ref a_p0_drawn, .ref a_p0_one, .ref a_p0_two, .ref a_p0_costs, .int v_p0_nearestOne, .int v_p0_nearestBy, .int v_p0_how, .int v_p0_spot, .int v_p0_closestTwo, .int v_p0_closestBy])), (a_p0_costs, .inl (cc 0, 1681, .inl c_p0_costs_L2)), (a_p0_one, .inl (cc 0, 41, .inl c_p0_one)), (a_p0_two, .inl (cc 0, 41, .inl c_p0_two))] H → va_D A [(a_p0, .inr (7, [.int v_p0_refusal, .ref a_p0_text, .int v_p0_size, .ref a_p0_now, .ref a_p0_trial, .ref a_p0_diary, .int v_p0_acts, .ref a_p0_kept, .ref a_p0_isKept, .ref a_p0_drawn, .ref a_p0_one, .ref a_p0_two, .ref a_p0_costs, .int v_p0_nearestOne, .int v_p0_nearestBy, .int v_p0_how, .int v_p0_spot, .int v_p0_closestTwo, .int v_p0_closestBy])), (a_p0_costs, .inl (cc 0, 1681, .inl c_p0_costs_L2)), (a_p0_one, .inl (cc 0, 41, .inl c_p0_one)), (a_p0_two, .inl (cc 0, 41, .inl c_p0_two))] → va_S A s.heap H locs → lv_has ls 6 [(0, .ref a_p0), (1, .int k2_1), (2, .int k2_2), (3, .int x3)] → (∀ (x3 : Int32) (c_p0_costs_L2 : Nat → Int32), r9 = Sum.inl (x3, c_p0_costs_L2) → ∀ (H : Heap) (locs : List Loc) (ls : Array Slot), va_P D vwCl [(a_p0, .inr (7, [.int v_p0_refusal, .ref a_p0_text, .int v_p0_size, .ref a_p0_now, .ref a_p0_trial, .ref a_p0_diary, .int v_p0_acts, .ref a_p0_kept, .ref a_p0_isKept, .ref a_p0_drawn, .ref a_p0_one, .ref a_p0_two, .ref a_p0_costs, .int v_p0_nearestOne, .int v_p0_nearestBy, .int v_p0_how, .int v_p0_spot, .int v_p0_closestTwo, .int v_p0_closestBy])), (a_p0_costs, .inl (cc 0, 1681, .inl c_p0_costs_L2)), (a_p0_one, .inl (cc 0, 41, .inl c_p0_one)), (a_p0_two, .inl (cc 0, 41, .inl c_p0_two))] H → va_D A [(a_p0, .inr (7, [.int v_p0_refusal, .ref a_p0_text, .int v_p0_size, .ref a_p0_now, .ref a_p0_trial, .ref a_p0_diary, .int v_p0_acts, .ref a_p0_kept, .ref a_p0_isKept, .ref a_p0_drawn, .ref a_p0_one, .ref a_p0_two, .ref a_p0_costs, .int v_p0_nearestOne, .int v_p0_nearestBy, .int v_p0_how, .int v_p0_spot, .int v_p0_closestTwo, .int v_p0_closestBy])), (a_p0_costs, .inl (cc 0, 1681, .inl c_p0_costs_L2)), (a_p0_one, .inl (cc 0, 41, .inl c_p0_one)), (a_p0_two, .inl (cc 0, 41, .inl c_p0_two))] → va_S A s.heap H locs → lv_has ls 6 [(0, .ref a_p0), (1, .int k2_1), (2, .int k2_2), (3, .int x3)] → W p l e ({ frames := 2, cells := 0, slots := 0, locals := 41 } : Room) s m args below meth c H locs 0 0 QQ (F0 m 2 ls [])) → (∀ (c_p0_costs_E2 : Nat → Int32), r9 = Sum.inr (c_p0_costs_E2) → ∀ (H : Heap) (locs : List Loc) (ls : Array Slot), va_P D vwCl [(a_p0, .inr (7, [.int v_p0_refusal, .ref a_p0_text, .int v_p0_size, .ref a_p0_now, .ref a_p0_trial, .ref a_p0_diary, .int v_p0_acts, .ref a_p0_kept, .ref a_p0_isKept, .ref a_p0_drawn, .ref a_p0_one, .ref a_p0_two, .ref a_p0_costs, .int v_p0_nearestOne, .int v_p0_nearestBy, .int v_p0_how, .int v_p0_spot, .int v_p0_closestTwo, .int v_p0_closestBy])), (a_p0_costs, .inl (cc 0, 1681, .inl c_p0_costs_E2)), (a_p0_one, .inl (cc 0, 41, .inl c_p0_one)), (a_p0_two, .inl (cc 0, 41, .inl c_p0_two))] H → va_D A [(a_p0, .inr (7, [.int v_p0_refusal, .ref a_p0_text, .int v_p0_size, .ref a_p0_now, .ref a_p0_trial, .ref a_p0_diary, .int v_p0_acts, .ref a_p0_kept, .ref a_p0_isKept, .ref a_p0_drawn, .ref a_p0_one, .ref a_p0_two, .ref a_p0_costs, .int v_p0_nearestOne, .int v_p0_nearestBy, .int v_p0_how, .int v_p0_spot, .int v_p0_closestTwo, .int v_p0_closestBy])), (a_p0_costs, .inl (cc 0, 1681, .inl c_p0_costs_E2)), (a_p0_one, .inl (cc 0, 41, .inl c_p0_one)), (a_p0_two, .inl (cc 0, 41, .inl c_p0_two))] → va_S A s.heap H locs → lv_has ls 6 [(0, .ref a_p0), (1, .int k2_1), (2, .int k2_2)] → W p l e ({ frames := 2, cells := 0, slots := 0, locals := 41 } : Room) s m args below meth c H locs 0 0 QQ (F0 m 204 ls [])) → W p l e ({ frames := 2, cells := 0, slots := 0, locals := 41 } : Room) s m args below meth c H locs 0 0 QQ (F0 m 2 ls []) := by
    intro QQ k2_1 k2_2 x3 c_p0_costs_L2 r9 h H locs ls hP hD hS hl KS KX0
    unfold fX7_distance_L2 at h
    refine lv_iload_n hx hb dX7_distance_2 rfl (lv_at hl 3 rfl) ?_
    refine lv_iload_n hx hb dX7_distance_3 rfl (lv_at hl 1 rfl) ?_
    refine lv_icmp_gt (tgt := 204) hx hb dX7_distance_4 (by decide) (fun (c1 : k2_1 < x3) => ?_) (fun (c1 : ¬ k2_1 < x3) => ?_)
    · replace h := ip c1 h
      have hl := lv_sub (l' := [(0, .ref a_p0), (1, .int k2_1), (2, .int k2_2)]) hl [0, 1, 2] rfl
      cases h
      exact KX0 c_p0_costs_L2 rfl _ _ _ hP hD hS hl
    · replace h := iq c1 h
      refine lv_iconst (v := (0 : Int32)) hx hb dX7_distance_7 (by decide) ?_
      refine lv_istore (x := (0 : Int32)) (lv' := [(4, .int (0 : Int32)), (0, .ref a_p0), (1, .int k2_1), (2, .int k2_2), (3, .int x3)]) hx hb dX7_distance_8 hl (by decide) rfl (fun ls hl => ?_)
      have hl := lv_sub (l' := [(0, .ref a_p0), (1, .int k2_1), (2, .int k2_2), (3, .int x3), (4, .int (0 : Int32))]) hl [1, 2, 3, 4, 0] rfl
      obtain ⟨c_p0_costs_24, hq9, h⟩ := b1_some h
      refine hL10 _ FUEL k2_1 k2_2 x3 (0 : Int32) c_p0_costs_L2 c_p0_costs_24 hq9 _ _ _ hP hD hS hl (fun c_p0_costs_24z q9 H locs ls hP hD hS hl => ?_)
      cases q9
      refine lv_iinc (v := x3 + (1 : Int32)) (lv' := [(3, .int (x3 + (1 : Int32))), (0, .ref a_p0), (1, .int k2_1), (2, .int k2_2)]) hx hb dX7_distance_198 hl (k := 3) rfl (by first | rfl | decide) (by decide) rfl (fun ls hl => ?_)
      refine lv_goto (tgt := 2) hx hb dX7_distance_201 (by decide) ?_
      have hl := lv_sub (l' := [(0, .ref a_p0), (1, .int k2_1), (2, .int k2_2), (3, .int (x3 + (1 : Int32)))]) hl [1, 2, 3, 0] rfl
      cases h
      exact KS (x3 + (1 : Int32)) c_p0_costs_24 rfl _ _ _ hP hD hS hl
  have hL2 : ∀ (QQ : State → Prop) (n : Nat) (k2_1 : Int32) (k2_2 : Int32) (x3 : Int32) (c_p0_costs_L2 : Nat → Int32) (r9 : (Nat → Int32)), loopF (fun (z : Int32 × (Nat → Int32)) => fX7_distance_L2 c_p0_one c_p0_two k2_1 k2_2 z.1 z.2) n (x3, c_p0_costs_L2) = some r9 → ∀ (H : Heap) (locs : List Loc) (ls : Array Slot), va_P D vwCl [(a_p0, .inr (7, [.int v_p0_refusal, .ref a_p0_text, .int v_p0_size, .ref a_p0_now, .ref a_p0_trial, .ref a_p0_diary, .int v_p0_acts, .ref a_p0_kept, .ref a_p0_isKept, .ref a_p0_drawn, .ref a_p0_one, .ref a_p0_two, .ref a_p0_costs, .int v_p0_nearestOne, .int v_p0_nearestBy, .int v_p0_how, .int v_p0_spot, .int v_p0_closestTwo, .int v_p0_closestBy])), (a_p0_costs, .inl (cc 0, 1681, .inl c_p0_costs_L2)), (a_p0_one, .inl (cc 0, 41, .inl c_p0_one)), (a_p0_two, .inl (cc 0, 41, .inl c_p0_two))] H → va_D A [(a_p0, .inr (7, [.int v_p0_refusal, .ref a_p0_text, .int v_p0_size, .ref a_p0_now, .ref a_p0_trial, .ref a_p0_diary, .int v_p0_acts, .ref a_p0_kept, .ref a_p0_isKept, .ref a_p0_drawn, .ref a_p0_one, .ref a_p0_two, .ref a_p0_costs, .int v_p0_nearestOne, .int v_p0_nearestBy, .int v_p0_how, .int v_p0_spot, .int v_p0_closestTwo, .int v_p0_closestBy])), (a_p0_costs, .inl (cc 0, 1681, .inl c_p0_costs_L2)), (a_p0_one, .inl (cc 0, 41, .inl c_p0_one)), (a_p0_two, .inl (cc 0, 41, .inl c_p0_two))] → va_S A s.heap H locs → lv_has ls 6 [(0, .ref a_p0), (1, .int k2_1), (2, .int k2_2), (3, .int x3)] → (∀ (c_p0_costs_E2 : Nat → Int32), r9 = c_p0_costs_E2 → ∀ (H : Heap) (locs : List Loc) (ls : Array Slot), va_P D vwCl [(a_p0, .inr (7, [.int v_p0_refusal, .ref a_p0_text, .int v_p0_size, .ref a_p0_now, .ref a_p0_trial, .ref a_p0_diary, .int v_p0_acts, .ref a_p0_kept, .ref a_p0_isKept, .ref a_p0_drawn, .ref a_p0_one, .ref a_p0_two, .ref a_p0_costs, .int v_p0_nearestOne, .int v_p0_nearestBy, .int v_p0_how, .int v_p0_spot, .int v_p0_closestTwo, .int v_p0_closestBy])), (a_p0_costs, .inl (cc 0, 1681, .inl c_p0_costs_E2)), (a_p0_one, .inl (cc 0, 41, .inl c_p0_one)), (a_p0_two, .inl (cc 0, 41, .inl c_p0_two))] H → va_D A [(a_p0, .inr (7, [.int v_p0_refusal, .ref a_p0_text, .int v_p0_size, .ref a_p0_now, .ref a_p0_trial, .ref a_p0_diary, .int v_p0_acts, .ref a_p0_kept, .ref a_p0_isKept, .ref a_p0_drawn, .ref a_p0_one, .ref a_p0_two, .ref a_p0_costs, .int v_p0_nearestOne, .int v_p0_nearestBy, .int v_p0_how, .int v_p0_spot, .int v_p0_closestTwo, .int v_p0_closestBy])), (a_p0_costs, .inl (cc 0, 1681, .inl c_p0_costs_E2)), (a_p0_one, .inl (cc 0, 41, .inl c_p0_one)), (a_p0_two, .inl (cc 0, 41, .inl c_p0_two))] → va_S A s.heap H locs → lv_has ls 6 [(0, .ref a_p0), (1, .int k2_1), (2, .int k2_2)] → W p l e ({ frames := 2, cells := 0, slots := 0, locals := 41 } : Room) s m args below meth c H locs 0 0 QQ (F0 m 204 ls [])) → W p l e ({ frames := 2, cells := 0, slots := 0, locals := 41 } : Room) s m args below meth c H locs 0 0 QQ (F0 m 2 ls []) := by
    intro QQ n
    induction n with
    | zero => intro k2_1 k2_2 x3 c_p0_costs_L2 r9 h; exact (loopF_zero h).elim
    | succ n ih =>
      intro k2_1 k2_2 x3 c_p0_costs_L2 r9 h H locs ls hP hD hS hl KX0
      obtain ⟨z9, hz, h⟩ := loopF_step h
      exact hB2 QQ k2_1 k2_2 x3 c_p0_costs_L2 z9 hz H locs ls hP hD hS hl (fun x3_b c_p0_costs_L2_b q9 H9 locs9 ls9 hP9 hD9 hS9 hl9 => ih k2_1 k2_2 x3_b c_p0_costs_L2_b r9 (by rcases h with ⟨s9, h1, h2⟩ | h1 <;> rw [h1] at q9 <;> cases q9; exact h2) H9 locs9 ls9 hP9 hD9 hS9 hl9 KX0) (fun c_p0_costs_E2 q9 => KX0 c_p0_costs_E2 (by rcases h with ⟨s9, h1, h2⟩ | h1 <;> rw [h1] at q9 <;> cases q9; rfl))
  refine lv_iconst (v := (0 : Int32)) hx hb dX7_distance_0 (by decide) ?_
  refine lv_istore_n (x := (0 : Int32)) (lv' := [(3, .int (0 : Int32)), (0, .ref a_p0), (1, .int p1), (2, .int p2)]) hx hb dX7_distance_1 rfl hl (by decide) rfl (fun ls hl => ?_)
  have hl := lv_sub (l' := [(0, .ref a_p0), (1, .int p1), (2, .int p2), (3, .int (0 : Int32))]) hl [1, 2, 3, 0] rfl
  obtain ⟨c_p0_costs_25, hq9, h⟩ := b1_some h
  refine hL2 _ FUEL p1 p2 (0 : Int32) c_p0_costs c_p0_costs_25 hq9 _ _ _ hP hD hS hl (fun c_p0_costs_25z q9 H locs ls hP hD hS hl => ?_)
  cases q9
  refine lv_aload_n hx hb dX7_distance_204 rfl (lv_at hl 0 rfl) ?_
  refine va_get (D := D) (ci := 7) (v := .ref a_p0_costs) (C := RX7) (T := TX7) (N := 19) hx hb hts inX7_distance_X7 hown hK hP 0 rfl rfl 12 (by decide) k1 (fun _ h9 => h9) rfl dX7_distance_205 ?_
  refine lv_bipush (v := (41 : Int32)) hx hb dX7_distance_208 (by decide) ?_
  refine lv_iload_n hx hb dX7_distance_210 rfl (lv_at hl 1 rfl) ?_
  refine lv_imul hx hb dX7_distance_211 ?_
  refine lv_iload_n hx hb dX7_distance_212 rfl (lv_at hl 2 rfl) ?_
  refine lv_iadd hx hb dX7_distance_213 ?_
  obtain ⟨g26, h⟩ := gd h
  refine va_iald hx hb hK hP 1 0 rfl rfl g26 dX7_distance_214 ?_
  cases h
  exact xendi (ret := none) F hsz hAe hK hP hD hS (fun _ => 0) rfl rfl (Nat.zero_le _) (Nat.zero_le _) dX7_distance_215
set_option maxHeartbeats 4000000 in
set_option maxRecDepth 100000 in
theorem kX7_copyState (l : Launch) (D : va_G) (cc : Nat → ClassId) (a_p0 : Nat) (a_p2 : Nat) (n_p0 : Nat) (n_p2 : Nat) (c_p0 : Nat → Int32) (c_p2 : Nat → Int32) (p1 : Int32) (p3 : Int32) (c_p2_o : Nat → Int32) (h : fX7_copyState p1 p3 n_p0 n_p2 c_p0 c_p2 = some c_p2_o) : xMv l yX7_copyState wsX7_copyState ({ frames := 0, cells := 0, slots := 0, locals := 0 } : Room) D cc [.ref a_p0, .int p1, .ref a_p2, .int p3] [(a_p0, .inl (cc 0, n_p0, .inl c_p0)), (a_p2, .inl (cc 0, n_p2, .inl c_p2))] (fun _ => [(a_p0, .inl (cc 0, n_p0, .inl c_p0)), (a_p2, .inl (cc 0, n_p2, .inl c_p2_o))]) 0 0 := by
  intro sz
  refine xstart (bc := cX7_copyState) (maxL := 5) (ret := none) (by decide) rfl (Nat.le_of_ble_eq_true rfl) ?_
  intro p e s m args below meth c A hargs hsz hAe F hK hN hA hmn hP hD hS ls hl
  have hx := F.1.1
  have hb := F.1.2.1
  have hml := F.1.2.2.1
  have hown := F.1.2.2.2.1
  have hts := F.1.2.2.2.2
  have hl : lv_has ls 5 [(0, .ref a_p0), (1, .int p1), (2, .ref a_p2), (3, .int p3)] := hl
  unfold fX7_copyState at h
  have hB3 : ∀ (QQ : State → Prop) (k3_1 : Int32) (k3_3 : Int32) (x4 : Int32) (c_p2_L3 : Nat → Int32) (r9 : (Int32 × (Nat → Int32)) ⊕ ((Nat → Int32))), fX7_copyState_L3 n_p0 n_p2 c_p0 k3_1 k3_3 x4 c_p2_L3 = some r9 → ∀ (H : Heap) (locs : List Loc) (ls : Array Slot), va_P D vwCl [(a_p0, .inl (cc 0, n_p0, .inl c_p0)), (a_p2, .inl (cc 0, n_p2, .inl c_p2_L3))] H → va_D A [(a_p0, .inl (cc 0, n_p0, .inl c_p0)), (a_p2, .inl (cc 0, n_p2, .inl c_p2_L3))] → va_S A s.heap H locs → lv_has ls 5 [(0, .ref a_p0), (1, .int k3_1), (2, .ref a_p2), (3, .int k3_3), (4, .int x4)] → (∀ (x4 : Int32) (c_p2_L3 : Nat → Int32), r9 = Sum.inl (x4, c_p2_L3) → ∀ (H : Heap) (locs : List Loc) (ls : Array Slot), va_P D vwCl [(a_p0, .inl (cc 0, n_p0, .inl c_p0)), (a_p2, .inl (cc 0, n_p2, .inl c_p2_L3))] H → va_D A [(a_p0, .inl (cc 0, n_p0, .inl c_p0)), (a_p2, .inl (cc 0, n_p2, .inl c_p2_L3))] → va_S A s.heap H locs → lv_has ls 5 [(0, .ref a_p0), (1, .int k3_1), (2, .ref a_p2), (3, .int k3_3), (4, .int x4)] → W p l e ({ frames := 0, cells := 0, slots := 0, locals := 0 } : Room) s m args below meth c H locs 0 0 QQ (F0 m 3 ls [])) → (∀ (c_p2_E3 : Nat → Int32), r9 = Sum.inr (c_p2_E3) → ∀ (H : Heap) (locs : List Loc) (ls : Array Slot), va_P D vwCl [(a_p0, .inl (cc 0, n_p0, .inl c_p0)), (a_p2, .inl (cc 0, n_p2, .inl c_p2_E3))] H → va_D A [(a_p0, .inl (cc 0, n_p0, .inl c_p0)), (a_p2, .inl (cc 0, n_p2, .inl c_p2_E3))] → va_S A s.heap H locs → lv_has ls 5 [] → W p l e ({ frames := 0, cells := 0, slots := 0, locals := 0 } : Room) s m args below meth c H locs 0 0 QQ (F0 m 29 ls [])) → W p l e ({ frames := 0, cells := 0, slots := 0, locals := 0 } : Room) s m args below meth c H locs 0 0 QQ (F0 m 3 ls []) := by
    intro QQ k3_1 k3_3 x4 c_p2_L3 r9 h H locs ls hP hD hS hl KS KX0
    unfold fX7_copyState_L3 at h
    refine lv_iload hx hb dX7_copyState_3 (lv_at hl 4 rfl) ?_
    refine lv_sipush (v := (1343 : Int32)) hx hb dX7_copyState_5 (by decide) ?_
    refine lv_icmp_ge (tgt := 29) hx hb dX7_copyState_8 (by decide) (fun (c1 : (1343 : Int32) ≤ x4) => ?_) (fun (c1 : ¬ (1343 : Int32) ≤ x4) => ?_)
    · replace h := ip c1 h
      have hl := lv_sub (l' := []) hl [] rfl
      cases h
      exact KX0 c_p2_L3 rfl _ _ _ hP hD hS hl
    · replace h := iq c1 h
      refine lv_aload_n hx hb dX7_copyState_11 rfl (lv_at hl 2 rfl) ?_
      refine lv_iload_n hx hb dX7_copyState_12 rfl (lv_at hl 3 rfl) ?_
      refine lv_iload hx hb dX7_copyState_13 (lv_at hl 4 rfl) ?_
      refine lv_iadd hx hb dX7_copyState_15 ?_
      refine lv_aload_n hx hb dX7_copyState_16 rfl (lv_at hl 0 rfl) ?_
      refine lv_iload_n hx hb dX7_copyState_17 rfl (lv_at hl 1 rfl) ?_
      refine lv_iload hx hb dX7_copyState_18 (lv_at hl 4 rfl) ?_
      refine lv_iadd hx hb dX7_copyState_20 ?_
      obtain ⟨g2, h⟩ := gd h
      refine va_iald hx hb hK hP 0 0 rfl rfl g2 dX7_copyState_21 ?_
      obtain ⟨g3, h⟩ := gd h
      refine va_iast hx hb hK hP hD hS 1 0 rfl rfl g3 dX7_copyState_22 (fun H locs hP hD hS => ?_)
      have hP : va_P D vwCl [(a_p0, .inl (cc 0, n_p0, .inl c_p0)), (a_p2, .inl (cc 0, n_p2, .inl (upd c_p2_L3 (k3_3 + x4).toNatClampNeg (c_p0 (k3_1 + x4).toNatClampNeg))))] H := hP
      have hD : va_D A [(a_p0, .inl (cc 0, n_p0, .inl c_p0)), (a_p2, .inl (cc 0, n_p2, .inl (upd c_p2_L3 (k3_3 + x4).toNatClampNeg (c_p0 (k3_1 + x4).toNatClampNeg))))] := hD
      obtain ⟨c_p2_4, q4, h⟩ := b1_some h
      replace q4 := Option.some.inj q4
      rw [q4] at hP hD
      refine lv_iinc (v := x4 + (1 : Int32)) (lv' := [(4, .int (x4 + (1 : Int32))), (0, .ref a_p0), (1, .int k3_1), (2, .ref a_p2), (3, .int k3_3)]) hx hb dX7_copyState_23 hl (k := 4) rfl (by first | rfl | decide) (by decide) rfl (fun ls hl => ?_)
      refine lv_goto (tgt := 3) hx hb dX7_copyState_26 (by decide) ?_
      have hl := lv_sub (l' := [(0, .ref a_p0), (1, .int k3_1), (2, .ref a_p2), (3, .int k3_3), (4, .int (x4 + (1 : Int32)))]) hl [1, 2, 3, 4, 0] rfl
      cases h
      exact KS (x4 + (1 : Int32)) c_p2_4 rfl _ _ _ hP hD hS hl
  have hL3 : ∀ (QQ : State → Prop) (n : Nat) (k3_1 : Int32) (k3_3 : Int32) (x4 : Int32) (c_p2_L3 : Nat → Int32) (r9 : (Nat → Int32)), loopF (fun (z : Int32 × (Nat → Int32)) => fX7_copyState_L3 n_p0 n_p2 c_p0 k3_1 k3_3 z.1 z.2) n (x4, c_p2_L3) = some r9 → ∀ (H : Heap) (locs : List Loc) (ls : Array Slot), va_P D vwCl [(a_p0, .inl (cc 0, n_p0, .inl c_p0)), (a_p2, .inl (cc 0, n_p2, .inl c_p2_L3))] H → va_D A [(a_p0, .inl (cc 0, n_p0, .inl c_p0)), (a_p2, .inl (cc 0, n_p2, .inl c_p2_L3))] → va_S A s.heap H locs → lv_has ls 5 [(0, .ref a_p0), (1, .int k3_1), (2, .ref a_p2), (3, .int k3_3), (4, .int x4)] → (∀ (c_p2_E3 : Nat → Int32), r9 = c_p2_E3 → ∀ (H : Heap) (locs : List Loc) (ls : Array Slot), va_P D vwCl [(a_p0, .inl (cc 0, n_p0, .inl c_p0)), (a_p2, .inl (cc 0, n_p2, .inl c_p2_E3))] H → va_D A [(a_p0, .inl (cc 0, n_p0, .inl c_p0)), (a_p2, .inl (cc 0, n_p2, .inl c_p2_E3))] → va_S A s.heap H locs → lv_has ls 5 [] → W p l e ({ frames := 0, cells := 0, slots := 0, locals := 0 } : Room) s m args below meth c H locs 0 0 QQ (F0 m 29 ls [])) → W p l e ({ frames := 0, cells := 0, slots := 0, locals := 0 } : Room) s m args below meth c H locs 0 0 QQ (F0 m 3 ls []) := by
    intro QQ n
    induction n with
    | zero => intro k3_1 k3_3 x4 c_p2_L3 r9 h; exact (loopF_zero h).elim
    | succ n ih =>
      intro k3_1 k3_3 x4 c_p2_L3 r9 h H locs ls hP hD hS hl KX0
      obtain ⟨z9, hz, h⟩ := loopF_step h
      exact hB3 QQ k3_1 k3_3 x4 c_p2_L3 z9 hz H locs ls hP hD hS hl (fun x4_b c_p2_L3_b q9 H9 locs9 ls9 hP9 hD9 hS9 hl9 => ih k3_1 k3_3 x4_b c_p2_L3_b r9 (by rcases h with ⟨s9, h1, h2⟩ | h1 <;> rw [h1] at q9 <;> cases q9; exact h2) H9 locs9 ls9 hP9 hD9 hS9 hl9 KX0) (fun c_p2_E3 q9 => KX0 c_p2_E3 (by rcases h with ⟨s9, h1, h2⟩ | h1 <;> rw [h1] at q9 <;> cases q9; rfl))
  refine lv_iconst (v := (0 : Int32)) hx hb dX7_copyState_0 (by decide) ?_
  refine lv_istore (x := (0 : Int32)) (lv' := [(4, .int (0 : Int32)), (0, .ref a_p0), (1, .int p1), (2, .ref a_p2), (3, .int p3)]) hx hb dX7_copyState_1 hl (by decide) rfl (fun ls hl => ?_)
  have hl := lv_sub (l' := [(0, .ref a_p0), (1, .int p1), (2, .ref a_p2), (3, .int p3), (4, .int (0 : Int32))]) hl [1, 2, 3, 4, 0] rfl
  obtain ⟨c_p2_5, hq9, h⟩ := b1_some h
  refine hL3 _ FUEL p1 p3 (0 : Int32) c_p2 c_p2_5 hq9 _ _ _ hP hD hS hl (fun c_p2_5z q9 H locs ls hP hD hS hl => ?_)
  cases q9
  cases h
  exact xendv F hsz hAe hK hP hD hS (fun _ => 0) rfl (Nat.zero_le _) (Nat.zero_le _) dX7_copyState_29
theorem inX7_distanceTo_X7 : ∀ w ∈ wsX70, w ∈ wsX7_distanceTo := by decide +kernel
set_option maxHeartbeats 4000000 in
set_option maxRecDepth 100000 in
theorem kX7_distanceTo_s (l : Launch) (D : va_G) (cc : Nat → ClassId) (a_p0 : Nat) (a_p0_text : Nat) (a_p0_now : Nat) (a_p0_trial : Nat) (a_p0_diary : Nat) (a_p0_kept : Nat) (a_p0_isKept : Nat) (a_p0_drawn : Nat) (a_p0_one : Nat) (a_p0_two : Nat) (a_p0_costs : Nat) (a_p1 : Nat) (n_p1 : Nat) (v_p0_refusal : Int32) (v_p0_size : Int32) (v_p0_acts : Int32) (v_p0_nearestOne : Int32) (v_p0_nearestBy : Int32) (v_p0_how : Int32) (v_p0_spot : Int32) (v_p0_closestTwo : Int32) (v_p0_closestBy : Int32) (c_p1 : Nat → Int32) (c_p0_one : Nat → Int32) (c_p0_two : Nat → Int32) (c_p0_costs : Nat → Int32) (p2 : Int32) (p4 : Int32) (p5 : Int32) (r0 : Int32) (c_p0_one_o : Nat → Int32) (c_p0_two_o : Nat → Int32) (c_p0_costs_o : Nat → Int32) (h : fX7_distanceTo_s p2 p4 p5 n_p1 c_p1 c_p0_one c_p0_two c_p0_costs = some (r0, c_p0_one_o, c_p0_two_o, c_p0_costs_o)) : xMi l yX7_distanceTo wsX7_distanceTo ({ frames := 3, cells := 0, slots := 0, locals := 82 } : Room) D cc [.ref a_p0, .ref a_p1, .int p2, .ref a_p1, .int p4, .int p5] [(a_p0, .inr (7, [.int v_p0_refusal, .ref a_p0_text, .int v_p0_size, .ref a_p0_now, .ref a_p0_trial, .ref a_p0_diary, .int v_p0_acts, .ref a_p0_kept, .ref a_p0_isKept, .ref a_p0_drawn, .ref a_p0_one, .ref a_p0_two, .ref a_p0_costs, .int v_p0_nearestOne, .int v_p0_nearestBy, .int v_p0_how, .int v_p0_spot, .int v_p0_closestTwo, .int v_p0_closestBy])), (a_p1, .inl (cc 0, n_p1, .inl c_p1)), (a_p0_one, .inl (cc 0, 41, .inl c_p0_one)), (a_p0_two, .inl (cc 0, 41, .inl c_p0_two)), (a_p0_costs, .inl (cc 0, 1681, .inl c_p0_costs))] r0 (fun _ => [(a_p0, .inr (7, [.int v_p0_refusal, .ref a_p0_text, .int v_p0_size, .ref a_p0_now, .ref a_p0_trial, .ref a_p0_diary, .int v_p0_acts, .ref a_p0_kept, .ref a_p0_isKept, .ref a_p0_drawn, .ref a_p0_one, .ref a_p0_two, .ref a_p0_costs, .int v_p0_nearestOne, .int v_p0_nearestBy, .int v_p0_how, .int v_p0_spot, .int v_p0_closestTwo, .int v_p0_closestBy])), (a_p1, .inl (cc 0, n_p1, .inl c_p1)), (a_p0_one, .inl (cc 0, 41, .inl c_p0_one_o)), (a_p0_two, .inl (cc 0, 41, .inl c_p0_two_o)), (a_p0_costs, .inl (cc 0, 1681, .inl c_p0_costs_o))]) 0 0 := by
  intro sz
  refine xstart (bc := cX7_distanceTo) (maxL := 7) (ret := (some .int)) (by decide) rfl (Nat.le_of_ble_eq_true rfl) ?_
  intro p e s m args below meth c A hargs hsz hAe F hK hN hA hmn hP hD hS ls hl
  have hx := F.1.1
  have hb := F.1.2.1
  have hml := F.1.2.2.1
  have hown := F.1.2.2.2.1
  have hts := F.1.2.2.2.2
  have hl : lv_has ls 7 [(0, .ref a_p0), (1, .ref a_p1), (2, .int p2), (3, .ref a_p1), (4, .int p4), (5, .int p5)] := hl
  have k1 := hts (.fieldLink RX7 32 "RuledStrokesModel" "one" "[I") (by decide +kernel)
  have k2 := hts (.fieldLink RX7 35 "RuledStrokesModel" "two" "[I") (by decide +kernel)
  unfold fX7_distanceTo_s at h
  refine lv_aload_n hx hb dX7_distanceTo_0 rfl (lv_at hl 1 rfl) ?_
  refine lv_iload_n hx hb dX7_distanceTo_1 rfl (lv_at hl 2 rfl) ?_
  refine lv_iload hx hb dX7_distanceTo_2 (lv_at hl 5 rfl) ?_
  refine lv_aload_n hx hb dX7_distanceTo_4 rfl (lv_at hl 0 rfl) ?_
  refine va_get (D := D) (ci := 7) (v := .ref a_p0_one) (C := RX7) (T := TX7) (N := 19) hx hb hts inX7_distanceTo_X7 hown hK hP 0 rfl rfl 10 (by decide) k1 (fun _ h9 => h9) rfl dX7_distanceTo_5 ?_
  obtain ⟨r_1, c_p0_one_1, hc1, h⟩ := b2_some h
  refine xcalli (wr := [(a_p0, .inr (7, [.int v_p0_refusal, .ref a_p0_text, .int v_p0_size, .ref a_p0_now, .ref a_p0_trial, .ref a_p0_diary, .int v_p0_acts, .ref a_p0_kept, .ref a_p0_isKept, .ref a_p0_drawn, .ref a_p0_one, .ref a_p0_two, .ref a_p0_costs, .int v_p0_nearestOne, .int v_p0_nearestBy, .int v_p0_how, .int v_p0_spot, .int v_p0_closestTwo, .int v_p0_closestBy])), (a_p0_two, .inl (cc 0, 41, .inl c_p0_two)), (a_p0_costs, .inl (cc 0, 1681, .inl c_p0_costs))]) [1, 2] [0, 3, 4] (xrunS (As := [.ref a_p1, .int p2, .int p5, .ref a_p0_one]) (rest := []) F ((kX7_signature l D cc (a_p0 := a_p1) (a_p3 := a_p0_one) (n_p0 := n_p1) (n_p3 := 41) (c_p0 := c_p1) (c_p3 := c_p0_one) (p1 := p2) (p2 := p5) (r0 := r_1) (c_p3_o := c_p0_one_1) (h := hc1)) _) (cwS 4 hts gX7_distanceTo_X7_signature rfl rfl rfl (by decide +kernel) ⟨Nat.le_of_ble_eq_true rfl, Nat.le_of_ble_eq_true rfl⟩) hK hN hP hD [1, 2] rfl (by decide) rfl hl rfl (Nat.le_of_ble_eq_true rfl) dX7_distanceTo_8 ⟨Nat.zero_le _, Nat.zero_le _⟩) hP hD hS hA rfl rfl (by decide) (by decide) (fun _ H locs hP hD hS => ?_)
  have hP : va_P D vwCl [(a_p0, .inr (7, [.int v_p0_refusal, .ref a_p0_text, .int v_p0_size, .ref a_p0_now, .ref a_p0_trial, .ref a_p0_diary, .int v_p0_acts, .ref a_p0_kept, .ref a_p0_isKept, .ref a_p0_drawn, .ref a_p0_one, .ref a_p0_two, .ref a_p0_costs, .int v_p0_nearestOne, .int v_p0_nearestBy, .int v_p0_how, .int v_p0_spot, .int v_p0_closestTwo, .int v_p0_closestBy])), (a_p0_two, .inl (cc 0, 41, .inl c_p0_two)), (a_p0_costs, .inl (cc 0, 1681, .inl c_p0_costs)), (a_p1, .inl (cc 0, n_p1, .inl c_p1)), (a_p0_one, .inl (cc 0, 41, .inl c_p0_one_1))] H := hP
  have hD : va_D A [(a_p0, .inr (7, [.int v_p0_refusal, .ref a_p0_text, .int v_p0_size, .ref a_p0_now, .ref a_p0_trial, .ref a_p0_diary, .int v_p0_acts, .ref a_p0_kept, .ref a_p0_isKept, .ref a_p0_drawn, .ref a_p0_one, .ref a_p0_two, .ref a_p0_costs, .int v_p0_nearestOne, .int v_p0_nearestBy, .int v_p0_how, .int v_p0_spot, .int v_p0_closestTwo, .int v_p0_closestBy])), (a_p0_two, .inl (cc 0, 41, .inl c_p0_two)), (a_p0_costs, .inl (cc 0, 1681, .inl c_p0_costs)), (a_p1, .inl (cc 0, n_p1, .inl c_p1)), (a_p0_one, .inl (cc 0, 41, .inl c_p0_one_1))] := hD
  refine lv_istore (x := r_1) (lv' := [(6, .int r_1), (0, .ref a_p0), (1, .ref a_p1), (2, .int p2), (3, .ref a_p1), (4, .int p4), (5, .int p5)]) hx hb dX7_distanceTo_11 hl (by decide) rfl (fun ls hl => ?_)
  refine lv_aload_n hx hb dX7_distanceTo_13 rfl (lv_at hl 1 rfl) ?_
  refine lv_iload hx hb dX7_distanceTo_14 (lv_at hl 0 rfl) ?_
  refine lv_aload_n hx hb dX7_distanceTo_16 rfl (lv_at hl 4 rfl) ?_
  refine lv_iload hx hb dX7_distanceTo_17 (lv_at hl 5 rfl) ?_
  refine xcalli (wr := [(a_p0, .inr (7, [.int v_p0_refusal, .ref a_p0_text, .int v_p0_size, .ref a_p0_now, .ref a_p0_trial, .ref a_p0_diary, .int v_p0_acts, .ref a_p0_kept, .ref a_p0_isKept, .ref a_p0_drawn, .ref a_p0_one, .ref a_p0_two, .ref a_p0_costs, .int v_p0_nearestOne, .int v_p0_nearestBy, .int v_p0_how, .int v_p0_spot, .int v_p0_closestTwo, .int v_p0_closestBy])), (a_p0_two, .inl (cc 0, 41, .inl c_p0_two)), (a_p0_costs, .inl (cc 0, 1681, .inl c_p0_costs)), (a_p1, .inl (cc 0, n_p1, .inl c_p1)), (a_p0_one, .inl (cc 0, 41, .inl c_p0_one_1))]) [] [0, 1, 2, 3, 4] (xrunS (As := [.int p4]) (rest := [.ref a_p1, .int r_1, .ref a_p0]) F ((kX7_at l D cc (p0 := p4) (r0 := (fX7_at p4)) (h := rfl)) _) (cwS 1 hts gX7_distanceTo_X7_at rfl rfl rfl (by decide +kernel) ⟨Nat.le_of_ble_eq_true rfl, Nat.le_of_ble_eq_true rfl⟩) hK hN hP hD [] rfl (by decide) rfl hl rfl (Nat.le_of_ble_eq_true rfl) dX7_distanceTo_19 ⟨Nat.zero_le _, Nat.zero_le _⟩) hP hD hS hA rfl rfl (by decide) (by decide) (fun _ H locs hP hD hS => ?_)
  have hP : va_P D vwCl [(a_p0, .inr (7, [.int v_p0_refusal, .ref a_p0_text, .int v_p0_size, .ref a_p0_now, .ref a_p0_trial, .ref a_p0_diary, .int v_p0_acts, .ref a_p0_kept, .ref a_p0_isKept, .ref a_p0_drawn, .ref a_p0_one, .ref a_p0_two, .ref a_p0_costs, .int v_p0_nearestOne, .int v_p0_nearestBy, .int v_p0_how, .int v_p0_spot, .int v_p0_closestTwo, .int v_p0_closestBy])), (a_p0_two, .inl (cc 0, 41, .inl c_p0_two)), (a_p0_costs, .inl (cc 0, 1681, .inl c_p0_costs)), (a_p1, .inl (cc 0, n_p1, .inl c_p1)), (a_p0_one, .inl (cc 0, 41, .inl c_p0_one_1))] H := hP
  have hD : va_D A [(a_p0, .inr (7, [.int v_p0_refusal, .ref a_p0_text, .int v_p0_size, .ref a_p0_now, .ref a_p0_trial, .ref a_p0_diary, .int v_p0_acts, .ref a_p0_kept, .ref a_p0_isKept, .ref a_p0_drawn, .ref a_p0_one, .ref a_p0_two, .ref a_p0_costs, .int v_p0_nearestOne, .int v_p0_nearestBy, .int v_p0_how, .int v_p0_spot, .int v_p0_closestTwo, .int v_p0_closestBy])), (a_p0_two, .inl (cc 0, 41, .inl c_p0_two)), (a_p0_costs, .inl (cc 0, 1681, .inl c_p0_costs)), (a_p1, .inl (cc 0, n_p1, .inl c_p1)), (a_p0_one, .inl (cc 0, 41, .inl c_p0_one_1))] := hD
  refine lv_iload hx hb dX7_distanceTo_22 (lv_at hl 6 rfl) ?_
  refine lv_aload_n hx hb dX7_distanceTo_24 rfl (lv_at hl 1 rfl) ?_
  refine va_get (D := D) (ci := 7) (v := .ref a_p0_two) (C := RX7) (T := TX7) (N := 19) hx hb hts inX7_distanceTo_X7 hown hK hP 0 rfl rfl 11 (by decide) k2 (fun _ h9 => h9) rfl dX7_distanceTo_25 ?_
  obtain ⟨r_4, c_p0_two_4, hc4, h⟩ := b2_some h
  refine xcalli (wr := [(a_p0, .inr (7, [.int v_p0_refusal, .ref a_p0_text, .int v_p0_size, .ref a_p0_now, .ref a_p0_trial, .ref a_p0_diary, .int v_p0_acts, .ref a_p0_kept, .ref a_p0_isKept, .ref a_p0_drawn, .ref a_p0_one, .ref a_p0_two, .ref a_p0_costs, .int v_p0_nearestOne, .int v_p0_nearestBy, .int v_p0_how, .int v_p0_spot, .int v_p0_closestTwo, .int v_p0_closestBy])), (a_p0_costs, .inl (cc 0, 1681, .inl c_p0_costs)), (a_p0_one, .inl (cc 0, 41, .inl c_p0_one_1))]) [3, 1] [0, 2, 4] (xrunS (As := [.ref a_p1, .int (fX7_at p4), .int p5, .ref a_p0_two]) (rest := [.int r_1, .ref a_p0]) F ((kX7_signature l D cc (a_p0 := a_p1) (a_p3 := a_p0_two) (n_p0 := n_p1) (n_p3 := 41) (c_p0 := c_p1) (c_p3 := c_p0_two) (p1 := (fX7_at p4)) (p2 := p5) (r0 := r_4) (c_p3_o := c_p0_two_4) (h := hc4)) _) (cwS 4 hts gX7_distanceTo_X7_signature rfl rfl rfl (by decide +kernel) ⟨Nat.le_of_ble_eq_true rfl, Nat.le_of_ble_eq_true rfl⟩) hK hN hP hD [3, 1] rfl (by decide) rfl hl rfl (Nat.le_of_ble_eq_true rfl) dX7_distanceTo_28 ⟨Nat.zero_le _, Nat.zero_le _⟩) hP hD hS hA rfl rfl (by decide) (by decide) (fun _ H locs hP hD hS => ?_)
  have hP : va_P D vwCl [(a_p0, .inr (7, [.int v_p0_refusal, .ref a_p0_text, .int v_p0_size, .ref a_p0_now, .ref a_p0_trial, .ref a_p0_diary, .int v_p0_acts, .ref a_p0_kept, .ref a_p0_isKept, .ref a_p0_drawn, .ref a_p0_one, .ref a_p0_two, .ref a_p0_costs, .int v_p0_nearestOne, .int v_p0_nearestBy, .int v_p0_how, .int v_p0_spot, .int v_p0_closestTwo, .int v_p0_closestBy])), (a_p0_costs, .inl (cc 0, 1681, .inl c_p0_costs)), (a_p0_one, .inl (cc 0, 41, .inl c_p0_one_1)), (a_p1, .inl (cc 0, n_p1, .inl c_p1)), (a_p0_two, .inl (cc 0, 41, .inl c_p0_two_4))] H := hP
  have hD : va_D A [(a_p0, .inr (7, [.int v_p0_refusal, .ref a_p0_text, .int v_p0_size, .ref a_p0_now, .ref a_p0_trial, .ref a_p0_diary, .int v_p0_acts, .ref a_p0_kept, .ref a_p0_isKept, .ref a_p0_drawn, .ref a_p0_one, .ref a_p0_two, .ref a_p0_costs, .int v_p0_nearestOne, .int v_p0_nearestBy, .int v_p0_how, .int v_p0_spot, .int v_p0_closestTwo, .int v_p0_closestBy])), (a_p0_costs, .inl (cc 0, 1681, .inl c_p0_costs)), (a_p0_one, .inl (cc 0, 41, .inl c_p0_one_1)), (a_p1, .inl (cc 0, n_p1, .inl c_p1)), (a_p0_two, .inl (cc 0, 41, .inl c_p0_two_4))] := hD
  obtain ⟨r_6, c_p0_costs_6, hc6, h⟩ := b2_some h
  refine xcalli (wr := [(a_p1, .inl (cc 0, n_p1, .inl c_p1))]) [0, 1, 2, 4] [3] (xrunV (As := [.int r_1, .int r_4]) (rest := []) F ((kX7_distance l D cc (a_p0 := a_p0) (a_p0_costs := a_p0_costs) (a_p0_one := a_p0_one) (a_p0_two := a_p0_two) (a_p0_text := a_p0_text) (a_p0_now := a_p0_now) (a_p0_trial := a_p0_trial) (a_p0_diary := a_p0_diary) (a_p0_kept := a_p0_kept) (a_p0_isKept := a_p0_isKept) (a_p0_drawn := a_p0_drawn) (v_p0_refusal := v_p0_refusal) (v_p0_size := v_p0_size) (v_p0_acts := v_p0_acts) (v_p0_nearestOne := v_p0_nearestOne) (v_p0_nearestBy := v_p0_nearestBy) (v_p0_how := v_p0_how) (v_p0_spot := v_p0_spot) (v_p0_closestTwo := v_p0_closestTwo) (v_p0_closestBy := v_p0_closestBy) (c_p0_costs := c_p0_costs) (c_p0_one := c_p0_one_1) (c_p0_two := c_p0_two_4) (p1 := r_1) (p2 := r_4) (r0 := r_6) (c_p0_costs_o := c_p0_costs_6) (h := hc6)) _) (cwV 2 hts gX7_distanceTo_X7_distance rfl rfl rfl (by decide +kernel) ⟨Nat.le_of_ble_eq_true rfl, Nat.le_of_ble_eq_true rfl⟩) hK hN hP hD [0, 1, 2, 4] rfl (by decide) (q0 := 0) rfl rfl rfl rfl hl rfl (Nat.le_of_ble_eq_true rfl) dX7_distanceTo_31 ⟨Nat.zero_le _, Nat.zero_le _⟩) hP hD hS hA rfl rfl (by decide) (by decide) (fun _ H locs hP hD hS => ?_)
  have hP : va_P D vwCl [(a_p1, .inl (cc 0, n_p1, .inl c_p1)), (a_p0, .inr (7, [.int v_p0_refusal, .ref a_p0_text, .int v_p0_size, .ref a_p0_now, .ref a_p0_trial, .ref a_p0_diary, .int v_p0_acts, .ref a_p0_kept, .ref a_p0_isKept, .ref a_p0_drawn, .ref a_p0_one, .ref a_p0_two, .ref a_p0_costs, .int v_p0_nearestOne, .int v_p0_nearestBy, .int v_p0_how, .int v_p0_spot, .int v_p0_closestTwo, .int v_p0_closestBy])), (a_p0_costs, .inl (cc 0, 1681, .inl c_p0_costs_6)), (a_p0_one, .inl (cc 0, 41, .inl c_p0_one_1)), (a_p0_two, .inl (cc 0, 41, .inl c_p0_two_4))] H := hP
  have hD : va_D A [(a_p1, .inl (cc 0, n_p1, .inl c_p1)), (a_p0, .inr (7, [.int v_p0_refusal, .ref a_p0_text, .int v_p0_size, .ref a_p0_now, .ref a_p0_trial, .ref a_p0_diary, .int v_p0_acts, .ref a_p0_kept, .ref a_p0_isKept, .ref a_p0_drawn, .ref a_p0_one, .ref a_p0_two, .ref a_p0_costs, .int v_p0_nearestOne, .int v_p0_nearestBy, .int v_p0_how, .int v_p0_spot, .int v_p0_closestTwo, .int v_p0_closestBy])), (a_p0_costs, .inl (cc 0, 1681, .inl c_p0_costs_6)), (a_p0_one, .inl (cc 0, 41, .inl c_p0_one_1)), (a_p0_two, .inl (cc 0, 41, .inl c_p0_two_4))] := hD
  have hP := hP.sub (ws' := [(a_p0, .inr (7, [.int v_p0_refusal, .ref a_p0_text, .int v_p0_size, .ref a_p0_now, .ref a_p0_trial, .ref a_p0_diary, .int v_p0_acts, .ref a_p0_kept, .ref a_p0_isKept, .ref a_p0_drawn, .ref a_p0_one, .ref a_p0_two, .ref a_p0_costs, .int v_p0_nearestOne, .int v_p0_nearestBy, .int v_p0_how, .int v_p0_spot, .int v_p0_closestTwo, .int v_p0_closestBy])), (a_p1, .inl (cc 0, n_p1, .inl c_p1)), (a_p0_one, .inl (cc 0, 41, .inl c_p0_one_1)), (a_p0_two, .inl (cc 0, 41, .inl c_p0_two_4)), (a_p0_costs, .inl (cc 0, 1681, .inl c_p0_costs_6))]) [1, 0, 3, 4, 2] rfl
  have hD := hD.sub (ws' := [(a_p0, .inr (7, [.int v_p0_refusal, .ref a_p0_text, .int v_p0_size, .ref a_p0_now, .ref a_p0_trial, .ref a_p0_diary, .int v_p0_acts, .ref a_p0_kept, .ref a_p0_isKept, .ref a_p0_drawn, .ref a_p0_one, .ref a_p0_two, .ref a_p0_costs, .int v_p0_nearestOne, .int v_p0_nearestBy, .int v_p0_how, .int v_p0_spot, .int v_p0_closestTwo, .int v_p0_closestBy])), (a_p1, .inl (cc 0, n_p1, .inl c_p1)), (a_p0_one, .inl (cc 0, 41, .inl c_p0_one_1)), (a_p0_two, .inl (cc 0, 41, .inl c_p0_two_4)), (a_p0_costs, .inl (cc 0, 1681, .inl c_p0_costs_6))]) [1, 0, 3, 4, 2] (by decide) rfl
  cases h
  exact xendi (ret := none) F hsz hAe hK hP hD hS (fun _ => 0) rfl rfl (Nat.zero_le _) (Nat.zero_le _) dX7_distanceTo_34
set_option maxHeartbeats 4000000 in
set_option maxRecDepth 100000 in
theorem kX7_distanceTo (l : Launch) (D : va_G) (cc : Nat → ClassId) (a_p0 : Nat) (a_p0_text : Nat) (a_p0_now : Nat) (a_p0_trial : Nat) (a_p0_diary : Nat) (a_p0_kept : Nat) (a_p0_isKept : Nat) (a_p0_drawn : Nat) (a_p0_one : Nat) (a_p0_two : Nat) (a_p0_costs : Nat) (a_p1 : Nat) (a_p3 : Nat) (n_p1 : Nat) (n_p3 : Nat) (v_p0_refusal : Int32) (v_p0_size : Int32) (v_p0_acts : Int32) (v_p0_nearestOne : Int32) (v_p0_nearestBy : Int32) (v_p0_how : Int32) (v_p0_spot : Int32) (v_p0_closestTwo : Int32) (v_p0_closestBy : Int32) (c_p1 : Nat → Int32) (c_p0_one : Nat → Int32) (c_p3 : Nat → Int32) (c_p0_two : Nat → Int32) (c_p0_costs : Nat → Int32) (p2 : Int32) (p4 : Int32) (p5 : Int32) (r0 : Int32) (c_p0_one_o : Nat → Int32) (c_p0_two_o : Nat → Int32) (c_p0_costs_o : Nat → Int32) (h : fX7_distanceTo p2 p4 p5 n_p1 n_p3 c_p1 c_p0_one c_p3 c_p0_two c_p0_costs = some (r0, c_p0_one_o, c_p0_two_o, c_p0_costs_o)) : xMi l yX7_distanceTo wsX7_distanceTo ({ frames := 3, cells := 0, slots := 0, locals := 82 } : Room) D cc [.ref a_p0, .ref a_p1, .int p2, .ref a_p3, .int p4, .int p5] [(a_p0, .inr (7, [.int v_p0_refusal, .ref a_p0_text, .int v_p0_size, .ref a_p0_now, .ref a_p0_trial, .ref a_p0_diary, .int v_p0_acts, .ref a_p0_kept, .ref a_p0_isKept, .ref a_p0_drawn, .ref a_p0_one, .ref a_p0_two, .ref a_p0_costs, .int v_p0_nearestOne, .int v_p0_nearestBy, .int v_p0_how, .int v_p0_spot, .int v_p0_closestTwo, .int v_p0_closestBy])), (a_p1, .inl (cc 0, n_p1, .inl c_p1)), (a_p0_one, .inl (cc 0, 41, .inl c_p0_one)), (a_p3, .inl (cc 0, n_p3, .inl c_p3)), (a_p0_two, .inl (cc 0, 41, .inl c_p0_two)), (a_p0_costs, .inl (cc 0, 1681, .inl c_p0_costs))] r0 (fun _ => [(a_p0, .inr (7, [.int v_p0_refusal, .ref a_p0_text, .int v_p0_size, .ref a_p0_now, .ref a_p0_trial, .ref a_p0_diary, .int v_p0_acts, .ref a_p0_kept, .ref a_p0_isKept, .ref a_p0_drawn, .ref a_p0_one, .ref a_p0_two, .ref a_p0_costs, .int v_p0_nearestOne, .int v_p0_nearestBy, .int v_p0_how, .int v_p0_spot, .int v_p0_closestTwo, .int v_p0_closestBy])), (a_p1, .inl (cc 0, n_p1, .inl c_p1)), (a_p0_one, .inl (cc 0, 41, .inl c_p0_one_o)), (a_p3, .inl (cc 0, n_p3, .inl c_p3)), (a_p0_two, .inl (cc 0, 41, .inl c_p0_two_o)), (a_p0_costs, .inl (cc 0, 1681, .inl c_p0_costs_o))]) 0 0 := by
  intro sz
  refine xstart (bc := cX7_distanceTo) (maxL := 7) (ret := (some .int)) (by decide) rfl (Nat.le_of_ble_eq_true rfl) ?_
  intro p e s m args below meth c A hargs hsz hAe F hK hN hA hmn hP hD hS ls hl
  have hx := F.1.1
  have hb := F.1.2.1
  have hml := F.1.2.2.1
  have hown := F.1.2.2.2.1
  have hts := F.1.2.2.2.2
  have hl : lv_has ls 7 [(0, .ref a_p0), (1, .ref a_p1), (2, .int p2), (3, .ref a_p3), (4, .int p4), (5, .int p5)] := hl
  have k1 := hts (.fieldLink RX7 32 "RuledStrokesModel" "one" "[I") (by decide +kernel)
  have k2 := hts (.fieldLink RX7 35 "RuledStrokesModel" "two" "[I") (by decide +kernel)
  unfold fX7_distanceTo at h
  refine lv_aload_n hx hb dX7_distanceTo_0 rfl (lv_at hl 1 rfl) ?_
  refine lv_iload_n hx hb dX7_distanceTo_1 rfl (lv_at hl 2 rfl) ?_
  refine lv_iload hx hb dX7_distanceTo_2 (lv_at hl 5 rfl) ?_
  refine lv_aload_n hx hb dX7_distanceTo_4 rfl (lv_at hl 0 rfl) ?_
  refine va_get (D := D) (ci := 7) (v := .ref a_p0_one) (C := RX7) (T := TX7) (N := 19) hx hb hts inX7_distanceTo_X7 hown hK hP 0 rfl rfl 10 (by decide) k1 (fun _ h9 => h9) rfl dX7_distanceTo_5 ?_
  obtain ⟨r_1, c_p0_one_1, hc1, h⟩ := b2_some h
  refine xcalli (wr := [(a_p0, .inr (7, [.int v_p0_refusal, .ref a_p0_text, .int v_p0_size, .ref a_p0_now, .ref a_p0_trial, .ref a_p0_diary, .int v_p0_acts, .ref a_p0_kept, .ref a_p0_isKept, .ref a_p0_drawn, .ref a_p0_one, .ref a_p0_two, .ref a_p0_costs, .int v_p0_nearestOne, .int v_p0_nearestBy, .int v_p0_how, .int v_p0_spot, .int v_p0_closestTwo, .int v_p0_closestBy])), (a_p3, .inl (cc 0, n_p3, .inl c_p3)), (a_p0_two, .inl (cc 0, 41, .inl c_p0_two)), (a_p0_costs, .inl (cc 0, 1681, .inl c_p0_costs))]) [1, 2] [0, 3, 4, 5] (xrunS (As := [.ref a_p1, .int p2, .int p5, .ref a_p0_one]) (rest := []) F ((kX7_signature l D cc (a_p0 := a_p1) (a_p3 := a_p0_one) (n_p0 := n_p1) (n_p3 := 41) (c_p0 := c_p1) (c_p3 := c_p0_one) (p1 := p2) (p2 := p5) (r0 := r_1) (c_p3_o := c_p0_one_1) (h := hc1)) _) (cwS 4 hts gX7_distanceTo_X7_signature rfl rfl rfl (by decide +kernel) ⟨Nat.le_of_ble_eq_true rfl, Nat.le_of_ble_eq_true rfl⟩) hK hN hP hD [1, 2] rfl (by decide) rfl hl rfl (Nat.le_of_ble_eq_true rfl) dX7_distanceTo_8 ⟨Nat.zero_le _, Nat.zero_le _⟩) hP hD hS hA rfl rfl (by decide) (by decide) (fun _ H locs hP hD hS => ?_)
  have hP : va_P D vwCl [(a_p0, .inr (7, [.int v_p0_refusal, .ref a_p0_text, .int v_p0_size, .ref a_p0_now, .ref a_p0_trial, .ref a_p0_diary, .int v_p0_acts, .ref a_p0_kept, .ref a_p0_isKept, .ref a_p0_drawn, .ref a_p0_one, .ref a_p0_two, .ref a_p0_costs, .int v_p0_nearestOne, .int v_p0_nearestBy, .int v_p0_how, .int v_p0_spot, .int v_p0_closestTwo, .int v_p0_closestBy])), (a_p3, .inl (cc 0, n_p3, .inl c_p3)), (a_p0_two, .inl (cc 0, 41, .inl c_p0_two)), (a_p0_costs, .inl (cc 0, 1681, .inl c_p0_costs)), (a_p1, .inl (cc 0, n_p1, .inl c_p1)), (a_p0_one, .inl (cc 0, 41, .inl c_p0_one_1))] H := hP
  have hD : va_D A [(a_p0, .inr (7, [.int v_p0_refusal, .ref a_p0_text, .int v_p0_size, .ref a_p0_now, .ref a_p0_trial, .ref a_p0_diary, .int v_p0_acts, .ref a_p0_kept, .ref a_p0_isKept, .ref a_p0_drawn, .ref a_p0_one, .ref a_p0_two, .ref a_p0_costs, .int v_p0_nearestOne, .int v_p0_nearestBy, .int v_p0_how, .int v_p0_spot, .int v_p0_closestTwo, .int v_p0_closestBy])), (a_p3, .inl (cc 0, n_p3, .inl c_p3)), (a_p0_two, .inl (cc 0, 41, .inl c_p0_two)), (a_p0_costs, .inl (cc 0, 1681, .inl c_p0_costs)), (a_p1, .inl (cc 0, n_p1, .inl c_p1)), (a_p0_one, .inl (cc 0, 41, .inl c_p0_one_1))] := hD
  refine lv_istore (x := r_1) (lv' := [(6, .int r_1), (0, .ref a_p0), (1, .ref a_p1), (2, .int p2), (3, .ref a_p3), (4, .int p4), (5, .int p5)]) hx hb dX7_distanceTo_11 hl (by decide) rfl (fun ls hl => ?_)
  refine lv_aload_n hx hb dX7_distanceTo_13 rfl (lv_at hl 1 rfl) ?_
  refine lv_iload hx hb dX7_distanceTo_14 (lv_at hl 0 rfl) ?_
  refine lv_aload_n hx hb dX7_distanceTo_16 rfl (lv_at hl 4 rfl) ?_
  refine lv_iload hx hb dX7_distanceTo_17 (lv_at hl 5 rfl) ?_
  refine xcalli (wr := [(a_p0, .inr (7, [.int v_p0_refusal, .ref a_p0_text, .int v_p0_size, .ref a_p0_now, .ref a_p0_trial, .ref a_p0_diary, .int v_p0_acts, .ref a_p0_kept, .ref a_p0_isKept, .ref a_p0_drawn, .ref a_p0_one, .ref a_p0_two, .ref a_p0_costs, .int v_p0_nearestOne, .int v_p0_nearestBy, .int v_p0_how, .int v_p0_spot, .int v_p0_closestTwo, .int v_p0_closestBy])), (a_p3, .inl (cc 0, n_p3, .inl c_p3)), (a_p0_two, .inl (cc 0, 41, .inl c_p0_two)), (a_p0_costs, .inl (cc 0, 1681, .inl c_p0_costs)), (a_p1, .inl (cc 0, n_p1, .inl c_p1)), (a_p0_one, .inl (cc 0, 41, .inl c_p0_one_1))]) [] [0, 1, 2, 3, 4, 5] (xrunS (As := [.int p4]) (rest := [.ref a_p3, .int r_1, .ref a_p0]) F ((kX7_at l D cc (p0 := p4) (r0 := (fX7_at p4)) (h := rfl)) _) (cwS 1 hts gX7_distanceTo_X7_at rfl rfl rfl (by decide +kernel) ⟨Nat.le_of_ble_eq_true rfl, Nat.le_of_ble_eq_true rfl⟩) hK hN hP hD [] rfl (by decide) rfl hl rfl (Nat.le_of_ble_eq_true rfl) dX7_distanceTo_19 ⟨Nat.zero_le _, Nat.zero_le _⟩) hP hD hS hA rfl rfl (by decide) (by decide) (fun _ H locs hP hD hS => ?_)
  have hP : va_P D vwCl [(a_p0, .inr (7, [.int v_p0_refusal, .ref a_p0_text, .int v_p0_size, .ref a_p0_now, .ref a_p0_trial, .ref a_p0_diary, .int v_p0_acts, .ref a_p0_kept, .ref a_p0_isKept, .ref a_p0_drawn, .ref a_p0_one, .ref a_p0_two, .ref a_p0_costs, .int v_p0_nearestOne, .int v_p0_nearestBy, .int v_p0_how, .int v_p0_spot, .int v_p0_closestTwo, .int v_p0_closestBy])), (a_p3, .inl (cc 0, n_p3, .inl c_p3)), (a_p0_two, .inl (cc 0, 41, .inl c_p0_two)), (a_p0_costs, .inl (cc 0, 1681, .inl c_p0_costs)), (a_p1, .inl (cc 0, n_p1, .inl c_p1)), (a_p0_one, .inl (cc 0, 41, .inl c_p0_one_1))] H := hP
  have hD : va_D A [(a_p0, .inr (7, [.int v_p0_refusal, .ref a_p0_text, .int v_p0_size, .ref a_p0_now, .ref a_p0_trial, .ref a_p0_diary, .int v_p0_acts, .ref a_p0_kept, .ref a_p0_isKept, .ref a_p0_drawn, .ref a_p0_one, .ref a_p0_two, .ref a_p0_costs, .int v_p0_nearestOne, .int v_p0_nearestBy, .int v_p0_how, .int v_p0_spot, .int v_p0_closestTwo, .int v_p0_closestBy])), (a_p3, .inl (cc 0, n_p3, .inl c_p3)), (a_p0_two, .inl (cc 0, 41, .inl c_p0_two)), (a_p0_costs, .inl (cc 0, 1681, .inl c_p0_costs)), (a_p1, .inl (cc 0, n_p1, .inl c_p1)), (a_p0_one, .inl (cc 0, 41, .inl c_p0_one_1))] := hD
  refine lv_iload hx hb dX7_distanceTo_22 (lv_at hl 6 rfl) ?_
  refine lv_aload_n hx hb dX7_distanceTo_24 rfl (lv_at hl 1 rfl) ?_
  refine va_get (D := D) (ci := 7) (v := .ref a_p0_two) (C := RX7) (T := TX7) (N := 19) hx hb hts inX7_distanceTo_X7 hown hK hP 0 rfl rfl 11 (by decide) k2 (fun _ h9 => h9) rfl dX7_distanceTo_25 ?_
  obtain ⟨r_4, c_p0_two_4, hc4, h⟩ := b2_some h
  refine xcalli (wr := [(a_p0, .inr (7, [.int v_p0_refusal, .ref a_p0_text, .int v_p0_size, .ref a_p0_now, .ref a_p0_trial, .ref a_p0_diary, .int v_p0_acts, .ref a_p0_kept, .ref a_p0_isKept, .ref a_p0_drawn, .ref a_p0_one, .ref a_p0_two, .ref a_p0_costs, .int v_p0_nearestOne, .int v_p0_nearestBy, .int v_p0_how, .int v_p0_spot, .int v_p0_closestTwo, .int v_p0_closestBy])), (a_p0_costs, .inl (cc 0, 1681, .inl c_p0_costs)), (a_p1, .inl (cc 0, n_p1, .inl c_p1)), (a_p0_one, .inl (cc 0, 41, .inl c_p0_one_1))]) [1, 2] [0, 3, 4, 5] (xrunS (As := [.ref a_p3, .int (fX7_at p4), .int p5, .ref a_p0_two]) (rest := [.int r_1, .ref a_p0]) F ((kX7_signature l D cc (a_p0 := a_p3) (a_p3 := a_p0_two) (n_p0 := n_p3) (n_p3 := 41) (c_p0 := c_p3) (c_p3 := c_p0_two) (p1 := (fX7_at p4)) (p2 := p5) (r0 := r_4) (c_p3_o := c_p0_two_4) (h := hc4)) _) (cwS 4 hts gX7_distanceTo_X7_signature rfl rfl rfl (by decide +kernel) ⟨Nat.le_of_ble_eq_true rfl, Nat.le_of_ble_eq_true rfl⟩) hK hN hP hD [1, 2] rfl (by decide) rfl hl rfl (Nat.le_of_ble_eq_true rfl) dX7_distanceTo_28 ⟨Nat.zero_le _, Nat.zero_le _⟩) hP hD hS hA rfl rfl (by decide) (by decide) (fun _ H locs hP hD hS => ?_)
  have hP : va_P D vwCl [(a_p0, .inr (7, [.int v_p0_refusal, .ref a_p0_text, .int v_p0_size, .ref a_p0_now, .ref a_p0_trial, .ref a_p0_diary, .int v_p0_acts, .ref a_p0_kept, .ref a_p0_isKept, .ref a_p0_drawn, .ref a_p0_one, .ref a_p0_two, .ref a_p0_costs, .int v_p0_nearestOne, .int v_p0_nearestBy, .int v_p0_how, .int v_p0_spot, .int v_p0_closestTwo, .int v_p0_closestBy])), (a_p0_costs, .inl (cc 0, 1681, .inl c_p0_costs)), (a_p1, .inl (cc 0, n_p1, .inl c_p1)), (a_p0_one, .inl (cc 0, 41, .inl c_p0_one_1)), (a_p3, .inl (cc 0, n_p3, .inl c_p3)), (a_p0_two, .inl (cc 0, 41, .inl c_p0_two_4))] H := hP
  have hD : va_D A [(a_p0, .inr (7, [.int v_p0_refusal, .ref a_p0_text, .int v_p0_size, .ref a_p0_now, .ref a_p0_trial, .ref a_p0_diary, .int v_p0_acts, .ref a_p0_kept, .ref a_p0_isKept, .ref a_p0_drawn, .ref a_p0_one, .ref a_p0_two, .ref a_p0_costs, .int v_p0_nearestOne, .int v_p0_nearestBy, .int v_p0_how, .int v_p0_spot, .int v_p0_closestTwo, .int v_p0_closestBy])), (a_p0_costs, .inl (cc 0, 1681, .inl c_p0_costs)), (a_p1, .inl (cc 0, n_p1, .inl c_p1)), (a_p0_one, .inl (cc 0, 41, .inl c_p0_one_1)), (a_p3, .inl (cc 0, n_p3, .inl c_p3)), (a_p0_two, .inl (cc 0, 41, .inl c_p0_two_4))] := hD
  obtain ⟨r_6, c_p0_costs_6, hc6, h⟩ := b2_some h
  refine xcalli (wr := [(a_p1, .inl (cc 0, n_p1, .inl c_p1)), (a_p3, .inl (cc 0, n_p3, .inl c_p3))]) [0, 1, 3, 5] [2, 4] (xrunV (As := [.int r_1, .int r_4]) (rest := []) F ((kX7_distance l D cc (a_p0 := a_p0) (a_p0_costs := a_p0_costs) (a_p0_one := a_p0_one) (a_p0_two := a_p0_two) (a_p0_text := a_p0_text) (a_p0_now := a_p0_now) (a_p0_trial := a_p0_trial) (a_p0_diary := a_p0_diary) (a_p0_kept := a_p0_kept) (a_p0_isKept := a_p0_isKept) (a_p0_drawn := a_p0_drawn) (v_p0_refusal := v_p0_refusal) (v_p0_size := v_p0_size) (v_p0_acts := v_p0_acts) (v_p0_nearestOne := v_p0_nearestOne) (v_p0_nearestBy := v_p0_nearestBy) (v_p0_how := v_p0_how) (v_p0_spot := v_p0_spot) (v_p0_closestTwo := v_p0_closestTwo) (v_p0_closestBy := v_p0_closestBy) (c_p0_costs := c_p0_costs) (c_p0_one := c_p0_one_1) (c_p0_two := c_p0_two_4) (p1 := r_1) (p2 := r_4) (r0 := r_6) (c_p0_costs_o := c_p0_costs_6) (h := hc6)) _) (cwV 2 hts gX7_distanceTo_X7_distance rfl rfl rfl (by decide +kernel) ⟨Nat.le_of_ble_eq_true rfl, Nat.le_of_ble_eq_true rfl⟩) hK hN hP hD [0, 1, 3, 5] rfl (by decide) (q0 := 0) rfl rfl rfl rfl hl rfl (Nat.le_of_ble_eq_true rfl) dX7_distanceTo_31 ⟨Nat.zero_le _, Nat.zero_le _⟩) hP hD hS hA rfl rfl (by decide) (by decide) (fun _ H locs hP hD hS => ?_)
  have hP : va_P D vwCl [(a_p1, .inl (cc 0, n_p1, .inl c_p1)), (a_p3, .inl (cc 0, n_p3, .inl c_p3)), (a_p0, .inr (7, [.int v_p0_refusal, .ref a_p0_text, .int v_p0_size, .ref a_p0_now, .ref a_p0_trial, .ref a_p0_diary, .int v_p0_acts, .ref a_p0_kept, .ref a_p0_isKept, .ref a_p0_drawn, .ref a_p0_one, .ref a_p0_two, .ref a_p0_costs, .int v_p0_nearestOne, .int v_p0_nearestBy, .int v_p0_how, .int v_p0_spot, .int v_p0_closestTwo, .int v_p0_closestBy])), (a_p0_costs, .inl (cc 0, 1681, .inl c_p0_costs_6)), (a_p0_one, .inl (cc 0, 41, .inl c_p0_one_1)), (a_p0_two, .inl (cc 0, 41, .inl c_p0_two_4))] H := hP
  have hD : va_D A [(a_p1, .inl (cc 0, n_p1, .inl c_p1)), (a_p3, .inl (cc 0, n_p3, .inl c_p3)), (a_p0, .inr (7, [.int v_p0_refusal, .ref a_p0_text, .int v_p0_size, .ref a_p0_now, .ref a_p0_trial, .ref a_p0_diary, .int v_p0_acts, .ref a_p0_kept, .ref a_p0_isKept, .ref a_p0_drawn, .ref a_p0_one, .ref a_p0_two, .ref a_p0_costs, .int v_p0_nearestOne, .int v_p0_nearestBy, .int v_p0_how, .int v_p0_spot, .int v_p0_closestTwo, .int v_p0_closestBy])), (a_p0_costs, .inl (cc 0, 1681, .inl c_p0_costs_6)), (a_p0_one, .inl (cc 0, 41, .inl c_p0_one_1)), (a_p0_two, .inl (cc 0, 41, .inl c_p0_two_4))] := hD
  have hP := hP.sub (ws' := [(a_p0, .inr (7, [.int v_p0_refusal, .ref a_p0_text, .int v_p0_size, .ref a_p0_now, .ref a_p0_trial, .ref a_p0_diary, .int v_p0_acts, .ref a_p0_kept, .ref a_p0_isKept, .ref a_p0_drawn, .ref a_p0_one, .ref a_p0_two, .ref a_p0_costs, .int v_p0_nearestOne, .int v_p0_nearestBy, .int v_p0_how, .int v_p0_spot, .int v_p0_closestTwo, .int v_p0_closestBy])), (a_p1, .inl (cc 0, n_p1, .inl c_p1)), (a_p0_one, .inl (cc 0, 41, .inl c_p0_one_1)), (a_p3, .inl (cc 0, n_p3, .inl c_p3)), (a_p0_two, .inl (cc 0, 41, .inl c_p0_two_4)), (a_p0_costs, .inl (cc 0, 1681, .inl c_p0_costs_6))]) [2, 0, 4, 1, 5, 3] rfl
  have hD := hD.sub (ws' := [(a_p0, .inr (7, [.int v_p0_refusal, .ref a_p0_text, .int v_p0_size, .ref a_p0_now, .ref a_p0_trial, .ref a_p0_diary, .int v_p0_acts, .ref a_p0_kept, .ref a_p0_isKept, .ref a_p0_drawn, .ref a_p0_one, .ref a_p0_two, .ref a_p0_costs, .int v_p0_nearestOne, .int v_p0_nearestBy, .int v_p0_how, .int v_p0_spot, .int v_p0_closestTwo, .int v_p0_closestBy])), (a_p1, .inl (cc 0, n_p1, .inl c_p1)), (a_p0_one, .inl (cc 0, 41, .inl c_p0_one_1)), (a_p3, .inl (cc 0, n_p3, .inl c_p3)), (a_p0_two, .inl (cc 0, 41, .inl c_p0_two_4)), (a_p0_costs, .inl (cc 0, 1681, .inl c_p0_costs_6))]) [2, 0, 4, 1, 5, 3] (by decide) rfl
  cases h
  exact xendi (ret := none) F hsz hAe hK hP hD hS (fun _ => 0) rfl rfl (Nat.zero_le _) (Nat.zero_le _) dX7_distanceTo_34
