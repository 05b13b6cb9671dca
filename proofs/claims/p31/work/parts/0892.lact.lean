/-! LAW 3: act -/
section XLACT
def rmAc : Room := { frames := 10, cells := 24, slots := 1600, locals := 320 }
def apG (G : GS) (p : Int32) : GS := (G.1, (gAppend G.2.1 G.2.2.1 p).2.1, (gAppend G.2.1 G.2.2.1 p).2.2, G.2.2.2.1, G.2.2.2.2)
def clG (G : GS) : GS := (G.1, 0, G.2.2.1, G.2.2.2.1, G.2.2.2.2)
theorem gN.g {l : Launch} {D : va_G} {cc : Nat → ClassId} {a : Nat → Nat} {y : MethodName} {wy : List Cond} {G G' G2 : GS} {v : Int32} {MC MS : Nat} (h : gN l D cc a y wy G v G' MC MS) (e : G' = G2) : gN l D cc a y wy G v G2 MC MS := by
  subst e; exact h
variable {p : Program} {l : Launch} {e : Env} {s : State} {m : MethodId} {args : Array Value} {below : List Frame} {meth : Method} {c : Code} {H : Heap} {locs : List Loc} {cells slots : Nat} {Q : State → Prop} {D : va_G} {cc : Nat → ClassId} {A : Nat → Prop} {a : Nat → Nat} {G : GS} {Rw : va_W} {ls : Array Slot} {x y : Nat}
theorem act_64 (hst : l.stackTraces = false) (F : gF p m c cL_act 3 s args wsL_act meth (some .int) D cc A) (hx2 : x < 2 ^ 31) (hy2 : y < 2 ^ 31) (hO : HO D cc A a G Rw H) (hS : va_S A s.heap H locs) (hl : lv_has ls 3 [(0, .ref (a 0)), (1, .int (nI x)), (2, .int (nI y))]) (hf : cells + 24 ≤ rmAc.cells ∧ slots + 1600 ≤ rmAc.slots)
    (kk : ∀ (H : Heap) (locs : List Loc) (ls : Array Slot), HO D cc A a (nxt G (gSet G.1 (nI 0) (nI (5 + (y % 16)))).2) Rw H → va_S A s.heap H locs → W p l e rmAc s m args below meth c H locs (cells + 24) (slots + 1600) Q (F0 m 78 ls [.int (wv ((gSet G.1 (nI 0) (nI (5 + (y % 16)))).1))])) : W p l e rmAc s m args below meth c H locs cells slots Q (F0 m 64 ls []) := by
  have hx := F.1.1.1
  have hb := F.1.1.2.1
  have hown := F.1.1.2.2.2.1
  have hts := F.1.1.2.2.2.2
  have cwA := va_cwS (rm := rmK 11 1443) (R := rmAc) 5 hts gL_act_L_call rfl rfl rfl (by decide +kernel) ⟨Nat.le_of_ble_eq_true rfl, Nat.le_of_ble_eq_true rfl⟩
  refine lv_aload_n hx hb dL_act_64 rfl (lv_at hl 0 rfl) ?_
  refine lv_bipush (v := nI 12) hx hb dL_act_65 (by decide) ?_
  refine lv_iconst (v := nI 0) hx hb dL_act_67 (by decide) ?_
  refine lv_iconst (v := nI 5) hx hb dL_act_68 (by decide) ?_
  refine lv_iload_n hx hb dL_act_69 rfl (lv_at hl 2 rfl) ?_
  refine lv_bipush (v := nI 16) hx hb dL_act_70 (by decide) ?_
  refine gr_irem hx hb dL_act_72 (by omega) (by omega) (by omega) ?_
  refine gr_iadd hx hb dL_act_73 ?_
  refine lv_iconst (v := nI 0) hx hb dL_act_74 (by decide) ?_
  refine gstepS (As := [.int (nI 12), .int (nI 0), .int (nI (5 + (y % 16))), .int (nI 0)]) (rest := []) F (kq12 l hst D cc a G (nI 0) (nI (5 + (y % 16))) (nI 0)) cwA hO hS hl rfl rfl (Nat.le_of_ble_eq_true rfl) dL_act_75 ⟨by omega, by omega⟩ (fun H locs hO hS => ?_)
  refine W.widen (k := cells + 24) (n := slots + 1600) (by omega) (by omega) ?_
  exact kk H locs ls hO hS
theorem act_79 (hst : l.stackTraces = false) (F : gF p m c cL_act 3 s args wsL_act meth (some .int) D cc A) (hx2 : x < 2 ^ 31) (hy2 : y < 2 ^ 31) (hO : HO D cc A a G Rw H) (hS : va_S A s.heap H locs) (hl : lv_has ls 3 [(0, .ref (a 0)), (1, .int (nI x)), (2, .int (nI y))]) (hf : cells + 24 ≤ rmAc.cells ∧ slots + 1600 ≤ rmAc.slots)
    (kk : ∀ (H : Heap) (locs : List Loc) (ls : Array Slot), HO D cc A a (nxt G (gSet G.1 (nI (1 + (y % 2))) (nI (1 + ((y / 2) % 20)))).2) Rw H → va_S A s.heap H locs → W p l e rmAc s m args below meth c H locs (cells + 24) (slots + 1600) Q (F0 m 99 ls [.int (wv ((gSet G.1 (nI (1 + (y % 2))) (nI (1 + ((y / 2) % 20)))).1))])) : W p l e rmAc s m args below meth c H locs cells slots Q (F0 m 79 ls []) := by
  have hx := F.1.1.1
  have hb := F.1.1.2.1
  have hown := F.1.1.2.2.2.1
  have hts := F.1.1.2.2.2.2
  have cwA := va_cwS (rm := rmK 11 1443) (R := rmAc) 5 hts gL_act_L_call rfl rfl rfl (by decide +kernel) ⟨Nat.le_of_ble_eq_true rfl, Nat.le_of_ble_eq_true rfl⟩
  refine lv_aload_n hx hb dL_act_79 rfl (lv_at hl 0 rfl) ?_
  refine lv_bipush (v := nI 12) hx hb dL_act_80 (by decide) ?_
  refine lv_iconst (v := nI 1) hx hb dL_act_82 (by decide) ?_
  refine lv_iload_n hx hb dL_act_83 rfl (lv_at hl 2 rfl) ?_
  refine lv_iconst (v := nI 2) hx hb dL_act_84 (by decide) ?_
  refine gr_irem hx hb dL_act_85 (by omega) (by omega) (by omega) ?_
  refine gr_iadd hx hb dL_act_86 ?_
  refine lv_iconst (v := nI 1) hx hb dL_act_87 (by decide) ?_
  refine lv_iload_n hx hb dL_act_88 rfl (lv_at hl 2 rfl) ?_
  refine lv_iconst (v := nI 2) hx hb dL_act_89 (by decide) ?_
  refine gr_idiv hx hb dL_act_90 (by omega) (by omega) (by omega) ?_
  refine lv_bipush (v := nI 20) hx hb dL_act_91 (by decide) ?_
  refine gr_irem hx hb dL_act_93 (by omega) (by omega) (by omega) ?_
  refine gr_iadd hx hb dL_act_94 ?_
  refine lv_iconst (v := nI 0) hx hb dL_act_95 (by decide) ?_
  refine gstepS (As := [.int (nI 12), .int (nI (1 + (y % 2))), .int (nI (1 + ((y / 2) % 20))), .int (nI 0)]) (rest := []) F (kq12 l hst D cc a G (nI (1 + (y % 2))) (nI (1 + ((y / 2) % 20))) (nI 0)) cwA hO hS hl rfl rfl (Nat.le_of_ble_eq_true rfl) dL_act_96 ⟨by omega, by omega⟩ (fun H locs hO hS => ?_)
  refine W.widen (k := cells + 24) (n := slots + 1600) (by omega) (by omega) ?_
  exact kk H locs ls hO hS
theorem act_100 (hst : l.stackTraces = false) (F : gF p m c cL_act 3 s args wsL_act meth (some .int) D cc A) (hx2 : x < 2 ^ 31) (hy2 : y < 2 ^ 31) (hO : HO D cc A a G Rw H) (hS : va_S A s.heap H locs) (hl : lv_has ls 3 [(0, .ref (a 0)), (1, .int (nI x)), (2, .int (nI y))]) (hf : cells + 24 ≤ rmAc.cells ∧ slots + 1600 ≤ rmAc.slots)
    (kk : ∀ (H : Heap) (locs : List Loc) (ls : Array Slot), HO D cc A a (nxt G (gLift G.1).2) Rw H → va_S A s.heap H locs → W p l e rmAc s m args below meth c H locs (cells + 24) (slots + 1600) Q (F0 m 104 ls [.int ((gLift G.1).1)])) : W p l e rmAc s m args below meth c H locs cells slots Q (F0 m 100 ls []) := by
  have hx := F.1.1.1
  have hb := F.1.1.2.1
  have hown := F.1.1.2.2.2.1
  have hts := F.1.1.2.2.2.2
  have cwV_lift : ∀ (rm : Room) (mc ms : Nat), rmG rm mc ms 11 1443 → CallW rmAc s args RL RX6 _ yX6_lift _ _ _ wsX6_lift rm mc ms 0 := fun rm mc ms h => cwV 0 hts gL_act_X6_lift rfl h.1 h.2.1 (by decide +kernel) ⟨by show rm.frames + 1 ≤ _; have := h.2.2.2.2.1; show rm.frames + 1 ≤ 10; omega, by show 8 + (_ + 11) + rm.locals ≤ 320; have := h.2.2.2.2.2; omega⟩
  refine lv_aload_n hx hb dL_act_100 rfl (lv_at hl 0 rfl) ?_
  refine gstepV (rest := []) F (sg_lift l hst D cc a G) cwV_lift hO hS hl rfl (Nat.le_of_ble_eq_true rfl) dL_act_101 ⟨by omega, by omega⟩ (fun H locs hO hS => ?_)
  refine W.widen (k := cells + 24) (n := slots + 1600) (by omega) (by omega) ?_
  exact kk H locs ls hO hS
theorem act_105 (hst : l.stackTraces = false) (F : gF p m c cL_act 3 s args wsL_act meth (some .int) D cc A) (hx2 : x < 2 ^ 31) (hy2 : y < 2 ^ 31) (hO : HO D cc A a G Rw H) (hS : va_S A s.heap H locs) (hl : lv_has ls 3 [(0, .ref (a 0)), (1, .int (nI x)), (2, .int (nI y))]) (hf : cells + 24 ≤ rmAc.cells ∧ slots + 1600 ≤ rmAc.slots)
    (kk : ∀ (H : Heap) (locs : List Loc) (ls : Array Slot), HO D cc A a (nxt G (gLearn G.1 (nI (y % 5))).2) Rw H → va_S A s.heap H locs → W p l e rmAc s m args below meth c H locs (cells + 24) (slots + 1600) Q (F0 m 116 ls [.int (wv ((gLearn G.1 (nI (y % 5))).1))])) : W p l e rmAc s m args below meth c H locs cells slots Q (F0 m 105 ls []) := by
  have hx := F.1.1.1
  have hb := F.1.1.2.1
  have hown := F.1.1.2.2.2.1
  have hts := F.1.1.2.2.2.2
  have cwA := va_cwS (rm := rmK 11 1443) (R := rmAc) 5 hts gL_act_L_call rfl rfl rfl (by decide +kernel) ⟨Nat.le_of_ble_eq_true rfl, Nat.le_of_ble_eq_true rfl⟩
  refine lv_aload_n hx hb dL_act_105 rfl (lv_at hl 0 rfl) ?_
  refine lv_bipush (v := nI 9) hx hb dL_act_106 (by decide) ?_
  refine lv_iload_n hx hb dL_act_108 rfl (lv_at hl 2 rfl) ?_
  refine lv_iconst (v := nI 5) hx hb dL_act_109 (by decide) ?_
  refine gr_irem hx hb dL_act_110 (by omega) (by omega) (by omega) ?_
  refine lv_iconst (v := nI 0) hx hb dL_act_111 (by decide) ?_
  refine lv_iconst (v := nI 0) hx hb dL_act_112 (by decide) ?_
  refine gstepS (As := [.int (nI 9), .int (nI (y % 5)), .int (nI 0), .int (nI 0)]) (rest := []) F (kq9 l hst D cc a G (nI (y % 5)) (nI 0) (nI 0)) cwA hO hS hl rfl rfl (Nat.le_of_ble_eq_true rfl) dL_act_113 ⟨by omega, by omega⟩ (fun H locs hO hS => ?_)
  refine W.widen (k := cells + 24) (n := slots + 1600) (by omega) (by omega) ?_
  exact kk H locs ls hO hS
theorem act_117 (hst : l.stackTraces = false) (F : gF p m c cL_act 3 s args wsL_act meth (some .int) D cc A) (hx2 : x < 2 ^ 31) (hy2 : y < 2 ^ 31) (hO : HO D cc A a G Rw H) (hS : va_S A s.heap H locs) (hl : lv_has ls 3 [(0, .ref (a 0)), (1, .int (nI x)), (2, .int (nI y))]) (hf : cells + 24 ≤ rmAc.cells ∧ slots + 1600 ≤ rmAc.slots)
    (kk : ∀ (H : Heap) (locs : List Loc) (ls : Array Slot), HO D cc A a (nxt G (gPractise G.1 (nI (y % 5))).2) Rw H → va_S A s.heap H locs → W p l e rmAc s m args below meth c H locs (cells + 24) (slots + 1600) Q (F0 m 128 ls [.int (wv ((gPractise G.1 (nI (y % 5))).1))])) : W p l e rmAc s m args below meth c H locs cells slots Q (F0 m 117 ls []) := by
  have hx := F.1.1.1
  have hb := F.1.1.2.1
  have hown := F.1.1.2.2.2.1
  have hts := F.1.1.2.2.2.2
  have cwA := va_cwS (rm := rmK 11 1443) (R := rmAc) 5 hts gL_act_L_call rfl rfl rfl (by decide +kernel) ⟨Nat.le_of_ble_eq_true rfl, Nat.le_of_ble_eq_true rfl⟩
  refine lv_aload_n hx hb dL_act_117 rfl (lv_at hl 0 rfl) ?_
  refine lv_bipush (v := nI 11) hx hb dL_act_118 (by decide) ?_
  refine lv_iload_n hx hb dL_act_120 rfl (lv_at hl 2 rfl) ?_
  refine lv_iconst (v := nI 5) hx hb dL_act_121 (by decide) ?_
  refine gr_irem hx hb dL_act_122 (by omega) (by omega) (by omega) ?_
  refine lv_iconst (v := nI 0) hx hb dL_act_123 (by decide) ?_
  refine lv_iconst (v := nI 0) hx hb dL_act_124 (by decide) ?_
  refine gstepS (As := [.int (nI 11), .int (nI (y % 5)), .int (nI 0), .int (nI 0)]) (rest := []) F (kq11 l hst D cc a G (nI (y % 5)) (nI 0) (nI 0)) cwA hO hS hl rfl rfl (Nat.le_of_ble_eq_true rfl) dL_act_125 ⟨by omega, by omega⟩ (fun H locs hO hS => ?_)
  refine W.widen (k := cells + 24) (n := slots + 1600) (by omega) (by omega) ?_
  exact kk H locs ls hO hS
theorem act_129a (hst : l.stackTraces = false) (F : gF p m c cL_act 3 s args wsL_act meth (some .int) D cc A) (hx2 : x < 2 ^ 31) (hy2 : y < 2 ^ 31) (z0 : y % 3 = 0) (hO : HO D cc A a G Rw H) (hS : va_S A s.heap H locs) (hl : lv_has ls 3 [(0, .ref (a 0)), (1, .int (nI x)), (2, .int (nI y))]) (hf : cells + 24 ≤ rmAc.cells ∧ slots + 1600 ≤ rmAc.slots)
    (kk : ∀ (H : Heap) (locs : List Loc) (ls : Array Slot), HO D cc A a (nxt G (gForget G.1 (nI (y % 4))).2) Rw H → va_S A s.heap H locs → W p l e rmAc s m args below meth c H locs (cells + 24) (slots + 1600) Q (F0 m 158 ls [.int (wv ((gForget G.1 (nI (y % 4))).1))])) : W p l e rmAc s m args below meth c H locs cells slots Q (F0 m 129 ls []) := by
  have hx := F.1.1.1
  have hb := F.1.1.2.1
  have hown := F.1.1.2.2.2.1
  have hts := F.1.1.2.2.2.2
  have cwA := va_cwS (rm := rmK 11 1443) (R := rmAc) 5 hts gL_act_L_call rfl rfl rfl (by decide +kernel) ⟨Nat.le_of_ble_eq_true rfl, Nat.le_of_ble_eq_true rfl⟩
  refine lv_iload_n hx hb dL_act_129 rfl (lv_at hl 2 rfl) ?_
  refine lv_iconst (v := nI 3) hx hb dL_act_130 (by decide) ?_
  refine gr_irem hx hb dL_act_131 (by omega) (by omega) (by omega) ?_
  refine lv_if_ne (tgt := 149) hx hb dL_act_132 (by decide) (fun c9 => absurd ((show nI (y % 3) = 0 by rw [z0]; rfl)) c9) (fun _ => ?_)
  refine lv_aload_n hx hb dL_act_135 rfl (lv_at hl 0 rfl) ?_
  refine lv_bipush (v := nI 10) hx hb dL_act_136 (by decide) ?_
  refine lv_iload_n hx hb dL_act_138 rfl (lv_at hl 2 rfl) ?_
  refine lv_iconst (v := nI 4) hx hb dL_act_139 (by decide) ?_
  refine gr_irem hx hb dL_act_140 (by omega) (by omega) (by omega) ?_
  refine lv_iconst (v := nI 0) hx hb dL_act_141 (by decide) ?_
  refine lv_iconst (v := nI 0) hx hb dL_act_142 (by decide) ?_
  refine gstepS (As := [.int (nI 10), .int (nI (y % 4)), .int (nI 0), .int (nI 0)]) (rest := []) F (kq10 l hst D cc a G (nI (y % 4)) (nI 0) (nI 0)) cwA hO hS hl rfl rfl (Nat.le_of_ble_eq_true rfl) dL_act_143 ⟨by omega, by omega⟩ (fun H locs hO hS => ?_)
  refine lv_goto (tgt := 158) hx hb dL_act_146 (by decide) ?_
  refine W.widen (k := cells + 24) (n := slots + 1600) (by omega) (by omega) ?_
  exact kk H locs ls hO hS
theorem act_129b (hst : l.stackTraces = false) (F : gF p m c cL_act 3 s args wsL_act meth (some .int) D cc A) (hx2 : x < 2 ^ 31) (hy2 : y < 2 ^ 31) (z0 : ¬ y % 3 = 0) (hO : HO D cc A a G Rw H) (hS : va_S A s.heap H locs) (hl : lv_has ls 3 [(0, .ref (a 0)), (1, .int (nI x)), (2, .int (nI y))]) (hf : cells + 24 ≤ rmAc.cells ∧ slots + 1600 ≤ rmAc.slots)
    (kk : ∀ (H : Heap) (locs : List Loc) (ls : Array Slot), HO D cc A a ((gUndo G).2) Rw H → va_S A s.heap H locs → W p l e rmAc s m args below meth c H locs (cells + 24) (slots + 1600) Q (F0 m 158 ls [.int (wv ((gUndo G).1))])) : W p l e rmAc s m args below meth c H locs cells slots Q (F0 m 129 ls []) := by
  have hx := F.1.1.1
  have hb := F.1.1.2.1
  have hown := F.1.1.2.2.2.1
  have hts := F.1.1.2.2.2.2
  have cwR := va_cwS (rm := rmK 1 6) (R := rmAc) 5 hts gL_act_L_call rfl rfl rfl (by decide +kernel) ⟨Nat.le_of_ble_eq_true rfl, Nat.le_of_ble_eq_true rfl⟩
  refine lv_iload_n hx hb dL_act_129 rfl (lv_at hl 2 rfl) ?_
  refine lv_iconst (v := nI 3) hx hb dL_act_130 (by decide) ?_
  refine gr_irem hx hb dL_act_131 (by omega) (by omega) (by omega) ?_
  refine lv_if_ne (tgt := 149) hx hb dL_act_132 (by decide) (fun _ => ?_) (fun c9 => absurd c9 (nI_ne0 (by omega) (by omega)))
  refine lv_aload_n hx hb dL_act_149 rfl (lv_at hl 0 rfl) ?_
  refine lv_bipush (v := nI 13) hx hb dL_act_150 (by decide) ?_
  refine lv_iconst (v := nI 0) hx hb dL_act_152 (by decide) ?_
  refine lv_iconst (v := nI 0) hx hb dL_act_153 (by decide) ?_
  refine lv_iconst (v := nI 0) hx hb dL_act_154 (by decide) ?_
  refine gstepS (As := [.int (nI 13), .int (nI 0), .int (nI 0), .int (nI 0)]) (rest := []) F (kq13 l hst D cc a G (nI 0) (nI 0) (nI 0)) cwR hO hS hl rfl rfl (Nat.le_of_ble_eq_true rfl) dL_act_155 ⟨by omega, by omega⟩ (fun H locs hO hS => ?_)
  refine W.widen (k := cells + 24) (n := slots + 1600) (by omega) (by omega) ?_
  exact kk H locs ls hO hS
theorem act_159 (hst : l.stackTraces = false) (F : gF p m c cL_act 3 s args wsL_act meth (some .int) D cc A) (hx2 : x < 2 ^ 31) (hy2 : y < 2 ^ 31) (hO : HO D cc A a G Rw H) (hS : va_S A s.heap H locs) (hl : lv_has ls 3 [(0, .ref (a 0)), (1, .int (nI x)), (2, .int (nI y))]) (hf : cells + 24 ≤ rmAc.cells ∧ slots + 1600 ≤ rmAc.slots)
    (kk : ∀ (H : Heap) (locs : List Loc) (ls : Array Slot), HO D cc A a ((gSave G (nI (y % 2))).2) Rw H → va_S A s.heap H locs → W p l e rmAc s m args below meth c H locs (cells + 24) (slots + 1600) Q (F0 m 170 ls [.int (wv ((gSave G (nI (y % 2))).1))])) : W p l e rmAc s m args below meth c H locs cells slots Q (F0 m 159 ls []) := by
  have hx := F.1.1.1
  have hb := F.1.1.2.1
  have hown := F.1.1.2.2.2.1
  have hts := F.1.1.2.2.2.2
  have cwA := va_cwS (rm := rmK 11 1443) (R := rmAc) 5 hts gL_act_L_call rfl rfl rfl (by decide +kernel) ⟨Nat.le_of_ble_eq_true rfl, Nat.le_of_ble_eq_true rfl⟩
  refine lv_aload_n hx hb dL_act_159 rfl (lv_at hl 0 rfl) ?_
  refine lv_bipush (v := nI 17) hx hb dL_act_160 (by decide) ?_
  refine lv_iload_n hx hb dL_act_162 rfl (lv_at hl 2 rfl) ?_
  refine lv_iconst (v := nI 2) hx hb dL_act_163 (by decide) ?_
  refine gr_irem hx hb dL_act_164 (by omega) (by omega) (by omega) ?_
  refine lv_iconst (v := nI 0) hx hb dL_act_165 (by decide) ?_
  refine lv_iconst (v := nI 0) hx hb dL_act_166 (by decide) ?_
  refine gstepS (As := [.int (nI 17), .int (nI (y % 2)), .int (nI 0), .int (nI 0)]) (rest := []) F (kq17 l hst D cc a G (nI (y % 2)) (nI 0) (nI 0)) cwA hO hS hl rfl rfl (Nat.le_of_ble_eq_true rfl) dL_act_167 ⟨by omega, by omega⟩ (fun H locs hO hS => ?_)
  refine W.widen (k := cells + 24) (n := slots + 1600) (by omega) (by omega) ?_
  exact kk H locs ls hO hS
theorem act_171 (hst : l.stackTraces = false) (F : gF p m c cL_act 3 s args wsL_act meth (some .int) D cc A) (hx2 : x < 2 ^ 31) (hy2 : y < 2 ^ 31) (hO : HO D cc A a G Rw H) (hS : va_S A s.heap H locs) (hl : lv_has ls 3 [(0, .ref (a 0)), (1, .int (nI x)), (2, .int (nI y))]) (hf : cells + 24 ≤ rmAc.cells ∧ slots + 1600 ≤ rmAc.slots)
    (kk : ∀ (H : Heap) (locs : List Loc) (ls : Array Slot), HO D cc A a ((gRestore G (nI (y % 2))).2) Rw H → va_S A s.heap H locs → W p l e rmAc s m args below meth c H locs (cells + 24) (slots + 1600) Q (F0 m 182 ls [.int (wv ((gRestore G (nI (y % 2))).1))])) : W p l e rmAc s m args below meth c H locs cells slots Q (F0 m 171 ls []) := by
  have hx := F.1.1.1
  have hb := F.1.1.2.1
  have hown := F.1.1.2.2.2.1
  have hts := F.1.1.2.2.2.2
  have cwR := va_cwS (rm := rmK 1 6) (R := rmAc) 5 hts gL_act_L_call rfl rfl rfl (by decide +kernel) ⟨Nat.le_of_ble_eq_true rfl, Nat.le_of_ble_eq_true rfl⟩
  refine lv_aload_n hx hb dL_act_171 rfl (lv_at hl 0 rfl) ?_
  refine lv_bipush (v := nI 18) hx hb dL_act_172 (by decide) ?_
  refine lv_iload_n hx hb dL_act_174 rfl (lv_at hl 2 rfl) ?_
  refine lv_iconst (v := nI 2) hx hb dL_act_175 (by decide) ?_
  refine gr_irem hx hb dL_act_176 (by omega) (by omega) (by omega) ?_
  refine lv_iconst (v := nI 0) hx hb dL_act_177 (by decide) ?_
  refine lv_iconst (v := nI 0) hx hb dL_act_178 (by decide) ?_
  refine gstepS (As := [.int (nI 18), .int (nI (y % 2)), .int (nI 0), .int (nI 0)]) (rest := []) F (kq18 l hst D cc a G (nI (y % 2)) (nI 0) (nI 0)) cwR hO hS hl rfl rfl (Nat.le_of_ble_eq_true rfl) dL_act_179 ⟨by omega, by omega⟩ (fun H locs hO hS => ?_)
  refine W.widen (k := cells + 24) (n := slots + 1600) (by omega) (by omega) ?_
  exact kk H locs ls hO hS
theorem act_183a (hst : l.stackTraces = false) (F : gF p m c cL_act 3 s args wsL_act meth (some .int) D cc A) (hx2 : x < 2 ^ 31) (hy2 : y < 2 ^ 31) (z0 : y % 2 = 0) (hO : HO D cc A a G Rw H) (hS : va_S A s.heap H locs) (hl : lv_has ls 3 [(0, .ref (a 0)), (1, .int (nI x)), (2, .int (nI y))]) (hf : cells + 24 ≤ rmAc.cells ∧ slots + 1600 ≤ rmAc.slots)
    (kk : ∀ (H : Heap) (locs : List Loc) (ls : Array Slot), HO D cc A a (nxt (apG (apG (apG (apG (apG (apG (apG (apG (apG (clG G) (nI (48 + (y % 7)))) (nI 44)) (nI (49 + ((y / 8) % 5)))) (nI (48 + ((y / 64) % 10)))) (nI 45)) (nI (49 + ((y / 1024) % 5)))) (nI (48 + ((y / 8192) % 10)))) (nI 44)) (nI (48 + ((y / 131072) % 9)))) (gDraw (apG (apG (apG (apG (apG (apG (apG (apG (apG (clG G) (nI (48 + (y % 7)))) (nI 44)) (nI (49 + ((y / 8) % 5)))) (nI (48 + ((y / 64) % 10)))) (nI 45)) (nI (49 + ((y / 1024) % 5)))) (nI (48 + ((y / 8192) % 10)))) (nI 44)) (nI (48 + ((y / 131072) % 9)))).1 (apG (apG (apG (apG (apG (apG (apG (apG (apG (clG G) (nI (48 + (y % 7)))) (nI 44)) (nI (49 + ((y / 8) % 5)))) (nI (48 + ((y / 64) % 10)))) (nI 45)) (nI (49 + ((y / 1024) % 5)))) (nI (48 + ((y / 8192) % 10)))) (nI 44)) (nI (48 + ((y / 131072) % 9)))).2.1 (apG (apG (apG (apG (apG (apG (apG (apG (apG (clG G) (nI (48 + (y % 7)))) (nI 44)) (nI (49 + ((y / 8) % 5)))) (nI (48 + ((y / 64) % 10)))) (nI 45)) (nI (49 + ((y / 1024) % 5)))) (nI (48 + ((y / 8192) % 10)))) (nI 44)) (nI (48 + ((y / 131072) % 9)))).2.2.1).2) Rw H → va_S A s.heap H locs → W p l e rmAc s m args below meth c H locs (cells + 24) (slots + 1600) Q (F0 m 343 ls [.int ((((((((((wv ((gAppend (clG G).2.1 (clG G).2.2.1 (nI (48 + (y % 7)))).1)) + (wv ((gAppend (apG (clG G) (nI (48 + (y % 7)))).2.1 (apG (clG G) (nI (48 + (y % 7)))).2.2.1 (nI 44)).1))) + (wv ((gAppend (apG (apG (clG G) (nI (48 + (y % 7)))) (nI 44)).2.1 (apG (apG (clG G) (nI (48 + (y % 7)))) (nI 44)).2.2.1 (nI (49 + ((y / 8) % 5)))).1))) + (wv ((gAppend (apG (apG (apG (clG G) (nI (48 + (y % 7)))) (nI 44)) (nI (49 + ((y / 8) % 5)))).2.1 (apG (apG (apG (clG G) (nI (48 + (y % 7)))) (nI 44)) (nI (49 + ((y / 8) % 5)))).2.2.1 (nI (48 + ((y / 64) % 10)))).1))) + (wv ((gAppend (apG (apG (apG (apG (clG G) (nI (48 + (y % 7)))) (nI 44)) (nI (49 + ((y / 8) % 5)))) (nI (48 + ((y / 64) % 10)))).2.1 (apG (apG (apG (apG (clG G) (nI (48 + (y % 7)))) (nI 44)) (nI (49 + ((y / 8) % 5)))) (nI (48 + ((y / 64) % 10)))).2.2.1 (nI 45)).1))) + (wv ((gAppend (apG (apG (apG (apG (apG (clG G) (nI (48 + (y % 7)))) (nI 44)) (nI (49 + ((y / 8) % 5)))) (nI (48 + ((y / 64) % 10)))) (nI 45)).2.1 (apG (apG (apG (apG (apG (clG G) (nI (48 + (y % 7)))) (nI 44)) (nI (49 + ((y / 8) % 5)))) (nI (48 + ((y / 64) % 10)))) (nI 45)).2.2.1 (nI (49 + ((y / 1024) % 5)))).1))) + (wv ((gAppend (apG (apG (apG (apG (apG (apG (clG G) (nI (48 + (y % 7)))) (nI 44)) (nI (49 + ((y / 8) % 5)))) (nI (48 + ((y / 64) % 10)))) (nI 45)) (nI (49 + ((y / 1024) % 5)))).2.1 (apG (apG (apG (apG (apG (apG (clG G) (nI (48 + (y % 7)))) (nI 44)) (nI (49 + ((y / 8) % 5)))) (nI (48 + ((y / 64) % 10)))) (nI 45)) (nI (49 + ((y / 1024) % 5)))).2.2.1 (nI (48 + ((y / 8192) % 10)))).1))) + (wv ((gAppend (apG (apG (apG (apG (apG (apG (apG (clG G) (nI (48 + (y % 7)))) (nI 44)) (nI (49 + ((y / 8) % 5)))) (nI (48 + ((y / 64) % 10)))) (nI 45)) (nI (49 + ((y / 1024) % 5)))) (nI (48 + ((y / 8192) % 10)))).2.1 (apG (apG (apG (apG (apG (apG (apG (clG G) (nI (48 + (y % 7)))) (nI 44)) (nI (49 + ((y / 8) % 5)))) (nI (48 + ((y / 64) % 10)))) (nI 45)) (nI (49 + ((y / 1024) % 5)))) (nI (48 + ((y / 8192) % 10)))).2.2.1 (nI 44)).1))) + (wv ((gAppend (apG (apG (apG (apG (apG (apG (apG (apG (clG G) (nI (48 + (y % 7)))) (nI 44)) (nI (49 + ((y / 8) % 5)))) (nI (48 + ((y / 64) % 10)))) (nI 45)) (nI (49 + ((y / 1024) % 5)))) (nI (48 + ((y / 8192) % 10)))) (nI 44)).2.1 (apG (apG (apG (apG (apG (apG (apG (apG (clG G) (nI (48 + (y % 7)))) (nI 44)) (nI (49 + ((y / 8) % 5)))) (nI (48 + ((y / 64) % 10)))) (nI 45)) (nI (49 + ((y / 1024) % 5)))) (nI (48 + ((y / 8192) % 10)))) (nI 44)).2.2.1 (nI (48 + ((y / 131072) % 9)))).1))) + (wv ((gDraw (apG (apG (apG (apG (apG (apG (apG (apG (apG (clG G) (nI (48 + (y % 7)))) (nI 44)) (nI (49 + ((y / 8) % 5)))) (nI (48 + ((y / 64) % 10)))) (nI 45)) (nI (49 + ((y / 1024) % 5)))) (nI (48 + ((y / 8192) % 10)))) (nI 44)) (nI (48 + ((y / 131072) % 9)))).1 (apG (apG (apG (apG (apG (apG (apG (apG (apG (clG G) (nI (48 + (y % 7)))) (nI 44)) (nI (49 + ((y / 8) % 5)))) (nI (48 + ((y / 64) % 10)))) (nI 45)) (nI (49 + ((y / 1024) % 5)))) (nI (48 + ((y / 8192) % 10)))) (nI 44)) (nI (48 + ((y / 131072) % 9)))).2.1 (apG (apG (apG (apG (apG (apG (apG (apG (apG (clG G) (nI (48 + (y % 7)))) (nI 44)) (nI (49 + ((y / 8) % 5)))) (nI (48 + ((y / 64) % 10)))) (nI 45)) (nI (49 + ((y / 1024) % 5)))) (nI (48 + ((y / 8192) % 10)))) (nI 44)) (nI (48 + ((y / 131072) % 9)))).2.2.1).1)))])) : W p l e rmAc s m args below meth c H locs cells slots Q (F0 m 183 ls []) := by
  have hx := F.1.1.1
  have hb := F.1.1.2.1
  have hown := F.1.1.2.2.2.1
  have hts := F.1.1.2.2.2.2
  have cwR := va_cwS (rm := rmK 1 6) (R := rmAc) 5 hts gL_act_L_call rfl rfl rfl (by decide +kernel) ⟨Nat.le_of_ble_eq_true rfl, Nat.le_of_ble_eq_true rfl⟩
  have cwA := va_cwS (rm := rmK 11 1443) (R := rmAc) 5 hts gL_act_L_call rfl rfl rfl (by decide +kernel) ⟨Nat.le_of_ble_eq_true rfl, Nat.le_of_ble_eq_true rfl⟩
  have cwV_clearText : ∀ (rm : Room) (mc ms : Nat), rmG rm mc ms 1 6 → CallW rmAc s args RL RX6 _ yX6_clearText _ _ _ wsX6_clearText rm mc ms 0 := fun rm mc ms h => cwV 0 hts gL_act_X6_clearText rfl h.1 h.2.1 (by decide +kernel) ⟨by show rm.frames + 1 ≤ _; have := h.2.2.2.2.1; show rm.frames + 1 ≤ 10; omega, by show 8 + (_ + 11) + rm.locals ≤ 320; have := h.2.2.2.2.2; omega⟩
  have k187 : (Cond.constant RL 187 (nI 131072)).before args s = true := hts _ (by decide +kernel)
  refine lv_aload_n hx hb dL_act_183 rfl (lv_at hl 0 rfl) ?_
  refine gstepV (rest := []) F (gN.g (sg_clearText l hst D cc a G) (G2 := clG G) rfl) cwV_clearText hO hS hl rfl (Nat.le_of_ble_eq_true rfl) dL_act_184 ⟨by omega, by omega⟩ (fun H locs hO hS => ?_)
  refine lv_pop hx hb dL_act_187 rfl ?_
  refine lv_aload_n hx hb dL_act_188 rfl (lv_at hl 0 rfl) ?_
  refine lv_iconst (v := nI 0) hx hb dL_act_189 (by decide) ?_
  refine lv_bipush (v := nI 48) hx hb dL_act_190 (by decide) ?_
  refine lv_iload_n hx hb dL_act_192 rfl (lv_at hl 2 rfl) ?_
  refine lv_bipush (v := nI 7) hx hb dL_act_193 (by decide) ?_
  refine gr_irem hx hb dL_act_195 (by omega) (by omega) (by omega) ?_
  refine gr_iadd hx hb dL_act_196 ?_
  refine lv_iconst (v := nI 0) hx hb dL_act_197 (by decide) ?_
  refine lv_iconst (v := nI 0) hx hb dL_act_198 (by decide) ?_
  refine gstepS (As := [.int (nI 0), .int (nI (48 + (y % 7))), .int (nI 0), .int (nI 0)]) (rest := []) F ((kq0 l hst D cc a (clG G) (nI (48 + (y % 7))) (nI 0) (nI 0)).g (G2 := apG (clG G) (nI (48 + (y % 7)))) rfl) cwR hO hS hl rfl rfl (Nat.le_of_ble_eq_true rfl) dL_act_199 ⟨by omega, by omega⟩ (fun H locs hO hS => ?_)
  refine lv_aload_n hx hb dL_act_202 rfl (lv_at hl 0 rfl) ?_
  refine lv_iconst (v := nI 0) hx hb dL_act_203 (by decide) ?_
  refine lv_bipush (v := nI 44) hx hb dL_act_204 (by decide) ?_
  refine lv_iconst (v := nI 0) hx hb dL_act_206 (by decide) ?_
  refine lv_iconst (v := nI 0) hx hb dL_act_207 (by decide) ?_
  refine gstepS (As := [.int (nI 0), .int (nI 44), .int (nI 0), .int (nI 0)]) (rest := [.int (wv ((gAppend (clG G).2.1 (clG G).2.2.1 (nI (48 + (y % 7)))).1))]) F ((kq0 l hst D cc a (apG (clG G) (nI (48 + (y % 7)))) (nI 44) (nI 0) (nI 0)).g (G2 := apG (apG (clG G) (nI (48 + (y % 7)))) (nI 44)) rfl) cwR hO hS hl rfl rfl (Nat.le_of_ble_eq_true rfl) dL_act_208 ⟨by omega, by omega⟩ (fun H locs hO hS => ?_)
  refine lv_iadd hx hb dL_act_211 ?_
  refine lv_aload_n hx hb dL_act_212 rfl (lv_at hl 0 rfl) ?_
  refine lv_iconst (v := nI 0) hx hb dL_act_213 (by decide) ?_
  refine lv_bipush (v := nI 49) hx hb dL_act_214 (by decide) ?_
  refine lv_iload_n hx hb dL_act_216 rfl (lv_at hl 2 rfl) ?_
  refine lv_bipush (v := nI 8) hx hb dL_act_217 (by decide) ?_
  refine gr_idiv hx hb dL_act_219 (by omega) (by omega) (by omega) ?_
  refine lv_iconst (v := nI 5) hx hb dL_act_220 (by decide) ?_
  refine gr_irem hx hb dL_act_221 (by omega) (by omega) (by omega) ?_
  refine gr_iadd hx hb dL_act_222 ?_
  refine lv_iconst (v := nI 0) hx hb dL_act_223 (by decide) ?_
  refine lv_iconst (v := nI 0) hx hb dL_act_224 (by decide) ?_
  refine gstepS (As := [.int (nI 0), .int (nI (49 + ((y / 8) % 5))), .int (nI 0), .int (nI 0)]) (rest := [.int ((wv ((gAppend (clG G).2.1 (clG G).2.2.1 (nI (48 + (y % 7)))).1)) + (wv ((gAppend (apG (clG G) (nI (48 + (y % 7)))).2.1 (apG (clG G) (nI (48 + (y % 7)))).2.2.1 (nI 44)).1)))]) F ((kq0 l hst D cc a (apG (apG (clG G) (nI (48 + (y % 7)))) (nI 44)) (nI (49 + ((y / 8) % 5))) (nI 0) (nI 0)).g (G2 := apG (apG (apG (clG G) (nI (48 + (y % 7)))) (nI 44)) (nI (49 + ((y / 8) % 5)))) rfl) cwR hO hS hl rfl rfl (Nat.le_of_ble_eq_true rfl) dL_act_225 ⟨by omega, by omega⟩ (fun H locs hO hS => ?_)
  refine lv_iadd hx hb dL_act_228 ?_
  refine lv_aload_n hx hb dL_act_229 rfl (lv_at hl 0 rfl) ?_
  refine lv_iconst (v := nI 0) hx hb dL_act_230 (by decide) ?_
  refine lv_bipush (v := nI 48) hx hb dL_act_231 (by decide) ?_
  refine lv_iload_n hx hb dL_act_233 rfl (lv_at hl 2 rfl) ?_
  refine lv_bipush (v := nI 64) hx hb dL_act_234 (by decide) ?_
  refine gr_idiv hx hb dL_act_236 (by omega) (by omega) (by omega) ?_
  refine lv_bipush (v := nI 10) hx hb dL_act_237 (by decide) ?_
  refine gr_irem hx hb dL_act_239 (by omega) (by omega) (by omega) ?_
  refine gr_iadd hx hb dL_act_240 ?_
  refine lv_iconst (v := nI 0) hx hb dL_act_241 (by decide) ?_
  refine lv_iconst (v := nI 0) hx hb dL_act_242 (by decide) ?_
  refine gstepS (As := [.int (nI 0), .int (nI (48 + ((y / 64) % 10))), .int (nI 0), .int (nI 0)]) (rest := [.int (((wv ((gAppend (clG G).2.1 (clG G).2.2.1 (nI (48 + (y % 7)))).1)) + (wv ((gAppend (apG (clG G) (nI (48 + (y % 7)))).2.1 (apG (clG G) (nI (48 + (y % 7)))).2.2.1 (nI 44)).1))) + (wv ((gAppend (apG (apG (clG G) (nI (48 + (y % 7)))) (nI 44)).2.1 (apG (apG (clG G) (nI (48 + (y % 7)))) (nI 44)).2.2.1 (nI (49 + ((y / 8) % 5)))).1)))]) F ((kq0 l hst D cc a (apG (apG (apG (clG G) (nI (48 + (y % 7)))) (nI 44)) (nI (49 + ((y / 8) % 5)))) (nI (48 + ((y / 64) % 10))) (nI 0) (nI 0)).g (G2 := apG (apG (apG (apG (clG G) (nI (48 + (y % 7)))) (nI 44)) (nI (49 + ((y / 8) % 5)))) (nI (48 + ((y / 64) % 10)))) rfl) cwR hO hS hl rfl rfl (Nat.le_of_ble_eq_true rfl) dL_act_243 ⟨by omega, by omega⟩ (fun H locs hO hS => ?_)
  refine lv_iadd hx hb dL_act_246 ?_
  refine lv_aload_n hx hb dL_act_247 rfl (lv_at hl 0 rfl) ?_
  refine lv_iconst (v := nI 0) hx hb dL_act_248 (by decide) ?_
  refine lv_iload_n hx hb dL_act_249 rfl (lv_at hl 2 rfl) ?_
  refine lv_iconst (v := nI 2) hx hb dL_act_250 (by decide) ?_
  refine gr_irem hx hb dL_act_251 (by omega) (by omega) (by omega) ?_
  refine lv_if_ne (tgt := 260) hx hb dL_act_252 (by decide) (fun c9 => absurd ((show nI (y % 2) = 0 by rw [z0]; rfl)) c9) (fun _ => ?_)
  refine lv_bipush (v := nI 45) hx hb dL_act_255 (by decide) ?_
  refine lv_goto (tgt := 262) hx hb dL_act_257 (by decide) ?_
  refine lv_iconst (v := nI 0) hx hb dL_act_262 (by decide) ?_
  refine lv_iconst (v := nI 0) hx hb dL_act_263 (by decide) ?_
  refine gstepS (As := [.int (nI 0), .int (nI 45), .int (nI 0), .int (nI 0)]) (rest := [.int ((((wv ((gAppend (clG G).2.1 (clG G).2.2.1 (nI (48 + (y % 7)))).1)) + (wv ((gAppend (apG (clG G) (nI (48 + (y % 7)))).2.1 (apG (clG G) (nI (48 + (y % 7)))).2.2.1 (nI 44)).1))) + (wv ((gAppend (apG (apG (clG G) (nI (48 + (y % 7)))) (nI 44)).2.1 (apG (apG (clG G) (nI (48 + (y % 7)))) (nI 44)).2.2.1 (nI (49 + ((y / 8) % 5)))).1))) + (wv ((gAppend (apG (apG (apG (clG G) (nI (48 + (y % 7)))) (nI 44)) (nI (49 + ((y / 8) % 5)))).2.1 (apG (apG (apG (clG G) (nI (48 + (y % 7)))) (nI 44)) (nI (49 + ((y / 8) % 5)))).2.2.1 (nI (48 + ((y / 64) % 10)))).1)))]) F ((kq0 l hst D cc a (apG (apG (apG (apG (clG G) (nI (48 + (y % 7)))) (nI 44)) (nI (49 + ((y / 8) % 5)))) (nI (48 + ((y / 64) % 10)))) (nI 45) (nI 0) (nI 0)).g (G2 := apG (apG (apG (apG (apG (clG G) (nI (48 + (y % 7)))) (nI 44)) (nI (49 + ((y / 8) % 5)))) (nI (48 + ((y / 64) % 10)))) (nI 45)) rfl) cwR hO hS hl rfl rfl (Nat.le_of_ble_eq_true rfl) dL_act_264 ⟨by omega, by omega⟩ (fun H locs hO hS => ?_)
  refine lv_iadd hx hb dL_act_267 ?_
  refine lv_aload_n hx hb dL_act_268 rfl (lv_at hl 0 rfl) ?_
  refine lv_iconst (v := nI 0) hx hb dL_act_269 (by decide) ?_
  refine lv_bipush (v := nI 49) hx hb dL_act_270 (by decide) ?_
  refine lv_iload_n hx hb dL_act_272 rfl (lv_at hl 2 rfl) ?_
  refine lv_sipush (v := nI 1024) hx hb dL_act_273 (by decide) ?_
  refine gr_idiv hx hb dL_act_276 (by omega) (by omega) (by omega) ?_
  refine lv_iconst (v := nI 5) hx hb dL_act_277 (by decide) ?_
  refine gr_irem hx hb dL_act_278 (by omega) (by omega) (by omega) ?_
  refine gr_iadd hx hb dL_act_279 ?_
  refine lv_iconst (v := nI 0) hx hb dL_act_280 (by decide) ?_
  refine lv_iconst (v := nI 0) hx hb dL_act_281 (by decide) ?_
  refine gstepS (As := [.int (nI 0), .int (nI (49 + ((y / 1024) % 5))), .int (nI 0), .int (nI 0)]) (rest := [.int (((((wv ((gAppend (clG G).2.1 (clG G).2.2.1 (nI (48 + (y % 7)))).1)) + (wv ((gAppend (apG (clG G) (nI (48 + (y % 7)))).2.1 (apG (clG G) (nI (48 + (y % 7)))).2.2.1 (nI 44)).1))) + (wv ((gAppend (apG (apG (clG G) (nI (48 + (y % 7)))) (nI 44)).2.1 (apG (apG (clG G) (nI (48 + (y % 7)))) (nI 44)).2.2.1 (nI (49 + ((y / 8) % 5)))).1))) + (wv ((gAppend (apG (apG (apG (clG G) (nI (48 + (y % 7)))) (nI 44)) (nI (49 + ((y / 8) % 5)))).2.1 (apG (apG (apG (clG G) (nI (48 + (y % 7)))) (nI 44)) (nI (49 + ((y / 8) % 5)))).2.2.1 (nI (48 + ((y / 64) % 10)))).1))) + (wv ((gAppend (apG (apG (apG (apG (clG G) (nI (48 + (y % 7)))) (nI 44)) (nI (49 + ((y / 8) % 5)))) (nI (48 + ((y / 64) % 10)))).2.1 (apG (apG (apG (apG (clG G) (nI (48 + (y % 7)))) (nI 44)) (nI (49 + ((y / 8) % 5)))) (nI (48 + ((y / 64) % 10)))).2.2.1 (nI 45)).1)))]) F ((kq0 l hst D cc a (apG (apG (apG (apG (apG (clG G) (nI (48 + (y % 7)))) (nI 44)) (nI (49 + ((y / 8) % 5)))) (nI (48 + ((y / 64) % 10)))) (nI 45)) (nI (49 + ((y / 1024) % 5))) (nI 0) (nI 0)).g (G2 := apG (apG (apG (apG (apG (apG (clG G) (nI (48 + (y % 7)))) (nI 44)) (nI (49 + ((y / 8) % 5)))) (nI (48 + ((y / 64) % 10)))) (nI 45)) (nI (49 + ((y / 1024) % 5)))) rfl) cwR hO hS hl rfl rfl (Nat.le_of_ble_eq_true rfl) dL_act_282 ⟨by omega, by omega⟩ (fun H locs hO hS => ?_)
  refine lv_iadd hx hb dL_act_285 ?_
  refine lv_aload_n hx hb dL_act_286 rfl (lv_at hl 0 rfl) ?_
  refine lv_iconst (v := nI 0) hx hb dL_act_287 (by decide) ?_
  refine lv_bipush (v := nI 48) hx hb dL_act_288 (by decide) ?_
  refine lv_iload_n hx hb dL_act_290 rfl (lv_at hl 2 rfl) ?_
  refine lv_sipush (v := nI 8192) hx hb dL_act_291 (by decide) ?_
  refine gr_idiv hx hb dL_act_294 (by omega) (by omega) (by omega) ?_
  refine lv_bipush (v := nI 10) hx hb dL_act_295 (by decide) ?_
  refine gr_irem hx hb dL_act_297 (by omega) (by omega) (by omega) ?_
  refine gr_iadd hx hb dL_act_298 ?_
  refine lv_iconst (v := nI 0) hx hb dL_act_299 (by decide) ?_
  refine lv_iconst (v := nI 0) hx hb dL_act_300 (by decide) ?_
  refine gstepS (As := [.int (nI 0), .int (nI (48 + ((y / 8192) % 10))), .int (nI 0), .int (nI 0)]) (rest := [.int ((((((wv ((gAppend (clG G).2.1 (clG G).2.2.1 (nI (48 + (y % 7)))).1)) + (wv ((gAppend (apG (clG G) (nI (48 + (y % 7)))).2.1 (apG (clG G) (nI (48 + (y % 7)))).2.2.1 (nI 44)).1))) + (wv ((gAppend (apG (apG (clG G) (nI (48 + (y % 7)))) (nI 44)).2.1 (apG (apG (clG G) (nI (48 + (y % 7)))) (nI 44)).2.2.1 (nI (49 + ((y / 8) % 5)))).1))) + (wv ((gAppend (apG (apG (apG (clG G) (nI (48 + (y % 7)))) (nI 44)) (nI (49 + ((y / 8) % 5)))).2.1 (apG (apG (apG (clG G) (nI (48 + (y % 7)))) (nI 44)) (nI (49 + ((y / 8) % 5)))).2.2.1 (nI (48 + ((y / 64) % 10)))).1))) + (wv ((gAppend (apG (apG (apG (apG (clG G) (nI (48 + (y % 7)))) (nI 44)) (nI (49 + ((y / 8) % 5)))) (nI (48 + ((y / 64) % 10)))).2.1 (apG (apG (apG (apG (clG G) (nI (48 + (y % 7)))) (nI 44)) (nI (49 + ((y / 8) % 5)))) (nI (48 + ((y / 64) % 10)))).2.2.1 (nI 45)).1))) + (wv ((gAppend (apG (apG (apG (apG (apG (clG G) (nI (48 + (y % 7)))) (nI 44)) (nI (49 + ((y / 8) % 5)))) (nI (48 + ((y / 64) % 10)))) (nI 45)).2.1 (apG (apG (apG (apG (apG (clG G) (nI (48 + (y % 7)))) (nI 44)) (nI (49 + ((y / 8) % 5)))) (nI (48 + ((y / 64) % 10)))) (nI 45)).2.2.1 (nI (49 + ((y / 1024) % 5)))).1)))]) F ((kq0 l hst D cc a (apG (apG (apG (apG (apG (apG (clG G) (nI (48 + (y % 7)))) (nI 44)) (nI (49 + ((y / 8) % 5)))) (nI (48 + ((y / 64) % 10)))) (nI 45)) (nI (49 + ((y / 1024) % 5)))) (nI (48 + ((y / 8192) % 10))) (nI 0) (nI 0)).g (G2 := apG (apG (apG (apG (apG (apG (apG (clG G) (nI (48 + (y % 7)))) (nI 44)) (nI (49 + ((y / 8) % 5)))) (nI (48 + ((y / 64) % 10)))) (nI 45)) (nI (49 + ((y / 1024) % 5)))) (nI (48 + ((y / 8192) % 10)))) rfl) cwR hO hS hl rfl rfl (Nat.le_of_ble_eq_true rfl) dL_act_301 ⟨by omega, by omega⟩ (fun H locs hO hS => ?_)
  refine lv_iadd hx hb dL_act_304 ?_
  refine lv_aload_n hx hb dL_act_305 rfl (lv_at hl 0 rfl) ?_
  refine lv_iconst (v := nI 0) hx hb dL_act_306 (by decide) ?_
  refine lv_bipush (v := nI 44) hx hb dL_act_307 (by decide) ?_
  refine lv_iconst (v := nI 0) hx hb dL_act_309 (by decide) ?_
  refine lv_iconst (v := nI 0) hx hb dL_act_310 (by decide) ?_
  refine gstepS (As := [.int (nI 0), .int (nI 44), .int (nI 0), .int (nI 0)]) (rest := [.int (((((((wv ((gAppend (clG G).2.1 (clG G).2.2.1 (nI (48 + (y % 7)))).1)) + (wv ((gAppend (apG (clG G) (nI (48 + (y % 7)))).2.1 (apG (clG G) (nI (48 + (y % 7)))).2.2.1 (nI 44)).1))) + (wv ((gAppend (apG (apG (clG G) (nI (48 + (y % 7)))) (nI 44)).2.1 (apG (apG (clG G) (nI (48 + (y % 7)))) (nI 44)).2.2.1 (nI (49 + ((y / 8) % 5)))).1))) + (wv ((gAppend (apG (apG (apG (clG G) (nI (48 + (y % 7)))) (nI 44)) (nI (49 + ((y / 8) % 5)))).2.1 (apG (apG (apG (clG G) (nI (48 + (y % 7)))) (nI 44)) (nI (49 + ((y / 8) % 5)))).2.2.1 (nI (48 + ((y / 64) % 10)))).1))) + (wv ((gAppend (apG (apG (apG (apG (clG G) (nI (48 + (y % 7)))) (nI 44)) (nI (49 + ((y / 8) % 5)))) (nI (48 + ((y / 64) % 10)))).2.1 (apG (apG (apG (apG (clG G) (nI (48 + (y % 7)))) (nI 44)) (nI (49 + ((y / 8) % 5)))) (nI (48 + ((y / 64) % 10)))).2.2.1 (nI 45)).1))) + (wv ((gAppend (apG (apG (apG (apG (apG (clG G) (nI (48 + (y % 7)))) (nI 44)) (nI (49 + ((y / 8) % 5)))) (nI (48 + ((y / 64) % 10)))) (nI 45)).2.1 (apG (apG (apG (apG (apG (clG G) (nI (48 + (y % 7)))) (nI 44)) (nI (49 + ((y / 8) % 5)))) (nI (48 + ((y / 64) % 10)))) (nI 45)).2.2.1 (nI (49 + ((y / 1024) % 5)))).1))) + (wv ((gAppend (apG (apG (apG (apG (apG (apG (clG G) (nI (48 + (y % 7)))) (nI 44)) (nI (49 + ((y / 8) % 5)))) (nI (48 + ((y / 64) % 10)))) (nI 45)) (nI (49 + ((y / 1024) % 5)))).2.1 (apG (apG (apG (apG (apG (apG (clG G) (nI (48 + (y % 7)))) (nI 44)) (nI (49 + ((y / 8) % 5)))) (nI (48 + ((y / 64) % 10)))) (nI 45)) (nI (49 + ((y / 1024) % 5)))).2.2.1 (nI (48 + ((y / 8192) % 10)))).1)))]) F ((kq0 l hst D cc a (apG (apG (apG (apG (apG (apG (apG (clG G) (nI (48 + (y % 7)))) (nI 44)) (nI (49 + ((y / 8) % 5)))) (nI (48 + ((y / 64) % 10)))) (nI 45)) (nI (49 + ((y / 1024) % 5)))) (nI (48 + ((y / 8192) % 10)))) (nI 44) (nI 0) (nI 0)).g (G2 := apG (apG (apG (apG (apG (apG (apG (apG (clG G) (nI (48 + (y % 7)))) (nI 44)) (nI (49 + ((y / 8) % 5)))) (nI (48 + ((y / 64) % 10)))) (nI 45)) (nI (49 + ((y / 1024) % 5)))) (nI (48 + ((y / 8192) % 10)))) (nI 44)) rfl) cwR hO hS hl rfl rfl (Nat.le_of_ble_eq_true rfl) dL_act_311 ⟨by omega, by omega⟩ (fun H locs hO hS => ?_)
  refine lv_iadd hx hb dL_act_314 ?_
  refine lv_aload_n hx hb dL_act_315 rfl (lv_at hl 0 rfl) ?_
  refine lv_iconst (v := nI 0) hx hb dL_act_316 (by decide) ?_
  refine lv_bipush (v := nI 48) hx hb dL_act_317 (by decide) ?_
  refine lv_iload_n hx hb dL_act_319 rfl (lv_at hl 2 rfl) ?_
  refine lv_ldc (v := nI 131072) hx hb hown k187 dL_act_320 ?_
  refine gr_idiv hx hb dL_act_322 (by omega) (by omega) (by omega) ?_
  refine lv_bipush (v := nI 9) hx hb dL_act_323 (by decide) ?_
  refine gr_irem hx hb dL_act_325 (by omega) (by omega) (by omega) ?_
  refine gr_iadd hx hb dL_act_326 ?_
  refine lv_iconst (v := nI 0) hx hb dL_act_327 (by decide) ?_
  refine lv_iconst (v := nI 0) hx hb dL_act_328 (by decide) ?_
  refine gstepS (As := [.int (nI 0), .int (nI (48 + ((y / 131072) % 9))), .int (nI 0), .int (nI 0)]) (rest := [.int ((((((((wv ((gAppend (clG G).2.1 (clG G).2.2.1 (nI (48 + (y % 7)))).1)) + (wv ((gAppend (apG (clG G) (nI (48 + (y % 7)))).2.1 (apG (clG G) (nI (48 + (y % 7)))).2.2.1 (nI 44)).1))) + (wv ((gAppend (apG (apG (clG G) (nI (48 + (y % 7)))) (nI 44)).2.1 (apG (apG (clG G) (nI (48 + (y % 7)))) (nI 44)).2.2.1 (nI (49 + ((y / 8) % 5)))).1))) + (wv ((gAppend (apG (apG (apG (clG G) (nI (48 + (y % 7)))) (nI 44)) (nI (49 + ((y / 8) % 5)))).2.1 (apG (apG (apG (clG G) (nI (48 + (y % 7)))) (nI 44)) (nI (49 + ((y / 8) % 5)))).2.2.1 (nI (48 + ((y / 64) % 10)))).1))) + (wv ((gAppend (apG (apG (apG (apG (clG G) (nI (48 + (y % 7)))) (nI 44)) (nI (49 + ((y / 8) % 5)))) (nI (48 + ((y / 64) % 10)))).2.1 (apG (apG (apG (apG (clG G) (nI (48 + (y % 7)))) (nI 44)) (nI (49 + ((y / 8) % 5)))) (nI (48 + ((y / 64) % 10)))).2.2.1 (nI 45)).1))) + (wv ((gAppend (apG (apG (apG (apG (apG (clG G) (nI (48 + (y % 7)))) (nI 44)) (nI (49 + ((y / 8) % 5)))) (nI (48 + ((y / 64) % 10)))) (nI 45)).2.1 (apG (apG (apG (apG (apG (clG G) (nI (48 + (y % 7)))) (nI 44)) (nI (49 + ((y / 8) % 5)))) (nI (48 + ((y / 64) % 10)))) (nI 45)).2.2.1 (nI (49 + ((y / 1024) % 5)))).1))) + (wv ((gAppend (apG (apG (apG (apG (apG (apG (clG G) (nI (48 + (y % 7)))) (nI 44)) (nI (49 + ((y / 8) % 5)))) (nI (48 + ((y / 64) % 10)))) (nI 45)) (nI (49 + ((y / 1024) % 5)))).2.1 (apG (apG (apG (apG (apG (apG (clG G) (nI (48 + (y % 7)))) (nI 44)) (nI (49 + ((y / 8) % 5)))) (nI (48 + ((y / 64) % 10)))) (nI 45)) (nI (49 + ((y / 1024) % 5)))).2.2.1 (nI (48 + ((y / 8192) % 10)))).1))) + (wv ((gAppend (apG (apG (apG (apG (apG (apG (apG (clG G) (nI (48 + (y % 7)))) (nI 44)) (nI (49 + ((y / 8) % 5)))) (nI (48 + ((y / 64) % 10)))) (nI 45)) (nI (49 + ((y / 1024) % 5)))) (nI (48 + ((y / 8192) % 10)))).2.1 (apG (apG (apG (apG (apG (apG (apG (clG G) (nI (48 + (y % 7)))) (nI 44)) (nI (49 + ((y / 8) % 5)))) (nI (48 + ((y / 64) % 10)))) (nI 45)) (nI (49 + ((y / 1024) % 5)))) (nI (48 + ((y / 8192) % 10)))).2.2.1 (nI 44)).1)))]) F ((kq0 l hst D cc a (apG (apG (apG (apG (apG (apG (apG (apG (clG G) (nI (48 + (y % 7)))) (nI 44)) (nI (49 + ((y / 8) % 5)))) (nI (48 + ((y / 64) % 10)))) (nI 45)) (nI (49 + ((y / 1024) % 5)))) (nI (48 + ((y / 8192) % 10)))) (nI 44)) (nI (48 + ((y / 131072) % 9))) (nI 0) (nI 0)).g (G2 := apG (apG (apG (apG (apG (apG (apG (apG (apG (clG G) (nI (48 + (y % 7)))) (nI 44)) (nI (49 + ((y / 8) % 5)))) (nI (48 + ((y / 64) % 10)))) (nI 45)) (nI (49 + ((y / 1024) % 5)))) (nI (48 + ((y / 8192) % 10)))) (nI 44)) (nI (48 + ((y / 131072) % 9)))) rfl) cwR hO hS hl rfl rfl (Nat.le_of_ble_eq_true rfl) dL_act_329 ⟨by omega, by omega⟩ (fun H locs hO hS => ?_)
  refine lv_iadd hx hb dL_act_332 ?_
  refine lv_aload_n hx hb dL_act_333 rfl (lv_at hl 0 rfl) ?_
  refine lv_bipush (v := nI 8) hx hb dL_act_334 (by decide) ?_
  refine lv_iconst (v := nI 0) hx hb dL_act_336 (by decide) ?_
  refine lv_iconst (v := nI 0) hx hb dL_act_337 (by decide) ?_
  refine lv_iconst (v := nI 0) hx hb dL_act_338 (by decide) ?_
  refine gstepS (As := [.int (nI 8), .int (nI 0), .int (nI 0), .int (nI 0)]) (rest := [.int (((((((((wv ((gAppend (clG G).2.1 (clG G).2.2.1 (nI (48 + (y % 7)))).1)) + (wv ((gAppend (apG (clG G) (nI (48 + (y % 7)))).2.1 (apG (clG G) (nI (48 + (y % 7)))).2.2.1 (nI 44)).1))) + (wv ((gAppend (apG (apG (clG G) (nI (48 + (y % 7)))) (nI 44)).2.1 (apG (apG (clG G) (nI (48 + (y % 7)))) (nI 44)).2.2.1 (nI (49 + ((y / 8) % 5)))).1))) + (wv ((gAppend (apG (apG (apG (clG G) (nI (48 + (y % 7)))) (nI 44)) (nI (49 + ((y / 8) % 5)))).2.1 (apG (apG (apG (clG G) (nI (48 + (y % 7)))) (nI 44)) (nI (49 + ((y / 8) % 5)))).2.2.1 (nI (48 + ((y / 64) % 10)))).1))) + (wv ((gAppend (apG (apG (apG (apG (clG G) (nI (48 + (y % 7)))) (nI 44)) (nI (49 + ((y / 8) % 5)))) (nI (48 + ((y / 64) % 10)))).2.1 (apG (apG (apG (apG (clG G) (nI (48 + (y % 7)))) (nI 44)) (nI (49 + ((y / 8) % 5)))) (nI (48 + ((y / 64) % 10)))).2.2.1 (nI 45)).1))) + (wv ((gAppend (apG (apG (apG (apG (apG (clG G) (nI (48 + (y % 7)))) (nI 44)) (nI (49 + ((y / 8) % 5)))) (nI (48 + ((y / 64) % 10)))) (nI 45)).2.1 (apG (apG (apG (apG (apG (clG G) (nI (48 + (y % 7)))) (nI 44)) (nI (49 + ((y / 8) % 5)))) (nI (48 + ((y / 64) % 10)))) (nI 45)).2.2.1 (nI (49 + ((y / 1024) % 5)))).1))) + (wv ((gAppend (apG (apG (apG (apG (apG (apG (clG G) (nI (48 + (y % 7)))) (nI 44)) (nI (49 + ((y / 8) % 5)))) (nI (48 + ((y / 64) % 10)))) (nI 45)) (nI (49 + ((y / 1024) % 5)))).2.1 (apG (apG (apG (apG (apG (apG (clG G) (nI (48 + (y % 7)))) (nI 44)) (nI (49 + ((y / 8) % 5)))) (nI (48 + ((y / 64) % 10)))) (nI 45)) (nI (49 + ((y / 1024) % 5)))).2.2.1 (nI (48 + ((y / 8192) % 10)))).1))) + (wv ((gAppend (apG (apG (apG (apG (apG (apG (apG (clG G) (nI (48 + (y % 7)))) (nI 44)) (nI (49 + ((y / 8) % 5)))) (nI (48 + ((y / 64) % 10)))) (nI 45)) (nI (49 + ((y / 1024) % 5)))) (nI (48 + ((y / 8192) % 10)))).2.1 (apG (apG (apG (apG (apG (apG (apG (clG G) (nI (48 + (y % 7)))) (nI 44)) (nI (49 + ((y / 8) % 5)))) (nI (48 + ((y / 64) % 10)))) (nI 45)) (nI (49 + ((y / 1024) % 5)))) (nI (48 + ((y / 8192) % 10)))).2.2.1 (nI 44)).1))) + (wv ((gAppend (apG (apG (apG (apG (apG (apG (apG (apG (clG G) (nI (48 + (y % 7)))) (nI 44)) (nI (49 + ((y / 8) % 5)))) (nI (48 + ((y / 64) % 10)))) (nI 45)) (nI (49 + ((y / 1024) % 5)))) (nI (48 + ((y / 8192) % 10)))) (nI 44)).2.1 (apG (apG (apG (apG (apG (apG (apG (apG (clG G) (nI (48 + (y % 7)))) (nI 44)) (nI (49 + ((y / 8) % 5)))) (nI (48 + ((y / 64) % 10)))) (nI 45)) (nI (49 + ((y / 1024) % 5)))) (nI (48 + ((y / 8192) % 10)))) (nI 44)).2.2.1 (nI (48 + ((y / 131072) % 9)))).1)))]) F (kq8 l hst D cc a (apG (apG (apG (apG (apG (apG (apG (apG (apG (clG G) (nI (48 + (y % 7)))) (nI 44)) (nI (49 + ((y / 8) % 5)))) (nI (48 + ((y / 64) % 10)))) (nI 45)) (nI (49 + ((y / 1024) % 5)))) (nI (48 + ((y / 8192) % 10)))) (nI 44)) (nI (48 + ((y / 131072) % 9)))) (nI 0) (nI 0) (nI 0)) cwA hO hS hl rfl rfl (Nat.le_of_ble_eq_true rfl) dL_act_339 ⟨by omega, by omega⟩ (fun H locs hO hS => ?_)
  refine lv_iadd hx hb dL_act_342 ?_
  refine W.widen (k := cells + 24) (n := slots + 1600) (by omega) (by omega) ?_
  exact kk H locs ls hO hS
theorem act_183b (hst : l.stackTraces = false) (F : gF p m c cL_act 3 s args wsL_act meth (some .int) D cc A) (hx2 : x < 2 ^ 31) (hy2 : y < 2 ^ 31) (z0 : ¬ y % 2 = 0) (hO : HO D cc A a G Rw H) (hS : va_S A s.heap H locs) (hl : lv_has ls 3 [(0, .ref (a 0)), (1, .int (nI x)), (2, .int (nI y))]) (hf : cells + 24 ≤ rmAc.cells ∧ slots + 1600 ≤ rmAc.slots)
    (kk : ∀ (H : Heap) (locs : List Loc) (ls : Array Slot), HO D cc A a (nxt (apG (apG (apG (apG (apG (apG (apG (apG (apG (clG G) (nI (48 + (y % 7)))) (nI 44)) (nI (49 + ((y / 8) % 5)))) (nI (48 + ((y / 64) % 10)))) (nI 47)) (nI (49 + ((y / 1024) % 5)))) (nI (48 + ((y / 8192) % 10)))) (nI 44)) (nI (48 + ((y / 131072) % 9)))) (gDraw (apG (apG (apG (apG (apG (apG (apG (apG (apG (clG G) (nI (48 + (y % 7)))) (nI 44)) (nI (49 + ((y / 8) % 5)))) (nI (48 + ((y / 64) % 10)))) (nI 47)) (nI (49 + ((y / 1024) % 5)))) (nI (48 + ((y / 8192) % 10)))) (nI 44)) (nI (48 + ((y / 131072) % 9)))).1 (apG (apG (apG (apG (apG (apG (apG (apG (apG (clG G) (nI (48 + (y % 7)))) (nI 44)) (nI (49 + ((y / 8) % 5)))) (nI (48 + ((y / 64) % 10)))) (nI 47)) (nI (49 + ((y / 1024) % 5)))) (nI (48 + ((y / 8192) % 10)))) (nI 44)) (nI (48 + ((y / 131072) % 9)))).2.1 (apG (apG (apG (apG (apG (apG (apG (apG (apG (clG G) (nI (48 + (y % 7)))) (nI 44)) (nI (49 + ((y / 8) % 5)))) (nI (48 + ((y / 64) % 10)))) (nI 47)) (nI (49 + ((y / 1024) % 5)))) (nI (48 + ((y / 8192) % 10)))) (nI 44)) (nI (48 + ((y / 131072) % 9)))).2.2.1).2) Rw H → va_S A s.heap H locs → W p l e rmAc s m args below meth c H locs (cells + 24) (slots + 1600) Q (F0 m 343 ls [.int ((((((((((wv ((gAppend (clG G).2.1 (clG G).2.2.1 (nI (48 + (y % 7)))).1)) + (wv ((gAppend (apG (clG G) (nI (48 + (y % 7)))).2.1 (apG (clG G) (nI (48 + (y % 7)))).2.2.1 (nI 44)).1))) + (wv ((gAppend (apG (apG (clG G) (nI (48 + (y % 7)))) (nI 44)).2.1 (apG (apG (clG G) (nI (48 + (y % 7)))) (nI 44)).2.2.1 (nI (49 + ((y / 8) % 5)))).1))) + (wv ((gAppend (apG (apG (apG (clG G) (nI (48 + (y % 7)))) (nI 44)) (nI (49 + ((y / 8) % 5)))).2.1 (apG (apG (apG (clG G) (nI (48 + (y % 7)))) (nI 44)) (nI (49 + ((y / 8) % 5)))).2.2.1 (nI (48 + ((y / 64) % 10)))).1))) + (wv ((gAppend (apG (apG (apG (apG (clG G) (nI (48 + (y % 7)))) (nI 44)) (nI (49 + ((y / 8) % 5)))) (nI (48 + ((y / 64) % 10)))).2.1 (apG (apG (apG (apG (clG G) (nI (48 + (y % 7)))) (nI 44)) (nI (49 + ((y / 8) % 5)))) (nI (48 + ((y / 64) % 10)))).2.2.1 (nI 47)).1))) + (wv ((gAppend (apG (apG (apG (apG (apG (clG G) (nI (48 + (y % 7)))) (nI 44)) (nI (49 + ((y / 8) % 5)))) (nI (48 + ((y / 64) % 10)))) (nI 47)).2.1 (apG (apG (apG (apG (apG (clG G) (nI (48 + (y % 7)))) (nI 44)) (nI (49 + ((y / 8) % 5)))) (nI (48 + ((y / 64) % 10)))) (nI 47)).2.2.1 (nI (49 + ((y / 1024) % 5)))).1))) + (wv ((gAppend (apG (apG (apG (apG (apG (apG (clG G) (nI (48 + (y % 7)))) (nI 44)) (nI (49 + ((y / 8) % 5)))) (nI (48 + ((y / 64) % 10)))) (nI 47)) (nI (49 + ((y / 1024) % 5)))).2.1 (apG (apG (apG (apG (apG (apG (clG G) (nI (48 + (y % 7)))) (nI 44)) (nI (49 + ((y / 8) % 5)))) (nI (48 + ((y / 64) % 10)))) (nI 47)) (nI (49 + ((y / 1024) % 5)))).2.2.1 (nI (48 + ((y / 8192) % 10)))).1))) + (wv ((gAppend (apG (apG (apG (apG (apG (apG (apG (clG G) (nI (48 + (y % 7)))) (nI 44)) (nI (49 + ((y / 8) % 5)))) (nI (48 + ((y / 64) % 10)))) (nI 47)) (nI (49 + ((y / 1024) % 5)))) (nI (48 + ((y / 8192) % 10)))).2.1 (apG (apG (apG (apG (apG (apG (apG (clG G) (nI (48 + (y % 7)))) (nI 44)) (nI (49 + ((y / 8) % 5)))) (nI (48 + ((y / 64) % 10)))) (nI 47)) (nI (49 + ((y / 1024) % 5)))) (nI (48 + ((y / 8192) % 10)))).2.2.1 (nI 44)).1))) + (wv ((gAppend (apG (apG (apG (apG (apG (apG (apG (apG (clG G) (nI (48 + (y % 7)))) (nI 44)) (nI (49 + ((y / 8) % 5)))) (nI (48 + ((y / 64) % 10)))) (nI 47)) (nI (49 + ((y / 1024) % 5)))) (nI (48 + ((y / 8192) % 10)))) (nI 44)).2.1 (apG (apG (apG (apG (apG (apG (apG (apG (clG G) (nI (48 + (y % 7)))) (nI 44)) (nI (49 + ((y / 8) % 5)))) (nI (48 + ((y / 64) % 10)))) (nI 47)) (nI (49 + ((y / 1024) % 5)))) (nI (48 + ((y / 8192) % 10)))) (nI 44)).2.2.1 (nI (48 + ((y / 131072) % 9)))).1))) + (wv ((gDraw (apG (apG (apG (apG (apG (apG (apG (apG (apG (clG G) (nI (48 + (y % 7)))) (nI 44)) (nI (49 + ((y / 8) % 5)))) (nI (48 + ((y / 64) % 10)))) (nI 47)) (nI (49 + ((y / 1024) % 5)))) (nI (48 + ((y / 8192) % 10)))) (nI 44)) (nI (48 + ((y / 131072) % 9)))).1 (apG (apG (apG (apG (apG (apG (apG (apG (apG (clG G) (nI (48 + (y % 7)))) (nI 44)) (nI (49 + ((y / 8) % 5)))) (nI (48 + ((y / 64) % 10)))) (nI 47)) (nI (49 + ((y / 1024) % 5)))) (nI (48 + ((y / 8192) % 10)))) (nI 44)) (nI (48 + ((y / 131072) % 9)))).2.1 (apG (apG (apG (apG (apG (apG (apG (apG (apG (clG G) (nI (48 + (y % 7)))) (nI 44)) (nI (49 + ((y / 8) % 5)))) (nI (48 + ((y / 64) % 10)))) (nI 47)) (nI (49 + ((y / 1024) % 5)))) (nI (48 + ((y / 8192) % 10)))) (nI 44)) (nI (48 + ((y / 131072) % 9)))).2.2.1).1)))])) : W p l e rmAc s m args below meth c H locs cells slots Q (F0 m 183 ls []) := by
  have hx := F.1.1.1
  have hb := F.1.1.2.1
  have hown := F.1.1.2.2.2.1
  have hts := F.1.1.2.2.2.2
  have cwR := va_cwS (rm := rmK 1 6) (R := rmAc) 5 hts gL_act_L_call rfl rfl rfl (by decide +kernel) ⟨Nat.le_of_ble_eq_true rfl, Nat.le_of_ble_eq_true rfl⟩
  have cwA := va_cwS (rm := rmK 11 1443) (R := rmAc) 5 hts gL_act_L_call rfl rfl rfl (by decide +kernel) ⟨Nat.le_of_ble_eq_true rfl, Nat.le_of_ble_eq_true rfl⟩
  have cwV_clearText : ∀ (rm : Room) (mc ms : Nat), rmG rm mc ms 1 6 → CallW rmAc s args RL RX6 _ yX6_clearText _ _ _ wsX6_clearText rm mc ms 0 := fun rm mc ms h => cwV 0 hts gL_act_X6_clearText rfl h.1 h.2.1 (by decide +kernel) ⟨by show rm.frames + 1 ≤ _; have := h.2.2.2.2.1; show rm.frames + 1 ≤ 10; omega, by show 8 + (_ + 11) + rm.locals ≤ 320; have := h.2.2.2.2.2; omega⟩
  have k187 : (Cond.constant RL 187 (nI 131072)).before args s = true := hts _ (by decide +kernel)
  refine lv_aload_n hx hb dL_act_183 rfl (lv_at hl 0 rfl) ?_
  refine gstepV (rest := []) F (gN.g (sg_clearText l hst D cc a G) (G2 := clG G) rfl) cwV_clearText hO hS hl rfl (Nat.le_of_ble_eq_true rfl) dL_act_184 ⟨by omega, by omega⟩ (fun H locs hO hS => ?_)
  refine lv_pop hx hb dL_act_187 rfl ?_
  refine lv_aload_n hx hb dL_act_188 rfl (lv_at hl 0 rfl) ?_
  refine lv_iconst (v := nI 0) hx hb dL_act_189 (by decide) ?_
  refine lv_bipush (v := nI 48) hx hb dL_act_190 (by decide) ?_
  refine lv_iload_n hx hb dL_act_192 rfl (lv_at hl 2 rfl) ?_
  refine lv_bipush (v := nI 7) hx hb dL_act_193 (by decide) ?_
  refine gr_irem hx hb dL_act_195 (by omega) (by omega) (by omega) ?_
  refine gr_iadd hx hb dL_act_196 ?_
  refine lv_iconst (v := nI 0) hx hb dL_act_197 (by decide) ?_
  refine lv_iconst (v := nI 0) hx hb dL_act_198 (by decide) ?_
  refine gstepS (As := [.int (nI 0), .int (nI (48 + (y % 7))), .int (nI 0), .int (nI 0)]) (rest := []) F ((kq0 l hst D cc a (clG G) (nI (48 + (y % 7))) (nI 0) (nI 0)).g (G2 := apG (clG G) (nI (48 + (y % 7)))) rfl) cwR hO hS hl rfl rfl (Nat.le_of_ble_eq_true rfl) dL_act_199 ⟨by omega, by omega⟩ (fun H locs hO hS => ?_)
  refine lv_aload_n hx hb dL_act_202 rfl (lv_at hl 0 rfl) ?_
  refine lv_iconst (v := nI 0) hx hb dL_act_203 (by decide) ?_
  refine lv_bipush (v := nI 44) hx hb dL_act_204 (by decide) ?_
  refine lv_iconst (v := nI 0) hx hb dL_act_206 (by decide) ?_
  refine lv_iconst (v := nI 0) hx hb dL_act_207 (by decide) ?_
  refine gstepS (As := [.int (nI 0), .int (nI 44), .int (nI 0), .int (nI 0)]) (rest := [.int (wv ((gAppend (clG G).2.1 (clG G).2.2.1 (nI (48 + (y % 7)))).1))]) F ((kq0 l hst D cc a (apG (clG G) (nI (48 + (y % 7)))) (nI 44) (nI 0) (nI 0)).g (G2 := apG (apG (clG G) (nI (48 + (y % 7)))) (nI 44)) rfl) cwR hO hS hl rfl rfl (Nat.le_of_ble_eq_true rfl) dL_act_208 ⟨by omega, by omega⟩ (fun H locs hO hS => ?_)
  refine lv_iadd hx hb dL_act_211 ?_
  refine lv_aload_n hx hb dL_act_212 rfl (lv_at hl 0 rfl) ?_
  refine lv_iconst (v := nI 0) hx hb dL_act_213 (by decide) ?_
  refine lv_bipush (v := nI 49) hx hb dL_act_214 (by decide) ?_
  refine lv_iload_n hx hb dL_act_216 rfl (lv_at hl 2 rfl) ?_
  refine lv_bipush (v := nI 8) hx hb dL_act_217 (by decide) ?_
  refine gr_idiv hx hb dL_act_219 (by omega) (by omega) (by omega) ?_
  refine lv_iconst (v := nI 5) hx hb dL_act_220 (by decide) ?_
  refine gr_irem hx hb dL_act_221 (by omega) (by omega) (by omega) ?_
  refine gr_iadd hx hb dL_act_222 ?_
  refine lv_iconst (v := nI 0) hx hb dL_act_223 (by decide) ?_
  refine lv_iconst (v := nI 0) hx hb dL_act_224 (by decide) ?_
  refine gstepS (As := [.int (nI 0), .int (nI (49 + ((y / 8) % 5))), .int (nI 0), .int (nI 0)]) (rest := [.int ((wv ((gAppend (clG G).2.1 (clG G).2.2.1 (nI (48 + (y % 7)))).1)) + (wv ((gAppend (apG (clG G) (nI (48 + (y % 7)))).2.1 (apG (clG G) (nI (48 + (y % 7)))).2.2.1 (nI 44)).1)))]) F ((kq0 l hst D cc a (apG (apG (clG G) (nI (48 + (y % 7)))) (nI 44)) (nI (49 + ((y / 8) % 5))) (nI 0) (nI 0)).g (G2 := apG (apG (apG (clG G) (nI (48 + (y % 7)))) (nI 44)) (nI (49 + ((y / 8) % 5)))) rfl) cwR hO hS hl rfl rfl (Nat.le_of_ble_eq_true rfl) dL_act_225 ⟨by omega, by omega⟩ (fun H locs hO hS => ?_)
  refine lv_iadd hx hb dL_act_228 ?_
  refine lv_aload_n hx hb dL_act_229 rfl (lv_at hl 0 rfl) ?_
  refine lv_iconst (v := nI 0) hx hb dL_act_230 (by decide) ?_
  refine lv_bipush (v := nI 48) hx hb dL_act_231 (by decide) ?_
  refine lv_iload_n hx hb dL_act_233 rfl (lv_at hl 2 rfl) ?_
  refine lv_bipush (v := nI 64) hx hb dL_act_234 (by decide) ?_
  refine gr_idiv hx hb dL_act_236 (by omega) (by omega) (by omega) ?_
  refine lv_bipush (v := nI 10) hx hb dL_act_237 (by decide) ?_
  refine gr_irem hx hb dL_act_239 (by omega) (by omega) (by omega) ?_
  refine gr_iadd hx hb dL_act_240 ?_
  refine lv_iconst (v := nI 0) hx hb dL_act_241 (by decide) ?_
  refine lv_iconst (v := nI 0) hx hb dL_act_242 (by decide) ?_
  refine gstepS (As := [.int (nI 0), .int (nI (48 + ((y / 64) % 10))), .int (nI 0), .int (nI 0)]) (rest := [.int (((wv ((gAppend (clG G).2.1 (clG G).2.2.1 (nI (48 + (y % 7)))).1)) + (wv ((gAppend (apG (clG G) (nI (48 + (y % 7)))).2.1 (apG (clG G) (nI (48 + (y % 7)))).2.2.1 (nI 44)).1))) + (wv ((gAppend (apG (apG (clG G) (nI (48 + (y % 7)))) (nI 44)).2.1 (apG (apG (clG G) (nI (48 + (y % 7)))) (nI 44)).2.2.1 (nI (49 + ((y / 8) % 5)))).1)))]) F ((kq0 l hst D cc a (apG (apG (apG (clG G) (nI (48 + (y % 7)))) (nI 44)) (nI (49 + ((y / 8) % 5)))) (nI (48 + ((y / 64) % 10))) (nI 0) (nI 0)).g (G2 := apG (apG (apG (apG (clG G) (nI (48 + (y % 7)))) (nI 44)) (nI (49 + ((y / 8) % 5)))) (nI (48 + ((y / 64) % 10)))) rfl) cwR hO hS hl rfl rfl (Nat.le_of_ble_eq_true rfl) dL_act_243 ⟨by omega, by omega⟩ (fun H locs hO hS => ?_)
  refine lv_iadd hx hb dL_act_246 ?_
  refine lv_aload_n hx hb dL_act_247 rfl (lv_at hl 0 rfl) ?_
  refine lv_iconst (v := nI 0) hx hb dL_act_248 (by decide) ?_
  refine lv_iload_n hx hb dL_act_249 rfl (lv_at hl 2 rfl) ?_
  refine lv_iconst (v := nI 2) hx hb dL_act_250 (by decide) ?_
  refine gr_irem hx hb dL_act_251 (by omega) (by omega) (by omega) ?_
  refine lv_if_ne (tgt := 260) hx hb dL_act_252 (by decide) (fun _ => ?_) (fun c9 => absurd c9 (nI_ne0 (by omega) (by omega)))
  refine lv_bipush (v := nI 47) hx hb dL_act_260 (by decide) ?_
  refine lv_iconst (v := nI 0) hx hb dL_act_262 (by decide) ?_
  refine lv_iconst (v := nI 0) hx hb dL_act_263 (by decide) ?_
  refine gstepS (As := [.int (nI 0), .int (nI 47), .int (nI 0), .int (nI 0)]) (rest := [.int ((((wv ((gAppend (clG G).2.1 (clG G).2.2.1 (nI (48 + (y % 7)))).1)) + (wv ((gAppend (apG (clG G) (nI (48 + (y % 7)))).2.1 (apG (clG G) (nI (48 + (y % 7)))).2.2.1 (nI 44)).1))) + (wv ((gAppend (apG (apG (clG G) (nI (48 + (y % 7)))) (nI 44)).2.1 (apG (apG (clG G) (nI (48 + (y % 7)))) (nI 44)).2.2.1 (nI (49 + ((y / 8) % 5)))).1))) + (wv ((gAppend (apG (apG (apG (clG G) (nI (48 + (y % 7)))) (nI 44)) (nI (49 + ((y / 8) % 5)))).2.1 (apG (apG (apG (clG G) (nI (48 + (y % 7)))) (nI 44)) (nI (49 + ((y / 8) % 5)))).2.2.1 (nI (48 + ((y / 64) % 10)))).1)))]) F ((kq0 l hst D cc a (apG (apG (apG (apG (clG G) (nI (48 + (y % 7)))) (nI 44)) (nI (49 + ((y / 8) % 5)))) (nI (48 + ((y / 64) % 10)))) (nI 47) (nI 0) (nI 0)).g (G2 := apG (apG (apG (apG (apG (clG G) (nI (48 + (y % 7)))) (nI 44)) (nI (49 + ((y / 8) % 5)))) (nI (48 + ((y / 64) % 10)))) (nI 47)) rfl) cwR hO hS hl rfl rfl (Nat.le_of_ble_eq_true rfl) dL_act_264 ⟨by omega, by omega⟩ (fun H locs hO hS => ?_)
  refine lv_iadd hx hb dL_act_267 ?_
  refine lv_aload_n hx hb dL_act_268 rfl (lv_at hl 0 rfl) ?_
  refine lv_iconst (v := nI 0) hx hb dL_act_269 (by decide) ?_
  refine lv_bipush (v := nI 49) hx hb dL_act_270 (by decide) ?_
  refine lv_iload_n hx hb dL_act_272 rfl (lv_at hl 2 rfl) ?_
  refine lv_sipush (v := nI 1024) hx hb dL_act_273 (by decide) ?_
  refine gr_idiv hx hb dL_act_276 (by omega) (by omega) (by omega) ?_
  refine lv_iconst (v := nI 5) hx hb dL_act_277 (by decide) ?_
  refine gr_irem hx hb dL_act_278 (by omega) (by omega) (by omega) ?_
  refine gr_iadd hx hb dL_act_279 ?_
  refine lv_iconst (v := nI 0) hx hb dL_act_280 (by decide) ?_
  refine lv_iconst (v := nI 0) hx hb dL_act_281 (by decide) ?_
  refine gstepS (As := [.int (nI 0), .int (nI (49 + ((y / 1024) % 5))), .int (nI 0), .int (nI 0)]) (rest := [.int (((((wv ((gAppend (clG G).2.1 (clG G).2.2.1 (nI (48 + (y % 7)))).1)) + (wv ((gAppend (apG (clG G) (nI (48 + (y % 7)))).2.1 (apG (clG G) (nI (48 + (y % 7)))).2.2.1 (nI 44)).1))) + (wv ((gAppend (apG (apG (clG G) (nI (48 + (y % 7)))) (nI 44)).2.1 (apG (apG (clG G) (nI (48 + (y % 7)))) (nI 44)).2.2.1 (nI (49 + ((y / 8) % 5)))).1))) + (wv ((gAppend (apG (apG (apG (clG G) (nI (48 + (y % 7)))) (nI 44)) (nI (49 + ((y / 8) % 5)))).2.1 (apG (apG (apG (clG G) (nI (48 + (y % 7)))) (nI 44)) (nI (49 + ((y / 8) % 5)))).2.2.1 (nI (48 + ((y / 64) % 10)))).1))) + (wv ((gAppend (apG (apG (apG (apG (clG G) (nI (48 + (y % 7)))) (nI 44)) (nI (49 + ((y / 8) % 5)))) (nI (48 + ((y / 64) % 10)))).2.1 (apG (apG (apG (apG (clG G) (nI (48 + (y % 7)))) (nI 44)) (nI (49 + ((y / 8) % 5)))) (nI (48 + ((y / 64) % 10)))).2.2.1 (nI 47)).1)))]) F ((kq0 l hst D cc a (apG (apG (apG (apG (apG (clG G) (nI (48 + (y % 7)))) (nI 44)) (nI (49 + ((y / 8) % 5)))) (nI (48 + ((y / 64) % 10)))) (nI 47)) (nI (49 + ((y / 1024) % 5))) (nI 0) (nI 0)).g (G2 := apG (apG (apG (apG (apG (apG (clG G) (nI (48 + (y % 7)))) (nI 44)) (nI (49 + ((y / 8) % 5)))) (nI (48 + ((y / 64) % 10)))) (nI 47)) (nI (49 + ((y / 1024) % 5)))) rfl) cwR hO hS hl rfl rfl (Nat.le_of_ble_eq_true rfl) dL_act_282 ⟨by omega, by omega⟩ (fun H locs hO hS => ?_)
  refine lv_iadd hx hb dL_act_285 ?_
  refine lv_aload_n hx hb dL_act_286 rfl (lv_at hl 0 rfl) ?_
  refine lv_iconst (v := nI 0) hx hb dL_act_287 (by decide) ?_
  refine lv_bipush (v := nI 48) hx hb dL_act_288 (by decide) ?_
  refine lv_iload_n hx hb dL_act_290 rfl (lv_at hl 2 rfl) ?_
  refine lv_sipush (v := nI 8192) hx hb dL_act_291 (by decide) ?_
  refine gr_idiv hx hb dL_act_294 (by omega) (by omega) (by omega) ?_
  refine lv_bipush (v := nI 10) hx hb dL_act_295 (by decide) ?_
  refine gr_irem hx hb dL_act_297 (by omega) (by omega) (by omega) ?_
  refine gr_iadd hx hb dL_act_298 ?_
  refine lv_iconst (v := nI 0) hx hb dL_act_299 (by decide) ?_
  refine lv_iconst (v := nI 0) hx hb dL_act_300 (by decide) ?_
  refine gstepS (As := [.int (nI 0), .int (nI (48 + ((y / 8192) % 10))), .int (nI 0), .int (nI 0)]) (rest := [.int ((((((wv ((gAppend (clG G).2.1 (clG G).2.2.1 (nI (48 + (y % 7)))).1)) + (wv ((gAppend (apG (clG G) (nI (48 + (y % 7)))).2.1 (apG (clG G) (nI (48 + (y % 7)))).2.2.1 (nI 44)).1))) + (wv ((gAppend (apG (apG (clG G) (nI (48 + (y % 7)))) (nI 44)).2.1 (apG (apG (clG G) (nI (48 + (y % 7)))) (nI 44)).2.2.1 (nI (49 + ((y / 8) % 5)))).1))) + (wv ((gAppend (apG (apG (apG (clG G) (nI (48 + (y % 7)))) (nI 44)) (nI (49 + ((y / 8) % 5)))).2.1 (apG (apG (apG (clG G) (nI (48 + (y % 7)))) (nI 44)) (nI (49 + ((y / 8) % 5)))).2.2.1 (nI (48 + ((y / 64) % 10)))).1))) + (wv ((gAppend (apG (apG (apG (apG (clG G) (nI (48 + (y % 7)))) (nI 44)) (nI (49 + ((y / 8) % 5)))) (nI (48 + ((y / 64) % 10)))).2.1 (apG (apG (apG (apG (clG G) (nI (48 + (y % 7)))) (nI 44)) (nI (49 + ((y / 8) % 5)))) (nI (48 + ((y / 64) % 10)))).2.2.1 (nI 47)).1))) + (wv ((gAppend (apG (apG (apG (apG (apG (clG G) (nI (48 + (y % 7)))) (nI 44)) (nI (49 + ((y / 8) % 5)))) (nI (48 + ((y / 64) % 10)))) (nI 47)).2.1 (apG (apG (apG (apG (apG (clG G) (nI (48 + (y % 7)))) (nI 44)) (nI (49 + ((y / 8) % 5)))) (nI (48 + ((y / 64) % 10)))) (nI 47)).2.2.1 (nI (49 + ((y / 1024) % 5)))).1)))]) F ((kq0 l hst D cc a (apG (apG (apG (apG (apG (apG (clG G) (nI (48 + (y % 7)))) (nI 44)) (nI (49 + ((y / 8) % 5)))) (nI (48 + ((y / 64) % 10)))) (nI 47)) (nI (49 + ((y / 1024) % 5)))) (nI (48 + ((y / 8192) % 10))) (nI 0) (nI 0)).g (G2 := apG (apG (apG (apG (apG (apG (apG (clG G) (nI (48 + (y % 7)))) (nI 44)) (nI (49 + ((y / 8) % 5)))) (nI (48 + ((y / 64) % 10)))) (nI 47)) (nI (49 + ((y / 1024) % 5)))) (nI (48 + ((y / 8192) % 10)))) rfl) cwR hO hS hl rfl rfl (Nat.le_of_ble_eq_true rfl) dL_act_301 ⟨by omega, by omega⟩ (fun H locs hO hS => ?_)
  refine lv_iadd hx hb dL_act_304 ?_
  refine lv_aload_n hx hb dL_act_305 rfl (lv_at hl 0 rfl) ?_
  refine lv_iconst (v := nI 0) hx hb dL_act_306 (by decide) ?_
  refine lv_bipush (v := nI 44) hx hb dL_act_307 (by decide) ?_
  refine lv_iconst (v := nI 0) hx hb dL_act_309 (by decide) ?_
  refine lv_iconst (v := nI 0) hx hb dL_act_310 (by decide) ?_
  refine gstepS (As := [.int (nI 0), .int (nI 44), .int (nI 0), .int (nI 0)]) (rest := [.int (((((((wv ((gAppend (clG G).2.1 (clG G).2.2.1 (nI (48 + (y % 7)))).1)) + (wv ((gAppend (apG (clG G) (nI (48 + (y % 7)))).2.1 (apG (clG G) (nI (48 + (y % 7)))).2.2.1 (nI 44)).1))) + (wv ((gAppend (apG (apG (clG G) (nI (48 + (y % 7)))) (nI 44)).2.1 (apG (apG (clG G) (nI (48 + (y % 7)))) (nI 44)).2.2.1 (nI (49 + ((y / 8) % 5)))).1))) + (wv ((gAppend (apG (apG (apG (clG G) (nI (48 + (y % 7)))) (nI 44)) (nI (49 + ((y / 8) % 5)))).2.1 (apG (apG (apG (clG G) (nI (48 + (y % 7)))) (nI 44)) (nI (49 + ((y / 8) % 5)))).2.2.1 (nI (48 + ((y / 64) % 10)))).1))) + (wv ((gAppend (apG (apG (apG (apG (clG G) (nI (48 + (y % 7)))) (nI 44)) (nI (49 + ((y / 8) % 5)))) (nI (48 + ((y / 64) % 10)))).2.1 (apG (apG (apG (apG (clG G) (nI (48 + (y % 7)))) (nI 44)) (nI (49 + ((y / 8) % 5)))) (nI (48 + ((y / 64) % 10)))).2.2.1 (nI 47)).1))) + (wv ((gAppend (apG (apG (apG (apG (apG (clG G) (nI (48 + (y % 7)))) (nI 44)) (nI (49 + ((y / 8) % 5)))) (nI (48 + ((y / 64) % 10)))) (nI 47)).2.1 (apG (apG (apG (apG (apG (clG G) (nI (48 + (y % 7)))) (nI 44)) (nI (49 + ((y / 8) % 5)))) (nI (48 + ((y / 64) % 10)))) (nI 47)).2.2.1 (nI (49 + ((y / 1024) % 5)))).1))) + (wv ((gAppend (apG (apG (apG (apG (apG (apG (clG G) (nI (48 + (y % 7)))) (nI 44)) (nI (49 + ((y / 8) % 5)))) (nI (48 + ((y / 64) % 10)))) (nI 47)) (nI (49 + ((y / 1024) % 5)))).2.1 (apG (apG (apG (apG (apG (apG (clG G) (nI (48 + (y % 7)))) (nI 44)) (nI (49 + ((y / 8) % 5)))) (nI (48 + ((y / 64) % 10)))) (nI 47)) (nI (49 + ((y / 1024) % 5)))).2.2.1 (nI (48 + ((y / 8192) % 10)))).1)))]) F ((kq0 l hst D cc a (apG (apG (apG (apG (apG (apG (apG (clG G) (nI (48 + (y % 7)))) (nI 44)) (nI (49 + ((y / 8) % 5)))) (nI (48 + ((y / 64) % 10)))) (nI 47)) (nI (49 + ((y / 1024) % 5)))) (nI (48 + ((y / 8192) % 10)))) (nI 44) (nI 0) (nI 0)).g (G2 := apG (apG (apG (apG (apG (apG (apG (apG (clG G) (nI (48 + (y % 7)))) (nI 44)) (nI (49 + ((y / 8) % 5)))) (nI (48 + ((y / 64) % 10)))) (nI 47)) (nI (49 + ((y / 1024) % 5)))) (nI (48 + ((y / 8192) % 10)))) (nI 44)) rfl) cwR hO hS hl rfl rfl (Nat.le_of_ble_eq_true rfl) dL_act_311 ⟨by omega, by omega⟩ (fun H locs hO hS => ?_)
  refine lv_iadd hx hb dL_act_314 ?_
  refine lv_aload_n hx hb dL_act_315 rfl (lv_at hl 0 rfl) ?_
  refine lv_iconst (v := nI 0) hx hb dL_act_316 (by decide) ?_
  refine lv_bipush (v := nI 48) hx hb dL_act_317 (by decide) ?_
  refine lv_iload_n hx hb dL_act_319 rfl (lv_at hl 2 rfl) ?_
  refine lv_ldc (v := nI 131072) hx hb hown k187 dL_act_320 ?_
  refine gr_idiv hx hb dL_act_322 (by omega) (by omega) (by omega) ?_
  refine lv_bipush (v := nI 9) hx hb dL_act_323 (by decide) ?_
  refine gr_irem hx hb dL_act_325 (by omega) (by omega) (by omega) ?_
  refine gr_iadd hx hb dL_act_326 ?_
  refine lv_iconst (v := nI 0) hx hb dL_act_327 (by decide) ?_
  refine lv_iconst (v := nI 0) hx hb dL_act_328 (by decide) ?_
  refine gstepS (As := [.int (nI 0), .int (nI (48 + ((y / 131072) % 9))), .int (nI 0), .int (nI 0)]) (rest := [.int ((((((((wv ((gAppend (clG G).2.1 (clG G).2.2.1 (nI (48 + (y % 7)))).1)) + (wv ((gAppend (apG (clG G) (nI (48 + (y % 7)))).2.1 (apG (clG G) (nI (48 + (y % 7)))).2.2.1 (nI 44)).1))) + (wv ((gAppend (apG (apG (clG G) (nI (48 + (y % 7)))) (nI 44)).2.1 (apG (apG (clG G) (nI (48 + (y % 7)))) (nI 44)).2.2.1 (nI (49 + ((y / 8) % 5)))).1))) + (wv ((gAppend (apG (apG (apG (clG G) (nI (48 + (y % 7)))) (nI 44)) (nI (49 + ((y / 8) % 5)))).2.1 (apG (apG (apG (clG G) (nI (48 + (y % 7)))) (nI 44)) (nI (49 + ((y / 8) % 5)))).2.2.1 (nI (48 + ((y / 64) % 10)))).1))) + (wv ((gAppend (apG (apG (apG (apG (clG G) (nI (48 + (y % 7)))) (nI 44)) (nI (49 + ((y / 8) % 5)))) (nI (48 + ((y / 64) % 10)))).2.1 (apG (apG (apG (apG (clG G) (nI (48 + (y % 7)))) (nI 44)) (nI (49 + ((y / 8) % 5)))) (nI (48 + ((y / 64) % 10)))).2.2.1 (nI 47)).1))) + (wv ((gAppend (apG (apG (apG (apG (apG (clG G) (nI (48 + (y % 7)))) (nI 44)) (nI (49 + ((y / 8) % 5)))) (nI (48 + ((y / 64) % 10)))) (nI 47)).2.1 (apG (apG (apG (apG (apG (clG G) (nI (48 + (y % 7)))) (nI 44)) (nI (49 + ((y / 8) % 5)))) (nI (48 + ((y / 64) % 10)))) (nI 47)).2.2.1 (nI (49 + ((y / 1024) % 5)))).1))) + (wv ((gAppend (apG (apG (apG (apG (apG (apG (clG G) (nI (48 + (y % 7)))) (nI 44)) (nI (49 + ((y / 8) % 5)))) (nI (48 + ((y / 64) % 10)))) (nI 47)) (nI (49 + ((y / 1024) % 5)))).2.1 (apG (apG (apG (apG (apG (apG (clG G) (nI (48 + (y % 7)))) (nI 44)) (nI (49 + ((y / 8) % 5)))) (nI (48 + ((y / 64) % 10)))) (nI 47)) (nI (49 + ((y / 1024) % 5)))).2.2.1 (nI (48 + ((y / 8192) % 10)))).1))) + (wv ((gAppend (apG (apG (apG (apG (apG (apG (apG (clG G) (nI (48 + (y % 7)))) (nI 44)) (nI (49 + ((y / 8) % 5)))) (nI (48 + ((y / 64) % 10)))) (nI 47)) (nI (49 + ((y / 1024) % 5)))) (nI (48 + ((y / 8192) % 10)))).2.1 (apG (apG (apG (apG (apG (apG (apG (clG G) (nI (48 + (y % 7)))) (nI 44)) (nI (49 + ((y / 8) % 5)))) (nI (48 + ((y / 64) % 10)))) (nI 47)) (nI (49 + ((y / 1024) % 5)))) (nI (48 + ((y / 8192) % 10)))).2.2.1 (nI 44)).1)))]) F ((kq0 l hst D cc a (apG (apG (apG (apG (apG (apG (apG (apG (clG G) (nI (48 + (y % 7)))) (nI 44)) (nI (49 + ((y / 8) % 5)))) (nI (48 + ((y / 64) % 10)))) (nI 47)) (nI (49 + ((y / 1024) % 5)))) (nI (48 + ((y / 8192) % 10)))) (nI 44)) (nI (48 + ((y / 131072) % 9))) (nI 0) (nI 0)).g (G2 := apG (apG (apG (apG (apG (apG (apG (apG (apG (clG G) (nI (48 + (y % 7)))) (nI 44)) (nI (49 + ((y / 8) % 5)))) (nI (48 + ((y / 64) % 10)))) (nI 47)) (nI (49 + ((y / 1024) % 5)))) (nI (48 + ((y / 8192) % 10)))) (nI 44)) (nI (48 + ((y / 131072) % 9)))) rfl) cwR hO hS hl rfl rfl (Nat.le_of_ble_eq_true rfl) dL_act_329 ⟨by omega, by omega⟩ (fun H locs hO hS => ?_)
  refine lv_iadd hx hb dL_act_332 ?_
  refine lv_aload_n hx hb dL_act_333 rfl (lv_at hl 0 rfl) ?_
  refine lv_bipush (v := nI 8) hx hb dL_act_334 (by decide) ?_
  refine lv_iconst (v := nI 0) hx hb dL_act_336 (by decide) ?_
  refine lv_iconst (v := nI 0) hx hb dL_act_337 (by decide) ?_
  refine lv_iconst (v := nI 0) hx hb dL_act_338 (by decide) ?_
  refine gstepS (As := [.int (nI 8), .int (nI 0), .int (nI 0), .int (nI 0)]) (rest := [.int (((((((((wv ((gAppend (clG G).2.1 (clG G).2.2.1 (nI (48 + (y % 7)))).1)) + (wv ((gAppend (apG (clG G) (nI (48 + (y % 7)))).2.1 (apG (clG G) (nI (48 + (y % 7)))).2.2.1 (nI 44)).1))) + (wv ((gAppend (apG (apG (clG G) (nI (48 + (y % 7)))) (nI 44)).2.1 (apG (apG (clG G) (nI (48 + (y % 7)))) (nI 44)).2.2.1 (nI (49 + ((y / 8) % 5)))).1))) + (wv ((gAppend (apG (apG (apG (clG G) (nI (48 + (y % 7)))) (nI 44)) (nI (49 + ((y / 8) % 5)))).2.1 (apG (apG (apG (clG G) (nI (48 + (y % 7)))) (nI 44)) (nI (49 + ((y / 8) % 5)))).2.2.1 (nI (48 + ((y / 64) % 10)))).1))) + (wv ((gAppend (apG (apG (apG (apG (clG G) (nI (48 + (y % 7)))) (nI 44)) (nI (49 + ((y / 8) % 5)))) (nI (48 + ((y / 64) % 10)))).2.1 (apG (apG (apG (apG (clG G) (nI (48 + (y % 7)))) (nI 44)) (nI (49 + ((y / 8) % 5)))) (nI (48 + ((y / 64) % 10)))).2.2.1 (nI 47)).1))) + (wv ((gAppend (apG (apG (apG (apG (apG (clG G) (nI (48 + (y % 7)))) (nI 44)) (nI (49 + ((y / 8) % 5)))) (nI (48 + ((y / 64) % 10)))) (nI 47)).2.1 (apG (apG (apG (apG (apG (clG G) (nI (48 + (y % 7)))) (nI 44)) (nI (49 + ((y / 8) % 5)))) (nI (48 + ((y / 64) % 10)))) (nI 47)).2.2.1 (nI (49 + ((y / 1024) % 5)))).1))) + (wv ((gAppend (apG (apG (apG (apG (apG (apG (clG G) (nI (48 + (y % 7)))) (nI 44)) (nI (49 + ((y / 8) % 5)))) (nI (48 + ((y / 64) % 10)))) (nI 47)) (nI (49 + ((y / 1024) % 5)))).2.1 (apG (apG (apG (apG (apG (apG (clG G) (nI (48 + (y % 7)))) (nI 44)) (nI (49 + ((y / 8) % 5)))) (nI (48 + ((y / 64) % 10)))) (nI 47)) (nI (49 + ((y / 1024) % 5)))).2.2.1 (nI (48 + ((y / 8192) % 10)))).1))) + (wv ((gAppend (apG (apG (apG (apG (apG (apG (apG (clG G) (nI (48 + (y % 7)))) (nI 44)) (nI (49 + ((y / 8) % 5)))) (nI (48 + ((y / 64) % 10)))) (nI 47)) (nI (49 + ((y / 1024) % 5)))) (nI (48 + ((y / 8192) % 10)))).2.1 (apG (apG (apG (apG (apG (apG (apG (clG G) (nI (48 + (y % 7)))) (nI 44)) (nI (49 + ((y / 8) % 5)))) (nI (48 + ((y / 64) % 10)))) (nI 47)) (nI (49 + ((y / 1024) % 5)))) (nI (48 + ((y / 8192) % 10)))).2.2.1 (nI 44)).1))) + (wv ((gAppend (apG (apG (apG (apG (apG (apG (apG (apG (clG G) (nI (48 + (y % 7)))) (nI 44)) (nI (49 + ((y / 8) % 5)))) (nI (48 + ((y / 64) % 10)))) (nI 47)) (nI (49 + ((y / 1024) % 5)))) (nI (48 + ((y / 8192) % 10)))) (nI 44)).2.1 (apG (apG (apG (apG (apG (apG (apG (apG (clG G) (nI (48 + (y % 7)))) (nI 44)) (nI (49 + ((y / 8) % 5)))) (nI (48 + ((y / 64) % 10)))) (nI 47)) (nI (49 + ((y / 1024) % 5)))) (nI (48 + ((y / 8192) % 10)))) (nI 44)).2.2.1 (nI (48 + ((y / 131072) % 9)))).1)))]) F (kq8 l hst D cc a (apG (apG (apG (apG (apG (apG (apG (apG (apG (clG G) (nI (48 + (y % 7)))) (nI 44)) (nI (49 + ((y / 8) % 5)))) (nI (48 + ((y / 64) % 10)))) (nI 47)) (nI (49 + ((y / 1024) % 5)))) (nI (48 + ((y / 8192) % 10)))) (nI 44)) (nI (48 + ((y / 131072) % 9)))) (nI 0) (nI 0) (nI 0)) cwA hO hS hl rfl rfl (Nat.le_of_ble_eq_true rfl) dL_act_339 ⟨by omega, by omega⟩ (fun H locs hO hS => ?_)
  refine lv_iadd hx hb dL_act_342 ?_
  refine W.widen (k := cells + 24) (n := slots + 1600) (by omega) (by omega) ?_
  exact kk H locs ls hO hS
theorem act_344 (hst : l.stackTraces = false) (F : gF p m c cL_act 3 s args wsL_act meth (some .int) D cc A) (hx2 : x < 2 ^ 31) (hy2 : y < 2 ^ 31) (hO : HO D cc A a G Rw H) (hS : va_S A s.heap H locs) (hl : lv_has ls 3 [(0, .ref (a 0)), (1, .int (nI x)), (2, .int (nI y))]) (hf : cells + 24 ≤ rmAc.cells ∧ slots + 1600 ≤ rmAc.slots)
    (kk : ∀ (H : Heap) (locs : List Loc) (ls : Array Slot), HO D cc A a (nxt G (gPoint G.1 (nI (y % 61)) (nI ((y / 64) % 61))).2) Rw H → va_S A s.heap H locs → W p l e rmAc s m args below meth c H locs (cells + 24) (slots + 1600) Q (F0 m 362 ls [.int (wv ((gPoint G.1 (nI (y % 61)) (nI ((y / 64) % 61))).1))])) : W p l e rmAc s m args below meth c H locs cells slots Q (F0 m 344 ls []) := by
  have hx := F.1.1.1
  have hb := F.1.1.2.1
  have hown := F.1.1.2.2.2.1
  have hts := F.1.1.2.2.2.2
  have cwA := va_cwS (rm := rmK 11 1443) (R := rmAc) 5 hts gL_act_L_call rfl rfl rfl (by decide +kernel) ⟨Nat.le_of_ble_eq_true rfl, Nat.le_of_ble_eq_true rfl⟩
  refine lv_aload_n hx hb dL_act_344 rfl (lv_at hl 0 rfl) ?_
  refine lv_bipush (v := nI 7) hx hb dL_act_345 (by decide) ?_
  refine lv_iload_n hx hb dL_act_347 rfl (lv_at hl 2 rfl) ?_
  refine lv_bipush (v := nI 61) hx hb dL_act_348 (by decide) ?_
  refine gr_irem hx hb dL_act_350 (by omega) (by omega) (by omega) ?_
  refine lv_iload_n hx hb dL_act_351 rfl (lv_at hl 2 rfl) ?_
  refine lv_bipush (v := nI 64) hx hb dL_act_352 (by decide) ?_
  refine gr_idiv hx hb dL_act_354 (by omega) (by omega) (by omega) ?_
  refine lv_bipush (v := nI 61) hx hb dL_act_355 (by decide) ?_
  refine gr_irem hx hb dL_act_357 (by omega) (by omega) (by omega) ?_
  refine lv_iconst (v := nI 0) hx hb dL_act_358 (by decide) ?_
  refine gstepS (As := [.int (nI 7), .int (nI (y % 61)), .int (nI ((y / 64) % 61)), .int (nI 0)]) (rest := []) F (kq7 l hst D cc a G (nI (y % 61)) (nI ((y / 64) % 61)) (nI 0)) cwA hO hS hl rfl rfl (Nat.le_of_ble_eq_true rfl) dL_act_359 ⟨by omega, by omega⟩ (fun H locs hO hS => ?_)
  refine W.widen (k := cells + 24) (n := slots + 1600) (by omega) (by omega) ?_
  exact kk H locs ls hO hS
/-- ACT: the answer and the state behind it are told by the state alone -/
theorem k_act (l : Launch) (hst : l.stackTraces = false) (D : va_G) (cc : Nat → ClassId) (G : GS) {x y : Nat} (hx2 : x < 2 ^ 31) (hy2 : y < 2 ^ 31) : ∃ (v : Int32) (G' : GS), ∀ a : Nat → Nat, gO l yL_act wsL_act rmAc D cc a [.int (nI x), .int (nI y)] G v G' 24 1600 := by
  have hf : rmAc.cells = 24 ∧ rmAc.slots = 1600 := ⟨rfl, rfl⟩
  have h16 : x % 16 < 16 := Nat.mod_lt _ (by omega)
  rcases (by omega : x % 16 = 0 ∨ x % 16 = 1 ∨ x % 16 = 2 ∨ x % 16 = 3 ∨ x % 16 = 4 ∨ x % 16 = 5 ∨ x % 16 = 6 ∨ x % 16 = 7 ∨ x % 16 = 8 ∨ x % 16 = 9 ∨ x % 16 = 10 ∨ x % 16 = 11 ∨ x % 16 = 12 ∨ x % 16 = 13 ∨ x % 16 = 14 ∨ x % 16 = 15) with hj | hj | hj | hj | hj | hj | hj | hj | hj | hj | hj | hj | hj | hj | hj | hj
  · refine ⟨(wv ((gSet G.1 (nI 0) (nI (5 + (y % 16)))).1)), nxt G (gSet G.1 (nI 0) (nI (5 + (y % 16)))).2, fun a => ?_⟩
    intro x9 L9 Rw hI
    refine glstart (bc := cL_act) (maxL := 3) (ret := (some .int)) (by decide) rfl rfl (Nat.le_of_ble_eq_true rfl) ?_
    intro p e s m below meth c A hAe F hP hD hS ls hl
    have hO : HO D cc A a G Rw s.heap := ⟨x9, L9, hI, hP, hD⟩
    have hl : lv_has ls 3 [(0, .ref (a 0)), (1, .int (nI x)), (2, .int (nI y))] := hl
    have hx := F.1.1.1
    have hb := F.1.1.2.1
    refine lv_iload_n hx hb dL_act_0 rfl (lv_at hl 1 rfl) ?_
    refine lv_bipush (v := nI 16) hx hb dL_act_1 (by decide) ?_
    refine gr_irem hx hb dL_act_3 (by omega) (by omega) (by omega) ?_
    rw [hj]
    refine lv_tableIn (off := 60) (tgt := 64) hx hb dL_act_4 (by decide) (by decide) (by decide) (by decide) ?_
    exact act_64 hst F hx2 hy2 hO hS hl ⟨by omega, by omega⟩ (fun H locs ls hO hS => gHO.endi F hAe hO hS rfl (by omega) (by omega) dL_act_78)
  · refine ⟨(wv ((gSet G.1 (nI (1 + (y % 2))) (nI (1 + ((y / 2) % 20)))).1)), nxt G (gSet G.1 (nI (1 + (y % 2))) (nI (1 + ((y / 2) % 20)))).2, fun a => ?_⟩
    intro x9 L9 Rw hI
    refine glstart (bc := cL_act) (maxL := 3) (ret := (some .int)) (by decide) rfl rfl (Nat.le_of_ble_eq_true rfl) ?_
    intro p e s m below meth c A hAe F hP hD hS ls hl
    have hO : HO D cc A a G Rw s.heap := ⟨x9, L9, hI, hP, hD⟩
    have hl : lv_has ls 3 [(0, .ref (a 0)), (1, .int (nI x)), (2, .int (nI y))] := hl
    have hx := F.1.1.1
    have hb := F.1.1.2.1
    refine lv_iload_n hx hb dL_act_0 rfl (lv_at hl 1 rfl) ?_
    refine lv_bipush (v := nI 16) hx hb dL_act_1 (by decide) ?_
    refine gr_irem hx hb dL_act_3 (by omega) (by omega) (by omega) ?_
    rw [hj]
    refine lv_tableIn (off := 75) (tgt := 79) hx hb dL_act_4 (by decide) (by decide) (by decide) (by decide) ?_
    exact act_79 hst F hx2 hy2 hO hS hl ⟨by omega, by omega⟩ (fun H locs ls hO hS => gHO.endi F hAe hO hS rfl (by omega) (by omega) dL_act_99)
  · refine ⟨((gLift G.1).1), nxt G (gLift G.1).2, fun a => ?_⟩
    intro x9 L9 Rw hI
    refine glstart (bc := cL_act) (maxL := 3) (ret := (some .int)) (by decide) rfl rfl (Nat.le_of_ble_eq_true rfl) ?_
    intro p e s m below meth c A hAe F hP hD hS ls hl
    have hO : HO D cc A a G Rw s.heap := ⟨x9, L9, hI, hP, hD⟩
    have hl : lv_has ls 3 [(0, .ref (a 0)), (1, .int (nI x)), (2, .int (nI y))] := hl
    have hx := F.1.1.1
    have hb := F.1.1.2.1
    refine lv_iload_n hx hb dL_act_0 rfl (lv_at hl 1 rfl) ?_
    refine lv_bipush (v := nI 16) hx hb dL_act_1 (by decide) ?_
    refine gr_irem hx hb dL_act_3 (by omega) (by omega) (by omega) ?_
    rw [hj]
    refine lv_tableIn (off := 96) (tgt := 100) hx hb dL_act_4 (by decide) (by decide) (by decide) (by decide) ?_
    exact act_100 hst F hx2 hy2 hO hS hl ⟨by omega, by omega⟩ (fun H locs ls hO hS => gHO.endi F hAe hO hS rfl (by omega) (by omega) dL_act_104)
  · refine ⟨((gLift G.1).1), nxt G (gLift G.1).2, fun a => ?_⟩
    intro x9 L9 Rw hI
    refine glstart (bc := cL_act) (maxL := 3) (ret := (some .int)) (by decide) rfl rfl (Nat.le_of_ble_eq_true rfl) ?_
    intro p e s m below meth c A hAe F hP hD hS ls hl
    have hO : HO D cc A a G Rw s.heap := ⟨x9, L9, hI, hP, hD⟩
    have hl : lv_has ls 3 [(0, .ref (a 0)), (1, .int (nI x)), (2, .int (nI y))] := hl
    have hx := F.1.1.1
    have hb := F.1.1.2.1
    refine lv_iload_n hx hb dL_act_0 rfl (lv_at hl 1 rfl) ?_
    refine lv_bipush (v := nI 16) hx hb dL_act_1 (by decide) ?_
    refine gr_irem hx hb dL_act_3 (by omega) (by omega) (by omega) ?_
    rw [hj]
    refine lv_tableIn (off := 96) (tgt := 100) hx hb dL_act_4 (by decide) (by decide) (by decide) (by decide) ?_
    exact act_100 hst F hx2 hy2 hO hS hl ⟨by omega, by omega⟩ (fun H locs ls hO hS => gHO.endi F hAe hO hS rfl (by omega) (by omega) dL_act_104)
  · refine ⟨(wv ((gLearn G.1 (nI (y % 5))).1)), nxt G (gLearn G.1 (nI (y % 5))).2, fun a => ?_⟩
    intro x9 L9 Rw hI
    refine glstart (bc := cL_act) (maxL := 3) (ret := (some .int)) (by decide) rfl rfl (Nat.le_of_ble_eq_true rfl) ?_
    intro p e s m below meth c A hAe F hP hD hS ls hl
    have hO : HO D cc A a G Rw s.heap := ⟨x9, L9, hI, hP, hD⟩
    have hl : lv_has ls 3 [(0, .ref (a 0)), (1, .int (nI x)), (2, .int (nI y))] := hl
    have hx := F.1.1.1
    have hb := F.1.1.2.1
    refine lv_iload_n hx hb dL_act_0 rfl (lv_at hl 1 rfl) ?_
    refine lv_bipush (v := nI 16) hx hb dL_act_1 (by decide) ?_
    refine gr_irem hx hb dL_act_3 (by omega) (by omega) (by omega) ?_
    rw [hj]
    refine lv_tableIn (off := 101) (tgt := 105) hx hb dL_act_4 (by decide) (by decide) (by decide) (by decide) ?_
    exact act_105 hst F hx2 hy2 hO hS hl ⟨by omega, by omega⟩ (fun H locs ls hO hS => gHO.endi F hAe hO hS rfl (by omega) (by omega) dL_act_116)
  · refine ⟨(wv ((gLearn G.1 (nI (y % 5))).1)), nxt G (gLearn G.1 (nI (y % 5))).2, fun a => ?_⟩
    intro x9 L9 Rw hI
    refine glstart (bc := cL_act) (maxL := 3) (ret := (some .int)) (by decide) rfl rfl (Nat.le_of_ble_eq_true rfl) ?_
    intro p e s m below meth c A hAe F hP hD hS ls hl
    have hO : HO D cc A a G Rw s.heap := ⟨x9, L9, hI, hP, hD⟩
    have hl : lv_has ls 3 [(0, .ref (a 0)), (1, .int (nI x)), (2, .int (nI y))] := hl
    have hx := F.1.1.1
    have hb := F.1.1.2.1
    refine lv_iload_n hx hb dL_act_0 rfl (lv_at hl 1 rfl) ?_
    refine lv_bipush (v := nI 16) hx hb dL_act_1 (by decide) ?_
    refine gr_irem hx hb dL_act_3 (by omega) (by omega) (by omega) ?_
    rw [hj]
    refine lv_tableIn (off := 101) (tgt := 105) hx hb dL_act_4 (by decide) (by decide) (by decide) (by decide) ?_
    exact act_105 hst F hx2 hy2 hO hS hl ⟨by omega, by omega⟩ (fun H locs ls hO hS => gHO.endi F hAe hO hS rfl (by omega) (by omega) dL_act_116)
  · refine ⟨(wv ((gPractise G.1 (nI (y % 5))).1)), nxt G (gPractise G.1 (nI (y % 5))).2, fun a => ?_⟩
    intro x9 L9 Rw hI
    refine glstart (bc := cL_act) (maxL := 3) (ret := (some .int)) (by decide) rfl rfl (Nat.le_of_ble_eq_true rfl) ?_
    intro p e s m below meth c A hAe F hP hD hS ls hl
    have hO : HO D cc A a G Rw s.heap := ⟨x9, L9, hI, hP, hD⟩
    have hl : lv_has ls 3 [(0, .ref (a 0)), (1, .int (nI x)), (2, .int (nI y))] := hl
    have hx := F.1.1.1
    have hb := F.1.1.2.1
    refine lv_iload_n hx hb dL_act_0 rfl (lv_at hl 1 rfl) ?_
    refine lv_bipush (v := nI 16) hx hb dL_act_1 (by decide) ?_
    refine gr_irem hx hb dL_act_3 (by omega) (by omega) (by omega) ?_
    rw [hj]
    refine lv_tableIn (off := 113) (tgt := 117) hx hb dL_act_4 (by decide) (by decide) (by decide) (by decide) ?_
    exact act_117 hst F hx2 hy2 hO hS hl ⟨by omega, by omega⟩ (fun H locs ls hO hS => gHO.endi F hAe hO hS rfl (by omega) (by omega) dL_act_128)
  · by_cases z0 : y % 3 = 0
    · refine ⟨(wv ((gForget G.1 (nI (y % 4))).1)), nxt G (gForget G.1 (nI (y % 4))).2, fun a => ?_⟩
      intro x9 L9 Rw hI
      refine glstart (bc := cL_act) (maxL := 3) (ret := (some .int)) (by decide) rfl rfl (Nat.le_of_ble_eq_true rfl) ?_
      intro p e s m below meth c A hAe F hP hD hS ls hl
      have hO : HO D cc A a G Rw s.heap := ⟨x9, L9, hI, hP, hD⟩
      have hl : lv_has ls 3 [(0, .ref (a 0)), (1, .int (nI x)), (2, .int (nI y))] := hl
      have hx := F.1.1.1
      have hb := F.1.1.2.1
      refine lv_iload_n hx hb dL_act_0 rfl (lv_at hl 1 rfl) ?_
      refine lv_bipush (v := nI 16) hx hb dL_act_1 (by decide) ?_
      refine gr_irem hx hb dL_act_3 (by omega) (by omega) (by omega) ?_
      rw [hj]
      refine lv_tableIn (off := 125) (tgt := 129) hx hb dL_act_4 (by decide) (by decide) (by decide) (by decide) ?_
      exact act_129a hst F hx2 hy2 z0 hO hS hl ⟨by omega, by omega⟩ (fun H locs ls hO hS => gHO.endi F hAe hO hS rfl (by omega) (by omega) dL_act_158)
    · refine ⟨(wv ((gUndo G).1)), (gUndo G).2, fun a => ?_⟩
      intro x9 L9 Rw hI
      refine glstart (bc := cL_act) (maxL := 3) (ret := (some .int)) (by decide) rfl rfl (Nat.le_of_ble_eq_true rfl) ?_
      intro p e s m below meth c A hAe F hP hD hS ls hl
      have hO : HO D cc A a G Rw s.heap := ⟨x9, L9, hI, hP, hD⟩
      have hl : lv_has ls 3 [(0, .ref (a 0)), (1, .int (nI x)), (2, .int (nI y))] := hl
      have hx := F.1.1.1
      have hb := F.1.1.2.1
      refine lv_iload_n hx hb dL_act_0 rfl (lv_at hl 1 rfl) ?_
      refine lv_bipush (v := nI 16) hx hb dL_act_1 (by decide) ?_
      refine gr_irem hx hb dL_act_3 (by omega) (by omega) (by omega) ?_
      rw [hj]
      refine lv_tableIn (off := 125) (tgt := 129) hx hb dL_act_4 (by decide) (by decide) (by decide) (by decide) ?_
      exact act_129b hst F hx2 hy2 z0 hO hS hl ⟨by omega, by omega⟩ (fun H locs ls hO hS => gHO.endi F hAe hO hS rfl (by omega) (by omega) dL_act_158)
  · refine ⟨(wv ((gSave G (nI (y % 2))).1)), (gSave G (nI (y % 2))).2, fun a => ?_⟩
    intro x9 L9 Rw hI
    refine glstart (bc := cL_act) (maxL := 3) (ret := (some .int)) (by decide) rfl rfl (Nat.le_of_ble_eq_true rfl) ?_
    intro p e s m below meth c A hAe F hP hD hS ls hl
    have hO : HO D cc A a G Rw s.heap := ⟨x9, L9, hI, hP, hD⟩
    have hl : lv_has ls 3 [(0, .ref (a 0)), (1, .int (nI x)), (2, .int (nI y))] := hl
    have hx := F.1.1.1
    have hb := F.1.1.2.1
    refine lv_iload_n hx hb dL_act_0 rfl (lv_at hl 1 rfl) ?_
    refine lv_bipush (v := nI 16) hx hb dL_act_1 (by decide) ?_
    refine gr_irem hx hb dL_act_3 (by omega) (by omega) (by omega) ?_
    rw [hj]
    refine lv_tableIn (off := 155) (tgt := 159) hx hb dL_act_4 (by decide) (by decide) (by decide) (by decide) ?_
    exact act_159 hst F hx2 hy2 hO hS hl ⟨by omega, by omega⟩ (fun H locs ls hO hS => gHO.endi F hAe hO hS rfl (by omega) (by omega) dL_act_170)
  · refine ⟨(wv ((gRestore G (nI (y % 2))).1)), (gRestore G (nI (y % 2))).2, fun a => ?_⟩
    intro x9 L9 Rw hI
    refine glstart (bc := cL_act) (maxL := 3) (ret := (some .int)) (by decide) rfl rfl (Nat.le_of_ble_eq_true rfl) ?_
    intro p e s m below meth c A hAe F hP hD hS ls hl
    have hO : HO D cc A a G Rw s.heap := ⟨x9, L9, hI, hP, hD⟩
    have hl : lv_has ls 3 [(0, .ref (a 0)), (1, .int (nI x)), (2, .int (nI y))] := hl
    have hx := F.1.1.1
    have hb := F.1.1.2.1
    refine lv_iload_n hx hb dL_act_0 rfl (lv_at hl 1 rfl) ?_
    refine lv_bipush (v := nI 16) hx hb dL_act_1 (by decide) ?_
    refine gr_irem hx hb dL_act_3 (by omega) (by omega) (by omega) ?_
    rw [hj]
    refine lv_tableIn (off := 167) (tgt := 171) hx hb dL_act_4 (by decide) (by decide) (by decide) (by decide) ?_
    exact act_171 hst F hx2 hy2 hO hS hl ⟨by omega, by omega⟩ (fun H locs ls hO hS => gHO.endi F hAe hO hS rfl (by omega) (by omega) dL_act_182)
  · by_cases z0 : y % 2 = 0
    · refine ⟨((((((((((wv ((gAppend (clG G).2.1 (clG G).2.2.1 (nI (48 + (y % 7)))).1)) + (wv ((gAppend (apG (clG G) (nI (48 + (y % 7)))).2.1 (apG (clG G) (nI (48 + (y % 7)))).2.2.1 (nI 44)).1))) + (wv ((gAppend (apG (apG (clG G) (nI (48 + (y % 7)))) (nI 44)).2.1 (apG (apG (clG G) (nI (48 + (y % 7)))) (nI 44)).2.2.1 (nI (49 + ((y / 8) % 5)))).1))) + (wv ((gAppend (apG (apG (apG (clG G) (nI (48 + (y % 7)))) (nI 44)) (nI (49 + ((y / 8) % 5)))).2.1 (apG (apG (apG (clG G) (nI (48 + (y % 7)))) (nI 44)) (nI (49 + ((y / 8) % 5)))).2.2.1 (nI (48 + ((y / 64) % 10)))).1))) + (wv ((gAppend (apG (apG (apG (apG (clG G) (nI (48 + (y % 7)))) (nI 44)) (nI (49 + ((y / 8) % 5)))) (nI (48 + ((y / 64) % 10)))).2.1 (apG (apG (apG (apG (clG G) (nI (48 + (y % 7)))) (nI 44)) (nI (49 + ((y / 8) % 5)))) (nI (48 + ((y / 64) % 10)))).2.2.1 (nI 45)).1))) + (wv ((gAppend (apG (apG (apG (apG (apG (clG G) (nI (48 + (y % 7)))) (nI 44)) (nI (49 + ((y / 8) % 5)))) (nI (48 + ((y / 64) % 10)))) (nI 45)).2.1 (apG (apG (apG (apG (apG (clG G) (nI (48 + (y % 7)))) (nI 44)) (nI (49 + ((y / 8) % 5)))) (nI (48 + ((y / 64) % 10)))) (nI 45)).2.2.1 (nI (49 + ((y / 1024) % 5)))).1))) + (wv ((gAppend (apG (apG (apG (apG (apG (apG (clG G) (nI (48 + (y % 7)))) (nI 44)) (nI (49 + ((y / 8) % 5)))) (nI (48 + ((y / 64) % 10)))) (nI 45)) (nI (49 + ((y / 1024) % 5)))).2.1 (apG (apG (apG (apG (apG (apG (clG G) (nI (48 + (y % 7)))) (nI 44)) (nI (49 + ((y / 8) % 5)))) (nI (48 + ((y / 64) % 10)))) (nI 45)) (nI (49 + ((y / 1024) % 5)))).2.2.1 (nI (48 + ((y / 8192) % 10)))).1))) + (wv ((gAppend (apG (apG (apG (apG (apG (apG (apG (clG G) (nI (48 + (y % 7)))) (nI 44)) (nI (49 + ((y / 8) % 5)))) (nI (48 + ((y / 64) % 10)))) (nI 45)) (nI (49 + ((y / 1024) % 5)))) (nI (48 + ((y / 8192) % 10)))).2.1 (apG (apG (apG (apG (apG (apG (apG (clG G) (nI (48 + (y % 7)))) (nI 44)) (nI (49 + ((y / 8) % 5)))) (nI (48 + ((y / 64) % 10)))) (nI 45)) (nI (49 + ((y / 1024) % 5)))) (nI (48 + ((y / 8192) % 10)))).2.2.1 (nI 44)).1))) + (wv ((gAppend (apG (apG (apG (apG (apG (apG (apG (apG (clG G) (nI (48 + (y % 7)))) (nI 44)) (nI (49 + ((y / 8) % 5)))) (nI (48 + ((y / 64) % 10)))) (nI 45)) (nI (49 + ((y / 1024) % 5)))) (nI (48 + ((y / 8192) % 10)))) (nI 44)).2.1 (apG (apG (apG (apG (apG (apG (apG (apG (clG G) (nI (48 + (y % 7)))) (nI 44)) (nI (49 + ((y / 8) % 5)))) (nI (48 + ((y / 64) % 10)))) (nI 45)) (nI (49 + ((y / 1024) % 5)))) (nI (48 + ((y / 8192) % 10)))) (nI 44)).2.2.1 (nI (48 + ((y / 131072) % 9)))).1))) + (wv ((gDraw (apG (apG (apG (apG (apG (apG (apG (apG (apG (clG G) (nI (48 + (y % 7)))) (nI 44)) (nI (49 + ((y / 8) % 5)))) (nI (48 + ((y / 64) % 10)))) (nI 45)) (nI (49 + ((y / 1024) % 5)))) (nI (48 + ((y / 8192) % 10)))) (nI 44)) (nI (48 + ((y / 131072) % 9)))).1 (apG (apG (apG (apG (apG (apG (apG (apG (apG (clG G) (nI (48 + (y % 7)))) (nI 44)) (nI (49 + ((y / 8) % 5)))) (nI (48 + ((y / 64) % 10)))) (nI 45)) (nI (49 + ((y / 1024) % 5)))) (nI (48 + ((y / 8192) % 10)))) (nI 44)) (nI (48 + ((y / 131072) % 9)))).2.1 (apG (apG (apG (apG (apG (apG (apG (apG (apG (clG G) (nI (48 + (y % 7)))) (nI 44)) (nI (49 + ((y / 8) % 5)))) (nI (48 + ((y / 64) % 10)))) (nI 45)) (nI (49 + ((y / 1024) % 5)))) (nI (48 + ((y / 8192) % 10)))) (nI 44)) (nI (48 + ((y / 131072) % 9)))).2.2.1).1))), nxt (apG (apG (apG (apG (apG (apG (apG (apG (apG (clG G) (nI (48 + (y % 7)))) (nI 44)) (nI (49 + ((y / 8) % 5)))) (nI (48 + ((y / 64) % 10)))) (nI 45)) (nI (49 + ((y / 1024) % 5)))) (nI (48 + ((y / 8192) % 10)))) (nI 44)) (nI (48 + ((y / 131072) % 9)))) (gDraw (apG (apG (apG (apG (apG (apG (apG (apG (apG (clG G) (nI (48 + (y % 7)))) (nI 44)) (nI (49 + ((y / 8) % 5)))) (nI (48 + ((y / 64) % 10)))) (nI 45)) (nI (49 + ((y / 1024) % 5)))) (nI (48 + ((y / 8192) % 10)))) (nI 44)) (nI (48 + ((y / 131072) % 9)))).1 (apG (apG (apG (apG (apG (apG (apG (apG (apG (clG G) (nI (48 + (y % 7)))) (nI 44)) (nI (49 + ((y / 8) % 5)))) (nI (48 + ((y / 64) % 10)))) (nI 45)) (nI (49 + ((y / 1024) % 5)))) (nI (48 + ((y / 8192) % 10)))) (nI 44)) (nI (48 + ((y / 131072) % 9)))).2.1 (apG (apG (apG (apG (apG (apG (apG (apG (apG (clG G) (nI (48 + (y % 7)))) (nI 44)) (nI (49 + ((y / 8) % 5)))) (nI (48 + ((y / 64) % 10)))) (nI 45)) (nI (49 + ((y / 1024) % 5)))) (nI (48 + ((y / 8192) % 10)))) (nI 44)) (nI (48 + ((y / 131072) % 9)))).2.2.1).2, fun a => ?_⟩
      intro x9 L9 Rw hI
      refine glstart (bc := cL_act) (maxL := 3) (ret := (some .int)) (by decide) rfl rfl (Nat.le_of_ble_eq_true rfl) ?_
      intro p e s m below meth c A hAe F hP hD hS ls hl
      have hO : HO D cc A a G Rw s.heap := ⟨x9, L9, hI, hP, hD⟩
      have hl : lv_has ls 3 [(0, .ref (a 0)), (1, .int (nI x)), (2, .int (nI y))] := hl
      have hx := F.1.1.1
      have hb := F.1.1.2.1
      refine lv_iload_n hx hb dL_act_0 rfl (lv_at hl 1 rfl) ?_
      refine lv_bipush (v := nI 16) hx hb dL_act_1 (by decide) ?_
      refine gr_irem hx hb dL_act_3 (by omega) (by omega) (by omega) ?_
      rw [hj]
      refine lv_tableIn (off := 179) (tgt := 183) hx hb dL_act_4 (by decide) (by decide) (by decide) (by decide) ?_
      exact act_183a hst F hx2 hy2 z0 hO hS hl ⟨by omega, by omega⟩ (fun H locs ls hO hS => gHO.endi F hAe hO hS rfl (by omega) (by omega) dL_act_343)
    · refine ⟨((((((((((wv ((gAppend (clG G).2.1 (clG G).2.2.1 (nI (48 + (y % 7)))).1)) + (wv ((gAppend (apG (clG G) (nI (48 + (y % 7)))).2.1 (apG (clG G) (nI (48 + (y % 7)))).2.2.1 (nI 44)).1))) + (wv ((gAppend (apG (apG (clG G) (nI (48 + (y % 7)))) (nI 44)).2.1 (apG (apG (clG G) (nI (48 + (y % 7)))) (nI 44)).2.2.1 (nI (49 + ((y / 8) % 5)))).1))) + (wv ((gAppend (apG (apG (apG (clG G) (nI (48 + (y % 7)))) (nI 44)) (nI (49 + ((y / 8) % 5)))).2.1 (apG (apG (apG (clG G) (nI (48 + (y % 7)))) (nI 44)) (nI (49 + ((y / 8) % 5)))).2.2.1 (nI (48 + ((y / 64) % 10)))).1))) + (wv ((gAppend (apG (apG (apG (apG (clG G) (nI (48 + (y % 7)))) (nI 44)) (nI (49 + ((y / 8) % 5)))) (nI (48 + ((y / 64) % 10)))).2.1 (apG (apG (apG (apG (clG G) (nI (48 + (y % 7)))) (nI 44)) (nI (49 + ((y / 8) % 5)))) (nI (48 + ((y / 64) % 10)))).2.2.1 (nI 47)).1))) + (wv ((gAppend (apG (apG (apG (apG (apG (clG G) (nI (48 + (y % 7)))) (nI 44)) (nI (49 + ((y / 8) % 5)))) (nI (48 + ((y / 64) % 10)))) (nI 47)).2.1 (apG (apG (apG (apG (apG (clG G) (nI (48 + (y % 7)))) (nI 44)) (nI (49 + ((y / 8) % 5)))) (nI (48 + ((y / 64) % 10)))) (nI 47)).2.2.1 (nI (49 + ((y / 1024) % 5)))).1))) + (wv ((gAppend (apG (apG (apG (apG (apG (apG (clG G) (nI (48 + (y % 7)))) (nI 44)) (nI (49 + ((y / 8) % 5)))) (nI (48 + ((y / 64) % 10)))) (nI 47)) (nI (49 + ((y / 1024) % 5)))).2.1 (apG (apG (apG (apG (apG (apG (clG G) (nI (48 + (y % 7)))) (nI 44)) (nI (49 + ((y / 8) % 5)))) (nI (48 + ((y / 64) % 10)))) (nI 47)) (nI (49 + ((y / 1024) % 5)))).2.2.1 (nI (48 + ((y / 8192) % 10)))).1))) + (wv ((gAppend (apG (apG (apG (apG (apG (apG (apG (clG G) (nI (48 + (y % 7)))) (nI 44)) (nI (49 + ((y / 8) % 5)))) (nI (48 + ((y / 64) % 10)))) (nI 47)) (nI (49 + ((y / 1024) % 5)))) (nI (48 + ((y / 8192) % 10)))).2.1 (apG (apG (apG (apG (apG (apG (apG (clG G) (nI (48 + (y % 7)))) (nI 44)) (nI (49 + ((y / 8) % 5)))) (nI (48 + ((y / 64) % 10)))) (nI 47)) (nI (49 + ((y / 1024) % 5)))) (nI (48 + ((y / 8192) % 10)))).2.2.1 (nI 44)).1))) + (wv ((gAppend (apG (apG (apG (apG (apG (apG (apG (apG (clG G) (nI (48 + (y % 7)))) (nI 44)) (nI (49 + ((y / 8) % 5)))) (nI (48 + ((y / 64) % 10)))) (nI 47)) (nI (49 + ((y / 1024) % 5)))) (nI (48 + ((y / 8192) % 10)))) (nI 44)).2.1 (apG (apG (apG (apG (apG (apG (apG (apG (clG G) (nI (48 + (y % 7)))) (nI 44)) (nI (49 + ((y / 8) % 5)))) (nI (48 + ((y / 64) % 10)))) (nI 47)) (nI (49 + ((y / 1024) % 5)))) (nI (48 + ((y / 8192) % 10)))) (nI 44)).2.2.1 (nI (48 + ((y / 131072) % 9)))).1))) + (wv ((gDraw (apG (apG (apG (apG (apG (apG (apG (apG (apG (clG G) (nI (48 + (y % 7)))) (nI 44)) (nI (49 + ((y / 8) % 5)))) (nI (48 + ((y / 64) % 10)))) (nI 47)) (nI (49 + ((y / 1024) % 5)))) (nI (48 + ((y / 8192) % 10)))) (nI 44)) (nI (48 + ((y / 131072) % 9)))).1 (apG (apG (apG (apG (apG (apG (apG (apG (apG (clG G) (nI (48 + (y % 7)))) (nI 44)) (nI (49 + ((y / 8) % 5)))) (nI (48 + ((y / 64) % 10)))) (nI 47)) (nI (49 + ((y / 1024) % 5)))) (nI (48 + ((y / 8192) % 10)))) (nI 44)) (nI (48 + ((y / 131072) % 9)))).2.1 (apG (apG (apG (apG (apG (apG (apG (apG (apG (clG G) (nI (48 + (y % 7)))) (nI 44)) (nI (49 + ((y / 8) % 5)))) (nI (48 + ((y / 64) % 10)))) (nI 47)) (nI (49 + ((y / 1024) % 5)))) (nI (48 + ((y / 8192) % 10)))) (nI 44)) (nI (48 + ((y / 131072) % 9)))).2.2.1).1))), nxt (apG (apG (apG (apG (apG (apG (apG (apG (apG (clG G) (nI (48 + (y % 7)))) (nI 44)) (nI (49 + ((y / 8) % 5)))) (nI (48 + ((y / 64) % 10)))) (nI 47)) (nI (49 + ((y / 1024) % 5)))) (nI (48 + ((y / 8192) % 10)))) (nI 44)) (nI (48 + ((y / 131072) % 9)))) (gDraw (apG (apG (apG (apG (apG (apG (apG (apG (apG (clG G) (nI (48 + (y % 7)))) (nI 44)) (nI (49 + ((y / 8) % 5)))) (nI (48 + ((y / 64) % 10)))) (nI 47)) (nI (49 + ((y / 1024) % 5)))) (nI (48 + ((y / 8192) % 10)))) (nI 44)) (nI (48 + ((y / 131072) % 9)))).1 (apG (apG (apG (apG (apG (apG (apG (apG (apG (clG G) (nI (48 + (y % 7)))) (nI 44)) (nI (49 + ((y / 8) % 5)))) (nI (48 + ((y / 64) % 10)))) (nI 47)) (nI (49 + ((y / 1024) % 5)))) (nI (48 + ((y / 8192) % 10)))) (nI 44)) (nI (48 + ((y / 131072) % 9)))).2.1 (apG (apG (apG (apG (apG (apG (apG (apG (apG (clG G) (nI (48 + (y % 7)))) (nI 44)) (nI (49 + ((y / 8) % 5)))) (nI (48 + ((y / 64) % 10)))) (nI 47)) (nI (49 + ((y / 1024) % 5)))) (nI (48 + ((y / 8192) % 10)))) (nI 44)) (nI (48 + ((y / 131072) % 9)))).2.2.1).2, fun a => ?_⟩
      intro x9 L9 Rw hI
      refine glstart (bc := cL_act) (maxL := 3) (ret := (some .int)) (by decide) rfl rfl (Nat.le_of_ble_eq_true rfl) ?_
      intro p e s m below meth c A hAe F hP hD hS ls hl
      have hO : HO D cc A a G Rw s.heap := ⟨x9, L9, hI, hP, hD⟩
      have hl : lv_has ls 3 [(0, .ref (a 0)), (1, .int (nI x)), (2, .int (nI y))] := hl
      have hx := F.1.1.1
      have hb := F.1.1.2.1
      refine lv_iload_n hx hb dL_act_0 rfl (lv_at hl 1 rfl) ?_
      refine lv_bipush (v := nI 16) hx hb dL_act_1 (by decide) ?_
      refine gr_irem hx hb dL_act_3 (by omega) (by omega) (by omega) ?_
      rw [hj]
      refine lv_tableIn (off := 179) (tgt := 183) hx hb dL_act_4 (by decide) (by decide) (by decide) (by decide) ?_
      exact act_183b hst F hx2 hy2 z0 hO hS hl ⟨by omega, by omega⟩ (fun H locs ls hO hS => gHO.endi F hAe hO hS rfl (by omega) (by omega) dL_act_343)
  · refine ⟨(wv ((gPoint G.1 (nI (y % 61)) (nI ((y / 64) % 61))).1)), nxt G (gPoint G.1 (nI (y % 61)) (nI ((y / 64) % 61))).2, fun a => ?_⟩
    intro x9 L9 Rw hI
    refine glstart (bc := cL_act) (maxL := 3) (ret := (some .int)) (by decide) rfl rfl (Nat.le_of_ble_eq_true rfl) ?_
    intro p e s m below meth c A hAe F hP hD hS ls hl
    have hO : HO D cc A a G Rw s.heap := ⟨x9, L9, hI, hP, hD⟩
    have hl : lv_has ls 3 [(0, .ref (a 0)), (1, .int (nI x)), (2, .int (nI y))] := hl
    have hx := F.1.1.1
    have hb := F.1.1.2.1
    refine lv_iload_n hx hb dL_act_0 rfl (lv_at hl 1 rfl) ?_
    refine lv_bipush (v := nI 16) hx hb dL_act_1 (by decide) ?_
    refine gr_irem hx hb dL_act_3 (by omega) (by omega) (by omega) ?_
    rw [hj]
    refine lv_tableOut (tgt := 344) hx hb dL_act_4 (Or.inr (by decide)) (by decide) ?_
    exact act_344 hst F hx2 hy2 hO hS hl ⟨by omega, by omega⟩ (fun H locs ls hO hS => gHO.endi F hAe hO hS rfl (by omega) (by omega) dL_act_362)
  · refine ⟨(wv ((gPoint G.1 (nI (y % 61)) (nI ((y / 64) % 61))).1)), nxt G (gPoint G.1 (nI (y % 61)) (nI ((y / 64) % 61))).2, fun a => ?_⟩
    intro x9 L9 Rw hI
    refine glstart (bc := cL_act) (maxL := 3) (ret := (some .int)) (by decide) rfl rfl (Nat.le_of_ble_eq_true rfl) ?_
    intro p e s m below meth c A hAe F hP hD hS ls hl
    have hO : HO D cc A a G Rw s.heap := ⟨x9, L9, hI, hP, hD⟩
    have hl : lv_has ls 3 [(0, .ref (a 0)), (1, .int (nI x)), (2, .int (nI y))] := hl
    have hx := F.1.1.1
    have hb := F.1.1.2.1
    refine lv_iload_n hx hb dL_act_0 rfl (lv_at hl 1 rfl) ?_
    refine lv_bipush (v := nI 16) hx hb dL_act_1 (by decide) ?_
    refine gr_irem hx hb dL_act_3 (by omega) (by omega) (by omega) ?_
    rw [hj]
    refine lv_tableOut (tgt := 344) hx hb dL_act_4 (Or.inr (by decide)) (by decide) ?_
    exact act_344 hst F hx2 hy2 hO hS hl ⟨by omega, by omega⟩ (fun H locs ls hO hS => gHO.endi F hAe hO hS rfl (by omega) (by omega) dL_act_362)
  · refine ⟨(wv ((gPoint G.1 (nI (y % 61)) (nI ((y / 64) % 61))).1)), nxt G (gPoint G.1 (nI (y % 61)) (nI ((y / 64) % 61))).2, fun a => ?_⟩
    intro x9 L9 Rw hI
    refine glstart (bc := cL_act) (maxL := 3) (ret := (some .int)) (by decide) rfl rfl (Nat.le_of_ble_eq_true rfl) ?_
    intro p e s m below meth c A hAe F hP hD hS ls hl
    have hO : HO D cc A a G Rw s.heap := ⟨x9, L9, hI, hP, hD⟩
    have hl : lv_has ls 3 [(0, .ref (a 0)), (1, .int (nI x)), (2, .int (nI y))] := hl
    have hx := F.1.1.1
    have hb := F.1.1.2.1
    refine lv_iload_n hx hb dL_act_0 rfl (lv_at hl 1 rfl) ?_
    refine lv_bipush (v := nI 16) hx hb dL_act_1 (by decide) ?_
    refine gr_irem hx hb dL_act_3 (by omega) (by omega) (by omega) ?_
    rw [hj]
    refine lv_tableOut (tgt := 344) hx hb dL_act_4 (Or.inr (by decide)) (by decide) ?_
    exact act_344 hst F hx2 hy2 hO hS hl ⟨by omega, by omega⟩ (fun H locs ls hO hS => gHO.endi F hAe hO hS rfl (by omega) (by omega) dL_act_362)
  · refine ⟨(wv ((gPoint G.1 (nI (y % 61)) (nI ((y / 64) % 61))).1)), nxt G (gPoint G.1 (nI (y % 61)) (nI ((y / 64) % 61))).2, fun a => ?_⟩
    intro x9 L9 Rw hI
    refine glstart (bc := cL_act) (maxL := 3) (ret := (some .int)) (by decide) rfl rfl (Nat.le_of_ble_eq_true rfl) ?_
    intro p e s m below meth c A hAe F hP hD hS ls hl
    have hO : HO D cc A a G Rw s.heap := ⟨x9, L9, hI, hP, hD⟩
    have hl : lv_has ls 3 [(0, .ref (a 0)), (1, .int (nI x)), (2, .int (nI y))] := hl
    have hx := F.1.1.1
    have hb := F.1.1.2.1
    refine lv_iload_n hx hb dL_act_0 rfl (lv_at hl 1 rfl) ?_
    refine lv_bipush (v := nI 16) hx hb dL_act_1 (by decide) ?_
    refine gr_irem hx hb dL_act_3 (by omega) (by omega) (by omega) ?_
    rw [hj]
    refine lv_tableOut (tgt := 344) hx hb dL_act_4 (Or.inr (by decide)) (by decide) ?_
    exact act_344 hst F hx2 hy2 hO hS hl ⟨by omega, by omega⟩ (fun H locs ls hO hS => gHO.endi F hAe hO hS rfl (by omega) (by omega) dL_act_362)
  · refine ⟨(wv ((gPoint G.1 (nI (y % 61)) (nI ((y / 64) % 61))).1)), nxt G (gPoint G.1 (nI (y % 61)) (nI ((y / 64) % 61))).2, fun a => ?_⟩
    intro x9 L9 Rw hI
    refine glstart (bc := cL_act) (maxL := 3) (ret := (some .int)) (by decide) rfl rfl (Nat.le_of_ble_eq_true rfl) ?_
    intro p e s m below meth c A hAe F hP hD hS ls hl
    have hO : HO D cc A a G Rw s.heap := ⟨x9, L9, hI, hP, hD⟩
    have hl : lv_has ls 3 [(0, .ref (a 0)), (1, .int (nI x)), (2, .int (nI y))] := hl
    have hx := F.1.1.1
    have hb := F.1.1.2.1
    refine lv_iload_n hx hb dL_act_0 rfl (lv_at hl 1 rfl) ?_
    refine lv_bipush (v := nI 16) hx hb dL_act_1 (by decide) ?_
    refine gr_irem hx hb dL_act_3 (by omega) (by omega) (by omega) ?_
    rw [hj]
    refine lv_tableOut (tgt := 344) hx hb dL_act_4 (Or.inr (by decide)) (by decide) ?_
    exact act_344 hst F hx2 hy2 hO hS hl ⟨by omega, by omega⟩ (fun H locs ls hO hS => gHO.endi F hAe hO hS rfl (by omega) (by omega) dL_act_362)
end XLACT
