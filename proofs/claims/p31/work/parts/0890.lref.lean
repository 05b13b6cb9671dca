/-! LAW 1: refuses -/
section XLREF
def rmRf : Room := { frames := 10, cells := 200, slots := 20000, locals := 320 }
variable {p : Program} {l : Launch} {e : Env} {s : State} {m : MethodId} {args : Array Value} {below : List Frame} {meth : Method} {c : Code} {H : Heap} {locs : List Loc} {cells slots : Nat} {Q : State → Prop} {D : va_G} {cc : Nat → ClassId} {A : Nat → Prop} {a : Nat → Nat} {G : GS} {Rw : va_W} {ls : Array Slot} {x : Nat}
theorem rf_b1 (hst : l.stackTraces = false) (F : gF p m c cL_refuses 4 s args wsL_refuses meth (some .boolean) D cc A) (hx2 : x < 2 ^ 31)  (hO : HO D cc A a G Rw H) (hS : va_S A s.heap H locs) (hl : lv_has ls 4 [(0, .ref (a 0)), (1, .int (nI x))]) (hf : cells + 10 ≤ rmRf.cells ∧ slots + 60 ≤ rmRf.slots)
    (kk : ∀ (H : Heap) (locs : List Loc) (ls : Array Slot), HO D cc A a G Rw H → va_S A s.heap H locs → lv_has ls 4 [(0, .ref (a 0)), (1, .int (nI x)), (2, .int (nI (G.1 110))), (3, .int (nI 1))] → W p l e rmRf s m args below meth c H locs (cells + 10) (slots + 60) Q (F0 m 153 ls [])) : W p l e rmRf s m args below meth c H locs cells slots Q (F0 m 0 ls []) := by
  have hx := F.1.1.1
  have hb := F.1.1.2.1
  have hown := F.1.1.2.2.2.1
  have hts := F.1.1.2.2.2.2
  have h := hO.inv
  have h16 := h.h16
  have x9 : x % 9 < 9 := Nat.mod_lt _ (by omega)
  have cwR := va_cwS (rm := rmK 1 6) (R := rmRf) 5 hts gL_refuses_L_call rfl rfl rfl (by decide +kernel) ⟨Nat.le_of_ble_eq_true rfl, Nat.le_of_ble_eq_true rfl⟩
  have k15 : (Cond.constant RL 15 (-9999002)).before args s = true := hts _ (by decide +kernel)
  have k39 : (Cond.constant RL 39 (-9999001)).before args s = true := hts _ (by decide +kernel)
  by_cases z0 : G.1 110 = 0
  · refine lv_aload_n hx hb dL_refuses_0 rfl (lv_at hl 0 rfl) ?_
    refine lv_iconst (v := nI 1) hx hb dL_refuses_1 (by decide) ?_
    refine lv_iconst (v := nI 4) hx hb dL_refuses_2 (by decide) ?_
    refine lv_iconst (v := nI 0) hx hb dL_refuses_3 (by decide) ?_
    refine lv_iconst (v := nI 0) hx hb dL_refuses_4 (by decide) ?_
    refine gstepS (As := [.int (nI 1), .int (nI 4), .int (nI 0), .int (nI 0)]) (rest := []) F ((kq1 l hst D cc a G (nI 4) (nI 0) (nI 0)).v (ab4 _)) cwR hO hS hl rfl rfl (Nat.le_of_ble_eq_true rfl) dL_refuses_5 ⟨by omega, by omega⟩ (fun H locs hO hS => ?_)
    refine lv_istore_n (lv' := [(2, .int (nI (G.1 110))), (0, .ref (a 0)), (1, .int (nI x))]) hx hb dL_refuses_8 rfl hl (by decide) rfl (fun ls hl => ?_)
    refine lv_aload_n hx hb dL_refuses_9 rfl (lv_at hl 1 rfl) ?_
    refine lv_iconst (v := nI 1) hx hb dL_refuses_10 (by decide) ?_
    refine lv_bipush (v := nI 8) hx hb dL_refuses_11 (by decide) ?_
    refine lv_iload_n hx hb dL_refuses_13 rfl (lv_at hl 2 rfl) ?_
    refine lv_bipush (v := nI 9) hx hb dL_refuses_14 (by decide) ?_
    refine gr_irem hx hb dL_refuses_16 (by omega) (by omega) (by omega) ?_
    refine gr_iadd hx hb dL_refuses_17 ?_
    refine lv_iconst (v := nI 0) hx hb dL_refuses_18 (by decide) ?_
    refine lv_iconst (v := nI 0) hx hb dL_refuses_19 (by decide) ?_
    refine gstepS (As := [.int (nI 1), .int (nI (8 + (x % 9))), .int (nI 0), .int (nI 0)]) (rest := []) F ((kq1 l hst D cc a G (nI (8 + (x % 9))) (nI 0) (nI 0)).v (ab_no _ (by omega) (by omega))) cwR hO hS hl rfl rfl (Nat.le_of_ble_eq_true rfl) dL_refuses_20 ⟨by omega, by omega⟩ (fun H locs hO hS => ?_)
    refine lv_ldc (v := (-9999002 : Int32)) hx hb hown k15 dL_refuses_23 ?_
    refine lv_icmp_ne (tgt := 151) hx hb dL_refuses_25 (by decide) (fun c9 => absurd ((rfl : (_ : Int32) = _)) c9) (fun _ => ?_)
    refine lv_aload_n hx hb dL_refuses_28 rfl (lv_at hl 1 rfl) ?_
    refine lv_iconst (v := nI 2) hx hb dL_refuses_29 (by decide) ?_
    refine lv_iconst (v := (-1 : Int32)) hx hb dL_refuses_30 (by decide) ?_
    refine lv_iload_n hx hb dL_refuses_31 rfl (lv_at hl 2 rfl) ?_
    refine lv_bipush (v := nI 9) hx hb dL_refuses_32 (by decide) ?_
    refine gr_irem hx hb dL_refuses_34 (by omega) (by omega) (by omega) ?_
    refine lv_isub hx hb dL_refuses_35 ?_
    refine lv_iconst (v := nI 0) hx hb dL_refuses_36 (by decide) ?_
    refine lv_iconst (v := nI 0) hx hb dL_refuses_37 (by decide) ?_
    refine gstepS (As := [.int (nI 2), .int (((-1 : Int32)) - (nI (x % 9))), .int (nI 0), .int (nI 0)]) (rest := []) F ((kq2 l hst D cc a G (((-1 : Int32)) - (nI (x % 9))) (nI 0) (nI 0)).v (sg_no _ (neg_sub x9))) cwR hO hS hl rfl rfl (Nat.le_of_ble_eq_true rfl) dL_refuses_38 ⟨by omega, by omega⟩ (fun H locs hO hS => ?_)
    refine lv_ldc (v := (-9999002 : Int32)) hx hb hown k15 dL_refuses_41 ?_
    refine lv_icmp_ne (tgt := 151) hx hb dL_refuses_43 (by decide) (fun c9 => absurd ((rfl : (_ : Int32) = _)) c9) (fun _ => ?_)
    refine lv_aload_n hx hb dL_refuses_46 rfl (lv_at hl 1 rfl) ?_
    refine lv_iconst (v := nI 3) hx hb dL_refuses_47 (by decide) ?_
    refine lv_iload_n hx hb dL_refuses_48 rfl (lv_at hl 0 rfl) ?_
    refine lv_bipush (v := nI 9) hx hb dL_refuses_49 (by decide) ?_
    refine lv_iconst (v := nI 0) hx hb dL_refuses_51 (by decide) ?_
    refine gstepS (As := [.int (nI 3), .int (nI (G.1 110)), .int (nI 9), .int (nI 0)]) (rest := []) F ((kq3 l hst D cc a G (nI (G.1 110)) (nI 9) (nI 0)).v (sa_no _ (Nat.le_refl _) (by omega) _)) cwR hO hS hl rfl rfl (Nat.le_of_ble_eq_true rfl) dL_refuses_52 ⟨by omega, by omega⟩ (fun H locs hO hS => ?_)
    refine lv_ldc (v := (-9999001 : Int32)) hx hb hown k39 dL_refuses_55 ?_
    refine lv_icmp_ne (tgt := 151) hx hb dL_refuses_57 (by decide) (fun c9 => absurd ((rfl : (_ : Int32) = _)) c9) (fun _ => ?_)
    refine lv_iload_n hx hb dL_refuses_60 rfl (lv_at hl 0 rfl) ?_
    refine lv_if_eq (tgt := 99) hx hb dL_refuses_61 (by decide) (fun _ => ?_) (fun c9 => absurd ((show nI (G.1 110) = 0 by rw [z0]; rfl)) c9)
    refine lv_aload_n hx hb dL_refuses_99 rfl (lv_at hl 1 rfl) ?_
    refine lv_iconst (v := nI 4) hx hb dL_refuses_100 (by decide) ?_
    refine lv_iload_n hx hb dL_refuses_101 rfl (lv_at hl 0 rfl) ?_
    refine lv_iconst (v := (-1 : Int32)) hx hb dL_refuses_102 (by decide) ?_
    refine lv_iconst (v := nI 0) hx hb dL_refuses_103 (by decide) ?_
    refine gstepS (As := [.int (nI 4), .int (nI (G.1 110)), .int ((-1 : Int32)), .int (nI 0)]) (rest := []) F ((kq4 l hst D cc a G (nI (G.1 110)) ((-1 : Int32)) (nI 0)).v (so_no _ (Nat.le_refl _) (by omega) _)) cwR hO hS hl rfl rfl (Nat.le_of_ble_eq_true rfl) dL_refuses_104 ⟨by omega, by omega⟩ (fun H locs hO hS => ?_)
    refine lv_ldc (v := (-9999001 : Int32)) hx hb hown k39 dL_refuses_107 ?_
    refine lv_icmp_ne (tgt := 151) hx hb dL_refuses_109 (by decide) (fun c9 => absurd ((rfl : (_ : Int32) = _)) c9) (fun _ => ?_)
    refine lv_aload_n hx hb dL_refuses_112 rfl (lv_at hl 1 rfl) ?_
    refine lv_iconst (v := nI 5) hx hb dL_refuses_113 (by decide) ?_
    refine lv_bipush (v := nI 10) hx hb dL_refuses_114 (by decide) ?_
    refine lv_iconst (v := nI 0) hx hb dL_refuses_116 (by decide) ?_
    refine lv_iconst (v := nI 0) hx hb dL_refuses_117 (by decide) ?_
    refine gstepS (As := [.int (nI 5), .int (nI 10), .int (nI 0), .int (nI 0)]) (rest := []) F ((kq5 l hst D cc a G (nI 10) (nI 0) (nI 0)).v (pr_no _ (by omega) (by omega) _)) cwR hO hS hl rfl rfl (Nat.le_of_ble_eq_true rfl) dL_refuses_118 ⟨by omega, by omega⟩ (fun H locs hO hS => ?_)
    refine lv_ldc (v := (-9999002 : Int32)) hx hb hown k15 dL_refuses_121 ?_
    refine lv_icmp_ne (tgt := 151) hx hb dL_refuses_123 (by decide) (fun c9 => absurd ((rfl : (_ : Int32) = _)) c9) (fun _ => ?_)
    refine lv_aload_n hx hb dL_refuses_126 rfl (lv_at hl 1 rfl) ?_
    refine lv_iconst (v := nI 5) hx hb dL_refuses_127 (by decide) ?_
    refine lv_iload_n hx hb dL_refuses_128 rfl (lv_at hl 2 rfl) ?_
    refine lv_bipush (v := nI 10) hx hb dL_refuses_129 (by decide) ?_
    refine gr_irem hx hb dL_refuses_131 (by omega) (by omega) (by omega) ?_
    refine lv_iconst (v := nI 3) hx hb dL_refuses_132 (by decide) ?_
    refine lv_iload_n hx hb dL_refuses_133 rfl (lv_at hl 2 rfl) ?_
    refine lv_bipush (v := nI 9) hx hb dL_refuses_134 (by decide) ?_
    refine gr_irem hx hb dL_refuses_136 (by omega) (by omega) (by omega) ?_
    refine gr_iadd hx hb dL_refuses_137 ?_
    refine lv_iconst (v := nI 0) hx hb dL_refuses_138 (by decide) ?_
    refine gstepS (As := [.int (nI 5), .int (nI (x % 10)), .int (nI (3 + (x % 9))), .int (nI 0)]) (rest := []) F ((kq5 l hst D cc a G (nI (x % 10)) (nI (3 + (x % 9))) (nI 0)).v (pr_no2 _ (Nat.mod_lt _ (by omega)) (by omega) (by omega))) cwR hO hS hl rfl rfl (Nat.le_of_ble_eq_true rfl) dL_refuses_139 ⟨by omega, by omega⟩ (fun H locs hO hS => ?_)
    refine lv_ldc (v := (-9999002 : Int32)) hx hb hown k15 dL_refuses_142 ?_
    refine lv_icmp_ne (tgt := 151) hx hb dL_refuses_144 (by decide) (fun c9 => absurd ((rfl : (_ : Int32) = _)) c9) (fun _ => ?_)
    refine lv_iconst (v := nI 1) hx hb dL_refuses_147 (by decide) ?_
    refine lv_goto (tgt := 152) hx hb dL_refuses_148 (by decide) ?_
    refine lv_istore_n (lv' := [(3, .int (nI 1)), (2, .int (nI (G.1 110))), (0, .ref (a 0)), (1, .int (nI x))]) hx hb dL_refuses_152 rfl hl (by decide) rfl (fun ls hl => ?_)
    refine W.widen (k := cells + 10) (n := slots + 60) (by omega) (by omega) ?_
    exact kk H locs ls hO hS (lv_sub hl [2, 3, 1, 0] rfl)
  · refine lv_aload_n hx hb dL_refuses_0 rfl (lv_at hl 0 rfl) ?_
    refine lv_iconst (v := nI 1) hx hb dL_refuses_1 (by decide) ?_
    refine lv_iconst (v := nI 4) hx hb dL_refuses_2 (by decide) ?_
    refine lv_iconst (v := nI 0) hx hb dL_refuses_3 (by decide) ?_
    refine lv_iconst (v := nI 0) hx hb dL_refuses_4 (by decide) ?_
    refine gstepS (As := [.int (nI 1), .int (nI 4), .int (nI 0), .int (nI 0)]) (rest := []) F ((kq1 l hst D cc a G (nI 4) (nI 0) (nI 0)).v (ab4 _)) cwR hO hS hl rfl rfl (Nat.le_of_ble_eq_true rfl) dL_refuses_5 ⟨by omega, by omega⟩ (fun H locs hO hS => ?_)
    refine lv_istore_n (lv' := [(2, .int (nI (G.1 110))), (0, .ref (a 0)), (1, .int (nI x))]) hx hb dL_refuses_8 rfl hl (by decide) rfl (fun ls hl => ?_)
    refine lv_aload_n hx hb dL_refuses_9 rfl (lv_at hl 1 rfl) ?_
    refine lv_iconst (v := nI 1) hx hb dL_refuses_10 (by decide) ?_
    refine lv_bipush (v := nI 8) hx hb dL_refuses_11 (by decide) ?_
    refine lv_iload_n hx hb dL_refuses_13 rfl (lv_at hl 2 rfl) ?_
    refine lv_bipush (v := nI 9) hx hb dL_refuses_14 (by decide) ?_
    refine gr_irem hx hb dL_refuses_16 (by omega) (by omega) (by omega) ?_
    refine gr_iadd hx hb dL_refuses_17 ?_
    refine lv_iconst (v := nI 0) hx hb dL_refuses_18 (by decide) ?_
    refine lv_iconst (v := nI 0) hx hb dL_refuses_19 (by decide) ?_
    refine gstepS (As := [.int (nI 1), .int (nI (8 + (x % 9))), .int (nI 0), .int (nI 0)]) (rest := []) F ((kq1 l hst D cc a G (nI (8 + (x % 9))) (nI 0) (nI 0)).v (ab_no _ (by omega) (by omega))) cwR hO hS hl rfl rfl (Nat.le_of_ble_eq_true rfl) dL_refuses_20 ⟨by omega, by omega⟩ (fun H locs hO hS => ?_)
    refine lv_ldc (v := (-9999002 : Int32)) hx hb hown k15 dL_refuses_23 ?_
    refine lv_icmp_ne (tgt := 151) hx hb dL_refuses_25 (by decide) (fun c9 => absurd ((rfl : (_ : Int32) = _)) c9) (fun _ => ?_)
    refine lv_aload_n hx hb dL_refuses_28 rfl (lv_at hl 1 rfl) ?_
    refine lv_iconst (v := nI 2) hx hb dL_refuses_29 (by decide) ?_
    refine lv_iconst (v := (-1 : Int32)) hx hb dL_refuses_30 (by decide) ?_
    refine lv_iload_n hx hb dL_refuses_31 rfl (lv_at hl 2 rfl) ?_
    refine lv_bipush (v := nI 9) hx hb dL_refuses_32 (by decide) ?_
    refine gr_irem hx hb dL_refuses_34 (by omega) (by omega) (by omega) ?_
    refine lv_isub hx hb dL_refuses_35 ?_
    refine lv_iconst (v := nI 0) hx hb dL_refuses_36 (by decide) ?_
    refine lv_iconst (v := nI 0) hx hb dL_refuses_37 (by decide) ?_
    refine gstepS (As := [.int (nI 2), .int (((-1 : Int32)) - (nI (x % 9))), .int (nI 0), .int (nI 0)]) (rest := []) F ((kq2 l hst D cc a G (((-1 : Int32)) - (nI (x % 9))) (nI 0) (nI 0)).v (sg_no _ (neg_sub x9))) cwR hO hS hl rfl rfl (Nat.le_of_ble_eq_true rfl) dL_refuses_38 ⟨by omega, by omega⟩ (fun H locs hO hS => ?_)
    refine lv_ldc (v := (-9999002 : Int32)) hx hb hown k15 dL_refuses_41 ?_
    refine lv_icmp_ne (tgt := 151) hx hb dL_refuses_43 (by decide) (fun c9 => absurd ((rfl : (_ : Int32) = _)) c9) (fun _ => ?_)
    refine lv_aload_n hx hb dL_refuses_46 rfl (lv_at hl 1 rfl) ?_
    refine lv_iconst (v := nI 3) hx hb dL_refuses_47 (by decide) ?_
    refine lv_iload_n hx hb dL_refuses_48 rfl (lv_at hl 0 rfl) ?_
    refine lv_bipush (v := nI 9) hx hb dL_refuses_49 (by decide) ?_
    refine lv_iconst (v := nI 0) hx hb dL_refuses_51 (by decide) ?_
    refine gstepS (As := [.int (nI 3), .int (nI (G.1 110)), .int (nI 9), .int (nI 0)]) (rest := []) F ((kq3 l hst D cc a G (nI (G.1 110)) (nI 9) (nI 0)).v (sa_no _ (Nat.le_refl _) (by omega) _)) cwR hO hS hl rfl rfl (Nat.le_of_ble_eq_true rfl) dL_refuses_52 ⟨by omega, by omega⟩ (fun H locs hO hS => ?_)
    refine lv_ldc (v := (-9999001 : Int32)) hx hb hown k39 dL_refuses_55 ?_
    refine lv_icmp_ne (tgt := 151) hx hb dL_refuses_57 (by decide) (fun c9 => absurd ((rfl : (_ : Int32) = _)) c9) (fun _ => ?_)
    refine lv_iload_n hx hb dL_refuses_60 rfl (lv_at hl 0 rfl) ?_
    refine lv_if_eq (tgt := 99) hx hb dL_refuses_61 (by decide) (fun c9 => absurd c9 (nI_ne0 (by omega) (by omega))) (fun _ => ?_)
    refine lv_aload_n hx hb dL_refuses_64 rfl (lv_at hl 1 rfl) ?_
    refine lv_iconst (v := nI 3) hx hb dL_refuses_65 (by decide) ?_
    refine lv_iload_n hx hb dL_refuses_66 rfl (lv_at hl 2 rfl) ?_
    refine lv_iload_n hx hb dL_refuses_67 rfl (lv_at hl 0 rfl) ?_
    refine gr_irem hx hb dL_refuses_68 (by omega) (by omega) (by omega) ?_
    refine lv_iconst (v := nI 4) hx hb dL_refuses_69 (by decide) ?_
    refine lv_iload_n hx hb dL_refuses_70 rfl (lv_at hl 2 rfl) ?_
    refine lv_bipush (v := nI 9) hx hb dL_refuses_71 (by decide) ?_
    refine gr_irem hx hb dL_refuses_73 (by omega) (by omega) (by omega) ?_
    refine gr_iadd hx hb dL_refuses_74 ?_
    refine lv_iconst (v := nI 0) hx hb dL_refuses_75 (by decide) ?_
    refine gstepS (As := [.int (nI 3), .int (nI (x % (G.1 110))), .int (nI (4 + (x % 9))), .int (nI 0)]) (rest := []) F ((kq3 l hst D cc a G (nI (x % (G.1 110))) (nI (4 + (x % 9))) (nI 0)).v (sa_no2 _ (Nat.mod_lt _ (by omega)) h16 (by omega) (by omega))) cwR hO hS hl rfl rfl (Nat.le_of_ble_eq_true rfl) dL_refuses_76 ⟨by omega, by omega⟩ (fun H locs hO hS => ?_)
    refine lv_ldc (v := (-9999002 : Int32)) hx hb hown k15 dL_refuses_79 ?_
    refine lv_icmp_ne (tgt := 151) hx hb dL_refuses_81 (by decide) (fun c9 => absurd ((rfl : (_ : Int32) = _)) c9) (fun _ => ?_)
    refine lv_aload_n hx hb dL_refuses_84 rfl (lv_at hl 1 rfl) ?_
    refine lv_iconst (v := nI 4) hx hb dL_refuses_85 (by decide) ?_
    refine lv_iload_n hx hb dL_refuses_86 rfl (lv_at hl 2 rfl) ?_
    refine lv_iload_n hx hb dL_refuses_87 rfl (lv_at hl 0 rfl) ?_
    refine gr_irem hx hb dL_refuses_88 (by omega) (by omega) (by omega) ?_
    refine lv_iconst (v := (-1 : Int32)) hx hb dL_refuses_89 (by decide) ?_
    refine lv_iconst (v := nI 0) hx hb dL_refuses_90 (by decide) ?_
    refine gstepS (As := [.int (nI 4), .int (nI (x % (G.1 110))), .int ((-1 : Int32)), .int (nI 0)]) (rest := []) F ((kq4 l hst D cc a G (nI (x % (G.1 110))) ((-1 : Int32)) (nI 0)).v (so_no2 _ (Nat.mod_lt _ (by omega)) h16 (by decide))) cwR hO hS hl rfl rfl (Nat.le_of_ble_eq_true rfl) dL_refuses_91 ⟨by omega, by omega⟩ (fun H locs hO hS => ?_)
    refine lv_ldc (v := (-9999002 : Int32)) hx hb hown k15 dL_refuses_94 ?_
    refine lv_icmp_ne (tgt := 151) hx hb dL_refuses_96 (by decide) (fun c9 => absurd ((rfl : (_ : Int32) = _)) c9) (fun _ => ?_)
    refine lv_aload_n hx hb dL_refuses_99 rfl (lv_at hl 1 rfl) ?_
    refine lv_iconst (v := nI 4) hx hb dL_refuses_100 (by decide) ?_
    refine lv_iload_n hx hb dL_refuses_101 rfl (lv_at hl 0 rfl) ?_
    refine lv_iconst (v := (-1 : Int32)) hx hb dL_refuses_102 (by decide) ?_
    refine lv_iconst (v := nI 0) hx hb dL_refuses_103 (by decide) ?_
    refine gstepS (As := [.int (nI 4), .int (nI (G.1 110)), .int ((-1 : Int32)), .int (nI 0)]) (rest := []) F ((kq4 l hst D cc a G (nI (G.1 110)) ((-1 : Int32)) (nI 0)).v (so_no _ (Nat.le_refl _) (by omega) _)) cwR hO hS hl rfl rfl (Nat.le_of_ble_eq_true rfl) dL_refuses_104 ⟨by omega, by omega⟩ (fun H locs hO hS => ?_)
    refine lv_ldc (v := (-9999001 : Int32)) hx hb hown k39 dL_refuses_107 ?_
    refine lv_icmp_ne (tgt := 151) hx hb dL_refuses_109 (by decide) (fun c9 => absurd ((rfl : (_ : Int32) = _)) c9) (fun _ => ?_)
    refine lv_aload_n hx hb dL_refuses_112 rfl (lv_at hl 1 rfl) ?_
    refine lv_iconst (v := nI 5) hx hb dL_refuses_113 (by decide) ?_
    refine lv_bipush (v := nI 10) hx hb dL_refuses_114 (by decide) ?_
    refine lv_iconst (v := nI 0) hx hb dL_refuses_116 (by decide) ?_
    refine lv_iconst (v := nI 0) hx hb dL_refuses_117 (by decide) ?_
    refine gstepS (As := [.int (nI 5), .int (nI 10), .int (nI 0), .int (nI 0)]) (rest := []) F ((kq5 l hst D cc a G (nI 10) (nI 0) (nI 0)).v (pr_no _ (by omega) (by omega) _)) cwR hO hS hl rfl rfl (Nat.le_of_ble_eq_true rfl) dL_refuses_118 ⟨by omega, by omega⟩ (fun H locs hO hS => ?_)
    refine lv_ldc (v := (-9999002 : Int32)) hx hb hown k15 dL_refuses_121 ?_
    refine lv_icmp_ne (tgt := 151) hx hb dL_refuses_123 (by decide) (fun c9 => absurd ((rfl : (_ : Int32) = _)) c9) (fun _ => ?_)
    refine lv_aload_n hx hb dL_refuses_126 rfl (lv_at hl 1 rfl) ?_
    refine lv_iconst (v := nI 5) hx hb dL_refuses_127 (by decide) ?_
    refine lv_iload_n hx hb dL_refuses_128 rfl (lv_at hl 2 rfl) ?_
    refine lv_bipush (v := nI 10) hx hb dL_refuses_129 (by decide) ?_
    refine gr_irem hx hb dL_refuses_131 (by omega) (by omega) (by omega) ?_
    refine lv_iconst (v := nI 3) hx hb dL_refuses_132 (by decide) ?_
    refine lv_iload_n hx hb dL_refuses_133 rfl (lv_at hl 2 rfl) ?_
    refine lv_bipush (v := nI 9) hx hb dL_refuses_134 (by decide) ?_
    refine gr_irem hx hb dL_refuses_136 (by omega) (by omega) (by omega) ?_
    refine gr_iadd hx hb dL_refuses_137 ?_
    refine lv_iconst (v := nI 0) hx hb dL_refuses_138 (by decide) ?_
    refine gstepS (As := [.int (nI 5), .int (nI (x % 10)), .int (nI (3 + (x % 9))), .int (nI 0)]) (rest := []) F ((kq5 l hst D cc a G (nI (x % 10)) (nI (3 + (x % 9))) (nI 0)).v (pr_no2 _ (Nat.mod_lt _ (by omega)) (by omega) (by omega))) cwR hO hS hl rfl rfl (Nat.le_of_ble_eq_true rfl) dL_refuses_139 ⟨by omega, by omega⟩ (fun H locs hO hS => ?_)
    refine lv_ldc (v := (-9999002 : Int32)) hx hb hown k15 dL_refuses_142 ?_
    refine lv_icmp_ne (tgt := 151) hx hb dL_refuses_144 (by decide) (fun c9 => absurd ((rfl : (_ : Int32) = _)) c9) (fun _ => ?_)
    refine lv_iconst (v := nI 1) hx hb dL_refuses_147 (by decide) ?_
    refine lv_goto (tgt := 152) hx hb dL_refuses_148 (by decide) ?_
    refine lv_istore_n (lv' := [(3, .int (nI 1)), (2, .int (nI (G.1 110))), (0, .ref (a 0)), (1, .int (nI x))]) hx hb dL_refuses_152 rfl hl (by decide) rfl (fun ls hl => ?_)
    refine W.widen (k := cells + 10) (n := slots + 60) (by omega) (by omega) ?_
    exact kk H locs ls hO hS (lv_sub hl [2, 3, 1, 0] rfl)
theorem rf_b2 (hst : l.stackTraces = false) (F : gF p m c cL_refuses 4 s args wsL_refuses meth (some .boolean) D cc A) (hx2 : x < 2 ^ 31)  (hO : HO D cc A a G Rw H) (hS : va_S A s.heap H locs) (hl : lv_has ls 4 [(0, .ref (a 0)), (1, .int (nI x)), (2, .int (nI (G.1 110))), (3, .int (nI 1))]) (hf : cells + 105 ≤ rmRf.cells ∧ slots + 13100 ≤ rmRf.slots)
    (kk : ∀ (H : Heap) (locs : List Loc) (ls : Array Slot), HO D cc A a G Rw H → va_S A s.heap H locs → lv_has ls 4 [(0, .ref (a 0)), (1, .int (nI x)), (2, .int (nI (G.1 110))), (3, .int (nI 1))] → W p l e rmRf s m args below meth c H locs (cells + 105) (slots + 13100) Q (F0 m 350 ls [])) : W p l e rmRf s m args below meth c H locs cells slots Q (F0 m 153 ls []) := by
  have hx := F.1.1.1
  have hb := F.1.1.2.1
  have hown := F.1.1.2.2.2.1
  have hts := F.1.1.2.2.2.2
  have h := hO.inv
  have h16 := h.h16
  have x9 : x % 9 < 9 := Nat.mod_lt _ (by omega)
  have cwR := va_cwS (rm := rmK 1 6) (R := rmRf) 5 hts gL_refuses_L_call rfl rfl rfl (by decide +kernel) ⟨Nat.le_of_ble_eq_true rfl, Nat.le_of_ble_eq_true rfl⟩
  have cwA := va_cwS (rm := rmK 11 1443) (R := rmRf) 5 hts gL_refuses_L_call rfl rfl rfl (by decide +kernel) ⟨Nat.le_of_ble_eq_true rfl, Nat.le_of_ble_eq_true rfl⟩
  have k15 : (Cond.constant RL 15 (-9999002)).before args s = true := hts _ (by decide +kernel)
  have k39 : (Cond.constant RL 39 (-9999001)).before args s = true := hts _ (by decide +kernel)
  refine lv_iload_n hx hb dL_refuses_153 rfl (lv_at hl 3 rfl) ?_
  refine lv_if_eq (tgt := 348) hx hb dL_refuses_154 (by decide) (fun c9 => absurd c9 (show ¬ nI 1 = 0 by decide)) (fun _ => ?_)
  refine lv_aload_n hx hb dL_refuses_157 rfl (lv_at hl 0 rfl) ?_
  refine lv_bipush (v := nI 6) hx hb dL_refuses_158 (by decide) ?_
  refine lv_iconst (v := nI 3) hx hb dL_refuses_160 (by decide) ?_
  refine lv_iload_n hx hb dL_refuses_161 rfl (lv_at hl 1 rfl) ?_
  refine lv_bipush (v := nI 9) hx hb dL_refuses_162 (by decide) ?_
  refine gr_irem hx hb dL_refuses_164 (by omega) (by omega) (by omega) ?_
  refine gr_iadd hx hb dL_refuses_165 ?_
  refine lv_iconst (v := nI 0) hx hb dL_refuses_166 (by decide) ?_
  refine lv_iconst (v := nI 0) hx hb dL_refuses_167 (by decide) ?_
  refine gstepS (As := [.int (nI 6), .int (nI (3 + (x % 9))), .int (nI 0), .int (nI 0)]) (rest := []) F ((kq6 l hst D cc a G (nI (3 + (x % 9))) (nI 0) (nI 0)).v (se_no _ (by omega) (by omega))) cwR hO hS hl rfl rfl (Nat.le_of_ble_eq_true rfl) dL_refuses_168 ⟨by omega, by omega⟩ (fun H locs hO hS => ?_)
  refine lv_ldc (v := (-9999002 : Int32)) hx hb hown k15 dL_refuses_171 ?_
  refine lv_icmp_ne (tgt := 348) hx hb dL_refuses_173 (by decide) (fun c9 => absurd ((rfl : (_ : Int32) = _)) c9) (fun _ => ?_)
  refine lv_aload_n hx hb dL_refuses_176 rfl (lv_at hl 0 rfl) ?_
  refine lv_bipush (v := nI 7) hx hb dL_refuses_177 (by decide) ?_
  refine lv_bipush (v := nI 61) hx hb dL_refuses_179 (by decide) ?_
  refine lv_iload_n hx hb dL_refuses_181 rfl (lv_at hl 1 rfl) ?_
  refine lv_bipush (v := nI 9) hx hb dL_refuses_182 (by decide) ?_
  refine gr_irem hx hb dL_refuses_184 (by omega) (by omega) (by omega) ?_
  refine gr_iadd hx hb dL_refuses_185 ?_
  refine lv_iconst (v := nI 0) hx hb dL_refuses_186 (by decide) ?_
  refine lv_iconst (v := nI 0) hx hb dL_refuses_187 (by decide) ?_
  refine gstepS (As := [.int (nI 7), .int (nI (61 + (x % 9))), .int (nI 0), .int (nI 0)]) (rest := []) F (((kq7 l hst D cc a G (nI (61 + (x % 9))) (nI 0) (nI 0)).v (wv1 (po_no _ (by omega) (by omega) _) wv_IA)).g (nx1 (po_no _ (by omega) (by omega) _))) cwA hO hS hl rfl rfl (Nat.le_of_ble_eq_true rfl) dL_refuses_188 ⟨by omega, by omega⟩ (fun H locs hO hS => ?_)
  refine lv_ldc (v := (-9999002 : Int32)) hx hb hown k15 dL_refuses_191 ?_
  refine lv_icmp_ne (tgt := 348) hx hb dL_refuses_193 (by decide) (fun c9 => absurd ((rfl : (_ : Int32) = _)) c9) (fun _ => ?_)
  refine lv_aload_n hx hb dL_refuses_196 rfl (lv_at hl 0 rfl) ?_
  refine lv_bipush (v := nI 7) hx hb dL_refuses_197 (by decide) ?_
  refine lv_iload_n hx hb dL_refuses_199 rfl (lv_at hl 1 rfl) ?_
  refine lv_bipush (v := nI 61) hx hb dL_refuses_200 (by decide) ?_
  refine gr_irem hx hb dL_refuses_202 (by omega) (by omega) (by omega) ?_
  refine lv_iconst (v := (-1 : Int32)) hx hb dL_refuses_203 (by decide) ?_
  refine lv_iload_n hx hb dL_refuses_204 rfl (lv_at hl 1 rfl) ?_
  refine lv_bipush (v := nI 9) hx hb dL_refuses_205 (by decide) ?_
  refine gr_irem hx hb dL_refuses_207 (by omega) (by omega) (by omega) ?_
  refine lv_isub hx hb dL_refuses_208 ?_
  refine lv_iconst (v := nI 0) hx hb dL_refuses_209 (by decide) ?_
  refine gstepS (As := [.int (nI 7), .int (nI (x % 61)), .int (((-1 : Int32)) - (nI (x % 9))), .int (nI 0)]) (rest := []) F (((kq7 l hst D cc a G (nI (x % 61)) (((-1 : Int32)) - (nI (x % 9))) (nI 0)).v (wv1 (po_no2 _ (Nat.mod_lt _ (by omega)) (neg_sub x9)) wv_IA)).g (nx1 (po_no2 _ (Nat.mod_lt _ (by omega)) (neg_sub x9)))) cwA hO hS hl rfl rfl (Nat.le_of_ble_eq_true rfl) dL_refuses_210 ⟨by omega, by omega⟩ (fun H locs hO hS => ?_)
  refine lv_ldc (v := (-9999002 : Int32)) hx hb hown k15 dL_refuses_213 ?_
  refine lv_icmp_ne (tgt := 348) hx hb dL_refuses_215 (by decide) (fun c9 => absurd ((rfl : (_ : Int32) = _)) c9) (fun _ => ?_)
  refine lv_aload_n hx hb dL_refuses_218 rfl (lv_at hl 0 rfl) ?_
  refine lv_bipush (v := nI 9) hx hb dL_refuses_219 (by decide) ?_
  refine lv_bipush (v := nI 10) hx hb dL_refuses_221 (by decide) ?_
  refine lv_iload_n hx hb dL_refuses_223 rfl (lv_at hl 1 rfl) ?_
  refine lv_bipush (v := nI 9) hx hb dL_refuses_224 (by decide) ?_
  refine gr_irem hx hb dL_refuses_226 (by omega) (by omega) (by omega) ?_
  refine gr_iadd hx hb dL_refuses_227 ?_
  refine lv_iconst (v := nI 0) hx hb dL_refuses_228 (by decide) ?_
  refine lv_iconst (v := nI 0) hx hb dL_refuses_229 (by decide) ?_
  refine gstepS (As := [.int (nI 9), .int (nI (10 + (x % 9))), .int (nI 0), .int (nI 0)]) (rest := []) F (((kq9 l hst D cc a G (nI (10 + (x % 9))) (nI 0) (nI 0)).v (wv1 (le_no _ (by omega) (by omega)) wv_IA)).g (nx1 (le_no _ (by omega) (by omega)))) cwA hO hS hl rfl rfl (Nat.le_of_ble_eq_true rfl) dL_refuses_230 ⟨by omega, by omega⟩ (fun H locs hO hS => ?_)
  refine lv_ldc (v := (-9999002 : Int32)) hx hb hown k15 dL_refuses_233 ?_
  refine lv_icmp_ne (tgt := 348) hx hb dL_refuses_235 (by decide) (fun c9 => absurd ((rfl : (_ : Int32) = _)) c9) (fun _ => ?_)
  refine lv_aload_n hx hb dL_refuses_238 rfl (lv_at hl 0 rfl) ?_
  refine lv_bipush (v := nI 10) hx hb dL_refuses_239 (by decide) ?_
  refine lv_iload_n hx hb dL_refuses_241 rfl (lv_at hl 2 rfl) ?_
  refine lv_iload_n hx hb dL_refuses_242 rfl (lv_at hl 1 rfl) ?_
  refine lv_bipush (v := nI 9) hx hb dL_refuses_243 (by decide) ?_
  refine gr_irem hx hb dL_refuses_245 (by omega) (by omega) (by omega) ?_
  refine gr_iadd hx hb dL_refuses_246 ?_
  refine lv_iconst (v := nI 0) hx hb dL_refuses_247 (by decide) ?_
  refine lv_iconst (v := nI 0) hx hb dL_refuses_248 (by decide) ?_
  refine gstepS (As := [.int (nI 10), .int (nI ((G.1 110) + (x % 9))), .int (nI 0), .int (nI 0)]) (rest := []) F (((kq10 l hst D cc a G (nI ((G.1 110) + (x % 9))) (nI 0) (nI 0)).v (wv1 (fo_no _ (by omega) (by omega)) wv_IO)).g (nx1 (fo_no _ (by omega) (by omega)))) cwA hO hS hl rfl rfl (Nat.le_of_ble_eq_true rfl) dL_refuses_249 ⟨by omega, by omega⟩ (fun H locs hO hS => ?_)
  refine lv_ldc (v := (-9999001 : Int32)) hx hb hown k39 dL_refuses_252 ?_
  refine lv_icmp_ne (tgt := 348) hx hb dL_refuses_254 (by decide) (fun c9 => absurd ((rfl : (_ : Int32) = _)) c9) (fun _ => ?_)
  refine lv_aload_n hx hb dL_refuses_257 rfl (lv_at hl 0 rfl) ?_
  refine lv_bipush (v := nI 11) hx hb dL_refuses_258 (by decide) ?_
  refine lv_iconst (v := (-1 : Int32)) hx hb dL_refuses_260 (by decide) ?_
  refine lv_iload_n hx hb dL_refuses_261 rfl (lv_at hl 1 rfl) ?_
  refine lv_bipush (v := nI 9) hx hb dL_refuses_262 (by decide) ?_
  refine gr_irem hx hb dL_refuses_264 (by omega) (by omega) (by omega) ?_
  refine lv_isub hx hb dL_refuses_265 ?_
  refine lv_iconst (v := nI 0) hx hb dL_refuses_266 (by decide) ?_
  refine lv_iconst (v := nI 0) hx hb dL_refuses_267 (by decide) ?_
  refine gstepS (As := [.int (nI 11), .int (((-1 : Int32)) - (nI (x % 9))), .int (nI 0), .int (nI 0)]) (rest := []) F (((kq11 l hst D cc a G (((-1 : Int32)) - (nI (x % 9))) (nI 0) (nI 0)).v (wv1 (pc_no _ (neg_sub x9)) wv_IA)).g (nx1 (pc_no _ (neg_sub x9)))) cwA hO hS hl rfl rfl (Nat.le_of_ble_eq_true rfl) dL_refuses_268 ⟨by omega, by omega⟩ (fun H locs hO hS => ?_)
  refine lv_ldc (v := (-9999002 : Int32)) hx hb hown k15 dL_refuses_271 ?_
  refine lv_icmp_ne (tgt := 348) hx hb dL_refuses_273 (by decide) (fun c9 => absurd ((rfl : (_ : Int32) = _)) c9) (fun _ => ?_)
  refine lv_aload_n hx hb dL_refuses_276 rfl (lv_at hl 0 rfl) ?_
  refine lv_bipush (v := nI 12) hx hb dL_refuses_277 (by decide) ?_
  refine lv_iconst (v := nI 0) hx hb dL_refuses_279 (by decide) ?_
  refine lv_bipush (v := nI 21) hx hb dL_refuses_280 (by decide) ?_
  refine lv_iload_n hx hb dL_refuses_282 rfl (lv_at hl 1 rfl) ?_
  refine lv_bipush (v := nI 9) hx hb dL_refuses_283 (by decide) ?_
  refine gr_irem hx hb dL_refuses_285 (by omega) (by omega) (by omega) ?_
  refine gr_iadd hx hb dL_refuses_286 ?_
  refine lv_iconst (v := nI 0) hx hb dL_refuses_287 (by decide) ?_
  refine gstepS (As := [.int (nI 12), .int (nI 0), .int (nI (21 + (x % 9))), .int (nI 0)]) (rest := []) F (((kq12 l hst D cc a G (nI 0) (nI (21 + (x % 9))) (nI 0)).v (wv1 (st_no _ (is_no0 (by omega) (by omega))) wv_IA)).g (nx1 (st_no _ (is_no0 (by omega) (by omega))))) cwA hO hS hl rfl rfl (Nat.le_of_ble_eq_true rfl) dL_refuses_288 ⟨by omega, by omega⟩ (fun H locs hO hS => ?_)
  refine lv_ldc (v := (-9999002 : Int32)) hx hb hown k15 dL_refuses_291 ?_
  refine lv_icmp_ne (tgt := 348) hx hb dL_refuses_293 (by decide) (fun c9 => absurd ((rfl : (_ : Int32) = _)) c9) (fun _ => ?_)
  refine lv_aload_n hx hb dL_refuses_296 rfl (lv_at hl 0 rfl) ?_
  refine lv_bipush (v := nI 12) hx hb dL_refuses_297 (by decide) ?_
  refine lv_iconst (v := nI 0) hx hb dL_refuses_299 (by decide) ?_
  refine lv_iconst (v := nI 4) hx hb dL_refuses_300 (by decide) ?_
  refine lv_iconst (v := nI 0) hx hb dL_refuses_301 (by decide) ?_
  refine gstepS (As := [.int (nI 12), .int (nI 0), .int (nI 4), .int (nI 0)]) (rest := []) F (((kq12 l hst D cc a G (nI 0) (nI 4) (nI 0)).v (wv1 (st_no _ is_no04) wv_IA)).g (nx1 (st_no _ is_no04))) cwA hO hS hl rfl rfl (Nat.le_of_ble_eq_true rfl) dL_refuses_302 ⟨by omega, by omega⟩ (fun H locs hO hS => ?_)
  refine lv_ldc (v := (-9999002 : Int32)) hx hb hown k15 dL_refuses_305 ?_
  refine lv_icmp_ne (tgt := 348) hx hb dL_refuses_307 (by decide) (fun c9 => absurd ((rfl : (_ : Int32) = _)) c9) (fun _ => ?_)
  refine lv_aload_n hx hb dL_refuses_310 rfl (lv_at hl 0 rfl) ?_
  refine lv_bipush (v := nI 12) hx hb dL_refuses_311 (by decide) ?_
  refine lv_iconst (v := nI 1) hx hb dL_refuses_313 (by decide) ?_
  refine lv_bipush (v := nI 100) hx hb dL_refuses_314 (by decide) ?_
  refine lv_iload_n hx hb dL_refuses_316 rfl (lv_at hl 1 rfl) ?_
  refine lv_bipush (v := nI 9) hx hb dL_refuses_317 (by decide) ?_
  refine gr_irem hx hb dL_refuses_319 (by omega) (by omega) (by omega) ?_
  refine gr_iadd hx hb dL_refuses_320 ?_
  refine lv_iconst (v := nI 0) hx hb dL_refuses_321 (by decide) ?_
  refine gstepS (As := [.int (nI 12), .int (nI 1), .int (nI (100 + (x % 9))), .int (nI 0)]) (rest := []) F (((kq12 l hst D cc a G (nI 1) (nI (100 + (x % 9))) (nI 0)).v (wv1 (st_no _ (is_no1 (by omega) (by omega))) wv_IA)).g (nx1 (st_no _ (is_no1 (by omega) (by omega))))) cwA hO hS hl rfl rfl (Nat.le_of_ble_eq_true rfl) dL_refuses_322 ⟨by omega, by omega⟩ (fun H locs hO hS => ?_)
  refine lv_ldc (v := (-9999002 : Int32)) hx hb hown k15 dL_refuses_325 ?_
  refine lv_icmp_ne (tgt := 348) hx hb dL_refuses_327 (by decide) (fun c9 => absurd ((rfl : (_ : Int32) = _)) c9) (fun _ => ?_)
  refine lv_aload_n hx hb dL_refuses_330 rfl (lv_at hl 0 rfl) ?_
  refine lv_bipush (v := nI 12) hx hb dL_refuses_331 (by decide) ?_
  refine lv_iconst (v := nI 3) hx hb dL_refuses_333 (by decide) ?_
  refine lv_iconst (v := nI 5) hx hb dL_refuses_334 (by decide) ?_
  refine lv_iconst (v := nI 0) hx hb dL_refuses_335 (by decide) ?_
  refine gstepS (As := [.int (nI 12), .int (nI 3), .int (nI 5), .int (nI 0)]) (rest := []) F (((kq12 l hst D cc a G (nI 3) (nI 5) (nI 0)).v (wv1 (st_no _ is_no3) wv_IA)).g (nx1 (st_no _ is_no3))) cwA hO hS hl rfl rfl (Nat.le_of_ble_eq_true rfl) dL_refuses_336 ⟨by omega, by omega⟩ (fun H locs hO hS => ?_)
  refine lv_ldc (v := (-9999002 : Int32)) hx hb hown k15 dL_refuses_339 ?_
  refine lv_icmp_ne (tgt := 348) hx hb dL_refuses_341 (by decide) (fun c9 => absurd ((rfl : (_ : Int32) = _)) c9) (fun _ => ?_)
  refine lv_iconst (v := nI 1) hx hb dL_refuses_344 (by decide) ?_
  refine lv_goto (tgt := 349) hx hb dL_refuses_345 (by decide) ?_
  refine lv_istore_n (lv' := [(3, .int (nI 1)), (0, .ref (a 0)), (1, .int (nI x)), (2, .int (nI (G.1 110)))]) hx hb dL_refuses_349 rfl hl (by decide) rfl (fun ls hl => ?_)
  refine W.widen (k := cells + 105) (n := slots + 13100) (by omega) (by omega) ?_
  exact kk H locs ls hO hS (lv_sub hl [1, 2, 3, 0] rfl)
theorem rf_b3 (hst : l.stackTraces = false) (F : gF p m c cL_refuses 4 s args wsL_refuses meth (some .boolean) D cc A) (hx2 : x < 2 ^ 31)  (hO : HO D cc A a G Rw H) (hS : va_S A s.heap H locs) (hl : lv_has ls 4 [(0, .ref (a 0)), (1, .int (nI x)), (2, .int (nI (G.1 110))), (3, .int (nI 1))]) (hf : cells + 21 ≤ rmRf.cells ∧ slots + 1510 ≤ rmRf.slots)
    (kk : ∀ (H : Heap) (locs : List Loc) (ls : Array Slot), HO D cc A a G Rw H → va_S A s.heap H locs → lv_has ls 4 [(0, .ref (a 0)), (1, .int (nI x)), (2, .int (nI (G.1 110))), (3, .int (nI 1))] → W p l e rmRf s m args below meth c H locs (cells + 21) (slots + 1510) Q (F0 m 525 ls [])) : W p l e rmRf s m args below meth c H locs cells slots Q (F0 m 350 ls []) := by
  have hx := F.1.1.1
  have hb := F.1.1.2.1
  have hown := F.1.1.2.2.2.1
  have hts := F.1.1.2.2.2.2
  have h := hO.inv
  have h16 := h.h16
  have x9 : x % 9 < 9 := Nat.mod_lt _ (by omega)
  have cwR := va_cwS (rm := rmK 1 6) (R := rmRf) 5 hts gL_refuses_L_call rfl rfl rfl (by decide +kernel) ⟨Nat.le_of_ble_eq_true rfl, Nat.le_of_ble_eq_true rfl⟩
  have cwA := va_cwS (rm := rmK 11 1443) (R := rmRf) 5 hts gL_refuses_L_call rfl rfl rfl (by decide +kernel) ⟨Nat.le_of_ble_eq_true rfl, Nat.le_of_ble_eq_true rfl⟩
  have cwS := vx_cwSW (rm := rmT 1 6) (R := rmRf) 3 hts gL_refuses_L_tryScript rfl rfl rfl (by decide +kernel) ⟨Nat.le_of_ble_eq_true rfl, Nat.le_of_ble_eq_true rfl⟩
  have cwM := vx_cwSW (rm := rmT 1 6) (R := rmRf) 3 hts gL_refuses_L_trySimulate rfl rfl rfl (by decide +kernel) ⟨Nat.le_of_ble_eq_true rfl, Nat.le_of_ble_eq_true rfl⟩
  have k15 : (Cond.constant RL 15 (-9999002)).before args s = true := hts _ (by decide +kernel)
  have k39 : (Cond.constant RL 39 (-9999001)).before args s = true := hts _ (by decide +kernel)
  have k158 : (Cond.constantLong RL 158 (100000)).before args s = true := hts _ (by decide +kernel)
  have k160 : (Cond.constantLong RL 160 (-1)).before args s = true := hts _ (by decide +kernel)
  refine lv_iload_n hx hb dL_refuses_350 rfl (lv_at hl 3 rfl) ?_
  refine lv_if_eq (tgt := 523) hx hb dL_refuses_351 (by decide) (fun c9 => absurd c9 (show ¬ nI 1 = 0 by decide)) (fun _ => ?_)
  refine lv_aload_n hx hb dL_refuses_354 rfl (lv_at hl 0 rfl) ?_
  refine lv_bipush (v := nI 14) hx hb dL_refuses_355 (by decide) ?_
  refine lv_iconst (v := nI 4) hx hb dL_refuses_357 (by decide) ?_
  refine lv_iload_n hx hb dL_refuses_358 rfl (lv_at hl 1 rfl) ?_
  refine lv_bipush (v := nI 9) hx hb dL_refuses_359 (by decide) ?_
  refine gr_irem hx hb dL_refuses_361 (by omega) (by omega) (by omega) ?_
  refine gr_iadd hx hb dL_refuses_362 ?_
  refine lv_iconst (v := nI 0) hx hb dL_refuses_363 (by decide) ?_
  refine lv_iconst (v := nI 0) hx hb dL_refuses_364 (by decide) ?_
  refine gstepS (As := [.int (nI 14), .int (nI (4 + (x % 9))), .int (nI 0), .int (nI 0)]) (rest := []) F ((kq14 l hst D cc a G (nI (4 + (x % 9))) (nI 0) (nI 0)).v (rd_no _ (by omega) (by omega))) cwR hO hS hl rfl rfl (Nat.le_of_ble_eq_true rfl) dL_refuses_365 ⟨by omega, by omega⟩ (fun H locs hO hS => ?_)
  refine lv_ldc (v := (-9999002 : Int32)) hx hb hown k15 dL_refuses_368 ?_
  refine lv_icmp_ne (tgt := 523) hx hb dL_refuses_370 (by decide) (fun c9 => absurd ((rfl : (_ : Int32) = _)) c9) (fun _ => ?_)
  refine lv_aload_n hx hb dL_refuses_373 rfl (lv_at hl 0 rfl) ?_
  refine lv_bipush (v := nI 15) hx hb dL_refuses_374 (by decide) ?_
  refine lv_iload_n hx hb dL_refuses_376 rfl (lv_at hl 2 rfl) ?_
  refine lv_iconst (v := nI 0) hx hb dL_refuses_377 (by decide) ?_
  refine lv_iconst (v := nI 0) hx hb dL_refuses_378 (by decide) ?_
  refine gstepS (As := [.int (nI 15), .int (nI (G.1 110)), .int (nI 0), .int (nI 0)]) (rest := []) F ((kq15 l hst D cc a G (nI (G.1 110)) (nI 0) (nI 0)).v (ne_no _ (Nat.le_refl _) (by omega))) cwR hO hS hl rfl rfl (Nat.le_of_ble_eq_true rfl) dL_refuses_379 ⟨by omega, by omega⟩ (fun H locs hO hS => ?_)
  refine lv_ldc (v := (-9999001 : Int32)) hx hb hown k39 dL_refuses_382 ?_
  refine lv_icmp_ne (tgt := 523) hx hb dL_refuses_384 (by decide) (fun c9 => absurd ((rfl : (_ : Int32) = _)) c9) (fun _ => ?_)
  refine lv_aload_n hx hb dL_refuses_387 rfl (lv_at hl 0 rfl) ?_
  refine lv_bipush (v := nI 16) hx hb dL_refuses_388 (by decide) ?_
  refine lv_iconst (v := nI 0) hx hb dL_refuses_390 (by decide) ?_
  refine lv_iload_n hx hb dL_refuses_391 rfl (lv_at hl 2 rfl) ?_
  refine lv_iconst (v := nI 0) hx hb dL_refuses_392 (by decide) ?_
  refine gstepS (As := [.int (nI 16), .int (nI 0), .int (nI (G.1 110)), .int (nI 0)]) (rest := []) F ((kq16 l hst D cc a G (nI 0) (nI (G.1 110)) (nI 0)).v (be_no _ (Nat.le_refl _) (by omega) _)) cwR hO hS hl rfl rfl (Nat.le_of_ble_eq_true rfl) dL_refuses_393 ⟨by omega, by omega⟩ (fun H locs hO hS => ?_)
  refine lv_ldc (v := (-9999001 : Int32)) hx hb hown k39 dL_refuses_396 ?_
  refine lv_icmp_ne (tgt := 523) hx hb dL_refuses_398 (by decide) (fun c9 => absurd ((rfl : (_ : Int32) = _)) c9) (fun _ => ?_)
  refine lv_aload_n hx hb dL_refuses_401 rfl (lv_at hl 0 rfl) ?_
  refine lv_bipush (v := nI 16) hx hb dL_refuses_402 (by decide) ?_
  refine lv_iconst (v := (-1 : Int32)) hx hb dL_refuses_404 (by decide) ?_
  refine lv_iconst (v := nI 0) hx hb dL_refuses_405 (by decide) ?_
  refine lv_iconst (v := nI 0) hx hb dL_refuses_406 (by decide) ?_
  refine gstepS (As := [.int (nI 16), .int ((-1 : Int32)), .int (nI 0), .int (nI 0)]) (rest := []) F ((kq16 l hst D cc a G ((-1 : Int32)) (nI 0) (nI 0)).v (be_no2 _ (by decide) _)) cwR hO hS hl rfl rfl (Nat.le_of_ble_eq_true rfl) dL_refuses_407 ⟨by omega, by omega⟩ (fun H locs hO hS => ?_)
  refine lv_ldc (v := (-9999001 : Int32)) hx hb hown k39 dL_refuses_410 ?_
  refine lv_icmp_ne (tgt := 523) hx hb dL_refuses_412 (by decide) (fun c9 => absurd ((rfl : (_ : Int32) = _)) c9) (fun _ => ?_)
  refine lv_aload_n hx hb dL_refuses_415 rfl (lv_at hl 0 rfl) ?_
  refine lv_bipush (v := nI 17) hx hb dL_refuses_416 (by decide) ?_
  refine lv_iconst (v := nI 2) hx hb dL_refuses_418 (by decide) ?_
  refine lv_iconst (v := nI 0) hx hb dL_refuses_419 (by decide) ?_
  refine lv_iconst (v := nI 0) hx hb dL_refuses_420 (by decide) ?_
  refine gstepS (As := [.int (nI 17), .int (nI 2), .int (nI 0), .int (nI 0)]) (rest := []) F (((kq17 l hst D cc a G (nI 2) (nI 0) (nI 0)).v (wv1 (sv_no _ sl_2) wv_IO)).g (gg1 (sv_no _ sl_2))) cwA hO hS hl rfl rfl (Nat.le_of_ble_eq_true rfl) dL_refuses_421 ⟨by omega, by omega⟩ (fun H locs hO hS => ?_)
  refine lv_ldc (v := (-9999001 : Int32)) hx hb hown k39 dL_refuses_424 ?_
  refine lv_icmp_ne (tgt := 523) hx hb dL_refuses_426 (by decide) (fun c9 => absurd ((rfl : (_ : Int32) = _)) c9) (fun _ => ?_)
  refine lv_aload_n hx hb dL_refuses_429 rfl (lv_at hl 0 rfl) ?_
  refine lv_bipush (v := nI 18) hx hb dL_refuses_430 (by decide) ?_
  refine lv_iconst (v := (-1 : Int32)) hx hb dL_refuses_432 (by decide) ?_
  refine lv_iconst (v := nI 0) hx hb dL_refuses_433 (by decide) ?_
  refine lv_iconst (v := nI 0) hx hb dL_refuses_434 (by decide) ?_
  refine gstepS (As := [.int (nI 18), .int ((-1 : Int32)), .int (nI 0), .int (nI 0)]) (rest := []) F (((kq18 l hst D cc a G ((-1 : Int32)) (nI 0) (nI 0)).v (wv1 (rs_no _ (sl_neg (by decide))) wv_IO)).g (gg1 (rs_no _ (sl_neg (by decide))))) cwR hO hS hl rfl rfl (Nat.le_of_ble_eq_true rfl) dL_refuses_435 ⟨by omega, by omega⟩ (fun H locs hO hS => ?_)
  refine lv_ldc (v := (-9999001 : Int32)) hx hb hown k39 dL_refuses_438 ?_
  refine lv_icmp_ne (tgt := 523) hx hb dL_refuses_440 (by decide) (fun c9 => absurd ((rfl : (_ : Int32) = _)) c9) (fun _ => ?_)
  refine lv_aload_n hx hb dL_refuses_443 rfl (lv_at hl 0 rfl) ?_
  refine lv_iconst (v := nI 0) hx hb dL_refuses_444 (by decide) ?_
  refine lv_sipush (v := nI 256) hx hb dL_refuses_445 (by decide) ?_
  refine lv_iload_n hx hb dL_refuses_448 rfl (lv_at hl 1 rfl) ?_
  refine lv_bipush (v := nI 9) hx hb dL_refuses_449 (by decide) ?_
  refine gr_irem hx hb dL_refuses_451 (by omega) (by omega) (by omega) ?_
  refine gr_iadd hx hb dL_refuses_452 ?_
  refine lv_iconst (v := nI 0) hx hb dL_refuses_453 (by decide) ?_
  refine lv_iconst (v := nI 0) hx hb dL_refuses_454 (by decide) ?_
  refine gstepS (As := [.int (nI 0), .int (nI (256 + (x % 9))), .int (nI 0), .int (nI 0)]) (rest := []) F (((kq0 l hst D cc a G (nI (256 + (x % 9))) (nI 0) (nI 0)).v (wv1 (ap_no (by omega) (by omega)) wv_IA)).g (ap1 (ap_no (by omega) (by omega)))) cwR hO hS hl rfl rfl (Nat.le_of_ble_eq_true rfl) dL_refuses_455 ⟨by omega, by omega⟩ (fun H locs hO hS => ?_)
  refine lv_ldc (v := (-9999002 : Int32)) hx hb hown k15 dL_refuses_458 ?_
  refine lv_icmp_ne (tgt := 523) hx hb dL_refuses_460 (by decide) (fun c9 => absurd ((rfl : (_ : Int32) = _)) c9) (fun _ => ?_)
  refine lv_aload_n hx hb dL_refuses_463 rfl (lv_at hl 0 rfl) ?_
  refine lv_iconst (v := nI 4) hx hb dL_refuses_464 (by decide) ?_
  refine lv_lconst (v := (0 : Int64)) hx hb dL_refuses_465 (by decide) ?_
  refine gstepSW (As := [.int (nI 4), .long ((0 : Int64))]) (rest := []) F ((kqS l hst D cc a G (nI 4) ((0 : Int64))).v (sc_no4 _ _)) cwS hO hS hl rfl rfl (Nat.le_of_ble_eq_true rfl) dL_refuses_466 ⟨by omega, by omega⟩ (fun H locs hO hS => ?_)
  refine lv_ldc (v := (-9999002 : Int32)) hx hb hown k15 dL_refuses_469 ?_
  refine lv_icmp_ne (tgt := 523) hx hb dL_refuses_471 (by decide) (fun c9 => absurd ((rfl : (_ : Int32) = _)) c9) (fun _ => ?_)
  refine lv_aload_n hx hb dL_refuses_474 rfl (lv_at hl 0 rfl) ?_
  refine lv_iconst (v := nI 1) hx hb dL_refuses_475 (by decide) ?_
  refine lv_ldc2 (v := (100000 : Int64)) hx hb hown k158 dL_refuses_476 ?_
  refine lv_iload_n hx hb dL_refuses_479 rfl (lv_at hl 1 rfl) ?_
  refine lv_i2l (v := (nI x).toInt64) hx hb dL_refuses_480 rfl ?_
  refine lv_ladd hx hb dL_refuses_481 ?_
  refine gstepSW (As := [.int (nI 1), .long (((100000 : Int64)) + ((nI x).toInt64))]) (rest := []) F ((kqS l hst D cc a G (nI 1) (((100000 : Int64)) + ((nI x).toInt64))).v (sc_no1 _ hx2)) cwS hO hS hl rfl rfl (Nat.le_of_ble_eq_true rfl) dL_refuses_482 ⟨by omega, by omega⟩ (fun H locs hO hS => ?_)
  refine lv_ldc (v := (-9999002 : Int32)) hx hb hown k15 dL_refuses_485 ?_
  refine lv_icmp_ne (tgt := 523) hx hb dL_refuses_487 (by decide) (fun c9 => absurd ((rfl : (_ : Int32) = _)) c9) (fun _ => ?_)
  refine lv_aload_n hx hb dL_refuses_490 rfl (lv_at hl 0 rfl) ?_
  refine lv_iconst (v := nI 2) hx hb dL_refuses_491 (by decide) ?_
  refine lv_ldc2 (v := (-1 : Int64)) hx hb hown k160 dL_refuses_492 ?_
  refine lv_iload_n hx hb dL_refuses_495 rfl (lv_at hl 1 rfl) ?_
  refine lv_i2l (v := (nI x).toInt64) hx hb dL_refuses_496 rfl ?_
  refine lv_lsub hx hb dL_refuses_497 ?_
  refine gstepSW (As := [.int (nI 2), .long (((-1 : Int64)) - ((nI x).toInt64))]) (rest := []) F ((kqS l hst D cc a G (nI 2) (((-1 : Int64)) - ((nI x).toInt64))).v (sc_no2 _ hx2)) cwS hO hS hl rfl rfl (Nat.le_of_ble_eq_true rfl) dL_refuses_498 ⟨by omega, by omega⟩ (fun H locs hO hS => ?_)
  refine lv_ldc (v := (-9999002 : Int32)) hx hb hown k15 dL_refuses_501 ?_
  refine lv_icmp_ne (tgt := 523) hx hb dL_refuses_503 (by decide) (fun c9 => absurd ((rfl : (_ : Int32) = _)) c9) (fun _ => ?_)
  refine lv_aload_n hx hb dL_refuses_506 rfl (lv_at hl 0 rfl) ?_
  refine lv_iload_n hx hb dL_refuses_507 rfl (lv_at hl 1 rfl) ?_
  refine lv_i2l (v := (nI x).toInt64) hx hb dL_refuses_508 rfl ?_
  refine lv_bipush (v := nI 100) hx hb dL_refuses_509 (by decide) ?_
  refine gstepSW (As := [.long ((nI x).toInt64), .int (nI 100)]) (rest := []) F ((kqM l hst D cc a G ((nI x).toInt64) (nI 100)).v (si_no _ _)) cwM hO hS hl rfl rfl (Nat.le_of_ble_eq_true rfl) dL_refuses_511 ⟨by omega, by omega⟩ (fun H locs hO hS => ?_)
  refine lv_ldc (v := (-9999002 : Int32)) hx hb hown k15 dL_refuses_514 ?_
  refine lv_icmp_ne (tgt := 523) hx hb dL_refuses_516 (by decide) (fun c9 => absurd ((rfl : (_ : Int32) = _)) c9) (fun _ => ?_)
  refine lv_iconst (v := nI 1) hx hb dL_refuses_519 (by decide) ?_
  refine lv_goto (tgt := 524) hx hb dL_refuses_520 (by decide) ?_
  refine lv_istore_n (lv' := [(3, .int (nI 1)), (0, .ref (a 0)), (1, .int (nI x)), (2, .int (nI (G.1 110)))]) hx hb dL_refuses_524 rfl hl (by decide) rfl (fun ls hl => ?_)
  refine W.widen (k := cells + 21) (n := slots + 1510) (by omega) (by omega) ?_
  exact kk H locs ls hO hS (lv_sub hl [1, 2, 3, 0] rfl)
theorem rf_b4 (hst : l.stackTraces = false) (F : gF p m c cL_refuses 4 s args wsL_refuses meth (some .boolean) D cc A) (hx2 : x < 2 ^ 31)  (hO : HO D cc A a G Rw H) (hS : va_S A s.heap H locs) (hl : lv_has ls 4 [(0, .ref (a 0)), (1, .int (nI x)), (2, .int (nI (G.1 110))), (3, .int (nI 1))]) (hf : cells + 23 ≤ rmRf.cells ∧ slots + 2900 ≤ rmRf.slots)
    (kk : ∀ (H : Heap) (locs : List Loc) (ls : Array Slot), HO D cc A a G Rw H → va_S A s.heap H locs → lv_has ls 4 [(0, .ref (a 0)), (1, .int (nI x)), (2, .int (nI (G.1 110))), (3, .int (nI 1))] → W p l e rmRf s m args below meth c H locs (cells + 23) (slots + 2900) Q (F0 m 580 ls [])) : W p l e rmRf s m args below meth c H locs cells slots Q (F0 m 525 ls []) := by
  have hx := F.1.1.1
  have hb := F.1.1.2.1
  have hown := F.1.1.2.2.2.1
  have hts := F.1.1.2.2.2.2
  have h := hO.inv
  have h16 := h.h16
  have x9 : x % 9 < 9 := Nat.mod_lt _ (by omega)
  have cwR := va_cwS (rm := rmK 1 6) (R := rmRf) 5 hts gL_refuses_L_call rfl rfl rfl (by decide +kernel) ⟨Nat.le_of_ble_eq_true rfl, Nat.le_of_ble_eq_true rfl⟩
  have cwA := va_cwS (rm := rmK 11 1443) (R := rmRf) 5 hts gL_refuses_L_call rfl rfl rfl (by decide +kernel) ⟨Nat.le_of_ble_eq_true rfl, Nat.le_of_ble_eq_true rfl⟩
  have k26 : (Cond.constant RL 26 (-9999003)).before args s = true := hts _ (by decide +kernel)
  have h3 := h.hand.1.1.1
  by_cases z0 : G.1 0 = 0
  · refine lv_aload_n hx hb dL_refuses_525 rfl (lv_at hl 0 rfl) ?_
    refine lv_iconst (v := nI 1) hx hb dL_refuses_526 (by decide) ?_
    refine lv_iconst (v := nI 0) hx hb dL_refuses_527 (by decide) ?_
    refine lv_iconst (v := nI 0) hx hb dL_refuses_528 (by decide) ?_
    refine lv_iconst (v := nI 0) hx hb dL_refuses_529 (by decide) ?_
    refine gstepS (As := [.int (nI 1), .int (nI 0), .int (nI 0), .int (nI 0)]) (rest := []) F ((kq1 l hst D cc a G (nI 0) (nI 0) (nI 0)).v (ab0 _)) cwR hO hS hl rfl rfl (Nat.le_of_ble_eq_true rfl) dL_refuses_530 ⟨by omega, by omega⟩ (fun H locs hO hS => ?_)
    refine lv_if_ne (tgt := 580) hx hb dL_refuses_533 (by decide) (fun c9 => absurd ((show nI (G.1 0) = 0 by rw [z0]; rfl)) c9) (fun _ => ?_)
    refine lv_iload_n hx hb dL_refuses_536 rfl (lv_at hl 3 rfl) ?_
    refine lv_if_eq (tgt := 578) hx hb dL_refuses_537 (by decide) (fun c9 => absurd c9 (show ¬ nI 1 = 0 by decide)) (fun _ => ?_)
    refine lv_aload_n hx hb dL_refuses_540 rfl (lv_at hl 0 rfl) ?_
    refine lv_bipush (v := nI 9) hx hb dL_refuses_541 (by decide) ?_
    refine lv_iload_n hx hb dL_refuses_543 rfl (lv_at hl 1 rfl) ?_
    refine lv_bipush (v := nI 10) hx hb dL_refuses_544 (by decide) ?_
    refine gr_irem hx hb dL_refuses_546 (by omega) (by omega) (by omega) ?_
    refine lv_iconst (v := nI 0) hx hb dL_refuses_547 (by decide) ?_
    refine lv_iconst (v := nI 0) hx hb dL_refuses_548 (by decide) ?_
    refine gstepS (As := [.int (nI 9), .int (nI (x % 10)), .int (nI 0), .int (nI 0)]) (rest := []) F (((kq9 l hst D cc a G (nI (x % 10)) (nI 0) (nI 0)).v (wv1 (le_no0 _ (Nat.mod_lt _ (by omega)) z0) wv_IS)).g (nx1 (le_no0 _ (Nat.mod_lt _ (by omega)) z0))) cwA hO hS hl rfl rfl (Nat.le_of_ble_eq_true rfl) dL_refuses_549 ⟨by omega, by omega⟩ (fun H locs hO hS => ?_)
    refine lv_ldc (v := (-9999003 : Int32)) hx hb hown k26 dL_refuses_552 ?_
    refine lv_icmp_ne (tgt := 578) hx hb dL_refuses_554 (by decide) (fun c9 => absurd ((rfl : (_ : Int32) = _)) c9) (fun _ => ?_)
    refine lv_aload_n hx hb dL_refuses_557 rfl (lv_at hl 0 rfl) ?_
    refine lv_bipush (v := nI 11) hx hb dL_refuses_558 (by decide) ?_
    refine lv_iload_n hx hb dL_refuses_560 rfl (lv_at hl 1 rfl) ?_
    refine lv_bipush (v := nI 10) hx hb dL_refuses_561 (by decide) ?_
    refine gr_irem hx hb dL_refuses_563 (by omega) (by omega) (by omega) ?_
    refine lv_iconst (v := nI 0) hx hb dL_refuses_564 (by decide) ?_
    refine lv_iconst (v := nI 0) hx hb dL_refuses_565 (by decide) ?_
    refine gstepS (As := [.int (nI 11), .int (nI (x % 10)), .int (nI 0), .int (nI 0)]) (rest := []) F (((kq11 l hst D cc a G (nI (x % 10)) (nI 0) (nI 0)).v (wv1 (pc_no0 _ (Nat.mod_lt _ (by omega)) z0) wv_IS)).g (nx1 (pc_no0 _ (Nat.mod_lt _ (by omega)) z0))) cwA hO hS hl rfl rfl (Nat.le_of_ble_eq_true rfl) dL_refuses_566 ⟨by omega, by omega⟩ (fun H locs hO hS => ?_)
    refine lv_ldc (v := (-9999003 : Int32)) hx hb hown k26 dL_refuses_569 ?_
    refine lv_icmp_ne (tgt := 578) hx hb dL_refuses_571 (by decide) (fun c9 => absurd ((rfl : (_ : Int32) = _)) c9) (fun _ => ?_)
    refine lv_iconst (v := nI 1) hx hb dL_refuses_574 (by decide) ?_
    refine lv_goto (tgt := 579) hx hb dL_refuses_575 (by decide) ?_
    refine lv_istore_n (lv' := [(3, .int (nI 1)), (0, .ref (a 0)), (1, .int (nI x)), (2, .int (nI (G.1 110)))]) hx hb dL_refuses_579 rfl hl (by decide) rfl (fun ls hl => ?_)
    refine W.widen (k := cells + 23) (n := slots + 2900) (by omega) (by omega) ?_
    exact kk H locs ls hO hS (lv_sub hl [1, 2, 3, 0] rfl)
  · refine lv_aload_n hx hb dL_refuses_525 rfl (lv_at hl 0 rfl) ?_
    refine lv_iconst (v := nI 1) hx hb dL_refuses_526 (by decide) ?_
    refine lv_iconst (v := nI 0) hx hb dL_refuses_527 (by decide) ?_
    refine lv_iconst (v := nI 0) hx hb dL_refuses_528 (by decide) ?_
    refine lv_iconst (v := nI 0) hx hb dL_refuses_529 (by decide) ?_
    refine gstepS (As := [.int (nI 1), .int (nI 0), .int (nI 0), .int (nI 0)]) (rest := []) F ((kq1 l hst D cc a G (nI 0) (nI 0) (nI 0)).v (ab0 _)) cwR hO hS hl rfl rfl (Nat.le_of_ble_eq_true rfl) dL_refuses_530 ⟨by omega, by omega⟩ (fun H locs hO hS => ?_)
    refine lv_if_ne (tgt := 580) hx hb dL_refuses_533 (by decide) (fun _ => ?_) (fun c9 => absurd c9 (nI_ne0 (by omega) (by omega)))
    refine W.widen (k := cells + 23) (n := slots + 2900) (by omega) (by omega) ?_
    exact kk H locs ls hO hS (lv_sub hl [0, 1, 2, 3] rfl)
theorem rf_b5 (hst : l.stackTraces = false) (F : gF p m c cL_refuses 4 s args wsL_refuses meth (some .boolean) D cc A) (hx2 : x < 2 ^ 31)  (hO : HO D cc A a G Rw H) (hS : va_S A s.heap H locs) (hl : lv_has ls 4 [(0, .ref (a 0)), (1, .int (nI x)), (2, .int (nI (G.1 110))), (3, .int (nI 1))]) (hf : cells + 12 ≤ rmRf.cells ∧ slots + 1449 ≤ rmRf.slots)
    (kk : ∀ (H : Heap) (locs : List Loc) (ls : Array Slot), HO D cc A a G Rw H → va_S A s.heap H locs → lv_has ls 4 [(0, .ref (a 0)), (1, .int (nI x)), (2, .int (nI (G.1 110))), (3, .int (nI 1))] → W p l e rmRf s m args below meth c H locs (cells + 12) (slots + 1449) Q (F0 m 611 ls [.int (nI 1)])) : W p l e rmRf s m args below meth c H locs cells slots Q (F0 m 580 ls []) := by
  have hx := F.1.1.1
  have hb := F.1.1.2.1
  have hown := F.1.1.2.2.2.1
  have hts := F.1.1.2.2.2.2
  have h := hO.inv
  have h16 := h.h16
  have x9 : x % 9 < 9 := Nat.mod_lt _ (by omega)
  have cwA := va_cwS (rm := rmK 11 1443) (R := rmRf) 5 hts gL_refuses_L_call rfl rfl rfl (by decide +kernel) ⟨Nat.le_of_ble_eq_true rfl, Nat.le_of_ble_eq_true rfl⟩
  have cwV_errorPosition : ∀ (rm : Room) (mc ms : Nat), rmG rm mc ms 1 6 → CallW rmRf s args RL RX6 _ yX6_errorPosition _ _ _ wsX6_errorPosition rm mc ms 0 := fun rm mc ms h => cwV 0 hts gL_refuses_X6_errorPosition rfl h.1 h.2.1 (by decide +kernel) ⟨by show rm.frames + 1 ≤ _; have := h.2.2.2.2.1; show rm.frames + 1 ≤ 10; omega, by show 8 + (_ + 11) + rm.locals ≤ 320; have := h.2.2.2.2.2; omega⟩
  have k26 : (Cond.constant RL 26 (-9999003)).before args s = true := hts _ (by decide +kernel)
  have hn100 : G.2.1 ≤ 100 := by
    obtain ⟨x9, L9, hI9, -, -⟩ := hO
    exact hI9.2.2.1.1
  by_cases z0 : (prs G.2.2.1 G.2.1 (G.2.1 + 1) 1 1 0).2 = none
  · refine lv_iload_n hx hb dL_refuses_580 rfl (lv_at hl 3 rfl) ?_
    refine lv_if_eq (tgt := 610) hx hb dL_refuses_581 (by decide) (fun c9 => absurd c9 (show ¬ nI 1 = 0 by decide)) (fun _ => ?_)
    refine lv_aload_n hx hb dL_refuses_584 rfl (lv_at hl 0 rfl) ?_
    refine gstepV (rest := []) F (sg_errorPosition l hst D cc a G) cwV_errorPosition hO hS hl rfl (Nat.le_of_ble_eq_true rfl) dL_refuses_585 ⟨by omega, by omega⟩ (fun H locs hO hS => ?_)
    refine lv_iconst (v := (-1 : Int32)) hx hb dL_refuses_588 (by decide) ?_
    refine lv_icmp_eq (tgt := 606) hx hb dL_refuses_589 (by decide) (fun _ => ?_) (fun c9 => absurd (((rsI_none hn100).mpr z0)) c9)
    refine lv_iconst (v := nI 1) hx hb dL_refuses_606 (by decide) ?_
    refine lv_goto (tgt := 611) hx hb dL_refuses_607 (by decide) ?_
    refine W.widen (k := cells + 12) (n := slots + 1449) (by omega) (by omega) ?_
    exact kk H locs ls hO hS (lv_sub hl [0, 1, 2, 3] rfl)
  · refine lv_iload_n hx hb dL_refuses_580 rfl (lv_at hl 3 rfl) ?_
    refine lv_if_eq (tgt := 610) hx hb dL_refuses_581 (by decide) (fun c9 => absurd c9 (show ¬ nI 1 = 0 by decide)) (fun _ => ?_)
    refine lv_aload_n hx hb dL_refuses_584 rfl (lv_at hl 0 rfl) ?_
    refine gstepV (rest := []) F (sg_errorPosition l hst D cc a G) cwV_errorPosition hO hS hl rfl (Nat.le_of_ble_eq_true rfl) dL_refuses_585 ⟨by omega, by omega⟩ (fun H locs hO hS => ?_)
    refine lv_iconst (v := (-1 : Int32)) hx hb dL_refuses_588 (by decide) ?_
    refine lv_icmp_eq (tgt := 606) hx hb dL_refuses_589 (by decide) (fun c9 => absurd c9 (fun q9 => z0 ((rsI_none hn100).mp q9))) (fun _ => ?_)
    refine lv_aload_n hx hb dL_refuses_592 rfl (lv_at hl 0 rfl) ?_
    refine lv_bipush (v := nI 8) hx hb dL_refuses_593 (by decide) ?_
    refine lv_iconst (v := nI 0) hx hb dL_refuses_595 (by decide) ?_
    refine lv_iconst (v := nI 0) hx hb dL_refuses_596 (by decide) ?_
    refine lv_iconst (v := nI 0) hx hb dL_refuses_597 (by decide) ?_
    refine gstepS (As := [.int (nI 8), .int (nI 0), .int (nI 0), .int (nI 0)]) (rest := []) F (((kq8 l hst D cc a G (nI 0) (nI 0) (nI 0)).v (wv1 (dr_no _ z0) wv_IS)).g (nx1 (dr_no _ z0))) cwA hO hS hl rfl rfl (Nat.le_of_ble_eq_true rfl) dL_refuses_598 ⟨by omega, by omega⟩ (fun H locs hO hS => ?_)
    refine lv_ldc (v := (-9999003 : Int32)) hx hb hown k26 dL_refuses_601 ?_
    refine lv_icmp_ne (tgt := 610) hx hb dL_refuses_603 (by decide) (fun c9 => absurd ((rfl : (_ : Int32) = _)) c9) (fun _ => ?_)
    refine lv_iconst (v := nI 1) hx hb dL_refuses_606 (by decide) ?_
    refine lv_goto (tgt := 611) hx hb dL_refuses_607 (by decide) ?_
    refine W.widen (k := cells + 12) (n := slots + 1449) (by omega) (by omega) ?_
    exact kk H locs ls hO hS (lv_sub hl [0, 1, 2, 3] rfl)
/-- REFUSES answers true, and leaves the state -/
theorem k_refuses (l : Launch) (hst : l.stackTraces = false) (D : va_G) (cc : Nat → ClassId) (a : Nat → Nat) (G : GS) {x : Nat} (hx2 : x < 2 ^ 31) : gO l yL_refuses wsL_refuses rmRf D cc a [.int (nI x)] G (nI 1) G 200 20000 := by
  intro x9 L Rw hI
  refine glstart (bc := cL_refuses) (maxL := 4) (ret := (some .boolean)) (by decide) rfl rfl (Nat.le_of_ble_eq_true rfl) ?_
  intro p e s m below meth c A hAe F hP hD hS ls hl
  have hO : HO D cc A a G Rw s.heap := ⟨x9, L, hI, hP, hD⟩
  have hl : lv_has ls 4 [(0, .ref (a 0)), (1, .int (nI x))] := hl
  have hf : rmRf.cells = 200 ∧ rmRf.slots = 20000 := ⟨rfl, rfl⟩
  refine rf_b1 hst F hx2 hO hS hl ⟨by omega, by omega⟩ (fun H locs ls hO hS hl => ?_)
  refine rf_b2 hst F hx2 hO hS hl ⟨by omega, by omega⟩ (fun H locs ls hO hS hl => ?_)
  refine rf_b3 hst F hx2 hO hS hl ⟨by omega, by omega⟩ (fun H locs ls hO hS hl => ?_)
  refine rf_b4 hst F hx2 hO hS hl ⟨by omega, by omega⟩ (fun H locs ls hO hS hl => ?_)
  refine rf_b5 hst F hx2 hO hS hl ⟨by omega, by omega⟩ (fun H locs ls hO hS hl => ?_)
  exact gHO.endz F (by decide) hAe hO hS rfl (by omega) (by omega) dL_refuses_611
end XLREF
