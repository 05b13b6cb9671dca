/-! LAW 2: alike -/
section XLALIKE
def rmAl : Room := { frames := 10, cells := 240, slots := 1440, locals := 320 }
variable {p : Program} {l : Launch} {e : Env} {s : State} {m : MethodId} {args : Array Value} {below : List Frame} {meth : Method} {c : Code} {H : Heap} {locs : List Loc} {cells slots : Nat} {Q : State → Prop} {D : va_G} {cc : Nat → ClassId} {A : Nat → Prop} {a b : Nat → Nat} {G : GS} {ls : Array Slot} {x : Nat}
theorem HO2.inv {D : va_G} {cc : Nat → ClassId} {A : Nat → Prop} {a b : Nat → Nat} {G G2 : GS} {H : Heap} (h : HO2 D cc A a b G G2 H) : rI G.1 := by
  obtain ⟨y, L2, -, hO⟩ := h
  exact hO.inv
theorem al_b1 (hst : l.stackTraces = false) (F : gF p m c cL_alike 6 s args wsL_alike meth (some .boolean) D cc A) (hx2 : x < 2 ^ 31) (hO : HO2 D cc A a b G G H) (hS : va_S A s.heap H locs) (hl : lv_has ls 6 [(0, .ref (a 0)), (1, .ref (b 0)), (2, .int (nI x))]) (hf : cells + 8 ≤ rmAl.cells ∧ slots + 48 ≤ rmAl.slots)
    (kk : ∀ (H : Heap) (locs : List Loc) (ls : Array Slot), HO2 D cc A a b G G H → va_S A s.heap H locs → lv_has ls 6 [(0, .ref (a 0)), (1, .ref (b 0)), (2, .int (nI x)), (3, .int (nI 1)), (4, .int (nI 0))] → W p l e rmAl s m args below meth c H locs (cells + 8) (slots + 48) Q (F0 m 53 ls [])) : W p l e rmAl s m args below meth c H locs cells slots Q (F0 m 0 ls []) := by
  have hx := F.1.1.1
  have hb := F.1.1.2.1
  have hts := F.1.1.2.2.2.2
  have h := hO.inv
  have h16 := h.h16
  have cwV_errorPosition : ∀ (rm : Room) (mc ms : Nat), rmG rm mc ms 1 6 → CallW rmAl s args RL RX6 _ yX6_errorPosition _ _ _ wsX6_errorPosition rm mc ms 0 := fun rm mc ms h => cwV 0 hts gL_alike_X6_errorPosition rfl h.1 h.2.1 (by decide +kernel) ⟨by show rm.frames + 1 ≤ _; have := h.2.2.2.2.1; show rm.frames + 1 ≤ 10; omega, by show 8 + (_ + 11) + rm.locals ≤ 320; have := h.2.2.2.2.2; omega⟩
  have cwV_closest : ∀ (rm : Room) (mc ms : Nat), rmG rm mc ms 1 6 → CallW rmAl s args RL RX6 _ yX6_closest _ _ _ wsX6_closest rm mc ms 0 := fun rm mc ms h => cwV 0 hts gL_alike_X6_closest rfl h.1 h.2.1 (by decide +kernel) ⟨by show rm.frames + 1 ≤ _; have := h.2.2.2.2.1; show rm.frames + 1 ≤ 10; omega, by show 8 + (_ + 11) + rm.locals ≤ 320; have := h.2.2.2.2.2; omega⟩
  have cwV_byOthers : ∀ (rm : Room) (mc ms : Nat), rmG rm mc ms 1 6 → CallW rmAl s args RL RX6 _ yX6_byOthers _ _ _ wsX6_byOthers rm mc ms 0 := fun rm mc ms h => cwV 0 hts gL_alike_X6_byOthers rfl h.1 h.2.1 (by decide +kernel) ⟨by show rm.frames + 1 ≤ _; have := h.2.2.2.2.1; show rm.frames + 1 ≤ 10; omega, by show 8 + (_ + 11) + rm.locals ≤ 320; have := h.2.2.2.2.2; omega⟩
  have cwV_mirrored : ∀ (rm : Room) (mc ms : Nat), rmG rm mc ms 1 6 → CallW rmAl s args RL RX6 _ yX6_mirrored _ _ _ wsX6_mirrored rm mc ms 0 := fun rm mc ms h => cwV 0 hts gL_alike_X6_mirrored rfl h.1 h.2.1 (by decide +kernel) ⟨by show rm.frames + 1 ≤ _; have := h.2.2.2.2.1; show rm.frames + 1 ≤ 10; omega, by show 8 + (_ + 11) + rm.locals ≤ 320; have := h.2.2.2.2.2; omega⟩
  refine lv_aload_n hx hb dL_alike_0 rfl (lv_at hl 0 rfl) ?_
  refine gstepV2o (rest := []) F (sg_errorPosition l hst D cc a G) cwV_errorPosition hO hS hl rfl (Nat.le_of_ble_eq_true rfl) dL_alike_1 ⟨by omega, by omega⟩ (fun H locs hO hS => ?_)
  refine lv_aload_n hx hb dL_alike_4 rfl (lv_at hl 1 rfl) ?_
  refine gstepV2p (rest := [.int (rsI (prs G.2.2.1 G.2.1 (G.2.1 + 1) 1 1 0).2)]) F (sg_errorPosition l hst D cc b G) cwV_errorPosition hO hS hl rfl (Nat.le_of_ble_eq_true rfl) dL_alike_5 ⟨by omega, by omega⟩ (fun H locs hO hS => ?_)
  refine lv_icmp_ne (tgt := 48) hx hb dL_alike_8 (by decide) (fun c9 => absurd ((rfl : (_ : Int32) = _)) c9) (fun _ => ?_)
  refine lv_aload_n hx hb dL_alike_11 rfl (lv_at hl 0 rfl) ?_
  refine gstepV2o (rest := []) F (sg_closest l hst D cc a G) cwV_closest hO hS hl rfl (Nat.le_of_ble_eq_true rfl) dL_alike_12 ⟨by omega, by omega⟩ (fun H locs hO hS => ?_)
  refine lv_aload_n hx hb dL_alike_15 rfl (lv_at hl 1 rfl) ?_
  refine gstepV2p (rest := [.int (prI (clM (pdM G.1 (G.1 77)) (nmF G.1) (G.1 110)))]) F (sg_closest l hst D cc b G) cwV_closest hO hS hl rfl (Nat.le_of_ble_eq_true rfl) dL_alike_16 ⟨by omega, by omega⟩ (fun H locs hO hS => ?_)
  refine lv_icmp_ne (tgt := 48) hx hb dL_alike_19 (by decide) (fun c9 => absurd ((rfl : (_ : Int32) = _)) c9) (fun _ => ?_)
  refine lv_aload_n hx hb dL_alike_22 rfl (lv_at hl 0 rfl) ?_
  refine gstepV2o (rest := []) F (sg_byOthers l hst D cc a G) cwV_byOthers hO hS hl rfl (Nat.le_of_ble_eq_true rfl) dL_alike_23 ⟨by omega, by omega⟩ (fun H locs hO hS => ?_)
  refine lv_aload_n hx hb dL_alike_26 rfl (lv_at hl 1 rfl) ?_
  refine gstepV2p (rest := [.int (nI (boM G.1 (G.1 110)))]) F (sg_byOthers l hst D cc b G) cwV_byOthers hO hS hl rfl (Nat.le_of_ble_eq_true rfl) dL_alike_27 ⟨by omega, by omega⟩ (fun H locs hO hS => ?_)
  refine lv_icmp_ne (tgt := 48) hx hb dL_alike_30 (by decide) (fun c9 => absurd ((rfl : (_ : Int32) = _)) c9) (fun _ => ?_)
  refine lv_aload_n hx hb dL_alike_33 rfl (lv_at hl 0 rfl) ?_
  refine gstepV2o (rest := []) F (sg_mirrored l hst D cc a G) cwV_mirrored hO hS hl rfl (Nat.le_of_ble_eq_true rfl) dL_alike_34 ⟨by omega, by omega⟩ (fun H locs hO hS => ?_)
  refine lv_aload_n hx hb dL_alike_37 rfl (lv_at hl 1 rfl) ?_
  refine gstepV2p (rest := [.int (mirV G.1)]) F (sg_mirrored l hst D cc b G) cwV_mirrored hO hS hl rfl (Nat.le_of_ble_eq_true rfl) dL_alike_38 ⟨by omega, by omega⟩ (fun H locs hO hS => ?_)
  refine lv_icmp_ne (tgt := 48) hx hb dL_alike_41 (by decide) (fun c9 => absurd ((rfl : (_ : Int32) = _)) c9) (fun _ => ?_)
  refine lv_iconst (v := nI 1) hx hb dL_alike_44 (by decide) ?_
  refine lv_goto (tgt := 49) hx hb dL_alike_45 (by decide) ?_
  refine lv_istore_n (lv' := [(3, .int (nI 1)), (0, .ref (a 0)), (1, .ref (b 0)), (2, .int (nI x))]) hx hb dL_alike_49 rfl hl (by decide) rfl (fun ls hl => ?_)
  refine lv_iconst (v := nI 0) hx hb dL_alike_50 (by decide) ?_
  refine lv_istore (lv' := [(4, .int (nI 0)), (3, .int (nI 1)), (0, .ref (a 0)), (1, .ref (b 0)), (2, .int (nI x))]) hx hb dL_alike_51 hl (by decide) rfl (fun ls hl => ?_)
  exact kk H locs ls hO hS (lv_sub hl [2, 3, 4, 1, 0] rfl)
theorem al_l1 (hst : l.stackTraces = false) (F : gF p m c cL_alike 6 s args wsL_alike meth (some .boolean) D cc A) (hx2 : x < 2 ^ 31)  : ∀ (n k : Nat), n + k = 8 → ∀ (H : Heap) (locs : List Loc) (ls : Array Slot) (cells slots : Nat), HO2 D cc A a b G G H → va_S A s.heap H locs → lv_has ls 6 [(0, .ref (a 0)), (1, .ref (b 0)), (2, .int (nI x)), (3, .int (nI 1)), (4, .int (nI k))] → cells + 6 * n ≤ rmAl.cells ∧ slots + 36 * n ≤ rmAl.slots →
    (∀ (H : Heap) (locs : List Loc) (ls : Array Slot), HO2 D cc A a b G G H → va_S A s.heap H locs → lv_has ls 6 [(0, .ref (a 0)), (1, .ref (b 0)), (2, .int (nI x)), (3, .int (nI 1)), (4, .int (nI 8))] → W p l e rmAl s m args below meth c H locs (cells + 6 * n) (slots + 36 * n) Q (F0 m 143 ls [])) → W p l e rmAl s m args below meth c H locs cells slots Q (F0 m 53 ls []) := by
  have hx := F.1.1.1
  have hb := F.1.1.2.1
  have hts := F.1.1.2.2.2.2
  have cwR := va_cwS (rm := rmK 1 6) (R := rmAl) 5 hts gL_alike_L_call rfl rfl rfl (by decide +kernel) ⟨Nat.le_of_ble_eq_true rfl, Nat.le_of_ble_eq_true rfl⟩
  intro n
  induction n with
  | zero =>
    intro k hk H locs ls cells slots hO hS hl hf kk
    obtain rfl : k = 8 := by omega
    refine lv_iload hx hb dL_alike_53 (lv_at hl 4 rfl) ?_
    refine lv_bipush (v := nI 8) hx hb dL_alike_55 (by decide) ?_
    refine lv_icmp_ge (tgt := 143) hx hb dL_alike_57 (by decide) (fun _ => ?_) (fun c9 => absurd ((Int32.le_refl _)) c9)
    exact kk H locs ls hO hS hl
  | succ n ih =>
    intro k hk9 H locs ls cells slots hO hS hl hf kk
    have h := hO.inv
    have h16 := h.h16
    have hk : k < 8 := by omega
    refine lv_iload hx hb dL_alike_53 (lv_at hl 4 rfl) ?_
    refine lv_bipush (v := nI 8) hx hb dL_alike_55 (by decide) ?_
    refine lv_icmp_ge (tgt := 143) hx hb dL_alike_57 (by decide) (fun c9 => absurd c9 (nI_ge hk (by omega))) (fun _ => ?_)
    refine lv_iload_n hx hb dL_alike_60 rfl (lv_at hl 3 rfl) ?_
    refine lv_if_eq (tgt := 143) hx hb dL_alike_61 (by decide) (fun c9 => absurd c9 (show ¬ nI 1 = 0 by decide)) (fun _ => ?_)
    refine lv_aload_n hx hb dL_alike_64 rfl (lv_at hl 0 rfl) ?_
    refine lv_iconst (v := nI 1) hx hb dL_alike_65 (by decide) ?_
    refine lv_iload hx hb dL_alike_66 (lv_at hl 4 rfl) ?_
    refine lv_iconst (v := nI 0) hx hb dL_alike_68 (by decide) ?_
    refine lv_iconst (v := nI 0) hx hb dL_alike_69 (by decide) ?_
    refine gstepS2o (As := [.int (nI 1), .int (nI k), .int (nI 0), .int (nI 0)]) (rest := []) F (kq1 l hst D cc a G (nI k) (nI 0) (nI 0)) cwR hO hS hl rfl rfl (Nat.le_of_ble_eq_true rfl) dL_alike_70 ⟨by omega, by omega⟩ (fun H locs hO hS => ?_)
    refine lv_aload_n hx hb dL_alike_73 rfl (lv_at hl 1 rfl) ?_
    refine lv_iconst (v := nI 1) hx hb dL_alike_74 (by decide) ?_
    refine lv_iload hx hb dL_alike_75 (lv_at hl 4 rfl) ?_
    refine lv_iconst (v := nI 0) hx hb dL_alike_77 (by decide) ?_
    refine lv_iconst (v := nI 0) hx hb dL_alike_78 (by decide) ?_
    refine gstepS2p (As := [.int (nI 1), .int (nI k), .int (nI 0), .int (nI 0)]) (rest := [.int (wv (gAbout G.1 (nI k)))]) F (kq1 l hst D cc b G (nI k) (nI 0) (nI 0)) cwR hO hS hl rfl rfl (Nat.le_of_ble_eq_true rfl) dL_alike_79 ⟨by omega, by omega⟩ (fun H locs hO hS => ?_)
    refine lv_icmp_ne (tgt := 135) hx hb dL_alike_82 (by decide) (fun c9 => absurd ((rfl : (_ : Int32) = _)) c9) (fun _ => ?_)
    refine lv_aload_n hx hb dL_alike_85 rfl (lv_at hl 0 rfl) ?_
    refine lv_bipush (v := nI 14) hx hb dL_alike_86 (by decide) ?_
    refine lv_iload hx hb dL_alike_88 (lv_at hl 4 rfl) ?_
    refine lv_iconst (v := nI 0) hx hb dL_alike_90 (by decide) ?_
    refine lv_iconst (v := nI 0) hx hb dL_alike_91 (by decide) ?_
    refine gstepS2o (As := [.int (nI 14), .int (nI k), .int (nI 0), .int (nI 0)]) (rest := []) F (kq14 l hst D cc a G (nI k) (nI 0) (nI 0)) cwR hO hS hl rfl rfl (Nat.le_of_ble_eq_true rfl) dL_alike_92 ⟨by omega, by omega⟩ (fun H locs hO hS => ?_)
    refine lv_aload_n hx hb dL_alike_95 rfl (lv_at hl 1 rfl) ?_
    refine lv_bipush (v := nI 14) hx hb dL_alike_96 (by decide) ?_
    refine lv_iload hx hb dL_alike_98 (lv_at hl 4 rfl) ?_
    refine lv_iconst (v := nI 0) hx hb dL_alike_100 (by decide) ?_
    refine lv_iconst (v := nI 0) hx hb dL_alike_101 (by decide) ?_
    refine gstepS2p (As := [.int (nI 14), .int (nI k), .int (nI 0), .int (nI 0)]) (rest := [.int (wv (gRead G.1 (nI k)))]) F (kq14 l hst D cc b G (nI k) (nI 0) (nI 0)) cwR hO hS hl rfl rfl (Nat.le_of_ble_eq_true rfl) dL_alike_102 ⟨by omega, by omega⟩ (fun H locs hO hS => ?_)
    refine lv_icmp_ne (tgt := 135) hx hb dL_alike_105 (by decide) (fun c9 => absurd ((rfl : (_ : Int32) = _)) c9) (fun _ => ?_)
    refine lv_aload_n hx hb dL_alike_108 rfl (lv_at hl 0 rfl) ?_
    refine lv_bipush (v := nI 6) hx hb dL_alike_109 (by decide) ?_
    refine lv_iload hx hb dL_alike_111 (lv_at hl 4 rfl) ?_
    refine lv_iconst (v := nI 0) hx hb dL_alike_113 (by decide) ?_
    refine lv_iconst (v := nI 0) hx hb dL_alike_114 (by decide) ?_
    refine gstepS2o (As := [.int (nI 6), .int (nI k), .int (nI 0), .int (nI 0)]) (rest := []) F (kq6 l hst D cc a G (nI k) (nI 0) (nI 0)) cwR hO hS hl rfl rfl (Nat.le_of_ble_eq_true rfl) dL_alike_115 ⟨by omega, by omega⟩ (fun H locs hO hS => ?_)
    refine lv_aload_n hx hb dL_alike_118 rfl (lv_at hl 1 rfl) ?_
    refine lv_bipush (v := nI 6) hx hb dL_alike_119 (by decide) ?_
    refine lv_iload hx hb dL_alike_121 (lv_at hl 4 rfl) ?_
    refine lv_iconst (v := nI 0) hx hb dL_alike_123 (by decide) ?_
    refine lv_iconst (v := nI 0) hx hb dL_alike_124 (by decide) ?_
    refine gstepS2p (As := [.int (nI 6), .int (nI k), .int (nI 0), .int (nI 0)]) (rest := [.int (wv (gSetting G.1 (nI k)))]) F (kq6 l hst D cc b G (nI k) (nI 0) (nI 0)) cwR hO hS hl rfl rfl (Nat.le_of_ble_eq_true rfl) dL_alike_125 ⟨by omega, by omega⟩ (fun H locs hO hS => ?_)
    refine lv_icmp_ne (tgt := 135) hx hb dL_alike_128 (by decide) (fun c9 => absurd ((rfl : (_ : Int32) = _)) c9) (fun _ => ?_)
    refine lv_iconst (v := nI 1) hx hb dL_alike_131 (by decide) ?_
    refine lv_goto (tgt := 136) hx hb dL_alike_132 (by decide) ?_
    refine lv_istore_n (lv' := [(3, .int (nI 1)), (0, .ref (a 0)), (1, .ref (b 0)), (2, .int (nI x)), (4, .int (nI k))]) hx hb dL_alike_136 rfl hl (by decide) rfl (fun ls hl => ?_)
    refine lv_iinc (v := nI (k + 1)) (lv' := [(4, .int (nI (k + 1))), (3, .int (nI 1)), (0, .ref (a 0)), (1, .ref (b 0)), (2, .int (nI x))]) hx hb dL_alike_137 hl (k := 4) rfl (nI_add _ 1) (by decide) rfl (fun ls hl => ?_)
    refine lv_goto (tgt := 53) hx hb dL_alike_140 (by decide) ?_
    refine ih (k + 1) (by omega) H locs ls _ _ hO hS (lv_sub hl [2, 3, 4, 1, 0] rfl) ⟨by omega, by omega⟩ (fun H locs ls hO hS hl => ?_)
    refine W.widen (k := cells + 6 * (n + 1)) (n := slots + 36 * (n + 1)) (by omega) (by omega) ?_
    exact kk H locs ls hO hS hl
theorem al_b2 (hst : l.stackTraces = false) (F : gF p m c cL_alike 6 s args wsL_alike meth (some .boolean) D cc A) (hx2 : x < 2 ^ 31) (hO : HO2 D cc A a b G G H) (hS : va_S A s.heap H locs) (hl : lv_has ls 6 [(0, .ref (a 0)), (1, .ref (b 0)), (2, .int (nI x)), (3, .int (nI 1)), (4, .int (nI 8))]) (hf : cells + 1 ≤ rmAl.cells ∧ slots + 6 ≤ rmAl.slots)
    (kk : ∀ (H : Heap) (locs : List Loc) (ls : Array Slot), HO2 D cc A a b G G H → va_S A s.heap H locs → lv_has ls 6 [(0, .ref (a 0)), (1, .ref (b 0)), (2, .int (nI x)), (3, .int (nI 1)), (4, .int (nI (G.1 110))), (5, .int (nI 0))] → W p l e rmAl s m args below meth c H locs (cells + 1) (slots + 6) Q (F0 m 156 ls [])) : W p l e rmAl s m args below meth c H locs cells slots Q (F0 m 143 ls []) := by
  have hx := F.1.1.1
  have hb := F.1.1.2.1
  have hts := F.1.1.2.2.2.2
  have h := hO.inv
  have h16 := h.h16
  have cwR := va_cwS (rm := rmK 1 6) (R := rmAl) 5 hts gL_alike_L_call rfl rfl rfl (by decide +kernel) ⟨Nat.le_of_ble_eq_true rfl, Nat.le_of_ble_eq_true rfl⟩
  refine lv_aload_n hx hb dL_alike_143 rfl (lv_at hl 0 rfl) ?_
  refine lv_iconst (v := nI 1) hx hb dL_alike_144 (by decide) ?_
  refine lv_iconst (v := nI 4) hx hb dL_alike_145 (by decide) ?_
  refine lv_iconst (v := nI 0) hx hb dL_alike_146 (by decide) ?_
  refine lv_iconst (v := nI 0) hx hb dL_alike_147 (by decide) ?_
  refine gstepS2o (As := [.int (nI 1), .int (nI 4), .int (nI 0), .int (nI 0)]) (rest := []) F ((kq1 l hst D cc a G (nI 4) (nI 0) (nI 0)).v (ab4 _)) cwR hO hS hl rfl rfl (Nat.le_of_ble_eq_true rfl) dL_alike_148 ⟨by omega, by omega⟩ (fun H locs hO hS => ?_)
  refine lv_istore (lv' := [(4, .int (nI (G.1 110))), (0, .ref (a 0)), (1, .ref (b 0)), (2, .int (nI x)), (3, .int (nI 1))]) hx hb dL_alike_151 hl (by decide) rfl (fun ls hl => ?_)
  refine lv_iconst (v := nI 0) hx hb dL_alike_153 (by decide) ?_
  refine lv_istore (lv' := [(5, .int (nI 0)), (4, .int (nI (G.1 110))), (0, .ref (a 0)), (1, .ref (b 0)), (2, .int (nI x)), (3, .int (nI 1))]) hx hb dL_alike_154 hl (by decide) rfl (fun ls hl => ?_)
  exact kk H locs ls hO hS (lv_sub hl [2, 3, 4, 5, 1, 0] rfl)
theorem al_l2 (hst : l.stackTraces = false) (F : gF p m c cL_alike 6 s args wsL_alike meth (some .boolean) D cc A) (hx2 : x < 2 ^ 31)  : ∀ (n k : Nat), n + k = G.1 110 → ∀ (H : Heap) (locs : List Loc) (ls : Array Slot) (cells slots : Nat), HO2 D cc A a b G G H → va_S A s.heap H locs → lv_has ls 6 [(0, .ref (a 0)), (1, .ref (b 0)), (2, .int (nI x)), (3, .int (nI 1)), (4, .int (nI (G.1 110))), (5, .int (nI k))] → cells + 8 * n ≤ rmAl.cells ∧ slots + 48 * n ≤ rmAl.slots →
    (∀ (H : Heap) (locs : List Loc) (ls : Array Slot), HO2 D cc A a b G G H → va_S A s.heap H locs → lv_has ls 6 [(0, .ref (a 0)), (1, .ref (b 0)), (2, .int (nI x)), (3, .int (nI 1)), (4, .int (nI (G.1 110))), (5, .int (nI (G.1 110)))] → W p l e rmAl s m args below meth c H locs (cells + 8 * n) (slots + 48 * n) Q (F0 m 275 ls [])) → W p l e rmAl s m args below meth c H locs cells slots Q (F0 m 156 ls []) := by
  have hx := F.1.1.1
  have hb := F.1.1.2.1
  have hts := F.1.1.2.2.2.2
  have cwR := va_cwS (rm := rmK 1 6) (R := rmAl) 5 hts gL_alike_L_call rfl rfl rfl (by decide +kernel) ⟨Nat.le_of_ble_eq_true rfl, Nat.le_of_ble_eq_true rfl⟩
  intro n
  induction n with
  | zero =>
    intro k hk H locs ls cells slots hO hS hl hf kk
    obtain rfl : k = G.1 110 := by omega
    refine lv_iload hx hb dL_alike_156 (lv_at hl 5 rfl) ?_
    refine lv_iload hx hb dL_alike_158 (lv_at hl 4 rfl) ?_
    refine lv_icmp_ge (tgt := 275) hx hb dL_alike_160 (by decide) (fun _ => ?_) (fun c9 => absurd ((Int32.le_refl _)) c9)
    exact kk H locs ls hO hS hl
  | succ n ih =>
    intro k hk9 H locs ls cells slots hO hS hl hf kk
    have h := hO.inv
    have h16 := h.h16
    have hk : k < G.1 110 := by omega
    refine lv_iload hx hb dL_alike_156 (lv_at hl 5 rfl) ?_
    refine lv_iload hx hb dL_alike_158 (lv_at hl 4 rfl) ?_
    refine lv_icmp_ge (tgt := 275) hx hb dL_alike_160 (by decide) (fun c9 => absurd c9 (nI_ge hk (by omega))) (fun _ => ?_)
    refine lv_iload_n hx hb dL_alike_163 rfl (lv_at hl 3 rfl) ?_
    refine lv_if_eq (tgt := 275) hx hb dL_alike_164 (by decide) (fun c9 => absurd c9 (show ¬ nI 1 = 0 by decide)) (fun _ => ?_)
    refine lv_aload_n hx hb dL_alike_167 rfl (lv_at hl 0 rfl) ?_
    refine lv_iconst (v := nI 3) hx hb dL_alike_168 (by decide) ?_
    refine lv_iload hx hb dL_alike_169 (lv_at hl 5 rfl) ?_
    refine lv_iload_n hx hb dL_alike_171 rfl (lv_at hl 2 rfl) ?_
    refine lv_iconst (v := nI 4) hx hb dL_alike_172 (by decide) ?_
    refine gr_irem hx hb dL_alike_173 (by omega) (by omega) (by omega) ?_
    refine lv_iconst (v := nI 0) hx hb dL_alike_174 (by decide) ?_
    refine gstepS2o (As := [.int (nI 3), .int (nI k), .int (nI (x % 4)), .int (nI 0)]) (rest := []) F (kq3 l hst D cc a G (nI k) (nI (x % 4)) (nI 0)) cwR hO hS hl rfl rfl (Nat.le_of_ble_eq_true rfl) dL_alike_175 ⟨by omega, by omega⟩ (fun H locs hO hS => ?_)
    refine lv_aload_n hx hb dL_alike_178 rfl (lv_at hl 1 rfl) ?_
    refine lv_iconst (v := nI 3) hx hb dL_alike_179 (by decide) ?_
    refine lv_iload hx hb dL_alike_180 (lv_at hl 5 rfl) ?_
    refine lv_iload_n hx hb dL_alike_182 rfl (lv_at hl 2 rfl) ?_
    refine lv_iconst (v := nI 4) hx hb dL_alike_183 (by decide) ?_
    refine gr_irem hx hb dL_alike_184 (by omega) (by omega) (by omega) ?_
    refine lv_iconst (v := nI 0) hx hb dL_alike_185 (by decide) ?_
    refine gstepS2p (As := [.int (nI 3), .int (nI k), .int (nI (x % 4)), .int (nI 0)]) (rest := [.int (wv (gSample G.1 (nI k) (nI (x % 4))))]) F (kq3 l hst D cc b G (nI k) (nI (x % 4)) (nI 0)) cwR hO hS hl rfl rfl (Nat.le_of_ble_eq_true rfl) dL_alike_186 ⟨by omega, by omega⟩ (fun H locs hO hS => ?_)
    refine lv_icmp_ne (tgt := 267) hx hb dL_alike_189 (by decide) (fun c9 => absurd ((rfl : (_ : Int32) = _)) c9) (fun _ => ?_)
    refine lv_aload_n hx hb dL_alike_192 rfl (lv_at hl 0 rfl) ?_
    refine lv_iconst (v := nI 3) hx hb dL_alike_193 (by decide) ?_
    refine lv_iload hx hb dL_alike_194 (lv_at hl 5 rfl) ?_
    refine lv_iconst (v := nI 3) hx hb dL_alike_196 (by decide) ?_
    refine lv_iconst (v := nI 0) hx hb dL_alike_197 (by decide) ?_
    refine gstepS2o (As := [.int (nI 3), .int (nI k), .int (nI 3), .int (nI 0)]) (rest := []) F (kq3 l hst D cc a G (nI k) (nI 3) (nI 0)) cwR hO hS hl rfl rfl (Nat.le_of_ble_eq_true rfl) dL_alike_198 ⟨by omega, by omega⟩ (fun H locs hO hS => ?_)
    refine lv_aload_n hx hb dL_alike_201 rfl (lv_at hl 1 rfl) ?_
    refine lv_iconst (v := nI 3) hx hb dL_alike_202 (by decide) ?_
    refine lv_iload hx hb dL_alike_203 (lv_at hl 5 rfl) ?_
    refine lv_iconst (v := nI 3) hx hb dL_alike_205 (by decide) ?_
    refine lv_iconst (v := nI 0) hx hb dL_alike_206 (by decide) ?_
    refine gstepS2p (As := [.int (nI 3), .int (nI k), .int (nI 3), .int (nI 0)]) (rest := [.int (wv (gSample G.1 (nI k) (nI 3)))]) F (kq3 l hst D cc b G (nI k) (nI 3) (nI 0)) cwR hO hS hl rfl rfl (Nat.le_of_ble_eq_true rfl) dL_alike_207 ⟨by omega, by omega⟩ (fun H locs hO hS => ?_)
    refine lv_icmp_ne (tgt := 267) hx hb dL_alike_210 (by decide) (fun c9 => absurd ((rfl : (_ : Int32) = _)) c9) (fun _ => ?_)
    refine lv_aload_n hx hb dL_alike_213 rfl (lv_at hl 0 rfl) ?_
    refine lv_iconst (v := nI 4) hx hb dL_alike_214 (by decide) ?_
    refine lv_iload hx hb dL_alike_215 (lv_at hl 5 rfl) ?_
    refine lv_iload_n hx hb dL_alike_217 rfl (lv_at hl 2 rfl) ?_
    refine lv_bipush (v := nI 41) hx hb dL_alike_218 (by decide) ?_
    refine gr_irem hx hb dL_alike_220 (by omega) (by omega) (by omega) ?_
    refine lv_iconst (v := nI 0) hx hb dL_alike_221 (by decide) ?_
    refine gstepS2o (As := [.int (nI 4), .int (nI k), .int (nI (x % 41)), .int (nI 0)]) (rest := []) F (kq4 l hst D cc a G (nI k) (nI (x % 41)) (nI 0)) cwR hO hS hl rfl rfl (Nat.le_of_ble_eq_true rfl) dL_alike_222 ⟨by omega, by omega⟩ (fun H locs hO hS => ?_)
    refine lv_aload_n hx hb dL_alike_225 rfl (lv_at hl 1 rfl) ?_
    refine lv_iconst (v := nI 4) hx hb dL_alike_226 (by decide) ?_
    refine lv_iload hx hb dL_alike_227 (lv_at hl 5 rfl) ?_
    refine lv_iload_n hx hb dL_alike_229 rfl (lv_at hl 2 rfl) ?_
    refine lv_bipush (v := nI 41) hx hb dL_alike_230 (by decide) ?_
    refine gr_irem hx hb dL_alike_232 (by omega) (by omega) (by omega) ?_
    refine lv_iconst (v := nI 0) hx hb dL_alike_233 (by decide) ?_
    refine gstepS2p (As := [.int (nI 4), .int (nI k), .int (nI (x % 41)), .int (nI 0)]) (rest := [.int (wv (gSignOf G.1 (nI k) (nI (x % 41))))]) F (kq4 l hst D cc b G (nI k) (nI (x % 41)) (nI 0)) cwR hO hS hl rfl rfl (Nat.le_of_ble_eq_true rfl) dL_alike_234 ⟨by omega, by omega⟩ (fun H locs hO hS => ?_)
    refine lv_icmp_ne (tgt := 267) hx hb dL_alike_237 (by decide) (fun c9 => absurd ((rfl : (_ : Int32) = _)) c9) (fun _ => ?_)
    refine lv_aload_n hx hb dL_alike_240 rfl (lv_at hl 0 rfl) ?_
    refine lv_bipush (v := nI 15) hx hb dL_alike_241 (by decide) ?_
    refine lv_iload hx hb dL_alike_243 (lv_at hl 5 rfl) ?_
    refine lv_iconst (v := nI 0) hx hb dL_alike_245 (by decide) ?_
    refine lv_iconst (v := nI 0) hx hb dL_alike_246 (by decide) ?_
    refine gstepS2o (As := [.int (nI 15), .int (nI k), .int (nI 0), .int (nI 0)]) (rest := []) F (kq15 l hst D cc a G (nI k) (nI 0) (nI 0)) cwR hO hS hl rfl rfl (Nat.le_of_ble_eq_true rfl) dL_alike_247 ⟨by omega, by omega⟩ (fun H locs hO hS => ?_)
    refine lv_aload_n hx hb dL_alike_250 rfl (lv_at hl 1 rfl) ?_
    refine lv_bipush (v := nI 15) hx hb dL_alike_251 (by decide) ?_
    refine lv_iload hx hb dL_alike_253 (lv_at hl 5 rfl) ?_
    refine lv_iconst (v := nI 0) hx hb dL_alike_255 (by decide) ?_
    refine lv_iconst (v := nI 0) hx hb dL_alike_256 (by decide) ?_
    refine gstepS2p (As := [.int (nI 15), .int (nI k), .int (nI 0), .int (nI 0)]) (rest := [.int (wv (gNearest G.1 (nI k)))]) F (kq15 l hst D cc b G (nI k) (nI 0) (nI 0)) cwR hO hS hl rfl rfl (Nat.le_of_ble_eq_true rfl) dL_alike_257 ⟨by omega, by omega⟩ (fun H locs hO hS => ?_)
    refine lv_icmp_ne (tgt := 267) hx hb dL_alike_260 (by decide) (fun c9 => absurd ((rfl : (_ : Int32) = _)) c9) (fun _ => ?_)
    refine lv_iconst (v := nI 1) hx hb dL_alike_263 (by decide) ?_
    refine lv_goto (tgt := 268) hx hb dL_alike_264 (by decide) ?_
    refine lv_istore_n (lv' := [(3, .int (nI 1)), (0, .ref (a 0)), (1, .ref (b 0)), (2, .int (nI x)), (4, .int (nI (G.1 110))), (5, .int (nI k))]) hx hb dL_alike_268 rfl hl (by decide) rfl (fun ls hl => ?_)
    refine lv_iinc (v := nI (k + 1)) (lv' := [(5, .int (nI (k + 1))), (3, .int (nI 1)), (0, .ref (a 0)), (1, .ref (b 0)), (2, .int (nI x)), (4, .int (nI (G.1 110)))]) hx hb dL_alike_269 hl (k := 5) rfl (nI_add _ 1) (by decide) rfl (fun ls hl => ?_)
    refine lv_goto (tgt := 156) hx hb dL_alike_272 (by decide) ?_
    refine ih (k + 1) (by omega) H locs ls _ _ hO hS (lv_sub hl [2, 3, 4, 1, 5, 0] rfl) ⟨by omega, by omega⟩ (fun H locs ls hO hS hl => ?_)
    refine W.widen (k := cells + 8 * (n + 1)) (n := slots + 48 * (n + 1)) (by omega) (by omega) ?_
    exact kk H locs ls hO hS hl
theorem al_b3 {N4 N5 : Nat} (hst : l.stackTraces = false) (F : gF p m c cL_alike 6 s args wsL_alike meth (some .boolean) D cc A) (hx2 : x < 2 ^ 31) (hO : HO2 D cc A a b G G H) (hS : va_S A s.heap H locs) (hl : lv_has ls 6 [(0, .ref (a 0)), (1, .ref (b 0)), (2, .int (nI x)), (3, .int (nI 1)), (4, .int (nI N4)), (5, .int (nI N5))])
    (kk : ∀ (H : Heap) (locs : List Loc) (ls : Array Slot), HO2 D cc A a b G G H → va_S A s.heap H locs → lv_has ls 6 [(0, .ref (a 0)), (1, .ref (b 0)), (2, .int (nI x)), (3, .int (nI 1)), (4, .int (nI N4)), (5, .int (nI 0))] → W p l e rmAl s m args below meth c H locs (cells + 0) (slots + 0) Q (F0 m 278 ls [])) : W p l e rmAl s m args below meth c H locs cells slots Q (F0 m 275 ls []) := by
  have hx := F.1.1.1
  have hb := F.1.1.2.1
  refine lv_iconst (v := nI 0) hx hb dL_alike_275 (by decide) ?_
  refine lv_istore (lv' := [(5, .int (nI 0)), (0, .ref (a 0)), (1, .ref (b 0)), (2, .int (nI x)), (3, .int (nI 1)), (4, .int (nI N4))]) hx hb dL_alike_276 hl (by decide) rfl (fun ls hl => ?_)
  exact kk H locs ls hO hS (lv_sub hl [1, 2, 3, 4, 5, 0] rfl)
theorem al_l3 {N4 : Nat} (hst : l.stackTraces = false) (F : gF p m c cL_alike 6 s args wsL_alike meth (some .boolean) D cc A) (hx2 : x < 2 ^ 31)  : ∀ (n k : Nat), n + k = 10 → ∀ (H : Heap) (locs : List Loc) (ls : Array Slot) (cells slots : Nat), HO2 D cc A a b G G H → va_S A s.heap H locs → lv_has ls 6 [(0, .ref (a 0)), (1, .ref (b 0)), (2, .int (nI x)), (3, .int (nI 1)), (4, .int (nI N4)), (5, .int (nI k))] → cells + 4 * n ≤ rmAl.cells ∧ slots + 24 * n ≤ rmAl.slots →
    (∀ (H : Heap) (locs : List Loc) (ls : Array Slot), HO2 D cc A a b G G H → va_S A s.heap H locs → lv_has ls 6 [(0, .ref (a 0)), (1, .ref (b 0)), (2, .int (nI x)), (3, .int (nI 1)), (4, .int (nI N4)), (5, .int (nI 10))] → W p l e rmAl s m args below meth c H locs (cells + 4 * n) (slots + 24 * n) Q (F0 m 359 ls [])) → W p l e rmAl s m args below meth c H locs cells slots Q (F0 m 278 ls []) := by
  have hx := F.1.1.1
  have hb := F.1.1.2.1
  have hts := F.1.1.2.2.2.2
  have cwR := va_cwS (rm := rmK 1 6) (R := rmAl) 5 hts gL_alike_L_call rfl rfl rfl (by decide +kernel) ⟨Nat.le_of_ble_eq_true rfl, Nat.le_of_ble_eq_true rfl⟩
  intro n
  induction n with
  | zero =>
    intro k hk H locs ls cells slots hO hS hl hf kk
    obtain rfl : k = 10 := by omega
    refine lv_iload hx hb dL_alike_278 (lv_at hl 5 rfl) ?_
    refine lv_bipush (v := nI 10) hx hb dL_alike_280 (by decide) ?_
    refine lv_icmp_ge (tgt := 359) hx hb dL_alike_282 (by decide) (fun _ => ?_) (fun c9 => absurd ((Int32.le_refl _)) c9)
    exact kk H locs ls hO hS hl
  | succ n ih =>
    intro k hk9 H locs ls cells slots hO hS hl hf kk
    have h := hO.inv
    have h16 := h.h16
    have hk : k < 10 := by omega
    refine lv_iload hx hb dL_alike_278 (lv_at hl 5 rfl) ?_
    refine lv_bipush (v := nI 10) hx hb dL_alike_280 (by decide) ?_
    refine lv_icmp_ge (tgt := 359) hx hb dL_alike_282 (by decide) (fun c9 => absurd c9 (nI_ge hk (by omega))) (fun _ => ?_)
    refine lv_iload_n hx hb dL_alike_285 rfl (lv_at hl 3 rfl) ?_
    refine lv_if_eq (tgt := 359) hx hb dL_alike_286 (by decide) (fun c9 => absurd c9 (show ¬ nI 1 = 0 by decide)) (fun _ => ?_)
    refine lv_aload_n hx hb dL_alike_289 rfl (lv_at hl 0 rfl) ?_
    refine lv_iconst (v := nI 5) hx hb dL_alike_290 (by decide) ?_
    refine lv_iload hx hb dL_alike_291 (lv_at hl 5 rfl) ?_
    refine lv_iload_n hx hb dL_alike_293 rfl (lv_at hl 2 rfl) ?_
    refine lv_iconst (v := nI 3) hx hb dL_alike_294 (by decide) ?_
    refine gr_irem hx hb dL_alike_295 (by omega) (by omega) (by omega) ?_
    refine lv_iconst (v := nI 0) hx hb dL_alike_296 (by decide) ?_
    refine gstepS2o (As := [.int (nI 5), .int (nI k), .int (nI (x % 3)), .int (nI 0)]) (rest := []) F (kq5 l hst D cc a G (nI k) (nI (x % 3)) (nI 0)) cwR hO hS hl rfl rfl (Nat.le_of_ble_eq_true rfl) dL_alike_297 ⟨by omega, by omega⟩ (fun H locs hO hS => ?_)
    refine lv_aload_n hx hb dL_alike_300 rfl (lv_at hl 1 rfl) ?_
    refine lv_iconst (v := nI 5) hx hb dL_alike_301 (by decide) ?_
    refine lv_iload hx hb dL_alike_302 (lv_at hl 5 rfl) ?_
    refine lv_iload_n hx hb dL_alike_304 rfl (lv_at hl 2 rfl) ?_
    refine lv_iconst (v := nI 3) hx hb dL_alike_305 (by decide) ?_
    refine gr_irem hx hb dL_alike_306 (by omega) (by omega) (by omega) ?_
    refine lv_iconst (v := nI 0) hx hb dL_alike_307 (by decide) ?_
    refine gstepS2p (As := [.int (nI 5), .int (nI k), .int (nI (x % 3)), .int (nI 0)]) (rest := [.int (wv (gPractised G.1 (nI k) (nI (x % 3))))]) F (kq5 l hst D cc b G (nI k) (nI (x % 3)) (nI 0)) cwR hO hS hl rfl rfl (Nat.le_of_ble_eq_true rfl) dL_alike_308 ⟨by omega, by omega⟩ (fun H locs hO hS => ?_)
    refine lv_icmp_ne (tgt := 351) hx hb dL_alike_311 (by decide) (fun c9 => absurd ((rfl : (_ : Int32) = _)) c9) (fun _ => ?_)
    refine lv_aload_n hx hb dL_alike_314 rfl (lv_at hl 0 rfl) ?_
    refine lv_iconst (v := nI 2) hx hb dL_alike_315 (by decide) ?_
    refine lv_iconst (v := nI 4) hx hb dL_alike_316 (by decide) ?_
    refine lv_iload hx hb dL_alike_317 (lv_at hl 5 rfl) ?_
    refine gr_imul hx hb dL_alike_319 ?_
    refine lv_iload_n hx hb dL_alike_320 rfl (lv_at hl 2 rfl) ?_
    refine lv_iconst (v := nI 4) hx hb dL_alike_321 (by decide) ?_
    refine gr_irem hx hb dL_alike_322 (by omega) (by omega) (by omega) ?_
    refine gr_iadd hx hb dL_alike_323 ?_
    refine lv_iconst (v := nI 0) hx hb dL_alike_324 (by decide) ?_
    refine lv_iconst (v := nI 0) hx hb dL_alike_325 (by decide) ?_
    refine gstepS2o (As := [.int (nI 2), .int (nI ((4 * k) + (x % 4))), .int (nI 0), .int (nI 0)]) (rest := []) F (kq2 l hst D cc a G (nI ((4 * k) + (x % 4))) (nI 0) (nI 0)) cwR hO hS hl rfl rfl (Nat.le_of_ble_eq_true rfl) dL_alike_326 ⟨by omega, by omega⟩ (fun H locs hO hS => ?_)
    refine lv_aload_n hx hb dL_alike_329 rfl (lv_at hl 1 rfl) ?_
    refine lv_iconst (v := nI 2) hx hb dL_alike_330 (by decide) ?_
    refine lv_iconst (v := nI 4) hx hb dL_alike_331 (by decide) ?_
    refine lv_iload hx hb dL_alike_332 (lv_at hl 5 rfl) ?_
    refine gr_imul hx hb dL_alike_334 ?_
    refine lv_iload_n hx hb dL_alike_335 rfl (lv_at hl 2 rfl) ?_
    refine lv_iconst (v := nI 4) hx hb dL_alike_336 (by decide) ?_
    refine gr_irem hx hb dL_alike_337 (by omega) (by omega) (by omega) ?_
    refine gr_iadd hx hb dL_alike_338 ?_
    refine lv_iconst (v := nI 0) hx hb dL_alike_339 (by decide) ?_
    refine lv_iconst (v := nI 0) hx hb dL_alike_340 (by decide) ?_
    refine gstepS2p (As := [.int (nI 2), .int (nI ((4 * k) + (x % 4))), .int (nI 0), .int (nI 0)]) (rest := [.int (wv (gSign G.1 (nI ((4 * k) + (x % 4)))))]) F (kq2 l hst D cc b G (nI ((4 * k) + (x % 4))) (nI 0) (nI 0)) cwR hO hS hl rfl rfl (Nat.le_of_ble_eq_true rfl) dL_alike_341 ⟨by omega, by omega⟩ (fun H locs hO hS => ?_)
    refine lv_icmp_ne (tgt := 351) hx hb dL_alike_344 (by decide) (fun c9 => absurd ((rfl : (_ : Int32) = _)) c9) (fun _ => ?_)
    refine lv_iconst (v := nI 1) hx hb dL_alike_347 (by decide) ?_
    refine lv_goto (tgt := 352) hx hb dL_alike_348 (by decide) ?_
    refine lv_istore_n (lv' := [(3, .int (nI 1)), (0, .ref (a 0)), (1, .ref (b 0)), (2, .int (nI x)), (4, .int (nI N4)), (5, .int (nI k))]) hx hb dL_alike_352 rfl hl (by decide) rfl (fun ls hl => ?_)
    refine lv_iinc (v := nI (k + 1)) (lv' := [(5, .int (nI (k + 1))), (3, .int (nI 1)), (0, .ref (a 0)), (1, .ref (b 0)), (2, .int (nI x)), (4, .int (nI N4))]) hx hb dL_alike_353 hl (k := 5) rfl (nI_add _ 1) (by decide) rfl (fun ls hl => ?_)
    refine lv_goto (tgt := 278) hx hb dL_alike_356 (by decide) ?_
    refine ih (k + 1) (by omega) H locs ls _ _ hO hS (lv_sub hl [2, 3, 4, 1, 5, 0] rfl) ⟨by omega, by omega⟩ (fun H locs ls hO hS hl => ?_)
    refine W.widen (k := cells + 4 * (n + 1)) (n := slots + 24 * (n + 1)) (by omega) (by omega) ?_
    exact kk H locs ls hO hS hl
/-- ALIKE answers true of two objects in one state, and leaves them -/
theorem k_alike (l : Launch) (hst : l.stackTraces = false) (D : va_G) (cc : Nat → ClassId) (a b : Nat → Nat) (G : GS) {x : Nat} (hx2 : x < 2 ^ 31) : gO2 l yL_alike wsL_alike rmAl D cc a b [.int (nI x)] G (nI 1) 240 1440 := by
  intro x9 y9 L9 M9 hI hI2
  refine glstart (bc := cL_alike) (maxL := 6) (ret := (some .boolean)) (by decide) rfl rfl (Nat.le_of_ble_eq_true rfl) ?_
  intro p e s m below meth c A hAe F hP hD hS ls hl
  have hO : HO2 D cc A a b G G s.heap := ⟨y9, M9, hI2, x9, L9, hI, hP, hD⟩
  have hl : lv_has ls 6 [(0, .ref (a 0)), (1, .ref (b 0)), (2, .int (nI x))] := hl
  have hf : rmAl.cells = 240 ∧ rmAl.slots = 1440 := ⟨rfl, rfl⟩
  have h := hO.inv
  have h16 := h.h16
  have hx := F.1.1.1
  have hb := F.1.1.2.1
  refine al_b1 hst F hx2 hO hS hl ⟨by omega, by omega⟩ (fun H locs ls hO hS hl => ?_)
  refine al_l1 hst F hx2 8 0 (by omega) H locs ls _ _ hO hS hl ⟨by omega, by omega⟩ (fun H locs ls hO hS hl => ?_)
  refine al_b2 hst F hx2 hO hS hl ⟨by omega, by omega⟩ (fun H locs ls hO hS hl => ?_)
  refine al_l2 hst F hx2 (G.1 110) 0 (by omega) H locs ls _ _ hO hS hl ⟨by omega, by omega⟩ (fun H locs ls hO hS hl => ?_)
  refine al_b3 hst F hx2 hO hS hl (fun H locs ls hO hS hl => ?_)
  refine al_l3 hst F hx2 10 0 (by omega) H locs ls _ _ hO hS hl ⟨by omega, by omega⟩ (fun H locs ls hO hS hl => ?_)
  obtain ⟨y9, M9, hI2, x9, L9, hI, hP, hD⟩ := hO
  refine lv_iload_n hx hb dL_alike_359 rfl (lv_at hl 3 rfl) ?_
  exact gendz F (by decide) hAe hP hD ⟨x9, y9, L9, M9, hI, hI2, rfl⟩ hS rfl (by omega) (by omega) dL_alike_360
end XLALIKE
