/-! LAW 4: holds -/
section XLHOLDS
def rmHo : Room := { frames := 10, cells := 160, slots := 4000, locals := 320 }
variable {p : Program} {l : Launch} {e : Env} {s : State} {m : MethodId} {args : Array Value} {below : List Frame} {meth : Method} {c : Code} {H : Heap} {locs : List Loc} {cells slots : Nat} {Q : State → Prop} {D : va_G} {cc : Nat → ClassId} {A : Nat → Prop} {a : Nat → Nat} {G : GS} {Rw : va_W} {ls : Array Slot} {x k : Nat}
theorem ho_b1 (hst : l.stackTraces = false) (F : gF p m c cL_holds 17 s args wsL_holds meth (some .boolean) D cc A) (hx2 : x < 2 ^ 31) (hO : HO D cc A a G Rw H) (hS : va_S A s.heap H locs) (hl : lv_has ls 17 [(0, .ref (a 0)), (1, .int (nI x))]) (hf : cells + 4 ≤ rmHo.cells ∧ slots + 24 ≤ rmHo.slots)
    (kk : ∀ (H : Heap) (locs : List Loc) (ls : Array Slot), HO D cc A a (G) Rw H → va_S A s.heap H locs → lv_has ls 17 [(0, .ref (a 0)), (1, .int (nI x)), (2, .int (nI (G.1 110))), (3, .int (nI ((sigM G.1 0 (G.1 77)).length))), (4, .int (nI 1)), (5, .int (nI 0)), (6, .int (nI 0))] → W p l e rmHo s m args below meth c H locs (cells + 4) (slots + 24) Q (F0 m 66 ls [])) : W p l e rmHo s m args below meth c H locs cells slots Q (F0 m 0 ls []) := by
  have hx := F.1.1.1
  have hb9 := F.1.1.2.1
  have hts := F.1.1.2.2.2.2
  have h := hO.inv
  have h16 := h.h16
  have h40 := h.hand.2
  have h3 := h.hand.1.1.1
  have cwR := va_cwS (rm := rmK 1 6) (R := rmHo) 5 hts gL_holds_L_call rfl rfl rfl (by decide +kernel) ⟨Nat.le_of_ble_eq_true rfl, Nat.le_of_ble_eq_true rfl⟩
  by_cases z0 : (sigM G.1 0 (G.1 77)).length = 0
  · refine lv_aload_n hx hb9 dL_holds_0 rfl (lv_at hl 0 rfl) ?_
    refine lv_iconst (v := nI 1) hx hb9 dL_holds_1 (by decide) ?_
    refine lv_iconst (v := nI 4) hx hb9 dL_holds_2 (by decide) ?_
    refine lv_iconst (v := nI 0) hx hb9 dL_holds_3 (by decide) ?_
    refine lv_iconst (v := nI 0) hx hb9 dL_holds_4 (by decide) ?_
    refine gstepS (As := [.int (nI 1), .int (nI 4), .int (nI 0), .int (nI 0)]) (rest := []) F ((kq1 l hst D cc a G (nI 4) (nI 0) (nI 0)).v (v' := (nI (G.1 110))) (ab4 _)) cwR hO hS hl rfl rfl (Nat.le_of_ble_eq_true rfl) dL_holds_5 ⟨by omega, by omega⟩ (fun H locs hO hS => ?_)
    refine lv_istore_n (lv' := [(2, .int (nI (G.1 110))), (0, .ref (a 0)), (1, .int (nI x))]) hx hb9 dL_holds_8 rfl hl (by decide) rfl (fun ls hl => ?_)
    refine lv_aload_n hx hb9 dL_holds_9 rfl (lv_at hl 1 rfl) ?_
    refine lv_iconst (v := nI 1) hx hb9 dL_holds_10 (by decide) ?_
    refine lv_iconst (v := nI 3) hx hb9 dL_holds_11 (by decide) ?_
    refine lv_iconst (v := nI 0) hx hb9 dL_holds_12 (by decide) ?_
    refine lv_iconst (v := nI 0) hx hb9 dL_holds_13 (by decide) ?_
    refine gstepS (As := [.int (nI 1), .int (nI 3), .int (nI 0), .int (nI 0)]) (rest := []) F ((kq1 l hst D cc a G (nI 3) (nI 0) (nI 0)).v (v' := (nI ((sigM G.1 0 (G.1 77)).length))) (ab3 _)) cwR hO hS hl rfl rfl (Nat.le_of_ble_eq_true rfl) dL_holds_14 ⟨by omega, by omega⟩ (fun H locs hO hS => ?_)
    refine lv_istore_n (lv' := [(3, .int (nI ((sigM G.1 0 (G.1 77)).length))), (2, .int (nI (G.1 110))), (0, .ref (a 0)), (1, .int (nI x))]) hx hb9 dL_holds_17 rfl hl (by decide) rfl (fun ls hl => ?_)
    refine lv_iload_n hx hb9 dL_holds_18 rfl (lv_at hl 0 rfl) ?_
    refine lv_bipush (v := nI 40) hx hb9 dL_holds_19 (by decide) ?_
    refine lv_icmp_gt (tgt := 57) hx hb9 dL_holds_21 (by decide) (fun c9 => absurd c9 (nI_nlt h40 (by omega))) (fun _ => ?_)
    refine lv_aload_n hx hb9 dL_holds_24 rfl (lv_at hl 2 rfl) ?_
    refine lv_iconst (v := nI 2) hx hb9 dL_holds_25 (by decide) ?_
    refine lv_iload_n hx hb9 dL_holds_26 rfl (lv_at hl 0 rfl) ?_
    refine lv_iconst (v := nI 0) hx hb9 dL_holds_27 (by decide) ?_
    refine lv_iconst (v := nI 0) hx hb9 dL_holds_28 (by decide) ?_
    refine gstepS (As := [.int (nI 2), .int (nI ((sigM G.1 0 (G.1 77)).length)), .int (nI 0), .int (nI 0)]) (rest := []) F ((kq2 l hst D cc a G (nI ((sigM G.1 0 (G.1 77)).length)) (nI 0) (nI 0)).v (v' := ((-1 : Int32))) (sg_end h)) cwR hO hS hl rfl rfl (Nat.le_of_ble_eq_true rfl) dL_holds_29 ⟨by omega, by omega⟩ (fun H locs hO hS => ?_)
    refine lv_iconst (v := (-1 : Int32)) hx hb9 dL_holds_32 (by decide) ?_
    refine lv_icmp_ne (tgt := 57) hx hb9 dL_holds_33 (by decide) (fun c9 => absurd ((rfl : (_ : Int32) = _)) c9) (fun _ => ?_)
    refine lv_iload_n hx hb9 dL_holds_36 rfl (lv_at hl 0 rfl) ?_
    refine lv_if_eq (tgt := 53) hx hb9 dL_holds_37 (by decide) (fun _ => ?_) (fun c9 => absurd ((show nI ((sigM G.1 0 (G.1 77)).length) = 0 by rw [z0]; rfl)) c9)
    refine lv_iconst (v := nI 1) hx hb9 dL_holds_53 (by decide) ?_
    refine lv_goto (tgt := 58) hx hb9 dL_holds_54 (by decide) ?_
    refine lv_istore (lv' := [(4, .int (nI 1)), (3, .int (nI ((sigM G.1 0 (G.1 77)).length))), (2, .int (nI (G.1 110))), (0, .ref (a 0)), (1, .int (nI x))]) hx hb9 dL_holds_58 hl (by decide) rfl (fun ls hl => ?_)
    refine lv_iconst (v := nI 0) hx hb9 dL_holds_60 (by decide) ?_
    refine lv_istore (lv' := [(5, .int (nI 0)), (4, .int (nI 1)), (3, .int (nI ((sigM G.1 0 (G.1 77)).length))), (2, .int (nI (G.1 110))), (0, .ref (a 0)), (1, .int (nI x))]) hx hb9 dL_holds_61 hl (by decide) rfl (fun ls hl => ?_)
    refine lv_iconst (v := nI 0) hx hb9 dL_holds_63 (by decide) ?_
    refine lv_istore (lv' := [(6, .int (nI 0)), (5, .int (nI 0)), (4, .int (nI 1)), (3, .int (nI ((sigM G.1 0 (G.1 77)).length))), (2, .int (nI (G.1 110))), (0, .ref (a 0)), (1, .int (nI x))]) hx hb9 dL_holds_64 hl (by decide) rfl (fun ls hl => ?_)
    refine W.widen (k := cells + 4) (n := slots + 24) (by omega) (by omega) ?_
    exact kk H locs ls hO hS (lv_sub hl [5, 6, 4, 3, 2, 1, 0] rfl)
  · have hg := rI.le4 G.1 0 (G.1 77) ((sigM G.1 0 (G.1 77)).length - 1) (by omega)
    refine lv_aload_n hx hb9 dL_holds_0 rfl (lv_at hl 0 rfl) ?_
    refine lv_iconst (v := nI 1) hx hb9 dL_holds_1 (by decide) ?_
    refine lv_iconst (v := nI 4) hx hb9 dL_holds_2 (by decide) ?_
    refine lv_iconst (v := nI 0) hx hb9 dL_holds_3 (by decide) ?_
    refine lv_iconst (v := nI 0) hx hb9 dL_holds_4 (by decide) ?_
    refine gstepS (As := [.int (nI 1), .int (nI 4), .int (nI 0), .int (nI 0)]) (rest := []) F ((kq1 l hst D cc a G (nI 4) (nI 0) (nI 0)).v (v' := (nI (G.1 110))) (ab4 _)) cwR hO hS hl rfl rfl (Nat.le_of_ble_eq_true rfl) dL_holds_5 ⟨by omega, by omega⟩ (fun H locs hO hS => ?_)
    refine lv_istore_n (lv' := [(2, .int (nI (G.1 110))), (0, .ref (a 0)), (1, .int (nI x))]) hx hb9 dL_holds_8 rfl hl (by decide) rfl (fun ls hl => ?_)
    refine lv_aload_n hx hb9 dL_holds_9 rfl (lv_at hl 1 rfl) ?_
    refine lv_iconst (v := nI 1) hx hb9 dL_holds_10 (by decide) ?_
    refine lv_iconst (v := nI 3) hx hb9 dL_holds_11 (by decide) ?_
    refine lv_iconst (v := nI 0) hx hb9 dL_holds_12 (by decide) ?_
    refine lv_iconst (v := nI 0) hx hb9 dL_holds_13 (by decide) ?_
    refine gstepS (As := [.int (nI 1), .int (nI 3), .int (nI 0), .int (nI 0)]) (rest := []) F ((kq1 l hst D cc a G (nI 3) (nI 0) (nI 0)).v (v' := (nI ((sigM G.1 0 (G.1 77)).length))) (ab3 _)) cwR hO hS hl rfl rfl (Nat.le_of_ble_eq_true rfl) dL_holds_14 ⟨by omega, by omega⟩ (fun H locs hO hS => ?_)
    refine lv_istore_n (lv' := [(3, .int (nI ((sigM G.1 0 (G.1 77)).length))), (2, .int (nI (G.1 110))), (0, .ref (a 0)), (1, .int (nI x))]) hx hb9 dL_holds_17 rfl hl (by decide) rfl (fun ls hl => ?_)
    refine lv_iload_n hx hb9 dL_holds_18 rfl (lv_at hl 0 rfl) ?_
    refine lv_bipush (v := nI 40) hx hb9 dL_holds_19 (by decide) ?_
    refine lv_icmp_gt (tgt := 57) hx hb9 dL_holds_21 (by decide) (fun c9 => absurd c9 (nI_nlt h40 (by omega))) (fun _ => ?_)
    refine lv_aload_n hx hb9 dL_holds_24 rfl (lv_at hl 2 rfl) ?_
    refine lv_iconst (v := nI 2) hx hb9 dL_holds_25 (by decide) ?_
    refine lv_iload_n hx hb9 dL_holds_26 rfl (lv_at hl 0 rfl) ?_
    refine lv_iconst (v := nI 0) hx hb9 dL_holds_27 (by decide) ?_
    refine lv_iconst (v := nI 0) hx hb9 dL_holds_28 (by decide) ?_
    refine gstepS (As := [.int (nI 2), .int (nI ((sigM G.1 0 (G.1 77)).length)), .int (nI 0), .int (nI 0)]) (rest := []) F ((kq2 l hst D cc a G (nI ((sigM G.1 0 (G.1 77)).length)) (nI 0) (nI 0)).v (v' := ((-1 : Int32))) (sg_end h)) cwR hO hS hl rfl rfl (Nat.le_of_ble_eq_true rfl) dL_holds_29 ⟨by omega, by omega⟩ (fun H locs hO hS => ?_)
    refine lv_iconst (v := (-1 : Int32)) hx hb9 dL_holds_32 (by decide) ?_
    refine lv_icmp_ne (tgt := 57) hx hb9 dL_holds_33 (by decide) (fun c9 => absurd ((rfl : (_ : Int32) = _)) c9) (fun _ => ?_)
    refine lv_iload_n hx hb9 dL_holds_36 rfl (lv_at hl 0 rfl) ?_
    refine lv_if_eq (tgt := 53) hx hb9 dL_holds_37 (by decide) (fun c9 => absurd c9 (nI_ne0 (by omega) (by omega))) (fun _ => ?_)
    refine lv_aload_n hx hb9 dL_holds_40 rfl (lv_at hl 2 rfl) ?_
    refine lv_iconst (v := nI 2) hx hb9 dL_holds_41 (by decide) ?_
    refine lv_iload_n hx hb9 dL_holds_42 rfl (lv_at hl 0 rfl) ?_
    refine lv_iconst (v := nI 1) hx hb9 dL_holds_43 (by decide) ?_
    refine gr_isub hx hb9 dL_holds_44 (by omega) ?_
    refine lv_iconst (v := nI 0) hx hb9 dL_holds_45 (by decide) ?_
    refine lv_iconst (v := nI 0) hx hb9 dL_holds_46 (by decide) ?_
    refine gstepS (As := [.int (nI 2), .int (nI (((sigM G.1 0 (G.1 77)).length) - 1)), .int (nI 0), .int (nI 0)]) (rest := []) F ((kq2 l hst D cc a G (nI (((sigM G.1 0 (G.1 77)).length) - 1)) (nI 0) (nI 0)).v (v' := (nI ((sigM G.1 0 (G.1 77)).getD ((sigM G.1 0 (G.1 77)).length - 1) 0))) (sg_at h (by omega))) cwR hO hS hl rfl rfl (Nat.le_of_ble_eq_true rfl) dL_holds_47 ⟨by omega, by omega⟩ (fun H locs hO hS => ?_)
    refine lv_if_lt (tgt := 57) hx hb9 dL_holds_50 (by decide) (fun c9 => absurd c9 (nI_pos (by omega))) (fun _ => ?_)
    refine lv_iconst (v := nI 1) hx hb9 dL_holds_53 (by decide) ?_
    refine lv_goto (tgt := 58) hx hb9 dL_holds_54 (by decide) ?_
    refine lv_istore (lv' := [(4, .int (nI 1)), (3, .int (nI ((sigM G.1 0 (G.1 77)).length))), (2, .int (nI (G.1 110))), (0, .ref (a 0)), (1, .int (nI x))]) hx hb9 dL_holds_58 hl (by decide) rfl (fun ls hl => ?_)
    refine lv_iconst (v := nI 0) hx hb9 dL_holds_60 (by decide) ?_
    refine lv_istore (lv' := [(5, .int (nI 0)), (4, .int (nI 1)), (3, .int (nI ((sigM G.1 0 (G.1 77)).length))), (2, .int (nI (G.1 110))), (0, .ref (a 0)), (1, .int (nI x))]) hx hb9 dL_holds_61 hl (by decide) rfl (fun ls hl => ?_)
    refine lv_iconst (v := nI 0) hx hb9 dL_holds_63 (by decide) ?_
    refine lv_istore (lv' := [(6, .int (nI 0)), (5, .int (nI 0)), (4, .int (nI 1)), (3, .int (nI ((sigM G.1 0 (G.1 77)).length))), (2, .int (nI (G.1 110))), (0, .ref (a 0)), (1, .int (nI x))]) hx hb9 dL_holds_64 hl (by decide) rfl (fun ls hl => ?_)
    refine W.widen (k := cells + 4) (n := slots + 24) (by omega) (by omega) ?_
    exact kk H locs ls hO hS (lv_sub hl [5, 6, 4, 3, 2, 1, 0] rfl)
theorem ho_l (hst : l.stackTraces = false) (F : gF p m c cL_holds 17 s args wsL_holds meth (some .boolean) D cc A) : ∀ (n k : Nat), n + k = (sigM G.1 0 (G.1 77)).length → ∀ (H : Heap) (locs : List Loc) (ls : Array Slot) (cells slots : Nat), HO D cc A a G Rw H → va_S A s.heap H locs → lv_has ls 17 [(0, .ref (a 0)), (1, .int (nI x)), (2, .int (nI (G.1 110))), (3, .int (nI ((sigM G.1 0 (G.1 77)).length))), (4, .int (nI 1)), (5, .int (nI (c4 (sigM G.1 0 (G.1 77)) k))), (6, .int (nI k))] → cells + 1 * n ≤ rmHo.cells ∧ slots + 6 * n ≤ rmHo.slots →
    (∀ (H : Heap) (locs : List Loc) (ls : Array Slot), HO D cc A a G Rw H → va_S A s.heap H locs → lv_has ls 17 [(0, .ref (a 0)), (1, .int (nI x)), (2, .int (nI (G.1 110))), (3, .int (nI ((sigM G.1 0 (G.1 77)).length))), (4, .int (nI 1)), (5, .int (nI (c4 (sigM G.1 0 (G.1 77)) (sigM G.1 0 (G.1 77)).length))), (6, .int (nI ((sigM G.1 0 (G.1 77)).length)))] → W p l e rmHo s m args below meth c H locs (cells + 1 * n) (slots + 6 * n) Q (F0 m 101 ls [])) → W p l e rmHo s m args below meth c H locs cells slots Q (F0 m 66 ls []) := by
  have hx := F.1.1.1
  have hb9 := F.1.1.2.1
  have hts := F.1.1.2.2.2.2
  have cwR := va_cwS (rm := rmK 1 6) (R := rmHo) 5 hts gL_holds_L_call rfl rfl rfl (by decide +kernel) ⟨Nat.le_of_ble_eq_true rfl, Nat.le_of_ble_eq_true rfl⟩
  intro n
  induction n with
  | zero =>
    intro k hk H locs ls cells slots hO hS hl hf kk
    obtain rfl : k = (sigM G.1 0 (G.1 77)).length := by omega
    refine lv_iload hx hb9 dL_holds_66 (lv_at hl 6 rfl) ?_
    refine lv_iload_n hx hb9 dL_holds_68 rfl (lv_at hl 3 rfl) ?_
    refine lv_icmp_ge (tgt := 101) hx hb9 dL_holds_69 (by decide) (fun _ => ?_) (fun c9 => absurd ((Int32.le_refl _)) c9)
    exact kk H locs ls hO hS hl
  | succ n ih =>
    intro k hk9 H locs ls cells slots hO hS hl hf kk
    have h := hO.inv
    have h40 := h.hand.2
    have hk : k < (sigM G.1 0 (G.1 77)).length := by omega
    have hg := rI.le4 G.1 0 (G.1 77) k hk
    by_cases z4 : (sigM G.1 0 (G.1 77)).getD k 0 = 4
    · refine lv_iload hx hb9 dL_holds_66 (lv_at hl 6 rfl) ?_
      refine lv_iload_n hx hb9 dL_holds_68 rfl (lv_at hl 3 rfl) ?_
      refine lv_icmp_ge (tgt := 101) hx hb9 dL_holds_69 (by decide) (fun c9 => absurd c9 (nI_ge hk (by omega))) (fun _ => ?_)
      refine lv_iload hx hb9 dL_holds_72 (lv_at hl 5 rfl) ?_
      refine lv_aload_n hx hb9 dL_holds_74 rfl (lv_at hl 0 rfl) ?_
      refine lv_iconst (v := nI 2) hx hb9 dL_holds_75 (by decide) ?_
      refine lv_iload hx hb9 dL_holds_76 (lv_at hl 6 rfl) ?_
      refine lv_iconst (v := nI 0) hx hb9 dL_holds_78 (by decide) ?_
      refine lv_iconst (v := nI 0) hx hb9 dL_holds_79 (by decide) ?_
      refine gstepS (As := [.int (nI 2), .int (nI k), .int (nI 0), .int (nI 0)]) (rest := [.int (nI (c4 (sigM G.1 0 (G.1 77)) k))]) F ((kq2 l hst D cc a G (nI k) (nI 0) (nI 0)).v (v' := (nI ((sigM G.1 0 (G.1 77)).getD k 0))) (sg_at h hk)) cwR hO hS hl rfl rfl (Nat.le_of_ble_eq_true rfl) dL_holds_80 ⟨by omega, by omega⟩ (fun H locs hO hS => ?_)
      refine lv_iconst (v := nI 4) hx hb9 dL_holds_83 (by decide) ?_
      refine lv_icmp_ne (tgt := 91) hx hb9 dL_holds_84 (by decide) (fun c9 => absurd ((show nI ((sigM G.1 0 (G.1 77)).getD k 0) = nI 4 by rw [z4])) c9) (fun _ => ?_)
      refine lv_iconst (v := nI 1) hx hb9 dL_holds_87 (by decide) ?_
      refine lv_goto (tgt := 92) hx hb9 dL_holds_88 (by decide) ?_
      refine gr_iadd hx hb9 dL_holds_92 ?_
      refine lv_istore (lv' := [(5, .int (nI ((c4 (sigM G.1 0 (G.1 77)) k) + 1))), (0, .ref (a 0)), (1, .int (nI x)), (2, .int (nI (G.1 110))), (3, .int (nI ((sigM G.1 0 (G.1 77)).length))), (4, .int (nI 1)), (6, .int (nI k))]) hx hb9 dL_holds_93 hl (by decide) rfl (fun ls hl => ?_)
      refine lv_iinc (v := nI (k + 1)) (lv' := [(6, .int (nI (k + 1))), (5, .int (nI ((c4 (sigM G.1 0 (G.1 77)) k) + 1))), (0, .ref (a 0)), (1, .int (nI x)), (2, .int (nI (G.1 110))), (3, .int (nI ((sigM G.1 0 (G.1 77)).length))), (4, .int (nI 1))]) hx hb9 dL_holds_95 hl (k := 6) rfl (nI_add _ 1) (by decide) rfl (fun ls hl => ?_)
      refine lv_goto (tgt := 66) hx hb9 dL_holds_98 (by decide) ?_
      have hc : c4 (sigM G.1 0 (G.1 77)) (k + 1) = c4 (sigM G.1 0 (G.1 77)) k + 1 := by
        show c4 (sigM G.1 0 (G.1 77)) k + (if (sigM G.1 0 (G.1 77)).getD k 0 = 4 then 1 else 0) = _
        rw [if_pos z4]
      rw [← hc] at hl
      refine ih (k + 1) (by omega) H locs ls _ _ hO hS (lv_sub hl [2, 3, 4, 5, 6, 1, 0] rfl) ⟨by omega, by omega⟩ (fun H locs ls hO hS hl => ?_)
      refine W.widen (k := cells + 1 * (n + 1)) (n := slots + 6 * (n + 1)) (by omega) (by omega) ?_
      exact kk H locs ls hO hS hl
    · refine lv_iload hx hb9 dL_holds_66 (lv_at hl 6 rfl) ?_
      refine lv_iload_n hx hb9 dL_holds_68 rfl (lv_at hl 3 rfl) ?_
      refine lv_icmp_ge (tgt := 101) hx hb9 dL_holds_69 (by decide) (fun c9 => absurd c9 (nI_ge hk (by omega))) (fun _ => ?_)
      refine lv_iload hx hb9 dL_holds_72 (lv_at hl 5 rfl) ?_
      refine lv_aload_n hx hb9 dL_holds_74 rfl (lv_at hl 0 rfl) ?_
      refine lv_iconst (v := nI 2) hx hb9 dL_holds_75 (by decide) ?_
      refine lv_iload hx hb9 dL_holds_76 (lv_at hl 6 rfl) ?_
      refine lv_iconst (v := nI 0) hx hb9 dL_holds_78 (by decide) ?_
      refine lv_iconst (v := nI 0) hx hb9 dL_holds_79 (by decide) ?_
      refine gstepS (As := [.int (nI 2), .int (nI k), .int (nI 0), .int (nI 0)]) (rest := [.int (nI (c4 (sigM G.1 0 (G.1 77)) k))]) F ((kq2 l hst D cc a G (nI k) (nI 0) (nI 0)).v (v' := (nI ((sigM G.1 0 (G.1 77)).getD k 0))) (sg_at h hk)) cwR hO hS hl rfl rfl (Nat.le_of_ble_eq_true rfl) dL_holds_80 ⟨by omega, by omega⟩ (fun H locs hO hS => ?_)
      refine lv_iconst (v := nI 4) hx hb9 dL_holds_83 (by decide) ?_
      refine lv_icmp_ne (tgt := 91) hx hb9 dL_holds_84 (by decide) (fun _ => ?_) (fun c9 => absurd c9 (nI_no (by omega) (by omega) z4))
      refine lv_iconst (v := nI 0) hx hb9 dL_holds_91 (by decide) ?_
      refine gr_iadd hx hb9 dL_holds_92 ?_
      refine lv_istore (lv' := [(5, .int (nI ((c4 (sigM G.1 0 (G.1 77)) k) + 0))), (0, .ref (a 0)), (1, .int (nI x)), (2, .int (nI (G.1 110))), (3, .int (nI ((sigM G.1 0 (G.1 77)).length))), (4, .int (nI 1)), (6, .int (nI k))]) hx hb9 dL_holds_93 hl (by decide) rfl (fun ls hl => ?_)
      refine lv_iinc (v := nI (k + 1)) (lv' := [(6, .int (nI (k + 1))), (5, .int (nI ((c4 (sigM G.1 0 (G.1 77)) k) + 0))), (0, .ref (a 0)), (1, .int (nI x)), (2, .int (nI (G.1 110))), (3, .int (nI ((sigM G.1 0 (G.1 77)).length))), (4, .int (nI 1))]) hx hb9 dL_holds_95 hl (k := 6) rfl (nI_add _ 1) (by decide) rfl (fun ls hl => ?_)
      refine lv_goto (tgt := 66) hx hb9 dL_holds_98 (by decide) ?_
      have hc : c4 (sigM G.1 0 (G.1 77)) (k + 1) = c4 (sigM G.1 0 (G.1 77)) k + 0 := by
        show c4 (sigM G.1 0 (G.1 77)) k + (if (sigM G.1 0 (G.1 77)).getD k 0 = 4 then 1 else 0) = _
        rw [if_neg z4]
      rw [← hc] at hl
      refine ih (k + 1) (by omega) H locs ls _ _ hO hS (lv_sub hl [2, 3, 4, 5, 6, 1, 0] rfl) ⟨by omega, by omega⟩ (fun H locs ls hO hS hl => ?_)
      refine W.widen (k := cells + 1 * (n + 1)) (n := slots + 6 * (n + 1)) (by omega) (by omega) ?_
      exact kk H locs ls hO hS hl
theorem ho_b2 (hst : l.stackTraces = false) (F : gF p m c cL_holds 17 s args wsL_holds meth (some .boolean) D cc A)  (hO : HO D cc A a G Rw H) (hS : va_S A s.heap H locs) (hl : lv_has ls 17 [(0, .ref (a 0)), (1, .int (nI x)), (2, .int (nI (G.1 110))), (3, .int (nI ((sigM G.1 0 (G.1 77)).length))), (4, .int (nI 1)), (5, .int (nI (c4 (sigM G.1 0 (G.1 77)) (sigM G.1 0 (G.1 77)).length))), (6, .int (nI ((sigM G.1 0 (G.1 77)).length)))]) (hf : cells + 1 ≤ rmHo.cells ∧ slots + 6 ≤ rmHo.slots)
    (kk : ∀ (H : Heap) (locs : List Loc) (ls : Array Slot), HO D cc A a (G) Rw H → va_S A s.heap H locs → lv_has ls 17 [(0, .ref (a 0)), (1, .int (nI x)), (2, .int (nI (G.1 110))), (3, .int (nI ((sigM G.1 0 (G.1 77)).length))), (4, .int (nI 1)), (6, .int (nI (G.1 0)))] → W p l e rmHo s m args below meth c H locs (cells + 1) (slots + 6) Q (F0 m 141 ls [])) : W p l e rmHo s m args below meth c H locs cells slots Q (F0 m 101 ls []) := by
  have hx := F.1.1.1
  have hb9 := F.1.1.2.1
  have hts := F.1.1.2.2.2.2
  have h := hO.inv
  have h16 := h.h16
  have h40 := h.hand.2
  have h3 := h.hand.1.1.1
  have cwR := va_cwS (rm := rmK 1 6) (R := rmHo) 5 hts gL_holds_L_call rfl rfl rfl (by decide +kernel) ⟨Nat.le_of_ble_eq_true rfl, Nat.le_of_ble_eq_true rfl⟩
  by_cases z0 : G.1 0 = 0
  · refine lv_aload_n hx hb9 dL_holds_101 rfl (lv_at hl 0 rfl) ?_
    refine lv_iconst (v := nI 1) hx hb9 dL_holds_102 (by decide) ?_
    refine lv_iconst (v := nI 0) hx hb9 dL_holds_103 (by decide) ?_
    refine lv_iconst (v := nI 0) hx hb9 dL_holds_104 (by decide) ?_
    refine lv_iconst (v := nI 0) hx hb9 dL_holds_105 (by decide) ?_
    refine gstepS (As := [.int (nI 1), .int (nI 0), .int (nI 0), .int (nI 0)]) (rest := []) F ((kq1 l hst D cc a G (nI 0) (nI 0) (nI 0)).v (v' := (nI (G.1 0))) (ab0 _)) cwR hO hS hl rfl rfl (Nat.le_of_ble_eq_true rfl) dL_holds_106 ⟨by omega, by omega⟩ (fun H locs hO hS => ?_)
    refine lv_istore (lv' := [(6, .int (nI (G.1 0))), (0, .ref (a 0)), (1, .int (nI x)), (2, .int (nI (G.1 110))), (3, .int (nI ((sigM G.1 0 (G.1 77)).length))), (4, .int (nI 1)), (5, .int (nI (c4 (sigM G.1 0 (G.1 77)) (sigM G.1 0 (G.1 77)).length)))]) hx hb9 dL_holds_109 hl (by decide) rfl (fun ls hl => ?_)
    refine lv_iload hx hb9 dL_holds_111 (lv_at hl 5 rfl) ?_
    refine lv_if_eq (tgt := 138) hx hb9 dL_holds_113 (by decide) (fun c9 => absurd c9 (show ¬ nI 1 = 0 by decide)) (fun _ => ?_)
    refine lv_iload hx hb9 dL_holds_116 (lv_at hl 6 rfl) ?_
    refine lv_iload hx hb9 dL_holds_118 (lv_at hl 0 rfl) ?_
    refine lv_if_ne (tgt := 127) hx hb9 dL_holds_120 (by decide) (fun c9 => absurd ((show nI (G.1 0) = 0 by rw [z0]; rfl)) c9) (fun _ => ?_)
    refine lv_iconst (v := nI 0) hx hb9 dL_holds_123 (by decide) ?_
    refine lv_goto (tgt := 131) hx hb9 dL_holds_124 (by decide) ?_
    refine lv_icmp_ne (tgt := 138) hx hb9 dL_holds_131 (by decide) (fun c9 => absurd ((show nI (c4 (sigM G.1 0 (G.1 77)) (sigM G.1 0 (G.1 77)).length) = nI 0 by rw [sigM_c4, z0])) c9) (fun _ => ?_)
    refine lv_iconst (v := nI 1) hx hb9 dL_holds_134 (by decide) ?_
    refine lv_goto (tgt := 139) hx hb9 dL_holds_135 (by decide) ?_
    refine lv_istore (lv' := [(4, .int (nI 1)), (6, .int (nI (G.1 0))), (0, .ref (a 0)), (1, .int (nI x)), (2, .int (nI (G.1 110))), (3, .int (nI ((sigM G.1 0 (G.1 77)).length))), (5, .int (nI (c4 (sigM G.1 0 (G.1 77)) (sigM G.1 0 (G.1 77)).length)))]) hx hb9 dL_holds_139 hl (by decide) rfl (fun ls hl => ?_)
    refine W.widen (k := cells + 1) (n := slots + 6) (by omega) (by omega) ?_
    exact kk H locs ls hO hS (lv_sub hl [2, 3, 4, 5, 0, 1] rfl)
  · refine lv_aload_n hx hb9 dL_holds_101 rfl (lv_at hl 0 rfl) ?_
    refine lv_iconst (v := nI 1) hx hb9 dL_holds_102 (by decide) ?_
    refine lv_iconst (v := nI 0) hx hb9 dL_holds_103 (by decide) ?_
    refine lv_iconst (v := nI 0) hx hb9 dL_holds_104 (by decide) ?_
    refine lv_iconst (v := nI 0) hx hb9 dL_holds_105 (by decide) ?_
    refine gstepS (As := [.int (nI 1), .int (nI 0), .int (nI 0), .int (nI 0)]) (rest := []) F ((kq1 l hst D cc a G (nI 0) (nI 0) (nI 0)).v (v' := (nI (G.1 0))) (ab0 _)) cwR hO hS hl rfl rfl (Nat.le_of_ble_eq_true rfl) dL_holds_106 ⟨by omega, by omega⟩ (fun H locs hO hS => ?_)
    refine lv_istore (lv' := [(6, .int (nI (G.1 0))), (0, .ref (a 0)), (1, .int (nI x)), (2, .int (nI (G.1 110))), (3, .int (nI ((sigM G.1 0 (G.1 77)).length))), (4, .int (nI 1)), (5, .int (nI (c4 (sigM G.1 0 (G.1 77)) (sigM G.1 0 (G.1 77)).length)))]) hx hb9 dL_holds_109 hl (by decide) rfl (fun ls hl => ?_)
    refine lv_iload hx hb9 dL_holds_111 (lv_at hl 5 rfl) ?_
    refine lv_if_eq (tgt := 138) hx hb9 dL_holds_113 (by decide) (fun c9 => absurd c9 (show ¬ nI 1 = 0 by decide)) (fun _ => ?_)
    refine lv_iload hx hb9 dL_holds_116 (lv_at hl 6 rfl) ?_
    refine lv_iload hx hb9 dL_holds_118 (lv_at hl 0 rfl) ?_
    refine lv_if_ne (tgt := 127) hx hb9 dL_holds_120 (by decide) (fun _ => ?_) (fun c9 => absurd c9 (nI_ne0 (by omega) (by omega)))
    refine lv_iload hx hb9 dL_holds_127 (lv_at hl 0 rfl) ?_
    refine lv_iconst (v := nI 1) hx hb9 dL_holds_129 (by decide) ?_
    refine gr_isub hx hb9 dL_holds_130 (by omega) ?_
    refine lv_icmp_ne (tgt := 138) hx hb9 dL_holds_131 (by decide) (fun c9 => absurd ((show nI (c4 (sigM G.1 0 (G.1 77)) (sigM G.1 0 (G.1 77)).length) = nI (G.1 0 - 1) by rw [sigM_c4])) c9) (fun _ => ?_)
    refine lv_iconst (v := nI 1) hx hb9 dL_holds_134 (by decide) ?_
    refine lv_goto (tgt := 139) hx hb9 dL_holds_135 (by decide) ?_
    refine lv_istore (lv' := [(4, .int (nI 1)), (6, .int (nI (G.1 0))), (0, .ref (a 0)), (1, .int (nI x)), (2, .int (nI (G.1 110))), (3, .int (nI ((sigM G.1 0 (G.1 77)).length))), (5, .int (nI (c4 (sigM G.1 0 (G.1 77)) (sigM G.1 0 (G.1 77)).length)))]) hx hb9 dL_holds_139 hl (by decide) rfl (fun ls hl => ?_)
    refine W.widen (k := cells + 1) (n := slots + 6) (by omega) (by omega) ?_
    exact kk H locs ls hO hS (lv_sub hl [2, 3, 4, 5, 0, 1] rfl)
theorem ho_b3 (hst : l.stackTraces = false) (F : gF p m c cL_holds 17 s args wsL_holds meth (some .boolean) D cc A)  (hO : HO D cc A a G Rw H) (hS : va_S A s.heap H locs) (hl : lv_has ls 17 [(0, .ref (a 0)), (1, .int (nI x)), (2, .int (nI (G.1 110))), (3, .int (nI ((sigM G.1 0 (G.1 77)).length))), (4, .int (nI 1)), (6, .int (nI (G.1 0)))]) (hf : cells + 8 ≤ rmHo.cells ∧ slots + 48 ≤ rmHo.slots)
    (kk : ∀ (H : Heap) (locs : List Loc) (ls : Array Slot), HO D cc A a (G) Rw H → va_S A s.heap H locs → lv_has ls 17 [(0, .ref (a 0)), (1, .int (nI x)), (2, .int (nI (G.1 110))), (3, .int (nI ((sigM G.1 0 (G.1 77)).length))), (4, .int (nI 1)), (6, .int (nI (G.1 0))), (7, .int (nI (hhow G.1 0 99))), (8, .int (byI (hnr G.1 0 99))), (9, .int (oneI (hnr G.1 0 99)))] → W p l e rmHo s m args below meth c H locs (cells + 8) (slots + 48) Q (F0 m 322 ls [])) : W p l e rmHo s m args below meth c H locs cells slots Q (F0 m 141 ls []) := by
  have hx := F.1.1.1
  have hb9 := F.1.1.2.1
  have hts := F.1.1.2.2.2.2
  have h := hO.inv
  have h16 := h.h16
  have h40 := h.hand.2
  have h3 := h.hand.1.1.1
  have cwR := va_cwS (rm := rmK 1 6) (R := rmHo) 5 hts gL_holds_L_call rfl rfl rfl (by decide +kernel) ⟨Nat.le_of_ble_eq_true rfl, Nat.le_of_ble_eq_true rfl⟩
  rcases near_cases h with ⟨n0, en, eh⟩ | ⟨b, hb, en, eg, eh, hle⟩
  · refine lv_aload_n hx hb9 dL_holds_141 rfl (lv_at hl 0 rfl) ?_
    refine lv_bipush (v := nI 14) hx hb9 dL_holds_142 (by decide) ?_
    refine lv_iconst (v := nI 0) hx hb9 dL_holds_144 (by decide) ?_
    refine lv_iconst (v := nI 0) hx hb9 dL_holds_145 (by decide) ?_
    refine lv_iconst (v := nI 0) hx hb9 dL_holds_146 (by decide) ?_
    refine gstepS (As := [.int (nI 14), .int (nI 0), .int (nI 0), .int (nI 0)]) (rest := []) F ((kq14 l hst D cc a G (nI 0) (nI 0) (nI 0)).v (v' := (nI (hhow G.1 0 99))) (rd0 _)) cwR hO hS hl rfl rfl (Nat.le_of_ble_eq_true rfl) dL_holds_147 ⟨by omega, by omega⟩ (fun H locs hO hS => ?_)
    refine lv_istore (lv' := [(7, .int (nI (hhow G.1 0 99))), (0, .ref (a 0)), (1, .int (nI x)), (2, .int (nI (G.1 110))), (3, .int (nI ((sigM G.1 0 (G.1 77)).length))), (4, .int (nI 1)), (6, .int (nI (G.1 0)))]) hx hb9 dL_holds_150 hl (by decide) rfl (fun ls hl => ?_)
    refine lv_aload_n hx hb9 dL_holds_152 rfl (lv_at hl 1 rfl) ?_
    refine lv_bipush (v := nI 14) hx hb9 dL_holds_153 (by decide) ?_
    refine lv_iconst (v := nI 2) hx hb9 dL_holds_155 (by decide) ?_
    refine lv_iconst (v := nI 0) hx hb9 dL_holds_156 (by decide) ?_
    refine lv_iconst (v := nI 0) hx hb9 dL_holds_157 (by decide) ?_
    refine gstepS (As := [.int (nI 14), .int (nI 2), .int (nI 0), .int (nI 0)]) (rest := []) F ((kq14 l hst D cc a G (nI 2) (nI 0) (nI 0)).v (v' := (byI (hnr G.1 0 99))) (rd2 _)) cwR hO hS hl rfl rfl (Nat.le_of_ble_eq_true rfl) dL_holds_158 ⟨by omega, by omega⟩ (fun H locs hO hS => ?_)
    refine lv_istore (lv' := [(8, .int (byI (hnr G.1 0 99))), (7, .int (nI (hhow G.1 0 99))), (0, .ref (a 0)), (1, .int (nI x)), (2, .int (nI (G.1 110))), (3, .int (nI ((sigM G.1 0 (G.1 77)).length))), (4, .int (nI 1)), (6, .int (nI (G.1 0)))]) hx hb9 dL_holds_161 hl (by decide) rfl (fun ls hl => ?_)
    refine lv_aload_n hx hb9 dL_holds_163 rfl (lv_at hl 2 rfl) ?_
    refine lv_bipush (v := nI 14) hx hb9 dL_holds_164 (by decide) ?_
    refine lv_iconst (v := nI 3) hx hb9 dL_holds_166 (by decide) ?_
    refine lv_iconst (v := nI 0) hx hb9 dL_holds_167 (by decide) ?_
    refine lv_iconst (v := nI 0) hx hb9 dL_holds_168 (by decide) ?_
    refine gstepS (As := [.int (nI 14), .int (nI 3), .int (nI 0), .int (nI 0)]) (rest := []) F ((kq14 l hst D cc a G (nI 3) (nI 0) (nI 0)).v (v' := (oneI (hnr G.1 0 99))) (rd3 _)) cwR hO hS hl rfl rfl (Nat.le_of_ble_eq_true rfl) dL_holds_169 ⟨by omega, by omega⟩ (fun H locs hO hS => ?_)
    refine lv_istore (lv' := [(9, .int (oneI (hnr G.1 0 99))), (8, .int (byI (hnr G.1 0 99))), (7, .int (nI (hhow G.1 0 99))), (0, .ref (a 0)), (1, .int (nI x)), (2, .int (nI (G.1 110))), (3, .int (nI ((sigM G.1 0 (G.1 77)).length))), (4, .int (nI 1)), (6, .int (nI (G.1 0)))]) hx hb9 dL_holds_172 hl (by decide) rfl (fun ls hl => ?_)
    refine lv_iload hx hb9 dL_holds_174 (lv_at hl 7 rfl) ?_
    refine lv_if_eq (tgt := 319) hx hb9 dL_holds_176 (by decide) (fun c9 => absurd c9 (show ¬ nI 1 = 0 by decide)) (fun _ => ?_)
    refine lv_iload_n hx hb9 dL_holds_179 rfl (lv_at hl 5 rfl) ?_
    refine lv_if_ne (tgt := 204) hx hb9 dL_holds_180 (by decide) (fun c9 => absurd ((show nI (G.1 110) = 0 by rw [n0]; rfl)) c9) (fun _ => ?_)
    refine lv_iload hx hb9 dL_holds_183 (lv_at hl 2 rfl) ?_
    refine lv_iconst (v := nI 2) hx hb9 dL_holds_185 (by decide) ?_
    refine lv_icmp_ne (tgt := 319) hx hb9 dL_holds_186 (by decide) (fun c9 => absurd ((show nI (hhow G.1 0 99) = nI 2 by rw [eh])) c9) (fun _ => ?_)
    refine lv_iload hx hb9 dL_holds_189 (lv_at hl 1 rfl) ?_
    refine lv_iconst (v := (-1 : Int32)) hx hb9 dL_holds_191 (by decide) ?_
    refine lv_icmp_ne (tgt := 319) hx hb9 dL_holds_192 (by decide) (fun c9 => absurd ((show byI (hnr G.1 0 99) = -1 by rw [en]; rfl)) c9) (fun _ => ?_)
    refine lv_iload hx hb9 dL_holds_195 (lv_at hl 0 rfl) ?_
    refine lv_iconst (v := (-1 : Int32)) hx hb9 dL_holds_197 (by decide) ?_
    refine lv_icmp_ne (tgt := 319) hx hb9 dL_holds_198 (by decide) (fun c9 => absurd ((show oneI (hnr G.1 0 99) = -1 by rw [en]; rfl)) c9) (fun _ => ?_)
    refine lv_goto (tgt := 315) hx hb9 dL_holds_201 (by decide) ?_
    refine lv_iconst (v := nI 1) hx hb9 dL_holds_315 (by decide) ?_
    refine lv_goto (tgt := 320) hx hb9 dL_holds_316 (by decide) ?_
    refine lv_istore (lv' := [(4, .int (nI 1)), (9, .int (oneI (hnr G.1 0 99))), (8, .int (byI (hnr G.1 0 99))), (7, .int (nI (hhow G.1 0 99))), (0, .ref (a 0)), (1, .int (nI x)), (2, .int (nI (G.1 110))), (3, .int (nI ((sigM G.1 0 (G.1 77)).length))), (6, .int (nI (G.1 0)))]) hx hb9 dL_holds_320 hl (by decide) rfl (fun ls hl => ?_)
    refine W.widen (k := cells + 8) (n := slots + 48) (by omega) (by omega) ?_
    exact kk H locs ls hO hS (lv_sub hl [4, 5, 6, 7, 0, 8, 3, 2, 1] rfl)
  · have hdt := dt_le h hb
    have hl78 := h.2.2.1
    rcases (by omega : hhow G.1 0 99 = 0 ∨ hhow G.1 0 99 = 1 ∨ hhow G.1 0 99 = 2) with e2 | e2 | e2
    · refine lv_aload_n hx hb9 dL_holds_141 rfl (lv_at hl 0 rfl) ?_
      refine lv_bipush (v := nI 14) hx hb9 dL_holds_142 (by decide) ?_
      refine lv_iconst (v := nI 0) hx hb9 dL_holds_144 (by decide) ?_
      refine lv_iconst (v := nI 0) hx hb9 dL_holds_145 (by decide) ?_
      refine lv_iconst (v := nI 0) hx hb9 dL_holds_146 (by decide) ?_
      refine gstepS (As := [.int (nI 14), .int (nI 0), .int (nI 0), .int (nI 0)]) (rest := []) F ((kq14 l hst D cc a G (nI 0) (nI 0) (nI 0)).v (v' := (nI (hhow G.1 0 99))) (rd0 _)) cwR hO hS hl rfl rfl (Nat.le_of_ble_eq_true rfl) dL_holds_147 ⟨by omega, by omega⟩ (fun H locs hO hS => ?_)
      refine lv_istore (lv' := [(7, .int (nI (hhow G.1 0 99))), (0, .ref (a 0)), (1, .int (nI x)), (2, .int (nI (G.1 110))), (3, .int (nI ((sigM G.1 0 (G.1 77)).length))), (4, .int (nI 1)), (6, .int (nI (G.1 0)))]) hx hb9 dL_holds_150 hl (by decide) rfl (fun ls hl => ?_)
      refine lv_aload_n hx hb9 dL_holds_152 rfl (lv_at hl 1 rfl) ?_
      refine lv_bipush (v := nI 14) hx hb9 dL_holds_153 (by decide) ?_
      refine lv_iconst (v := nI 2) hx hb9 dL_holds_155 (by decide) ?_
      refine lv_iconst (v := nI 0) hx hb9 dL_holds_156 (by decide) ?_
      refine lv_iconst (v := nI 0) hx hb9 dL_holds_157 (by decide) ?_
      refine gstepS (As := [.int (nI 14), .int (nI 2), .int (nI 0), .int (nI 0)]) (rest := []) F ((kq14 l hst D cc a G (nI 2) (nI 0) (nI 0)).v (v' := (nI (dtM G.1 G.1 0 (G.1 77) b))) (by rw [rd2, en]; rfl)) cwR hO hS hl rfl rfl (Nat.le_of_ble_eq_true rfl) dL_holds_158 ⟨by omega, by omega⟩ (fun H locs hO hS => ?_)
      refine lv_istore (lv' := [(8, .int (nI (dtM G.1 G.1 0 (G.1 77) b))), (7, .int (nI (hhow G.1 0 99))), (0, .ref (a 0)), (1, .int (nI x)), (2, .int (nI (G.1 110))), (3, .int (nI ((sigM G.1 0 (G.1 77)).length))), (4, .int (nI 1)), (6, .int (nI (G.1 0)))]) hx hb9 dL_holds_161 hl (by decide) rfl (fun ls hl => ?_)
      refine lv_aload_n hx hb9 dL_holds_163 rfl (lv_at hl 2 rfl) ?_
      refine lv_bipush (v := nI 14) hx hb9 dL_holds_164 (by decide) ?_
      refine lv_iconst (v := nI 3) hx hb9 dL_holds_166 (by decide) ?_
      refine lv_iconst (v := nI 0) hx hb9 dL_holds_167 (by decide) ?_
      refine lv_iconst (v := nI 0) hx hb9 dL_holds_168 (by decide) ?_
      refine gstepS (As := [.int (nI 14), .int (nI 3), .int (nI 0), .int (nI 0)]) (rest := []) F ((kq14 l hst D cc a G (nI 3) (nI 0) (nI 0)).v (v' := (nI b)) (by rw [rd3, en]; rfl)) cwR hO hS hl rfl rfl (Nat.le_of_ble_eq_true rfl) dL_holds_169 ⟨by omega, by omega⟩ (fun H locs hO hS => ?_)
      refine lv_istore (lv' := [(9, .int (nI b)), (8, .int (nI (dtM G.1 G.1 0 (G.1 77) b))), (7, .int (nI (hhow G.1 0 99))), (0, .ref (a 0)), (1, .int (nI x)), (2, .int (nI (G.1 110))), (3, .int (nI ((sigM G.1 0 (G.1 77)).length))), (4, .int (nI 1)), (6, .int (nI (G.1 0)))]) hx hb9 dL_holds_172 hl (by decide) rfl (fun ls hl => ?_)
      refine lv_iload hx hb9 dL_holds_174 (lv_at hl 7 rfl) ?_
      refine lv_if_eq (tgt := 319) hx hb9 dL_holds_176 (by decide) (fun c9 => absurd c9 (show ¬ nI 1 = 0 by decide)) (fun _ => ?_)
      refine lv_iload_n hx hb9 dL_holds_179 rfl (lv_at hl 5 rfl) ?_
      refine lv_if_ne (tgt := 204) hx hb9 dL_holds_180 (by decide) (fun _ => ?_) (fun c9 => absurd c9 (nI_ne0 (by omega) (by omega)))
      refine lv_aload_n hx hb9 dL_holds_204 rfl (lv_at hl 3 rfl) ?_
      refine lv_bipush (v := nI 15) hx hb9 dL_holds_205 (by decide) ?_
      refine lv_iconst (v := nI 0) hx hb9 dL_holds_207 (by decide) ?_
      refine lv_iconst (v := nI 0) hx hb9 dL_holds_208 (by decide) ?_
      refine lv_iconst (v := nI 0) hx hb9 dL_holds_209 (by decide) ?_
      refine gstepS (As := [.int (nI 15), .int (nI 0), .int (nI 0), .int (nI 0)]) (rest := []) F ((kq15 l hst D cc a G (nI 0) (nI 0) (nI 0)).v (v' := (nI (1000 * b + dtM G.1 G.1 0 (G.1 77) b))) ((ne0 h (by omega)).trans eg)) cwR hO hS hl rfl rfl (Nat.le_of_ble_eq_true rfl) dL_holds_210 ⟨by omega, by omega⟩ (fun H locs hO hS => ?_)
      refine lv_sipush (v := nI 1000) hx hb9 dL_holds_213 (by decide) ?_
      refine lv_iload hx hb9 dL_holds_216 (lv_at hl 0 rfl) ?_
      refine gr_imul hx hb9 dL_holds_218 ?_
      refine lv_iload hx hb9 dL_holds_219 (lv_at hl 1 rfl) ?_
      refine gr_iadd hx hb9 dL_holds_221 ?_
      refine lv_icmp_ne (tgt := 319) hx hb9 dL_holds_222 (by decide) (fun c9 => absurd ((rfl : (_ : Int32) = _)) c9) (fun _ => ?_)
      refine lv_iload hx hb9 dL_holds_225 (lv_at hl 2 rfl) ?_
      refine lv_iconst (v := nI 2) hx hb9 dL_holds_227 (by decide) ?_
      refine lv_icmp_ne (tgt := 235) hx hb9 dL_holds_228 (by decide) (fun _ => ?_) (fun c9 => absurd c9 (show ¬ nI (hhow G.1 0 99) = nI 2 by rw [e2]; decide))
      refine lv_iconst (v := nI 0) hx hb9 dL_holds_235 (by decide) ?_
      refine lv_iload hx hb9 dL_holds_236 (lv_at hl 1 rfl) ?_
      refine lv_aload_n hx hb9 dL_holds_238 rfl (lv_at hl 3 rfl) ?_
      refine lv_bipush (v := nI 6) hx hb9 dL_holds_239 (by decide) ?_
      refine lv_iconst (v := nI 1) hx hb9 dL_holds_241 (by decide) ?_
      refine lv_iconst (v := nI 0) hx hb9 dL_holds_242 (by decide) ?_
      refine lv_iconst (v := nI 0) hx hb9 dL_holds_243 (by decide) ?_
      refine gstepS (As := [.int (nI 6), .int (nI 1), .int (nI 0), .int (nI 0)]) (rest := [.int (nI (dtM G.1 G.1 0 (G.1 77) b)), .int (nI 0)]) F ((kq6 l hst D cc a G (nI 1) (nI 0) (nI 0)).v (v' := (nI (G.1 78))) (se1 _)) cwR hO hS hl rfl rfl (Nat.le_of_ble_eq_true rfl) dL_holds_244 ⟨by omega, by omega⟩ (fun H locs hO hS => ?_)
      refine lv_icmp_le (tgt := 254) hx hb9 dL_holds_247 (by decide) (fun _ => ?_) (fun c9 => absurd ((nI_le (Nat.not_lt.mp (fun z => absurd (eh.mpr z) (by omega))) (by omega))) c9)
      refine lv_iconst (v := nI 0) hx hb9 dL_holds_254 (by decide) ?_
      refine lv_icmp_ne (tgt := 319) hx hb9 dL_holds_255 (by decide) (fun c9 => absurd ((rfl : (_ : Int32) = _)) c9) (fun _ => ?_)
      refine lv_iload hx hb9 dL_holds_258 (lv_at hl 2 rfl) ?_
      refine lv_if_ne (tgt := 267) hx hb9 dL_holds_260 (by decide) (fun c9 => absurd ((show nI (hhow G.1 0 99) = 0 by rw [e2]; rfl)) c9) (fun _ => ?_)
      refine lv_iconst (v := nI 1) hx hb9 dL_holds_263 (by decide) ?_
      refine lv_goto (tgt := 268) hx hb9 dL_holds_264 (by decide) ?_
      refine lv_aload_n hx hb9 dL_holds_268 rfl (lv_at hl 3 rfl) ?_
      refine lv_bipush (v := nI 14) hx hb9 dL_holds_269 (by decide) ?_
      refine lv_iconst (v := nI 1) hx hb9 dL_holds_271 (by decide) ?_
      refine lv_iconst (v := nI 0) hx hb9 dL_holds_272 (by decide) ?_
      refine lv_iconst (v := nI 0) hx hb9 dL_holds_273 (by decide) ?_
      refine gstepS (As := [.int (nI 14), .int (nI 1), .int (nI 0), .int (nI 0)]) (rest := [.int (nI 1)]) F ((kq14 l hst D cc a G (nI 1) (nI 0) (nI 0)).v (v' := (nI (G.1 (atM b + 76)))) (by rw [rd1]; unfold hname; rw [if_pos e2, en]; rfl)) cwR hO hS hl rfl rfl (Nat.le_of_ble_eq_true rfl) dL_holds_274 ⟨by omega, by omega⟩ (fun H locs hO hS => ?_)
      refine lv_iconst (v := (-1 : Int32)) hx hb9 dL_holds_277 (by decide) ?_
      refine lv_icmp_eq (tgt := 285) hx hb9 dL_holds_278 (by decide) (fun c9 => absurd c9 (nI_m1 (by have := h.nm hb; omega))) (fun _ => ?_)
      refine lv_iconst (v := nI 1) hx hb9 dL_holds_281 (by decide) ?_
      refine lv_goto (tgt := 286) hx hb9 dL_holds_282 (by decide) ?_
      refine lv_icmp_ne (tgt := 319) hx hb9 dL_holds_286 (by decide) (fun c9 => absurd ((rfl : (_ : Int32) = _)) c9) (fun _ => ?_)
      refine lv_iload hx hb9 dL_holds_289 (lv_at hl 2 rfl) ?_
      refine lv_if_gt (tgt := 315) hx hb9 dL_holds_291 (by decide) (fun c9 => absurd c9 (show ¬ (0 : Int32) < nI (hhow G.1 0 99) by rw [e2]; decide)) (fun _ => ?_)
      refine lv_aload_n hx hb9 dL_holds_294 rfl (lv_at hl 3 rfl) ?_
      refine lv_bipush (v := nI 14) hx hb9 dL_holds_295 (by decide) ?_
      refine lv_iconst (v := nI 1) hx hb9 dL_holds_297 (by decide) ?_
      refine lv_iconst (v := nI 0) hx hb9 dL_holds_298 (by decide) ?_
      refine lv_iconst (v := nI 0) hx hb9 dL_holds_299 (by decide) ?_
      refine gstepS (As := [.int (nI 14), .int (nI 1), .int (nI 0), .int (nI 0)]) (rest := []) F ((kq14 l hst D cc a G (nI 1) (nI 0) (nI 0)).v (v' := (nI (G.1 (atM b + 76)))) (by rw [rd1]; unfold hname; rw [if_pos e2, en]; rfl)) cwR hO hS hl rfl rfl (Nat.le_of_ble_eq_true rfl) dL_holds_300 ⟨by omega, by omega⟩ (fun H locs hO hS => ?_)
      refine lv_aload_n hx hb9 dL_holds_303 rfl (lv_at hl 3 rfl) ?_
      refine lv_iconst (v := nI 3) hx hb9 dL_holds_304 (by decide) ?_
      refine lv_iload hx hb9 dL_holds_305 (lv_at hl 0 rfl) ?_
      refine lv_iconst (v := nI 0) hx hb9 dL_holds_307 (by decide) ?_
      refine lv_iconst (v := nI 0) hx hb9 dL_holds_308 (by decide) ?_
      refine gstepS (As := [.int (nI 3), .int (nI b), .int (nI 0), .int (nI 0)]) (rest := [.int (nI (G.1 (atM b + 76)))]) F ((kq3 l hst D cc a G (nI b) (nI 0) (nI 0)).v (v' := (nI (G.1 (atM b + 76)))) (sa0 h16 hb)) cwR hO hS hl rfl rfl (Nat.le_of_ble_eq_true rfl) dL_holds_309 ⟨by omega, by omega⟩ (fun H locs hO hS => ?_)
      refine lv_icmp_ne (tgt := 319) hx hb9 dL_holds_312 (by decide) (fun c9 => absurd ((rfl : (_ : Int32) = _)) c9) (fun _ => ?_)
      refine lv_iconst (v := nI 1) hx hb9 dL_holds_315 (by decide) ?_
      refine lv_goto (tgt := 320) hx hb9 dL_holds_316 (by decide) ?_
      refine lv_istore (lv' := [(4, .int (nI 1)), (9, .int (nI b)), (8, .int (nI (dtM G.1 G.1 0 (G.1 77) b))), (7, .int (nI (hhow G.1 0 99))), (0, .ref (a 0)), (1, .int (nI x)), (2, .int (nI (G.1 110))), (3, .int (nI ((sigM G.1 0 (G.1 77)).length))), (6, .int (nI (G.1 0)))]) hx hb9 dL_holds_320 hl (by decide) rfl (fun ls hl => ?_)
      refine W.widen (k := cells + 8) (n := slots + 48) (by omega) (by omega) ?_
      exact kk H locs ls hO hS (by rw [en]; exact lv_sub hl [4, 5, 6, 7, 0, 8, 3, 2, 1] rfl)
    · refine lv_aload_n hx hb9 dL_holds_141 rfl (lv_at hl 0 rfl) ?_
      refine lv_bipush (v := nI 14) hx hb9 dL_holds_142 (by decide) ?_
      refine lv_iconst (v := nI 0) hx hb9 dL_holds_144 (by decide) ?_
      refine lv_iconst (v := nI 0) hx hb9 dL_holds_145 (by decide) ?_
      refine lv_iconst (v := nI 0) hx hb9 dL_holds_146 (by decide) ?_
      refine gstepS (As := [.int (nI 14), .int (nI 0), .int (nI 0), .int (nI 0)]) (rest := []) F ((kq14 l hst D cc a G (nI 0) (nI 0) (nI 0)).v (v' := (nI (hhow G.1 0 99))) (rd0 _)) cwR hO hS hl rfl rfl (Nat.le_of_ble_eq_true rfl) dL_holds_147 ⟨by omega, by omega⟩ (fun H locs hO hS => ?_)
      refine lv_istore (lv' := [(7, .int (nI (hhow G.1 0 99))), (0, .ref (a 0)), (1, .int (nI x)), (2, .int (nI (G.1 110))), (3, .int (nI ((sigM G.1 0 (G.1 77)).length))), (4, .int (nI 1)), (6, .int (nI (G.1 0)))]) hx hb9 dL_holds_150 hl (by decide) rfl (fun ls hl => ?_)
      refine lv_aload_n hx hb9 dL_holds_152 rfl (lv_at hl 1 rfl) ?_
      refine lv_bipush (v := nI 14) hx hb9 dL_holds_153 (by decide) ?_
      refine lv_iconst (v := nI 2) hx hb9 dL_holds_155 (by decide) ?_
      refine lv_iconst (v := nI 0) hx hb9 dL_holds_156 (by decide) ?_
      refine lv_iconst (v := nI 0) hx hb9 dL_holds_157 (by decide) ?_
      refine gstepS (As := [.int (nI 14), .int (nI 2), .int (nI 0), .int (nI 0)]) (rest := []) F ((kq14 l hst D cc a G (nI 2) (nI 0) (nI 0)).v (v' := (nI (dtM G.1 G.1 0 (G.1 77) b))) (by rw [rd2, en]; rfl)) cwR hO hS hl rfl rfl (Nat.le_of_ble_eq_true rfl) dL_holds_158 ⟨by omega, by omega⟩ (fun H locs hO hS => ?_)
      refine lv_istore (lv' := [(8, .int (nI (dtM G.1 G.1 0 (G.1 77) b))), (7, .int (nI (hhow G.1 0 99))), (0, .ref (a 0)), (1, .int (nI x)), (2, .int (nI (G.1 110))), (3, .int (nI ((sigM G.1 0 (G.1 77)).length))), (4, .int (nI 1)), (6, .int (nI (G.1 0)))]) hx hb9 dL_holds_161 hl (by decide) rfl (fun ls hl => ?_)
      refine lv_aload_n hx hb9 dL_holds_163 rfl (lv_at hl 2 rfl) ?_
      refine lv_bipush (v := nI 14) hx hb9 dL_holds_164 (by decide) ?_
      refine lv_iconst (v := nI 3) hx hb9 dL_holds_166 (by decide) ?_
      refine lv_iconst (v := nI 0) hx hb9 dL_holds_167 (by decide) ?_
      refine lv_iconst (v := nI 0) hx hb9 dL_holds_168 (by decide) ?_
      refine gstepS (As := [.int (nI 14), .int (nI 3), .int (nI 0), .int (nI 0)]) (rest := []) F ((kq14 l hst D cc a G (nI 3) (nI 0) (nI 0)).v (v' := (nI b)) (by rw [rd3, en]; rfl)) cwR hO hS hl rfl rfl (Nat.le_of_ble_eq_true rfl) dL_holds_169 ⟨by omega, by omega⟩ (fun H locs hO hS => ?_)
      refine lv_istore (lv' := [(9, .int (nI b)), (8, .int (nI (dtM G.1 G.1 0 (G.1 77) b))), (7, .int (nI (hhow G.1 0 99))), (0, .ref (a 0)), (1, .int (nI x)), (2, .int (nI (G.1 110))), (3, .int (nI ((sigM G.1 0 (G.1 77)).length))), (4, .int (nI 1)), (6, .int (nI (G.1 0)))]) hx hb9 dL_holds_172 hl (by decide) rfl (fun ls hl => ?_)
      refine lv_iload hx hb9 dL_holds_174 (lv_at hl 7 rfl) ?_
      refine lv_if_eq (tgt := 319) hx hb9 dL_holds_176 (by decide) (fun c9 => absurd c9 (show ¬ nI 1 = 0 by decide)) (fun _ => ?_)
      refine lv_iload_n hx hb9 dL_holds_179 rfl (lv_at hl 5 rfl) ?_
      refine lv_if_ne (tgt := 204) hx hb9 dL_holds_180 (by decide) (fun _ => ?_) (fun c9 => absurd c9 (nI_ne0 (by omega) (by omega)))
      refine lv_aload_n hx hb9 dL_holds_204 rfl (lv_at hl 3 rfl) ?_
      refine lv_bipush (v := nI 15) hx hb9 dL_holds_205 (by decide) ?_
      refine lv_iconst (v := nI 0) hx hb9 dL_holds_207 (by decide) ?_
      refine lv_iconst (v := nI 0) hx hb9 dL_holds_208 (by decide) ?_
      refine lv_iconst (v := nI 0) hx hb9 dL_holds_209 (by decide) ?_
      refine gstepS (As := [.int (nI 15), .int (nI 0), .int (nI 0), .int (nI 0)]) (rest := []) F ((kq15 l hst D cc a G (nI 0) (nI 0) (nI 0)).v (v' := (nI (1000 * b + dtM G.1 G.1 0 (G.1 77) b))) ((ne0 h (by omega)).trans eg)) cwR hO hS hl rfl rfl (Nat.le_of_ble_eq_true rfl) dL_holds_210 ⟨by omega, by omega⟩ (fun H locs hO hS => ?_)
      refine lv_sipush (v := nI 1000) hx hb9 dL_holds_213 (by decide) ?_
      refine lv_iload hx hb9 dL_holds_216 (lv_at hl 0 rfl) ?_
      refine gr_imul hx hb9 dL_holds_218 ?_
      refine lv_iload hx hb9 dL_holds_219 (lv_at hl 1 rfl) ?_
      refine gr_iadd hx hb9 dL_holds_221 ?_
      refine lv_icmp_ne (tgt := 319) hx hb9 dL_holds_222 (by decide) (fun c9 => absurd ((rfl : (_ : Int32) = _)) c9) (fun _ => ?_)
      refine lv_iload hx hb9 dL_holds_225 (lv_at hl 2 rfl) ?_
      refine lv_iconst (v := nI 2) hx hb9 dL_holds_227 (by decide) ?_
      refine lv_icmp_ne (tgt := 235) hx hb9 dL_holds_228 (by decide) (fun _ => ?_) (fun c9 => absurd c9 (show ¬ nI (hhow G.1 0 99) = nI 2 by rw [e2]; decide))
      refine lv_iconst (v := nI 0) hx hb9 dL_holds_235 (by decide) ?_
      refine lv_iload hx hb9 dL_holds_236 (lv_at hl 1 rfl) ?_
      refine lv_aload_n hx hb9 dL_holds_238 rfl (lv_at hl 3 rfl) ?_
      refine lv_bipush (v := nI 6) hx hb9 dL_holds_239 (by decide) ?_
      refine lv_iconst (v := nI 1) hx hb9 dL_holds_241 (by decide) ?_
      refine lv_iconst (v := nI 0) hx hb9 dL_holds_242 (by decide) ?_
      refine lv_iconst (v := nI 0) hx hb9 dL_holds_243 (by decide) ?_
      refine gstepS (As := [.int (nI 6), .int (nI 1), .int (nI 0), .int (nI 0)]) (rest := [.int (nI (dtM G.1 G.1 0 (G.1 77) b)), .int (nI 0)]) F ((kq6 l hst D cc a G (nI 1) (nI 0) (nI 0)).v (v' := (nI (G.1 78))) (se1 _)) cwR hO hS hl rfl rfl (Nat.le_of_ble_eq_true rfl) dL_holds_244 ⟨by omega, by omega⟩ (fun H locs hO hS => ?_)
      refine lv_icmp_le (tgt := 254) hx hb9 dL_holds_247 (by decide) (fun _ => ?_) (fun c9 => absurd ((nI_le (Nat.not_lt.mp (fun z => absurd (eh.mpr z) (by omega))) (by omega))) c9)
      refine lv_iconst (v := nI 0) hx hb9 dL_holds_254 (by decide) ?_
      refine lv_icmp_ne (tgt := 319) hx hb9 dL_holds_255 (by decide) (fun c9 => absurd ((rfl : (_ : Int32) = _)) c9) (fun _ => ?_)
      refine lv_iload hx hb9 dL_holds_258 (lv_at hl 2 rfl) ?_
      refine lv_if_ne (tgt := 267) hx hb9 dL_holds_260 (by decide) (fun _ => ?_) (fun c9 => absurd c9 (show ¬ nI (hhow G.1 0 99) = 0 by rw [e2]; decide))
      refine lv_iconst (v := nI 0) hx hb9 dL_holds_267 (by decide) ?_
      refine lv_aload_n hx hb9 dL_holds_268 rfl (lv_at hl 3 rfl) ?_
      refine lv_bipush (v := nI 14) hx hb9 dL_holds_269 (by decide) ?_
      refine lv_iconst (v := nI 1) hx hb9 dL_holds_271 (by decide) ?_
      refine lv_iconst (v := nI 0) hx hb9 dL_holds_272 (by decide) ?_
      refine lv_iconst (v := nI 0) hx hb9 dL_holds_273 (by decide) ?_
      refine gstepS (As := [.int (nI 14), .int (nI 1), .int (nI 0), .int (nI 0)]) (rest := [.int (nI 0)]) F ((kq14 l hst D cc a G (nI 1) (nI 0) (nI 0)).v (v' := ((-1 : Int32))) (by rw [rd1]; unfold hname; rw [if_neg (by omega)])) cwR hO hS hl rfl rfl (Nat.le_of_ble_eq_true rfl) dL_holds_274 ⟨by omega, by omega⟩ (fun H locs hO hS => ?_)
      refine lv_iconst (v := (-1 : Int32)) hx hb9 dL_holds_277 (by decide) ?_
      refine lv_icmp_eq (tgt := 285) hx hb9 dL_holds_278 (by decide) (fun _ => ?_) (fun c9 => absurd ((rfl : (_ : Int32) = _)) c9)
      refine lv_iconst (v := nI 0) hx hb9 dL_holds_285 (by decide) ?_
      refine lv_icmp_ne (tgt := 319) hx hb9 dL_holds_286 (by decide) (fun c9 => absurd ((rfl : (_ : Int32) = _)) c9) (fun _ => ?_)
      refine lv_iload hx hb9 dL_holds_289 (lv_at hl 2 rfl) ?_
      refine lv_if_gt (tgt := 315) hx hb9 dL_holds_291 (by decide) (fun _ => ?_) (fun c9 => absurd ((show (0 : Int32) < nI (hhow G.1 0 99) by rw [e2]; decide)) c9)
      refine lv_iconst (v := nI 1) hx hb9 dL_holds_315 (by decide) ?_
      refine lv_goto (tgt := 320) hx hb9 dL_holds_316 (by decide) ?_
      refine lv_istore (lv' := [(4, .int (nI 1)), (9, .int (nI b)), (8, .int (nI (dtM G.1 G.1 0 (G.1 77) b))), (7, .int (nI (hhow G.1 0 99))), (0, .ref (a 0)), (1, .int (nI x)), (2, .int (nI (G.1 110))), (3, .int (nI ((sigM G.1 0 (G.1 77)).length))), (6, .int (nI (G.1 0)))]) hx hb9 dL_holds_320 hl (by decide) rfl (fun ls hl => ?_)
      refine W.widen (k := cells + 8) (n := slots + 48) (by omega) (by omega) ?_
      exact kk H locs ls hO hS (by rw [en]; exact lv_sub hl [4, 5, 6, 7, 0, 8, 3, 2, 1] rfl)
    · refine lv_aload_n hx hb9 dL_holds_141 rfl (lv_at hl 0 rfl) ?_
      refine lv_bipush (v := nI 14) hx hb9 dL_holds_142 (by decide) ?_
      refine lv_iconst (v := nI 0) hx hb9 dL_holds_144 (by decide) ?_
      refine lv_iconst (v := nI 0) hx hb9 dL_holds_145 (by decide) ?_
      refine lv_iconst (v := nI 0) hx hb9 dL_holds_146 (by decide) ?_
      refine gstepS (As := [.int (nI 14), .int (nI 0), .int (nI 0), .int (nI 0)]) (rest := []) F ((kq14 l hst D cc a G (nI 0) (nI 0) (nI 0)).v (v' := (nI (hhow G.1 0 99))) (rd0 _)) cwR hO hS hl rfl rfl (Nat.le_of_ble_eq_true rfl) dL_holds_147 ⟨by omega, by omega⟩ (fun H locs hO hS => ?_)
      refine lv_istore (lv' := [(7, .int (nI (hhow G.1 0 99))), (0, .ref (a 0)), (1, .int (nI x)), (2, .int (nI (G.1 110))), (3, .int (nI ((sigM G.1 0 (G.1 77)).length))), (4, .int (nI 1)), (6, .int (nI (G.1 0)))]) hx hb9 dL_holds_150 hl (by decide) rfl (fun ls hl => ?_)
      refine lv_aload_n hx hb9 dL_holds_152 rfl (lv_at hl 1 rfl) ?_
      refine lv_bipush (v := nI 14) hx hb9 dL_holds_153 (by decide) ?_
      refine lv_iconst (v := nI 2) hx hb9 dL_holds_155 (by decide) ?_
      refine lv_iconst (v := nI 0) hx hb9 dL_holds_156 (by decide) ?_
      refine lv_iconst (v := nI 0) hx hb9 dL_holds_157 (by decide) ?_
      refine gstepS (As := [.int (nI 14), .int (nI 2), .int (nI 0), .int (nI 0)]) (rest := []) F ((kq14 l hst D cc a G (nI 2) (nI 0) (nI 0)).v (v' := (nI (dtM G.1 G.1 0 (G.1 77) b))) (by rw [rd2, en]; rfl)) cwR hO hS hl rfl rfl (Nat.le_of_ble_eq_true rfl) dL_holds_158 ⟨by omega, by omega⟩ (fun H locs hO hS => ?_)
      refine lv_istore (lv' := [(8, .int (nI (dtM G.1 G.1 0 (G.1 77) b))), (7, .int (nI (hhow G.1 0 99))), (0, .ref (a 0)), (1, .int (nI x)), (2, .int (nI (G.1 110))), (3, .int (nI ((sigM G.1 0 (G.1 77)).length))), (4, .int (nI 1)), (6, .int (nI (G.1 0)))]) hx hb9 dL_holds_161 hl (by decide) rfl (fun ls hl => ?_)
      refine lv_aload_n hx hb9 dL_holds_163 rfl (lv_at hl 2 rfl) ?_
      refine lv_bipush (v := nI 14) hx hb9 dL_holds_164 (by decide) ?_
      refine lv_iconst (v := nI 3) hx hb9 dL_holds_166 (by decide) ?_
      refine lv_iconst (v := nI 0) hx hb9 dL_holds_167 (by decide) ?_
      refine lv_iconst (v := nI 0) hx hb9 dL_holds_168 (by decide) ?_
      refine gstepS (As := [.int (nI 14), .int (nI 3), .int (nI 0), .int (nI 0)]) (rest := []) F ((kq14 l hst D cc a G (nI 3) (nI 0) (nI 0)).v (v' := (nI b)) (by rw [rd3, en]; rfl)) cwR hO hS hl rfl rfl (Nat.le_of_ble_eq_true rfl) dL_holds_169 ⟨by omega, by omega⟩ (fun H locs hO hS => ?_)
      refine lv_istore (lv' := [(9, .int (nI b)), (8, .int (nI (dtM G.1 G.1 0 (G.1 77) b))), (7, .int (nI (hhow G.1 0 99))), (0, .ref (a 0)), (1, .int (nI x)), (2, .int (nI (G.1 110))), (3, .int (nI ((sigM G.1 0 (G.1 77)).length))), (4, .int (nI 1)), (6, .int (nI (G.1 0)))]) hx hb9 dL_holds_172 hl (by decide) rfl (fun ls hl => ?_)
      refine lv_iload hx hb9 dL_holds_174 (lv_at hl 7 rfl) ?_
      refine lv_if_eq (tgt := 319) hx hb9 dL_holds_176 (by decide) (fun c9 => absurd c9 (show ¬ nI 1 = 0 by decide)) (fun _ => ?_)
      refine lv_iload_n hx hb9 dL_holds_179 rfl (lv_at hl 5 rfl) ?_
      refine lv_if_ne (tgt := 204) hx hb9 dL_holds_180 (by decide) (fun _ => ?_) (fun c9 => absurd c9 (nI_ne0 (by omega) (by omega)))
      refine lv_aload_n hx hb9 dL_holds_204 rfl (lv_at hl 3 rfl) ?_
      refine lv_bipush (v := nI 15) hx hb9 dL_holds_205 (by decide) ?_
      refine lv_iconst (v := nI 0) hx hb9 dL_holds_207 (by decide) ?_
      refine lv_iconst (v := nI 0) hx hb9 dL_holds_208 (by decide) ?_
      refine lv_iconst (v := nI 0) hx hb9 dL_holds_209 (by decide) ?_
      refine gstepS (As := [.int (nI 15), .int (nI 0), .int (nI 0), .int (nI 0)]) (rest := []) F ((kq15 l hst D cc a G (nI 0) (nI 0) (nI 0)).v (v' := (nI (1000 * b + dtM G.1 G.1 0 (G.1 77) b))) ((ne0 h (by omega)).trans eg)) cwR hO hS hl rfl rfl (Nat.le_of_ble_eq_true rfl) dL_holds_210 ⟨by omega, by omega⟩ (fun H locs hO hS => ?_)
      refine lv_sipush (v := nI 1000) hx hb9 dL_holds_213 (by decide) ?_
      refine lv_iload hx hb9 dL_holds_216 (lv_at hl 0 rfl) ?_
      refine gr_imul hx hb9 dL_holds_218 ?_
      refine lv_iload hx hb9 dL_holds_219 (lv_at hl 1 rfl) ?_
      refine gr_iadd hx hb9 dL_holds_221 ?_
      refine lv_icmp_ne (tgt := 319) hx hb9 dL_holds_222 (by decide) (fun c9 => absurd ((rfl : (_ : Int32) = _)) c9) (fun _ => ?_)
      refine lv_iload hx hb9 dL_holds_225 (lv_at hl 2 rfl) ?_
      refine lv_iconst (v := nI 2) hx hb9 dL_holds_227 (by decide) ?_
      refine lv_icmp_ne (tgt := 235) hx hb9 dL_holds_228 (by decide) (fun c9 => absurd ((show nI (hhow G.1 0 99) = nI 2 by rw [e2])) c9) (fun _ => ?_)
      refine lv_iconst (v := nI 1) hx hb9 dL_holds_231 (by decide) ?_
      refine lv_goto (tgt := 236) hx hb9 dL_holds_232 (by decide) ?_
      refine lv_iload hx hb9 dL_holds_236 (lv_at hl 1 rfl) ?_
      refine lv_aload_n hx hb9 dL_holds_238 rfl (lv_at hl 3 rfl) ?_
      refine lv_bipush (v := nI 6) hx hb9 dL_holds_239 (by decide) ?_
      refine lv_iconst (v := nI 1) hx hb9 dL_holds_241 (by decide) ?_
      refine lv_iconst (v := nI 0) hx hb9 dL_holds_242 (by decide) ?_
      refine lv_iconst (v := nI 0) hx hb9 dL_holds_243 (by decide) ?_
      refine gstepS (As := [.int (nI 6), .int (nI 1), .int (nI 0), .int (nI 0)]) (rest := [.int (nI (dtM G.1 G.1 0 (G.1 77) b)), .int (nI 1)]) F ((kq6 l hst D cc a G (nI 1) (nI 0) (nI 0)).v (v' := (nI (G.1 78))) (se1 _)) cwR hO hS hl rfl rfl (Nat.le_of_ble_eq_true rfl) dL_holds_244 ⟨by omega, by omega⟩ (fun H locs hO hS => ?_)
      refine lv_icmp_le (tgt := 254) hx hb9 dL_holds_247 (by decide) (fun c9 => absurd c9 (nI_ge (eh.mp e2) (by omega))) (fun _ => ?_)
      refine lv_iconst (v := nI 1) hx hb9 dL_holds_250 (by decide) ?_
      refine lv_goto (tgt := 255) hx hb9 dL_holds_251 (by decide) ?_
      refine lv_icmp_ne (tgt := 319) hx hb9 dL_holds_255 (by decide) (fun c9 => absurd ((rfl : (_ : Int32) = _)) c9) (fun _ => ?_)
      refine lv_iload hx hb9 dL_holds_258 (lv_at hl 2 rfl) ?_
      refine lv_if_ne (tgt := 267) hx hb9 dL_holds_260 (by decide) (fun _ => ?_) (fun c9 => absurd c9 (show ¬ nI (hhow G.1 0 99) = 0 by rw [e2]; decide))
      refine lv_iconst (v := nI 0) hx hb9 dL_holds_267 (by decide) ?_
      refine lv_aload_n hx hb9 dL_holds_268 rfl (lv_at hl 3 rfl) ?_
      refine lv_bipush (v := nI 14) hx hb9 dL_holds_269 (by decide) ?_
      refine lv_iconst (v := nI 1) hx hb9 dL_holds_271 (by decide) ?_
      refine lv_iconst (v := nI 0) hx hb9 dL_holds_272 (by decide) ?_
      refine lv_iconst (v := nI 0) hx hb9 dL_holds_273 (by decide) ?_
      refine gstepS (As := [.int (nI 14), .int (nI 1), .int (nI 0), .int (nI 0)]) (rest := [.int (nI 0)]) F ((kq14 l hst D cc a G (nI 1) (nI 0) (nI 0)).v (v' := ((-1 : Int32))) (by rw [rd1]; unfold hname; rw [if_neg (by omega)])) cwR hO hS hl rfl rfl (Nat.le_of_ble_eq_true rfl) dL_holds_274 ⟨by omega, by omega⟩ (fun H locs hO hS => ?_)
      refine lv_iconst (v := (-1 : Int32)) hx hb9 dL_holds_277 (by decide) ?_
      refine lv_icmp_eq (tgt := 285) hx hb9 dL_holds_278 (by decide) (fun _ => ?_) (fun c9 => absurd ((rfl : (_ : Int32) = _)) c9)
      refine lv_iconst (v := nI 0) hx hb9 dL_holds_285 (by decide) ?_
      refine lv_icmp_ne (tgt := 319) hx hb9 dL_holds_286 (by decide) (fun c9 => absurd ((rfl : (_ : Int32) = _)) c9) (fun _ => ?_)
      refine lv_iload hx hb9 dL_holds_289 (lv_at hl 2 rfl) ?_
      refine lv_if_gt (tgt := 315) hx hb9 dL_holds_291 (by decide) (fun _ => ?_) (fun c9 => absurd ((show (0 : Int32) < nI (hhow G.1 0 99) by rw [e2]; decide)) c9)
      refine lv_iconst (v := nI 1) hx hb9 dL_holds_315 (by decide) ?_
      refine lv_goto (tgt := 320) hx hb9 dL_holds_316 (by decide) ?_
      refine lv_istore (lv' := [(4, .int (nI 1)), (9, .int (nI b)), (8, .int (nI (dtM G.1 G.1 0 (G.1 77) b))), (7, .int (nI (hhow G.1 0 99))), (0, .ref (a 0)), (1, .int (nI x)), (2, .int (nI (G.1 110))), (3, .int (nI ((sigM G.1 0 (G.1 77)).length))), (6, .int (nI (G.1 0)))]) hx hb9 dL_holds_320 hl (by decide) rfl (fun ls hl => ?_)
      refine W.widen (k := cells + 8) (n := slots + 48) (by omega) (by omega) ?_
      exact kk H locs ls hO hS (by rw [en]; exact lv_sub hl [4, 5, 6, 7, 0, 8, 3, 2, 1] rfl)
theorem ho_b4z (hst : l.stackTraces = false) (F : gF p m c cL_holds 17 s args wsL_holds meth (some .boolean) D cc A) (n0 : G.1 110 = 0) (hO : HO D cc A a G Rw H) (hS : va_S A s.heap H locs) (hl : lv_has ls 17 [(0, .ref (a 0)), (1, .int (nI x)), (2, .int (nI (G.1 110))), (3, .int (nI ((sigM G.1 0 (G.1 77)).length))), (4, .int (nI 1)), (6, .int (nI (G.1 0))), (7, .int (nI (hhow G.1 0 99))), (8, .int (byI (hnr G.1 0 99))), (9, .int (oneI (hnr G.1 0 99)))]) (hf : cells + 0 ≤ rmHo.cells ∧ slots + 0 ≤ rmHo.slots)
    (kk : ∀ (H : Heap) (locs : List Loc) (ls : Array Slot), HO D cc A a (G) Rw H → va_S A s.heap H locs → lv_has ls 17 [(0, .ref (a 0)), (1, .int (nI x)), (2, .int (nI (G.1 110))), (3, .int (nI ((sigM G.1 0 (G.1 77)).length))), (4, .int (nI 1)), (6, .int (nI (G.1 0))), (7, .int (nI (hhow G.1 0 99))), (8, .int (byI (hnr G.1 0 99))), (9, .int (oneI (hnr G.1 0 99)))] → W p l e rmHo s m args below meth c H locs (cells + 0) (slots + 0) Q (F0 m 634 ls [])) : W p l e rmHo s m args below meth c H locs cells slots Q (F0 m 322 ls []) := by
  have hx := F.1.1.1
  have hb9 := F.1.1.2.1
  have hts := F.1.1.2.2.2.2
  have h := hO.inv
  have h16 := h.h16
  have h40 := h.hand.2
  have h3 := h.hand.1.1.1

  refine lv_iload_n hx hb9 dL_holds_322 rfl (lv_at hl 2 rfl) ?_
  refine lv_if_le (tgt := 634) hx hb9 dL_holds_323 (by decide) (fun _ => ?_) (fun c9 => absurd ((show nI (G.1 110) ≤ 0 by rw [n0]; decide)) c9)
  refine W.widen (k := cells + 0) (n := slots + 0) (by omega) (by omega) ?_
  exact kk H locs ls hO hS (lv_sub hl [0, 1, 2, 3, 4, 5, 6, 7, 8] rfl)
theorem ho_b4a (hst : l.stackTraces = false) (F : gF p m c cL_holds 17 s args wsL_holds meth (some .boolean) D cc A) (hx2 : x < 2 ^ 31) (hn : 0 < G.1 110) (hO : HO D cc A a G Rw H) (hS : va_S A s.heap H locs) (hl : lv_has ls 17 [(0, .ref (a 0)), (1, .int (nI x)), (2, .int (nI (G.1 110))), (3, .int (nI ((sigM G.1 0 (G.1 77)).length))), (4, .int (nI 1)), (6, .int (nI (G.1 0))), (7, .int (nI (hhow G.1 0 99))), (8, .int (byI (hnr G.1 0 99))), (9, .int (oneI (hnr G.1 0 99)))]) (hf : cells + 5 ≤ rmHo.cells ∧ slots + 30 ≤ rmHo.slots)
    (kk : ∀ (H : Heap) (locs : List Loc) (ls : Array Slot), HO D cc A a (G) Rw H → va_S A s.heap H locs → lv_has ls 17 [(0, .ref (a 0)), (1, .int (nI x)), (2, .int (nI (G.1 110))), (3, .int (nI ((sigM G.1 0 (G.1 77)).length))), (4, .int (nI 1)), (6, .int (nI (G.1 0))), (7, .int (nI (hhow G.1 0 99))), (8, .int (byI (hnr G.1 0 99))), (9, .int (oneI (hnr G.1 0 99))), (10, .int (nI (x % (G.1 110)))), (11, .int (nI ((x / 16) % (G.1 110)))), (13, .int (nI (pdM G.1 (G.1 77) (x % (G.1 110)) ((x / 16) % (G.1 110)))))] → W p l e rmHo s m args below meth c H locs (cells + 5) (slots + 30) Q (F0 m 431 ls [])) : W p l e rmHo s m args below meth c H locs cells slots Q (F0 m 322 ls []) := by
  have hx := F.1.1.1
  have hb9 := F.1.1.2.1
  have hts := F.1.1.2.2.2.2
  have h := hO.inv
  have h16 := h.h16
  have h40 := h.hand.2
  have h3 := h.hand.1.1.1
  have cwR := va_cwS (rm := rmK 1 6) (R := rmHo) 5 hts gL_holds_L_call rfl rfl rfl (by decide +kernel) ⟨Nat.le_of_ble_eq_true rfl, Nat.le_of_ble_eq_true rfl⟩
  have hA : x % (G.1 110) < G.1 110 := Nat.mod_lt _ hn
  have hB : (x / 16) % (G.1 110) < G.1 110 := Nat.mod_lt _ hn
  have hC : (x / 256) % (G.1 110) < G.1 110 := Nat.mod_lt _ hn
  have q1 := pd_le h hA hB
  have q2 := pd_le h hA hC
  have q3 := pd_le h hC hB
  refine lv_iload_n hx hb9 dL_holds_322 rfl (lv_at hl 2 rfl) ?_
  refine lv_if_le (tgt := 634) hx hb9 dL_holds_323 (by decide) (fun c9 => absurd c9 (nI_nle (by omega) (by omega))) (fun _ => ?_)
  refine lv_iload hx hb9 dL_holds_326 (lv_at hl 4 rfl) ?_
  refine lv_if_eq (tgt := 634) hx hb9 dL_holds_328 (by decide) (fun c9 => absurd c9 (show ¬ nI 1 = 0 by decide)) (fun _ => ?_)
  refine lv_iload_n hx hb9 dL_holds_331 rfl (lv_at hl 1 rfl) ?_
  refine lv_iload_n hx hb9 dL_holds_332 rfl (lv_at hl 2 rfl) ?_
  refine gr_irem hx hb9 dL_holds_333 (by omega) (by omega) (by omega) ?_
  refine lv_istore (lv' := [(10, .int (nI (x % (G.1 110)))), (0, .ref (a 0)), (1, .int (nI x)), (2, .int (nI (G.1 110))), (3, .int (nI ((sigM G.1 0 (G.1 77)).length))), (4, .int (nI 1)), (6, .int (nI (G.1 0))), (7, .int (nI (hhow G.1 0 99))), (8, .int (byI (hnr G.1 0 99))), (9, .int (oneI (hnr G.1 0 99)))]) hx hb9 dL_holds_334 hl (by decide) rfl (fun ls hl => ?_)
  refine lv_iload_n hx hb9 dL_holds_336 rfl (lv_at hl 2 rfl) ?_
  refine lv_bipush (v := nI 16) hx hb9 dL_holds_337 (by decide) ?_
  refine gr_idiv hx hb9 dL_holds_339 (by omega) (by omega) (by omega) ?_
  refine lv_iload_n hx hb9 dL_holds_340 rfl (lv_at hl 3 rfl) ?_
  refine gr_irem hx hb9 dL_holds_341 (by omega) (by omega) (by omega) ?_
  refine lv_istore (lv' := [(11, .int (nI ((x / 16) % (G.1 110)))), (10, .int (nI (x % (G.1 110)))), (0, .ref (a 0)), (1, .int (nI x)), (2, .int (nI (G.1 110))), (3, .int (nI ((sigM G.1 0 (G.1 77)).length))), (4, .int (nI 1)), (6, .int (nI (G.1 0))), (7, .int (nI (hhow G.1 0 99))), (8, .int (byI (hnr G.1 0 99))), (9, .int (oneI (hnr G.1 0 99)))]) hx hb9 dL_holds_342 hl (by decide) rfl (fun ls hl => ?_)
  refine lv_iload_n hx hb9 dL_holds_344 rfl (lv_at hl 3 rfl) ?_
  refine lv_sipush (v := nI 256) hx hb9 dL_holds_345 (by decide) ?_
  refine gr_idiv hx hb9 dL_holds_348 (by omega) (by omega) (by omega) ?_
  refine lv_iload_n hx hb9 dL_holds_349 rfl (lv_at hl 4 rfl) ?_
  refine gr_irem hx hb9 dL_holds_350 (by omega) (by omega) (by omega) ?_
  refine lv_istore (lv' := [(12, .int (nI ((x / 256) % (G.1 110)))), (11, .int (nI ((x / 16) % (G.1 110)))), (10, .int (nI (x % (G.1 110)))), (0, .ref (a 0)), (1, .int (nI x)), (2, .int (nI (G.1 110))), (3, .int (nI ((sigM G.1 0 (G.1 77)).length))), (4, .int (nI 1)), (6, .int (nI (G.1 0))), (7, .int (nI (hhow G.1 0 99))), (8, .int (byI (hnr G.1 0 99))), (9, .int (oneI (hnr G.1 0 99)))]) hx hb9 dL_holds_351 hl (by decide) rfl (fun ls hl => ?_)
  refine lv_aload_n hx hb9 dL_holds_353 rfl (lv_at hl 3 rfl) ?_
  refine lv_bipush (v := nI 16) hx hb9 dL_holds_354 (by decide) ?_
  refine lv_iload hx hb9 dL_holds_356 (lv_at hl 2 rfl) ?_
  refine lv_iload hx hb9 dL_holds_358 (lv_at hl 1 rfl) ?_
  refine lv_iconst (v := nI 0) hx hb9 dL_holds_360 (by decide) ?_
  refine gstepS (As := [.int (nI 16), .int (nI (x % (G.1 110))), .int (nI ((x / 16) % (G.1 110))), .int (nI 0)]) (rest := []) F ((kq16 l hst D cc a G (nI (x % (G.1 110))) (nI ((x / 16) % (G.1 110))) (nI 0)).v (v' := (nI (pdM G.1 (G.1 77) (x % (G.1 110)) ((x / 16) % (G.1 110))))) (be_in h16 hA hB)) cwR hO hS hl rfl rfl (Nat.le_of_ble_eq_true rfl) dL_holds_361 ⟨by omega, by omega⟩ (fun H locs hO hS => ?_)
  refine lv_istore (lv' := [(13, .int (nI (pdM G.1 (G.1 77) (x % (G.1 110)) ((x / 16) % (G.1 110))))), (12, .int (nI ((x / 256) % (G.1 110)))), (11, .int (nI ((x / 16) % (G.1 110)))), (10, .int (nI (x % (G.1 110)))), (0, .ref (a 0)), (1, .int (nI x)), (2, .int (nI (G.1 110))), (3, .int (nI ((sigM G.1 0 (G.1 77)).length))), (4, .int (nI 1)), (6, .int (nI (G.1 0))), (7, .int (nI (hhow G.1 0 99))), (8, .int (byI (hnr G.1 0 99))), (9, .int (oneI (hnr G.1 0 99)))]) hx hb9 dL_holds_364 hl (by decide) rfl (fun ls hl => ?_)
  refine lv_iload hx hb9 dL_holds_366 (lv_at hl 0 rfl) ?_
  refine lv_aload_n hx hb9 dL_holds_368 rfl (lv_at hl 4 rfl) ?_
  refine lv_bipush (v := nI 16) hx hb9 dL_holds_369 (by decide) ?_
  refine lv_iload hx hb9 dL_holds_371 (lv_at hl 2 rfl) ?_
  refine lv_iload hx hb9 dL_holds_373 (lv_at hl 3 rfl) ?_
  refine lv_iconst (v := nI 0) hx hb9 dL_holds_375 (by decide) ?_
  refine gstepS (As := [.int (nI 16), .int (nI ((x / 16) % (G.1 110))), .int (nI (x % (G.1 110))), .int (nI 0)]) (rest := [.int (nI (pdM G.1 (G.1 77) (x % (G.1 110)) ((x / 16) % (G.1 110))))]) F ((kq16 l hst D cc a G (nI ((x / 16) % (G.1 110))) (nI (x % (G.1 110))) (nI 0)).v (v' := (nI (pdM G.1 (G.1 77) (x % (G.1 110)) ((x / 16) % (G.1 110))))) ((be_in h16 hB hA).trans (congrArg nI (pdM_symm _ _ _ _)))) cwR hO hS hl rfl rfl (Nat.le_of_ble_eq_true rfl) dL_holds_376 ⟨by omega, by omega⟩ (fun H locs hO hS => ?_)
  refine lv_icmp_ne (tgt := 428) hx hb9 dL_holds_379 (by decide) (fun c9 => absurd ((rfl : (_ : Int32) = _)) c9) (fun _ => ?_)
  refine lv_aload_n hx hb9 dL_holds_382 rfl (lv_at hl 4 rfl) ?_
  refine lv_bipush (v := nI 16) hx hb9 dL_holds_383 (by decide) ?_
  refine lv_iload hx hb9 dL_holds_385 (lv_at hl 3 rfl) ?_
  refine lv_iload hx hb9 dL_holds_387 (lv_at hl 3 rfl) ?_
  refine lv_iconst (v := nI 0) hx hb9 dL_holds_389 (by decide) ?_
  refine gstepS (As := [.int (nI 16), .int (nI (x % (G.1 110))), .int (nI (x % (G.1 110))), .int (nI 0)]) (rest := []) F ((kq16 l hst D cc a G (nI (x % (G.1 110))) (nI (x % (G.1 110))) (nI 0)).v (v' := (nI 0)) ((be_in h16 hA hA).trans (congrArg nI (pdM_self _ _ _)))) cwR hO hS hl rfl rfl (Nat.le_of_ble_eq_true rfl) dL_holds_390 ⟨by omega, by omega⟩ (fun H locs hO hS => ?_)
  refine lv_if_ne (tgt := 428) hx hb9 dL_holds_393 (by decide) (fun c9 => absurd ((show nI 0 = 0 from rfl)) c9) (fun _ => ?_)
  refine lv_iload hx hb9 dL_holds_396 (lv_at hl 0 rfl) ?_
  refine lv_aload_n hx hb9 dL_holds_398 rfl (lv_at hl 4 rfl) ?_
  refine lv_bipush (v := nI 16) hx hb9 dL_holds_399 (by decide) ?_
  refine lv_iload hx hb9 dL_holds_401 (lv_at hl 3 rfl) ?_
  refine lv_iload hx hb9 dL_holds_403 (lv_at hl 1 rfl) ?_
  refine lv_iconst (v := nI 0) hx hb9 dL_holds_405 (by decide) ?_
  refine gstepS (As := [.int (nI 16), .int (nI (x % (G.1 110))), .int (nI ((x / 256) % (G.1 110))), .int (nI 0)]) (rest := [.int (nI (pdM G.1 (G.1 77) (x % (G.1 110)) ((x / 16) % (G.1 110))))]) F ((kq16 l hst D cc a G (nI (x % (G.1 110))) (nI ((x / 256) % (G.1 110))) (nI 0)).v (v' := (nI (pdM G.1 (G.1 77) (x % (G.1 110)) ((x / 256) % (G.1 110))))) (be_in h16 hA hC)) cwR hO hS hl rfl rfl (Nat.le_of_ble_eq_true rfl) dL_holds_406 ⟨by omega, by omega⟩ (fun H locs hO hS => ?_)
  refine lv_aload_n hx hb9 dL_holds_409 rfl (lv_at hl 4 rfl) ?_
  refine lv_bipush (v := nI 16) hx hb9 dL_holds_410 (by decide) ?_
  refine lv_iload hx hb9 dL_holds_412 (lv_at hl 1 rfl) ?_
  refine lv_iload hx hb9 dL_holds_414 (lv_at hl 2 rfl) ?_
  refine lv_iconst (v := nI 0) hx hb9 dL_holds_416 (by decide) ?_
  refine gstepS (As := [.int (nI 16), .int (nI ((x / 256) % (G.1 110))), .int (nI ((x / 16) % (G.1 110))), .int (nI 0)]) (rest := [.int (nI (pdM G.1 (G.1 77) (x % (G.1 110)) ((x / 256) % (G.1 110)))), .int (nI (pdM G.1 (G.1 77) (x % (G.1 110)) ((x / 16) % (G.1 110))))]) F ((kq16 l hst D cc a G (nI ((x / 256) % (G.1 110))) (nI ((x / 16) % (G.1 110))) (nI 0)).v (v' := (nI (pdM G.1 (G.1 77) ((x / 256) % (G.1 110)) ((x / 16) % (G.1 110))))) (be_in h16 hC hB)) cwR hO hS hl rfl rfl (Nat.le_of_ble_eq_true rfl) dL_holds_417 ⟨by omega, by omega⟩ (fun H locs hO hS => ?_)
  refine gr_iadd hx hb9 dL_holds_420 ?_
  refine lv_icmp_gt (tgt := 428) hx hb9 dL_holds_421 (by decide) (fun c9 => absurd c9 (nI_nlt (pdM_tri _ _ _ _ _) (by omega))) (fun _ => ?_)
  refine lv_iconst (v := nI 1) hx hb9 dL_holds_424 (by decide) ?_
  refine lv_goto (tgt := 429) hx hb9 dL_holds_425 (by decide) ?_
  refine lv_istore (lv' := [(4, .int (nI 1)), (13, .int (nI (pdM G.1 (G.1 77) (x % (G.1 110)) ((x / 16) % (G.1 110))))), (12, .int (nI ((x / 256) % (G.1 110)))), (11, .int (nI ((x / 16) % (G.1 110)))), (10, .int (nI (x % (G.1 110)))), (0, .ref (a 0)), (1, .int (nI x)), (2, .int (nI (G.1 110))), (3, .int (nI ((sigM G.1 0 (G.1 77)).length))), (6, .int (nI (G.1 0))), (7, .int (nI (hhow G.1 0 99))), (8, .int (byI (hnr G.1 0 99))), (9, .int (oneI (hnr G.1 0 99)))]) hx hb9 dL_holds_429 hl (by decide) rfl (fun ls hl => ?_)
  refine W.widen (k := cells + 5) (n := slots + 30) (by omega) (by omega) ?_
  exact kk H locs ls hO hS (lv_sub hl [5, 6, 7, 8, 0, 9, 10, 11, 12, 4, 3, 1] rfl)
theorem ho_b4b (hst : l.stackTraces = false) (F : gF p m c cL_holds 17 s args wsL_holds meth (some .boolean) D cc A) (hx2 : x < 2 ^ 31) (hn : 0 < G.1 110) (hO : HO D cc A a G Rw H) (hS : va_S A s.heap H locs) (hl : lv_has ls 17 [(0, .ref (a 0)), (1, .int (nI x)), (2, .int (nI (G.1 110))), (3, .int (nI ((sigM G.1 0 (G.1 77)).length))), (4, .int (nI 1)), (6, .int (nI (G.1 0))), (7, .int (nI (hhow G.1 0 99))), (8, .int (byI (hnr G.1 0 99))), (9, .int (oneI (hnr G.1 0 99))), (10, .int (nI (x % (G.1 110)))), (11, .int (nI ((x / 16) % (G.1 110)))), (13, .int (nI (pdM G.1 (G.1 77) (x % (G.1 110)) ((x / 16) % (G.1 110)))))]) (hf : cells + 2 ≤ rmHo.cells ∧ slots + 12 ≤ rmHo.slots)
    (kk : ∀ (H : Heap) (locs : List Loc) (ls : Array Slot), HO D cc A a (G) Rw H → va_S A s.heap H locs → lv_has ls 17 [(0, .ref (a 0)), (1, .int (nI x)), (2, .int (nI (G.1 110))), (3, .int (nI ((sigM G.1 0 (G.1 77)).length))), (4, .int (nI 1)), (6, .int (nI (G.1 0))), (7, .int (nI (hhow G.1 0 99))), (8, .int (byI (hnr G.1 0 99))), (9, .int (oneI (hnr G.1 0 99))), (10, .int (nI (x % (G.1 110)))), (11, .int (nI ((x / 16) % (G.1 110)))), (13, .int (nI (pdM G.1 (G.1 77) (x % (G.1 110)) ((x / 16) % (G.1 110)))))] → W p l e rmHo s m args below meth c H locs (cells + 2) (slots + 12) Q (F0 m 484 ls [])) : W p l e rmHo s m args below meth c H locs cells slots Q (F0 m 431 ls []) := by
  have hx := F.1.1.1
  have hb9 := F.1.1.2.1
  have hts := F.1.1.2.2.2.2
  have h := hO.inv
  have h16 := h.h16
  have h40 := h.hand.2
  have h3 := h.hand.1.1.1
  have cwR := va_cwS (rm := rmK 1 6) (R := rmHo) 5 hts gL_holds_L_call rfl rfl rfl (by decide +kernel) ⟨Nat.le_of_ble_eq_true rfl, Nat.le_of_ble_eq_true rfl⟩
  have hA : x % (G.1 110) < G.1 110 := Nat.mod_lt _ hn
  have hB : (x / 16) % (G.1 110) < G.1 110 := Nat.mod_lt _ hn
  have hC : (x / 256) % (G.1 110) < G.1 110 := Nat.mod_lt _ hn
  have q1 := pd_le h hA hB
  have q2 := pd_le h hA hC
  have q3 := pd_le h hC hB
  have la := (h.smp hA).2
  have lb := (h.smp hB).2
  have ln := pdM_len G.1 (G.1 77) (x % (G.1 110)) ((x / 16) % (G.1 110))
  by_cases z0 : (sigM G.1 (atM ((x / 16) % (G.1 110))) (G.1 77)).length ≤ (sigM G.1 (atM (x % (G.1 110))) (G.1 77)).length
  · refine lv_aload_n hx hb9 dL_holds_431 rfl (lv_at hl 0 rfl) ?_
    refine lv_iconst (v := nI 3) hx hb9 dL_holds_432 (by decide) ?_
    refine lv_iload hx hb9 dL_holds_433 (lv_at hl 9 rfl) ?_
    refine lv_iconst (v := nI 3) hx hb9 dL_holds_435 (by decide) ?_
    refine lv_iconst (v := nI 0) hx hb9 dL_holds_436 (by decide) ?_
    refine gstepS (As := [.int (nI 3), .int (nI (x % (G.1 110))), .int (nI 3), .int (nI 0)]) (rest := []) F ((kq3 l hst D cc a G (nI (x % (G.1 110))) (nI 3) (nI 0)).v (v' := (nI ((sigM G.1 (atM (x % (G.1 110))) (G.1 77)).length))) (sa3 h16 hA)) cwR hO hS hl rfl rfl (Nat.le_of_ble_eq_true rfl) dL_holds_437 ⟨by omega, by omega⟩ (fun H locs hO hS => ?_)
    refine lv_aload_n hx hb9 dL_holds_440 rfl (lv_at hl 0 rfl) ?_
    refine lv_iconst (v := nI 3) hx hb9 dL_holds_441 (by decide) ?_
    refine lv_iload hx hb9 dL_holds_442 (lv_at hl 10 rfl) ?_
    refine lv_iconst (v := nI 3) hx hb9 dL_holds_444 (by decide) ?_
    refine lv_iconst (v := nI 0) hx hb9 dL_holds_445 (by decide) ?_
    refine gstepS (As := [.int (nI 3), .int (nI ((x / 16) % (G.1 110))), .int (nI 3), .int (nI 0)]) (rest := [.int (nI ((sigM G.1 (atM (x % (G.1 110))) (G.1 77)).length))]) F ((kq3 l hst D cc a G (nI ((x / 16) % (G.1 110))) (nI 3) (nI 0)).v (v' := (nI ((sigM G.1 (atM ((x / 16) % (G.1 110))) (G.1 77)).length))) (sa3 h16 hB)) cwR hO hS hl rfl rfl (Nat.le_of_ble_eq_true rfl) dL_holds_446 ⟨by omega, by omega⟩ (fun H locs hO hS => ?_)
    refine gr_isub hx hb9 dL_holds_449 z0 ?_
    refine lv_istore (lv' := [(14, .int (nI (((sigM G.1 (atM (x % (G.1 110))) (G.1 77)).length) - ((sigM G.1 (atM ((x / 16) % (G.1 110))) (G.1 77)).length)))), (0, .ref (a 0)), (1, .int (nI x)), (2, .int (nI (G.1 110))), (3, .int (nI ((sigM G.1 0 (G.1 77)).length))), (4, .int (nI 1)), (6, .int (nI (G.1 0))), (7, .int (nI (hhow G.1 0 99))), (8, .int (byI (hnr G.1 0 99))), (9, .int (oneI (hnr G.1 0 99))), (10, .int (nI (x % (G.1 110)))), (11, .int (nI ((x / 16) % (G.1 110)))), (13, .int (nI (pdM G.1 (G.1 77) (x % (G.1 110)) ((x / 16) % (G.1 110)))))]) hx hb9 dL_holds_450 hl (by decide) rfl (fun ls hl => ?_)
    refine lv_iload hx hb9 dL_holds_452 (lv_at hl 5 rfl) ?_
    refine lv_if_eq (tgt := 481) hx hb9 dL_holds_454 (by decide) (fun c9 => absurd c9 (show ¬ nI 1 = 0 by decide)) (fun _ => ?_)
    refine lv_iload hx hb9 dL_holds_457 (lv_at hl 12 rfl) ?_
    refine lv_iconst (v := nI 2) hx hb9 dL_holds_459 (by decide) ?_
    refine lv_iload hx hb9 dL_holds_460 (lv_at hl 0 rfl) ?_
    refine lv_if_ge (tgt := 471) hx hb9 dL_holds_462 (by decide) (fun _ => ?_) (fun c9 => absurd ((nI_pos' (by omega))) c9)
    refine lv_iload hx hb9 dL_holds_471 (lv_at hl 0 rfl) ?_
    refine gr_imul hx hb9 dL_holds_473 ?_
    refine lv_icmp_lt (tgt := 481) hx hb9 dL_holds_474 (by decide) (fun c9 => absurd c9 (nI_nlt (by omega) (by omega))) (fun _ => ?_)
    refine lv_iconst (v := nI 1) hx hb9 dL_holds_477 (by decide) ?_
    refine lv_goto (tgt := 482) hx hb9 dL_holds_478 (by decide) ?_
    refine lv_istore (lv' := [(4, .int (nI 1)), (14, .int (nI (((sigM G.1 (atM (x % (G.1 110))) (G.1 77)).length) - ((sigM G.1 (atM ((x / 16) % (G.1 110))) (G.1 77)).length)))), (0, .ref (a 0)), (1, .int (nI x)), (2, .int (nI (G.1 110))), (3, .int (nI ((sigM G.1 0 (G.1 77)).length))), (6, .int (nI (G.1 0))), (7, .int (nI (hhow G.1 0 99))), (8, .int (byI (hnr G.1 0 99))), (9, .int (oneI (hnr G.1 0 99))), (10, .int (nI (x % (G.1 110)))), (11, .int (nI ((x / 16) % (G.1 110)))), (13, .int (nI (pdM G.1 (G.1 77) (x % (G.1 110)) ((x / 16) % (G.1 110)))))]) hx hb9 dL_holds_482 hl (by decide) rfl (fun ls hl => ?_)
    refine W.widen (k := cells + 2) (n := slots + 12) (by omega) (by omega) ?_
    exact kk H locs ls hO hS (lv_sub hl [2, 3, 4, 5, 0, 6, 7, 8, 9, 10, 11, 12] rfl)
  · refine lv_aload_n hx hb9 dL_holds_431 rfl (lv_at hl 0 rfl) ?_
    refine lv_iconst (v := nI 3) hx hb9 dL_holds_432 (by decide) ?_
    refine lv_iload hx hb9 dL_holds_433 (lv_at hl 9 rfl) ?_
    refine lv_iconst (v := nI 3) hx hb9 dL_holds_435 (by decide) ?_
    refine lv_iconst (v := nI 0) hx hb9 dL_holds_436 (by decide) ?_
    refine gstepS (As := [.int (nI 3), .int (nI (x % (G.1 110))), .int (nI 3), .int (nI 0)]) (rest := []) F ((kq3 l hst D cc a G (nI (x % (G.1 110))) (nI 3) (nI 0)).v (v' := (nI ((sigM G.1 (atM (x % (G.1 110))) (G.1 77)).length))) (sa3 h16 hA)) cwR hO hS hl rfl rfl (Nat.le_of_ble_eq_true rfl) dL_holds_437 ⟨by omega, by omega⟩ (fun H locs hO hS => ?_)
    refine lv_aload_n hx hb9 dL_holds_440 rfl (lv_at hl 0 rfl) ?_
    refine lv_iconst (v := nI 3) hx hb9 dL_holds_441 (by decide) ?_
    refine lv_iload hx hb9 dL_holds_442 (lv_at hl 10 rfl) ?_
    refine lv_iconst (v := nI 3) hx hb9 dL_holds_444 (by decide) ?_
    refine lv_iconst (v := nI 0) hx hb9 dL_holds_445 (by decide) ?_
    refine gstepS (As := [.int (nI 3), .int (nI ((x / 16) % (G.1 110))), .int (nI 3), .int (nI 0)]) (rest := [.int (nI ((sigM G.1 (atM (x % (G.1 110))) (G.1 77)).length))]) F ((kq3 l hst D cc a G (nI ((x / 16) % (G.1 110))) (nI 3) (nI 0)).v (v' := (nI ((sigM G.1 (atM ((x / 16) % (G.1 110))) (G.1 77)).length))) (sa3 h16 hB)) cwR hO hS hl rfl rfl (Nat.le_of_ble_eq_true rfl) dL_holds_446 ⟨by omega, by omega⟩ (fun H locs hO hS => ?_)
    refine lv_isub hx hb9 dL_holds_449 ?_
    refine lv_istore (lv' := [(14, .int ((nI ((sigM G.1 (atM (x % (G.1 110))) (G.1 77)).length)) - (nI ((sigM G.1 (atM ((x / 16) % (G.1 110))) (G.1 77)).length)))), (0, .ref (a 0)), (1, .int (nI x)), (2, .int (nI (G.1 110))), (3, .int (nI ((sigM G.1 0 (G.1 77)).length))), (4, .int (nI 1)), (6, .int (nI (G.1 0))), (7, .int (nI (hhow G.1 0 99))), (8, .int (byI (hnr G.1 0 99))), (9, .int (oneI (hnr G.1 0 99))), (10, .int (nI (x % (G.1 110)))), (11, .int (nI ((x / 16) % (G.1 110)))), (13, .int (nI (pdM G.1 (G.1 77) (x % (G.1 110)) ((x / 16) % (G.1 110)))))]) hx hb9 dL_holds_450 hl (by decide) rfl (fun ls hl => ?_)
    refine lv_iload hx hb9 dL_holds_452 (lv_at hl 5 rfl) ?_
    refine lv_if_eq (tgt := 481) hx hb9 dL_holds_454 (by decide) (fun c9 => absurd c9 (show ¬ nI 1 = 0 by decide)) (fun _ => ?_)
    refine lv_iload hx hb9 dL_holds_457 (lv_at hl 12 rfl) ?_
    refine lv_iconst (v := nI 2) hx hb9 dL_holds_459 (by decide) ?_
    refine lv_iload hx hb9 dL_holds_460 (lv_at hl 0 rfl) ?_
    refine lv_if_ge (tgt := 471) hx hb9 dL_holds_462 (by decide) (fun c9 => absurd c9 (sub_neg (by omega) (by omega))) (fun _ => ?_)
    refine lv_iload hx hb9 dL_holds_465 (lv_at hl 0 rfl) ?_
    refine gr_ineg hx hb9 dL_holds_467 (by omega) ?_
    refine lv_goto (tgt := 473) hx hb9 dL_holds_468 (by decide) ?_
    refine gr_imul hx hb9 dL_holds_473 ?_
    refine lv_icmp_lt (tgt := 481) hx hb9 dL_holds_474 (by decide) (fun c9 => absurd c9 (nI_nlt (by omega) (by omega))) (fun _ => ?_)
    refine lv_iconst (v := nI 1) hx hb9 dL_holds_477 (by decide) ?_
    refine lv_goto (tgt := 482) hx hb9 dL_holds_478 (by decide) ?_
    refine lv_istore (lv' := [(4, .int (nI 1)), (14, .int ((nI ((sigM G.1 (atM (x % (G.1 110))) (G.1 77)).length)) - (nI ((sigM G.1 (atM ((x / 16) % (G.1 110))) (G.1 77)).length)))), (0, .ref (a 0)), (1, .int (nI x)), (2, .int (nI (G.1 110))), (3, .int (nI ((sigM G.1 0 (G.1 77)).length))), (6, .int (nI (G.1 0))), (7, .int (nI (hhow G.1 0 99))), (8, .int (byI (hnr G.1 0 99))), (9, .int (oneI (hnr G.1 0 99))), (10, .int (nI (x % (G.1 110)))), (11, .int (nI ((x / 16) % (G.1 110)))), (13, .int (nI (pdM G.1 (G.1 77) (x % (G.1 110)) ((x / 16) % (G.1 110)))))]) hx hb9 dL_holds_482 hl (by decide) rfl (fun ls hl => ?_)
    refine W.widen (k := cells + 2) (n := slots + 12) (by omega) (by omega) ?_
    exact kk H locs ls hO hS (lv_sub hl [2, 3, 4, 5, 0, 6, 7, 8, 9, 10, 11, 12] rfl)
theorem ho_b4c (hst : l.stackTraces = false) (F : gF p m c cL_holds 17 s args wsL_holds meth (some .boolean) D cc A) (hx2 : x < 2 ^ 31) (hn : 0 < G.1 110) (hO : HO D cc A a G Rw H) (hS : va_S A s.heap H locs) (hl : lv_has ls 17 [(0, .ref (a 0)), (1, .int (nI x)), (2, .int (nI (G.1 110))), (3, .int (nI ((sigM G.1 0 (G.1 77)).length))), (4, .int (nI 1)), (6, .int (nI (G.1 0))), (7, .int (nI (hhow G.1 0 99))), (8, .int (byI (hnr G.1 0 99))), (9, .int (oneI (hnr G.1 0 99))), (10, .int (nI (x % (G.1 110)))), (11, .int (nI ((x / 16) % (G.1 110)))), (13, .int (nI (pdM G.1 (G.1 77) (x % (G.1 110)) ((x / 16) % (G.1 110)))))]) (hf : cells + 10 ≤ rmHo.cells ∧ slots + 60 ≤ rmHo.slots)
    (kk : ∀ (H : Heap) (locs : List Loc) (ls : Array Slot), HO D cc A a (G) Rw H → va_S A s.heap H locs → lv_has ls 17 [(0, .ref (a 0)), (1, .int (nI x)), (2, .int (nI (G.1 110))), (3, .int (nI ((sigM G.1 0 (G.1 77)).length))), (4, .int (nI 1)), (6, .int (nI (G.1 0))), (7, .int (nI (hhow G.1 0 99))), (8, .int (byI (hnr G.1 0 99))), (9, .int (oneI (hnr G.1 0 99)))] → W p l e rmHo s m args below meth c H locs (cells + 10) (slots + 60) Q (F0 m 634 ls [])) : W p l e rmHo s m args below meth c H locs cells slots Q (F0 m 484 ls []) := by
  have hx := F.1.1.1
  have hb9 := F.1.1.2.1
  have hts := F.1.1.2.2.2.2
  have h := hO.inv
  have h16 := h.h16
  have h40 := h.hand.2
  have h3 := h.hand.1.1.1
  have cwR := va_cwS (rm := rmK 1 6) (R := rmHo) 5 hts gL_holds_L_call rfl rfl rfl (by decide +kernel) ⟨Nat.le_of_ble_eq_true rfl, Nat.le_of_ble_eq_true rfl⟩
  have cwV_closest : ∀ (rm : Room) (mc ms : Nat), rmG rm mc ms 1 6 → CallW rmHo s args RL RX6 _ yX6_closest _ _ _ wsX6_closest rm mc ms 0 := fun rm mc ms h => cwV 0 hts gL_holds_X6_closest rfl h.1 h.2.1 (by decide +kernel) ⟨by show rm.frames + 1 ≤ _; have := h.2.2.2.2.1; show rm.frames + 1 ≤ 10; omega, by show 8 + (_ + 11) + rm.locals ≤ 320; have := h.2.2.2.2.2; omega⟩
  have cwV_bestRuling : ∀ (rm : Room) (mc ms : Nat), rmG rm mc ms 1 6 → CallW rmHo s args RL RX6 _ yX6_bestRuling _ _ _ wsX6_bestRuling rm mc ms 0 := fun rm mc ms h => cwV 0 hts gL_holds_X6_bestRuling rfl h.1 h.2.1 (by decide +kernel) ⟨by show rm.frames + 1 ≤ _; have := h.2.2.2.2.1; show rm.frames + 1 ≤ 10; omega, by show 8 + (_ + 11) + rm.locals ≤ 320; have := h.2.2.2.2.2; omega⟩
  have cwV_byOthers : ∀ (rm : Room) (mc ms : Nat), rmG rm mc ms 1 6 → CallW rmHo s args RL RX6 _ yX6_byOthers _ _ _ wsX6_byOthers rm mc ms 0 := fun rm mc ms h => cwV 0 hts gL_holds_X6_byOthers rfl h.1 h.2.1 (by decide +kernel) ⟨by show rm.frames + 1 ≤ _; have := h.2.2.2.2.1; show rm.frames + 1 ≤ 10; omega, by show 8 + (_ + 11) + rm.locals ≤ 320; have := h.2.2.2.2.2; omega⟩
  have hA : x % (G.1 110) < G.1 110 := Nat.mod_lt _ hn
  have hB : (x / 16) % (G.1 110) < G.1 110 := Nat.mod_lt _ hn
  have hC : (x / 256) % (G.1 110) < G.1 110 := Nat.mod_lt _ hn
  have q1 := pd_le h hA hB
  have q2 := pd_le h hA hC
  have q3 := pd_le h hC hB
  have n1 := h.nm hA
  have n2 := h.nm hB
  cases ecl : clM (pdM G.1 (G.1 77)) (nmF G.1) (G.1 110) with
  | none =>
    refine lv_aload_n hx hb9 dL_holds_484 rfl (lv_at hl 0 rfl) ?_
    refine gstepV (rest := []) F (gN.v (sg_closest l hst D cc a G) (v' := ((-1 : Int32))) (by rw [ecl]; rfl)) cwV_closest hO hS hl rfl (Nat.le_of_ble_eq_true rfl) dL_holds_485 ⟨by omega, by omega⟩ (fun H locs hO hS => ?_)
    refine lv_istore (lv' := [(15, .int ((-1 : Int32))), (0, .ref (a 0)), (1, .int (nI x)), (2, .int (nI (G.1 110))), (3, .int (nI ((sigM G.1 0 (G.1 77)).length))), (4, .int (nI 1)), (6, .int (nI (G.1 0))), (7, .int (nI (hhow G.1 0 99))), (8, .int (byI (hnr G.1 0 99))), (9, .int (oneI (hnr G.1 0 99))), (10, .int (nI (x % (G.1 110)))), (11, .int (nI ((x / 16) % (G.1 110)))), (13, .int (nI (pdM G.1 (G.1 77) (x % (G.1 110)) ((x / 16) % (G.1 110)))))]) hx hb9 dL_holds_488 hl (by decide) rfl (fun ls hl => ?_)
    refine lv_aload_n hx hb9 dL_holds_490 rfl (lv_at hl 1 rfl) ?_
    refine lv_iconst (v := nI 3) hx hb9 dL_holds_491 (by decide) ?_
    refine lv_iload hx hb9 dL_holds_492 (lv_at hl 10 rfl) ?_
    refine lv_iconst (v := nI 0) hx hb9 dL_holds_494 (by decide) ?_
    refine lv_iconst (v := nI 0) hx hb9 dL_holds_495 (by decide) ?_
    refine gstepS (As := [.int (nI 3), .int (nI (x % (G.1 110))), .int (nI 0), .int (nI 0)]) (rest := []) F ((kq3 l hst D cc a G (nI (x % (G.1 110))) (nI 0) (nI 0)).v (v' := (nI (G.1 (atM (x % (G.1 110)) + 76)))) (sa0 h16 hA)) cwR hO hS hl rfl rfl (Nat.le_of_ble_eq_true rfl) dL_holds_496 ⟨by omega, by omega⟩ (fun H locs hO hS => ?_)
    refine lv_istore (lv' := [(16, .int (nI (G.1 (atM (x % (G.1 110)) + 76)))), (15, .int ((-1 : Int32))), (0, .ref (a 0)), (1, .int (nI x)), (2, .int (nI (G.1 110))), (3, .int (nI ((sigM G.1 0 (G.1 77)).length))), (4, .int (nI 1)), (6, .int (nI (G.1 0))), (7, .int (nI (hhow G.1 0 99))), (8, .int (byI (hnr G.1 0 99))), (9, .int (oneI (hnr G.1 0 99))), (10, .int (nI (x % (G.1 110)))), (11, .int (nI ((x / 16) % (G.1 110)))), (13, .int (nI (pdM G.1 (G.1 77) (x % (G.1 110)) ((x / 16) % (G.1 110)))))]) hx hb9 dL_holds_499 hl (by decide) rfl (fun ls hl => ?_)
    refine lv_iload hx hb9 dL_holds_501 (lv_at hl 6 rfl) ?_
    refine lv_if_eq (tgt := 631) hx hb9 dL_holds_503 (by decide) (fun c9 => absurd c9 (show ¬ nI 1 = 0 by decide)) (fun _ => ?_)
    refine lv_iload hx hb9 dL_holds_506 (lv_at hl 1 rfl) ?_
    refine lv_iconst (v := (-1 : Int32)) hx hb9 dL_holds_508 (by decide) ?_
    refine lv_icmp_ne (tgt := 529) hx hb9 dL_holds_509 (by decide) (fun c9 => absurd ((rfl : (_ : Int32) = _)) c9) (fun _ => ?_)
    refine lv_iload hx hb9 dL_holds_512 (lv_at hl 0 rfl) ?_
    refine lv_aload_n hx hb9 dL_holds_514 rfl (lv_at hl 2 rfl) ?_
    refine lv_iconst (v := nI 3) hx hb9 dL_holds_515 (by decide) ?_
    refine lv_iload hx hb9 dL_holds_516 (lv_at hl 12 rfl) ?_
    refine lv_iconst (v := nI 0) hx hb9 dL_holds_518 (by decide) ?_
    refine lv_iconst (v := nI 0) hx hb9 dL_holds_519 (by decide) ?_
    refine gstepS (As := [.int (nI 3), .int (nI ((x / 16) % (G.1 110))), .int (nI 0), .int (nI 0)]) (rest := [.int (nI (G.1 (atM (x % (G.1 110)) + 76)))]) F ((kq3 l hst D cc a G (nI ((x / 16) % (G.1 110))) (nI 0) (nI 0)).v (v' := (nI (G.1 (atM (x % (G.1 110)) + 76)))) ((sa0 h16 hB).trans (congrArg nI (clM_none ecl hB hA)))) cwR hO hS hl rfl rfl (Nat.le_of_ble_eq_true rfl) dL_holds_520 ⟨by omega, by omega⟩ (fun H locs hO hS => ?_)
    refine lv_icmp_ne (tgt := 631) hx hb9 dL_holds_523 (by decide) (fun c9 => absurd ((rfl : (_ : Int32) = _)) c9) (fun _ => ?_)
    refine lv_goto (tgt := 592) hx hb9 dL_holds_526 (by decide) ?_
    refine lv_iload hx hb9 dL_holds_592 (lv_at hl 1 rfl) ?_
    refine lv_iconst (v := (-1 : Int32)) hx hb9 dL_holds_594 (by decide) ?_
    refine lv_icmp_ne (tgt := 602) hx hb9 dL_holds_595 (by decide) (fun c9 => absurd ((rfl : (_ : Int32) = _)) c9) (fun _ => ?_)
    refine lv_iconst (v := nI 1) hx hb9 dL_holds_598 (by decide) ?_
    refine lv_goto (tgt := 603) hx hb9 dL_holds_599 (by decide) ?_
    refine lv_aload_n hx hb9 dL_holds_603 rfl (lv_at hl 2 rfl) ?_
    refine gstepV (rest := [.int (nI 1)]) F (gN.v (sg_bestRuling l hst D cc a G) (v' := ((-1 : Int32))) (by rw [br_none ecl]; rfl)) cwV_bestRuling hO hS hl rfl (Nat.le_of_ble_eq_true rfl) dL_holds_604 ⟨by omega, by omega⟩ (fun H locs hO hS => ?_)
    refine lv_iconst (v := (-1 : Int32)) hx hb9 dL_holds_607 (by decide) ?_
    refine lv_icmp_ne (tgt := 615) hx hb9 dL_holds_608 (by decide) (fun c9 => absurd ((rfl : (_ : Int32) = _)) c9) (fun _ => ?_)
    refine lv_iconst (v := nI 1) hx hb9 dL_holds_611 (by decide) ?_
    refine lv_goto (tgt := 616) hx hb9 dL_holds_612 (by decide) ?_
    refine lv_icmp_ne (tgt := 631) hx hb9 dL_holds_616 (by decide) (fun c9 => absurd ((rfl : (_ : Int32) = _)) c9) (fun _ => ?_)
    refine lv_aload_n hx hb9 dL_holds_619 rfl (lv_at hl 2 rfl) ?_
    refine gstepV (rest := []) F (gN.v (sg_byOthers l hst D cc a G) (v' := (nI (boM G.1 (G.1 110)))) (rfl)) cwV_byOthers hO hS hl rfl (Nat.le_of_ble_eq_true rfl) dL_holds_620 ⟨by omega, by omega⟩ (fun H locs hO hS => ?_)
    refine lv_iload_n hx hb9 dL_holds_623 rfl (lv_at hl 4 rfl) ?_
    refine lv_icmp_gt (tgt := 631) hx hb9 dL_holds_624 (by decide) (fun c9 => absurd c9 (nI_nlt (bo_le _ _) (by omega))) (fun _ => ?_)
    refine lv_iconst (v := nI 1) hx hb9 dL_holds_627 (by decide) ?_
    refine lv_goto (tgt := 632) hx hb9 dL_holds_628 (by decide) ?_
    refine lv_istore (lv' := [(4, .int (nI 1)), (16, .int (nI (G.1 (atM (x % (G.1 110)) + 76)))), (15, .int ((-1 : Int32))), (0, .ref (a 0)), (1, .int (nI x)), (2, .int (nI (G.1 110))), (3, .int (nI ((sigM G.1 0 (G.1 77)).length))), (6, .int (nI (G.1 0))), (7, .int (nI (hhow G.1 0 99))), (8, .int (byI (hnr G.1 0 99))), (9, .int (oneI (hnr G.1 0 99))), (10, .int (nI (x % (G.1 110)))), (11, .int (nI ((x / 16) % (G.1 110)))), (13, .int (nI (pdM G.1 (G.1 77) (x % (G.1 110)) ((x / 16) % (G.1 110)))))]) hx hb9 dL_holds_632 hl (by decide) rfl (fun ls hl => ?_)
    refine W.widen (k := cells + 10) (n := slots + 60) (by omega) (by omega) ?_
    exact kk H locs ls hO hS (lv_sub hl [3, 4, 5, 6, 0, 7, 8, 9, 10] rfl)
  | some p9 =>
    obtain ⟨ps, pt, pd⟩ := p9
    obtain ⟨c1, c2, c3, -, c5⟩ := clM_some ecl (fun s t => pdM_symm _ _ s t)
    have c1 : ps < pt := c1
    have c2 : pt < G.1 110 := c2
    have c3 : G.1 (atM ps + 76) ≠ G.1 (atM pt + 76) := c3
    have c5 : ∀ s t, s < G.1 110 → t < G.1 110 → nmF G.1 s ≠ nmF G.1 t → pdM G.1 (G.1 77) ps pt ≤ pdM G.1 (G.1 77) s t := c5
    have e100 : (100 * ps + pt) / 100 = ps := by omega
    have e101 : (100 * ps + pt) % 100 = pt := by omega
    have n3 := h.nm (s := ps) (by omega)
    have n4 := h.nm (s := pt) (by omega)
    obtain ⟨q9, hq⟩ := br_some h ecl
    have hp9 : pdM G.1 (G.1 77) ps pt ≤ 240 := pd_le h (by omega) (by omega)
    by_cases zz : G.1 (atM (x % (G.1 110)) + 76) = G.1 (atM ((x / 16) % (G.1 110)) + 76)
    · refine lv_aload_n hx hb9 dL_holds_484 rfl (lv_at hl 0 rfl) ?_
      refine gstepV (rest := []) F (gN.v (sg_closest l hst D cc a G) (v' := (nI (100 * ps + pt))) (by rw [ecl]; rfl)) cwV_closest hO hS hl rfl (Nat.le_of_ble_eq_true rfl) dL_holds_485 ⟨by omega, by omega⟩ (fun H locs hO hS => ?_)
      refine lv_istore (lv' := [(15, .int (nI (100 * ps + pt))), (0, .ref (a 0)), (1, .int (nI x)), (2, .int (nI (G.1 110))), (3, .int (nI ((sigM G.1 0 (G.1 77)).length))), (4, .int (nI 1)), (6, .int (nI (G.1 0))), (7, .int (nI (hhow G.1 0 99))), (8, .int (byI (hnr G.1 0 99))), (9, .int (oneI (hnr G.1 0 99))), (10, .int (nI (x % (G.1 110)))), (11, .int (nI ((x / 16) % (G.1 110)))), (13, .int (nI (pdM G.1 (G.1 77) (x % (G.1 110)) ((x / 16) % (G.1 110)))))]) hx hb9 dL_holds_488 hl (by decide) rfl (fun ls hl => ?_)
      refine lv_aload_n hx hb9 dL_holds_490 rfl (lv_at hl 1 rfl) ?_
      refine lv_iconst (v := nI 3) hx hb9 dL_holds_491 (by decide) ?_
      refine lv_iload hx hb9 dL_holds_492 (lv_at hl 10 rfl) ?_
      refine lv_iconst (v := nI 0) hx hb9 dL_holds_494 (by decide) ?_
      refine lv_iconst (v := nI 0) hx hb9 dL_holds_495 (by decide) ?_
      refine gstepS (As := [.int (nI 3), .int (nI (x % (G.1 110))), .int (nI 0), .int (nI 0)]) (rest := []) F ((kq3 l hst D cc a G (nI (x % (G.1 110))) (nI 0) (nI 0)).v (v' := (nI (G.1 (atM (x % (G.1 110)) + 76)))) (sa0 h16 hA)) cwR hO hS hl rfl rfl (Nat.le_of_ble_eq_true rfl) dL_holds_496 ⟨by omega, by omega⟩ (fun H locs hO hS => ?_)
      refine lv_istore (lv' := [(16, .int (nI (G.1 (atM (x % (G.1 110)) + 76)))), (15, .int (nI (100 * ps + pt))), (0, .ref (a 0)), (1, .int (nI x)), (2, .int (nI (G.1 110))), (3, .int (nI ((sigM G.1 0 (G.1 77)).length))), (4, .int (nI 1)), (6, .int (nI (G.1 0))), (7, .int (nI (hhow G.1 0 99))), (8, .int (byI (hnr G.1 0 99))), (9, .int (oneI (hnr G.1 0 99))), (10, .int (nI (x % (G.1 110)))), (11, .int (nI ((x / 16) % (G.1 110)))), (13, .int (nI (pdM G.1 (G.1 77) (x % (G.1 110)) ((x / 16) % (G.1 110)))))]) hx hb9 dL_holds_499 hl (by decide) rfl (fun ls hl => ?_)
      refine lv_iload hx hb9 dL_holds_501 (lv_at hl 6 rfl) ?_
      refine lv_if_eq (tgt := 631) hx hb9 dL_holds_503 (by decide) (fun c9 => absurd c9 (show ¬ nI 1 = 0 by decide)) (fun _ => ?_)
      refine lv_iload hx hb9 dL_holds_506 (lv_at hl 1 rfl) ?_
      refine lv_iconst (v := (-1 : Int32)) hx hb9 dL_holds_508 (by decide) ?_
      refine lv_icmp_ne (tgt := 529) hx hb9 dL_holds_509 (by decide) (fun _ => ?_) (fun c9 => absurd c9 (nI_m1 (by omega)))
      refine lv_aload_n hx hb9 dL_holds_529 rfl (lv_at hl 2 rfl) ?_
      refine lv_iconst (v := nI 3) hx hb9 dL_holds_530 (by decide) ?_
      refine lv_iload hx hb9 dL_holds_531 (lv_at hl 1 rfl) ?_
      refine lv_bipush (v := nI 100) hx hb9 dL_holds_533 (by decide) ?_
      refine gr_idiv hx hb9 dL_holds_535 (by omega) (by omega) (by omega) ?_
      refine lv_iconst (v := nI 0) hx hb9 dL_holds_536 (by decide) ?_
      refine lv_iconst (v := nI 0) hx hb9 dL_holds_537 (by decide) ?_
      refine gstepS (As := [.int (nI 3), .int (nI ((100 * ps + pt) / 100)), .int (nI 0), .int (nI 0)]) (rest := []) F ((kq3 l hst D cc a G (nI ((100 * ps + pt) / 100)) (nI 0) (nI 0)).v (v' := (nI (G.1 (atM ps + 76)))) (by rw [e100]; exact sa0 h16 (by omega))) cwR hO hS hl rfl rfl (Nat.le_of_ble_eq_true rfl) dL_holds_538 ⟨by omega, by omega⟩ (fun H locs hO hS => ?_)
      refine lv_aload_n hx hb9 dL_holds_541 rfl (lv_at hl 2 rfl) ?_
      refine lv_iconst (v := nI 3) hx hb9 dL_holds_542 (by decide) ?_
      refine lv_iload hx hb9 dL_holds_543 (lv_at hl 1 rfl) ?_
      refine lv_bipush (v := nI 100) hx hb9 dL_holds_545 (by decide) ?_
      refine gr_irem hx hb9 dL_holds_547 (by omega) (by omega) (by omega) ?_
      refine lv_iconst (v := nI 0) hx hb9 dL_holds_548 (by decide) ?_
      refine lv_iconst (v := nI 0) hx hb9 dL_holds_549 (by decide) ?_
      refine gstepS (As := [.int (nI 3), .int (nI ((100 * ps + pt) % 100)), .int (nI 0), .int (nI 0)]) (rest := [.int (nI (G.1 (atM ps + 76)))]) F ((kq3 l hst D cc a G (nI ((100 * ps + pt) % 100)) (nI 0) (nI 0)).v (v' := (nI (G.1 (atM pt + 76)))) (by rw [e101]; exact sa0 h16 (by omega))) cwR hO hS hl rfl rfl (Nat.le_of_ble_eq_true rfl) dL_holds_550 ⟨by omega, by omega⟩ (fun H locs hO hS => ?_)
      refine lv_icmp_eq (tgt := 631) hx hb9 dL_holds_553 (by decide) (fun c9 => absurd c9 (nI_no (by omega) (by omega) c3)) (fun _ => ?_)
      refine lv_iload hx hb9 dL_holds_556 (lv_at hl 0 rfl) ?_
      refine lv_aload_n hx hb9 dL_holds_558 rfl (lv_at hl 2 rfl) ?_
      refine lv_iconst (v := nI 3) hx hb9 dL_holds_559 (by decide) ?_
      refine lv_iload hx hb9 dL_holds_560 (lv_at hl 12 rfl) ?_
      refine lv_iconst (v := nI 0) hx hb9 dL_holds_562 (by decide) ?_
      refine lv_iconst (v := nI 0) hx hb9 dL_holds_563 (by decide) ?_
      refine gstepS (As := [.int (nI 3), .int (nI ((x / 16) % (G.1 110))), .int (nI 0), .int (nI 0)]) (rest := [.int (nI (G.1 (atM (x % (G.1 110)) + 76)))]) F ((kq3 l hst D cc a G (nI ((x / 16) % (G.1 110))) (nI 0) (nI 0)).v (v' := (nI (G.1 (atM ((x / 16) % (G.1 110)) + 76)))) (sa0 h16 hB)) cwR hO hS hl rfl rfl (Nat.le_of_ble_eq_true rfl) dL_holds_564 ⟨by omega, by omega⟩ (fun H locs hO hS => ?_)
      refine lv_icmp_eq (tgt := 592) hx hb9 dL_holds_567 (by decide) (fun _ => ?_) (fun c9 => absurd ((show nI (G.1 (atM (x % (G.1 110)) + 76)) = nI (G.1 (atM ((x / 16) % (G.1 110)) + 76)) by rw [zz])) c9)
      refine lv_iload hx hb9 dL_holds_592 (lv_at hl 1 rfl) ?_
      refine lv_iconst (v := (-1 : Int32)) hx hb9 dL_holds_594 (by decide) ?_
      refine lv_icmp_ne (tgt := 602) hx hb9 dL_holds_595 (by decide) (fun _ => ?_) (fun c9 => absurd c9 (nI_m1 (by omega)))
      refine lv_iconst (v := nI 0) hx hb9 dL_holds_602 (by decide) ?_
      refine lv_aload_n hx hb9 dL_holds_603 rfl (lv_at hl 2 rfl) ?_
      refine gstepV (rest := [.int (nI 0)]) F (sg_bestRuling l hst D cc a G) cwV_bestRuling hO hS hl rfl (Nat.le_of_ble_eq_true rfl) dL_holds_604 ⟨by omega, by omega⟩ (fun H locs hO hS => ?_)
      refine lv_iconst (v := (-1 : Int32)) hx hb9 dL_holds_607 (by decide) ?_
      refine lv_icmp_ne (tgt := 615) hx hb9 dL_holds_608 (by decide) (fun _ => ?_) (fun c9 => absurd c9 (b1I_no h hq))
      refine lv_iconst (v := nI 0) hx hb9 dL_holds_615 (by decide) ?_
      refine lv_icmp_ne (tgt := 631) hx hb9 dL_holds_616 (by decide) (fun c9 => absurd ((rfl : (_ : Int32) = _)) c9) (fun _ => ?_)
      refine lv_aload_n hx hb9 dL_holds_619 rfl (lv_at hl 2 rfl) ?_
      refine gstepV (rest := []) F (gN.v (sg_byOthers l hst D cc a G) (v' := (nI (boM G.1 (G.1 110)))) (rfl)) cwV_byOthers hO hS hl rfl (Nat.le_of_ble_eq_true rfl) dL_holds_620 ⟨by omega, by omega⟩ (fun H locs hO hS => ?_)
      refine lv_iload_n hx hb9 dL_holds_623 rfl (lv_at hl 4 rfl) ?_
      refine lv_icmp_gt (tgt := 631) hx hb9 dL_holds_624 (by decide) (fun c9 => absurd c9 (nI_nlt (bo_le _ _) (by omega))) (fun _ => ?_)
      refine lv_iconst (v := nI 1) hx hb9 dL_holds_627 (by decide) ?_
      refine lv_goto (tgt := 632) hx hb9 dL_holds_628 (by decide) ?_
      refine lv_istore (lv' := [(4, .int (nI 1)), (16, .int (nI (G.1 (atM (x % (G.1 110)) + 76)))), (15, .int (nI (100 * ps + pt))), (0, .ref (a 0)), (1, .int (nI x)), (2, .int (nI (G.1 110))), (3, .int (nI ((sigM G.1 0 (G.1 77)).length))), (6, .int (nI (G.1 0))), (7, .int (nI (hhow G.1 0 99))), (8, .int (byI (hnr G.1 0 99))), (9, .int (oneI (hnr G.1 0 99))), (10, .int (nI (x % (G.1 110)))), (11, .int (nI ((x / 16) % (G.1 110)))), (13, .int (nI (pdM G.1 (G.1 77) (x % (G.1 110)) ((x / 16) % (G.1 110)))))]) hx hb9 dL_holds_632 hl (by decide) rfl (fun ls hl => ?_)
      refine W.widen (k := cells + 10) (n := slots + 60) (by omega) (by omega) ?_
      exact kk H locs ls hO hS (lv_sub hl [3, 4, 5, 6, 0, 7, 8, 9, 10] rfl)
    · refine lv_aload_n hx hb9 dL_holds_484 rfl (lv_at hl 0 rfl) ?_
      refine gstepV (rest := []) F (gN.v (sg_closest l hst D cc a G) (v' := (nI (100 * ps + pt))) (by rw [ecl]; rfl)) cwV_closest hO hS hl rfl (Nat.le_of_ble_eq_true rfl) dL_holds_485 ⟨by omega, by omega⟩ (fun H locs hO hS => ?_)
      refine lv_istore (lv' := [(15, .int (nI (100 * ps + pt))), (0, .ref (a 0)), (1, .int (nI x)), (2, .int (nI (G.1 110))), (3, .int (nI ((sigM G.1 0 (G.1 77)).length))), (4, .int (nI 1)), (6, .int (nI (G.1 0))), (7, .int (nI (hhow G.1 0 99))), (8, .int (byI (hnr G.1 0 99))), (9, .int (oneI (hnr G.1 0 99))), (10, .int (nI (x % (G.1 110)))), (11, .int (nI ((x / 16) % (G.1 110)))), (13, .int (nI (pdM G.1 (G.1 77) (x % (G.1 110)) ((x / 16) % (G.1 110)))))]) hx hb9 dL_holds_488 hl (by decide) rfl (fun ls hl => ?_)
      refine lv_aload_n hx hb9 dL_holds_490 rfl (lv_at hl 1 rfl) ?_
      refine lv_iconst (v := nI 3) hx hb9 dL_holds_491 (by decide) ?_
      refine lv_iload hx hb9 dL_holds_492 (lv_at hl 10 rfl) ?_
      refine lv_iconst (v := nI 0) hx hb9 dL_holds_494 (by decide) ?_
      refine lv_iconst (v := nI 0) hx hb9 dL_holds_495 (by decide) ?_
      refine gstepS (As := [.int (nI 3), .int (nI (x % (G.1 110))), .int (nI 0), .int (nI 0)]) (rest := []) F ((kq3 l hst D cc a G (nI (x % (G.1 110))) (nI 0) (nI 0)).v (v' := (nI (G.1 (atM (x % (G.1 110)) + 76)))) (sa0 h16 hA)) cwR hO hS hl rfl rfl (Nat.le_of_ble_eq_true rfl) dL_holds_496 ⟨by omega, by omega⟩ (fun H locs hO hS => ?_)
      refine lv_istore (lv' := [(16, .int (nI (G.1 (atM (x % (G.1 110)) + 76)))), (15, .int (nI (100 * ps + pt))), (0, .ref (a 0)), (1, .int (nI x)), (2, .int (nI (G.1 110))), (3, .int (nI ((sigM G.1 0 (G.1 77)).length))), (4, .int (nI 1)), (6, .int (nI (G.1 0))), (7, .int (nI (hhow G.1 0 99))), (8, .int (byI (hnr G.1 0 99))), (9, .int (oneI (hnr G.1 0 99))), (10, .int (nI (x % (G.1 110)))), (11, .int (nI ((x / 16) % (G.1 110)))), (13, .int (nI (pdM G.1 (G.1 77) (x % (G.1 110)) ((x / 16) % (G.1 110)))))]) hx hb9 dL_holds_499 hl (by decide) rfl (fun ls hl => ?_)
      refine lv_iload hx hb9 dL_holds_501 (lv_at hl 6 rfl) ?_
      refine lv_if_eq (tgt := 631) hx hb9 dL_holds_503 (by decide) (fun c9 => absurd c9 (show ¬ nI 1 = 0 by decide)) (fun _ => ?_)
      refine lv_iload hx hb9 dL_holds_506 (lv_at hl 1 rfl) ?_
      refine lv_iconst (v := (-1 : Int32)) hx hb9 dL_holds_508 (by decide) ?_
      refine lv_icmp_ne (tgt := 529) hx hb9 dL_holds_509 (by decide) (fun _ => ?_) (fun c9 => absurd c9 (nI_m1 (by omega)))
      refine lv_aload_n hx hb9 dL_holds_529 rfl (lv_at hl 2 rfl) ?_
      refine lv_iconst (v := nI 3) hx hb9 dL_holds_530 (by decide) ?_
      refine lv_iload hx hb9 dL_holds_531 (lv_at hl 1 rfl) ?_
      refine lv_bipush (v := nI 100) hx hb9 dL_holds_533 (by decide) ?_
      refine gr_idiv hx hb9 dL_holds_535 (by omega) (by omega) (by omega) ?_
      refine lv_iconst (v := nI 0) hx hb9 dL_holds_536 (by decide) ?_
      refine lv_iconst (v := nI 0) hx hb9 dL_holds_537 (by decide) ?_
      refine gstepS (As := [.int (nI 3), .int (nI ((100 * ps + pt) / 100)), .int (nI 0), .int (nI 0)]) (rest := []) F ((kq3 l hst D cc a G (nI ((100 * ps + pt) / 100)) (nI 0) (nI 0)).v (v' := (nI (G.1 (atM ps + 76)))) (by rw [e100]; exact sa0 h16 (by omega))) cwR hO hS hl rfl rfl (Nat.le_of_ble_eq_true rfl) dL_holds_538 ⟨by omega, by omega⟩ (fun H locs hO hS => ?_)
      refine lv_aload_n hx hb9 dL_holds_541 rfl (lv_at hl 2 rfl) ?_
      refine lv_iconst (v := nI 3) hx hb9 dL_holds_542 (by decide) ?_
      refine lv_iload hx hb9 dL_holds_543 (lv_at hl 1 rfl) ?_
      refine lv_bipush (v := nI 100) hx hb9 dL_holds_545 (by decide) ?_
      refine gr_irem hx hb9 dL_holds_547 (by omega) (by omega) (by omega) ?_
      refine lv_iconst (v := nI 0) hx hb9 dL_holds_548 (by decide) ?_
      refine lv_iconst (v := nI 0) hx hb9 dL_holds_549 (by decide) ?_
      refine gstepS (As := [.int (nI 3), .int (nI ((100 * ps + pt) % 100)), .int (nI 0), .int (nI 0)]) (rest := [.int (nI (G.1 (atM ps + 76)))]) F ((kq3 l hst D cc a G (nI ((100 * ps + pt) % 100)) (nI 0) (nI 0)).v (v' := (nI (G.1 (atM pt + 76)))) (by rw [e101]; exact sa0 h16 (by omega))) cwR hO hS hl rfl rfl (Nat.le_of_ble_eq_true rfl) dL_holds_550 ⟨by omega, by omega⟩ (fun H locs hO hS => ?_)
      refine lv_icmp_eq (tgt := 631) hx hb9 dL_holds_553 (by decide) (fun c9 => absurd c9 (nI_no (by omega) (by omega) c3)) (fun _ => ?_)
      refine lv_iload hx hb9 dL_holds_556 (lv_at hl 0 rfl) ?_
      refine lv_aload_n hx hb9 dL_holds_558 rfl (lv_at hl 2 rfl) ?_
      refine lv_iconst (v := nI 3) hx hb9 dL_holds_559 (by decide) ?_
      refine lv_iload hx hb9 dL_holds_560 (lv_at hl 12 rfl) ?_
      refine lv_iconst (v := nI 0) hx hb9 dL_holds_562 (by decide) ?_
      refine lv_iconst (v := nI 0) hx hb9 dL_holds_563 (by decide) ?_
      refine gstepS (As := [.int (nI 3), .int (nI ((x / 16) % (G.1 110))), .int (nI 0), .int (nI 0)]) (rest := [.int (nI (G.1 (atM (x % (G.1 110)) + 76)))]) F ((kq3 l hst D cc a G (nI ((x / 16) % (G.1 110))) (nI 0) (nI 0)).v (v' := (nI (G.1 (atM ((x / 16) % (G.1 110)) + 76)))) (sa0 h16 hB)) cwR hO hS hl rfl rfl (Nat.le_of_ble_eq_true rfl) dL_holds_564 ⟨by omega, by omega⟩ (fun H locs hO hS => ?_)
      refine lv_icmp_eq (tgt := 592) hx hb9 dL_holds_567 (by decide) (fun c9 => absurd c9 (nI_no (by omega) (by omega) zz)) (fun _ => ?_)
      refine lv_aload_n hx hb9 dL_holds_570 rfl (lv_at hl 2 rfl) ?_
      refine lv_bipush (v := nI 16) hx hb9 dL_holds_571 (by decide) ?_
      refine lv_iload hx hb9 dL_holds_573 (lv_at hl 1 rfl) ?_
      refine lv_bipush (v := nI 100) hx hb9 dL_holds_575 (by decide) ?_
      refine gr_idiv hx hb9 dL_holds_577 (by omega) (by omega) (by omega) ?_
      refine lv_iload hx hb9 dL_holds_578 (lv_at hl 1 rfl) ?_
      refine lv_bipush (v := nI 100) hx hb9 dL_holds_580 (by decide) ?_
      refine gr_irem hx hb9 dL_holds_582 (by omega) (by omega) (by omega) ?_
      refine lv_iconst (v := nI 0) hx hb9 dL_holds_583 (by decide) ?_
      refine gstepS (As := [.int (nI 16), .int (nI ((100 * ps + pt) / 100)), .int (nI ((100 * ps + pt) % 100)), .int (nI 0)]) (rest := []) F ((kq16 l hst D cc a G (nI ((100 * ps + pt) / 100)) (nI ((100 * ps + pt) % 100)) (nI 0)).v (v' := (nI (pdM G.1 (G.1 77) ps pt))) (by rw [e100, e101]; exact be_in h16 (by omega) (by omega))) cwR hO hS hl rfl rfl (Nat.le_of_ble_eq_true rfl) dL_holds_584 ⟨by omega, by omega⟩ (fun H locs hO hS => ?_)
      refine lv_iload hx hb9 dL_holds_587 (lv_at hl 13 rfl) ?_
      refine lv_icmp_gt (tgt := 631) hx hb9 dL_holds_589 (by decide) (fun c9 => absurd c9 (nI_nlt (c5 _ _ hA hB zz) (by omega))) (fun _ => ?_)
      refine lv_iload hx hb9 dL_holds_592 (lv_at hl 1 rfl) ?_
      refine lv_iconst (v := (-1 : Int32)) hx hb9 dL_holds_594 (by decide) ?_
      refine lv_icmp_ne (tgt := 602) hx hb9 dL_holds_595 (by decide) (fun _ => ?_) (fun c9 => absurd c9 (nI_m1 (by omega)))
      refine lv_iconst (v := nI 0) hx hb9 dL_holds_602 (by decide) ?_
      refine lv_aload_n hx hb9 dL_holds_603 rfl (lv_at hl 2 rfl) ?_
      refine gstepV (rest := [.int (nI 0)]) F (sg_bestRuling l hst D cc a G) cwV_bestRuling hO hS hl rfl (Nat.le_of_ble_eq_true rfl) dL_holds_604 ⟨by omega, by omega⟩ (fun H locs hO hS => ?_)
      refine lv_iconst (v := (-1 : Int32)) hx hb9 dL_holds_607 (by decide) ?_
      refine lv_icmp_ne (tgt := 615) hx hb9 dL_holds_608 (by decide) (fun _ => ?_) (fun c9 => absurd c9 (b1I_no h hq))
      refine lv_iconst (v := nI 0) hx hb9 dL_holds_615 (by decide) ?_
      refine lv_icmp_ne (tgt := 631) hx hb9 dL_holds_616 (by decide) (fun c9 => absurd ((rfl : (_ : Int32) = _)) c9) (fun _ => ?_)
      refine lv_aload_n hx hb9 dL_holds_619 rfl (lv_at hl 2 rfl) ?_
      refine gstepV (rest := []) F (gN.v (sg_byOthers l hst D cc a G) (v' := (nI (boM G.1 (G.1 110)))) (rfl)) cwV_byOthers hO hS hl rfl (Nat.le_of_ble_eq_true rfl) dL_holds_620 ⟨by omega, by omega⟩ (fun H locs hO hS => ?_)
      refine lv_iload_n hx hb9 dL_holds_623 rfl (lv_at hl 4 rfl) ?_
      refine lv_icmp_gt (tgt := 631) hx hb9 dL_holds_624 (by decide) (fun c9 => absurd c9 (nI_nlt (bo_le _ _) (by omega))) (fun _ => ?_)
      refine lv_iconst (v := nI 1) hx hb9 dL_holds_627 (by decide) ?_
      refine lv_goto (tgt := 632) hx hb9 dL_holds_628 (by decide) ?_
      refine lv_istore (lv' := [(4, .int (nI 1)), (16, .int (nI (G.1 (atM (x % (G.1 110)) + 76)))), (15, .int (nI (100 * ps + pt))), (0, .ref (a 0)), (1, .int (nI x)), (2, .int (nI (G.1 110))), (3, .int (nI ((sigM G.1 0 (G.1 77)).length))), (6, .int (nI (G.1 0))), (7, .int (nI (hhow G.1 0 99))), (8, .int (byI (hnr G.1 0 99))), (9, .int (oneI (hnr G.1 0 99))), (10, .int (nI (x % (G.1 110)))), (11, .int (nI ((x / 16) % (G.1 110)))), (13, .int (nI (pdM G.1 (G.1 77) (x % (G.1 110)) ((x / 16) % (G.1 110)))))]) hx hb9 dL_holds_632 hl (by decide) rfl (fun ls hl => ?_)
      refine W.widen (k := cells + 10) (n := slots + 60) (by omega) (by omega) ?_
      exact kk H locs ls hO hS (lv_sub hl [3, 4, 5, 6, 0, 7, 8, 9, 10] rfl)
theorem ho_b5 (hst : l.stackTraces = false) (F : gF p m c cL_holds 17 s args wsL_holds meth (some .boolean) D cc A) (hx2 : x < 2 ^ 31) (hO : HO D cc A a G Rw H) (hS : va_S A s.heap H locs) (hl : lv_has ls 17 [(0, .ref (a 0)), (1, .int (nI x)), (2, .int (nI (G.1 110))), (3, .int (nI ((sigM G.1 0 (G.1 77)).length))), (4, .int (nI 1)), (6, .int (nI (G.1 0))), (7, .int (nI (hhow G.1 0 99))), (8, .int (byI (hnr G.1 0 99))), (9, .int (oneI (hnr G.1 0 99)))]) (hf : cells + 2 ≤ rmHo.cells ∧ slots + 12 ≤ rmHo.slots)
    (kk : ∀ (H : Heap) (locs : List Loc) (ls : Array Slot), HO D cc A a (G) Rw H → va_S A s.heap H locs → lv_has ls 17 [(0, .ref (a 0)), (1, .int (nI x)), (2, .int (nI (G.1 110))), (3, .int (nI ((sigM G.1 0 (G.1 77)).length))), (4, .int (nI 1)), (6, .int (nI (G.1 0))), (7, .int (nI (hhow G.1 0 99))), (8, .int (byI (hnr G.1 0 99))), (9, .int (oneI (hnr G.1 0 99))), (10, .int (nI ((x / 4096) % 10))), (11, .int (nI (G.1 (80 + ((x / 4096) % 10))))), (12, .int (nI (suM G.1)))] → W p l e rmHo s m args below meth c H locs (cells + 2) (slots + 12) Q (F0 m 665 ls [])) : W p l e rmHo s m args below meth c H locs cells slots Q (F0 m 634 ls []) := by
  have hx := F.1.1.1
  have hb9 := F.1.1.2.1
  have hts := F.1.1.2.2.2.2
  have h := hO.inv
  have h16 := h.h16
  have h40 := h.hand.2
  have h3 := h.hand.1.1.1
  have cwR := va_cwS (rm := rmK 1 6) (R := rmHo) 5 hts gL_holds_L_call rfl rfl rfl (by decide +kernel) ⟨Nat.le_of_ble_eq_true rfl, Nat.le_of_ble_eq_true rfl⟩
  refine lv_iload_n hx hb9 dL_holds_634 rfl (lv_at hl 1 rfl) ?_
  refine lv_sipush (v := nI 4096) hx hb9 dL_holds_635 (by decide) ?_
  refine gr_idiv hx hb9 dL_holds_638 (by omega) (by omega) (by omega) ?_
  refine lv_bipush (v := nI 10) hx hb9 dL_holds_639 (by decide) ?_
  refine gr_irem hx hb9 dL_holds_641 (by omega) (by omega) (by omega) ?_
  refine lv_istore (lv' := [(10, .int (nI ((x / 4096) % 10))), (0, .ref (a 0)), (1, .int (nI x)), (2, .int (nI (G.1 110))), (3, .int (nI ((sigM G.1 0 (G.1 77)).length))), (4, .int (nI 1)), (6, .int (nI (G.1 0))), (7, .int (nI (hhow G.1 0 99))), (8, .int (byI (hnr G.1 0 99))), (9, .int (oneI (hnr G.1 0 99)))]) hx hb9 dL_holds_642 hl (by decide) rfl (fun ls hl => ?_)
  refine lv_aload_n hx hb9 dL_holds_644 rfl (lv_at hl 1 rfl) ?_
  refine lv_iconst (v := nI 5) hx hb9 dL_holds_645 (by decide) ?_
  refine lv_iload hx hb9 dL_holds_646 (lv_at hl 0 rfl) ?_
  refine lv_iconst (v := nI 0) hx hb9 dL_holds_648 (by decide) ?_
  refine lv_iconst (v := nI 0) hx hb9 dL_holds_649 (by decide) ?_
  refine gstepS (As := [.int (nI 5), .int (nI ((x / 4096) % 10)), .int (nI 0), .int (nI 0)]) (rest := []) F ((kq5 l hst D cc a G (nI ((x / 4096) % 10)) (nI 0) (nI 0)).v (v' := (nI (G.1 (80 + ((x / 4096) % 10))))) (pp0 _ (Nat.mod_lt _ (by omega)))) cwR hO hS hl rfl rfl (Nat.le_of_ble_eq_true rfl) dL_holds_650 ⟨by omega, by omega⟩ (fun H locs hO hS => ?_)
  refine lv_istore (lv' := [(11, .int (nI (G.1 (80 + ((x / 4096) % 10))))), (10, .int (nI ((x / 4096) % 10))), (0, .ref (a 0)), (1, .int (nI x)), (2, .int (nI (G.1 110))), (3, .int (nI ((sigM G.1 0 (G.1 77)).length))), (4, .int (nI 1)), (6, .int (nI (G.1 0))), (7, .int (nI (hhow G.1 0 99))), (8, .int (byI (hnr G.1 0 99))), (9, .int (oneI (hnr G.1 0 99)))]) hx hb9 dL_holds_653 hl (by decide) rfl (fun ls hl => ?_)
  refine lv_aload_n hx hb9 dL_holds_655 rfl (lv_at hl 2 rfl) ?_
  refine lv_iconst (v := nI 1) hx hb9 dL_holds_656 (by decide) ?_
  refine lv_iconst (v := nI 5) hx hb9 dL_holds_657 (by decide) ?_
  refine lv_iconst (v := nI 0) hx hb9 dL_holds_658 (by decide) ?_
  refine lv_iconst (v := nI 0) hx hb9 dL_holds_659 (by decide) ?_
  refine gstepS (As := [.int (nI 1), .int (nI 5), .int (nI 0), .int (nI 0)]) (rest := []) F ((kq1 l hst D cc a G (nI 5) (nI 0) (nI 0)).v (v' := (nI (suM G.1))) (ab5s _)) cwR hO hS hl rfl rfl (Nat.le_of_ble_eq_true rfl) dL_holds_660 ⟨by omega, by omega⟩ (fun H locs hO hS => ?_)
  refine lv_istore (lv' := [(12, .int (nI (suM G.1))), (11, .int (nI (G.1 (80 + ((x / 4096) % 10))))), (10, .int (nI ((x / 4096) % 10))), (0, .ref (a 0)), (1, .int (nI x)), (2, .int (nI (G.1 110))), (3, .int (nI ((sigM G.1 0 (G.1 77)).length))), (4, .int (nI 1)), (6, .int (nI (G.1 0))), (7, .int (nI (hhow G.1 0 99))), (8, .int (byI (hnr G.1 0 99))), (9, .int (oneI (hnr G.1 0 99)))]) hx hb9 dL_holds_663 hl (by decide) rfl (fun ls hl => ?_)
  refine W.widen (k := cells + 2) (n := slots + 12) (by omega) (by omega) ?_
  exact kk H locs ls hO hS (lv_sub hl [3, 4, 5, 6, 7, 8, 9, 10, 11, 2, 1, 0] rfl)
/-- from the entry to the practising -/
theorem ho_pre (hst : l.stackTraces = false) (F : gF p m c cL_holds 17 s args wsL_holds meth (some .boolean) D cc A) (hx2 : x < 2 ^ 31) (hO : HO D cc A a G Rw H) (hS : va_S A s.heap H locs) (hl : lv_has ls 17 [(0, .ref (a 0)), (1, .int (nI x))]) (hf : cells + 72 ≤ rmHo.cells ∧ slots + 432 ≤ rmHo.slots)
    (kk : ∀ (H : Heap) (locs : List Loc) (ls : Array Slot), HO D cc A a G Rw H → va_S A s.heap H locs → lv_has ls 17 [(0, .ref (a 0)), (1, .int (nI x)), (2, .int (nI (G.1 110))), (3, .int (nI ((sigM G.1 0 (G.1 77)).length))), (4, .int (nI 1)), (6, .int (nI (G.1 0))), (7, .int (nI (hhow G.1 0 99))), (8, .int (byI (hnr G.1 0 99))), (9, .int (oneI (hnr G.1 0 99))), (10, .int (nI ((x / 4096) % 10))), (11, .int (nI (G.1 (80 + ((x / 4096) % 10))))), (12, .int (nI (suM G.1)))] → W p l e rmHo s m args below meth c H locs (cells + 72) (slots + 432) Q (F0 m 665 ls [])) : W p l e rmHo s m args below meth c H locs cells slots Q (F0 m 0 ls []) := by
  have h := hO.inv
  have h40 := h.hand.2
  refine ho_b1 hst F hx2 hO hS hl ⟨by omega, by omega⟩ (fun H locs ls hO hS hl => ?_)
  refine ho_l hst F (sigM G.1 0 (G.1 77)).length 0 (by omega) H locs ls _ _ hO hS hl ⟨by omega, by omega⟩ (fun H locs ls hO hS hl => ?_)
  refine ho_b2 hst F hO hS hl ⟨by omega, by omega⟩ (fun H locs ls hO hS hl => ?_)
  refine ho_b3 hst F hO hS hl ⟨by omega, by omega⟩ (fun H locs ls hO hS hl => ?_)
  by_cases n0 : G.1 110 = 0
  · refine ho_b4z hst F n0 hO hS hl ⟨by omega, by omega⟩ (fun H locs ls hO hS hl => ?_)
    refine ho_b5 hst F hx2 hO hS hl ⟨by omega, by omega⟩ (fun H locs ls hO hS hl => ?_)
    refine W.widen (k := cells + 72) (n := slots + 432) (by omega) (by omega) ?_
    exact kk H locs ls hO hS hl
  · have hn : 0 < G.1 110 := by omega
    refine ho_b4a hst F hx2 hn hO hS hl ⟨by omega, by omega⟩ (fun H locs ls hO hS hl => ?_)
    refine ho_b4b hst F hx2 hn hO hS hl ⟨by omega, by omega⟩ (fun H locs ls hO hS hl => ?_)
    refine ho_b4c hst F hx2 hn hO hS hl ⟨by omega, by omega⟩ (fun H locs ls hO hS hl => ?_)
    refine ho_b5 hst F hx2 hO hS hl ⟨by omega, by omega⟩ (fun H locs ls hO hS hl => ?_)
    refine W.widen (k := cells + 72) (n := slots + 432) (by omega) (by omega) ?_
    exact kk H locs ls hO hS hl
theorem ho_b6z (hst : l.stackTraces = false) (F : gF p m c cL_holds 17 s args wsL_holds meth (some .boolean) D cc A) (z0 : G.1 0 = 0) (hO : HO D cc A a G Rw H) (hS : va_S A s.heap H locs) (hl : lv_has ls 17 [(0, .ref (a 0)), (2, .int (nI (G.1 110))), (3, .int (nI ((sigM G.1 0 (G.1 77)).length))), (4, .int (nI 1)), (6, .int (nI (G.1 0))), (7, .int (nI (hhow G.1 0 99))), (8, .int (byI (hnr G.1 0 99))), (9, .int (oneI (hnr G.1 0 99))), (10, .int (nI k)), (11, .int (nI (G.1 (80 + k)))), (12, .int (nI (suM G.1)))]) (hf : cells + 0 ≤ rmHo.cells ∧ slots + 0 ≤ rmHo.slots)
    (kk : ∀ (H : Heap) (locs : List Loc) (ls : Array Slot), HO D cc A a (G) Rw H → va_S A s.heap H locs → lv_has ls 17 [(0, .ref (a 0)), (2, .int (nI (G.1 110))), (3, .int (nI ((sigM G.1 0 (G.1 77)).length))), (4, .int (nI 1)), (8, .int (byI (hnr G.1 0 99)))] → W p l e rmHo s m args below meth c H locs (cells + 0) (slots + 0) Q (F0 m 931 ls [])) : W p l e rmHo s m args below meth c H locs cells slots Q (F0 m 665 ls []) := by
  have hx := F.1.1.1
  have hb9 := F.1.1.2.1
  have hts := F.1.1.2.2.2.2
  have h := hO.inv
  have h16 := h.h16
  have h40 := h.hand.2
  have h3 := h.hand.1.1.1

  refine lv_iload hx hb9 dL_holds_665 (lv_at hl 4 rfl) ?_
  refine lv_if_le (tgt := 931) hx hb9 dL_holds_667 (by decide) (fun _ => ?_) (fun c9 => absurd ((show nI (G.1 0) ≤ 0 by rw [z0]; decide)) c9)
  refine W.widen (k := cells + 0) (n := slots + 0) (by omega) (by omega) ?_
  exact kk H locs ls hO hS (lv_sub hl [0, 1, 2, 3, 6] rfl)
theorem ho_b6 (hst : l.stackTraces = false) (F : gF p m c cL_holds 17 s args wsL_holds meth (some .boolean) D cc A) (hk : k < 10) (h0 : ¬ G.1 0 = 0) (hO : HO D cc A a G Rw H) (hS : va_S A s.heap H locs) (hl : lv_has ls 17 [(0, .ref (a 0)), (2, .int (nI (G.1 110))), (3, .int (nI ((sigM G.1 0 (G.1 77)).length))), (4, .int (nI 1)), (6, .int (nI (G.1 0))), (7, .int (nI (hhow G.1 0 99))), (8, .int (byI (hnr G.1 0 99))), (9, .int (oneI (hnr G.1 0 99))), (10, .int (nI k)), (11, .int (nI (G.1 (80 + k)))), (12, .int (nI (suM G.1)))]) (hf : cells + 16 ≤ rmHo.cells ∧ slots + 1480 ≤ rmHo.slots)
    (kk : ∀ (H : Heap) (locs : List Loc) (ls : Array Slot), HO D cc A a (uG G) Rw H → va_S A s.heap H locs → lv_has ls 17 [(0, .ref (a 0)), (2, .int (nI (G.1 110))), (3, .int (nI ((sigM G.1 0 (G.1 77)).length))), (4, .int (nI 1)), (6, .int (nI (G.1 0))), (7, .int (nI (hhow G.1 0 99))), (8, .int (byI (hnr G.1 0 99))), (9, .int (oneI (hnr G.1 0 99))), (10, .int (nI k))] → W p l e rmHo s m args below meth c H locs (cells + 16) (slots + 1480) Q (F0 m 827 ls [])) : W p l e rmHo s m args below meth c H locs cells slots Q (F0 m 665 ls []) := by
  have hx := F.1.1.1
  have hb9 := F.1.1.2.1
  have hts := F.1.1.2.2.2.2
  have h := hO.inv
  have h16 := h.h16
  have h40 := h.hand.2
  have h3 := h.hand.1.1.1
  have cwR := va_cwS (rm := rmK 1 6) (R := rmHo) 5 hts gL_holds_L_call rfl rfl rfl (by decide +kernel) ⟨Nat.le_of_ble_eq_true rfl, Nat.le_of_ble_eq_true rfl⟩
  have cwA := va_cwS (rm := rmK 11 1443) (R := rmHo) 5 hts gL_holds_L_call rfl rfl rfl (by decide +kernel) ⟨Nat.le_of_ble_eq_true rfl, Nat.le_of_ble_eq_true rfl⟩
  rcases near_cases h with ⟨n0, en, eh⟩ | ⟨b, hb, en, -, -, hle⟩
  · have e1 : pracM G.1 k = 1 := pm_1 (by omega)
    refine lv_iload hx hb9 dL_holds_665 (lv_at hl 4 rfl) ?_
    refine lv_if_le (tgt := 931) hx hb9 dL_holds_667 (by decide) (fun c9 => absurd c9 (nI_nle (by omega) (by omega))) (fun _ => ?_)
    refine lv_iload hx hb9 dL_holds_670 (lv_at hl 3 rfl) ?_
    refine lv_if_eq (tgt := 931) hx hb9 dL_holds_672 (by decide) (fun c9 => absurd c9 (show ¬ nI 1 = 0 by decide)) (fun _ => ?_)
    refine lv_aload_n hx hb9 dL_holds_675 rfl (lv_at hl 0 rfl) ?_
    refine lv_bipush (v := nI 11) hx hb9 dL_holds_676 (by decide) ?_
    refine lv_iload hx hb9 dL_holds_678 (lv_at hl 8 rfl) ?_
    refine lv_iconst (v := nI 0) hx hb9 dL_holds_680 (by decide) ?_
    refine lv_iconst (v := nI 0) hx hb9 dL_holds_681 (by decide) ?_
    refine gstepS (As := [.int (nI 11), .int (nI k), .int (nI 0), .int (nI 0)]) (rest := []) F (((kq11 l hst D cc a G (nI k) (nI 0) (nI 0)).v (v' := (nI 1)) ((pr_v hk h0).trans (by rw [e1]))).g (pr_G hk h0)) cwA hO hS hl rfl rfl (Nat.le_of_ble_eq_true rfl) dL_holds_682 ⟨by omega, by omega⟩ (fun H locs hO hS => ?_)
    refine lv_istore (lv' := [(13, .int (nI 1)), (0, .ref (a 0)), (2, .int (nI (G.1 110))), (3, .int (nI ((sigM G.1 0 (G.1 77)).length))), (4, .int (nI 1)), (6, .int (nI (G.1 0))), (7, .int (nI (hhow G.1 0 99))), (8, .int (byI (hnr G.1 0 99))), (9, .int (oneI (hnr G.1 0 99))), (10, .int (nI k)), (11, .int (nI (G.1 (80 + k)))), (12, .int (nI (suM G.1)))]) hx hb9 dL_holds_685 hl (by decide) rfl (fun ls hl => ?_)
    refine lv_iload hx hb9 dL_holds_687 (lv_at hl 0 rfl) ?_
    refine lv_if_ne (tgt := 696) hx hb9 dL_holds_689 (by decide) (fun _ => ?_) (fun c9 => absurd c9 (show ¬ nI 1 = 0 by decide))
    refine lv_iconst (v := nI 0) hx hb9 dL_holds_696 (by decide) ?_
    refine lv_iload hx hb9 dL_holds_697 (lv_at hl 6 rfl) ?_
    refine lv_if_ne (tgt := 729) hx hb9 dL_holds_699 (by decide) (fun _ => ?_) (fun c9 => absurd c9 (nI_ne0 (by omega) (by omega)))
    refine lv_iconst (v := nI 0) hx hb9 dL_holds_729 (by decide) ?_
    refine lv_icmp_ne (tgt := 824) hx hb9 dL_holds_730 (by decide) (fun c9 => absurd ((rfl : (_ : Int32) = _)) c9) (fun _ => ?_)
    refine lv_iload hx hb9 dL_holds_733 (lv_at hl 0 rfl) ?_
    refine lv_iconst (v := nI 1) hx hb9 dL_holds_735 (by decide) ?_
    refine lv_icmp_ne (tgt := 743) hx hb9 dL_holds_736 (by decide) (fun c9 => absurd ((rfl : (_ : Int32) = _)) c9) (fun _ => ?_)
    refine lv_iconst (v := nI 1) hx hb9 dL_holds_739 (by decide) ?_
    refine lv_goto (tgt := 744) hx hb9 dL_holds_740 (by decide) ?_
    refine lv_iload hx hb9 dL_holds_744 (lv_at hl 6 rfl) ?_
    refine lv_if_le (tgt := 753) hx hb9 dL_holds_746 (by decide) (fun c9 => absurd c9 (nI_nle (by omega) (by omega))) (fun _ => ?_)
    refine lv_iconst (v := nI 1) hx hb9 dL_holds_749 (by decide) ?_
    refine lv_goto (tgt := 754) hx hb9 dL_holds_750 (by decide) ?_
    refine lv_icmp_ne (tgt := 824) hx hb9 dL_holds_754 (by decide) (fun c9 => absurd ((rfl : (_ : Int32) = _)) c9) (fun _ => ?_)
    refine lv_aload_n hx hb9 dL_holds_757 rfl (lv_at hl 1 rfl) ?_
    refine lv_iconst (v := nI 5) hx hb9 dL_holds_758 (by decide) ?_
    refine lv_iload hx hb9 dL_holds_759 (lv_at hl 9 rfl) ?_
    refine lv_iconst (v := nI 0) hx hb9 dL_holds_761 (by decide) ?_
    refine lv_iconst (v := nI 0) hx hb9 dL_holds_762 (by decide) ?_
    refine gstepS (As := [.int (nI 5), .int (nI k), .int (nI 0), .int (nI 0)]) (rest := []) F ((kq5 l hst D cc a (pG G k) (nI k) (nI 0) (nI 0)).v (v' := (nI (G.1 (80 + k) + 0))) ((pR_pp hk).trans (by rw [e1]; rfl))) cwR hO hS hl rfl rfl (Nat.le_of_ble_eq_true rfl) dL_holds_763 ⟨by omega, by omega⟩ (fun H locs hO hS => ?_)
    refine lv_iload hx hb9 dL_holds_766 (lv_at hl 10 rfl) ?_
    refine lv_iload hx hb9 dL_holds_768 (lv_at hl 0 rfl) ?_
    refine lv_if_ne (tgt := 777) hx hb9 dL_holds_770 (by decide) (fun _ => ?_) (fun c9 => absurd c9 (show ¬ nI 1 = 0 by decide))
    refine lv_iconst (v := nI 0) hx hb9 dL_holds_777 (by decide) ?_
    refine gr_iadd hx hb9 dL_holds_778 ?_
    refine lv_icmp_ne (tgt := 824) hx hb9 dL_holds_779 (by decide) (fun c9 => absurd ((rfl : (_ : Int32) = _)) c9) (fun _ => ?_)
    refine lv_aload_n hx hb9 dL_holds_782 rfl (lv_at hl 1 rfl) ?_
    refine lv_iconst (v := nI 1) hx hb9 dL_holds_783 (by decide) ?_
    refine lv_iconst (v := nI 5) hx hb9 dL_holds_784 (by decide) ?_
    refine lv_iconst (v := nI 0) hx hb9 dL_holds_785 (by decide) ?_
    refine lv_iconst (v := nI 0) hx hb9 dL_holds_786 (by decide) ?_
    refine gstepS (As := [.int (nI 1), .int (nI 5), .int (nI 0), .int (nI 0)]) (rest := []) F ((kq1 l hst D cc a (pG G k) (nI 5) (nI 0) (nI 0)).v (v' := (nI (suM G.1 + 1))) (pR_su hk)) cwR hO hS hl rfl rfl (Nat.le_of_ble_eq_true rfl) dL_holds_787 ⟨by omega, by omega⟩ (fun H locs hO hS => ?_)
    refine lv_iload hx hb9 dL_holds_790 (lv_at hl 11 rfl) ?_
    refine lv_iconst (v := nI 1) hx hb9 dL_holds_792 (by decide) ?_
    refine gr_iadd hx hb9 dL_holds_793 ?_
    refine lv_icmp_ne (tgt := 824) hx hb9 dL_holds_794 (by decide) (fun c9 => absurd ((rfl : (_ : Int32) = _)) c9) (fun _ => ?_)
    refine lv_aload_n hx hb9 dL_holds_797 rfl (lv_at hl 1 rfl) ?_
    refine lv_iconst (v := nI 1) hx hb9 dL_holds_798 (by decide) ?_
    refine lv_iconst (v := nI 0) hx hb9 dL_holds_799 (by decide) ?_
    refine lv_iconst (v := nI 0) hx hb9 dL_holds_800 (by decide) ?_
    refine lv_iconst (v := nI 0) hx hb9 dL_holds_801 (by decide) ?_
    refine gstepS (As := [.int (nI 1), .int (nI 0), .int (nI 0), .int (nI 0)]) (rest := []) F ((kq1 l hst D cc a (pG G k) (nI 0) (nI 0) (nI 0)).v (v' := (nI 0)) (pR_0 _ _)) cwR hO hS hl rfl rfl (Nat.le_of_ble_eq_true rfl) dL_holds_802 ⟨by omega, by omega⟩ (fun H locs hO hS => ?_)
    refine lv_if_ne (tgt := 824) hx hb9 dL_holds_805 (by decide) (fun c9 => absurd ((show nI 0 = 0 from rfl)) c9) (fun _ => ?_)
    refine lv_aload_n hx hb9 dL_holds_808 rfl (lv_at hl 1 rfl) ?_
    refine lv_bipush (v := nI 13) hx hb9 dL_holds_809 (by decide) ?_
    refine lv_iconst (v := nI 0) hx hb9 dL_holds_811 (by decide) ?_
    refine lv_iconst (v := nI 0) hx hb9 dL_holds_812 (by decide) ?_
    refine lv_iconst (v := nI 0) hx hb9 dL_holds_813 (by decide) ?_
    refine gstepS (As := [.int (nI 13), .int (nI 0), .int (nI 0), .int (nI 0)]) (rest := []) F (((kq13 l hst D cc a (pG G k) (nI 0) (nI 0) (nI 0)).v (v' := (nI ((G.2.2.2.1.take 13).length))) (ud_p _ _)).g (ud_pG _ _)) cwR hO hS hl rfl rfl (Nat.le_of_ble_eq_true rfl) dL_holds_814 ⟨by omega, by omega⟩ (fun H locs hO hS => ?_)
    refine lv_if_lt (tgt := 824) hx hb9 dL_holds_817 (by decide) (fun c9 => absurd c9 (nI_pos (take_lt _))) (fun _ => ?_)
    refine lv_iconst (v := nI 1) hx hb9 dL_holds_820 (by decide) ?_
    refine lv_goto (tgt := 825) hx hb9 dL_holds_821 (by decide) ?_
    refine lv_istore (lv' := [(4, .int (nI 1)), (13, .int (nI 1)), (0, .ref (a 0)), (2, .int (nI (G.1 110))), (3, .int (nI ((sigM G.1 0 (G.1 77)).length))), (6, .int (nI (G.1 0))), (7, .int (nI (hhow G.1 0 99))), (8, .int (byI (hnr G.1 0 99))), (9, .int (oneI (hnr G.1 0 99))), (10, .int (nI k)), (11, .int (nI (G.1 (80 + k)))), (12, .int (nI (suM G.1)))]) hx hb9 dL_holds_825 hl (by decide) rfl (fun ls hl => ?_)
    refine W.widen (k := cells + 16) (n := slots + 1480) (by omega) (by omega) ?_
    exact kk H locs ls hO hS (lv_sub hl [2, 3, 4, 0, 5, 6, 7, 8, 9] rfl)
  · by_cases e2 : hhow G.1 0 99 = 0
    · by_cases zn : G.1 (atM b + 76) = k
      · have e1 : pracM G.1 k = 0 := (pm_b e2 en).trans (if_pos zn)
        refine lv_iload hx hb9 dL_holds_665 (lv_at hl 4 rfl) ?_
        refine lv_if_le (tgt := 931) hx hb9 dL_holds_667 (by decide) (fun c9 => absurd c9 (nI_nle (by omega) (by omega))) (fun _ => ?_)
        refine lv_iload hx hb9 dL_holds_670 (lv_at hl 3 rfl) ?_
        refine lv_if_eq (tgt := 931) hx hb9 dL_holds_672 (by decide) (fun c9 => absurd c9 (show ¬ nI 1 = 0 by decide)) (fun _ => ?_)
        refine lv_aload_n hx hb9 dL_holds_675 rfl (lv_at hl 0 rfl) ?_
        refine lv_bipush (v := nI 11) hx hb9 dL_holds_676 (by decide) ?_
        refine lv_iload hx hb9 dL_holds_678 (lv_at hl 8 rfl) ?_
        refine lv_iconst (v := nI 0) hx hb9 dL_holds_680 (by decide) ?_
        refine lv_iconst (v := nI 0) hx hb9 dL_holds_681 (by decide) ?_
        refine gstepS (As := [.int (nI 11), .int (nI k), .int (nI 0), .int (nI 0)]) (rest := []) F (((kq11 l hst D cc a G (nI k) (nI 0) (nI 0)).v (v' := (nI 0)) ((pr_v hk h0).trans (by rw [e1]))).g (pr_G hk h0)) cwA hO hS hl rfl rfl (Nat.le_of_ble_eq_true rfl) dL_holds_682 ⟨by omega, by omega⟩ (fun H locs hO hS => ?_)
        refine lv_istore (lv' := [(13, .int (nI 0)), (0, .ref (a 0)), (2, .int (nI (G.1 110))), (3, .int (nI ((sigM G.1 0 (G.1 77)).length))), (4, .int (nI 1)), (6, .int (nI (G.1 0))), (7, .int (nI (hhow G.1 0 99))), (8, .int (byI (hnr G.1 0 99))), (9, .int (oneI (hnr G.1 0 99))), (10, .int (nI k)), (11, .int (nI (G.1 (80 + k)))), (12, .int (nI (suM G.1)))]) hx hb9 dL_holds_685 hl (by decide) rfl (fun ls hl => ?_)
        refine lv_iload hx hb9 dL_holds_687 (lv_at hl 0 rfl) ?_
        refine lv_if_ne (tgt := 696) hx hb9 dL_holds_689 (by decide) (fun c9 => absurd ((show nI 0 = 0 from rfl)) c9) (fun _ => ?_)
        refine lv_iconst (v := nI 1) hx hb9 dL_holds_692 (by decide) ?_
        refine lv_goto (tgt := 697) hx hb9 dL_holds_693 (by decide) ?_
        refine lv_iload hx hb9 dL_holds_697 (lv_at hl 6 rfl) ?_
        refine lv_if_ne (tgt := 729) hx hb9 dL_holds_699 (by decide) (fun c9 => absurd ((show nI (hhow G.1 0 99) = 0 by rw [e2]; rfl)) c9) (fun _ => ?_)
        refine lv_aload_n hx hb9 dL_holds_702 rfl (lv_at hl 1 rfl) ?_
        refine lv_iconst (v := nI 3) hx hb9 dL_holds_703 (by decide) ?_
        refine lv_iload hx hb9 dL_holds_704 (lv_at hl 8 rfl) ?_
        refine lv_if_ge (tgt := 713) hx hb9 dL_holds_706 (by decide) (fun _ => ?_) (fun c9 => absurd ((show 0 ≤ oneI (hnr G.1 0 99) by rw [en]; exact nI_pos' (by omega))) c9)
        refine lv_iload hx hb9 dL_holds_713 (lv_at hl 8 rfl) ?_
        refine lv_iconst (v := nI 0) hx hb9 dL_holds_715 (by decide) ?_
        refine lv_iconst (v := nI 0) hx hb9 dL_holds_716 (by decide) ?_
        refine gstepS (As := [.int (nI 3), .int (oneI (hnr G.1 0 99)), .int (nI 0), .int (nI 0)]) (rest := [.int (nI 1)]) F ((kq3 l hst D cc a (pG G k) (oneI (hnr G.1 0 99)) (nI 0) (nI 0)).v (v' := (nI k)) (by rw [en]; exact (pR_sa hk h16 hb).trans (by rw [zn]))) cwR hO hS hl rfl rfl (Nat.le_of_ble_eq_true rfl) dL_holds_717 ⟨by omega, by omega⟩ (fun H locs hO hS => ?_)
        refine lv_iload hx hb9 dL_holds_720 (lv_at hl 9 rfl) ?_
        refine lv_icmp_ne (tgt := 729) hx hb9 dL_holds_722 (by decide) (fun c9 => absurd ((rfl : (_ : Int32) = _)) c9) (fun _ => ?_)
        refine lv_iconst (v := nI 1) hx hb9 dL_holds_725 (by decide) ?_
        refine lv_goto (tgt := 730) hx hb9 dL_holds_726 (by decide) ?_
        refine lv_icmp_ne (tgt := 824) hx hb9 dL_holds_730 (by decide) (fun c9 => absurd ((rfl : (_ : Int32) = _)) c9) (fun _ => ?_)
        refine lv_iload hx hb9 dL_holds_733 (lv_at hl 0 rfl) ?_
        refine lv_iconst (v := nI 1) hx hb9 dL_holds_735 (by decide) ?_
        refine lv_icmp_ne (tgt := 743) hx hb9 dL_holds_736 (by decide) (fun _ => ?_) (fun c9 => absurd c9 (show ¬ nI 0 = nI 1 by decide))
        refine lv_iconst (v := nI 0) hx hb9 dL_holds_743 (by decide) ?_
        refine lv_iload hx hb9 dL_holds_744 (lv_at hl 6 rfl) ?_
        refine lv_if_le (tgt := 753) hx hb9 dL_holds_746 (by decide) (fun _ => ?_) (fun c9 => absurd ((show nI (hhow G.1 0 99) ≤ 0 by rw [e2]; decide)) c9)
        refine lv_iconst (v := nI 0) hx hb9 dL_holds_753 (by decide) ?_
        refine lv_icmp_ne (tgt := 824) hx hb9 dL_holds_754 (by decide) (fun c9 => absurd ((rfl : (_ : Int32) = _)) c9) (fun _ => ?_)
        refine lv_aload_n hx hb9 dL_holds_757 rfl (lv_at hl 1 rfl) ?_
        refine lv_iconst (v := nI 5) hx hb9 dL_holds_758 (by decide) ?_
        refine lv_iload hx hb9 dL_holds_759 (lv_at hl 9 rfl) ?_
        refine lv_iconst (v := nI 0) hx hb9 dL_holds_761 (by decide) ?_
        refine lv_iconst (v := nI 0) hx hb9 dL_holds_762 (by decide) ?_
        refine gstepS (As := [.int (nI 5), .int (nI k), .int (nI 0), .int (nI 0)]) (rest := []) F ((kq5 l hst D cc a (pG G k) (nI k) (nI 0) (nI 0)).v (v' := (nI (G.1 (80 + k) + 1))) ((pR_pp hk).trans (by rw [e1]; rfl))) cwR hO hS hl rfl rfl (Nat.le_of_ble_eq_true rfl) dL_holds_763 ⟨by omega, by omega⟩ (fun H locs hO hS => ?_)
        refine lv_iload hx hb9 dL_holds_766 (lv_at hl 10 rfl) ?_
        refine lv_iload hx hb9 dL_holds_768 (lv_at hl 0 rfl) ?_
        refine lv_if_ne (tgt := 777) hx hb9 dL_holds_770 (by decide) (fun c9 => absurd ((show nI 0 = 0 from rfl)) c9) (fun _ => ?_)
        refine lv_iconst (v := nI 1) hx hb9 dL_holds_773 (by decide) ?_
        refine lv_goto (tgt := 778) hx hb9 dL_holds_774 (by decide) ?_
        refine gr_iadd hx hb9 dL_holds_778 ?_
        refine lv_icmp_ne (tgt := 824) hx hb9 dL_holds_779 (by decide) (fun c9 => absurd ((rfl : (_ : Int32) = _)) c9) (fun _ => ?_)
        refine lv_aload_n hx hb9 dL_holds_782 rfl (lv_at hl 1 rfl) ?_
        refine lv_iconst (v := nI 1) hx hb9 dL_holds_783 (by decide) ?_
        refine lv_iconst (v := nI 5) hx hb9 dL_holds_784 (by decide) ?_
        refine lv_iconst (v := nI 0) hx hb9 dL_holds_785 (by decide) ?_
        refine lv_iconst (v := nI 0) hx hb9 dL_holds_786 (by decide) ?_
        refine gstepS (As := [.int (nI 1), .int (nI 5), .int (nI 0), .int (nI 0)]) (rest := []) F ((kq1 l hst D cc a (pG G k) (nI 5) (nI 0) (nI 0)).v (v' := (nI (suM G.1 + 1))) (pR_su hk)) cwR hO hS hl rfl rfl (Nat.le_of_ble_eq_true rfl) dL_holds_787 ⟨by omega, by omega⟩ (fun H locs hO hS => ?_)
        refine lv_iload hx hb9 dL_holds_790 (lv_at hl 11 rfl) ?_
        refine lv_iconst (v := nI 1) hx hb9 dL_holds_792 (by decide) ?_
        refine gr_iadd hx hb9 dL_holds_793 ?_
        refine lv_icmp_ne (tgt := 824) hx hb9 dL_holds_794 (by decide) (fun c9 => absurd ((rfl : (_ : Int32) = _)) c9) (fun _ => ?_)
        refine lv_aload_n hx hb9 dL_holds_797 rfl (lv_at hl 1 rfl) ?_
        refine lv_iconst (v := nI 1) hx hb9 dL_holds_798 (by decide) ?_
        refine lv_iconst (v := nI 0) hx hb9 dL_holds_799 (by decide) ?_
        refine lv_iconst (v := nI 0) hx hb9 dL_holds_800 (by decide) ?_
        refine lv_iconst (v := nI 0) hx hb9 dL_holds_801 (by decide) ?_
        refine gstepS (As := [.int (nI 1), .int (nI 0), .int (nI 0), .int (nI 0)]) (rest := []) F ((kq1 l hst D cc a (pG G k) (nI 0) (nI 0) (nI 0)).v (v' := (nI 0)) (pR_0 _ _)) cwR hO hS hl rfl rfl (Nat.le_of_ble_eq_true rfl) dL_holds_802 ⟨by omega, by omega⟩ (fun H locs hO hS => ?_)
        refine lv_if_ne (tgt := 824) hx hb9 dL_holds_805 (by decide) (fun c9 => absurd ((show nI 0 = 0 from rfl)) c9) (fun _ => ?_)
        refine lv_aload_n hx hb9 dL_holds_808 rfl (lv_at hl 1 rfl) ?_
        refine lv_bipush (v := nI 13) hx hb9 dL_holds_809 (by decide) ?_
        refine lv_iconst (v := nI 0) hx hb9 dL_holds_811 (by decide) ?_
        refine lv_iconst (v := nI 0) hx hb9 dL_holds_812 (by decide) ?_
        refine lv_iconst (v := nI 0) hx hb9 dL_holds_813 (by decide) ?_
        refine gstepS (As := [.int (nI 13), .int (nI 0), .int (nI 0), .int (nI 0)]) (rest := []) F (((kq13 l hst D cc a (pG G k) (nI 0) (nI 0) (nI 0)).v (v' := (nI ((G.2.2.2.1.take 13).length))) (ud_p _ _)).g (ud_pG _ _)) cwR hO hS hl rfl rfl (Nat.le_of_ble_eq_true rfl) dL_holds_814 ⟨by omega, by omega⟩ (fun H locs hO hS => ?_)
        refine lv_if_lt (tgt := 824) hx hb9 dL_holds_817 (by decide) (fun c9 => absurd c9 (nI_pos (take_lt _))) (fun _ => ?_)
        refine lv_iconst (v := nI 1) hx hb9 dL_holds_820 (by decide) ?_
        refine lv_goto (tgt := 825) hx hb9 dL_holds_821 (by decide) ?_
        refine lv_istore (lv' := [(4, .int (nI 1)), (13, .int (nI 0)), (0, .ref (a 0)), (2, .int (nI (G.1 110))), (3, .int (nI ((sigM G.1 0 (G.1 77)).length))), (6, .int (nI (G.1 0))), (7, .int (nI (hhow G.1 0 99))), (8, .int (byI (hnr G.1 0 99))), (9, .int (oneI (hnr G.1 0 99))), (10, .int (nI k)), (11, .int (nI (G.1 (80 + k)))), (12, .int (nI (suM G.1)))]) hx hb9 dL_holds_825 hl (by decide) rfl (fun ls hl => ?_)
        refine W.widen (k := cells + 16) (n := slots + 1480) (by omega) (by omega) ?_
        exact kk H locs ls hO hS (lv_sub hl [2, 3, 4, 0, 5, 6, 7, 8, 9] rfl)
      · have e1 : pracM G.1 k = 2 := (pm_b e2 en).trans (if_neg zn)
        refine lv_iload hx hb9 dL_holds_665 (lv_at hl 4 rfl) ?_
        refine lv_if_le (tgt := 931) hx hb9 dL_holds_667 (by decide) (fun c9 => absurd c9 (nI_nle (by omega) (by omega))) (fun _ => ?_)
        refine lv_iload hx hb9 dL_holds_670 (lv_at hl 3 rfl) ?_
        refine lv_if_eq (tgt := 931) hx hb9 dL_holds_672 (by decide) (fun c9 => absurd c9 (show ¬ nI 1 = 0 by decide)) (fun _ => ?_)
        refine lv_aload_n hx hb9 dL_holds_675 rfl (lv_at hl 0 rfl) ?_
        refine lv_bipush (v := nI 11) hx hb9 dL_holds_676 (by decide) ?_
        refine lv_iload hx hb9 dL_holds_678 (lv_at hl 8 rfl) ?_
        refine lv_iconst (v := nI 0) hx hb9 dL_holds_680 (by decide) ?_
        refine lv_iconst (v := nI 0) hx hb9 dL_holds_681 (by decide) ?_
        refine gstepS (As := [.int (nI 11), .int (nI k), .int (nI 0), .int (nI 0)]) (rest := []) F (((kq11 l hst D cc a G (nI k) (nI 0) (nI 0)).v (v' := (nI 2)) ((pr_v hk h0).trans (by rw [e1]))).g (pr_G hk h0)) cwA hO hS hl rfl rfl (Nat.le_of_ble_eq_true rfl) dL_holds_682 ⟨by omega, by omega⟩ (fun H locs hO hS => ?_)
        refine lv_istore (lv' := [(13, .int (nI 2)), (0, .ref (a 0)), (2, .int (nI (G.1 110))), (3, .int (nI ((sigM G.1 0 (G.1 77)).length))), (4, .int (nI 1)), (6, .int (nI (G.1 0))), (7, .int (nI (hhow G.1 0 99))), (8, .int (byI (hnr G.1 0 99))), (9, .int (oneI (hnr G.1 0 99))), (10, .int (nI k)), (11, .int (nI (G.1 (80 + k)))), (12, .int (nI (suM G.1)))]) hx hb9 dL_holds_685 hl (by decide) rfl (fun ls hl => ?_)
        refine lv_iload hx hb9 dL_holds_687 (lv_at hl 0 rfl) ?_
        refine lv_if_ne (tgt := 696) hx hb9 dL_holds_689 (by decide) (fun _ => ?_) (fun c9 => absurd c9 (show ¬ nI 2 = 0 by decide))
        refine lv_iconst (v := nI 0) hx hb9 dL_holds_696 (by decide) ?_
        refine lv_iload hx hb9 dL_holds_697 (lv_at hl 6 rfl) ?_
        refine lv_if_ne (tgt := 729) hx hb9 dL_holds_699 (by decide) (fun c9 => absurd ((show nI (hhow G.1 0 99) = 0 by rw [e2]; rfl)) c9) (fun _ => ?_)
        refine lv_aload_n hx hb9 dL_holds_702 rfl (lv_at hl 1 rfl) ?_
        refine lv_iconst (v := nI 3) hx hb9 dL_holds_703 (by decide) ?_
        refine lv_iload hx hb9 dL_holds_704 (lv_at hl 8 rfl) ?_
        refine lv_if_ge (tgt := 713) hx hb9 dL_holds_706 (by decide) (fun _ => ?_) (fun c9 => absurd ((show 0 ≤ oneI (hnr G.1 0 99) by rw [en]; exact nI_pos' (by omega))) c9)
        refine lv_iload hx hb9 dL_holds_713 (lv_at hl 8 rfl) ?_
        refine lv_iconst (v := nI 0) hx hb9 dL_holds_715 (by decide) ?_
        refine lv_iconst (v := nI 0) hx hb9 dL_holds_716 (by decide) ?_
        refine gstepS (As := [.int (nI 3), .int (oneI (hnr G.1 0 99)), .int (nI 0), .int (nI 0)]) (rest := [.int (nI 0)]) F ((kq3 l hst D cc a (pG G k) (oneI (hnr G.1 0 99)) (nI 0) (nI 0)).v (v' := (nI (G.1 (atM b + 76)))) (by rw [en]; exact pR_sa hk h16 hb)) cwR hO hS hl rfl rfl (Nat.le_of_ble_eq_true rfl) dL_holds_717 ⟨by omega, by omega⟩ (fun H locs hO hS => ?_)
        refine lv_iload hx hb9 dL_holds_720 (lv_at hl 9 rfl) ?_
        refine lv_icmp_ne (tgt := 729) hx hb9 dL_holds_722 (by decide) (fun _ => ?_) (fun c9 => absurd c9 (nI_no (by have := h.nm hb; omega) (by omega) zn))
        refine lv_iconst (v := nI 0) hx hb9 dL_holds_729 (by decide) ?_
        refine lv_icmp_ne (tgt := 824) hx hb9 dL_holds_730 (by decide) (fun c9 => absurd ((rfl : (_ : Int32) = _)) c9) (fun _ => ?_)
        refine lv_iload hx hb9 dL_holds_733 (lv_at hl 0 rfl) ?_
        refine lv_iconst (v := nI 1) hx hb9 dL_holds_735 (by decide) ?_
        refine lv_icmp_ne (tgt := 743) hx hb9 dL_holds_736 (by decide) (fun _ => ?_) (fun c9 => absurd c9 (show ¬ nI 2 = nI 1 by decide))
        refine lv_iconst (v := nI 0) hx hb9 dL_holds_743 (by decide) ?_
        refine lv_iload hx hb9 dL_holds_744 (lv_at hl 6 rfl) ?_
        refine lv_if_le (tgt := 753) hx hb9 dL_holds_746 (by decide) (fun _ => ?_) (fun c9 => absurd ((show nI (hhow G.1 0 99) ≤ 0 by rw [e2]; decide)) c9)
        refine lv_iconst (v := nI 0) hx hb9 dL_holds_753 (by decide) ?_
        refine lv_icmp_ne (tgt := 824) hx hb9 dL_holds_754 (by decide) (fun c9 => absurd ((rfl : (_ : Int32) = _)) c9) (fun _ => ?_)
        refine lv_aload_n hx hb9 dL_holds_757 rfl (lv_at hl 1 rfl) ?_
        refine lv_iconst (v := nI 5) hx hb9 dL_holds_758 (by decide) ?_
        refine lv_iload hx hb9 dL_holds_759 (lv_at hl 9 rfl) ?_
        refine lv_iconst (v := nI 0) hx hb9 dL_holds_761 (by decide) ?_
        refine lv_iconst (v := nI 0) hx hb9 dL_holds_762 (by decide) ?_
        refine gstepS (As := [.int (nI 5), .int (nI k), .int (nI 0), .int (nI 0)]) (rest := []) F ((kq5 l hst D cc a (pG G k) (nI k) (nI 0) (nI 0)).v (v' := (nI (G.1 (80 + k) + 0))) ((pR_pp hk).trans (by rw [e1]; rfl))) cwR hO hS hl rfl rfl (Nat.le_of_ble_eq_true rfl) dL_holds_763 ⟨by omega, by omega⟩ (fun H locs hO hS => ?_)
        refine lv_iload hx hb9 dL_holds_766 (lv_at hl 10 rfl) ?_
        refine lv_iload hx hb9 dL_holds_768 (lv_at hl 0 rfl) ?_
        refine lv_if_ne (tgt := 777) hx hb9 dL_holds_770 (by decide) (fun _ => ?_) (fun c9 => absurd c9 (show ¬ nI 2 = 0 by decide))
        refine lv_iconst (v := nI 0) hx hb9 dL_holds_777 (by decide) ?_
        refine gr_iadd hx hb9 dL_holds_778 ?_
        refine lv_icmp_ne (tgt := 824) hx hb9 dL_holds_779 (by decide) (fun c9 => absurd ((rfl : (_ : Int32) = _)) c9) (fun _ => ?_)
        refine lv_aload_n hx hb9 dL_holds_782 rfl (lv_at hl 1 rfl) ?_
        refine lv_iconst (v := nI 1) hx hb9 dL_holds_783 (by decide) ?_
        refine lv_iconst (v := nI 5) hx hb9 dL_holds_784 (by decide) ?_
        refine lv_iconst (v := nI 0) hx hb9 dL_holds_785 (by decide) ?_
        refine lv_iconst (v := nI 0) hx hb9 dL_holds_786 (by decide) ?_
        refine gstepS (As := [.int (nI 1), .int (nI 5), .int (nI 0), .int (nI 0)]) (rest := []) F ((kq1 l hst D cc a (pG G k) (nI 5) (nI 0) (nI 0)).v (v' := (nI (suM G.1 + 1))) (pR_su hk)) cwR hO hS hl rfl rfl (Nat.le_of_ble_eq_true rfl) dL_holds_787 ⟨by omega, by omega⟩ (fun H locs hO hS => ?_)
        refine lv_iload hx hb9 dL_holds_790 (lv_at hl 11 rfl) ?_
        refine lv_iconst (v := nI 1) hx hb9 dL_holds_792 (by decide) ?_
        refine gr_iadd hx hb9 dL_holds_793 ?_
        refine lv_icmp_ne (tgt := 824) hx hb9 dL_holds_794 (by decide) (fun c9 => absurd ((rfl : (_ : Int32) = _)) c9) (fun _ => ?_)
        refine lv_aload_n hx hb9 dL_holds_797 rfl (lv_at hl 1 rfl) ?_
        refine lv_iconst (v := nI 1) hx hb9 dL_holds_798 (by decide) ?_
        refine lv_iconst (v := nI 0) hx hb9 dL_holds_799 (by decide) ?_
        refine lv_iconst (v := nI 0) hx hb9 dL_holds_800 (by decide) ?_
        refine lv_iconst (v := nI 0) hx hb9 dL_holds_801 (by decide) ?_
        refine gstepS (As := [.int (nI 1), .int (nI 0), .int (nI 0), .int (nI 0)]) (rest := []) F ((kq1 l hst D cc a (pG G k) (nI 0) (nI 0) (nI 0)).v (v' := (nI 0)) (pR_0 _ _)) cwR hO hS hl rfl rfl (Nat.le_of_ble_eq_true rfl) dL_holds_802 ⟨by omega, by omega⟩ (fun H locs hO hS => ?_)
        refine lv_if_ne (tgt := 824) hx hb9 dL_holds_805 (by decide) (fun c9 => absurd ((show nI 0 = 0 from rfl)) c9) (fun _ => ?_)
        refine lv_aload_n hx hb9 dL_holds_808 rfl (lv_at hl 1 rfl) ?_
        refine lv_bipush (v := nI 13) hx hb9 dL_holds_809 (by decide) ?_
        refine lv_iconst (v := nI 0) hx hb9 dL_holds_811 (by decide) ?_
        refine lv_iconst (v := nI 0) hx hb9 dL_holds_812 (by decide) ?_
        refine lv_iconst (v := nI 0) hx hb9 dL_holds_813 (by decide) ?_
        refine gstepS (As := [.int (nI 13), .int (nI 0), .int (nI 0), .int (nI 0)]) (rest := []) F (((kq13 l hst D cc a (pG G k) (nI 0) (nI 0) (nI 0)).v (v' := (nI ((G.2.2.2.1.take 13).length))) (ud_p _ _)).g (ud_pG _ _)) cwR hO hS hl rfl rfl (Nat.le_of_ble_eq_true rfl) dL_holds_814 ⟨by omega, by omega⟩ (fun H locs hO hS => ?_)
        refine lv_if_lt (tgt := 824) hx hb9 dL_holds_817 (by decide) (fun c9 => absurd c9 (nI_pos (take_lt _))) (fun _ => ?_)
        refine lv_iconst (v := nI 1) hx hb9 dL_holds_820 (by decide) ?_
        refine lv_goto (tgt := 825) hx hb9 dL_holds_821 (by decide) ?_
        refine lv_istore (lv' := [(4, .int (nI 1)), (13, .int (nI 2)), (0, .ref (a 0)), (2, .int (nI (G.1 110))), (3, .int (nI ((sigM G.1 0 (G.1 77)).length))), (6, .int (nI (G.1 0))), (7, .int (nI (hhow G.1 0 99))), (8, .int (byI (hnr G.1 0 99))), (9, .int (oneI (hnr G.1 0 99))), (10, .int (nI k)), (11, .int (nI (G.1 (80 + k)))), (12, .int (nI (suM G.1)))]) hx hb9 dL_holds_825 hl (by decide) rfl (fun ls hl => ?_)
        refine W.widen (k := cells + 16) (n := slots + 1480) (by omega) (by omega) ?_
        exact kk H locs ls hO hS (lv_sub hl [2, 3, 4, 0, 5, 6, 7, 8, 9] rfl)
    · have e1 : pracM G.1 k = 1 := pm_1 e2
      refine lv_iload hx hb9 dL_holds_665 (lv_at hl 4 rfl) ?_
      refine lv_if_le (tgt := 931) hx hb9 dL_holds_667 (by decide) (fun c9 => absurd c9 (nI_nle (by omega) (by omega))) (fun _ => ?_)
      refine lv_iload hx hb9 dL_holds_670 (lv_at hl 3 rfl) ?_
      refine lv_if_eq (tgt := 931) hx hb9 dL_holds_672 (by decide) (fun c9 => absurd c9 (show ¬ nI 1 = 0 by decide)) (fun _ => ?_)
      refine lv_aload_n hx hb9 dL_holds_675 rfl (lv_at hl 0 rfl) ?_
      refine lv_bipush (v := nI 11) hx hb9 dL_holds_676 (by decide) ?_
      refine lv_iload hx hb9 dL_holds_678 (lv_at hl 8 rfl) ?_
      refine lv_iconst (v := nI 0) hx hb9 dL_holds_680 (by decide) ?_
      refine lv_iconst (v := nI 0) hx hb9 dL_holds_681 (by decide) ?_
      refine gstepS (As := [.int (nI 11), .int (nI k), .int (nI 0), .int (nI 0)]) (rest := []) F (((kq11 l hst D cc a G (nI k) (nI 0) (nI 0)).v (v' := (nI 1)) ((pr_v hk h0).trans (by rw [e1]))).g (pr_G hk h0)) cwA hO hS hl rfl rfl (Nat.le_of_ble_eq_true rfl) dL_holds_682 ⟨by omega, by omega⟩ (fun H locs hO hS => ?_)
      refine lv_istore (lv' := [(13, .int (nI 1)), (0, .ref (a 0)), (2, .int (nI (G.1 110))), (3, .int (nI ((sigM G.1 0 (G.1 77)).length))), (4, .int (nI 1)), (6, .int (nI (G.1 0))), (7, .int (nI (hhow G.1 0 99))), (8, .int (byI (hnr G.1 0 99))), (9, .int (oneI (hnr G.1 0 99))), (10, .int (nI k)), (11, .int (nI (G.1 (80 + k)))), (12, .int (nI (suM G.1)))]) hx hb9 dL_holds_685 hl (by decide) rfl (fun ls hl => ?_)
      refine lv_iload hx hb9 dL_holds_687 (lv_at hl 0 rfl) ?_
      refine lv_if_ne (tgt := 696) hx hb9 dL_holds_689 (by decide) (fun _ => ?_) (fun c9 => absurd c9 (show ¬ nI 1 = 0 by decide))
      refine lv_iconst (v := nI 0) hx hb9 dL_holds_696 (by decide) ?_
      refine lv_iload hx hb9 dL_holds_697 (lv_at hl 6 rfl) ?_
      refine lv_if_ne (tgt := 729) hx hb9 dL_holds_699 (by decide) (fun _ => ?_) (fun c9 => absurd c9 (nI_ne0 (by omega) (by omega)))
      refine lv_iconst (v := nI 0) hx hb9 dL_holds_729 (by decide) ?_
      refine lv_icmp_ne (tgt := 824) hx hb9 dL_holds_730 (by decide) (fun c9 => absurd ((rfl : (_ : Int32) = _)) c9) (fun _ => ?_)
      refine lv_iload hx hb9 dL_holds_733 (lv_at hl 0 rfl) ?_
      refine lv_iconst (v := nI 1) hx hb9 dL_holds_735 (by decide) ?_
      refine lv_icmp_ne (tgt := 743) hx hb9 dL_holds_736 (by decide) (fun c9 => absurd ((rfl : (_ : Int32) = _)) c9) (fun _ => ?_)
      refine lv_iconst (v := nI 1) hx hb9 dL_holds_739 (by decide) ?_
      refine lv_goto (tgt := 744) hx hb9 dL_holds_740 (by decide) ?_
      refine lv_iload hx hb9 dL_holds_744 (lv_at hl 6 rfl) ?_
      refine lv_if_le (tgt := 753) hx hb9 dL_holds_746 (by decide) (fun c9 => absurd c9 (nI_nle (by omega) (by omega))) (fun _ => ?_)
      refine lv_iconst (v := nI 1) hx hb9 dL_holds_749 (by decide) ?_
      refine lv_goto (tgt := 754) hx hb9 dL_holds_750 (by decide) ?_
      refine lv_icmp_ne (tgt := 824) hx hb9 dL_holds_754 (by decide) (fun c9 => absurd ((rfl : (_ : Int32) = _)) c9) (fun _ => ?_)
      refine lv_aload_n hx hb9 dL_holds_757 rfl (lv_at hl 1 rfl) ?_
      refine lv_iconst (v := nI 5) hx hb9 dL_holds_758 (by decide) ?_
      refine lv_iload hx hb9 dL_holds_759 (lv_at hl 9 rfl) ?_
      refine lv_iconst (v := nI 0) hx hb9 dL_holds_761 (by decide) ?_
      refine lv_iconst (v := nI 0) hx hb9 dL_holds_762 (by decide) ?_
      refine gstepS (As := [.int (nI 5), .int (nI k), .int (nI 0), .int (nI 0)]) (rest := []) F ((kq5 l hst D cc a (pG G k) (nI k) (nI 0) (nI 0)).v (v' := (nI (G.1 (80 + k) + 0))) ((pR_pp hk).trans (by rw [e1]; rfl))) cwR hO hS hl rfl rfl (Nat.le_of_ble_eq_true rfl) dL_holds_763 ⟨by omega, by omega⟩ (fun H locs hO hS => ?_)
      refine lv_iload hx hb9 dL_holds_766 (lv_at hl 10 rfl) ?_
      refine lv_iload hx hb9 dL_holds_768 (lv_at hl 0 rfl) ?_
      refine lv_if_ne (tgt := 777) hx hb9 dL_holds_770 (by decide) (fun _ => ?_) (fun c9 => absurd c9 (show ¬ nI 1 = 0 by decide))
      refine lv_iconst (v := nI 0) hx hb9 dL_holds_777 (by decide) ?_
      refine gr_iadd hx hb9 dL_holds_778 ?_
      refine lv_icmp_ne (tgt := 824) hx hb9 dL_holds_779 (by decide) (fun c9 => absurd ((rfl : (_ : Int32) = _)) c9) (fun _ => ?_)
      refine lv_aload_n hx hb9 dL_holds_782 rfl (lv_at hl 1 rfl) ?_
      refine lv_iconst (v := nI 1) hx hb9 dL_holds_783 (by decide) ?_
      refine lv_iconst (v := nI 5) hx hb9 dL_holds_784 (by decide) ?_
      refine lv_iconst (v := nI 0) hx hb9 dL_holds_785 (by decide) ?_
      refine lv_iconst (v := nI 0) hx hb9 dL_holds_786 (by decide) ?_
      refine gstepS (As := [.int (nI 1), .int (nI 5), .int (nI 0), .int (nI 0)]) (rest := []) F ((kq1 l hst D cc a (pG G k) (nI 5) (nI 0) (nI 0)).v (v' := (nI (suM G.1 + 1))) (pR_su hk)) cwR hO hS hl rfl rfl (Nat.le_of_ble_eq_true rfl) dL_holds_787 ⟨by omega, by omega⟩ (fun H locs hO hS => ?_)
      refine lv_iload hx hb9 dL_holds_790 (lv_at hl 11 rfl) ?_
      refine lv_iconst (v := nI 1) hx hb9 dL_holds_792 (by decide) ?_
      refine gr_iadd hx hb9 dL_holds_793 ?_
      refine lv_icmp_ne (tgt := 824) hx hb9 dL_holds_794 (by decide) (fun c9 => absurd ((rfl : (_ : Int32) = _)) c9) (fun _ => ?_)
      refine lv_aload_n hx hb9 dL_holds_797 rfl (lv_at hl 1 rfl) ?_
      refine lv_iconst (v := nI 1) hx hb9 dL_holds_798 (by decide) ?_
      refine lv_iconst (v := nI 0) hx hb9 dL_holds_799 (by decide) ?_
      refine lv_iconst (v := nI 0) hx hb9 dL_holds_800 (by decide) ?_
      refine lv_iconst (v := nI 0) hx hb9 dL_holds_801 (by decide) ?_
      refine gstepS (As := [.int (nI 1), .int (nI 0), .int (nI 0), .int (nI 0)]) (rest := []) F ((kq1 l hst D cc a (pG G k) (nI 0) (nI 0) (nI 0)).v (v' := (nI 0)) (pR_0 _ _)) cwR hO hS hl rfl rfl (Nat.le_of_ble_eq_true rfl) dL_holds_802 ⟨by omega, by omega⟩ (fun H locs hO hS => ?_)
      refine lv_if_ne (tgt := 824) hx hb9 dL_holds_805 (by decide) (fun c9 => absurd ((show nI 0 = 0 from rfl)) c9) (fun _ => ?_)
      refine lv_aload_n hx hb9 dL_holds_808 rfl (lv_at hl 1 rfl) ?_
      refine lv_bipush (v := nI 13) hx hb9 dL_holds_809 (by decide) ?_
      refine lv_iconst (v := nI 0) hx hb9 dL_holds_811 (by decide) ?_
      refine lv_iconst (v := nI 0) hx hb9 dL_holds_812 (by decide) ?_
      refine lv_iconst (v := nI 0) hx hb9 dL_holds_813 (by decide) ?_
      refine gstepS (As := [.int (nI 13), .int (nI 0), .int (nI 0), .int (nI 0)]) (rest := []) F (((kq13 l hst D cc a (pG G k) (nI 0) (nI 0) (nI 0)).v (v' := (nI ((G.2.2.2.1.take 13).length))) (ud_p _ _)).g (ud_pG _ _)) cwR hO hS hl rfl rfl (Nat.le_of_ble_eq_true rfl) dL_holds_814 ⟨by omega, by omega⟩ (fun H locs hO hS => ?_)
      refine lv_if_lt (tgt := 824) hx hb9 dL_holds_817 (by decide) (fun c9 => absurd c9 (nI_pos (take_lt _))) (fun _ => ?_)
      refine lv_iconst (v := nI 1) hx hb9 dL_holds_820 (by decide) ?_
      refine lv_goto (tgt := 825) hx hb9 dL_holds_821 (by decide) ?_
      refine lv_istore (lv' := [(4, .int (nI 1)), (13, .int (nI 1)), (0, .ref (a 0)), (2, .int (nI (G.1 110))), (3, .int (nI ((sigM G.1 0 (G.1 77)).length))), (6, .int (nI (G.1 0))), (7, .int (nI (hhow G.1 0 99))), (8, .int (byI (hnr G.1 0 99))), (9, .int (oneI (hnr G.1 0 99))), (10, .int (nI k)), (11, .int (nI (G.1 (80 + k)))), (12, .int (nI (suM G.1)))]) hx hb9 dL_holds_825 hl (by decide) rfl (fun ls hl => ?_)
      refine W.widen (k := cells + 16) (n := slots + 1480) (by omega) (by omega) ?_
      exact kk H locs ls hO hS (lv_sub hl [2, 3, 4, 0, 5, 6, 7, 8, 9] rfl)
theorem ho_b7n (hst : l.stackTraces = false) (F : gF p m c cL_holds 17 s args wsL_holds meth (some .boolean) D cc A) (hk : k < 10) (hl9 : ¬ lrnOk G.1 k) (hO : HO D cc A a G Rw H) (hS : va_S A s.heap H locs) (hl : lv_has ls 17 [(0, .ref (a 0)), (2, .int (nI (G.1 110))), (3, .int (nI ((sigM G.1 0 (G.1 77)).length))), (4, .int (nI 1)), (6, .int (nI (G.1 0))), (7, .int (nI (hhow G.1 0 99))), (8, .int (byI (hnr G.1 0 99))), (9, .int (oneI (hnr G.1 0 99))), (10, .int (nI k))]) (hf : cells + 16 ≤ rmHo.cells ∧ slots + 1480 ≤ rmHo.slots)
    (kk : ∀ (H : Heap) (locs : List Loc) (ls : Array Slot), HO D cc A a (G) Rw H → va_S A s.heap H locs → lv_has ls 17 [(0, .ref (a 0)), (2, .int (nI (G.1 110))), (3, .int (nI ((sigM G.1 0 (G.1 77)).length))), (4, .int (nI 1)), (8, .int (byI (hnr G.1 0 99)))] → W p l e rmHo s m args below meth c H locs (cells + 16) (slots + 1480) Q (F0 m 931 ls [])) : W p l e rmHo s m args below meth c H locs cells slots Q (F0 m 827 ls []) := by
  have hx := F.1.1.1
  have hb9 := F.1.1.2.1
  have hts := F.1.1.2.2.2.2
  have h := hO.inv
  have h16 := h.h16
  have h40 := h.hand.2
  have h3 := h.hand.1.1.1
  have cwR := va_cwS (rm := rmK 1 6) (R := rmHo) 5 hts gL_holds_L_call rfl rfl rfl (by decide +kernel) ⟨Nat.le_of_ble_eq_true rfl, Nat.le_of_ble_eq_true rfl⟩
  have cwA := va_cwS (rm := rmK 11 1443) (R := rmHo) 5 hts gL_holds_L_call rfl rfl rfl (by decide +kernel) ⟨Nat.le_of_ble_eq_true rfl, Nat.le_of_ble_eq_true rfl⟩
  refine lv_aload_n hx hb9 dL_holds_827 rfl (lv_at hl 0 rfl) ?_
  refine lv_bipush (v := nI 9) hx hb9 dL_holds_828 (by decide) ?_
  refine lv_iload hx hb9 dL_holds_830 (lv_at hl 8 rfl) ?_
  refine lv_iconst (v := nI 0) hx hb9 dL_holds_832 (by decide) ?_
  refine lv_iconst (v := nI 0) hx hb9 dL_holds_833 (by decide) ?_
  refine gstepS (As := [.int (nI 9), .int (nI k), .int (nI 0), .int (nI 0)]) (rest := []) F (((kq9 l hst D cc a G (nI k) (nI 0) (nI 0)).v (v' := ((-9999003 : Int32))) (wv1 (le_not hk hl9) wv_IS)).g (nx1 (le_not hk hl9))) cwA hO hS hl rfl rfl (Nat.le_of_ble_eq_true rfl) dL_holds_834 ⟨by omega, by omega⟩ (fun H locs hO hS => ?_)
  refine lv_istore (lv' := [(14, .int ((-9999003 : Int32))), (0, .ref (a 0)), (2, .int (nI (G.1 110))), (3, .int (nI ((sigM G.1 0 (G.1 77)).length))), (4, .int (nI 1)), (6, .int (nI (G.1 0))), (7, .int (nI (hhow G.1 0 99))), (8, .int (byI (hnr G.1 0 99))), (9, .int (oneI (hnr G.1 0 99))), (10, .int (nI k))]) hx hb9 dL_holds_837 hl (by decide) rfl (fun ls hl => ?_)
  refine lv_iload hx hb9 dL_holds_839 (lv_at hl 0 rfl) ?_
  refine lv_if_lt (tgt := 931) hx hb9 dL_holds_841 (by decide) (fun _ => ?_) (fun c9 => absurd ((show (-9999003 : Int32) < 0 by decide)) c9)
  refine W.widen (k := cells + 16) (n := slots + 1480) (by omega) (by omega) ?_
  exact kk H locs ls hO hS (lv_sub hl [1, 2, 3, 4, 7] rfl)
theorem ho_b7y (hst : l.stackTraces = false) (F : gF p m c cL_holds 17 s args wsL_holds meth (some .boolean) D cc A) (hk : k < 10) (hl9 : lrnOk G.1 k) (hO : HO D cc A a G Rw H) (hS : va_S A s.heap H locs) (hl : lv_has ls 17 [(0, .ref (a 0)), (2, .int (nI (G.1 110))), (3, .int (nI ((sigM G.1 0 (G.1 77)).length))), (4, .int (nI 1)), (6, .int (nI (G.1 0))), (7, .int (nI (hhow G.1 0 99))), (8, .int (byI (hnr G.1 0 99))), (9, .int (oneI (hnr G.1 0 99))), (10, .int (nI k))]) (hf : cells + 16 ≤ rmHo.cells ∧ slots + 1480 ≤ rmHo.slots)
    (kk : ∀ (H : Heap) (locs : List Loc) (ls : Array Slot), HO D cc A a (uG G) Rw H → va_S A s.heap H locs → lv_has ls 17 [(0, .ref (a 0)), (2, .int (nI (G.1 110))), (3, .int (nI ((sigM G.1 0 (G.1 77)).length))), (4, .int (nI 1)), (8, .int (byI (hnr G.1 0 99)))] → W p l e rmHo s m args below meth c H locs (cells + 16) (slots + 1480) Q (F0 m 931 ls [])) : W p l e rmHo s m args below meth c H locs cells slots Q (F0 m 827 ls []) := by
  have hx := F.1.1.1
  have hb9 := F.1.1.2.1
  have hts := F.1.1.2.2.2.2
  have h := hO.inv
  have h16 := h.h16
  have h40 := h.hand.2
  have h3 := h.hand.1.1.1
  have cwR := va_cwS (rm := rmK 1 6) (R := rmHo) 5 hts gL_holds_L_call rfl rfl rfl (by decide +kernel) ⟨Nat.le_of_ble_eq_true rfl, Nat.le_of_ble_eq_true rfl⟩
  have cwA := va_cwS (rm := rmK 11 1443) (R := rmHo) 5 hts gL_holds_L_call rfl rfl rfl (by decide +kernel) ⟨Nat.le_of_ble_eq_true rfl, Nat.le_of_ble_eq_true rfl⟩
  rcases near_cases h with ⟨n0, en, -⟩ | ⟨b, hb, en, -, -, -⟩
  · refine lv_aload_n hx hb9 dL_holds_827 rfl (lv_at hl 0 rfl) ?_
    refine lv_bipush (v := nI 9) hx hb9 dL_holds_828 (by decide) ?_
    refine lv_iload hx hb9 dL_holds_830 (lv_at hl 8 rfl) ?_
    refine lv_iconst (v := nI 0) hx hb9 dL_holds_832 (by decide) ?_
    refine lv_iconst (v := nI 0) hx hb9 dL_holds_833 (by decide) ?_
    refine gstepS (As := [.int (nI 9), .int (nI k), .int (nI 0), .int (nI 0)]) (rest := []) F (((kq9 l hst D cc a G (nI k) (nI 0) (nI 0)).v (v' := (nI (G.1 110))) (le_v hk hl9)).g (le_G hk hl9)) cwA hO hS hl rfl rfl (Nat.le_of_ble_eq_true rfl) dL_holds_834 ⟨by omega, by omega⟩ (fun H locs hO hS => ?_)
    refine lv_istore (lv' := [(14, .int (nI (G.1 110))), (0, .ref (a 0)), (2, .int (nI (G.1 110))), (3, .int (nI ((sigM G.1 0 (G.1 77)).length))), (4, .int (nI 1)), (6, .int (nI (G.1 0))), (7, .int (nI (hhow G.1 0 99))), (8, .int (byI (hnr G.1 0 99))), (9, .int (oneI (hnr G.1 0 99))), (10, .int (nI k))]) hx hb9 dL_holds_837 hl (by decide) rfl (fun ls hl => ?_)
    refine lv_iload hx hb9 dL_holds_839 (lv_at hl 0 rfl) ?_
    refine lv_if_lt (tgt := 931) hx hb9 dL_holds_841 (by decide) (fun c9 => absurd c9 (nI_pos (by omega))) (fun _ => ?_)
    refine lv_iload hx hb9 dL_holds_844 (lv_at hl 4 rfl) ?_
    refine lv_if_eq (tgt := 931) hx hb9 dL_holds_846 (by decide) (fun c9 => absurd c9 (show ¬ nI 1 = 0 by decide)) (fun _ => ?_)
    refine lv_iload hx hb9 dL_holds_849 (lv_at hl 0 rfl) ?_
    refine lv_iload_n hx hb9 dL_holds_851 rfl (lv_at hl 2 rfl) ?_
    refine lv_icmp_ne (tgt := 928) hx hb9 dL_holds_852 (by decide) (fun c9 => absurd ((rfl : (_ : Int32) = _)) c9) (fun _ => ?_)
    refine lv_aload_n hx hb9 dL_holds_855 rfl (lv_at hl 1 rfl) ?_
    refine lv_iconst (v := nI 3) hx hb9 dL_holds_856 (by decide) ?_
    refine lv_iload_n hx hb9 dL_holds_857 rfl (lv_at hl 2 rfl) ?_
    refine lv_iconst (v := nI 0) hx hb9 dL_holds_858 (by decide) ?_
    refine lv_iconst (v := nI 0) hx hb9 dL_holds_859 (by decide) ?_
    refine gstepS (As := [.int (nI 3), .int (nI (G.1 110)), .int (nI 0), .int (nI 0)]) (rest := []) F ((kq3 l hst D cc a (lG G k) (nI (G.1 110)) (nI 0) (nI 0)).v (v' := (nI k)) (lR_s0 h hl9)) cwR hO hS hl rfl rfl (Nat.le_of_ble_eq_true rfl) dL_holds_860 ⟨by omega, by omega⟩ (fun H locs hO hS => ?_)
    refine lv_iload hx hb9 dL_holds_863 (lv_at hl 9 rfl) ?_
    refine lv_icmp_ne (tgt := 928) hx hb9 dL_holds_865 (by decide) (fun c9 => absurd ((rfl : (_ : Int32) = _)) c9) (fun _ => ?_)
    refine lv_aload_n hx hb9 dL_holds_868 rfl (lv_at hl 1 rfl) ?_
    refine lv_iconst (v := nI 3) hx hb9 dL_holds_869 (by decide) ?_
    refine lv_iload_n hx hb9 dL_holds_870 rfl (lv_at hl 2 rfl) ?_
    refine lv_iconst (v := nI 3) hx hb9 dL_holds_871 (by decide) ?_
    refine lv_iconst (v := nI 0) hx hb9 dL_holds_872 (by decide) ?_
    refine gstepS (As := [.int (nI 3), .int (nI (G.1 110)), .int (nI 3), .int (nI 0)]) (rest := []) F ((kq3 l hst D cc a (lG G k) (nI (G.1 110)) (nI 3) (nI 0)).v (v' := (nI ((sigM G.1 0 (G.1 77)).length))) (lR_s3 h hl9)) cwR hO hS hl rfl rfl (Nat.le_of_ble_eq_true rfl) dL_holds_873 ⟨by omega, by omega⟩ (fun H locs hO hS => ?_)
    refine lv_iload_n hx hb9 dL_holds_876 rfl (lv_at hl 3 rfl) ?_
    refine lv_icmp_ne (tgt := 928) hx hb9 dL_holds_877 (by decide) (fun c9 => absurd ((rfl : (_ : Int32) = _)) c9) (fun _ => ?_)
    refine lv_aload_n hx hb9 dL_holds_880 rfl (lv_at hl 1 rfl) ?_
    refine lv_iconst (v := nI 3) hx hb9 dL_holds_881 (by decide) ?_
    refine lv_iload_n hx hb9 dL_holds_882 rfl (lv_at hl 2 rfl) ?_
    refine lv_iconst (v := nI 1) hx hb9 dL_holds_883 (by decide) ?_
    refine lv_iconst (v := nI 0) hx hb9 dL_holds_884 (by decide) ?_
    refine gstepS (As := [.int (nI 3), .int (nI (G.1 110)), .int (nI 1), .int (nI 0)]) (rest := []) F ((kq3 l hst D cc a (lG G k) (nI (G.1 110)) (nI 1) (nI 0)).v (v' := (nI (G.1 0))) (lR_s1 h hl9)) cwR hO hS hl rfl rfl (Nat.le_of_ble_eq_true rfl) dL_holds_885 ⟨by omega, by omega⟩ (fun H locs hO hS => ?_)
    refine lv_iload hx hb9 dL_holds_888 (lv_at hl 5 rfl) ?_
    refine lv_icmp_ne (tgt := 928) hx hb9 dL_holds_890 (by decide) (fun c9 => absurd ((rfl : (_ : Int32) = _)) c9) (fun _ => ?_)
    refine lv_iload_n hx hb9 dL_holds_893 rfl (lv_at hl 2 rfl) ?_
    refine lv_if_eq (tgt := 912) hx hb9 dL_holds_894 (by decide) (fun _ => ?_) (fun c9 => absurd ((show nI (G.1 110) = 0 by rw [n0]; rfl)) c9)
    refine lv_aload_n hx hb9 dL_holds_912 rfl (lv_at hl 1 rfl) ?_
    refine lv_bipush (v := nI 13) hx hb9 dL_holds_913 (by decide) ?_
    refine lv_iconst (v := nI 0) hx hb9 dL_holds_915 (by decide) ?_
    refine lv_iconst (v := nI 0) hx hb9 dL_holds_916 (by decide) ?_
    refine lv_iconst (v := nI 0) hx hb9 dL_holds_917 (by decide) ?_
    refine gstepS (As := [.int (nI 13), .int (nI 0), .int (nI 0), .int (nI 0)]) (rest := []) F (((kq13 l hst D cc a (lG G k) (nI 0) (nI 0) (nI 0)).v (v' := (nI ((G.2.2.2.1.take 13).length))) (ud_l _ _)).g (ud_lG _ _)) cwR hO hS hl rfl rfl (Nat.le_of_ble_eq_true rfl) dL_holds_918 ⟨by omega, by omega⟩ (fun H locs hO hS => ?_)
    refine lv_if_lt (tgt := 928) hx hb9 dL_holds_921 (by decide) (fun c9 => absurd c9 (nI_pos (take_lt _))) (fun _ => ?_)
    refine lv_iconst (v := nI 1) hx hb9 dL_holds_924 (by decide) ?_
    refine lv_goto (tgt := 929) hx hb9 dL_holds_925 (by decide) ?_
    refine lv_istore (lv' := [(4, .int (nI 1)), (14, .int (nI (G.1 110))), (0, .ref (a 0)), (2, .int (nI (G.1 110))), (3, .int (nI ((sigM G.1 0 (G.1 77)).length))), (6, .int (nI (G.1 0))), (7, .int (nI (hhow G.1 0 99))), (8, .int (byI (hnr G.1 0 99))), (9, .int (oneI (hnr G.1 0 99))), (10, .int (nI k))]) hx hb9 dL_holds_929 hl (by decide) rfl (fun ls hl => ?_)
    refine W.widen (k := cells + 16) (n := slots + 1480) (by omega) (by omega) ?_
    exact kk H locs ls hO hS (lv_sub hl [2, 3, 4, 0, 7] rfl)
  · refine lv_aload_n hx hb9 dL_holds_827 rfl (lv_at hl 0 rfl) ?_
    refine lv_bipush (v := nI 9) hx hb9 dL_holds_828 (by decide) ?_
    refine lv_iload hx hb9 dL_holds_830 (lv_at hl 8 rfl) ?_
    refine lv_iconst (v := nI 0) hx hb9 dL_holds_832 (by decide) ?_
    refine lv_iconst (v := nI 0) hx hb9 dL_holds_833 (by decide) ?_
    refine gstepS (As := [.int (nI 9), .int (nI k), .int (nI 0), .int (nI 0)]) (rest := []) F (((kq9 l hst D cc a G (nI k) (nI 0) (nI 0)).v (v' := (nI (G.1 110))) (le_v hk hl9)).g (le_G hk hl9)) cwA hO hS hl rfl rfl (Nat.le_of_ble_eq_true rfl) dL_holds_834 ⟨by omega, by omega⟩ (fun H locs hO hS => ?_)
    refine lv_istore (lv' := [(14, .int (nI (G.1 110))), (0, .ref (a 0)), (2, .int (nI (G.1 110))), (3, .int (nI ((sigM G.1 0 (G.1 77)).length))), (4, .int (nI 1)), (6, .int (nI (G.1 0))), (7, .int (nI (hhow G.1 0 99))), (8, .int (byI (hnr G.1 0 99))), (9, .int (oneI (hnr G.1 0 99))), (10, .int (nI k))]) hx hb9 dL_holds_837 hl (by decide) rfl (fun ls hl => ?_)
    refine lv_iload hx hb9 dL_holds_839 (lv_at hl 0 rfl) ?_
    refine lv_if_lt (tgt := 931) hx hb9 dL_holds_841 (by decide) (fun c9 => absurd c9 (nI_pos (by omega))) (fun _ => ?_)
    refine lv_iload hx hb9 dL_holds_844 (lv_at hl 4 rfl) ?_
    refine lv_if_eq (tgt := 931) hx hb9 dL_holds_846 (by decide) (fun c9 => absurd c9 (show ¬ nI 1 = 0 by decide)) (fun _ => ?_)
    refine lv_iload hx hb9 dL_holds_849 (lv_at hl 0 rfl) ?_
    refine lv_iload_n hx hb9 dL_holds_851 rfl (lv_at hl 2 rfl) ?_
    refine lv_icmp_ne (tgt := 928) hx hb9 dL_holds_852 (by decide) (fun c9 => absurd ((rfl : (_ : Int32) = _)) c9) (fun _ => ?_)
    refine lv_aload_n hx hb9 dL_holds_855 rfl (lv_at hl 1 rfl) ?_
    refine lv_iconst (v := nI 3) hx hb9 dL_holds_856 (by decide) ?_
    refine lv_iload_n hx hb9 dL_holds_857 rfl (lv_at hl 2 rfl) ?_
    refine lv_iconst (v := nI 0) hx hb9 dL_holds_858 (by decide) ?_
    refine lv_iconst (v := nI 0) hx hb9 dL_holds_859 (by decide) ?_
    refine gstepS (As := [.int (nI 3), .int (nI (G.1 110)), .int (nI 0), .int (nI 0)]) (rest := []) F ((kq3 l hst D cc a (lG G k) (nI (G.1 110)) (nI 0) (nI 0)).v (v' := (nI k)) (lR_s0 h hl9)) cwR hO hS hl rfl rfl (Nat.le_of_ble_eq_true rfl) dL_holds_860 ⟨by omega, by omega⟩ (fun H locs hO hS => ?_)
    refine lv_iload hx hb9 dL_holds_863 (lv_at hl 9 rfl) ?_
    refine lv_icmp_ne (tgt := 928) hx hb9 dL_holds_865 (by decide) (fun c9 => absurd ((rfl : (_ : Int32) = _)) c9) (fun _ => ?_)
    refine lv_aload_n hx hb9 dL_holds_868 rfl (lv_at hl 1 rfl) ?_
    refine lv_iconst (v := nI 3) hx hb9 dL_holds_869 (by decide) ?_
    refine lv_iload_n hx hb9 dL_holds_870 rfl (lv_at hl 2 rfl) ?_
    refine lv_iconst (v := nI 3) hx hb9 dL_holds_871 (by decide) ?_
    refine lv_iconst (v := nI 0) hx hb9 dL_holds_872 (by decide) ?_
    refine gstepS (As := [.int (nI 3), .int (nI (G.1 110)), .int (nI 3), .int (nI 0)]) (rest := []) F ((kq3 l hst D cc a (lG G k) (nI (G.1 110)) (nI 3) (nI 0)).v (v' := (nI ((sigM G.1 0 (G.1 77)).length))) (lR_s3 h hl9)) cwR hO hS hl rfl rfl (Nat.le_of_ble_eq_true rfl) dL_holds_873 ⟨by omega, by omega⟩ (fun H locs hO hS => ?_)
    refine lv_iload_n hx hb9 dL_holds_876 rfl (lv_at hl 3 rfl) ?_
    refine lv_icmp_ne (tgt := 928) hx hb9 dL_holds_877 (by decide) (fun c9 => absurd ((rfl : (_ : Int32) = _)) c9) (fun _ => ?_)
    refine lv_aload_n hx hb9 dL_holds_880 rfl (lv_at hl 1 rfl) ?_
    refine lv_iconst (v := nI 3) hx hb9 dL_holds_881 (by decide) ?_
    refine lv_iload_n hx hb9 dL_holds_882 rfl (lv_at hl 2 rfl) ?_
    refine lv_iconst (v := nI 1) hx hb9 dL_holds_883 (by decide) ?_
    refine lv_iconst (v := nI 0) hx hb9 dL_holds_884 (by decide) ?_
    refine gstepS (As := [.int (nI 3), .int (nI (G.1 110)), .int (nI 1), .int (nI 0)]) (rest := []) F ((kq3 l hst D cc a (lG G k) (nI (G.1 110)) (nI 1) (nI 0)).v (v' := (nI (G.1 0))) (lR_s1 h hl9)) cwR hO hS hl rfl rfl (Nat.le_of_ble_eq_true rfl) dL_holds_885 ⟨by omega, by omega⟩ (fun H locs hO hS => ?_)
    refine lv_iload hx hb9 dL_holds_888 (lv_at hl 5 rfl) ?_
    refine lv_icmp_ne (tgt := 928) hx hb9 dL_holds_890 (by decide) (fun c9 => absurd ((rfl : (_ : Int32) = _)) c9) (fun _ => ?_)
    refine lv_iload_n hx hb9 dL_holds_893 rfl (lv_at hl 2 rfl) ?_
    refine lv_if_eq (tgt := 912) hx hb9 dL_holds_894 (by decide) (fun c9 => absurd c9 (nI_ne0 (by omega) (by omega))) (fun _ => ?_)
    refine lv_aload_n hx hb9 dL_holds_897 rfl (lv_at hl 1 rfl) ?_
    refine lv_bipush (v := nI 16) hx hb9 dL_holds_898 (by decide) ?_
    refine lv_iload_n hx hb9 dL_holds_900 rfl (lv_at hl 2 rfl) ?_
    refine lv_iload hx hb9 dL_holds_901 (lv_at hl 8 rfl) ?_
    refine lv_iconst (v := nI 0) hx hb9 dL_holds_903 (by decide) ?_
    refine gstepS (As := [.int (nI 16), .int (nI (G.1 110)), .int (oneI (hnr G.1 0 99)), .int (nI 0)]) (rest := []) F ((kq16 l hst D cc a (lG G k) (nI (G.1 110)) (oneI (hnr G.1 0 99)) (nI 0)).v (v' := (byI (hnr G.1 0 99))) (by rw [en]; exact lR_be h hl9 hb)) cwR hO hS hl rfl rfl (Nat.le_of_ble_eq_true rfl) dL_holds_904 ⟨by omega, by omega⟩ (fun H locs hO hS => ?_)
    refine lv_iload hx hb9 dL_holds_907 (lv_at hl 7 rfl) ?_
    refine lv_icmp_ne (tgt := 928) hx hb9 dL_holds_909 (by decide) (fun c9 => absurd ((rfl : (_ : Int32) = _)) c9) (fun _ => ?_)
    refine lv_aload_n hx hb9 dL_holds_912 rfl (lv_at hl 1 rfl) ?_
    refine lv_bipush (v := nI 13) hx hb9 dL_holds_913 (by decide) ?_
    refine lv_iconst (v := nI 0) hx hb9 dL_holds_915 (by decide) ?_
    refine lv_iconst (v := nI 0) hx hb9 dL_holds_916 (by decide) ?_
    refine lv_iconst (v := nI 0) hx hb9 dL_holds_917 (by decide) ?_
    refine gstepS (As := [.int (nI 13), .int (nI 0), .int (nI 0), .int (nI 0)]) (rest := []) F (((kq13 l hst D cc a (lG G k) (nI 0) (nI 0) (nI 0)).v (v' := (nI ((G.2.2.2.1.take 13).length))) (ud_l _ _)).g (ud_lG _ _)) cwR hO hS hl rfl rfl (Nat.le_of_ble_eq_true rfl) dL_holds_918 ⟨by omega, by omega⟩ (fun H locs hO hS => ?_)
    refine lv_if_lt (tgt := 928) hx hb9 dL_holds_921 (by decide) (fun c9 => absurd c9 (nI_pos (take_lt _))) (fun _ => ?_)
    refine lv_iconst (v := nI 1) hx hb9 dL_holds_924 (by decide) ?_
    refine lv_goto (tgt := 929) hx hb9 dL_holds_925 (by decide) ?_
    refine lv_istore (lv' := [(4, .int (nI 1)), (14, .int (nI (G.1 110))), (0, .ref (a 0)), (2, .int (nI (G.1 110))), (3, .int (nI ((sigM G.1 0 (G.1 77)).length))), (6, .int (nI (G.1 0))), (7, .int (nI (hhow G.1 0 99))), (8, .int (byI (hnr G.1 0 99))), (9, .int (oneI (hnr G.1 0 99))), (10, .int (nI k))]) hx hb9 dL_holds_929 hl (by decide) rfl (fun ls hl => ?_)
    refine W.widen (k := cells + 16) (n := slots + 1480) (by omega) (by omega) ?_
    exact kk H locs ls hO hS (lv_sub hl [2, 3, 4, 0, 7] rfl)
theorem ho_b8 (hst : l.stackTraces = false) (F : gF p m c cL_holds 17 s args wsL_holds meth (some .boolean) D cc A)  (hO : HO D cc A a G Rw H) (hS : va_S A s.heap H locs) (hl : lv_has ls 17 [(0, .ref (a 0)), (2, .int (nI (G.1 110))), (3, .int (nI ((sigM G.1 0 (G.1 77)).length))), (4, .int (nI 1)), (8, .int (byI (hnr G.1 0 99)))]) (hf : cells + 3 ≤ rmHo.cells ∧ slots + 18 ≤ rmHo.slots)
    (kk : ∀ (H : Heap) (locs : List Loc) (ls : Array Slot), HO D cc A a (G) Rw H → va_S A s.heap H locs → lv_has ls 17 [] → W p l e rmHo s m args below meth c H locs (cells + 3) (slots + 18) Q (F0 m 979 ls [.int (nI 1)])) : W p l e rmHo s m args below meth c H locs cells slots Q (F0 m 931 ls []) := by
  have hx := F.1.1.1
  have hb9 := F.1.1.2.1
  have hts := F.1.1.2.2.2.2
  have h := hO.inv
  have h16 := h.h16
  have h40 := h.hand.2
  have h3 := h.hand.1.1.1
  have cwR := va_cwS (rm := rmK 1 6) (R := rmHo) 5 hts gL_holds_L_call rfl rfl rfl (by decide +kernel) ⟨Nat.le_of_ble_eq_true rfl, Nat.le_of_ble_eq_true rfl⟩
  refine lv_iload hx hb9 dL_holds_931 (lv_at hl 3 rfl) ?_
  refine lv_if_eq (tgt := 978) hx hb9 dL_holds_933 (by decide) (fun c9 => absurd c9 (show ¬ nI 1 = 0 by decide)) (fun _ => ?_)
  refine lv_aload_n hx hb9 dL_holds_936 rfl (lv_at hl 0 rfl) ?_
  refine lv_iconst (v := nI 1) hx hb9 dL_holds_937 (by decide) ?_
  refine lv_iconst (v := nI 3) hx hb9 dL_holds_938 (by decide) ?_
  refine lv_iconst (v := nI 0) hx hb9 dL_holds_939 (by decide) ?_
  refine lv_iconst (v := nI 0) hx hb9 dL_holds_940 (by decide) ?_
  refine gstepS (As := [.int (nI 1), .int (nI 3), .int (nI 0), .int (nI 0)]) (rest := []) F ((kq1 l hst D cc a G (nI 3) (nI 0) (nI 0)).v (v' := (nI ((sigM G.1 0 (G.1 77)).length))) (ab3 _)) cwR hO hS hl rfl rfl (Nat.le_of_ble_eq_true rfl) dL_holds_941 ⟨by omega, by omega⟩ (fun H locs hO hS => ?_)
  refine lv_iload_n hx hb9 dL_holds_944 rfl (lv_at hl 2 rfl) ?_
  refine lv_icmp_ne (tgt := 978) hx hb9 dL_holds_945 (by decide) (fun c9 => absurd ((rfl : (_ : Int32) = _)) c9) (fun _ => ?_)
  refine lv_aload_n hx hb9 dL_holds_948 rfl (lv_at hl 0 rfl) ?_
  refine lv_iconst (v := nI 1) hx hb9 dL_holds_949 (by decide) ?_
  refine lv_iconst (v := nI 4) hx hb9 dL_holds_950 (by decide) ?_
  refine lv_iconst (v := nI 0) hx hb9 dL_holds_951 (by decide) ?_
  refine lv_iconst (v := nI 0) hx hb9 dL_holds_952 (by decide) ?_
  refine gstepS (As := [.int (nI 1), .int (nI 4), .int (nI 0), .int (nI 0)]) (rest := []) F ((kq1 l hst D cc a G (nI 4) (nI 0) (nI 0)).v (v' := (nI (G.1 110))) (ab4 _)) cwR hO hS hl rfl rfl (Nat.le_of_ble_eq_true rfl) dL_holds_953 ⟨by omega, by omega⟩ (fun H locs hO hS => ?_)
  refine lv_iload_n hx hb9 dL_holds_956 rfl (lv_at hl 1 rfl) ?_
  refine lv_icmp_ne (tgt := 978) hx hb9 dL_holds_957 (by decide) (fun c9 => absurd ((rfl : (_ : Int32) = _)) c9) (fun _ => ?_)
  refine lv_aload_n hx hb9 dL_holds_960 rfl (lv_at hl 0 rfl) ?_
  refine lv_bipush (v := nI 14) hx hb9 dL_holds_961 (by decide) ?_
  refine lv_iconst (v := nI 2) hx hb9 dL_holds_963 (by decide) ?_
  refine lv_iconst (v := nI 0) hx hb9 dL_holds_964 (by decide) ?_
  refine lv_iconst (v := nI 0) hx hb9 dL_holds_965 (by decide) ?_
  refine gstepS (As := [.int (nI 14), .int (nI 2), .int (nI 0), .int (nI 0)]) (rest := []) F ((kq14 l hst D cc a G (nI 2) (nI 0) (nI 0)).v (v' := (byI (hnr G.1 0 99))) (rd2 _)) cwR hO hS hl rfl rfl (Nat.le_of_ble_eq_true rfl) dL_holds_966 ⟨by omega, by omega⟩ (fun H locs hO hS => ?_)
  refine lv_iload hx hb9 dL_holds_969 (lv_at hl 4 rfl) ?_
  refine lv_icmp_ne (tgt := 978) hx hb9 dL_holds_971 (by decide) (fun c9 => absurd ((rfl : (_ : Int32) = _)) c9) (fun _ => ?_)
  refine lv_iconst (v := nI 1) hx hb9 dL_holds_974 (by decide) ?_
  refine lv_goto (tgt := 979) hx hb9 dL_holds_975 (by decide) ?_
  refine W.widen (k := cells + 3) (n := slots + 18) (by omega) (by omega) ?_
  exact kk H locs ls hO hS (lv_sub hl [] rfl)
/-- HOLDS answers true; the state behind it is told by the state alone -/
theorem k_holds (l : Launch) (hst : l.stackTraces = false) (D : va_G) (cc : Nat → ClassId) (G : GS) {x : Nat} (hx2 : x < 2 ^ 31) : ∃ G' : GS, ∀ a : Nat → Nat, gO l yL_holds wsL_holds rmHo D cc a [.int (nI x)] G (nI 1) G' 160 4000 := by
  have hf : rmHo.cells = 160 ∧ rmHo.slots = 4000 := ⟨rfl, rfl⟩
  have hk : x / 4096 % 10 < 10 := Nat.mod_lt _ (by omega)
  have go : ∀ (G' : GS), (∀ (a : Nat → Nat) (Rw : va_W) (p : Program) (e : Env) (s : State) (m : MethodId) (args : Array Value) (below : List Frame) (meth : Method) (c : Code) (A : Nat → Prop) (Q : State → Prop), gF p m c cL_holds 17 s args wsL_holds meth (some .boolean) D cc A → ∀ (H : Heap) (locs : List Loc) (ls : Array Slot), HO D cc A a G Rw H → va_S A s.heap H locs → lv_has ls 17 [(0, .ref (a 0)), (2, .int (nI (G.1 110))), (3, .int (nI ((sigM G.1 0 (G.1 77)).length))), (4, .int (nI 1)), (6, .int (nI (G.1 0))), (7, .int (nI (hhow G.1 0 99))), (8, .int (byI (hnr G.1 0 99))), (9, .int (oneI (hnr G.1 0 99))), (10, .int (nI ((x / 4096) % 10))), (11, .int (nI (G.1 (80 + ((x / 4096) % 10))))), (12, .int (nI (suM G.1)))] →
      (∀ (H : Heap) (locs : List Loc) (ls : Array Slot), HO D cc A a G' Rw H → va_S A s.heap H locs → W p l e rmHo s m args below meth c H locs 107 3410 Q (F0 m 979 ls [.int (nI 1)])) → W p l e rmHo s m args below meth c H locs 72 432 Q (F0 m 665 ls [])) → ∀ a : Nat → Nat, gO l yL_holds wsL_holds rmHo D cc a [.int (nI x)] G (nI 1) G' 160 4000 := by
    intro G' hz a x9 L9 Rw hI
    refine glstart (bc := cL_holds) (maxL := 17) (ret := (some .boolean)) (by decide) rfl rfl (Nat.le_of_ble_eq_true rfl) ?_
    intro p e s m below meth c A hAe F hP hD hS ls hl
    have hO : HO D cc A a G Rw s.heap := ⟨x9, L9, hI, hP, hD⟩
    have hl : lv_has ls 17 [(0, .ref (a 0)), (1, .int (nI x))] := hl
    refine ho_pre (cells := 0) (slots := 0) hst F hx2 hO hS hl ⟨by omega, by omega⟩ (fun H locs ls hO hS hl => ?_)
    refine hz a Rw p e s m _ below meth c A _ F H locs ls hO hS (lv_sub hl [0, 2, 3, 4, 5, 6, 7, 8, 9, 10, 11] rfl) (fun H locs ls hO hS => ?_)
    exact gHO.endz F (by decide) hAe hO hS rfl (by omega) (by omega) dL_holds_979
  by_cases z0 : G.1 0 = 0
  · refine ⟨G, go G ?_⟩
    intro a Rw p e s m args below meth c A Q F H locs ls hO hS hl kk
    refine ho_b6z hst F z0 hO hS hl ⟨by omega, by omega⟩ (fun H locs ls hO hS hl => ?_)
    refine ho_b8 hst F hO hS hl ⟨by omega, by omega⟩ (fun H locs ls hO hS hl => ?_)
    refine W.widen (k := 107) (n := 3410) (by omega) (by omega) ?_
    exact kk H locs ls hO hS
  · by_cases hl9 : lrnOk (uG G).1 (x / 4096 % 10)
    · refine ⟨uG (uG G), go _ ?_⟩
      intro a Rw p e s m args below meth c A Q F H locs ls hO hS hl kk
      refine ho_b6 hst F hk z0 hO hS hl ⟨by omega, by omega⟩ (fun H locs ls hO hS hl => ?_)
      refine ho_b7y (G := uG G) hst F hk hl9 hO hS hl ⟨by omega, by omega⟩ (fun H locs ls hO hS hl => ?_)
      refine ho_b8 (G := uG (uG G)) hst F hO hS hl ⟨by omega, by omega⟩ (fun H locs ls hO hS hl => ?_)
      refine W.widen (k := 107) (n := 3410) (by omega) (by omega) ?_
      exact kk H locs ls hO hS
    · refine ⟨uG G, go _ ?_⟩
      intro a Rw p e s m args below meth c A Q F H locs ls hO hS hl kk
      refine ho_b6 hst F hk z0 hO hS hl ⟨by omega, by omega⟩ (fun H locs ls hO hS hl => ?_)
      refine ho_b7n (G := uG G) hst F hk hl9 hO hS hl ⟨by omega, by omega⟩ (fun H locs ls hO hS hl => ?_)
      refine ho_b8 (G := uG G) hst F hO hS hl ⟨by omega, by omega⟩ (fun H locs ls hO hS hl => ?_)
      refine W.widen (k := 107) (n := 3410) (by omega) (by omega) ?_
      exact kk H locs ls hO hS
end XLHOLDS
