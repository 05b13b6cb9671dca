/-! LAW 5: the law's loop -/
section XLLAW
def rmCe : Room := { frames := 1, cells := 0, slots := 0, locals := 40 }
def cellV (xs : Nat → Int32) (L k : Nat) : Int32 := (if k < L then xs k else (15518393 : Int32) * nI (k + 3) + nI 10651) &&& (2147483647 : Int32)
theorem cellV_nI (xs : Nat → Int32) (L k : Nat) : ∃ j, j < 2 ^ 31 ∧ cellV xs L k = nI j := ⟨_, Nat.mod_lt _ (by decide), pk_and _ 31 (by decide)⟩
def xcP (b L sz : Nat) (xs : Nat → Int32) (U : State) : Prop := va_X b L xs U U.heap ∧ b < sz ∧ U.heap.size = sz
theorem xcP.blind {b L sz : Nat} {xs : Nat → Int32} {av : List Value} : FrameBlind (va_Pc av (xcP b L sz xs)) := fun a U g mk q => by
  obtain ⟨q0, q1, q2, q3⟩ := q
  exact ⟨q0, va_X.moved (u := U) (U := U.calling g mk a) (Vm.Alike.refl U.vm) q1, q2, q3⟩
theorem k_cell (l : Launch) (b : Nat) {L k : Nat} (xs : Nat → Int32) (hL : L < 2 ^ 31) (hk : k + 3 < 2 ^ 31) (sz : Nat) : Met l yL_cell wsL_cell rmCe (va_Pc [.ref b, .int (nI k)] (xcP b L sz xs)) (va_Qi (fun r (_ : Unit) => r = cellV xs L k) (fun _ _ => True) (va_A [] sz)) 0 0 (va_A [] sz) := by
  refine Met.ofW (cc := cL_cell) (maxL := 2) (ret := some .int) (by decide) rfl ?_
  intro p e s m args below meth c s₁ B hml hv
  obtain ⟨rfl, hX, hbs, rfl⟩ := hv
  have hts := atoms_spec (ws := wsL_cell) B.pre
  have hl := lv_entry [.ref b, .int (nI k)] (n := 2) (Nat.le_of_ble_eq_true rfl)
  rw [lg_entry_eq]
  have hown := findClass_of_methodNamed B.named
  have hx := B.exec
  have hb := B.bytes
  have hr := B.returns
  have hlk := B.notSynchronized
  have hS : va_S (va_A [] s.heap.size) s.heap s.heap [] := va_S.rf
  have hbA : ¬ va_A [] s.heap.size b := fun h => by
    rcases h with ⟨k, e, h⟩ | h
    · cases h
    · omega
  generalize (lg_sl [.ref b, .int (nI k)] ++ List.replicate (2 - (lg_sl [.ref b, .int (nI k)]).length) Slot.unset).toArray = ls at hl ⊢
  have hl : lv_has ls 2 [(0, .ref b), (1, .int (nI k))] := hl
  have fin : ∀ (v : Int32), (v &&& (2147483647 : Int32)) = cellV xs L k → W p l e rmCe s m [Value.ref b, .int (nI k)].toArray below meth c s.heap [] 0 0 (MQ below (va_Qi (fun r (_ : Unit) => r = cellV xs L k) (fun _ _ => True) (va_A [] s.heap.size)) [Value.ref b, .int (nI k)].toArray s 0 0 (va_A [] s.heap.size)) (F0 m 22 ls [.int v]) := by
    intro v hv
    refine lv_ldc (v := (2147483647 : Int32)) hx hb hown (hts _ (by decide +kernel)) dL_cell_22 ?_
    refine lv_iand hx hb dL_cell_24 ?_
    exact W.iret hx hb hr (fun t ht hW => ⟨⟨_, (), rfl, hv, True.intro⟩, hS.F ht⟩) hS.2.2 dL_cell_25 hlk
  refine lv_iload_n hx hb dL_cell_0 rfl (lv_at hl 1 rfl) ?_
  refine lv_aload_n hx hb dL_cell_1 rfl (lv_at hl 0 rfl) ?_
  refine va_slen hx hb hX hbs hbA hS dL_cell_2 ?_
  by_cases hkL : k < L
  · refine lv_icmp_ge (tgt := 12) hx hb dL_cell_3 (by decide) (fun c9 => absurd c9 (nI_ge hkL hL)) (fun _ => ?_)
    refine lv_aload_n hx hb dL_cell_6 rfl (lv_at hl 0 rfl) ?_
    refine lv_iload_n hx hb dL_cell_7 rfl (lv_at hl 1 rfl) ?_
    refine va_sld hx hb hX hbs hbA hS (vp_in_nI hkL hL) dL_cell_8 ?_
    refine lv_goto (tgt := 22) hx hb dL_cell_9 (by decide) ?_
    refine fin _ ?_
    unfold cellV
    rw [if_pos hkL, nI_clamp (by omega)]
  · refine lv_icmp_ge (tgt := 12) hx hb dL_cell_3 (by decide) (fun _ => ?_) (fun c9 => absurd (nI_le (Nat.not_lt.mp hkL) (by omega)) c9)
    refine lv_ldc (v := (15518393 : Int32)) hx hb hown (hts _ (by decide +kernel)) dL_cell_12 ?_
    refine lv_iload_n hx hb dL_cell_14 rfl (lv_at hl 1 rfl) ?_
    refine lv_iconst (v := nI 3) hx hb dL_cell_15 (by decide) ?_
    refine gr_iadd hx hb dL_cell_16 ?_
    refine lv_imul hx hb dL_cell_17 ?_
    refine lv_sipush (v := nI 10651) hx hb dL_cell_18 (by decide) ?_
    refine lv_iadd hx hb dL_cell_21 ?_
    refine fin _ ?_
    unfold cellV
    rw [if_neg hkL]
section STEPS5
variable {p : Program} {l : Launch} {e : Env} {R : Room} {s : State} {m : MethodId} {args : Array Value} {below : List Frame} {meth : Method} {c : Code} {H : Heap} {locs : List Loc} {cells slots : Nat} {Q : State → Prop} {bc : ByteArray} {maxL0 : Nat} {Ts : List Cond} {ret : Option FieldType} {D : va_G} {cc : Nat → ClassId} {A : Nat → Prop}
variable {a b : Nat → Nat} {G G' G2 : GS} {v : Int32} {y : MethodName} {wy : List Cond} {rm : Room} {mc ms n index maxL pc : Nat} {bytes : ByteArray} {hh : List (Nat × Nat × Nat × Nat)} {ry : Option FieldType} {rest st0 As : List Value} {ls : Array Slot} {lv9 : List (Nat × Value)}
theorem gstepC {bS L k j : Nat} {xs : Nat → Int32} (F : gF p m c bc maxL0 s args Ts meth ret D cc A) (hX : va_X bS L xs s s.heap) (hbl : bS < s.heap.size) (hbA : ¬ A bS) (hL : L < 2 ^ 31) (hk : k + 3 < 2 ^ 31) (hj : cellV xs L k = nI j) (cw : CallB R s args RL index yL_cell cL_cell 2 (some .int) wsL_cell rmCe 0 0 2 ∧ (Cond.static yL_cell).before args s = true) (hO : HO2 D cc A a b G G2 H) (hS : va_S A s.heap H locs) (hl : lv_has ls maxL0 lv9) (hst : st0 = [Value.ref bS, .int (nI k)].reverse ++ rest) (hW : (rest.map fun v => v.category).sum ≤ 8) (hdg : decode bc pc = .ok (.invokestatic index, 3)) (hf : cells ≤ R.cells ∧ slots ≤ R.slots)
    (kk : ∀ (H1 : Heap) (locs1 : List Loc), HO2 D cc A a b G G2 H1 → va_S A s.heap H1 locs1 → W p l e R s m args below meth c H1 locs1 cells slots Q (F0 m (pc + 3) ls (.int (nI j) :: rest))) : W p l e R s m args below meth c H locs cells slots Q (F0 m pc ls st0) := by
  obtain ⟨x2, L2, hI2, x, L1, hI, hP, hD⟩ := hO
  have hF : ∀ q, va_A [] H.size q → A q := fun q h => by
    rcases h with ⟨k, e, h⟩ | h
    · cases h
    · exact F.2.2.2.2.2 q (Nat.le_trans hS.1 h)
  have hno : ∀ q, q < H.size → ¬ va_A [] H.size q := fun q hq h => by
    rcases h with ⟨k, e, h⟩ | h
    · cases h
    · omega
  refine va_calli (va_runS F.1.1 (k_cell l bS xs hL hk H.size) cw ⟨xcP.blind, fun U hU hW => ?_⟩ rfl rfl hl.1 hst (lv_room hW) hdg ⟨by omega, by omega⟩) hS (fun q hq h => absurd h (hno q hq)) hF (fun r u t H1 locs1 ht hvm hw hB hz1 hk1 hS1 => ?_)
  · subst hU
    exact ⟨rfl, va_X.moved hW.alike (hX.kept (hS.2.1 bS hbl hbA)), Nat.lt_of_lt_of_le hbl hS.1, rfl⟩
  · rw [hw, hj]
    exact kk H1 locs1 ⟨x2, L2, hI2, x, L1, hI, hP.kept (fun k x hx => hk1 x.1 ((hP k x hx).lt) (hno x.1 ((hP k x hx).lt))), hD⟩ hS1
theorem gstepA (F : gF p m c bc maxL0 s args Ts meth ret D cc A) (hM : gO2 l y wy rm D cc a b As G v mc ms) (cw : CallB R s args RL index y bytes maxL ry wy rm mc ms n ∧ (Cond.static y).before args s = true) (hO : HO2 D cc A a b G G H) (hS : va_S A s.heap H locs) (hl : lv_has ls maxL0 lv9) (hn : (Value.ref (a 0) :: Value.ref (b 0) :: As).length = n) (hst : st0 = (Value.ref (a 0) :: Value.ref (b 0) :: As).reverse ++ rest) (hW : (rest.map fun v => v.category).sum ≤ 8) (hdg : decode bc pc = .ok (.invokestatic index, 3)) (hf : cells + mc ≤ R.cells ∧ slots + ms ≤ R.slots)
    (kk : ∀ (H1 : Heap) (locs1 : List Loc), HO2 D cc A a b G G H1 → va_S A s.heap H1 locs1 → W p l e R s m args below meth c H1 locs1 (cells + mc) (slots + ms) Q (F0 m (pc + 3) ls (.int v :: rest))) : W p l e R s m args below meth c H locs cells slots Q (F0 m pc ls st0) := by
  obtain ⟨x2, L2, hI2, x, L, hI, hP, hD⟩ := hO
  have hF := F.into hD hS
  refine va_calli (va_runS F.1.1 (hM x x2 L L2 hI hI2 H.size) cw ⟨xlP.blind, F.pre hP hD hS⟩ rfl hn hl.1 hst (lv_room hW) hdg hf) hS (fun q _ h => hF q h) hF (fun r u t H1 locs1 ht hvm hw hB hz1 hk1 hS1 => ?_)
  obtain ⟨ws', ⟨x', x2', L', L2', hI', hI2', rfl⟩, hP1, -, hD1⟩ := hB
  rw [ht] at hP1
  rw [hw]
  exact kk H1 locs1 ⟨x2', L2', hI2', x', L', hI', hP1, hD1.weaken (fun _ q _ h => hF q.1 h)⟩ hS1
end STEPS5
variable {p : Program} {l : Launch} {e : Env} {s : State} {m : MethodId} {below : List Frame} {meth : Method} {c : Code} {H : Heap} {locs : List Loc} {cells slots : Nat} {Q : State → Prop} {D : va_G} {cc : Nat → ClassId} {A : Nat → Prop} {a b : Nat → Nat} {G : GS} {ls : Array Slot} {bS Ls k x y : Nat} {xs : Nat → Int32}
theorem lw_b1 (hst : l.stackTraces = false) (F : gF p m c cL_law 10 s #[Value.ref bS] wsL_law meth (some .boolean) D cc A) (hX : va_X bS Ls xs s s.heap) (hbl : bS < s.heap.size) (hbA : ¬ A bS) (hL : Ls ≤ 260) (hk : k < 30) (hO : HO2 D cc A a b G G H) (hS : va_S A s.heap H locs) (hl : lv_has ls 10 [(0, .ref bS), (1, .ref (a 0)), (2, .ref (b 0)), (3, .int (nI 1)), (4, .int (nI k))]) (hf : cells + 688 ≤ room_1.cells ∧ slots + 44640 ≤ room_1.slots)
    (kk : ∀ (x y : Nat) (G' : GS) (H : Heap) (locs : List Loc) (ls : Array Slot), x < 2 ^ 31 → y < 2 ^ 31 → HO2 D cc A a b G' G' H → va_S A s.heap H locs → lv_has ls 10 [(0, .ref bS), (1, .ref (a 0)), (2, .ref (b 0)), (3, .int (nI 1)), (4, .int (nI k)), (5, .int (nI x)), (6, .int (nI y))] → W p l e room_1 s m #[Value.ref bS] below meth c H locs (cells + 688) (slots + 44640) Q (F0 m 107 ls [])) : W p l e room_1 s m #[Value.ref bS] below meth c H locs cells slots Q (F0 m 28 ls []) := by
  have hx := F.1.1.1
  have hb := F.1.1.2.1
  have hown := F.1.1.2.2.2.1
  have hts := F.1.1.2.2.2.2
  obtain ⟨x, hx2, ex⟩ := cellV_nI xs Ls (2 * k)
  obtain ⟨y, hy2, ey⟩ := cellV_nI xs Ls (2 * k + 1)
  obtain ⟨v, G', hAct⟩ := k_act l hst D cc G hx2 hy2
  have cwCe := va_cwS (rm := rmCe) (R := room_1) 2 hts gL_law_L_cell rfl rfl rfl (by decide +kernel) ⟨Nat.le_of_ble_eq_true rfl, Nat.le_of_ble_eq_true rfl⟩
  have cwRf := va_cwS (rm := rmRf) (R := room_1) 2 hts gL_law_L_refuses rfl rfl rfl (by decide +kernel) ⟨Nat.le_of_ble_eq_true rfl, Nat.le_of_ble_eq_true rfl⟩
  have cwAc := va_cwS (rm := rmAc) (R := room_1) 3 hts gL_law_L_act rfl rfl rfl (by decide +kernel) ⟨Nat.le_of_ble_eq_true rfl, Nat.le_of_ble_eq_true rfl⟩
  have cwAl := va_cwS (rm := rmAl) (R := room_1) 3 hts gL_law_L_alike rfl rfl rfl (by decide +kernel) ⟨Nat.le_of_ble_eq_true rfl, Nat.le_of_ble_eq_true rfl⟩
  refine lv_iload_n hx hb dL_law_28 rfl (lv_at hl 3 rfl) ?_
  refine lv_if_eq (tgt := 242) hx hb dL_law_29 (by decide) (fun c9 => absurd c9 (show ¬ nI 1 = 0 by decide)) (fun _ => ?_)
  refine lv_aload_n hx hb dL_law_32 rfl (lv_at hl 0 rfl) ?_
  refine lv_iconst (v := nI 2) hx hb dL_law_33 (by decide) ?_
  refine lv_iload hx hb dL_law_34 (lv_at hl 4 rfl) ?_
  refine gr_imul hx hb dL_law_36 ?_
  refine gstepC (rest := []) F hX hbl hbA (by omega) (k := 2 * k) (by omega) ex cwCe hO hS hl rfl (Nat.le_of_ble_eq_true rfl) dL_law_37 ⟨by omega, by omega⟩ (fun H locs hO hS => ?_)
  refine lv_istore (lv' := [(5, .int (nI x)), (0, .ref bS), (1, .ref (a 0)), (2, .ref (b 0)), (3, .int (nI 1)), (4, .int (nI k))]) hx hb dL_law_40 hl (by decide) rfl (fun ls hl => ?_)
  refine lv_aload_n hx hb dL_law_42 rfl (lv_at hl 1 rfl) ?_
  refine lv_iconst (v := nI 2) hx hb dL_law_43 (by decide) ?_
  refine lv_iload hx hb dL_law_44 (lv_at hl 5 rfl) ?_
  refine gr_imul hx hb dL_law_46 ?_
  refine lv_iconst (v := nI 1) hx hb dL_law_47 (by decide) ?_
  refine gr_iadd hx hb dL_law_48 ?_
  refine gstepC (rest := []) F hX hbl hbA (by omega) (k := (2 * k) + 1) (by omega) ey cwCe hO hS hl rfl (Nat.le_of_ble_eq_true rfl) dL_law_49 ⟨by omega, by omega⟩ (fun H locs hO hS => ?_)
  refine lv_istore (lv' := [(6, .int (nI y)), (5, .int (nI x)), (0, .ref bS), (1, .ref (a 0)), (2, .ref (b 0)), (3, .int (nI 1)), (4, .int (nI k))]) hx hb dL_law_52 hl (by decide) rfl (fun ls hl => ?_)
  refine lv_aload_n hx hb dL_law_54 rfl (lv_at hl 3 rfl) ?_
  refine lv_iload hx hb dL_law_55 (lv_at hl 1 rfl) ?_
  refine gstepS2o (As := [.int (nI x)]) (rest := []) F (k_refuses l hst D cc a G hx2) cwRf hO hS hl rfl rfl (Nat.le_of_ble_eq_true rfl) dL_law_57 ⟨by omega, by omega⟩ (fun H locs hO hS => ?_)
  refine lv_if_eq (tgt := 105) hx hb dL_law_60 (by decide) (fun c9 => absurd c9 (show ¬ nI 1 = 0 by decide)) (fun _ => ?_)
  refine lv_aload_n hx hb dL_law_63 rfl (lv_at hl 3 rfl) ?_
  refine lv_iload hx hb dL_law_64 (lv_at hl 1 rfl) ?_
  refine lv_iload hx hb dL_law_66 (lv_at hl 0 rfl) ?_
  refine gstepS2o (As := [.int (nI x), .int (nI y)]) (rest := []) F (hAct a) cwAc hO hS hl rfl rfl (Nat.le_of_ble_eq_true rfl) dL_law_68 ⟨by omega, by omega⟩ (fun H locs hO hS => ?_)
  refine lv_aload_n hx hb dL_law_71 rfl (lv_at hl 4 rfl) ?_
  refine lv_iload hx hb dL_law_72 (lv_at hl 1 rfl) ?_
  refine lv_iload hx hb dL_law_74 (lv_at hl 0 rfl) ?_
  refine gstepS2p (As := [.int (nI x), .int (nI y)]) (rest := [.int v]) F (hAct b) cwAc hO hS hl rfl rfl (Nat.le_of_ble_eq_true rfl) dL_law_76 ⟨by omega, by omega⟩ (fun H locs hO hS => ?_)
  refine lv_icmp_ne (tgt := 105) hx hb dL_law_79 (by decide) (fun c9 => absurd ((rfl : (_ : Int32) = _)) c9) (fun _ => ?_)
  refine lv_aload_n hx hb dL_law_82 rfl (lv_at hl 3 rfl) ?_
  refine lv_iload hx hb dL_law_83 (lv_at hl 0 rfl) ?_
  refine gstepS2o (As := [.int (nI y)]) (rest := []) F (k_refuses l hst D cc a G' hy2) cwRf hO hS hl rfl rfl (Nat.le_of_ble_eq_true rfl) dL_law_85 ⟨by omega, by omega⟩ (fun H locs hO hS => ?_)
  refine lv_if_eq (tgt := 105) hx hb dL_law_88 (by decide) (fun c9 => absurd c9 (show ¬ nI 1 = 0 by decide)) (fun _ => ?_)
  refine lv_aload_n hx hb dL_law_91 rfl (lv_at hl 3 rfl) ?_
  refine lv_aload_n hx hb dL_law_92 rfl (lv_at hl 4 rfl) ?_
  refine lv_iload hx hb dL_law_93 (lv_at hl 1 rfl) ?_
  refine gstepA (As := [.int (nI x)]) (rest := []) F (k_alike l hst D cc a b G' hx2) cwAl hO hS hl rfl rfl (Nat.le_of_ble_eq_true rfl) dL_law_95 ⟨by omega, by omega⟩ (fun H locs hO hS => ?_)
  refine lv_if_eq (tgt := 105) hx hb dL_law_98 (by decide) (fun c9 => absurd c9 (show ¬ nI 1 = 0 by decide)) (fun _ => ?_)
  refine lv_iconst (v := nI 1) hx hb dL_law_101 (by decide) ?_
  refine lv_goto (tgt := 106) hx hb dL_law_102 (by decide) ?_
  refine lv_istore_n (lv' := [(3, .int (nI 1)), (6, .int (nI y)), (5, .int (nI x)), (0, .ref bS), (1, .ref (a 0)), (2, .ref (b 0)), (4, .int (nI k))]) hx hb dL_law_106 rfl hl (by decide) rfl (fun ls hl => ?_)
  refine W.widen (k := cells + 688) (n := slots + 44640) (by omega) (by omega) ?_
  exact kk x y G' H locs ls hx2 hy2 hO hS (lv_sub hl [3, 4, 5, 0, 6, 2, 1] rfl)
theorem lw_b2 (hst : l.stackTraces = false) (F : gF p m c cL_law 10 s #[Value.ref bS] wsL_law meth (some .boolean) D cc A) (hk : k < 30) (hx2 : x < 2 ^ 31) (hy2 : y < 2 ^ 31) (hO : HO2 D cc A a b G G H) (hS : va_S A s.heap H locs) (hl : lv_has ls 10 [(0, .ref bS), (1, .ref (a 0)), (2, .ref (b 0)), (3, .int (nI 1)), (4, .int (nI k)), (5, .int (nI x)), (6, .int (nI y))]) (hf : cells + 564 ≤ room_1.cells ∧ slots + 9464 ≤ room_1.slots)
    (kk : ∀ (G' : GS) (H : Heap) (locs : List Loc) (ls : Array Slot), HO2 D cc A a b G' G' H → va_S A s.heap H locs → lv_has ls 10 [(0, .ref bS), (1, .ref (a 0)), (2, .ref (b 0)), (3, .int (nI 1)), (4, .int (nI k))] → W p l e room_1 s m #[Value.ref bS] below meth c H locs (cells + 564) (slots + 9464) Q (F0 m 236 ls [])) : W p l e room_1 s m #[Value.ref bS] below meth c H locs cells slots Q (F0 m 107 ls []) := by
  have hx := F.1.1.1
  have hb := F.1.1.2.1
  have hown := F.1.1.2.2.2.1
  have hts := F.1.1.2.2.2.2
  have cwHo := va_cwS (rm := rmHo) (R := room_1) 2 hts gL_law_L_holds rfl rfl rfl (by decide +kernel) ⟨Nat.le_of_ble_eq_true rfl, Nat.le_of_ble_eq_true rfl⟩
  have cwAl := va_cwS (rm := rmAl) (R := room_1) 3 hts gL_law_L_alike rfl rfl rfl (by decide +kernel) ⟨Nat.le_of_ble_eq_true rfl, Nat.le_of_ble_eq_true rfl⟩
  have cwS := vx_cwSW (rm := rmT 1 6) (R := room_1) 3 hts gL_law_L_tryScript rfl rfl rfl (by decide +kernel) ⟨Nat.le_of_ble_eq_true rfl, Nat.le_of_ble_eq_true rfl⟩
  have cwM := vx_cwSW (rm := rmT 1 6) (R := room_1) 3 hts gL_law_L_trySimulate rfl rfl rfl (by decide +kernel) ⟨Nat.le_of_ble_eq_true rfl, Nat.le_of_ble_eq_true rfl⟩
  have k207 : (Cond.constantLong RL 207 (3434255664)).before #[Value.ref bS] s = true := hts _ (by decide +kernel)
  have k209 : (Cond.constantLong RL 209 (821)).before #[Value.ref bS] s = true := hts _ (by decide +kernel)
  have k211 : (Cond.constantLong RL 211 (4)).before #[Value.ref bS] s = true := hts _ (by decide +kernel)
  obtain ⟨G', hHo⟩ := k_holds l hst D cc G hy2
  by_cases hk5 : k % 5 = 4
  · have hk4 : nI (k % 5) = nI 4 := by rw [hk5]
    refine lv_iload hx hb dL_law_107 (lv_at hl 4 rfl) ?_
    refine lv_iconst (v := nI 5) hx hb dL_law_109 (by decide) ?_
    refine gr_irem hx hb dL_law_110 (by omega) (by omega) (by omega) ?_
    refine lv_iconst (v := nI 4) hx hb dL_law_111 (by decide) ?_
    refine lv_icmp_ne (tgt := 236) hx hb dL_law_112 (by decide) (fun c9 => absurd (hk4) c9) (fun _ => ?_)
    refine lv_iload_n hx hb dL_law_115 rfl (lv_at hl 3 rfl) ?_
    refine lv_if_eq (tgt := 236) hx hb dL_law_116 (by decide) (fun c9 => absurd c9 (show ¬ nI 1 = 0 by decide)) (fun _ => ?_)
    refine lv_aload_n hx hb dL_law_119 rfl (lv_at hl 1 rfl) ?_
    refine lv_iload hx hb dL_law_120 (lv_at hl 6 rfl) ?_
    refine gstepS2o (As := [.int (nI y)]) (rest := []) F (hHo a) cwHo hO hS hl rfl rfl (Nat.le_of_ble_eq_true rfl) dL_law_122 ⟨by omega, by omega⟩ (fun H locs hO hS => ?_)
    refine lv_if_eq (tgt := 141) hx hb dL_law_125 (by decide) (fun c9 => absurd c9 (show ¬ nI 1 = 0 by decide)) (fun _ => ?_)
    refine lv_aload_n hx hb dL_law_128 rfl (lv_at hl 2 rfl) ?_
    refine lv_iload hx hb dL_law_129 (lv_at hl 6 rfl) ?_
    refine gstepS2p (As := [.int (nI y)]) (rest := []) F (hHo b) cwHo hO hS hl rfl rfl (Nat.le_of_ble_eq_true rfl) dL_law_131 ⟨by omega, by omega⟩ (fun H locs hO hS => ?_)
    refine lv_if_eq (tgt := 141) hx hb dL_law_134 (by decide) (fun c9 => absurd c9 (show ¬ nI 1 = 0 by decide)) (fun _ => ?_)
    refine lv_iconst (v := nI 1) hx hb dL_law_137 (by decide) ?_
    refine lv_goto (tgt := 142) hx hb dL_law_138 (by decide) ?_
    refine lv_istore_n (lv' := [(3, .int (nI 1)), (0, .ref bS), (1, .ref (a 0)), (2, .ref (b 0)), (4, .int (nI k)), (5, .int (nI x)), (6, .int (nI y))]) hx hb dL_law_142 rfl hl (by decide) rfl (fun ls hl => ?_)
    refine lv_iload hx hb dL_law_143 (lv_at hl 5 rfl) ?_
    refine lv_i2l (v := (nI x).toInt64) hx hb dL_law_145 rfl ?_
    refine lv_ldc2 (v := (3434255664 : Int64)) hx hb hown k207 dL_law_146 ?_
    refine lv_lmul hx hb dL_law_149 ?_
    refine lv_ldc2 (v := (821 : Int64)) hx hb hown k209 dL_law_150 ?_
    refine lv_lsub hx hb dL_law_153 ?_
    refine lv_lstore (lv' := [(7, .long ((((nI x).toInt64) * ((3434255664 : Int64))) - ((821 : Int64)))), (3, .int (nI 1)), (0, .ref bS), (1, .ref (a 0)), (2, .ref (b 0)), (4, .int (nI k)), (5, .int (nI x)), (6, .int (nI y))]) hx hb dL_law_154 hl (by decide) rfl (fun ls hl => ?_)
    refine lv_aload_n hx hb dL_law_156 rfl (lv_at hl 3 rfl) ?_
    refine lv_lload hx hb dL_law_157 (lv_at hl 0 rfl) ?_
    refine lv_iconst (v := nI 1) hx hb dL_law_159 (by decide) ?_
    refine lv_iload hx hb dL_law_160 (lv_at hl 7 rfl) ?_
    refine lv_bipush (v := nI 60) hx hb dL_law_162 (by decide) ?_
    refine gr_irem hx hb dL_law_164 (by omega) (by omega) (by omega) ?_
    refine gr_iadd hx hb dL_law_165 ?_
    refine gstepSW2o (As := [.long ((((nI x).toInt64) * ((3434255664 : Int64))) - ((821 : Int64))), .int (nI (1 + (y % 60)))]) (rest := []) F (kqM l hst D cc a G' ((((nI x).toInt64) * ((3434255664 : Int64))) - ((821 : Int64))) (nI (1 + (y % 60)))) cwM hO hS hl rfl rfl (Nat.le_of_ble_eq_true rfl) dL_law_166 ⟨by omega, by omega⟩ (fun H locs hO hS => ?_)
    refine lv_istore (lv' := [(9, .int (wv (gSim G'.1 ((((nI x).toInt64) * ((3434255664 : Int64))) - ((821 : Int64))) (nI (1 + (y % 60)))))), (7, .long ((((nI x).toInt64) * ((3434255664 : Int64))) - ((821 : Int64)))), (3, .int (nI 1)), (0, .ref bS), (1, .ref (a 0)), (2, .ref (b 0)), (4, .int (nI k)), (5, .int (nI x)), (6, .int (nI y))]) hx hb dL_law_169 hl (by decide) rfl (fun ls hl => ?_)
    refine lv_iload_n hx hb dL_law_171 rfl (lv_at hl 2 rfl) ?_
    refine lv_if_eq (tgt := 234) hx hb dL_law_172 (by decide) (fun c9 => absurd c9 (show ¬ nI 1 = 0 by decide)) (fun _ => ?_)
    refine lv_iload hx hb dL_law_175 (lv_at hl 0 rfl) ?_
    refine lv_aload_n hx hb dL_law_177 rfl (lv_at hl 5 rfl) ?_
    refine lv_lload hx hb dL_law_178 (lv_at hl 1 rfl) ?_
    refine lv_iconst (v := nI 1) hx hb dL_law_180 (by decide) ?_
    refine lv_iload hx hb dL_law_181 (lv_at hl 8 rfl) ?_
    refine lv_bipush (v := nI 60) hx hb dL_law_183 (by decide) ?_
    refine gr_irem hx hb dL_law_185 (by omega) (by omega) (by omega) ?_
    refine gr_iadd hx hb dL_law_186 ?_
    refine gstepSW2p (As := [.long ((((nI x).toInt64) * ((3434255664 : Int64))) - ((821 : Int64))), .int (nI (1 + (y % 60)))]) (rest := [.int (wv (gSim G'.1 ((((nI x).toInt64) * ((3434255664 : Int64))) - ((821 : Int64))) (nI (1 + (y % 60)))))]) F (kqM l hst D cc b G' ((((nI x).toInt64) * ((3434255664 : Int64))) - ((821 : Int64))) (nI (1 + (y % 60)))) cwM hO hS hl rfl rfl (Nat.le_of_ble_eq_true rfl) dL_law_187 ⟨by omega, by omega⟩ (fun H locs hO hS => ?_)
    refine lv_icmp_ne (tgt := 234) hx hb dL_law_190 (by decide) (fun c9 => absurd ((rfl : (_ : Int32) = _)) c9) (fun _ => ?_)
    refine lv_aload_n hx hb dL_law_193 rfl (lv_at hl 4 rfl) ?_
    refine lv_iconst (v := nI 2) hx hb dL_law_194 (by decide) ?_
    refine lv_iload hx hb dL_law_195 (lv_at hl 8 rfl) ?_
    refine lv_i2l (v := (nI y).toInt64) hx hb dL_law_197 rfl ?_
    refine lv_ldc2 (v := (4 : Int64)) hx hb hown k211 dL_law_198 ?_
    refine lv_lmul hx hb dL_law_201 ?_
    refine gstepSW2o (As := [.int (nI 2), .long (((nI y).toInt64) * ((4 : Int64)))]) (rest := []) F (kqS l hst D cc a G' (nI 2) (((nI y).toInt64) * ((4 : Int64)))) cwS hO hS hl rfl rfl (Nat.le_of_ble_eq_true rfl) dL_law_202 ⟨by omega, by omega⟩ (fun H locs hO hS => ?_)
    refine lv_aload_n hx hb dL_law_205 rfl (lv_at hl 5 rfl) ?_
    refine lv_iconst (v := nI 2) hx hb dL_law_206 (by decide) ?_
    refine lv_iload hx hb dL_law_207 (lv_at hl 8 rfl) ?_
    refine lv_i2l (v := (nI y).toInt64) hx hb dL_law_209 rfl ?_
    refine lv_ldc2 (v := (4 : Int64)) hx hb hown k211 dL_law_210 ?_
    refine lv_lmul hx hb dL_law_213 ?_
    refine gstepSW2p (As := [.int (nI 2), .long (((nI y).toInt64) * ((4 : Int64)))]) (rest := [.int (wv (gScript G'.1 (nI 2) (((nI y).toInt64) * ((4 : Int64)))))]) F (kqS l hst D cc b G' (nI 2) (((nI y).toInt64) * ((4 : Int64)))) cwS hO hS hl rfl rfl (Nat.le_of_ble_eq_true rfl) dL_law_214 ⟨by omega, by omega⟩ (fun H locs hO hS => ?_)
    refine lv_icmp_ne (tgt := 234) hx hb dL_law_217 (by decide) (fun c9 => absurd ((rfl : (_ : Int32) = _)) c9) (fun _ => ?_)
    refine lv_aload_n hx hb dL_law_220 rfl (lv_at hl 4 rfl) ?_
    refine lv_aload_n hx hb dL_law_221 rfl (lv_at hl 5 rfl) ?_
    refine lv_iload hx hb dL_law_222 (lv_at hl 8 rfl) ?_
    refine gstepA (As := [.int (nI y)]) (rest := []) F (k_alike l hst D cc a b G' hy2) cwAl hO hS hl rfl rfl (Nat.le_of_ble_eq_true rfl) dL_law_224 ⟨by omega, by omega⟩ (fun H locs hO hS => ?_)
    refine lv_if_eq (tgt := 234) hx hb dL_law_227 (by decide) (fun c9 => absurd c9 (show ¬ nI 1 = 0 by decide)) (fun _ => ?_)
    refine lv_iconst (v := nI 1) hx hb dL_law_230 (by decide) ?_
    refine lv_goto (tgt := 235) hx hb dL_law_231 (by decide) ?_
    refine lv_istore_n (lv' := [(3, .int (nI 1)), (9, .int (wv (gSim G'.1 ((((nI x).toInt64) * ((3434255664 : Int64))) - ((821 : Int64))) (nI (1 + (y % 60)))))), (7, .long ((((nI x).toInt64) * ((3434255664 : Int64))) - ((821 : Int64)))), (0, .ref bS), (1, .ref (a 0)), (2, .ref (b 0)), (4, .int (nI k)), (5, .int (nI x)), (6, .int (nI y))]) hx hb dL_law_235 rfl hl (by decide) rfl (fun ls hl => ?_)
    refine W.widen (k := cells + 564) (n := slots + 9464) (by omega) (by omega) ?_
    exact kk G' H locs ls hO hS (lv_sub hl [3, 4, 5, 0, 6] rfl)
  · have hk4 : ¬ nI (k % 5) = nI 4 := nI_no (by omega) (by omega) hk5
    refine lv_iload hx hb dL_law_107 (lv_at hl 4 rfl) ?_
    refine lv_iconst (v := nI 5) hx hb dL_law_109 (by decide) ?_
    refine gr_irem hx hb dL_law_110 (by omega) (by omega) (by omega) ?_
    refine lv_iconst (v := nI 4) hx hb dL_law_111 (by decide) ?_
    refine lv_icmp_ne (tgt := 236) hx hb dL_law_112 (by decide) (fun _ => ?_) (fun c9 => absurd c9 (hk4))
    refine W.widen (k := cells + 564) (n := slots + 9464) (by omega) (by omega) ?_
    exact kk G H locs ls hO hS (lv_sub hl [0, 1, 2, 3, 4] rfl)
theorem lw_loop (hst : l.stackTraces = false) (F : gF p m c cL_law 10 s #[Value.ref bS] wsL_law meth (some .boolean) D cc A) (hX : va_X bS Ls xs s s.heap) (hbl : bS < s.heap.size) (hbA : ¬ A bS) (hL : Ls ≤ 260) : ∀ (n k : Nat), n + k = 30 → ∀ (G : GS) (H : Heap) (locs : List Loc) (ls : Array Slot) (cells slots : Nat), HO2 D cc A a b G G H → va_S A s.heap H locs → lv_has ls 10 [(0, .ref bS), (1, .ref (a 0)), (2, .ref (b 0)), (3, .int (nI 1)), (4, .int (nI k))] → cells + 1252 * n ≤ room_1.cells ∧ slots + 54104 * n ≤ room_1.slots →
    (∀ (H : Heap) (locs : List Loc) (ls : Array Slot), va_S A s.heap H locs → W p l e room_1 s m #[Value.ref bS] below meth c H locs (cells + 1252 * n) (slots + 54104 * n) Q (F0 m 243 ls [.int (nI 1)])) → W p l e room_1 s m #[Value.ref bS] below meth c H locs cells slots Q (F0 m 21 ls []) := by
  have hx := F.1.1.1
  have hb := F.1.1.2.1
  have hown := F.1.1.2.2.2.1
  have hts := F.1.1.2.2.2.2
  intro n
  induction n with
  | zero =>
    intro k hk G H locs ls cells slots hO hS hl hf kk
    obtain rfl : k = 30 := by omega
    refine lv_iload hx hb dL_law_21 (lv_at hl 4 rfl) ?_
    refine lv_bipush (v := nI 30) hx hb dL_law_23 (by decide) ?_
    refine lv_icmp_ge (tgt := 242) hx hb dL_law_25 (by decide) (fun _ => ?_) (fun c9 => absurd ((Int32.le_refl _)) c9)
    refine lv_iload_n hx hb dL_law_242 rfl (lv_at hl 3 rfl) ?_
    exact kk H locs ls hS
  | succ n ih =>
    intro k hk G H locs ls cells slots hO hS hl hf kk
    have hk3 : k < 30 := by omega
    refine lv_iload hx hb dL_law_21 (lv_at hl 4 rfl) ?_
    refine lv_bipush (v := nI 30) hx hb dL_law_23 (by decide) ?_
    refine lv_icmp_ge (tgt := 242) hx hb dL_law_25 (by decide) (fun c9 => absurd c9 (nI_ge hk3 (by decide))) (fun _ => ?_)
    refine lw_b1 hst F hX hbl hbA hL hk3 hO hS hl ⟨by omega, by omega⟩ (fun x y G' H locs ls hx2 hy2 hO hS hl => ?_)
    refine lw_b2 hst F hk3 hx2 hy2 hO hS hl ⟨by omega, by omega⟩ (fun G2 H locs ls hO hS hl => ?_)
    refine lv_iinc (v := nI (k + 1)) (lv' := [(4, .int (nI (k + 1))), (0, .ref bS), (1, .ref (a 0)), (2, .ref (b 0)), (3, .int (nI 1))]) hx hb dL_law_236 hl (k := 4) rfl (nI_add _ 1) (by decide) rfl (fun ls hl => ?_)
    refine lv_goto (tgt := 21) hx hb dL_law_239 (by decide) ?_
    refine ih (k + 1) (by omega) G2 H locs ls _ _ hO hS (lv_sub hl [1, 2, 3, 4, 0] rfl) ⟨by omega, by omega⟩ (fun H locs ls hS => ?_)
    refine W.widen (k := cells + 1252 * (n + 1)) (n := slots + 54104 * (n + 1)) (by omega) (by omega) ?_
    exact kk H locs ls hS
end XLLAW
