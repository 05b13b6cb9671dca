/-! LAW KIT 4: the law's wrappers -/
section XWRAP
/-- what the law's own catching needs: who is no kind of whom -/
def xC (U : State) : Prop := va_Nc xIS xIA U ∧ va_Nc xIA xIO U ∧ va_Nc xIS xIO U
theorem xC.calling {U : State} (a : Array Value) (g : JFrame) (mk : MethodId) (h : xC U) : xC (U.calling g mk a) := ⟨h.1.moved (U := U.calling g mk a) (Vm.Alike.refl U.vm), h.2.1.moved (U := U.calling g mk a) (Vm.Alike.refl U.vm), h.2.2.moved (U := U.calling g mk a) (Vm.Alike.refl U.vm)⟩
theorem xC.warm {s U : State} (hW : s.WarmedH U.vm) (h : xC s) : xC U := ⟨h.1.moved hW.alike, h.2.1.moved hW.alike, h.2.2.moved hW.alike⟩
def xlP (D : va_G) (cc : Nat → ClassId) (ws : va_W) (sz : Nat) (U : State) : Prop := xPx D cc ws sz U ∧ xC U
theorem xlP.blind {D : va_G} {cc : Nat → ClassId} {ws : va_W} {sz : Nat} {av : List Value} : FrameBlind (va_Pc av (xlP D cc ws sz)) := fun a U g mk q => by
  obtain ⟨q0, q1, q2⟩ := q
  have h := xPx.blind (av := av) a U g mk ⟨q0, q1⟩
  exact ⟨q0, h.2, xC.calling a g mk q2⟩
/-- a wrapper's contract -/
def lMi (l : Launch) (y : MethodName) (wy : List Cond) (rm : Room) (D : va_G) (cc : Nat → ClassId) (av : List Value) (wc : va_W) (v : Int32) (w1 : (Nat → Nat) → va_W) (mc ms : Nat) : Prop := ∀ sz : Nat, Met l y wy rm (va_Pc av (xlP D cc wc sz)) (va_Qi (fun r (_ : Unit) => r = v) (xB D cc wc sz w1) (va_A wc sz)) mc ms (va_A wc sz)
theorem lstart {l : Launch} {y : MethodName} {wy ws' : List Cond} {rm : Room} {D : va_G} {cc : Nat → ClassId} {av : List Value} {wc : va_W} {sz : Nat} {Qc : Array Value → State → Outcome → State → Prop} {mc ms : Nat} {bc : ByteArray} {maxL : Nat} {ret : Option FieldType} {hh : List (Nat × Nat × Nat × Nat)}
    (hy : plainName y.cls = true) (hw : wy = Cond.codeWith y bc maxL ret hh :: ws') (hav : (lg_sl av).length ≤ maxL)
    (body : ∀ (p : Program) (e : Env) (s : State) (m : MethodId) (args : Array Value) (below : List Frame) (meth : Method) (c : Code) (A : Nat → Prop), s.heap.size = sz → A = va_A wc sz → xFix p m c bc maxL s args wy y.cls meth ret → va_K D vwCl (xTy cc) s → xN s → xX A s s.heap → xC s → c.exceptionTable.toList = tableOf hh → va_P D vwCl wc s.heap → va_D A wc → va_S A s.heap s.heap [] → ∀ ls : Array Slot, lv_has ls maxL (lv_args 0 av) →
      W p l e rm s m args below meth c s.heap [] 0 0 (MQ below Qc args s mc ms A) (F0 m 0 ls [])) : Met l y wy rm (va_Pc av (xlP D cc wc sz)) Qc mc ms (va_A wc sz) := by
  refine va_MetW (cc := bc) (maxL := maxL) (ret := ret) (hh := hh) hy hw ?_
  intro p e s m args below meth c s₁ B hml hv
  obtain ⟨rfl, ⟨⟨hsz, hP, hK, hD0, hN⟩, hX⟩, hCc⟩ := hv
  have hts := atoms_spec (ws := wy) B.pre
  have hl := lv_entry av hav
  rw [lg_entry_eq]
  refine body p e s m _ below meth c (va_A wc sz) hsz rfl ⟨⟨B.exec, B.bytes, hml, findClass_of_methodNamed B.named, hts⟩, B.returns, B.notSynchronized⟩ hK hN hX hCc ?_ hP hD0.self va_S.rf _ hl
  exact vx_table (x := y) B (hts _ (by rw [hw]; exact List.mem_cons_self))
def rmL (rm : Room) : Room := { frames := rm.frames + 1, cells := rm.cells, slots := rm.slots, locals := rm.locals + 40 }
def outG (g : Nat → Int64) : Int32 ⊕ String → (Nat → Int64)
  | .inl r => vp_updL g ((0 : Int32)).toNatClampNeg r.toInt64
  | .inr _ => g
/-- the call of a wrapper: what stands ahead of it -/
theorem lpre {D : va_G} {cc : Nat → ClassId} {ws : va_W} {s : State} {H : Heap} {A : Nat → Prop} {locs : List Loc} {av : List Value} (hK : va_K D vwCl (xTy cc) s) (hN : xN s) (hX : xX A s s.heap) (hP : va_P D vwCl ws H) (hD : va_D A ws) (hS : va_S A s.heap H locs) (hAB : ∀ q, va_A ws H.size q → A q) : ∀ U : State, U.heap = H → s.WarmedH U.vm → va_Pc av (xPx D cc ws H.size) av.toArray U := by
  intro U hU hW
  subst hU
  exact ⟨rfl, ⟨rfl, hP, va_K.moved hW.alike hK, hD.weaken (fun _ _ _ _ => trivial), hN.warm hW⟩, xX.warm (A := A) hX hW hS hAB⟩

theorem kL_append (l : Launch) (D : va_G) (cc : Nat → ClassId) {o ax : Nat} {g : Nat → Int64} {fs : List Value} {w0 : va_W} {p1 : Int32} {B : Int32 ⊕ String} {v rf : Int32} {w1 : (Nat → Nat) → va_W} {rm : Room} {mc ms : Nat} (hrc : rm.cells = mc) (hrs : rm.slots = ms)
    (hM : vMi l yX6_append wsX6_append rm D cc [.ref ax, .int p1] ((o, .inl (cc 3, 1, .inr (.inl g))) :: (ax, .inr (6, fs)) :: w0) B (fun q => (o, .inl (cc 3, 1, .inr (.inl g))) :: w1 q) mc ms) (hA : aR [xIA, xIS] B v rf) :
    lMi l yL_append wsL_append (rmL rm) D cc [.ref ax, .int p1, .ref o] ((o, .inl (cc 3, 1, .inr (.inl g))) :: (ax, .inr (6, fs)) :: w0) rf (fun q => (o, .inl (cc 3, 1, .inr (.inl (outG g B)))) :: w1 q) mc ms := by
  intro sz
  refine lstart (bc := cL_append) (maxL := 4) (ret := (some .int)) (by decide) rfl (Nat.le_of_ble_eq_true rfl) ?_
  intro p e s m args below meth c A hsz hAe F hK hN hX hCc hT hP hD hS ls hl
  have hx := F.1.1
  have hb := F.1.2.1
  have hml := F.1.2.2.1
  have hown := F.1.2.2.2.1
  have hts := F.1.2.2.2.2
  have hl : lv_has ls 4 [(0, .ref ax), (1, .int p1), (2, .ref o)] := hl
  have hAA : ∀ q, va_A ((o, .inl (cc 3, 1, .inr (.inl g))) :: (ax, .inr (6, fs)) :: w0) s.heap.size q → A q := fun q h => by rw [hAe, ← hsz]; exact h
  refine lv_aload_n hx hb dL_append_0 rfl (lv_at hl 2 rfl) ?_
  refine lv_iconst (v := (0 : Int32)) hx hb dL_append_1 (by decide) ?_
  refine lv_aload_n hx hb dL_append_2 rfl (lv_at hl 0 rfl) ?_
  refine lv_iload_n hx hb dL_append_3 rfl (lv_at hl 1 rfl) ?_
  refine vx_calli (vx_runV (As := [.int p1]) (rest := [.int (0 : Int32), .ref o]) F.1 (hM s.heap.size) (cwV 1 hts gL_append_X6_append rfl hrc hrs (by decide +kernel) ⟨Nat.le_refl _, by show _ + rm.locals ≤ rm.locals + 40; omega⟩) ⟨xPx.blind, va_recv hK hP (q0 := 1) rfl rfl, lpre hK hN hX hP hD hS hAA⟩ rfl rfl hl.1 rfl (lv_room (Nat.le_of_ble_eq_true rfl)) dL_append_4 ⟨by show 0 + mc ≤ rm.cells; omega, by show 0 + ms ≤ rm.slots; omega⟩) hS (fun q _ h => hAA q h) hAA (fun q _ h => hAA q h) ?_ ?_
  · intro E ce q9 u t H1 locs1 ht hvm _ hEB _ _ hS1 hce hcv hcl
    obtain ⟨hE, q, hP1, -, hD1⟩ := hEB
    rw [ht] at hP1
    have hD1 : va_D A _ := hD1.weaken (fun _ q _ h => hAA q.1 h)
    subst hE
    rcases hA with ⟨z, h1, -, -⟩ | ⟨i, s0, hi, h1, h2⟩
    · cases h1
    · cases h1
      rcases i with _ | i
      · cases hi
        refine vx_catch (own := RL) (name := xIA) hown [] (⟨0, 9, 12, 13⟩ : ExceptionTableEntry) [(⟨0, 9, 15, 15⟩ : ExceptionTableEntry)] (hT.trans rfl) (fun z hz => by cases hz) rfl (by decide) (hts _ (by decide +kernel)) (va_Nw.use rfl (hX.2.2.2 _ (by decide))) hce hcv hcl ?_
        refine lv_astore_n (lv' := [(3, .ref q9), (0, .ref ax), (1, .int p1), (2, .ref o)]) hx hb dL_append_12 rfl hl (by decide) rfl (fun ls hl => ?_)
        refine lv_iconst (v := (1 : Int32)) hx hb dL_append_13 (by decide) ?_
        exact xendi (ret := none) F hsz hAe hK hP1 hD1 hS1 q rfl h2.symm (by omega) (by omega) dL_append_14
      · rcases i with _ | i
        · cases hi
          refine vx_catch (own := RL) (name := xIS) hown [(⟨0, 9, 12, 13⟩ : ExceptionTableEntry)] (⟨0, 9, 15, 15⟩ : ExceptionTableEntry) [] (hT.trans rfl) (fun z hz => by
            rcases List.mem_cons.mp hz with rfl | hz
            · exact Or.inr ⟨by decide, xIA, hts _ (by decide +kernel), hCc.1⟩
            · cases hz) rfl (by decide) (hts _ (by decide +kernel)) (va_Nw.use rfl (hX.2.2.2 _ (by decide))) hce hcv hcl ?_
          refine lv_astore_n (lv' := [(3, .ref q9), (0, .ref ax), (1, .int p1), (2, .ref o)]) hx hb dL_append_15 rfl hl (by decide) rfl (fun ls hl => ?_)
          refine lv_iconst (v := (2 : Int32)) hx hb dL_append_16 (by decide) ?_
          exact xendi (ret := none) F hsz hAe hK hP1 hD1 hS1 q rfl h2.symm (by omega) (by omega) dL_append_17
        · cases hi
  · intro r u t H1 locs1 ht hvm hr hB _ _ hS1
    obtain ⟨q, hP1, -, hD1⟩ := hB
    rw [ht] at hP1
    have hD1 : va_D A _ := hD1.weaken (fun _ q _ h => hAA q.1 h)
    subst hr
    have hrf : rf = 0 := by
      rcases hA with ⟨z, -, h2, -⟩ | ⟨i, s0, hi, h1, -⟩
      · exact h2
      · cases h1
    refine lv_i2l (v := r.toInt64) hx hb dL_append_7 rfl ?_
    refine va_last hx hb hK hP1 hD1 hS1 (q0 := 0) (t0 := 3) rfl rfl (pk_in 0 1 (by decide)) dL_append_8 (fun H2 locs2 hP2 hD2 hS2 => ?_)
    refine lv_goto (tgt := 18) hx hb dL_append_9 (by decide) ?_
    refine lv_iconst (v := (0 : Int32)) hx hb dL_append_18 (by decide) ?_
    exact xendi (ret := none) F hsz hAe hK hP2 hD2 hS2 q rfl hrf.symm (by omega) (by omega) dL_append_19
theorem kL_about (l : Launch) (D : va_G) (cc : Nat → ClassId) {o ax : Nat} {g : Nat → Int64} {fs : List Value} {w0 : va_W} {p1 : Int32} {B : Int32 ⊕ String} {v rf : Int32} {w1 : (Nat → Nat) → va_W} {rm : Room} {mc ms : Nat} (hrc : rm.cells = mc) (hrs : rm.slots = ms)
    (hM : vMi l yX6_about wsX6_about rm D cc [.ref ax, .int p1] ((o, .inl (cc 3, 1, .inr (.inl g))) :: (ax, .inr (6, fs)) :: w0) B (fun q => (o, .inl (cc 3, 1, .inr (.inl g))) :: w1 q) mc ms) (hA : aR [xIA] B v rf) :
    lMi l yL_about wsL_about (rmL rm) D cc [.ref ax, .int p1, .ref o] ((o, .inl (cc 3, 1, .inr (.inl g))) :: (ax, .inr (6, fs)) :: w0) rf (fun q => (o, .inl (cc 3, 1, .inr (.inl (outG g B)))) :: w1 q) mc ms := by
  intro sz
  refine lstart (bc := cL_about) (maxL := 4) (ret := (some .int)) (by decide) rfl (Nat.le_of_ble_eq_true rfl) ?_
  intro p e s m args below meth c A hsz hAe F hK hN hX hCc hT hP hD hS ls hl
  have hx := F.1.1
  have hb := F.1.2.1
  have hml := F.1.2.2.1
  have hown := F.1.2.2.2.1
  have hts := F.1.2.2.2.2
  have hl : lv_has ls 4 [(0, .ref ax), (1, .int p1), (2, .ref o)] := hl
  have hAA : ∀ q, va_A ((o, .inl (cc 3, 1, .inr (.inl g))) :: (ax, .inr (6, fs)) :: w0) s.heap.size q → A q := fun q h => by rw [hAe, ← hsz]; exact h
  refine lv_aload_n hx hb dL_about_0 rfl (lv_at hl 2 rfl) ?_
  refine lv_iconst (v := (0 : Int32)) hx hb dL_about_1 (by decide) ?_
  refine lv_aload_n hx hb dL_about_2 rfl (lv_at hl 0 rfl) ?_
  refine lv_iload_n hx hb dL_about_3 rfl (lv_at hl 1 rfl) ?_
  refine vx_calli (vx_runV (As := [.int p1]) (rest := [.int (0 : Int32), .ref o]) F.1 (hM s.heap.size) (cwV 1 hts gL_about_X6_about rfl hrc hrs (by decide +kernel) ⟨Nat.le_refl _, by show _ + rm.locals ≤ rm.locals + 40; omega⟩) ⟨xPx.blind, va_recv hK hP (q0 := 1) rfl rfl, lpre hK hN hX hP hD hS hAA⟩ rfl rfl hl.1 rfl (lv_room (Nat.le_of_ble_eq_true rfl)) dL_about_4 ⟨by show 0 + mc ≤ rm.cells; omega, by show 0 + ms ≤ rm.slots; omega⟩) hS (fun q _ h => hAA q h) hAA (fun q _ h => hAA q h) ?_ ?_
  · intro E ce q9 u t H1 locs1 ht hvm _ hEB _ _ hS1 hce hcv hcl
    obtain ⟨hE, q, hP1, -, hD1⟩ := hEB
    rw [ht] at hP1
    have hD1 : va_D A _ := hD1.weaken (fun _ q _ h => hAA q.1 h)
    subst hE
    rcases hA with ⟨z, h1, -, -⟩ | ⟨i, s0, hi, h1, h2⟩
    · cases h1
    · cases h1
      rcases i with _ | i
      · cases hi
        refine vx_catch (own := RL) (name := xIA) hown [] (⟨0, 9, 12, 13⟩ : ExceptionTableEntry) [] (hT.trans rfl) (fun z hz => by cases hz) rfl (by decide) (hts _ (by decide +kernel)) (va_Nw.use rfl (hX.2.2.2 _ (by decide))) hce hcv hcl ?_
        refine lv_astore_n (lv' := [(3, .ref q9), (0, .ref ax), (1, .int p1), (2, .ref o)]) hx hb dL_about_12 rfl hl (by decide) rfl (fun ls hl => ?_)
        refine lv_iconst (v := (1 : Int32)) hx hb dL_about_13 (by decide) ?_
        exact xendi (ret := none) F hsz hAe hK hP1 hD1 hS1 q rfl h2.symm (by omega) (by omega) dL_about_14
      · cases hi
  · intro r u t H1 locs1 ht hvm hr hB _ _ hS1
    obtain ⟨q, hP1, -, hD1⟩ := hB
    rw [ht] at hP1
    have hD1 : va_D A _ := hD1.weaken (fun _ q _ h => hAA q.1 h)
    subst hr
    have hrf : rf = 0 := by
      rcases hA with ⟨z, -, h2, -⟩ | ⟨i, s0, hi, h1, -⟩
      · exact h2
      · cases h1
    refine lv_i2l (v := r.toInt64) hx hb dL_about_7 rfl ?_
    refine va_last hx hb hK hP1 hD1 hS1 (q0 := 0) (t0 := 3) rfl rfl (pk_in 0 1 (by decide)) dL_about_8 (fun H2 locs2 hP2 hD2 hS2 => ?_)
    refine lv_goto (tgt := 15) hx hb dL_about_9 (by decide) ?_
    refine lv_iconst (v := (0 : Int32)) hx hb dL_about_15 (by decide) ?_
    exact xendi (ret := none) F hsz hAe hK hP2 hD2 hS2 q rfl hrf.symm (by omega) (by omega) dL_about_16
theorem kL_sign (l : Launch) (D : va_G) (cc : Nat → ClassId) {o ax : Nat} {g : Nat → Int64} {fs : List Value} {w0 : va_W} {p1 : Int32} {B : Int32 ⊕ String} {v rf : Int32} {w1 : (Nat → Nat) → va_W} {rm : Room} {mc ms : Nat} (hrc : rm.cells = mc) (hrs : rm.slots = ms)
    (hM : vMi l yX6_sign wsX6_sign rm D cc [.ref ax, .int p1] ((o, .inl (cc 3, 1, .inr (.inl g))) :: (ax, .inr (6, fs)) :: w0) B (fun q => (o, .inl (cc 3, 1, .inr (.inl g))) :: w1 q) mc ms) (hA : aR [xIA] B v rf) :
    lMi l yL_sign wsL_sign (rmL rm) D cc [.ref ax, .int p1, .ref o] ((o, .inl (cc 3, 1, .inr (.inl g))) :: (ax, .inr (6, fs)) :: w0) rf (fun q => (o, .inl (cc 3, 1, .inr (.inl (outG g B)))) :: w1 q) mc ms := by
  intro sz
  refine lstart (bc := cL_sign) (maxL := 4) (ret := (some .int)) (by decide) rfl (Nat.le_of_ble_eq_true rfl) ?_
  intro p e s m args below meth c A hsz hAe F hK hN hX hCc hT hP hD hS ls hl
  have hx := F.1.1
  have hb := F.1.2.1
  have hml := F.1.2.2.1
  have hown := F.1.2.2.2.1
  have hts := F.1.2.2.2.2
  have hl : lv_has ls 4 [(0, .ref ax), (1, .int p1), (2, .ref o)] := hl
  have hAA : ∀ q, va_A ((o, .inl (cc 3, 1, .inr (.inl g))) :: (ax, .inr (6, fs)) :: w0) s.heap.size q → A q := fun q h => by rw [hAe, ← hsz]; exact h
  refine lv_aload_n hx hb dL_sign_0 rfl (lv_at hl 2 rfl) ?_
  refine lv_iconst (v := (0 : Int32)) hx hb dL_sign_1 (by decide) ?_
  refine lv_aload_n hx hb dL_sign_2 rfl (lv_at hl 0 rfl) ?_
  refine lv_iload_n hx hb dL_sign_3 rfl (lv_at hl 1 rfl) ?_
  refine vx_calli (vx_runV (As := [.int p1]) (rest := [.int (0 : Int32), .ref o]) F.1 (hM s.heap.size) (cwV 1 hts gL_sign_X6_sign rfl hrc hrs (by decide +kernel) ⟨Nat.le_refl _, by show _ + rm.locals ≤ rm.locals + 40; omega⟩) ⟨xPx.blind, va_recv hK hP (q0 := 1) rfl rfl, lpre hK hN hX hP hD hS hAA⟩ rfl rfl hl.1 rfl (lv_room (Nat.le_of_ble_eq_true rfl)) dL_sign_4 ⟨by show 0 + mc ≤ rm.cells; omega, by show 0 + ms ≤ rm.slots; omega⟩) hS (fun q _ h => hAA q h) hAA (fun q _ h => hAA q h) ?_ ?_
  · intro E ce q9 u t H1 locs1 ht hvm _ hEB _ _ hS1 hce hcv hcl
    obtain ⟨hE, q, hP1, -, hD1⟩ := hEB
    rw [ht] at hP1
    have hD1 : va_D A _ := hD1.weaken (fun _ q _ h => hAA q.1 h)
    subst hE
    rcases hA with ⟨z, h1, -, -⟩ | ⟨i, s0, hi, h1, h2⟩
    · cases h1
    · cases h1
      rcases i with _ | i
      · cases hi
        refine vx_catch (own := RL) (name := xIA) hown [] (⟨0, 9, 12, 13⟩ : ExceptionTableEntry) [] (hT.trans rfl) (fun z hz => by cases hz) rfl (by decide) (hts _ (by decide +kernel)) (va_Nw.use rfl (hX.2.2.2 _ (by decide))) hce hcv hcl ?_
        refine lv_astore_n (lv' := [(3, .ref q9), (0, .ref ax), (1, .int p1), (2, .ref o)]) hx hb dL_sign_12 rfl hl (by decide) rfl (fun ls hl => ?_)
        refine lv_iconst (v := (1 : Int32)) hx hb dL_sign_13 (by decide) ?_
        exact xendi (ret := none) F hsz hAe hK hP1 hD1 hS1 q rfl h2.symm (by omega) (by omega) dL_sign_14
      · cases hi
  · intro r u t H1 locs1 ht hvm hr hB _ _ hS1
    obtain ⟨q, hP1, -, hD1⟩ := hB
    rw [ht] at hP1
    have hD1 : va_D A _ := hD1.weaken (fun _ q _ h => hAA q.1 h)
    subst hr
    have hrf : rf = 0 := by
      rcases hA with ⟨z, -, h2, -⟩ | ⟨i, s0, hi, h1, -⟩
      · exact h2
      · cases h1
    refine lv_i2l (v := r.toInt64) hx hb dL_sign_7 rfl ?_
    refine va_last hx hb hK hP1 hD1 hS1 (q0 := 0) (t0 := 3) rfl rfl (pk_in 0 1 (by decide)) dL_sign_8 (fun H2 locs2 hP2 hD2 hS2 => ?_)
    refine lv_goto (tgt := 15) hx hb dL_sign_9 (by decide) ?_
    refine lv_iconst (v := (0 : Int32)) hx hb dL_sign_15 (by decide) ?_
    exact xendi (ret := none) F hsz hAe hK hP2 hD2 hS2 q rfl hrf.symm (by omega) (by omega) dL_sign_16
theorem kL_sample (l : Launch) (D : va_G) (cc : Nat → ClassId) {o ax : Nat} {g : Nat → Int64} {fs : List Value} {w0 : va_W} {p1 : Int32} {p2 : Int32} {B : Int32 ⊕ String} {v rf : Int32} {w1 : (Nat → Nat) → va_W} {rm : Room} {mc ms : Nat} (hrc : rm.cells = mc) (hrs : rm.slots = ms)
    (hM : vMi l yX6_sample wsX6_sample rm D cc [.ref ax, .int p1, .int p2] ((o, .inl (cc 3, 1, .inr (.inl g))) :: (ax, .inr (6, fs)) :: w0) B (fun q => (o, .inl (cc 3, 1, .inr (.inl g))) :: w1 q) mc ms) (hA : aR [xIO, xIA] B v rf) :
    lMi l yL_sample wsL_sample (rmL rm) D cc [.ref ax, .int p1, .int p2, .ref o] ((o, .inl (cc 3, 1, .inr (.inl g))) :: (ax, .inr (6, fs)) :: w0) rf (fun q => (o, .inl (cc 3, 1, .inr (.inl (outG g B)))) :: w1 q) mc ms := by
  intro sz
  refine lstart (bc := cL_sample) (maxL := 5) (ret := (some .int)) (by decide) rfl (Nat.le_of_ble_eq_true rfl) ?_
  intro p e s m args below meth c A hsz hAe F hK hN hX hCc hT hP hD hS ls hl
  have hx := F.1.1
  have hb := F.1.2.1
  have hml := F.1.2.2.1
  have hown := F.1.2.2.2.1
  have hts := F.1.2.2.2.2
  have hl : lv_has ls 5 [(0, .ref ax), (1, .int p1), (2, .int p2), (3, .ref o)] := hl
  have hAA : ∀ q, va_A ((o, .inl (cc 3, 1, .inr (.inl g))) :: (ax, .inr (6, fs)) :: w0) s.heap.size q → A q := fun q h => by rw [hAe, ← hsz]; exact h
  refine lv_aload_n hx hb dL_sample_0 rfl (lv_at hl 3 rfl) ?_
  refine lv_iconst (v := (0 : Int32)) hx hb dL_sample_1 (by decide) ?_
  refine lv_aload_n hx hb dL_sample_2 rfl (lv_at hl 0 rfl) ?_
  refine lv_iload_n hx hb dL_sample_3 rfl (lv_at hl 1 rfl) ?_
  refine lv_iload_n hx hb dL_sample_4 rfl (lv_at hl 2 rfl) ?_
  refine vx_calli (vx_runV (As := [.int p1, .int p2]) (rest := [.int (0 : Int32), .ref o]) F.1 (hM s.heap.size) (cwV 2 hts gL_sample_X6_sample rfl hrc hrs (by decide +kernel) ⟨Nat.le_refl _, by show _ + rm.locals ≤ rm.locals + 40; omega⟩) ⟨xPx.blind, va_recv hK hP (q0 := 1) rfl rfl, lpre hK hN hX hP hD hS hAA⟩ rfl rfl hl.1 rfl (lv_room (Nat.le_of_ble_eq_true rfl)) dL_sample_5 ⟨by show 0 + mc ≤ rm.cells; omega, by show 0 + ms ≤ rm.slots; omega⟩) hS (fun q _ h => hAA q h) hAA (fun q _ h => hAA q h) ?_ ?_
  · intro E ce q9 u t H1 locs1 ht hvm _ hEB _ _ hS1 hce hcv hcl
    obtain ⟨hE, q, hP1, -, hD1⟩ := hEB
    rw [ht] at hP1
    have hD1 : va_D A _ := hD1.weaken (fun _ q _ h => hAA q.1 h)
    subst hE
    rcases hA with ⟨z, h1, -, -⟩ | ⟨i, s0, hi, h1, h2⟩
    · cases h1
    · cases h1
      rcases i with _ | i
      · cases hi
        refine vx_catch (own := RL) (name := xIO) hown [] (⟨0, 10, 13, 27⟩ : ExceptionTableEntry) [(⟨0, 10, 17, 13⟩ : ExceptionTableEntry)] (hT.trans rfl) (fun z hz => by cases hz) rfl (by decide) (hts _ (by decide +kernel)) (va_Nw.use rfl (hX.2.2.2 _ (by decide))) hce hcv hcl ?_
        refine lv_astore (lv' := [(4, .ref q9), (0, .ref ax), (1, .int p1), (2, .int p2), (3, .ref o)]) hx hb dL_sample_13 hl (by decide) rfl (fun ls hl => ?_)
        refine lv_iconst (v := (1 : Int32)) hx hb dL_sample_15 (by decide) ?_
        exact xendi (ret := none) F hsz hAe hK hP1 hD1 hS1 q rfl h2.symm (by omega) (by omega) dL_sample_16
      · rcases i with _ | i
        · cases hi
          refine vx_catch (own := RL) (name := xIA) hown [(⟨0, 10, 13, 27⟩ : ExceptionTableEntry)] (⟨0, 10, 17, 13⟩ : ExceptionTableEntry) [] (hT.trans rfl) (fun z hz => by
            rcases List.mem_cons.mp hz with rfl | hz
            · exact Or.inr ⟨by decide, xIO, hts _ (by decide +kernel), hCc.2.1⟩
            · cases hz) rfl (by decide) (hts _ (by decide +kernel)) (va_Nw.use rfl (hX.2.2.2 _ (by decide))) hce hcv hcl ?_
          refine lv_astore (lv' := [(4, .ref q9), (0, .ref ax), (1, .int p1), (2, .int p2), (3, .ref o)]) hx hb dL_sample_17 hl (by decide) rfl (fun ls hl => ?_)
          refine lv_iconst (v := (2 : Int32)) hx hb dL_sample_19 (by decide) ?_
          exact xendi (ret := none) F hsz hAe hK hP1 hD1 hS1 q rfl h2.symm (by omega) (by omega) dL_sample_20
        · cases hi
  · intro r u t H1 locs1 ht hvm hr hB _ _ hS1
    obtain ⟨q, hP1, -, hD1⟩ := hB
    rw [ht] at hP1
    have hD1 : va_D A _ := hD1.weaken (fun _ q _ h => hAA q.1 h)
    subst hr
    have hrf : rf = 0 := by
      rcases hA with ⟨z, -, h2, -⟩ | ⟨i, s0, hi, h1, -⟩
      · exact h2
      · cases h1
    refine lv_i2l (v := r.toInt64) hx hb dL_sample_8 rfl ?_
    refine va_last hx hb hK hP1 hD1 hS1 (q0 := 0) (t0 := 3) rfl rfl (pk_in 0 1 (by decide)) dL_sample_9 (fun H2 locs2 hP2 hD2 hS2 => ?_)
    refine lv_goto (tgt := 21) hx hb dL_sample_10 (by decide) ?_
    refine lv_iconst (v := (0 : Int32)) hx hb dL_sample_21 (by decide) ?_
    exact xendi (ret := none) F hsz hAe hK hP2 hD2 hS2 q rfl hrf.symm (by omega) (by omega) dL_sample_22
theorem kL_signOf (l : Launch) (D : va_G) (cc : Nat → ClassId) {o ax : Nat} {g : Nat → Int64} {fs : List Value} {w0 : va_W} {p1 : Int32} {p2 : Int32} {B : Int32 ⊕ String} {v rf : Int32} {w1 : (Nat → Nat) → va_W} {rm : Room} {mc ms : Nat} (hrc : rm.cells = mc) (hrs : rm.slots = ms)
    (hM : vMi l yX6_signOf wsX6_signOf rm D cc [.ref ax, .int p1, .int p2] ((o, .inl (cc 3, 1, .inr (.inl g))) :: (ax, .inr (6, fs)) :: w0) B (fun q => (o, .inl (cc 3, 1, .inr (.inl g))) :: w1 q) mc ms) (hA : aR [xIO, xIA] B v rf) :
    lMi l yL_signOf wsL_signOf (rmL rm) D cc [.ref ax, .int p1, .int p2, .ref o] ((o, .inl (cc 3, 1, .inr (.inl g))) :: (ax, .inr (6, fs)) :: w0) rf (fun q => (o, .inl (cc 3, 1, .inr (.inl (outG g B)))) :: w1 q) mc ms := by
  intro sz
  refine lstart (bc := cL_signOf) (maxL := 5) (ret := (some .int)) (by decide) rfl (Nat.le_of_ble_eq_true rfl) ?_
  intro p e s m args below meth c A hsz hAe F hK hN hX hCc hT hP hD hS ls hl
  have hx := F.1.1
  have hb := F.1.2.1
  have hml := F.1.2.2.1
  have hown := F.1.2.2.2.1
  have hts := F.1.2.2.2.2
  have hl : lv_has ls 5 [(0, .ref ax), (1, .int p1), (2, .int p2), (3, .ref o)] := hl
  have hAA : ∀ q, va_A ((o, .inl (cc 3, 1, .inr (.inl g))) :: (ax, .inr (6, fs)) :: w0) s.heap.size q → A q := fun q h => by rw [hAe, ← hsz]; exact h
  refine lv_aload_n hx hb dL_signOf_0 rfl (lv_at hl 3 rfl) ?_
  refine lv_iconst (v := (0 : Int32)) hx hb dL_signOf_1 (by decide) ?_
  refine lv_aload_n hx hb dL_signOf_2 rfl (lv_at hl 0 rfl) ?_
  refine lv_iload_n hx hb dL_signOf_3 rfl (lv_at hl 1 rfl) ?_
  refine lv_iload_n hx hb dL_signOf_4 rfl (lv_at hl 2 rfl) ?_
  refine vx_calli (vx_runV (As := [.int p1, .int p2]) (rest := [.int (0 : Int32), .ref o]) F.1 (hM s.heap.size) (cwV 2 hts gL_signOf_X6_signOf rfl hrc hrs (by decide +kernel) ⟨Nat.le_refl _, by show _ + rm.locals ≤ rm.locals + 40; omega⟩) ⟨xPx.blind, va_recv hK hP (q0 := 1) rfl rfl, lpre hK hN hX hP hD hS hAA⟩ rfl rfl hl.1 rfl (lv_room (Nat.le_of_ble_eq_true rfl)) dL_signOf_5 ⟨by show 0 + mc ≤ rm.cells; omega, by show 0 + ms ≤ rm.slots; omega⟩) hS (fun q _ h => hAA q h) hAA (fun q _ h => hAA q h) ?_ ?_
  · intro E ce q9 u t H1 locs1 ht hvm _ hEB _ _ hS1 hce hcv hcl
    obtain ⟨hE, q, hP1, -, hD1⟩ := hEB
    rw [ht] at hP1
    have hD1 : va_D A _ := hD1.weaken (fun _ q _ h => hAA q.1 h)
    subst hE
    rcases hA with ⟨z, h1, -, -⟩ | ⟨i, s0, hi, h1, h2⟩
    · cases h1
    · cases h1
      rcases i with _ | i
      · cases hi
        refine vx_catch (own := RL) (name := xIO) hown [] (⟨0, 10, 13, 27⟩ : ExceptionTableEntry) [(⟨0, 10, 17, 13⟩ : ExceptionTableEntry)] (hT.trans rfl) (fun z hz => by cases hz) rfl (by decide) (hts _ (by decide +kernel)) (va_Nw.use rfl (hX.2.2.2 _ (by decide))) hce hcv hcl ?_
        refine lv_astore (lv' := [(4, .ref q9), (0, .ref ax), (1, .int p1), (2, .int p2), (3, .ref o)]) hx hb dL_signOf_13 hl (by decide) rfl (fun ls hl => ?_)
        refine lv_iconst (v := (1 : Int32)) hx hb dL_signOf_15 (by decide) ?_
        exact xendi (ret := none) F hsz hAe hK hP1 hD1 hS1 q rfl h2.symm (by omega) (by omega) dL_signOf_16
      · rcases i with _ | i
        · cases hi
          refine vx_catch (own := RL) (name := xIA) hown [(⟨0, 10, 13, 27⟩ : ExceptionTableEntry)] (⟨0, 10, 17, 13⟩ : ExceptionTableEntry) [] (hT.trans rfl) (fun z hz => by
            rcases List.mem_cons.mp hz with rfl | hz
            · exact Or.inr ⟨by decide, xIO, hts _ (by decide +kernel), hCc.2.1⟩
            · cases hz) rfl (by decide) (hts _ (by decide +kernel)) (va_Nw.use rfl (hX.2.2.2 _ (by decide))) hce hcv hcl ?_
          refine lv_astore (lv' := [(4, .ref q9), (0, .ref ax), (1, .int p1), (2, .int p2), (3, .ref o)]) hx hb dL_signOf_17 hl (by decide) rfl (fun ls hl => ?_)
          refine lv_iconst (v := (2 : Int32)) hx hb dL_signOf_19 (by decide) ?_
          exact xendi (ret := none) F hsz hAe hK hP1 hD1 hS1 q rfl h2.symm (by omega) (by omega) dL_signOf_20
        · cases hi
  · intro r u t H1 locs1 ht hvm hr hB _ _ hS1
    obtain ⟨q, hP1, -, hD1⟩ := hB
    rw [ht] at hP1
    have hD1 : va_D A _ := hD1.weaken (fun _ q _ h => hAA q.1 h)
    subst hr
    have hrf : rf = 0 := by
      rcases hA with ⟨z, -, h2, -⟩ | ⟨i, s0, hi, h1, -⟩
      · exact h2
      · cases h1
    refine lv_i2l (v := r.toInt64) hx hb dL_signOf_8 rfl ?_
    refine va_last hx hb hK hP1 hD1 hS1 (q0 := 0) (t0 := 3) rfl rfl (pk_in 0 1 (by decide)) dL_signOf_9 (fun H2 locs2 hP2 hD2 hS2 => ?_)
    refine lv_goto (tgt := 21) hx hb dL_signOf_10 (by decide) ?_
    refine lv_iconst (v := (0 : Int32)) hx hb dL_signOf_21 (by decide) ?_
    exact xendi (ret := none) F hsz hAe hK hP2 hD2 hS2 q rfl hrf.symm (by omega) (by omega) dL_signOf_22
theorem kL_practised (l : Launch) (D : va_G) (cc : Nat → ClassId) {o ax : Nat} {g : Nat → Int64} {fs : List Value} {w0 : va_W} {p1 : Int32} {p2 : Int32} {B : Int32 ⊕ String} {v rf : Int32} {w1 : (Nat → Nat) → va_W} {rm : Room} {mc ms : Nat} (hrc : rm.cells = mc) (hrs : rm.slots = ms)
    (hM : vMi l yX6_practised wsX6_practised rm D cc [.ref ax, .int p1, .int p2] ((o, .inl (cc 3, 1, .inr (.inl g))) :: (ax, .inr (6, fs)) :: w0) B (fun q => (o, .inl (cc 3, 1, .inr (.inl g))) :: w1 q) mc ms) (hA : aR [xIA] B v rf) :
    lMi l yL_practised wsL_practised (rmL rm) D cc [.ref ax, .int p1, .int p2, .ref o] ((o, .inl (cc 3, 1, .inr (.inl g))) :: (ax, .inr (6, fs)) :: w0) rf (fun q => (o, .inl (cc 3, 1, .inr (.inl (outG g B)))) :: w1 q) mc ms := by
  intro sz
  refine lstart (bc := cL_practised) (maxL := 5) (ret := (some .int)) (by decide) rfl (Nat.le_of_ble_eq_true rfl) ?_
  intro p e s m args below meth c A hsz hAe F hK hN hX hCc hT hP hD hS ls hl
  have hx := F.1.1
  have hb := F.1.2.1
  have hml := F.1.2.2.1
  have hown := F.1.2.2.2.1
  have hts := F.1.2.2.2.2
  have hl : lv_has ls 5 [(0, .ref ax), (1, .int p1), (2, .int p2), (3, .ref o)] := hl
  have hAA : ∀ q, va_A ((o, .inl (cc 3, 1, .inr (.inl g))) :: (ax, .inr (6, fs)) :: w0) s.heap.size q → A q := fun q h => by rw [hAe, ← hsz]; exact h
  refine lv_aload_n hx hb dL_practised_0 rfl (lv_at hl 3 rfl) ?_
  refine lv_iconst (v := (0 : Int32)) hx hb dL_practised_1 (by decide) ?_
  refine lv_aload_n hx hb dL_practised_2 rfl (lv_at hl 0 rfl) ?_
  refine lv_iload_n hx hb dL_practised_3 rfl (lv_at hl 1 rfl) ?_
  refine lv_iload_n hx hb dL_practised_4 rfl (lv_at hl 2 rfl) ?_
  refine vx_calli (vx_runV (As := [.int p1, .int p2]) (rest := [.int (0 : Int32), .ref o]) F.1 (hM s.heap.size) (cwV 2 hts gL_practised_X6_practised rfl hrc hrs (by decide +kernel) ⟨Nat.le_refl _, by show _ + rm.locals ≤ rm.locals + 40; omega⟩) ⟨xPx.blind, va_recv hK hP (q0 := 1) rfl rfl, lpre hK hN hX hP hD hS hAA⟩ rfl rfl hl.1 rfl (lv_room (Nat.le_of_ble_eq_true rfl)) dL_practised_5 ⟨by show 0 + mc ≤ rm.cells; omega, by show 0 + ms ≤ rm.slots; omega⟩) hS (fun q _ h => hAA q h) hAA (fun q _ h => hAA q h) ?_ ?_
  · intro E ce q9 u t H1 locs1 ht hvm _ hEB _ _ hS1 hce hcv hcl
    obtain ⟨hE, q, hP1, -, hD1⟩ := hEB
    rw [ht] at hP1
    have hD1 : va_D A _ := hD1.weaken (fun _ q _ h => hAA q.1 h)
    subst hE
    rcases hA with ⟨z, h1, -, -⟩ | ⟨i, s0, hi, h1, h2⟩
    · cases h1
    · cases h1
      rcases i with _ | i
      · cases hi
        refine vx_catch (own := RL) (name := xIA) hown [] (⟨0, 10, 13, 13⟩ : ExceptionTableEntry) [] (hT.trans rfl) (fun z hz => by cases hz) rfl (by decide) (hts _ (by decide +kernel)) (va_Nw.use rfl (hX.2.2.2 _ (by decide))) hce hcv hcl ?_
        refine lv_astore (lv' := [(4, .ref q9), (0, .ref ax), (1, .int p1), (2, .int p2), (3, .ref o)]) hx hb dL_practised_13 hl (by decide) rfl (fun ls hl => ?_)
        refine lv_iconst (v := (1 : Int32)) hx hb dL_practised_15 (by decide) ?_
        exact xendi (ret := none) F hsz hAe hK hP1 hD1 hS1 q rfl h2.symm (by omega) (by omega) dL_practised_16
      · cases hi
  · intro r u t H1 locs1 ht hvm hr hB _ _ hS1
    obtain ⟨q, hP1, -, hD1⟩ := hB
    rw [ht] at hP1
    have hD1 : va_D A _ := hD1.weaken (fun _ q _ h => hAA q.1 h)
    subst hr
    have hrf : rf = 0 := by
      rcases hA with ⟨z, -, h2, -⟩ | ⟨i, s0, hi, h1, -⟩
      · exact h2
      · cases h1
    refine lv_i2l (v := r.toInt64) hx hb dL_practised_8 rfl ?_
    refine va_last hx hb hK hP1 hD1 hS1 (q0 := 0) (t0 := 3) rfl rfl (pk_in 0 1 (by decide)) dL_practised_9 (fun H2 locs2 hP2 hD2 hS2 => ?_)
    refine lv_goto (tgt := 17) hx hb dL_practised_10 (by decide) ?_
    refine lv_iconst (v := (0 : Int32)) hx hb dL_practised_17 (by decide) ?_
    exact xendi (ret := none) F hsz hAe hK hP2 hD2 hS2 q rfl hrf.symm (by omega) (by omega) dL_practised_18
theorem kL_setting (l : Launch) (D : va_G) (cc : Nat → ClassId) {o ax : Nat} {g : Nat → Int64} {fs : List Value} {w0 : va_W} {p1 : Int32} {B : Int32 ⊕ String} {v rf : Int32} {w1 : (Nat → Nat) → va_W} {rm : Room} {mc ms : Nat} (hrc : rm.cells = mc) (hrs : rm.slots = ms)
    (hM : vMi l yX6_setting wsX6_setting rm D cc [.ref ax, .int p1] ((o, .inl (cc 3, 1, .inr (.inl g))) :: (ax, .inr (6, fs)) :: w0) B (fun q => (o, .inl (cc 3, 1, .inr (.inl g))) :: w1 q) mc ms) (hA : aR [xIA] B v rf) :
    lMi l yL_setting wsL_setting (rmL rm) D cc [.ref ax, .int p1, .ref o] ((o, .inl (cc 3, 1, .inr (.inl g))) :: (ax, .inr (6, fs)) :: w0) rf (fun q => (o, .inl (cc 3, 1, .inr (.inl (outG g B)))) :: w1 q) mc ms := by
  intro sz
  refine lstart (bc := cL_setting) (maxL := 4) (ret := (some .int)) (by decide) rfl (Nat.le_of_ble_eq_true rfl) ?_
  intro p e s m args below meth c A hsz hAe F hK hN hX hCc hT hP hD hS ls hl
  have hx := F.1.1
  have hb := F.1.2.1
  have hml := F.1.2.2.1
  have hown := F.1.2.2.2.1
  have hts := F.1.2.2.2.2
  have hl : lv_has ls 4 [(0, .ref ax), (1, .int p1), (2, .ref o)] := hl
  have hAA : ∀ q, va_A ((o, .inl (cc 3, 1, .inr (.inl g))) :: (ax, .inr (6, fs)) :: w0) s.heap.size q → A q := fun q h => by rw [hAe, ← hsz]; exact h
  refine lv_aload_n hx hb dL_setting_0 rfl (lv_at hl 2 rfl) ?_
  refine lv_iconst (v := (0 : Int32)) hx hb dL_setting_1 (by decide) ?_
  refine lv_aload_n hx hb dL_setting_2 rfl (lv_at hl 0 rfl) ?_
  refine lv_iload_n hx hb dL_setting_3 rfl (lv_at hl 1 rfl) ?_
  refine vx_calli (vx_runV (As := [.int p1]) (rest := [.int (0 : Int32), .ref o]) F.1 (hM s.heap.size) (cwV 1 hts gL_setting_X6_setting rfl hrc hrs (by decide +kernel) ⟨Nat.le_refl _, by show _ + rm.locals ≤ rm.locals + 40; omega⟩) ⟨xPx.blind, va_recv hK hP (q0 := 1) rfl rfl, lpre hK hN hX hP hD hS hAA⟩ rfl rfl hl.1 rfl (lv_room (Nat.le_of_ble_eq_true rfl)) dL_setting_4 ⟨by show 0 + mc ≤ rm.cells; omega, by show 0 + ms ≤ rm.slots; omega⟩) hS (fun q _ h => hAA q h) hAA (fun q _ h => hAA q h) ?_ ?_
  · intro E ce q9 u t H1 locs1 ht hvm _ hEB _ _ hS1 hce hcv hcl
    obtain ⟨hE, q, hP1, -, hD1⟩ := hEB
    rw [ht] at hP1
    have hD1 : va_D A _ := hD1.weaken (fun _ q _ h => hAA q.1 h)
    subst hE
    rcases hA with ⟨z, h1, -, -⟩ | ⟨i, s0, hi, h1, h2⟩
    · cases h1
    · cases h1
      rcases i with _ | i
      · cases hi
        refine vx_catch (own := RL) (name := xIA) hown [] (⟨0, 9, 12, 13⟩ : ExceptionTableEntry) [] (hT.trans rfl) (fun z hz => by cases hz) rfl (by decide) (hts _ (by decide +kernel)) (va_Nw.use rfl (hX.2.2.2 _ (by decide))) hce hcv hcl ?_
        refine lv_astore_n (lv' := [(3, .ref q9), (0, .ref ax), (1, .int p1), (2, .ref o)]) hx hb dL_setting_12 rfl hl (by decide) rfl (fun ls hl => ?_)
        refine lv_iconst (v := (1 : Int32)) hx hb dL_setting_13 (by decide) ?_
        exact xendi (ret := none) F hsz hAe hK hP1 hD1 hS1 q rfl h2.symm (by omega) (by omega) dL_setting_14
      · cases hi
  · intro r u t H1 locs1 ht hvm hr hB _ _ hS1
    obtain ⟨q, hP1, -, hD1⟩ := hB
    rw [ht] at hP1
    have hD1 : va_D A _ := hD1.weaken (fun _ q _ h => hAA q.1 h)
    subst hr
    have hrf : rf = 0 := by
      rcases hA with ⟨z, -, h2, -⟩ | ⟨i, s0, hi, h1, -⟩
      · exact h2
      · cases h1
    refine lv_i2l (v := r.toInt64) hx hb dL_setting_7 rfl ?_
    refine va_last hx hb hK hP1 hD1 hS1 (q0 := 0) (t0 := 3) rfl rfl (pk_in 0 1 (by decide)) dL_setting_8 (fun H2 locs2 hP2 hD2 hS2 => ?_)
    refine lv_goto (tgt := 15) hx hb dL_setting_9 (by decide) ?_
    refine lv_iconst (v := (0 : Int32)) hx hb dL_setting_15 (by decide) ?_
    exact xendi (ret := none) F hsz hAe hK hP2 hD2 hS2 q rfl hrf.symm (by omega) (by omega) dL_setting_16
theorem kL_point (l : Launch) (D : va_G) (cc : Nat → ClassId) {o ax : Nat} {g : Nat → Int64} {fs : List Value} {w0 : va_W} {p1 : Int32} {p2 : Int32} {B : Int32 ⊕ String} {v rf : Int32} {w1 : (Nat → Nat) → va_W} {rm : Room} {mc ms : Nat} (hrc : rm.cells = mc) (hrs : rm.slots = ms)
    (hM : vMi l yX6_point wsX6_point rm D cc [.ref ax, .int p1, .int p2] ((o, .inl (cc 3, 1, .inr (.inl g))) :: (ax, .inr (6, fs)) :: w0) B (fun q => (o, .inl (cc 3, 1, .inr (.inl g))) :: w1 q) mc ms) (hA : aR [xIA, xIS] B v rf) :
    lMi l yL_point wsL_point (rmL rm) D cc [.ref ax, .int p1, .int p2, .ref o] ((o, .inl (cc 3, 1, .inr (.inl g))) :: (ax, .inr (6, fs)) :: w0) rf (fun q => (o, .inl (cc 3, 1, .inr (.inl (outG g B)))) :: w1 q) mc ms := by
  intro sz
  refine lstart (bc := cL_point) (maxL := 5) (ret := (some .int)) (by decide) rfl (Nat.le_of_ble_eq_true rfl) ?_
  intro p e s m args below meth c A hsz hAe F hK hN hX hCc hT hP hD hS ls hl
  have hx := F.1.1
  have hb := F.1.2.1
  have hml := F.1.2.2.1
  have hown := F.1.2.2.2.1
  have hts := F.1.2.2.2.2
  have hl : lv_has ls 5 [(0, .ref ax), (1, .int p1), (2, .int p2), (3, .ref o)] := hl
  have hAA : ∀ q, va_A ((o, .inl (cc 3, 1, .inr (.inl g))) :: (ax, .inr (6, fs)) :: w0) s.heap.size q → A q := fun q h => by rw [hAe, ← hsz]; exact h
  refine lv_aload_n hx hb dL_point_0 rfl (lv_at hl 3 rfl) ?_
  refine lv_iconst (v := (0 : Int32)) hx hb dL_point_1 (by decide) ?_
  refine lv_aload_n hx hb dL_point_2 rfl (lv_at hl 0 rfl) ?_
  refine lv_iload_n hx hb dL_point_3 rfl (lv_at hl 1 rfl) ?_
  refine lv_iload_n hx hb dL_point_4 rfl (lv_at hl 2 rfl) ?_
  refine vx_calli (vx_runV (As := [.int p1, .int p2]) (rest := [.int (0 : Int32), .ref o]) F.1 (hM s.heap.size) (cwV 2 hts gL_point_X6_point rfl hrc hrs (by decide +kernel) ⟨Nat.le_refl _, by show _ + rm.locals ≤ rm.locals + 40; omega⟩) ⟨xPx.blind, va_recv hK hP (q0 := 1) rfl rfl, lpre hK hN hX hP hD hS hAA⟩ rfl rfl hl.1 rfl (lv_room (Nat.le_of_ble_eq_true rfl)) dL_point_5 ⟨by show 0 + mc ≤ rm.cells; omega, by show 0 + ms ≤ rm.slots; omega⟩) hS (fun q _ h => hAA q h) hAA (fun q _ h => hAA q h) ?_ ?_
  · intro E ce q9 u t H1 locs1 ht hvm _ hEB _ _ hS1 hce hcv hcl
    obtain ⟨hE, q, hP1, -, hD1⟩ := hEB
    rw [ht] at hP1
    have hD1 : va_D A _ := hD1.weaken (fun _ q _ h => hAA q.1 h)
    subst hE
    rcases hA with ⟨z, h1, -, -⟩ | ⟨i, s0, hi, h1, h2⟩
    · cases h1
    · cases h1
      rcases i with _ | i
      · cases hi
        refine vx_catch (own := RL) (name := xIA) hown [] (⟨0, 10, 13, 13⟩ : ExceptionTableEntry) [(⟨0, 10, 17, 15⟩ : ExceptionTableEntry)] (hT.trans rfl) (fun z hz => by cases hz) rfl (by decide) (hts _ (by decide +kernel)) (va_Nw.use rfl (hX.2.2.2 _ (by decide))) hce hcv hcl ?_
        refine lv_astore (lv' := [(4, .ref q9), (0, .ref ax), (1, .int p1), (2, .int p2), (3, .ref o)]) hx hb dL_point_13 hl (by decide) rfl (fun ls hl => ?_)
        refine lv_iconst (v := (1 : Int32)) hx hb dL_point_15 (by decide) ?_
        exact xendi (ret := none) F hsz hAe hK hP1 hD1 hS1 q rfl h2.symm (by omega) (by omega) dL_point_16
      · rcases i with _ | i
        · cases hi
          refine vx_catch (own := RL) (name := xIS) hown [(⟨0, 10, 13, 13⟩ : ExceptionTableEntry)] (⟨0, 10, 17, 15⟩ : ExceptionTableEntry) [] (hT.trans rfl) (fun z hz => by
            rcases List.mem_cons.mp hz with rfl | hz
            · exact Or.inr ⟨by decide, xIA, hts _ (by decide +kernel), hCc.1⟩
            · cases hz) rfl (by decide) (hts _ (by decide +kernel)) (va_Nw.use rfl (hX.2.2.2 _ (by decide))) hce hcv hcl ?_
          refine lv_astore (lv' := [(4, .ref q9), (0, .ref ax), (1, .int p1), (2, .int p2), (3, .ref o)]) hx hb dL_point_17 hl (by decide) rfl (fun ls hl => ?_)
          refine lv_iconst (v := (2 : Int32)) hx hb dL_point_19 (by decide) ?_
          exact xendi (ret := none) F hsz hAe hK hP1 hD1 hS1 q rfl h2.symm (by omega) (by omega) dL_point_20
        · cases hi
  · intro r u t H1 locs1 ht hvm hr hB _ _ hS1
    obtain ⟨q, hP1, -, hD1⟩ := hB
    rw [ht] at hP1
    have hD1 : va_D A _ := hD1.weaken (fun _ q _ h => hAA q.1 h)
    subst hr
    have hrf : rf = 0 := by
      rcases hA with ⟨z, -, h2, -⟩ | ⟨i, s0, hi, h1, -⟩
      · exact h2
      · cases h1
    refine lv_i2l (v := r.toInt64) hx hb dL_point_8 rfl ?_
    refine va_last hx hb hK hP1 hD1 hS1 (q0 := 0) (t0 := 3) rfl rfl (pk_in 0 1 (by decide)) dL_point_9 (fun H2 locs2 hP2 hD2 hS2 => ?_)
    refine lv_goto (tgt := 21) hx hb dL_point_10 (by decide) ?_
    refine lv_iconst (v := (0 : Int32)) hx hb dL_point_21 (by decide) ?_
    exact xendi (ret := none) F hsz hAe hK hP2 hD2 hS2 q rfl hrf.symm (by omega) (by omega) dL_point_22
theorem kL_draw (l : Launch) (D : va_G) (cc : Nat → ClassId) {o ax : Nat} {g : Nat → Int64} {fs : List Value} {w0 : va_W}  {B : Int32 ⊕ String} {v rf : Int32} {w1 : (Nat → Nat) → va_W} {rm : Room} {mc ms : Nat} (hrc : rm.cells = mc) (hrs : rm.slots = ms)
    (hM : vMi l yX6_draw wsX6_draw rm D cc [.ref ax] ((o, .inl (cc 3, 1, .inr (.inl g))) :: (ax, .inr (6, fs)) :: w0) B (fun q => (o, .inl (cc 3, 1, .inr (.inl g))) :: w1 q) mc ms) (hA : aR [xIS] B v rf) :
    lMi l yL_draw wsL_draw (rmL rm) D cc [.ref ax, .ref o] ((o, .inl (cc 3, 1, .inr (.inl g))) :: (ax, .inr (6, fs)) :: w0) rf (fun q => (o, .inl (cc 3, 1, .inr (.inl (outG g B)))) :: w1 q) mc ms := by
  intro sz
  refine lstart (bc := cL_draw) (maxL := 3) (ret := (some .int)) (by decide) rfl (Nat.le_of_ble_eq_true rfl) ?_
  intro p e s m args below meth c A hsz hAe F hK hN hX hCc hT hP hD hS ls hl
  have hx := F.1.1
  have hb := F.1.2.1
  have hml := F.1.2.2.1
  have hown := F.1.2.2.2.1
  have hts := F.1.2.2.2.2
  have hl : lv_has ls 3 [(0, .ref ax), (1, .ref o)] := hl
  have hAA : ∀ q, va_A ((o, .inl (cc 3, 1, .inr (.inl g))) :: (ax, .inr (6, fs)) :: w0) s.heap.size q → A q := fun q h => by rw [hAe, ← hsz]; exact h
  refine lv_aload_n hx hb dL_draw_0 rfl (lv_at hl 1 rfl) ?_
  refine lv_iconst (v := (0 : Int32)) hx hb dL_draw_1 (by decide) ?_
  refine lv_aload_n hx hb dL_draw_2 rfl (lv_at hl 0 rfl) ?_
  refine vx_calli (vx_runV (As := []) (rest := [.int (0 : Int32), .ref o]) F.1 (hM s.heap.size) (cwV 0 hts gL_draw_X6_draw rfl hrc hrs (by decide +kernel) ⟨Nat.le_refl _, by show _ + rm.locals ≤ rm.locals + 40; omega⟩) ⟨xPx.blind, va_recv hK hP (q0 := 1) rfl rfl, lpre hK hN hX hP hD hS hAA⟩ rfl rfl hl.1 rfl (lv_room (Nat.le_of_ble_eq_true rfl)) dL_draw_3 ⟨by show 0 + mc ≤ rm.cells; omega, by show 0 + ms ≤ rm.slots; omega⟩) hS (fun q _ h => hAA q h) hAA (fun q _ h => hAA q h) ?_ ?_
  · intro E ce q9 u t H1 locs1 ht hvm _ hEB _ _ hS1 hce hcv hcl
    obtain ⟨hE, q, hP1, -, hD1⟩ := hEB
    rw [ht] at hP1
    have hD1 : va_D A _ := hD1.weaken (fun _ q _ h => hAA q.1 h)
    subst hE
    rcases hA with ⟨z, h1, -, -⟩ | ⟨i, s0, hi, h1, h2⟩
    · cases h1
    · cases h1
      rcases i with _ | i
      · cases hi
        refine vx_catch (own := RL) (name := xIS) hown [] (⟨0, 8, 11, 15⟩ : ExceptionTableEntry) [] (hT.trans rfl) (fun z hz => by cases hz) rfl (by decide) (hts _ (by decide +kernel)) (va_Nw.use rfl (hX.2.2.2 _ (by decide))) hce hcv hcl ?_
        refine lv_astore_n (lv' := [(2, .ref q9), (0, .ref ax), (1, .ref o)]) hx hb dL_draw_11 rfl hl (by decide) rfl (fun ls hl => ?_)
        refine lv_iconst (v := (1 : Int32)) hx hb dL_draw_12 (by decide) ?_
        exact xendi (ret := none) F hsz hAe hK hP1 hD1 hS1 q rfl h2.symm (by omega) (by omega) dL_draw_13
      · cases hi
  · intro r u t H1 locs1 ht hvm hr hB _ _ hS1
    obtain ⟨q, hP1, -, hD1⟩ := hB
    rw [ht] at hP1
    have hD1 : va_D A _ := hD1.weaken (fun _ q _ h => hAA q.1 h)
    subst hr
    have hrf : rf = 0 := by
      rcases hA with ⟨z, -, h2, -⟩ | ⟨i, s0, hi, h1, -⟩
      · exact h2
      · cases h1
    refine lv_i2l (v := r.toInt64) hx hb dL_draw_6 rfl ?_
    refine va_last hx hb hK hP1 hD1 hS1 (q0 := 0) (t0 := 3) rfl rfl (pk_in 0 1 (by decide)) dL_draw_7 (fun H2 locs2 hP2 hD2 hS2 => ?_)
    refine lv_goto (tgt := 14) hx hb dL_draw_8 (by decide) ?_
    refine lv_iconst (v := (0 : Int32)) hx hb dL_draw_14 (by decide) ?_
    exact xendi (ret := none) F hsz hAe hK hP2 hD2 hS2 q rfl hrf.symm (by omega) (by omega) dL_draw_15
theorem kL_learn (l : Launch) (D : va_G) (cc : Nat → ClassId) {o ax : Nat} {g : Nat → Int64} {fs : List Value} {w0 : va_W} {p1 : Int32} {B : Int32 ⊕ String} {v rf : Int32} {w1 : (Nat → Nat) → va_W} {rm : Room} {mc ms : Nat} (hrc : rm.cells = mc) (hrs : rm.slots = ms)
    (hM : vMi l yX6_learn wsX6_learn rm D cc [.ref ax, .int p1] ((o, .inl (cc 3, 1, .inr (.inl g))) :: (ax, .inr (6, fs)) :: w0) B (fun q => (o, .inl (cc 3, 1, .inr (.inl g))) :: w1 q) mc ms) (hA : aR [xIA, xIS] B v rf) :
    lMi l yL_learn wsL_learn (rmL rm) D cc [.ref ax, .int p1, .ref o] ((o, .inl (cc 3, 1, .inr (.inl g))) :: (ax, .inr (6, fs)) :: w0) rf (fun q => (o, .inl (cc 3, 1, .inr (.inl (outG g B)))) :: w1 q) mc ms := by
  intro sz
  refine lstart (bc := cL_learn) (maxL := 4) (ret := (some .int)) (by decide) rfl (Nat.le_of_ble_eq_true rfl) ?_
  intro p e s m args below meth c A hsz hAe F hK hN hX hCc hT hP hD hS ls hl
  have hx := F.1.1
  have hb := F.1.2.1
  have hml := F.1.2.2.1
  have hown := F.1.2.2.2.1
  have hts := F.1.2.2.2.2
  have hl : lv_has ls 4 [(0, .ref ax), (1, .int p1), (2, .ref o)] := hl
  have hAA : ∀ q, va_A ((o, .inl (cc 3, 1, .inr (.inl g))) :: (ax, .inr (6, fs)) :: w0) s.heap.size q → A q := fun q h => by rw [hAe, ← hsz]; exact h
  refine lv_aload_n hx hb dL_learn_0 rfl (lv_at hl 2 rfl) ?_
  refine lv_iconst (v := (0 : Int32)) hx hb dL_learn_1 (by decide) ?_
  refine lv_aload_n hx hb dL_learn_2 rfl (lv_at hl 0 rfl) ?_
  refine lv_iload_n hx hb dL_learn_3 rfl (lv_at hl 1 rfl) ?_
  refine vx_calli (vx_runV (As := [.int p1]) (rest := [.int (0 : Int32), .ref o]) F.1 (hM s.heap.size) (cwV 1 hts gL_learn_X6_learn rfl hrc hrs (by decide +kernel) ⟨Nat.le_refl _, by show _ + rm.locals ≤ rm.locals + 40; omega⟩) ⟨xPx.blind, va_recv hK hP (q0 := 1) rfl rfl, lpre hK hN hX hP hD hS hAA⟩ rfl rfl hl.1 rfl (lv_room (Nat.le_of_ble_eq_true rfl)) dL_learn_4 ⟨by show 0 + mc ≤ rm.cells; omega, by show 0 + ms ≤ rm.slots; omega⟩) hS (fun q _ h => hAA q h) hAA (fun q _ h => hAA q h) ?_ ?_
  · intro E ce q9 u t H1 locs1 ht hvm _ hEB _ _ hS1 hce hcv hcl
    obtain ⟨hE, q, hP1, -, hD1⟩ := hEB
    rw [ht] at hP1
    have hD1 : va_D A _ := hD1.weaken (fun _ q _ h => hAA q.1 h)
    subst hE
    rcases hA with ⟨z, h1, -, -⟩ | ⟨i, s0, hi, h1, h2⟩
    · cases h1
    · cases h1
      rcases i with _ | i
      · cases hi
        refine vx_catch (own := RL) (name := xIA) hown [] (⟨0, 9, 12, 13⟩ : ExceptionTableEntry) [(⟨0, 9, 15, 15⟩ : ExceptionTableEntry)] (hT.trans rfl) (fun z hz => by cases hz) rfl (by decide) (hts _ (by decide +kernel)) (va_Nw.use rfl (hX.2.2.2 _ (by decide))) hce hcv hcl ?_
        refine lv_astore_n (lv' := [(3, .ref q9), (0, .ref ax), (1, .int p1), (2, .ref o)]) hx hb dL_learn_12 rfl hl (by decide) rfl (fun ls hl => ?_)
        refine lv_iconst (v := (1 : Int32)) hx hb dL_learn_13 (by decide) ?_
        exact xendi (ret := none) F hsz hAe hK hP1 hD1 hS1 q rfl h2.symm (by omega) (by omega) dL_learn_14
      · rcases i with _ | i
        · cases hi
          refine vx_catch (own := RL) (name := xIS) hown [(⟨0, 9, 12, 13⟩ : ExceptionTableEntry)] (⟨0, 9, 15, 15⟩ : ExceptionTableEntry) [] (hT.trans rfl) (fun z hz => by
            rcases List.mem_cons.mp hz with rfl | hz
            · exact Or.inr ⟨by decide, xIA, hts _ (by decide +kernel), hCc.1⟩
            · cases hz) rfl (by decide) (hts _ (by decide +kernel)) (va_Nw.use rfl (hX.2.2.2 _ (by decide))) hce hcv hcl ?_
          refine lv_astore_n (lv' := [(3, .ref q9), (0, .ref ax), (1, .int p1), (2, .ref o)]) hx hb dL_learn_15 rfl hl (by decide) rfl (fun ls hl => ?_)
          refine lv_iconst (v := (2 : Int32)) hx hb dL_learn_16 (by decide) ?_
          exact xendi (ret := none) F hsz hAe hK hP1 hD1 hS1 q rfl h2.symm (by omega) (by omega) dL_learn_17
        · cases hi
  · intro r u t H1 locs1 ht hvm hr hB _ _ hS1
    obtain ⟨q, hP1, -, hD1⟩ := hB
    rw [ht] at hP1
    have hD1 : va_D A _ := hD1.weaken (fun _ q _ h => hAA q.1 h)
    subst hr
    have hrf : rf = 0 := by
      rcases hA with ⟨z, -, h2, -⟩ | ⟨i, s0, hi, h1, -⟩
      · exact h2
      · cases h1
    refine lv_i2l (v := r.toInt64) hx hb dL_learn_7 rfl ?_
    refine va_last hx hb hK hP1 hD1 hS1 (q0 := 0) (t0 := 3) rfl rfl (pk_in 0 1 (by decide)) dL_learn_8 (fun H2 locs2 hP2 hD2 hS2 => ?_)
    refine lv_goto (tgt := 18) hx hb dL_learn_9 (by decide) ?_
    refine lv_iconst (v := (0 : Int32)) hx hb dL_learn_18 (by decide) ?_
    exact xendi (ret := none) F hsz hAe hK hP2 hD2 hS2 q rfl hrf.symm (by omega) (by omega) dL_learn_19
theorem kL_forget (l : Launch) (D : va_G) (cc : Nat → ClassId) {o ax : Nat} {g : Nat → Int64} {fs : List Value} {w0 : va_W} {p1 : Int32} {B : Int32 ⊕ String} {v rf : Int32} {w1 : (Nat → Nat) → va_W} {rm : Room} {mc ms : Nat} (hrc : rm.cells = mc) (hrs : rm.slots = ms)
    (hM : vMi l yX6_forget wsX6_forget rm D cc [.ref ax, .int p1] ((o, .inl (cc 3, 1, .inr (.inl g))) :: (ax, .inr (6, fs)) :: w0) B (fun q => (o, .inl (cc 3, 1, .inr (.inl g))) :: w1 q) mc ms) (hA : aR [xIO] B v rf) :
    lMi l yL_forget wsL_forget (rmL rm) D cc [.ref ax, .int p1, .ref o] ((o, .inl (cc 3, 1, .inr (.inl g))) :: (ax, .inr (6, fs)) :: w0) rf (fun q => (o, .inl (cc 3, 1, .inr (.inl (outG g B)))) :: w1 q) mc ms := by
  intro sz
  refine lstart (bc := cL_forget) (maxL := 4) (ret := (some .int)) (by decide) rfl (Nat.le_of_ble_eq_true rfl) ?_
  intro p e s m args below meth c A hsz hAe F hK hN hX hCc hT hP hD hS ls hl
  have hx := F.1.1
  have hb := F.1.2.1
  have hml := F.1.2.2.1
  have hown := F.1.2.2.2.1
  have hts := F.1.2.2.2.2
  have hl : lv_has ls 4 [(0, .ref ax), (1, .int p1), (2, .ref o)] := hl
  have hAA : ∀ q, va_A ((o, .inl (cc 3, 1, .inr (.inl g))) :: (ax, .inr (6, fs)) :: w0) s.heap.size q → A q := fun q h => by rw [hAe, ← hsz]; exact h
  refine lv_aload_n hx hb dL_forget_0 rfl (lv_at hl 2 rfl) ?_
  refine lv_iconst (v := (0 : Int32)) hx hb dL_forget_1 (by decide) ?_
  refine lv_aload_n hx hb dL_forget_2 rfl (lv_at hl 0 rfl) ?_
  refine lv_iload_n hx hb dL_forget_3 rfl (lv_at hl 1 rfl) ?_
  refine vx_calli (vx_runV (As := [.int p1]) (rest := [.int (0 : Int32), .ref o]) F.1 (hM s.heap.size) (cwV 1 hts gL_forget_X6_forget rfl hrc hrs (by decide +kernel) ⟨Nat.le_refl _, by show _ + rm.locals ≤ rm.locals + 40; omega⟩) ⟨xPx.blind, va_recv hK hP (q0 := 1) rfl rfl, lpre hK hN hX hP hD hS hAA⟩ rfl rfl hl.1 rfl (lv_room (Nat.le_of_ble_eq_true rfl)) dL_forget_4 ⟨by show 0 + mc ≤ rm.cells; omega, by show 0 + ms ≤ rm.slots; omega⟩) hS (fun q _ h => hAA q h) hAA (fun q _ h => hAA q h) ?_ ?_
  · intro E ce q9 u t H1 locs1 ht hvm _ hEB _ _ hS1 hce hcv hcl
    obtain ⟨hE, q, hP1, -, hD1⟩ := hEB
    rw [ht] at hP1
    have hD1 : va_D A _ := hD1.weaken (fun _ q _ h => hAA q.1 h)
    subst hE
    rcases hA with ⟨z, h1, -, -⟩ | ⟨i, s0, hi, h1, h2⟩
    · cases h1
    · cases h1
      rcases i with _ | i
      · cases hi
        refine vx_catch (own := RL) (name := xIO) hown [] (⟨0, 9, 12, 27⟩ : ExceptionTableEntry) [] (hT.trans rfl) (fun z hz => by cases hz) rfl (by decide) (hts _ (by decide +kernel)) (va_Nw.use rfl (hX.2.2.2 _ (by decide))) hce hcv hcl ?_
        refine lv_astore_n (lv' := [(3, .ref q9), (0, .ref ax), (1, .int p1), (2, .ref o)]) hx hb dL_forget_12 rfl hl (by decide) rfl (fun ls hl => ?_)
        refine lv_iconst (v := (1 : Int32)) hx hb dL_forget_13 (by decide) ?_
        exact xendi (ret := none) F hsz hAe hK hP1 hD1 hS1 q rfl h2.symm (by omega) (by omega) dL_forget_14
      · cases hi
  · intro r u t H1 locs1 ht hvm hr hB _ _ hS1
    obtain ⟨q, hP1, -, hD1⟩ := hB
    rw [ht] at hP1
    have hD1 : va_D A _ := hD1.weaken (fun _ q _ h => hAA q.1 h)
    subst hr
    have hrf : rf = 0 := by
      rcases hA with ⟨z, -, h2, -⟩ | ⟨i, s0, hi, h1, -⟩
      · exact h2
      · cases h1
    refine lv_i2l (v := r.toInt64) hx hb dL_forget_7 rfl ?_
    refine va_last hx hb hK hP1 hD1 hS1 (q0 := 0) (t0 := 3) rfl rfl (pk_in 0 1 (by decide)) dL_forget_8 (fun H2 locs2 hP2 hD2 hS2 => ?_)
    refine lv_goto (tgt := 15) hx hb dL_forget_9 (by decide) ?_
    refine lv_iconst (v := (0 : Int32)) hx hb dL_forget_15 (by decide) ?_
    exact xendi (ret := none) F hsz hAe hK hP2 hD2 hS2 q rfl hrf.symm (by omega) (by omega) dL_forget_16
theorem kL_practise (l : Launch) (D : va_G) (cc : Nat → ClassId) {o ax : Nat} {g : Nat → Int64} {fs : List Value} {w0 : va_W} {p1 : Int32} {B : Int32 ⊕ String} {v rf : Int32} {w1 : (Nat → Nat) → va_W} {rm : Room} {mc ms : Nat} (hrc : rm.cells = mc) (hrs : rm.slots = ms)
    (hM : vMi l yX6_practise wsX6_practise rm D cc [.ref ax, .int p1] ((o, .inl (cc 3, 1, .inr (.inl g))) :: (ax, .inr (6, fs)) :: w0) B (fun q => (o, .inl (cc 3, 1, .inr (.inl g))) :: w1 q) mc ms) (hA : aR [xIA, xIS] B v rf) :
    lMi l yL_practise wsL_practise (rmL rm) D cc [.ref ax, .int p1, .ref o] ((o, .inl (cc 3, 1, .inr (.inl g))) :: (ax, .inr (6, fs)) :: w0) rf (fun q => (o, .inl (cc 3, 1, .inr (.inl (outG g B)))) :: w1 q) mc ms := by
  intro sz
  refine lstart (bc := cL_practise) (maxL := 4) (ret := (some .int)) (by decide) rfl (Nat.le_of_ble_eq_true rfl) ?_
  intro p e s m args below meth c A hsz hAe F hK hN hX hCc hT hP hD hS ls hl
  have hx := F.1.1
  have hb := F.1.2.1
  have hml := F.1.2.2.1
  have hown := F.1.2.2.2.1
  have hts := F.1.2.2.2.2
  have hl : lv_has ls 4 [(0, .ref ax), (1, .int p1), (2, .ref o)] := hl
  have hAA : ∀ q, va_A ((o, .inl (cc 3, 1, .inr (.inl g))) :: (ax, .inr (6, fs)) :: w0) s.heap.size q → A q := fun q h => by rw [hAe, ← hsz]; exact h
  refine lv_aload_n hx hb dL_practise_0 rfl (lv_at hl 2 rfl) ?_
  refine lv_iconst (v := (0 : Int32)) hx hb dL_practise_1 (by decide) ?_
  refine lv_aload_n hx hb dL_practise_2 rfl (lv_at hl 0 rfl) ?_
  refine lv_iload_n hx hb dL_practise_3 rfl (lv_at hl 1 rfl) ?_
  refine vx_calli (vx_runV (As := [.int p1]) (rest := [.int (0 : Int32), .ref o]) F.1 (hM s.heap.size) (cwV 1 hts gL_practise_X6_practise rfl hrc hrs (by decide +kernel) ⟨Nat.le_refl _, by show _ + rm.locals ≤ rm.locals + 40; omega⟩) ⟨xPx.blind, va_recv hK hP (q0 := 1) rfl rfl, lpre hK hN hX hP hD hS hAA⟩ rfl rfl hl.1 rfl (lv_room (Nat.le_of_ble_eq_true rfl)) dL_practise_4 ⟨by show 0 + mc ≤ rm.cells; omega, by show 0 + ms ≤ rm.slots; omega⟩) hS (fun q _ h => hAA q h) hAA (fun q _ h => hAA q h) ?_ ?_
  · intro E ce q9 u t H1 locs1 ht hvm _ hEB _ _ hS1 hce hcv hcl
    obtain ⟨hE, q, hP1, -, hD1⟩ := hEB
    rw [ht] at hP1
    have hD1 : va_D A _ := hD1.weaken (fun _ q _ h => hAA q.1 h)
    subst hE
    rcases hA with ⟨z, h1, -, -⟩ | ⟨i, s0, hi, h1, h2⟩
    · cases h1
    · cases h1
      rcases i with _ | i
      · cases hi
        refine vx_catch (own := RL) (name := xIA) hown [] (⟨0, 9, 12, 13⟩ : ExceptionTableEntry) [(⟨0, 9, 15, 15⟩ : ExceptionTableEntry)] (hT.trans rfl) (fun z hz => by cases hz) rfl (by decide) (hts _ (by decide +kernel)) (va_Nw.use rfl (hX.2.2.2 _ (by decide))) hce hcv hcl ?_
        refine lv_astore_n (lv' := [(3, .ref q9), (0, .ref ax), (1, .int p1), (2, .ref o)]) hx hb dL_practise_12 rfl hl (by decide) rfl (fun ls hl => ?_)
        refine lv_iconst (v := (1 : Int32)) hx hb dL_practise_13 (by decide) ?_
        exact xendi (ret := none) F hsz hAe hK hP1 hD1 hS1 q rfl h2.symm (by omega) (by omega) dL_practise_14
      · rcases i with _ | i
        · cases hi
          refine vx_catch (own := RL) (name := xIS) hown [(⟨0, 9, 12, 13⟩ : ExceptionTableEntry)] (⟨0, 9, 15, 15⟩ : ExceptionTableEntry) [] (hT.trans rfl) (fun z hz => by
            rcases List.mem_cons.mp hz with rfl | hz
            · exact Or.inr ⟨by decide, xIA, hts _ (by decide +kernel), hCc.1⟩
            · cases hz) rfl (by decide) (hts _ (by decide +kernel)) (va_Nw.use rfl (hX.2.2.2 _ (by decide))) hce hcv hcl ?_
          refine lv_astore_n (lv' := [(3, .ref q9), (0, .ref ax), (1, .int p1), (2, .ref o)]) hx hb dL_practise_15 rfl hl (by decide) rfl (fun ls hl => ?_)
          refine lv_iconst (v := (2 : Int32)) hx hb dL_practise_16 (by decide) ?_
          exact xendi (ret := none) F hsz hAe hK hP1 hD1 hS1 q rfl h2.symm (by omega) (by omega) dL_practise_17
        · cases hi
  · intro r u t H1 locs1 ht hvm hr hB _ _ hS1
    obtain ⟨q, hP1, -, hD1⟩ := hB
    rw [ht] at hP1
    have hD1 : va_D A _ := hD1.weaken (fun _ q _ h => hAA q.1 h)
    subst hr
    have hrf : rf = 0 := by
      rcases hA with ⟨z, -, h2, -⟩ | ⟨i, s0, hi, h1, -⟩
      · exact h2
      · cases h1
    refine lv_i2l (v := r.toInt64) hx hb dL_practise_7 rfl ?_
    refine va_last hx hb hK hP1 hD1 hS1 (q0 := 0) (t0 := 3) rfl rfl (pk_in 0 1 (by decide)) dL_practise_8 (fun H2 locs2 hP2 hD2 hS2 => ?_)
    refine lv_goto (tgt := 18) hx hb dL_practise_9 (by decide) ?_
    refine lv_iconst (v := (0 : Int32)) hx hb dL_practise_18 (by decide) ?_
    exact xendi (ret := none) F hsz hAe hK hP2 hD2 hS2 q rfl hrf.symm (by omega) (by omega) dL_practise_19
theorem kL_set (l : Launch) (D : va_G) (cc : Nat → ClassId) {o ax : Nat} {g : Nat → Int64} {fs : List Value} {w0 : va_W} {p1 : Int32} {p2 : Int32} {B : Int32 ⊕ String} {v rf : Int32} {w1 : (Nat → Nat) → va_W} {rm : Room} {mc ms : Nat} (hrc : rm.cells = mc) (hrs : rm.slots = ms)
    (hM : vMi l yX6_set wsX6_set rm D cc [.ref ax, .int p1, .int p2] ((o, .inl (cc 3, 1, .inr (.inl g))) :: (ax, .inr (6, fs)) :: w0) B (fun q => (o, .inl (cc 3, 1, .inr (.inl g))) :: w1 q) mc ms) (hA : aR [xIA, xIS] B v rf) :
    lMi l yL_set wsL_set (rmL rm) D cc [.ref ax, .int p1, .int p2, .ref o] ((o, .inl (cc 3, 1, .inr (.inl g))) :: (ax, .inr (6, fs)) :: w0) rf (fun q => (o, .inl (cc 3, 1, .inr (.inl (outG g B)))) :: w1 q) mc ms := by
  intro sz
  refine lstart (bc := cL_set) (maxL := 5) (ret := (some .int)) (by decide) rfl (Nat.le_of_ble_eq_true rfl) ?_
  intro p e s m args below meth c A hsz hAe F hK hN hX hCc hT hP hD hS ls hl
  have hx := F.1.1
  have hb := F.1.2.1
  have hml := F.1.2.2.1
  have hown := F.1.2.2.2.1
  have hts := F.1.2.2.2.2
  have hl : lv_has ls 5 [(0, .ref ax), (1, .int p1), (2, .int p2), (3, .ref o)] := hl
  have hAA : ∀ q, va_A ((o, .inl (cc 3, 1, .inr (.inl g))) :: (ax, .inr (6, fs)) :: w0) s.heap.size q → A q := fun q h => by rw [hAe, ← hsz]; exact h
  refine lv_aload_n hx hb dL_set_0 rfl (lv_at hl 3 rfl) ?_
  refine lv_iconst (v := (0 : Int32)) hx hb dL_set_1 (by decide) ?_
  refine lv_aload_n hx hb dL_set_2 rfl (lv_at hl 0 rfl) ?_
  refine lv_iload_n hx hb dL_set_3 rfl (lv_at hl 1 rfl) ?_
  refine lv_iload_n hx hb dL_set_4 rfl (lv_at hl 2 rfl) ?_
  refine vx_calli (vx_runV (As := [.int p1, .int p2]) (rest := [.int (0 : Int32), .ref o]) F.1 (hM s.heap.size) (cwV 2 hts gL_set_X6_set rfl hrc hrs (by decide +kernel) ⟨Nat.le_refl _, by show _ + rm.locals ≤ rm.locals + 40; omega⟩) ⟨xPx.blind, va_recv hK hP (q0 := 1) rfl rfl, lpre hK hN hX hP hD hS hAA⟩ rfl rfl hl.1 rfl (lv_room (Nat.le_of_ble_eq_true rfl)) dL_set_5 ⟨by show 0 + mc ≤ rm.cells; omega, by show 0 + ms ≤ rm.slots; omega⟩) hS (fun q _ h => hAA q h) hAA (fun q _ h => hAA q h) ?_ ?_
  · intro E ce q9 u t H1 locs1 ht hvm _ hEB _ _ hS1 hce hcv hcl
    obtain ⟨hE, q, hP1, -, hD1⟩ := hEB
    rw [ht] at hP1
    have hD1 : va_D A _ := hD1.weaken (fun _ q _ h => hAA q.1 h)
    subst hE
    rcases hA with ⟨z, h1, -, -⟩ | ⟨i, s0, hi, h1, h2⟩
    · cases h1
    · cases h1
      rcases i with _ | i
      · cases hi
        refine vx_catch (own := RL) (name := xIA) hown [] (⟨0, 10, 13, 13⟩ : ExceptionTableEntry) [(⟨0, 10, 17, 15⟩ : ExceptionTableEntry)] (hT.trans rfl) (fun z hz => by cases hz) rfl (by decide) (hts _ (by decide +kernel)) (va_Nw.use rfl (hX.2.2.2 _ (by decide))) hce hcv hcl ?_
        refine lv_astore (lv' := [(4, .ref q9), (0, .ref ax), (1, .int p1), (2, .int p2), (3, .ref o)]) hx hb dL_set_13 hl (by decide) rfl (fun ls hl => ?_)
        refine lv_iconst (v := (1 : Int32)) hx hb dL_set_15 (by decide) ?_
        exact xendi (ret := none) F hsz hAe hK hP1 hD1 hS1 q rfl h2.symm (by omega) (by omega) dL_set_16
      · rcases i with _ | i
        · cases hi
          refine vx_catch (own := RL) (name := xIS) hown [(⟨0, 10, 13, 13⟩ : ExceptionTableEntry)] (⟨0, 10, 17, 15⟩ : ExceptionTableEntry) [] (hT.trans rfl) (fun z hz => by
            rcases List.mem_cons.mp hz with rfl | hz
            · exact Or.inr ⟨by decide, xIA, hts _ (by decide +kernel), hCc.1⟩
            · cases hz) rfl (by decide) (hts _ (by decide +kernel)) (va_Nw.use rfl (hX.2.2.2 _ (by decide))) hce hcv hcl ?_
          refine lv_astore (lv' := [(4, .ref q9), (0, .ref ax), (1, .int p1), (2, .int p2), (3, .ref o)]) hx hb dL_set_17 hl (by decide) rfl (fun ls hl => ?_)
          refine lv_iconst (v := (2 : Int32)) hx hb dL_set_19 (by decide) ?_
          exact xendi (ret := none) F hsz hAe hK hP1 hD1 hS1 q rfl h2.symm (by omega) (by omega) dL_set_20
        · cases hi
  · intro r u t H1 locs1 ht hvm hr hB _ _ hS1
    obtain ⟨q, hP1, -, hD1⟩ := hB
    rw [ht] at hP1
    have hD1 : va_D A _ := hD1.weaken (fun _ q _ h => hAA q.1 h)
    subst hr
    have hrf : rf = 0 := by
      rcases hA with ⟨z, -, h2, -⟩ | ⟨i, s0, hi, h1, -⟩
      · exact h2
      · cases h1
    refine lv_i2l (v := r.toInt64) hx hb dL_set_8 rfl ?_
    refine va_last hx hb hK hP1 hD1 hS1 (q0 := 0) (t0 := 3) rfl rfl (pk_in 0 1 (by decide)) dL_set_9 (fun H2 locs2 hP2 hD2 hS2 => ?_)
    refine lv_goto (tgt := 21) hx hb dL_set_10 (by decide) ?_
    refine lv_iconst (v := (0 : Int32)) hx hb dL_set_21 (by decide) ?_
    exact xendi (ret := none) F hsz hAe hK hP2 hD2 hS2 q rfl hrf.symm (by omega) (by omega) dL_set_22
theorem kL_undo (l : Launch) (D : va_G) (cc : Nat → ClassId) {o ax : Nat} {g : Nat → Int64} {fs : List Value} {w0 : va_W}  {B : Int32 ⊕ String} {v rf : Int32} {w1 : (Nat → Nat) → va_W} {rm : Room} {mc ms : Nat} (hrc : rm.cells = mc) (hrs : rm.slots = ms)
    (hM : vMi l yX6_undo wsX6_undo rm D cc [.ref ax] ((o, .inl (cc 3, 1, .inr (.inl g))) :: (ax, .inr (6, fs)) :: w0) B (fun q => (o, .inl (cc 3, 1, .inr (.inl g))) :: w1 q) mc ms) (hA : aR [xIS] B v rf) :
    lMi l yL_undo wsL_undo (rmL rm) D cc [.ref ax, .ref o] ((o, .inl (cc 3, 1, .inr (.inl g))) :: (ax, .inr (6, fs)) :: w0) rf (fun q => (o, .inl (cc 3, 1, .inr (.inl (outG g B)))) :: w1 q) mc ms := by
  intro sz
  refine lstart (bc := cL_undo) (maxL := 3) (ret := (some .int)) (by decide) rfl (Nat.le_of_ble_eq_true rfl) ?_
  intro p e s m args below meth c A hsz hAe F hK hN hX hCc hT hP hD hS ls hl
  have hx := F.1.1
  have hb := F.1.2.1
  have hml := F.1.2.2.1
  have hown := F.1.2.2.2.1
  have hts := F.1.2.2.2.2
  have hl : lv_has ls 3 [(0, .ref ax), (1, .ref o)] := hl
  have hAA : ∀ q, va_A ((o, .inl (cc 3, 1, .inr (.inl g))) :: (ax, .inr (6, fs)) :: w0) s.heap.size q → A q := fun q h => by rw [hAe, ← hsz]; exact h
  refine lv_aload_n hx hb dL_undo_0 rfl (lv_at hl 1 rfl) ?_
  refine lv_iconst (v := (0 : Int32)) hx hb dL_undo_1 (by decide) ?_
  refine lv_aload_n hx hb dL_undo_2 rfl (lv_at hl 0 rfl) ?_
  refine vx_calli (vx_runV (As := []) (rest := [.int (0 : Int32), .ref o]) F.1 (hM s.heap.size) (cwV 0 hts gL_undo_X6_undo rfl hrc hrs (by decide +kernel) ⟨Nat.le_refl _, by show _ + rm.locals ≤ rm.locals + 40; omega⟩) ⟨xPx.blind, va_recv hK hP (q0 := 1) rfl rfl, lpre hK hN hX hP hD hS hAA⟩ rfl rfl hl.1 rfl (lv_room (Nat.le_of_ble_eq_true rfl)) dL_undo_3 ⟨by show 0 + mc ≤ rm.cells; omega, by show 0 + ms ≤ rm.slots; omega⟩) hS (fun q _ h => hAA q h) hAA (fun q _ h => hAA q h) ?_ ?_
  · intro E ce q9 u t H1 locs1 ht hvm _ hEB _ _ hS1 hce hcv hcl
    obtain ⟨hE, q, hP1, -, hD1⟩ := hEB
    rw [ht] at hP1
    have hD1 : va_D A _ := hD1.weaken (fun _ q _ h => hAA q.1 h)
    subst hE
    rcases hA with ⟨z, h1, -, -⟩ | ⟨i, s0, hi, h1, h2⟩
    · cases h1
    · cases h1
      rcases i with _ | i
      · cases hi
        refine vx_catch (own := RL) (name := xIS) hown [] (⟨0, 8, 11, 15⟩ : ExceptionTableEntry) [] (hT.trans rfl) (fun z hz => by cases hz) rfl (by decide) (hts _ (by decide +kernel)) (va_Nw.use rfl (hX.2.2.2 _ (by decide))) hce hcv hcl ?_
        refine lv_astore_n (lv' := [(2, .ref q9), (0, .ref ax), (1, .ref o)]) hx hb dL_undo_11 rfl hl (by decide) rfl (fun ls hl => ?_)
        refine lv_iconst (v := (1 : Int32)) hx hb dL_undo_12 (by decide) ?_
        exact xendi (ret := none) F hsz hAe hK hP1 hD1 hS1 q rfl h2.symm (by omega) (by omega) dL_undo_13
      · cases hi
  · intro r u t H1 locs1 ht hvm hr hB _ _ hS1
    obtain ⟨q, hP1, -, hD1⟩ := hB
    rw [ht] at hP1
    have hD1 : va_D A _ := hD1.weaken (fun _ q _ h => hAA q.1 h)
    subst hr
    have hrf : rf = 0 := by
      rcases hA with ⟨z, -, h2, -⟩ | ⟨i, s0, hi, h1, -⟩
      · exact h2
      · cases h1
    refine lv_i2l (v := r.toInt64) hx hb dL_undo_6 rfl ?_
    refine va_last hx hb hK hP1 hD1 hS1 (q0 := 0) (t0 := 3) rfl rfl (pk_in 0 1 (by decide)) dL_undo_7 (fun H2 locs2 hP2 hD2 hS2 => ?_)
    refine lv_goto (tgt := 14) hx hb dL_undo_8 (by decide) ?_
    refine lv_iconst (v := (0 : Int32)) hx hb dL_undo_14 (by decide) ?_
    exact xendi (ret := none) F hsz hAe hK hP2 hD2 hS2 q rfl hrf.symm (by omega) (by omega) dL_undo_15
theorem kL_read (l : Launch) (D : va_G) (cc : Nat → ClassId) {o ax : Nat} {g : Nat → Int64} {fs : List Value} {w0 : va_W} {p1 : Int32} {B : Int32 ⊕ String} {v rf : Int32} {w1 : (Nat → Nat) → va_W} {rm : Room} {mc ms : Nat} (hrc : rm.cells = mc) (hrs : rm.slots = ms)
    (hM : vMi l yX6_read wsX6_read rm D cc [.ref ax, .int p1] ((o, .inl (cc 3, 1, .inr (.inl g))) :: (ax, .inr (6, fs)) :: w0) B (fun q => (o, .inl (cc 3, 1, .inr (.inl g))) :: w1 q) mc ms) (hA : aR [xIA] B v rf) :
    lMi l yL_read wsL_read (rmL rm) D cc [.ref ax, .int p1, .ref o] ((o, .inl (cc 3, 1, .inr (.inl g))) :: (ax, .inr (6, fs)) :: w0) rf (fun q => (o, .inl (cc 3, 1, .inr (.inl (outG g B)))) :: w1 q) mc ms := by
  intro sz
  refine lstart (bc := cL_read) (maxL := 4) (ret := (some .int)) (by decide) rfl (Nat.le_of_ble_eq_true rfl) ?_
  intro p e s m args below meth c A hsz hAe F hK hN hX hCc hT hP hD hS ls hl
  have hx := F.1.1
  have hb := F.1.2.1
  have hml := F.1.2.2.1
  have hown := F.1.2.2.2.1
  have hts := F.1.2.2.2.2
  have hl : lv_has ls 4 [(0, .ref ax), (1, .int p1), (2, .ref o)] := hl
  have hAA : ∀ q, va_A ((o, .inl (cc 3, 1, .inr (.inl g))) :: (ax, .inr (6, fs)) :: w0) s.heap.size q → A q := fun q h => by rw [hAe, ← hsz]; exact h
  refine lv_aload_n hx hb dL_read_0 rfl (lv_at hl 2 rfl) ?_
  refine lv_iconst (v := (0 : Int32)) hx hb dL_read_1 (by decide) ?_
  refine lv_aload_n hx hb dL_read_2 rfl (lv_at hl 0 rfl) ?_
  refine lv_iload_n hx hb dL_read_3 rfl (lv_at hl 1 rfl) ?_
  refine vx_calli (vx_runV (As := [.int p1]) (rest := [.int (0 : Int32), .ref o]) F.1 (hM s.heap.size) (cwV 1 hts gL_read_X6_read rfl hrc hrs (by decide +kernel) ⟨Nat.le_refl _, by show _ + rm.locals ≤ rm.locals + 40; omega⟩) ⟨xPx.blind, va_recv hK hP (q0 := 1) rfl rfl, lpre hK hN hX hP hD hS hAA⟩ rfl rfl hl.1 rfl (lv_room (Nat.le_of_ble_eq_true rfl)) dL_read_4 ⟨by show 0 + mc ≤ rm.cells; omega, by show 0 + ms ≤ rm.slots; omega⟩) hS (fun q _ h => hAA q h) hAA (fun q _ h => hAA q h) ?_ ?_
  · intro E ce q9 u t H1 locs1 ht hvm _ hEB _ _ hS1 hce hcv hcl
    obtain ⟨hE, q, hP1, -, hD1⟩ := hEB
    rw [ht] at hP1
    have hD1 : va_D A _ := hD1.weaken (fun _ q _ h => hAA q.1 h)
    subst hE
    rcases hA with ⟨z, h1, -, -⟩ | ⟨i, s0, hi, h1, h2⟩
    · cases h1
    · cases h1
      rcases i with _ | i
      · cases hi
        refine vx_catch (own := RL) (name := xIA) hown [] (⟨0, 9, 12, 13⟩ : ExceptionTableEntry) [] (hT.trans rfl) (fun z hz => by cases hz) rfl (by decide) (hts _ (by decide +kernel)) (va_Nw.use rfl (hX.2.2.2 _ (by decide))) hce hcv hcl ?_
        refine lv_astore_n (lv' := [(3, .ref q9), (0, .ref ax), (1, .int p1), (2, .ref o)]) hx hb dL_read_12 rfl hl (by decide) rfl (fun ls hl => ?_)
        refine lv_iconst (v := (1 : Int32)) hx hb dL_read_13 (by decide) ?_
        exact xendi (ret := none) F hsz hAe hK hP1 hD1 hS1 q rfl h2.symm (by omega) (by omega) dL_read_14
      · cases hi
  · intro r u t H1 locs1 ht hvm hr hB _ _ hS1
    obtain ⟨q, hP1, -, hD1⟩ := hB
    rw [ht] at hP1
    have hD1 : va_D A _ := hD1.weaken (fun _ q _ h => hAA q.1 h)
    subst hr
    have hrf : rf = 0 := by
      rcases hA with ⟨z, -, h2, -⟩ | ⟨i, s0, hi, h1, -⟩
      · exact h2
      · cases h1
    refine lv_i2l (v := r.toInt64) hx hb dL_read_7 rfl ?_
    refine va_last hx hb hK hP1 hD1 hS1 (q0 := 0) (t0 := 3) rfl rfl (pk_in 0 1 (by decide)) dL_read_8 (fun H2 locs2 hP2 hD2 hS2 => ?_)
    refine lv_goto (tgt := 15) hx hb dL_read_9 (by decide) ?_
    refine lv_iconst (v := (0 : Int32)) hx hb dL_read_15 (by decide) ?_
    exact xendi (ret := none) F hsz hAe hK hP2 hD2 hS2 q rfl hrf.symm (by omega) (by omega) dL_read_16
theorem kL_nearest (l : Launch) (D : va_G) (cc : Nat → ClassId) {o ax : Nat} {g : Nat → Int64} {fs : List Value} {w0 : va_W} {p1 : Int32} {B : Int32 ⊕ String} {v rf : Int32} {w1 : (Nat → Nat) → va_W} {rm : Room} {mc ms : Nat} (hrc : rm.cells = mc) (hrs : rm.slots = ms)
    (hM : vMi l yX6_nearest wsX6_nearest rm D cc [.ref ax, .int p1] ((o, .inl (cc 3, 1, .inr (.inl g))) :: (ax, .inr (6, fs)) :: w0) B (fun q => (o, .inl (cc 3, 1, .inr (.inl g))) :: w1 q) mc ms) (hA : aR [xIO] B v rf) :
    lMi l yL_nearest wsL_nearest (rmL rm) D cc [.ref ax, .int p1, .ref o] ((o, .inl (cc 3, 1, .inr (.inl g))) :: (ax, .inr (6, fs)) :: w0) rf (fun q => (o, .inl (cc 3, 1, .inr (.inl (outG g B)))) :: w1 q) mc ms := by
  intro sz
  refine lstart (bc := cL_nearest) (maxL := 4) (ret := (some .int)) (by decide) rfl (Nat.le_of_ble_eq_true rfl) ?_
  intro p e s m args below meth c A hsz hAe F hK hN hX hCc hT hP hD hS ls hl
  have hx := F.1.1
  have hb := F.1.2.1
  have hml := F.1.2.2.1
  have hown := F.1.2.2.2.1
  have hts := F.1.2.2.2.2
  have hl : lv_has ls 4 [(0, .ref ax), (1, .int p1), (2, .ref o)] := hl
  have hAA : ∀ q, va_A ((o, .inl (cc 3, 1, .inr (.inl g))) :: (ax, .inr (6, fs)) :: w0) s.heap.size q → A q := fun q h => by rw [hAe, ← hsz]; exact h
  refine lv_aload_n hx hb dL_nearest_0 rfl (lv_at hl 2 rfl) ?_
  refine lv_iconst (v := (0 : Int32)) hx hb dL_nearest_1 (by decide) ?_
  refine lv_aload_n hx hb dL_nearest_2 rfl (lv_at hl 0 rfl) ?_
  refine lv_iload_n hx hb dL_nearest_3 rfl (lv_at hl 1 rfl) ?_
  refine vx_calli (vx_runV (As := [.int p1]) (rest := [.int (0 : Int32), .ref o]) F.1 (hM s.heap.size) (cwV 1 hts gL_nearest_X6_nearest rfl hrc hrs (by decide +kernel) ⟨Nat.le_refl _, by show _ + rm.locals ≤ rm.locals + 40; omega⟩) ⟨xPx.blind, va_recv hK hP (q0 := 1) rfl rfl, lpre hK hN hX hP hD hS hAA⟩ rfl rfl hl.1 rfl (lv_room (Nat.le_of_ble_eq_true rfl)) dL_nearest_4 ⟨by show 0 + mc ≤ rm.cells; omega, by show 0 + ms ≤ rm.slots; omega⟩) hS (fun q _ h => hAA q h) hAA (fun q _ h => hAA q h) ?_ ?_
  · intro E ce q9 u t H1 locs1 ht hvm _ hEB _ _ hS1 hce hcv hcl
    obtain ⟨hE, q, hP1, -, hD1⟩ := hEB
    rw [ht] at hP1
    have hD1 : va_D A _ := hD1.weaken (fun _ q _ h => hAA q.1 h)
    subst hE
    rcases hA with ⟨z, h1, -, -⟩ | ⟨i, s0, hi, h1, h2⟩
    · cases h1
    · cases h1
      rcases i with _ | i
      · cases hi
        refine vx_catch (own := RL) (name := xIO) hown [] (⟨0, 9, 12, 27⟩ : ExceptionTableEntry) [] (hT.trans rfl) (fun z hz => by cases hz) rfl (by decide) (hts _ (by decide +kernel)) (va_Nw.use rfl (hX.2.2.2 _ (by decide))) hce hcv hcl ?_
        refine lv_astore_n (lv' := [(3, .ref q9), (0, .ref ax), (1, .int p1), (2, .ref o)]) hx hb dL_nearest_12 rfl hl (by decide) rfl (fun ls hl => ?_)
        refine lv_iconst (v := (1 : Int32)) hx hb dL_nearest_13 (by decide) ?_
        exact xendi (ret := none) F hsz hAe hK hP1 hD1 hS1 q rfl h2.symm (by omega) (by omega) dL_nearest_14
      · cases hi
  · intro r u t H1 locs1 ht hvm hr hB _ _ hS1
    obtain ⟨q, hP1, -, hD1⟩ := hB
    rw [ht] at hP1
    have hD1 : va_D A _ := hD1.weaken (fun _ q _ h => hAA q.1 h)
    subst hr
    have hrf : rf = 0 := by
      rcases hA with ⟨z, -, h2, -⟩ | ⟨i, s0, hi, h1, -⟩
      · exact h2
      · cases h1
    refine lv_i2l (v := r.toInt64) hx hb dL_nearest_7 rfl ?_
    refine va_last hx hb hK hP1 hD1 hS1 (q0 := 0) (t0 := 3) rfl rfl (pk_in 0 1 (by decide)) dL_nearest_8 (fun H2 locs2 hP2 hD2 hS2 => ?_)
    refine lv_goto (tgt := 15) hx hb dL_nearest_9 (by decide) ?_
    refine lv_iconst (v := (0 : Int32)) hx hb dL_nearest_15 (by decide) ?_
    exact xendi (ret := none) F hsz hAe hK hP2 hD2 hS2 q rfl hrf.symm (by omega) (by omega) dL_nearest_16
theorem kL_between (l : Launch) (D : va_G) (cc : Nat → ClassId) {o ax : Nat} {g : Nat → Int64} {fs : List Value} {w0 : va_W} {p1 : Int32} {p2 : Int32} {B : Int32 ⊕ String} {v rf : Int32} {w1 : (Nat → Nat) → va_W} {rm : Room} {mc ms : Nat} (hrc : rm.cells = mc) (hrs : rm.slots = ms)
    (hM : vMi l yX6_between wsX6_between rm D cc [.ref ax, .int p1, .int p2] ((o, .inl (cc 3, 1, .inr (.inl g))) :: (ax, .inr (6, fs)) :: w0) B (fun q => (o, .inl (cc 3, 1, .inr (.inl g))) :: w1 q) mc ms) (hA : aR [xIO] B v rf) :
    lMi l yL_between wsL_between (rmL rm) D cc [.ref ax, .int p1, .int p2, .ref o] ((o, .inl (cc 3, 1, .inr (.inl g))) :: (ax, .inr (6, fs)) :: w0) rf (fun q => (o, .inl (cc 3, 1, .inr (.inl (outG g B)))) :: w1 q) mc ms := by
  intro sz
  refine lstart (bc := cL_between) (maxL := 5) (ret := (some .int)) (by decide) rfl (Nat.le_of_ble_eq_true rfl) ?_
  intro p e s m args below meth c A hsz hAe F hK hN hX hCc hT hP hD hS ls hl
  have hx := F.1.1
  have hb := F.1.2.1
  have hml := F.1.2.2.1
  have hown := F.1.2.2.2.1
  have hts := F.1.2.2.2.2
  have hl : lv_has ls 5 [(0, .ref ax), (1, .int p1), (2, .int p2), (3, .ref o)] := hl
  have hAA : ∀ q, va_A ((o, .inl (cc 3, 1, .inr (.inl g))) :: (ax, .inr (6, fs)) :: w0) s.heap.size q → A q := fun q h => by rw [hAe, ← hsz]; exact h
  refine lv_aload_n hx hb dL_between_0 rfl (lv_at hl 3 rfl) ?_
  refine lv_iconst (v := (0 : Int32)) hx hb dL_between_1 (by decide) ?_
  refine lv_aload_n hx hb dL_between_2 rfl (lv_at hl 0 rfl) ?_
  refine lv_iload_n hx hb dL_between_3 rfl (lv_at hl 1 rfl) ?_
  refine lv_iload_n hx hb dL_between_4 rfl (lv_at hl 2 rfl) ?_
  refine vx_calli (vx_runV (As := [.int p1, .int p2]) (rest := [.int (0 : Int32), .ref o]) F.1 (hM s.heap.size) (cwV 2 hts gL_between_X6_between rfl hrc hrs (by decide +kernel) ⟨Nat.le_refl _, by show _ + rm.locals ≤ rm.locals + 40; omega⟩) ⟨xPx.blind, va_recv hK hP (q0 := 1) rfl rfl, lpre hK hN hX hP hD hS hAA⟩ rfl rfl hl.1 rfl (lv_room (Nat.le_of_ble_eq_true rfl)) dL_between_5 ⟨by show 0 + mc ≤ rm.cells; omega, by show 0 + ms ≤ rm.slots; omega⟩) hS (fun q _ h => hAA q h) hAA (fun q _ h => hAA q h) ?_ ?_
  · intro E ce q9 u t H1 locs1 ht hvm _ hEB _ _ hS1 hce hcv hcl
    obtain ⟨hE, q, hP1, -, hD1⟩ := hEB
    rw [ht] at hP1
    have hD1 : va_D A _ := hD1.weaken (fun _ q _ h => hAA q.1 h)
    subst hE
    rcases hA with ⟨z, h1, -, -⟩ | ⟨i, s0, hi, h1, h2⟩
    · cases h1
    · cases h1
      rcases i with _ | i
      · cases hi
        refine vx_catch (own := RL) (name := xIO) hown [] (⟨0, 10, 13, 27⟩ : ExceptionTableEntry) [] (hT.trans rfl) (fun z hz => by cases hz) rfl (by decide) (hts _ (by decide +kernel)) (va_Nw.use rfl (hX.2.2.2 _ (by decide))) hce hcv hcl ?_
        refine lv_astore (lv' := [(4, .ref q9), (0, .ref ax), (1, .int p1), (2, .int p2), (3, .ref o)]) hx hb dL_between_13 hl (by decide) rfl (fun ls hl => ?_)
        refine lv_iconst (v := (1 : Int32)) hx hb dL_between_15 (by decide) ?_
        exact xendi (ret := none) F hsz hAe hK hP1 hD1 hS1 q rfl h2.symm (by omega) (by omega) dL_between_16
      · cases hi
  · intro r u t H1 locs1 ht hvm hr hB _ _ hS1
    obtain ⟨q, hP1, -, hD1⟩ := hB
    rw [ht] at hP1
    have hD1 : va_D A _ := hD1.weaken (fun _ q _ h => hAA q.1 h)
    subst hr
    have hrf : rf = 0 := by
      rcases hA with ⟨z, -, h2, -⟩ | ⟨i, s0, hi, h1, -⟩
      · exact h2
      · cases h1
    refine lv_i2l (v := r.toInt64) hx hb dL_between_8 rfl ?_
    refine va_last hx hb hK hP1 hD1 hS1 (q0 := 0) (t0 := 3) rfl rfl (pk_in 0 1 (by decide)) dL_between_9 (fun H2 locs2 hP2 hD2 hS2 => ?_)
    refine lv_goto (tgt := 17) hx hb dL_between_10 (by decide) ?_
    refine lv_iconst (v := (0 : Int32)) hx hb dL_between_17 (by decide) ?_
    exact xendi (ret := none) F hsz hAe hK hP2 hD2 hS2 q rfl hrf.symm (by omega) (by omega) dL_between_18
theorem kL_runScript (l : Launch) (D : va_G) (cc : Nat → ClassId) {o ax : Nat} {g : Nat → Int64} {fs : List Value} {w0 : va_W} {p1 : Int32} {p2 : Int64} {B : Int32 ⊕ String} {v rf : Int32} {w1 : (Nat → Nat) → va_W} {rm : Room} {mc ms : Nat} (hrc : rm.cells = mc) (hrs : rm.slots = ms)
    (hM : vMi l yX6_runScript wsX6_runScript rm D cc [.ref ax, .int p1, .long p2] ((o, .inl (cc 3, 1, .inr (.inl g))) :: (ax, .inr (6, fs)) :: w0) B (fun q => (o, .inl (cc 3, 1, .inr (.inl g))) :: w1 q) mc ms) (hA : aR [xIA] B v rf) :
    lMi l yL_runScript wsL_runScript (rmL rm) D cc [.ref ax, .int p1, .long p2, .ref o] ((o, .inl (cc 3, 1, .inr (.inl g))) :: (ax, .inr (6, fs)) :: w0) rf (fun q => (o, .inl (cc 3, 1, .inr (.inl (outG g B)))) :: w1 q) mc ms := by
  intro sz
  refine lstart (bc := cL_runScript) (maxL := 6) (ret := (some .int)) (by decide) rfl (Nat.le_of_ble_eq_true rfl) ?_
  intro p e s m args below meth c A hsz hAe F hK hN hX hCc hT hP hD hS ls hl
  have hx := F.1.1
  have hb := F.1.2.1
  have hml := F.1.2.2.1
  have hown := F.1.2.2.2.1
  have hts := F.1.2.2.2.2
  have hl : lv_has ls 6 [(0, .ref ax), (1, .int p1), (2, .long p2), (4, .ref o)] := hl
  have hAA : ∀ q, va_A ((o, .inl (cc 3, 1, .inr (.inl g))) :: (ax, .inr (6, fs)) :: w0) s.heap.size q → A q := fun q h => by rw [hAe, ← hsz]; exact h
  refine lv_aload hx hb dL_runScript_0 (lv_at hl 3 rfl) ?_
  refine lv_iconst (v := (0 : Int32)) hx hb dL_runScript_2 (by decide) ?_
  refine lv_aload_n hx hb dL_runScript_3 rfl (lv_at hl 0 rfl) ?_
  refine lv_iload_n hx hb dL_runScript_4 rfl (lv_at hl 1 rfl) ?_
  refine lv_lload_n hx hb dL_runScript_5 rfl (lv_at hl 2 rfl) ?_
  refine vx_calli (vx_runV (As := [.int p1, .long p2]) (rest := [.int (0 : Int32), .ref o]) F.1 (hM s.heap.size) (cwV 2 hts gL_runScript_X6_runScript rfl hrc hrs (by decide +kernel) ⟨Nat.le_refl _, by show _ + rm.locals ≤ rm.locals + 40; omega⟩) ⟨xPx.blind, va_recv hK hP (q0 := 1) rfl rfl, lpre hK hN hX hP hD hS hAA⟩ rfl rfl hl.1 rfl (lv_room (Nat.le_of_ble_eq_true rfl)) dL_runScript_6 ⟨by show 0 + mc ≤ rm.cells; omega, by show 0 + ms ≤ rm.slots; omega⟩) hS (fun q _ h => hAA q h) hAA (fun q _ h => hAA q h) ?_ ?_
  · intro E ce q9 u t H1 locs1 ht hvm _ hEB _ _ hS1 hce hcv hcl
    obtain ⟨hE, q, hP1, -, hD1⟩ := hEB
    rw [ht] at hP1
    have hD1 : va_D A _ := hD1.weaken (fun _ q _ h => hAA q.1 h)
    subst hE
    rcases hA with ⟨z, h1, -, -⟩ | ⟨i, s0, hi, h1, h2⟩
    · cases h1
    · cases h1
      rcases i with _ | i
      · cases hi
        refine vx_catch (own := RL) (name := xIA) hown [] (⟨0, 11, 14, 13⟩ : ExceptionTableEntry) [] (hT.trans rfl) (fun z hz => by cases hz) rfl (by decide) (hts _ (by decide +kernel)) (va_Nw.use rfl (hX.2.2.2 _ (by decide))) hce hcv hcl ?_
        refine lv_astore (lv' := [(5, .ref q9), (0, .ref ax), (1, .int p1), (2, .long p2), (4, .ref o)]) hx hb dL_runScript_14 hl (by decide) rfl (fun ls hl => ?_)
        refine lv_iconst (v := (1 : Int32)) hx hb dL_runScript_16 (by decide) ?_
        exact xendi (ret := none) F hsz hAe hK hP1 hD1 hS1 q rfl h2.symm (by omega) (by omega) dL_runScript_17
      · cases hi
  · intro r u t H1 locs1 ht hvm hr hB _ _ hS1
    obtain ⟨q, hP1, -, hD1⟩ := hB
    rw [ht] at hP1
    have hD1 : va_D A _ := hD1.weaken (fun _ q _ h => hAA q.1 h)
    subst hr
    have hrf : rf = 0 := by
      rcases hA with ⟨z, -, h2, -⟩ | ⟨i, s0, hi, h1, -⟩
      · exact h2
      · cases h1
    refine lv_i2l (v := r.toInt64) hx hb dL_runScript_9 rfl ?_
    refine va_last hx hb hK hP1 hD1 hS1 (q0 := 0) (t0 := 3) rfl rfl (pk_in 0 1 (by decide)) dL_runScript_10 (fun H2 locs2 hP2 hD2 hS2 => ?_)
    refine lv_goto (tgt := 18) hx hb dL_runScript_11 (by decide) ?_
    refine lv_iconst (v := (0 : Int32)) hx hb dL_runScript_18 (by decide) ?_
    exact xendi (ret := none) F hsz hAe hK hP2 hD2 hS2 q rfl hrf.symm (by omega) (by omega) dL_runScript_19
theorem kL_simulate (l : Launch) (D : va_G) (cc : Nat → ClassId) {o ax : Nat} {g : Nat → Int64} {fs : List Value} {w0 : va_W} {p1 : Int64} {p3 : Int32} {B : Int32 ⊕ String} {v rf : Int32} {w1 : (Nat → Nat) → va_W} {rm : Room} {mc ms : Nat} (hrc : rm.cells = mc) (hrs : rm.slots = ms)
    (hM : vMi l yX6_simulate wsX6_simulate rm D cc [.ref ax, .long p1, .int p3] ((o, .inl (cc 3, 1, .inr (.inl g))) :: (ax, .inr (6, fs)) :: w0) B (fun q => (o, .inl (cc 3, 1, .inr (.inl g))) :: w1 q) mc ms) (hA : aR [xIA] B v rf) :
    lMi l yL_simulate wsL_simulate (rmL rm) D cc [.ref ax, .long p1, .int p3, .ref o] ((o, .inl (cc 3, 1, .inr (.inl g))) :: (ax, .inr (6, fs)) :: w0) rf (fun q => (o, .inl (cc 3, 1, .inr (.inl (outG g B)))) :: w1 q) mc ms := by
  intro sz
  refine lstart (bc := cL_simulate) (maxL := 6) (ret := (some .int)) (by decide) rfl (Nat.le_of_ble_eq_true rfl) ?_
  intro p e s m args below meth c A hsz hAe F hK hN hX hCc hT hP hD hS ls hl
  have hx := F.1.1
  have hb := F.1.2.1
  have hml := F.1.2.2.1
  have hown := F.1.2.2.2.1
  have hts := F.1.2.2.2.2
  have hl : lv_has ls 6 [(0, .ref ax), (1, .long p1), (3, .int p3), (4, .ref o)] := hl
  have hAA : ∀ q, va_A ((o, .inl (cc 3, 1, .inr (.inl g))) :: (ax, .inr (6, fs)) :: w0) s.heap.size q → A q := fun q h => by rw [hAe, ← hsz]; exact h
  refine lv_aload hx hb dL_simulate_0 (lv_at hl 3 rfl) ?_
  refine lv_iconst (v := (0 : Int32)) hx hb dL_simulate_2 (by decide) ?_
  refine lv_aload_n hx hb dL_simulate_3 rfl (lv_at hl 0 rfl) ?_
  refine lv_lload_n hx hb dL_simulate_4 rfl (lv_at hl 1 rfl) ?_
  refine lv_iload_n hx hb dL_simulate_5 rfl (lv_at hl 2 rfl) ?_
  refine vx_calli (vx_runV (As := [.long p1, .int p3]) (rest := [.int (0 : Int32), .ref o]) F.1 (hM s.heap.size) (cwV 2 hts gL_simulate_X6_simulate rfl hrc hrs (by decide +kernel) ⟨Nat.le_refl _, by show _ + rm.locals ≤ rm.locals + 40; omega⟩) ⟨xPx.blind, va_recv hK hP (q0 := 1) rfl rfl, lpre hK hN hX hP hD hS hAA⟩ rfl rfl hl.1 rfl (lv_room (Nat.le_of_ble_eq_true rfl)) dL_simulate_6 ⟨by show 0 + mc ≤ rm.cells; omega, by show 0 + ms ≤ rm.slots; omega⟩) hS (fun q _ h => hAA q h) hAA (fun q _ h => hAA q h) ?_ ?_
  · intro E ce q9 u t H1 locs1 ht hvm _ hEB _ _ hS1 hce hcv hcl
    obtain ⟨hE, q, hP1, -, hD1⟩ := hEB
    rw [ht] at hP1
    have hD1 : va_D A _ := hD1.weaken (fun _ q _ h => hAA q.1 h)
    subst hE
    rcases hA with ⟨z, h1, -, -⟩ | ⟨i, s0, hi, h1, h2⟩
    · cases h1
    · cases h1
      rcases i with _ | i
      · cases hi
        refine vx_catch (own := RL) (name := xIA) hown [] (⟨0, 11, 14, 13⟩ : ExceptionTableEntry) [] (hT.trans rfl) (fun z hz => by cases hz) rfl (by decide) (hts _ (by decide +kernel)) (va_Nw.use rfl (hX.2.2.2 _ (by decide))) hce hcv hcl ?_
        refine lv_astore (lv' := [(5, .ref q9), (0, .ref ax), (1, .long p1), (3, .int p3), (4, .ref o)]) hx hb dL_simulate_14 hl (by decide) rfl (fun ls hl => ?_)
        refine lv_iconst (v := (1 : Int32)) hx hb dL_simulate_16 (by decide) ?_
        exact xendi (ret := none) F hsz hAe hK hP1 hD1 hS1 q rfl h2.symm (by omega) (by omega) dL_simulate_17
      · cases hi
  · intro r u t H1 locs1 ht hvm hr hB _ _ hS1
    obtain ⟨q, hP1, -, hD1⟩ := hB
    rw [ht] at hP1
    have hD1 : va_D A _ := hD1.weaken (fun _ q _ h => hAA q.1 h)
    subst hr
    have hrf : rf = 0 := by
      rcases hA with ⟨z, -, h2, -⟩ | ⟨i, s0, hi, h1, -⟩
      · exact h2
      · cases h1
    refine lv_i2l (v := r.toInt64) hx hb dL_simulate_9 rfl ?_
    refine va_last hx hb hK hP1 hD1 hS1 (q0 := 0) (t0 := 3) rfl rfl (pk_in 0 1 (by decide)) dL_simulate_10 (fun H2 locs2 hP2 hD2 hS2 => ?_)
    refine lv_goto (tgt := 18) hx hb dL_simulate_11 (by decide) ?_
    refine lv_iconst (v := (0 : Int32)) hx hb dL_simulate_18 (by decide) ?_
    exact xendi (ret := none) F hsz hAe hK hP2 hD2 hS2 q rfl hrf.symm (by omega) (by omega) dL_simulate_19
theorem kL_save (l : Launch) (D : va_G) (cc : Nat → ClassId) {o ax : Nat} {g : Nat → Int64} {fs : List Value} {w0 : va_W} {p1 : Int32} {B : Int32 ⊕ String} {v rf : Int32} {w1 : (Nat → Nat) → va_W} {rm : Room} {mc ms : Nat} (hrc : rm.cells = mc) (hrs : rm.slots = ms)
    (hM : vMi l yX6_save wsX6_save rm D cc [.ref ax, .int p1] ((o, .inl (cc 3, 1, .inr (.inl g))) :: (ax, .inr (6, fs)) :: w0) B (fun q => (o, .inl (cc 3, 1, .inr (.inl g))) :: w1 q) mc ms) (hA : aR [xIO] B v rf) :
    lMi l yL_save wsL_save (rmL rm) D cc [.ref ax, .int p1, .ref o] ((o, .inl (cc 3, 1, .inr (.inl g))) :: (ax, .inr (6, fs)) :: w0) rf (fun q => (o, .inl (cc 3, 1, .inr (.inl (outG g B)))) :: w1 q) mc ms := by
  intro sz
  refine lstart (bc := cL_save) (maxL := 4) (ret := (some .int)) (by decide) rfl (Nat.le_of_ble_eq_true rfl) ?_
  intro p e s m args below meth c A hsz hAe F hK hN hX hCc hT hP hD hS ls hl
  have hx := F.1.1
  have hb := F.1.2.1
  have hml := F.1.2.2.1
  have hown := F.1.2.2.2.1
  have hts := F.1.2.2.2.2
  have hl : lv_has ls 4 [(0, .ref ax), (1, .int p1), (2, .ref o)] := hl
  have hAA : ∀ q, va_A ((o, .inl (cc 3, 1, .inr (.inl g))) :: (ax, .inr (6, fs)) :: w0) s.heap.size q → A q := fun q h => by rw [hAe, ← hsz]; exact h
  refine lv_aload_n hx hb dL_save_0 rfl (lv_at hl 2 rfl) ?_
  refine lv_iconst (v := (0 : Int32)) hx hb dL_save_1 (by decide) ?_
  refine lv_aload_n hx hb dL_save_2 rfl (lv_at hl 0 rfl) ?_
  refine lv_iload_n hx hb dL_save_3 rfl (lv_at hl 1 rfl) ?_
  refine vx_calli (vx_runV (As := [.int p1]) (rest := [.int (0 : Int32), .ref o]) F.1 (hM s.heap.size) (cwV 1 hts gL_save_X6_save rfl hrc hrs (by decide +kernel) ⟨Nat.le_refl _, by show _ + rm.locals ≤ rm.locals + 40; omega⟩) ⟨xPx.blind, va_recv hK hP (q0 := 1) rfl rfl, lpre hK hN hX hP hD hS hAA⟩ rfl rfl hl.1 rfl (lv_room (Nat.le_of_ble_eq_true rfl)) dL_save_4 ⟨by show 0 + mc ≤ rm.cells; omega, by show 0 + ms ≤ rm.slots; omega⟩) hS (fun q _ h => hAA q h) hAA (fun q _ h => hAA q h) ?_ ?_
  · intro E ce q9 u t H1 locs1 ht hvm _ hEB _ _ hS1 hce hcv hcl
    obtain ⟨hE, q, hP1, -, hD1⟩ := hEB
    rw [ht] at hP1
    have hD1 : va_D A _ := hD1.weaken (fun _ q _ h => hAA q.1 h)
    subst hE
    rcases hA with ⟨z, h1, -, -⟩ | ⟨i, s0, hi, h1, h2⟩
    · cases h1
    · cases h1
      rcases i with _ | i
      · cases hi
        refine vx_catch (own := RL) (name := xIO) hown [] (⟨0, 9, 12, 27⟩ : ExceptionTableEntry) [] (hT.trans rfl) (fun z hz => by cases hz) rfl (by decide) (hts _ (by decide +kernel)) (va_Nw.use rfl (hX.2.2.2 _ (by decide))) hce hcv hcl ?_
        refine lv_astore_n (lv' := [(3, .ref q9), (0, .ref ax), (1, .int p1), (2, .ref o)]) hx hb dL_save_12 rfl hl (by decide) rfl (fun ls hl => ?_)
        refine lv_iconst (v := (1 : Int32)) hx hb dL_save_13 (by decide) ?_
        exact xendi (ret := none) F hsz hAe hK hP1 hD1 hS1 q rfl h2.symm (by omega) (by omega) dL_save_14
      · cases hi
  · intro r u t H1 locs1 ht hvm hr hB _ _ hS1
    obtain ⟨q, hP1, -, hD1⟩ := hB
    rw [ht] at hP1
    have hD1 : va_D A _ := hD1.weaken (fun _ q _ h => hAA q.1 h)
    subst hr
    have hrf : rf = 0 := by
      rcases hA with ⟨z, -, h2, -⟩ | ⟨i, s0, hi, h1, -⟩
      · exact h2
      · cases h1
    refine lv_i2l (v := r.toInt64) hx hb dL_save_7 rfl ?_
    refine va_last hx hb hK hP1 hD1 hS1 (q0 := 0) (t0 := 3) rfl rfl (pk_in 0 1 (by decide)) dL_save_8 (fun H2 locs2 hP2 hD2 hS2 => ?_)
    refine lv_goto (tgt := 15) hx hb dL_save_9 (by decide) ?_
    refine lv_iconst (v := (0 : Int32)) hx hb dL_save_15 (by decide) ?_
    exact xendi (ret := none) F hsz hAe hK hP2 hD2 hS2 q rfl hrf.symm (by omega) (by omega) dL_save_16
theorem kL_restore (l : Launch) (D : va_G) (cc : Nat → ClassId) {o ax : Nat} {g : Nat → Int64} {fs : List Value} {w0 : va_W} {p1 : Int32} {B : Int32 ⊕ String} {v rf : Int32} {w1 : (Nat → Nat) → va_W} {rm : Room} {mc ms : Nat} (hrc : rm.cells = mc) (hrs : rm.slots = ms)
    (hM : vMi l yX6_restore wsX6_restore rm D cc [.ref ax, .int p1] ((o, .inl (cc 3, 1, .inr (.inl g))) :: (ax, .inr (6, fs)) :: w0) B (fun q => (o, .inl (cc 3, 1, .inr (.inl g))) :: w1 q) mc ms) (hA : aR [xIO, xIS] B v rf) :
    lMi l yL_restore wsL_restore (rmL rm) D cc [.ref ax, .int p1, .ref o] ((o, .inl (cc 3, 1, .inr (.inl g))) :: (ax, .inr (6, fs)) :: w0) rf (fun q => (o, .inl (cc 3, 1, .inr (.inl (outG g B)))) :: w1 q) mc ms := by
  intro sz
  refine lstart (bc := cL_restore) (maxL := 4) (ret := (some .int)) (by decide) rfl (Nat.le_of_ble_eq_true rfl) ?_
  intro p e s m args below meth c A hsz hAe F hK hN hX hCc hT hP hD hS ls hl
  have hx := F.1.1
  have hb := F.1.2.1
  have hml := F.1.2.2.1
  have hown := F.1.2.2.2.1
  have hts := F.1.2.2.2.2
  have hl : lv_has ls 4 [(0, .ref ax), (1, .int p1), (2, .ref o)] := hl
  have hAA : ∀ q, va_A ((o, .inl (cc 3, 1, .inr (.inl g))) :: (ax, .inr (6, fs)) :: w0) s.heap.size q → A q := fun q h => by rw [hAe, ← hsz]; exact h
  refine lv_aload_n hx hb dL_restore_0 rfl (lv_at hl 2 rfl) ?_
  refine lv_iconst (v := (0 : Int32)) hx hb dL_restore_1 (by decide) ?_
  refine lv_aload_n hx hb dL_restore_2 rfl (lv_at hl 0 rfl) ?_
  refine lv_iload_n hx hb dL_restore_3 rfl (lv_at hl 1 rfl) ?_
  refine vx_calli (vx_runV (As := [.int p1]) (rest := [.int (0 : Int32), .ref o]) F.1 (hM s.heap.size) (cwV 1 hts gL_restore_X6_restore rfl hrc hrs (by decide +kernel) ⟨Nat.le_refl _, by show _ + rm.locals ≤ rm.locals + 40; omega⟩) ⟨xPx.blind, va_recv hK hP (q0 := 1) rfl rfl, lpre hK hN hX hP hD hS hAA⟩ rfl rfl hl.1 rfl (lv_room (Nat.le_of_ble_eq_true rfl)) dL_restore_4 ⟨by show 0 + mc ≤ rm.cells; omega, by show 0 + ms ≤ rm.slots; omega⟩) hS (fun q _ h => hAA q h) hAA (fun q _ h => hAA q h) ?_ ?_
  · intro E ce q9 u t H1 locs1 ht hvm _ hEB _ _ hS1 hce hcv hcl
    obtain ⟨hE, q, hP1, -, hD1⟩ := hEB
    rw [ht] at hP1
    have hD1 : va_D A _ := hD1.weaken (fun _ q _ h => hAA q.1 h)
    subst hE
    rcases hA with ⟨z, h1, -, -⟩ | ⟨i, s0, hi, h1, h2⟩
    · cases h1
    · cases h1
      rcases i with _ | i
      · cases hi
        refine vx_catch (own := RL) (name := xIO) hown [] (⟨0, 9, 12, 27⟩ : ExceptionTableEntry) [(⟨0, 9, 15, 15⟩ : ExceptionTableEntry)] (hT.trans rfl) (fun z hz => by cases hz) rfl (by decide) (hts _ (by decide +kernel)) (va_Nw.use rfl (hX.2.2.2 _ (by decide))) hce hcv hcl ?_
        refine lv_astore_n (lv' := [(3, .ref q9), (0, .ref ax), (1, .int p1), (2, .ref o)]) hx hb dL_restore_12 rfl hl (by decide) rfl (fun ls hl => ?_)
        refine lv_iconst (v := (1 : Int32)) hx hb dL_restore_13 (by decide) ?_
        exact xendi (ret := none) F hsz hAe hK hP1 hD1 hS1 q rfl h2.symm (by omega) (by omega) dL_restore_14
      · rcases i with _ | i
        · cases hi
          refine vx_catch (own := RL) (name := xIS) hown [(⟨0, 9, 12, 27⟩ : ExceptionTableEntry)] (⟨0, 9, 15, 15⟩ : ExceptionTableEntry) [] (hT.trans rfl) (fun z hz => by
            rcases List.mem_cons.mp hz with rfl | hz
            · exact Or.inr ⟨by decide, xIO, hts _ (by decide +kernel), hCc.2.2⟩
            · cases hz) rfl (by decide) (hts _ (by decide +kernel)) (va_Nw.use rfl (hX.2.2.2 _ (by decide))) hce hcv hcl ?_
          refine lv_astore_n (lv' := [(3, .ref q9), (0, .ref ax), (1, .int p1), (2, .ref o)]) hx hb dL_restore_15 rfl hl (by decide) rfl (fun ls hl => ?_)
          refine lv_iconst (v := (2 : Int32)) hx hb dL_restore_16 (by decide) ?_
          exact xendi (ret := none) F hsz hAe hK hP1 hD1 hS1 q rfl h2.symm (by omega) (by omega) dL_restore_17
        · cases hi
  · intro r u t H1 locs1 ht hvm hr hB _ _ hS1
    obtain ⟨q, hP1, -, hD1⟩ := hB
    rw [ht] at hP1
    have hD1 : va_D A _ := hD1.weaken (fun _ q _ h => hAA q.1 h)
    subst hr
    have hrf : rf = 0 := by
      rcases hA with ⟨z, -, h2, -⟩ | ⟨i, s0, hi, h1, -⟩
      · exact h2
      · cases h1
    refine lv_i2l (v := r.toInt64) hx hb dL_restore_7 rfl ?_
    refine va_last hx hb hK hP1 hD1 hS1 (q0 := 0) (t0 := 3) rfl rfl (pk_in 0 1 (by decide)) dL_restore_8 (fun H2 locs2 hP2 hD2 hS2 => ?_)
    refine lv_goto (tgt := 18) hx hb dL_restore_9 (by decide) ?_
    refine lv_iconst (v := (0 : Int32)) hx hb dL_restore_18 (by decide) ?_
    exact xendi (ret := none) F hsz hAe hK hP2 hD2 hS2 q rfl hrf.symm (by omega) (by omega) dL_restore_19
end XWRAP
