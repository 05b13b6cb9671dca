/-! GHOST 7: contracts of the law's methods over the state that is told -/
section XGKIT
/-- what the law's own catching needs: who is no kind of whom -/
def xC (U : State) : Prop := va_Nc xIS xIA U ∧ va_Nc xIA xIO U ∧ va_Nc xIS xIO U
theorem xC.calling {U : State} (a : Array Value) (g : JFrame) (mk : MethodId) (h : xC U) : xC (U.calling g mk a) := ⟨h.1.moved (U := U.calling g mk a) (Vm.Alike.refl U.vm), h.2.1.moved (U := U.calling g mk a) (Vm.Alike.refl U.vm), h.2.2.moved (U := U.calling g mk a) (Vm.Alike.refl U.vm)⟩
theorem xC.warm {s U : State} (hW : s.WarmedH U.vm) (h : xC s) : xC U := ⟨h.1.moved hW.alike, h.2.1.moved hW.alike, h.2.2.moved hW.alike⟩
def xlP (D : va_G) (cc : Nat → ClassId) (ws : va_W) (sz : Nat) (U : State) : Prop := xPx D cc ws sz U ∧ xC U
theorem xlP.blind {D : va_G} {cc : Nat → ClassId} {ws : va_W} {sz : Nat} {av : List Value} : FrameBlind (va_Pc av (xlP D cc ws sz)) := fun a U g mk q => by
  obtain ⟨q0, q1, q2⟩ := q
  have h := xPx.blind (av := av) a U g mk ⟨q0, q1⟩
  exact ⟨q0, h.2, xC.calling a g mk q2⟩
/-- an end: one of the worlds Wd -/
def xBW (D : va_G) (cc : Nat → ClassId) (wc : va_W) (sz : Nat) (Wd : va_W → Prop) (_ : Unit) (t : State) : Prop := ∃ ws' : va_W, Wd ws' ∧ va_P D vwCl ws' t.heap ∧ va_K D vwCl (xTy cc) t ∧ va_D (va_A wc sz) ws'
def gMi (l : Launch) (y : MethodName) (wy : List Cond) (rm : Room) (D : va_G) (cc : Nat → ClassId) (av : List Value) (wc : va_W) (v : Int32) (Wd : va_W → Prop) (mc ms : Nat) : Prop := ∀ sz : Nat, Met l y wy rm (va_Pc av (xlP D cc wc sz)) (va_Qi (fun r (_ : Unit) => r = v) (xBW D cc wc sz Wd) (va_A wc sz)) mc ms (va_A wc sz)
/-- the worlds of an object in the state G, beside R -/
def oWs (cc : Nat → ClassId) (a : Nat → Nat) (G : GS) (R : va_W) (ws : va_W) : Prop := ∃ (x : XV) (L : List LE), INV G x L ∧ ws = oW cc a x L R
/-- a method of the law on one object: from the state G to G', with the answer v -/
def gO (l : Launch) (y : MethodName) (wy : List Cond) (rm : Room) (D : va_G) (cc : Nat → ClassId) (a : Nat → Nat) (args : List Value) (G : GS) (v : Int32) (G' : GS) (mc ms : Nat) : Prop := ∀ (x : XV) (L : List LE) (R : va_W), INV G x L → gMi l y wy rm D cc (.ref (a 0) :: args) (oW cc a x L R) v (oWs cc a G' R) mc ms
/-- the heap holds an object in the state G, beside R -/
def HO (D : va_G) (cc : Nat → ClassId) (A : Nat → Prop) (a : Nat → Nat) (G : GS) (R : va_W) (H : Heap) : Prop := ∃ (x : XV) (L : List LE), INV G x L ∧ va_P D vwCl (oW cc a x L R) H ∧ va_D A (oW cc a x L R)
/-- what stands all along a walk of a method of the law -/
def gF (p : Program) (m : MethodId) (c : Code) (bc : ByteArray) (nL : Nat) (s : State) (args : Array Value) (Ts : List Cond) (meth : Method) (ret : Option FieldType) (D : va_G) (cc : Nat → ClassId) (A : Nat → Prop) : Prop := xFix p m c bc nL s args Ts RL meth ret ∧ va_K D vwCl (xTy cc) s ∧ xN s ∧ xX A s s.heap ∧ xC s ∧ ∀ q : Nat, s.heap.size ≤ q → A q
theorem glstart {l : Launch} {y : MethodName} {wy ws' : List Cond} {rm : Room} {D : va_G} {cc : Nat → ClassId} {av : List Value} {wc : va_W} {v : Int32} {Wd : va_W → Prop} {mc ms : Nat} {bc : ByteArray} {maxL : Nat} {ret : Option FieldType}
    (hy : plainName y.cls = true) (hcl : y.cls = RL) (hw : wy = Cond.code y bc maxL ret :: ws') (hav : (lg_sl av).length ≤ maxL)
    (body : ∀ (p : Program) (e : Env) (s : State) (m : MethodId) (below : List Frame) (meth : Method) (c : Code) (A : Nat → Prop), A = va_A wc s.heap.size → gF p m c bc maxL s av.toArray wy meth ret D cc A → va_P D vwCl wc s.heap → va_D A wc → va_S A s.heap s.heap [] → ∀ ls : Array Slot, lv_has ls maxL (lv_args 0 av) →
      W p l e rm s m av.toArray below meth c s.heap [] 0 0 (MQ below (va_Qi (fun r (_ : Unit) => r = v) (xBW D cc wc s.heap.size Wd) (va_A wc s.heap.size)) av.toArray s mc ms A) (F0 m 0 ls [])) : gMi l y wy rm D cc av wc v Wd mc ms := by
  intro sz
  refine Met.ofW (cc := bc) (maxL := maxL) (ret := ret) hy hw ?_
  intro p e s m args below meth c s₁ B hml hv
  obtain ⟨rfl, ⟨⟨rfl, hP, hK, hD0, hN⟩, hX⟩, hCc⟩ := hv
  have hts := atoms_spec (ws := wy) B.pre
  have hl := lv_entry av hav
  rw [lg_entry_eq]
  have hown := findClass_of_methodNamed B.named
  rw [hcl] at hown
  exact body p e s m below meth c (va_A wc s.heap.size) rfl ⟨⟨⟨B.exec, B.bytes, hml, hown, hts⟩, B.returns, B.notSynchronized⟩, hK, hN, hX, hCc, fun q h => Or.inr h⟩ hP hD0.self va_S.rf _ hl
theorem glstartW {l : Launch} {y : MethodName} {wy ws' : List Cond} {rm : Room} {D : va_G} {cc : Nat → ClassId} {av : List Value} {wc : va_W} {v : Int32} {Wd : va_W → Prop} {mc ms : Nat} {bc : ByteArray} {maxL : Nat} {ret : Option FieldType} {hh : List (Nat × Nat × Nat × Nat)}
    (hy : plainName y.cls = true) (hcl : y.cls = RL) (hw : wy = Cond.codeWith y bc maxL ret hh :: ws') (hav : (lg_sl av).length ≤ maxL)
    (body : ∀ (p : Program) (e : Env) (s : State) (m : MethodId) (below : List Frame) (meth : Method) (c : Code) (A : Nat → Prop), A = va_A wc s.heap.size → gF p m c bc maxL s av.toArray wy meth ret D cc A → c.exceptionTable.toList = tableOf hh → va_P D vwCl wc s.heap → va_D A wc → va_S A s.heap s.heap [] → ∀ ls : Array Slot, lv_has ls maxL (lv_args 0 av) →
      W p l e rm s m av.toArray below meth c s.heap [] 0 0 (MQ below (va_Qi (fun r (_ : Unit) => r = v) (xBW D cc wc s.heap.size Wd) (va_A wc s.heap.size)) av.toArray s mc ms A) (F0 m 0 ls [])) : gMi l y wy rm D cc av wc v Wd mc ms := by
  intro sz
  refine va_MetW (cc := bc) (maxL := maxL) (ret := ret) (hh := hh) hy hw ?_
  intro p e s m args below meth c s₁ B hml hv
  obtain ⟨rfl, ⟨⟨rfl, hP, hK, hD0, hN⟩, hX⟩, hCc⟩ := hv
  have hts := atoms_spec (ws := wy) B.pre
  have hl := lv_entry av hav
  rw [lg_entry_eq]
  have hown := findClass_of_methodNamed B.named
  rw [hcl] at hown
  refine body p e s m below meth c (va_A wc s.heap.size) rfl ⟨⟨⟨B.exec, B.bytes, hml, hown, hts⟩, B.returns, B.notSynchronized⟩, hK, hN, hX, hCc, fun q h => Or.inr h⟩ ?_ hP hD0.self va_S.rf _ hl
  exact vx_table (x := y) B (hts _ (by rw [hw]; exact List.mem_cons_self))
variable {p : Program} {l : Launch} {e : Env} {R : Room} {s : State} {m : MethodId} {args : Array Value} {below : List Frame} {meth : Method} {c : Code} {H : Heap} {locs : List Loc} {cells slots : Nat} {Q : State → Prop} {bc : ByteArray} {maxL0 : Nat} {Ts : List Cond} {ret : Option FieldType} {D : va_G} {cc : Nat → ClassId} {A : Nat → Prop}
theorem gF.into {ws : va_W} (F : gF p m c bc maxL0 s args Ts meth ret D cc A) (hD : va_D A ws) (hS : va_S A s.heap H locs) : ∀ q, va_A ws H.size q → A q := fun q h => by
  rcases h with ⟨k, e, h⟩ | h
  · exact hD.2 k _ h
  · exact F.2.2.2.2.2 q (Nat.le_trans hS.1 h)
theorem gF.pre {ws : va_W} {av : List Value} (F : gF p m c bc maxL0 s args Ts meth ret D cc A) (hP : va_P D vwCl ws H) (hD : va_D A ws) (hS : va_S A s.heap H locs) : ∀ U : State, U.heap = H → s.WarmedH U.vm → va_Pc av (xlP D cc ws H.size) av.toArray U := fun U hU hW => by
  subst hU
  exact ⟨rfl, ⟨⟨rfl, hP, va_K.moved hW.alike F.2.1, hD.weaken (fun _ _ _ _ => trivial), F.2.2.1.warm hW⟩, xX.warm (A := A) F.2.2.2.1 hW hS (F.into hD hS)⟩, F.2.2.2.2.1.warm hW⟩
theorem gF.preX {ws : va_W} {av : List Value} (F : gF p m c bc maxL0 s args Ts meth ret D cc A) (hP : va_P D vwCl ws H) (hD : va_D A ws) (hS : va_S A s.heap H locs) : ∀ U : State, U.heap = H → s.WarmedH U.vm → va_Pc av (xPx D cc ws H.size) av.toArray U := fun U hU hW => by
  have h := F.pre (av := av) hP hD hS U hU hW
  exact ⟨h.1, h.2.1⟩
theorem gF.pre0 {ws : va_W} {av : List Value} (F : gF p m c bc maxL0 s args Ts meth ret D cc A) (hP : va_P D vwCl ws H) (hD : va_D A ws) (hS : va_S A s.heap H locs) : ∀ U : State, U.heap = H → s.WarmedH U.vm → va_Pc av (xP D cc ws H.size) av.toArray U := fun U hU hW => by
  have h := F.pre (av := av) hP hD hS U hU hW
  exact ⟨h.1, h.2.1.1⟩
/-- the end of a method that answers an int -/
theorem gendi {wc : va_W} {Wd : va_W → Prop} {v0 v : Int32} {mc ms pc : Nat} {ls : Array Slot} {ws' : va_W} (F : gF p m c bc maxL0 s args Ts meth (some .int) D cc A) (hAe : A = va_A wc s.heap.size) (hP : va_P D vwCl ws' H) (hD : va_D A ws') (hWd : Wd ws') (hS : va_S A s.heap H locs) (hv : v = v0) (hmc : cells ≤ mc) (hms : slots ≤ ms) (hdg : decode bc pc = .ok (.ireturn, 1)) :
    W p l e R s m args below meth c H locs cells slots (MQ below (va_Qi (fun r (_ : Unit) => r = v0) (xBW D cc wc s.heap.size Wd) (va_A wc s.heap.size)) args s mc ms A) (F0 m pc ls [.int v]) := by
  obtain ⟨⟨⟨hx, hb, -, -, -⟩, hr, hlk⟩, hK, -⟩ := F
  subst hAe; subst hv
  refine W.widen hmc hms ?_
  exact W.iret hx hb hr (fun t ht hW => ⟨⟨v, (), rfl, rfl, ws', hWd, by rw [ht]; exact hP, va_K.moved hW.alike hK, hD⟩, hS.F ht⟩) hS.2.2 hdg hlk
theorem gendz {wc : va_W} {Wd : va_W → Prop} {v0 v : Int32} {mc ms pc : Nat} {ls : Array Slot} {ws' : va_W} (F : gF p m c bc maxL0 s args Ts meth (some .boolean) D cc A) (hn : v &&& 1 = v) (hAe : A = va_A wc s.heap.size) (hP : va_P D vwCl ws' H) (hD : va_D A ws') (hWd : Wd ws') (hS : va_S A s.heap H locs) (hv : v = v0) (hmc : cells ≤ mc) (hms : slots ≤ ms) (hdg : decode bc pc = .ok (.ireturn, 1)) :
    W p l e R s m args below meth c H locs cells slots (MQ below (va_Qi (fun r (_ : Unit) => r = v0) (xBW D cc wc s.heap.size Wd) (va_A wc s.heap.size)) args s mc ms A) (F0 m pc ls [.int v]) := by
  obtain ⟨⟨⟨hx, hb, -, -, -⟩, hr, hlk⟩, hK, -⟩ := F
  subst hAe; subst hv
  refine W.widen hmc hms ?_
  exact W.zret hx hb hr (congrArg Value.int hn) (fun t ht hW => ⟨⟨v, (), rfl, rfl, ws', hWd, by rw [ht]; exact hP, va_K.moved hW.alike hK, hD⟩, hS.F ht⟩) hS.2.2 hdg hlk
theorem gHO.endi {wc : va_W} {a : Nat → Nat} {G : GS} {Rw : va_W} {v0 v : Int32} {mc ms pc : Nat} {ls : Array Slot} (F : gF p m c bc maxL0 s args Ts meth (some .int) D cc A) (hAe : A = va_A wc s.heap.size) (hO : HO D cc A a G Rw H) (hS : va_S A s.heap H locs) (hv : v = v0) (hmc : cells ≤ mc) (hms : slots ≤ ms) (hdg : decode bc pc = .ok (.ireturn, 1)) :
    W p l e R s m args below meth c H locs cells slots (MQ below (va_Qi (fun r (_ : Unit) => r = v0) (xBW D cc wc s.heap.size (oWs cc a G Rw)) (va_A wc s.heap.size)) args s mc ms A) (F0 m pc ls [.int v]) := by
  obtain ⟨x, L, hI, hP, hD⟩ := hO
  exact gendi F hAe hP hD ⟨x, L, hI, rfl⟩ hS hv hmc hms hdg
theorem gHO.endz {wc : va_W} {a : Nat → Nat} {G : GS} {Rw : va_W} {v0 v : Int32} {mc ms pc : Nat} {ls : Array Slot} (F : gF p m c bc maxL0 s args Ts meth (some .boolean) D cc A) (hn : v &&& 1 = v) (hAe : A = va_A wc s.heap.size) (hO : HO D cc A a G Rw H) (hS : va_S A s.heap H locs) (hv : v = v0) (hmc : cells ≤ mc) (hms : slots ≤ ms) (hdg : decode bc pc = .ok (.ireturn, 1)) :
    W p l e R s m args below meth c H locs cells slots (MQ below (va_Qi (fun r (_ : Unit) => r = v0) (xBW D cc wc s.heap.size (oWs cc a G Rw)) (va_A wc s.heap.size)) args s mc ms A) (F0 m pc ls [.int v]) := by
  obtain ⟨x, L, hI, hP, hD⟩ := hO
  exact gendz F hn hAe hP hD ⟨x, L, hI, rfl⟩ hS hv hmc hms hdg
section STEPS
variable {a : Nat → Nat} {G G' : GS} {Rw : va_W} {v : Int32} {y : MethodName} {wy : List Cond} {rm : Room} {mc ms n index maxL pc : Nat} {bytes : ByteArray} {hh : List (Nat × Nat × Nat × Nat)} {ry : Option FieldType} {rest st0 As : List Value} {ls : Array Slot} {lv9 : List (Nat × Value)}
/-- a call of a method of the law -/
theorem gstepS (F : gF p m c bc maxL0 s args Ts meth ret D cc A) (hM : gO l y wy rm D cc a As G v G' mc ms) (cw : CallB R s args RL index y bytes maxL ry wy rm mc ms n ∧ (Cond.static y).before args s = true) (hO : HO D cc A a G Rw H) (hS : va_S A s.heap H locs) (hl : lv_has ls maxL0 lv9) (hn : (Value.ref (a 0) :: As).length = n) (hst : st0 = (Value.ref (a 0) :: As).reverse ++ rest) (hW : (rest.map fun v => v.category).sum ≤ 8) (hdg : decode bc pc = .ok (.invokestatic index, 3)) (hf : cells + mc ≤ R.cells ∧ slots + ms ≤ R.slots)
    (kk : ∀ (H1 : Heap) (locs1 : List Loc), HO D cc A a G' Rw H1 → va_S A s.heap H1 locs1 → W p l e R s m args below meth c H1 locs1 (cells + mc) (slots + ms) Q (F0 m (pc + 3) ls (.int v :: rest))) : W p l e R s m args below meth c H locs cells slots Q (F0 m pc ls st0) := by
  obtain ⟨x, L, hI, hP, hD⟩ := hO
  have hF := F.into hD hS
  refine va_calli (va_runS F.1.1 (hM x L Rw hI H.size) cw ⟨xlP.blind, F.pre hP hD hS⟩ rfl hn hl.1 hst (lv_room hW) hdg hf) hS (fun q _ h => hF q h) hF (fun r u t H1 locs1 ht hvm hw hB hz1 hk1 hS1 => ?_)
  obtain ⟨ws', ⟨x', L', hI', rfl⟩, hP1, -, hD1⟩ := hB
  rw [ht] at hP1
  rw [hw]
  exact kk H1 locs1 ⟨x', L', hI', hP1, hD1.weaken (fun _ q _ h => hF q.1 h)⟩ hS1
theorem gstepSW (F : gF p m c bc maxL0 s args Ts meth ret D cc A) (hM : gO l y wy rm D cc a As G v G' mc ms) (cw : vx_CSW R s args RL index y bytes maxL ry hh wy rm mc ms n) (hO : HO D cc A a G Rw H) (hS : va_S A s.heap H locs) (hl : lv_has ls maxL0 lv9) (hn : (Value.ref (a 0) :: As).length = n) (hst : st0 = (Value.ref (a 0) :: As).reverse ++ rest) (hW : (rest.map fun v => v.category).sum ≤ 8) (hdg : decode bc pc = .ok (.invokestatic index, 3)) (hf : cells + mc ≤ R.cells ∧ slots + ms ≤ R.slots)
    (kk : ∀ (H1 : Heap) (locs1 : List Loc), HO D cc A a G' Rw H1 → va_S A s.heap H1 locs1 → W p l e R s m args below meth c H1 locs1 (cells + mc) (slots + ms) Q (F0 m (pc + 3) ls (.int v :: rest))) : W p l e R s m args below meth c H locs cells slots Q (F0 m pc ls st0) := by
  obtain ⟨x, L, hI, hP, hD⟩ := hO
  have hF := F.into hD hS
  refine va_calli (vx_runSW F.1.1 (hM x L Rw hI H.size) cw ⟨xlP.blind, F.pre hP hD hS⟩ rfl hn hl.1 hst (lv_room hW) hdg hf) hS (fun q _ h => hF q h) hF (fun r u t H1 locs1 ht hvm hw hB hz1 hk1 hS1 => ?_)
  obtain ⟨ws', ⟨x', L', hI', rfl⟩, hP1, -, hD1⟩ := hB
  rw [ht] at hP1
  rw [hw]
  exact kk H1 locs1 ⟨x', L', hI', hP1, hD1.weaken (fun _ q _ h => hF q.1 h)⟩ hS1
/-- a call of the class itself that doesn't throw -/
theorem gstepV {MC MS : Nat} (F : gF p m c bc maxL0 s args Ts meth ret D cc A) (hM : gN l D cc a y wy G v G' MC MS) (cw : ∀ (rm : Room) (mc ms : Nat), rmG rm mc ms MC MS → CallW R s args RL RX6 index y bytes maxL ry wy rm mc ms 0) (hO : HO D cc A a G Rw H) (hS : va_S A s.heap H locs) (hl : lv_has ls maxL0 lv9) (hst : st0 = .ref (a 0) :: rest) (hW : (rest.map fun v => v.category).sum ≤ 8) (hdg : decode bc pc = .ok (.invokevirtual index, 3)) (hf : cells + MC ≤ R.cells ∧ slots + MS ≤ R.slots)
    (kk : ∀ (H1 : Heap) (locs1 : List Loc), HO D cc A a G' Rw H1 → va_S A s.heap H1 locs1 → W p l e R s m args below meth c H1 locs1 (cells + MC) (slots + MS) Q (F0 m (pc + 3) ls (.int v :: rest))) : W p l e R s m args below meth c H locs cells slots Q (F0 m pc ls st0) := by
  obtain ⟨x, L, hI, hP, hD⟩ := hO
  obtain ⟨L1, x', L', rm, mc, ms, tu, hM, hI', hrm⟩ := hM x L hI
  have hP := tu.P hP
  have hD := tu.D hD
  have hF := F.into hD hS
  have h1 := hrm.2.2.1
  have h2 := hrm.2.2.2.1
  refine va_calli (va_runV (As := []) F.1.1 (hM Rw H.size) (cw rm mc ms hrm) ⟨xP.blind, va_recv (q0 := 0) F.2.1 hP rfl rfl, F.pre0 hP hD hS⟩ rfl rfl hl.1 hst (lv_room hW) hdg ⟨by omega, by omega⟩) hS (fun q _ h => hF q h) hF (fun r u t H1 locs1 ht hvm hw hB hz1 hk1 hS1 => ?_)
  obtain ⟨q, hP1, -, hD1⟩ := hB
  rw [ht] at hP1
  rw [hw]
  refine W.widen (k := cells + MC) (n := slots + MS) (by omega) (by omega) ?_
  exact kk H1 locs1 ⟨x' q, L' q, hI' q, hP1, hD1.weaken (fun _ q _ h => hF q.1 h)⟩ hS1
end STEPS
/-- what a refusal is told by -/
def wv : Int32 ⊕ String → Int32
  | .inl v => v
  | .inr E => if E = xIO then -9999001 else if E = xIA then -9999002 else -9999003
theorem wv_IA : wv (.inr xIA) = -9999002 := by decide
theorem wv_IS : wv (.inr xIS) = -9999003 := by decide
theorem wv_IO : wv (.inr xIO) = -9999001 := by decide
def rmT (MC MS : Nat) : Room := { frames := 8, cells := MC, slots := MS, locals := 240 }
def rmK (MC MS : Nat) : Room := { frames := 9, cells := MC, slots := MS, locals := 280 }
end XGKIT
