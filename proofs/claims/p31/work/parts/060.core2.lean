/-! WHAT THROWS: contracts of methods that return or throw -/
section XTHROW
abbrev xNm : List String := ["java/lang/RuntimeException", "java/lang/Exception"]
abbrev xAt (ic : Nat) (E : String) : List Cond := vx_atS RX6 ic E xNm
abbrev xIA : String := "java/lang/IllegalArgumentException"
abbrev xIS : String := "java/lang/IllegalStateException"
abbrev xIO : String := "java/lang/IndexOutOfBoundsException"
/-- the texts of the exceptions, by their constants -/
def xStrs : List (Nat × String) := [(51, "the character code is not 0 to 255"), (62, "the text already has 100 characters"), (98, "what is not 0 to 7"), (100, "the index of a sign is negative"), (112, "there is no such sample"), (118, "what is not 0 to 3"), (123, "the name is not 0 to 9"), (125, "what is not 0 to 2"), (136, "x or y is not 0 to 60"), (146, "the figure does not take this point"), (157, "the text is not a figure"), (169, "the figure of the text has more than 40 signs"), (174, "the figure at hand can't be learned by this name"), (183, "the figure at hand has no strokes"), (188, "there is no such setting or it can't be v"), (193, "a figure would have more than 40 signs"), (199, "no state is remembered"), (223, "there are not so many samples"), (242, "the number of commands is not 1 to 3"), (248, "the script is negative or has too many digits"), (255, "the number of turns is not 1 to 99"), (264, "there is no such save slot"), (274, "nothing has been saved in the slot")]
/-- the words of a throw that a list of words may not hold -/
def xBad : List Cond := [.castable xIA xIA, .castable xIS xIS, .castable xIO xIO, .declares (Bundle.initS "java/lang/RuntimeException"), .declares (Bundle.initS "java/lang/Exception"), .declares (Bundle.initS Bundle.tN)]
theorem xBad_is : ∀ w ∈ xBad, (∃ C T : String, w = .castable C T) ∨ ∃ x : MethodName, w = .declares x := by
  intro w hw
  simp only [xBad, List.mem_cons, List.not_mem_nil, or_false] at hw
  rcases hw with h | h | h | h | h | h
  · exact Or.inl ⟨_, _, h⟩
  · exact Or.inl ⟨_, _, h⟩
  · exact Or.inl ⟨_, _, h⟩
  · exact Or.inr ⟨_, h⟩
  · exact Or.inr ⟨_, h⟩
  · exact Or.inr ⟨_, h⟩
/-- what a throw needs of the machine beside the words -/
def xX (A : Nat → Prop) (U : State) (H : Heap) : Prop := vx_Zq Bundle.tN "UNASSIGNED_STACK" Bundle.steD A U H ∧ vx_Zq Bundle.tN "SUPPRESSED_SENTINEL" Bundle.listD A U H ∧ (∀ q ∈ xStrs, ∃ sa : Nat, vk_R RX6 q.1 q.2 sa U) ∧ ∀ w ∈ xBad, va_Nw w U
theorem xX.warm {A B : Nat → Prop} {s U : State} {H0 H : Heap} {A0 : Nat → Prop} {locs : List Loc} (h : xX A0 s H0) (hW : s.WarmedH U.vm) (hS : va_S A0 H0 H locs) (hAB : ∀ q, B q → A0 q) : xX B U H := by
  obtain ⟨h1, h2, h3, h4⟩ := h
  refine ⟨((h1.kept (fun a q n => hS.2.1 a q n)).narrow hAB).moved hW.alike, ((h2.kept (fun a q n => hS.2.1 a q n)).narrow hAB).moved hW.alike, fun q hq => ?_, fun w hw => ?_⟩
  · obtain ⟨sa, h⟩ := h3 q hq
    exact ⟨sa, vk_R.warm hW h⟩
  · rcases xBad_is w hw with ⟨C, T, rfl⟩ | ⟨x, rfl⟩
    · exact va_Nw.warmC hW (h4 _ hw)
    · exact va_Nw.warmD hW (h4 _ hw)
theorem xX.calling {A : Nat → Prop} {U : State} {H : Heap} (a : Array Value) (g : JFrame) (mk : MethodId) (h : xX A U H) : xX A (U.calling g mk a) H := by
  obtain ⟨h1, h2, h3, h4⟩ := h
  refine ⟨h1.moved (U := U.calling g mk a) (Vm.Alike.refl U.vm), h2.moved (U := U.calling g mk a) (Vm.Alike.refl U.vm), fun q hq => ?_, fun w hw => ?_⟩
  · obtain ⟨sa, h⟩ := h3 q hq
    exact ⟨sa, vk_R.same (u := U) (U := U.calling g mk a) rfl h⟩
  · rcases xBad_is w hw with ⟨C, T, rfl⟩ | ⟨x, rfl⟩
    · exact va_Nw.same (u := U) (U := U.calling g mk a) rfl rfl (h4 _ hw)
    · exact va_Nw.same (u := U) (U := U.calling g mk a) rfl rfl (h4 _ hw)
def xPx (D : va_G) (cc : Nat → ClassId) (ws : va_W) (sz : Nat) (U : State) : Prop := xP D cc ws sz U ∧ xX (va_A ws sz) U U.heap
theorem xPx.blind {D : va_G} {cc : Nat → ClassId} {ws : va_W} {sz : Nat} {av : List Value} : FrameBlind (va_Pc av (xPx D cc ws sz)) := fun a U g mk q => by
  obtain ⟨q0, q1, q2⟩ := q
  have h := xP.blind (av := av) a U g mk ⟨q0, q1⟩
  exact ⟨q0, h.2, xX.calling a g mk q2⟩
/-- a method that answers an int, or throws: o says which -/
def vMi (l : Launch) (y : MethodName) (wy : List Cond) (rm : Room) (D : va_G) (cc : Nat → ClassId) (av : List Value) (wc : va_W) (o : Int32 ⊕ String) (w1 : (Nat → Nat) → va_W) (mc ms : Nat) : Prop := ∀ sz : Nat, vx_Met l y wy rm (va_Pc av (xPx D cc wc sz)) (va_Qi (fun r (_ : Unit) => o = .inl r) (xB D cc wc sz w1) (va_A wc sz)) (vx_X (fun _ : Unit => True) (fun E u t => o = .inr E ∧ xB D cc wc sz w1 u t) (va_A wc sz)) mc ms (va_A wc sz)
theorem xvstart {l : Launch} {y : MethodName} {wy ws' : List Cond} {rm : Room} {D : va_G} {cc : Nat → ClassId} {av : List Value} {wc : va_W} {sz : Nat} {Qc : Array Value → State → Outcome → State → Prop} {XC : String → State → State → Prop} {mc ms : Nat} {bc : ByteArray} {maxL : Nat} {ret : Option FieldType}
    (hy : plainName y.cls = true) (hw : wy = Cond.code y bc maxL ret :: ws') (hav : (lg_sl av).length ≤ maxL)
    (body : ∀ (p : Program) (e : Env) (s : State) (m : MethodId) (args : Array Value) (below : List Frame) (meth : Method) (c : Code) (A : Nat → Prop), args = av.toArray → s.heap.size = sz → A = va_A wc sz → xFix p m c bc maxL s args wy y.cls meth ret → va_K D vwCl (xTy cc) s → xN s → (∀ q : Nat, s.heap.size ≤ q → A q) → (∀ x ∈ c.exceptionTable.toList, False) → xX A s s.heap → va_P D vwCl wc s.heap → va_D A wc → va_S A s.heap s.heap [] → ∀ ls : Array Slot, lv_has ls maxL (lv_args 0 av) →
      W p l e rm s m args below meth c s.heap [] 0 0 (vx_MQ below Qc XC args s mc ms A) (F0 m 0 ls [])) : vx_Met l y wy rm (va_Pc av (xPx D cc wc sz)) Qc XC mc ms (va_A wc sz) := by
  refine vx_ofW (cc := bc) (maxL := maxL) (ret := ret) hy hw ?_
  intro p e s m args below meth c s₁ B hml hex hv
  obtain ⟨rfl, ⟨hsz, hP, hK, hD0, hN⟩, hX⟩ := hv
  have hts := atoms_spec (ws := wy) B.pre
  have hl := lv_entry av hav
  rw [lg_entry_eq]
  refine body p e s m _ below meth c (va_A wc sz) rfl hsz rfl ⟨⟨B.exec, B.bytes, hml, findClass_of_methodNamed B.named, hts⟩, B.returns, B.notSynchronized⟩ hK hN (fun q h => Or.inr (by omega)) hex hX hP hD0.self va_S.rf _ hl
section XE2
variable {p : Program} {l : Launch} {e : Env} {R : Room} {s : State} {m : MethodId} {args : Array Value} {below : List Frame} {meth : Method} {c : Code} {H : Heap} {locs : List Loc} {cells slots : Nat} {bc : ByteArray} {maxL : Nat} {Ts : List Cond} {own : String} {D : va_G} {cc : Nat → ClassId} {wc : va_W} {sz mc ms pc : Nat} {A : Nat → Prop} {w1 : (Nat → Nat) → va_W} {ls : Array Slot} {w9 : va_W}
theorem xvendi {v : Int32} {o : Int32 ⊕ String} {XC : String → State → State → Prop} (F : xFix p m c bc maxL s args Ts own meth (some .int)) (hsz : s.heap.size = sz) (hAe : A = va_A wc sz) (hK : va_K D vwCl (xTy cc) s) (hP : va_P D vwCl w9 H) (hD : va_D A w9) (hS : va_S A s.heap H locs) (q : Nat → Nat) (h9 : w1 q = w9) (ho : o = .inl v) (hmc : cells ≤ mc) (hms : slots ≤ ms) (hdg : decode bc pc = .ok (.ireturn, 1)) :
    W p l e R s m args below meth c H locs cells slots (vx_MQ below (va_Qi (fun r (_ : Unit) => o = .inl r) (xB D cc wc sz w1) (va_A wc sz)) XC args s mc ms A) (F0 m pc ls [.int v]) := by
  obtain ⟨⟨hx, hb, -, -, -⟩, hr, hlk⟩ := F
  subst hAe; subst h9
  refine vx_ret (W.widen hmc hms ?_)
  exact W.iret hx hb hr (fun t ht hW => ⟨⟨v, (), rfl, ho, q, by rw [ht]; exact hP, va_K.moved hW.alike hK, hD⟩, hS.F ht⟩) hS.2.2 hdg hlk
theorem xAt_good : (∀ w ∈ xAt 53 xIA, vx_ot w = true) ∧ (∀ w ∈ xAt 64 xIS, vx_ot w = true) ∧ (∀ w ∈ xAt 114 xIO, vx_ot w = true) := by
  refine ⟨?_, ?_, ?_⟩ <;> decide +kernel
theorem xAt_bad : (∀ w ∈ (xAt 53 xIA).filter (fun w => !goodWord w), w ∈ xBad) ∧ (∀ w ∈ (xAt 64 xIS).filter (fun w => !goodWord w), w ∈ xBad) ∧ (∀ w ∈ (xAt 114 xIO).filter (fun w => !goodWord w), w ∈ xBad) := by
  refine ⟨?_, ?_, ?_⟩ <;> decide +kernel
theorem xFit : (Bundle.fit xIA = true ∧ ∀ n ∈ xNm, Bundle.fit n = true) ∧ (Bundle.fit xIS = true ∧ ∀ n ∈ xNm, Bundle.fit n = true) ∧ (Bundle.fit xIO = true ∧ ∀ n ∈ xNm, Bundle.fit n = true) := by
  refine ⟨?_, ?_, ?_⟩ <;> decide +kernel
/-- the throw itself: new E("text"), thrown out of the method -/
theorem xvthrow {v : Int32 ⊕ String} {E text : String} {ik is ic : Nat} {rest : List Value} {lv9 : List (Nat × Value)} {Qc : Array Value → State → Outcome → State → Prop} {ret : Option FieldType} (F : xFix p m c bc maxL s args Ts RX6 meth ret) (hst : l.stackTraces = false) (hex : ∀ x ∈ c.exceptionTable.toList, False) (hX : xX A s s.heap) (hsz : s.heap.size = sz) (hAe : A = va_A wc sz) (hK : va_K D vwCl (xTy cc) s) (hP : va_P D vwCl w9 H) (hD : va_D A w9) (hS : va_S A s.heap H locs) (hl : lv_has ls maxL lv9)
    (hgood : ∀ w ∈ (xAt ic E).filter goodWord, w.before args s = true) (hot : ∀ w ∈ xAt ic E, vx_ot w = true) (hbad : ∀ w ∈ (xAt ic E).filter (fun w => !goodWord w), w ∈ xBad) (hfit : Bundle.fit E = true ∧ ∀ n ∈ xNm, Bundle.fit n = true)
    (hstr : (is, text) ∈ xStrs) (hk : (Cond.classLink RX6 ik E).before args s = true) (hini : (Cond.initialized E).before args s = true)
    (q : Nat → Nat) (h9 : w1 q = w9) (ho : v = .inr E)
    (d0 : decode bc pc = .ok (.new ik, 3)) (d3 : decode bc (pc + 3) = .ok (.dup, 1)) (d4 : decode bc (pc + 4) = .ok (.ldc is, 2)) (d6 : decode bc (pc + 6) = .ok (.invokespecial ic, 3)) (d9 : decode bc (pc + 9) = .ok (.athrow, 1))
    (hRf : 5 < R.frames) (hRl : (rest.map fun v => v.category).sum + 82 ≤ R.locals) (hRc : cells + 1 ≤ R.cells) (hRs : slots + 6 ≤ R.slots) (hmc : cells + 1 ≤ mc) (hms : slots + 6 ≤ ms) :
    W p l e R s m args below meth c H locs cells slots (vx_MQ below Qc (vx_X (fun _ : Unit => True) (fun E u t => v = .inr E ∧ xB D cc wc sz w1 u t) (va_A wc sz)) args s mc ms A) (F0 m pc ls rest) := by
  obtain ⟨⟨hx, hb, hml, hown, -⟩, -, hlk⟩ := F
  obtain ⟨hU, hN2, hstrs, hbw⟩ := hX
  obtain ⟨sa, hsa⟩ := hstrs _ hstr
  subst hAe; subst h9
  have hat : ∀ w ∈ xAt ic E, w.before args s = true := vx_hat hgood (fun w hw => hw) (fun w hw => by
    have hz := hbad w hw
    rcases xBad_is w hz with ⟨C, T, rfl⟩ | ⟨x, rfl⟩
    · exact va_Nw.use rfl (hbw _ hz)
    · exact va_Nw.use rfl (hbw _ hz))
  refine vx_throwS hx hb hst (own := RX6) (names := xNm) (A := va_A wc sz) hown hfit.1 hfit.2 hk hini hsa hat ?_ hU hN2 hS (by rw [hl.1, hml]) d0 d3 d4 d6 d9 (fun x hx9 => (hex x hx9).elim) hRf hRl hRc hRs hlk ?_ hS.2.2 hmc hms
  · intro w hw
    rcases List.mem_cons.mp hw with rfl | hw
    · rfl
    · rcases List.mem_cons.mp hw with rfl | hw
      · rfl
      · exact hot w hw
  · intro t hvm hz hq
    refine ⟨(), trivial, ⟨ho, q, hP.kept (fun k x hx9 => hq x.1 (hP k x hx9).lt), va_K.moved hvm hK, hD⟩, Nat.le_trans hS.1 hz, fun a h1 h2 => ?_⟩
    rw [hq a (Nat.lt_of_lt_of_le h1 hS.1)]
    exact hS.2.1 a h1 h2
/-- the throw itself: new E("text"), thrown out of the method -/
theorem xvthrowW {v : Int32 ⊕ String} {E text : String} {ik is ic : Nat} {rest : List Value} {lv9 : List (Nat × Value)} {Qc : Array Value → State → Outcome → State → Prop} {ret : Option FieldType} (F : xFix p m c bc maxL s args Ts RX6 meth ret) (hst : l.stackTraces = false) (hex : ∀ x ∈ c.exceptionTable.toList, False) (hX : xX A s s.heap) (hsz : s.heap.size = sz) (hAe : A = va_A wc sz) (hK : va_K D vwCl (xTy cc) s) (hP : va_P D vwCl w9 H) (hD : va_D A w9) (hS : va_S A s.heap H locs) (hl : lv_has ls maxL lv9)
    (hgood : ∀ w ∈ (xAt ic E).filter goodWord, w.before args s = true) (hot : ∀ w ∈ xAt ic E, vx_ot w = true) (hbad : ∀ w ∈ (xAt ic E).filter (fun w => !goodWord w), w ∈ xBad) (hfit : Bundle.fit E = true ∧ ∀ n ∈ xNm, Bundle.fit n = true)
    (hstr : (is, text) ∈ xStrs) (hk : (Cond.classLink RX6 ik E).before args s = true) (hini : (Cond.initialized E).before args s = true)
    (q : Nat → Nat) (h9 : w1 q = w9) (ho : v = .inr E)
    (d0 : decode bc pc = .ok (.new ik, 3)) (d3 : decode bc (pc + 3) = .ok (.dup, 1)) (d4 : decode bc (pc + 4) = .ok (.ldc_w is, 3)) (d6 : decode bc (pc + 7) = .ok (.invokespecial ic, 3)) (d9 : decode bc (pc + 10) = .ok (.athrow, 1))
    (hRf : 5 < R.frames) (hRl : (rest.map fun v => v.category).sum + 82 ≤ R.locals) (hRc : cells + 1 ≤ R.cells) (hRs : slots + 6 ≤ R.slots) (hmc : cells + 1 ≤ mc) (hms : slots + 6 ≤ ms) :
    W p l e R s m args below meth c H locs cells slots (vx_MQ below Qc (vx_X (fun _ : Unit => True) (fun E u t => v = .inr E ∧ xB D cc wc sz w1 u t) (va_A wc sz)) args s mc ms A) (F0 m pc ls rest) := by
  obtain ⟨⟨hx, hb, hml, hown, -⟩, -, hlk⟩ := F
  obtain ⟨hU, hN2, hstrs, hbw⟩ := hX
  obtain ⟨sa, hsa⟩ := hstrs _ hstr
  subst hAe; subst h9
  have hat : ∀ w ∈ xAt ic E, w.before args s = true := vx_hat hgood (fun w hw => hw) (fun w hw => by
    have hz := hbad w hw
    rcases xBad_is w hz with ⟨C, T, rfl⟩ | ⟨x, rfl⟩
    · exact va_Nw.use rfl (hbw _ hz)
    · exact va_Nw.use rfl (hbw _ hz))
  refine vx_throwSW hx hb hst (own := RX6) (names := xNm) (A := va_A wc sz) hown hfit.1 hfit.2 hk hini hsa hat ?_ hU hN2 hS (by rw [hl.1, hml]) d0 d3 d4 d6 d9 (fun x hx9 => (hex x hx9).elim) hRf hRl hRc hRs hlk ?_ hS.2.2 hmc hms
  · intro w hw
    rcases List.mem_cons.mp hw with rfl | hw
    · rfl
    · rcases List.mem_cons.mp hw with rfl | hw
      · rfl
      · exact hot w hw
  · intro t hvm hz hq
    refine ⟨(), trivial, ⟨ho, q, hP.kept (fun k x hx9 => hq x.1 (hP k x hx9).lt), va_K.moved hvm hK, hD⟩, Nat.le_trans hS.1 hz, fun a h1 h2 => ?_⟩
    rw [hq a (Nat.lt_of_lt_of_le h1 hS.1)]
    exact hS.2.1 a h1 h2
end XE2
end XTHROW
