/-! GHOST 11: two objects -/
section XG2
theorem gN.v {l : Launch} {D : va_G} {cc : Nat → ClassId} {a : Nat → Nat} {y : MethodName} {wy : List Cond} {G G' : GS} {v v' : Int32} {MC MS : Nat} (h : gN l D cc a y wy G v G' MC MS) (e : v = v') : gN l D cc a y wy G v' G' MC MS := by
  subst e; exact h
/-- the heap holds two objects -/
def HO2 (D : va_G) (cc : Nat → ClassId) (A : Nat → Prop) (a b : Nat → Nat) (G1 G2 : GS) (H : Heap) : Prop := ∃ (y : XV) (L2 : List LE), INV G2 y L2 ∧ HO D cc A a G1 (oW cc b y L2 []) H
theorem app5 (A B C D : va_W) : A ++ (B ++ (C ++ (D ++ []))) = ([] ++ (A ++ B)) ++ (C ++ D) := by
  rw [List.append_nil, List.nil_append, List.append_assoc]
theorem HO2.swap {D : va_G} {cc : Nat → ClassId} {A : Nat → Prop} {a b : Nat → Nat} {G1 G2 : GS} {H : Heap} (h : HO2 D cc A a b G1 G2 H) : HO2 D cc A b a G2 G1 H := by
  obtain ⟨y, L2, h2, x, L, h1, hP, hD⟩ := h
  refine ⟨x, L, h1, y, L2, h2, ?_, ?_⟩
  · have hP : va_P D vwCl (wX cc a x ++ (cp cc L ++ (wX cc b y ++ (cp cc L2 ++ [])))) H := hP
    show va_P D vwCl (wX cc b y ++ (cp cc L2 ++ (wX cc a x ++ (cp cc L ++ [])))) H
    rw [app5] at hP ⊢
    exact hP.swap
  · have hD : va_D A (wX cc a x ++ (cp cc L ++ (wX cc b y ++ (cp cc L2 ++ [])))) := hD
    show va_D A (wX cc b y ++ (cp cc L2 ++ (wX cc a x ++ (cp cc L ++ []))))
    rw [app5] at hD ⊢
    exact hD.swap
/-- a method of the law on two objects -/
def gO2 (l : Launch) (y : MethodName) (wy : List Cond) (rm : Room) (D : va_G) (cc : Nat → ClassId) (a b : Nat → Nat) (args : List Value) (G : GS) (v : Int32) (mc ms : Nat) : Prop := ∀ (x x2 : XV) (L L2 : List LE), INV G x L → INV G x2 L2 → gMi l y wy rm D cc (.ref (a 0) :: .ref (b 0) :: args) (oW cc a x L (oW cc b x2 L2 [])) v (fun ws => ∃ (x x2 : XV) (L L2 : List LE), INV G x L ∧ INV G x2 L2 ∧ ws = oW cc a x L (oW cc b x2 L2 [])) mc ms
section STEPS2
variable {p : Program} {l : Launch} {e : Env} {R : Room} {s : State} {m : MethodId} {args : Array Value} {below : List Frame} {meth : Method} {c : Code} {H : Heap} {locs : List Loc} {cells slots : Nat} {Q : State → Prop} {bc : ByteArray} {maxL0 : Nat} {Ts : List Cond} {ret : Option FieldType} {D : va_G} {cc : Nat → ClassId} {A : Nat → Prop}
variable {a b : Nat → Nat} {G G' G2 : GS} {v : Int32} {y : MethodName} {wy : List Cond} {rm : Room} {mc ms n index maxL pc : Nat} {bytes : ByteArray} {hh : List (Nat × Nat × Nat × Nat)} {ry : Option FieldType} {rest st0 As : List Value} {ls : Array Slot} {lv9 : List (Nat × Value)}
theorem gstepS2o (F : gF p m c bc maxL0 s args Ts meth ret D cc A) (hM : gO l y wy rm D cc a As G v G' mc ms) (cw : CallB R s args RL index y bytes maxL ry wy rm mc ms n ∧ (Cond.static y).before args s = true) (hO : HO2 D cc A a b G G2 H) (hS : va_S A s.heap H locs) (hl : lv_has ls maxL0 lv9) (hn : (Value.ref (a 0) :: As).length = n) (hst : st0 = (Value.ref (a 0) :: As).reverse ++ rest) (hW : (rest.map fun v => v.category).sum ≤ 8) (hdg : decode bc pc = .ok (.invokestatic index, 3)) (hf : cells + mc ≤ R.cells ∧ slots + ms ≤ R.slots)
    (kk : ∀ (H1 : Heap) (locs1 : List Loc), HO2 D cc A a b G' G2 H1 → va_S A s.heap H1 locs1 → W p l e R s m args below meth c H1 locs1 (cells + mc) (slots + ms) Q (F0 m (pc + 3) ls (.int v :: rest))) : W p l e R s m args below meth c H locs cells slots Q (F0 m pc ls st0) := by
  obtain ⟨y9, L9, h9, hO⟩ := hO
  exact gstepS F hM cw hO hS hl hn hst hW hdg hf (fun H1 locs1 hO hS => kk H1 locs1 ⟨y9, L9, h9, hO⟩ hS)
theorem gstepS2p (F : gF p m c bc maxL0 s args Ts meth ret D cc A) (hM : gO l y wy rm D cc b As G v G' mc ms) (cw : CallB R s args RL index y bytes maxL ry wy rm mc ms n ∧ (Cond.static y).before args s = true) (hO : HO2 D cc A a b G2 G H) (hS : va_S A s.heap H locs) (hl : lv_has ls maxL0 lv9) (hn : (Value.ref (b 0) :: As).length = n) (hst : st0 = (Value.ref (b 0) :: As).reverse ++ rest) (hW : (rest.map fun v => v.category).sum ≤ 8) (hdg : decode bc pc = .ok (.invokestatic index, 3)) (hf : cells + mc ≤ R.cells ∧ slots + ms ≤ R.slots)
    (kk : ∀ (H1 : Heap) (locs1 : List Loc), HO2 D cc A a b G2 G' H1 → va_S A s.heap H1 locs1 → W p l e R s m args below meth c H1 locs1 (cells + mc) (slots + ms) Q (F0 m (pc + 3) ls (.int v :: rest))) : W p l e R s m args below meth c H locs cells slots Q (F0 m pc ls st0) := by
  obtain ⟨y9, L9, h9, hO⟩ := hO.swap
  exact gstepS F hM cw hO hS hl hn hst hW hdg hf (fun H1 locs1 hO hS => kk H1 locs1 (HO2.swap ⟨y9, L9, h9, hO⟩) hS)
theorem gstepSW2o (F : gF p m c bc maxL0 s args Ts meth ret D cc A) (hM : gO l y wy rm D cc a As G v G' mc ms) (cw : vx_CSW R s args RL index y bytes maxL ry hh wy rm mc ms n) (hO : HO2 D cc A a b G G2 H) (hS : va_S A s.heap H locs) (hl : lv_has ls maxL0 lv9) (hn : (Value.ref (a 0) :: As).length = n) (hst : st0 = (Value.ref (a 0) :: As).reverse ++ rest) (hW : (rest.map fun v => v.category).sum ≤ 8) (hdg : decode bc pc = .ok (.invokestatic index, 3)) (hf : cells + mc ≤ R.cells ∧ slots + ms ≤ R.slots)
    (kk : ∀ (H1 : Heap) (locs1 : List Loc), HO2 D cc A a b G' G2 H1 → va_S A s.heap H1 locs1 → W p l e R s m args below meth c H1 locs1 (cells + mc) (slots + ms) Q (F0 m (pc + 3) ls (.int v :: rest))) : W p l e R s m args below meth c H locs cells slots Q (F0 m pc ls st0) := by
  obtain ⟨y9, L9, h9, hO⟩ := hO
  exact gstepSW F hM cw hO hS hl hn hst hW hdg hf (fun H1 locs1 hO hS => kk H1 locs1 ⟨y9, L9, h9, hO⟩ hS)
theorem gstepSW2p (F : gF p m c bc maxL0 s args Ts meth ret D cc A) (hM : gO l y wy rm D cc b As G v G' mc ms) (cw : vx_CSW R s args RL index y bytes maxL ry hh wy rm mc ms n) (hO : HO2 D cc A a b G2 G H) (hS : va_S A s.heap H locs) (hl : lv_has ls maxL0 lv9) (hn : (Value.ref (b 0) :: As).length = n) (hst : st0 = (Value.ref (b 0) :: As).reverse ++ rest) (hW : (rest.map fun v => v.category).sum ≤ 8) (hdg : decode bc pc = .ok (.invokestatic index, 3)) (hf : cells + mc ≤ R.cells ∧ slots + ms ≤ R.slots)
    (kk : ∀ (H1 : Heap) (locs1 : List Loc), HO2 D cc A a b G2 G' H1 → va_S A s.heap H1 locs1 → W p l e R s m args below meth c H1 locs1 (cells + mc) (slots + ms) Q (F0 m (pc + 3) ls (.int v :: rest))) : W p l e R s m args below meth c H locs cells slots Q (F0 m pc ls st0) := by
  obtain ⟨y9, L9, h9, hO⟩ := hO.swap
  exact gstepSW F hM cw hO hS hl hn hst hW hdg hf (fun H1 locs1 hO hS => kk H1 locs1 (HO2.swap ⟨y9, L9, h9, hO⟩) hS)
theorem gstepV2o {MC MS : Nat} (F : gF p m c bc maxL0 s args Ts meth ret D cc A) (hM : gN l D cc a y wy G v G' MC MS) (cw : ∀ (rm : Room) (mc ms : Nat), rmG rm mc ms MC MS → CallW R s args RL RX6 index y bytes maxL ry wy rm mc ms 0) (hO : HO2 D cc A a b G G2 H) (hS : va_S A s.heap H locs) (hl : lv_has ls maxL0 lv9) (hst : st0 = .ref (a 0) :: rest) (hW : (rest.map fun v => v.category).sum ≤ 8) (hdg : decode bc pc = .ok (.invokevirtual index, 3)) (hf : cells + MC ≤ R.cells ∧ slots + MS ≤ R.slots)
    (kk : ∀ (H1 : Heap) (locs1 : List Loc), HO2 D cc A a b G' G2 H1 → va_S A s.heap H1 locs1 → W p l e R s m args below meth c H1 locs1 (cells + MC) (slots + MS) Q (F0 m (pc + 3) ls (.int v :: rest))) : W p l e R s m args below meth c H locs cells slots Q (F0 m pc ls st0) := by
  obtain ⟨y9, L9, h9, hO⟩ := hO
  exact gstepV F hM cw hO hS hl hst hW hdg hf (fun H1 locs1 hO hS => kk H1 locs1 ⟨y9, L9, h9, hO⟩ hS)
theorem gstepV2p {MC MS : Nat} (F : gF p m c bc maxL0 s args Ts meth ret D cc A) (hM : gN l D cc b y wy G v G' MC MS) (cw : ∀ (rm : Room) (mc ms : Nat), rmG rm mc ms MC MS → CallW R s args RL RX6 index y bytes maxL ry wy rm mc ms 0) (hO : HO2 D cc A a b G2 G H) (hS : va_S A s.heap H locs) (hl : lv_has ls maxL0 lv9) (hst : st0 = .ref (b 0) :: rest) (hW : (rest.map fun v => v.category).sum ≤ 8) (hdg : decode bc pc = .ok (.invokevirtual index, 3)) (hf : cells + MC ≤ R.cells ∧ slots + MS ≤ R.slots)
    (kk : ∀ (H1 : Heap) (locs1 : List Loc), HO2 D cc A a b G2 G' H1 → va_S A s.heap H1 locs1 → W p l e R s m args below meth c H1 locs1 (cells + MC) (slots + MS) Q (F0 m (pc + 3) ls (.int v :: rest))) : W p l e R s m args below meth c H locs cells slots Q (F0 m pc ls st0) := by
  obtain ⟨y9, L9, h9, hO⟩ := hO.swap
  exact gstepV F hM cw hO hS hl hst hW hdg hf (fun H1 locs1 hO hS => kk H1 locs1 (HO2.swap ⟨y9, L9, h9, hO⟩) hS)
end STEPS2
/-- the row's invariant, out of the heap -/
theorem HO.inv {D : va_G} {cc : Nat → ClassId} {A : Nat → Prop} {a : Nat → Nat} {G : GS} {Rw : va_W} {H : Heap} (h : HO D cc A a G Rw H) : rI G.1 := by
  obtain ⟨x, L, hI, -, -⟩ := h
  exact hI.1
end XG2
