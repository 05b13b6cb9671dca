/-! LAW KIT 5: the law's invariant; what a case of the law owes -/
section XINV
def cp (cc : Nat → ClassId) (L : List LE) : va_W := L.flatMap (fun e => blk cc e.2.1 e.2.2)
theorem cp_cons {cc : Nat → ClassId} {p : Nat} {q : Nat → Nat} {v : SV} {L : List LE} : cp cc (((p, q, v) : LE) :: L) = blk cc q v ++ cp cc L := rfl
theorem cp_split {cc : Nat → ClassId} {W : va_W} {s t : List LE} {p : Nat} {q : Nat → Nat} {v : SV} : W ++ cp cc (s ++ ((p, q, v) : LE) :: t) = (W ++ cp cc s) ++ (blk cc q v ++ cp cc t) := by
  unfold cp
  rw [List.flatMap_append, List.append_assoc]; rfl
theorem cp_join {cc : Nat → ClassId} {W : va_W} {s t : List LE} {q : Nat → Nat} {v : SV} : (W ++ (blk cc q v ++ cp cc t)) ++ cp cc s = W ++ (blk cc q v ++ cp cc (t ++ s)) := by
  unfold cp
  rw [List.flatMap_append, List.append_assoc, List.append_assoc]
theorem cp_P {D : va_G} {cc : Nat → ClassId} {W : va_W} {s t : List LE} {p : Nat} {q : Nat → Nat} {v : SV} {H : Heap} (h : va_P D vwCl (W ++ cp cc (s ++ ((p, q, v) : LE) :: t)) H) : va_P D vwCl (W ++ (blk cc q v ++ cp cc (t ++ s))) H := by
  rw [cp_split] at h
  rw [← cp_join]; exact h.swap
theorem cp_D {A : Nat → Prop} {cc : Nat → ClassId} {W : va_W} {s t : List LE} {p : Nat} {q : Nat → Nat} {v : SV} (h : va_D A (W ++ cp cc (s ++ ((p, q, v) : LE) :: t))) : va_D A (W ++ (blk cc q v ++ cp cc (t ++ s))) := by
  rw [cp_split] at h
  rw [← cp_join]; exact h.swap
def INV (x : XV) (m : MV) (L : List LE) : Prop := ∃ (r : Nat → Nat) (n : Nat) (t : Nat → Nat) (h nw : Nat), rI r ∧ CSv r x.1 ∧ rowOk 1343 m.2.2.2.2.2.2.2.2.2.2.1 r ∧ txC n t x.2.2.2.2.2.2.1 ∧ txC n t m.2.2.2.2.2.2.2.2.2.1 ∧ x.2.2.2.2.2.1 = nI n ∧ m.2.1 = nI n ∧ x.2.2.2.2.2.2.2.1 = nI nw ∧ x.2.2.2.2.2.2.2.2.1 = nI h ∧ m.2.2.1 = nI h ∧
  HI h nw L m.2.2.2.2.2.2.2.2.2.2.2.2.1 m.2.2.2.2.2.2.2.2.2.2.2.2.2.1 m.2.2.2.2.2.2.2.2.2.2.2.2.2.2.1 x.2.2.2.2.2.2.2.2.2.1 x.2.2.2.2.2.2.2.2.2.2
def rmOk (rm : Room) (mc ms : Nat) : Prop := rm.cells = mc ∧ rm.slots = ms ∧ mc ≤ 11 ∧ ms ≤ 1443 ∧ rm.frames ≤ 7 ∧ rm.locals ≤ 200
theorem rmOk.of {f c s l : Nat} (h : (c ≤ 11 && s ≤ 1443 && f ≤ 7 && l ≤ 200) = true) : rmOk ({ frames := f, cells := c, slots := s, locals := l } : Room) c s := by
  simp only [Bool.and_eq_true, decide_eq_true_eq] at h
  exact ⟨rfl, rfl, h.1.1.1, h.1.1.2, h.1.2, h.2⟩
/-- a case that may throw: class and model agree -/
def semT (l : Launch) (D : va_G) (cc : Nat → ClassId) (o : Nat) (a b : Nat → Nat) (yc : MethodName) (wc : List Cond) (ym : MethodName) (wm : List Cond) (args : List Value) (exs : List String) : Prop := ∀ (x : XV) (m : MV) (L : List LE), INV x m L →
  ∃ (B : Int32 ⊕ String) (v rf : Int32) (x' : (Nat → Nat) → XV) (m' : MV) (Z : va_W) (Z' : (Nat → Nat) → va_W) (rm rm2 : Room) (mc ms : Nat),
    ((∀ g H, va_P D vwCl (wL cc o g a b x m ++ cp cc L) H → va_P D vwCl (wL cc o g a b x m ++ Z) H) ∧ ∀ g A, va_D A (wL cc o g a b x m ++ cp cc L) → va_D A (wL cc o g a b x m ++ Z)) ∧
    (∀ g, vMi l yc wc rm D cc (.ref (a 0) :: args) (wL cc o g a b x m ++ Z) B (fun q => wL cc o g a b (x' q) m ++ Z' q) mc ms) ∧
    (∀ g x2 pl, xMi l ym wm rm2 D cc (.ref (b 0) :: args) (wL cc o g a b x2 m ++ pl) v (fun _ => wL cc o g a b x2 m' ++ pl) 0 0) ∧
    aR exs B v rf ∧ m'.1 = rf ∧ (∀ q, ∃ L', Z' q = cp cc L' ∧ INV (x' q) m' L') ∧ rmOk rm mc ms ∧ rmOk rm2 0 0
/-- a case that doesn't throw -/
def semN (l : Launch) (D : va_G) (cc : Nat → ClassId) (o : Nat) (a b : Nat → Nat) (yc : MethodName) (wc : List Cond) (ym : MethodName) (wm : List Cond) : Prop := ∀ (x : XV) (m : MV) (L : List LE), INV x m L →
  ∃ (v : Int32) (x' : (Nat → Nat) → XV) (m' : MV) (Z : va_W) (Z' : (Nat → Nat) → va_W) (rm rm2 : Room) (mc ms : Nat),
    ((∀ g H, va_P D vwCl (wL cc o g a b x m ++ cp cc L) H → va_P D vwCl (wL cc o g a b x m ++ Z) H) ∧ ∀ g A, va_D A (wL cc o g a b x m ++ cp cc L) → va_D A (wL cc o g a b x m ++ Z)) ∧
    (∀ g, xMi l yc wc rm D cc [.ref (a 0)] (wL cc o g a b x m ++ Z) v (fun q => wL cc o g a b (x' q) m ++ Z' q) mc ms) ∧
    (∀ g x2 pl, xMi l ym wm rm2 D cc [.ref (b 0)] (wL cc o g a b x2 m ++ pl) v (fun _ => wL cc o g a b x2 m' ++ pl) 0 0) ∧
    (∀ q, ∃ L', Z' q = cp cc L' ∧ INV (x' q) m' L') ∧ rmOk rm mc ms ∧ rmOk rm2 0 0
theorem same_Z {D : va_G} {W : (Nat → Int64) → va_W} {Z : va_W} : (∀ g H, va_P D vwCl (W g ++ Z) H → va_P D vwCl (W g ++ Z) H) ∧ ∀ g A, va_D A (W g ++ Z) → va_D A (W g ++ Z) := ⟨fun _ _ h => h, fun _ _ h => h⟩
theorem vMi.assoc {l : Launch} {y : MethodName} {wy : List Cond} {rm : Room} {D : va_G} {cc : Nat → ClassId} {av : List Value} {a b c : va_W} {o : Int32 ⊕ String} {w1 : (Nat → Nat) → va_W} {mc ms : Nat} (h : vMi l y wy rm D cc av ((a ++ b) ++ c) o w1 mc ms) : vMi l y wy rm D cc av (a ++ (b ++ c)) o w1 mc ms := by
  rw [← List.append_assoc]; exact h
theorem vMi.assoc2 {l : Launch} {y : MethodName} {wy : List Cond} {rm : Room} {D : va_G} {cc : Nat → ClassId} {av : List Value} {w : va_W} {a b c : (Nat → Nat) → va_W} {o : Int32 ⊕ String} {mc ms : Nat} (h : vMi l y wy rm D cc av w o (fun q => (a q ++ b q) ++ c q) mc ms) : vMi l y wy rm D cc av w o (fun q => a q ++ (b q ++ c q)) mc ms := by
  simp only [← List.append_assoc]; exact h
theorem xMi.assoc {l : Launch} {y : MethodName} {wy : List Cond} {rm : Room} {D : va_G} {cc : Nat → ClassId} {av : List Value} {a b c : va_W} {o : Int32} {w1 : (Nat → Nat) → va_W} {mc ms : Nat} (h : xMi l y wy rm D cc av ((a ++ b) ++ c) o w1 mc ms) : xMi l y wy rm D cc av (a ++ (b ++ c)) o w1 mc ms := by
  rw [← List.append_assoc]; exact h
theorem xMi.assoc2 {l : Launch} {y : MethodName} {wy : List Cond} {rm : Room} {D : va_G} {cc : Nat → ClassId} {av : List Value} {w : va_W} {a b c : (Nat → Nat) → va_W} {o : Int32} {mc ms : Nat} (h : xMi l y wy rm D cc av w o (fun q => (a q ++ b q) ++ c q) mc ms) : xMi l y wy rm D cc av w o (fun q => a q ++ (b q ++ c q)) mc ms := by
  simp only [← List.append_assoc]; exact h
end XINV
