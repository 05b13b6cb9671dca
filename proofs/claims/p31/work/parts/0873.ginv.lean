/-! GHOST 4: worlds of an object; what a contract of the class says of the state that is told -/
section XGINV
def cp (cc : Nat → ClassId) (L : List LE) : va_W := L.flatMap (fun e => blk cc e.2.1 e.2.2)
theorem cp_cons {cc : Nat → ClassId} {p : Nat} {q : Nat → Nat} {v : SV} {L : List LE} : cp cc (((p, q, v) : LE) :: L) = blk cc q v ++ cp cc L := rfl
theorem cp_app {cc : Nat → ClassId} {s t : List LE} : cp cc (s ++ t) = cp cc s ++ cp cc t := by
  unfold cp; rw [List.flatMap_append]
/-- the world of an object, its copies, and the rest -/
abbrev oW (cc : Nat → ClassId) (a : Nat → Nat) (x : XV) (L : List LE) (R : va_W) : va_W := wX cc a x ++ (cp cc L ++ R)
theorem midP {D : va_G} {A B C R : va_W} {H : Heap} (h : va_P D vwCl (A ++ ((B ++ C) ++ R)) H) : va_P D vwCl (A ++ ((C ++ B) ++ R)) H := by
  rw [← List.append_assoc] at h
  have h1 := h.swap
  rw [← List.append_assoc] at h1
  have h2 := h1.swap
  rw [List.append_assoc] at h2
  have h3 := h2.swap
  rw [List.append_assoc] at h3
  exact h3
theorem midD {A0 : Nat → Prop} {A B C R : va_W} (h : va_D A0 (A ++ ((B ++ C) ++ R))) : va_D A0 (A ++ ((C ++ B) ++ R)) := by
  rw [← List.append_assoc] at h
  have h1 := h.swap
  rw [← List.append_assoc] at h1
  have h2 := h1.swap
  rw [List.append_assoc] at h2
  have h3 := h2.swap
  rw [List.append_assoc] at h3
  exact h3
/-- the copies in another order -/
def turned (L L1 : List LE) : Prop := L1 = L ∨ ∃ (s t : List LE) (e : LE), L = s ++ e :: t ∧ L1 = e :: (t ++ s)
theorem turned.P {D : va_G} {cc : Nat → ClassId} {a : Nat → Nat} {x : XV} {L L1 : List LE} {R : va_W} {H : Heap} (h : turned L L1) (hP : va_P D vwCl (oW cc a x L R) H) : va_P D vwCl (oW cc a x L1 R) H := by
  rcases h with rfl | ⟨s, t, e, rfl, rfl⟩
  · exact hP
  · show va_P D vwCl (wX cc a x ++ (cp cc ((e :: t) ++ s) ++ R)) H
    have hP : va_P D vwCl (wX cc a x ++ (cp cc (s ++ (e :: t)) ++ R)) H := hP
    rw [cp_app] at hP ⊢
    exact midP hP
theorem turned.D {A : Nat → Prop} {cc : Nat → ClassId} {a : Nat → Nat} {x : XV} {L L1 : List LE} {R : va_W} (h : turned L L1) (hD : va_D A (oW cc a x L R)) : va_D A (oW cc a x L1 R) := by
  rcases h with rfl | ⟨s, t, e, rfl, rfl⟩
  · exact hD
  · show va_D A (wX cc a x ++ (cp cc ((e :: t) ++ s) ++ R))
    have hD : va_D A (wX cc a x ++ (cp cc (s ++ (e :: t)) ++ R)) := hD
    rw [cp_app] at hD ⊢
    exact midD hD
theorem oW_cons {cc : Nat → ClassId} {a : Nat → Nat} {x : XV} {p : Nat} {q : Nat → Nat} {v : SV} {L : List LE} {R : va_W} : (wX cc a x ++ blk cc q v) ++ (cp cc L ++ R) = oW cc a x (((p, q, v) : LE) :: L) R := by
  show _ = wX cc a x ++ ((blk cc q v ++ cp cc L) ++ R)
  rw [List.append_assoc, List.append_assoc]
theorem vMi.w {l : Launch} {y : MethodName} {wy : List Cond} {rm : Room} {D : va_G} {cc : Nat → ClassId} {av : List Value} {wc wc' : va_W} {o : Int32 ⊕ String} {w1 w1' : (Nat → Nat) → va_W} {mc ms : Nat} (h : vMi l y wy rm D cc av wc o w1 mc ms) (e : wc = wc') (e1 : ∀ q, w1 q = w1' q) : vMi l y wy rm D cc av wc' o w1' mc ms := by
  have e2 : w1 = w1' := funext e1
  subst e; subst e2; exact h
theorem xMi.w {l : Launch} {y : MethodName} {wy : List Cond} {rm : Room} {D : va_G} {cc : Nat → ClassId} {av : List Value} {wc wc' : va_W} {o : Int32} {w1 w1' : (Nat → Nat) → va_W} {mc ms : Nat} (h : xMi l y wy rm D cc av wc o w1 mc ms) (e : wc = wc') (e1 : ∀ q, w1 q = w1' q) : xMi l y wy rm D cc av wc' o w1' mc ms := by
  have e2 : w1 = w1' := funext e1
  subst e; subst e2; exact h
def rmG (rm : Room) (mc ms MC MS : Nat) : Prop := rm.cells = mc ∧ rm.slots = ms ∧ mc ≤ MC ∧ ms ≤ MS ∧ rm.frames ≤ 7 ∧ rm.locals ≤ 200
theorem rmG.of {f c s l MC MS : Nat} (h : (c ≤ MC && s ≤ MS && f ≤ 7 && l ≤ 200) = true) : rmG ({ frames := f, cells := c, slots := s, locals := l } : Room) c s MC MS := by
  simp only [Bool.and_eq_true, decide_eq_true_eq] at h
  exact ⟨rfl, rfl, h.1.1.1, h.1.1.2, h.1.2, h.2⟩
/-- a method of the class that may throw: from the state G to G', with the outcome B -/
def gV (l : Launch) (D : va_G) (cc : Nat → ClassId) (a : Nat → Nat) (y : MethodName) (wy : List Cond) (args : List Value) (G : GS) (B : Int32 ⊕ String) (G' : GS) (MC MS : Nat) : Prop := ∀ (x : XV) (L : List LE), INV G x L →
  ∃ (L1 : List LE) (x' : (Nat → Nat) → XV) (L' : (Nat → Nat) → List LE) (rm : Room) (mc ms : Nat), turned L L1 ∧
    (∀ R : va_W, vMi l y wy rm D cc (.ref (a 0) :: args) (oW cc a x L1 R) B (fun q => oW cc a (x' q) (L' q) R) mc ms) ∧ (∀ q, INV G' (x' q) (L' q)) ∧ rmG rm mc ms MC MS
/-- one that doesn't throw -/
def gN (l : Launch) (D : va_G) (cc : Nat → ClassId) (a : Nat → Nat) (y : MethodName) (wy : List Cond) (G : GS) (v : Int32) (G' : GS) (MC MS : Nat) : Prop := ∀ (x : XV) (L : List LE), INV G x L →
  ∃ (L1 : List LE) (x' : (Nat → Nat) → XV) (L' : (Nat → Nat) → List LE) (rm : Room) (mc ms : Nat), turned L L1 ∧
    (∀ R : va_W, xMi l y wy rm D cc [.ref (a 0)] (oW cc a x L1 R) v (fun q => oW cc a (x' q) (L' q) R) mc ms) ∧ (∀ q, INV G' (x' q) (L' q)) ∧ rmG rm mc ms MC MS
theorem ringHy {nw : Nat} (hw : nw < 15) {z : Int32} (e : z = nI nw) : ¬ xrem (z + (1 : Int32)) (15 : Int32) < 0 ∧ xrem (z + (1 : Int32)) (15 : Int32) < Int32.ofNat 15 ∧ vp_in (xrem (z + (1 : Int32)) (15 : Int32)) 15 ∧ (xrem (z + (1 : Int32)) (15 : Int32)).toNatClampNeg = (nw + 1) % 15 := by
  rw [e, cplace_rem hw]
  refine ⟨nI_pos (by omega), nI_lt (b := 15) (by omega) (by omega), pk_in _ _ (by omega : (nw + 1) % 15 < 15), nI_clamp (by omega)⟩
end XGINV
