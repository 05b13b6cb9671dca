/-! LAW KIT 9: calls out of the law -/
section XLCALL
/-- what stands all along the law's walk -/
def lwF (p : Program) (s : State) (m : MethodId) (c : Code) (bS Ls : Nat) (xs : Nat → Int32) (D : va_G) (cc : Nat → ClassId) : Prop :=
  CallFix p m c cL_law 7 s #[Value.ref bS] wsL_law RL ∧ va_K D vwCl (xTy cc) s ∧ xN s ∧ xX (fun q : Nat => s.heap.size ≤ q) s s.heap ∧ xC s ∧ va_X bS Ls xs s s.heap ∧ bS < s.heap.size
variable {p : Program} {l : Launch} {e : Env} {s : State} {m : MethodId} {below : List Frame} {meth : Method} {c : Code} {H : Heap} {locs : List Loc} {cells slots : Nat} {Q : State → Prop} {bS Ls : Nat} {xs : Nat → Int32} {D : va_G} {cc : Nat → ClassId} {ws : va_W} {w1 : (Nat → Nat) → va_W} {y : MethodName} {wy : List Cond} {rm : Room} {mc ms n index maxL pc : Nat} {bytes : ByteArray} {hh : List (Nat × Nat × Nat × Nat)} {rest st0 av As : List Value} {ls : Array Slot} {lv9 : List (Nat × Value)} {v : Int32}
theorem law_sub (hD : va_D (fun q : Nat => s.heap.size ≤ q) ws) (hS : va_S (fun q : Nat => s.heap.size ≤ q) s.heap H locs) : ∀ q, va_A ws H.size q → s.heap.size ≤ q := fun q h => by
  rcases h with ⟨k, e, h⟩ | h
  · exact hD.2 k _ h
  · exact Nat.le_trans hS.1 h
theorem lcallW (F : lwF p s m c bS Ls xs D cc) (hM : lMi l y wy rm D cc av ws v w1 mc ms) (cw : vx_CSW room_1 s #[Value.ref bS] RL index y bytes maxL (some .int) hh wy rm mc ms n)
    (hP : va_P D vwCl ws H) (hD : va_D (fun q : Nat => s.heap.size ≤ q) ws) (hS : va_S (fun q : Nat => s.heap.size ≤ q) s.heap H locs) (hl : lv_has ls 7 lv9) (hn : av.length = n) (hst : st0 = av.reverse ++ rest) (hW : (rest.map fun v => v.category).sum ≤ 8) (hdg : decode cL_law pc = .ok (.invokestatic index, 3)) (hf : cells + mc ≤ 601024 ∧ slots + ms ≤ 7293034)
    (kk : ∀ (q : Nat → Nat) (H1 : Heap) (locs1 : List Loc), va_P D vwCl (w1 q) H1 → va_D (fun q : Nat => s.heap.size ≤ q) (w1 q) → va_S (fun q : Nat => s.heap.size ≤ q) s.heap H1 locs1 → W p l e room_1 s m #[Value.ref bS] below meth c H1 locs1 (cells + mc) (slots + ms) Q (F0 m (pc + 3) ls (.int v :: rest))) : W p l e room_1 s m #[Value.ref bS] below meth c H locs cells slots Q (F0 m pc ls st0) := by
  obtain ⟨F0, hK, hN, hX, hC, -, -⟩ := F
  have hF := law_sub hD hS
  refine va_calli (vx_runSW F0 (hM H.size) cw ⟨xlP.blind, fun U hU hW => ⟨rfl, ⟨⟨by rw [hU], by rw [hU]; exact hP, va_K.moved hW.alike hK, hD.weaken (fun _ _ _ _ => trivial), hN.warm hW⟩, by
    rw [hU]; exact xX.warm (A := fun q : Nat => s.heap.size ≤ q) hX hW hS hF⟩, hC.warm hW⟩⟩ rfl hn hl.1 hst (lv_room hW) hdg hf) hS (fun q _ h => hF q h) hF (fun r u t H1 locs1 ht hvm hw hB hz1 hk1 hS1 => ?_)
  obtain ⟨q, hP1, -, hD1⟩ := hB
  rw [ht] at hP1
  rw [hw]
  exact kk q H1 locs1 hP1 (hD1.weaken (fun _ q _ h => hF q.1 h)) hS1
theorem lcallM {b : Nat} {C : String} {ret : Option FieldType} (F : lwF p s m c bS Ls xs D cc) (hM : xMi l y wy rm D cc (.ref b :: As) ws v w1 mc ms) (cw : CallW room_1 s #[Value.ref bS] RL C index y bytes maxL ret wy rm mc ms n)
    (hP : va_P D vwCl ws H) (hD : va_D (fun q : Nat => s.heap.size ≤ q) ws) (hS : va_S (fun q : Nat => s.heap.size ≤ q) s.heap H locs) {q0 ci : Nat} {fs : List Value} {q : vw_C} (he : ws[q0]? = some (b, .inr (ci, fs))) (hcl : vwCl[ci]? = some q) (hq : q.1 = C) (hl : lv_has ls 7 lv9) (hn : As.length = n) (hst : st0 = As.reverse ++ .ref b :: rest) (hW : (rest.map fun v => v.category).sum ≤ 8) (hdg : decode cL_law pc = .ok (.invokevirtual index, 3)) (hf : cells + mc ≤ 601024 ∧ slots + ms ≤ 7293034)
    (kk : ∀ (q : Nat → Nat) (H1 : Heap) (locs1 : List Loc), va_P D vwCl (w1 q) H1 → va_D (fun q : Nat => s.heap.size ≤ q) (w1 q) → va_S (fun q : Nat => s.heap.size ≤ q) s.heap H1 locs1 → W p l e room_1 s m #[Value.ref bS] below meth c H1 locs1 (cells + mc) (slots + ms) Q (F0 m (pc + 3) ls (.int v :: rest))) : W p l e room_1 s m #[Value.ref bS] below meth c H locs cells slots Q (F0 m pc ls st0) := by
  obtain ⟨F0, hK, hN, hX, hC, -, -⟩ := F
  have hF := law_sub hD hS
  subst hq
  refine va_calli (va_runV F0 (hM H.size) cw ⟨xP.blind, va_recv hK hP hcl he, fun U hU hW => ⟨rfl, by rw [hU], by rw [hU]; exact hP, va_K.moved hW.alike hK, hD.weaken (fun _ _ _ _ => trivial), hN.warm hW⟩⟩ rfl hn hl.1 hst (lv_room hW) hdg hf) hS (fun q _ h => hF q h) hF (fun r u t H1 locs1 ht hvm hw hB hz1 hk1 hS1 => ?_)
  obtain ⟨q, hP1, -, hD1⟩ := hB
  rw [ht] at hP1
  rw [hw]
  exact kk q H1 locs1 hP1 (hD1.weaken (fun _ q _ h => hF q.1 h)) hS1
theorem aR_zero {ex : List String} {B : Int32 ⊕ String} {v : Int32} (h : aR ex B v 0) (hx : ex.length ≤ 2) : B = .inl v := by
  rcases h with ⟨z, h1, -, h2⟩ | ⟨i, s0, hi, -, h2⟩
  · rw [h1, h2]
  · have h3 := (List.getElem?_eq_some_iff.mp hi).1
    exact absurd ((nI_eq (a := 0) (b := i + 1) (by omega) (by omega)).mp h2) (by omega)
theorem outG_self (g : Nat → Int64) (v : Int32) : outG g (.inl v) ((0 : Int32)).toNatClampNeg = v.toInt64 := by
  show vp_updL g ((0 : Int32)).toNatClampNeg v.toInt64 ((0 : Int32)).toNatClampNeg = _
  exact if_pos rfl
theorem cmp_self (x : Int64) : lg_cmp x x = 0 := by
  unfold lg_cmp
  simp
def wXo (a : Nat → Nat) : List Value := [.ref (a 1), .ref (a 11), .ref (a 21), .ref (a 24), .ref (a 26), .ref (a 29)]
def wLt (cc : Nat → ClassId) (a b : Nat → Nat) (x : XV) (m : MV) : va_W := (wX cc a x).tail ++ wM cc b m
theorem wL_is (cc : Nat → ClassId) (o : Nat) (g : Nat → Int64) (a b : Nat → Nat) (x : XV) (m : MV) (Z : va_W) : wL cc o g a b x m ++ Z = (o, .inl (cc 3, 1, .inr (.inl g))) :: (a 0, .inr (6, wXo a)) :: (wLt cc a b x m ++ Z) := rfl
end XLCALL
