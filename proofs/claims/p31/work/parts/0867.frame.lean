/-! LAW KIT 1: a contract over a few cells, in a bigger world -/
section XFRAME
theorem va_P.hd {D : va_G} {cl : List vw_C} {a b : va_W} {H : Heap} (h : va_P D cl (a ++ b) H) : va_P D cl a H := fun k q hk => h k q (by rw [List.getElem?_append_left (List.getElem?_eq_some_iff.mp hk).1]; exact hk)
theorem va_D.hd {A : Nat → Prop} {a b : va_W} (h : va_D A (a ++ b)) : va_D A a := h.by id (fun k q hk => by
  show (a ++ b)[k]? = some q
  rw [List.getElem?_append_left (List.getElem?_eq_some_iff.mp hk).1]; exact hk) (fun i j _ _ e => e)
theorem xX.nar {A B : Nat → Prop} {U : State} {H : Heap} (h : xX A U H) (hAB : ∀ q, B q → A q) : xX B U H := ⟨h.1.narrow hAB, h.2.1.narrow hAB, h.2.2.1, h.2.2.2⟩
section
variable {l : Launch} {y : MethodName} {wy : List Cond} {rm : Room} {D : va_G} {cc : Nat → ClassId} {av : List Value} {wc : va_W} {w1 w2 : (Nat → Nat) → va_W} {mc ms : Nat}
/-- what a bigger world ws owes for a contract over wc -/
def xBig (D : va_G) (ws wc : va_W) (w1 w2 : (Nat → Nat) → va_W) : Prop :=
  (∀ H, va_P D vwCl ws H → va_P D vwCl wc H) ∧ (∀ A, va_D A ws → va_D A wc) ∧ (∀ sz q, va_A wc sz q → va_A ws sz q) ∧
  ∀ (H H1 : Heap) (q : Nat → Nat), va_P D vwCl ws H → va_D (va_A ws H.size) ws → (∀ a : Nat, a < H.size → ¬ va_A wc H.size a → H1[a]? = H[a]?) → va_P D vwCl (w1 q) H1 → va_D (va_A wc H.size) (w1 q) → va_P D vwCl (w2 q) H1 ∧ va_D (va_A ws H.size) (w2 q)
theorem xBig.of {X pl wr : va_W} {Y : (Nat → Nat) → va_W} (isC isR isY : List Nat) (hC : isC.map (fun i => X[i]?) = wc.map some) (hnC : va_nd isC = true) (hR : isR.map (fun i => X[i]?) = wr.map some) (hnR : va_nd isR = true) (hdis : ∀ i ∈ isR, i ∉ isC)
    (hY : ∀ q, isY.map (fun i => (wr ++ w1 q)[i]?) = (Y q).map some) (hnY : va_nd isY = true) : xBig D (X ++ pl) wc w1 (fun q => Y q ++ pl) := by
  have hA : ∀ sz q, va_A wc sz q → va_A (X ++ pl) sz q := by
    intro sz q h
    rcases h with ⟨k, e, h⟩ | h
    · obtain ⟨i, h1, h2⟩ := va_in_of isC hC h
      have hi : i < X.length := (List.getElem?_eq_some_iff.mp h2).1
      exact Or.inl ⟨i, e, by rw [List.getElem?_append_left hi]; exact h2⟩
    · exact Or.inr h
  refine ⟨fun H h => (h.part isC hC).hd, fun A h => (h.part isC hnC hC).hd, hA, fun H H1 q hP hD hk hP1 hD1 => ?_⟩
  obtain ⟨g1, g2⟩ := va_joinQ hP hD isC isR hC hR hnR hdis hk (hA H.size) hP1 hD1
  exact ⟨g1.part isY (hY q), g2.part isY hnY (hY q)⟩
theorem xP.big {ws : va_W} (B : xBig D ws wc w1 w2) {sz : Nat} {U : State} (h : xP D cc ws sz U) : xP D cc wc sz U := by
  obtain ⟨h1, h2, h3, h4, h5⟩ := h
  exact ⟨h1, B.1 _ h2, h3, B.2.1 _ h4, h5⟩
theorem xB.big {ws : va_W} (B : xBig D ws wc w1 w2) {sz : Nat} {st t : State} (h : xP D cc ws sz st) (hF : va_F (va_A wc sz) st t) {u : Unit} (hB : xB D cc wc sz w1 u t) : xB D cc ws sz w2 u t := by
  obtain ⟨rfl, h2, h3, h4, h5⟩ := h
  obtain ⟨q, g1, g2, g3⟩ := hB
  obtain ⟨k1, k2⟩ := B.2.2.2 st.heap t.heap q h2 h4.self hF.2 g1 g3
  exact ⟨q, k1, g2, k2⟩
theorem va_F.big {A B : Nat → Prop} {st t : State} (h : va_F A st t) (hAB : ∀ q, A q → B q) : va_F B st t := ⟨h.1, fun q h1 h2 => h.2 q h1 (fun z => h2 (hAB q z))⟩
theorem xMi.big {ws : va_W} {v : Int32} (h : xMi l y wy rm D cc av wc v w1 mc ms) (B : xBig D ws wc w1 w2) : xMi l y wy rm D cc av ws v w2 mc ms := fun sz => by
  refine MetFree.mono (h sz) (fun a s hp => ⟨hp.1, xP.big B hp.2⟩) (fun _ _ _ _ _ _ => trivial) ?_
  rintro a st o t ⟨-, hp⟩ ⟨⟨⟨r, u, h1, h2, h3⟩, hF⟩, L, hL, hf⟩
  exact ⟨⟨⟨r, u, h1, h2, xB.big B hp hF h3⟩, hF.big (B.2.2.1 sz)⟩, L, hL, fun q hq => B.2.2.1 sz _ (hf q hq)⟩
theorem vMi.big {ws : va_W} {o : Int32 ⊕ String} (h : vMi l y wy rm D cc av wc o w1 mc ms) (B : xBig D ws wc w1 w2) : vMi l y wy rm D cc av ws o w2 mc ms := fun sz => by
  refine MetFree.mono (h sz) (fun a s hp => ⟨hp.1, xP.big B hp.2.1, hp.2.2.nar (B.2.2.1 sz)⟩) (fun _ _ _ _ _ _ => trivial) ?_
  rintro a st oc t ⟨-, hp, -⟩ hq
  rcases hq with ⟨⟨⟨r, u, h1, h2, h3⟩, hF⟩, L, hL, hf⟩ | ⟨q, rfl, E, ce, L, ⟨u, k1, ⟨k2, k3⟩, hF⟩, g1, g2, g3, g4, g5, g6⟩
  · exact Or.inl ⟨⟨⟨r, u, h1, h2, xB.big B hp hF h3⟩, hF.big (B.2.2.1 sz)⟩, L, hL, fun q hq => B.2.2.1 sz _ (hf q hq)⟩
  · exact Or.inr ⟨q, rfl, E, ce, L, ⟨u, k1, ⟨k2, xB.big B hp hF k3⟩, hF.big (B.2.2.1 sz)⟩, g1, g2, g3, g4, g5, fun z hz => B.2.2.1 sz _ (g6 z hz)⟩
theorem xMv.big {ws : va_W} (h : xMv l y wy rm D cc av wc w1 mc ms) (B : xBig D ws wc w1 w2) : xMv l y wy rm D cc av ws w2 mc ms := fun sz => by
  refine MetFree.mono (h sz) (fun a s hp => ⟨hp.1, xP.big B hp.2⟩) (fun _ _ _ _ _ _ => trivial) ?_
  rintro a st o t ⟨-, hp⟩ ⟨⟨⟨u, h1, h2, h3⟩, hF⟩, L, hL, hf⟩
  exact ⟨⟨⟨u, h1, h2, xB.big B hp hF h3⟩, hF.big (B.2.2.1 sz)⟩, L, hL, fun q hq => B.2.2.1 sz _ (hf q hq)⟩
end
end XFRAME
