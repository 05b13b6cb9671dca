/-! GHOST 1: a writer's state as it is told: the row, the text, what is remembered (newest first), the slots -/
section XGHIST
abbrev RW : Type := Nat → Nat
abbrev GS : Type := RW × Nat × (Nat → Nat) × List RW × (Nat → Option RW)
/-- the ring and the slots, held against what is told -/
def HG (nw : Nat) (L : List LE) (hs : List RW) (kp : Nat → Option RW) (cr cs : Nat → Option Nat) : Prop :=
  (hs.length ≤ 14 ∧ nw < 15) ∧ (L.map (fun e => e.1)).Nodup ∧
  (∀ k r, hs[k]? = some r → ∃ q v, (((nw + 15 - k) % 15, q, v) : LE) ∈ L ∧ rI r ∧ CSv r v) ∧
  (∀ j, j < 15 → (cr j = none ∧ ∀ e ∈ L, e.1 ≠ j) ∨ ∃ q v, ((j, q, v) : LE) ∈ L ∧ cr j = some (q 0)) ∧
  ∀ s, s < 2 → (cs s = none ∧ kp s = none ∧ ∀ e ∈ L, e.1 ≠ 15 + s) ∨ ∃ q v r, ((15 + s, q, v) : LE) ∈ L ∧ cs s = some (q 0) ∧ kp s = some r ∧ rI r ∧ CSv r v
/-- one more remembered -/
def pushH (r : RW) (hs : List RW) : List RW := r :: hs.take 13
theorem pushH_len (r : RW) (hs : List RW) (h : hs.length ≤ 14) : (pushH r hs).length = min (hs.length + 1) 14 := by
  unfold pushH
  rw [List.length_cons, List.length_take]
  omega
section
variable {nw p : Nat} {L L' : List LE} {hs : List RW} {kp : Nat → Option RW} {cr cr' cs cs' : Nat → Option Nat} {q : Nat → Nat} {v : SV} {r : RW}
theorem HG_ring (H : HG nw L hs kp cr cs) (hp : p < 15) (hL : ∀ e, e ∈ L' ↔ e ∈ L ∧ e.1 ≠ p) (h1 : cr' p = some (q 0)) (h2 : ∀ j, j ≠ p → cr' j = cr j) :
    (∀ j, j < 15 → (cr' j = none ∧ ∀ e ∈ (((p, q, v) : LE) :: L'), e.1 ≠ j) ∨ ∃ q' v', ((j, q', v') : LE) ∈ (((p, q, v) : LE) :: L') ∧ cr' j = some (q' 0)) ∧
    ∀ s, s < 2 → (cs s = none ∧ kp s = none ∧ ∀ e ∈ (((p, q, v) : LE) :: L'), e.1 ≠ 15 + s) ∨ ∃ q' v' r', ((15 + s, q', v') : LE) ∈ (((p, q, v) : LE) :: L') ∧ cs s = some (q' 0) ∧ kp s = some r' ∧ rI r' ∧ CSv r' v' := by
  obtain ⟨-, -, -, g4, g5⟩ := H
  refine ⟨fun j hj => ?_, fun s hs => ?_⟩
  · by_cases e : j = p
    · subst e; exact Or.inr ⟨q, v, List.mem_cons.mpr (Or.inl rfl), h1⟩
    · rcases g4 j hj with ⟨a, b⟩ | ⟨q', v', a, b⟩
      · exact Or.inl ⟨by rw [h2 j e]; exact a, L_out hL b e⟩
      · exact Or.inr ⟨q', v', L_in hL a e, by rw [h2 j e]; exact b⟩
  · rcases g5 s hs with ⟨a, b, c⟩ | ⟨q', v', r', a, b, c, d, e⟩
    · exact Or.inl ⟨a, b, L_out hL c (by omega)⟩
    · exact Or.inr ⟨q', v', r', L_in hL a (by omega), b, c, d, e⟩
theorem HG_keep (H : HG nw L hs kp cr cs) (hp : p = (nw + 1) % 15) (hL : ∀ e, e ∈ L' ↔ e ∈ L ∧ e.1 ≠ p) (hn : (L'.map (fun e => e.1)).Nodup) (h1 : cr' p = some (q 0)) (h2 : ∀ j, j ≠ p → cr' j = cr j) : HG nw (((p, q, v) : LE) :: L') hs kp cr' cs := by
  obtain ⟨k1, k2⟩ := HG_ring (v := v) H (by omega) hL h1 h2
  obtain ⟨g1, g2, g3, -, -⟩ := H
  refine ⟨g1, L_cons hL hn, fun k r' hk => ?_, k1, k2⟩
  have hlt := (List.getElem?_eq_some_iff.mp hk).1
  obtain ⟨q', v', a, b⟩ := g3 k r' hk
  exact ⟨q', v', L_in hL a (by omega), b⟩
theorem HG_push (H : HG nw L hs kp cr cs) (hI : rI r) (hv : CSv r v) (hp : p = (nw + 1) % 15) (hL : ∀ e, e ∈ L' ↔ e ∈ L ∧ e.1 ≠ p) (hn : (L'.map (fun e => e.1)).Nodup) (h1 : cr' p = some (q 0)) (h2 : ∀ j, j ≠ p → cr' j = cr j) : HG p (((p, q, v) : LE) :: L') (pushH r hs) kp cr' cs := by
  obtain ⟨k1, k2⟩ := HG_ring (v := v) H (by omega) hL h1 h2
  obtain ⟨g1, g2, g3, -, -⟩ := H
  refine ⟨⟨by rw [pushH_len r hs g1.1]; omega, by omega⟩, L_cons hL hn, fun k r' hk => ?_, k1, k2⟩
  rcases k with _ | k
  · have e : r = r' := by
      unfold pushH at hk
      rw [List.getElem?_cons_zero] at hk
      exact Option.some.inj hk
    subst e
    exact ⟨q, v, by rw [show (p + 15 - 0) % 15 = p by omega]; exact List.mem_cons.mpr (Or.inl rfl), hI, hv⟩
  · unfold pushH at hk
    rw [List.getElem?_cons_succ, List.getElem?_take] at hk
    split at hk
    · rename_i hlt
      obtain ⟨q', v', a, b⟩ := g3 k r' hk
      refine ⟨q', v', ?_, b⟩
      rw [show (p + 15 - (k + 1)) % 15 = (nw + 15 - k) % 15 by omega]
      exact L_in hL a (by omega)
    · cases hk
theorem HG_undo (H : HG nw L (r :: hs) kp cr cs) : HG ((nw + 14) % 15) L hs kp cr cs := by
  obtain ⟨g1, g2, g3, g4, g5⟩ := H
  rw [List.length_cons] at g1
  refine ⟨⟨by omega, by omega⟩, g2, fun k r' hk => ?_, g4, g5⟩
  have hlt := (List.getElem?_eq_some_iff.mp hk).1
  obtain ⟨q', v', a, b⟩ := g3 (k + 1) r' (by rw [List.getElem?_cons_succ]; exact hk)
  refine ⟨q', v', ?_, b⟩
  rw [show ((nw + 14) % 15 + 15 - k) % 15 = (nw + 15 - (k + 1)) % 15 by omega]; exact a
theorem HG_top (H : HG nw L (r :: hs) kp cr cs) : ∃ q v, ((nw, q, v) : LE) ∈ L ∧ cr nw = some (q 0) ∧ rI r ∧ CSv r v := by
  obtain ⟨g1, g2, g3, g4, g5⟩ := H
  obtain ⟨q', v', a, b⟩ := g3 0 r (by rw [List.getElem?_cons_zero])
  rw [show (nw + 15 - 0) % 15 = nw by omega] at a
  rcases g4 nw g1.2 with ⟨-, c⟩ | ⟨q2, v2, c, d⟩
  · exact absurd rfl (c _ a)
  · have e := L_one g2 a c rfl
    cases e
    exact ⟨q', v', a, d, b⟩
theorem HG_zero (H : HG nw L hs kp cr cs) : HG nw L [] kp cr cs := ⟨⟨Nat.zero_le _, H.1.2⟩, H.2.1, fun k r' hk => (by rw [List.getElem?_nil] at hk; cases hk), H.2.2.2.1, H.2.2.2.2⟩
/-- a slot is set -/
def setK (s : Nat) (r : RW) (kp : Nat → Option RW) : Nat → Option RW := fun j => if j = s then some r else kp j
theorem HG_save {s : Nat} (H : HG nw L hs kp cr cs) (hsl : s < 2) (hL : ∀ e, e ∈ L' ↔ e ∈ L ∧ e.1 ≠ 15 + s) (hn : (L'.map (fun e => e.1)).Nodup) (h1 : cs' s = some (q 0)) (h2 : ∀ j, j ≠ s → cs' j = cs j)
    (hI : rI r) (hv : CSv r v) : HG nw (((15 + s, q, v) : LE) :: L') hs (setK s r kp) cr cs' := by
  obtain ⟨g1, g2, g3, g4, g5⟩ := H
  refine ⟨g1, L_cons hL hn, fun k r' hk => ?_, fun j hj => ?_, fun t ht => ?_⟩
  · obtain ⟨q', v', a, b⟩ := g3 k r' hk
    exact ⟨q', v', L_in hL a (by omega), b⟩
  · rcases g4 j hj with ⟨a, b⟩ | ⟨q', v', a, b⟩
    · exact Or.inl ⟨a, L_out hL b (by omega)⟩
    · exact Or.inr ⟨q', v', L_in hL a (by omega), b⟩
  · by_cases e : t = s
    · subst e; exact Or.inr ⟨q, v, r, List.mem_cons.mpr (Or.inl rfl), h1, if_pos rfl, hI, hv⟩
    · rcases g5 t ht with ⟨a, b, c⟩ | ⟨q', v', r', a, b, c, d⟩
      · exact Or.inl ⟨by rw [h2 t e]; exact a, by unfold setK; rw [if_neg e]; exact b, L_out hL c (by omega)⟩
      · exact Or.inr ⟨q', v', r', L_in hL a (by omega), by rw [h2 t e]; exact b, by unfold setK; rw [if_neg e]; exact c, d⟩
theorem HG_init : HG 0 [] [] (fun _ => none) (fun _ => none) (fun _ => none) := ⟨⟨Nat.zero_le _, by omega⟩, List.nodup_nil, fun k r' hk => (by rw [List.getElem?_nil] at hk; cases hk), fun j _ => Or.inl ⟨rfl, fun _ h => by cases h⟩, fun s _ => Or.inl ⟨rfl, rfl, fun _ h => by cases h⟩⟩
theorem HG_mem {L2 : List LE} (H : HG nw L hs kp cr cs) (hm : ∀ e : LE, e ∈ L2 ↔ e ∈ L) (hn : (L2.map (fun e => e.1)).Nodup) : HG nw L2 hs kp cr cs := by
  obtain ⟨g1, -, g3, g4, g5⟩ := H
  refine ⟨g1, hn, fun k r' hk => ?_, fun j hj => ?_, fun s hs => ?_⟩
  · obtain ⟨q, v, a, b⟩ := g3 k r' hk
    exact ⟨q, v, (hm _).mpr a, b⟩
  · rcases g4 j hj with ⟨a, b⟩ | ⟨q, v, a, b⟩
    · exact Or.inl ⟨a, fun e he => b e ((hm e).mp he)⟩
    · exact Or.inr ⟨q, v, (hm _).mpr a, b⟩
  · rcases g5 s hs with ⟨a, b, c⟩ | ⟨q, v, r', a, b⟩
    · exact Or.inl ⟨a, b, fun e he => c e ((hm e).mp he)⟩
    · exact Or.inr ⟨q, v, r', (hm _).mpr a, b⟩
end
/-- an object's cells x and the copies L hold the state G -/
def INV (G : GS) (x : XV) (L : List LE) : Prop := rI G.1 ∧ CSv G.1 x.1 ∧ txC G.2.1 G.2.2.1 x.2.2.2.2.2.2.1 ∧ x.2.2.2.2.2.1 = nI G.2.1 ∧ ∃ nw, x.2.2.2.2.2.2.2.1 = nI nw ∧ x.2.2.2.2.2.2.2.2.1 = nI G.2.2.2.1.length ∧ HG nw L G.2.2.2.1 G.2.2.2.2 x.2.2.2.2.2.2.2.2.2.1 x.2.2.2.2.2.2.2.2.2.2
theorem mem_turn {s t : List LE} {a : LE} : ∀ e : LE, e ∈ a :: (t ++ s) ↔ e ∈ s ++ a :: t := fun e => by
  simp only [List.mem_append, List.mem_cons]
  constructor
  · rintro (h | h | h)
    · exact Or.inr (Or.inl h)
    · exact Or.inr (Or.inr h)
    · exact Or.inl h
  · rintro (h | h | h)
    · exact Or.inr (Or.inr h)
    · exact Or.inl h
    · exact Or.inr (Or.inl h)
end XGHIST
