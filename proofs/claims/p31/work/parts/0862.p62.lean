/-! PURE, 62: what is remembered, what is kept -/
section XPURE62
abbrev SV : Type := Int32 × Int32 × (Nat → Int32) × (Nat → Int32) × (Nat → Int32) × (Nat → Int32) × (Nat → Int32) × (Nat → Int32) × (Nat → Int32) × (Nat → Int32)
def CSv (r : Nat → Nat) (v : SV) : Prop := CS r v.1 v.2.1 v.2.2.1 v.2.2.2.1 v.2.2.2.2.1 v.2.2.2.2.2.1 v.2.2.2.2.2.2.1 v.2.2.2.2.2.2.2.1 v.2.2.2.2.2.2.2.2.1 v.2.2.2.2.2.2.2.2.2
def snap (v : SV) (d : Nat → Int32) (o : Nat) : Prop := ∃ r, rI r ∧ CSv r v ∧ ∀ j, j < 1343 → d (o + j) = nI (r j)
theorem snap_eq {v : SV} {d d' : Nat → Int32} {o o' : Nat} (h : snap v d o) (he : ∀ j, j < 1343 → d' (o' + j) = d (o + j)) : snap v d' o' := by
  obtain ⟨r, h1, h2, h3⟩ := h
  exact ⟨r, h1, h2, fun j hj => by rw [he j hj]; exact h3 j hj⟩
abbrev LE : Type := Nat × (Nat → Nat) × SV
/-- the ring and the slots: h remembered, the newest at nw; copies L by their places (slots at 15, 16); the model's rows -/
def HI (h nw : Nat) (L : List LE) (dia kep isk : Nat → Int32) (cr cs : Nat → Option Nat) : Prop :=
  (h ≤ 14 ∧ nw < 15) ∧ (L.map (fun e => e.1)).Nodup ∧
  (∀ k, k < h → ∃ q v, (((nw + 15 - k) % 15, q, v) : LE) ∈ L ∧ snap v dia (1343 * (h - 1 - k))) ∧
  (∀ j, j < 15 → (cr j = none ∧ ∀ e ∈ L, e.1 ≠ j) ∨ ∃ q v, ((j, q, v) : LE) ∈ L ∧ cr j = some (q 0)) ∧
  ∀ s, s < 2 → (cs s = none ∧ isk s = 0 ∧ ∀ e ∈ L, e.1 ≠ 15 + s) ∨ ∃ q v, ((15 + s, q, v) : LE) ∈ L ∧ cs s = some (q 0) ∧ isk s = 1 ∧ snap v kep (1343 * s)
theorem L_one {L : List LE} (hn : (L.map (fun e => e.1)).Nodup) {a b : LE} (ha : a ∈ L) (hb : b ∈ L) (e : a.1 = b.1) : a = b := by
  induction L with
  | nil => cases ha
  | cons x t ih =>
    rw [List.map_cons, List.nodup_cons] at hn
    rcases List.mem_cons.mp ha with h1 | h1
    · rcases List.mem_cons.mp hb with h2 | h2
      · rw [h1, h2]
      · exact absurd (List.mem_map.mpr ⟨b, h2, by rw [← e, h1]⟩) hn.1
    · rcases List.mem_cons.mp hb with h2 | h2
      · exact absurd (List.mem_map.mpr ⟨a, h1, by rw [e, h2]⟩) hn.1
      · exact ih hn.2 h1 h2
/-- a copy taken out: the rest, turned -/
theorem L_take {L : List LE} (hn : (L.map (fun e => e.1)).Nodup) {a : LE} (ha : a ∈ L) : ∃ s t, L = s ++ a :: t ∧ (∀ x, x ∈ t ++ s ↔ x ∈ L ∧ x.1 ≠ a.1) ∧ ((t ++ s).map (fun e => e.1)).Nodup := by
  obtain ⟨s, t, rfl⟩ := List.append_of_mem ha
  refine ⟨s, t, rfl, fun x => ?_, ?_⟩
  · rw [List.map_append, List.map_cons, List.nodup_append] at hn
    obtain ⟨h1, h2, h3⟩ := hn
    rw [List.nodup_cons] at h2
    constructor
    · intro hx
      rcases List.mem_append.mp hx with hx | hx
      · refine ⟨List.mem_append.mpr (Or.inr (List.mem_cons.mpr (Or.inr hx))), fun e => h2.1 ?_⟩
        rw [← e]
        exact List.mem_map.mpr ⟨x, hx, rfl⟩
      · refine ⟨List.mem_append.mpr (Or.inl hx), fun e => h3 _ (List.mem_map.mpr ⟨x, hx, rfl⟩) _ (List.mem_cons.mpr (Or.inl rfl)) e⟩
    · rintro ⟨hx, he⟩
      rcases List.mem_append.mp hx with hx | hx
      · exact List.mem_append.mpr (Or.inr hx)
      · rcases List.mem_cons.mp hx with hx | hx
        · exact absurd (congrArg (fun z : LE => z.1) hx) he
        · exact List.mem_append.mpr (Or.inl hx)
  · rw [List.map_append] at hn ⊢
    rw [List.map_cons, List.nodup_append, List.nodup_cons] at hn
    obtain ⟨h1, h2, h3⟩ := hn
    rw [List.nodup_append]
    exact ⟨h2.2, h1, fun x hx y hy e => h3 y hy x (List.mem_cons.mpr (Or.inr hx)) e.symm⟩
section
variable {h nw p : Nat} {L L' : List LE} {dia dia' kep kep' isk isk' : Nat → Int32} {cr cr' cs cs' : Nat → Option Nat} {q : Nat → Nat} {v : SV}
theorem L_none {j : Nat} (hn : (L.map (fun e => e.1)).Nodup) (ho : ∀ e ∈ L, e.1 ≠ j) : (∀ x, x ∈ L ↔ x ∈ L ∧ x.1 ≠ j) ∧ (L.map (fun e => e.1)).Nodup := ⟨fun x => ⟨fun hx => ⟨hx, ho x hx⟩, fun hx => hx.1⟩, hn⟩
theorem L_cons (hL : ∀ e, e ∈ L' ↔ e ∈ L ∧ e.1 ≠ p) (hn : (L'.map (fun e => e.1)).Nodup) : ((((p, q, v) : LE) :: L').map (fun e => e.1)).Nodup := by
  rw [List.map_cons, List.nodup_cons]
  refine ⟨fun hx => ?_, hn⟩
  obtain ⟨x, h1, h2⟩ := List.mem_map.mp hx
  exact ((hL x).mp h1).2 h2
theorem L_in (hL : ∀ e, e ∈ L' ↔ e ∈ L ∧ e.1 ≠ p) {j : Nat} {q' : Nat → Nat} {v' : SV} (hm : ((j, q', v') : LE) ∈ L) (hj : j ≠ p) : ((j, q', v') : LE) ∈ (((p, q, v) : LE) :: L') := List.mem_cons.mpr (Or.inr ((hL _).mpr ⟨hm, hj⟩))
theorem L_out (hL : ∀ e, e ∈ L' ↔ e ∈ L ∧ e.1 ≠ p) {j : Nat} (ho : ∀ e ∈ L, e.1 ≠ j) (hj : j ≠ p) : ∀ e ∈ (((p, q, v) : LE) :: L'), e.1 ≠ j := by
  intro e he
  rcases List.mem_cons.mp he with rfl | he
  · exact fun z => hj z.symm
  · exact ho e ((hL e).mp he).1
/-- a copy laid at the place behind the newest: nothing that is remembered is touched -/
theorem HI_ring (H : HI h nw L dia kep isk cr cs) (hp : p < 15) (hL : ∀ e, e ∈ L' ↔ e ∈ L ∧ e.1 ≠ p) (h1 : cr' p = some (q 0)) (h2 : ∀ j, j ≠ p → cr' j = cr j) :
    (∀ j, j < 15 → (cr' j = none ∧ ∀ e ∈ (((p, q, v) : LE) :: L'), e.1 ≠ j) ∨ ∃ q' v', ((j, q', v') : LE) ∈ (((p, q, v) : LE) :: L') ∧ cr' j = some (q' 0)) ∧
    ∀ s, s < 2 → (cs s = none ∧ isk s = 0 ∧ ∀ e ∈ (((p, q, v) : LE) :: L'), e.1 ≠ 15 + s) ∨ ∃ q' v', ((15 + s, q', v') : LE) ∈ (((p, q, v) : LE) :: L') ∧ cs s = some (q' 0) ∧ isk s = 1 ∧ snap v' kep (1343 * s) := by
  obtain ⟨-, -, -, g4, g5⟩ := H
  refine ⟨fun j hj => ?_, fun s hs => ?_⟩
  · by_cases e : j = p
    · subst e; exact Or.inr ⟨q, v, List.mem_cons.mpr (Or.inl rfl), h1⟩
    · rcases g4 j hj with ⟨a, b⟩ | ⟨q', v', a, b⟩
      · exact Or.inl ⟨by rw [h2 j e]; exact a, L_out hL b e⟩
      · exact Or.inr ⟨q', v', L_in hL a e, by rw [h2 j e]; exact b⟩
  · rcases g5 s hs with ⟨a, b, c⟩ | ⟨q', v', a, b, c, d⟩
    · exact Or.inl ⟨a, b, L_out hL c (by omega)⟩
    · exact Or.inr ⟨q', v', L_in hL a (by omega), b, c, d⟩
theorem HI_keep (H : HI h nw L dia kep isk cr cs) (hp : p = (nw + 1) % 15) (hL : ∀ e, e ∈ L' ↔ e ∈ L ∧ e.1 ≠ p) (hn : (L'.map (fun e => e.1)).Nodup) (h1 : cr' p = some (q 0)) (h2 : ∀ j, j ≠ p → cr' j = cr j) : HI h nw (((p, q, v) : LE) :: L') dia kep isk cr' cs := by
  obtain ⟨k1, k2⟩ := HI_ring (v := v) H (by omega) hL h1 h2
  obtain ⟨g1, g2, g3, -, -⟩ := H
  refine ⟨g1, L_cons hL hn, fun k hk => ?_, k1, k2⟩
  obtain ⟨q', v', a, b⟩ := g3 k hk
  exact ⟨q', v', L_in hL a (by omega), b⟩
theorem HI_push (H : HI h nw L dia kep isk cr cs) (hp : p = (nw + 1) % 15) (hL : ∀ e, e ∈ L' ↔ e ∈ L ∧ e.1 ≠ p) (hn : (L'.map (fun e => e.1)).Nodup) (h1 : cr' p = some (q 0)) (h2 : ∀ j, j ≠ p → cr' j = cr j)
    (hs : snap v dia' (1343 * min h 13)) (hd : ∀ k, k < min h 13 → ∀ j, j < 1343 → dia' (1343 * k + j) = dia (1343 * (k + if h = 14 then 1 else 0) + j)) : HI (min (h + 1) 14) p (((p, q, v) : LE) :: L') dia' kep isk cr' cs := by
  obtain ⟨k1, k2⟩ := HI_ring (v := v) H (by omega) hL h1 h2
  obtain ⟨g1, g2, g3, -, -⟩ := H
  refine ⟨⟨by omega, by omega⟩, L_cons hL hn, fun k hk => ?_, k1, k2⟩
  by_cases z : k = 0
  · subst z
    refine ⟨q, v, ?_, ?_⟩
    · rw [show (p + 15 - 0) % 15 = p by omega]; exact List.mem_cons.mpr (Or.inl rfl)
    · rw [show min (h + 1) 14 - 1 - 0 = min h 13 by omega]; exact hs
  · obtain ⟨q', v', a, b⟩ := g3 (k - 1) (by omega)
    refine ⟨q', v', ?_, snap_eq b (fun j hj => ?_)⟩
    · rw [show (p + 15 - k) % 15 = (nw + 15 - (k - 1)) % 15 by omega]
      exact L_in hL a (by omega)
    · rw [hd _ (by omega) j hj]
      by_cases e : h = 14
      · rw [if_pos e, show min (h + 1) 14 - 1 - k + 1 = h - 1 - (k - 1) by omega]
      · rw [if_neg e, show min (h + 1) 14 - 1 - k + 0 = h - 1 - (k - 1) by omega]
theorem HI_undo (H : HI h nw L dia kep isk cr cs) (hh : 0 < h) : HI (h - 1) ((nw + 14) % 15) L dia kep isk cr cs := by
  obtain ⟨g1, g2, g3, g4, g5⟩ := H
  refine ⟨⟨by omega, by omega⟩, g2, fun k hk => ?_, g4, g5⟩
  obtain ⟨q', v', a, b⟩ := g3 (k + 1) (by omega)
  refine ⟨q', v', ?_, ?_⟩
  · rw [show ((nw + 14) % 15 + 15 - k) % 15 = (nw + 15 - (k + 1)) % 15 by omega]; exact a
  · rw [show h - 1 - 1 - k = h - 1 - (k + 1) by omega]; exact b
theorem HI_top (H : HI h nw L dia kep isk cr cs) (hh : 0 < h) : ∃ q v, ((nw, q, v) : LE) ∈ L ∧ cr nw = some (q 0) ∧ snap v dia (1343 * (h - 1)) := by
  obtain ⟨g1, g2, g3, g4, g5⟩ := H
  obtain ⟨q', v', a, b⟩ := g3 0 hh
  rw [show (nw + 15 - 0) % 15 = nw by omega] at a
  rcases g4 nw g1.2 with ⟨-, c⟩ | ⟨q2, v2, c, d⟩
  · exact absurd rfl (c _ a)
  · have e := L_one g2 a c rfl
    cases e
    exact ⟨q', v', a, d, by rw [show h - 1 = h - 1 - 0 by omega]; exact b⟩
theorem HI_zero (H : HI h nw L dia kep isk cr cs) : HI 0 nw L dia kep isk cr cs := ⟨⟨by omega, H.1.2⟩, H.2.1, fun k hk => absurd hk (Nat.not_lt_zero _), H.2.2.2.1, H.2.2.2.2⟩
theorem HI_save {s : Nat} (H : HI h nw L dia kep isk cr cs) (hs : s < 2) (hL : ∀ e, e ∈ L' ↔ e ∈ L ∧ e.1 ≠ 15 + s) (hn : (L'.map (fun e => e.1)).Nodup) (h1 : cs' s = some (q 0)) (h2 : ∀ j, j ≠ s → cs' j = cs j) (h3 : isk' s = 1) (h4 : ∀ j, j ≠ s → isk' j = isk j)
    (hv : snap v kep' (1343 * s)) (hd : ∀ t, t ≠ s → ∀ j, j < 1343 → kep' (1343 * t + j) = kep (1343 * t + j)) : HI h nw (((15 + s, q, v) : LE) :: L') dia kep' isk' cr cs' := by
  obtain ⟨g1, g2, g3, g4, g5⟩ := H
  refine ⟨g1, L_cons hL hn, fun k hk => ?_, fun j hj => ?_, fun t ht => ?_⟩
  · obtain ⟨q', v', a, b⟩ := g3 k hk
    exact ⟨q', v', L_in hL a (by omega), b⟩
  · rcases g4 j hj with ⟨a, b⟩ | ⟨q', v', a, b⟩
    · exact Or.inl ⟨a, L_out hL b (by omega)⟩
    · exact Or.inr ⟨q', v', L_in hL a (by omega), b⟩
  · by_cases e : t = s
    · subst e; exact Or.inr ⟨q, v, List.mem_cons.mpr (Or.inl rfl), h1, h3, hv⟩
    · rcases g5 t ht with ⟨a, b, c⟩ | ⟨q', v', a, b, c, d⟩
      · exact Or.inl ⟨by rw [h2 t e]; exact a, by rw [h4 t e]; exact b, L_out hL c (by omega)⟩
      · exact Or.inr ⟨q', v', L_in hL a (by omega), by rw [h2 t e]; exact b, by rw [h4 t e]; exact c, snap_eq d (hd t e)⟩
theorem HI_init {dia kep : Nat → Int32} : HI 0 0 [] dia kep (fun _ => 0) (fun _ => none) (fun _ => none) := ⟨⟨by omega, by omega⟩, List.nodup_nil, fun k hk => absurd hk (Nat.not_lt_zero _), fun j _ => Or.inl ⟨rfl, fun _ h => by cases h⟩, fun s _ => Or.inl ⟨rfl, rfl, fun _ h => by cases h⟩⟩
end
/-- THE MODEL REMEMBERS -/
theorem shift_ok (dia : Nat → Int32) : ∃ d, loopF (fun (z : Int32 × (Nat → Int32)) => fX7_remember_L11 z.1 z.2) FUEL ((0 : Int32), dia) = some d ∧ ∀ j, j < 17459 → d j = dia (j + 1343) := by
  obtain ⟨x, hx, h1⟩ := loopF_ex (fun (z : Int32 × (Nat → Int32)) => fX7_remember_L11 z.1 z.2)
    (fun i z => z.1 = nI i ∧ (∀ j, j < i → z.2 j = dia (j + 1343)) ∧ ∀ j, i ≤ j → z.2 j = dia j)
    (fun x => ∀ j, j < 17459 → x j = dia (j + 1343)) 0 17459 (by omega) (fun i z _ hi hz => Or.inl (by
      obtain ⟨z1, d⟩ := z
      obtain ⟨rfl, g1, g2⟩ := hz
      dsimp only at g1 g2
      refine ⟨(nI (i + 1), upd d i (d (i + 1343))), ?_, rfl, fun j hj => ?_, fun j hj => ?_⟩
      · show fX7_remember_L11 (nI i) d = _
        unfold fX7_remember_L11
        rw [if_neg (show ¬ (17459 : Int32) ≤ nI i from nI_ge (b := 17459) hi (by omega)), show (1343 : Int32) = nI 1343 from rfl, nI_add, gk (by omega) (by omega), gk (by omega) (by omega), b1_so, nI_clamp (by omega), nI_clamp (by omega), nI_1]
      · dsimp only
        by_cases q : j = i
        · rw [q, pk_us]; exact g2 _ (by omega)
        · rw [pk_un q]; exact g1 j (by omega)
      · dsimp only
        rw [pk_un (by omega)]; exact g2 j (by omega))) (fun z hz => by
      obtain ⟨z1, d⟩ := z
      obtain ⟨rfl, g1, g2⟩ := hz
      refine ⟨d, ?_, g1⟩
      show fX7_remember_L11 (nI 17459) d = _
      unfold fX7_remember_L11
      rw [if_pos (show (17459 : Int32) ≤ nI 17459 from Int32.le_refl _)]) ((0 : Int32), dia) ⟨rfl, fun j hj => absurd hj (Nat.not_lt_zero _), fun _ _ => rfl⟩ FUEL (by unfold FUEL; omega)
  exact ⟨x, hx, h1⟩
theorem mrem_ok {c : Nat → Int32} {r : Nat → Nat} (hr : rowOk 1343 c r) {h : Nat} (hh : h ≤ 14) (dia : Nat → Int32) : ∃ dia', fX7_remember (nI h) c dia = some (nI (min (h + 1) 14), dia') ∧
    (∀ j, j < 1343 → dia' (1343 * min h 13 + j) = nI (r j)) ∧ ∀ k, k < min h 13 → ∀ j, j < 1343 → dia' (1343 * k + j) = dia (1343 * (k + if h = 14 then 1 else 0) + j) := by
  unfold fX7_remember
  by_cases e : h = 14
  · subst e
    obtain ⟨d, e1, e2⟩ := shift_ok dia
    obtain ⟨d', e3, e4, e5⟩ := cpst_ok (a := 0) (b := 17459) (n := 1343) (m := 18802) c d (by omega) (by omega) (by omega) (by omega)
    rw [if_pos (show nI 14 = (14 : Int32) from rfl), e1, b1_so, show (1343 : Int32) * (nI 14 - 1) = nI 17459 by decide, show (0 : Int32) = nI 0 from rfl, e3, b1_so]
    refine ⟨d', by rw [show nI 14 - 1 + 1 = nI (min (14 + 1) 14) by decide], fun j hj => ?_, fun k hk j hj => ?_⟩
    · have := e4 j hj
      rw [Nat.zero_add] at this
      rw [show 1343 * min 14 13 + j = 17459 + j by omega, this]; exact hr j hj
    · rw [e5 _ (Or.inl (by omega)), e2 _ (by omega), if_pos rfl]
      rw [show 1343 * k + j + 1343 = 1343 * (k + 1) + j by omega]
  · obtain ⟨d', e3, e4, e5⟩ := cpst_ok (a := 0) (b := 1343 * h) (n := 1343) (m := 18802) c dia (by omega) (by omega) (by omega) (by omega)
    rw [if_neg (show ¬ nI h = (14 : Int32) from fun z => e ((nI_eq (b := 14) (by omega) (by omega)).mp z)), show (1343 : Int32) = nI 1343 from rfl, pk_mul, show (0 : Int32) = nI 0 from rfl, e3, b1_so, nI_1]
    refine ⟨d', by rw [show min (h + 1) 14 = h + 1 by omega], fun j hj => ?_, fun k hk j hj => ?_⟩
    · have := e4 j hj
      rw [Nat.zero_add] at this
      rw [show min h 13 = h by omega, this]; exact hr j hj
    · rw [e5 _ (Or.inl (by omega)), if_neg e, Nat.add_zero]
theorem x15 {x : Nat} (hx : x < 2 ^ 31) : xrem (nI x) (15 : Int32) = nI (x % 15) := pk_rem (d := 15) hx (by omega) (by omega)
theorem ccommit_ok {h nw : Nat} (hh : h ≤ 14) (hw : nw < 15) : fX1_commit (nI nw) (nI h) = (nI ((nw + 1) % 15), nI (min (h + 1) 14)) := by
  have e : xmin (nI (h + 1)) (14 : Int32) = nI (min (h + 1) 14) := by
    unfold xmin
    by_cases z : h = 14
    · subst z; rfl
    · rw [if_neg (show ¬ (14 : Int32) < nI (h + 1) from fun (q : nI 14 < nI (h + 1)) => absurd (nI_le (a := h + 1) (b := 14) (by omega) (by omega)) (Int32.not_le.mpr q)), show min (h + 1) 14 = h + 1 by omega]
  unfold fX1_commit
  rw [nI_1, nI_1, x15 (by omega), e]
theorem cplace_rem {nw : Nat} (hw : nw < 15) : xrem (nI nw + (1 : Int32)) (15 : Int32) = nI ((nw + 1) % 15) := by
  rw [nI_1, x15 (by omega)]
theorem cdrop1_ok {h nw : Nat} (hh : h ≤ 14) (h0 : 0 < h) (hw : nw < 15) : fX1_dropNewest (nI nw) (nI h) = (nI ((nw + 14) % 15), nI (h - 1)) := by
  have e : nI nw + (15 : Int32) - (1 : Int32) = nI (nw + 14) := by
    rw [show (15 : Int32) = nI 15 from rfl, nI_add, show (1 : Int32) = nI 1 from rfl, pk_sub (by omega), show nw + 15 - 1 = nw + 14 by omega]
  have e2 : nI h - (1 : Int32) = nI (h - 1) := by
    rw [show (1 : Int32) = nI 1 from rfl, pk_sub (by omega)]
  unfold fX1_dropNewest
  rw [e, x15 (by omega), e2]
end XPURE62
