/-! PURE, 10: the state, laying a point -/
section XPURE10
def updN (r : Nat → Nat) (k v : Nat) : Nat → Nat := fun j => if j = k then v else r j
theorem updN_s {r : Nat → Nat} {k v : Nat} : updN r k v k = v := if_pos rfl
theorem updN_n {r : Nat → Nat} {k v j : Nat} (h : j ≠ k) : updN r k v j = r j := if_neg h
theorem rowOk_upd {N : Nat} {c : Nat → Int32} {r : Nat → Nat} (h : rowOk N c r) (k v : Nat) : rowOk N (upd c k (nI v)) (updN r k v) := fun j hj => by
  by_cases q : j = k
  · subst q; rw [pk_us, updN_s]
  · rw [pk_un q, updN_n q]; exact h j hj
theorem k0 : ((0 : Int32)).toNatClampNeg = 0 := by decide
theorem gk0 {α : Type} {n : Nat} {K : Option α} (h : 0 < n) : (if (0 : Int32) < 0 ∨ n ≤ ((0 : Int32)).toNatClampNeg then none else K) = K := if_neg (by
  rw [k0]
  intro q
  rcases q with q | q
  · exact absurd q (by decide)
  · omega)
/-- a place's figure in the row: the samples' and, at 16, the one at hand -/
def offM (p : Nat) : Nat := if p = 16 then 0 else atM p
def plc (r : Nat → Nat) (p : Nat) : Prop := p = 16 ∨ p < r 110
theorem off16 : offM 16 = 0 := rfl
theorem offS {s : Nat} (h : s < 16) : offM s = atM s := if_neg (by omega)
/-- the row's invariant -/
def rI (r : Nat → Nat) : Prop := (∀ p, plc r p → figI r (offM p) (r 77)) ∧ (5 ≤ r 77 ∧ r 77 ≤ 20) ∧ r 78 ≤ 99 ∧ (1 ≤ r 79 ∧ r 79 ≤ 20) ∧ r 110 ≤ 16 ∧ (r 76 ≤ 1 ∧ (r 76 = 1 → 1 ≤ r 0)) ∧ ∀ s, s < r 110 → r (atM s + 76) ≤ 9
/-- the class's cells of a state -/
def CS (r : Nat → Nat) (sm pd : Int32) (st le po sc sg na se ou : Nat → Int32) : Prop :=
  sm = nI (r 110) ∧ pd = nI (r 76) ∧ (∀ p, plc r p → figC st le po p r (offM p) ∧ sgC sc sg p (sigM r (offM p) (r 77))) ∧ (∀ s, s < r 110 → na s = nI (r (atM s + 76))) ∧ (∀ w, w < 3 → se w = nI (r (77 + w))) ∧ ∀ n, n < 10 → ∀ o, o < 3 → ou (3 * n + o) = nI (r (80 + 10 * o + n))
theorem rI.h16 {r : Nat → Nat} (h : rI r) : r 110 ≤ 16 := h.2.2.2.2.1
theorem rI.hand {r : Nat → Nat} (h : rI r) : figI r 0 (r 77) := h.1 16 (Or.inl rfl)
theorem rI.smp {r : Nat → Nat} (h : rI r) {s : Nat} (hs : s < r 110) : figI r (atM s) (r 77) := by
  have := h.1 s (Or.inr hs)
  rw [offS (by have := h.h16; omega)] at this; exact this
theorem rI.nm {r : Nat → Nat} (h : rI r) {s : Nat} (hs : s < r 110) : r (atM s + 76) ≤ 9 := h.2.2.2.2.2.2 s hs
theorem CS.handF {r : Nat → Nat} {sm pd : Int32} {st le po sc sg na se ou : Nat → Int32} (h : CS r sm pd st le po sc sg na se ou) : figC st le po 16 r 0 := (h.2.2.1 16 (Or.inl rfl)).1
theorem CS.handS {r : Nat → Nat} {sm pd : Int32} {st le po sc sg na se ou : Nat → Int32} (h : CS r sm pd st le po sc sg na se ou) : sgC sc sg 16 (sigM r 0 (r 77)) := (h.2.2.1 16 (Or.inl rfl)).2
/-- only the figure at hand has changed -/
theorem CS_hand {r r' : Nat → Nat} {sm pd pd' : Int32} {st le po sc sg na se ou st' le' po' sc' sg' : Nat → Int32} (hI : rI r) (h : CS r sm pd st le po sc sg na se ou) (ha : ∀ j, 77 ≤ j → r' j = r j) (hp : pd' = nI (r' 76)) (h1 : figFr 16 st le po st' le' po') (h2 : sgFr 16 sc sg sc' sg') (h3 : figC st' le' po' 16 r' 0) (h4 : sgC sc' sg' 16 (sigM r' 0 (r 77))) : CS r' sm pd' st' le' po' sc' sg' na se ou := by
  have e110 := ha 110 (by omega)
  have e77 := ha 77 (by omega)
  have h16 := hI.h16
  refine ⟨by rw [e110]; exact h.1, hp, fun p q => ?_, fun s hs => ?_, fun w hw => ?_, fun n hn o ho => ?_⟩
  · rw [e77]
    rcases q with rfl | q
    · exact ⟨h3, h4⟩
    · rw [e110] at q
      obtain ⟨g1, g2⟩ := h.2.2.1 p (Or.inr q)
      rw [offS (by omega)] at g1 g2 ⊢
      have hs := hI.smp q
      have hq : figEq r (atM p) r' (atM p) := figEq_of (fun j _ => ha _ (by unfold atM; omega)) hs.1.1.2.1
      rw [sigM_eq (r 77) hq hs.1.1.1]
      exact ⟨figC_eq hq hs.1.1.1 (figC_fr hs.1.1 h1 (by omega) g1), sgC_fr hs.2 h2 (by omega) g2⟩
  · rw [e110] at hs
    rw [ha _ (by unfold atM; omega)]; exact h.2.2.2.1 s hs
  · rw [ha _ (by omega)]; exact h.2.2.2.2.1 w hw
  · rw [ha _ (by omega)]; exact h.2.2.2.2.2 n hn o ho
theorem rI_hand {r r' : Nat → Nat} (hI : rI r) (ha : ∀ j, 77 ≤ j → r' j = r j) (hf : figI r' 0 (r 77)) (h76 : r' 76 ≤ 1 ∧ (r' 76 = 1 → 1 ≤ r' 0)) : rI r' := by
  have e110 := ha 110 (by omega)
  have e77 := ha 77 (by omega)
  have h16 := hI.h16
  refine ⟨fun p q => ?_, by rw [e77]; exact hI.2.1, by rw [ha 78 (by omega)]; exact hI.2.2.1, by rw [ha 79 (by omega)]; exact hI.2.2.2.1, by rw [e110]; exact h16, h76, fun s hs => ?_⟩
  · rw [e77]
    rcases q with rfl | q
    · exact hf
    · rw [e110] at q
      have hs := hI.smp q
      rw [offS (by omega)]
      exact figI_eq (figEq_of (fun j _ => ha _ (by unfold atM; omega)) hs.1.1.2.1) (figOk_of (fun j _ => ha _ (by unfold atM; omega)) hs.1.1) hs
  · rw [e110] at hs
    rw [ha _ (by unfold atM; omega)]; exact hI.nm hs
/-- rows that differ in unused points of the figure at hand alone -/
def rLike (r r' : Nat → Nat) : Prop := (∀ j, 76 ≤ j → r' j = r j) ∧ figEq r 0 r' 0 ∧ figOk r' 0
theorem rLike.refl {r : Nat → Nat} (h : rI r) : rLike r r := ⟨fun _ _ => rfl, figEq.refl r 0, h.hand.1.1⟩
theorem rI_like {r r' : Nat → Nat} (hI : rI r) (h : rLike r r') : rI r' := rI_hand hI (fun j hj => h.1 j (by omega)) (figI_eq h.2.1 h.2.2 hI.hand) (by rw [h.1 76 (by omega), h.2.1.1]; exact hI.2.2.2.2.2.1)
theorem CS_like {r r' : Nat → Nat} {sm pd : Int32} {st le po sc sg na se ou : Nat → Int32} (hI : rI r) (h : CS r sm pd st le po sc sg na se ou) (hl : rLike r r') : CS r' sm pd st le po sc sg na se ou :=
  CS_hand hI h (fun j hj => hl.1 j (by omega)) (by rw [hl.1 76 (by omega)]; exact h.2.1) ⟨fun _ _ => rfl, fun _ _ => rfl, fun _ _ => rfl⟩ sgFr_rf (figC_eq hl.2.1 hI.hand.1.1.1 h.handF) (by rw [sigM_eq _ hl.2.1 hI.hand.1.1.1]; exact h.handS)
/-- where a point goes: stroke, place; the row behind it -/
def layS (r : Nat → Nat) : Nat := if r 76 = 0 then r 0 else r 0 - 1
def layP (r : Nat → Nat) : Nat := 4 + 24 * layS r + 2 * r (1 + layS r)
def layR (r : Nat → Nat) (x y : Nat) : Nat → Nat := updN (updN (updN (updN (updN r 0 (layS r + 1)) (layP r) x) (layP r + 1) y) (1 + layS r) (r (1 + layS r) + 1)) 76 1
def layC (r : Nat → Nat) : Bool := if r 76 = 0 then decide (r 0 < 3) else decide (r (1 + layS r) < 12)
def layW (r : Nat → Nat) (x y : Nat) : List Nat := if r 76 = 0 then (if r 0 = 0 then [] else [4]) else crossM (pX r 0 (layS r) (r (1 + layS r) - 1)) (pY r 0 (layS r) (r (1 + layS r) - 1)) x y (r 77)
def layOk (r : Nat → Nat) (x y : Nat) : Bool := layC r && decide ((sigM (layR r x y) 0 (r 77)).length ≤ 40)
theorem layR_at (r : Nat → Nat) (x y j : Nat) : layR r x y j = if j = 76 then 1 else if j = 1 + layS r then r (1 + layS r) + 1 else if j = layP r + 1 then y else if j = layP r then x else if j = 0 then layS r + 1 else r j := rfl
theorem lay_facts {r : Nat → Nat} (h : rI r) (hc : layC r = true) : layS r < 3 ∧ r (1 + layS r) < 12 ∧ ((r 76 = 0 ∧ r (1 + layS r) = 0 ∧ layS r = r 0) ∨ (r 76 = 1 ∧ 1 ≤ r (1 + layS r) ∧ layS r + 1 = r 0)) := by
  have h76 := h.2.2.2.2.2.1
  have hs := h.hand.1
  have h3 := hs.1.1
  unfold layC at hc
  by_cases q : r 76 = 0
  · rw [if_pos q] at hc
    have hc := of_decide_eq_true hc
    have e : layS r = r 0 := if_pos q
    have z := (hs.2 (r 0) hc).2 (Nat.le_refl _)
    rw [Nat.zero_add] at z
    rw [e]
    exact ⟨hc, by omega, Or.inl ⟨q, z, rfl⟩⟩
  · rw [if_neg q] at hc
    have hc := of_decide_eq_true hc
    have e : layS r = r 0 - 1 := if_neg q
    have g := h76.2 (by omega)
    have z := (hs.2 (r 0 - 1) (by omega)).1 (by omega)
    rw [Nat.zero_add] at z
    rw [e] at hc ⊢
    exact ⟨by omega, hc, Or.inr ⟨by omega, z, by omega⟩⟩
theorem layP_le {r : Nat → Nat} (h1 : layS r < 3) (h2 : r (1 + layS r) < 12) : 4 ≤ layP r ∧ layP r + 1 ≤ 75 := by unfold layP; omega
theorem lay_hi {r : Nat → Nat} (h1 : layS r < 3) (h2 : r (1 + layS r) < 12) (x y : Nat) {j : Nat} (hj : 77 ≤ j) : layR r x y j = r j := by
  have := layP_le h1 h2
  rw [layR_at, if_neg (by omega), if_neg (by omega), if_neg (by omega), if_neg (by omega), if_neg (by omega)]
theorem lay_old {r : Nat → Nat} (h1 : layS r < 3) (h2 : r (1 + layS r) < 12) (x y : Nat) {t i : Nat} (ht : t < 3) (hi : i < 12) (hn : t ≠ layS r ∨ i ≠ r (1 + layS r)) : pX (layR r x y) 0 t i = pX r 0 t i ∧ pY (layR r x y) 0 t i = pY r 0 t i := by
  have e : layP r = 4 + 24 * layS r + 2 * r (1 + layS r) := rfl
  unfold pX pY
  rw [layR_at, layR_at]
  refine ⟨?_, ?_⟩
  · rw [if_neg (by omega), if_neg (by omega), if_neg (by omega), if_neg (by omega), if_neg (by omega)]
  · rw [if_neg (by omega), if_neg (by omega), if_neg (by omega), if_neg (by omega), if_neg (by omega)]
theorem lay_new {r : Nat → Nat} (h1 : layS r < 3) (h2 : r (1 + layS r) < 12) (x y : Nat) : pX (layR r x y) 0 (layS r) (r (1 + layS r)) = x ∧ pY (layR r x y) 0 (layS r) (r (1 + layS r)) = y := by
  have e : layP r = 4 + 24 * layS r + 2 * r (1 + layS r) := rfl
  unfold pX pY
  rw [layR_at, layR_at]
  refine ⟨?_, ?_⟩
  · rw [if_neg (by omega), if_neg (by omega), if_neg (by omega), if_pos (by omega)]
  · rw [if_neg (by omega), if_neg (by omega), if_pos (by omega)]
theorem lay_len {r : Nat → Nat} (h1 : layS r < 3) (h2 : r (1 + layS r) < 12) (x y : Nat) {t : Nat} (ht : t < 3) : layR r x y (0 + 1 + t) = if t = layS r then r (1 + layS r) + 1 else r (0 + 1 + t) := by
  have := layP_le h1 h2
  rw [layR_at, if_neg (by omega)]
  by_cases q : t = layS r
  · rw [if_pos (by omega), if_pos q]
  · rw [if_neg (by omega), if_neg q, if_neg (by omega), if_neg (by omega), if_neg (by omega)]
theorem lay_0 {r : Nat → Nat} (h1 : layS r < 3) (h2 : r (1 + layS r) < 12) (x y : Nat) : layR r x y 0 = layS r + 1 := by
  have := layP_le h1 h2
  rw [layR_at, if_neg (by omega), if_neg (by omega), if_neg (by omega), if_neg (by omega), if_pos rfl]
theorem lay_sig {r : Nat → Nat} (h : rI r) (hc : layC r = true) (x y : Nat) : sigM (layR r x y) 0 (r 77) = sigM r 0 (r 77) ++ layW r x y := by
  obtain ⟨h1, h2, h3⟩ := lay_facts h hc
  have h12 := h.hand.1.1.2.1
  have hst : sgM (layR r x y) 0 (r 77) (layS r) = sgM r 0 (r 77) (layS r) := sgM_eq _ (fun t ht => ⟨by rw [lay_len h1 h2 x y (by omega), if_neg (by omega)], fun i hi => lay_old h1 h2 x y (by omega) (by have := h12 t (by omega); omega) (Or.inl (by omega))⟩)
  have hsg : segM (layR r x y) 0 (r 77) (layS r) (r (1 + layS r)) = segM r 0 (r 77) (layS r) (r (1 + layS r)) := segM_eq (K := r (1 + layS r)) (fun i hi => lay_old h1 h2 x y h1 (by omega) (Or.inr (by omega))) _ (Nat.le_refl _)
  have e1 : sigM (layR r x y) 0 (r 77) = (sgM (layR r x y) 0 (r 77) (layS r) ++ (if layS r = 0 then [] else [4])) ++ segM (layR r x y) 0 (r 77) (layS r) (r (1 + layS r) + 1) := by
    unfold sigM
    rw [lay_0 h1 h2]
    show (_ ++ _) ++ segM _ _ _ _ (layR r x y (0 + 1 + layS r)) = _
    rw [lay_len h1 h2 x y h1, if_pos rfl]
  have e2 : segM (layR r x y) 0 (r 77) (layS r) (r (1 + layS r) + 1) = segM (layR r x y) 0 (r 77) (layS r) (r (1 + layS r)) ++ (if r (1 + layS r) = 0 then [] else crossM (pX (layR r x y) 0 (layS r) (r (1 + layS r) - 1)) (pY (layR r x y) 0 (layS r) (r (1 + layS r) - 1)) (pX (layR r x y) 0 (layS r) (r (1 + layS r))) (pY (layR r x y) 0 (layS r) (r (1 + layS r))) (r 77)) := rfl
  rw [e1, e2, hst, hsg]
  unfold layW
  rcases h3 with ⟨q1, q2, q3⟩ | ⟨q1, q2, q3⟩
  · rw [if_pos q1, if_pos q2, q2, q3]
    show (sgM r 0 (r 77) (r 0) ++ _) ++ ([] ++ []) = _
    rw [List.append_nil, List.append_nil]; rfl
  · rw [if_neg (show ¬ r (1 + layS r) = 0 by omega), if_neg (show ¬ r 76 = 0 by omega), (lay_old h1 h2 x y h1 (i := r (1 + layS r) - 1) (by omega) (Or.inr (by omega))).1, (lay_old h1 h2 x y h1 (i := r (1 + layS r) - 1) (by omega) (Or.inr (by omega))).2, (lay_new h1 h2 x y).1, (lay_new h1 h2 x y).2]
    unfold sigM
    rw [← q3]
    show _ = ((sgM r 0 (r 77) (layS r) ++ _) ++ segM r 0 (r 77) (layS r) (r (0 + 1 + layS r))) ++ _
    rw [Nat.zero_add, List.append_assoc, List.append_assoc, List.append_assoc]
theorem lay_shape {r : Nat → Nat} (h : rI r) (hc : layC r = true) {x y : Nat} (hx : x ≤ 60) (hy : y ≤ 60) : shapeI (layR r x y) 0 := by
  obtain ⟨h1, h2, h3⟩ := lay_facts h hc
  have hs := h.hand.1
  have hP := layP_le h1 h2
  refine ⟨⟨by rw [lay_0 h1 h2]; omega, fun t ht => ?_, fun j hj => ?_⟩, fun t ht => ?_⟩
  · have := hs.1.2.1 t ht
    rw [lay_len h1 h2 x y ht]
    split <;> omega
  · have := hs.1.2.2 j hj
    rw [layR_at]
    rw [if_neg (by omega), if_neg (by omega)]
    split
    · exact hy
    · split
      · exact hx
      · rw [if_neg (by omega)]; exact this
  · have g := hs.2 t ht
    rw [lay_len h1 h2 x y ht, lay_0 h1 h2]
    rcases h3 with ⟨q1, q2, q3⟩ | ⟨q1, q2, q3⟩
    · refine ⟨fun z => ?_, fun z => ?_⟩
      · split
        · omega
        · exact g.1 (by omega)
      · rw [if_neg (by omega)]; exact g.2 (by omega)
    · refine ⟨fun z => ?_, fun z => ?_⟩
      · split
        · omega
        · exact g.1 (by omega)
      · rw [if_neg (by omega)]; exact g.2 (by omega)
theorem rI_lay {r : Nat → Nat} (h : rI r) {x y : Nat} (hx : x ≤ 60) (hy : y ≤ 60) (ho : layOk r x y = true) : rI (layR r x y) := by
  unfold layOk at ho
  rw [Bool.and_eq_true] at ho
  obtain ⟨h1, h2, -⟩ := lay_facts h ho.1
  have e76 : layR r x y 76 = 1 := rfl
  exact rI_hand h (fun j hj => lay_hi h1 h2 x y hj) ⟨lay_shape h ho.1 hx hy, of_decide_eq_true ho.2⟩ ⟨by rw [e76]; omega, fun _ => by rw [lay_0 h1 h2]; omega⟩
/-- the row of a point that is taken back -/
def bakR (r : Nat → Nat) (x y b : Nat) : Nat → Nat := updN (updN (updN (updN (updN (layR r x y) (1 + layS r) (r (1 + layS r))) (layP r) 0) (layP r + 1) 0) 0 (r 0)) 76 b
theorem bak_like {r : Nat → Nat} (h : rI r) (hc : layC r = true) (x y : Nat) : rLike r (bakR r x y (r 76)) := by
  obtain ⟨h1, h2, h3⟩ := lay_facts h hc
  have hP := layP_le h1 h2
  have hs := h.hand.1
  have at_ : ∀ j, bakR r x y (r 76) j = if j = 76 then r 76 else if j = 0 then r 0 else if j = layP r + 1 then 0 else if j = layP r then 0 else if j = 1 + layS r then r (1 + layS r) else layR r x y j := fun _ => rfl
  have hlo : ∀ j, j ≠ layP r → j ≠ layP r + 1 → bakR r x y (r 76) j = r j := by
    intro j q1 q2
    rw [at_]
    by_cases a1 : j = 76
    · rw [if_pos a1, a1]
    · rw [if_neg a1]
      by_cases a2 : j = 0
      · rw [if_pos a2, a2]
      · rw [if_neg a2, if_neg q2, if_neg q1]
        by_cases a3 : j = 1 + layS r
        · rw [if_pos a3, a3]
        · rw [if_neg a3, layR_at, if_neg a1, if_neg a3, if_neg q2, if_neg q1, if_neg a2]
  have e : layP r = 4 + 24 * layS r + 2 * r (1 + layS r) := rfl
  refine ⟨fun j hj => hlo j (by omega) (by omega), ⟨hlo 0 (by omega) (by omega), fun t ht => ⟨hlo _ (by omega) (by omega), fun i hi => ?_⟩⟩, ?_⟩
  · have h12 := hs.1.2.1 t ht
    have hi2 : t ≠ layS r ∨ i ≠ r (1 + layS r) := by
      by_cases q : t = layS r
      · right
        rw [q, Nat.zero_add] at hi
        omega
      · exact Or.inl q
    exact ⟨hlo _ (by omega) (by omega), hlo _ (by omega) (by omega)⟩
  · refine ⟨by rw [hlo 0 (by omega) (by omega)]; exact hs.1.1, fun t ht => by rw [hlo _ (by omega) (by omega)]; exact hs.1.2.1 t ht, fun j hj => ?_⟩
    by_cases q1 : 0 + 4 + j = layP r
    · rw [at_, if_neg (by omega), if_neg (by omega), if_neg (by omega), if_pos q1]; omega
    · by_cases q2 : 0 + 4 + j = layP r + 1
      · rw [at_, if_neg (by omega), if_neg (by omega), if_pos q2]; omega
      · rw [hlo _ q1 q2]; exact hs.1.2.2 j hj
end XPURE10
