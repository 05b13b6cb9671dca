/-! PURE, 22: texts; the model reads a text -/
section XPURE22
/-- a text: n characters t -/
def txC (n : Nat) (t : Nat → Nat) (c : Nat → Int32) : Prop := n ≤ 100 ∧ ∀ j, j < n → c j = nI (t j) ∧ t j ≤ 255
def dgM (t : Nat → Nat) (n i : Nat) : Option Nat := if i < n ∧ 48 ≤ t i ∧ t i ≤ 57 then some (t i - 48) else none
def numM (t : Nat → Nat) (n p : Nat) : Option (Nat × Nat) := match dgM t n p with
  | none => none
  | some v => if 0 < v then (match dgM t n (p + 1) with
    | none => some (v, p + 1)
    | some w => if 10 * v + w ≤ 60 then some (10 * v + w, p + 2) else some (v, p + 1)) else some (v, p + 1)
theorem dg_some {t : Nat → Nat} {n i v : Nat} (h : dgM t n i = some v) : i < n ∧ 48 ≤ t i ∧ t i ≤ 57 ∧ v = t i - 48 := by
  unfold dgM at h
  split at h
  · rename_i q
    cases h
    exact ⟨q.1, q.2.1, q.2.2, rfl⟩
  · cases h
theorem dg_none {t : Nat → Nat} {n i : Nat} (h : dgM t n i = none) : i < n → (t i < 48 ∨ 57 < t i) := by
  intro hi
  unfold dgM at h
  split at h
  · cases h
  · omega
theorem num_cases (t : Nat → Nat) (n p : Nat) : (numM t n p = none ∧ dgM t n p = none) ∨
    (∃ v, numM t n p = some (v, p + 1) ∧ dgM t n p = some v ∧ ∀ w, dgM t n (p + 1) = some w → ¬ (0 < v ∧ 10 * v + w ≤ 60)) ∨
    (∃ a b, numM t n p = some (10 * a + b, p + 2) ∧ dgM t n p = some a ∧ dgM t n (p + 1) = some b ∧ 0 < a ∧ 10 * a + b ≤ 60) := by
  unfold numM
  cases h1 : dgM t n p with
  | none => exact Or.inl ⟨rfl, rfl⟩
  | some v =>
    right
    dsimp only
    by_cases q : 0 < v
    · rw [if_pos q]
      cases h2 : dgM t n (p + 1) with
      | none => exact Or.inl ⟨v, rfl, rfl, fun w hw => by cases hw⟩
      | some w =>
        dsimp only
        by_cases y : 10 * v + w ≤ 60
        · rw [if_pos y]; exact Or.inr ⟨v, w, rfl, rfl, rfl, q, y⟩
        · rw [if_neg y]; exact Or.inl ⟨v, rfl, rfl, fun w2 hw => by cases hw; exact fun z => y z.2⟩
    · rw [if_neg q]; exact Or.inl ⟨v, rfl, rfl, fun w hw z => q z.1⟩
theorem num_le {t : Nat → Nat} {n p : Nat} {q : Nat × Nat} (h : numM t n p = some q) : q.1 ≤ 60 ∧ p < q.2 ∧ q.2 ≤ n ∧ q.2 ≤ p + 2 := by
  rcases num_cases t n p with ⟨e, -⟩ | ⟨v, e, d, -⟩ | ⟨a, b, e, d, d2, h1, h2⟩
  · rw [e] at h; cases h
  · rw [e] at h; cases h
    have := dg_some d
    exact ⟨show v ≤ 60 by omega, show p < p + 1 by omega, show p + 1 ≤ n by omega, show p + 1 ≤ p + 2 by omega⟩
  · rw [e] at h; cases h
    have := dg_some d2
    exact ⟨show 10 * a + b ≤ 60 by omega, show p < p + 2 by omega, show p + 2 ≤ n by omega, show p + 2 ≤ p + 2 by omega⟩
def ptM (t : Nat → Nat) (n p : Nat) : (Nat × Nat × Nat) ⊕ Nat := match numM t n p with
  | none => .inr p
  | some a => if a.2 < n ∧ t a.2 = 44 then (match numM t n (a.2 + 1) with
    | none => .inr (a.2 + 1)
    | some b => .inl (a.1, b.1, b.2)) else .inr a.2
def prs (t : Nat → Nat) (n : Nat) : Nat → Nat → Nat → Nat → List (Nat × Nat × Bool) × Option Nat
  | 0, _, _, p => ([], some p)
  | f + 1, k, m, p => match ptM t n p with
    | .inr e => ([], some e)
    | .inl w => if w.2.2 < n ∧ t w.2.2 = 45 ∧ m < 12 then ((w.1, w.2.1, false) :: (prs t n f k (m + 1) (w.2.2 + 1)).1, (prs t n f k (m + 1) (w.2.2 + 1)).2)
      else if w.2.2 < n ∧ t w.2.2 = 47 ∧ k < 3 then ((w.1, w.2.1, true) :: (prs t n f (k + 1) 1 (w.2.2 + 1)).1, (prs t n f (k + 1) 1 (w.2.2 + 1)).2)
      else ([(w.1, w.2.1, true)], if w.2.2 < n then some w.2.2 else none)
theorem pt_le {t : Nat → Nat} {n p : Nat} {w : Nat × Nat × Nat} (h : ptM t n p = .inl w) : w.1 ≤ 60 ∧ w.2.1 ≤ 60 ∧ p + 3 ≤ w.2.2 ∧ w.2.2 ≤ n := by
  unfold ptM at h
  cases h1 : numM t n p with
  | none => rw [h1] at h; cases h
  | some a =>
    rw [h1] at h
    dsimp only at h
    split at h
    · cases h2 : numM t n (a.2 + 1) with
      | none => rw [h2] at h; cases h
      | some b =>
        rw [h2] at h
        cases h
        have q1 := num_le h1
        have q2 := num_le h2
        exact ⟨q1.1, q2.1, show p + 3 ≤ b.2 by omega, q2.2.2.1⟩
    · cases h
/-- the model: here -/
def hrI (t : Nat → Nat) (n p : Nat) : Int32 := if p < n then nI (t p) else -1
theorem here_ok {n p : Nat} {t : Nat → Nat} {c : Nat → Int32} (h : txC n t c) (hp : p ≤ 100) : fX7_here (nI n) (nI p) c = some (hrI t n p) := by
  have hn := h.1
  unfold fX7_here hrI
  by_cases q : p < n
  · rw [if_neg (nI_ge q (by omega)), gk (by omega) (by omega), nI_clamp (by omega), (h.2 p q).1, if_pos q]
  · rw [if_pos (nI_le (by omega) (by omega)), if_neg q]
theorem hr_in {n p : Nat} {t : Nat → Nat} {c : Nat → Int32} (h : txC n t c) : (fX7_in (hrI t n p).toInt64 (48 : Int64) (57 : Int64) = 0 ∧ dgM t n p = none) ∨ (∃ v, fX7_in (hrI t n p).toInt64 (48 : Int64) (57 : Int64) = 1 ∧ dgM t n p = some v ∧ hrI t n p = nI (v + 48) ∧ v ≤ 9) := by
  unfold hrI dgM
  by_cases q : p < n
  · obtain ⟨-, g⟩ := h.2 p q
    have e : fX7_in (nI (t p)).toInt64 (48 : Int64) (57 : Int64) = if 48 ≤ t p ∧ t p ≤ 57 then 1 else 0 := in_nI (k := t p) (lo := 48) (hi := 57) (by omega) (by omega) (by omega)
    rw [if_pos q, e]
    by_cases y : 48 ≤ t p ∧ t p ≤ 57
    · right
      refine ⟨t p - 48, by rw [if_pos y], by rw [if_pos ⟨q, y⟩], by congr 1; omega, by omega⟩
    · left
      rw [if_neg y, if_neg (fun z => y z.2)]
      exact ⟨rfl, rfl⟩
  · left
    rw [if_neg q, if_neg (fun z => q z.1)]
    exact ⟨in_neg (lo := 48) (by decide) (by omega), rfl⟩
def nvI : Option (Nat × Nat) → Int32
  | none => -1
  | some q => nI q.1
def npI (p : Nat) : Option (Nat × Nat) → Int32
  | none => nI p
  | some q => nI q.2
theorem number_ok {n p : Nat} {t : Nat → Nat} {c : Nat → Int32} (h : txC n t c) (hp : p ≤ n) : fX7_number (nI n) (nI p) c = some (nvI (numM t n p), npI p (numM t n p)) := by
  have hn := h.1
  unfold fX7_number
  rw [here_ok h (by omega), b1_so, b1_so]
  rcases hr_in h (p := p) with ⟨e, d⟩ | ⟨v, e, d, ev, hv⟩
  · rw [e, if_pos rfl]
    unfold numM
    rw [d]; rfl
  · have hpn := (dg_some d).1
    rw [e, if_neg (show ¬ (1 : Int32) = 0 from by decide), ev, show nI (v + 48) - (48 : Int32) = nI v from by rw [show (48 : Int32) = nI 48 from rfl, pk_sub (by omega)]; congr 1, nI_1, here_ok h (by omega), b1_so]
    unfold numM
    rw [d]
    dsimp only
    by_cases q : 0 < v
    · rw [if_neg (nI_nle q (by omega)), if_pos q]
      rcases hr_in h (p := p + 1) with ⟨e2, d2⟩ | ⟨w, e2, d2, ew, hw⟩
      · rw [e2, if_pos rfl, d2]; rfl
      · have e3 : (10 : Int32) * nI v + nI (w + 48) - (48 : Int32) = nI (10 * v + w) := by
          rw [show (10 : Int32) = nI 10 from rfl, show (48 : Int32) = nI 48 from rfl, pk_mul, nI_add, pk_sub (by omega)]; congr 1
        rw [e2, if_neg (show ¬ (1 : Int32) = 0 from by decide), b1_so, ew, e3, d2]
        dsimp only
        by_cases y : 10 * v + w ≤ 60
        · rw [if_neg (show ¬ (60 : Int32) < nI _ from nI_nlt (a := 60) y (by omega)), if_pos y, b1_so, e3, b1_so, nI_1]; rfl
        · rw [if_pos (show (60 : Int32) < nI _ from nI_lt (a := 60) (by omega) (by omega)), if_neg y]; rfl
    · rw [if_pos (show nI v ≤ 0 by rw [show v = 0 by omega]; decide), if_neg q]; rfl
/-- the model's row with a point more -/
def adR (d : Nat → Nat) (x y : Nat) : Nat → Nat := updN (updN (updN d (4 + 24 * (d 0 - 1) + 2 * d (d 0)) x) (4 + 24 * (d 0 - 1) + 2 * d (d 0) + 1) y) (d 0) (d (d 0) + 1)
theorem readPoint_ok {n p : Nat} {t : Nat → Nat} {c dr : Nat → Int32} {d : Nat → Nat} (h : txC n t c) (hp : p ≤ n) (hd : rowOk 76 dr d) (h1 : 1 ≤ d 0) (h3 : d 0 ≤ 3) (h12 : d (d 0) < 12) :
    (∃ e, ptM t n p = .inr e ∧ fX7_readPoint (nI n) (nI p) c dr = some (0, nI e, dr)) ∨ (∃ w dr', ptM t n p = .inl w ∧ fX7_readPoint (nI n) (nI p) c dr = some (1, nI w.2.2, dr') ∧ rowOk 76 dr' (adR d w.1 w.2.1)) := by
  have hn := h.1
  unfold fX7_readPoint ptM
  rw [number_ok h hp, b2_so]
  cases h1' : numM t n p with
  | none =>
    left
    exact ⟨p, rfl, by rw [if_pos (show nvI none = -1 from rfl)]; rfl⟩
  | some a =>
    have qa := num_le h1'
    rw [if_neg (show ¬ nvI (some a) = -1 from nI_m1 (by omega)), show npI p (some a) = nI a.2 from rfl, here_ok h (by omega), b1_so]
    dsimp only
    by_cases q : a.2 < n ∧ t a.2 = 44
    · rw [if_pos q, if_pos (show hrI t n a.2 = 44 by unfold hrI; rw [if_pos q.1, q.2]; rfl), nI_1, number_ok h (by omega), b2_so]
      cases h2' : numM t n (a.2 + 1) with
      | none =>
        left
        exact ⟨a.2 + 1, rfl, by rw [if_pos (show nvI none = -1 from rfl)]; rfl⟩
      | some b =>
        right
        have qb := num_le h2'
        rw [if_neg (show ¬ nvI (some b) = -1 from nI_m1 (by omega)), k0, hd 0 (by omega)]
        have e1 : nI (d 0) - (1 : Int32) = nI (d 0 - 1) := by rw [l1, pk_sub h1]
        have e2 : (1 : Int32) + nI (d 0 - 1) = nI (d 0) := by rw [l1, nI_add]; congr 1; omega
        have e3 : (4 : Int32) + (24 : Int32) * nI (d 0 - 1) + (2 : Int32) * nI (d (d 0)) = nI (4 + 24 * (d 0 - 1) + 2 * d (d 0)) := by rw [l4, l24, l2, pk_mul, pk_mul, nI_add, nI_add]
        have o1 := rowOk_upd hd (4 + 24 * (d 0 - 1) + 2 * d (d 0)) a.1
        have o2 := rowOk_upd o1 (4 + 24 * (d 0 - 1) + 2 * d (d 0) + 1) b.1
        have o3 := rowOk_upd o2 (d 0) (d (d 0) + 1)
        have v2 : upd (upd dr (4 + 24 * (d 0 - 1) + 2 * d (d 0)) (nI a.1)) (4 + 24 * (d 0 - 1) + 2 * d (d 0) + 1) (nI b.1) (d 0) = nI (d (d 0)) := by
          rw [pk_un (by omega), pk_un (by omega), hd _ (by omega)]
        refine ⟨_, _, rfl, ?_, o3⟩
        refine gy (by first | exact nI_pos (by omega) | decide) (by first | omega | (rw [nI_clamp (by omega)]; omega)) ?_
        rw [b1_so, e1, e2]
        refine gy (by first | exact nI_pos (by omega) | decide) (by first | omega | (rw [nI_clamp (by omega)]; omega)) ?_
        rw [b1_so, nI_clamp (by omega), hd _ (by omega), e3]
        refine gy (by first | exact nI_pos (by omega) | decide) (by first | omega | (rw [nI_clamp (by omega)]; omega)) ?_
        rw [b1_so, nI_clamp (by omega), nI_1]
        refine gy (by first | exact nI_pos (by omega) | decide) (by first | omega | (rw [nI_clamp (by omega)]; omega)) ?_
        rw [b1_so, nI_clamp (by omega)]
        refine gy (by first | exact nI_pos (by omega) | decide) (by first | omega | (rw [nI_clamp (by omega)]; omega)) ?_
        refine gy (by first | exact nI_pos (by omega) | decide) (by first | omega | (rw [nI_clamp (by omega)]; omega)) ?_
        rw [b1_so, show nvI (some a) = nI a.1 from rfl, show nvI (some b) = nI b.1 from rfl, v2, nI_1]; rfl
    · left
      rw [if_neg q, if_neg (show ¬ hrI t n a.2 = 44 by
        unfold hrI
        by_cases y : a.2 < n
        · rw [if_pos y]
          obtain ⟨-, g⟩ := h.2 a.2 y
          exact fun (z : nI (t a.2) = nI 44) => q ⟨y, (nI_eq (by omega) (by omega)).mp z⟩
        · rw [if_neg y]; decide)]
      exact ⟨a.2, rfl, rfl⟩
/-- the model's row behind all points -/
def drR : (Nat → Nat) → List (Nat × Nat × Bool) → (Nat → Nat)
  | d, [] => d
  | d, [a] => adR d a.1 a.2.1
  | d, a :: b :: L => drR (if a.2.2 = true then updN (adR d a.1 a.2.1) 0 (d 0 + 1) else adR d a.1 a.2.1) (b :: L)
def rsI : Option Nat → Int32
  | none => -1
  | some e => nI e
def rtK (n : Nat) (e9 : (Int32 × (Nat → Int32)) ⊕ (Int32 × (Nat → Int32))) : Option (Int32 × Int32 × (Nat → Int32)) := Sum.elim (u2 (fun v_p0_spot_31 c_p0_drawn_31 => some (v_p0_spot_31, v_p0_spot_31, c_p0_drawn_31))) (u2 (fun v_p0_spot_32 c_p0_drawn_32 => (if nI n ≤ v_p0_spot_32 then some ((-1 : Int32), v_p0_spot_32, c_p0_drawn_32) else some (v_p0_spot_32, v_p0_spot_32, c_p0_drawn_32)))) e9
theorem rowOk_same {N k : Nat} {c : Nat → Int32} {r : Nat → Nat} (h : rowOk N c r) (hk : k < N) : rowOk N (upd c k (c k + (0 : Int32))) r := fun j hj => by
  by_cases q : j = k
  · subst q; rw [pk_us, h j hj]; exact nI_add (r j) 0
  · rw [pk_un q]; exact h j hj
theorem adR_0 {d : Nat → Nat} (h1 : 1 ≤ d 0) (h3 : d 0 ≤ 3) (x y : Nat) : adR d x y 0 = d 0 := by
  unfold adR
  rw [updN_n (by omega), updN_n (by omega), updN_n (by omega)]
theorem adR_o {d : Nat → Nat} (h1 : 1 ≤ d 0) (x y : Nat) {s : Nat} (hs : s ≤ 3) (hn : s ≠ d 0) : adR d x y s = d s := by
  unfold adR
  rw [updN_n hn, updN_n (by omega), updN_n (by omega)]
theorem adR_l {d : Nat → Nat} (x y : Nat) : adR d x y (d 0) = d (d 0) + 1 := updN_s
theorem prs_ne {t : Nat → Nat} {n f k m p : Nat} (h : (prs t n f k m p).2 = none) : (prs t n f k m p).1 ≠ [] := by
  cases f with
  | zero => cases h
  | succ f =>
    unfold prs at h ⊢
    cases hp : ptM t n p with
    | inr e => rw [hp] at h; cases h
    | inl w =>
      dsimp only
      split
      · exact List.cons_ne_nil _ _
      · split
        · exact List.cons_ne_nil _ _
        · exact List.cons_ne_nil _ _
theorem drR_cons (d : Nat → Nat) (a : Nat × Nat × Bool) {L : List (Nat × Nat × Bool)} (h : L ≠ []) : drR d (a :: L) = drR (if a.2.2 = true then updN (adR d a.1 a.2.1) 0 (d 0 + 1) else adR d a.1 a.2.1) L := by
  cases L with
  | nil => exact absurd rfl h
  | cons b L => rfl
/-- THE MODEL READS A TEXT, its loop -/
theorem mtext_loop {n : Nat} {t : Nat → Nat} {c : Nat → Int32} (h : txC n t c) : ∀ (f k m p : Nat) (d : Nat → Nat) (dr : Nat → Int32) (N : Nat), p ≤ n → n - p < f → f + 1 < N → rowOk 76 dr d → d 0 = k → 1 ≤ k → k ≤ 3 → d k + 1 = m → m ≤ 12 → (∀ s, k < s → s ≤ 3 → d s = 0) →
    ∃ e9 sp dr', loopF (fun (z : Int32 × Int32 × (Nat → Int32)) => fX7_readText_L22 (nI n) c z.1 z.2.1 z.2.2) N ((1 : Int32), nI p, dr) = some e9 ∧ rtK n e9 = some (rsI (prs t n f k m p).2, sp, dr') ∧ ((prs t n f k m p).2 = none → rowOk 76 dr' (drR d (prs t n f k m p).1)) := by
  have hn := h.1
  intro f
  induction f with
  | zero => intro k m p d dr N hp hf; omega
  | succ f ih =>
    intro k m p d dr N hp hf hN hd hk h1 h3 hm h12 hz
    obtain ⟨N, rfl⟩ : ∃ M, N = M + 1 := ⟨N - 1, by omega⟩
    subst hk
    have eP : prs t n (f + 1) (d 0) m p = (match ptM t n p with
      | .inr e => ([], some e)
      | .inl w => if w.2.2 < n ∧ t w.2.2 = 45 ∧ m < 12 then ((w.1, w.2.1, false) :: (prs t n f (d 0) (m + 1) (w.2.2 + 1)).1, (prs t n f (d 0) (m + 1) (w.2.2 + 1)).2)
        else if w.2.2 < n ∧ t w.2.2 = 47 ∧ d 0 < 3 then ((w.1, w.2.1, true) :: (prs t n f (d 0 + 1) 1 (w.2.2 + 1)).1, (prs t n f (d 0 + 1) 1 (w.2.2 + 1)).2)
        else ([(w.1, w.2.1, true)], if w.2.2 < n then some w.2.2 else none)) := rfl
    rcases readPoint_ok h hp hd h1 h3 (by omega) with ⟨e, ep, er⟩ | ⟨w, dr', ep, er, od⟩
    · rw [ep] at eP
      rw [eP]
      refine ⟨Sum.inl (nI e, dr), nI e, dr, loopF_out ?_, rfl, fun z => by cases z⟩
      show fX7_readText_L22 (nI n) c 1 (nI p) dr = _
      unfold fX7_readText_L22
      rw [if_neg (show ¬ (1 : Int32) = 0 from by decide), er, b3_so, if_pos rfl]
    · rw [ep] at eP
      dsimp only at eP
      obtain ⟨w1, w2, w3, w4⟩ := pt_le ep
      have d0 := adR_0 h1 h3 w.1 w.2.1
      have dl := adR_l (d := d) w.1 w.2.1
      have v0 : dr' 0 = nI (d 0) := by rw [od 0 (by omega), d0]
      have vl : dr' (d 0) = nI m := by rw [od _ (by omega), dl, hm]
      have ei : (1 : Int32) + nI (d 0) - 1 = nI (d 0) := by rw [l1, nI_add, pk_sub (by omega)]; congr 1; omega
      have hh := here_ok h (p := w.2.2) (by omega)
      have body : ∀ X, (fX7_readText_L22 (nI n) c 1 (nI p) dr = X) ↔ (if hrI t n w.2.2 = (45 : Int32) then (if (12 : Int32) ≤ nI m then (fX7_readText_J22_72 (nI n) c (0 : Int32) (nI w.2.2) dr') else (fX7_readText_J22_72 (nI n) c (1 : Int32) (nI w.2.2) dr')) else (fX7_readText_J22_72 (nI n) c (0 : Int32) (nI w.2.2) dr')) = X := by
        intro X
        unfold fX7_readText_L22
        rw [if_neg (show ¬ (1 : Int32) = 0 from by decide), er, b3_so, if_neg (show ¬ (1 : Int32) = 0 from by decide), hh, b1_so, gk0 (by omega), k0, v0, ei, gk (by omega) (by omega), nI_clamp (by omega), vl]
      have j72 : ∀ s X, (fX7_readText_J22_72 (nI n) c s (nI w.2.2) dr' = X) ↔ (if hrI t n w.2.2 = (47 : Int32) then (if (3 : Int32) ≤ nI (d 0) then (fX7_readText_J22_97 s (0 : Int32) (nI w.2.2) dr') else (fX7_readText_J22_97 s (1 : Int32) (nI w.2.2) dr')) else (fX7_readText_J22_97 s (0 : Int32) (nI w.2.2) dr')) = X := by
        intro s X
        unfold fX7_readText_J22_72
        rw [hh, b1_so, gk0 (by omega), k0, v0]
      have j00 : fX7_readText_J22_97 0 (0 : Int32) (nI w.2.2) dr' = some (Sum.inl (0, nI w.2.2, upd dr' 0 (dr' 0 + (0 : Int32)))) := by
        unfold fX7_readText_J22_97 fX7_readText_J22_129
        rw [gk0 (by omega), if_pos rfl, gk0 (by omega), b1_so, if_pos rfl, if_pos rfl, k0, show nI w.2.2 + (0 : Int32) = nI w.2.2 from nI_add _ 0]
      have j10 : fX7_readText_J22_97 1 (0 : Int32) (nI w.2.2) dr' = some (Sum.inl (1, nI (w.2.2 + 1), upd dr' 0 (dr' 0 + (0 : Int32)))) := by
        unfold fX7_readText_J22_97 fX7_readText_J22_129
        rw [gk0 (by omega), if_pos rfl, gk0 (by omega), b1_so, if_neg (by decide), if_neg (by decide), k0, nI_1]
      have j01 : fX7_readText_J22_97 0 (1 : Int32) (nI w.2.2) dr' = some (Sum.inl (1, nI (w.2.2 + 1), upd dr' 0 (nI (d 0 + 1)))) := by
        unfold fX7_readText_J22_97 fX7_readText_J22_129
        rw [gk0 (by omega), if_neg (by decide), gk0 (by omega), b1_so, if_pos rfl, if_neg (by decide), k0, nI_1, v0, nI_1]
      have ch : ∀ v, v ≤ 255 → (hrI t n w.2.2 = nI v ↔ w.2.2 < n ∧ t w.2.2 = v) := by
        intro v hv
        unfold hrI
        by_cases y : w.2.2 < n
        · obtain ⟨-, g⟩ := h.2 w.2.2 y
          rw [if_pos y]
          exact ⟨fun z => ⟨y, (nI_eq (by omega) (by omega)).mp z⟩, fun z => by rw [z.2]⟩
        · rw [if_neg y]
          exact ⟨fun z => absurd z.symm (nI_m1 (by omega)), fun z => absurd z.1 y⟩
      have c45 : hrI t n w.2.2 = (45 : Int32) ↔ w.2.2 < n ∧ t w.2.2 = 45 := ch 45 (by omega)
      have c47 : hrI t n w.2.2 = (47 : Int32) ↔ w.2.2 < n ∧ t w.2.2 = 47 := ch 47 (by omega)
      by_cases q1 : w.2.2 < n ∧ t w.2.2 = 45 ∧ m < 12
      · rw [if_pos q1] at eP
        have hb : fX7_readText_L22 (nI n) c 1 (nI p) dr = some (Sum.inl (1, nI (w.2.2 + 1), upd dr' 0 (dr' 0 + (0 : Int32)))) := by
          rw [body, if_pos (c45.mpr ⟨q1.1, q1.2.1⟩), if_neg (show ¬ (12 : Int32) ≤ nI m from nI_ge (b := 12) q1.2.2 (by omega)), j72, if_neg (fun z => by have := c47.mp z; omega), j10]
        obtain ⟨e9, sp, dr2, g1, g2, g3⟩ := ih (d 0) (m + 1) (w.2.2 + 1) (adR d w.1 w.2.1) _ N (by omega) (by omega) (by omega) (rowOk_same od (show 0 < 76 by omega)) d0 h1 h3 (by rw [dl]; omega) (by omega) (fun s hs hs3 => by rw [adR_o h1 w.1 w.2.1 (by omega) (by omega)]; exact hz s hs hs3)
        rw [eP]
        refine ⟨e9, sp, dr2, (loopF_go hb).trans g1, g2, fun z => ?_⟩
        have g4 := g3 z
        dsimp only
        rw [drR_cons _ _ (prs_ne z)]
        exact g4
      · rw [if_neg q1] at eP
        by_cases q2 : w.2.2 < n ∧ t w.2.2 = 47 ∧ d 0 < 3
        · rw [if_pos q2] at eP
          have hb : fX7_readText_L22 (nI n) c 1 (nI p) dr = some (Sum.inl (1, nI (w.2.2 + 1), upd dr' 0 (nI (d 0 + 1)))) := by
            rw [body, if_neg (fun z => by have := c45.mp z; omega), j72, if_pos (c47.mpr ⟨q2.1, q2.2.1⟩), if_neg (show ¬ (3 : Int32) ≤ nI (d 0) from nI_ge (b := 3) q2.2.2 (by omega)), j01]
          obtain ⟨e9, sp, dr2, g1, g2, g3⟩ := ih (d 0 + 1) 1 (w.2.2 + 1) (updN (adR d w.1 w.2.1) 0 (d 0 + 1)) _ N (by omega) (by omega) (by omega) (rowOk_upd od 0 (d 0 + 1)) updN_s (by omega) (by omega) (by rw [updN_n (by omega), adR_o h1 w.1 w.2.1 (by omega) (by omega), hz (d 0 + 1) (by omega) (by omega)]) (by omega) (fun s hs hs3 => by rw [updN_n (by omega), adR_o h1 w.1 w.2.1 (by omega) (by omega)]; exact hz s (by omega) hs3)
          rw [eP]
          refine ⟨e9, sp, dr2, (loopF_go hb).trans g1, g2, fun z => ?_⟩
          have g4 := g3 z
          dsimp only
          rw [drR_cons _ _ (prs_ne z)]
          exact g4
        · rw [if_neg q2] at eP
          have hb : fX7_readText_L22 (nI n) c 1 (nI p) dr = some (Sum.inl (0, nI w.2.2, upd dr' 0 (dr' 0 + (0 : Int32)))) := by
            rw [body]
            have z72 : fX7_readText_J22_72 (nI n) c 0 (nI w.2.2) dr' = some (Sum.inl (0, nI w.2.2, upd dr' 0 (dr' 0 + (0 : Int32)))) := by
              rw [j72]
              by_cases y : hrI t n w.2.2 = (47 : Int32)
              · have := c47.mp y
                rw [if_pos y, if_pos (show (3 : Int32) ≤ nI (d 0) from nI_le (a := 3) (by omega) (by omega)), j00]
              · rw [if_neg y, j00]
            by_cases y : hrI t n w.2.2 = (45 : Int32)
            · have := c45.mp y
              rw [if_pos y, if_pos (show (12 : Int32) ≤ nI m from nI_le (a := 12) (by omega) (by omega)), z72]
            · rw [if_neg y, z72]
          obtain ⟨N, rfl⟩ : ∃ M, N = M + 1 := ⟨N - 1, by omega⟩
          rw [eP]
          refine ⟨Sum.inr (nI w.2.2, upd dr' 0 (dr' 0 + (0 : Int32))), nI w.2.2, upd dr' 0 (dr' 0 + (0 : Int32)), (loopF_go hb).trans (loopF_out ?_), ?_, fun _ => rowOk_same od (by omega)⟩
          · show fX7_readText_L22 (nI n) c 0 (nI w.2.2) _ = _
            unfold fX7_readText_L22
            rw [if_pos rfl]
          · show (if nI n ≤ nI w.2.2 then _ else _) = _
            dsimp only
            by_cases y : w.2.2 < n
            · rw [if_neg (nI_ge y (by omega)), if_pos y]; rfl
            · rw [if_pos (nI_le (by omega) (by omega)), if_neg y]; rfl
def begR : Nat → Nat := fun j => if j = 0 then 1 else 0
/-- THE MODEL READS A TEXT -/
theorem mtext_ok {n : Nat} {t : Nat → Nat} {c : Nat → Int32} (h : txC n t c) (dr : Nat → Int32) :
    ∃ sp dr', fX7_readText (nI n) dr c = some (rsI (prs t n (n + 1) 1 1 0).2, sp, dr') ∧ ((prs t n (n + 1) 1 1 0).2 = none → rowOk 76 dr' (drR begR (prs t n (n + 1) 1 1 0).1)) := by
  have hn := h.1
  obtain ⟨d1, e1, o1⟩ := mclear_ok (N := 76) (f := 0) (c := dr) (r := fun j => (dr j).toBitVec.toNat) (fun j _ => by
    show dr j = Int32.ofNat (dr j).toBitVec.toNat
    exact (Int32.toBitVec_inj.mp (by simp)).symm) (by omega) (by omega)
  have e1 : fX7_clearFigure (0 : Int32) 76 dr = some d1 := e1
  have o2 : rowOk 76 (upd d1 0 (nI 1)) begR := fun j hj => by
    by_cases q : j = 0
    · rw [q, pk_us]; rfl
    · rw [pk_un q, o1 j hj]
      unfold begR
      rw [if_neg q]
      dsimp only
      rw [if_pos (by omega)]
  obtain ⟨e9, sp, dr', g1, g2, g3⟩ := mtext_loop h (n + 1) 1 1 0 begR (upd d1 0 (nI 1)) FUEL (Nat.zero_le _) (by omega) (by unfold FUEL; omega) o2 rfl (by omega) (by omega) rfl (by omega) (fun s hs _ => if_neg (by omega))
  refine ⟨sp, dr', ?_, g3⟩
  have g1 : loopF (fun (z : Int32 × Int32 × (Nat → Int32)) => fX7_readText_L22 (nI n) c z.1 z.2.1 z.2.2) FUEL ((1 : Int32), (0 : Int32), upd d1 0 (1 : Int32)) = some e9 := g1
  unfold fX7_readText
  rw [e1, b1_so, gk0 (by omega), b1_so, k0, g1, b1_so]
  exact g2
end XPURE22
