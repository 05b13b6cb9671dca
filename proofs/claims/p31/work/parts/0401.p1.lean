/-! PURE, 1: numbers, loops, the model's signature -/
section XPURE1
theorem n00 : nI 0 ≤ 0 := by decide
theorem nl (n : Nat) : (OfNat.ofNat n : Int32) = nI n := rfl
theorem gk {α : Type} {a n : Nat} {K : Option α} (h : a < n) (hn : n < 2 ^ 31) : (if nI a < 0 ∨ n ≤ (nI a).toNatClampNeg then none else K) = K := if_neg (nI_in h hn)
theorem b1_so {A β : Type} (e : A) (k : A → Option β) : b1 (some e) k = k e := rfl
theorem b2_so {A B β : Type} (e : A) (f : B) (k : A → B → Option β) : b2 (some (e, f)) k = k e f := rfl
theorem b3_so {A B C β : Type} (e : A) (f : B) (g : C) (k : A → B → C → Option β) : b3 (some (e, f, g)) k = k e f g := rfl
theorem loopF_go {S E : Type} {body : S → Option (S ⊕ E)} {n : Nat} {s s' : S} (h : body s = some (.inl s')) : loopF body (n + 1) s = loopF body n s' := by
  show (body s).bind _ = _
  rw [h]; rfl
theorem loopF_out {S E : Type} {body : S → Option (S ⊕ E)} {n : Nat} {s : S} {e : E} (h : body s = some (.inr e)) : loopF body (n + 1) s = some e := by
  show (body s).bind _ = _
  rw [h]; rfl
/-- a loop that counts from a to b over states that are told -/
theorem loopF_count {S E : Type} (body : S → Option (S ⊕ E)) (st : Nat → S) (e : E) (b : Nat) (hstep : ∀ i, i < b → body (st i) = some (.inl (st (i + 1)))) (hend : body (st b) = some (.inr e)) : ∀ k a, a + k = b → ∀ N, k < N → loopF body N (st a) = some e := by
  intro k
  induction k with
  | zero => intro a ha N hN
            obtain ⟨N, rfl⟩ : ∃ M, N = M + 1 := ⟨N - 1, by omega⟩
            rw [show a = b by omega]
            exact loopF_out hend
  | succ k ih => intro a ha N hN
                 obtain ⟨N, rfl⟩ : ∃ M, N = M + 1 := ⟨N - 1, by omega⟩
                 rw [loopF_go (hstep a (by omega))]
                 exact ih (a + 1) (by omega) N (by omega)
/-- a loop with an invariant and a measure that falls -/
theorem loopF_inv {S E : Type} (body : S → Option (S ⊕ E)) (I : S → Prop) (μ : S → Nat) (Q : E → Prop) (hs : ∀ s, I s → (∃ s', body s = some (.inl s') ∧ I s' ∧ μ s' < μ s) ∨ (∃ e, body s = some (.inr e) ∧ Q e)) : ∀ N s, I s → μ s < N → ∃ e, loopF body N s = some e ∧ Q e := by
  intro N
  induction N with
  | zero => intro s _ h; exact absurd h (Nat.not_lt_zero _)
  | succ N ih =>
    intro s hI hN
    rcases hs s hI with ⟨s', h1, h2, h3⟩ | ⟨e, h1, h2⟩
    · rw [loopF_go h1]; exact ih s' h2 (by omega)
    · exact ⟨e, loopF_out h1, h2⟩
/-- how far apart two numbers are -/
def ad (a b : Nat) : Nat := (a - b) + (b - a)
theorem ile0 (n : Nat) (h : n < 2 ^ 31) : (0 : Int32) ≤ nI n := nI_pos' h
theorem size_nI {a b : Nat} (ha : a < 2 ^ 30) (hb : b < 2 ^ 30) : fX7_size (nI a - nI b) = nI (ad a b) := by
  unfold fX7_size ad
  by_cases h : b ≤ a
  · rw [pk_sub h, if_pos (nI_pos' (by omega))]
    congr 1; omega
  · have h1 : nI a - nI b < 0 := pk_sneg hb (by omega)
    rw [if_neg (by rw [Int32.le_iff_toInt_le]; rw [Int32.lt_iff_toInt_lt] at h1; omega), Int32.neg_sub, pk_sub (by omega)]
    congr 1; omega
theorem xabs_nI {a b : Nat} (ha : a < 2 ^ 30) (hb : b < 2 ^ 30) : xabs (nI a - nI b) = nI (ad a b) := by
  have e : ∀ x : Int32, xabs x = fX7_size x := by
    intro x
    unfold fX7_size xabs
    by_cases h : 0 ≤ x
    · rw [if_pos h, if_pos h]
    · rw [if_neg h, if_neg h, Int32.zero_sub]
  rw [e, size_nI ha hb]
theorem gD_lo {L M : List Nat} {j : Nat} (h : j < L.length) : (L ++ M).getD j 0 = L.getD j 0 := by
  rw [List.getD_eq_getElem?_getD, List.getD_eq_getElem?_getD, List.getElem?_append_left h]
theorem gD_hi {L M : List Nat} (j : Nat) : (L ++ M).getD (L.length + j) 0 = M.getD j 0 := by
  rw [List.getD_eq_getElem?_getD, List.getD_eq_getElem?_getD, List.getElem?_append_right (by omega), Nat.add_sub_cancel_left]
theorem gD_end (L : List Nat) (v : Nat) : (L ++ [v]).getD L.length 0 = v := by
  have := gD_hi (L := L) (M := [v]) 0
  rw [Nat.add_zero] at this
  rw [this]; rfl
/-- signs so far, as the model lays them: n signs, 41 if too many -/
def sgOk (L : List Nat) (n : Int32) (c : Nat → Int32) : Prop := n = nI (min L.length 41) ∧ ∀ j, j < L.length → j < 40 → c j = nI (L.getD j 0)
theorem sgOk_nil (c : Nat → Int32) : sgOk [] (nI 0) c := ⟨rfl, fun j h => absurd h (Nat.not_lt_zero _)⟩
theorem sgOk_full {L L2 : List Nat} {n : Int32} {c : Nat → Int32} (h : sgOk L n c) (hl : 41 ≤ L.length) : sgOk (L ++ L2) n c := by
  refine ⟨by rw [h.1]; congr 1; rw [List.length_append]; omega, fun j h1 h2 => ?_⟩
  rw [h.2 j (by omega) h2, gD_lo (by omega)]
theorem next_ok {L : List Nat} {n : Int32} {c : Nat → Int32} (h : sgOk L n c) {N : Nat} (hN : 40 ≤ N) (hN2 : N < 2 ^ 31) (v : Nat) : ∃ n' c', fX7_next n (nI v) N c = some (n', c') ∧ sgOk (L ++ [v]) n' c' := by
  obtain ⟨rfl, h2⟩ := h
  unfold fX7_next
  by_cases hl : L.length ≤ 39
  · have e : min L.length 41 = L.length := by omega
    rw [e, if_pos (show nI L.length ≤ 39 from nI_le (b := 39) hl (by omega)), gk (by omega) hN2, b1_so, nI_clamp (by omega)]
    refine ⟨_, _, rfl, ?_, fun j h3 h4 => ?_⟩
    · rw [nI_1]; congr 1; rw [List.length_append]; simp only [List.length_singleton]; omega
    · rw [List.length_append, List.length_singleton] at h3
      by_cases hj : j = L.length
      · subst hj
        rw [pk_us, gD_end]
      · rw [pk_un hj, h2 j (by omega) h4, gD_lo (by omega)]
  · rw [if_neg (show ¬ nI (min L.length 41) ≤ 39 from by rw [show (39 : Int32) = nI 39 from rfl]; exact nI_ge (by omega) (by omega))]
    refine ⟨_, _, rfl, ?_, fun j h3 h4 => ?_⟩
    · show nI 41 = _
      congr 1; rw [List.length_append]; simp only [List.length_singleton]; omega
    · rw [h2 j (by omega) h4, gD_lo (by omega)]
/-- how far on the line is that is crossed next -/
def aheadM (f t d k : Nat) : Nat := if f < t then (f / d + 1 + k) * d - f else f - (f / d - k) * d
theorem ahead_ok {f t d k : Nat} (hf : f ≤ 60) (ht : t ≤ 60) (hd : 0 < d) (hd2 : d ≤ 20) (hk : k < ad (t / d) (f / d)) : fX7_ahead (nI f) (nI t) (nI d) (nI k) = some (nI (aheadM f t d k)) ∧ aheadM f t d k ≤ 3000 := by
  unfold fX7_ahead aheadM
  have hdz : ¬ nI d = 0 := nI_ne0 hd (by omega)
  have hq : f / d ≤ 60 := Nat.le_trans (Nat.div_le_self _ _) hf
  have hq2 : t / d ≤ 60 := Nat.le_trans (Nat.div_le_self _ _) ht
  have hle : f / d * d ≤ f := Nat.div_mul_le_self f d
  have hlt : f < (f / d + 1) * d := by
    rw [Nat.mul_comm]; exact Nat.lt_mul_div_succ f hd
  have hm1 : f ≤ t → f / d ≤ t / d := fun h => Nat.div_le_div_right h
  have hm2 : t ≤ f → t / d ≤ f / d := fun h => Nat.div_le_div_right h
  rw [pk_div (a := f) (by omega) hd (by omega), nI_1]
  unfold ad at hk
  generalize f / d = q at *
  generalize t / d = p at *
  by_cases h : f < t
  · have := hm1 (by omega)
    rw [if_neg (show ¬ nI t ≤ nI f from nI_ge h (by omega)), if_neg hdz, if_pos h, nI_add, pk_mul]
    have h3 : f ≤ (q + 1 + k) * d := Nat.le_trans (Nat.le_of_lt hlt) (Nat.mul_le_mul_right d (by omega))
    have h4 : (q + 1 + k) * d ≤ 130 * 20 := Nat.mul_le_mul (by omega) hd2
    rw [pk_sub h3]
    exact ⟨rfl, by omega⟩
  · have := hm2 (by omega)
    rw [if_pos (show nI t ≤ nI f from nI_le (by omega) (by omega)), if_neg hdz, if_neg h, pk_sub (by omega), pk_mul]
    have h3 : (q - k) * d ≤ f := Nat.le_trans (Nat.mul_le_mul_right d (Nat.sub_le _ _)) hle
    rw [pk_sub h3]
    exact ⟨rfl, by omega⟩
/-- the signs of a way from (x, y) to (u, v), c columns and w rows being crossed, k still to cross -/
def hsM (x u : Nat) : Nat := if x < u then 0 else 2
def vsM (y v : Nat) : Nat := if y < v then 1 else 3
def colM (x y u v d c w : Nat) : Bool := decide (c < ad (u / d) (x / d)) && (!decide (w < ad (v / d) (y / d)) || decide (aheadM x u d c * ad v y ≤ aheadM y v d w * ad u x))
def crsM (x y u v d : Nat) : Nat → Nat → Nat → List Nat
  | 0, _, _ => []
  | k + 1, c, w => if colM x y u v d c w = true then hsM x u :: crsM x y u v d k (c + 1) w else vsM y v :: crsM x y u v d k c (w + 1)
theorem crsM_length (x y u v d : Nat) : ∀ k c w, (crsM x y u v d k c w).length = k := by
  intro k
  induction k with
  | zero => intro c w; rfl
  | succ k ih => intro c w; unfold crsM; split <;> simp [ih]
def waysM (x y u v d : Nat) : Nat := ad (u / d) (x / d) + ad (v / d) (y / d)
def crossM (x y u v d : Nat) : List Nat := crsM x y u v d (waysM x y u v d) 0 0
theorem crossM_length (x y u v d : Nat) : (crossM x y u v d).length = waysM x y u v d := crsM_length ..
end XPURE1
