/-! PURE, 8: the class: signs of a way -/
section XPURE8
def ptN (x y : Nat) : Nat := x * 61 + y
theorem pt_div {x y : Nat} (hx : x ≤ 60) (hy : y ≤ 60) : nI (ptN x y) / (61 : Int32) = nI x := by
  unfold ptN
  rw [show (61 : Int32) = nI 61 from rfl, pk_div (by omega) (by omega) (by omega)]
  congr 1; omega
theorem pt_rem {x y : Nat} (hx : x ≤ 60) (hy : y ≤ 60) : xrem (nI (ptN x y)) (61 : Int32) = nI y := by
  unfold ptN
  show nI (x * 61 + y) - nI (x * 61 + y) / (61 : Int32) * (61 : Int32) = nI y
  rw [show (61 : Int32) = nI 61 from rfl, pk_rem (by omega) (by omega) (by omega)]
  congr 1; omega
theorem lines_nI {a b d : Nat} (ha : a ≤ 60) (hb : b ≤ 60) (hd : 0 < d) (hd2 : d ≤ 20) : fX0_linesBetween (nI a) (nI b) (nI d) = some (nI (ad (b / d) (a / d))) := by
  have h1 : a / d ≤ 60 := Nat.le_trans (Nat.div_le_self _ _) ha
  have h2 : b / d ≤ 60 := Nat.le_trans (Nat.div_le_self _ _) hb
  have hz : ¬ nI d = 0 := nI_ne0 hd (by omega)
  unfold fX0_linesBetween
  rw [if_neg (nI_nle hd (by omega)), if_neg hz, if_neg hz, pk_div (by omega) hd (by omega), pk_div (by omega) hd (by omega), xabs_nI (by omega) (by omega)]
theorem crossings_nI {x y u v d : Nat} (hx : x ≤ 60) (hy : y ≤ 60) (hu : u ≤ 60) (hv : v ≤ 60) (hd : 0 < d) (hd2 : d ≤ 20) : fX0_crossings (nI (ptN x y)) (nI (ptN u v)) (nI d) = some (nI (waysM x y u v d)) := by
  unfold fX0_crossings
  rw [pt_div hx hy, pt_div hu hv, pt_rem hx hy, pt_rem hu hv, lines_nI hx hu hd hd2, b1_so, lines_nI hy hv hd hd2, b1_so, nI_add]
  rfl
theorem way_nI {f t d : Nat} (hf : f ≤ 60) (ht : t ≤ 60) (hd : 0 < d) (hd2 : d ≤ 20) : fX0_wayToLine (nI f) (nI t) (nI d) = some (nI (aheadM f t d 0)) := by
  have hz : ¬ nI d = 0 := nI_ne0 hd (by omega)
  have hr : xrem (nI f) (nI d) = nI (f % d) := pk_rem (by omega) hd (by omega)
  have hm : f % d < d := Nat.mod_lt _ hd
  have e : f / d * d + f % d = f := Nat.div_add_mod' f d
  unfold fX0_wayToLine aheadM
  rw [if_neg (nI_nle hd (by omega)), if_neg hz, hr]
  by_cases h : f < t
  · rw [if_neg (nI_ge h (by omega)), if_pos h, pk_sub (by omega), Nat.add_zero, Nat.add_mul, Nat.one_mul]
    congr 2; omega
  · rw [if_pos (nI_le (by omega) (by omega)), if_neg h, Nat.sub_zero]
    congr 2; omega
theorem ahead_step {f t d c : Nat} (hd : 0 < d) (hc : c ≤ ad (t / d) (f / d)) : aheadM f t d c = aheadM f t d 0 + c * d := by
  have hle : f / d * d ≤ f := Nat.div_mul_le_self f d
  have hlt : f < (f / d + 1) * d := by
    rw [Nat.mul_comm]; exact Nat.lt_mul_div_succ f hd
  have hm2 : t ≤ f → t / d ≤ f / d := fun h => Nat.div_le_div_right h
  unfold aheadM
  unfold ad at hc
  generalize f / d = q at *
  generalize t / d = p at *
  by_cases h : f < t
  · rw [if_pos h, if_pos h, Nat.add_zero, Nat.add_mul (q + 1) c d]
    omega
  · have := hm2 (by omega)
    rw [if_neg h, if_neg h, Nat.sub_zero, Nat.sub_mul]
    have : c * d ≤ q * d := Nat.mul_le_mul_right d (by omega)
    omega
/-- only the signs at p are written -/
def sgFr (p : Nat) (sc sg sc' sg' : Nat → Int32) : Prop := (∀ q, q ≠ p → sc' q = sc q) ∧ ∀ j, (j < 40 * p ∨ 40 * p + 40 ≤ j) → sg' j = sg j
theorem sgFr_rf {p : Nat} {sc sg : Nat → Int32} : sgFr p sc sg sc sg := ⟨fun _ _ => rfl, fun _ _ => rfl⟩
theorem sgFr_tr {p : Nat} {a b a1 b1 a2 b2 : Nat → Int32} (h1 : sgFr p a b a1 b1) (h2 : sgFr p a1 b1 a2 b2) : sgFr p a b a2 b2 := ⟨fun q hq => (h2.1 q hq).trans (h1.1 q hq), fun j hj => (h2.2 j hj).trans (h1.2 j hj)⟩
theorem writeSign_ok {sc sg : Nat → Int32} {p v : Nat} {L : List Nat} (h : sgC sc sg p L) (hp : p < 17) (hL : L.length < 40) :
    sgC (fX0_writeSign (nI p) (nI v) sc sg).1 (fX0_writeSign (nI p) (nI v) sc sg).2 p (L ++ [v]) ∧ sgFr p sc sg (fX0_writeSign (nI p) (nI v) sc sg).1 (fX0_writeSign (nI p) (nI v) sc sg).2 := by
  have e : fX0_writeSign (nI p) (nI v) sc sg = (upd sc p (nI (L.length + 1)), upd sg (40 * p + L.length) (nI v)) := by
    unfold fX0_writeSign
    rw [signsOf_nI hp, h.1, if_neg (show ¬ (40 : Int32) ≤ nI L.length from nI_ge (b := 40) hL (by omega)), nI_1, xput_in sc _ hp (by omega), show (40 : Int32) = nI 40 from rfl, pk_mul, nI_add, xput_in sg _ (by omega) (by omega), show p * 40 + L.length = 40 * p + L.length by omega]
  rw [e]
  refine ⟨⟨?_, fun k hk => ?_⟩, fun q hq => pk_un hq, fun j hj => pk_un (by omega)⟩
  · show upd sc p _ p = _
    rw [pk_us, List.length_append, List.length_singleton]
  · show upd sg (40 * p + L.length) (nI v) (40 * p + k) = _
    rw [List.length_append, List.length_singleton] at hk
    by_cases q : k = L.length
    · subst q
      rw [pk_us, gD_end]
    · rw [pk_un (by omega), gD_lo (by omega)]
      exact h.2 k (by omega)
theorem wc_body {x y u v d p c w : Nat} (hx : x ≤ 60) (hy : y ≤ 60) (hu : u ≤ 60) (hv : v ≤ 60) (hd : 5 ≤ d) (hd2 : d ≤ 20) {sc sg : Nat → Int32} {L : List Nat} (h : sgC sc sg p L) (hp : p < 17) (hL : L.length < 40) (hc : c ≤ ad (u / d) (x / d)) (hw : w ≤ ad (v / d) (y / d)) (hcw : c + w < waysM x y u v d) :
    ∃ c' w' s sc' sg', fX0_writeCrossings_L94 (nI p) (nI d) (nI x) (nI y) (nI u) (nI v) (nI (ad u x)) (nI (ad v y)) (nI (ad (u / d) (x / d))) (nI (ad (v / d) (y / d))) (nI (aheadM x u d 0 + c * d)) (nI (aheadM y v d 0 + w * d)) (nI c) (nI (c + w)) sc sg = some (.inl (nI (aheadM x u d 0 + c' * d), nI (aheadM y v d 0 + w' * d), nI c', nI (c' + w'), sc', sg')) ∧ sgC sc' sg' p (L ++ [s]) ∧ sgFr p sc sg sc' sg' ∧
      ((colM x y u v d c w = true ∧ c < ad (u / d) (x / d) ∧ c' = c + 1 ∧ w' = w ∧ s = hsM x u) ∨ (colM x y u v d c w = false ∧ w < ad (v / d) (y / d) ∧ c' = c ∧ w' = w + 1 ∧ s = vsM y v)) := by
  have hC : ad (u / d) (x / d) ≤ 60 := ad_div d hu hx
  have hR : ad (v / d) (y / d) ≤ 60 := ad_div d hv hy
  have hW1 : ad u x ≤ 60 := ad_le hu hx
  have hW2 : ad v y ≤ 60 := ad_le hv hy
  unfold waysM at hcw
  have stepX : nI (aheadM x u d 0 + c * d) + nI d = nI (aheadM x u d 0 + (c + 1) * d) := by
    rw [nI_add, Nat.add_mul, Nat.one_mul, Nat.add_assoc]
  have stepY : nI (aheadM y v d 0 + w * d) + nI d = nI (aheadM y v d 0 + (w + 1) * d) := by
    rw [nI_add, Nat.add_mul, Nat.one_mul, Nat.add_assoc]
  have nx : nI (c + w) + 1 = nI (c + 1 + w) := by rw [nI_1]; congr 1; omega
  have ny : nI (c + w) + 1 = nI (c + (w + 1)) := by rw [nI_1]; rfl
  have col : ∀ (hcC : c < ad (u / d) (x / d)) (hb : colM x y u v d c w = true), ∃ c' w' s sc' sg', (if nI u ≤ nI x then some (Sum.inl (nI (aheadM x u d 0 + c * d) + nI d, nI (aheadM y v d 0 + w * d), nI c + (1 : Int32), nI (c + w) + (1 : Int32), (fX0_writeSign (nI p) (2 : Int32) sc sg).1, (fX0_writeSign (nI p) (2 : Int32) sc sg).2)) else some (Sum.inl (nI (aheadM x u d 0 + c * d) + nI d, nI (aheadM y v d 0 + w * d), nI c + (1 : Int32), nI (c + w) + (1 : Int32), (fX0_writeSign (nI p) (0 : Int32) sc sg).1, (fX0_writeSign (nI p) (0 : Int32) sc sg).2))) = (some (.inl (nI (aheadM x u d 0 + c' * d), nI (aheadM y v d 0 + w' * d), nI c', nI (c' + w'), sc', sg')) : Option ((Int32 × Int32 × Int32 × Int32 × (Nat → Int32) × (Nat → Int32)) ⊕ ((Nat → Int32) × (Nat → Int32)))) ∧ sgC sc' sg' p (L ++ [s]) ∧ sgFr p sc sg sc' sg' ∧
      ((colM x y u v d c w = true ∧ c < ad (u / d) (x / d) ∧ c' = c + 1 ∧ w' = w ∧ s = hsM x u) ∨ (colM x y u v d c w = false ∧ w < ad (v / d) (y / d) ∧ c' = c ∧ w' = w + 1 ∧ s = vsM y v)) := by
    intro hcC hb
    refine ⟨c + 1, w, hsM x u, (fX0_writeSign (nI p) (nI (hsM x u)) sc sg).1, (fX0_writeSign (nI p) (nI (hsM x u)) sc sg).2, ?_, (writeSign_ok h hp hL).1, (writeSign_ok h hp hL).2, Or.inl ⟨hb, hcC, rfl, rfl, rfl⟩⟩
    rw [stepX, nx, nI_1]
    unfold hsM
    by_cases q : x < u
    · rw [if_neg (nI_ge q (by omega)), if_pos q]; rfl
    · rw [if_pos (nI_le (by omega) (by omega)), if_neg q]; rfl
  have row : ∀ (hwW : w < ad (v / d) (y / d)) (hb : colM x y u v d c w = false), ∃ c' w' s sc' sg', (if nI v ≤ nI y then some (Sum.inl (nI (aheadM x u d 0 + c * d), nI (aheadM y v d 0 + w * d) + nI d, nI c, nI (c + w) + (1 : Int32), (fX0_writeSign (nI p) (3 : Int32) sc sg).1, (fX0_writeSign (nI p) (3 : Int32) sc sg).2)) else some (Sum.inl (nI (aheadM x u d 0 + c * d), nI (aheadM y v d 0 + w * d) + nI d, nI c, nI (c + w) + (1 : Int32), (fX0_writeSign (nI p) (1 : Int32) sc sg).1, (fX0_writeSign (nI p) (1 : Int32) sc sg).2))) = (some (.inl (nI (aheadM x u d 0 + c' * d), nI (aheadM y v d 0 + w' * d), nI c', nI (c' + w'), sc', sg')) : Option ((Int32 × Int32 × Int32 × Int32 × (Nat → Int32) × (Nat → Int32)) ⊕ ((Nat → Int32) × (Nat → Int32)))) ∧ sgC sc' sg' p (L ++ [s]) ∧ sgFr p sc sg sc' sg' ∧
      ((colM x y u v d c w = true ∧ c < ad (u / d) (x / d) ∧ c' = c + 1 ∧ w' = w ∧ s = hsM x u) ∨ (colM x y u v d c w = false ∧ w < ad (v / d) (y / d) ∧ c' = c ∧ w' = w + 1 ∧ s = vsM y v)) := by
    intro hwW hb
    refine ⟨c, w + 1, vsM y v, (fX0_writeSign (nI p) (nI (vsM y v)) sc sg).1, (fX0_writeSign (nI p) (nI (vsM y v)) sc sg).2, ?_, (writeSign_ok h hp hL).1, (writeSign_ok h hp hL).2, Or.inr ⟨hb, hwW, rfl, rfl, rfl⟩⟩
    rw [stepY, ny]
    unfold vsM
    by_cases q : y < v
    · rw [if_neg (nI_ge q (by omega)), if_pos q]; rfl
    · rw [if_pos (nI_le (by omega) (by omega)), if_neg q]; rfl
  unfold fX0_writeCrossings_L94
  rw [nI_add, if_neg (nI_ge hcw (by omega)), pk_sub (show c ≤ c + w by omega), Nat.add_sub_cancel_left]
  by_cases q : w < ad (v / d) (y / d)
  · rw [if_pos (nI_lt q (by omega))]
    by_cases r : c < ad (u / d) (x / d)
    · obtain ⟨-, l1⟩ := ahead_ok (k := c) hx hu (by omega) hd2 r
      obtain ⟨-, l2⟩ := ahead_ok (k := w) hy hv (by omega) hd2 q
      have s1 := ahead_step (f := x) (t := u) (d := d) (by omega) hc
      have s2 := ahead_step (f := y) (t := v) (d := d) (by omega) hw
      have m1 : aheadM x u d c * ad v y ≤ 3000 * 60 := Nat.mul_le_mul l1 hW2
      have m2 : aheadM y v d w * ad u x ≤ 3000 * 60 := Nat.mul_le_mul l2 hW1
      rw [if_neg (nI_ge r (by omega)), pk_mul, pk_mul, ← s1, ← s2]
      rw [← s1, ← s2] at col row
      by_cases z : aheadM y v d w * ad u x < aheadM x u d c * ad v y
      · rw [if_pos (nI_lt z (by omega))]
        exact row q (by simp only [colM, r, q, decide_true, Bool.not_true, Bool.false_or, Bool.true_and, decide_eq_false_iff_not]; omega)
      · rw [if_neg (nI_nlt (by omega) (by omega))]
        exact col r (by simp only [colM, r, q, decide_true, Bool.not_true, Bool.false_or, Bool.true_and, decide_eq_true_eq]; omega)
    · rw [if_pos (nI_le (by omega) (by omega))]
      exact row q (by simp only [colM, r, decide_false, Bool.false_and])
  · rw [if_neg (nI_nlt (by omega) (by omega))]
    exact col (by omega) (by
      have r : c < ad (u / d) (x / d) := by omega
      simp only [colM, r, q, decide_true, decide_false, Bool.not_false, Bool.true_or, Bool.and_self])
theorem wc_loop {x y u v d p : Nat} (hx : x ≤ 60) (hy : y ≤ 60) (hu : u ≤ 60) (hv : v ≤ 60) (hd : 5 ≤ d) (hd2 : d ≤ 20) (hp : p < 17) : ∀ (k c w : Nat) (L : List Nat) (sc sg : Nat → Int32) (M : Nat), c ≤ ad (u / d) (x / d) → w ≤ ad (v / d) (y / d) → k + c + w = waysM x y u v d → k < M → sgC sc sg p L → L.length + k ≤ 40 →
    ∃ sc' sg', loopF (fun (z : Int32 × Int32 × Int32 × Int32 × (Nat → Int32) × (Nat → Int32)) => fX0_writeCrossings_L94 (nI p) (nI d) (nI x) (nI y) (nI u) (nI v) (nI (ad u x)) (nI (ad v y)) (nI (ad (u / d) (x / d))) (nI (ad (v / d) (y / d))) z.1 z.2.1 z.2.2.1 z.2.2.2.1 z.2.2.2.2.1 z.2.2.2.2.2) M (nI (aheadM x u d 0 + c * d), nI (aheadM y v d 0 + w * d), nI c, nI (c + w), sc, sg) = some (sc', sg') ∧ sgC sc' sg' p (L ++ crsM x y u v d k c w) ∧ sgFr p sc sg sc' sg' := by
  have hC : ad (u / d) (x / d) ≤ 60 := ad_div d hu hx
  have hR : ad (v / d) (y / d) ≤ 60 := ad_div d hv hy
  intro k
  induction k with
  | zero =>
    intro c w L sc sg M hc hw hk hM h hL
    obtain ⟨M, rfl⟩ : ∃ M', M = M' + 1 := ⟨M - 1, by omega⟩
    refine ⟨sc, sg, loopF_out ?_, by unfold crsM; rw [List.append_nil]; exact h, sgFr_rf⟩
    show fX0_writeCrossings_L94 (nI p) (nI d) (nI x) (nI y) (nI u) (nI v) (nI (ad u x)) (nI (ad v y)) (nI (ad (u / d) (x / d))) (nI (ad (v / d) (y / d))) (nI (aheadM x u d 0 + c * d)) (nI (aheadM y v d 0 + w * d)) (nI c) (nI (c + w)) sc sg = _
    unfold fX0_writeCrossings_L94
    unfold waysM at hk
    rw [nI_add, if_pos (nI_le (by omega) (by omega))]
  | succ k ih =>
    intro c w L sc sg M hc hw hk hM h hL
    obtain ⟨M, rfl⟩ : ∃ M', M = M' + 1 := ⟨M - 1, by omega⟩
    obtain ⟨c', w', s, sc', sg', e, ok, fr, r⟩ := wc_body hx hy hu hv hd hd2 h hp (by omega) hc hw (by omega)
    rw [loopF_go (s' := (nI (aheadM x u d 0 + c' * d), nI (aheadM y v d 0 + w' * d), nI c', nI (c' + w'), sc', sg')) e]
    have hl : (L ++ [s]).length = L.length + 1 := by rw [List.length_append, List.length_singleton]
    rcases r with ⟨r1, r2, rfl, rfl, rfl⟩ | ⟨r1, r2, rfl, rfl, rfl⟩
    · obtain ⟨sc2, sg2, e2, ok2, fr2⟩ := ih (c + 1) w' _ sc' sg' M (by omega) hw (by omega) (by omega) ok (by omega)
      refine ⟨sc2, sg2, e2, ?_, sgFr_tr fr fr2⟩
      rw [List.append_assoc] at ok2
      unfold crsM
      rw [if_pos r1]
      exact ok2
    · obtain ⟨sc2, sg2, e2, ok2, fr2⟩ := ih c' (w + 1) _ sc' sg' M hc (by omega) (by omega) (by omega) ok (by omega)
      refine ⟨sc2, sg2, e2, ?_, sgFr_tr fr fr2⟩
      rw [List.append_assoc] at ok2
      unfold crsM
      rw [if_neg (by rw [r1]; exact Bool.false_ne_true)]
      exact ok2
/-- THE SIGNS OF A WAY are put behind those that stand -/
theorem wc_ok {x y u v d p : Nat} (hx : x ≤ 60) (hy : y ≤ 60) (hu : u ≤ 60) (hv : v ≤ 60) (hd : 5 ≤ d) (hd2 : d ≤ 20) (hp : p < 17) {L : List Nat} {sc sg : Nat → Int32} (h : sgC sc sg p L) (hL : L.length + waysM x y u v d ≤ 40) :
    ∃ sc' sg', fX0_writeCrossings (nI p) (nI (ptN x y)) (nI (ptN u v)) (nI d) sc sg = some (sc', sg') ∧ sgC sc' sg' p (L ++ crossM x y u v d) ∧ sgFr p sc sg sc' sg' := by
  have hk := ways_le (d := d) hx hy hu hv
  obtain ⟨sc', sg', e, ok, fr⟩ := wc_loop hx hy hu hv hd hd2 hp (waysM x y u v d) 0 0 L sc sg FUEL (Nat.zero_le _) (Nat.zero_le _) rfl (by unfold FUEL; omega) h hL
  refine ⟨sc', sg', ?_, ok, fr⟩
  unfold fX0_writeCrossings
  rw [pt_div hx hy, pt_div hu hv, pt_rem hx hy, pt_rem hu hv, xabs_nI (by omega) (by omega), xabs_nI (by omega) (by omega), b1_so, b1_so, lines_nI hx hu (by omega) hd2, b1_so, lines_nI hy hv (by omega) hd2, b1_so, way_nI hx hu (by omega) hd2, b1_so, way_nI hy hv (by omega) hd2, b1_so]
  rw [Nat.zero_mul, Nat.add_zero, Nat.add_zero] at e
  have e : loopF _ FUEL (nI (aheadM x u d 0), nI (aheadM y v d 0), (0 : Int32), (0 : Int32), sc, sg) = some (sc', sg') := e
  rw [e]; rfl
end XPURE8
