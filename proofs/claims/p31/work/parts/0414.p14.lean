/-! PURE, 14: a sample is learned -/
section XPURE14
theorem ccells_ok {a b k n : Nat} {f : Nat → Int32} (ha : a + k ≤ n) (hb : b + k ≤ n) (hn : n < 2 ^ 30) : fX6_copyCells_s (nI a) (nI b) (nI k) n f = some (va_cpy f f a b k) := by
  unfold fX6_copyCells_s
  have e : Int32.ofNat n - nI k = nI (n - k) := pk_sub (by omega)
  rw [if_neg (nI_pos (by omega)), if_neg (nI_pos (by omega)), if_neg (nI_pos (by omega)), if_neg (show ¬ Int32.ofNat n < nI k from nI_nlt (by omega) (by omega)), e, if_neg (nI_nlt (by omega) (by omega)), if_neg (nI_nlt (by omega) (by omega)), if_neg (nI_pos (by omega)), if_neg (nI_pos (by omega)), if_neg (nI_pos (by omega)), nI_clamp (by omega), nI_clamp (by omega), nI_clamp (by omega), if_neg (by omega), if_neg (by omega)]
theorem cplace_ok {p q : Nat} (hp : p < 17) (hq : q < 17) (st le po sc sg : Nat → Int32) : fX0_copyPlace (nI p) (nI q) st le po sc sg = some (va_cpy st st p q 1, va_cpy le le (p * 3) (q * 3) 3, va_cpy po po (p * 36) (q * 36) 36, va_cpy sc sc p q 1, va_cpy sg sg (p * 40) (q * 40) 40) := by
  have a1 : fX6_copyCells_s (nI p) (nI q) (1 : Int32) 17 st = _ := ccells_ok (a := p) (b := q) (k := 1) (by omega) (by omega) (by omega)
  have a2 : fX6_copyCells_s (nI (p * 3)) (nI (q * 3)) (3 : Int32) 51 le = _ := ccells_ok (a := p * 3) (b := q * 3) (k := 3) (by omega) (by omega) (by omega)
  have a3 : fX6_copyCells_s (nI (p * 36)) (nI (q * 36)) (36 : Int32) 612 po = _ := ccells_ok (a := p * 36) (b := q * 36) (k := 36) (by omega) (by omega) (by omega)
  have a4 : fX6_copyCells_s (nI p) (nI q) (1 : Int32) 17 sc = _ := ccells_ok (a := p) (b := q) (k := 1) (by omega) (by omega) (by omega)
  have a5 : fX6_copyCells_s (nI (p * 40)) (nI (q * 40)) (40 : Int32) 680 sg = _ := ccells_ok (a := p * 40) (b := q * 40) (k := 40) (by omega) (by omega) (by omega)
  have m3 : ∀ p, nI p * (3 : Int32) = nI (p * 3) := fun p => pk_mul p 3
  have m36 : ∀ p, nI p * (36 : Int32) = nI (p * 36) := fun p => pk_mul p 36
  have m40 : ∀ p, nI p * (40 : Int32) = nI (p * 40) := fun p => pk_mul p 40
  unfold fX0_copyPlace
  rw [m3, m3, m36, m36, m40, m40, a1, b1_so, a2, b1_so, a3, b1_so, a4, b1_so, a5, b1_so]
/-- what stood at p stands at q -/
theorem figC_mv {st le po : Nat → Int32} {p q : Nat} {r : Nat → Nat} {f : Nat} (ho : figOk r f) (hc : figC st le po p r f) : figC (va_cpy st st p q 1) (va_cpy le le (p * 3) (q * 3) 3) (va_cpy po po (p * 36) (q * 36) 36) q r f := by
  have h3 := ho.1
  refine ⟨?_, fun s hs => ?_, fun s hs i hi => ?_⟩
  · rw [pk_cpy_in (by omega) (by omega), Nat.sub_self, Nat.add_zero]; exact hc.1
  · rw [pk_cpy_in (by omega) (by omega), show p * 3 + (3 * q + s - q * 3) = 3 * p + s by omega]; exact hc.2.1 s hs
  · have h2 := ho.2.1 s (by omega)
    rw [pk_cpy_in (by omega) (by omega), show p * 36 + (36 * q + 12 * s + i - q * 36) = 36 * p + 12 * s + i by omega]; exact hc.2.2 s hs i hi
theorem sgC_mv {sc sg : Nat → Int32} {p q : Nat} {L : List Nat} (hL : L.length ≤ 40) (hc : sgC sc sg p L) : sgC (va_cpy sc sc p q 1) (va_cpy sg sg (p * 40) (q * 40) 40) q L := by
  refine ⟨?_, fun k hk => ?_⟩
  · rw [pk_cpy_in (by omega) (by omega), Nat.sub_self, Nat.add_zero]; exact hc.1
  · rw [pk_cpy_in (by omega) (by omega), show p * 40 + (40 * q + k - q * 40) = 40 * p + k by omega]; exact hc.2 k hk
theorem cpy_fr (p q : Nat) (st le po : Nat → Int32) : figFr q st le po (va_cpy st st p q 1) (va_cpy le le (p * 3) (q * 3) 3) (va_cpy po po (p * 36) (q * 36) 36) := ⟨fun j hj => pk_cpy_out (by omega), fun j hj => pk_cpy_out (by omega), fun j hj => pk_cpy_out (by omega)⟩
theorem cpy_sf (p q : Nat) (sc sg : Nat → Int32) : sgFr q sc sg (va_cpy sc sc p q 1) (va_cpy sg sg (p * 40) (q * 40) 40) := ⟨fun j hj => pk_cpy_out (by omega), fun j hj => pk_cpy_out (by omega)⟩
/-- no figure at hand -/
theorem cclear_ok (st sc : Nat → Int32) : fX4_clearHand st sc = (0, upd st 16 0, upd sc 16 0) := by
  unfold fX4_clearHand fX0_clearPlace
  have a : ∀ f : Nat → Int32, xput (16 : Int32) (0 : Int32) 17 f = upd f 16 0 := fun f => xput_in (i := 16) f _ (by omega) (by omega)
  rw [a, a]
def learnR (r : Nat → Nat) (nm : Nat) : Nat → Nat := fun j => if j ≤ 76 then 0 else if j = 110 then r 110 + 1 else if j = atM (r 110) + 76 then nm else if atM (r 110) ≤ j ∧ j < atM (r 110) + 76 then r (j - atM (r 110)) else r j
theorem learn_lo (r : Nat → Nat) (nm : Nat) {j : Nat} (h1 : 77 ≤ j) (h2 : j ≠ 110) (h3 : j < atM (r 110) ∨ atM (r 110) + 77 ≤ j) : learnR r nm j = r j := by
  unfold learnR
  rw [if_neg (by omega), if_neg h2, if_neg (by omega), if_neg (by omega)]
theorem learn_new (r : Nat → Nat) (nm : Nat) {j : Nat} (h : j < 76) : learnR r nm (atM (r 110) + j) = r j := by
  unfold learnR
  have : 111 ≤ atM (r 110) := by unfold atM; omega
  rw [if_neg (by omega), if_neg (by omega), if_neg (by omega), if_pos (by omega), Nat.add_sub_cancel_left]
theorem learn_nm (r : Nat → Nat) (nm : Nat) : learnR r nm (atM (r 110) + 76) = nm := by
  unfold learnR
  have : 111 ≤ atM (r 110) := by unfold atM; omega
  rw [if_neg (by omega), if_neg (by omega), if_pos rfl]
theorem fig0 {r : Nat → Nat} (h : ∀ j, j ≤ 76 → r j = 0) (d : Nat) : figI r 0 d := by
  have e0 := h 0 (by omega)
  refine ⟨⟨⟨by omega, fun s hs => by rw [h _ (by omega)]; omega, fun j hj => by rw [h _ (by omega)]; omega⟩, fun s hs => ⟨fun z => by omega, fun _ => h _ (by omega)⟩⟩, ?_⟩
  unfold sigM
  rw [e0]
  exact Nat.zero_le _
theorem sig0 {r : Nat → Nat} (h : r 0 = 0) (d : Nat) : sigM r 0 d = [] := by
  unfold sigM
  rw [h]; rfl
theorem learn_as {r : Nat → Nat} {s : Nat} (hs : s < r 110) (nm : Nat) {j : Nat} (hj : j < 77) : learnR r nm (atM s + j) = r (atM s + j) := learn_lo r nm (by unfold atM; omega) (by unfold atM; omega) (Or.inl (by unfold atM; omega))
theorem rI_learn {r : Nat → Nat} (h : rI r) {nm : Nat} (hnm : nm ≤ 9) (h15 : r 110 ≠ 16) : rI (learnR r nm) := by
  have h16 := h.h16
  have hA : 111 ≤ atM (r 110) := by unfold atM; omega
  have lo : ∀ j, 77 ≤ j → j < 110 → learnR r nm j = r j := fun j h1 h2 => learn_lo r nm h1 (by omega) (Or.inl (by omega))
  have z : ∀ j, j ≤ 76 → learnR r nm j = 0 := fun j hj => if_pos hj
  have e110 : learnR r nm 110 = r 110 + 1 := rfl
  refine ⟨fun p q => ?_, by rw [lo 77 (by omega) (by omega)]; exact h.2.1, by rw [lo 78 (by omega) (by omega)]; exact h.2.2.1, by rw [lo 79 (by omega) (by omega)]; exact h.2.2.2.1, by omega, by rw [z 76 (by omega)]; omega, fun s hs => ?_⟩
  · rw [lo 77 (by omega) (by omega)]
    rcases q with rfl | q
    · exact fig0 z _
    · rw [e110] at q
      rw [offS (by omega)]
      by_cases y : p = r 110
      · subst y
        have hf := h.hand
        have hj : ∀ j, j < 76 → learnR r nm (atM (r 110) + j) = r (0 + j) := fun j hj => by rw [learn_new r nm hj, Nat.zero_add]
        exact figI_eq (figEq_of hj hf.1.1.2.1) (figOk_of hj hf.1.1) hf
      · have hf := h.smp (show p < r 110 by omega)
        have hj : ∀ j, j < 76 → learnR r nm (atM p + j) = r (atM p + j) := fun j hj => learn_as (by omega) nm (by omega)
        exact figI_eq (figEq_of hj hf.1.1.2.1) (figOk_of hj hf.1.1) hf
  · rw [e110] at hs
    by_cases y : s = r 110
    · subst y; rw [learn_nm]; exact hnm
    · rw [learn_as (by omega) nm (by omega)]; exact h.nm (by omega)
/-- THE CLASS KEEPS THE FIGURE AT HAND -/
theorem ckeep_ok {r : Nat → Nat} {sm pd : Int32} {st le po sc sg na se ou : Nat → Int32} (h : rI r) (hC : CS r sm pd st le po sc sg na se ou) {nm : Nat} (hnm : nm ≤ 9) :
    (lrnOk r nm ∧ ∃ st' na' sc' sg' le' po', fX4_keepHand (nI nm) sm pd st na sc sg le po = some (1, nI (r 110 + 1), 0, st', na', sc', sg', le', po') ∧ CS (learnR r nm) (nI (r 110 + 1)) 0 st' le' po' sc' sg' na' se ou) ∨
    (¬ lrnOk r nm ∧ fX4_keepHand (nI nm) sm pd st na sc sg le po = some (0, sm, pd, st, na, sc, sg, le, po)) := by
  have h16 := h.h16
  have h3 := h.hand.1.1.1
  have e0 : fX0_strokesOf (16 : Int32) st = nI (r 0) := by rw [l16, strokes_at (by omega)]; exact hC.handF.1
  unfold fX4_keepHand
  rw [e0]
  by_cases q0 : r 0 = 0
  · right
    refine ⟨fun z => z.1 q0, ?_⟩
    rw [if_pos (by rw [q0]; rfl)]
  · rw [if_neg (nI_ne0 (by omega) (by omega)), hC.1]
    by_cases q1 : r 110 = 16
    · right
      refine ⟨fun z => z.2.1 q1, ?_⟩
      rw [if_pos (show (16 : Int32) ≤ nI (r 110) from nI_le (a := 16) (by omega) (by omega))]
    · rw [if_neg (show ¬ (16 : Int32) ≤ nI (r 110) from nI_ge (b := 16) (by omega) (by omega))]
      have hCC := hC
      rw [hC.1] at hCC
      rcases taken_ok h hCC hnm with ⟨q2, e⟩ | ⟨q2, e⟩
      · right
        refine ⟨fun z => z.2.2 q2, ?_⟩
        rw [e, b1_so, if_neg (show ¬ (1 : Int32) = 0 from by decide)]
      · left
        have hcp : fX0_copyPlace (16 : Int32) (nI (r 110)) st le po sc sg = _ := cplace_ok (p := 16) (q := r 110) (by omega) (by omega) st le po sc sg
        refine ⟨⟨q0, q1, q2⟩, _, _, _, _, _, _, by rw [e, b1_so, if_pos rfl, hcp, b5_so, nI_1, cclear_ok], ?_⟩
        rw [xput_in na _ (by omega) (by omega)]
        dsimp only
        have hA : 111 ≤ atM (r 110) := by unfold atM; omega
        have lo : ∀ j, 77 ≤ j → j < 110 → learnR r nm j = r j := fun j h1 h2 => learn_lo r nm h1 (by omega) (Or.inl (by omega))
        have e110 : learnR r nm 110 = r 110 + 1 := rfl
        have z : ∀ j, j ≤ 76 → learnR r nm j = 0 := fun j hj => if_pos hj
        have f16 : ∀ (a b c : Nat → Int32), figFr 16 a b c (upd a 16 0) b c := fun a b c => ⟨fun q hq => pk_un hq, fun _ _ => rfl, fun _ _ => rfl⟩
        have s16 : ∀ (a b : Nat → Int32), sgFr 16 a b (upd a 16 0) b := fun a b => ⟨fun q hq => pk_un hq, fun _ _ => rfl⟩
        refine ⟨rfl, by rw [z 76 (by omega)]; rfl, fun p q => ?_, fun s hs => ?_, fun w hw => ?_, fun n hn o ho => ?_⟩
        · rw [lo 77 (by omega) (by omega)]
          rcases q with rfl | q
          · rw [off16]
            have z0 := z 0 (by omega)
            refine ⟨⟨by rw [pk_us, z0]; rfl, fun s hs => by omega, fun s hs => by omega⟩, ?_⟩
            rw [sig0 z0]
            exact ⟨pk_us, fun k hk => absurd hk (Nat.not_lt_zero _)⟩
          · rw [e110] at q
            rw [offS (by omega)]
            by_cases y : p = r 110
            · subst y
              have hf := h.hand
              have hj : ∀ j, j < 76 → learnR r nm (atM (r 110) + j) = r (0 + j) := fun j hj => by rw [learn_new r nm hj, Nat.zero_add]
              have hq := figEq_of hj hf.1.1.2.1
              rw [sigM_eq _ hq hf.1.1.1]
              exact ⟨figC_fr (figOk_of hj hf.1.1) (f16 _ _ _) (by omega) (figC_eq hq hf.1.1.1 (figC_mv hf.1.1 hC.handF)), sgC_fr hf.2 (s16 _ _) (by omega) (sgC_mv hf.2 hC.handS)⟩
            · have q : p < r 110 := by omega
              have hf := h.smp q
              have hj : ∀ j, j < 76 → learnR r nm (atM p + j) = r (atM p + j) := fun j hj => learn_as q nm (by omega)
              have hq := figEq_of hj hf.1.1.2.1
              rw [sigM_eq _ hq hf.1.1.1]
              exact ⟨figC_fr (figOk_of hj hf.1.1) (f16 _ _ _) (by omega) (figC_eq hq hf.1.1.1 (figC_fr hf.1.1 (cpy_fr 16 (r 110) st le po) y (hC.smpF h q))), sgC_fr hf.2 (s16 _ _) (by omega) (sgC_fr hf.2 (cpy_sf 16 (r 110) sc sg) y (hC.smpS h q))⟩
        · rw [e110] at hs
          by_cases y : s = r 110
          · subst y; rw [learn_nm, pk_us]
          · rw [learn_as (by omega) nm (by omega), pk_un y]; exact hC.2.2.2.1 s (by omega)
        · rw [lo _ (by omega) (by omega)]; exact hC.2.2.2.2.1 w hw
        · rw [lo _ (by omega) (by omega)]; exact hC.2.2.2.2.2 n hn o ho
/-- the model clears a figure -/
theorem mclear_ok {N f : Nat} {c : Nat → Int32} {r : Nat → Nat} (hr : rowOk N c r) (hf : f + 76 ≤ N) (hN : N < 2 ^ 30) : ∃ c', fX7_clearFigure (nI f) N c = some c' ∧ rowOk N c' (fun j => if f ≤ j ∧ j < f + 76 then 0 else r j) := by
  obtain ⟨e, he, hq⟩ := loopF_ex (fun (z : Int32 × (Nat → Int32)) => fX7_clearFigure_L2 N (nI f) z.1 z.2)
    (fun i z => z.1 = nI i ∧ rowOk N z.2 (fun j => if f ≤ j ∧ j < f + i then 0 else r j))
    (fun e => rowOk N e (fun j => if f ≤ j ∧ j < f + 76 then 0 else r j)) 0 76 (by omega) (fun i z _ hi hz => Or.inl (by
      obtain ⟨z1, c1⟩ := z
      obtain ⟨rfl, hz⟩ := hz
      dsimp only at hz
      refine ⟨(nI (i + 1), upd c1 (f + i) 0), ?_, rfl, fun j hj => ?_⟩
      · show fX7_clearFigure_L2 N (nI f) (nI i) c1 = _
        unfold fX7_clearFigure_L2
        rw [l76, if_neg (nI_ge hi (by omega)), nI_add, gk (by omega) (by omega), b1_so, nI_clamp (by omega), nI_1]
      · show upd c1 (f + i) 0 j = nI (if _ then _ else _)
        by_cases q : j = f + i
        · subst q; rw [pk_us, if_pos (by omega)]; rfl
        · rw [pk_un q, hz j hj]
          show nI (if _ then _ else _) = _
          by_cases y : f ≤ j ∧ j < f + i
          · rw [if_pos y, if_pos (by omega)]
          · rw [if_neg y, if_neg (by omega)])) (fun z hz => by
      obtain ⟨z1, c1⟩ := z
      obtain ⟨rfl, hz⟩ := hz
      dsimp only at hz
      refine ⟨c1, ?_, hz⟩
      show fX7_clearFigure_L2 N (nI f) (nI 76) c1 = _
      unfold fX7_clearFigure_L2
      rw [l76, if_pos (nI_le (Nat.le_refl _) (by omega))]) ((0 : Int32), c) ⟨rfl, fun j hj => by
        show c j = nI (if _ then _ else _)
        rw [if_neg (by omega)]; exact hr j hj⟩ FUEL (by unfold FUEL; omega)
  refine ⟨e, ?_, hq⟩
  unfold fX7_clearFigure
  rw [he, b1_so]
/-- the model learns -/
theorem mlearn_ok {c : Nat → Int32} {r : Nat → Nat} (hr : rowOk 1343 c r) (h15 : r 110 < 16) (nm : Nat) : ∃ c', fX7_learnOn (nI nm) 1343 c = some (nI (r 110), c') ∧ rowOk 1343 c' (learnR r nm) := by
  have hA : 111 ≤ atM (r 110) := by unfold atM; omega
  have hB : atM (r 110) + 77 ≤ 1343 := by unfold atM; omega
  obtain ⟨c1, e1, o1⟩ := loopF_ex (fun (z : Int32 × (Nat → Int32)) => fX7_learnOn_L7 1343 (nI (r 110)) z.1 z.2)
    (fun i z => z.1 = nI i ∧ rowOk 1343 z.2 (fun j => if atM (r 110) ≤ j ∧ j < atM (r 110) + i then r (j - atM (r 110)) else r j))
    (fun e => rowOk 1343 e (fun j => if atM (r 110) ≤ j ∧ j < atM (r 110) + 76 then r (j - atM (r 110)) else r j)) 0 76 (by omega) (fun i z _ hi hz => Or.inl (by
      obtain ⟨z1, c1⟩ := z
      obtain ⟨rfl, hz⟩ := hz
      dsimp only at hz
      refine ⟨(nI (i + 1), upd c1 (atM (r 110) + i) (nI (r i))), ?_, rfl, fun j hj => ?_⟩
      · show fX7_learnOn_L7 1343 (nI (r 110)) (nI i) c1 = _
        unfold fX7_learnOn_L7
        have e : c1 i = nI (r i) := by
          rw [hz i (by omega)]
          show nI (if _ then _ else _) = _
          rw [if_neg (by omega)]
        rw [l76, if_neg (nI_ge hi (by omega)), at_nI, nI_add, gk (by omega) (by omega), gk (by omega) (by omega), b1_so, nI_clamp (by omega), nI_clamp (by omega), e, nI_1]
      · show upd c1 (atM (r 110) + i) _ j = nI (if _ then _ else _)
        by_cases q : j = atM (r 110) + i
        · subst q; rw [pk_us, if_pos (by omega), Nat.add_sub_cancel_left]
        · rw [pk_un q, hz j hj]
          show nI (if _ then _ else _) = _
          by_cases y : atM (r 110) ≤ j ∧ j < atM (r 110) + i
          · rw [if_pos y, if_pos (by omega)]
          · rw [if_neg y, if_neg (by omega)])) (fun z hz => by
      obtain ⟨z1, c1⟩ := z
      obtain ⟨rfl, hz⟩ := hz
      dsimp only at hz
      refine ⟨c1, ?_, hz⟩
      show fX7_learnOn_L7 1343 (nI (r 110)) (nI 76) c1 = _
      unfold fX7_learnOn_L7
      rw [l76, if_pos (nI_le (Nat.le_refl _) (by omega))]) ((0 : Int32), c) ⟨rfl, fun j hj => by
        show c j = nI (if _ then _ else _)
        rw [if_neg (by omega)]; exact hr j hj⟩ FUEL (by unfold FUEL; omega)
  have o2 := rowOk_upd o1 (atM (r 110) + 76) nm
  have o3 := rowOk_upd o2 110 (r 110 + 1)
  have v3 : upd c1 (atM (r 110) + 76) (nI nm) 110 = nI (r 110) := by
    rw [pk_un (by omega), o1 110 (by omega)]
    show nI (if _ then _ else _) = _
    rw [if_neg (by omega)]
  obtain ⟨c4, e4, o4⟩ := mclear_ok (f := 0) o3 (by omega) (by omega)
  have o5 := rowOk_upd o4 76 0
  refine ⟨upd c4 76 (nI 0), ?_, fun j hj => ?_⟩
  · unfold fX7_learnOn
    have e4 : fX7_clearFigure (0 : Int32) 1343 (upd (upd c1 (atM (r 110) + 76) (nI nm)) 110 (nI (r 110 + 1))) = some c4 := e4
    rw [l110, gk (by omega) (by omega), nI_clamp (by omega), hr 110 (by omega), e1, b1_so, at_nI, l76, nI_add]
    refine gy (by first | exact nI_pos (by omega) | decide) (by first | omega | (rw [nI_clamp (by omega)]; omega)) ?_
    rw [b1_so, nI_clamp (by omega), v3, nI_1]
    refine gy (by first | exact nI_pos (by omega) | decide) (by first | omega | (rw [nI_clamp (by omega)]; omega)) ?_
    refine gy (by first | exact nI_pos (by omega) | decide) (by first | omega | (rw [nI_clamp (by omega)]; omega)) ?_
    rw [b1_so, e4, b1_so]
    refine gy (by first | exact nI_pos (by omega) | decide) (by first | omega | (rw [nI_clamp (by omega)]; omega)) ?_
    rw [b1_so, nI_clamp (by omega)]; rfl
  · rw [o5 j hj]
    unfold updN learnR
    dsimp only
    by_cases a1 : j = 76
    · rw [if_pos a1, if_pos (by omega)]
    · rw [if_neg a1]
      by_cases a2 : j ≤ 76
      · rw [if_pos (by omega), if_pos (by omega)]
      · rw [if_neg (by omega), if_neg a2]
end XPURE14
