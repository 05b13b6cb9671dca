/-! PURE, 15: a sample is forgotten -/
section XPURE15
/-- an argument that names a sample, or not -/
theorem smp_arg (x : Int32) {r : Nat → Nat} {c : Nat → Int32} (hr : rowOk 1343 c r) (h16 : r 110 ≤ 16) :
    (∃ s, s < r 110 ∧ x = nI s ∧ fX4_hasSample x (nI (r 110)) = 1 ∧ fX7_isSample x 1343 c = some 1) ∨ (fX4_hasSample x (nI (r 110)) = 0 ∧ fX7_isSample x 1343 c = some 0) := by
  have e110 : c (110 : Int32).toNatClampNeg = nI (r 110) := by rw [l110, nI_clamp (by omega)]; exact hr 110 (by omega)
  have hin : (∃ s, s < r 110 ∧ x = nI s ∧ fX7_in x.toInt64 (0 : Int64) ((nI (r 110) - (1 : Int32)).toInt64) = 1) ∨ ((∀ s, x = nI s → s < 2 ^ 31 → ¬ s < r 110) ∧ fX7_in x.toInt64 (0 : Int64) ((nI (r 110) - (1 : Int32)).toInt64) = 0) := by
    by_cases q : r 110 = 0
    · right
      refine ⟨fun s _ _ => by omega, ?_⟩
      rw [q, in64, if_neg]
      intro z
      exact absurd (Int64.le_trans z.1 z.2) (by decide)
    · have e1 : (nI (r 110) - (1 : Int32)).toInt64 = lN (r 110 - 1) := by rw [l1, pk_sub (by omega), nI_l (by omega)]
      rw [e1]
      have := in_arg x 0 (r 110 - 1) (by omega) (by omega)
      rcases this with ⟨g1, k, g2, g3, g4⟩ | ⟨g1, g2⟩
      · exact Or.inl ⟨k, by omega, g2, g1⟩
      · exact Or.inr ⟨fun s e hs z => g2 s e hs (by omega), g1⟩
  unfold fX7_isSample fX4_hasSample
  rw [e110]
  rcases hin with ⟨s, hs, rfl, e⟩ | ⟨hn, e⟩
  · left
    refine ⟨s, hs, rfl, ?_, ?_⟩
    · rw [if_neg (nI_pos (by omega)), if_neg (nI_ge hs (by omega))]
    · rw [e, l110, gk (by omega) (by omega), if_pos (by decide)]
  · right
    refine ⟨?_, ?_⟩
    · by_cases q : x < 0
      · rw [if_pos q]
      · obtain ⟨k, hk, rfl⟩ := nI_of q
        have := hn k rfl hk
        rw [if_neg q, if_pos (nI_le (by omega) hk)]
    · rw [e, l110, gk (by omega) (by omega), if_pos (by decide)]
def forgetR (r : Nat → Nat) (s : Nat) : Nat → Nat := fun j => if j = 110 then r 110 - 1 else if atM s ≤ j ∧ j < atM (r 110 - 1) then r (j + 77) else r j
theorem mforget_ok {c : Nat → Int32} {r : Nat → Nat} (hr : rowOk 1343 c r) (h16 : r 110 ≤ 16) {s : Nat} (hs : s < r 110) : ∃ c', fX7_forgetOn (nI s) 1343 c = some (nI (r 110 - 1), c') ∧ rowOk 1343 c' (forgetR r s) := by
  have hA : 111 ≤ atM s := by unfold atM; omega
  have hAB : atM s ≤ atM (r 110 - 1) := by unfold atM; omega
  have hB : atM (r 110 - 1) + 77 ≤ 1343 := by unfold atM; omega
  have o1 := rowOk_upd hr 110 (r 110 - 1)
  obtain ⟨c1, e1, o2⟩ := loopF_ex (fun (z : Int32 × (Nat → Int32)) => fX7_forgetOn_L13 1343 z.1 z.2)
    (fun i z => z.1 = nI i ∧ rowOk 1343 z.2 (fun j => if j = 110 then r 110 - 1 else if atM s ≤ j ∧ j < i then r (j + 77) else r j))
    (fun e => rowOk 1343 e (forgetR r s)) (atM s) (atM (r 110 - 1)) hAB (fun i z h1 hi hz => Or.inl (by
      obtain ⟨z1, c1⟩ := z
      obtain ⟨rfl, hz⟩ := hz
      have hz : ∀ j, j < 1343 → c1 j = nI (if j = 110 then r 110 - 1 else if atM s ≤ j ∧ j < i then r (j + 77) else r j) := hz
      have e110 : c1 110 = nI (r 110 - 1) := by rw [hz 110 (by omega), if_pos rfl]
      have e77 : c1 (i + 77) = nI (r (i + 77)) := by rw [hz _ (by omega), if_neg (by omega), if_neg (by omega)]
      refine ⟨(nI (i + 1), upd c1 i (nI (r (i + 77)))), ?_, rfl, fun j hj => ?_⟩
      · show fX7_forgetOn_L13 1343 (nI i) c1 = _
        unfold fX7_forgetOn_L13
        rw [l110, gk (by omega) (by omega), nI_clamp (by omega), e110, at_nI, if_neg (nI_ge hi (by omega)), l77, nI_add, gk (by omega) (by omega), gk (by omega) (by omega), b1_so, nI_clamp (by omega), nI_clamp (by omega), e77, nI_1]
      · dsimp only
        by_cases q : j = i
        · subst q; rw [pk_us, if_neg (by omega), if_pos (by omega)]
        · rw [pk_un q, hz j hj]
          by_cases q1 : j = 110
          · rw [if_pos q1, if_pos q1]
          · rw [if_neg q1, if_neg q1]
            by_cases y : atM s ≤ j ∧ j < i
            · rw [if_pos y, if_pos (by omega)]
            · rw [if_neg y, if_neg (by omega)])) (fun z hz => by
      obtain ⟨z1, c1⟩ := z
      obtain ⟨rfl, hz⟩ := hz
      have e110 : c1 110 = nI (r 110 - 1) := hz 110 (by omega)
      refine ⟨c1, ?_, hz⟩
      show fX7_forgetOn_L13 1343 (nI (atM (r 110 - 1))) c1 = _
      unfold fX7_forgetOn_L13
      rw [l110, gk (by omega) (by omega), nI_clamp (by omega), e110, at_nI, if_pos (nI_le (Nat.le_refl _) (by omega))]) (nI (atM s), upd c 110 (nI (r 110 - 1))) ⟨rfl, fun j hj => by
        dsimp only
        rw [o1 j hj]
        unfold updN
        by_cases q1 : j = 110
        · rw [if_pos q1, if_pos q1]
        · rw [if_neg q1, if_neg q1, if_neg (by omega)]⟩ FUEL (by unfold FUEL; omega)
  refine ⟨c1, ?_, o2⟩
  have e110 : c1 110 = nI (r 110 - 1) := by rw [o2 110 (by omega)]; rfl
  unfold fX7_forgetOn
  rw [l110, gk (by omega) (by omega), gk (by omega) (by omega), b1_so, nI_clamp (by omega), hr 110 (by omega), l1, pk_sub (by omega), at_nI, e1, b1_so]
  refine gy (by first | exact nI_pos (by omega) | decide) (by first | omega | (rw [nI_clamp (by omega)]; omega)) ?_
  rw [e110]
theorem forget_lo (r : Nat → Nat) (s : Nat) {j : Nat} (h : j < 110) : forgetR r s j = r j := by
  unfold forgetR
  have : 111 ≤ atM s := by unfold atM; omega
  rw [if_neg (by omega), if_neg (by omega)]
def srcM (s i q : Nat) : Nat := if s ≤ q ∧ q + 1 < i then q + 1 else q
theorem forget_at (r : Nat → Nat) (s : Nat) {t : Nat} (ht : t < r 110 - 1) {j : Nat} (hj : j < 77) : forgetR r s (atM t + j) = r (atM (srcM s (r 110) t) + j) := by
  unfold forgetR srcM
  by_cases q : s ≤ t
  · rw [if_neg (by unfold atM; omega), if_pos (by unfold atM; omega), if_pos (by omega)]
    congr 1; unfold atM; omega
  · rw [if_neg (by unfold atM; omega), if_neg (by unfold atM; omega), if_neg (by omega)]
theorem src_lt {s n t : Nat} (ht : t < n - 1) : srcM s n t < n := by
  unfold srcM
  split <;> omega
theorem rI_forget {r : Nat → Nat} (h : rI r) {s : Nat} (hs : s < r 110) : rI (forgetR r s) := by
  have h16 := h.h16
  have e110 : forgetR r s 110 = r 110 - 1 := rfl
  refine ⟨fun p q => ?_, by rw [forget_lo r s (by omega)]; exact h.2.1, by rw [forget_lo r s (by omega)]; exact h.2.2.1, by rw [forget_lo r s (by omega)]; exact h.2.2.2.1, by omega, by rw [forget_lo r s (by omega), forget_lo r s (by omega)]; exact h.2.2.2.2.2.1, fun t ht => ?_⟩
  · rw [forget_lo r s (show 77 < 110 by omega)]
    rcases q with rfl | q
    · have hf := h.hand
      have hj : ∀ j, j < 76 → forgetR r s (0 + j) = r (0 + j) := fun j hj => forget_lo r s (by omega)
      exact figI_eq (figEq_of hj hf.1.1.2.1) (figOk_of hj hf.1.1) hf
    · rw [e110] at q
      have hf := h.smp (src_lt (s := s) q)
      have hj : ∀ j, j < 76 → forgetR r s (atM p + j) = r (atM (srcM s (r 110) p) + j) := fun j hj => forget_at r s q (by omega)
      rw [offS (by omega)]
      exact figI_eq (figEq_of hj hf.1.1.2.1) (figOk_of hj hf.1.1) hf
  · rw [e110] at ht
    rw [forget_at r s ht (by omega)]
    exact h.nm (src_lt ht)
theorem cdrop_loop {r : Nat → Nat} {sm pd : Int32} {st le po sc sg na se ou : Nat → Int32} (h : rI r) (hC : CS r sm pd st le po sc sg na se ou) {s : Nat} (hs : s < r 110) :
    ∃ st' le' po' sc' sg' na', loopF (fun (z : Int32 × (Nat → Int32) × (Nat → Int32) × (Nat → Int32) × (Nat → Int32) × (Nat → Int32) × (Nat → Int32)) => fX4_dropSample_L14 (nI (r 110)) z.1 z.2.1 z.2.2.1 z.2.2.2.1 z.2.2.2.2.1 z.2.2.2.2.2.1 z.2.2.2.2.2.2) FUEL (nI (s + 1), st, le, po, sc, sg, na) = some (st', le', po', sc', sg', na') ∧
      (∀ q, plc r q → figC st' le' po' q r (offM (srcM s (r 110) q)) ∧ sgC sc' sg' q (sigM r (offM (srcM s (r 110) q)) (r 77))) ∧ ∀ q, q < r 110 → na' q = nI (r (atM (srcM s (r 110) q) + 76)) := by
  have h16 := h.h16
  obtain ⟨e, he, hq⟩ := loopF_ex (fun (z : Int32 × (Nat → Int32) × (Nat → Int32) × (Nat → Int32) × (Nat → Int32) × (Nat → Int32) × (Nat → Int32)) => fX4_dropSample_L14 (nI (r 110)) z.1 z.2.1 z.2.2.1 z.2.2.2.1 z.2.2.2.2.1 z.2.2.2.2.2.1 z.2.2.2.2.2.2)
    (fun i z => z.1 = nI i ∧ (∀ q, plc r q → figC z.2.1 z.2.2.1 z.2.2.2.1 q r (offM (srcM s i q)) ∧ sgC z.2.2.2.2.1 z.2.2.2.2.2.1 q (sigM r (offM (srcM s i q)) (r 77))) ∧ ∀ q, q < r 110 → z.2.2.2.2.2.2 q = nI (r (atM (srcM s i q) + 76)))
    (fun e => (∀ q, plc r q → figC e.1 e.2.1 e.2.2.1 q r (offM (srcM s (r 110) q)) ∧ sgC e.2.2.2.1 e.2.2.2.2.1 q (sigM r (offM (srcM s (r 110) q)) (r 77))) ∧ ∀ q, q < r 110 → e.2.2.2.2.2 q = nI (r (atM (srcM s (r 110) q) + 76)))
    (s + 1) (r 110) (by omega) (fun i z h1 hi hz => Or.inl (by
      obtain ⟨z1, st1, le1, po1, sc1, sg1, na1⟩ := z
      obtain ⟨rfl, g1, g2⟩ := hz
      dsimp only at g1 g2
      have hcp := cplace_ok (p := i) (q := i - 1) (by omega) (by omega) st1 le1 po1 sc1 sg1
      have e1 : nI i - 1 = nI (i - 1) := by rw [l1, pk_sub (by omega)]
      have en : fX4_nameOf (nI i) na1 = nI (r (atM (srcM s i i) + 76)) := by
        unfold fX4_nameOf
        rw [xcell_in na1 (by omega) (by omega)]; exact g2 i hi
      have si : srcM s i i = i := if_neg (by omega)
      have sn : srcM s (i + 1) (i - 1) = i := by unfold srcM; rw [if_pos (by omega)]; omega
      have so : ∀ q, q ≠ i - 1 → srcM s (i + 1) q = srcM s i q := by
        intro q hq
        unfold srcM
        by_cases y : s ≤ q ∧ q + 1 < i
        · rw [if_pos y, if_pos (by omega)]
        · rw [if_neg y, if_neg (by omega)]
      refine ⟨_, by
        show fX4_dropSample_L14 (nI (r 110)) (nI i) st1 le1 po1 sc1 sg1 na1 = _
        unfold fX4_dropSample_L14
        rw [if_neg (nI_ge hi (by omega)), e1, hcp, b5_so, en, xput_in na1 _ (by omega) (by omega)], nI_1 i, fun q hq => ?_, fun q hq => ?_⟩
      · dsimp only
        have hf := h.1 i (Or.inr hi)
        by_cases y : q = i - 1
        · subst y
          obtain ⟨k1, k2⟩ := g1 i (Or.inr hi)
          rw [si] at k1 k2
          rw [sn]
          exact ⟨figC_mv hf.1.1 k1, sgC_mv hf.2 k2⟩
        · obtain ⟨k1, k2⟩ := g1 q hq
          rw [so q y]
          have hp : plc r (srcM s i q) := by
            unfold srcM
            rcases hq with rfl | hq
            · rw [if_neg (by omega)]; exact Or.inl rfl
            · split
              · exact Or.inr (by omega)
              · exact Or.inr hq
          have hf2 := h.1 _ hp
          exact ⟨figC_fr hf2.1.1 (cpy_fr i (i - 1) _ _ _) y k1, sgC_fr hf2.2 (cpy_sf i (i - 1) _ _) y k2⟩
      · dsimp only
        by_cases y : q = i - 1
        · subst y
          rw [pk_us, si, sn]
        · rw [pk_un y, so q y]; exact g2 q hq)) (fun z hz => by
      obtain ⟨z1, st1, le1, po1, sc1, sg1, na1⟩ := z
      obtain ⟨rfl, g1, g2⟩ := hz
      dsimp only at g1 g2
      refine ⟨(st1, le1, po1, sc1, sg1, na1), ?_, g1, g2⟩
      show fX4_dropSample_L14 (nI (r 110)) (nI (r 110)) st1 le1 po1 sc1 sg1 na1 = _
      unfold fX4_dropSample_L14
      rw [if_pos (nI_le (Nat.le_refl _) (by omega))]) (nI (s + 1), st, le, po, sc, sg, na) (by
      have s0 : ∀ q, srcM s (s + 1) q = q := fun q => if_neg (by omega)
      refine ⟨rfl, fun q hq => ?_, fun q hq => ?_⟩
      · rw [s0]; exact hC.2.2.1 q hq
      · rw [s0]; exact hC.2.2.2.1 q hq) FUEL (by unfold FUEL; omega)
  obtain ⟨st', le', po', sc', sg', na'⟩ := e
  exact ⟨st', le', po', sc', sg', na', he, hq.1, hq.2⟩
/-- THE CLASS DROPS A SAMPLE -/
theorem cdrop_ok {r : Nat → Nat} {sm pd : Int32} {st le po sc sg na se ou : Nat → Int32} (h : rI r) (hC : CS r sm pd st le po sc sg na se ou) {s : Nat} (hs : s < r 110) (hh : fX4_hasSample (nI s) sm = 1) :
    ∃ st' le' po' sc' sg' na', fX4_dropSample (nI s) sm st le po sc sg na = some (1, nI (r 110 - 1), st', le', po', sc', sg', na') ∧ CS (forgetR r s) (nI (r 110 - 1)) pd st' le' po' sc' sg' na' se ou := by
  have h16 := h.h16
  obtain ⟨st', le', po', sc', sg', na', e, g1, g2⟩ := cdrop_loop h hC hs
  refine ⟨st', le', po', sc', sg', na', ?_, rfl, by rw [forget_lo r s (by omega)]; exact hC.2.1, fun p q => ?_, fun t ht => ?_, fun w hw => ?_, fun n hn o ho => ?_⟩
  · unfold fX4_dropSample
    rw [hh, if_neg (show ¬ (1 : Int32) = 0 from by decide), hC.1, nI_1, e, l1, pk_sub (by omega)]; rfl
  · rw [forget_lo r s (show 77 < 110 by omega)]
    rcases q with rfl | q
    · have hf := h.hand
      have hj : ∀ j, j < 76 → forgetR r s (0 + j) = r (0 + j) := fun j hj => forget_lo r s (by omega)
      have hq := figEq_of hj hf.1.1.2.1
      obtain ⟨k1, k2⟩ := g1 16 (Or.inl rfl)
      have s16 : srcM s (r 110) 16 = 16 := if_neg (by omega)
      rw [s16] at k1 k2
      rw [off16] at k1 k2 ⊢
      rw [sigM_eq _ hq hf.1.1.1]
      exact ⟨figC_eq hq hf.1.1.1 k1, k2⟩
    · have q : p < r 110 - 1 := q
      have hl := src_lt (s := s) q
      have hf := h.smp hl
      have hj : ∀ j, j < 76 → forgetR r s (atM p + j) = r (atM (srcM s (r 110) p) + j) := fun j hj => forget_at r s q (by omega)
      have hq := figEq_of hj hf.1.1.2.1
      obtain ⟨k1, k2⟩ := g1 p (Or.inr (by omega))
      rw [offS (by omega)] at k1 k2
      rw [offS (by omega), sigM_eq _ hq hf.1.1.1]
      exact ⟨figC_eq hq hf.1.1.1 k1, k2⟩
  · have ht : t < r 110 - 1 := ht
    rw [forget_at r s ht (by omega)]
    exact g2 t (by omega)
  · rw [forget_lo r s (by omega)]; exact hC.2.2.2.2.1 w hw
  · rw [forget_lo r s (by omega)]; exact hC.2.2.2.2.2 n hn o ho
theorem cdrop_no {sm : Int32} {st le po sc sg na : Nat → Int32} {x : Int32} (hh : fX4_hasSample x sm = 0) : fX4_dropSample x sm st le po sc sg na = some (0, sm, st, le, po, sc, sg, na) := by
  unfold fX4_dropSample
  rw [hh, if_pos rfl]
end XPURE15
