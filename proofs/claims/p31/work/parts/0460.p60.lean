/-! PURE, 60: scripts -/
section XPURE60
/-- THE MODEL COPIES A STATE -/
theorem cpst_ok {n m a b : Nat} (c c2 : Nat → Int32) (ha : a + 1343 ≤ n) (hb : b + 1343 ≤ m) (hn : n < 2 ^ 30) (hm : m < 2 ^ 30) :
    ∃ c', fX7_copyState (nI a) (nI b) n m c c2 = some c' ∧ (∀ j, j < 1343 → c' (b + j) = c (a + j)) ∧ ∀ j, (j < b ∨ b + 1343 ≤ j) → c' j = c2 j := by
  obtain ⟨x, hx, h1, h2⟩ := loopF_ex (fun (z : Int32 × (Nat → Int32)) => fX7_copyState_L3 n m c (nI a) (nI b) z.1 z.2)
    (fun i z => z.1 = nI i ∧ (∀ j, j < i → z.2 (b + j) = c (a + j)) ∧ ∀ j, (j < b ∨ b + i ≤ j) → z.2 j = c2 j)
    (fun x => (∀ j, j < 1343 → x (b + j) = c (a + j)) ∧ ∀ j, (j < b ∨ b + 1343 ≤ j) → x j = c2 j) 0 1343 (by omega) (fun i z _ hi hz => Or.inl (by
      obtain ⟨z1, d⟩ := z
      obtain ⟨rfl, g1, g2⟩ := hz
      dsimp only at g1 g2
      refine ⟨(nI (i + 1), upd d (b + i) (c (a + i))), ?_, rfl, fun j hj => ?_, fun j hj => ?_⟩
      · show fX7_copyState_L3 n m c (nI a) (nI b) (nI i) d = _
        unfold fX7_copyState_L3
        rw [if_neg (show ¬ (1343 : Int32) ≤ nI i from nI_ge (b := 1343) hi (by omega)), nI_add, nI_add, gk (by omega) (by omega), gk (by omega) (by omega), b1_so, nI_clamp (by omega), nI_clamp (by omega), nI_1]
      · dsimp only
        by_cases q : j = i
        · rw [q, pk_us]
        · rw [pk_un (by omega)]; exact g1 j (by omega)
      · dsimp only
        rw [pk_un (by omega)]; exact g2 j (by omega))) (fun z hz => by
      obtain ⟨z1, d⟩ := z
      obtain ⟨rfl, g1, g2⟩ := hz
      refine ⟨d, ?_, g1, g2⟩
      show fX7_copyState_L3 n m c (nI a) (nI b) (nI 1343) d = _
      unfold fX7_copyState_L3
      rw [if_pos (show (1343 : Int32) ≤ nI 1343 from Int32.le_refl _)]) ((0 : Int32), c2) ⟨rfl, fun j hj => absurd hj (Nat.not_lt_zero _), fun _ _ => rfl⟩ FUEL (by unfold FUEL; omega)
  refine ⟨x, ?_, h1, h2⟩
  unfold fX7_copyState
  rw [hx, b1_so]
theorem cpnow_ok {c : Nat → Int32} {r : Nat → Nat} (hr : rowOk 1343 c r) (c2 : Nat → Int32) : ∃ c', fX7_copyState (0 : Int32) (0 : Int32) 1343 1343 c c2 = some c' ∧ rowOk 1343 c' r := by
  obtain ⟨c', e, h1, -⟩ := cpst_ok (a := 0) (b := 0) (n := 1343) (m := 1343) c c2 (by omega) (by omega) (by omega) (by omega)
  refine ⟨c', e, fun j hj => ?_⟩
  have := h1 j hj
  rw [Nat.zero_add] at this
  rw [this]; exact hr j hj
/-- a command, both sides, as the methods have it -/
theorem cmd2_ok {r : Nat → Nat} {c : Nat → Int32} {sm pd : Int32} {st le po sc sg na se ou : Nat → Int32} (h : rI r) (hC : CS r sm pd st le po sc sg na se ou) (hr : rowOk 1343 c r) {G : Nat} (hG : G < 100000) (v1 v2 v3 v4 w1 w2 w3 : Int32) (cs ds one two ks : Nat → Int32) :
    ∃ v sm' pd' st' sc' le' po' sg' se' na' x1 x2 x3 x4 cs' ds' ou' y1 y2 y3 c' one' two' ks',
      fX6_commandSucceeds (nI G) sm pd st sc le po sg se na v1 v2 v3 v4 cs ds ou = some (v, sm', pd', st', sc', le', po', sg', se', na', x1, x2, x3, x4, cs', ds', ou') ∧
      fX7_command (nI G / (10000 : Int32)) (xrem (nI G) (10000 : Int32)) w1 w2 w3 c one two ks = some (v, y1, y2, y3, c', one', two', ks') ∧
      (v = 0 ∨ (v = 1 ∧ ∃ r', rI r' ∧ CS r' sm' pd' st' le' po' sc' sg' na' se' ou' ∧ rowOk 1343 c' r')) := by
  have dv : ∀ d, 0 < d → d < 2 ^ 31 → nI G / nI d = nI (G / d) := fun d h1 h2 => pk_div (by omega) h1 h2
  have d1 : nI G / (10000 : Int32) = nI (G / 10000) := dv 10000 (by omega) (by omega)
  have d2 : nI G / (1000 : Int32) = nI (G / 1000) := dv 1000 (by omega) (by omega)
  have d3 : nI G / (100 : Int32) = nI (G / 100) := dv 100 (by omega) (by omega)
  have m1 : ∀ x, x < 2 ^ 31 → xrem (nI x) (10 : Int32) = nI (x % 10) := fun x hx => pk_rem (d := 10) hx (by omega) (by omega)
  have m2 : ∀ x, x < 2 ^ 31 → xrem (nI x) (100 : Int32) = nI (x % 100) := fun x hx => pk_rem (d := 100) hx (by omega) (by omega)
  have m3 : ∀ x, x < 2 ^ 31 → xrem (nI x) (1000 : Int32) = nI (x % 1000) := fun x hx => pk_rem (d := 1000) hx (by omega) (by omega)
  have m4 : xrem (nI G) (10000 : Int32) = nI (G % 10000) := pk_rem (d := 10000) (by omega) (by omega) (by omega)
  have q1 : nI (G % 10000) / (1000 : Int32) = nI (G / 1000 % 10) := by
    rw [show (1000 : Int32) = nI 1000 from rfl, pk_div (by omega) (by omega) (by omega)]; congr 1; omega
  have q2 : G % 10000 = 1000 * (G / 1000 % 10) + 100 * (G / 100 % 10) + G % 100 := by omega
  have hcmd := cmd_ok h hC hr (j1 := nI G) (g := G / 10000) (a := G / 1000 % 10) (b := G / 100 % 10) (l := G % 100) d1 (by omega) (by omega) (by omega) (by omega) v1 v2 v3 v4 w1 w2 w3 cs ds one two ks
  have e6 : fX6_commandSucceeds (nI G) sm pd st sc le po sg se na v1 v2 v3 v4 cs ds ou = fX6_commandSucceeds_J52 (nI G) (nI (G / 1000 % 10)) (nI (G / 100 % 10)) (nI (G % 100)) (if G / 1000 % 10 = 0 ∧ G / 100 % 10 = 0 then 1 else 0) (if G / 100 % 10 = 0 ∧ G % 100 = 0 then 1 else 0) sm pd st sc le po sg se na v1 v2 v3 v4 cs ds ou := by
    have z : ∀ x, x < 100 → (nI x = (0 : Int32) ↔ x = 0) := fun x hx => nI_eq (a := x) (b := 0) (by omega) (by omega)
    unfold fX6_commandSucceeds fX6_commandSucceeds_J36
    rw [d2, d3, m1 _ (by omega), m1 _ (by omega), m2 _ (by omega)]
    have za := z (G / 1000 % 10) (by omega)
    have zb := z (G / 100 % 10) (by omega)
    have zl := z (G % 100) (by omega)
    simp only [za, zb, zl]
    by_cases a0 : G / 1000 % 10 = 0
    · rw [if_pos a0]
      by_cases b0 : G / 100 % 10 = 0
      · rw [if_pos b0, if_pos b0, if_pos (show G / 1000 % 10 = 0 ∧ G / 100 % 10 = 0 from ⟨a0, b0⟩)]
        by_cases l0 : G % 100 = 0
        · rw [if_pos l0, if_pos (show G / 100 % 10 = 0 ∧ G % 100 = 0 from ⟨b0, l0⟩)]
        · rw [if_neg l0, if_neg (show ¬ (G / 100 % 10 = 0 ∧ G % 100 = 0) by omega)]
      · rw [if_neg b0, if_neg b0, if_neg (show ¬ (G / 1000 % 10 = 0 ∧ G / 100 % 10 = 0) by omega), if_neg (show ¬ (G / 100 % 10 = 0 ∧ G % 100 = 0) by omega)]
    · rw [if_neg a0, if_neg (show ¬ (G / 1000 % 10 = 0 ∧ G / 100 % 10 = 0) by omega)]
      by_cases b0 : G / 100 % 10 = 0
      · rw [if_pos b0]
        by_cases l0 : G % 100 = 0
        · rw [if_pos l0, if_pos (show G / 100 % 10 = 0 ∧ G % 100 = 0 from ⟨b0, l0⟩)]
        · rw [if_neg l0, if_neg (show ¬ (G / 100 % 10 = 0 ∧ G % 100 = 0) by omega)]
      · rw [if_neg b0, if_neg (show ¬ (G / 100 % 10 = 0 ∧ G % 100 = 0) by omega)]
  have e7 : fX7_command (nI G / (10000 : Int32)) (xrem (nI G) (10000 : Int32)) w1 w2 w3 c one two ks = fX7_command_J25 (nI (G / 10000)) (nI (1000 * (G / 1000 % 10) + 100 * (G / 100 % 10) + G % 100)) (nI (G / 1000 % 10)) (nI (G % 100)) (if G / 100 % 10 = 0 ∧ G % 100 = 0 then 1 else 0) w1 w2 w3 c one two ks := by
    unfold fX7_command
    rw [m4, d1, q1, m3 _ (by omega), m2 _ (by omega), show G % 10000 % 100 = G % 100 by omega, ← q2]
    by_cases y : G / 100 % 10 = 0 ∧ G % 100 = 0
    · rw [if_pos y, if_pos (show nI (G % 10000 % 1000) = (0 : Int32) by rw [show G % 10000 % 1000 = 0 by omega]; rfl)]
    · rw [if_neg y, if_neg (show ¬ nI (G % 10000 % 1000) = (0 : Int32) from fun (z : nI (G % 10000 % 1000) = nI 0) => by
        have := (nI_eq (by omega) (by omega)).mp z
        omega)]
  rw [e6, e7]
  exact hcmd
theorem wg_ok (S : Nat) (hS : S < 2 ^ 63) {g : Nat} (hg : g ≤ 3) : fX6_withoutGroups (lN S) (nI g) = some (lN (S / 100000 ^ g)) := by
  unfold fX6_withoutGroups
  have e := loopF_count (fun (z : Int64 × Int32) => fX6_withoutGroups_L5 (nI g) z.1 z.2) (fun i => (lN (S / 100000 ^ i), nI i)) (lN (S / 100000 ^ g)) g (fun i hi => by
    show fX6_withoutGroups_L5 (nI g) (lN (S / 100000 ^ i)) (nI i) = _
    unfold fX6_withoutGroups_L5
    have : S / 100000 ^ i ≤ S := Nat.div_le_self _ _
    rw [if_neg (nI_ge hi (by omega)), show (100000 : Int64) = lN 100000 from rfl, pk_lDiv (by omega) (by omega) (by omega), Nat.div_div_eq_div_mul, ← Nat.pow_succ, nI_1]) (by
    show fX6_withoutGroups_L5 (nI g) (lN (S / 100000 ^ g)) (nI g) = _
    unfold fX6_withoutGroups_L5
    rw [if_pos (nI_le (Nat.le_refl _) (by omega))]) g 0 (by omega) FUEL (by unfold FUEL; omega)
  have e : loopF (fun (z : Int64 × Int32) => fX6_withoutGroups_L5 (nI g) z.1 z.2) FUEL (lN (S / 100000 ^ 0), (0 : Int32)) = _ := e
  rw [Nat.pow_zero, Nat.div_one] at e
  rw [e, b1_so]
theorem all_ok {g : Nat} (hg : g ≤ 3) : loopF (fun (z : Int64 × Int32) => fX7_runScript_L6 (nI g) z.1 z.2) FUEL ((1 : Int64), (0 : Int32)) = some (lN (100000 ^ g)) := by
  have e := loopF_count (fun (z : Int64 × Int32) => fX7_runScript_L6 (nI g) z.1 z.2) (fun i => (lN (100000 ^ i), nI i)) (lN (100000 ^ g)) g (fun i hi => by
    show fX7_runScript_L6 (nI g) (lN (100000 ^ i)) (nI i) = _
    unfold fX7_runScript_L6
    rw [if_neg (nI_ge hi (by omega)), if_neg (show ¬ (3 : Int32) ≤ nI i from nI_ge (b := 3) (by omega) (by omega)), show (100000 : Int64) = lN 100000 from rfl, lN_mul, ← Nat.pow_succ, nI_1]) (by
    show fX7_runScript_L6 (nI g) (lN (100000 ^ g)) (nI g) = _
    unfold fX7_runScript_L6
    rw [if_pos (nI_le (Nat.le_refl _) (by omega))]) g 0 (by omega) FUEL (by unfold FUEL; omega)
  exact e
/-- an argument that is no number of commands: the loop of the model still ends -/
theorem all_end (x : Int32) : ∃ y, loopF (fun (z : Int64 × Int32) => fX7_runScript_L6 x z.1 z.2) FUEL ((1 : Int64), (0 : Int32)) = some y := by
  obtain ⟨e, he, -⟩ := loopF_ex (fun (z : Int64 × Int32) => fX7_runScript_L6 x z.1 z.2) (fun i z => z.2 = nI i) (fun _ => True) 0 3 (by omega) (fun i z _ hi hz => by
    obtain ⟨z1, z2⟩ := z
    obtain rfl := hz
    show (∃ s', fX7_runScript_L6 x z1 (nI i) = _ ∧ _) ∨ (∃ e, fX7_runScript_L6 x z1 (nI i) = _ ∧ _)
    unfold fX7_runScript_L6
    by_cases q : x ≤ nI i
    · right; rw [if_pos q]; exact ⟨_, rfl, trivial⟩
    · left; rw [if_neg q, if_neg (show ¬ (3 : Int32) ≤ nI i from nI_ge (b := 3) hi (by omega)), nI_1]; exact ⟨_, rfl, rfl⟩) (fun z hz => by
    obtain ⟨z1, z2⟩ := z
    obtain rfl := hz
    show ∃ e, fX7_runScript_L6 x z1 (nI 3) = _ ∧ _
    unfold fX7_runScript_L6
    by_cases q : x ≤ nI 3
    · rw [if_pos q]; exact ⟨_, rfl, trivial⟩
    · rw [if_neg q, if_pos (show (3 : Int32) ≤ nI 3 from Int32.le_refl _)]; exact ⟨_, rfl, trivial⟩) ((1 : Int64), (0 : Int32)) rfl FUEL (by unfold FUEL; omega)
  exact ⟨e, he⟩
abbrev CT : Type := Int32 × Int32 × (Nat → Int32) × (Nat → Int32) × (Nat → Int32) × (Nat → Int32) × (Nat → Int32) × (Nat → Int32) × (Nat → Int32) × (Nat → Int32) × Int32 × Int32 × Int32 × Int32 × (Nat → Int32) × (Nat → Int32)
abbrev MT : Type := Int32 × Int32 × Int32 × (Nat → Int32) × (Nat → Int32) × (Nat → Int32) × (Nat → Int32)
/-- THE SCRIPT'S LOOPS, both sides -/
theorem scr_loop {n S : Nat} (hn : n ≤ 3) (hS : S < 2 ^ 63) : ∀ (k i N M : Nat) (r : Nat → Nat) (c one two ks : Nat → Int32) (sm pd v1 v2 v3 v4 w1 w2 w3 : Int32) (st le po sc sg na se ou cs ds : Nat → Int32), k + i = n → k < N → k < M → rI r → CS r sm pd st le po sc sg na se ou → rowOk 1343 c r →
    ∃ eC eM, loopF (fun (z : Int32 × Int32 × Int32 × (Nat → Int32) × (Nat → Int32) × (Nat → Int32) × (Nat → Int32) × (Nat → Int32) × (Nat → Int32) × (Nat → Int32) × (Nat → Int32) × Int32 × Int32 × Int32 × Int32 × (Nat → Int32) × (Nat → Int32)) => fX6_runScript_L60 (nI n) (lN S) z.1 z.2.1 z.2.2.1 z.2.2.2.1 z.2.2.2.2.1 z.2.2.2.2.2.1 z.2.2.2.2.2.2.1 z.2.2.2.2.2.2.2.1 z.2.2.2.2.2.2.2.2.1 z.2.2.2.2.2.2.2.2.2.1 z.2.2.2.2.2.2.2.2.2.2.1 z.2.2.2.2.2.2.2.2.2.2.2.1 z.2.2.2.2.2.2.2.2.2.2.2.2.1 z.2.2.2.2.2.2.2.2.2.2.2.2.2.1 z.2.2.2.2.2.2.2.2.2.2.2.2.2.2.1 z.2.2.2.2.2.2.2.2.2.2.2.2.2.2.2.1 z.2.2.2.2.2.2.2.2.2.2.2.2.2.2.2.2) N (nI i, sm, pd, st, le, po, sc, sg, na, se, ou, v1, v2, v3, v4, cs, ds) = some eC ∧
      loopF (fun (z : Int64 × Int32 × Int32 × Int32 × Int32 × (Nat → Int32) × (Nat → Int32) × (Nat → Int32) × (Nat → Int32)) => fX7_runScript_L86 (nI n) (lN S) z.1 z.2.1 z.2.2.1 z.2.2.2.1 z.2.2.2.2.1 z.2.2.2.2.2.1 z.2.2.2.2.2.2.1 z.2.2.2.2.2.2.2.1 z.2.2.2.2.2.2.2.2) M (lN (100000 ^ (n - i)), nI i, w1, w2, w3, c, one, two, ks) = some eM ∧
      ((∃ (v : Int32) (a : CT) (b : MT), eC = Sum.inl (v, a) ∧ eM = Sum.inl (v, b)) ∨ ∃ (a : CT) (b : MT), eC = Sum.inr a ∧ eM = Sum.inr b) := by
  intro k
  induction k with
  | zero =>
    intro i N M r c one two ks sm pd v1 v2 v3 v4 w1 w2 w3 st le po sc sg na se ou cs ds hk hN hM h hC hr
    obtain ⟨N, rfl⟩ : ∃ N', N = N' + 1 := ⟨N - 1, by omega⟩
    obtain ⟨M, rfl⟩ : ∃ M', M = M' + 1 := ⟨M - 1, by omega⟩
    obtain rfl : i = n := by omega
    refine ⟨_, _, loopF_out ?_, loopF_out ?_, Or.inr ⟨(sm, pd, st, le, po, sc, sg, na, se, ou, v1, v2, v3, v4, cs, ds), (w1, w2, w3, c, one, two, ks), rfl, rfl⟩⟩
    · show fX6_runScript_L60 (nI i) (lN S) (nI i) sm pd st le po sc sg na se ou v1 v2 v3 v4 cs ds = _
      unfold fX6_runScript_L60
      rw [if_pos (nI_le (Nat.le_refl _) (by omega))]
    · show fX7_runScript_L86 (nI i) (lN S) _ (nI i) w1 w2 w3 c one two ks = _
      unfold fX7_runScript_L86
      rw [if_pos (nI_le (Nat.le_refl _) (by omega))]
  | succ k ih =>
    intro i N M r c one two ks sm pd v1 v2 v3 v4 w1 w2 w3 st le po sc sg na se ou cs ds hk hN hM h hC hr
    obtain ⟨N, rfl⟩ : ∃ N', N = N' + 1 := ⟨N - 1, by omega⟩
    obtain ⟨M, rfl⟩ : ∃ M', M = M' + 1 := ⟨M - 1, by omega⟩
    have hi : i < n := by omega
    have hgl : S / 100000 ^ (n - 1 - i) % 100000 < 100000 := Nat.mod_lt _ (by omega)
    have hdl : S / 100000 ^ (n - 1 - i) ≤ S := Nat.div_le_self _ _
    have hpow : 100000 ^ (n - 1 - i) < 2 ^ 63 := Nat.lt_of_le_of_lt (Nat.pow_le_pow_right (by omega) (show n - 1 - i ≤ 3 by omega)) (by decide)
    have hp0 : 0 < 100000 ^ (n - 1 - i) := Nat.pow_pos (by omega)
    have hp1 : 100000 ^ (n - i) = 100000 ^ (n - 1 - i) * 100000 := by rw [← Nat.pow_succ]; congr 1; omega
    have hpow1 : 100000 ^ (n - i) < 2 ^ 63 := Nat.lt_of_le_of_lt (Nat.pow_le_pow_right (by omega) (show n - i ≤ 3 by omega)) (by decide)
    have el : xlrem (lN (S / 100000 ^ (n - 1 - i))) (100000 : Int64) = lN (S / 100000 ^ (n - 1 - i) % 100000) := pk_lRem (b := 100000) (by omega) (by omega) (by omega)
    have ei : nI n - (1 : Int32) - nI i = nI (n - 1 - i) := by rw [l1, pk_sub (by omega), pk_sub (by omega)]
    have ea : lN (100000 ^ (n - i)) / (100000 : Int64) = lN (100000 ^ (n - 1 - i)) := by
      rw [show (100000 : Int64) = lN 100000 from rfl, pk_lDiv hpow1 (by omega) (by omega), hp1, Nat.mul_div_cancel _ (by omega)]
    have en : ¬ lN (100000 ^ (n - 1 - i)) = (0 : Int64) := fun (z : lN _ = lN 0) => by
      have := (pk_lEQ hpow (by omega)).mp z
      omega
    have ed : lN S / lN (100000 ^ (n - 1 - i)) = lN (S / 100000 ^ (n - 1 - i)) := pk_lDiv hS hp0 hpow
    obtain ⟨v, sm', pd', st', sc', le', po', sg', se', na', x1, x2, x3, x4, cs', ds', ou', y1, y2, y3, c', one', two', ks', e6, e7, hv⟩ := cmd2_ok h hC hr hgl v1 v2 v3 v4 w1 w2 w3 cs ds one two ks
    have bC : fX6_runScript_L60 (nI n) (lN S) (nI i) sm pd st le po sc sg na se ou v1 v2 v3 v4 cs ds = (if v = 0 then some (Sum.inr (Sum.inl (nI i, sm', pd', st', le', po', sc', sg', na', se', ou', x1, x2, x3, x4, cs', ds'))) else some (Sum.inl (nI (i + 1), sm', pd', st', le', po', sc', sg', na', se', ou', x1, x2, x3, x4, cs', ds'))) := by
      unfold fX6_runScript_L60
      rw [if_neg (nI_ge hi (by omega)), ei, wg_ok S hS (by omega), b1_so, el, lN_i, e6, b17_so, nI_1]
    have bM : fX7_runScript_L86 (nI n) (lN S) (lN (100000 ^ (n - i))) (nI i) w1 w2 w3 c one two ks = (if v = 0 then some (Sum.inr (Sum.inl (nI i, y1, y2, y3, c', one', two', ks'))) else some (Sum.inl (lN (100000 ^ (n - 1 - i)), nI (i + 1), y1, y2, y3, c', one', two', ks'))) := by
      unfold fX7_runScript_L86
      rw [if_neg (nI_ge hi (by omega)), ea, if_neg en, ed, el, lN_i, b1_so, e7, b8_so, nI_1]
    rcases hv with rfl | ⟨rfl, r', i1, i2, i3⟩
    · rw [if_pos rfl] at bC bM
      exact ⟨_, _, loopF_out bC, loopF_out bM, Or.inl ⟨nI i, _, _, rfl, rfl⟩⟩
    · rw [if_neg i10] at bC bM
      rw [show n - 1 - i = n - (i + 1) by omega] at bM
      obtain ⟨eC, eM, g1, g2, g3⟩ := ih (i + 1) N M r' c' one' two' ks' sm' pd' x1 x2 x3 x4 y1 y2 y3 st' le' po' sc' sg' na' se' ou' cs' ds' (by omega) (by omega) (by omega) i1 i2 i3
      exact ⟨eC, eM, (loopF_go bC).trans g1, (loopF_go bM).trans g2, g3⟩
/-- an answer or a throw of the class against the model's answer and refusal -/
def aR (ex : List String) (A : Int32 ⊕ String) (v rf : Int32) : Prop := (∃ x, A = Sum.inl x ∧ rf = 0 ∧ v = x) ∨ ∃ i s, ex[i]? = some s ∧ A = Sum.inr s ∧ rf = nI (i + 1)
/-- SCRIPTS -/
theorem script_ok {r : Nat → Nat} {c : Nat → Int32} {sm pd : Int32} {st le po sc sg na se ou : Nat → Int32} (h : rI r) (hC : CS r sm pd st le po sc sg na se ou) (hr : rowOk 1343 c r) (p1 : Int32) (p2 : Int64) (tsm tpd v1 v2 v3 v4 w1 w2 w3 : Int32) (tst tle tpo tsc tsg tna tse tou cs ds tr one two ks : Nat → Int32) :
    ∃ (A : Int32 ⊕ String) (a : CT) (v rf : Int32) (b : MT), fX6_runScript p1 p2 tsm tpd sm pd st tst le tle po tpo sc tsc sg tsg na tna se tse ou tou v1 v2 v3 v4 cs ds = some (A, a.1, a.2.1, a.2.2.1, a.2.2.2.1, a.2.2.2.2.1, a.2.2.2.2.2.1, a.2.2.2.2.2.2.1, a.2.2.2.2.2.2.2.1, a.2.2.2.2.2.2.2.2.1, a.2.2.2.2.2.2.2.2.2.1, a.2.2.2.2.2.2.2.2.2.2.1, a.2.2.2.2.2.2.2.2.2.2.2.1, a.2.2.2.2.2.2.2.2.2.2.2.2.1, a.2.2.2.2.2.2.2.2.2.2.2.2.2.1, a.2.2.2.2.2.2.2.2.2.2.2.2.2.2.1, a.2.2.2.2.2.2.2.2.2.2.2.2.2.2.2) ∧
      fX7_runScript p1 p2 w1 w2 w3 c tr one two ks = some (v, rf, b.1, b.2.1, b.2.2.1, b.2.2.2.1, b.2.2.2.2.1, b.2.2.2.2.2.1, b.2.2.2.2.2.2) ∧ aR ["java/lang/IllegalArgumentException"] A v rf := by
  have rf1 : fX7_refused (1 : Int32) = (1, 1) := by decide
  have rf0 : fX7_refused (0 : Int32) = (0, 0) := by decide
  have no : ∀ (e6 : fX6_runScript p1 p2 tsm tpd sm pd st tst le tle po tpo sc tsc sg tsg na tna se tse ou tou v1 v2 v3 v4 cs ds = some (Sum.inr "java/lang/IllegalArgumentException", tsm, tpd, tst, tle, tpo, tsc, tsg, tna, tse, tou, v1, v2, v3, v4, cs, ds)) (e7 : fX7_runScript p1 p2 w1 w2 w3 c tr one two ks = some (0, 1, w1, w2, w3, tr, one, two, ks)), ∃ (A : Int32 ⊕ String) (a : CT) (v rf : Int32) (b : MT), fX6_runScript p1 p2 tsm tpd sm pd st tst le tle po tpo sc tsc sg tsg na tna se tse ou tou v1 v2 v3 v4 cs ds = some (A, a.1, a.2.1, a.2.2.1, a.2.2.2.1, a.2.2.2.2.1, a.2.2.2.2.2.1, a.2.2.2.2.2.2.1, a.2.2.2.2.2.2.2.1, a.2.2.2.2.2.2.2.2.1, a.2.2.2.2.2.2.2.2.2.1, a.2.2.2.2.2.2.2.2.2.2.1, a.2.2.2.2.2.2.2.2.2.2.2.1, a.2.2.2.2.2.2.2.2.2.2.2.2.1, a.2.2.2.2.2.2.2.2.2.2.2.2.2.1, a.2.2.2.2.2.2.2.2.2.2.2.2.2.2.1, a.2.2.2.2.2.2.2.2.2.2.2.2.2.2.2) ∧
      fX7_runScript p1 p2 w1 w2 w3 c tr one two ks = some (v, rf, b.1, b.2.1, b.2.2.1, b.2.2.2.1, b.2.2.2.2.1, b.2.2.2.2.2.1, b.2.2.2.2.2.2) ∧ aR ["java/lang/IllegalArgumentException"] A v rf := by
    intro e6 e7
    exact ⟨_, (tsm, tpd, tst, tle, tpo, tsc, tsg, tna, tse, tou, v1, v2, v3, v4, cs, ds), 0, 1, (w1, w2, w3, tr, one, two, ks), e6, e7, Or.inr ⟨0, _, rfl, rfl, rfl⟩⟩
  rcases in_arg p1 1 3 (by omega) (by omega) with ⟨e1, n, rfl, n1, n3⟩ | ⟨e1, hn⟩
  · have e1 : fX7_in (nI n).toInt64 (1 : Int64) (3 : Int64) = 1 := e1
    have c1 : ¬ nI n < (1 : Int32) := nI_nlt (b := 1) n1 (by omega)
    have c2 : nI n ≤ (3 : Int32) := nI_le (b := 3) n3 (by omega)
    have eall := all_ok n3
    have hpow : 100000 ^ n < 2 ^ 63 := Nat.lt_of_le_of_lt (Nat.pow_le_pow_right (by omega) n3) (by decide)
    have hp0 : 0 < 100000 ^ n := Nat.pow_pos (by omega)
    have esub : lN (100000 ^ n) - (1 : Int64) = lN (100000 ^ n - 1) := lN_sub (a := 100000 ^ n) (b := 1) (by omega)
    by_cases q : p2 < 0
    · refine no ?_ ?_
      · unfold fX6_runScript
        rw [if_neg c1, if_pos c2, if_pos ((lg_cmp_lt p2 0).mpr q)]
      · have ein : fX7_in p2 (0 : Int64) (lN (100000 ^ n) - (1 : Int64)) = 0 := by
          rw [in64, if_neg (fun z => absurd q (Int64.not_lt.mpr z.1))]
        unfold fX7_runScript
        rw [eall, b1_so, e1, if_neg i10, ein, if_pos rfl, rf1, if_neg i10]
    · obtain ⟨S, hS, rfl⟩ := pk_lOf q
      have hwg := wg_ok S hS n3
      have hdl : S / 100000 ^ n ≤ S := Nat.div_le_self _ _
      have ein : fX7_in (lN S) (0 : Int64) (lN (100000 ^ n) - (1 : Int64)) = if S < 100000 ^ n then 1 else 0 := by
        rw [in64, esub]
        by_cases y : S < 100000 ^ n
        · rw [if_pos y, if_pos ⟨(pk_lLE (a := 0) (by omega) hS).mpr (Nat.zero_le _), (pk_lLE hS (by omega)).mpr (by omega)⟩]
        · rw [if_neg y, if_neg (fun z => by
            have := (pk_lLE hS (by omega)).mp z.2
            omega)]
      by_cases y : S < 100000 ^ n
      · have d0 : S / 100000 ^ n = 0 := Nat.div_eq_of_lt y
        rw [d0] at hwg
        rw [if_pos y] at ein
        obtain ⟨st', le', po', sc', sg', na', se', ou', ec, hC'⟩ := ccopy_ok h hC tst tle tpo tsc tsg tna tse tou
        obtain ⟨c', em, rm⟩ := cpnow_ok hr tr
        obtain ⟨eC, eM, g1, g2, g3⟩ := scr_loop (n := n) (S := S) n3 hS n 0 FUEL FUEL r c' one two ks sm pd v1 v2 v3 v4 w1 w2 w3 st' le' po' sc' sg' na' se' ou' cs ds (by omega) (by unfold FUEL; omega) (by unfold FUEL; omega) h hC' rm
        rcases g3 with ⟨v, a, b, rfl, rfl⟩ | ⟨a, b, rfl, rfl⟩
        · refine ⟨Sum.inl (v), a, v, 0, b, ?_, ?_, Or.inl ⟨v, rfl, rfl, rfl⟩⟩
          · unfold fX6_runScript
            rw [if_neg c1, if_pos c2, if_neg (fun z => q ((lg_cmp_lt _ 0).mp z)), hwg, b1_so, if_pos (show lg_cmp (lN 0) (0 : Int64) = 0 by decide), ec, b10_so]
            exact (congrArg (fun x => b1 x _) g1).trans rfl
          · unfold fX7_runScript
            rw [eall, b1_so, e1, if_neg i10, ein, if_neg i10, rf0, if_pos rfl, em, b1_so]
            exact (congrArg (fun x => b1 x _) g2).trans rfl
        · refine ⟨Sum.inl (-1), a, -1, 0, b, ?_, ?_, Or.inl ⟨-1, rfl, rfl, rfl⟩⟩
          · unfold fX6_runScript
            rw [if_neg c1, if_pos c2, if_neg (fun z => q ((lg_cmp_lt _ 0).mp z)), hwg, b1_so, if_pos (show lg_cmp (lN 0) (0 : Int64) = 0 by decide), ec, b10_so]
            exact (congrArg (fun x => b1 x _) g1).trans rfl
          · unfold fX7_runScript
            rw [eall, b1_so, e1, if_neg i10, ein, if_neg i10, rf0, if_pos rfl, em, b1_so]
            exact (congrArg (fun x => b1 x _) g2).trans rfl
      · have d0 : 0 < S / 100000 ^ n := Nat.div_pos (by omega) hp0
        rw [if_neg y] at ein
        refine no ?_ ?_
        · unfold fX6_runScript
          rw [if_neg c1, if_pos c2, if_neg (fun z => q ((lg_cmp_lt _ 0).mp z)), hwg, b1_so, if_neg (fun z => by
            have := (lg_cmp_eq (lN (S / 100000 ^ n)) (lN 0)).mp z
            have := (pk_lEQ (by omega) (by omega)).mp this
            omega)]
        · unfold fX7_runScript
          rw [eall, b1_so, e1, if_neg i10, ein, if_pos rfl, rf1, if_neg i10]
  · have e1 : fX7_in p1.toInt64 (1 : Int64) (3 : Int64) = 0 := e1
    obtain ⟨y, ey⟩ := all_end p1
    refine no ?_ ?_
    · unfold fX6_runScript
      by_cases q : p1 < (1 : Int32)
      · rw [if_pos q]
      · rw [if_neg q, if_neg (fun z => by
          have h0 : ¬ p1 < 0 := fun w => q (Int32.lt_trans w (by decide))
          obtain ⟨k, hk, rfl⟩ := nI_of h0
          have a1 : 1 ≤ k := by
            have := mt (nI_lt (a := k) (b := 1)) (fun w => q (w (by omega)))
            omega
          have a3 : k ≤ 3 := by
            have := mt (nI_ge (a := 3) (b := k)) (fun w => w hk z)
            omega
          exact hn k rfl hk ⟨a1, a3⟩)]
    · unfold fX7_runScript
      rw [ey, b1_so, e1, if_pos rfl, rf1, if_neg i10]
end XPURE60
