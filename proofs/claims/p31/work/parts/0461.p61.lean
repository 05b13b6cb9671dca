/-! PURE, 61: simulations -/
section XPURE61
def ouS (r : Nat → Nat) (o : Nat) : Nat → Nat
  | 0 => 0
  | n + 1 => ouS r o n + r (80 + 10 * o + n)
theorem couts_ok {r : Nat → Nat} {sm pd : Int32} {st le po sc sg na se ou : Nat → Int32} (hC : CS r sm pd st le po sc sg na se ou) {o : Nat} (ho : o < 3) : fX4_outcomesOf (nI o) ou = some (nI (ouS r o 10)) := by
  unfold fX4_outcomesOf
  have e := loopF_count (fun (z : Int32 × Int32) => fX4_outcomesOf_L4 ou (nI o) z.1 z.2) (fun i => (nI (ouS r o i), nI i)) (nI (ouS r o 10)) 10 (fun i hi => by
    show fX4_outcomesOf_L4 ou (nI o) (nI (ouS r o i)) (nI i) = _
    unfold fX4_outcomesOf_L4 fX4_outcomeOf
    rw [if_neg (show ¬ (10 : Int32) ≤ nI i from nI_ge (b := 10) hi (by omega)), l3, pk_mul, nI_add, xcell_in ou (by omega) (by omega), Nat.mul_comm i 3, hC.2.2.2.2.2 i hi o ho, nI_add, nI_1]; rfl) (by
    show fX4_outcomesOf_L4 ou (nI o) (nI (ouS r o 10)) (nI 10) = _
    unfold fX4_outcomesOf_L4
    rw [if_pos (show (10 : Int32) ≤ nI 10 from Int32.le_refl _)]) 10 0 (by omega) FUEL (by unfold FUEL; omega)
  have e : loopF (fun (z : Int32 × Int32) => fX4_outcomesOf_L4 ou (nI o) z.1 z.2) FUEL ((0 : Int32), (0 : Int32)) = _ := e
  rw [e, b1_so]
theorem msum_ok {c : Nat → Int32} {r : Nat → Nat} (hr : rowOk 1343 c r) {o : Nat} (ho : o < 3) : fX7_sum (nI (80 + 10 * o)) 1343 c = some (nI (ouS r o 10)) := by
  unfold fX7_sum
  have e := loopF_count (fun (z : Int32 × Int32) => fX7_sum_L4 1343 c (nI (80 + 10 * o)) z.1 z.2) (fun i => (nI (ouS r o i), nI i)) (nI (ouS r o 10)) 10 (fun i hi => by
    show fX7_sum_L4 1343 c (nI (80 + 10 * o)) (nI (ouS r o i)) (nI i) = _
    unfold fX7_sum_L4
    rw [if_neg (show ¬ (10 : Int32) ≤ nI i from nI_ge (b := 10) hi (by omega)), nI_add, gk (by omega) (by omega), nI_clamp (by omega), hr _ (by omega), nI_add, nI_1]; rfl) (by
    show fX7_sum_L4 1343 c (nI (80 + 10 * o)) (nI (ouS r o 10)) (nI 10) = _
    unfold fX7_sum_L4
    rw [if_pos (show (10 : Int32) ≤ nI 10 from Int32.le_refl _)]) 10 0 (by omega) FUEL (by unfold FUEL; omega)
  have e : loopF (fun (z : Int32 × Int32) => fX7_sum_L4 1343 c (nI (80 + 10 * o)) z.1 z.2) FUEL ((0 : Int32), (0 : Int32)) = _ := e
  rw [e, b1_so]
theorem shr33 (x : Int64) : ∃ R, R < 2 ^ 31 ∧ (xlushr x (33 : Int32)).toInt32 = nI R := by
  have hx := x.toUInt64.toNat_lt
  refine ⟨x.toUInt64.toNat / 2 ^ 33, by omega, ?_⟩
  have h : x.toUInt64 >>> ((33 : Int32).toInt64.toUInt64 &&& Int64.toUInt64 63) = UInt64.ofNat (x.toUInt64.toNat / 2 ^ 33) := UInt64.toNat_inj.mp (by
    rw [UInt64.toNat_shiftRight, show ((33 : Int32).toInt64.toUInt64 &&& Int64.toUInt64 63).toNat % 64 = 33 by decide, Nat.shiftRight_eq_div_pow, UInt64.toNat_ofNat', Nat.mod_eq_of_lt (show x.toUInt64.toNat / 2 ^ 33 < 2 ^ 64 by omega)])
  show (x.toUInt64 >>> ((33 : Int32).toInt64.toUInt64 &&& Int64.toUInt64 63)).toInt64.toInt32 = _
  rw [h]
  exact lN_i _
/-- a figure is learned if it may be, both sides -/
theorem tl_ok {r : Nat → Nat} {c : Nat → Int32} {sm pd : Int32} {st le po sc sg na se ou : Nat → Int32} (h : rI r) (hC : CS r sm pd st le po sc sg na se ou) (hr : rowOk 1343 c r) {nm : Nat} (hnm : nm ≤ 9) (one two ks : Nat → Int32) :
    ∃ v sm' pd' st' na' sc' sg' le' po' c' one' two' ks' r', fX4_keepHand (nI nm) sm pd st na sc sg le po = some (v, sm', pd', st', na', sc', sg', le', po') ∧ fX7_tryLearn (nI nm) c one two ks = some (c', one', two', ks') ∧ rI r' ∧ CS r' sm' pd' st' le' po' sc' sg' na' se ou ∧ rowOk 1343 c' r' := by
  have h16 := h.h16
  unfold fX7_tryLearn
  rcases ckeep_ok h hC hnm with ⟨ho, st', na', sc', sg', le', po', e, c1⟩ | ⟨ho, e⟩
  · rcases mcan_ok (one := one) (two := two) (cs := ks) hr h hnm with ⟨-, one', two', ks', em⟩ | ⟨hn, -⟩
    · have h15 : r 110 ≠ 16 := ho.2.1
      obtain ⟨c', el, rl⟩ := mlearn_ok hr (by omega) nm
      rw [e, em, b4_so, if_neg i10, el, b2_so]
      exact ⟨_, _, _, _, _, _, _, _, _, _, _, _, _, _, rfl, rfl, rI_learn h hnm h15, c1, rl⟩
    · exact absurd ho hn
  · rcases mcan_ok (one := one) (two := two) (cs := ks) hr h hnm with ⟨hn, -⟩ | ⟨-, one', two', ks', em⟩
    · exact absurd hn ho
    · rw [e, em, b4_so, if_pos rfl]
      exact ⟨_, _, _, _, _, _, _, _, _, _, _, _, _, _, rfl, rfl, h, hC, hr⟩
/-- A TURN, both sides -/
theorem turn_ok {r : Nat → Nat} {c : Nat → Int32} {sm pd : Int32} {st le po sc sg na se ou : Nat → Int32} (h : rI r) (hC : CS r sm pd st le po sc sg na se ou) (hr : rowOk 1343 c r) {R : Nat} (hR : R < 2 ^ 31) (v1 v2 v3 v4 w1 w2 w3 : Int32) (cs ds one two ks : Nat → Int32) :
    ∃ sm' pd' st' na' sc' sg' le' po' x1 x2 x3 x4 cs' ds' ou' y1 y2 y3 c' one' two' ks' r',
      fX6_takeTurn (nI R) sm pd st na sc sg le po v1 v2 v3 v4 cs ds se ou = some (sm', pd', st', na', sc', sg', le', po', x1, x2, x3, x4, cs', ds', ou') ∧
      fX7_turn (nI R) w1 w2 w3 c one two ks = some (y1, y2, y3, c', one', two', ks') ∧ rI r' ∧ CS r' sm' pd' st' le' po' sc' sg' na' se ou' ∧ rowOk 1343 c' r' := by
  have h3 := h.hand.1.1.1
  have e16 : xrem (nI R) (16 : Int32) = nI (R % 16) := pk_rem (d := 16) hR (by omega) (by omega)
  have d16 : nI R / (16 : Int32) = nI (R / 16) := pk_div (d := 16) hR (by omega) (by omega)
  have d1024 : nI R / (1024 : Int32) = nI (R / 1024) := pk_div (d := 1024) hR (by omega) (by omega)
  have d65536 : nI R / (65536 : Int32) = nI (R / 65536) := pk_div (d := 65536) hR (by omega) (by omega)
  have m10 : ∀ x, x < 2 ^ 31 → xrem (nI x) (10 : Int32) = nI (x % 10) := fun x hx => pk_rem (d := 10) hx (by omega) (by omega)
  have m61 : ∀ x, x < 2 ^ 31 → xrem (nI x) (61 : Int32) = nI (x % 61) := fun x hx => pk_rem (d := 61) hx (by omega) (by omega)
  have ne : ∀ k, k < 16 → (nI (R % 16) = nI k ↔ R % 16 = k) := fun k hk => nI_eq (by omega) (by omega)
  unfold fX6_takeTurn fX7_turn
  rw [e16, b1_so, d16, d1024, d65536, m10 _ (by omega), m61 _ (by omega), m61 _ (by omega), m10 _ (by omega)]
  by_cases q0 : nI (R % 16) = (0 : Int32)
  · rw [if_pos q0, if_pos q0]
    obtain ⟨v, sm', pd', st', na', sc', sg', le', po', c', one', two', ks', r', e, em, g1, g2, g3⟩ := tl_ok h hC hr (nm := R / 16 % 10) (by omega) one two ks
    rw [e, b9_so, em, b4_so]
    exact ⟨_, _, _, _, _, _, _, _, _, _, _, _, _, _, _, _, _, _, _, _, _, _, _, rfl, rfl, g1, g2, g3⟩
  · rw [if_neg q0, if_neg q0]
    by_cases q1 : nI (R % 16) = (1 : Int32)
    · rw [if_pos q1, if_pos q1, gk0 (by omega), k0, hr 0 (by omega)]
      by_cases y : r 0 = 0
      · rw [cprac_no hC y, b11_so, if_pos (show nI (r 0) ≤ 0 by rw [y]; decide)]
        exact ⟨_, _, _, _, _, _, _, _, _, _, _, _, _, _, _, _, _, _, _, _, _, _, _, rfl, rfl, h, hC, hr⟩
      · obtain ⟨st', x1, x2, x3, x4, sc', cs', ds', ou', e, c1⟩ := cprac_ok h hC (nm := R / 16 % 10) (by omega) y v1 v2 v3 v4 cs ds
        obtain ⟨c', y1, y2, y3, one', two', ks', em, rm⟩ := mprac_ok hr h (nm := R / 16 % 10) (by omega) one two ks
        have hle := pracM_le r (R / 16 % 10)
        rw [e, b11_so, if_neg (show ¬ nI (r 0) ≤ 0 from nI_nle (by omega) (by omega)), em, b8_so]
        exact ⟨_, _, _, _, _, _, _, _, _, _, _, _, _, _, _, _, _, _, _, _, _, _, _, rfl, rfl, rI_prac h (by omega) hle, c1, rm⟩
    · rw [if_neg q1, if_neg q1]
      by_cases q2 : nI (R % 16) = (2 : Int32)
      · rw [if_pos q2, if_pos q2, l76, gk (by omega) (by omega), b1_so, nI_clamp (by omega)]
        exact ⟨_, _, _, _, _, _, _, _, _, _, _, _, _, _, _, _, _, _, _, _, _, _, _, rfl, rfl, rI_lift h, CS_lift h hC, rowOk_upd hr 76 0⟩
      · rw [if_neg q2, if_neg q2]
        have hx : R / 16 % 61 ≤ 60 := by omega
        have hy : R / 1024 % 61 ≤ 60 := by omega
        rcases cadd_ok h hC hx hy with ⟨ho, st1, sc1, le1, po1, sg1, e, c1⟩ | ⟨ho, e⟩
        · rcases mlay_ok (one := one) hr h hx hy with ⟨-, c', one', em, rm⟩ | ⟨hn, -⟩
          · rw [e, b7_so, if_neg i10, em, b3_so, if_neg i10]
            exact ⟨_, _, _, _, _, _, _, _, _, _, _, _, _, _, _, _, _, _, _, _, _, _, _, rfl, rfl, rI_lay h hx hy ho, c1, rm⟩
          · rw [ho] at hn; cases hn
        · rcases mlay_ok (one := one) hr h hx hy with ⟨hn, -⟩ | ⟨-, c', one', r1, em, rm, rl⟩
          · rw [ho] at hn; cases hn
          · have h1 := rI_like h rl
            have hC1 := CS_like h hC rl
            obtain ⟨v, sm', pd', st', na', sc', sg', le', po', c2, one2, two2, ks2, r', e2, em2, g1, g2, g3⟩ := tl_ok h1 hC1 rm (nm := R / 65536 % 10) (by omega) one' two ks
            rw [e, b7_so, if_pos rfl, e2, b9_so, em, b3_so, if_pos rfl, em2, b4_so]
            exact ⟨_, _, _, _, _, _, _, _, _, _, _, _, _, _, _, _, _, _, _, _, _, _, _, rfl, rfl, g1, g2, g3⟩
abbrev CT2 : Type := Int32 × Int32 × (Nat → Int32) × (Nat → Int32) × (Nat → Int32) × (Nat → Int32) × (Nat → Int32) × (Nat → Int32) × (Nat → Int32) × Int32 × Int32 × Int32 × Int32 × (Nat → Int32) × (Nat → Int32)
/-- THE TURNS' LOOPS, both sides -/
theorem sim_loop {n : Nat} (hn : n ≤ 99) {se : Nat → Int32} : ∀ (k i N M : Nat) (x : Int64) (r : Nat → Nat) (c one two ks : Nat → Int32) (sm pd v1 v2 v3 v4 w1 w2 w3 : Int32) (st le po sc sg na ou cs ds : Nat → Int32), k + i = n → k < N → k < M → rI r → CS r sm pd st le po sc sg na se ou → rowOk 1343 c r →
    ∃ (a : CT2) (b : MT) (r' : Nat → Nat), loopF (fun (z : Int64 × Int32 × Int32 × Int32 × (Nat → Int32) × (Nat → Int32) × (Nat → Int32) × (Nat → Int32) × (Nat → Int32) × (Nat → Int32) × (Nat → Int32) × Int32 × Int32 × Int32 × Int32 × (Nat → Int32) × (Nat → Int32)) => fX6_simulate_L48 (nI n) se z.1 z.2.1 z.2.2.1 z.2.2.2.1 z.2.2.2.2.1 z.2.2.2.2.2.1 z.2.2.2.2.2.2.1 z.2.2.2.2.2.2.2.1 z.2.2.2.2.2.2.2.2.1 z.2.2.2.2.2.2.2.2.2.1 z.2.2.2.2.2.2.2.2.2.2.1 z.2.2.2.2.2.2.2.2.2.2.2.1 z.2.2.2.2.2.2.2.2.2.2.2.2.1 z.2.2.2.2.2.2.2.2.2.2.2.2.2.1 z.2.2.2.2.2.2.2.2.2.2.2.2.2.2.1 z.2.2.2.2.2.2.2.2.2.2.2.2.2.2.2.1 z.2.2.2.2.2.2.2.2.2.2.2.2.2.2.2.2) N (x, nI i, sm, pd, st, le, po, sc, sg, na, ou, v1, v2, v3, v4, cs, ds) = some a ∧
      loopF (fun (z : Int64 × Int32 × Int32 × Int32 × Int32 × (Nat → Int32) × (Nat → Int32) × (Nat → Int32) × (Nat → Int32)) => fX7_simulate_L45 (nI n) z.1 z.2.1 z.2.2.1 z.2.2.2.1 z.2.2.2.2.1 z.2.2.2.2.2.1 z.2.2.2.2.2.2.1 z.2.2.2.2.2.2.2.1 z.2.2.2.2.2.2.2.2) M (x, nI i, w1, w2, w3, c, one, two, ks) = some b ∧
      rI r' ∧ CS r' a.1 a.2.1 a.2.2.1 a.2.2.2.1 a.2.2.2.2.1 a.2.2.2.2.2.1 a.2.2.2.2.2.2.1 a.2.2.2.2.2.2.2.1 se a.2.2.2.2.2.2.2.2.1 ∧ rowOk 1343 b.2.2.2.1 r' := by
  intro k
  induction k with
  | zero =>
    intro i N M x r c one two ks sm pd v1 v2 v3 v4 w1 w2 w3 st le po sc sg na ou cs ds hk hN hM h hC hr
    obtain ⟨N, rfl⟩ : ∃ N', N = N' + 1 := ⟨N - 1, by omega⟩
    obtain ⟨M, rfl⟩ : ∃ M', M = M' + 1 := ⟨M - 1, by omega⟩
    obtain rfl : i = n := by omega
    refine ⟨(sm, pd, st, le, po, sc, sg, na, ou, v1, v2, v3, v4, cs, ds), (w1, w2, w3, c, one, two, ks), r, loopF_out ?_, loopF_out ?_, h, hC, hr⟩
    · show fX6_simulate_L48 (nI i) se x (nI i) sm pd st le po sc sg na ou v1 v2 v3 v4 cs ds = _
      unfold fX6_simulate_L48
      rw [if_pos (nI_le (Nat.le_refl _) (by omega))]
    · show fX7_simulate_L45 (nI i) x (nI i) w1 w2 w3 c one two ks = _
      unfold fX7_simulate_L45
      rw [if_pos (nI_le (Nat.le_refl _) (by omega))]
  | succ k ih =>
    intro i N M x r c one two ks sm pd v1 v2 v3 v4 w1 w2 w3 st le po sc sg na ou cs ds hk hN hM h hC hr
    obtain ⟨N, rfl⟩ : ∃ N', N = N' + 1 := ⟨N - 1, by omega⟩
    obtain ⟨M, rfl⟩ : ∃ M', M = M' + 1 := ⟨M - 1, by omega⟩
    have hi : i < n := by omega
    obtain ⟨R, hR, eR⟩ := shr33 (x * (6364136223846793005 : Int64) + (1442695040888963407 : Int64))
    obtain ⟨sm', pd', st', na', sc', sg', le', po', x1, x2, x3, x4, cs', ds', ou', y1, y2, y3, c', one', two', ks', r', e, em, g1, g2, g3⟩ := turn_ok h hC hr hR v1 v2 v3 v4 w1 w2 w3 cs ds one two ks
    have bC : fX6_simulate_L48 (nI n) se x (nI i) sm pd st le po sc sg na ou v1 v2 v3 v4 cs ds = some (Sum.inl (x * (6364136223846793005 : Int64) + (1442695040888963407 : Int64), nI (i + 1), sm', pd', st', le', po', sc', sg', na', ou', x1, x2, x3, x4, cs', ds')) := by
      unfold fX6_simulate_L48
      rw [if_neg (nI_ge hi (by omega)), b1_so, eR, e, b15_so, nI_1]
    have bM : fX7_simulate_L45 (nI n) x (nI i) w1 w2 w3 c one two ks = some (Sum.inl (x * (6364136223846793005 : Int64) + (1442695040888963407 : Int64), nI (i + 1), y1, y2, y3, c', one', two', ks')) := by
      unfold fX7_simulate_L45
      rw [if_neg (nI_ge hi (by omega)), b1_so, eR, em, b7_so, nI_1]
    obtain ⟨a, b, r2, k1, k2, k3⟩ := ih (i + 1) N M (x * (6364136223846793005 : Int64) + (1442695040888963407 : Int64)) r' c' one' two' ks' sm' pd' x1 x2 x3 x4 y1 y2 y3 st' le' po' sc' sg' na' ou' cs' ds' (by omega) (by omega) (by omega) g1 g2 g3
    exact ⟨a, b, r2, (loopF_go bC).trans k1, (loopF_go bM).trans k2, k3⟩
/-- SIMULATIONS -/
theorem simul_ok {r : Nat → Nat} {c : Nat → Int32} {sm pd : Int32} {st le po sc sg na se ou : Nat → Int32} (h : rI r) (hC : CS r sm pd st le po sc sg na se ou) (hr : rowOk 1343 c r) (p1 : Int64) (p3 : Int32) (tsm tpd v1 v2 v3 v4 w1 w2 w3 : Int32) (tst tle tpo tsc tsg tna tse tou cs ds tr one two ks : Nat → Int32) :
    ∃ (A : Int32 ⊕ String) (a : CT) (v rf : Int32) (b : MT), fX6_simulate p1 p3 tsm tpd sm pd st tst le tle po tpo sc tsc sg tsg na tna se tse ou tou v1 v2 v3 v4 cs ds = some (A, a.1, a.2.1, a.2.2.1, a.2.2.2.1, a.2.2.2.2.1, a.2.2.2.2.2.1, a.2.2.2.2.2.2.1, a.2.2.2.2.2.2.2.1, a.2.2.2.2.2.2.2.2.1, a.2.2.2.2.2.2.2.2.2.1, a.2.2.2.2.2.2.2.2.2.2.1, a.2.2.2.2.2.2.2.2.2.2.2.1, a.2.2.2.2.2.2.2.2.2.2.2.2.1, a.2.2.2.2.2.2.2.2.2.2.2.2.2.1, a.2.2.2.2.2.2.2.2.2.2.2.2.2.2.1, a.2.2.2.2.2.2.2.2.2.2.2.2.2.2.2) ∧
      fX7_simulate p1 p3 w1 w2 w3 c tr one two ks = some (v, rf, b.1, b.2.1, b.2.2.1, b.2.2.2.1, b.2.2.2.2.1, b.2.2.2.2.2.1, b.2.2.2.2.2.2) ∧ aR ["java/lang/IllegalArgumentException"] A v rf := by
  have rf1 : fX7_refused (1 : Int32) = (1, 1) := by decide
  have rf0 : fX7_refused (0 : Int32) = (0, 0) := by decide
  rcases in_arg p3 1 99 (by omega) (by omega) with ⟨e1, n, rfl, n1, n3⟩ | ⟨e1, hn⟩
  · have e1 : fX7_in (nI n).toInt64 (1 : Int64) (99 : Int64) = 1 := e1
    have c1 : ¬ nI n < (1 : Int32) := nI_nlt (b := 1) n1 (by omega)
    have c2 : nI n ≤ (99 : Int32) := nI_le (b := 99) n3 (by omega)
    obtain ⟨st', le', po', sc', sg', na', se', ou', ec, hC'⟩ := ccopy_ok h hC tst tle tpo tsc tsg tna tse tou
    obtain ⟨c', em, rm⟩ := cpnow_ok hr tr
    obtain ⟨a, b, r2, k1, k2, k3, k4, k5⟩ := sim_loop (n := n) n3 n 0 FUEL FUEL p1 r c' one two ks sm pd v1 v2 v3 v4 w1 w2 w3 st' le' po' sc' sg' na' ou' cs ds (by omega) (by unfold FUEL; omega) (by unfold FUEL; omega) h hC' rm
    obtain ⟨a1, a2, a3, a4, a5, a6, a7, a8, a9, a10, a11, a12, a13, a14, a15⟩ := a
    obtain ⟨b1', b2', b3', b4', b5', b6', b7'⟩ := b
    dsimp only at k4 k5
    have o1 : fX4_outcomesOf (0 : Int32) ou' = some (nI (ouS r 0 10)) := couts_ok hC' (o := 0) (by omega)
    have o2 : fX4_outcomesOf (0 : Int32) a9 = some (nI (ouS r2 0 10)) := couts_ok k4 (o := 0) (by omega)
    have s1 : fX7_sum (80 : Int32) 1343 b4' = some (nI (ouS r2 0 10)) := msum_ok k5 (o := 0) (by omega)
    have s2 : fX7_sum (80 : Int32) 1343 c = some (nI (ouS r 0 10)) := msum_ok hr (o := 0) (by omega)
    have hs := k4.1
    have hm : b4' 110 = nI (r2 110) := k5 110 (by omega)
    have k1 : loopF _ FUEL (p1, (0 : Int32), sm, pd, st', le', po', sc', sg', na', ou', v1, v2, v3, v4, cs, ds) = _ := k1
    have k2 : loopF _ FUEL (p1, (0 : Int32), w1, w2, w3, c', one, two, ks) = _ := k2
    refine ⟨Sum.inl ((100 : Int32) * a1 + nI (ouS r2 0 10) - nI (ouS r 0 10)), (a1, a2, a3, a4, a5, a6, a7, a8, se', a9, a10, a11, a12, a13, a14, a15), (100 : Int32) * b4' 110 + nI (ouS r2 0 10) - nI (ouS r 0 10), 0, (b1', b2', b3', b4', b5', b6', b7'), ?_, ?_, Or.inl ⟨_, rfl, rfl, by rw [hs, hm]⟩⟩
    · unfold fX6_simulate
      rw [if_neg c1, if_pos c2, ec, b10_so, o1, b1_so, k1, b15_so, o2, b1_so]
    · unfold fX7_simulate
      rw [e1, if_neg i10, rf0, if_pos rfl, em, b1_so, k2, b7_so, l110, gk (by omega) (by omega), s1, b1_so, s2, b1_so, nI_clamp (by omega)]
  · have e1 : fX7_in p3.toInt64 (1 : Int64) (99 : Int64) = 0 := e1
    refine ⟨_, (tsm, tpd, tst, tle, tpo, tsc, tsg, tna, tse, tou, v1, v2, v3, v4, cs, ds), 0, 1, (w1, w2, w3, tr, one, two, ks), ?_, ?_, Or.inr ⟨0, _, rfl, rfl, rfl⟩⟩
    · unfold fX6_simulate
      by_cases q : p3 < (1 : Int32)
      · rw [if_pos q]
      · rw [if_neg q, if_neg (fun z => by
          have h0 : ¬ p3 < 0 := fun w => q (Int32.lt_trans w (by decide))
          obtain ⟨k, hk, rfl⟩ := nI_of h0
          have a1 : 1 ≤ k := by
            have := mt (nI_lt (a := k) (b := 1)) (fun w => q (w (by omega)))
            omega
          have a3 : k ≤ 99 := by
            have := mt (nI_ge (a := 99) (b := k)) (fun w => w hk z)
            omega
          exact hn k rfl hk ⟨a1, a3⟩)]
    · unfold fX7_simulate
      rw [e1, if_pos rfl, rf1, if_neg i10]
end XPURE61
