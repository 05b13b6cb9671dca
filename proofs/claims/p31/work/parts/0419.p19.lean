/-! PURE, 19: the closest two, the best ruling -/
section XPURE19
def bet (p : Nat × Nat × Nat) : Option (Nat × Nat × Nat) → Option (Nat × Nat × Nat)
  | none => some p
  | some q => if p.2.2 < q.2.2 then some p else some q
def cli (D : Nat → Nat → Nat) (nm : Nat → Nat) (s : Nat) (acc : Option (Nat × Nat × Nat)) : Nat → Option (Nat × Nat × Nat)
  | 0 => acc
  | t + 1 => if t ≤ s ∨ nm s = nm t then cli D nm s acc t else bet (s, t, D s t) (cli D nm s acc t)
def clo (D : Nat → Nat → Nat) (nm : Nat → Nat) (n : Nat) : Nat → Option (Nat × Nat × Nat)
  | 0 => none
  | s + 1 => cli D nm s (clo D nm n s) n
def clM (D : Nat → Nat → Nat) (nm : Nat → Nat) (n : Nat) : Option (Nat × Nat × Nat) := clo D nm n n
def prI : Option (Nat × Nat × Nat) → Int32
  | none => -1
  | some p => nI (100 * p.1 + p.2.1)
def lsI : Option (Nat × Nat × Nat) → Int32
  | none => -1
  | some p => nI p.2.2
def okP (D : Nat → Nat → Nat) (nm : Nat → Nat) (n : Nat) (p : Nat × Nat × Nat) : Prop := p.1 < p.2.1 ∧ p.2.1 < n ∧ nm p.1 ≠ nm p.2.1 ∧ p.2.2 = D p.1 p.2.1
theorem cli_start (D : Nat → Nat → Nat) (nm : Nat → Nat) (s : Nat) (acc : Option (Nat × Nat × Nat)) : ∀ t, t ≤ s + 1 → cli D nm s acc t = acc := by
  intro t
  induction t with
  | zero => intro _; rfl
  | succ t ih =>
    intro ht
    unfold cli
    rw [if_pos (Or.inl (by omega))]
    exact ih (by omega)
theorem cli_ok {D : Nat → Nat → Nat} {nm : Nat → Nat} {n s : Nat} {acc : Option (Nat × Nat × Nat)} (h : ∀ p, acc = some p → okP D nm n p) : ∀ t, t ≤ n → ∀ p, cli D nm s acc t = some p → okP D nm n p := by
  intro t
  induction t with
  | zero => intro _; exact h
  | succ t ih =>
    intro ht p hp
    unfold cli at hp
    by_cases q : t ≤ s ∨ nm s = nm t
    · rw [if_pos q] at hp; exact ih (by omega) p hp
    · rw [if_neg q] at hp
      have hnew : okP D nm n (s, t, D s t) := ⟨show s < t by omega, show t < n by omega, fun z => q (Or.inr z), rfl⟩
      cases hc : cli D nm s acc t with
      | none => rw [hc] at hp; cases hp; exact hnew
      | some q2 =>
        rw [hc] at hp
        unfold bet at hp
        dsimp only at hp
        split at hp
        · cases hp; exact hnew
        · cases hp; exact ih (by omega) _ hc
theorem clo_ok (D : Nat → Nat → Nat) (nm : Nat → Nat) (n : Nat) : ∀ k, ∀ p, clo D nm n k = some p → okP D nm n p := by
  intro k
  induction k with
  | zero => intro p hp; cases hp
  | succ k ih => intro p hp; exact cli_ok ih n (Nat.le_refl _) p hp
theorem bet_le (p : Nat × Nat × Nat) (a : Option (Nat × Nat × Nat)) : ∃ q, bet p a = some q ∧ q.2.2 ≤ p.2.2 := by
  cases a with
  | none => exact ⟨p, rfl, Nat.le_refl _⟩
  | some q =>
    unfold bet
    dsimp only
    split
    · exact ⟨p, rfl, Nat.le_refl _⟩
    · exact ⟨q, rfl, by omega⟩
theorem bet_mono (p : Nat × Nat × Nat) {q : Nat × Nat × Nat} : ∃ x, bet p (some q) = some x ∧ x.2.2 ≤ q.2.2 := by
  unfold bet
  dsimp only
  split
  · exact ⟨p, rfl, by omega⟩
  · exact ⟨q, rfl, Nat.le_refl _⟩
theorem cli_mono {D : Nat → Nat → Nat} {nm : Nat → Nat} {s : Nat} {q : Nat × Nat × Nat} {acc : Option (Nat × Nat × Nat)} {a : Nat} (h : cli D nm s acc a = some q) : ∀ t, a ≤ t → ∃ p, cli D nm s acc t = some p ∧ p.2.2 ≤ q.2.2 := by
  intro t
  induction t with
  | zero => intro ht; rw [show a = 0 by omega] at h; exact ⟨q, h, Nat.le_refl _⟩
  | succ t ih =>
    intro ht
    by_cases y : a = t + 1
    · rw [← y]; exact ⟨q, h, Nat.le_refl _⟩
    · obtain ⟨p, hp, hl⟩ := ih (by omega)
      unfold cli
      split
      · exact ⟨p, hp, hl⟩
      · rw [hp]
        obtain ⟨x, hx, hl2⟩ := bet_mono (s, t, D s t) (q := p)
        exact ⟨x, hx, by omega⟩
theorem cli_min {D : Nat → Nat → Nat} {nm : Nat → Nat} {s t n : Nat} (acc : Option (Nat × Nat × Nat)) (h1 : s < t) (h2 : t < n) (h3 : nm s ≠ nm t) : ∃ p, cli D nm s acc n = some p ∧ p.2.2 ≤ D s t := by
  have e : cli D nm s acc (t + 1) = bet (s, t, D s t) (cli D nm s acc t) := by
    show (if _ then _ else _) = _
    rw [if_neg]
    intro z
    rcases z with z | z
    · omega
    · exact h3 z
  obtain ⟨q, hq, hl⟩ := bet_le (s, t, D s t) (cli D nm s acc t)
  rw [← e] at hq
  obtain ⟨p, hp, hl2⟩ := cli_mono hq n h2
  have hl : q.2.2 ≤ D s t := hl
  exact ⟨p, hp, by omega⟩
theorem clo_min {D : Nat → Nat → Nat} {nm : Nat → Nat} {s t n : Nat} (h1 : s < t) (h2 : t < n) (h3 : nm s ≠ nm t) : ∀ k, s < k → ∃ p, clo D nm n k = some p ∧ p.2.2 ≤ D s t := by
  intro k
  induction k with
  | zero => intro h; omega
  | succ k ih =>
    intro hk
    by_cases y : s = k
    · subst y; exact cli_min _ h1 h2 h3
    · obtain ⟨p, hp, hl⟩ := ih (by omega)
      have : cli D nm k (clo D nm n k) 0 = some p := hp
      obtain ⟨q, hq, hl2⟩ := cli_mono this n (Nat.zero_le _)
      exact ⟨q, hq, by omega⟩
def nmF (r : Nat → Nat) : Nat → Nat := fun s => r (atM s + 76)
theorem pr_step {D : Nat → Nat → Nat} {s t : Nat} (a : Option (Nat × Nat × Nat)) : (100 : Int32) * nI s + nI t = prI (some (s, t, D s t)) := by
  show _ = nI (100 * s + t)
  rw [show (100 : Int32) = nI 100 from rfl, pk_mul, nI_add]
/-- THE MODEL FINDS THE CLOSEST TWO -/
theorem mfc_in {c : Nat → Int32} {r : Nat → Nat} (hr : rowOk 1343 c r) (h : rI r) {d s : Nat} (hd : 5 ≤ d) (hd2 : d ≤ 20) (hF : smFit r d) (hs : s < r 110) {acc : Option (Nat × Nat × Nat)} (hacc : ∀ p, acc = some p → okP (pdM r d) (nmF r) (r 110) p) (one two cs : Nat → Int32) :
    ∃ one' two' cs', loopF (fun (z : Int32 × Int32 × Int32 × (Nat → Int32) × (Nat → Int32) × (Nat → Int32)) => fX7_findClosest_L27 c (nI d) (nI s) z.1 z.2.1 z.2.2.1 z.2.2.2.1 z.2.2.2.2.1 z.2.2.2.2.2) FUEL (nI (s + 1), prI acc, lsI acc, one, two, cs) = some (prI (cli (pdM r d) (nmF r) s acc (r 110)), lsI (cli (pdM r d) (nmF r) s acc (r 110)), one', two', cs') := by
  have h16 := h.h16
  obtain ⟨x, hx, hq⟩ := loopF_ex (fun (z : Int32 × Int32 × Int32 × (Nat → Int32) × (Nat → Int32) × (Nat → Int32)) => fX7_findClosest_L27 c (nI d) (nI s) z.1 z.2.1 z.2.2.1 z.2.2.2.1 z.2.2.2.2.1 z.2.2.2.2.2)
    (fun i z => z.1 = nI i ∧ z.2.1 = prI (cli (pdM r d) (nmF r) s acc i) ∧ z.2.2.1 = lsI (cli (pdM r d) (nmF r) s acc i))
    (fun x => x.1 = prI (cli (pdM r d) (nmF r) s acc (r 110)) ∧ x.2.1 = lsI (cli (pdM r d) (nmF r) s acc (r 110))) (s + 1) (r 110) (by omega) (fun i z h1 hi hz => Or.inl (by
      obtain ⟨z1, z2, z3, one1, two1, cs1⟩ := z
      obtain ⟨rfl, rfl, rfl⟩ := hz
      obtain ⟨hdb, one2, two2, cs2, e⟩ := mdistP hr h hd hd2 hF hs hi one1 two1 cs1
      have a9 := h.nm hs
      have b9 := h.nm hi
      show ∃ s', fX7_findClosest_L27 c (nI d) (nI s) (nI i) (prI _) (lsI _) one1 two1 cs1 = _ ∧ _
      unfold fX7_findClosest_L27
      rw [l110, gk (by omega) (by omega), nI_clamp (by omega), hr 110 (by omega), if_neg (nI_ge hi (by omega)), mname_ok hr (by omega) (by omega) (by omega), b1_so, mname_ok hr (by omega) (by omega) (by omega), b1_so, at_nI, nI_1]
      by_cases q : r (atM s + 76) = r (atM i + 76)
      · rw [if_pos (by rw [q])]
        have ec : cli (pdM r d) (nmF r) s acc (i + 1) = cli (pdM r d) (nmF r) s acc i := if_pos (Or.inr q)
        refine ⟨_, rfl, rfl, ?_, ?_⟩ <;> rw [ec]
      · rw [if_neg (fun z => q ((nI_eq (by omega) (by omega)).mp z)), e, b4_so, pr_step (D := pdM r d) acc]
        have ec : cli (pdM r d) (nmF r) s acc (i + 1) = bet (s, i, pdM r d s i) (cli (pdM r d) (nmF r) s acc i) := if_neg (fun z => z.elim (fun z => by omega) q)
        cases hn : cli (pdM r d) (nmF r) s acc i with
        | none =>
          rw [hn] at ec
          rw [if_pos (show prI none = -1 from rfl)]
          refine ⟨_, rfl, rfl, ?_, ?_⟩ <;> rw [ec] <;> rfl
        | some p =>
          rw [hn] at ec
          obtain ⟨p1, p2, p3, p4⟩ := cli_ok hacc i (by omega) p hn
          have pb : p.2.2 ≤ 240 := by rw [p4]; exact (mdistP hr h hd hd2 hF (by omega) p2 one two cs).1
          rw [if_neg (show ¬ prI (some p) = -1 from nI_m1 (by omega))]
          by_cases y : pdM r d s i < p.2.2
          · rw [if_neg (show ¬ lsI (some p) ≤ nI _ from nI_ge y (by omega))]
            have ec2 : cli (pdM r d) (nmF r) s acc (i + 1) = some (s, i, pdM r d s i) := by rw [ec]; exact if_pos y
            refine ⟨_, rfl, rfl, ?_, ?_⟩ <;> rw [ec2] <;> rfl
          · rw [if_pos (show lsI (some p) ≤ nI _ from nI_le (by omega) (by omega))]
            have ec2 : cli (pdM r d) (nmF r) s acc (i + 1) = some p := by rw [ec]; exact if_neg y
            refine ⟨_, rfl, rfl, ?_, ?_⟩ <;> rw [ec2])) (fun z hz => by
      obtain ⟨z1, z2, z3, one1, two1, cs1⟩ := z
      obtain ⟨rfl, rfl, rfl⟩ := hz
      refine ⟨(prI (cli (pdM r d) (nmF r) s acc (r 110)), lsI (cli (pdM r d) (nmF r) s acc (r 110)), one1, two1, cs1), ?_, rfl, rfl⟩
      show fX7_findClosest_L27 c (nI d) (nI s) (nI (r 110)) (prI _) (lsI _) one1 two1 cs1 = _
      unfold fX7_findClosest_L27
      rw [l110, gk (by omega) (by omega), nI_clamp (by omega), hr 110 (by omega), if_pos (nI_le (Nat.le_refl _) (by omega))]) (nI (s + 1), prI acc, lsI acc, one, two, cs) ⟨rfl, by rw [cli_start _ _ _ _ _ (Nat.le_refl _)], by rw [cli_start _ _ _ _ _ (Nat.le_refl _)]⟩ FUEL (by unfold FUEL; omega)
  obtain ⟨x1, x2, one', two', cs'⟩ := x
  obtain ⟨rfl, rfl⟩ := hq
  exact ⟨one', two', cs', hx⟩
theorem mfc_ok {c : Nat → Int32} {r : Nat → Nat} (hr : rowOk 1343 c r) (h : rI r) {d : Nat} (hd : 5 ≤ d) (hd2 : d ≤ 20) (hF : smFit r d) (one two cs : Nat → Int32) :
    ∃ one' two' cs', fX7_findClosest (nI d) c one two cs = some (prI (clM (pdM r d) (nmF r) (r 110)), lsI (clM (pdM r d) (nmF r) (r 110)), one', two', cs') := by
  have h16 := h.h16
  unfold fX7_findClosest
  obtain ⟨x, hx, hq⟩ := loopF_ex (fun (z : Int32 × Int32 × Int32 × (Nat → Int32) × (Nat → Int32) × (Nat → Int32)) => fX7_findClosest_L12 c (nI d) z.1 z.2.1 z.2.2.1 z.2.2.2.1 z.2.2.2.2.1 z.2.2.2.2.2)
    (fun i z => z.1 = nI i ∧ z.2.1 = prI (clo (pdM r d) (nmF r) (r 110) i) ∧ z.2.2.1 = lsI (clo (pdM r d) (nmF r) (r 110) i))
    (fun x => x.1 = prI (clM (pdM r d) (nmF r) (r 110)) ∧ x.2.1 = lsI (clM (pdM r d) (nmF r) (r 110))) 0 (r 110) (by omega) (fun i z h1 hi hz => Or.inl (by
      obtain ⟨z1, z2, z3, one1, two1, cs1⟩ := z
      obtain ⟨rfl, rfl, rfl⟩ := hz
      obtain ⟨one2, two2, cs2, e⟩ := mfc_in hr h hd hd2 hF hi (clo_ok (pdM r d) (nmF r) (r 110) i) one1 two1 cs1
      refine ⟨(nI (i + 1), prI (clo (pdM r d) (nmF r) (r 110) (i + 1)), lsI (clo (pdM r d) (nmF r) (r 110) (i + 1)), one2, two2, cs2), ?_, rfl, rfl, rfl⟩
      show fX7_findClosest_L12 c (nI d) (nI i) (prI _) (lsI _) one1 two1 cs1 = _
      unfold fX7_findClosest_L12
      rw [l110, gk (by omega) (by omega), nI_clamp (by omega), hr 110 (by omega), if_neg (nI_ge hi (by omega)), nI_1, e, b5_so]; rfl)) (fun z hz => by
      obtain ⟨z1, z2, z3, one1, two1, cs1⟩ := z
      obtain ⟨rfl, rfl, rfl⟩ := hz
      refine ⟨(prI (clM (pdM r d) (nmF r) (r 110)), lsI (clM (pdM r d) (nmF r) (r 110)), one1, two1, cs1), ?_, rfl, rfl⟩
      show fX7_findClosest_L12 c (nI d) (nI (r 110)) (prI _) (lsI _) one1 two1 cs1 = _
      unfold fX7_findClosest_L12
      rw [l110, gk (by omega) (by omega), nI_clamp (by omega), hr 110 (by omega), if_pos (nI_le (Nat.le_refl _) (by omega))]; rfl) ((0 : Int32), (-1 : Int32), (-1 : Int32), one, two, cs) ⟨rfl, rfl, rfl⟩ FUEL (by unfold FUEL; omega)
  obtain ⟨x1, x2, one', two', cs'⟩ := x
  obtain ⟨rfl, rfl⟩ := hq
  rw [hx, b5_so]
  exact ⟨one', two', cs', rfl⟩
theorem CS.pdist {r : Nat → Nat} {sm pd : Int32} {st le po sc sg na se ou : Nat → Int32} (h : rI r) (hC : CS r sm pd st le po sc sg na se ou) {s t : Nat} (hs : s < r 110) (ht : t < r 110) (cs : Nat → Int32) : pdM r (r 77) s t ≤ 240 ∧ ∃ cs', fX2_distanceOf (nI s) (nI t) sc cs sg = some (nI (pdM r (r 77) s t), cs') := by
  have h16 := h.h16
  have := hC.dist h (p := s) (s := t) (Or.inr hs) ht cs
  rw [offS (by omega)] at this
  exact this
/-- the class's answer: the closest two, or two that are near enough -/
def enP (D : Nat → Nat → Nat) (nm : Nat → Nat) (n : Nat) (e v : Int32) : Prop := ∃ p, okP D nm n p ∧ v = prI (some p) ∧ nI p.2.2 ≤ e
theorem ccp_in {r : Nat → Nat} {sm pd : Int32} {st le po sc sg na se ou : Nat → Int32} (h : rI r) (hC : CS r sm pd st le po sc sg na se ou) {s : Nat} (e0 : Int32) (hs : s < r 110) {acc : Option (Nat × Nat × Nat)} (hacc : ∀ p, acc = some p → okP (pdM r (r 77)) (nmF r) (r 110) p) (cs : Nat → Int32) :
    ∃ x, loopF (fun (z : Int32 × Int32 × Int32 × (Nat → Int32)) => fX2_closestPair_L23 sm na sc sg e0 (nI s) z.1 z.2.1 z.2.2.1 z.2.2.2) FUEL (prI acc, lsI acc, nI (s + 1), cs) = some x ∧
      ((∃ cs', x = Sum.inr (prI (cli (pdM r (r 77)) (nmF r) s acc (r 110)), lsI (cli (pdM r (r 77)) (nmF r) s acc (r 110)), cs')) ∨ ∃ v cs', x = Sum.inl (v, cs') ∧ enP (pdM r (r 77)) (nmF r) (r 110) e0 v) := by
  have h16 := h.h16
  exact loopF_ex (fun (z : Int32 × Int32 × Int32 × (Nat → Int32)) => fX2_closestPair_L23 sm na sc sg e0 (nI s) z.1 z.2.1 z.2.2.1 z.2.2.2)
    (fun i z => z.2.2.1 = nI i ∧ z.1 = prI (cli (pdM r (r 77)) (nmF r) s acc i) ∧ z.2.1 = lsI (cli (pdM r (r 77)) (nmF r) s acc i))
    _ (s + 1) (r 110) (by omega) (fun i z h1 hi hz => by
      obtain ⟨z1, z2, z3, cs1⟩ := z
      obtain ⟨rfl, rfl, rfl⟩ := hz
      obtain ⟨hdb, cs2, e⟩ := hC.pdist h hs hi cs1
      have a9 := h.nm hs
      have b9 := h.nm hi
      show (∃ s', fX2_closestPair_L23 sm na sc sg e0 (nI s) (prI _) (lsI _) (nI i) cs1 = _ ∧ _) ∨ (∃ e, fX2_closestPair_L23 sm na sc sg e0 (nI s) (prI _) (lsI _) (nI i) cs1 = _ ∧ _)
      unfold fX2_closestPair_L23
      rw [if_neg (show ¬ sm ≤ nI i by rw [hC.1]; exact nI_ge hi (by omega)), hC.nm h hs, hC.nm h hi, nI_1]
      by_cases q : r (atM s + 76) = r (atM i + 76)
      · left
        rw [if_pos (by rw [q])]
        have ec : cli (pdM r (r 77)) (nmF r) s acc (i + 1) = cli (pdM r (r 77)) (nmF r) s acc i := if_pos (Or.inr q)
        refine ⟨_, rfl, rfl, ?_, ?_⟩ <;> rw [ec]
      · rw [if_neg (fun z => q ((nI_eq (by omega) (by omega)).mp z)), e, b2_so, pr_step (D := pdM r (r 77)) acc]
        have ec : cli (pdM r (r 77)) (nmF r) s acc (i + 1) = bet (s, i, pdM r (r 77) s i) (cli (pdM r (r 77)) (nmF r) s acc i) := if_neg (fun z => z.elim (fun z => by omega) q)
        have okn : okP (pdM r (r 77)) (nmF r) (r 110) (s, i, pdM r (r 77) s i) := ⟨show s < i by omega, hi, q, rfl⟩
        cases hn : cli (pdM r (r 77)) (nmF r) s acc i with
        | none =>
          rw [hn] at ec
          rw [if_pos (show prI none = -1 from rfl)]
          by_cases y : e0 < nI (pdM r (r 77) s i)
          · left
            rw [if_pos y]
            refine ⟨_, rfl, rfl, ?_, ?_⟩ <;> rw [ec] <;> rfl
          · right
            rw [if_neg y]
            exact ⟨_, rfl, Or.inr ⟨_, _, rfl, _, okn, rfl, Int32.not_lt.mp y⟩⟩
        | some p =>
          rw [hn] at ec
          have okp := cli_ok hacc i (by omega) p hn
          obtain ⟨p1, p2, p3, p4⟩ := okp
          have pb : p.2.2 ≤ 240 := by rw [p4]; exact (hC.pdist h (by omega) p2 cs).1
          rw [if_neg (show ¬ prI (some p) = -1 from nI_m1 (by omega))]
          by_cases y : pdM r (r 77) s i < p.2.2
          · rw [if_neg (show ¬ lsI (some p) ≤ nI _ from nI_ge y (by omega))]
            have ec2 : cli (pdM r (r 77)) (nmF r) s acc (i + 1) = some (s, i, pdM r (r 77) s i) := by rw [ec]; exact if_pos y
            by_cases y2 : e0 < nI (pdM r (r 77) s i)
            · left
              rw [if_pos y2]
              refine ⟨_, rfl, rfl, ?_, ?_⟩ <;> rw [ec2] <;> rfl
            · right
              rw [if_neg y2]
              exact ⟨_, rfl, Or.inr ⟨_, _, rfl, _, okn, rfl, Int32.not_lt.mp y2⟩⟩
          · rw [if_pos (show lsI (some p) ≤ nI _ from nI_le (by omega) (by omega))]
            have ec2 : cli (pdM r (r 77)) (nmF r) s acc (i + 1) = some p := by rw [ec]; exact if_neg y
            by_cases y2 : e0 < lsI (some p)
            · left
              rw [if_pos y2]
              refine ⟨_, rfl, rfl, ?_, ?_⟩ <;> rw [ec2]
            · right
              rw [if_neg y2]
              exact ⟨_, rfl, Or.inr ⟨_, _, rfl, p, ⟨p1, p2, p3, p4⟩, rfl, Int32.not_lt.mp y2⟩⟩) (fun z hz => by
      obtain ⟨z1, z2, z3, cs1⟩ := z
      obtain ⟨rfl, rfl, rfl⟩ := hz
      refine ⟨_, ?_, Or.inl ⟨cs1, rfl⟩⟩
      show fX2_closestPair_L23 sm na sc sg e0 (nI s) (prI _) (lsI _) (nI (r 110)) cs1 = _
      unfold fX2_closestPair_L23
      rw [if_pos (show sm ≤ nI (r 110) by rw [hC.1]; exact nI_le (Nat.le_refl _) (by omega))]) (prI acc, lsI acc, nI (s + 1), cs) ⟨rfl, by rw [cli_start _ _ _ _ _ (Nat.le_refl _)], by rw [cli_start _ _ _ _ _ (Nat.le_refl _)]⟩ FUEL (by unfold FUEL; omega)
/-- THE CLASS FINDS THE CLOSEST TWO, or two that are near enough -/
theorem ccp_ok {r : Nat → Nat} {sm pd : Int32} {st le po sc sg na se ou : Nat → Int32} (h : rI r) (hC : CS r sm pd st le po sc sg na se ou) (e0 : Int32) (cs : Nat → Int32) :
    ∃ v cs', fX2_closestPair e0 sm na sc cs sg = some (v, cs') ∧ (v = prI (clM (pdM r (r 77)) (nmF r) (r 110)) ∨ enP (pdM r (r 77)) (nmF r) (r 110) e0 v) := by
  have h16 := h.h16
  unfold fX2_closestPair
  obtain ⟨x, hx, hq⟩ := loopF_ex (fun (z : Int32 × Int32 × Int32 × (Nat → Int32)) => fX2_closestPair_L8 sm na sc sg e0 z.1 z.2.1 z.2.2.1 z.2.2.2)
    (fun i z => z.2.2.1 = nI i ∧ z.1 = prI (clo (pdM r (r 77)) (nmF r) (r 110) i) ∧ z.2.1 = lsI (clo (pdM r (r 77)) (nmF r) (r 110) i))
    (fun x => (∃ cs', x = Sum.inr (prI (clM (pdM r (r 77)) (nmF r) (r 110)), cs')) ∨ ∃ v cs', x = Sum.inl (v, cs') ∧ enP (pdM r (r 77)) (nmF r) (r 110) e0 v) 0 (r 110) (by omega) (fun i z h1 hi hz => by
      obtain ⟨z1, z2, z3, cs1⟩ := z
      obtain ⟨rfl, rfl, rfl⟩ := hz
      obtain ⟨y, hy, hv⟩ := ccp_in h hC e0 hi (clo_ok (pdM r (r 77)) (nmF r) (r 110) i) cs1
      show (∃ s', fX2_closestPair_L8 sm na sc sg e0 (prI _) (lsI _) (nI i) cs1 = _ ∧ _) ∨ (∃ e, fX2_closestPair_L8 sm na sc sg e0 (prI _) (lsI _) (nI i) cs1 = _ ∧ _)
      unfold fX2_closestPair_L8
      rw [if_neg (show ¬ sm ≤ nI i by rw [hC.1]; exact nI_ge hi (by omega)), nI_1, hy, b1_so]
      rcases hv with ⟨cs', rfl⟩ | ⟨v, cs', rfl, hv⟩
      · exact Or.inl ⟨_, rfl, rfl, rfl, rfl⟩
      · exact Or.inr ⟨_, rfl, Or.inr ⟨v, cs', rfl, hv⟩⟩) (fun z hz => by
      obtain ⟨z1, z2, z3, cs1⟩ := z
      obtain ⟨rfl, rfl, rfl⟩ := hz
      refine ⟨_, ?_, Or.inl ⟨cs1, rfl⟩⟩
      show fX2_closestPair_L8 sm na sc sg e0 (prI _) (lsI _) (nI (r 110)) cs1 = _
      unfold fX2_closestPair_L8
      rw [if_pos (show sm ≤ nI (r 110) by rw [hC.1]; exact nI_le (Nat.le_refl _) (by omega))]; rfl) ((-1 : Int32), (-1 : Int32), (0 : Int32), cs) ⟨rfl, rfl, rfl⟩ FUEL (by unfold FUEL; omega)
  rw [hx, b1_so]
  rcases hq with ⟨cs', rfl⟩ | ⟨v, cs', rfl, hv⟩
  · exact ⟨_, cs', rfl, Or.inl rfl⟩
  · exact ⟨v, cs', rfl, Or.inr hv⟩
theorem cclosest_ok {r : Nat → Nat} {sm pd : Int32} {st le po sc sg na se ou : Nat → Int32} (h : rI r) (hC : CS r sm pd st le po sc sg na se ou) (cs : Nat → Int32) :
    ∃ cs', fX6_closest sm na sc cs sg = some (prI (clM (pdM r (r 77)) (nmF r) (r 110)), cs') := by
  obtain ⟨v, cs', e, hv⟩ := ccp_ok h hC (-1) cs
  unfold fX6_closest
  rw [e, b2_so]
  rcases hv with rfl | ⟨p, ⟨p1, p2, p3, p4⟩, -, hl⟩
  · exact ⟨cs', rfl⟩
  · exfalso
    have h16 := h.h16
    have pb : p.2.2 ≤ 240 := by rw [p4]; exact (hC.pdist h (by omega) p2 cs).1
    have h1 : (0 : Int32) ≤ nI p.2.2 := nI_pos' (by omega)
    exact absurd (Int32.le_trans h1 hl) (by decide)
/-- the least distance of the class: the true one, or one that is near enough and no less than the true one -/
theorem cleast_ok {r : Nat → Nat} {sm pd : Int32} {st le po sc sg na se ou : Nat → Int32} (h : rI r) (hC : CS r sm pd st le po sc sg na se ou) (e0 : Int32) (cs : Nat → Int32) :
    ∃ v cs', fX6_leastOfPairs e0 sm na sc cs sg = some (v, cs') ∧ (v = lsI (clM (pdM r (r 77)) (nmF r) (r 110)) ∨ ∃ x p, x ≤ 240 ∧ v = nI x ∧ nI x ≤ e0 ∧ clM (pdM r (r 77)) (nmF r) (r 110) = some p ∧ p.2.2 ≤ x) := by
  have h16 := h.h16
  obtain ⟨v, cs1, e, hv⟩ := ccp_ok h hC e0 cs
  have fin : ∀ p, okP (pdM r (r 77)) (nmF r) (r 110) p → v = prI (some p) → ∃ cs', fX6_leastOfPairs e0 sm na sc cs sg = some (nI p.2.2, cs') := by
    intro p hp hv
    obtain ⟨p1, p2, p3, p4⟩ := hp
    obtain ⟨-, cs2, e2⟩ := hC.pdist h (s := p.1) (t := p.2.1) (by omega) p2 cs1
    have d1 : prI (some p) / (100 : Int32) = nI p.1 := by
      show nI (100 * p.1 + p.2.1) / nI 100 = _
      rw [pk_div (by omega) (by omega) (by omega)]; congr 1; omega
    have d2 : xrem (prI (some p)) (100 : Int32) = nI p.2.1 := by
      show nI (100 * p.1 + p.2.1) - nI (100 * p.1 + p.2.1) / nI 100 * nI 100 = _
      rw [pk_rem (by omega) (by omega) (by omega)]; congr 1; omega
    unfold fX6_leastOfPairs
    rw [e, b2_so, hv, if_neg (show ¬ prI (some p) = -1 from nI_m1 (by omega)), d1, d2, e2, b2_so, ← p4]
    exact ⟨cs2, rfl⟩
  have hcm : ∀ p, clM (pdM r (r 77)) (nmF r) (r 110) = some p → okP (pdM r (r 77)) (nmF r) (r 110) p := clo_ok _ _ _ _
  rcases hv with hv | ⟨p, hp, hv, hl⟩
  · cases hm : clM (pdM r (r 77)) (nmF r) (r 110) with
    | none =>
      rw [hm] at hv
      refine ⟨-1, cs1, ?_, Or.inl rfl⟩
      unfold fX6_leastOfPairs
      rw [e, b2_so, hv, if_pos (show prI none = -1 from rfl)]
    | some p =>
      rw [hm] at hv
      obtain ⟨cs2, e2⟩ := fin p (hcm p hm) hv
      exact ⟨_, cs2, e2, Or.inl rfl⟩
  · obtain ⟨cs2, e2⟩ := fin p hp hv
    obtain ⟨p1, p2, p3, p4⟩ := hp
    have pb : p.2.2 ≤ 240 := by rw [p4]; exact (hC.pdist h (by omega) p2 cs).1
    obtain ⟨q, hq, hl2⟩ := clo_min (D := pdM r (r 77)) (nm := nmF r) p1 p2 p3 (r 110) (by omega)
    exact ⟨_, cs2, e2, Or.inr ⟨p.2.2, q, pb, rfl, hl, hq, by rw [p4]; exact hl2⟩⟩
end XPURE19
