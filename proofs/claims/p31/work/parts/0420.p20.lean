/-! PURE, 20: copies of a state; the best ruling -/
section XPURE20
theorem CS_congr {r : Nat → Nat} {sm pd : Int32} {st le po sc sg na se ou st' le' po' sc' sg' na' se' ou' : Nat → Int32} (h : rI r) (hC : CS r sm pd st le po sc sg na se ou)
    (e1 : ∀ j, j < 17 → st' j = st j) (e2 : ∀ j, j < 51 → le' j = le j) (e3 : ∀ j, j < 612 → po' j = po j) (e4 : ∀ j, j < 17 → sc' j = sc j) (e5 : ∀ j, j < 680 → sg' j = sg j) (e6 : ∀ j, j < 16 → na' j = na j) (e7 : ∀ j, j < 3 → se' j = se j) (e8 : ∀ j, j < 30 → ou' j = ou j) : CS r sm pd st' le' po' sc' sg' na' se' ou' := by
  have h16 := h.h16
  refine ⟨hC.1, hC.2.1, fun p hp => ?_, fun s hs => by rw [e6 s (by omega)]; exact hC.2.2.2.1 s hs, fun w hw => by rw [e7 w hw]; exact hC.2.2.2.2.1 w hw, fun n hn o ho => by rw [e8 _ (by omega)]; exact hC.2.2.2.2.2 n hn o ho⟩
  have h17 := plc_lt h hp
  have hf := h.1 p hp
  have h3 := hf.1.1.1
  have h12 := hf.1.1.2.1
  obtain ⟨g1, g2⟩ := hC.2.2.1 p hp
  have hl := hf.2
  refine ⟨⟨by rw [e1 p h17]; exact g1.1, fun s hs => by rw [e2 _ (by omega)]; exact g1.2.1 s hs, fun s hs i hi => ?_⟩, by rw [e4 p h17]; exact g2.1, fun k hk => by rw [e5 _ (by omega)]; exact g2.2 k hk⟩
  have := h12 s (by omega)
  rw [e3 _ (by omega)]; exact g1.2.2 s hs i hi
theorem copyRow_lt {n : Nat} (f g : Nat → Int32) {j : Nat} (hj : j < n) : xcopyRow n n f g j = f j := by
  unfold xcopyRow
  rw [Nat.min_self]
  exact sb_cpy0 hj
theorem pen_and {r : Nat → Nat} {pd : Int32} (h : rI r) (hp : pd = nI (r 76)) : pd &&& 1 = pd := by
  have := h.2.2.2.2.2.1.1
  rw [hp]
  rcases (show r 76 = 0 ∨ r 76 = 1 by omega) with q | q <;> rw [q] <;> decide
/-- A STATE IS COPIED -/
theorem ccopy_ok {r : Nat → Nat} {sm pd : Int32} {st le po sc sg na se ou : Nat → Int32} (h : rI r) (hC : CS r sm pd st le po sc sg na se ou) (st2 le2 po2 sc2 sg2 na2 se2 ou2 : Nat → Int32) :
    ∃ st' le' po' sc' sg' na' se' ou', fX4_copyFrom sm pd st st2 le le2 po po2 sc sc2 sg sg2 na na2 se se2 ou ou2 = some (sm, pd, st', le', po', sc', sg', na', se', ou') ∧ CS r sm pd st' le' po' sc' sg' na' se' ou' := by
  refine ⟨_, _, _, _, _, _, _, _, by
    unfold fX4_copyFrom
    rw [if_pos (pen_and h hC.2.1)], ?_⟩
  unfold fX0_copyFrom
  exact CS_congr h hC (fun j hj => copyRow_lt _ _ hj) (fun j hj => copyRow_lt _ _ hj) (fun j hj => copyRow_lt _ _ hj) (fun j hj => copyRow_lt _ _ hj) (fun j hj => copyRow_lt _ _ hj) (fun j hj => copyRow_lt _ _ hj) (fun j hj => copyRow_lt _ _ hj) (fun j hj => copyRow_lt _ _ hj)
/-- no figure at hand -/
def clhR (r : Nat → Nat) : Nat → Nat := fun j => if j ≤ 76 then 0 else r j
theorem rI_clh {r : Nat → Nat} (h : rI r) : rI (clhR r) := rI_hand h (fun j hj => if_neg (by omega)) (fig0 (fun j hj => if_pos hj) _) ⟨by rw [show clhR r 76 = 0 from rfl]; omega, fun z => absurd z (by rw [show clhR r 76 = 0 from rfl]; omega)⟩
theorem CS_clh {r : Nat → Nat} {sm pd : Int32} {st le po sc sg na se ou : Nat → Int32} (h : rI r) (hC : CS r sm pd st le po sc sg na se ou) : CS (clhR r) sm 0 (upd st 16 0) le po (upd sc 16 0) sg na se ou := by
  refine CS_hand h hC (fun j hj => if_neg (by omega)) rfl ⟨fun q hq => pk_un hq, fun _ _ => rfl, fun _ _ => rfl⟩ ⟨fun q hq => pk_un hq, fun _ _ => rfl⟩ ⟨pk_us, fun s hs => absurd hs (Nat.not_lt_zero _), fun s hs => absurd hs (Nat.not_lt_zero _)⟩ ?_
  rw [sig0 (show clhR r 0 = 0 from rfl)]
  exact ⟨pk_us, fun k hk => absurd hk (Nat.not_lt_zero _)⟩
theorem segM_hi {r r' : Nat → Nat} (h : ∀ j, 111 ≤ j → r' j = r j) {f : Nat} (hf : 111 ≤ f) (d s : Nat) : ∀ k, segM r' f d s k = segM r f d s k := by
  intro k
  exact segM_eq (K := k) (fun i _ => ⟨h _ (by omega), h _ (by omega)⟩) k (Nat.le_refl _)
theorem sgM_hi {r r' : Nat → Nat} (h : ∀ j, 111 ≤ j → r' j = r j) {f : Nat} (hf : 111 ≤ f) (d : Nat) : ∀ k, sgM r' f d k = sgM r f d k := by
  intro k
  exact sgM_eq k (fun s _ => ⟨h _ (by omega), fun i _ => ⟨h _ (by omega), h _ (by omega)⟩⟩)
theorem sigM_hi {r r' : Nat → Nat} (h : ∀ j, 111 ≤ j → r' j = r j) {f : Nat} (hf : 111 ≤ f) (d : Nat) : sigM r' f d = sigM r f d := by
  unfold sigM
  rw [h f hf, sgM_hi h hf]
theorem atM_ge (s : Nat) : 111 ≤ atM s := by unfold atM; omega
theorem pdM_hi {r r' : Nat → Nat} (h : ∀ j, 111 ≤ j → r' j = r j) (d : Nat) : pdM r' d = pdM r d := by
  funext s t
  unfold pdM
  rw [sigM_hi h (atM_ge s), sigM_hi h (atM_ge t)]
theorem nmF_hi {r r' : Nat → Nat} (h : ∀ j, 111 ≤ j → r' j = r j) : nmF r' = nmF r := by
  funext s
  exact h _ (by have := atM_ge s; omega)
/-- the best ruling so far, and its least distance -/
noncomputable def brM (r : Nat → Nat) : Nat → Option (Nat × Nat)
  | 0 => none
  | k + 1 => @ite _ (smFit r (5 + k)) (Classical.propDecidable _) (match clM (pdM r (5 + k)) (nmF r) (r 110) with
    | none => brM r k
    | some p => (match brM r k with
      | none => some (5 + k, p.2.2)
      | some q => if q.2 < p.2.2 then some (5 + k, p.2.2) else some q)) (brM r k)
theorem brM_le {r : Nat → Nat} (h : rI r) : ∀ k, k ≤ 16 → ∀ q, brM r k = some q → q.1 ≤ 20 ∧ q.2 ≤ 240 := by
  intro k
  induction k with
  | zero => intro _ q hq; cases hq
  | succ k ih =>
    intro hk q hq
    unfold brM at hq
    by_cases y : smFit r (5 + k)
    · rw [if_pos y] at hq
      cases hm : clM (pdM r (5 + k)) (nmF r) (r 110) with
      | none => rw [hm] at hq; exact ih (by omega) q hq
      | some p =>
        rw [hm] at hq
        obtain ⟨p1, p2, p3, p4⟩ := clo_ok _ _ _ _ p hm
        have := dsM_le (sigM r (atM p.1) (5 + k)) (sigM r (atM p.2.1) (5 + k))
        have a1 := y p.1 (by omega)
        have a2 := y p.2.1 p2
        have pb : p.2.2 ≤ 240 := by rw [p4]; unfold pdM; omega
        cases hb : brM r k with
        | none =>
          rw [hb] at hq
          cases hq
          exact ⟨show 5 + k ≤ 20 by omega, pb⟩
        | some q2 =>
          rw [hb] at hq
          dsimp only at hq
          split at hq
          · cases hq; exact ⟨show 5 + k ≤ 20 by omega, pb⟩
          · cases hq; exact ih (by omega) _ hb
    · rw [if_neg y] at hq; exact ih (by omega) q hq
def b1I : Option (Nat × Nat) → Int32
  | none => -1
  | some p => nI p.1
def b2I : Option (Nat × Nat) → Int32
  | none => -1
  | some p => nI p.2
theorem b2I_ge {r : Nat → Nat} (h : rI r) {k : Nat} (hk : k ≤ 16) : (-1 : Int32) ≤ b2I (brM r k) := by
  cases hb : brM r k with
  | none => exact Int32.le_refl _
  | some q =>
    have := brM_le h k hk q hb
    exact Int32.le_trans (show (-1 : Int32) ≤ 0 by decide) (nI_pos' (by omega))
theorem m1_lt {n : Nat} (h : n < 2 ^ 31) : ¬ nI n ≤ (-1 : Int32) := fun z => absurd (Int32.le_trans (nI_pos' h) z) (by decide)
/-- one ruling more, told by the least distance there -/
theorem br_step {r : Nat → Nat} (h : rI r) {k : Nat} (hk : k ≤ 15) (hF : smFit r (5 + k)) :
    (lsI (clM (pdM r (5 + k)) (nmF r) (r 110)) ≤ b2I (brM r k) ∧ brM r (k + 1) = brM r k) ∨
    (¬ lsI (clM (pdM r (5 + k)) (nmF r) (r 110)) ≤ b2I (brM r k) ∧ b1I (brM r (k + 1)) = nI (5 + k) ∧ b2I (brM r (k + 1)) = lsI (clM (pdM r (5 + k)) (nmF r) (r 110))) := by
  have hg := b2I_ge h (k := k) (by omega)
  have e : brM r (k + 1) = (match clM (pdM r (5 + k)) (nmF r) (r 110) with
    | none => brM r k
    | some p => (match brM r k with
      | none => some (5 + k, p.2.2)
      | some q => if q.2 < p.2.2 then some (5 + k, p.2.2) else some q)) := by
    show @ite _ (smFit r (5 + k)) (Classical.propDecidable _) _ _ = _
    rw [if_pos hF]
  rw [e]
  cases hm : clM (pdM r (5 + k)) (nmF r) (r 110) with
  | none => exact Or.inl ⟨hg, rfl⟩
  | some p =>
    obtain ⟨p1, p2, p3, p4⟩ := clo_ok _ _ _ _ p hm
    have := dsM_le (sigM r (atM p.1) (5 + k)) (sigM r (atM p.2.1) (5 + k))
    have a1 := hF p.1 (by omega)
    have a2 := hF p.2.1 p2
    have pb : p.2.2 ≤ 240 := by rw [p4]; unfold pdM; omega
    cases hb : brM r k with
    | none => exact Or.inr ⟨m1_lt (show p.2.2 < 2 ^ 31 by omega), rfl, rfl⟩
    | some q =>
      have hq := brM_le h k (by omega) q hb
      dsimp only
      by_cases y : q.2 < p.2.2
      · rw [if_pos y]
        exact Or.inr ⟨show ¬ nI p.2.2 ≤ nI q.2 from nI_ge y (by omega), rfl, rfl⟩
      · rw [if_neg y]
        exact Or.inl ⟨show nI p.2.2 ≤ nI q.2 from nI_le (by omega) (by omega), rfl⟩
theorem br_no {r : Nat → Nat} {k : Nat} (hF : ¬ smFit r (5 + k)) : brM r (k + 1) = brM r k := by
  show @ite _ (smFit r (5 + k)) (Classical.propDecidable _) _ _ = _
  rw [if_neg hF]
/-- THE MODEL'S BEST RULING -/
theorem mbr_ok {c : Nat → Int32} {r : Nat → Nat} (hr : rowOk 1343 c r) (h : rI r) (v1 v2 : Int32) (one two cs : Nat → Int32) :
    ∃ w1 w2 one' two' cs', fX7_bestRuling v1 v2 c one two cs = some (b1I (brM r 16), 0, w1, w2, one', two', cs') := by
  unfold fX7_bestRuling
  obtain ⟨x, hx, hq⟩ := loopF_ex (fun (z : Int32 × Int32 × Int32 × Int32 × Int32 × (Nat → Int32) × (Nat → Int32) × (Nat → Int32)) => fX7_bestRuling_L11 c z.1 z.2.1 z.2.2.1 z.2.2.2.1 z.2.2.2.2.1 z.2.2.2.2.2.1 z.2.2.2.2.2.2.1 z.2.2.2.2.2.2.2)
    (fun k z => z.1 = b1I (brM r k) ∧ z.2.1 = b2I (brM r k) ∧ z.2.2.1 = nI (5 + k))
    (fun x => x.1 = b1I (brM r 16)) 0 16 (by omega) (fun k z _ hk hz => Or.inl (by
      obtain ⟨z1, z2, z3, a1, a2, one1, two1, cs1⟩ := z
      obtain ⟨rfl, rfl, rfl⟩ := hz
      show ∃ s', fX7_bestRuling_L11 c (b1I (brM r k)) (b2I (brM r k)) (nI (5 + k)) a1 a2 one1 two1 cs1 = _ ∧ _
      unfold fX7_bestRuling_L11
      rw [if_neg (show ¬ (20 : Int32) < nI (5 + k) from nI_nlt (a := 20) (by omega) (by omega)), nI_1]
      rcases msf_ok (one := one1) hr h (d := 5 + k) (by omega) (by omega) with ⟨g, one2, e⟩ | ⟨g, one2, e⟩
      · rw [e, b2_so, if_neg (show ¬ (1 : Int32) = 0 from by decide)]
        obtain ⟨one3, two3, cs3, e3⟩ := mfc_ok hr h (d := 5 + k) (by omega) (by omega) g one2 two1 cs1
        rw [e3, b5_so]
        rcases br_step h (k := k) (by omega) g with ⟨q, e4⟩ | ⟨q, e4, e5⟩
        · rw [if_pos q]
          exact ⟨_, rfl, by rw [e4], by rw [e4], rfl⟩
        · rw [if_neg q]
          exact ⟨_, rfl, by rw [e4], by rw [e5], rfl⟩
      · rw [e, b2_so, if_pos rfl]
        have e4 := br_no g
        exact ⟨_, rfl, by rw [e4], by rw [e4], rfl⟩)) (fun z hz => by
      obtain ⟨z1, z2, z3, a1, a2, one1, two1, cs1⟩ := z
      obtain ⟨rfl, rfl, rfl⟩ := hz
      refine ⟨(b1I (brM r 16), a1, a2, one1, two1, cs1), ?_, rfl⟩
      show fX7_bestRuling_L11 c (b1I (brM r 16)) (b2I (brM r 16)) (nI (5 + 16)) a1 a2 one1 two1 cs1 = _
      unfold fX7_bestRuling_L11
      rw [if_pos (show (20 : Int32) < nI (5 + 16) by decide)]) ((-1 : Int32), (-1 : Int32), (5 : Int32), v1, v2, one, two, cs) ⟨rfl, rfl, rfl⟩ FUEL (by unfold FUEL; omega)
  obtain ⟨x1, w1, w2, one', two', cs'⟩ := x
  obtain rfl := hq
  rw [hx, b6_so]
  exact ⟨w1, w2, one', two', cs', rfl⟩
/-- THE CLASS'S BEST RULING -/
theorem cbr_loop {r r0 : Nat → Nat} {sm pd : Int32} {st le po sc sg na se ou : Nat → Int32} (h : rI r) (h0 : rI r0) (hC : CS r0 sm pd st le po sc sg na se ou) (hz0 : r0 0 = 0) (h110 : r0 110 = r 110) (hhi : ∀ j, 111 ≤ j → r0 j = r j) (cs : Nat → Int32) :
    ∃ sc' sg' se' cs' r', loopF (fun (z : Int32 × Int32 × Int32 × (Nat → Int32) × (Nat → Int32) × (Nat → Int32) × (Nat → Int32)) => fX6_bestRuling_L24 sm st le po na z.1 z.2.1 z.2.2.1 z.2.2.2.1 z.2.2.2.2.1 z.2.2.2.2.2.1 z.2.2.2.2.2.2) FUEL ((-1 : Int32), (-1 : Int32), (5 : Int32), sc, sg, se, cs) = some (b1I (brM r 16), sc', sg', se', cs') ∧ rI r' ∧ CS r' sm pd st le po sc' sg' na se' ou := by
  obtain ⟨x, hx, hq⟩ := loopF_ex (fun (z : Int32 × Int32 × Int32 × (Nat → Int32) × (Nat → Int32) × (Nat → Int32) × (Nat → Int32)) => fX6_bestRuling_L24 sm st le po na z.1 z.2.1 z.2.2.1 z.2.2.2.1 z.2.2.2.2.1 z.2.2.2.2.2.1 z.2.2.2.2.2.2)
    (fun k z => z.1 = b1I (brM r k) ∧ z.2.1 = b2I (brM r k) ∧ z.2.2.1 = nI (5 + k) ∧ ∃ r1, rI r1 ∧ CS r1 sm pd st le po z.2.2.2.1 z.2.2.2.2.1 na z.2.2.2.2.2.1 ou ∧ r1 0 = 0 ∧ r1 110 = r 110 ∧ ∀ j, 111 ≤ j → r1 j = r j)
    (fun x => x.1 = b1I (brM r 16) ∧ ∃ r1, rI r1 ∧ CS r1 sm pd st le po x.2.1 x.2.2.1 na x.2.2.2.1 ou) 0 16 (by omega) (fun k z _ hk hz => Or.inl (by
      obtain ⟨z1, z2, z3, sc1, sg1, se1, cs1⟩ := z
      obtain ⟨rfl, rfl, rfl, r1, i1, i2, i3, i4, i5⟩ := hz
      dsimp only at i2
      show ∃ s', fX6_bestRuling_L24 sm st le po na (b1I (brM r k)) (b2I (brM r k)) (nI (5 + k)) sc1 sg1 se1 cs1 = _ ∧ _
      unfold fX6_bestRuling_L24
      rw [if_neg (show ¬ (20 : Int32) < nI (5 + k) from nI_nlt (a := 20) (by omega) (by omega)), nI_1]
      have hset : setD 0 (5 + k) := Or.inl ⟨rfl, by omega, by omega⟩
      have hfit : setOk r1 0 (5 + k) ↔ smFit r (5 + k) := by
        refine ⟨fun z s hs => ?_, fun z _ => ⟨by rw [sig0 i3]; exact Nat.zero_le _, fun s hs => ?_⟩⟩
        · have := (z rfl).2 s (by omega)
          rw [sigM_hi i5 (atM_ge s)] at this; exact this
        · rw [sigM_hi i5 (atM_ge s)]; exact z s (by omega)
      rcases cset_ok i1 i2 hset with ⟨g, se2, sc2, sg2, e, c2⟩ | ⟨g, e⟩
      · have e : fX4_changeSetting (0 : Int32) (nI (5 + k)) sm se1 st le po sc1 sg1 = some (1, se2, sc2, sg2) := e
        rw [e, b4_so, if_neg (show ¬ (1 : Int32) = 0 from by decide)]
        have i1' := rI_set i1 hset g
        have e77 : setR r1 0 (5 + k) 77 = 5 + k := updN_s
        have e110 : setR r1 0 (5 + k) 110 = r 110 := by rw [set_no r1 (by omega)]; exact i4
        have hh : ∀ j, 111 ≤ j → setR r1 0 (5 + k) j = r j := fun j hj => by rw [set_no r1 (by omega)]; exact i5 j hj
        obtain ⟨v, cs2, e2, hv⟩ := cleast_ok i1' c2 (b2I (brM r k)) cs1
        rw [e77, e110, pdM_hi hh, nmF_hi hh] at hv
        rw [e2, b2_so]
        have inv : ∃ r1, rI r1 ∧ CS r1 sm pd st le po sc2 sg2 na se2 ou ∧ r1 0 = 0 ∧ r1 110 = r 110 ∧ ∀ j, 111 ≤ j → r1 j = r j := ⟨_, i1', c2, by rw [set_no r1 (by omega)]; exact i3, e110, hh⟩
        rcases hv with rfl | ⟨x, p, x1, rfl, x2, x3, x4⟩
        · rcases br_step h (k := k) (by omega) (hfit.mp g) with ⟨q, e4⟩ | ⟨q, e4, e5⟩
          · rw [if_pos q]
            exact ⟨_, rfl, by rw [e4], by rw [e4], rfl, inv⟩
          · rw [if_neg q]
            exact ⟨_, rfl, by rw [e4], by rw [e5], rfl, inv⟩
        · rw [if_pos x2]
          have e4 : brM r (k + 1) = brM r k := by
            rcases br_step h (k := k) (by omega) (hfit.mp g) with ⟨q, e4⟩ | ⟨q, -, -⟩
            · exact e4
            · exfalso
              rw [x3] at q
              exact q (Int32.le_trans (show nI p.2.2 ≤ nI x from nI_le x4 (by omega)) x2)
          exact ⟨_, rfl, by rw [e4], by rw [e4], rfl, inv⟩
      · have e : fX4_changeSetting (0 : Int32) (nI (5 + k)) sm se1 st le po sc1 sg1 = some (0, se1, sc1, sg1) := e
        have e4 := br_no (fun z => g (hfit.mpr z))
        rw [e, b4_so, if_pos rfl, if_pos (b2I_ge h (by omega))]
        exact ⟨_, rfl, by rw [e4], by rw [e4], rfl, r1, i1, i2, i3, i4, i5⟩)) (fun z hz => by
      obtain ⟨z1, z2, z3, sc1, sg1, se1, cs1⟩ := z
      obtain ⟨rfl, rfl, rfl, r1, i1, i2, i3, i4, i5⟩ := hz
      refine ⟨(b1I (brM r 16), sc1, sg1, se1, cs1), ?_, rfl, r1, i1, i2⟩
      show fX6_bestRuling_L24 sm st le po na (b1I (brM r 16)) (b2I (brM r 16)) (nI (5 + 16)) sc1 sg1 se1 cs1 = _
      unfold fX6_bestRuling_L24
      rw [if_pos (show (20 : Int32) < nI (5 + 16) by decide)]) ((-1 : Int32), (-1 : Int32), (5 : Int32), sc, sg, se, cs) ⟨rfl, rfl, rfl, r0, h0, hC, hz0, h110, hhi⟩ FUEL (by unfold FUEL; omega)
  obtain ⟨x1, sc', sg', se', cs'⟩ := x
  obtain ⟨rfl, r1, i1, i2⟩ := hq
  exact ⟨sc', sg', se', cs', r1, hx, i1, i2⟩
end XPURE20
