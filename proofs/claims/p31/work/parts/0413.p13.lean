/-! PURE, 13: whether a figure may be learned -/
section XPURE13
theorem inM_zero (a b : Nat) : inM a b = 0 ↔ a = b := by
  unfold inM
  by_cases h : a = b
  · rw [if_pos h]; exact ⟨fun _ => h, fun _ => rfl⟩
  · rw [if_neg h]
    refine ⟨fun q => ?_, fun q => absurd q h⟩
    (repeat' split at q) <;> omega
theorem dM_zero (a b : Nat → Nat) : ∀ i j, dM a b i j = 0 ↔ i = j ∧ ∀ k, k < i → a k = b k := by
  intro i
  induction i with
  | zero =>
    intro j
    cases j with
    | zero => exact ⟨fun _ => ⟨rfl, fun k hk => absurd hk (Nat.not_lt_zero _)⟩, fun _ => rfl⟩
    | succ j =>
      refine ⟨fun q => ?_, fun q => absurd q.1 (by omega)⟩
      have : d0M b j + alM (b j) = 0 := q
      have := alM_ge (b j)
      omega
  | succ i ih =>
    intro j
    cases j with
    | zero =>
      refine ⟨fun q => ?_, fun q => absurd q.1 (by omega)⟩
      have : dM a b i 0 + alM (a i) = 0 := q
      have := alM_ge (a i)
      omega
    | succ j =>
      have e : dM a b (i + 1) (j + 1) = min (min (dM a b i (j + 1) + alM (a i)) (drM b (dM a b i) (a i) j + alM (b j))) (dM a b i j + inM (a i) (b j)) := rfl
      have g1 := alM_ge (a i)
      have g2 := alM_ge (b j)
      have e0 : dM a b (i + 1) (j + 1) = 0 ↔ dM a b i j = 0 ∧ inM (a i) (b j) = 0 := by
        rw [e]; omega
      rw [e0, ih, inM_zero]
      refine ⟨fun q => ?_, fun q => ?_⟩
      · obtain ⟨⟨rfl, q2⟩, q3⟩ := q
        refine ⟨rfl, fun k hk => ?_⟩
        by_cases z : k = i
        · rw [z]; exact q3
        · exact q2 k (by omega)
      · obtain ⟨q1, q2⟩ := q
        obtain rfl : i = j := by omega
        exact ⟨⟨rfl, fun k hk => q2 k (by omega)⟩, q2 i (by omega)⟩
theorem dsM_zero (A B : List Nat) : dsM A B = 0 ↔ A.length = B.length ∧ ∀ k, k < A.length → A.getD k 0 = B.getD k 0 := dM_zero ..
/-- the class: whether two places are signed alike -/
theorem alike_ok {sc sg : Nat → Int32} {s : Nat} {A B : List Nat} (hs : s < 17) (hA : sgC sc sg 16 A) (hB : sgC sc sg s B) (lA : A.length ≤ 40) (lB : B.length ≤ 40) (mA : ∀ k, k < A.length → A.getD k 0 ≤ 4) (mB : ∀ k, k < B.length → B.getD k 0 ≤ 4) :
    (dsM A B = 0 ∧ fX4_isSignedLikeHand (nI s) sc sg = some 1) ∨ (dsM A B ≠ 0 ∧ fX4_isSignedLikeHand (nI s) sc sg = some 0) := by
  have e0 : fX0_signsOf (16 : Int32) sc = nI A.length := by rw [l16, signsOf_nI (by omega)]; exact hA.1
  have e1 : fX0_signsOf (nI s) sc = nI B.length := by rw [signsOf_nI hs]; exact hB.1
  unfold fX4_isSignedLikeHand
  rw [e0, e1, b1_so]
  by_cases q : A.length = B.length
  · rw [if_pos (by rw [q])]
    obtain ⟨e, he, hq⟩ := loopF_ex (fun (z : Int32 × Int32) => fX4_isSignedLikeHand_L31 sc sg (nI s) (nI A.length) z.1 z.2)
      (fun i z => z.2 = nI i ∧ ((z.1 = 1 ∧ ∀ k, k < i → A.getD k 0 = B.getD k 0) ∨ (z.1 = 0 ∧ ∃ k, k < A.length ∧ A.getD k 0 ≠ B.getD k 0)))
      (fun e => (e = 1 ∧ ∀ k, k < A.length → A.getD k 0 = B.getD k 0) ∨ (e = 0 ∧ ∃ k, k < A.length ∧ A.getD k 0 ≠ B.getD k 0)) 0 A.length (by omega) (fun i z _ hi hz => by
        obtain ⟨z1, z2⟩ := z
        obtain ⟨rfl, hz⟩ := hz
        show (∃ s', fX4_isSignedLikeHand_L31 sc sg (nI s) (nI A.length) z1 (nI i) = _ ∧ _) ∨ (∃ e, fX4_isSignedLikeHand_L31 sc sg (nI s) (nI A.length) z1 (nI i) = _ ∧ _)
        unfold fX4_isSignedLikeHand_L31
        rw [if_neg (nI_ge hi (by omega))]
        rcases hz with ⟨rfl, hz⟩ | ⟨rfl, hz⟩
        · left
          have g1 : fX0_signAt (16 : Int32) (nI i) sc sg = nI (A.getD i 0) := signAt_ok (p := 16) hA (by omega) lA hi
          have g2 : fX0_signAt (nI s) (nI i) sc sg = nI (B.getD i 0) := signAt_ok hB hs lB (by omega)
          have m1 := mA i hi
          have m2 := mB i (by omega)
          rw [if_neg (show ¬ (1 : Int32) = 0 from by decide), g1, g2, nI_1]
          by_cases z : A.getD i 0 = B.getD i 0
          · rw [if_pos (by rw [z])]
            refine ⟨(1, nI (i + 1)), rfl, rfl, Or.inl ⟨rfl, fun k hk => ?_⟩⟩
            by_cases y : k = i
            · rw [y]; exact z
            · exact hz k (by omega)
          · rw [if_neg (fun y => z ((nI_eq (by omega) (by omega)).mp y).symm)]
            exact ⟨(0, nI (i + 1)), rfl, rfl, Or.inr ⟨rfl, i, hi, z⟩⟩
        · right
          rw [if_pos rfl]
          exact ⟨0, rfl, Or.inr ⟨rfl, hz⟩⟩) (fun z hz => by
        obtain ⟨z1, z2⟩ := z
        obtain ⟨rfl, hz⟩ := hz
        refine ⟨z1, ?_, hz⟩
        show fX4_isSignedLikeHand_L31 sc sg (nI s) (nI A.length) z1 (nI A.length) = _
        unfold fX4_isSignedLikeHand_L31
        rw [if_pos (nI_le (Nat.le_refl _) (by omega))]) ((1 : Int32), (0 : Int32)) ⟨rfl, Or.inl ⟨rfl, fun k hk => absurd hk (Nat.not_lt_zero _)⟩⟩ FUEL (by unfold FUEL; omega)
    rw [he, b1_so]
    rcases hq with ⟨rfl, hq⟩ | ⟨rfl, k, hk, hq⟩
    · left
      exact ⟨(dsM_zero A B).mpr ⟨q, hq⟩, by rw [if_pos (show (1 : Int32) &&& 1 = 1 from by decide)]⟩
    · right
      exact ⟨fun z => hq (((dsM_zero A B).mp z).2 k hk), by rw [if_pos (show (0 : Int32) &&& 1 = 0 from by decide)]⟩
  · right
    refine ⟨fun z => q ((dsM_zero A B).mp z).1, ?_⟩
    rw [if_neg (fun z => q ((nI_eq (by omega) (by omega)).mp z).symm)]
    have e : loopF (fun (z : Int32 × Int32) => fX4_isSignedLikeHand_L31 sc sg (nI s) (nI A.length) z.1 z.2) FUEL ((0 : Int32), (0 : Int32)) = some 0 := loopF_out (n := 99999) (by
      show fX4_isSignedLikeHand_L31 sc sg (nI s) (nI A.length) 0 (nI 0) = _
      unfold fX4_isSignedLikeHand_L31
      by_cases y : A.length ≤ 0
      · rw [if_pos (nI_le y (by omega))]
      · rw [if_neg (nI_ge (by omega) (by omega)), if_pos rfl])
    rw [e, b1_so, if_pos (show (0 : Int32) &&& 1 = 0 from by decide)]
def takenM (r : Nat → Nat) (nm : Nat) : Prop := ∃ s, s < r 110 ∧ r (atM s + 76) ≠ nm ∧ dtM r r 0 (r 77) s = 0
theorem rI.le4 (r : Nat → Nat) (f d : Nat) : ∀ k, k < (sigM r f d).length → (sigM r f d).getD k 0 ≤ 4 := fun _ hk => sigM_le4 r f d hk
theorem CS.smpF {r : Nat → Nat} {sm pd : Int32} {st le po sc sg na se ou : Nat → Int32} (h : rI r) (hC : CS r sm pd st le po sc sg na se ou) {s : Nat} (hs : s < r 110) : figC st le po s r (atM s) := by
  have := (hC.2.2.1 s (Or.inr hs)).1
  rw [offS (by have := h.h16; omega)] at this; exact this
theorem CS.smpS {r : Nat → Nat} {sm pd : Int32} {st le po sc sg na se ou : Nat → Int32} (h : rI r) (hC : CS r sm pd st le po sc sg na se ou) {s : Nat} (hs : s < r 110) : sgC sc sg s (sigM r (atM s) (r 77)) := by
  have := (hC.2.2.1 s (Or.inr hs)).2
  rw [offS (by have := h.h16; omega)] at this; exact this
theorem CS.nm {r : Nat → Nat} {sm pd : Int32} {st le po sc sg na se ou : Nat → Int32} (h : rI r) (hC : CS r sm pd st le po sc sg na se ou) {s : Nat} (hs : s < r 110) : fX4_nameOf (nI s) na = nI (r (atM s + 76)) := by
  unfold fX4_nameOf
  rw [xcell_in na (by have := h.h16; omega) (by omega)]; exact hC.2.2.2.1 s hs
/-- the class: whether the signature is taken -/
theorem taken_ok {r : Nat → Nat} {sm pd : Int32} {st le po sc sg na se ou : Nat → Int32} (h : rI r) (hC : CS r sm pd st le po sc sg na se ou) {nm : Nat} (hnm : nm ≤ 9) :
    (takenM r nm ∧ fX4_isTaken (nI nm) sm na sc sg = some 1) ∨ (¬ takenM r nm ∧ fX4_isTaken (nI nm) sm na sc sg = some 0) := by
  have h16 := h.h16
  unfold fX4_isTaken
  obtain ⟨e, he, hq⟩ := loopF_ex (fun (z : Int32) => fX4_isTaken_L2 sm na sc sg (nI nm) z)
    (fun i z => z = nI i ∧ ∀ s, s < i → ¬ (r (atM s + 76) ≠ nm ∧ dtM r r 0 (r 77) s = 0))
    (fun e => (e = Sum.inl () ∧ takenM r nm) ∨ (e = Sum.inr () ∧ ¬ takenM r nm)) 0 (r 110) (by omega) (fun i z _ hi hz => by
      obtain ⟨rfl, hz⟩ := hz
      unfold fX4_isTaken_L2
      have n9 := h.nm hi
      rw [hC.1, if_neg (nI_ge hi (by omega)), hC.nm h hi]
      by_cases q : r (atM i + 76) = nm
      · left
        rw [if_pos (by rw [q]), nI_1]
        refine ⟨_, rfl, rfl, fun s hs => ?_⟩
        by_cases y : s = i
        · rw [y]; exact fun z => z.1 q
        · exact hz s (by omega)
      · rw [if_neg (fun z => q ((nI_eq (by omega) (by omega)).mp z))]
        rcases alike_ok (s := i) (by omega) hC.handS (hC.smpS h hi) h.hand.2 (h.smp hi).2 (rI.le4 _ _ _) (rI.le4 _ _ _) with ⟨z, e⟩ | ⟨z, e⟩
        · right
          rw [e, b1_so, if_neg (show ¬ (1 : Int32) = 0 from by decide)]
          exact ⟨_, rfl, Or.inl ⟨rfl, i, hi, q, z⟩⟩
        · left
          rw [e, b1_so, if_pos rfl, nI_1]
          refine ⟨_, rfl, rfl, fun s hs => ?_⟩
          by_cases y : s = i
          · rw [y]; exact fun x => z x.2
          · exact hz s (by omega)) (fun z hz => by
      obtain ⟨rfl, hz⟩ := hz
      unfold fX4_isTaken_L2
      rw [hC.1, if_pos (nI_le (Nat.le_refl _) (by omega))]
      exact ⟨_, rfl, Or.inr ⟨rfl, fun ⟨s, hs, y⟩ => hz s hs y⟩⟩) (0 : Int32) ⟨rfl, fun s hs => absurd hs (Nat.not_lt_zero _)⟩ FUEL (by unfold FUEL; omega)
  rw [he, b1_so]
  rcases hq with ⟨rfl, hq⟩ | ⟨rfl, hq⟩
  · exact Or.inl ⟨hq, rfl⟩
  · exact Or.inr ⟨hq, rfl⟩
theorem rI.rdH {c : Nat → Int32} {r : Nat → Nat} (hr : rowOk 1343 c r) (h : rI r) {p : Nat} (hp : plc r p) : rdH 1343 c c r r (offM p) (r 77) := by
  have h16 := h.h16
  have hf := h.1 p hp
  refine ⟨hr, hr, hf.1.1, ?_, by omega, h.2.1.1, h.2.1.2, hf.2, h16, fun s hs => ⟨(h.smp hs).1.1, (h.smp hs).2⟩⟩
  rcases hp with rfl | hp
  · rw [off16]; omega
  · rw [offS (by omega)]; unfold atM; omega
def lrnOk (r : Nat → Nat) (nm : Nat) : Prop := r 0 ≠ 0 ∧ r 110 ≠ 16 ∧ ¬ takenM r nm
theorem mname_ok {N s : Nat} {c : Nat → Int32} {r : Nat → Nat} (hr : rowOk N c r) (hs : s < 16) (hN : 1343 ≤ N) (hN2 : N < 2 ^ 30) : fX7_nameOf (nI s) N c = some (nI (r (atM s + 76))) := by
  unfold fX7_nameOf
  rw [at_nI, l76, nI_add, gk (by unfold atM; omega) (by omega), nI_clamp (by unfold atM; omega), hr _ (by unfold atM; omega)]
/-- the model: whether the figure at hand may be learned -/
theorem mcan_ok {c one two cs : Nat → Int32} {r : Nat → Nat} (hr : rowOk 1343 c r) (h : rI r) {nm : Nat} (hnm : nm ≤ 9) :
    (lrnOk r nm ∧ ∃ one' two' cs', fX7_canLearn (nI nm) 1343 c one two cs = some (1, one', two', cs')) ∨ (¬ lrnOk r nm ∧ ∃ one' two' cs', fX7_canLearn (nI nm) 1343 c one two cs = some (0, one', two', cs')) := by
  have h16 := h.h16
  have h3 := h.hand.1.1.1
  unfold fX7_canLearn
  rw [k0, hr 0 (by omega)]
  by_cases q0 : r 0 = 0
  · right
    refine ⟨fun z => z.1 q0, one, two, cs, ?_⟩
    refine gy (by first | exact nI_pos (by omega) | decide) (by first | omega | (rw [nI_clamp (by omega)]; omega)) ?_
    rw [if_pos (by rw [q0]; rfl)]
  · have e110 : c (110 : Int32).toNatClampNeg = nI (r 110) := by rw [l110, nI_clamp (by omega)]; exact hr 110 (by omega)
    rw [if_neg (nI_ne0 (by omega) (by omega)), e110]
    by_cases q1 : r 110 = 16
    · right
      refine ⟨fun z => z.2.1 q1, one, two, cs, ?_⟩
      refine gy (by first | exact nI_pos (by omega) | decide) (by first | omega | (rw [nI_clamp (by omega)]; omega)) ?_
      rw [l110]
      refine gy (by first | exact nI_pos (by omega) | decide) (by first | omega | (rw [nI_clamp (by omega)]; omega)) ?_
      rw [if_pos (by rw [q1]; rfl)]
    · rw [if_neg (fun (z : nI (r 110) = 16) => q1 ((nI_eq (a := r 110) (b := 16) (by omega) (by omega)).mp z))]
      obtain ⟨e, he, hq⟩ := loopF_ex (fun (z : Int32 × (Nat → Int32) × (Nat → Int32) × (Nat → Int32)) => fX7_canLearn_L19 1343 c (nI nm) z.1 z.2.1 z.2.2.1 z.2.2.2)
        (fun i z => z.1 = nI i ∧ ∀ s, s < i → ¬ (r (atM s + 76) ≠ nm ∧ dtM r r 0 (r 77) s = 0))
        (fun e => (∃ x, e = Sum.inl x ∧ takenM r nm) ∨ (∃ x, e = Sum.inr x ∧ ¬ takenM r nm)) 0 (r 110) (by omega) (fun i z _ hi hz => by
          obtain ⟨z1, one1, two1, cs1⟩ := z
          obtain ⟨rfl, hz⟩ := hz
          have n9 := h.nm hi
          show (∃ s', fX7_canLearn_L19 1343 c (nI nm) (nI i) one1 two1 cs1 = _ ∧ _) ∨ (∃ e, fX7_canLearn_L19 1343 c (nI nm) (nI i) one1 two1 cs1 = _ ∧ _)
          unfold fX7_canLearn_L19
          rw [e110, if_neg (nI_ge hi (by omega)), l110, gk (by omega) (by omega), mname_ok hr (by omega) (by omega) (by omega), b1_so]
          by_cases q : r (atM i + 76) = nm
          · left
            rw [if_pos (by rw [q]), nI_1]
            refine ⟨_, rfl, rfl, fun s hs => ?_⟩
            by_cases y : s = i
            · rw [y]; exact fun z => z.1 q
            · exact hz s (by omega)
          · rw [if_neg (fun z => q ((nI_eq (by omega) (by omega)).mp z)), l77, gk (by omega) (by omega), nI_clamp (by omega), hr 77 (by omega), distTo_same]
            obtain ⟨hd, one', two', cs', e⟩ := rd_dist (rI.rdH hr h (Or.inl rfl)) hi one1 two1 cs1
            have e : fX7_distanceTo (0 : Int32) (nI i) (nI (r 77)) 1343 1343 c one1 c two1 cs1 = some (nI (dtM r r 0 (r 77) i), one', two', cs') := e
            rw [off16] at hd
            rw [e, b4_so]
            by_cases z : dtM r r 0 (r 77) i = 0
            · right
              rw [if_pos (by rw [z]; rfl)]
              exact ⟨_, rfl, Or.inl ⟨_, rfl, i, hi, q, z⟩⟩
            · left
              rw [if_neg (nI_ne0 (by omega) (by omega)), nI_1]
              refine ⟨_, rfl, rfl, fun s hs => ?_⟩
              by_cases y : s = i
              · rw [y]; exact fun x => z x.2
              · exact hz s (by omega)) (fun z hz => by
          obtain ⟨z1, one1, two1, cs1⟩ := z
          obtain ⟨rfl, hz⟩ := hz
          show ∃ e, fX7_canLearn_L19 1343 c (nI nm) (nI (r 110)) one1 two1 cs1 = _ ∧ _
          unfold fX7_canLearn_L19
          rw [e110, if_pos (nI_le (Nat.le_refl _) (by omega)), l110, gk (by omega) (by omega)]
          exact ⟨_, rfl, Or.inr ⟨_, rfl, fun ⟨s, hs, y⟩ => hz s hs y⟩⟩) ((0 : Int32), one, two, cs) ⟨rfl, fun s hs => absurd hs (Nat.not_lt_zero _)⟩ FUEL (by unfold FUEL; omega)
      rw [he]
      rcases hq with ⟨x, rfl, hq⟩ | ⟨x, rfl, hq⟩
      · right
        refine ⟨fun z => z.2.2 hq, x.1, x.2.1, x.2.2, ?_⟩
        refine gy (by first | exact nI_pos (by omega) | decide) (by first | omega | (rw [nI_clamp (by omega)]; omega)) ?_
        rw [l110]
        refine gy (by first | exact nI_pos (by omega) | decide) (by first | omega | (rw [nI_clamp (by omega)]; omega)) ?_
        rw [b1_so]; rfl
      · left
        refine ⟨⟨q0, q1, hq⟩, x.1, x.2.1, x.2.2, ?_⟩
        refine gy (by first | exact nI_pos (by omega) | decide) (by first | omega | (rw [nI_clamp (by omega)]; omega)) ?_
        rw [l110]
        refine gy (by first | exact nI_pos (by omega) | decide) (by first | omega | (rw [nI_clamp (by omega)]; omega)) ?_
        rw [b1_so]; rfl
end XPURE13
