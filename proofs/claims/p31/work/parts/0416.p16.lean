/-! PURE, 16: a figure is read, practised -/
section XPURE16
theorem plc_lt {r : Nat → Nat} (h : rI r) {p : Nat} (hp : plc r p) : p < 17 := by
  have := h.h16
  rcases hp with rfl | hp <;> omega
/-- the class: the distance of a place and a sample -/
theorem CS.dist {r : Nat → Nat} {sm pd : Int32} {st le po sc sg na se ou : Nat → Int32} (h : rI r) (hC : CS r sm pd st le po sc sg na se ou) {p s : Nat} (hp : plc r p) (hs : s < r 110) (cs : Nat → Int32) : dtM r r (offM p) (r 77) s ≤ 240 ∧ ∃ cs', fX2_distanceOf (nI p) (nI s) sc cs sg = some (nI (dtM r r (offM p) (r 77) s), cs') := by
  have h16 := h.h16
  have l1 := (h.1 p hp).2
  have l2 := (h.smp hs).2
  have := dsM_le (sigM r (offM p) (r 77)) (sigM r (atM s) (r 77))
  exact ⟨by unfold dtM; omega, cdist_ok (p := s) (q := p) (by omega) (plc_lt h hp) (hC.2.2.1 p hp).2 (hC.smpS h hs) l1 l2 (rI.le4 _ _ _) (rI.le4 _ _ _) cs⟩
def hnr (r : Nat → Nat) (f b : Nat) : Option (Nat × Nat) := nrM (dtM r r f (r 77)) b (r 110)
def hhow (r : Nat → Nat) (f b : Nat) : Nat := howM (dtM r r f (r 77)) (fun s => r (atM s + 76)) b (r 110) (r 78) (r 79)
def nmI (r : Nat → Nat) : Option (Nat × Nat) → Int32
  | none => -1
  | some p => nI (r (atM p.1 + 76))
def hname (r : Nat → Nat) (f b : Nat) : Int32 := if hhow r f b = 0 then nmI r (hnr r f b) else -1
theorem rival_ok {r : Nat → Nat} {sm pd : Int32} {st le po sc sg na se ou ds : Nat → Int32} (h : rI r) (hC : CS r sm pd st le po sc sg na se ou) {f b i e : Nat} {but : Int32} (hb : butOk but b) (hi : i < r 110) (he : e ≤ 240) (hds : ∀ s, s < r 110 → s ≠ b → ds s = nI (dtM r r f (r 77) s)) (hdb : ∀ s, s < r 110 → dtM r r f (r 77) s ≤ 240) :
    fX2_hasRival but (nI e) (nI i) sm na se ds = some (if rvM (dtM r r f (r 77)) (fun s => r (atM s + 76)) b i e (r 79) (r 110) = true then 1 else 0) := by
  have h16 := h.h16
  have h79 := h.2.2.2.1.2
  unfold fX2_hasRival
  have e2 : fX4_settingOf (2 : Int32) se = nI (r 79) := hC.se0 (w := 2) (by omega)
  rw [e2, nI_add, b1_so, hC.nm h hi]
  have n9i := h.nm hi
  obtain ⟨x, hx, hq⟩ := loopF_ex (fun (z : Int32) => fX2_hasRival_L24 sm na ds but (nI (r (atM i + 76))) (nI (e + r 79)) z)
    (fun k z => z = nI k ∧ rvM (dtM r r f (r 77)) (fun s => r (atM s + 76)) b i e (r 79) k = false)
    (fun x => (x = Sum.inl () ∧ rvM (dtM r r f (r 77)) (fun s => r (atM s + 76)) b i e (r 79) (r 110) = true) ∨ (x = Sum.inr () ∧ rvM (dtM r r f (r 77)) (fun s => r (atM s + 76)) b i e (r 79) (r 110) = false)) 0 (r 110) (by omega) (fun k z _ hk hz => by
      obtain ⟨rfl, hz⟩ := hz
      have hv : rvM (dtM r r f (r 77)) (fun s => r (atM s + 76)) b i e (r 79) (k + 1) = (decide (k ≠ b) && (decide (r (atM k + 76) ≠ r (atM i + 76)) && decide (dtM r r f (r 77) k < e + r 79))) := by
        show (rvM _ _ _ _ _ _ k || _) = _
        rw [hz, Bool.false_or]
      unfold fX2_hasRival_L24
      have n9k := h.nm hk
      have dk := hdb k hk
      rw [hC.1, if_neg (nI_ge hk (by omega))]
      by_cases q : k = b
      · left
        rw [if_pos ((hb k (by omega)).mpr q), nI_1]
        exact ⟨_, rfl, rfl, by rw [hv]; simp [q]⟩
      · rw [if_neg (fun z => q ((hb k (by omega)).mp z)), hC.nm h hk]
        by_cases q2 : r (atM k + 76) = r (atM i + 76)
        · left
          rw [if_pos (by rw [q2]), nI_1]
          exact ⟨_, rfl, rfl, by rw [hv]; simp [q2]⟩
        · rw [if_neg (fun z => q2 ((nI_eq (by omega) (by omega)).mp z)), xcell_in ds (by omega) (by omega), hds k hk q]
          by_cases q3 : dtM r r f (r 77) k < e + r 79
          · right
            rw [if_neg (nI_ge q3 (by omega))]
            refine ⟨_, rfl, Or.inl ⟨rfl, rvM_mono (s := k + 1) ?_ _ (by omega)⟩⟩
            rw [hv]; simp [q, q2, q3]
          · left
            rw [if_pos (nI_le (by omega) (by omega)), nI_1]
            exact ⟨_, rfl, rfl, by rw [hv]; simp [q3]⟩) (fun z hz => by
      obtain ⟨rfl, hz⟩ := hz
      unfold fX2_hasRival_L24
      rw [hC.1, if_pos (nI_le (Nat.le_refl _) (by omega))]
      exact ⟨_, rfl, Or.inr ⟨rfl, hz⟩⟩) (0 : Int32) ⟨rfl, rfl⟩ FUEL (by unfold FUEL; omega)
  rw [hx, b1_so]
  rcases hq with ⟨rfl, hq⟩ | ⟨rfl, hq⟩
  · rw [hq]; rfl
  · rw [hq]; rfl
/-- THE CLASS READS A FIGURE -/
theorem crd_ok {r : Nat → Nat} {sm pd : Int32} {st le po sc sg na se ou : Nat → Int32} (h : rI r) (hC : CS r sm pd st le po sc sg na se ou) {p b : Nat} {but : Int32} (hp : plc r p) (hb : butOk but b) (cs ds : Nat → Int32) :
    ∃ cs' ds', fX2_readFigure (nI p) but sm sc cs sg ds se na = some (nI (hhow r (offM p) b), hname r (offM p) b, byI (hnr r (offM p) b), oneI (hnr r (offM p) b), cs', ds') := by
  have h16 := h.h16
  have h78 := h.2.2.1
  have e1 : fX4_settingOf (1 : Int32) se = nI (r 78) := hC.se0 (w := 1) (by omega)
  have hdb : ∀ s, s < r 110 → dtM r r (offM p) (r 77) s ≤ 240 := fun s hs => (hC.dist h hp hs cs).1
  unfold fX2_readFigure
  obtain ⟨x, hx, hq⟩ := loopF_ex (fun (z : Int32 × Int32 × Int32 × (Nat → Int32) × (Nat → Int32)) => fX2_readFigure_L18 sm sc sg (nI p) but z.1 z.2.1 z.2.2.1 z.2.2.2.1 z.2.2.2.2)
    (fun i z => z.1 = nI i ∧ z.2.1 = byI (nrM (dtM r r (offM p) (r 77)) b i) ∧ z.2.2.1 = oneI (nrM (dtM r r (offM p) (r 77)) b i) ∧ ∀ s, s < i → s ≠ b → z.2.2.2.2 s = nI (dtM r r (offM p) (r 77) s))
    (fun x => x.1 = byI (hnr r (offM p) b) ∧ x.2.1 = oneI (hnr r (offM p) b) ∧ ∀ s, s < r 110 → s ≠ b → x.2.2.2 s = nI (dtM r r (offM p) (r 77) s)) 0 (r 110) (by omega) (fun i z _ hi hz => Or.inl (by
      obtain ⟨z1, z2, z3, cs1, ds1⟩ := z
      obtain ⟨rfl, rfl, rfl, hz⟩ := hz
      dsimp only at hz
      show ∃ s', fX2_readFigure_L18 sm sc sg (nI p) but (nI i) (byI _) (oneI _) cs1 ds1 = _ ∧ _
      unfold fX2_readFigure_L18
      rw [hC.1, if_neg (nI_ge hi (by omega))]
      by_cases q : i = b
      · have en : nrM (dtM r r (offM p) (r 77)) b (i + 1) = nrM (dtM r r (offM p) (r 77)) b i := by
          show (if i = b then _ else _) = _
          rw [if_pos q]
        rw [if_pos ((hb i (by omega)).mpr q), nI_1]
        refine ⟨_, rfl, rfl, by rw [en], by rw [en], fun s hs hs2 => hz s (by omega) hs2⟩
      · rw [if_neg (fun z => q ((hb i (by omega)).mp z))]
        obtain ⟨hd, cs2, e⟩ := hC.dist h hp hi cs1
        have en : nrM (dtM r r (offM p) (r 77)) b (i + 1) = (match nrM (dtM r r (offM p) (r 77)) b i with
          | none => some (i, dtM r r (offM p) (r 77) i)
          | some p2 => if dtM r r (offM p) (r 77) i < p2.2 then some (i, dtM r r (offM p) (r 77) i) else some p2) := by
          show (if i = b then _ else _) = _
          rw [if_neg q]
          rfl
        have hd2 : ∀ s, s < i + 1 → s ≠ b → upd ds1 i (nI (dtM r r (offM p) (r 77) i)) s = nI (dtM r r (offM p) (r 77) s) := by
          intro s hs hs2
          by_cases y : s = i
          · rw [y, pk_us]
          · rw [pk_un y]; exact hz s (by omega) hs2
        rw [e, b2_so, xput_in ds1 _ (by omega) (by omega), en, nI_1]
        cases hn : nrM (dtM r r (offM p) (r 77)) b i with
        | none =>
          rw [if_pos (show oneI none = -1 from rfl)]
          exact ⟨_, rfl, rfl, rfl, rfl, hd2⟩
        | some p2 =>
          have hp2 := nrM_in _ _ _ _ hn
          have hp3 : p2.2 ≤ 240 := by rw [hp2.2.2]; exact hdb _ (by omega)
          rw [if_neg (show ¬ oneI (some p2) = -1 from nI_m1 (by omega))]
          by_cases y : dtM r r (offM p) (r 77) i < p2.2
          · rw [if_neg (show ¬ byI (some p2) ≤ nI _ from nI_ge y (by omega))]
            refine ⟨_, rfl, rfl, ?_, ?_, hd2⟩
            · show _ = byI (if _ then _ else _)
              rw [if_pos y]; rfl
            · show _ = oneI (if _ then _ else _)
              rw [if_pos y]; rfl
          · rw [if_pos (show byI (some p2) ≤ nI _ from nI_le (by omega) (by omega))]
            refine ⟨_, rfl, rfl, ?_, ?_, hd2⟩
            · show _ = byI (if _ then _ else _)
              rw [if_neg y]
            · show _ = oneI (if _ then _ else _)
              rw [if_neg y])) (fun z hz => by
      obtain ⟨z1, z2, z3, cs1, ds1⟩ := z
      obtain ⟨rfl, rfl, rfl, hz⟩ := hz
      dsimp only at hz
      refine ⟨(_, _, cs1, ds1), ?_, rfl, rfl, hz⟩
      show fX2_readFigure_L18 sm sc sg (nI p) but (nI (r 110)) (byI _) (oneI _) cs1 ds1 = _
      unfold fX2_readFigure_L18
      rw [hC.1, if_pos (nI_le (Nat.le_refl _) (by omega))]; rfl) ((0 : Int32), (-1 : Int32), (-1 : Int32), cs, ds) ⟨rfl, rfl, rfl, fun s hs => absurd hs (Nat.not_lt_zero _)⟩ FUEL (by unfold FUEL; omega)
  obtain ⟨x1, x2, cs1, ds1⟩ := x
  obtain ⟨rfl, rfl, hq⟩ := hq
  dsimp only at hq
  rw [hx, b4_so, e1]
  have hw : hhow r (offM p) b = (match hnr r (offM p) b with
    | none => 2
    | some p2 => if r 78 < p2.2 then 2 else if rvM (dtM r r (offM p) (r 77)) (fun s => r (atM s + 76)) b p2.1 p2.2 (r 79) (r 110) = true then 1 else 0) := rfl
  cases hn : hnr r (offM p) b with
  | none =>
    have hv : hhow r (offM p) b = 2 := by rw [hw, hn]
    have hm : hname r (offM p) b = -1 := by unfold hname; rw [hv, if_neg (by decide)]
    rw [if_pos (show oneI none = -1 from rfl), hv, hm]
    exact ⟨cs1, ds1, rfl⟩
  | some p2 =>
    have hp2 := nrM_in _ _ _ _ hn
    have hp3 : p2.2 ≤ 240 := by rw [hp2.2.2]; exact hdb _ (by omega)
    rw [if_neg (show ¬ oneI (some p2) = -1 from nI_m1 (by omega))]
    rw [hn] at hw
    dsimp only at hw
    by_cases y : r 78 < p2.2
    · rw [if_pos y] at hw
      have hm : hname r (offM p) b = -1 := by unfold hname; rw [hw, if_neg (by decide)]
      rw [if_neg (show ¬ byI (some p2) ≤ nI (r 78) from nI_ge y (by omega)), hw, hm]
      exact ⟨cs1, ds1, rfl⟩
    · rw [if_neg y] at hw
      have er : fX2_hasRival but (byI (some p2)) (oneI (some p2)) sm na se ds1 = _ := rival_ok h hC hb hp2.1 hp3 hq hdb
      rw [if_pos (show byI (some p2) ≤ nI (r 78) from nI_le (by omega) (by omega)), er, b1_so]
      cases hv : rvM (dtM r r (offM p) (r 77)) (fun s => r (atM s + 76)) b p2.1 p2.2 (r 79) (r 110) with
      | true =>
        rw [hv, if_pos rfl] at hw
        have hm : hname r (offM p) b = -1 := by unfold hname; rw [hw, if_neg (by decide)]
        rw [if_pos rfl, if_neg (show ¬ (1 : Int32) = 0 from by decide), hw, hm]
        exact ⟨cs1, ds1, rfl⟩
      | false =>
        rw [hv, if_neg Bool.false_ne_true] at hw
        have hm : hname r (offM p) b = nI (r (atM p2.1 + 76)) := by unfold hname; rw [hw, if_pos rfl, hn]; rfl
        have en : fX4_nameOf (oneI (some p2)) na = nI (r (atM p2.1 + 76)) := hC.nm h hp2.1
        rw [if_neg Bool.false_ne_true, if_pos rfl, en, hw, hm]
        exact ⟨cs1, ds1, rfl⟩
/-- THE MODEL READS A FIGURE of its own row -/
theorem mrd_ok {c : Nat → Int32} {r : Nat → Nat} (hr : rowOk 1343 c r) (h : rI r) {p b : Nat} {but : Int32} (hp : plc r p) (hb : butOk but b) (one two cs : Nat → Int32) :
    ∃ one' two' cs', fX7_readFigure_s (nI (offM p)) but 1343 c one two cs = some (oneI (hnr r (offM p) b), byI (hnr r (offM p) b), nI (hhow r (offM p) b), one', two', cs') := by
  rw [rd_same]
  exact rd_ok (rI.rdH hr h hp) hb h.2.2.1 h.2.2.2.1.2 (fun s hs => h.nm hs) one two cs
/-- what becomes of practising; the row behind it -/
def pracM (r : Nat → Nat) (nm : Nat) : Nat := if hhow r 0 99 = 0 then (match hnr r 0 99 with
  | none => 2
  | some q => if r (atM q.1 + 76) = nm then 0 else 2) else 1
def pracR (r : Nat → Nat) (nm o : Nat) : Nat → Nat := fun j => if j ≤ 76 then 0 else if j = 80 + 10 * o + nm then r j + 1 else r j
theorem pracM_le (r : Nat → Nat) (nm : Nat) : pracM r nm ≤ 2 := by
  unfold pracM
  by_cases q : hhow r 0 99 = 0
  · rw [if_pos q]
    cases hnr r 0 99 with
    | none => exact Nat.le_refl _
    | some q => dsimp only; split <;> omega
  · rw [if_neg q]; omega
theorem how0 {r : Nat → Nat} {f b : Nat} (h : hhow r f b = 0) : ∃ q, hnr r f b = some q ∧ q.1 < r 110 := by
  cases hn : hnr r f b with
  | none =>
    have hw : hhow r f b = (match hnr r f b with
      | none => 2
      | some p2 => if r 78 < p2.2 then 2 else if rvM (dtM r r f (r 77)) (fun s => r (atM s + 76)) b p2.1 p2.2 (r 79) (r 110) = true then 1 else 0) := rfl
    rw [hn] at hw
    rw [hw] at h
    exact absurd h (show ¬ (2 : Nat) = 0 by decide)
  | some q => exact ⟨q, rfl, (nrM_in _ _ _ _ hn).1⟩
theorem hhow_le (r : Nat → Nat) (f b : Nat) : hhow r f b ≤ 2 := by
  have hw : hhow r f b = (match hnr r f b with
    | none => 2
    | some p2 => if r 78 < p2.2 then 2 else if rvM (dtM r r f (r 77)) (fun s => r (atM s + 76)) b p2.1 p2.2 (r 79) (r 110) = true then 1 else 0) := rfl
  rw [hw]
  cases hnr r f b with
  | none => exact Nat.le_refl _
  | some q => dsimp only; (repeat' split) <;> omega
theorem prac_sm {r : Nat → Nat} {nm o : Nat} (hnm : nm ≤ 9) (ho : o ≤ 2) {s : Nat} (j : Nat) : pracR r nm o (atM s + j) = r (atM s + j) := by
  unfold pracR
  have : 111 ≤ atM s := by unfold atM; omega
  rw [if_neg (by omega), if_neg (by omega)]
theorem rI_prac {r : Nat → Nat} (h : rI r) {nm o : Nat} (hnm : nm ≤ 9) (ho : o ≤ 2) : rI (pracR r nm o) := by
  have h16 := h.h16
  have z : ∀ j, j ≤ 76 → pracR r nm o j = 0 := fun j hj => if_pos hj
  have lo : ∀ j, 77 ≤ j → j < 80 → pracR r nm o j = r j := fun j h1 h2 => by unfold pracR; rw [if_neg (by omega), if_neg (by omega)]
  have e110 : pracR r nm o 110 = r 110 := by unfold pracR; rw [if_neg (by omega), if_neg (by omega)]
  refine ⟨fun p q => ?_, by rw [lo 77 (by omega) (by omega)]; exact h.2.1, by rw [lo 78 (by omega) (by omega)]; exact h.2.2.1, by rw [lo 79 (by omega) (by omega)]; exact h.2.2.2.1, by omega, by rw [z 76 (by omega)]; omega, fun s hs => ?_⟩
  · rw [lo 77 (by omega) (by omega)]
    rcases q with rfl | q
    · exact fig0 z _
    · rw [e110] at q
      have hf := h.smp q
      rw [offS (by omega)]
      have hj : ∀ j, j < 76 → pracR r nm o (atM p + j) = r (atM p + j) := fun j hj => prac_sm hnm ho j
      exact figI_eq (figEq_of hj hf.1.1.2.1) (figOk_of hj hf.1.1) hf
  · rw [e110] at hs
    rw [prac_sm hnm ho]; exact h.nm hs
theorem CS_prac {r : Nat → Nat} {sm pd : Int32} {st le po sc sg na se ou : Nat → Int32} (h : rI r) (hC : CS r sm pd st le po sc sg na se ou) {nm o : Nat} (hnm : nm ≤ 9) (ho : o ≤ 2) :
    CS (pracR r nm o) sm 0 (upd st 16 0) le po (upd sc 16 0) sg na se (fX4_countOutcome (nI nm) (nI o) ou) := by
  have h16 := h.h16
  have z : ∀ j, j ≤ 76 → pracR r nm o j = 0 := fun j hj => if_pos hj
  have lo : ∀ j, 77 ≤ j → j < 80 → pracR r nm o j = r j := fun j h1 h2 => by unfold pracR; rw [if_neg (by omega), if_neg (by omega)]
  have e110 : pracR r nm o 110 = r 110 := by unfold pracR; rw [if_neg (by omega), if_neg (by omega)]
  have eo : fX4_countOutcome (nI nm) (nI o) ou = upd ou (3 * nm + o) (nI (r (80 + 10 * o + nm) + 1)) := by
    unfold fX4_countOutcome fX4_outcomeOf
    rw [l3, pk_mul, nI_add, xcell_in ou (by omega) (by omega), xput_in ou _ (by omega) (by omega), Nat.mul_comm nm 3, hC.2.2.2.2.2 nm (by omega) o (by omega), nI_1]
  rw [eo]
  refine ⟨by rw [e110]; exact hC.1, by rw [z 76 (by omega)]; rfl, fun p q => ?_, fun s hs => ?_, fun w hw => ?_, fun n hn o2 ho2 => ?_⟩
  · rw [lo 77 (by omega) (by omega)]
    rcases q with rfl | q
    · rw [off16]
      have z0 := z 0 (by omega)
      refine ⟨⟨by rw [pk_us, z0]; rfl, fun s hs => by omega, fun s hs => by omega⟩, ?_⟩
      rw [sig0 z0]
      exact ⟨pk_us, fun k hk => absurd hk (Nat.not_lt_zero _)⟩
    · rw [e110] at q
      have hf := h.smp q
      rw [offS (by omega)]
      have hj : ∀ j, j < 76 → pracR r nm o (atM p + j) = r (atM p + j) := fun j hj => prac_sm hnm ho j
      have hq := figEq_of hj hf.1.1.2.1
      rw [sigM_eq _ hq hf.1.1.1]
      exact ⟨figC_fr (p := 16) (figOk_of hj hf.1.1) ⟨fun q hq => pk_un hq, fun _ _ => rfl, fun _ _ => rfl⟩ (by omega) (figC_eq hq hf.1.1.1 (hC.smpF h q)), sgC_fr (p := 16) hf.2 ⟨fun q hq => pk_un hq, fun _ _ => rfl⟩ (by omega) (hC.smpS h q)⟩
  · rw [e110] at hs
    rw [prac_sm hnm ho]; exact hC.2.2.2.1 s hs
  · rw [lo _ (by omega) (by omega)]; exact hC.2.2.2.2.1 w hw
  · unfold pracR
    rw [if_neg (by omega)]
    by_cases y : n = nm ∧ o2 = o
    · obtain ⟨rfl, rfl⟩ := y
      rw [pk_us, if_pos rfl]
    · rw [pk_un (by omega), if_neg (by omega)]; exact hC.2.2.2.2.2 n hn o2 ho2
/-- THE CLASS PRACTISES -/
theorem cprac_ok {r : Nat → Nat} {sm pd : Int32} {st le po sc sg na se ou : Nat → Int32} (h : rI r) (hC : CS r sm pd st le po sc sg na se ou) {nm : Nat} (hnm : nm ≤ 9) (h0 : r 0 ≠ 0) (v1 v2 v3 v4 : Int32) (cs ds : Nat → Int32) :
    ∃ st' w1 w2 w3 w4 sc' cs' ds' ou', fX6_practiseOn (nI nm) sm pd st v1 v2 v3 v4 sc cs sg ds se na ou = some (nI (pracM r nm), 0, st', w1, w2, w3, w4, sc', cs', ds', ou') ∧ CS (pracR r nm (pracM r nm)) sm 0 st' le po sc' sg na se ou' := by
  have h3 := h.hand.1.1.1
  have e0 : fX0_strokesOf (16 : Int32) st = nI (r 0) := by rw [l16, strokes_at (by omega)]; exact hC.handF.1
  obtain ⟨cs', ds', e⟩ := crd_ok h hC (p := 16) (b := 99) (Or.inl rfl) butOk_m1 cs ds
  have e : fX2_readFigure (16 : Int32) (-1 : Int32) sm sc cs sg ds se na = some (nI (hhow r 0 99), hname r 0 99, byI (hnr r 0 99), oneI (hnr r 0 99), cs', ds') := e
  unfold fX6_practiseOn
  rw [e0, if_neg (nI_ne0 (by omega) (by omega)), e, b6_so, cclear_ok]
  have hl := hhow_le r 0 99
  unfold pracM
  by_cases q : hhow r 0 99 = 0
  · obtain ⟨p2, hn, hp2⟩ := how0 q
    have n9 := h.nm hp2
    have en : hname r 0 99 = nI (r (atM p2.1 + 76)) := by unfold hname; rw [if_pos q, hn]; rfl
    rw [if_pos q, hn, if_pos (by rw [q]; rfl), en]
    dsimp only
    by_cases y : r (atM p2.1 + 76) = nm
    · rw [if_pos (by rw [y]), if_pos y]
      exact ⟨_, _, _, _, _, _, _, _, _, rfl, CS_prac h hC hnm (o := 0) (by omega)⟩
    · rw [if_neg (fun z => y ((nI_eq (by omega) (by omega)).mp z)), if_neg y]
      exact ⟨_, _, _, _, _, _, _, _, _, rfl, CS_prac h hC hnm (o := 2) (by omega)⟩
  · rw [if_neg q, if_neg (nI_ne0 (by omega) (by omega))]
    exact ⟨_, _, _, _, _, _, _, _, _, rfl, CS_prac h hC hnm (o := 1) (by omega)⟩
theorem cprac_no {r : Nat → Nat} {sm pd : Int32} {st le po sc sg na se ou : Nat → Int32} (hC : CS r sm pd st le po sc sg na se ou) (h0 : r 0 = 0) (x v1 v2 v3 v4 : Int32) (cs ds : Nat → Int32) : fX6_practiseOn x sm pd st v1 v2 v3 v4 sc cs sg ds se na ou = some (-1, pd, st, v1, v2, v3, v4, sc, cs, ds, ou) := by
  have e0 : fX0_strokesOf (16 : Int32) st = nI (r 0) := by rw [l16, strokes_at (by omega)]; exact hC.handF.1
  unfold fX6_practiseOn
  rw [e0, if_pos (by rw [h0]; rfl)]
/-- the model's row behind practising -/
theorem mprac_row {c : Nat → Int32} {r : Nat → Nat} (hr : rowOk 1343 c r) {nm o : Nat} (hnm : nm ≤ 9) (ho : o ≤ 2) : ∃ c4, fX7_clearFigure (0 : Int32) 1343 (upd c (80 + 10 * o + nm) (nI (r (80 + 10 * o + nm) + 1))) = some c4 ∧ rowOk 1343 (upd c4 76 (0 : Int32)) (pracR r nm o) := by
  have o3 := rowOk_upd hr (80 + 10 * o + nm) (r (80 + 10 * o + nm) + 1)
  obtain ⟨c4, e4, o4⟩ := mclear_ok (f := 0) o3 (by omega) (by omega)
  have o5 := rowOk_upd o4 76 0
  refine ⟨c4, e4, fun j hj => ?_⟩
  rw [show upd c4 76 (0 : Int32) j = upd c4 76 (nI 0) j from rfl, o5 j hj]
  unfold updN pracR
  dsimp only
  by_cases a1 : j = 76
  · rw [if_pos a1, if_pos (by omega)]
  · rw [if_neg a1]
    by_cases a2 : j ≤ 76
    · rw [if_pos (by omega), if_pos (by omega)]
    · rw [if_neg (by omega), if_neg a2]
      by_cases a3 : j = 80 + 10 * o + nm
      · rw [if_pos a3, if_pos a3, a3]
      · rw [if_neg a3, if_neg a3]
/-- THE MODEL PRACTISES -/
theorem mprac_ok {c : Nat → Int32} {r : Nat → Nat} (hr : rowOk 1343 c r) (h : rI r) {nm : Nat} (hnm : nm ≤ 9) (one two cs : Nat → Int32) :
    ∃ c' a b w one' two' cs', fX7_practiseOn (nI nm) 1343 c one two cs = some (nI (pracM r nm), c', a, b, w, one', two', cs') ∧ rowOk 1343 c' (pracR r nm (pracM r nm)) := by
  obtain ⟨one', two', cs', e⟩ := mrd_ok hr h (p := 16) (b := 99) (Or.inl rfl) butOk_m1 one two cs
  have e : fX7_readFigure_s (0 : Int32) (-1 : Int32) 1343 c one two cs = some (oneI (hnr r 0 99), byI (hnr r 0 99), nI (hhow r 0 99), one', two', cs') := e
  have hl := hhow_le r 0 99
  have ix : ∀ o, o ≤ 2 → (80 : Int32) + (10 : Int32) * nI o + nI nm = nI (80 + 10 * o + nm) := fun o _ => by
    rw [show (80 : Int32) = nI 80 from rfl, show (10 : Int32) = nI 10 from rfl, pk_mul, nI_add, nI_add]
  have ix0 : (80 : Int32) + (10 : Int32) * (0 : Int32) + nI nm = nI (80 + 10 * 0 + nm) := ix 0 (by omega)
  have ix1 : (80 : Int32) + (10 : Int32) * (1 : Int32) + nI nm = nI (80 + 10 * 1 + nm) := ix 1 (by omega)
  have ix2 : (80 : Int32) + (10 : Int32) * (2 : Int32) + nI nm = nI (80 + 10 * 2 + nm) := ix 2 (by omega)
  unfold fX7_practiseOn pracM
  rw [e, b6_so]
  by_cases q : hhow r 0 99 = 0
  · obtain ⟨p2, hn, hp2⟩ := how0 q
    have n9 := h.nm hp2
    have h16 := h.h16
    rw [if_pos q, hn, if_pos (show nI (hhow r 0 99) ≤ 0 by rw [q]; decide)]
    dsimp only
    have en : fX7_nameOf (oneI (some p2)) 1343 c = some (nI (r (atM p2.1 + 76))) := mname_ok hr (by omega) (by omega) (by omega)
    rw [en, b1_so]
    by_cases y : r (atM p2.1 + 76) = nm
    · rw [if_pos (by rw [y]), if_pos y]
      obtain ⟨c4, e4, o4⟩ := mprac_row hr hnm (o := 0) (by omega)
      refine ⟨upd c4 76 0, oneI (some p2), byI (some p2), nI (hhow r 0 99), one', two', cs', ?_, o4⟩
      rw [ix0]
      refine gy (by first | exact nI_pos (by omega) | decide) (by first | omega | (rw [nI_clamp (by omega)]; omega)) ?_
      refine gy (by first | exact nI_pos (by omega) | decide) (by first | omega | (rw [nI_clamp (by omega)]; omega)) ?_
      rw [b1_so, nI_clamp (by omega), hr _ (by omega), nI_1, e4, b1_so, l76]
      refine gy (by first | exact nI_pos (by omega) | decide) (by first | omega | (rw [nI_clamp (by omega)]; omega)) ?_
      rw [b1_so, nI_clamp (by omega)]; rfl
    · rw [if_neg (fun z => y ((nI_eq (by omega) (by omega)).mp z)), if_neg y]
      obtain ⟨c4, e4, o4⟩ := mprac_row hr hnm (o := 2) (by omega)
      refine ⟨upd c4 76 0, oneI (some p2), byI (some p2), nI (hhow r 0 99), one', two', cs', ?_, o4⟩
      rw [ix2]
      refine gy (by first | exact nI_pos (by omega) | decide) (by first | omega | (rw [nI_clamp (by omega)]; omega)) ?_
      refine gy (by first | exact nI_pos (by omega) | decide) (by first | omega | (rw [nI_clamp (by omega)]; omega)) ?_
      rw [b1_so, nI_clamp (by omega), hr _ (by omega), nI_1, e4, b1_so, l76]
      refine gy (by first | exact nI_pos (by omega) | decide) (by first | omega | (rw [nI_clamp (by omega)]; omega)) ?_
      rw [b1_so, nI_clamp (by omega)]; rfl
  · rw [if_neg q, if_neg (nI_nle (by omega) (by omega))]
    obtain ⟨c4, e4, o4⟩ := mprac_row hr hnm (o := 1) (by omega)
    refine ⟨upd c4 76 0, oneI (hnr r 0 99), byI (hnr r 0 99), nI (hhow r 0 99), one', two', cs', ?_, o4⟩
    rw [ix1]
    refine gy (by first | exact nI_pos (by omega) | decide) (by first | omega | (rw [nI_clamp (by omega)]; omega)) ?_
    refine gy (by first | exact nI_pos (by omega) | decide) (by first | omega | (rw [nI_clamp (by omega)]; omega)) ?_
    rw [b1_so, nI_clamp (by omega), hr _ (by omega), nI_1, e4, b1_so, l76]
    refine gy (by first | exact nI_pos (by omega) | decide) (by first | omega | (rw [nI_clamp (by omega)]; omega)) ?_
    rw [b1_so, nI_clamp (by omega)]; rfl
end XPURE16
