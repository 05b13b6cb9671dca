/-! PURE, 17: settings -/
section XPURE17
/-- an argument in a range: both sides' tests -/
theorem crng (v : Int32) (lo hi : Nat) (hlo : lo < 2 ^ 31) (hhi : hi < 2 ^ 31) : (if v < nI lo then (0 : Int32) else (if nI hi < v then (0 : Int32) else (1 : Int32))) = fX7_in v.toInt64 (lN lo) (lN hi) := by
  by_cases h : v < 0
  · rw [in_neg h hlo, if_pos]
    have h1 := nI_pos' hlo
    exact Int32.lt_of_lt_of_le h h1
  · obtain ⟨k, hk, rfl⟩ := nI_of h
    rw [in_nI hk hlo hhi]
    by_cases q1 : k < lo
    · rw [if_pos (nI_lt q1 hlo), if_neg (by omega)]
    · rw [if_neg (nI_nlt (by omega) hk)]
      by_cases q2 : hi < k
      · rw [if_pos (nI_lt q2 hk), if_neg (by omega)]
      · rw [if_neg (nI_nlt (by omega) hhi), if_pos (by omega)]
theorem crng2 (v : Int32) (n : Nat) (h0 : 0 < n) (hn : n < 2 ^ 31) : (if v < 0 then (0 : Int32) else (if nI n ≤ v then (0 : Int32) else (1 : Int32))) = fX7_in v.toInt64 (lN 0) (lN (n - 1)) := by
  by_cases h : v < 0
  · rw [in_neg h (by omega), if_pos h]
  · obtain ⟨k, hk, rfl⟩ := nI_of h
    rw [in_nI hk (by omega) (by omega), if_neg h]
    by_cases q2 : n ≤ k
    · rw [if_pos (nI_le q2 hk), if_neg (by omega)]
    · rw [if_neg (nI_ge (by omega) hn), if_pos (by omega)]
theorem in01 (a b c : Int64) : fX7_in a b c = 0 ∨ fX7_in a b c = 1 := by
  rw [in64]
  split
  · exact Or.inr rfl
  · exact Or.inl rfl
def setD (w u : Nat) : Prop := (w = 0 ∧ 5 ≤ u ∧ u ≤ 20) ∨ (w = 1 ∧ u ≤ 99) ∨ (w = 2 ∧ 1 ≤ u ∧ u ≤ 20)
theorem set_arg (x v : Int32) : (∃ w u, x = nI w ∧ v = nI u ∧ setD w u ∧ fX6_isSetting x v = 1 ∧ fX7_isSetting x v = 1) ∨ (fX6_isSetting x v = 0 ∧ fX7_isSetting x v = 0) := by
  have r0 : (if v < (5 : Int32) then (0 : Int32) else (if (20 : Int32) < v then (0 : Int32) else (1 : Int32))) = fX7_in v.toInt64 (5 : Int64) (20 : Int64) := crng v 5 20 (by omega) (by omega)
  have r1 : (if v < 0 then (0 : Int32) else (if (99 : Int32) < v then (0 : Int32) else (1 : Int32))) = fX7_in v.toInt64 (0 : Int64) (99 : Int64) := crng v 0 99 (by omega) (by omega)
  have r2 : (if v < (1 : Int32) then (0 : Int32) else (if (20 : Int32) < v then (0 : Int32) else (1 : Int32))) = fX7_in v.toInt64 (1 : Int64) (20 : Int64) := crng v 1 20 (by omega) (by omega)
  unfold fX6_isSetting fX7_isSetting
  rw [r0, r1, r2]
  by_cases q0 : x = 0
  · subst q0
    rw [if_pos rfl, if_pos rfl, if_neg (show ¬ (0 : Int32) = 1 by decide), if_neg (show ¬ (0 : Int32) = 2 by decide)]
    rcases in_arg v 5 20 (by omega) (by omega) with ⟨e, k, rfl, h1, h2⟩ | ⟨e, -⟩
    · have e : fX7_in (nI k).toInt64 (5 : Int64) (20 : Int64) = 1 := e
      rw [e]
      exact Or.inl ⟨0, k, rfl, rfl, Or.inl ⟨rfl, h1, h2⟩, rfl, rfl⟩
    · have e : fX7_in v.toInt64 (5 : Int64) (20 : Int64) = 0 := e
      rw [e]
      exact Or.inr ⟨rfl, rfl⟩
  · rw [if_neg q0, if_neg q0]
    by_cases q1 : x = 1
    · subst q1
      rw [if_pos rfl, if_pos rfl, if_neg (show ¬ (1 : Int32) = 2 by decide)]
      rcases in_arg v 0 99 (by omega) (by omega) with ⟨e, k, rfl, h1, h2⟩ | ⟨e, -⟩
      · have e : fX7_in (nI k).toInt64 (0 : Int64) (99 : Int64) = 1 := e
        rw [e]
        exact Or.inl ⟨1, k, rfl, rfl, Or.inr (Or.inl ⟨rfl, h2⟩), rfl, rfl⟩
      · have e : fX7_in v.toInt64 (0 : Int64) (99 : Int64) = 0 := e
        rw [e]
        exact Or.inr ⟨rfl, rfl⟩
    · rw [if_neg q1, if_neg q1]
      by_cases q2 : x = 2
      · subst q2
        rw [if_pos rfl, if_pos rfl]
        rcases in_arg v 1 20 (by omega) (by omega) with ⟨e, k, rfl, h1, h2⟩ | ⟨e, -⟩
        · have e : fX7_in (nI k).toInt64 (1 : Int64) (20 : Int64) = 1 := e
          rw [e]
          exact Or.inl ⟨2, k, rfl, rfl, Or.inr (Or.inr ⟨rfl, h1, h2⟩), rfl, rfl⟩
        · have e : fX7_in v.toInt64 (1 : Int64) (20 : Int64) = 0 := e
          rw [e]
          exact Or.inr ⟨rfl, rfl⟩
      · rw [if_neg q2, if_neg q2]
        exact Or.inr ⟨rfl, rfl⟩
theorem name_arg (x : Int32) : (∃ k, x = nI k ∧ k ≤ 9 ∧ fX6_isName x = 1 ∧ fX7_isName x = some 1) ∨ (fX6_isName x = 0 ∧ fX7_isName x = some 0) := by
  have r1 : fX6_isName x = fX7_in x.toInt64 (0 : Int64) (9 : Int64) := crng2 x 10 (by omega) (by omega)
  unfold fX7_isName
  rw [r1]
  rcases in_arg x 0 9 (by omega) (by omega) with ⟨e, k, rfl, h1, h2⟩ | ⟨e, -⟩
  · have e : fX7_in (nI k).toInt64 (0 : Int64) (9 : Int64) = 1 := e
    rw [e]
    exact Or.inl ⟨k, rfl, h2, rfl, by rw [if_pos (by decide)]⟩
  · have e : fX7_in x.toInt64 (0 : Int64) (9 : Int64) = 0 := e
    rw [e]
    exact Or.inr ⟨rfl, by rw [if_pos (by decide)]⟩
def smFit (r : Nat → Nat) (d : Nat) : Prop := ∀ s, s < r 110 → (sigM r (atM s) d).length ≤ 40
def fitAll (r : Nat → Nat) (d : Nat) : Prop := (sigM r 0 d).length ≤ 40 ∧ smFit r d
/-- the model: whether the samples fit -/
theorem msf_ok {c one : Nat → Int32} {r : Nat → Nat} (hr : rowOk 1343 c r) (h : rI r) {d : Nat} (hd : 5 ≤ d) (hd2 : d ≤ 20) :
    (smFit r d ∧ ∃ one', fX7_samplesFit (nI d) 1343 c one = some (1, one')) ∨ (¬ smFit r d ∧ ∃ one', fX7_samplesFit (nI d) 1343 c one = some (0, one')) := by
  have h16 := h.h16
  unfold fX7_samplesFit
  obtain ⟨e, he, hq⟩ := loopF_ex (fun (z : Int32 × Int32 × (Nat → Int32)) => fX7_samplesFit_L5 1343 c (nI d) z.1 z.2.1 z.2.2)
    (fun i z => z.2.1 = nI i ∧ ((z.1 = 1 ∧ ∀ s, s < i → (sigM r (atM s) d).length ≤ 40) ∨ (z.1 = 0 ∧ ¬ smFit r d)))
    (fun e => (e.1 = 1 ∧ smFit r d) ∨ (e.1 = 0 ∧ ¬ smFit r d)) 0 (r 110) (by omega) (fun i z _ hi hz => by
      obtain ⟨z1, z2, one1⟩ := z
      obtain ⟨rfl, hz⟩ := hz
      dsimp only at hz
      show (∃ s', fX7_samplesFit_L5 1343 c (nI d) z1 (nI i) one1 = _ ∧ _) ∨ (∃ e, fX7_samplesFit_L5 1343 c (nI d) z1 (nI i) one1 = _ ∧ _)
      unfold fX7_samplesFit_L5
      rw [l110, gk (by omega) (by omega), nI_clamp (by omega), hr 110 (by omega), if_neg (nI_ge hi (by omega))]
      rcases hz with ⟨rfl, hz⟩ | ⟨rfl, hz⟩
      · left
        obtain ⟨one', e⟩ := sig_at (f := atM i) (d := d) (N3 := 41) hr (h.smp hi).1.1 (by unfold atM; omega) (by omega) (by omega) (by omega) hd hd2 one1
        rw [if_neg (show ¬ (1 : Int32) = 0 from by decide), at_nI, e, b2_so, nI_1]
        by_cases q : (sigM r (atM i) d).length ≤ 40
        · rw [Nat.min_eq_left (by omega), if_neg (show ¬ (40 : Int32) < nI _ from nI_nlt (a := 40) q (by omega))]
          refine ⟨_, rfl, rfl, Or.inl ⟨rfl, fun s hs => ?_⟩⟩
          by_cases y : s = i
          · rw [y]; exact q
          · exact hz s (by omega)
        · rw [Nat.min_eq_right (by omega), if_pos (by decide)]
          exact ⟨_, rfl, rfl, Or.inr ⟨rfl, fun z => q (z i hi)⟩⟩
      · right
        rw [if_pos rfl]
        exact ⟨_, rfl, Or.inr ⟨rfl, hz⟩⟩) (fun z hz => by
      obtain ⟨z1, z2, one1⟩ := z
      obtain ⟨rfl, hz⟩ := hz
      refine ⟨(z1, one1), ?_, hz⟩
      show fX7_samplesFit_L5 1343 c (nI d) z1 (nI (r 110)) one1 = _
      unfold fX7_samplesFit_L5
      rw [l110, gk (by omega) (by omega), nI_clamp (by omega), hr 110 (by omega), if_pos (nI_le (Nat.le_refl _) (by omega))]) ((1 : Int32), (0 : Int32), one) ⟨rfl, Or.inl ⟨rfl, fun s hs => absurd hs (Nat.not_lt_zero _)⟩⟩ FUEL (by unfold FUEL; omega)
  obtain ⟨x, one'⟩ := e
  rw [he, b2_so]
  rcases hq with ⟨rfl, hq⟩ | ⟨rfl, hq⟩
  · exact Or.inl ⟨hq, one', by rw [if_pos (by decide)]⟩
  · exact Or.inr ⟨hq, one', by rw [if_pos (by decide)]⟩
def setOk (r : Nat → Nat) (w u : Nat) : Prop := w = 0 → fitAll r u
/-- the model: whether a setting may be changed -/
theorem mcanset_ok {c one : Nat → Int32} {r : Nat → Nat} (hr : rowOk 1343 c r) (h : rI r) {w u : Nat} (hs : setD w u) :
    (setOk r w u ∧ ∃ one', fX7_canSet (nI w) (nI u) 1343 c one = some (1, one')) ∨ (¬ setOk r w u ∧ ∃ one', fX7_canSet (nI w) (nI u) 1343 c one = some (0, one')) := by
  unfold fX7_canSet
  by_cases q : w = 0
  · have hu : 5 ≤ u ∧ u ≤ 20 := by unfold setD at hs; omega
    rw [if_neg (show ¬ (0 : Int32) < nI w by rw [q]; decide)]
    obtain ⟨one1, e⟩ := sig_at (f := 0) (d := u) (N3 := 41) hr h.hand.1.1 (by omega) (by omega) (by omega) (by omega) hu.1 hu.2 one
    have e : fX7_signature (0 : Int32) (nI u) 1343 41 c one = some (nI (min (sigM r 0 u).length 41), one1) := e
    rw [e, b2_so]
    by_cases q1 : (sigM r 0 u).length ≤ 40
    · rw [Nat.min_eq_left (by omega), if_neg (show ¬ (40 : Int32) < nI _ from nI_nlt (a := 40) q1 (by omega))]
      rcases msf_ok (one := one1) hr h hu.1 hu.2 with ⟨g, one', e2⟩ | ⟨g, one', e2⟩
      · exact Or.inl ⟨fun _ => ⟨q1, g⟩, one', by rw [e2, b2_so, if_neg (by decide)]⟩
      · exact Or.inr ⟨fun z => g (z q).2, one', by rw [e2, b2_so, if_pos rfl]⟩
    · rw [Nat.min_eq_right (by omega), if_pos (by decide)]
      exact Or.inr ⟨fun z => q1 (z q).1, one1, rfl⟩
  · have hw : w ≤ 2 := by unfold setD at hs; omega
    rw [if_pos (show (0 : Int32) < nI w from nI_lt (a := 0) (by omega) (by omega))]
    exact Or.inl ⟨fun z => absurd z q, one, rfl⟩
def setR (r : Nat → Nat) (w u : Nat) : Nat → Nat := updN r (77 + w) u
theorem set_no (r : Nat → Nat) {w u j : Nat} (hj : j ≠ 77 + w) : setR r w u j = r j := updN_n hj
theorem set_as (r : Nat → Nat) {w u f : Nat} (hw : w < 3) (hf : f = 0 ∨ 111 ≤ f) : (∀ j, j < 76 → setR r w u (f + j) = r (f + j)) := fun j hj => set_no r (by omega)
theorem plc_off {p : Nat} : offM p = 0 ∨ 111 ≤ offM p := by
  unfold offM
  split
  · exact Or.inl rfl
  · right; unfold atM; omega
theorem rI_set {r : Nat → Nat} (h : rI r) {w u : Nat} (hs : setD w u) (ho : setOk r w u) : rI (setR r w u) := by
  have hw : w < 3 := by unfold setD at hs; omega
  have e110 : setR r w u 110 = r 110 := set_no r (by omega)
  refine ⟨fun p q => ?_, ?_, ?_, ?_, by rw [e110]; exact h.h16, by rw [set_no r (by omega), set_no r (by omega)]; exact h.2.2.2.2.2.1, fun t ht => ?_⟩
  · have q2 : plc r p := by unfold plc at q; rw [e110] at q; exact q
    have hf := h.1 p q2
    have hj := set_as r (u := u) hw (plc_off (p := p))
    have hq := figEq_of hj hf.1.1.2.1
    refine ⟨shapeI_eq hq (figOk_of hj hf.1.1) hf.1, ?_⟩
    rw [sigM_eq _ hq hf.1.1.1]
    by_cases y : w = 0
    · have e77 : setR r w u 77 = u := by subst y; exact updN_s
      rw [e77]
      rcases q2 with rfl | q2
      · exact (ho y).1
      · rw [offS (by have := h.h16; omega)]; exact (ho y).2 p q2
    · rw [set_no r (by omega)]; exact hf.2
  · by_cases y : w = 0
    · have e77 : setR r w u 77 = u := by subst y; exact updN_s
      rw [e77]; unfold setD at hs; omega
    · rw [set_no r (by omega)]; exact h.2.1
  · by_cases y : w = 1
    · have e78 : setR r w u 78 = u := by subst y; exact updN_s
      rw [e78]; unfold setD at hs; omega
    · rw [set_no r (by omega)]; exact h.2.2.1
  · by_cases y : w = 2
    · have e79 : setR r w u 79 = u := by subst y; exact updN_s
      rw [e79]; unfold setD at hs; omega
    · rw [set_no r (by omega)]; exact h.2.2.2.1
  · rw [e110] at ht
    rw [set_no r (by unfold atM; omega)]; exact h.nm ht
/-- the class: whether a ruling is taken -/
theorem takes_ok {r : Nat → Nat} {sm pd : Int32} {st le po sc sg na se ou : Nat → Int32} (h : rI r) (hC : CS r sm pd st le po sc sg na se ou) {d : Nat} (hd : 5 ≤ d) (hd2 : d ≤ 20) :
    (fitAll r d ∧ fX4_takesRuling (nI d) sm st le po = some 1) ∨ (¬ fitAll r d ∧ fX4_takesRuling (nI d) sm st le po = some 0) := by
  have h16 := h.h16
  have f16 : fX0_fits (16 : Int32) (nI d) st le po = some (if (sigM r 0 d).length ≤ 40 then 1 else 0) := fits_ok (p := 16) hC.handF h.hand.1 (by omega) hd hd2
  unfold fX4_takesRuling
  rw [f16, b1_so]
  obtain ⟨e, he, hq⟩ := loopF_ex (fun (z : Int32 × Int32) => fX4_takesRuling_L13 sm st le po (nI d) z.1 z.2)
    (fun i z => z.2 = nI i ∧ ((z.1 = 1 ∧ (sigM r 0 d).length ≤ 40 ∧ ∀ s, s < i → (sigM r (atM s) d).length ≤ 40) ∨ (z.1 = 0 ∧ ¬ fitAll r d)))
    (fun e => (e = 1 ∧ fitAll r d) ∨ (e = 0 ∧ ¬ fitAll r d)) 0 (r 110) (by omega) (fun i z _ hi hz => by
      obtain ⟨z1, z2⟩ := z
      obtain ⟨rfl, hz⟩ := hz
      dsimp only at hz
      show (∃ s', fX4_takesRuling_L13 sm st le po (nI d) z1 (nI i) = _ ∧ _) ∨ (∃ e, fX4_takesRuling_L13 sm st le po (nI d) z1 (nI i) = _ ∧ _)
      unfold fX4_takesRuling_L13
      rw [hC.1, if_neg (nI_ge hi (by omega))]
      rcases hz with ⟨rfl, g, hz⟩ | ⟨rfl, hz⟩
      · left
        rw [if_neg (show ¬ (1 : Int32) = 0 from by decide), fits_ok (p := i) (hC.smpF h hi) (h.smp hi).1 (by omega) hd hd2, b1_so, nI_1]
        by_cases q : (sigM r (atM i) d).length ≤ 40
        · rw [if_pos q]
          refine ⟨_, rfl, rfl, Or.inl ⟨rfl, g, fun s hs => ?_⟩⟩
          by_cases y : s = i
          · rw [y]; exact q
          · exact hz s (by omega)
        · rw [if_neg q]
          exact ⟨_, rfl, rfl, Or.inr ⟨rfl, fun z => q (z.2 i hi)⟩⟩
      · right
        rw [if_pos rfl]
        exact ⟨_, rfl, Or.inr ⟨rfl, hz⟩⟩) (fun z hz => by
      obtain ⟨z1, z2⟩ := z
      obtain ⟨rfl, hz⟩ := hz
      refine ⟨z1, ?_, ?_⟩
      · show fX4_takesRuling_L13 sm st le po (nI d) z1 (nI (r 110)) = _
        unfold fX4_takesRuling_L13
        rw [hC.1, if_pos (nI_le (Nat.le_refl _) (by omega))]
      · rcases hz with ⟨g1, g2, g3⟩ | hz
        · exact Or.inl ⟨g1, g2, g3⟩
        · exact Or.inr hz) ((if (sigM r 0 d).length ≤ 40 then (1 : Int32) else 0), (0 : Int32)) ⟨rfl, by
      dsimp only
      by_cases q : (sigM r 0 d).length ≤ 40
      · rw [if_pos q]
        exact Or.inl ⟨rfl, q, fun s hs => absurd hs (Nat.not_lt_zero _)⟩
      · rw [if_neg q]
        exact Or.inr ⟨rfl, fun z => q z.1⟩⟩ FUEL (by unfold FUEL; omega)
  rw [he, b1_so]
  rcases hq with ⟨rfl, hq⟩ | ⟨rfl, hq⟩
  · exact Or.inl ⟨hq, by rw [if_pos (by decide)]⟩
  · exact Or.inr ⟨hq, by rw [if_pos (by decide)]⟩
/-- THE CLASS CHANGES A SETTING -/
theorem cset_ok {r : Nat → Nat} {sm pd : Int32} {st le po sc sg na se ou : Nat → Int32} (h : rI r) (hC : CS r sm pd st le po sc sg na se ou) {w u : Nat} (hs : setD w u) :
    (setOk r w u ∧ ∃ se' sc' sg', fX4_changeSetting (nI w) (nI u) sm se st le po sc sg = some (1, se', sc', sg') ∧ CS (setR r w u) sm pd st le po sc' sg' na se' ou) ∨
    (¬ setOk r w u ∧ fX4_changeSetting (nI w) (nI u) sm se st le po sc sg = some (0, se, sc, sg)) := by
  have h16 := h.h16
  have hw : w < 3 := by unfold setD at hs; omega
  have e110 : setR r w u 110 = r 110 := set_no r (by omega)
  have ex : xput (nI w) (nI u) 3 se = upd se w (nI u) := xput_in se _ hw (by omega)
  have base : ∀ sc' sg', (∀ p, plc r p → sgC sc' sg' p (sigM r (offM p) (setR r w u 77))) → CS (setR r w u) sm pd st le po sc' sg' na (upd se w (nI u)) ou := by
    intro sc' sg' hg
    refine ⟨by rw [e110]; exact hC.1, by rw [set_no r (by omega)]; exact hC.2.1, fun p q => ?_, fun t ht => ?_, fun v hv => ?_, fun n hn o ho => ?_⟩
    · have q2 : plc r p := by unfold plc at q; rw [e110] at q; exact q
      have hf := h.1 p q2
      have hj := set_as r (u := u) hw (plc_off (p := p))
      have hq := figEq_of hj hf.1.1.2.1
      rw [sigM_eq _ hq hf.1.1.1]
      exact ⟨figC_eq hq hf.1.1.1 (hC.2.2.1 p q2).1, hg p q2⟩
    · rw [e110] at ht
      rw [set_no r (by unfold atM; omega)]; exact hC.2.2.2.1 t ht
    · by_cases y : v = w
      · subst y
        rw [pk_us, show setR r v u (77 + v) = u from updN_s]
      · rw [pk_un y, set_no r (by omega)]; exact hC.2.2.2.2.1 v hv
    · rw [set_no r (by omega)]; exact hC.2.2.2.2.2 n hn o ho
  unfold fX4_changeSetting
  rw [ex]
  by_cases q : w = 0
  · have hu : 5 ≤ u ∧ u ≤ 20 := by unfold setD at hs; omega
    have e77 : setR r w u 77 = u := by subst q; exact updN_s
    rw [e77] at base
    rw [if_pos (show nI w = 0 by rw [q]; rfl)]
    rcases takes_ok h hC hu.1 hu.2 with ⟨g, e⟩ | ⟨g, e⟩
    · left
      rw [e, b1_so, if_neg (show ¬ (1 : Int32) = 0 from by decide)]
      obtain ⟨x, hx, hq⟩ := loopF_ex (fun (z : Int32 × (Nat → Int32) × (Nat → Int32)) => fX4_changeSetting_L29 sm st le po (nI u) z.1 z.2.1 z.2.2)
        (fun i z => z.1 = nI i ∧ ∀ t, t < i → sgC z.2.1 z.2.2 t (sigM r (atM t) u))
        (fun x => ∀ t, t < r 110 → sgC x.1 x.2 t (sigM r (atM t) u)) 0 (r 110) (by omega) (fun i z _ hi hz => Or.inl (by
          obtain ⟨z1, sc1, sg1⟩ := z
          obtain ⟨rfl, hz⟩ := hz
          dsimp only at hz
          obtain ⟨sc2, sg2, k1, k2, k3⟩ := ws_ok (p := i) (d := u) (hC.smpF h hi) (h.smp hi).1 (by omega) hu.1 hu.2 (g.2 i hi) sc1 sg1
          refine ⟨(nI (i + 1), sc2, sg2), ?_, rfl, fun t ht => ?_⟩
          · show fX4_changeSetting_L29 sm st le po (nI u) (nI i) sc1 sg1 = _
            unfold fX4_changeSetting_L29
            rw [hC.1, if_neg (nI_ge hi (by omega)), k1, b2_so, nI_1]
          · dsimp only
            by_cases y : t = i
            · subst y; exact k2
            · exact sgC_fr (g.2 t (by omega)) k3 y (hz t (by omega)))) (fun z hz => by
          obtain ⟨z1, sc1, sg1⟩ := z
          obtain ⟨rfl, hz⟩ := hz
          refine ⟨(sc1, sg1), ?_, hz⟩
          show fX4_changeSetting_L29 sm st le po (nI u) (nI (r 110)) sc1 sg1 = _
          unfold fX4_changeSetting_L29
          rw [hC.1, if_pos (nI_le (Nat.le_refl _) (by omega))]) ((0 : Int32), sc, sg) ⟨rfl, fun t ht => absurd ht (Nat.not_lt_zero _)⟩ FUEL (by unfold FUEL; omega)
      obtain ⟨sc1, sg1⟩ := x
      obtain ⟨sc2, sg2, k1, k2, k3⟩ := ws_ok (p := 16) (d := u) hC.handF h.hand.1 (by omega) hu.1 hu.2 g.1 sc1 sg1
      have k1 : fX0_writeSigns (16 : Int32) (nI u) sc1 st le po sg1 = some (sc2, sg2) := k1
      refine ⟨fun _ => g, upd se w (nI u), sc2, sg2, ?_, base _ _ (fun p hp => ?_)⟩
      · rw [hx, b2_so, k1, b2_so]
      · rcases hp with rfl | hp
        · exact k2
        · rw [offS (by omega)]
          exact sgC_fr (g.2 p hp) k3 (by omega) (hq p hp)
    · right
      refine ⟨fun z => g (z q), ?_⟩
      rw [e, b1_so, if_pos rfl]
  · left
    rw [if_neg (nI_ne0 (by omega) (by omega))]
    refine ⟨fun z => absurd z q, _, _, _, rfl, base _ _ (fun p hp => ?_)⟩
    rw [set_no r (by omega)]
    exact (hC.2.2.1 p hp).2
end XPURE17
