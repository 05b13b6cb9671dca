/-! PURE, 63: the text, what is only looked at -/
section XPURE63
theorem rf0 : fX7_refused (0 : Int32) = (0, 0) := by decide
theorem rf1 : fX7_refused (1 : Int32) = (1, 1) := by decide
theorem rf2 : fX7_refused (2 : Int32) = (1, 2) := by decide
theorem i00 : (0 : Int32) = 0 := rfl
theorem aR_ok {ex : List String} {x v : Int32} (e : v = x) : aR ex (Sum.inl x) v 0 := Or.inl ⟨x, rfl, rfl, e⟩
theorem aR_1 {a : String} {ex : List String} {v : Int32} : aR (a :: ex) (Sum.inr a) v 1 := Or.inr ⟨0, a, rfl, rfl, rfl⟩
theorem aR_2 {a b : String} {ex : List String} {v : Int32} : aR (a :: b :: ex) (Sum.inr b) v 2 := Or.inr ⟨1, b, rfl, rfl, rfl⟩
/-- an argument from 0 to hi, as both sides test it -/
theorem arg0 (x : Int32) {hi : Nat} (hh : hi < 2 ^ 31) : (∃ k, k ≤ hi ∧ x = nI k ∧ fX7_in x.toInt64 (lN 0) (lN hi) = 1 ∧ ¬ x < 0 ∧ x ≤ nI hi) ∨ (fX7_in x.toInt64 (lN 0) (lN hi) = 0 ∧ (x < 0 ∨ (¬ x < 0 ∧ ¬ x ≤ nI hi))) := by
  rcases in_arg x 0 hi (by omega) hh with ⟨e, k, rfl, -, hk⟩ | ⟨e, hk⟩
  · exact Or.inl ⟨k, hk, rfl, e, nI_pos (by omega), nI_le hk hh⟩
  · refine Or.inr ⟨e, ?_⟩
    by_cases q : x < 0
    · exact Or.inl q
    · obtain ⟨k, hk2, rfl⟩ := nI_of q
      have := hk k rfl hk2
      exact Or.inr ⟨q, nI_ge (by omega) hk2⟩
theorem arg_lt {x : Int32} {hi : Nat} (hh : hi + 1 < 2 ^ 31) : x ≤ nI hi ↔ x < nI (hi + 1) := by
  by_cases q : x < 0
  · exact ⟨fun _ => Int32.lt_of_lt_of_le q (nI_pos' hh), fun _ => Int32.le_of_lt (Int32.lt_of_lt_of_le q (nI_pos' (by omega)))⟩
  · obtain ⟨k, hk, rfl⟩ := nI_of q
    constructor
    · intro z
      by_cases w : k ≤ hi
      · exact nI_lt (by omega) hh
      · exact absurd z (nI_ge (by omega) hk)
    · intro z
      by_cases w : k ≤ hi
      · exact nI_le w (by omega)
      · exact absurd z (nI_nlt (by omega) hk)

/-- APPEND -/
theorem append_ok (p1 : Int32) {n : Nat} {t : Nat → Nat} {cc ct : Nat → Int32} (hc : txC n t cc) (ht : txC n t ct) : ∃ A n' cc' v rf ct' t', fX6_append p1 (nI n) cc = (A, nI n', cc') ∧ fX7_append p1 (nI n) ct = some (v, rf, nI n', ct') ∧ txC n' t' cc' ∧ txC n' t' ct' ∧ aR ["java/lang/IllegalArgumentException", "java/lang/IllegalStateException"] A v rf := by
  have h100 := hc.1
  unfold fX6_append fX7_append
  rcases arg0 p1 (hi := 255) (by omega) with ⟨k, hk, rfl, e1, e2, e3⟩ | ⟨e1, e2⟩
  · rw [if_neg e2, if_pos (show nI k ≤ (255 : Int32) from e3), show fX7_in (nI k).toInt64 (0 : Int64) (255 : Int64) = 1 from e1, if_neg i10]
    by_cases q : n = 100
    · subst q
      rw [if_neg (show ¬ nI 100 < (100 : Int32) by decide), if_pos (show nI 100 = (100 : Int32) from rfl), rf2, if_neg i10]
      exact ⟨_, 100, _, _, _, _, t, rfl, rfl, hc, ht, aR_2⟩
    · rw [if_pos (show nI n < (100 : Int32) from nI_lt (b := 100) (by omega) (by omega)), if_neg (show ¬ nI n = (100 : Int32) from fun z => q ((nI_eq (b := 100) (by omega) (by omega)).mp z)), rf0, if_pos rfl, gk (by omega) (by omega), b1_so, nI_clamp (by omega)]
      unfold fX5_addCode
      rw [xput_in cc (nI k) (by omega) (by omega), nI_1]
      have tx : ∀ {c : Nat → Int32}, txC n t c → txC (n + 1) (updN t n k) (upd c n (nI k)) := fun {c} hx => ⟨by omega, fun j hj => by
        by_cases z : j = n
        · subst z; rw [pk_us, updN_s]; exact ⟨rfl, hk⟩
        · rw [pk_un z, updN_n z]; exact hx.2 j (by omega)⟩
      exact ⟨_, n + 1, _, _, _, _, _, rfl, rfl, tx hc, tx ht, aR_ok rfl⟩
  · rw [show fX7_in p1.toInt64 (0 : Int64) (255 : Int64) = 0 from e1, if_pos rfl, rf1, if_neg i10]
    rcases e2 with e2 | ⟨e2, e3⟩
    · rw [if_pos e2]; exact ⟨_, n, _, _, _, _, t, rfl, rfl, hc, ht, aR_1⟩
    · rw [if_neg e2, if_neg (show ¬ p1 ≤ (255 : Int32) from e3)]; exact ⟨_, n, _, _, _, _, t, rfl, rfl, hc, ht, aR_1⟩
theorem errpos_ok {n : Nat} {t : Nat → Nat} {cc ct : Nat → Int32} (hc : txC n t cc) (ht : txC n t ct) (dr : Nat → Int32) : ∃ v sp dr', fX6_errorPosition (nI n) cc = some v ∧ fX7_errorPosition (nI n) dr ct = some (v, 0, sp, dr') := by
  obtain ⟨sp, dr', e, -⟩ := mtext_ok ht dr
  unfold fX6_errorPosition fX7_errorPosition
  rw [ferr_ok hc, b1_so, e, b3_so]
  exact ⟨_, _, _, rfl, rfl⟩
/-- a signature, the model's -/
theorem msg_ok {r : Nat → Nat} {c : Nat → Int32} {sm pd : Int32} {st le po sc sg na se ou : Nat → Int32} (h : rI r) (hC : CS r sm pd st le po sc sg na se ou) (hr : rowOk 1343 c r) {p : Nat} (hp : plc r p) (one : Nat → Int32) : ∃ one', fX7_signature (nI (offM p)) (nI (r 77)) 1343 41 c one = some (nI (sigM r (offM p) (r 77)).length, one') ∧ ∀ j, j < (sigM r (offM p) (r 77)).length → one' j = nI ((sigM r (offM p) (r 77)).getD j 0) := by
  have h17 := plc_lt h hp
  have hf := h.1 p hp
  have h40 := hf.2
  obtain ⟨one', e, g⟩ := sig_ok hr hf.1.1 (by unfold offM atM; split <;> omega) (by omega) (N3 := 41) (by omega) (by omega) h.2.1.1 h.2.1.2 one
  rw [Nat.min_eq_left (by omega)] at e
  exact ⟨one', e, fun j hj => g j hj (by omega)⟩
/-- a sign of a place, both sides -/
theorem sgn_ok {r : Nat → Nat} {c : Nat → Int32} {sm pd : Int32} {st le po sc sg na se ou : Nat → Int32} (h : rI r) (hC : CS r sm pd st le po sc sg na se ou) (hr : rowOk 1343 c r) {p : Nat} (hp : plc r p) {x : Int32} (hx : ¬ x < 0) (one : Nat → Int32) : ∃ n one' v, fX7_signature (nI (offM p)) (nI (r 77)) 1343 41 c one = some (n, one') ∧ fX0_signAt (nI p) x sc sg = v ∧ (if n ≤ x then some ((-1 : Int32), (0 : Int32), one') else (if x < 0 ∨ 41 ≤ x.toNatClampNeg then none else some (one' x.toNatClampNeg, (0 : Int32), one'))) = some (v, 0, one') := by
  have h17 := plc_lt h hp
  obtain ⟨one', e, g⟩ := msg_ok h hC hr hp one
  have h40 := (h.1 p hp).2
  obtain ⟨s1, s2⟩ := (hC.2.2.1 p hp).2
  obtain ⟨k, hk, rfl⟩ := nI_of hx
  refine ⟨_, one', _, e, rfl, ?_⟩
  unfold fX0_signAt
  rw [if_neg hx, xcell_in sc h17 (by omega), s1]
  by_cases q : (sigM r (offM p) (r 77)).length ≤ k
  · rw [if_pos (nI_le q hk), if_pos (nI_le q hk)]
  · rw [if_neg (nI_ge (by omega) (by omega)), if_neg (nI_ge (by omega) (by omega)), gk (by omega) (by omega), nI_clamp hk, g k (by omega), l40, pk_mul, nI_add, xcell_in sg (by omega) (by omega), Nat.mul_comm p 40, s2 k (by omega)]
theorem plc16 (r : Nat → Nat) : plc r 16 := Or.inl rfl
theorem plcS {r : Nat → Nat} {s : Nat} (hs : s < r 110) : plc r s := Or.inr hs
/-- SIGN -/
theorem sign_ok {r : Nat → Nat} {c : Nat → Int32} {sm pd : Int32} {st le po sc sg na se ou : Nat → Int32} (h : rI r) (hC : CS r sm pd st le po sc sg na se ou) (hr : rowOk 1343 c r) (p1 : Int32) (one : Nat → Int32) : ∃ A v rf one', fX6_sign p1 sc sg = A ∧ fX7_sign p1 c one = some (v, rf, one') ∧ aR ["java/lang/IllegalArgumentException"] A v rf := by
  unfold fX6_sign fX7_sign
  by_cases q : p1 < 0
  · rw [if_neg (Int32.not_le.mpr q), if_neg (Int32.not_le.mpr q), rf1, if_neg i10]
    exact ⟨_, _, _, _, rfl, rfl, aR_1⟩
  · obtain ⟨n, one', v, e1, e2, e3⟩ := sgn_ok h hC hr (plc16 r) q one
    have e4 : fX0_signAt (16 : Int32) p1 sc sg = v := e2
    have e5 : fX7_signature (0 : Int32) (c (77 : Int32).toNatClampNeg) 1343 41 c one = some (n, one') := by
      rw [show (77 : Int32).toNatClampNeg = 77 by decide, hr 77 (by omega)]; exact e1
    rw [if_pos (Int32.not_lt.mp q), if_pos (Int32.not_lt.mp q), rf0, if_pos rfl, show (77 : Int32) = nI 77 from rfl, gk (by omega) (by omega), show nI 77 = (77 : Int32) from rfl, e5, b2_so, e4, e3]
    exact ⟨_, _, _, _, rfl, rfl, aR_ok rfl⟩
/-- a sample's place in the row -/
theorem at_off {s : Nat} (hs : s < 16) : fX7_at (nI s) = nI (offM s) := by rw [at_nI, offS hs]
/-- SIGN OF A SAMPLE -/
theorem signOf_ok {r : Nat → Nat} {c : Nat → Int32} {sm pd : Int32} {st le po sc sg na se ou : Nat → Int32} (h : rI r) (hC : CS r sm pd st le po sc sg na se ou) (hr : rowOk 1343 c r) (p1 p2 : Int32) (one : Nat → Int32) : ∃ A v rf one', fX6_signOf p1 p2 sm sc sg = A ∧ fX7_signOf p1 p2 c one = some (v, rf, one') ∧ aR ["java/lang/IndexOutOfBoundsException", "java/lang/IllegalArgumentException"] A v rf := by
  have h16 := h.h16
  unfold fX6_signOf fX7_signOf
  rw [hC.1]
  rcases smp_arg p1 hr h16 with ⟨s, hs, rfl, e1, e2⟩ | ⟨e1, e2⟩
  · rw [e1, e2, b1_so, if_neg i10, if_neg i10]
    by_cases q : p2 < 0
    · rw [if_neg (Int32.not_le.mpr q), if_neg (Int32.not_le.mpr q), rf2, if_neg i10]
      exact ⟨_, _, _, _, rfl, rfl, aR_2⟩
    · obtain ⟨n, one', v, e3, e4, e5⟩ := sgn_ok h hC hr (plcS hs) q one
      have e6 : fX7_signature (fX7_at (nI s)) (c (77 : Int32).toNatClampNeg) 1343 41 c one = some (n, one') := by
        rw [show (77 : Int32).toNatClampNeg = 77 by decide, hr 77 (by omega), at_off (by omega)]; exact e3
      rw [if_pos (Int32.not_lt.mp q), if_pos (Int32.not_lt.mp q), rf0, if_pos rfl, show (77 : Int32) = nI 77 from rfl, gk (by omega) (by omega), show nI 77 = (77 : Int32) from rfl, e6, b2_so, e4, e5]
      exact ⟨_, _, _, _, rfl, rfl, aR_ok rfl⟩
  · rw [e1, e2, b1_so, if_pos rfl, if_pos rfl, rf1, if_neg i10]
    exact ⟨_, _, _, _, rfl, rfl, aR_1⟩
/-- PRACTISED -/
theorem practised_ok {r : Nat → Nat} {c : Nat → Int32} {sm pd : Int32} {st le po sc sg na se ou : Nat → Int32} (h : rI r) (hC : CS r sm pd st le po sc sg na se ou) (hr : rowOk 1343 c r) (p1 p2 : Int32) : ∃ A v rf, fX6_practised p1 p2 ou = A ∧ fX7_practised p1 p2 c = some (v, rf) ∧ aR ["java/lang/IllegalArgumentException"] A v rf := by
  unfold fX6_practised fX7_practised
  rcases name_arg p1 with ⟨k, rfl, hk, e1, e2⟩ | ⟨e1, e2⟩
  · rw [e1, e2, b1_so, if_neg i10, if_neg i10]
    rcases arg0 p2 (hi := 2) (by omega) with ⟨w, hw, rfl, e3, e4, e5⟩ | ⟨e3, e4⟩
    · rw [show fX7_in (nI w).toInt64 (0 : Int64) (2 : Int64) = 1 from e3, if_neg i10, rf0, if_pos rfl, if_neg e4, if_pos (show nI w < (3 : Int32) from nI_lt (b := 3) (by omega) (by omega))]
      rw [show (80 : Int32) = nI 80 from rfl, show (10 : Int32) = nI 10 from rfl, pk_mul, nI_add, nI_add, gk (by omega) (by omega), nI_clamp (by omega), hr _ (by omega)]
      unfold fX4_outcomeOf
      rw [l3, pk_mul, nI_add, xcell_in ou (by omega) (by omega), Nat.mul_comm k 3, hC.2.2.2.2.2 k (by omega) w (by omega)]
      exact ⟨_, _, _, rfl, rfl, aR_ok rfl⟩
    · rw [show fX7_in p2.toInt64 (0 : Int64) (2 : Int64) = 0 from e3, if_pos rfl, rf1, if_neg i10]
      rcases e4 with e4 | ⟨e4, e5⟩
      · rw [if_pos e4]; exact ⟨_, _, _, rfl, rfl, aR_1⟩
      · rw [if_neg e4, if_neg (show ¬ p2 < (3 : Int32) from fun z => e5 ((arg_lt (hi := 2) (by omega)).mpr z))]; exact ⟨_, _, _, rfl, rfl, aR_1⟩
  · rw [e1, e2, b1_so, if_pos rfl, if_pos rfl, rf1, if_neg i10]
    exact ⟨_, _, _, rfl, rfl, aR_1⟩
/-- SETTING -/
theorem setting_ok {r : Nat → Nat} {c : Nat → Int32} {sm pd : Int32} {st le po sc sg na se ou : Nat → Int32} (h : rI r) (hC : CS r sm pd st le po sc sg na se ou) (hr : rowOk 1343 c r) (p1 : Int32) : ∃ A v rf, fX6_setting p1 se = A ∧ fX7_setting p1 c = some (v, rf) ∧ aR ["java/lang/IllegalArgumentException"] A v rf := by
  unfold fX6_setting fX7_setting
  rcases arg0 p1 (hi := 2) (by omega) with ⟨w, hw, rfl, e3, e4, e5⟩ | ⟨e3, e4⟩
  · rw [show fX7_in (nI w).toInt64 (0 : Int64) (2 : Int64) = 1 from e3, if_neg i10, rf0, if_pos rfl, if_neg e4, if_pos (show nI w < (3 : Int32) from nI_lt (b := 3) (by omega) (by omega))]
    rw [show (77 : Int32) = nI 77 from rfl, nI_add, gk (by omega) (by omega), nI_clamp (by omega), hr _ (by omega), hC.se0 (by omega)]
    exact ⟨_, _, _, rfl, rfl, aR_ok rfl⟩
  · rw [show fX7_in p1.toInt64 (0 : Int64) (2 : Int64) = 0 from e3, if_pos rfl, rf1, if_neg i10]
    rcases e4 with e4 | ⟨e4, e5⟩
    · rw [if_pos e4]; exact ⟨_, _, _, rfl, rfl, aR_1⟩
    · rw [if_neg e4, if_neg (show ¬ p1 < (3 : Int32) from fun z => e5 ((arg_lt (hi := 2) (by omega)).mpr z))]; exact ⟨_, _, _, rfl, rfl, aR_1⟩
/-- SAMPLE -/
theorem sample_ok {r : Nat → Nat} {c : Nat → Int32} {sm pd : Int32} {st le po sc sg na se ou : Nat → Int32} (h : rI r) (hC : CS r sm pd st le po sc sg na se ou) (hr : rowOk 1343 c r) (p1 p2 : Int32) (one : Nat → Int32) : ∃ A v rf one', fX6_sample p1 p2 sm na st le sc = some A ∧ fX7_sample p1 p2 c one = some (v, rf, one') ∧ aR ["java/lang/IndexOutOfBoundsException", "java/lang/IllegalArgumentException"] A v rf := by
  have h16 := h.h16
  unfold fX6_sample fX7_sample
  rw [hC.1]
  rcases smp_arg p1 hr h16 with ⟨s, hs, rfl, e1, e2⟩ | ⟨e1, e2⟩
  · rw [e1, e2, b1_so, if_neg i10, if_neg i10]
    have hf := h.smp hs
    have hF := hC.smpF h hs
    rcases arg0 p2 (hi := 3) (by omega) with ⟨w, hw, rfl, e3, e4, e5⟩ | ⟨e3, e4⟩
    · rw [show fX7_in (nI w).toInt64 (0 : Int64) (3 : Int64) = 1 from e3, if_neg i10, rf0, if_pos rfl]
      rcases (by omega : w = 0 ∨ w = 1 ∨ w = 2 ∨ w = 3) with rfl | rfl | rfl | rfl
      · rw [if_pos (show nI 0 = (0 : Int32) from rfl), if_pos (show nI 0 = (0 : Int32) from rfl), mname_ok hr (by omega) (by omega) (by omega), b1_so, hC.nm h hs]
        exact ⟨_, _, _, _, rfl, rfl, aR_ok rfl⟩
      · rw [if_neg (show ¬ nI 1 = (0 : Int32) by decide), if_neg (show ¬ nI 1 = (0 : Int32) by decide), if_pos (show nI 1 = (1 : Int32) from rfl), if_pos (show nI 1 = (1 : Int32) from rfl), at_nI, gk (by unfold atM; omega) (by omega), nI_clamp (by unfold atM; omega), hr _ (by unfold atM; omega), strokes_at (by omega), hF.1]
        exact ⟨_, _, _, _, rfl, rfl, aR_ok rfl⟩
      · rw [if_neg (show ¬ nI 2 = (0 : Int32) by decide), if_neg (show ¬ nI 2 = (0 : Int32) by decide), if_neg (show ¬ nI 2 = (1 : Int32) by decide), if_neg (show ¬ nI 2 = (1 : Int32) by decide), if_pos (show nI 2 = (2 : Int32) from rfl), if_pos (show nI 2 = (2 : Int32) from rfl), at_nI, mpointsOf_ok hr (by unfold atM; omega) (by omega), b1_so, pointsOf_ok hF hf.1 (by omega), b1_so]
        exact ⟨_, _, _, _, rfl, rfl, aR_ok rfl⟩
      · obtain ⟨one', e6, -⟩ := msg_ok h hC hr (plcS hs) one
        have e7 : fX7_signature (fX7_at (nI s)) (c (77 : Int32).toNatClampNeg) 1343 41 c one = some (nI (sigM r (offM s) (r 77)).length, one') := by
          rw [show (77 : Int32).toNatClampNeg = 77 by decide, hr 77 (by omega), at_off (by omega)]; exact e6
        rw [if_neg (show ¬ nI 3 = (0 : Int32) by decide), if_neg (show ¬ nI 3 = (0 : Int32) by decide), if_neg (show ¬ nI 3 = (1 : Int32) by decide), if_neg (show ¬ nI 3 = (1 : Int32) by decide), if_neg (show ¬ nI 3 = (2 : Int32) by decide), if_neg (show ¬ nI 3 = (2 : Int32) by decide), if_pos (show nI 3 = (3 : Int32) from rfl), show (77 : Int32) = nI 77 from rfl, gk (by omega) (by omega), show nI 77 = (77 : Int32) from rfl, e7, b2_so]
        unfold fX0_signsOf
        rw [xcell_in sc (by omega) (by omega), (hC.2.2.1 s (plcS hs)).2.1]
        exact ⟨_, _, _, _, rfl, rfl, aR_ok rfl⟩
    · rw [show fX7_in p2.toInt64 (0 : Int64) (3 : Int64) = 0 from e3, if_pos rfl, rf2, if_neg i10]
      have no : ∀ k, k ≤ 3 → ¬ p2 = nI k := fun k hk z => by
        subst z
        rcases e4 with e4 | ⟨e4, e5⟩
        · exact nI_pos (by omega) e4
        · exact e5 (nI_le hk (by omega))
      rw [if_neg (show ¬ p2 = (0 : Int32) from no 0 (by omega)), if_neg (show ¬ p2 = (1 : Int32) from no 1 (by omega)), if_neg (show ¬ p2 = (2 : Int32) from no 2 (by omega)), if_neg (show ¬ p2 = (3 : Int32) from no 3 (by omega))]
      exact ⟨_, _, _, _, rfl, rfl, aR_2⟩
  · rw [e1, e2, b1_so, if_pos rfl, if_pos rfl, rf1, if_neg i10]
    exact ⟨_, _, _, _, rfl, rfl, aR_1⟩

/-- ABOUT -/
theorem about_ok {r : Nat → Nat} {c : Nat → Int32} {sm pd : Int32} {st le po sc sg na se ou : Nat → Int32} (h : rI r) (hC : CS r sm pd st le po sc sg na se ou) (hr : rowOk 1343 c r) (p1 : Int32) (one : Nat → Int32) : ∃ A v rf one', fX6_about p1 sm pd st le sc ou = some A ∧ fX7_about p1 c one = some (v, rf, one') ∧ aR ["java/lang/IllegalArgumentException"] A v rf := by
  have h16 := h.h16
  have hf := h.hand
  have hF := hC.handF
  have s0 : fX7_sum (80 : Int32) 1343 c = some (nI (ouS r 0 10)) := msum_ok hr (o := 0) (by omega)
  have s1 : fX7_sum (90 : Int32) 1343 c = some (nI (ouS r 1 10)) := msum_ok hr (o := 1) (by omega)
  have s2 : fX7_sum (100 : Int32) 1343 c = some (nI (ouS r 2 10)) := msum_ok hr (o := 2) (by omega)
  have t0 : fX4_outcomesOf (0 : Int32) ou = some (nI (ouS r 0 10)) := couts_ok hC (o := 0) (by omega)
  have t1 : fX4_outcomesOf (1 : Int32) ou = some (nI (ouS r 1 10)) := couts_ok hC (o := 1) (by omega)
  have t2 : fX4_outcomesOf (2 : Int32) ou = some (nI (ouS r 2 10)) := couts_ok hC (o := 2) (by omega)
  unfold fX6_about fX7_about
  rcases arg0 p1 (hi := 7) (by omega) with ⟨w, hw, rfl, e3, e4, e5⟩ | ⟨e3, e4⟩
  · rw [show fX7_in (nI w).toInt64 (0 : Int64) (7 : Int64) = 1 from e3, if_neg i10, rf0, if_pos rfl]
    rcases (by omega : w = 0 ∨ w = 1 ∨ w = 2 ∨ w = 3 ∨ w = 4 ∨ w = 5 ∨ w = 6 ∨ w = 7) with rfl | rfl | rfl | rfl | rfl | rfl | rfl | rfl
    · rw [if_pos (show nI 0 = (0 : Int32) from rfl), if_pos (show nI 0 = (0 : Int32) from rfl), gk0 (by omega), k0, hr 0 (by omega), show fX0_strokesOf (16 : Int32) st = st 16 from strokes_at (p := 16) (by omega), hF.1]
      exact ⟨_, _, _, _, rfl, rfl, aR_ok rfl⟩
    · rw [if_neg (show ¬ nI 1 = (0 : Int32) by decide), if_neg (show ¬ nI 1 = (0 : Int32) by decide), if_pos (show nI 1 = (1 : Int32) from rfl), if_pos (show nI 1 = (1 : Int32) from rfl), show fX7_pointsOf (0 : Int32) 1343 c = _ from mpointsOf_ok hr (f := 0) (by omega) (by omega), b1_so, show fX0_pointsOf (16 : Int32) st le = _ from pointsOf_ok (p := 16) hF hf.1 (by omega), b1_so]
      exact ⟨_, _, _, _, rfl, rfl, aR_ok rfl⟩
    · rw [if_neg (show ¬ nI 2 = (0 : Int32) by decide), if_neg (show ¬ nI 2 = (0 : Int32) by decide), if_neg (show ¬ nI 2 = (1 : Int32) by decide), if_neg (show ¬ nI 2 = (1 : Int32) by decide), if_pos (show nI 2 = (2 : Int32) from rfl), if_pos (show nI 2 = (2 : Int32) from rfl), show (76 : Int32) = nI 76 from rfl, gk (by omega) (by omega), nI_clamp (by omega), hr 76 (by omega), hC.2.1]
      have h76 := h.2.2.2.2.2.1.1
      rcases (by omega : r 76 = 0 ∨ r 76 = 1) with z | z
      · rw [z, if_pos (show nI 0 = (0 : Int32) from rfl)]; exact ⟨_, _, _, _, rfl, rfl, aR_ok rfl⟩
      · rw [z, if_neg (show ¬ nI 1 = (0 : Int32) by decide)]; exact ⟨_, _, _, _, rfl, rfl, aR_ok rfl⟩
    · obtain ⟨one', e6, -⟩ := msg_ok h hC hr (plc16 r) one
      have e7 : fX7_signature (0 : Int32) (c (77 : Int32).toNatClampNeg) 1343 41 c one = some (nI (sigM r 0 (r 77)).length, one') := by
        rw [show (77 : Int32).toNatClampNeg = 77 by decide, hr 77 (by omega)]; exact e6
      rw [if_neg (show ¬ nI 3 = (0 : Int32) by decide), if_neg (show ¬ nI 3 = (0 : Int32) by decide), if_neg (show ¬ nI 3 = (1 : Int32) by decide), if_neg (show ¬ nI 3 = (1 : Int32) by decide), if_neg (show ¬ nI 3 = (2 : Int32) by decide), if_neg (show ¬ nI 3 = (2 : Int32) by decide), if_pos (show nI 3 = (3 : Int32) from rfl), if_pos (show nI 3 = (3 : Int32) from rfl), show (77 : Int32) = nI 77 from rfl, gk (by omega) (by omega), show nI 77 = (77 : Int32) from rfl, e7, b2_so]
      unfold fX0_signsOf
      rw [show xcell (16 : Int32) 17 sc = sc 16 from xcell_in sc (i := 16) (by omega) (by omega), hC.handS.1]
      exact ⟨_, _, _, _, rfl, rfl, aR_ok rfl⟩
    · rw [if_neg (show ¬ nI 4 = (0 : Int32) by decide), if_neg (show ¬ nI 4 = (0 : Int32) by decide), if_neg (show ¬ nI 4 = (1 : Int32) by decide), if_neg (show ¬ nI 4 = (1 : Int32) by decide), if_neg (show ¬ nI 4 = (2 : Int32) by decide), if_neg (show ¬ nI 4 = (2 : Int32) by decide), if_neg (show ¬ nI 4 = (3 : Int32) by decide), if_neg (show ¬ nI 4 = (3 : Int32) by decide), if_pos (show nI 4 = (4 : Int32) from rfl), if_pos (show nI 4 = (4 : Int32) from rfl), show (110 : Int32) = nI 110 from rfl, gk (by omega) (by omega), nI_clamp (by omega), hr 110 (by omega), hC.1]
      exact ⟨_, _, _, _, rfl, rfl, aR_ok rfl⟩
    · rw [if_neg (show ¬ nI 5 = (0 : Int32) by decide), if_neg (show ¬ nI 5 = (0 : Int32) by decide), if_neg (show ¬ nI 5 = (1 : Int32) by decide), if_neg (show ¬ nI 5 = (1 : Int32) by decide), if_neg (show ¬ nI 5 = (2 : Int32) by decide), if_neg (show ¬ nI 5 = (2 : Int32) by decide), if_neg (show ¬ nI 5 = (3 : Int32) by decide), if_neg (show ¬ nI 5 = (3 : Int32) by decide), if_neg (show ¬ nI 5 = (4 : Int32) by decide), if_neg (show ¬ nI 5 = (4 : Int32) by decide), if_pos (show nI 5 = (5 : Int32) from rfl), if_pos (show nI 5 = (5 : Int32) from rfl), t0, b1_so, t1, b1_so, t2, b1_so, s0, b1_so, s1, b1_so, s2, b1_so]
      exact ⟨_, _, _, _, rfl, rfl, aR_ok rfl⟩
    · rw [if_neg (show ¬ nI 6 = (0 : Int32) by decide), if_neg (show ¬ nI 6 = (0 : Int32) by decide), if_neg (show ¬ nI 6 = (1 : Int32) by decide), if_neg (show ¬ nI 6 = (1 : Int32) by decide), if_neg (show ¬ nI 6 = (2 : Int32) by decide), if_neg (show ¬ nI 6 = (2 : Int32) by decide), if_neg (show ¬ nI 6 = (3 : Int32) by decide), if_neg (show ¬ nI 6 = (3 : Int32) by decide), if_neg (show ¬ nI 6 = (4 : Int32) by decide), if_neg (show ¬ nI 6 = (4 : Int32) by decide), if_neg (show ¬ nI 6 = (5 : Int32) by decide), if_neg (show ¬ nI 6 = (5 : Int32) by decide), if_pos (show nI 6 = (6 : Int32) from rfl), if_pos (show nI 6 = (6 : Int32) from rfl), t0, b1_so, s0, b1_so]
      exact ⟨_, _, _, _, rfl, rfl, aR_ok rfl⟩
    · rw [if_neg (show ¬ nI 7 = (0 : Int32) by decide), if_neg (show ¬ nI 7 = (0 : Int32) by decide), if_neg (show ¬ nI 7 = (1 : Int32) by decide), if_neg (show ¬ nI 7 = (1 : Int32) by decide), if_neg (show ¬ nI 7 = (2 : Int32) by decide), if_neg (show ¬ nI 7 = (2 : Int32) by decide), if_neg (show ¬ nI 7 = (3 : Int32) by decide), if_neg (show ¬ nI 7 = (3 : Int32) by decide), if_neg (show ¬ nI 7 = (4 : Int32) by decide), if_neg (show ¬ nI 7 = (4 : Int32) by decide), if_neg (show ¬ nI 7 = (5 : Int32) by decide), if_neg (show ¬ nI 7 = (5 : Int32) by decide), if_neg (show ¬ nI 7 = (6 : Int32) by decide), if_neg (show ¬ nI 7 = (6 : Int32) by decide), if_pos (show nI 7 = (7 : Int32) from rfl), t1, b1_so, s1, b1_so]
      exact ⟨_, _, _, _, rfl, rfl, aR_ok rfl⟩
  · rw [show fX7_in p1.toInt64 (0 : Int64) (7 : Int64) = 0 from e3, if_pos rfl, rf1, if_neg i10]
    have no : ∀ k, k ≤ 7 → ¬ p1 = nI k := fun k hk z => by
      subst z
      rcases e4 with e4 | ⟨e4, e5⟩
      · exact nI_pos (by omega) e4
      · exact e5 (nI_le hk (by omega))
    rw [if_neg (show ¬ p1 = (0 : Int32) from no 0 (by omega)), if_neg (show ¬ p1 = (1 : Int32) from no 1 (by omega)), if_neg (show ¬ p1 = (2 : Int32) from no 2 (by omega)), if_neg (show ¬ p1 = (3 : Int32) from no 3 (by omega)), if_neg (show ¬ p1 = (4 : Int32) from no 4 (by omega)), if_neg (show ¬ p1 = (5 : Int32) from no 5 (by omega)), if_neg (show ¬ p1 = (6 : Int32) from no 6 (by omega)), if_neg (show ¬ p1 = (7 : Int32) from no 7 (by omega))]
    exact ⟨_, _, _, _, rfl, rfl, aR_1⟩
end XPURE63
