/-! GHOST 12: closed forms and refusals -/
section XPF
theorem nI_no {k : Nat} (hk : k < 2 ^ 31) {j : Nat} (hj : j < 2 ^ 31) (h : k ≠ j) : ¬ nI k = nI j := fun e => h ((nI_eq hk hj).mp e)
theorem ab0 (r : RW) : wv (gAbout r (nI 0)) = nI (r 0) := by
  unfold gAbout
  rw [if_pos (show nI 0 = (0 : Int32) from rfl)]; rfl
theorem ab1 (r : RW) : wv (gAbout r (nI 1)) = nI (ptsM r 0) := by
  unfold gAbout
  rw [if_neg (show ¬ nI 1 = (0 : Int32) by decide), if_pos (show nI 1 = (1 : Int32) from rfl)]; rfl
theorem ab2 (r : RW) : wv (gAbout r (nI 2)) = nI (r 76) := by
  unfold gAbout
  rw [if_neg (show ¬ nI 2 = (0 : Int32) by decide), if_neg (show ¬ nI 2 = (1 : Int32) by decide), if_pos (show nI 2 = (2 : Int32) from rfl)]; rfl
theorem ab3 (r : RW) : wv (gAbout r (nI 3)) = nI (sigM r 0 (r 77)).length := by
  unfold gAbout
  rw [if_neg (show ¬ nI 3 = (0 : Int32) by decide), if_neg (show ¬ nI 3 = (1 : Int32) by decide), if_neg (show ¬ nI 3 = (2 : Int32) by decide), if_pos (show nI 3 = (3 : Int32) from rfl)]; rfl
theorem ab4 (r : RW) : wv (gAbout r (nI 4)) = nI (r 110) := by
  unfold gAbout
  rw [if_neg (show ¬ nI 4 = (0 : Int32) by decide), if_neg (show ¬ nI 4 = (1 : Int32) by decide), if_neg (show ¬ nI 4 = (2 : Int32) by decide), if_neg (show ¬ nI 4 = (3 : Int32) by decide), if_pos (show nI 4 = (4 : Int32) from rfl)]; rfl
theorem ab5 (r : RW) : wv (gAbout r (nI 5)) = nI (ouS r 0 10) + nI (ouS r 1 10) + nI (ouS r 2 10) := by
  unfold gAbout
  rw [if_neg (show ¬ nI 5 = (0 : Int32) by decide), if_neg (show ¬ nI 5 = (1 : Int32) by decide), if_neg (show ¬ nI 5 = (2 : Int32) by decide), if_neg (show ¬ nI 5 = (3 : Int32) by decide), if_neg (show ¬ nI 5 = (4 : Int32) by decide), if_pos (show nI 5 = (5 : Int32) from rfl)]; rfl
theorem ab6 (r : RW) : wv (gAbout r (nI 6)) = nI (ouS r 0 10) := by
  unfold gAbout
  rw [if_neg (show ¬ nI 6 = (0 : Int32) by decide), if_neg (show ¬ nI 6 = (1 : Int32) by decide), if_neg (show ¬ nI 6 = (2 : Int32) by decide), if_neg (show ¬ nI 6 = (3 : Int32) by decide), if_neg (show ¬ nI 6 = (4 : Int32) by decide), if_neg (show ¬ nI 6 = (5 : Int32) by decide), if_pos (show nI 6 = (6 : Int32) from rfl)]; rfl
theorem ab7 (r : RW) : wv (gAbout r (nI 7)) = nI (ouS r 1 10) := by
  unfold gAbout
  rw [if_neg (show ¬ nI 7 = (0 : Int32) by decide), if_neg (show ¬ nI 7 = (1 : Int32) by decide), if_neg (show ¬ nI 7 = (2 : Int32) by decide), if_neg (show ¬ nI 7 = (3 : Int32) by decide), if_neg (show ¬ nI 7 = (4 : Int32) by decide), if_neg (show ¬ nI 7 = (5 : Int32) by decide), if_neg (show ¬ nI 7 = (6 : Int32) by decide), if_pos (show nI 7 = (7 : Int32) from rfl)]; rfl
theorem ab_no (r : RW) {k : Nat} (h : 8 ≤ k) (hk : k < 2 ^ 31) : wv (gAbout r (nI k)) = -9999002 := by
  have no : ∀ j, j < 8 → ¬ nI k = nI j := fun j hj => nI_no hk (by omega) (by omega)
  unfold gAbout
  rw [if_neg (show ¬ nI k = (0 : Int32) from no 0 (by omega)), if_neg (show ¬ nI k = (1 : Int32) from no 1 (by omega)), if_neg (show ¬ nI k = (2 : Int32) from no 2 (by omega)), if_neg (show ¬ nI k = (3 : Int32) from no 3 (by omega)), if_neg (show ¬ nI k = (4 : Int32) from no 4 (by omega)), if_neg (show ¬ nI k = (5 : Int32) from no 5 (by omega)), if_neg (show ¬ nI k = (6 : Int32) from no 6 (by omega)), if_neg (show ¬ nI k = (7 : Int32) from no 7 (by omega))]; exact wv_IA
theorem neg_sub {j : Nat} (h : j < 9) : (-1 : Int32) - nI j < 0 := by
  have : ∀ j, j < 9 → (-1 : Int32) - nI j < 0 := by decide
  exact this j h
theorem sg_no (r : RW) {p : Int32} (h : p < 0) : wv (gSign r p) = -9999002 := by
  unfold gSign
  rw [if_neg (Int32.not_le.mpr h)]; exact wv_IA
theorem has_no {n k : Nat} (h : n ≤ k) (hk : k < 2 ^ 31) : fX4_hasSample (nI k) (nI n) = 0 := by
  unfold fX4_hasSample
  rw [if_neg (nI_pos hk), if_pos (nI_le h hk)]
theorem has_neg {n : Nat} {p : Int32} (h : p < 0) : fX4_hasSample p (nI n) = 0 := by
  unfold fX4_hasSample
  rw [if_pos h]
theorem has_yes {n k : Nat} (h : k < n) (hn : n < 2 ^ 31) : fX4_hasSample (nI k) (nI n) = 1 := by
  unfold fX4_hasSample
  rw [if_neg (nI_pos (by omega)), if_neg (nI_ge h hn)]
theorem sa_no (r : RW) {k : Nat} (h : r 110 ≤ k) (hk : k < 2 ^ 31) (q : Int32) : wv (gSample r (nI k) q) = -9999001 := by
  unfold gSample
  rw [has_no h hk, if_pos rfl]; exact wv_IO
theorem sa_no2 (r : RW) {k w : Nat} (h : k < r 110) (h16 : r 110 ≤ 16) (hw : 4 ≤ w) (hw2 : w < 2 ^ 31) : wv (gSample r (nI k) (nI w)) = -9999002 := by
  have no : ∀ j, j < 4 → ¬ nI w = nI j := fun j hj => nI_no hw2 (by omega) (by omega)
  unfold gSample
  rw [has_yes h (by omega), if_neg i10, if_neg (show ¬ nI w = (0 : Int32) from no 0 (by omega)), if_neg (show ¬ nI w = (1 : Int32) from no 1 (by omega)), if_neg (show ¬ nI w = (2 : Int32) from no 2 (by omega)), if_neg (show ¬ nI w = (3 : Int32) from no 3 (by omega))]; exact wv_IA
theorem so_no (r : RW) {k : Nat} (h : r 110 ≤ k) (hk : k < 2 ^ 31) (q : Int32) : wv (gSignOf r (nI k) q) = -9999001 := by
  unfold gSignOf
  rw [has_no h hk, if_pos rfl]; exact wv_IO
theorem so_no2 (r : RW) {k : Nat} (h : k < r 110) (h16 : r 110 ≤ 16) {q : Int32} (hq : q < 0) : wv (gSignOf r (nI k) q) = -9999002 := by
  unfold gSignOf
  rw [has_yes h (by omega), if_neg i10, if_neg (Int32.not_le.mpr hq)]; exact wv_IA
theorem name_no {k : Nat} (h : 10 ≤ k) (hk : k < 2 ^ 31) : fX6_isName (nI k) = 0 := by
  unfold fX6_isName
  rw [if_neg (nI_pos hk), if_pos (show (10 : Int32) ≤ nI k from nI_le (a := 10) h hk)]
theorem name_neg {p : Int32} (h : p < 0) : fX6_isName p = 0 := by
  unfold fX6_isName
  rw [if_pos h]
theorem name_yes {k : Nat} (h : k < 10) : fX6_isName (nI k) = 1 := by
  unfold fX6_isName
  rw [if_neg (nI_pos (by omega)), if_neg (show ¬ (10 : Int32) ≤ nI k from nI_ge (b := 10) h (by omega))]
theorem pr_no (r : RW) {k : Nat} (h : 10 ≤ k) (hk : k < 2 ^ 31) (q : Int32) : wv (gPractised r (nI k) q) = -9999002 := by
  unfold gPractised
  rw [name_no h hk, if_pos rfl]; exact wv_IA
theorem pr_no2 (r : RW) {k w : Nat} (h : k < 10) (hw : 3 ≤ w) (hw2 : w < 2 ^ 31) : wv (gPractised r (nI k) (nI w)) = -9999002 := by
  unfold gPractised
  rw [name_yes h, if_neg i10, if_neg (nI_pos hw2), if_neg (show ¬ nI w < (3 : Int32) from nI_nlt (a := w) (b := 3) hw hw2)]; exact wv_IA
theorem se_no (r : RW) {w : Nat} (hw : 3 ≤ w) (hw2 : w < 2 ^ 31) : wv (gSetting r (nI w)) = -9999002 := by
  unfold gSetting
  rw [if_neg (nI_pos hw2), if_neg (show ¬ nI w < (3 : Int32) from nI_nlt (a := w) (b := 3) hw hw2)]; exact wv_IA
theorem grid_no {k : Nat} (h : 61 ≤ k) (hk : k < 2 ^ 31) : fX6_isOnGrid (nI k) = 0 := by
  unfold fX6_isOnGrid
  rw [if_neg (nI_pos hk), if_pos (show (60 : Int32) < nI k from nI_lt (a := 60) h hk)]
theorem grid_neg {p : Int32} (h : p < 0) : fX6_isOnGrid p = 0 := by
  unfold fX6_isOnGrid
  rw [if_pos h]
theorem grid_yes {k : Nat} (h : k < 61) : fX6_isOnGrid (nI k) = 1 := grid_nI (by omega)
/-- a refusal leaves the state -/
theorem nxt_none (G : GS) : nxt G none = G := rfl
theorem po_no (r : RW) {k : Nat} (h : 61 ≤ k) (hk : k < 2 ^ 31) (q : Int32) : gPoint r (nI k) q = (.inr xIA, none) := by
  unfold gPoint
  rw [grid_no h hk, if_pos rfl]
theorem po_no2 (r : RW) {k : Nat} (h : k < 61) {q : Int32} (hq : q < 0) : gPoint r (nI k) q = (.inr xIA, none) := by
  unfold gPoint
  rw [grid_yes h, if_neg i10, grid_neg hq, if_pos rfl]
theorem le_no (r : RW) {k : Nat} (h : 10 ≤ k) (hk : k < 2 ^ 31) : gLearn r (nI k) = (.inr xIA, none) := by
  unfold gLearn
  rw [name_no h hk, if_pos rfl]
theorem le_no0 (r : RW) {k : Nat} (h : k < 10) (h0 : r 0 = 0) : gLearn r (nI k) = (.inr xIS, none) := by
  unfold gLearn
  rw [name_yes h, if_neg i10, cIf_neg (fun z => z.1 h0)]
theorem fo_no (r : RW) {k : Nat} (h : r 110 ≤ k) (hk : k < 2 ^ 31) : gForget r (nI k) = (.inr xIO, none) := by
  unfold gForget
  rw [has_no h hk, if_pos rfl]
theorem pc_no (r : RW) {p : Int32} (h : p < 0) : gPractise r p = (.inr xIA, none) := by
  unfold gPractise
  rw [name_neg h, if_pos rfl]
theorem pc_no0 (r : RW) {k : Nat} (h : k < 10) (h0 : r 0 = 0) : gPractise r (nI k) = (.inr xIS, none) := by
  unfold gPractise
  rw [name_yes h, if_neg i10, if_pos h0]
theorem st_no (r : RW) {p q : Int32} (h : fX6_isSetting p q = 0) : gSet r p q = (.inr xIA, none) := by
  unfold gSet
  rw [h, if_pos rfl]
theorem is_no0 {k : Nat} (h : 21 ≤ k) (hk : k < 2 ^ 31) : fX6_isSetting (nI 0) (nI k) = 0 := by
  unfold fX6_isSetting
  rw [if_pos (show nI 0 = (0 : Int32) from rfl)]
  split
  · rfl
  · rw [if_pos (show (20 : Int32) < nI k from nI_lt (a := 20) h hk)]
theorem is_no04 : fX6_isSetting (nI 0) (nI 4) = 0 := by decide
theorem is_no1 {k : Nat} (h : 100 ≤ k) (hk : k < 2 ^ 31) : fX6_isSetting (nI 1) (nI k) = 0 := by
  unfold fX6_isSetting
  rw [if_neg (show ¬ nI 1 = (0 : Int32) by decide), if_pos (show nI 1 = (1 : Int32) from rfl)]
  split
  · rfl
  · rw [if_pos (show (99 : Int32) < nI k from nI_lt (a := 99) h hk)]
theorem is_no3 : fX6_isSetting (nI 3) (nI 5) = 0 := by decide
theorem rd_no (r : RW) {w : Nat} (hw : 4 ≤ w) (hw2 : w < 2 ^ 31) : wv (gRead r (nI w)) = -9999002 := by
  unfold gRead
  rw [if_neg (nI_pos hw2), if_neg (show ¬ nI w ≤ (3 : Int32) from nI_ge (b := w) (a := 3) hw hw2)]; exact wv_IA
theorem ne_no (r : RW) {k : Nat} (h : r 110 ≤ k) (hk : k < 2 ^ 31) : wv (gNearest r (nI k)) = -9999001 := by
  unfold gNearest
  rw [has_no h hk, if_pos rfl]; exact wv_IO
theorem be_no (r : RW) {k : Nat} (h : r 110 ≤ k) (hk : k < 2 ^ 31) (p : Int32) : wv (gBetween r p (nI k)) = -9999001 := by
  unfold gBetween
  split
  · exact wv_IO
  · rw [has_no h hk, if_pos rfl]; exact wv_IO
theorem be_no2 (r : RW) {p : Int32} (h : p < 0) (q : Int32) : wv (gBetween r p q) = -9999001 := by
  unfold gBetween
  rw [has_neg h, if_pos rfl]; exact wv_IO
theorem sl_2 : ¬ slotB (nI 2) := fun z => absurd z.2 (show ¬ nI 2 < (2 : Int32) by decide)
theorem sl_neg {p : Int32} (h : p < 0) : ¬ slotB p := fun z => z.1 h
theorem sv_no (G : GS) {p : Int32} (h : ¬ slotB p) : gSave G p = (.inr xIO, G) := by
  unfold gSave
  rw [cIf_neg h]
theorem rs_no (G : GS) {p : Int32} (h : ¬ slotB p) : gRestore G p = (.inr xIO, G) := by
  unfold gRestore
  rw [cIf_neg h]
theorem ap_no {n : Nat} {t : Nat → Nat} {k : Nat} (h : 256 ≤ k) (hk : k < 2 ^ 31) : gAppend n t (nI k) = (.inr xIA, n, t) := by
  unfold gAppend
  rw [if_neg (nI_pos hk), if_neg (show ¬ nI k ≤ (255 : Int32) from nI_ge (b := k) (a := 255) h hk)]
/-- values of pairs -/
theorem wv1 {β : Type} {x : (Int32 ⊕ String) × β} {E : String} {b : β} (h : x = (.inr E, b)) {v : Int32} (hv : wv (.inr E) = v) : wv x.1 = v := by
  rw [h]; exact hv
theorem nx1 {G : GS} {x : (Int32 ⊕ String) × Option RW} {E : String} (h : x = (.inr E, none)) : nxt G x.2 = G := by
  rw [h]; rfl
theorem gg1 {G : GS} {x : (Int32 ⊕ String) × GS} {E : String} (h : x = (.inr E, G)) : x.2 = G := by
  rw [h]
theorem ap1 {G : GS} {x : (Int32 ⊕ String) × Nat × (Nat → Nat)} {E : String} (h : x = (.inr E, G.2.1, G.2.2.1)) : ((G.1, x.2.1, x.2.2, G.2.2.2.1, G.2.2.2.2) : GS) = G := by
  rw [h]
/-- drawing a text that is no figure -/
theorem dr_no (r : RW) {n : Nat} {t : Nat → Nat} (h : ¬ (prs t n (n + 1) 1 1 0).2 = none) : gDraw r n t = (.inr xIS, none) := by
  unfold gDraw
  rw [cIf_neg (fun z => h z.1)]
theorem rsI_none {n : Nat} {t : Nat → Nat} (hn : n ≤ 100) : rsI (prs t n (n + 1) 1 1 0).2 = -1 ↔ (prs t n (n + 1) 1 1 0).2 = none := by
  cases hv : (prs t n (n + 1) 1 1 0).2 with
  | none => exact ⟨fun _ => rfl, fun _ => rfl⟩
  | some p =>
    have hp := prs_er (n + 1) 1 1 0 p (Nat.zero_le _) hv
    exact ⟨fun z => absurd z (nI_m1 (by omega)), fun z => by cases z⟩
/-- refused scripts and simulations -/
theorem unO_no (m : MT) : wv (unO (some (0, 1, m))) = -9999002 := (congrArg wv (show unO (some (0, 1, m)) = .inr xIA from if_neg (α := Int32 ⊕ String) (t := .inl 0) i10)).trans wv_IA
theorem sc_not {r : RW} {p1 : Int32} {p2 : Int64} (e : fX7_runScript p1 p2 0 0 0 (cRow r) (fun _ => 0) (fun _ => 0) (fun _ => 0) (fun _ => 0) = some (0, 1, 0, 0, 0, (fun _ => 0), (fun _ => 0), (fun _ => 0), (fun _ => 0))) : wv (gScript r p1 p2) = -9999002 := by
  unfold gScript
  rw [e]
  exact unO_no _
theorem sc_no4 (r : RW) (p2 : Int64) : wv (gScript r (nI 4) p2) = -9999002 := by
  obtain ⟨y, hy⟩ := all_end (nI 4)
  refine sc_not ?_
  unfold fX7_runScript
  rw [hy, b1_so, show fX7_in (nI 4).toInt64 (1 : Int64) (3 : Int64) = 0 by decide, if_pos rfl, rf1, if_neg i10]
theorem sc_no1 (r : RW) {x : Nat} (hx : x < 2 ^ 31) : wv (gScript r (nI 1) ((100000 : Int64) + (nI x).toInt64)) = -9999002 := by
  have eall := all_ok (g := 1) (by omega)
  have e2 : (100000 : Int64) + (nI x).toInt64 = lN (100000 + x) := by
    rw [nI_l hx]; exact lN_add 100000 x
  have ein : fX7_in ((100000 : Int64) + (nI x).toInt64) (0 : Int64) (lN (100000 ^ 1) - (1 : Int64)) = 0 := by
    rw [e2, in64, show lN (100000 ^ 1) - (1 : Int64) = lN 99999 from lN_sub (a := 100000) (b := 1) (by omega), if_neg]
    intro z
    have := (pk_lLE (a := 100000 + x) (b := 99999) (by omega) (by omega)).mp z.2
    omega
  refine sc_not ?_
  unfold fX7_runScript
  rw [eall, b1_so, show fX7_in (nI 1).toInt64 (1 : Int64) (3 : Int64) = 1 by decide, if_neg i10, ein, if_pos rfl, rf1, if_neg i10]
theorem sc_no2 (r : RW) {x : Nat} (hx : x < 2 ^ 31) : wv (gScript r (nI 2) ((-1 : Int64) - (nI x).toInt64)) = -9999002 := by
  have eall := all_ok (g := 2) (by omega)
  have e2 : (-1 : Int64) - (nI x).toInt64 < 0 := by
    rw [nI_l hx, Int64.lt_iff_toInt_lt, Int64.toInt_sub, lN_toInt hx]
    rw [show (-1 : Int64).toInt = -1 by decide, show (0 : Int64).toInt = 0 by decide, Int.bmod_eq_of_le (by omega) (by omega)]
    omega
  have ein : fX7_in ((-1 : Int64) - (nI x).toInt64) (0 : Int64) (lN (100000 ^ 2) - (1 : Int64)) = 0 := by
    rw [in64, if_neg (fun z => absurd e2 (Int64.not_lt.mpr z.1))]
  refine sc_not ?_
  unfold fX7_runScript
  rw [eall, b1_so, show fX7_in (nI 2).toInt64 (1 : Int64) (3 : Int64) = 1 by decide, if_neg i10, ein, if_pos rfl, rf1, if_neg i10]
theorem si_no (r : RW) (p : Int64) : wv (gSim r p (nI 100)) = -9999002 := by
  have e : fX7_simulate p (nI 100) 0 0 0 (cRow r) (fun _ => 0) (fun _ => 0) (fun _ => 0) (fun _ => 0) = some (0, 1, 0, 0, 0, (fun _ => 0), (fun _ => 0), (fun _ => 0), (fun _ => 0)) := by
    unfold fX7_simulate
    rw [show fX7_in (nI 100).toInt64 (1 : Int64) (99 : Int64) = 0 by decide, if_pos rfl, rf1, if_neg i10]
  unfold gSim
  rw [e]
  exact unO_no _
end XPF
