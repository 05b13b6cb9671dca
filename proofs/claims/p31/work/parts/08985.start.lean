/-! LAW 6: the law, from its entry -/
section XSTART
theorem xStrs_in : ∀ q ∈ xStrs, Cond.stringRef RX6 q.1 q.2 ∈ lw_tbl := by decide +kernel
theorem xNest_in : ∀ w ∈ xNest, w ∈ lw_tbl := by decide +kernel
theorem xBad_in : ∀ w ∈ xBad, w ∈ lw_tbl := by decide +kernel
theorem init_inv : INV (((updN (updN (updN (fun _ => 0) 77 10) 78 12) 79 1), 0, (fun _ => 0), [], (fun _ => none)) : GS) (((0, 0, (fun _ => 0), (fun _ => 0), (fun _ => 0), (fun _ => 0), (fun _ => 0), (fun _ => 0), (upd (upd (upd (fun _ => (0 : Int32)) (0 : Int32).toNatClampNeg (10 : Int32)) (1 : Int32).toNatClampNeg (12 : Int32)) (2 : Int32).toNatClampNeg (1 : Int32)), (fun _ => 0)), (0, 0, (fun _ => 0), (fun _ => 0), (fun _ => 0), (fun _ => 0), (fun _ => 0), (fun _ => 0), (upd (upd (upd (fun _ => (0 : Int32)) (0 : Int32).toNatClampNeg (10 : Int32)) (1 : Int32).toNatClampNeg (12 : Int32)) (2 : Int32).toNatClampNeg (1 : Int32)), (fun _ => 0)), (0, 0, 0, 0), (fun _ => 0), (fun _ => 0), 0, (fun _ => 0), 0, 0, (fun _ => none), (fun _ => none)) : XV) [] := by
  have e77 : (77 : Int32).toNatClampNeg = 77 := by decide
  have e78 : (78 : Int32).toNatClampNeg = 78 := by decide
  have e79 : (79 : Int32).toNatClampNeg = 79 := by decide
  have f0 : (0 : Int32).toNatClampNeg = 0 := by decide
  have f1 : (1 : Int32).toNatClampNeg = 1 := by decide
  have f2 : (2 : Int32).toNatClampNeg = 2 := by decide
  have r0 : ∀ j, j ≠ 77 → j ≠ 78 → j ≠ 79 → updN (updN (updN (fun _ => 0) 77 10) 78 12) 79 1 j = 0 := fun j a b c => by
    rw [updN_n c, updN_n b, updN_n a]
  have r77 : updN (updN (updN (fun _ => 0) 77 10) 78 12) 79 1 77 = 10 := rfl
  have r78 : updN (updN (updN (fun _ => 0) 77 10) 78 12) 79 1 78 = 12 := rfl
  have r79 : updN (updN (updN (fun _ => 0) 77 10) 78 12) 79 1 79 = 1 := rfl
  have r110 : updN (updN (updN (fun _ => 0) 77 10) 78 12) 79 1 110 = 0 := rfl
  have pl : ∀ q, plc (updN (updN (updN (fun _ => 0) 77 10) 78 12) 79 1) q → q = 16 := fun q h => by
    rcases h with h | h
    · exact h
    · rw [r110] at h; omega
  show rI (updN (updN (updN (fun _ => 0) 77 10) 78 12) 79 1) ∧ CSv (updN (updN (updN (fun _ => 0) 77 10) 78 12) 79 1) (0, 0, (fun _ => 0), (fun _ => 0), (fun _ => 0), (fun _ => 0), (fun _ => 0), (fun _ => 0), (upd (upd (upd (fun _ => (0 : Int32)) (0 : Int32).toNatClampNeg (10 : Int32)) (1 : Int32).toNatClampNeg (12 : Int32)) (2 : Int32).toNatClampNeg (1 : Int32)), (fun _ => 0)) ∧ txC 0 (fun _ => 0) (fun _ => 0) ∧ (0 : Int32) = nI 0 ∧ ∃ nw, (0 : Int32) = nI nw ∧ (0 : Int32) = nI ([] : List RW).length ∧ HG nw [] [] (fun _ => none) (fun _ => none) (fun _ => none)
  refine ⟨?_, ?_, ⟨by omega, fun j hj => absurd hj (Nat.not_lt_zero _)⟩, rfl, 0, rfl, rfl, HG_init⟩
  · refine ⟨fun q hq => ?_, by rw [r77]; omega, by rw [r78]; omega, by rw [r79]; omega, by rw [r110]; omega, ⟨by rw [r0 76 (by omega) (by omega) (by omega)]; omega, fun z => absurd z (by rw [r0 76 (by omega) (by omega) (by omega)]; omega)⟩, fun s hs => absurd hs (by rw [r110]; omega)⟩
    rw [pl q hq, off16]
    exact fig0 (fun j hj => r0 j (by omega) (by omega) (by omega)) _
  · refine ⟨rfl, rfl, fun q hq => ?_, fun s hs => absurd hs (by rw [r110]; omega), fun w hw => ?_, fun n hn o ho => ?_⟩
    · rw [pl q hq, off16]
      have z := r0 0 (by omega) (by omega) (by omega)
      refine ⟨⟨by rw [z]; rfl, fun s hs => absurd hs (by rw [z]; omega), fun s hs => absurd hs (by rw [z]; omega)⟩, ?_⟩
      rw [sig0 z]
      exact ⟨rfl, fun k hk => absurd hk (Nat.not_lt_zero _)⟩
    · rcases (by omega : w = 0 ∨ w = 1 ∨ w = 2) with rfl | rfl | rfl
      · rw [r77]; rfl
      · rw [r78]; rfl
      · rw [r79]; rfl
    · rw [r0 _ (by omega) (by omega) (by omega)]; rfl

set_option maxHeartbeats 4000000 in
set_option maxRecDepth 100000 in
/-- what stands at the law's entry -/
theorem law_facts {p : Program} {s : State} {m : MethodId} {meth : Method} {c : Code} {b L : Nat} {xs : Nat → Int32} (C0 : lw_At p s m meth c b L xs) : ∃ (dC : Nat → ClassId) (dI : Nat → Nat → Nat) (cc : Nat → ClassId), gF p m c cL_law 10 s #[Value.ref b] wsL_law meth (some .boolean) (dC, dI) cc (fun q : Nat => s.heap.size ≤ q) := by
  obtain ⟨hx, hb, hr, hml, hown, hts0, hX, hbl, hlocks, hgv⟩ := id C0
  have hgf := flat_of_before _ hgv
  have hts : ∀ w ∈ wsL_law, w.before #[Value.ref b] s = true := fun w h => hts0 w (wsL_law_in w h)
  obtain ⟨d0, s0, hKn0⟩ := u_known (C := RX0) (T := TX0) (N := 5) (n := 5) hts inlX0 (hts0 (.instantiable RX0 5) (by decide +kernel))
  obtain ⟨d1, s1, hKn1⟩ := u_known (C := RX1) (T := TX1) (N := 3) (n := 3) hts inlX1 (hts0 (.instantiable RX1 3) (by decide +kernel))
  obtain ⟨d2, s2, hKn2⟩ := u_known (C := RX2) (T := TX2) (N := 6) (n := 6) hts inlX2 (hts0 (.instantiable RX2 6) (by decide +kernel))
  obtain ⟨d3, s3, hKn3⟩ := u_known (C := RX3) (T := TX3) (N := 1) (n := 1) hts inlX3 (hts0 (.instantiable RX3 1) (by decide +kernel))
  obtain ⟨d4, s4, hKn4⟩ := u_known (C := RX4) (T := TX4) (N := 6) (n := 6) hts inlX4 (hts0 (.instantiable RX4 6) (by decide +kernel))
  obtain ⟨d5, s5, hKn5⟩ := u_known (C := RX5) (T := TX5) (N := 2) (n := 2) hts inlX5 (hts0 (.instantiable RX5 2) (by decide +kernel))
  obtain ⟨d6, s6, hKn6⟩ := u_known (C := RX6) (T := TX6) (N := 6) (n := 6) hts inlX6 (hts0 (.instantiable RX6 6) (by decide +kernel))
  obtain ⟨dC, dI, hKc⟩ : ∃ (dC : Nat → ClassId) (dI : Nat → Nat → Nat), ∀ (k : Nat) (q : vw_C), vwCl[k]? = some q → u_Kn s q.1 q.2.1 q.2.2 (dC k) (dI k) := by
    refine ⟨fun k => match k with | 0 => d0 | 1 => d1 | 2 => d2 | 3 => d3 | 4 => d4 | 5 => d5 | _ => d6, fun k => match k with | 0 => s0 | 1 => s1 | 2 => s2 | 3 => s3 | 4 => s4 | 5 => s5 | _ => s6, ?_⟩
    intro k q hq
    match k, hq with
    | 0, hq => cases hq; exact hKn0
    | 1, hq => cases hq; exact hKn1
    | 2, hq => cases hq; exact hKn2
    | 3, hq => cases hq; exact hKn3
    | 4, hq => cases hq; exact hKn4
    | 5, hq => cases hq; exact hKn5
    | 6, hq => cases hq; exact hKn6
    | k + 7, hq => cases hq
  obtain ⟨t0, k0, m0, f0, g0, i0⟩ := Cond.arrayClass_spec (hts0 (.arrayClass .int) (by decide +kernel))
  obtain ⟨m2, t2, k2, e2, -, g2, i2, f2⟩ := Cond.arrayOver_spec (hts0 (.arrayOver (.object "RuledStrokes$State")) (by decide +kernel))
  obtain ⟨cc, hKt⟩ : ∃ cc : Nat → ClassId, ∀ (k : Nat) (q : ClassId × FieldType), (xTy cc)[k]? = some q → ArrOfT s q.1 q.2 ∧ va_RA s q.1 q.2 := by
    refine ⟨fun k => match k with | 2 => t2 | _ => t0, ?_⟩
    intro k q hq
    match k, hq with
    | 0, hq => cases hq; exact ⟨fun n z => ⟨fun k h => (by cases h), k0, g0, m0, i0⟩, f0⟩
    | 1, hq => cases hq; exact ⟨fun n z => ⟨fun k h => (by cases h), k0, g0, m0, i0⟩, f0⟩
    | 2, hq => cases hq; exact ⟨fun n z => ⟨fun k h => (by cases h), k2, g2, m2, i2⟩, k2, m2, g2, i2, e2, f2⟩
    | 3, hq => cases hq; exact ⟨fun n z => ⟨fun k h => (by cases h), k0, g0, m0, i0⟩, f0⟩
    | k + 4, hq => cases hq
  have hK : va_K (dC, dI) vwCl (xTy cc) s := ⟨hKc, hKt⟩
  have hN : xN s := ⟨fun w hw => by
    obtain ⟨a1, i1, x1, h1, rfl⟩ := xNest_is w hw
    exact va_Nw.of rfl (hts0 _ (xNest_in _ hw)), va_AO.of (hts0 (.arrayOver (.object "RuledStrokes$State")) (by decide +kernel))⟩
  have hout : ∀ a : Nat, a < s.heap.size → ¬ (fun q : Nat => s.heap.size ≤ q) a := fun a h => Nat.not_le.mpr h
  have hcR : ∃ cR, s.vm.findClass RX6 = some cR := ⟨_, (hKc 6 _ rfl).2.1⟩
  have hXX : xX (fun q : Nat => s.heap.size ≤ q) s s.heap := by
    refine ⟨vx_Zqof (hts0 (.laysStatic "java/lang/Throwable" "UNASSIGNED_STACK" "[Ljava/lang/StackTraceElement;") (by decide +kernel)) (hts0 (.initialized "java/lang/Throwable") (by decide +kernel)) (hgf (.isRef (.static "java/lang/Throwable" "UNASSIGNED_STACK" "[Ljava/lang/StackTraceElement;")) (by decide +kernel)) hout, vx_Zqof (hts0 (.laysStatic "java/lang/Throwable" "SUPPRESSED_SENTINEL" "Ljava/util/List;") (by decide +kernel)) (hts0 (.initialized "java/lang/Throwable") (by decide +kernel)) (hgf (.isRef (.static "java/lang/Throwable" "SUPPRESSED_SENTINEL" "Ljava/util/List;")) (by decide +kernel)) hout, fun q hq => ?_, fun w hw => ?_⟩
    · have h1 := hts0 _ (xStrs_in q hq)
      obtain ⟨cR, hcR⟩ := hcR
      obtain ⟨kk, cf, i, a, -, -, -, -, -, hev⟩ := Cond.stringRef_spec hcR h1
      exact ⟨a, vk_R.of h1 hev⟩
    · rcases xBad_is w hw with ⟨C, T, rfl⟩ | ⟨x, rfl⟩
      · exact va_Nw.of rfl (hts0 _ (xBad_in _ hw))
      · exact va_Nw.of rfl (hts0 _ (xBad_in _ hw))
  have hC : xC s := ⟨va_Nc.of (hgf (.not (.castable "java/lang/IllegalStateException" "java/lang/IllegalArgumentException")) (by decide +kernel)), va_Nc.of (hgf (.not (.castable "java/lang/IllegalArgumentException" "java/lang/IndexOutOfBoundsException")) (by decide +kernel)), va_Nc.of (hgf (.not (.castable "java/lang/IllegalStateException" "java/lang/IndexOutOfBoundsException")) (by decide +kernel))⟩
  have F0 : CallFix p m c cL_law 10 s #[Value.ref b] wsL_law RL := ⟨hx, hb, hml, hown, hts⟩
  exact ⟨dC, dI, cc, ⟨F0, hr, hlocks⟩, hK, hN, hXX, hC, fun _ h => h⟩
set_option maxHeartbeats 4000000 in
set_option maxRecDepth 100000 in
theorem whole_start {p : Program} {e : Env} {s : State} {m : MethodId} {below : List Frame} {meth : Method} {c : Code} (l : Launch) (hflags : l.flags = flags0) {b L : Nat} {xs : Nat → Int32} (hL : L ≤ 260) (C0 : lw_At p s m meth c b L xs) : W p l e room_1 s m #[Value.ref b] below meth c s.heap [] 0 0 (lw_Z below #[Value.ref b] s) (entryFrame m ([Value.ref b] : List Value).toArray 10) := by
  obtain ⟨hx, hb, hr, hml, hown, hts0, hX, hbl, hlocks, hgv⟩ := id C0
  have hst : l.stackTraces = false := by rw [Launch.stackTraces, hflags]; decide
  have hA : ∀ q : Nat, s.heap.size ≤ q → (fun q : Nat => s.heap.size ≤ q) q := fun _ h => h
  have hbA : ¬ (fun q : Nat => s.heap.size ≤ q) b := Nat.not_le.mpr hbl
  have hf : room_1.cells = 600130 ∧ room_1.slots = 7301080 := ⟨rfl, rfl⟩
  obtain ⟨dC, dI, cc, F⟩ := law_facts C0
  have FX := F.1
  have hK := F.2.1
  have hN := F.2.2.1
  have hts := F.1.1.2.2.2.2
  have hS : va_S (fun q : Nat => s.heap.size ≤ q) s.heap s.heap [] := va_S.rf
  have hP : va_P (dC, dI) vwCl [] s.heap := fun k q h => by simp at h
  have hD : va_D (fun q : Nat => s.heap.size ≤ q) [] := ⟨fun i j p q h => by simp at h, fun k q h => by simp at h⟩
  have hl := lv_entry ([.ref b]) (n := 10) (Nat.le_of_ble_eq_true rfl)
  rw [lg_entry_eq]
  generalize (lg_sl ([.ref b]) ++ List.replicate (10 - (lg_sl ([.ref b])).length) Slot.unset).toArray = ls at hl ⊢
  have hl : lv_has ls 10 [(0, .ref b)] := hl
  refine va_new (ci := 6) (fs := [.null, .null, .null, .null, .null, .null]) (C := RX6) (T := TX6) (N := 6) hx hb hts inlX6 tyX6 tyX6_ok hown (hts0 (.classLink RL 8 RX6) (by decide +kernel)) (hts0 (.instantiable RX6 6) (by decide +kernel)) (hts0 (.initialized RX6) (by decide +kernel)) hK hP hD hS hA rfl (fun j hj => by rcases (show j = 0 ∨ j = 1 ∨ j = 2 ∨ j = 3 ∨ j = 4 ∨ j = 5 by omega) with rfl | rfl | rfl | rfl | rfl | rfl <;> rfl) (Nat.le_of_ble_eq_true rfl) (Nat.le_of_ble_eq_true rfl) dL_law_0 (fun q0 H hP hD hS => ?_)
  have hP : va_P (dC, dI) vwCl [(q0, .inr (6, [.null, .null, .null, .null, .null, .null]))] H := hP
  have hD : va_D (fun q : Nat => s.heap.size ≤ q) [(q0, .inr (6, [.null, .null, .null, .null, .null, .null]))] := hD
  refine lv_dup hx hb dL_law_3 rfl ?_
  refine xcallv (wr := []) [0] [] (xrunI (As := []) (rest := [.ref q0]) FX ((kX6_init l (dC, dI) cc (a_p0 := q0) (h := rfl)) _) (cwI 0 hts gL_law_X6_init rfl rfl rfl (hts0 (.initialized RX6) (by decide +kernel)) (hts0 (.methodLink RL 188 yX6_init) (by decide +kernel)) (hts0 (.instanceMethod yX6_init) (by decide +kernel)) rfl (by decide +kernel) ⟨Nat.le_of_ble_eq_true rfl, Nat.le_of_ble_eq_true rfl⟩) hK hN hP hD [0] rfl (by decide) rfl hl rfl (Nat.le_of_ble_eq_true rfl) dL_law_4 ⟨Nat.le_of_ble_eq_true rfl, Nat.le_of_ble_eq_true rfl⟩) hP hD hS hA rfl rfl (by decide) (by decide) (fun qa H locs hP hD hS => ?_)
  obtain ⟨a, ha0, haq⟩ : ∃ a : Nat → Nat, a 0 = q0 ∧ ∀ k, a (k + 1) = qa k := ⟨fun k => match k with | 0 => q0 | k + 1 => qa k, rfl, fun _ => rfl⟩
  obtain rfl : q0 = a 0 := ha0.symm
  obtain rfl : qa = fun k => a (k + 1) := funext fun k => (haq k).symm
  refine lv_astore_n (lv' := [(1, .ref (a 0)), (0, .ref b)]) hx hb dL_law_7 rfl hl (by decide) rfl (fun ls hl => ?_)
  refine va_new (ci := 6) (fs := [.null, .null, .null, .null, .null, .null]) (C := RX6) (T := TX6) (N := 6) hx hb hts inlX6 tyX6 tyX6_ok hown (hts0 (.classLink RL 8 RX6) (by decide +kernel)) (hts0 (.instantiable RX6 6) (by decide +kernel)) (hts0 (.initialized RX6) (by decide +kernel)) hK hP hD hS hA rfl (fun j hj => by rcases (show j = 0 ∨ j = 1 ∨ j = 2 ∨ j = 3 ∨ j = 4 ∨ j = 5 by omega) with rfl | rfl | rfl | rfl | rfl | rfl <;> rfl) (Nat.le_of_ble_eq_true rfl) (Nat.le_of_ble_eq_true rfl) dL_law_8 (fun q1 H hP hD hS => ?_)
  obtain ⟨x0, hx0⟩ : ∃ x0 : XV, x0 = (((0, 0, (fun _ => 0), (fun _ => 0), (fun _ => 0), (fun _ => 0), (fun _ => 0), (fun _ => 0), (upd (upd (upd (fun _ => (0 : Int32)) (0 : Int32).toNatClampNeg (10 : Int32)) (1 : Int32).toNatClampNeg (12 : Int32)) (2 : Int32).toNatClampNeg (1 : Int32)), (fun _ => 0)), (0, 0, (fun _ => 0), (fun _ => 0), (fun _ => 0), (fun _ => 0), (fun _ => 0), (fun _ => 0), (upd (upd (upd (fun _ => (0 : Int32)) (0 : Int32).toNatClampNeg (10 : Int32)) (1 : Int32).toNatClampNeg (12 : Int32)) (2 : Int32).toNatClampNeg (1 : Int32)), (fun _ => 0)), (0, 0, 0, 0), (fun _ => 0), (fun _ => 0), 0, (fun _ => 0), 0, 0, (fun _ => none), (fun _ => none)) : XV) := ⟨_, rfl⟩
  have hP : va_P (dC, dI) vwCl (wX cc a x0 ++ [(q1, .inr (6, [.null, .null, .null, .null, .null, .null]))]) H := by rw [hx0]; exact hP
  have hD : va_D (fun q : Nat => s.heap.size ≤ q) (wX cc a x0 ++ [(q1, .inr (6, [.null, .null, .null, .null, .null, .null]))]) := by rw [hx0]; exact hD
  refine lv_dup hx hb dL_law_11 rfl ?_
  refine xcallv (wr := wX cc a x0) [31] [0, 1, 2, 3, 4, 5, 6, 7, 8, 9, 10, 11, 12, 13, 14, 15, 16, 17, 18, 19, 20, 21, 22, 23, 24, 25, 26, 27, 28, 29, 30] (xrunI (As := []) (rest := [.ref q1]) FX ((kX6_init l (dC, dI) cc (a_p0 := q1) (h := rfl)) _) (cwI 0 hts gL_law_X6_init rfl rfl rfl (hts0 (.initialized RX6) (by decide +kernel)) (hts0 (.methodLink RL 188 yX6_init) (by decide +kernel)) (hts0 (.instanceMethod yX6_init) (by decide +kernel)) rfl (by decide +kernel) ⟨Nat.le_of_ble_eq_true rfl, Nat.le_of_ble_eq_true rfl⟩) hK hN hP hD [31] rfl (by decide) rfl hl rfl (Nat.le_of_ble_eq_true rfl) dL_law_12 ⟨Nat.le_of_ble_eq_true rfl, Nat.le_of_ble_eq_true rfl⟩) hP hD hS hA rfl rfl (by decide) (by decide) (fun qb H locs hP hD hS => ?_)
  obtain ⟨bb, hb0, hbq⟩ : ∃ bb : Nat → Nat, bb 0 = q1 ∧ ∀ k, bb (k + 1) = qb k := ⟨fun k => match k with | 0 => q1 | k + 1 => qb k, rfl, fun _ => rfl⟩
  obtain rfl : q1 = bb 0 := hb0.symm
  obtain rfl : qb = fun k => bb (k + 1) := funext fun k => (hbq k).symm
  have hP : va_P (dC, dI) vwCl (wX cc a x0 ++ wX cc bb x0) H := by rw [hx0] at hP ⊢; exact hP
  have hD : va_D (fun q : Nat => s.heap.size ≤ q) (wX cc a x0 ++ wX cc bb x0) := by rw [hx0] at hD ⊢; exact hD
  have hI : INV (((updN (updN (updN (fun _ => 0) 77 10) 78 12) 79 1), 0, (fun _ => 0), [], (fun _ => none)) : GS) x0 [] := by rw [hx0]; exact init_inv
  have eW : oW cc a x0 [] (oW cc bb x0 [] []) = wX cc a x0 ++ wX cc bb x0 := by
    show wX cc a x0 ++ ([] ++ (wX cc bb x0 ++ ([] ++ []))) = _
    rw [List.nil_append, List.nil_append, List.append_nil]
  have hO : HO2 (dC, dI) cc (fun q : Nat => s.heap.size ≤ q) a bb (((updN (updN (updN (fun _ => 0) 77 10) 78 12) 79 1), 0, (fun _ => 0), [], (fun _ => none)) : GS) (((updN (updN (updN (fun _ => 0) 77 10) 78 12) 79 1), 0, (fun _ => 0), [], (fun _ => none)) : GS) H := ⟨x0, [], hI, x0, [], hI, by rw [eW]; exact hP, by rw [eW]; exact hD⟩
  refine lv_astore_n (lv' := [(2, .ref (bb 0)), (1, .ref (a 0)), (0, .ref b)]) hx hb dL_law_15 rfl hl (by decide) rfl (fun ls hl => ?_)
  refine lv_iconst (v := nI 1) hx hb dL_law_16 (by decide) ?_
  refine lv_istore_n (lv' := [(3, .int (nI 1)), (2, .ref (bb 0)), (1, .ref (a 0)), (0, .ref b)]) hx hb dL_law_17 rfl hl (by decide) rfl (fun ls hl => ?_)
  refine lv_iconst (v := nI 0) hx hb dL_law_18 (by decide) ?_
  refine lv_istore (lv' := [(4, .int (nI 0)), (3, .int (nI 1)), (2, .ref (bb 0)), (1, .ref (a 0)), (0, .ref b)]) hx hb dL_law_19 hl (by decide) rfl (fun ls hl => ?_)
  refine W.widen (k := 100) (n := 10000) (Nat.le_of_ble_eq_true rfl) (Nat.le_of_ble_eq_true rfl) ?_
  refine lw_loop hst F hX hbl hbA hL 30 0 (by omega) (((updN (updN (updN (fun _ => 0) 77 10) 78 12) 79 1), 0, (fun _ => 0), [], (fun _ => none)) : GS) H _ ls 100 10000 hO hS (lv_sub hl [4, 3, 2, 1, 0] rfl) ⟨by omega, by omega⟩ (fun H locs ls hS => ?_)
  refine va_forget (fun q hq => hS.2.2 q hq) ?_
  refine W.widen (k := 600130) (n := 7301080) (by omega) (by omega) ?_
  exact lw_ret hx hb hr hlocks dL_law_243
end XSTART
