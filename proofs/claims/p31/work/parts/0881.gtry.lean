/-! GHOST 8: the wrappers of the law -/
section XGTRY
theorem k_tryScript (l : Launch) (D : va_G) (cc : Nat → ClassId) {a : Nat → Nat} {G G' : GS} {p1 : Int32} {p2 : Int64} {B : Int32 ⊕ String} {MC MS : Nat} (hM : gV l D cc a yX6_runScript wsX6_runScript [.int p1, .long p2] G B G' MC MS) (hA : ∀ E, B = .inr E → E = xIA) :
    gO l yL_tryScript wsL_tryScript (rmT MC MS) D cc a [.int p1, .long p2] G (wv B) G' MC MS := by
  intro x L Rw hI
  refine glstartW (bc := cL_tryScript) (maxL := 5) (ret := (some .int)) (by decide) rfl rfl (Nat.le_of_ble_eq_true rfl) ?_
  intro p e s m below meth c A hAe F hT hP hD hS ls hl
  have hx := F.1.1.1
  have hb := F.1.1.2.1
  have hown := F.1.1.2.2.2.1
  have hts := F.1.1.2.2.2.2
  have hCc := F.2.2.2.2.1
  have hl : lv_has ls 5 [(0, .ref (a 0)), (1, .int p1), (2, .long p2)] := hl
  obtain ⟨L1, x', L', rm, mc, ms, tu, hM, hI', hrm⟩ := hM x L hI
  have hP := tu.P hP
  have hD := tu.D hD
  have hAA := F.into hD hS
  have g1 := hrm.2.2.1
  have g2 := hrm.2.2.2.1
  have g3 := hrm.2.2.2.2.1
  have g4 := hrm.2.2.2.2.2
  refine lv_aload_n hx hb dL_tryScript_0 rfl (lv_at hl 0 rfl) ?_
  refine lv_iload_n hx hb dL_tryScript_1 rfl (lv_at hl 1 rfl) ?_
  refine lv_lload_n hx hb dL_tryScript_2 rfl (lv_at hl 2 rfl) ?_
  refine vx_calli (vx_runV (As := [.int p1, .long p2]) (rest := []) F.1.1 (hM Rw s.heap.size) (cwV 2 hts gL_tryScript_X6_runScript rfl hrm.1 hrm.2.1 (by decide +kernel) ⟨by show rm.frames + 1 ≤ 8; omega, by show _ + rm.locals ≤ 240; have : rm.locals ≤ 200 := g4; omega⟩) ⟨xPx.blind, va_recv (q0 := 0) F.2.1 hP rfl rfl, F.preX hP hD hS⟩ rfl rfl hl.1 rfl (lv_room (Nat.le_of_ble_eq_true rfl)) dL_tryScript_3 ⟨by show 0 + mc ≤ MC; omega, by show 0 + ms ≤ MS; omega⟩) hS (fun q _ h => hAA q h) hAA (fun q _ h => hAA q h) ?_ ?_
  · intro E ce q9 u t H1 locs1 ht hvm _ hEB _ _ hS1 hce hcv hcl
    obtain ⟨hE, q, hP1, -, hD1⟩ := hEB
    rw [ht] at hP1
    have hD1 : va_D A _ := hD1.weaken (fun _ q _ h => hAA q.1 h)
    subst hE
    obtain rfl := hA _ rfl
    refine vx_catch (own := RL) (name := xIA) hown [] (⟨0, 6, 7, 13⟩ : ExceptionTableEntry) [] (hT.trans rfl) (fun z hz => by cases hz) rfl (by decide) (hts _ (by decide +kernel)) (va_Nw.use rfl (F.2.2.2.1.2.2.2 _ (by decide))) hce hcv hcl ?_
    refine lv_astore (lv' := [(4, .ref q9), (0, .ref (a 0)), (1, .int p1), (2, .long p2)]) hx hb dL_tryScript_7 hl (by decide) rfl (fun ls hl => ?_)
    refine lv_ldc (v := (-9999002 : Int32)) hx hb hown (hts _ (by decide +kernel)) dL_tryScript_9 ?_
    exact gendi F hAe hP1 hD1 ⟨x' q, L' q, hI' q, rfl⟩ hS1 wv_IA.symm (by omega) (by omega) dL_tryScript_11
  · intro r u t H1 locs1 ht hvm hr hB _ _ hS1
    obtain ⟨q, hP1, -, hD1⟩ := hB
    rw [ht] at hP1
    have hD1 : va_D A _ := hD1.weaken (fun _ q _ h => hAA q.1 h)
    subst hr
    exact gendi F hAe hP1 hD1 ⟨x' q, L' q, hI' q, rfl⟩ hS1 rfl (by omega) (by omega) dL_tryScript_6
theorem k_trySimulate (l : Launch) (D : va_G) (cc : Nat → ClassId) {a : Nat → Nat} {G G' : GS} {p1 : Int64} {p3 : Int32} {B : Int32 ⊕ String} {MC MS : Nat} (hM : gV l D cc a yX6_simulate wsX6_simulate [.long p1, .int p3] G B G' MC MS) (hA : ∀ E, B = .inr E → E = xIA) :
    gO l yL_trySimulate wsL_trySimulate (rmT MC MS) D cc a [.long p1, .int p3] G (wv B) G' MC MS := by
  intro x L Rw hI
  refine glstartW (bc := cL_trySimulate) (maxL := 5) (ret := (some .int)) (by decide) rfl rfl (Nat.le_of_ble_eq_true rfl) ?_
  intro p e s m below meth c A hAe F hT hP hD hS ls hl
  have hx := F.1.1.1
  have hb := F.1.1.2.1
  have hown := F.1.1.2.2.2.1
  have hts := F.1.1.2.2.2.2
  have hCc := F.2.2.2.2.1
  have hl : lv_has ls 5 [(0, .ref (a 0)), (1, .long p1), (3, .int p3)] := hl
  obtain ⟨L1, x', L', rm, mc, ms, tu, hM, hI', hrm⟩ := hM x L hI
  have hP := tu.P hP
  have hD := tu.D hD
  have hAA := F.into hD hS
  have g1 := hrm.2.2.1
  have g2 := hrm.2.2.2.1
  have g3 := hrm.2.2.2.2.1
  have g4 := hrm.2.2.2.2.2
  refine lv_aload_n hx hb dL_trySimulate_0 rfl (lv_at hl 0 rfl) ?_
  refine lv_lload_n hx hb dL_trySimulate_1 rfl (lv_at hl 1 rfl) ?_
  refine lv_iload_n hx hb dL_trySimulate_2 rfl (lv_at hl 2 rfl) ?_
  refine vx_calli (vx_runV (As := [.long p1, .int p3]) (rest := []) F.1.1 (hM Rw s.heap.size) (cwV 2 hts gL_trySimulate_X6_simulate rfl hrm.1 hrm.2.1 (by decide +kernel) ⟨by show rm.frames + 1 ≤ 8; omega, by show _ + rm.locals ≤ 240; have : rm.locals ≤ 200 := g4; omega⟩) ⟨xPx.blind, va_recv (q0 := 0) F.2.1 hP rfl rfl, F.preX hP hD hS⟩ rfl rfl hl.1 rfl (lv_room (Nat.le_of_ble_eq_true rfl)) dL_trySimulate_3 ⟨by show 0 + mc ≤ MC; omega, by show 0 + ms ≤ MS; omega⟩) hS (fun q _ h => hAA q h) hAA (fun q _ h => hAA q h) ?_ ?_
  · intro E ce q9 u t H1 locs1 ht hvm _ hEB _ _ hS1 hce hcv hcl
    obtain ⟨hE, q, hP1, -, hD1⟩ := hEB
    rw [ht] at hP1
    have hD1 : va_D A _ := hD1.weaken (fun _ q _ h => hAA q.1 h)
    subst hE
    obtain rfl := hA _ rfl
    refine vx_catch (own := RL) (name := xIA) hown [] (⟨0, 6, 7, 13⟩ : ExceptionTableEntry) [] (hT.trans rfl) (fun z hz => by cases hz) rfl (by decide) (hts _ (by decide +kernel)) (va_Nw.use rfl (F.2.2.2.1.2.2.2 _ (by decide))) hce hcv hcl ?_
    refine lv_astore (lv' := [(4, .ref q9), (0, .ref (a 0)), (1, .long p1), (3, .int p3)]) hx hb dL_trySimulate_7 hl (by decide) rfl (fun ls hl => ?_)
    refine lv_ldc (v := (-9999002 : Int32)) hx hb hown (hts _ (by decide +kernel)) dL_trySimulate_9 ?_
    exact gendi F hAe hP1 hD1 ⟨x' q, L' q, hI' q, rfl⟩ hS1 wv_IA.symm (by omega) (by omega) dL_trySimulate_11
  · intro r u t H1 locs1 ht hvm hr hB _ _ hS1
    obtain ⟨q, hP1, -, hD1⟩ := hB
    rw [ht] at hP1
    have hD1 : va_D A _ := hD1.weaken (fun _ q _ h => hAA q.1 h)
    subst hr
    exact gendi F hAe hP1 hD1 ⟨x' q, L' q, hI' q, rfl⟩ hS1 rfl (by omega) (by omega) dL_trySimulate_6
theorem k_tryAppend (l : Launch) (D : va_G) (cc : Nat → ClassId) {a : Nat → Nat} {G G' : GS} {p1 : Int32} {B : Int32 ⊕ String} {MC MS : Nat} (hM : gV l D cc a yX6_append wsX6_append [.int p1] G B G' MC MS) (hA : ∀ E, B = .inr E → E = xIA ∨ E = xIS) :
    gO l yL_tryAppend wsL_tryAppend (rmT MC MS) D cc a [.int p1] G (wv B) G' MC MS := by
  intro x L Rw hI
  refine glstartW (bc := cL_tryAppend) (maxL := 3) (ret := (some .int)) (by decide) rfl rfl (Nat.le_of_ble_eq_true rfl) ?_
  intro p e s m below meth c A hAe F hT hP hD hS ls hl
  have hx := F.1.1.1
  have hb := F.1.1.2.1
  have hown := F.1.1.2.2.2.1
  have hts := F.1.1.2.2.2.2
  have hCc := F.2.2.2.2.1
  have hl : lv_has ls 3 [(0, .ref (a 0)), (1, .int p1)] := hl
  obtain ⟨L1, x', L', rm, mc, ms, tu, hM, hI', hrm⟩ := hM x L hI
  have hP := tu.P hP
  have hD := tu.D hD
  have hAA := F.into hD hS
  have g1 := hrm.2.2.1
  have g2 := hrm.2.2.2.1
  have g3 := hrm.2.2.2.2.1
  have g4 := hrm.2.2.2.2.2
  refine lv_aload_n hx hb dL_tryAppend_0 rfl (lv_at hl 0 rfl) ?_
  refine lv_iload_n hx hb dL_tryAppend_1 rfl (lv_at hl 1 rfl) ?_
  refine vx_calli (vx_runV (As := [.int p1]) (rest := []) F.1.1 (hM Rw s.heap.size) (cwV 1 hts gL_tryAppend_X6_append rfl hrm.1 hrm.2.1 (by decide +kernel) ⟨by show rm.frames + 1 ≤ 8; omega, by show _ + rm.locals ≤ 240; have : rm.locals ≤ 200 := g4; omega⟩) ⟨xPx.blind, va_recv (q0 := 0) F.2.1 hP rfl rfl, F.preX hP hD hS⟩ rfl rfl hl.1 rfl (lv_room (Nat.le_of_ble_eq_true rfl)) dL_tryAppend_2 ⟨by show 0 + mc ≤ MC; omega, by show 0 + ms ≤ MS; omega⟩) hS (fun q _ h => hAA q h) hAA (fun q _ h => hAA q h) ?_ ?_
  · intro E ce q9 u t H1 locs1 ht hvm _ hEB _ _ hS1 hce hcv hcl
    obtain ⟨hE, q, hP1, -, hD1⟩ := hEB
    rw [ht] at hP1
    have hD1 : va_D A _ := hD1.weaken (fun _ q _ h => hAA q.1 h)
    subst hE
    rcases hA _ rfl with rfl | rfl
    · refine vx_catch (own := RL) (name := xIA) hown [] (⟨0, 5, 6, 13⟩ : ExceptionTableEntry) [(⟨0, 5, 10, 24⟩ : ExceptionTableEntry)] (hT.trans rfl) (fun z hz => by cases hz) rfl (by decide) (hts _ (by decide +kernel)) (va_Nw.use rfl (F.2.2.2.1.2.2.2 _ (by decide))) hce hcv hcl ?_
      refine lv_astore_n (lv' := [(2, .ref q9), (0, .ref (a 0)), (1, .int p1)]) hx hb dL_tryAppend_6 rfl hl (by decide) rfl (fun ls hl => ?_)
      refine lv_ldc (v := (-9999002 : Int32)) hx hb hown (hts _ (by decide +kernel)) dL_tryAppend_7 ?_
      exact gendi F hAe hP1 hD1 ⟨x' q, L' q, hI' q, rfl⟩ hS1 wv_IA.symm (by omega) (by omega) dL_tryAppend_9
    · refine vx_catch (own := RL) (name := xIS) hown [(⟨0, 5, 6, 13⟩ : ExceptionTableEntry)] (⟨0, 5, 10, 24⟩ : ExceptionTableEntry) [] (hT.trans rfl) (fun z hz => by
        rcases List.mem_cons.mp hz with rfl | hz
        · exact Or.inr ⟨by decide, xIA, hts _ (by decide +kernel), hCc.1⟩
        · cases hz) rfl (by decide) (hts _ (by decide +kernel)) (va_Nw.use rfl (F.2.2.2.1.2.2.2 _ (by decide))) hce hcv hcl ?_
      refine lv_astore_n (lv' := [(2, .ref q9), (0, .ref (a 0)), (1, .int p1)]) hx hb dL_tryAppend_10 rfl hl (by decide) rfl (fun ls hl => ?_)
      refine lv_ldc (v := (-9999003 : Int32)) hx hb hown (hts _ (by decide +kernel)) dL_tryAppend_11 ?_
      exact gendi F hAe hP1 hD1 ⟨x' q, L' q, hI' q, rfl⟩ hS1 wv_IS.symm (by omega) (by omega) dL_tryAppend_13
  · intro r u t H1 locs1 ht hvm hr hB _ _ hS1
    obtain ⟨q, hP1, -, hD1⟩ := hB
    rw [ht] at hP1
    have hD1 : va_D A _ := hD1.weaken (fun _ q _ h => hAA q.1 h)
    subst hr
    exact gendi F hAe hP1 hD1 ⟨x' q, L' q, hI' q, rfl⟩ hS1 rfl (by omega) (by omega) dL_tryAppend_5
theorem k_tryAbout (l : Launch) (D : va_G) (cc : Nat → ClassId) {a : Nat → Nat} {G G' : GS} {p1 : Int32} {B : Int32 ⊕ String} {MC MS : Nat} (hM : gV l D cc a yX6_about wsX6_about [.int p1] G B G' MC MS) (hA : ∀ E, B = .inr E → E = xIA) :
    gO l yL_tryAbout wsL_tryAbout (rmT MC MS) D cc a [.int p1] G (wv B) G' MC MS := by
  intro x L Rw hI
  refine glstartW (bc := cL_tryAbout) (maxL := 3) (ret := (some .int)) (by decide) rfl rfl (Nat.le_of_ble_eq_true rfl) ?_
  intro p e s m below meth c A hAe F hT hP hD hS ls hl
  have hx := F.1.1.1
  have hb := F.1.1.2.1
  have hown := F.1.1.2.2.2.1
  have hts := F.1.1.2.2.2.2
  have hCc := F.2.2.2.2.1
  have hl : lv_has ls 3 [(0, .ref (a 0)), (1, .int p1)] := hl
  obtain ⟨L1, x', L', rm, mc, ms, tu, hM, hI', hrm⟩ := hM x L hI
  have hP := tu.P hP
  have hD := tu.D hD
  have hAA := F.into hD hS
  have g1 := hrm.2.2.1
  have g2 := hrm.2.2.2.1
  have g3 := hrm.2.2.2.2.1
  have g4 := hrm.2.2.2.2.2
  refine lv_aload_n hx hb dL_tryAbout_0 rfl (lv_at hl 0 rfl) ?_
  refine lv_iload_n hx hb dL_tryAbout_1 rfl (lv_at hl 1 rfl) ?_
  refine vx_calli (vx_runV (As := [.int p1]) (rest := []) F.1.1 (hM Rw s.heap.size) (cwV 1 hts gL_tryAbout_X6_about rfl hrm.1 hrm.2.1 (by decide +kernel) ⟨by show rm.frames + 1 ≤ 8; omega, by show _ + rm.locals ≤ 240; have : rm.locals ≤ 200 := g4; omega⟩) ⟨xPx.blind, va_recv (q0 := 0) F.2.1 hP rfl rfl, F.preX hP hD hS⟩ rfl rfl hl.1 rfl (lv_room (Nat.le_of_ble_eq_true rfl)) dL_tryAbout_2 ⟨by show 0 + mc ≤ MC; omega, by show 0 + ms ≤ MS; omega⟩) hS (fun q _ h => hAA q h) hAA (fun q _ h => hAA q h) ?_ ?_
  · intro E ce q9 u t H1 locs1 ht hvm _ hEB _ _ hS1 hce hcv hcl
    obtain ⟨hE, q, hP1, -, hD1⟩ := hEB
    rw [ht] at hP1
    have hD1 : va_D A _ := hD1.weaken (fun _ q _ h => hAA q.1 h)
    subst hE
    obtain rfl := hA _ rfl
    refine vx_catch (own := RL) (name := xIA) hown [] (⟨0, 5, 6, 13⟩ : ExceptionTableEntry) [] (hT.trans rfl) (fun z hz => by cases hz) rfl (by decide) (hts _ (by decide +kernel)) (va_Nw.use rfl (F.2.2.2.1.2.2.2 _ (by decide))) hce hcv hcl ?_
    refine lv_astore_n (lv' := [(2, .ref q9), (0, .ref (a 0)), (1, .int p1)]) hx hb dL_tryAbout_6 rfl hl (by decide) rfl (fun ls hl => ?_)
    refine lv_ldc (v := (-9999002 : Int32)) hx hb hown (hts _ (by decide +kernel)) dL_tryAbout_7 ?_
    exact gendi F hAe hP1 hD1 ⟨x' q, L' q, hI' q, rfl⟩ hS1 wv_IA.symm (by omega) (by omega) dL_tryAbout_9
  · intro r u t H1 locs1 ht hvm hr hB _ _ hS1
    obtain ⟨q, hP1, -, hD1⟩ := hB
    rw [ht] at hP1
    have hD1 : va_D A _ := hD1.weaken (fun _ q _ h => hAA q.1 h)
    subst hr
    exact gendi F hAe hP1 hD1 ⟨x' q, L' q, hI' q, rfl⟩ hS1 rfl (by omega) (by omega) dL_tryAbout_5
theorem k_trySign (l : Launch) (D : va_G) (cc : Nat → ClassId) {a : Nat → Nat} {G G' : GS} {p1 : Int32} {B : Int32 ⊕ String} {MC MS : Nat} (hM : gV l D cc a yX6_sign wsX6_sign [.int p1] G B G' MC MS) (hA : ∀ E, B = .inr E → E = xIA) :
    gO l yL_trySign wsL_trySign (rmT MC MS) D cc a [.int p1] G (wv B) G' MC MS := by
  intro x L Rw hI
  refine glstartW (bc := cL_trySign) (maxL := 3) (ret := (some .int)) (by decide) rfl rfl (Nat.le_of_ble_eq_true rfl) ?_
  intro p e s m below meth c A hAe F hT hP hD hS ls hl
  have hx := F.1.1.1
  have hb := F.1.1.2.1
  have hown := F.1.1.2.2.2.1
  have hts := F.1.1.2.2.2.2
  have hCc := F.2.2.2.2.1
  have hl : lv_has ls 3 [(0, .ref (a 0)), (1, .int p1)] := hl
  obtain ⟨L1, x', L', rm, mc, ms, tu, hM, hI', hrm⟩ := hM x L hI
  have hP := tu.P hP
  have hD := tu.D hD
  have hAA := F.into hD hS
  have g1 := hrm.2.2.1
  have g2 := hrm.2.2.2.1
  have g3 := hrm.2.2.2.2.1
  have g4 := hrm.2.2.2.2.2
  refine lv_aload_n hx hb dL_trySign_0 rfl (lv_at hl 0 rfl) ?_
  refine lv_iload_n hx hb dL_trySign_1 rfl (lv_at hl 1 rfl) ?_
  refine vx_calli (vx_runV (As := [.int p1]) (rest := []) F.1.1 (hM Rw s.heap.size) (cwV 1 hts gL_trySign_X6_sign rfl hrm.1 hrm.2.1 (by decide +kernel) ⟨by show rm.frames + 1 ≤ 8; omega, by show _ + rm.locals ≤ 240; have : rm.locals ≤ 200 := g4; omega⟩) ⟨xPx.blind, va_recv (q0 := 0) F.2.1 hP rfl rfl, F.preX hP hD hS⟩ rfl rfl hl.1 rfl (lv_room (Nat.le_of_ble_eq_true rfl)) dL_trySign_2 ⟨by show 0 + mc ≤ MC; omega, by show 0 + ms ≤ MS; omega⟩) hS (fun q _ h => hAA q h) hAA (fun q _ h => hAA q h) ?_ ?_
  · intro E ce q9 u t H1 locs1 ht hvm _ hEB _ _ hS1 hce hcv hcl
    obtain ⟨hE, q, hP1, -, hD1⟩ := hEB
    rw [ht] at hP1
    have hD1 : va_D A _ := hD1.weaken (fun _ q _ h => hAA q.1 h)
    subst hE
    obtain rfl := hA _ rfl
    refine vx_catch (own := RL) (name := xIA) hown [] (⟨0, 5, 6, 13⟩ : ExceptionTableEntry) [] (hT.trans rfl) (fun z hz => by cases hz) rfl (by decide) (hts _ (by decide +kernel)) (va_Nw.use rfl (F.2.2.2.1.2.2.2 _ (by decide))) hce hcv hcl ?_
    refine lv_astore_n (lv' := [(2, .ref q9), (0, .ref (a 0)), (1, .int p1)]) hx hb dL_trySign_6 rfl hl (by decide) rfl (fun ls hl => ?_)
    refine lv_ldc (v := (-9999002 : Int32)) hx hb hown (hts _ (by decide +kernel)) dL_trySign_7 ?_
    exact gendi F hAe hP1 hD1 ⟨x' q, L' q, hI' q, rfl⟩ hS1 wv_IA.symm (by omega) (by omega) dL_trySign_9
  · intro r u t H1 locs1 ht hvm hr hB _ _ hS1
    obtain ⟨q, hP1, -, hD1⟩ := hB
    rw [ht] at hP1
    have hD1 : va_D A _ := hD1.weaken (fun _ q _ h => hAA q.1 h)
    subst hr
    exact gendi F hAe hP1 hD1 ⟨x' q, L' q, hI' q, rfl⟩ hS1 rfl (by omega) (by omega) dL_trySign_5
theorem k_trySample (l : Launch) (D : va_G) (cc : Nat → ClassId) {a : Nat → Nat} {G G' : GS} {p1 : Int32} {p2 : Int32} {B : Int32 ⊕ String} {MC MS : Nat} (hM : gV l D cc a yX6_sample wsX6_sample [.int p1, .int p2] G B G' MC MS) (hA : ∀ E, B = .inr E → E = xIO ∨ E = xIA) :
    gO l yL_trySample wsL_trySample (rmT MC MS) D cc a [.int p1, .int p2] G (wv B) G' MC MS := by
  intro x L Rw hI
  refine glstartW (bc := cL_trySample) (maxL := 4) (ret := (some .int)) (by decide) rfl rfl (Nat.le_of_ble_eq_true rfl) ?_
  intro p e s m below meth c A hAe F hT hP hD hS ls hl
  have hx := F.1.1.1
  have hb := F.1.1.2.1
  have hown := F.1.1.2.2.2.1
  have hts := F.1.1.2.2.2.2
  have hCc := F.2.2.2.2.1
  have hl : lv_has ls 4 [(0, .ref (a 0)), (1, .int p1), (2, .int p2)] := hl
  obtain ⟨L1, x', L', rm, mc, ms, tu, hM, hI', hrm⟩ := hM x L hI
  have hP := tu.P hP
  have hD := tu.D hD
  have hAA := F.into hD hS
  have g1 := hrm.2.2.1
  have g2 := hrm.2.2.2.1
  have g3 := hrm.2.2.2.2.1
  have g4 := hrm.2.2.2.2.2
  refine lv_aload_n hx hb dL_trySample_0 rfl (lv_at hl 0 rfl) ?_
  refine lv_iload_n hx hb dL_trySample_1 rfl (lv_at hl 1 rfl) ?_
  refine lv_iload_n hx hb dL_trySample_2 rfl (lv_at hl 2 rfl) ?_
  refine vx_calli (vx_runV (As := [.int p1, .int p2]) (rest := []) F.1.1 (hM Rw s.heap.size) (cwV 2 hts gL_trySample_X6_sample rfl hrm.1 hrm.2.1 (by decide +kernel) ⟨by show rm.frames + 1 ≤ 8; omega, by show _ + rm.locals ≤ 240; have : rm.locals ≤ 200 := g4; omega⟩) ⟨xPx.blind, va_recv (q0 := 0) F.2.1 hP rfl rfl, F.preX hP hD hS⟩ rfl rfl hl.1 rfl (lv_room (Nat.le_of_ble_eq_true rfl)) dL_trySample_3 ⟨by show 0 + mc ≤ MC; omega, by show 0 + ms ≤ MS; omega⟩) hS (fun q _ h => hAA q h) hAA (fun q _ h => hAA q h) ?_ ?_
  · intro E ce q9 u t H1 locs1 ht hvm _ hEB _ _ hS1 hce hcv hcl
    obtain ⟨hE, q, hP1, -, hD1⟩ := hEB
    rw [ht] at hP1
    have hD1 : va_D A _ := hD1.weaken (fun _ q _ h => hAA q.1 h)
    subst hE
    rcases hA _ rfl with rfl | rfl
    · refine vx_catch (own := RL) (name := xIO) hown [] (⟨0, 6, 7, 37⟩ : ExceptionTableEntry) [(⟨0, 6, 11, 13⟩ : ExceptionTableEntry)] (hT.trans rfl) (fun z hz => by cases hz) rfl (by decide) (hts _ (by decide +kernel)) (va_Nw.use rfl (F.2.2.2.1.2.2.2 _ (by decide))) hce hcv hcl ?_
      refine lv_astore_n (lv' := [(3, .ref q9), (0, .ref (a 0)), (1, .int p1), (2, .int p2)]) hx hb dL_trySample_7 rfl hl (by decide) rfl (fun ls hl => ?_)
      refine lv_ldc (v := (-9999001 : Int32)) hx hb hown (hts _ (by decide +kernel)) dL_trySample_8 ?_
      exact gendi F hAe hP1 hD1 ⟨x' q, L' q, hI' q, rfl⟩ hS1 wv_IO.symm (by omega) (by omega) dL_trySample_10
    · refine vx_catch (own := RL) (name := xIA) hown [(⟨0, 6, 7, 37⟩ : ExceptionTableEntry)] (⟨0, 6, 11, 13⟩ : ExceptionTableEntry) [] (hT.trans rfl) (fun z hz => by
        rcases List.mem_cons.mp hz with rfl | hz
        · exact Or.inr ⟨by decide, xIO, hts _ (by decide +kernel), hCc.2.1⟩
        · cases hz) rfl (by decide) (hts _ (by decide +kernel)) (va_Nw.use rfl (F.2.2.2.1.2.2.2 _ (by decide))) hce hcv hcl ?_
      refine lv_astore_n (lv' := [(3, .ref q9), (0, .ref (a 0)), (1, .int p1), (2, .int p2)]) hx hb dL_trySample_11 rfl hl (by decide) rfl (fun ls hl => ?_)
      refine lv_ldc (v := (-9999002 : Int32)) hx hb hown (hts _ (by decide +kernel)) dL_trySample_12 ?_
      exact gendi F hAe hP1 hD1 ⟨x' q, L' q, hI' q, rfl⟩ hS1 wv_IA.symm (by omega) (by omega) dL_trySample_14
  · intro r u t H1 locs1 ht hvm hr hB _ _ hS1
    obtain ⟨q, hP1, -, hD1⟩ := hB
    rw [ht] at hP1
    have hD1 : va_D A _ := hD1.weaken (fun _ q _ h => hAA q.1 h)
    subst hr
    exact gendi F hAe hP1 hD1 ⟨x' q, L' q, hI' q, rfl⟩ hS1 rfl (by omega) (by omega) dL_trySample_6
theorem k_trySignOf (l : Launch) (D : va_G) (cc : Nat → ClassId) {a : Nat → Nat} {G G' : GS} {p1 : Int32} {p2 : Int32} {B : Int32 ⊕ String} {MC MS : Nat} (hM : gV l D cc a yX6_signOf wsX6_signOf [.int p1, .int p2] G B G' MC MS) (hA : ∀ E, B = .inr E → E = xIO ∨ E = xIA) :
    gO l yL_trySignOf wsL_trySignOf (rmT MC MS) D cc a [.int p1, .int p2] G (wv B) G' MC MS := by
  intro x L Rw hI
  refine glstartW (bc := cL_trySignOf) (maxL := 4) (ret := (some .int)) (by decide) rfl rfl (Nat.le_of_ble_eq_true rfl) ?_
  intro p e s m below meth c A hAe F hT hP hD hS ls hl
  have hx := F.1.1.1
  have hb := F.1.1.2.1
  have hown := F.1.1.2.2.2.1
  have hts := F.1.1.2.2.2.2
  have hCc := F.2.2.2.2.1
  have hl : lv_has ls 4 [(0, .ref (a 0)), (1, .int p1), (2, .int p2)] := hl
  obtain ⟨L1, x', L', rm, mc, ms, tu, hM, hI', hrm⟩ := hM x L hI
  have hP := tu.P hP
  have hD := tu.D hD
  have hAA := F.into hD hS
  have g1 := hrm.2.2.1
  have g2 := hrm.2.2.2.1
  have g3 := hrm.2.2.2.2.1
  have g4 := hrm.2.2.2.2.2
  refine lv_aload_n hx hb dL_trySignOf_0 rfl (lv_at hl 0 rfl) ?_
  refine lv_iload_n hx hb dL_trySignOf_1 rfl (lv_at hl 1 rfl) ?_
  refine lv_iload_n hx hb dL_trySignOf_2 rfl (lv_at hl 2 rfl) ?_
  refine vx_calli (vx_runV (As := [.int p1, .int p2]) (rest := []) F.1.1 (hM Rw s.heap.size) (cwV 2 hts gL_trySignOf_X6_signOf rfl hrm.1 hrm.2.1 (by decide +kernel) ⟨by show rm.frames + 1 ≤ 8; omega, by show _ + rm.locals ≤ 240; have : rm.locals ≤ 200 := g4; omega⟩) ⟨xPx.blind, va_recv (q0 := 0) F.2.1 hP rfl rfl, F.preX hP hD hS⟩ rfl rfl hl.1 rfl (lv_room (Nat.le_of_ble_eq_true rfl)) dL_trySignOf_3 ⟨by show 0 + mc ≤ MC; omega, by show 0 + ms ≤ MS; omega⟩) hS (fun q _ h => hAA q h) hAA (fun q _ h => hAA q h) ?_ ?_
  · intro E ce q9 u t H1 locs1 ht hvm _ hEB _ _ hS1 hce hcv hcl
    obtain ⟨hE, q, hP1, -, hD1⟩ := hEB
    rw [ht] at hP1
    have hD1 : va_D A _ := hD1.weaken (fun _ q _ h => hAA q.1 h)
    subst hE
    rcases hA _ rfl with rfl | rfl
    · refine vx_catch (own := RL) (name := xIO) hown [] (⟨0, 6, 7, 37⟩ : ExceptionTableEntry) [(⟨0, 6, 11, 13⟩ : ExceptionTableEntry)] (hT.trans rfl) (fun z hz => by cases hz) rfl (by decide) (hts _ (by decide +kernel)) (va_Nw.use rfl (F.2.2.2.1.2.2.2 _ (by decide))) hce hcv hcl ?_
      refine lv_astore_n (lv' := [(3, .ref q9), (0, .ref (a 0)), (1, .int p1), (2, .int p2)]) hx hb dL_trySignOf_7 rfl hl (by decide) rfl (fun ls hl => ?_)
      refine lv_ldc (v := (-9999001 : Int32)) hx hb hown (hts _ (by decide +kernel)) dL_trySignOf_8 ?_
      exact gendi F hAe hP1 hD1 ⟨x' q, L' q, hI' q, rfl⟩ hS1 wv_IO.symm (by omega) (by omega) dL_trySignOf_10
    · refine vx_catch (own := RL) (name := xIA) hown [(⟨0, 6, 7, 37⟩ : ExceptionTableEntry)] (⟨0, 6, 11, 13⟩ : ExceptionTableEntry) [] (hT.trans rfl) (fun z hz => by
        rcases List.mem_cons.mp hz with rfl | hz
        · exact Or.inr ⟨by decide, xIO, hts _ (by decide +kernel), hCc.2.1⟩
        · cases hz) rfl (by decide) (hts _ (by decide +kernel)) (va_Nw.use rfl (F.2.2.2.1.2.2.2 _ (by decide))) hce hcv hcl ?_
      refine lv_astore_n (lv' := [(3, .ref q9), (0, .ref (a 0)), (1, .int p1), (2, .int p2)]) hx hb dL_trySignOf_11 rfl hl (by decide) rfl (fun ls hl => ?_)
      refine lv_ldc (v := (-9999002 : Int32)) hx hb hown (hts _ (by decide +kernel)) dL_trySignOf_12 ?_
      exact gendi F hAe hP1 hD1 ⟨x' q, L' q, hI' q, rfl⟩ hS1 wv_IA.symm (by omega) (by omega) dL_trySignOf_14
  · intro r u t H1 locs1 ht hvm hr hB _ _ hS1
    obtain ⟨q, hP1, -, hD1⟩ := hB
    rw [ht] at hP1
    have hD1 : va_D A _ := hD1.weaken (fun _ q _ h => hAA q.1 h)
    subst hr
    exact gendi F hAe hP1 hD1 ⟨x' q, L' q, hI' q, rfl⟩ hS1 rfl (by omega) (by omega) dL_trySignOf_6
theorem k_tryPractised (l : Launch) (D : va_G) (cc : Nat → ClassId) {a : Nat → Nat} {G G' : GS} {p1 : Int32} {p2 : Int32} {B : Int32 ⊕ String} {MC MS : Nat} (hM : gV l D cc a yX6_practised wsX6_practised [.int p1, .int p2] G B G' MC MS) (hA : ∀ E, B = .inr E → E = xIA) :
    gO l yL_tryPractised wsL_tryPractised (rmT MC MS) D cc a [.int p1, .int p2] G (wv B) G' MC MS := by
  intro x L Rw hI
  refine glstartW (bc := cL_tryPractised) (maxL := 4) (ret := (some .int)) (by decide) rfl rfl (Nat.le_of_ble_eq_true rfl) ?_
  intro p e s m below meth c A hAe F hT hP hD hS ls hl
  have hx := F.1.1.1
  have hb := F.1.1.2.1
  have hown := F.1.1.2.2.2.1
  have hts := F.1.1.2.2.2.2
  have hCc := F.2.2.2.2.1
  have hl : lv_has ls 4 [(0, .ref (a 0)), (1, .int p1), (2, .int p2)] := hl
  obtain ⟨L1, x', L', rm, mc, ms, tu, hM, hI', hrm⟩ := hM x L hI
  have hP := tu.P hP
  have hD := tu.D hD
  have hAA := F.into hD hS
  have g1 := hrm.2.2.1
  have g2 := hrm.2.2.2.1
  have g3 := hrm.2.2.2.2.1
  have g4 := hrm.2.2.2.2.2
  refine lv_aload_n hx hb dL_tryPractised_0 rfl (lv_at hl 0 rfl) ?_
  refine lv_iload_n hx hb dL_tryPractised_1 rfl (lv_at hl 1 rfl) ?_
  refine lv_iload_n hx hb dL_tryPractised_2 rfl (lv_at hl 2 rfl) ?_
  refine vx_calli (vx_runV (As := [.int p1, .int p2]) (rest := []) F.1.1 (hM Rw s.heap.size) (cwV 2 hts gL_tryPractised_X6_practised rfl hrm.1 hrm.2.1 (by decide +kernel) ⟨by show rm.frames + 1 ≤ 8; omega, by show _ + rm.locals ≤ 240; have : rm.locals ≤ 200 := g4; omega⟩) ⟨xPx.blind, va_recv (q0 := 0) F.2.1 hP rfl rfl, F.preX hP hD hS⟩ rfl rfl hl.1 rfl (lv_room (Nat.le_of_ble_eq_true rfl)) dL_tryPractised_3 ⟨by show 0 + mc ≤ MC; omega, by show 0 + ms ≤ MS; omega⟩) hS (fun q _ h => hAA q h) hAA (fun q _ h => hAA q h) ?_ ?_
  · intro E ce q9 u t H1 locs1 ht hvm _ hEB _ _ hS1 hce hcv hcl
    obtain ⟨hE, q, hP1, -, hD1⟩ := hEB
    rw [ht] at hP1
    have hD1 : va_D A _ := hD1.weaken (fun _ q _ h => hAA q.1 h)
    subst hE
    obtain rfl := hA _ rfl
    refine vx_catch (own := RL) (name := xIA) hown [] (⟨0, 6, 7, 13⟩ : ExceptionTableEntry) [] (hT.trans rfl) (fun z hz => by cases hz) rfl (by decide) (hts _ (by decide +kernel)) (va_Nw.use rfl (F.2.2.2.1.2.2.2 _ (by decide))) hce hcv hcl ?_
    refine lv_astore_n (lv' := [(3, .ref q9), (0, .ref (a 0)), (1, .int p1), (2, .int p2)]) hx hb dL_tryPractised_7 rfl hl (by decide) rfl (fun ls hl => ?_)
    refine lv_ldc (v := (-9999002 : Int32)) hx hb hown (hts _ (by decide +kernel)) dL_tryPractised_8 ?_
    exact gendi F hAe hP1 hD1 ⟨x' q, L' q, hI' q, rfl⟩ hS1 wv_IA.symm (by omega) (by omega) dL_tryPractised_10
  · intro r u t H1 locs1 ht hvm hr hB _ _ hS1
    obtain ⟨q, hP1, -, hD1⟩ := hB
    rw [ht] at hP1
    have hD1 : va_D A _ := hD1.weaken (fun _ q _ h => hAA q.1 h)
    subst hr
    exact gendi F hAe hP1 hD1 ⟨x' q, L' q, hI' q, rfl⟩ hS1 rfl (by omega) (by omega) dL_tryPractised_6
theorem k_trySetting (l : Launch) (D : va_G) (cc : Nat → ClassId) {a : Nat → Nat} {G G' : GS} {p1 : Int32} {B : Int32 ⊕ String} {MC MS : Nat} (hM : gV l D cc a yX6_setting wsX6_setting [.int p1] G B G' MC MS) (hA : ∀ E, B = .inr E → E = xIA) :
    gO l yL_trySetting wsL_trySetting (rmT MC MS) D cc a [.int p1] G (wv B) G' MC MS := by
  intro x L Rw hI
  refine glstartW (bc := cL_trySetting) (maxL := 3) (ret := (some .int)) (by decide) rfl rfl (Nat.le_of_ble_eq_true rfl) ?_
  intro p e s m below meth c A hAe F hT hP hD hS ls hl
  have hx := F.1.1.1
  have hb := F.1.1.2.1
  have hown := F.1.1.2.2.2.1
  have hts := F.1.1.2.2.2.2
  have hCc := F.2.2.2.2.1
  have hl : lv_has ls 3 [(0, .ref (a 0)), (1, .int p1)] := hl
  obtain ⟨L1, x', L', rm, mc, ms, tu, hM, hI', hrm⟩ := hM x L hI
  have hP := tu.P hP
  have hD := tu.D hD
  have hAA := F.into hD hS
  have g1 := hrm.2.2.1
  have g2 := hrm.2.2.2.1
  have g3 := hrm.2.2.2.2.1
  have g4 := hrm.2.2.2.2.2
  refine lv_aload_n hx hb dL_trySetting_0 rfl (lv_at hl 0 rfl) ?_
  refine lv_iload_n hx hb dL_trySetting_1 rfl (lv_at hl 1 rfl) ?_
  refine vx_calli (vx_runV (As := [.int p1]) (rest := []) F.1.1 (hM Rw s.heap.size) (cwV 1 hts gL_trySetting_X6_setting rfl hrm.1 hrm.2.1 (by decide +kernel) ⟨by show rm.frames + 1 ≤ 8; omega, by show _ + rm.locals ≤ 240; have : rm.locals ≤ 200 := g4; omega⟩) ⟨xPx.blind, va_recv (q0 := 0) F.2.1 hP rfl rfl, F.preX hP hD hS⟩ rfl rfl hl.1 rfl (lv_room (Nat.le_of_ble_eq_true rfl)) dL_trySetting_2 ⟨by show 0 + mc ≤ MC; omega, by show 0 + ms ≤ MS; omega⟩) hS (fun q _ h => hAA q h) hAA (fun q _ h => hAA q h) ?_ ?_
  · intro E ce q9 u t H1 locs1 ht hvm _ hEB _ _ hS1 hce hcv hcl
    obtain ⟨hE, q, hP1, -, hD1⟩ := hEB
    rw [ht] at hP1
    have hD1 : va_D A _ := hD1.weaken (fun _ q _ h => hAA q.1 h)
    subst hE
    obtain rfl := hA _ rfl
    refine vx_catch (own := RL) (name := xIA) hown [] (⟨0, 5, 6, 13⟩ : ExceptionTableEntry) [] (hT.trans rfl) (fun z hz => by cases hz) rfl (by decide) (hts _ (by decide +kernel)) (va_Nw.use rfl (F.2.2.2.1.2.2.2 _ (by decide))) hce hcv hcl ?_
    refine lv_astore_n (lv' := [(2, .ref q9), (0, .ref (a 0)), (1, .int p1)]) hx hb dL_trySetting_6 rfl hl (by decide) rfl (fun ls hl => ?_)
    refine lv_ldc (v := (-9999002 : Int32)) hx hb hown (hts _ (by decide +kernel)) dL_trySetting_7 ?_
    exact gendi F hAe hP1 hD1 ⟨x' q, L' q, hI' q, rfl⟩ hS1 wv_IA.symm (by omega) (by omega) dL_trySetting_9
  · intro r u t H1 locs1 ht hvm hr hB _ _ hS1
    obtain ⟨q, hP1, -, hD1⟩ := hB
    rw [ht] at hP1
    have hD1 : va_D A _ := hD1.weaken (fun _ q _ h => hAA q.1 h)
    subst hr
    exact gendi F hAe hP1 hD1 ⟨x' q, L' q, hI' q, rfl⟩ hS1 rfl (by omega) (by omega) dL_trySetting_5
theorem k_tryPoint (l : Launch) (D : va_G) (cc : Nat → ClassId) {a : Nat → Nat} {G G' : GS} {p1 : Int32} {p2 : Int32} {B : Int32 ⊕ String} {MC MS : Nat} (hM : gV l D cc a yX6_point wsX6_point [.int p1, .int p2] G B G' MC MS) (hA : ∀ E, B = .inr E → E = xIA ∨ E = xIS) :
    gO l yL_tryPoint wsL_tryPoint (rmT MC MS) D cc a [.int p1, .int p2] G (wv B) G' MC MS := by
  intro x L Rw hI
  refine glstartW (bc := cL_tryPoint) (maxL := 4) (ret := (some .int)) (by decide) rfl rfl (Nat.le_of_ble_eq_true rfl) ?_
  intro p e s m below meth c A hAe F hT hP hD hS ls hl
  have hx := F.1.1.1
  have hb := F.1.1.2.1
  have hown := F.1.1.2.2.2.1
  have hts := F.1.1.2.2.2.2
  have hCc := F.2.2.2.2.1
  have hl : lv_has ls 4 [(0, .ref (a 0)), (1, .int p1), (2, .int p2)] := hl
  obtain ⟨L1, x', L', rm, mc, ms, tu, hM, hI', hrm⟩ := hM x L hI
  have hP := tu.P hP
  have hD := tu.D hD
  have hAA := F.into hD hS
  have g1 := hrm.2.2.1
  have g2 := hrm.2.2.2.1
  have g3 := hrm.2.2.2.2.1
  have g4 := hrm.2.2.2.2.2
  refine lv_aload_n hx hb dL_tryPoint_0 rfl (lv_at hl 0 rfl) ?_
  refine lv_iload_n hx hb dL_tryPoint_1 rfl (lv_at hl 1 rfl) ?_
  refine lv_iload_n hx hb dL_tryPoint_2 rfl (lv_at hl 2 rfl) ?_
  refine vx_calli (vx_runV (As := [.int p1, .int p2]) (rest := []) F.1.1 (hM Rw s.heap.size) (cwV 2 hts gL_tryPoint_X6_point rfl hrm.1 hrm.2.1 (by decide +kernel) ⟨by show rm.frames + 1 ≤ 8; omega, by show _ + rm.locals ≤ 240; have : rm.locals ≤ 200 := g4; omega⟩) ⟨xPx.blind, va_recv (q0 := 0) F.2.1 hP rfl rfl, F.preX hP hD hS⟩ rfl rfl hl.1 rfl (lv_room (Nat.le_of_ble_eq_true rfl)) dL_tryPoint_3 ⟨by show 0 + mc ≤ MC; omega, by show 0 + ms ≤ MS; omega⟩) hS (fun q _ h => hAA q h) hAA (fun q _ h => hAA q h) ?_ ?_
  · intro E ce q9 u t H1 locs1 ht hvm _ hEB _ _ hS1 hce hcv hcl
    obtain ⟨hE, q, hP1, -, hD1⟩ := hEB
    rw [ht] at hP1
    have hD1 : va_D A _ := hD1.weaken (fun _ q _ h => hAA q.1 h)
    subst hE
    rcases hA _ rfl with rfl | rfl
    · refine vx_catch (own := RL) (name := xIA) hown [] (⟨0, 6, 7, 13⟩ : ExceptionTableEntry) [(⟨0, 6, 11, 24⟩ : ExceptionTableEntry)] (hT.trans rfl) (fun z hz => by cases hz) rfl (by decide) (hts _ (by decide +kernel)) (va_Nw.use rfl (F.2.2.2.1.2.2.2 _ (by decide))) hce hcv hcl ?_
      refine lv_astore_n (lv' := [(3, .ref q9), (0, .ref (a 0)), (1, .int p1), (2, .int p2)]) hx hb dL_tryPoint_7 rfl hl (by decide) rfl (fun ls hl => ?_)
      refine lv_ldc (v := (-9999002 : Int32)) hx hb hown (hts _ (by decide +kernel)) dL_tryPoint_8 ?_
      exact gendi F hAe hP1 hD1 ⟨x' q, L' q, hI' q, rfl⟩ hS1 wv_IA.symm (by omega) (by omega) dL_tryPoint_10
    · refine vx_catch (own := RL) (name := xIS) hown [(⟨0, 6, 7, 13⟩ : ExceptionTableEntry)] (⟨0, 6, 11, 24⟩ : ExceptionTableEntry) [] (hT.trans rfl) (fun z hz => by
        rcases List.mem_cons.mp hz with rfl | hz
        · exact Or.inr ⟨by decide, xIA, hts _ (by decide +kernel), hCc.1⟩
        · cases hz) rfl (by decide) (hts _ (by decide +kernel)) (va_Nw.use rfl (F.2.2.2.1.2.2.2 _ (by decide))) hce hcv hcl ?_
      refine lv_astore_n (lv' := [(3, .ref q9), (0, .ref (a 0)), (1, .int p1), (2, .int p2)]) hx hb dL_tryPoint_11 rfl hl (by decide) rfl (fun ls hl => ?_)
      refine lv_ldc (v := (-9999003 : Int32)) hx hb hown (hts _ (by decide +kernel)) dL_tryPoint_12 ?_
      exact gendi F hAe hP1 hD1 ⟨x' q, L' q, hI' q, rfl⟩ hS1 wv_IS.symm (by omega) (by omega) dL_tryPoint_14
  · intro r u t H1 locs1 ht hvm hr hB _ _ hS1
    obtain ⟨q, hP1, -, hD1⟩ := hB
    rw [ht] at hP1
    have hD1 : va_D A _ := hD1.weaken (fun _ q _ h => hAA q.1 h)
    subst hr
    exact gendi F hAe hP1 hD1 ⟨x' q, L' q, hI' q, rfl⟩ hS1 rfl (by omega) (by omega) dL_tryPoint_6
theorem k_tryDraw (l : Launch) (D : va_G) (cc : Nat → ClassId) {a : Nat → Nat} {G G' : GS}  {B : Int32 ⊕ String} {MC MS : Nat} (hM : gV l D cc a yX6_draw wsX6_draw [] G B G' MC MS) (hA : ∀ E, B = .inr E → E = xIS) :
    gO l yL_tryDraw wsL_tryDraw (rmT MC MS) D cc a [] G (wv B) G' MC MS := by
  intro x L Rw hI
  refine glstartW (bc := cL_tryDraw) (maxL := 2) (ret := (some .int)) (by decide) rfl rfl (Nat.le_of_ble_eq_true rfl) ?_
  intro p e s m below meth c A hAe F hT hP hD hS ls hl
  have hx := F.1.1.1
  have hb := F.1.1.2.1
  have hown := F.1.1.2.2.2.1
  have hts := F.1.1.2.2.2.2
  have hCc := F.2.2.2.2.1
  have hl : lv_has ls 2 [(0, .ref (a 0))] := hl
  obtain ⟨L1, x', L', rm, mc, ms, tu, hM, hI', hrm⟩ := hM x L hI
  have hP := tu.P hP
  have hD := tu.D hD
  have hAA := F.into hD hS
  have g1 := hrm.2.2.1
  have g2 := hrm.2.2.2.1
  have g3 := hrm.2.2.2.2.1
  have g4 := hrm.2.2.2.2.2
  refine lv_aload_n hx hb dL_tryDraw_0 rfl (lv_at hl 0 rfl) ?_
  refine vx_calli (vx_runV (As := []) (rest := []) F.1.1 (hM Rw s.heap.size) (cwV 0 hts gL_tryDraw_X6_draw rfl hrm.1 hrm.2.1 (by decide +kernel) ⟨by show rm.frames + 1 ≤ 8; omega, by show _ + rm.locals ≤ 240; have : rm.locals ≤ 200 := g4; omega⟩) ⟨xPx.blind, va_recv (q0 := 0) F.2.1 hP rfl rfl, F.preX hP hD hS⟩ rfl rfl hl.1 rfl (lv_room (Nat.le_of_ble_eq_true rfl)) dL_tryDraw_1 ⟨by show 0 + mc ≤ MC; omega, by show 0 + ms ≤ MS; omega⟩) hS (fun q _ h => hAA q h) hAA (fun q _ h => hAA q h) ?_ ?_
  · intro E ce q9 u t H1 locs1 ht hvm _ hEB _ _ hS1 hce hcv hcl
    obtain ⟨hE, q, hP1, -, hD1⟩ := hEB
    rw [ht] at hP1
    have hD1 : va_D A _ := hD1.weaken (fun _ q _ h => hAA q.1 h)
    subst hE
    obtain rfl := hA _ rfl
    refine vx_catch (own := RL) (name := xIS) hown [] (⟨0, 4, 5, 24⟩ : ExceptionTableEntry) [] (hT.trans rfl) (fun z hz => by cases hz) rfl (by decide) (hts _ (by decide +kernel)) (va_Nw.use rfl (F.2.2.2.1.2.2.2 _ (by decide))) hce hcv hcl ?_
    refine lv_astore_n (lv' := [(1, .ref q9), (0, .ref (a 0))]) hx hb dL_tryDraw_5 rfl hl (by decide) rfl (fun ls hl => ?_)
    refine lv_ldc (v := (-9999003 : Int32)) hx hb hown (hts _ (by decide +kernel)) dL_tryDraw_6 ?_
    exact gendi F hAe hP1 hD1 ⟨x' q, L' q, hI' q, rfl⟩ hS1 wv_IS.symm (by omega) (by omega) dL_tryDraw_8
  · intro r u t H1 locs1 ht hvm hr hB _ _ hS1
    obtain ⟨q, hP1, -, hD1⟩ := hB
    rw [ht] at hP1
    have hD1 : va_D A _ := hD1.weaken (fun _ q _ h => hAA q.1 h)
    subst hr
    exact gendi F hAe hP1 hD1 ⟨x' q, L' q, hI' q, rfl⟩ hS1 rfl (by omega) (by omega) dL_tryDraw_4
theorem k_tryLearn (l : Launch) (D : va_G) (cc : Nat → ClassId) {a : Nat → Nat} {G G' : GS} {p1 : Int32} {B : Int32 ⊕ String} {MC MS : Nat} (hM : gV l D cc a yX6_learn wsX6_learn [.int p1] G B G' MC MS) (hA : ∀ E, B = .inr E → E = xIA ∨ E = xIS) :
    gO l yL_tryLearn wsL_tryLearn (rmT MC MS) D cc a [.int p1] G (wv B) G' MC MS := by
  intro x L Rw hI
  refine glstartW (bc := cL_tryLearn) (maxL := 3) (ret := (some .int)) (by decide) rfl rfl (Nat.le_of_ble_eq_true rfl) ?_
  intro p e s m below meth c A hAe F hT hP hD hS ls hl
  have hx := F.1.1.1
  have hb := F.1.1.2.1
  have hown := F.1.1.2.2.2.1
  have hts := F.1.1.2.2.2.2
  have hCc := F.2.2.2.2.1
  have hl : lv_has ls 3 [(0, .ref (a 0)), (1, .int p1)] := hl
  obtain ⟨L1, x', L', rm, mc, ms, tu, hM, hI', hrm⟩ := hM x L hI
  have hP := tu.P hP
  have hD := tu.D hD
  have hAA := F.into hD hS
  have g1 := hrm.2.2.1
  have g2 := hrm.2.2.2.1
  have g3 := hrm.2.2.2.2.1
  have g4 := hrm.2.2.2.2.2
  refine lv_aload_n hx hb dL_tryLearn_0 rfl (lv_at hl 0 rfl) ?_
  refine lv_iload_n hx hb dL_tryLearn_1 rfl (lv_at hl 1 rfl) ?_
  refine vx_calli (vx_runV (As := [.int p1]) (rest := []) F.1.1 (hM Rw s.heap.size) (cwV 1 hts gL_tryLearn_X6_learn rfl hrm.1 hrm.2.1 (by decide +kernel) ⟨by show rm.frames + 1 ≤ 8; omega, by show _ + rm.locals ≤ 240; have : rm.locals ≤ 200 := g4; omega⟩) ⟨xPx.blind, va_recv (q0 := 0) F.2.1 hP rfl rfl, F.preX hP hD hS⟩ rfl rfl hl.1 rfl (lv_room (Nat.le_of_ble_eq_true rfl)) dL_tryLearn_2 ⟨by show 0 + mc ≤ MC; omega, by show 0 + ms ≤ MS; omega⟩) hS (fun q _ h => hAA q h) hAA (fun q _ h => hAA q h) ?_ ?_
  · intro E ce q9 u t H1 locs1 ht hvm _ hEB _ _ hS1 hce hcv hcl
    obtain ⟨hE, q, hP1, -, hD1⟩ := hEB
    rw [ht] at hP1
    have hD1 : va_D A _ := hD1.weaken (fun _ q _ h => hAA q.1 h)
    subst hE
    rcases hA _ rfl with rfl | rfl
    · refine vx_catch (own := RL) (name := xIA) hown [] (⟨0, 5, 6, 13⟩ : ExceptionTableEntry) [(⟨0, 5, 10, 24⟩ : ExceptionTableEntry)] (hT.trans rfl) (fun z hz => by cases hz) rfl (by decide) (hts _ (by decide +kernel)) (va_Nw.use rfl (F.2.2.2.1.2.2.2 _ (by decide))) hce hcv hcl ?_
      refine lv_astore_n (lv' := [(2, .ref q9), (0, .ref (a 0)), (1, .int p1)]) hx hb dL_tryLearn_6 rfl hl (by decide) rfl (fun ls hl => ?_)
      refine lv_ldc (v := (-9999002 : Int32)) hx hb hown (hts _ (by decide +kernel)) dL_tryLearn_7 ?_
      exact gendi F hAe hP1 hD1 ⟨x' q, L' q, hI' q, rfl⟩ hS1 wv_IA.symm (by omega) (by omega) dL_tryLearn_9
    · refine vx_catch (own := RL) (name := xIS) hown [(⟨0, 5, 6, 13⟩ : ExceptionTableEntry)] (⟨0, 5, 10, 24⟩ : ExceptionTableEntry) [] (hT.trans rfl) (fun z hz => by
        rcases List.mem_cons.mp hz with rfl | hz
        · exact Or.inr ⟨by decide, xIA, hts _ (by decide +kernel), hCc.1⟩
        · cases hz) rfl (by decide) (hts _ (by decide +kernel)) (va_Nw.use rfl (F.2.2.2.1.2.2.2 _ (by decide))) hce hcv hcl ?_
      refine lv_astore_n (lv' := [(2, .ref q9), (0, .ref (a 0)), (1, .int p1)]) hx hb dL_tryLearn_10 rfl hl (by decide) rfl (fun ls hl => ?_)
      refine lv_ldc (v := (-9999003 : Int32)) hx hb hown (hts _ (by decide +kernel)) dL_tryLearn_11 ?_
      exact gendi F hAe hP1 hD1 ⟨x' q, L' q, hI' q, rfl⟩ hS1 wv_IS.symm (by omega) (by omega) dL_tryLearn_13
  · intro r u t H1 locs1 ht hvm hr hB _ _ hS1
    obtain ⟨q, hP1, -, hD1⟩ := hB
    rw [ht] at hP1
    have hD1 : va_D A _ := hD1.weaken (fun _ q _ h => hAA q.1 h)
    subst hr
    exact gendi F hAe hP1 hD1 ⟨x' q, L' q, hI' q, rfl⟩ hS1 rfl (by omega) (by omega) dL_tryLearn_5
theorem k_tryForget (l : Launch) (D : va_G) (cc : Nat → ClassId) {a : Nat → Nat} {G G' : GS} {p1 : Int32} {B : Int32 ⊕ String} {MC MS : Nat} (hM : gV l D cc a yX6_forget wsX6_forget [.int p1] G B G' MC MS) (hA : ∀ E, B = .inr E → E = xIO) :
    gO l yL_tryForget wsL_tryForget (rmT MC MS) D cc a [.int p1] G (wv B) G' MC MS := by
  intro x L Rw hI
  refine glstartW (bc := cL_tryForget) (maxL := 3) (ret := (some .int)) (by decide) rfl rfl (Nat.le_of_ble_eq_true rfl) ?_
  intro p e s m below meth c A hAe F hT hP hD hS ls hl
  have hx := F.1.1.1
  have hb := F.1.1.2.1
  have hown := F.1.1.2.2.2.1
  have hts := F.1.1.2.2.2.2
  have hCc := F.2.2.2.2.1
  have hl : lv_has ls 3 [(0, .ref (a 0)), (1, .int p1)] := hl
  obtain ⟨L1, x', L', rm, mc, ms, tu, hM, hI', hrm⟩ := hM x L hI
  have hP := tu.P hP
  have hD := tu.D hD
  have hAA := F.into hD hS
  have g1 := hrm.2.2.1
  have g2 := hrm.2.2.2.1
  have g3 := hrm.2.2.2.2.1
  have g4 := hrm.2.2.2.2.2
  refine lv_aload_n hx hb dL_tryForget_0 rfl (lv_at hl 0 rfl) ?_
  refine lv_iload_n hx hb dL_tryForget_1 rfl (lv_at hl 1 rfl) ?_
  refine vx_calli (vx_runV (As := [.int p1]) (rest := []) F.1.1 (hM Rw s.heap.size) (cwV 1 hts gL_tryForget_X6_forget rfl hrm.1 hrm.2.1 (by decide +kernel) ⟨by show rm.frames + 1 ≤ 8; omega, by show _ + rm.locals ≤ 240; have : rm.locals ≤ 200 := g4; omega⟩) ⟨xPx.blind, va_recv (q0 := 0) F.2.1 hP rfl rfl, F.preX hP hD hS⟩ rfl rfl hl.1 rfl (lv_room (Nat.le_of_ble_eq_true rfl)) dL_tryForget_2 ⟨by show 0 + mc ≤ MC; omega, by show 0 + ms ≤ MS; omega⟩) hS (fun q _ h => hAA q h) hAA (fun q _ h => hAA q h) ?_ ?_
  · intro E ce q9 u t H1 locs1 ht hvm _ hEB _ _ hS1 hce hcv hcl
    obtain ⟨hE, q, hP1, -, hD1⟩ := hEB
    rw [ht] at hP1
    have hD1 : va_D A _ := hD1.weaken (fun _ q _ h => hAA q.1 h)
    subst hE
    obtain rfl := hA _ rfl
    refine vx_catch (own := RL) (name := xIO) hown [] (⟨0, 5, 6, 37⟩ : ExceptionTableEntry) [] (hT.trans rfl) (fun z hz => by cases hz) rfl (by decide) (hts _ (by decide +kernel)) (va_Nw.use rfl (F.2.2.2.1.2.2.2 _ (by decide))) hce hcv hcl ?_
    refine lv_astore_n (lv' := [(2, .ref q9), (0, .ref (a 0)), (1, .int p1)]) hx hb dL_tryForget_6 rfl hl (by decide) rfl (fun ls hl => ?_)
    refine lv_ldc (v := (-9999001 : Int32)) hx hb hown (hts _ (by decide +kernel)) dL_tryForget_7 ?_
    exact gendi F hAe hP1 hD1 ⟨x' q, L' q, hI' q, rfl⟩ hS1 wv_IO.symm (by omega) (by omega) dL_tryForget_9
  · intro r u t H1 locs1 ht hvm hr hB _ _ hS1
    obtain ⟨q, hP1, -, hD1⟩ := hB
    rw [ht] at hP1
    have hD1 : va_D A _ := hD1.weaken (fun _ q _ h => hAA q.1 h)
    subst hr
    exact gendi F hAe hP1 hD1 ⟨x' q, L' q, hI' q, rfl⟩ hS1 rfl (by omega) (by omega) dL_tryForget_5
theorem k_tryPractise (l : Launch) (D : va_G) (cc : Nat → ClassId) {a : Nat → Nat} {G G' : GS} {p1 : Int32} {B : Int32 ⊕ String} {MC MS : Nat} (hM : gV l D cc a yX6_practise wsX6_practise [.int p1] G B G' MC MS) (hA : ∀ E, B = .inr E → E = xIA ∨ E = xIS) :
    gO l yL_tryPractise wsL_tryPractise (rmT MC MS) D cc a [.int p1] G (wv B) G' MC MS := by
  intro x L Rw hI
  refine glstartW (bc := cL_tryPractise) (maxL := 3) (ret := (some .int)) (by decide) rfl rfl (Nat.le_of_ble_eq_true rfl) ?_
  intro p e s m below meth c A hAe F hT hP hD hS ls hl
  have hx := F.1.1.1
  have hb := F.1.1.2.1
  have hown := F.1.1.2.2.2.1
  have hts := F.1.1.2.2.2.2
  have hCc := F.2.2.2.2.1
  have hl : lv_has ls 3 [(0, .ref (a 0)), (1, .int p1)] := hl
  obtain ⟨L1, x', L', rm, mc, ms, tu, hM, hI', hrm⟩ := hM x L hI
  have hP := tu.P hP
  have hD := tu.D hD
  have hAA := F.into hD hS
  have g1 := hrm.2.2.1
  have g2 := hrm.2.2.2.1
  have g3 := hrm.2.2.2.2.1
  have g4 := hrm.2.2.2.2.2
  refine lv_aload_n hx hb dL_tryPractise_0 rfl (lv_at hl 0 rfl) ?_
  refine lv_iload_n hx hb dL_tryPractise_1 rfl (lv_at hl 1 rfl) ?_
  refine vx_calli (vx_runV (As := [.int p1]) (rest := []) F.1.1 (hM Rw s.heap.size) (cwV 1 hts gL_tryPractise_X6_practise rfl hrm.1 hrm.2.1 (by decide +kernel) ⟨by show rm.frames + 1 ≤ 8; omega, by show _ + rm.locals ≤ 240; have : rm.locals ≤ 200 := g4; omega⟩) ⟨xPx.blind, va_recv (q0 := 0) F.2.1 hP rfl rfl, F.preX hP hD hS⟩ rfl rfl hl.1 rfl (lv_room (Nat.le_of_ble_eq_true rfl)) dL_tryPractise_2 ⟨by show 0 + mc ≤ MC; omega, by show 0 + ms ≤ MS; omega⟩) hS (fun q _ h => hAA q h) hAA (fun q _ h => hAA q h) ?_ ?_
  · intro E ce q9 u t H1 locs1 ht hvm _ hEB _ _ hS1 hce hcv hcl
    obtain ⟨hE, q, hP1, -, hD1⟩ := hEB
    rw [ht] at hP1
    have hD1 : va_D A _ := hD1.weaken (fun _ q _ h => hAA q.1 h)
    subst hE
    rcases hA _ rfl with rfl | rfl
    · refine vx_catch (own := RL) (name := xIA) hown [] (⟨0, 5, 6, 13⟩ : ExceptionTableEntry) [(⟨0, 5, 10, 24⟩ : ExceptionTableEntry)] (hT.trans rfl) (fun z hz => by cases hz) rfl (by decide) (hts _ (by decide +kernel)) (va_Nw.use rfl (F.2.2.2.1.2.2.2 _ (by decide))) hce hcv hcl ?_
      refine lv_astore_n (lv' := [(2, .ref q9), (0, .ref (a 0)), (1, .int p1)]) hx hb dL_tryPractise_6 rfl hl (by decide) rfl (fun ls hl => ?_)
      refine lv_ldc (v := (-9999002 : Int32)) hx hb hown (hts _ (by decide +kernel)) dL_tryPractise_7 ?_
      exact gendi F hAe hP1 hD1 ⟨x' q, L' q, hI' q, rfl⟩ hS1 wv_IA.symm (by omega) (by omega) dL_tryPractise_9
    · refine vx_catch (own := RL) (name := xIS) hown [(⟨0, 5, 6, 13⟩ : ExceptionTableEntry)] (⟨0, 5, 10, 24⟩ : ExceptionTableEntry) [] (hT.trans rfl) (fun z hz => by
        rcases List.mem_cons.mp hz with rfl | hz
        · exact Or.inr ⟨by decide, xIA, hts _ (by decide +kernel), hCc.1⟩
        · cases hz) rfl (by decide) (hts _ (by decide +kernel)) (va_Nw.use rfl (F.2.2.2.1.2.2.2 _ (by decide))) hce hcv hcl ?_
      refine lv_astore_n (lv' := [(2, .ref q9), (0, .ref (a 0)), (1, .int p1)]) hx hb dL_tryPractise_10 rfl hl (by decide) rfl (fun ls hl => ?_)
      refine lv_ldc (v := (-9999003 : Int32)) hx hb hown (hts _ (by decide +kernel)) dL_tryPractise_11 ?_
      exact gendi F hAe hP1 hD1 ⟨x' q, L' q, hI' q, rfl⟩ hS1 wv_IS.symm (by omega) (by omega) dL_tryPractise_13
  · intro r u t H1 locs1 ht hvm hr hB _ _ hS1
    obtain ⟨q, hP1, -, hD1⟩ := hB
    rw [ht] at hP1
    have hD1 : va_D A _ := hD1.weaken (fun _ q _ h => hAA q.1 h)
    subst hr
    exact gendi F hAe hP1 hD1 ⟨x' q, L' q, hI' q, rfl⟩ hS1 rfl (by omega) (by omega) dL_tryPractise_5
theorem k_trySet (l : Launch) (D : va_G) (cc : Nat → ClassId) {a : Nat → Nat} {G G' : GS} {p1 : Int32} {p2 : Int32} {B : Int32 ⊕ String} {MC MS : Nat} (hM : gV l D cc a yX6_set wsX6_set [.int p1, .int p2] G B G' MC MS) (hA : ∀ E, B = .inr E → E = xIA ∨ E = xIS) :
    gO l yL_trySet wsL_trySet (rmT MC MS) D cc a [.int p1, .int p2] G (wv B) G' MC MS := by
  intro x L Rw hI
  refine glstartW (bc := cL_trySet) (maxL := 4) (ret := (some .int)) (by decide) rfl rfl (Nat.le_of_ble_eq_true rfl) ?_
  intro p e s m below meth c A hAe F hT hP hD hS ls hl
  have hx := F.1.1.1
  have hb := F.1.1.2.1
  have hown := F.1.1.2.2.2.1
  have hts := F.1.1.2.2.2.2
  have hCc := F.2.2.2.2.1
  have hl : lv_has ls 4 [(0, .ref (a 0)), (1, .int p1), (2, .int p2)] := hl
  obtain ⟨L1, x', L', rm, mc, ms, tu, hM, hI', hrm⟩ := hM x L hI
  have hP := tu.P hP
  have hD := tu.D hD
  have hAA := F.into hD hS
  have g1 := hrm.2.2.1
  have g2 := hrm.2.2.2.1
  have g3 := hrm.2.2.2.2.1
  have g4 := hrm.2.2.2.2.2
  refine lv_aload_n hx hb dL_trySet_0 rfl (lv_at hl 0 rfl) ?_
  refine lv_iload_n hx hb dL_trySet_1 rfl (lv_at hl 1 rfl) ?_
  refine lv_iload_n hx hb dL_trySet_2 rfl (lv_at hl 2 rfl) ?_
  refine vx_calli (vx_runV (As := [.int p1, .int p2]) (rest := []) F.1.1 (hM Rw s.heap.size) (cwV 2 hts gL_trySet_X6_set rfl hrm.1 hrm.2.1 (by decide +kernel) ⟨by show rm.frames + 1 ≤ 8; omega, by show _ + rm.locals ≤ 240; have : rm.locals ≤ 200 := g4; omega⟩) ⟨xPx.blind, va_recv (q0 := 0) F.2.1 hP rfl rfl, F.preX hP hD hS⟩ rfl rfl hl.1 rfl (lv_room (Nat.le_of_ble_eq_true rfl)) dL_trySet_3 ⟨by show 0 + mc ≤ MC; omega, by show 0 + ms ≤ MS; omega⟩) hS (fun q _ h => hAA q h) hAA (fun q _ h => hAA q h) ?_ ?_
  · intro E ce q9 u t H1 locs1 ht hvm _ hEB _ _ hS1 hce hcv hcl
    obtain ⟨hE, q, hP1, -, hD1⟩ := hEB
    rw [ht] at hP1
    have hD1 : va_D A _ := hD1.weaken (fun _ q _ h => hAA q.1 h)
    subst hE
    rcases hA _ rfl with rfl | rfl
    · refine vx_catch (own := RL) (name := xIA) hown [] (⟨0, 6, 7, 13⟩ : ExceptionTableEntry) [(⟨0, 6, 11, 24⟩ : ExceptionTableEntry)] (hT.trans rfl) (fun z hz => by cases hz) rfl (by decide) (hts _ (by decide +kernel)) (va_Nw.use rfl (F.2.2.2.1.2.2.2 _ (by decide))) hce hcv hcl ?_
      refine lv_astore_n (lv' := [(3, .ref q9), (0, .ref (a 0)), (1, .int p1), (2, .int p2)]) hx hb dL_trySet_7 rfl hl (by decide) rfl (fun ls hl => ?_)
      refine lv_ldc (v := (-9999002 : Int32)) hx hb hown (hts _ (by decide +kernel)) dL_trySet_8 ?_
      exact gendi F hAe hP1 hD1 ⟨x' q, L' q, hI' q, rfl⟩ hS1 wv_IA.symm (by omega) (by omega) dL_trySet_10
    · refine vx_catch (own := RL) (name := xIS) hown [(⟨0, 6, 7, 13⟩ : ExceptionTableEntry)] (⟨0, 6, 11, 24⟩ : ExceptionTableEntry) [] (hT.trans rfl) (fun z hz => by
        rcases List.mem_cons.mp hz with rfl | hz
        · exact Or.inr ⟨by decide, xIA, hts _ (by decide +kernel), hCc.1⟩
        · cases hz) rfl (by decide) (hts _ (by decide +kernel)) (va_Nw.use rfl (F.2.2.2.1.2.2.2 _ (by decide))) hce hcv hcl ?_
      refine lv_astore_n (lv' := [(3, .ref q9), (0, .ref (a 0)), (1, .int p1), (2, .int p2)]) hx hb dL_trySet_11 rfl hl (by decide) rfl (fun ls hl => ?_)
      refine lv_ldc (v := (-9999003 : Int32)) hx hb hown (hts _ (by decide +kernel)) dL_trySet_12 ?_
      exact gendi F hAe hP1 hD1 ⟨x' q, L' q, hI' q, rfl⟩ hS1 wv_IS.symm (by omega) (by omega) dL_trySet_14
  · intro r u t H1 locs1 ht hvm hr hB _ _ hS1
    obtain ⟨q, hP1, -, hD1⟩ := hB
    rw [ht] at hP1
    have hD1 : va_D A _ := hD1.weaken (fun _ q _ h => hAA q.1 h)
    subst hr
    exact gendi F hAe hP1 hD1 ⟨x' q, L' q, hI' q, rfl⟩ hS1 rfl (by omega) (by omega) dL_trySet_6
theorem k_tryUndo (l : Launch) (D : va_G) (cc : Nat → ClassId) {a : Nat → Nat} {G G' : GS}  {B : Int32 ⊕ String} {MC MS : Nat} (hM : gV l D cc a yX6_undo wsX6_undo [] G B G' MC MS) (hA : ∀ E, B = .inr E → E = xIS) :
    gO l yL_tryUndo wsL_tryUndo (rmT MC MS) D cc a [] G (wv B) G' MC MS := by
  intro x L Rw hI
  refine glstartW (bc := cL_tryUndo) (maxL := 2) (ret := (some .int)) (by decide) rfl rfl (Nat.le_of_ble_eq_true rfl) ?_
  intro p e s m below meth c A hAe F hT hP hD hS ls hl
  have hx := F.1.1.1
  have hb := F.1.1.2.1
  have hown := F.1.1.2.2.2.1
  have hts := F.1.1.2.2.2.2
  have hCc := F.2.2.2.2.1
  have hl : lv_has ls 2 [(0, .ref (a 0))] := hl
  obtain ⟨L1, x', L', rm, mc, ms, tu, hM, hI', hrm⟩ := hM x L hI
  have hP := tu.P hP
  have hD := tu.D hD
  have hAA := F.into hD hS
  have g1 := hrm.2.2.1
  have g2 := hrm.2.2.2.1
  have g3 := hrm.2.2.2.2.1
  have g4 := hrm.2.2.2.2.2
  refine lv_aload_n hx hb dL_tryUndo_0 rfl (lv_at hl 0 rfl) ?_
  refine vx_calli (vx_runV (As := []) (rest := []) F.1.1 (hM Rw s.heap.size) (cwV 0 hts gL_tryUndo_X6_undo rfl hrm.1 hrm.2.1 (by decide +kernel) ⟨by show rm.frames + 1 ≤ 8; omega, by show _ + rm.locals ≤ 240; have : rm.locals ≤ 200 := g4; omega⟩) ⟨xPx.blind, va_recv (q0 := 0) F.2.1 hP rfl rfl, F.preX hP hD hS⟩ rfl rfl hl.1 rfl (lv_room (Nat.le_of_ble_eq_true rfl)) dL_tryUndo_1 ⟨by show 0 + mc ≤ MC; omega, by show 0 + ms ≤ MS; omega⟩) hS (fun q _ h => hAA q h) hAA (fun q _ h => hAA q h) ?_ ?_
  · intro E ce q9 u t H1 locs1 ht hvm _ hEB _ _ hS1 hce hcv hcl
    obtain ⟨hE, q, hP1, -, hD1⟩ := hEB
    rw [ht] at hP1
    have hD1 : va_D A _ := hD1.weaken (fun _ q _ h => hAA q.1 h)
    subst hE
    obtain rfl := hA _ rfl
    refine vx_catch (own := RL) (name := xIS) hown [] (⟨0, 4, 5, 24⟩ : ExceptionTableEntry) [] (hT.trans rfl) (fun z hz => by cases hz) rfl (by decide) (hts _ (by decide +kernel)) (va_Nw.use rfl (F.2.2.2.1.2.2.2 _ (by decide))) hce hcv hcl ?_
    refine lv_astore_n (lv' := [(1, .ref q9), (0, .ref (a 0))]) hx hb dL_tryUndo_5 rfl hl (by decide) rfl (fun ls hl => ?_)
    refine lv_ldc (v := (-9999003 : Int32)) hx hb hown (hts _ (by decide +kernel)) dL_tryUndo_6 ?_
    exact gendi F hAe hP1 hD1 ⟨x' q, L' q, hI' q, rfl⟩ hS1 wv_IS.symm (by omega) (by omega) dL_tryUndo_8
  · intro r u t H1 locs1 ht hvm hr hB _ _ hS1
    obtain ⟨q, hP1, -, hD1⟩ := hB
    rw [ht] at hP1
    have hD1 : va_D A _ := hD1.weaken (fun _ q _ h => hAA q.1 h)
    subst hr
    exact gendi F hAe hP1 hD1 ⟨x' q, L' q, hI' q, rfl⟩ hS1 rfl (by omega) (by omega) dL_tryUndo_4
theorem k_tryRead (l : Launch) (D : va_G) (cc : Nat → ClassId) {a : Nat → Nat} {G G' : GS} {p1 : Int32} {B : Int32 ⊕ String} {MC MS : Nat} (hM : gV l D cc a yX6_read wsX6_read [.int p1] G B G' MC MS) (hA : ∀ E, B = .inr E → E = xIA) :
    gO l yL_tryRead wsL_tryRead (rmT MC MS) D cc a [.int p1] G (wv B) G' MC MS := by
  intro x L Rw hI
  refine glstartW (bc := cL_tryRead) (maxL := 3) (ret := (some .int)) (by decide) rfl rfl (Nat.le_of_ble_eq_true rfl) ?_
  intro p e s m below meth c A hAe F hT hP hD hS ls hl
  have hx := F.1.1.1
  have hb := F.1.1.2.1
  have hown := F.1.1.2.2.2.1
  have hts := F.1.1.2.2.2.2
  have hCc := F.2.2.2.2.1
  have hl : lv_has ls 3 [(0, .ref (a 0)), (1, .int p1)] := hl
  obtain ⟨L1, x', L', rm, mc, ms, tu, hM, hI', hrm⟩ := hM x L hI
  have hP := tu.P hP
  have hD := tu.D hD
  have hAA := F.into hD hS
  have g1 := hrm.2.2.1
  have g2 := hrm.2.2.2.1
  have g3 := hrm.2.2.2.2.1
  have g4 := hrm.2.2.2.2.2
  refine lv_aload_n hx hb dL_tryRead_0 rfl (lv_at hl 0 rfl) ?_
  refine lv_iload_n hx hb dL_tryRead_1 rfl (lv_at hl 1 rfl) ?_
  refine vx_calli (vx_runV (As := [.int p1]) (rest := []) F.1.1 (hM Rw s.heap.size) (cwV 1 hts gL_tryRead_X6_read rfl hrm.1 hrm.2.1 (by decide +kernel) ⟨by show rm.frames + 1 ≤ 8; omega, by show _ + rm.locals ≤ 240; have : rm.locals ≤ 200 := g4; omega⟩) ⟨xPx.blind, va_recv (q0 := 0) F.2.1 hP rfl rfl, F.preX hP hD hS⟩ rfl rfl hl.1 rfl (lv_room (Nat.le_of_ble_eq_true rfl)) dL_tryRead_2 ⟨by show 0 + mc ≤ MC; omega, by show 0 + ms ≤ MS; omega⟩) hS (fun q _ h => hAA q h) hAA (fun q _ h => hAA q h) ?_ ?_
  · intro E ce q9 u t H1 locs1 ht hvm _ hEB _ _ hS1 hce hcv hcl
    obtain ⟨hE, q, hP1, -, hD1⟩ := hEB
    rw [ht] at hP1
    have hD1 : va_D A _ := hD1.weaken (fun _ q _ h => hAA q.1 h)
    subst hE
    obtain rfl := hA _ rfl
    refine vx_catch (own := RL) (name := xIA) hown [] (⟨0, 5, 6, 13⟩ : ExceptionTableEntry) [] (hT.trans rfl) (fun z hz => by cases hz) rfl (by decide) (hts _ (by decide +kernel)) (va_Nw.use rfl (F.2.2.2.1.2.2.2 _ (by decide))) hce hcv hcl ?_
    refine lv_astore_n (lv' := [(2, .ref q9), (0, .ref (a 0)), (1, .int p1)]) hx hb dL_tryRead_6 rfl hl (by decide) rfl (fun ls hl => ?_)
    refine lv_ldc (v := (-9999002 : Int32)) hx hb hown (hts _ (by decide +kernel)) dL_tryRead_7 ?_
    exact gendi F hAe hP1 hD1 ⟨x' q, L' q, hI' q, rfl⟩ hS1 wv_IA.symm (by omega) (by omega) dL_tryRead_9
  · intro r u t H1 locs1 ht hvm hr hB _ _ hS1
    obtain ⟨q, hP1, -, hD1⟩ := hB
    rw [ht] at hP1
    have hD1 : va_D A _ := hD1.weaken (fun _ q _ h => hAA q.1 h)
    subst hr
    exact gendi F hAe hP1 hD1 ⟨x' q, L' q, hI' q, rfl⟩ hS1 rfl (by omega) (by omega) dL_tryRead_5
theorem k_tryNearest (l : Launch) (D : va_G) (cc : Nat → ClassId) {a : Nat → Nat} {G G' : GS} {p1 : Int32} {B : Int32 ⊕ String} {MC MS : Nat} (hM : gV l D cc a yX6_nearest wsX6_nearest [.int p1] G B G' MC MS) (hA : ∀ E, B = .inr E → E = xIO) :
    gO l yL_tryNearest wsL_tryNearest (rmT MC MS) D cc a [.int p1] G (wv B) G' MC MS := by
  intro x L Rw hI
  refine glstartW (bc := cL_tryNearest) (maxL := 3) (ret := (some .int)) (by decide) rfl rfl (Nat.le_of_ble_eq_true rfl) ?_
  intro p e s m below meth c A hAe F hT hP hD hS ls hl
  have hx := F.1.1.1
  have hb := F.1.1.2.1
  have hown := F.1.1.2.2.2.1
  have hts := F.1.1.2.2.2.2
  have hCc := F.2.2.2.2.1
  have hl : lv_has ls 3 [(0, .ref (a 0)), (1, .int p1)] := hl
  obtain ⟨L1, x', L', rm, mc, ms, tu, hM, hI', hrm⟩ := hM x L hI
  have hP := tu.P hP
  have hD := tu.D hD
  have hAA := F.into hD hS
  have g1 := hrm.2.2.1
  have g2 := hrm.2.2.2.1
  have g3 := hrm.2.2.2.2.1
  have g4 := hrm.2.2.2.2.2
  refine lv_aload_n hx hb dL_tryNearest_0 rfl (lv_at hl 0 rfl) ?_
  refine lv_iload_n hx hb dL_tryNearest_1 rfl (lv_at hl 1 rfl) ?_
  refine vx_calli (vx_runV (As := [.int p1]) (rest := []) F.1.1 (hM Rw s.heap.size) (cwV 1 hts gL_tryNearest_X6_nearest rfl hrm.1 hrm.2.1 (by decide +kernel) ⟨by show rm.frames + 1 ≤ 8; omega, by show _ + rm.locals ≤ 240; have : rm.locals ≤ 200 := g4; omega⟩) ⟨xPx.blind, va_recv (q0 := 0) F.2.1 hP rfl rfl, F.preX hP hD hS⟩ rfl rfl hl.1 rfl (lv_room (Nat.le_of_ble_eq_true rfl)) dL_tryNearest_2 ⟨by show 0 + mc ≤ MC; omega, by show 0 + ms ≤ MS; omega⟩) hS (fun q _ h => hAA q h) hAA (fun q _ h => hAA q h) ?_ ?_
  · intro E ce q9 u t H1 locs1 ht hvm _ hEB _ _ hS1 hce hcv hcl
    obtain ⟨hE, q, hP1, -, hD1⟩ := hEB
    rw [ht] at hP1
    have hD1 : va_D A _ := hD1.weaken (fun _ q _ h => hAA q.1 h)
    subst hE
    obtain rfl := hA _ rfl
    refine vx_catch (own := RL) (name := xIO) hown [] (⟨0, 5, 6, 37⟩ : ExceptionTableEntry) [] (hT.trans rfl) (fun z hz => by cases hz) rfl (by decide) (hts _ (by decide +kernel)) (va_Nw.use rfl (F.2.2.2.1.2.2.2 _ (by decide))) hce hcv hcl ?_
    refine lv_astore_n (lv' := [(2, .ref q9), (0, .ref (a 0)), (1, .int p1)]) hx hb dL_tryNearest_6 rfl hl (by decide) rfl (fun ls hl => ?_)
    refine lv_ldc (v := (-9999001 : Int32)) hx hb hown (hts _ (by decide +kernel)) dL_tryNearest_7 ?_
    exact gendi F hAe hP1 hD1 ⟨x' q, L' q, hI' q, rfl⟩ hS1 wv_IO.symm (by omega) (by omega) dL_tryNearest_9
  · intro r u t H1 locs1 ht hvm hr hB _ _ hS1
    obtain ⟨q, hP1, -, hD1⟩ := hB
    rw [ht] at hP1
    have hD1 : va_D A _ := hD1.weaken (fun _ q _ h => hAA q.1 h)
    subst hr
    exact gendi F hAe hP1 hD1 ⟨x' q, L' q, hI' q, rfl⟩ hS1 rfl (by omega) (by omega) dL_tryNearest_5
theorem k_tryBetween (l : Launch) (D : va_G) (cc : Nat → ClassId) {a : Nat → Nat} {G G' : GS} {p1 : Int32} {p2 : Int32} {B : Int32 ⊕ String} {MC MS : Nat} (hM : gV l D cc a yX6_between wsX6_between [.int p1, .int p2] G B G' MC MS) (hA : ∀ E, B = .inr E → E = xIO) :
    gO l yL_tryBetween wsL_tryBetween (rmT MC MS) D cc a [.int p1, .int p2] G (wv B) G' MC MS := by
  intro x L Rw hI
  refine glstartW (bc := cL_tryBetween) (maxL := 4) (ret := (some .int)) (by decide) rfl rfl (Nat.le_of_ble_eq_true rfl) ?_
  intro p e s m below meth c A hAe F hT hP hD hS ls hl
  have hx := F.1.1.1
  have hb := F.1.1.2.1
  have hown := F.1.1.2.2.2.1
  have hts := F.1.1.2.2.2.2
  have hCc := F.2.2.2.2.1
  have hl : lv_has ls 4 [(0, .ref (a 0)), (1, .int p1), (2, .int p2)] := hl
  obtain ⟨L1, x', L', rm, mc, ms, tu, hM, hI', hrm⟩ := hM x L hI
  have hP := tu.P hP
  have hD := tu.D hD
  have hAA := F.into hD hS
  have g1 := hrm.2.2.1
  have g2 := hrm.2.2.2.1
  have g3 := hrm.2.2.2.2.1
  have g4 := hrm.2.2.2.2.2
  refine lv_aload_n hx hb dL_tryBetween_0 rfl (lv_at hl 0 rfl) ?_
  refine lv_iload_n hx hb dL_tryBetween_1 rfl (lv_at hl 1 rfl) ?_
  refine lv_iload_n hx hb dL_tryBetween_2 rfl (lv_at hl 2 rfl) ?_
  refine vx_calli (vx_runV (As := [.int p1, .int p2]) (rest := []) F.1.1 (hM Rw s.heap.size) (cwV 2 hts gL_tryBetween_X6_between rfl hrm.1 hrm.2.1 (by decide +kernel) ⟨by show rm.frames + 1 ≤ 8; omega, by show _ + rm.locals ≤ 240; have : rm.locals ≤ 200 := g4; omega⟩) ⟨xPx.blind, va_recv (q0 := 0) F.2.1 hP rfl rfl, F.preX hP hD hS⟩ rfl rfl hl.1 rfl (lv_room (Nat.le_of_ble_eq_true rfl)) dL_tryBetween_3 ⟨by show 0 + mc ≤ MC; omega, by show 0 + ms ≤ MS; omega⟩) hS (fun q _ h => hAA q h) hAA (fun q _ h => hAA q h) ?_ ?_
  · intro E ce q9 u t H1 locs1 ht hvm _ hEB _ _ hS1 hce hcv hcl
    obtain ⟨hE, q, hP1, -, hD1⟩ := hEB
    rw [ht] at hP1
    have hD1 : va_D A _ := hD1.weaken (fun _ q _ h => hAA q.1 h)
    subst hE
    obtain rfl := hA _ rfl
    refine vx_catch (own := RL) (name := xIO) hown [] (⟨0, 6, 7, 37⟩ : ExceptionTableEntry) [] (hT.trans rfl) (fun z hz => by cases hz) rfl (by decide) (hts _ (by decide +kernel)) (va_Nw.use rfl (F.2.2.2.1.2.2.2 _ (by decide))) hce hcv hcl ?_
    refine lv_astore_n (lv' := [(3, .ref q9), (0, .ref (a 0)), (1, .int p1), (2, .int p2)]) hx hb dL_tryBetween_7 rfl hl (by decide) rfl (fun ls hl => ?_)
    refine lv_ldc (v := (-9999001 : Int32)) hx hb hown (hts _ (by decide +kernel)) dL_tryBetween_8 ?_
    exact gendi F hAe hP1 hD1 ⟨x' q, L' q, hI' q, rfl⟩ hS1 wv_IO.symm (by omega) (by omega) dL_tryBetween_10
  · intro r u t H1 locs1 ht hvm hr hB _ _ hS1
    obtain ⟨q, hP1, -, hD1⟩ := hB
    rw [ht] at hP1
    have hD1 : va_D A _ := hD1.weaken (fun _ q _ h => hAA q.1 h)
    subst hr
    exact gendi F hAe hP1 hD1 ⟨x' q, L' q, hI' q, rfl⟩ hS1 rfl (by omega) (by omega) dL_tryBetween_6
theorem k_tryKeep (l : Launch) (D : va_G) (cc : Nat → ClassId) {a : Nat → Nat} {G G' : GS} {p1 : Int32} {B : Int32 ⊕ String} {MC MS : Nat} (hM : gV l D cc a yX6_save wsX6_save [.int p1] G B G' MC MS) (hA : ∀ E, B = .inr E → E = xIO) :
    gO l yL_tryKeep wsL_tryKeep (rmT MC MS) D cc a [.int p1] G (wv B) G' MC MS := by
  intro x L Rw hI
  refine glstartW (bc := cL_tryKeep) (maxL := 3) (ret := (some .int)) (by decide) rfl rfl (Nat.le_of_ble_eq_true rfl) ?_
  intro p e s m below meth c A hAe F hT hP hD hS ls hl
  have hx := F.1.1.1
  have hb := F.1.1.2.1
  have hown := F.1.1.2.2.2.1
  have hts := F.1.1.2.2.2.2
  have hCc := F.2.2.2.2.1
  have hl : lv_has ls 3 [(0, .ref (a 0)), (1, .int p1)] := hl
  obtain ⟨L1, x', L', rm, mc, ms, tu, hM, hI', hrm⟩ := hM x L hI
  have hP := tu.P hP
  have hD := tu.D hD
  have hAA := F.into hD hS
  have g1 := hrm.2.2.1
  have g2 := hrm.2.2.2.1
  have g3 := hrm.2.2.2.2.1
  have g4 := hrm.2.2.2.2.2
  refine lv_aload_n hx hb dL_tryKeep_0 rfl (lv_at hl 0 rfl) ?_
  refine lv_iload_n hx hb dL_tryKeep_1 rfl (lv_at hl 1 rfl) ?_
  refine vx_calli (vx_runV (As := [.int p1]) (rest := []) F.1.1 (hM Rw s.heap.size) (cwV 1 hts gL_tryKeep_X6_save rfl hrm.1 hrm.2.1 (by decide +kernel) ⟨by show rm.frames + 1 ≤ 8; omega, by show _ + rm.locals ≤ 240; have : rm.locals ≤ 200 := g4; omega⟩) ⟨xPx.blind, va_recv (q0 := 0) F.2.1 hP rfl rfl, F.preX hP hD hS⟩ rfl rfl hl.1 rfl (lv_room (Nat.le_of_ble_eq_true rfl)) dL_tryKeep_2 ⟨by show 0 + mc ≤ MC; omega, by show 0 + ms ≤ MS; omega⟩) hS (fun q _ h => hAA q h) hAA (fun q _ h => hAA q h) ?_ ?_
  · intro E ce q9 u t H1 locs1 ht hvm _ hEB _ _ hS1 hce hcv hcl
    obtain ⟨hE, q, hP1, -, hD1⟩ := hEB
    rw [ht] at hP1
    have hD1 : va_D A _ := hD1.weaken (fun _ q _ h => hAA q.1 h)
    subst hE
    obtain rfl := hA _ rfl
    refine vx_catch (own := RL) (name := xIO) hown [] (⟨0, 5, 6, 37⟩ : ExceptionTableEntry) [] (hT.trans rfl) (fun z hz => by cases hz) rfl (by decide) (hts _ (by decide +kernel)) (va_Nw.use rfl (F.2.2.2.1.2.2.2 _ (by decide))) hce hcv hcl ?_
    refine lv_astore_n (lv' := [(2, .ref q9), (0, .ref (a 0)), (1, .int p1)]) hx hb dL_tryKeep_6 rfl hl (by decide) rfl (fun ls hl => ?_)
    refine lv_ldc (v := (-9999001 : Int32)) hx hb hown (hts _ (by decide +kernel)) dL_tryKeep_7 ?_
    exact gendi F hAe hP1 hD1 ⟨x' q, L' q, hI' q, rfl⟩ hS1 wv_IO.symm (by omega) (by omega) dL_tryKeep_9
  · intro r u t H1 locs1 ht hvm hr hB _ _ hS1
    obtain ⟨q, hP1, -, hD1⟩ := hB
    rw [ht] at hP1
    have hD1 : va_D A _ := hD1.weaken (fun _ q _ h => hAA q.1 h)
    subst hr
    exact gendi F hAe hP1 hD1 ⟨x' q, L' q, hI' q, rfl⟩ hS1 rfl (by omega) (by omega) dL_tryKeep_5
theorem k_tryBack (l : Launch) (D : va_G) (cc : Nat → ClassId) {a : Nat → Nat} {G G' : GS} {p1 : Int32} {B : Int32 ⊕ String} {MC MS : Nat} (hM : gV l D cc a yX6_restore wsX6_restore [.int p1] G B G' MC MS) (hA : ∀ E, B = .inr E → E = xIO ∨ E = xIS) :
    gO l yL_tryBack wsL_tryBack (rmT MC MS) D cc a [.int p1] G (wv B) G' MC MS := by
  intro x L Rw hI
  refine glstartW (bc := cL_tryBack) (maxL := 3) (ret := (some .int)) (by decide) rfl rfl (Nat.le_of_ble_eq_true rfl) ?_
  intro p e s m below meth c A hAe F hT hP hD hS ls hl
  have hx := F.1.1.1
  have hb := F.1.1.2.1
  have hown := F.1.1.2.2.2.1
  have hts := F.1.1.2.2.2.2
  have hCc := F.2.2.2.2.1
  have hl : lv_has ls 3 [(0, .ref (a 0)), (1, .int p1)] := hl
  obtain ⟨L1, x', L', rm, mc, ms, tu, hM, hI', hrm⟩ := hM x L hI
  have hP := tu.P hP
  have hD := tu.D hD
  have hAA := F.into hD hS
  have g1 := hrm.2.2.1
  have g2 := hrm.2.2.2.1
  have g3 := hrm.2.2.2.2.1
  have g4 := hrm.2.2.2.2.2
  refine lv_aload_n hx hb dL_tryBack_0 rfl (lv_at hl 0 rfl) ?_
  refine lv_iload_n hx hb dL_tryBack_1 rfl (lv_at hl 1 rfl) ?_
  refine vx_calli (vx_runV (As := [.int p1]) (rest := []) F.1.1 (hM Rw s.heap.size) (cwV 1 hts gL_tryBack_X6_restore rfl hrm.1 hrm.2.1 (by decide +kernel) ⟨by show rm.frames + 1 ≤ 8; omega, by show _ + rm.locals ≤ 240; have : rm.locals ≤ 200 := g4; omega⟩) ⟨xPx.blind, va_recv (q0 := 0) F.2.1 hP rfl rfl, F.preX hP hD hS⟩ rfl rfl hl.1 rfl (lv_room (Nat.le_of_ble_eq_true rfl)) dL_tryBack_2 ⟨by show 0 + mc ≤ MC; omega, by show 0 + ms ≤ MS; omega⟩) hS (fun q _ h => hAA q h) hAA (fun q _ h => hAA q h) ?_ ?_
  · intro E ce q9 u t H1 locs1 ht hvm _ hEB _ _ hS1 hce hcv hcl
    obtain ⟨hE, q, hP1, -, hD1⟩ := hEB
    rw [ht] at hP1
    have hD1 : va_D A _ := hD1.weaken (fun _ q _ h => hAA q.1 h)
    subst hE
    rcases hA _ rfl with rfl | rfl
    · refine vx_catch (own := RL) (name := xIO) hown [] (⟨0, 5, 6, 37⟩ : ExceptionTableEntry) [(⟨0, 5, 10, 24⟩ : ExceptionTableEntry)] (hT.trans rfl) (fun z hz => by cases hz) rfl (by decide) (hts _ (by decide +kernel)) (va_Nw.use rfl (F.2.2.2.1.2.2.2 _ (by decide))) hce hcv hcl ?_
      refine lv_astore_n (lv' := [(2, .ref q9), (0, .ref (a 0)), (1, .int p1)]) hx hb dL_tryBack_6 rfl hl (by decide) rfl (fun ls hl => ?_)
      refine lv_ldc (v := (-9999001 : Int32)) hx hb hown (hts _ (by decide +kernel)) dL_tryBack_7 ?_
      exact gendi F hAe hP1 hD1 ⟨x' q, L' q, hI' q, rfl⟩ hS1 wv_IO.symm (by omega) (by omega) dL_tryBack_9
    · refine vx_catch (own := RL) (name := xIS) hown [(⟨0, 5, 6, 37⟩ : ExceptionTableEntry)] (⟨0, 5, 10, 24⟩ : ExceptionTableEntry) [] (hT.trans rfl) (fun z hz => by
        rcases List.mem_cons.mp hz with rfl | hz
        · exact Or.inr ⟨by decide, xIO, hts _ (by decide +kernel), hCc.2.2⟩
        · cases hz) rfl (by decide) (hts _ (by decide +kernel)) (va_Nw.use rfl (F.2.2.2.1.2.2.2 _ (by decide))) hce hcv hcl ?_
      refine lv_astore_n (lv' := [(2, .ref q9), (0, .ref (a 0)), (1, .int p1)]) hx hb dL_tryBack_10 rfl hl (by decide) rfl (fun ls hl => ?_)
      refine lv_ldc (v := (-9999003 : Int32)) hx hb hown (hts _ (by decide +kernel)) dL_tryBack_11 ?_
      exact gendi F hAe hP1 hD1 ⟨x' q, L' q, hI' q, rfl⟩ hS1 wv_IS.symm (by omega) (by omega) dL_tryBack_13
  · intro r u t H1 locs1 ht hvm hr hB _ _ hS1
    obtain ⟨q, hP1, -, hD1⟩ := hB
    rw [ht] at hP1
    have hD1 : va_D A _ := hD1.weaken (fun _ q _ h => hAA q.1 h)
    subst hr
    exact gendi F hAe hP1 hD1 ⟨x' q, L' q, hI' q, rfl⟩ hS1 rfl (by omega) (by omega) dL_tryBack_5
end XGTRY
