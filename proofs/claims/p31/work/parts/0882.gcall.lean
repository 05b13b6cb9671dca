/-! GHOST 9: one call -/
section XGCALL
theorem kc0 (l : Launch) (D : va_G) (cc : Nat → ClassId) {a : Nat → Nat} {G G' : GS} {p2 p3 p4 : Int32} {B : Int32 ⊕ String} {MC MS : Nat} (hM : gV l D cc a yX6_append wsX6_append [.int p2] G B G' MC MS) (hA : ∀ E, B = .inr E → E = xIA ∨ E = xIS) :
    gO l yL_call wsL_call (rmK MC MS) D cc a [.int (0 : Int32), .int p2, .int p3, .int p4] G (wv B) G' MC MS := by
  intro x L Rw hI
  refine glstart (bc := cL_call) (maxL := 5) (ret := (some .int)) (by decide) rfl rfl (Nat.le_of_ble_eq_true rfl) ?_
  intro p e s m below meth c A hAe F hP hD hS ls hl
  have hx := F.1.1.1
  have hb := F.1.1.2.1
  have hts := F.1.1.2.2.2.2
  have hl : lv_has ls 5 [(0, .ref (a 0)), (1, .int (0 : Int32)), (2, .int p2), (3, .int p3), (4, .int p4)] := hl
  have hO : HO D cc A a G Rw s.heap := ⟨x, L, hI, hP, hD⟩
  refine lv_iload_n hx hb dL_call_0 rfl (lv_at hl 1 rfl) ?_
  refine lv_tableIn (off := 87) (tgt := 88) hx hb dL_call_1 (by decide) (by decide) (by decide) (by decide) ?_
  refine lv_aload_n hx hb dL_call_88 rfl (lv_at hl 0 rfl) ?_
  refine lv_iload_n hx hb dL_call_89 rfl (lv_at hl 2 rfl) ?_
  refine gstepSW (As := [.int p2]) (rest := []) F (k_tryAppend l D cc hM hA) (vx_cwSW 2 hts gL_call_L_tryAppend rfl rfl rfl (by decide +kernel) ⟨Nat.le_of_ble_eq_true rfl, Nat.le_of_ble_eq_true rfl⟩) hO hS hl rfl rfl (Nat.le_of_ble_eq_true rfl) dL_call_90 ⟨by show 0 + MC ≤ MC; omega, by show 0 + MS ≤ MS; omega⟩ (fun H1 locs1 hO hS => ?_)
  exact gHO.endi F hAe hO hS rfl (by omega) (by omega) dL_call_93
theorem kc1 (l : Launch) (D : va_G) (cc : Nat → ClassId) {a : Nat → Nat} {G G' : GS} {p2 p3 p4 : Int32} {B : Int32 ⊕ String} {MC MS : Nat} (hM : gV l D cc a yX6_about wsX6_about [.int p2] G B G' MC MS) (hA : ∀ E, B = .inr E → E = xIA) :
    gO l yL_call wsL_call (rmK MC MS) D cc a [.int (1 : Int32), .int p2, .int p3, .int p4] G (wv B) G' MC MS := by
  intro x L Rw hI
  refine glstart (bc := cL_call) (maxL := 5) (ret := (some .int)) (by decide) rfl rfl (Nat.le_of_ble_eq_true rfl) ?_
  intro p e s m below meth c A hAe F hP hD hS ls hl
  have hx := F.1.1.1
  have hb := F.1.1.2.1
  have hts := F.1.1.2.2.2.2
  have hl : lv_has ls 5 [(0, .ref (a 0)), (1, .int (1 : Int32)), (2, .int p2), (3, .int p3), (4, .int p4)] := hl
  have hO : HO D cc A a G Rw s.heap := ⟨x, L, hI, hP, hD⟩
  refine lv_iload_n hx hb dL_call_0 rfl (lv_at hl 1 rfl) ?_
  refine lv_tableIn (off := 93) (tgt := 94) hx hb dL_call_1 (by decide) (by decide) (by decide) (by decide) ?_
  refine lv_aload_n hx hb dL_call_94 rfl (lv_at hl 0 rfl) ?_
  refine lv_iload_n hx hb dL_call_95 rfl (lv_at hl 2 rfl) ?_
  refine gstepSW (As := [.int p2]) (rest := []) F (k_tryAbout l D cc hM hA) (vx_cwSW 2 hts gL_call_L_tryAbout rfl rfl rfl (by decide +kernel) ⟨Nat.le_of_ble_eq_true rfl, Nat.le_of_ble_eq_true rfl⟩) hO hS hl rfl rfl (Nat.le_of_ble_eq_true rfl) dL_call_96 ⟨by show 0 + MC ≤ MC; omega, by show 0 + MS ≤ MS; omega⟩ (fun H1 locs1 hO hS => ?_)
  exact gHO.endi F hAe hO hS rfl (by omega) (by omega) dL_call_99
theorem kc2 (l : Launch) (D : va_G) (cc : Nat → ClassId) {a : Nat → Nat} {G G' : GS} {p2 p3 p4 : Int32} {B : Int32 ⊕ String} {MC MS : Nat} (hM : gV l D cc a yX6_sign wsX6_sign [.int p2] G B G' MC MS) (hA : ∀ E, B = .inr E → E = xIA) :
    gO l yL_call wsL_call (rmK MC MS) D cc a [.int (2 : Int32), .int p2, .int p3, .int p4] G (wv B) G' MC MS := by
  intro x L Rw hI
  refine glstart (bc := cL_call) (maxL := 5) (ret := (some .int)) (by decide) rfl rfl (Nat.le_of_ble_eq_true rfl) ?_
  intro p e s m below meth c A hAe F hP hD hS ls hl
  have hx := F.1.1.1
  have hb := F.1.1.2.1
  have hts := F.1.1.2.2.2.2
  have hl : lv_has ls 5 [(0, .ref (a 0)), (1, .int (2 : Int32)), (2, .int p2), (3, .int p3), (4, .int p4)] := hl
  have hO : HO D cc A a G Rw s.heap := ⟨x, L, hI, hP, hD⟩
  refine lv_iload_n hx hb dL_call_0 rfl (lv_at hl 1 rfl) ?_
  refine lv_tableIn (off := 99) (tgt := 100) hx hb dL_call_1 (by decide) (by decide) (by decide) (by decide) ?_
  refine lv_aload_n hx hb dL_call_100 rfl (lv_at hl 0 rfl) ?_
  refine lv_iload_n hx hb dL_call_101 rfl (lv_at hl 2 rfl) ?_
  refine gstepSW (As := [.int p2]) (rest := []) F (k_trySign l D cc hM hA) (vx_cwSW 2 hts gL_call_L_trySign rfl rfl rfl (by decide +kernel) ⟨Nat.le_of_ble_eq_true rfl, Nat.le_of_ble_eq_true rfl⟩) hO hS hl rfl rfl (Nat.le_of_ble_eq_true rfl) dL_call_102 ⟨by show 0 + MC ≤ MC; omega, by show 0 + MS ≤ MS; omega⟩ (fun H1 locs1 hO hS => ?_)
  exact gHO.endi F hAe hO hS rfl (by omega) (by omega) dL_call_105
theorem kc3 (l : Launch) (D : va_G) (cc : Nat → ClassId) {a : Nat → Nat} {G G' : GS} {p2 p3 p4 : Int32} {B : Int32 ⊕ String} {MC MS : Nat} (hM : gV l D cc a yX6_sample wsX6_sample [.int p2, .int p3] G B G' MC MS) (hA : ∀ E, B = .inr E → E = xIO ∨ E = xIA) :
    gO l yL_call wsL_call (rmK MC MS) D cc a [.int (3 : Int32), .int p2, .int p3, .int p4] G (wv B) G' MC MS := by
  intro x L Rw hI
  refine glstart (bc := cL_call) (maxL := 5) (ret := (some .int)) (by decide) rfl rfl (Nat.le_of_ble_eq_true rfl) ?_
  intro p e s m below meth c A hAe F hP hD hS ls hl
  have hx := F.1.1.1
  have hb := F.1.1.2.1
  have hts := F.1.1.2.2.2.2
  have hl : lv_has ls 5 [(0, .ref (a 0)), (1, .int (3 : Int32)), (2, .int p2), (3, .int p3), (4, .int p4)] := hl
  have hO : HO D cc A a G Rw s.heap := ⟨x, L, hI, hP, hD⟩
  refine lv_iload_n hx hb dL_call_0 rfl (lv_at hl 1 rfl) ?_
  refine lv_tableIn (off := 105) (tgt := 106) hx hb dL_call_1 (by decide) (by decide) (by decide) (by decide) ?_
  refine lv_aload_n hx hb dL_call_106 rfl (lv_at hl 0 rfl) ?_
  refine lv_iload_n hx hb dL_call_107 rfl (lv_at hl 2 rfl) ?_
  refine lv_iload_n hx hb dL_call_108 rfl (lv_at hl 3 rfl) ?_
  refine gstepSW (As := [.int p2, .int p3]) (rest := []) F (k_trySample l D cc hM hA) (vx_cwSW 3 hts gL_call_L_trySample rfl rfl rfl (by decide +kernel) ⟨Nat.le_of_ble_eq_true rfl, Nat.le_of_ble_eq_true rfl⟩) hO hS hl rfl rfl (Nat.le_of_ble_eq_true rfl) dL_call_109 ⟨by show 0 + MC ≤ MC; omega, by show 0 + MS ≤ MS; omega⟩ (fun H1 locs1 hO hS => ?_)
  exact gHO.endi F hAe hO hS rfl (by omega) (by omega) dL_call_112
theorem kc4 (l : Launch) (D : va_G) (cc : Nat → ClassId) {a : Nat → Nat} {G G' : GS} {p2 p3 p4 : Int32} {B : Int32 ⊕ String} {MC MS : Nat} (hM : gV l D cc a yX6_signOf wsX6_signOf [.int p2, .int p3] G B G' MC MS) (hA : ∀ E, B = .inr E → E = xIO ∨ E = xIA) :
    gO l yL_call wsL_call (rmK MC MS) D cc a [.int (4 : Int32), .int p2, .int p3, .int p4] G (wv B) G' MC MS := by
  intro x L Rw hI
  refine glstart (bc := cL_call) (maxL := 5) (ret := (some .int)) (by decide) rfl rfl (Nat.le_of_ble_eq_true rfl) ?_
  intro p e s m below meth c A hAe F hP hD hS ls hl
  have hx := F.1.1.1
  have hb := F.1.1.2.1
  have hts := F.1.1.2.2.2.2
  have hl : lv_has ls 5 [(0, .ref (a 0)), (1, .int (4 : Int32)), (2, .int p2), (3, .int p3), (4, .int p4)] := hl
  have hO : HO D cc A a G Rw s.heap := ⟨x, L, hI, hP, hD⟩
  refine lv_iload_n hx hb dL_call_0 rfl (lv_at hl 1 rfl) ?_
  refine lv_tableIn (off := 112) (tgt := 113) hx hb dL_call_1 (by decide) (by decide) (by decide) (by decide) ?_
  refine lv_aload_n hx hb dL_call_113 rfl (lv_at hl 0 rfl) ?_
  refine lv_iload_n hx hb dL_call_114 rfl (lv_at hl 2 rfl) ?_
  refine lv_iload_n hx hb dL_call_115 rfl (lv_at hl 3 rfl) ?_
  refine gstepSW (As := [.int p2, .int p3]) (rest := []) F (k_trySignOf l D cc hM hA) (vx_cwSW 3 hts gL_call_L_trySignOf rfl rfl rfl (by decide +kernel) ⟨Nat.le_of_ble_eq_true rfl, Nat.le_of_ble_eq_true rfl⟩) hO hS hl rfl rfl (Nat.le_of_ble_eq_true rfl) dL_call_116 ⟨by show 0 + MC ≤ MC; omega, by show 0 + MS ≤ MS; omega⟩ (fun H1 locs1 hO hS => ?_)
  exact gHO.endi F hAe hO hS rfl (by omega) (by omega) dL_call_119
theorem kc5 (l : Launch) (D : va_G) (cc : Nat → ClassId) {a : Nat → Nat} {G G' : GS} {p2 p3 p4 : Int32} {B : Int32 ⊕ String} {MC MS : Nat} (hM : gV l D cc a yX6_practised wsX6_practised [.int p2, .int p3] G B G' MC MS) (hA : ∀ E, B = .inr E → E = xIA) :
    gO l yL_call wsL_call (rmK MC MS) D cc a [.int (5 : Int32), .int p2, .int p3, .int p4] G (wv B) G' MC MS := by
  intro x L Rw hI
  refine glstart (bc := cL_call) (maxL := 5) (ret := (some .int)) (by decide) rfl rfl (Nat.le_of_ble_eq_true rfl) ?_
  intro p e s m below meth c A hAe F hP hD hS ls hl
  have hx := F.1.1.1
  have hb := F.1.1.2.1
  have hts := F.1.1.2.2.2.2
  have hl : lv_has ls 5 [(0, .ref (a 0)), (1, .int (5 : Int32)), (2, .int p2), (3, .int p3), (4, .int p4)] := hl
  have hO : HO D cc A a G Rw s.heap := ⟨x, L, hI, hP, hD⟩
  refine lv_iload_n hx hb dL_call_0 rfl (lv_at hl 1 rfl) ?_
  refine lv_tableIn (off := 119) (tgt := 120) hx hb dL_call_1 (by decide) (by decide) (by decide) (by decide) ?_
  refine lv_aload_n hx hb dL_call_120 rfl (lv_at hl 0 rfl) ?_
  refine lv_iload_n hx hb dL_call_121 rfl (lv_at hl 2 rfl) ?_
  refine lv_iload_n hx hb dL_call_122 rfl (lv_at hl 3 rfl) ?_
  refine gstepSW (As := [.int p2, .int p3]) (rest := []) F (k_tryPractised l D cc hM hA) (vx_cwSW 3 hts gL_call_L_tryPractised rfl rfl rfl (by decide +kernel) ⟨Nat.le_of_ble_eq_true rfl, Nat.le_of_ble_eq_true rfl⟩) hO hS hl rfl rfl (Nat.le_of_ble_eq_true rfl) dL_call_123 ⟨by show 0 + MC ≤ MC; omega, by show 0 + MS ≤ MS; omega⟩ (fun H1 locs1 hO hS => ?_)
  exact gHO.endi F hAe hO hS rfl (by omega) (by omega) dL_call_126
theorem kc6 (l : Launch) (D : va_G) (cc : Nat → ClassId) {a : Nat → Nat} {G G' : GS} {p2 p3 p4 : Int32} {B : Int32 ⊕ String} {MC MS : Nat} (hM : gV l D cc a yX6_setting wsX6_setting [.int p2] G B G' MC MS) (hA : ∀ E, B = .inr E → E = xIA) :
    gO l yL_call wsL_call (rmK MC MS) D cc a [.int (6 : Int32), .int p2, .int p3, .int p4] G (wv B) G' MC MS := by
  intro x L Rw hI
  refine glstart (bc := cL_call) (maxL := 5) (ret := (some .int)) (by decide) rfl rfl (Nat.le_of_ble_eq_true rfl) ?_
  intro p e s m below meth c A hAe F hP hD hS ls hl
  have hx := F.1.1.1
  have hb := F.1.1.2.1
  have hts := F.1.1.2.2.2.2
  have hl : lv_has ls 5 [(0, .ref (a 0)), (1, .int (6 : Int32)), (2, .int p2), (3, .int p3), (4, .int p4)] := hl
  have hO : HO D cc A a G Rw s.heap := ⟨x, L, hI, hP, hD⟩
  refine lv_iload_n hx hb dL_call_0 rfl (lv_at hl 1 rfl) ?_
  refine lv_tableIn (off := 126) (tgt := 127) hx hb dL_call_1 (by decide) (by decide) (by decide) (by decide) ?_
  refine lv_aload_n hx hb dL_call_127 rfl (lv_at hl 0 rfl) ?_
  refine lv_iload_n hx hb dL_call_128 rfl (lv_at hl 2 rfl) ?_
  refine gstepSW (As := [.int p2]) (rest := []) F (k_trySetting l D cc hM hA) (vx_cwSW 2 hts gL_call_L_trySetting rfl rfl rfl (by decide +kernel) ⟨Nat.le_of_ble_eq_true rfl, Nat.le_of_ble_eq_true rfl⟩) hO hS hl rfl rfl (Nat.le_of_ble_eq_true rfl) dL_call_129 ⟨by show 0 + MC ≤ MC; omega, by show 0 + MS ≤ MS; omega⟩ (fun H1 locs1 hO hS => ?_)
  exact gHO.endi F hAe hO hS rfl (by omega) (by omega) dL_call_132
theorem kc7 (l : Launch) (D : va_G) (cc : Nat → ClassId) {a : Nat → Nat} {G G' : GS} {p2 p3 p4 : Int32} {B : Int32 ⊕ String} {MC MS : Nat} (hM : gV l D cc a yX6_point wsX6_point [.int p2, .int p3] G B G' MC MS) (hA : ∀ E, B = .inr E → E = xIA ∨ E = xIS) :
    gO l yL_call wsL_call (rmK MC MS) D cc a [.int (7 : Int32), .int p2, .int p3, .int p4] G (wv B) G' MC MS := by
  intro x L Rw hI
  refine glstart (bc := cL_call) (maxL := 5) (ret := (some .int)) (by decide) rfl rfl (Nat.le_of_ble_eq_true rfl) ?_
  intro p e s m below meth c A hAe F hP hD hS ls hl
  have hx := F.1.1.1
  have hb := F.1.1.2.1
  have hts := F.1.1.2.2.2.2
  have hl : lv_has ls 5 [(0, .ref (a 0)), (1, .int (7 : Int32)), (2, .int p2), (3, .int p3), (4, .int p4)] := hl
  have hO : HO D cc A a G Rw s.heap := ⟨x, L, hI, hP, hD⟩
  refine lv_iload_n hx hb dL_call_0 rfl (lv_at hl 1 rfl) ?_
  refine lv_tableIn (off := 132) (tgt := 133) hx hb dL_call_1 (by decide) (by decide) (by decide) (by decide) ?_
  refine lv_aload_n hx hb dL_call_133 rfl (lv_at hl 0 rfl) ?_
  refine lv_iload_n hx hb dL_call_134 rfl (lv_at hl 2 rfl) ?_
  refine lv_iload_n hx hb dL_call_135 rfl (lv_at hl 3 rfl) ?_
  refine gstepSW (As := [.int p2, .int p3]) (rest := []) F (k_tryPoint l D cc hM hA) (vx_cwSW 3 hts gL_call_L_tryPoint rfl rfl rfl (by decide +kernel) ⟨Nat.le_of_ble_eq_true rfl, Nat.le_of_ble_eq_true rfl⟩) hO hS hl rfl rfl (Nat.le_of_ble_eq_true rfl) dL_call_136 ⟨by show 0 + MC ≤ MC; omega, by show 0 + MS ≤ MS; omega⟩ (fun H1 locs1 hO hS => ?_)
  exact gHO.endi F hAe hO hS rfl (by omega) (by omega) dL_call_139
theorem kc8 (l : Launch) (D : va_G) (cc : Nat → ClassId) {a : Nat → Nat} {G G' : GS} {p2 p3 p4 : Int32} {B : Int32 ⊕ String} {MC MS : Nat} (hM : gV l D cc a yX6_draw wsX6_draw [] G B G' MC MS) (hA : ∀ E, B = .inr E → E = xIS) :
    gO l yL_call wsL_call (rmK MC MS) D cc a [.int (8 : Int32), .int p2, .int p3, .int p4] G (wv B) G' MC MS := by
  intro x L Rw hI
  refine glstart (bc := cL_call) (maxL := 5) (ret := (some .int)) (by decide) rfl rfl (Nat.le_of_ble_eq_true rfl) ?_
  intro p e s m below meth c A hAe F hP hD hS ls hl
  have hx := F.1.1.1
  have hb := F.1.1.2.1
  have hts := F.1.1.2.2.2.2
  have hl : lv_has ls 5 [(0, .ref (a 0)), (1, .int (8 : Int32)), (2, .int p2), (3, .int p3), (4, .int p4)] := hl
  have hO : HO D cc A a G Rw s.heap := ⟨x, L, hI, hP, hD⟩
  refine lv_iload_n hx hb dL_call_0 rfl (lv_at hl 1 rfl) ?_
  refine lv_tableIn (off := 139) (tgt := 140) hx hb dL_call_1 (by decide) (by decide) (by decide) (by decide) ?_
  refine lv_aload_n hx hb dL_call_140 rfl (lv_at hl 0 rfl) ?_
  refine gstepSW (As := []) (rest := []) F (k_tryDraw l D cc hM hA) (vx_cwSW 1 hts gL_call_L_tryDraw rfl rfl rfl (by decide +kernel) ⟨Nat.le_of_ble_eq_true rfl, Nat.le_of_ble_eq_true rfl⟩) hO hS hl rfl rfl (Nat.le_of_ble_eq_true rfl) dL_call_141 ⟨by show 0 + MC ≤ MC; omega, by show 0 + MS ≤ MS; omega⟩ (fun H1 locs1 hO hS => ?_)
  exact gHO.endi F hAe hO hS rfl (by omega) (by omega) dL_call_144
theorem kc9 (l : Launch) (D : va_G) (cc : Nat → ClassId) {a : Nat → Nat} {G G' : GS} {p2 p3 p4 : Int32} {B : Int32 ⊕ String} {MC MS : Nat} (hM : gV l D cc a yX6_learn wsX6_learn [.int p2] G B G' MC MS) (hA : ∀ E, B = .inr E → E = xIA ∨ E = xIS) :
    gO l yL_call wsL_call (rmK MC MS) D cc a [.int (9 : Int32), .int p2, .int p3, .int p4] G (wv B) G' MC MS := by
  intro x L Rw hI
  refine glstart (bc := cL_call) (maxL := 5) (ret := (some .int)) (by decide) rfl rfl (Nat.le_of_ble_eq_true rfl) ?_
  intro p e s m below meth c A hAe F hP hD hS ls hl
  have hx := F.1.1.1
  have hb := F.1.1.2.1
  have hts := F.1.1.2.2.2.2
  have hl : lv_has ls 5 [(0, .ref (a 0)), (1, .int (9 : Int32)), (2, .int p2), (3, .int p3), (4, .int p4)] := hl
  have hO : HO D cc A a G Rw s.heap := ⟨x, L, hI, hP, hD⟩
  refine lv_iload_n hx hb dL_call_0 rfl (lv_at hl 1 rfl) ?_
  refine lv_tableIn (off := 144) (tgt := 145) hx hb dL_call_1 (by decide) (by decide) (by decide) (by decide) ?_
  refine lv_aload_n hx hb dL_call_145 rfl (lv_at hl 0 rfl) ?_
  refine lv_iload_n hx hb dL_call_146 rfl (lv_at hl 2 rfl) ?_
  refine gstepSW (As := [.int p2]) (rest := []) F (k_tryLearn l D cc hM hA) (vx_cwSW 2 hts gL_call_L_tryLearn rfl rfl rfl (by decide +kernel) ⟨Nat.le_of_ble_eq_true rfl, Nat.le_of_ble_eq_true rfl⟩) hO hS hl rfl rfl (Nat.le_of_ble_eq_true rfl) dL_call_147 ⟨by show 0 + MC ≤ MC; omega, by show 0 + MS ≤ MS; omega⟩ (fun H1 locs1 hO hS => ?_)
  exact gHO.endi F hAe hO hS rfl (by omega) (by omega) dL_call_150
theorem kc10 (l : Launch) (D : va_G) (cc : Nat → ClassId) {a : Nat → Nat} {G G' : GS} {p2 p3 p4 : Int32} {B : Int32 ⊕ String} {MC MS : Nat} (hM : gV l D cc a yX6_forget wsX6_forget [.int p2] G B G' MC MS) (hA : ∀ E, B = .inr E → E = xIO) :
    gO l yL_call wsL_call (rmK MC MS) D cc a [.int (10 : Int32), .int p2, .int p3, .int p4] G (wv B) G' MC MS := by
  intro x L Rw hI
  refine glstart (bc := cL_call) (maxL := 5) (ret := (some .int)) (by decide) rfl rfl (Nat.le_of_ble_eq_true rfl) ?_
  intro p e s m below meth c A hAe F hP hD hS ls hl
  have hx := F.1.1.1
  have hb := F.1.1.2.1
  have hts := F.1.1.2.2.2.2
  have hl : lv_has ls 5 [(0, .ref (a 0)), (1, .int (10 : Int32)), (2, .int p2), (3, .int p3), (4, .int p4)] := hl
  have hO : HO D cc A a G Rw s.heap := ⟨x, L, hI, hP, hD⟩
  refine lv_iload_n hx hb dL_call_0 rfl (lv_at hl 1 rfl) ?_
  refine lv_tableIn (off := 150) (tgt := 151) hx hb dL_call_1 (by decide) (by decide) (by decide) (by decide) ?_
  refine lv_aload_n hx hb dL_call_151 rfl (lv_at hl 0 rfl) ?_
  refine lv_iload_n hx hb dL_call_152 rfl (lv_at hl 2 rfl) ?_
  refine gstepSW (As := [.int p2]) (rest := []) F (k_tryForget l D cc hM hA) (vx_cwSW 2 hts gL_call_L_tryForget rfl rfl rfl (by decide +kernel) ⟨Nat.le_of_ble_eq_true rfl, Nat.le_of_ble_eq_true rfl⟩) hO hS hl rfl rfl (Nat.le_of_ble_eq_true rfl) dL_call_153 ⟨by show 0 + MC ≤ MC; omega, by show 0 + MS ≤ MS; omega⟩ (fun H1 locs1 hO hS => ?_)
  exact gHO.endi F hAe hO hS rfl (by omega) (by omega) dL_call_156
theorem kc11 (l : Launch) (D : va_G) (cc : Nat → ClassId) {a : Nat → Nat} {G G' : GS} {p2 p3 p4 : Int32} {B : Int32 ⊕ String} {MC MS : Nat} (hM : gV l D cc a yX6_practise wsX6_practise [.int p2] G B G' MC MS) (hA : ∀ E, B = .inr E → E = xIA ∨ E = xIS) :
    gO l yL_call wsL_call (rmK MC MS) D cc a [.int (11 : Int32), .int p2, .int p3, .int p4] G (wv B) G' MC MS := by
  intro x L Rw hI
  refine glstart (bc := cL_call) (maxL := 5) (ret := (some .int)) (by decide) rfl rfl (Nat.le_of_ble_eq_true rfl) ?_
  intro p e s m below meth c A hAe F hP hD hS ls hl
  have hx := F.1.1.1
  have hb := F.1.1.2.1
  have hts := F.1.1.2.2.2.2
  have hl : lv_has ls 5 [(0, .ref (a 0)), (1, .int (11 : Int32)), (2, .int p2), (3, .int p3), (4, .int p4)] := hl
  have hO : HO D cc A a G Rw s.heap := ⟨x, L, hI, hP, hD⟩
  refine lv_iload_n hx hb dL_call_0 rfl (lv_at hl 1 rfl) ?_
  refine lv_tableIn (off := 156) (tgt := 157) hx hb dL_call_1 (by decide) (by decide) (by decide) (by decide) ?_
  refine lv_aload_n hx hb dL_call_157 rfl (lv_at hl 0 rfl) ?_
  refine lv_iload_n hx hb dL_call_158 rfl (lv_at hl 2 rfl) ?_
  refine gstepSW (As := [.int p2]) (rest := []) F (k_tryPractise l D cc hM hA) (vx_cwSW 2 hts gL_call_L_tryPractise rfl rfl rfl (by decide +kernel) ⟨Nat.le_of_ble_eq_true rfl, Nat.le_of_ble_eq_true rfl⟩) hO hS hl rfl rfl (Nat.le_of_ble_eq_true rfl) dL_call_159 ⟨by show 0 + MC ≤ MC; omega, by show 0 + MS ≤ MS; omega⟩ (fun H1 locs1 hO hS => ?_)
  exact gHO.endi F hAe hO hS rfl (by omega) (by omega) dL_call_162
theorem kc12 (l : Launch) (D : va_G) (cc : Nat → ClassId) {a : Nat → Nat} {G G' : GS} {p2 p3 p4 : Int32} {B : Int32 ⊕ String} {MC MS : Nat} (hM : gV l D cc a yX6_set wsX6_set [.int p2, .int p3] G B G' MC MS) (hA : ∀ E, B = .inr E → E = xIA ∨ E = xIS) :
    gO l yL_call wsL_call (rmK MC MS) D cc a [.int (12 : Int32), .int p2, .int p3, .int p4] G (wv B) G' MC MS := by
  intro x L Rw hI
  refine glstart (bc := cL_call) (maxL := 5) (ret := (some .int)) (by decide) rfl rfl (Nat.le_of_ble_eq_true rfl) ?_
  intro p e s m below meth c A hAe F hP hD hS ls hl
  have hx := F.1.1.1
  have hb := F.1.1.2.1
  have hts := F.1.1.2.2.2.2
  have hl : lv_has ls 5 [(0, .ref (a 0)), (1, .int (12 : Int32)), (2, .int p2), (3, .int p3), (4, .int p4)] := hl
  have hO : HO D cc A a G Rw s.heap := ⟨x, L, hI, hP, hD⟩
  refine lv_iload_n hx hb dL_call_0 rfl (lv_at hl 1 rfl) ?_
  refine lv_tableIn (off := 162) (tgt := 163) hx hb dL_call_1 (by decide) (by decide) (by decide) (by decide) ?_
  refine lv_aload_n hx hb dL_call_163 rfl (lv_at hl 0 rfl) ?_
  refine lv_iload_n hx hb dL_call_164 rfl (lv_at hl 2 rfl) ?_
  refine lv_iload_n hx hb dL_call_165 rfl (lv_at hl 3 rfl) ?_
  refine gstepSW (As := [.int p2, .int p3]) (rest := []) F (k_trySet l D cc hM hA) (vx_cwSW 3 hts gL_call_L_trySet rfl rfl rfl (by decide +kernel) ⟨Nat.le_of_ble_eq_true rfl, Nat.le_of_ble_eq_true rfl⟩) hO hS hl rfl rfl (Nat.le_of_ble_eq_true rfl) dL_call_166 ⟨by show 0 + MC ≤ MC; omega, by show 0 + MS ≤ MS; omega⟩ (fun H1 locs1 hO hS => ?_)
  exact gHO.endi F hAe hO hS rfl (by omega) (by omega) dL_call_169
theorem kc13 (l : Launch) (D : va_G) (cc : Nat → ClassId) {a : Nat → Nat} {G G' : GS} {p2 p3 p4 : Int32} {B : Int32 ⊕ String} {MC MS : Nat} (hM : gV l D cc a yX6_undo wsX6_undo [] G B G' MC MS) (hA : ∀ E, B = .inr E → E = xIS) :
    gO l yL_call wsL_call (rmK MC MS) D cc a [.int (13 : Int32), .int p2, .int p3, .int p4] G (wv B) G' MC MS := by
  intro x L Rw hI
  refine glstart (bc := cL_call) (maxL := 5) (ret := (some .int)) (by decide) rfl rfl (Nat.le_of_ble_eq_true rfl) ?_
  intro p e s m below meth c A hAe F hP hD hS ls hl
  have hx := F.1.1.1
  have hb := F.1.1.2.1
  have hts := F.1.1.2.2.2.2
  have hl : lv_has ls 5 [(0, .ref (a 0)), (1, .int (13 : Int32)), (2, .int p2), (3, .int p3), (4, .int p4)] := hl
  have hO : HO D cc A a G Rw s.heap := ⟨x, L, hI, hP, hD⟩
  refine lv_iload_n hx hb dL_call_0 rfl (lv_at hl 1 rfl) ?_
  refine lv_tableIn (off := 169) (tgt := 170) hx hb dL_call_1 (by decide) (by decide) (by decide) (by decide) ?_
  refine lv_aload_n hx hb dL_call_170 rfl (lv_at hl 0 rfl) ?_
  refine gstepSW (As := []) (rest := []) F (k_tryUndo l D cc hM hA) (vx_cwSW 1 hts gL_call_L_tryUndo rfl rfl rfl (by decide +kernel) ⟨Nat.le_of_ble_eq_true rfl, Nat.le_of_ble_eq_true rfl⟩) hO hS hl rfl rfl (Nat.le_of_ble_eq_true rfl) dL_call_171 ⟨by show 0 + MC ≤ MC; omega, by show 0 + MS ≤ MS; omega⟩ (fun H1 locs1 hO hS => ?_)
  exact gHO.endi F hAe hO hS rfl (by omega) (by omega) dL_call_174
theorem kc14 (l : Launch) (D : va_G) (cc : Nat → ClassId) {a : Nat → Nat} {G G' : GS} {p2 p3 p4 : Int32} {B : Int32 ⊕ String} {MC MS : Nat} (hM : gV l D cc a yX6_read wsX6_read [.int p2] G B G' MC MS) (hA : ∀ E, B = .inr E → E = xIA) :
    gO l yL_call wsL_call (rmK MC MS) D cc a [.int (14 : Int32), .int p2, .int p3, .int p4] G (wv B) G' MC MS := by
  intro x L Rw hI
  refine glstart (bc := cL_call) (maxL := 5) (ret := (some .int)) (by decide) rfl rfl (Nat.le_of_ble_eq_true rfl) ?_
  intro p e s m below meth c A hAe F hP hD hS ls hl
  have hx := F.1.1.1
  have hb := F.1.1.2.1
  have hts := F.1.1.2.2.2.2
  have hl : lv_has ls 5 [(0, .ref (a 0)), (1, .int (14 : Int32)), (2, .int p2), (3, .int p3), (4, .int p4)] := hl
  have hO : HO D cc A a G Rw s.heap := ⟨x, L, hI, hP, hD⟩
  refine lv_iload_n hx hb dL_call_0 rfl (lv_at hl 1 rfl) ?_
  refine lv_tableIn (off := 174) (tgt := 175) hx hb dL_call_1 (by decide) (by decide) (by decide) (by decide) ?_
  refine lv_aload_n hx hb dL_call_175 rfl (lv_at hl 0 rfl) ?_
  refine lv_iload_n hx hb dL_call_176 rfl (lv_at hl 2 rfl) ?_
  refine gstepSW (As := [.int p2]) (rest := []) F (k_tryRead l D cc hM hA) (vx_cwSW 2 hts gL_call_L_tryRead rfl rfl rfl (by decide +kernel) ⟨Nat.le_of_ble_eq_true rfl, Nat.le_of_ble_eq_true rfl⟩) hO hS hl rfl rfl (Nat.le_of_ble_eq_true rfl) dL_call_177 ⟨by show 0 + MC ≤ MC; omega, by show 0 + MS ≤ MS; omega⟩ (fun H1 locs1 hO hS => ?_)
  exact gHO.endi F hAe hO hS rfl (by omega) (by omega) dL_call_180
theorem kc15 (l : Launch) (D : va_G) (cc : Nat → ClassId) {a : Nat → Nat} {G G' : GS} {p2 p3 p4 : Int32} {B : Int32 ⊕ String} {MC MS : Nat} (hM : gV l D cc a yX6_nearest wsX6_nearest [.int p2] G B G' MC MS) (hA : ∀ E, B = .inr E → E = xIO) :
    gO l yL_call wsL_call (rmK MC MS) D cc a [.int (15 : Int32), .int p2, .int p3, .int p4] G (wv B) G' MC MS := by
  intro x L Rw hI
  refine glstart (bc := cL_call) (maxL := 5) (ret := (some .int)) (by decide) rfl rfl (Nat.le_of_ble_eq_true rfl) ?_
  intro p e s m below meth c A hAe F hP hD hS ls hl
  have hx := F.1.1.1
  have hb := F.1.1.2.1
  have hts := F.1.1.2.2.2.2
  have hl : lv_has ls 5 [(0, .ref (a 0)), (1, .int (15 : Int32)), (2, .int p2), (3, .int p3), (4, .int p4)] := hl
  have hO : HO D cc A a G Rw s.heap := ⟨x, L, hI, hP, hD⟩
  refine lv_iload_n hx hb dL_call_0 rfl (lv_at hl 1 rfl) ?_
  refine lv_tableIn (off := 180) (tgt := 181) hx hb dL_call_1 (by decide) (by decide) (by decide) (by decide) ?_
  refine lv_aload_n hx hb dL_call_181 rfl (lv_at hl 0 rfl) ?_
  refine lv_iload_n hx hb dL_call_182 rfl (lv_at hl 2 rfl) ?_
  refine gstepSW (As := [.int p2]) (rest := []) F (k_tryNearest l D cc hM hA) (vx_cwSW 2 hts gL_call_L_tryNearest rfl rfl rfl (by decide +kernel) ⟨Nat.le_of_ble_eq_true rfl, Nat.le_of_ble_eq_true rfl⟩) hO hS hl rfl rfl (Nat.le_of_ble_eq_true rfl) dL_call_183 ⟨by show 0 + MC ≤ MC; omega, by show 0 + MS ≤ MS; omega⟩ (fun H1 locs1 hO hS => ?_)
  exact gHO.endi F hAe hO hS rfl (by omega) (by omega) dL_call_186
theorem kc16 (l : Launch) (D : va_G) (cc : Nat → ClassId) {a : Nat → Nat} {G G' : GS} {p2 p3 p4 : Int32} {B : Int32 ⊕ String} {MC MS : Nat} (hM : gV l D cc a yX6_between wsX6_between [.int p2, .int p3] G B G' MC MS) (hA : ∀ E, B = .inr E → E = xIO) :
    gO l yL_call wsL_call (rmK MC MS) D cc a [.int (16 : Int32), .int p2, .int p3, .int p4] G (wv B) G' MC MS := by
  intro x L Rw hI
  refine glstart (bc := cL_call) (maxL := 5) (ret := (some .int)) (by decide) rfl rfl (Nat.le_of_ble_eq_true rfl) ?_
  intro p e s m below meth c A hAe F hP hD hS ls hl
  have hx := F.1.1.1
  have hb := F.1.1.2.1
  have hts := F.1.1.2.2.2.2
  have hl : lv_has ls 5 [(0, .ref (a 0)), (1, .int (16 : Int32)), (2, .int p2), (3, .int p3), (4, .int p4)] := hl
  have hO : HO D cc A a G Rw s.heap := ⟨x, L, hI, hP, hD⟩
  refine lv_iload_n hx hb dL_call_0 rfl (lv_at hl 1 rfl) ?_
  refine lv_tableIn (off := 186) (tgt := 187) hx hb dL_call_1 (by decide) (by decide) (by decide) (by decide) ?_
  refine lv_aload_n hx hb dL_call_187 rfl (lv_at hl 0 rfl) ?_
  refine lv_iload_n hx hb dL_call_188 rfl (lv_at hl 2 rfl) ?_
  refine lv_iload_n hx hb dL_call_189 rfl (lv_at hl 3 rfl) ?_
  refine gstepSW (As := [.int p2, .int p3]) (rest := []) F (k_tryBetween l D cc hM hA) (vx_cwSW 3 hts gL_call_L_tryBetween rfl rfl rfl (by decide +kernel) ⟨Nat.le_of_ble_eq_true rfl, Nat.le_of_ble_eq_true rfl⟩) hO hS hl rfl rfl (Nat.le_of_ble_eq_true rfl) dL_call_190 ⟨by show 0 + MC ≤ MC; omega, by show 0 + MS ≤ MS; omega⟩ (fun H1 locs1 hO hS => ?_)
  exact gHO.endi F hAe hO hS rfl (by omega) (by omega) dL_call_193
theorem kc17 (l : Launch) (D : va_G) (cc : Nat → ClassId) {a : Nat → Nat} {G G' : GS} {p2 p3 p4 : Int32} {B : Int32 ⊕ String} {MC MS : Nat} (hM : gV l D cc a yX6_save wsX6_save [.int p2] G B G' MC MS) (hA : ∀ E, B = .inr E → E = xIO) :
    gO l yL_call wsL_call (rmK MC MS) D cc a [.int (17 : Int32), .int p2, .int p3, .int p4] G (wv B) G' MC MS := by
  intro x L Rw hI
  refine glstart (bc := cL_call) (maxL := 5) (ret := (some .int)) (by decide) rfl rfl (Nat.le_of_ble_eq_true rfl) ?_
  intro p e s m below meth c A hAe F hP hD hS ls hl
  have hx := F.1.1.1
  have hb := F.1.1.2.1
  have hts := F.1.1.2.2.2.2
  have hl : lv_has ls 5 [(0, .ref (a 0)), (1, .int (17 : Int32)), (2, .int p2), (3, .int p3), (4, .int p4)] := hl
  have hO : HO D cc A a G Rw s.heap := ⟨x, L, hI, hP, hD⟩
  refine lv_iload_n hx hb dL_call_0 rfl (lv_at hl 1 rfl) ?_
  refine lv_tableIn (off := 193) (tgt := 194) hx hb dL_call_1 (by decide) (by decide) (by decide) (by decide) ?_
  refine lv_aload_n hx hb dL_call_194 rfl (lv_at hl 0 rfl) ?_
  refine lv_iload_n hx hb dL_call_195 rfl (lv_at hl 2 rfl) ?_
  refine gstepSW (As := [.int p2]) (rest := []) F (k_tryKeep l D cc hM hA) (vx_cwSW 2 hts gL_call_L_tryKeep rfl rfl rfl (by decide +kernel) ⟨Nat.le_of_ble_eq_true rfl, Nat.le_of_ble_eq_true rfl⟩) hO hS hl rfl rfl (Nat.le_of_ble_eq_true rfl) dL_call_196 ⟨by show 0 + MC ≤ MC; omega, by show 0 + MS ≤ MS; omega⟩ (fun H1 locs1 hO hS => ?_)
  exact gHO.endi F hAe hO hS rfl (by omega) (by omega) dL_call_199
theorem kc18 (l : Launch) (D : va_G) (cc : Nat → ClassId) {a : Nat → Nat} {G G' : GS} {p2 p3 p4 : Int32} {B : Int32 ⊕ String} {MC MS : Nat} (hM : gV l D cc a yX6_restore wsX6_restore [.int p2] G B G' MC MS) (hA : ∀ E, B = .inr E → E = xIO ∨ E = xIS) :
    gO l yL_call wsL_call (rmK MC MS) D cc a [.int (18 : Int32), .int p2, .int p3, .int p4] G (wv B) G' MC MS := by
  intro x L Rw hI
  refine glstart (bc := cL_call) (maxL := 5) (ret := (some .int)) (by decide) rfl rfl (Nat.le_of_ble_eq_true rfl) ?_
  intro p e s m below meth c A hAe F hP hD hS ls hl
  have hx := F.1.1.1
  have hb := F.1.1.2.1
  have hts := F.1.1.2.2.2.2
  have hl : lv_has ls 5 [(0, .ref (a 0)), (1, .int (18 : Int32)), (2, .int p2), (3, .int p3), (4, .int p4)] := hl
  have hO : HO D cc A a G Rw s.heap := ⟨x, L, hI, hP, hD⟩
  refine lv_iload_n hx hb dL_call_0 rfl (lv_at hl 1 rfl) ?_
  refine lv_tableOut (tgt := 200) hx hb dL_call_1 (Or.inr (by decide)) (by decide) ?_
  refine lv_aload_n hx hb dL_call_200 rfl (lv_at hl 0 rfl) ?_
  refine lv_iload_n hx hb dL_call_201 rfl (lv_at hl 2 rfl) ?_
  refine gstepSW (As := [.int p2]) (rest := []) F (k_tryBack l D cc hM hA) (vx_cwSW 2 hts gL_call_L_tryBack rfl rfl rfl (by decide +kernel) ⟨Nat.le_of_ble_eq_true rfl, Nat.le_of_ble_eq_true rfl⟩) hO hS hl rfl rfl (Nat.le_of_ble_eq_true rfl) dL_call_202 ⟨by show 0 + MC ≤ MC; omega, by show 0 + MS ≤ MS; omega⟩ (fun H1 locs1 hO hS => ?_)
  exact gHO.endi F hAe hO hS rfl (by omega) (by omega) dL_call_205
end XGCALL
