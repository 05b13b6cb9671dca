/-! LAW KIT 10: the cases of the law's loop -/
section XCASES
variable {p : Program} {l : Launch} {e : Env} {s : State} {m : MethodId} {below : List Frame} {meth : Method} {c : Code} {H : Heap} {locs : List Loc} {cells slots : Nat} {Q : State → Prop} {bS Ls : Nat} {xs : Nat → Int32} {D : va_G} {cc : Nat → ClassId} {ls : Array Slot} {o : Nat} {a b : Nat → Nat} {x : XV} {mv : MV} {L : List LE} {g : Nat → Int64} {x4 : Int32}
abbrev lwL (bS o : Nat) (a b : Nat → Nat) (x4 : Int32) : List (Nat × Value) := [(0, .ref bS), (1, .ref (a 0)), (2, .ref (b 0)), (3, .ref o), (4, .int x4)]
/-- how a case goes on -/
def lNext (p : Program) (l : Launch) (e : Env) (s : State) (m : MethodId) (below : List Frame) (meth : Method) (c : Code) (cells slots : Nat) (Q : State → Prop) (bS : Nat) (D : va_G) (cc : Nat → ClassId) (o : Nat) (a b : Nat → Nat) (x4 : Int32) : Prop := ∀ (g : Nat → Int64) (x : XV) (mv : MV) (L : List LE) (H : Heap) (locs : List Loc) (ls : Array Slot), INV x mv L → va_P D vwCl (wL cc o g a b x mv ++ cp cc L) H → va_D (fun q : Nat => s.heap.size ≤ q) (wL cc o g a b x mv ++ cp cc L) → va_S (fun q : Nat => s.heap.size ≤ q) s.heap H locs → lv_has ls 7 (lwL bS o a b x4) → W p l e room_1 s m #[Value.ref bS] below meth c H locs (cells + 11) (slots + 1443) Q (F0 m 1567 ls [])
theorem lc_append (F : lwF p s m c bS Ls xs D cc) (hst : l.stackTraces = false) (hI : INV x mv L) (hP : va_P D vwCl (wL cc o g a b x mv ++ cp cc L) H) (hD : va_D (fun q : Nat => s.heap.size ≤ q) (wL cc o g a b x mv ++ cp cc L)) (hS : va_S (fun q : Nat => s.heap.size ≤ q) s.heap H locs) (hl : lv_has ls 7 (lwL bS o a b x4)) (h1 : vp_in (x4 + (1 : Int32)) Ls) (h2 : vp_in (x4 + (2 : Int32)) Ls) (h3 : vp_in (x4 + (3 : Int32)) Ls) (hf : cells + 11 ≤ 601024 ∧ slots + 1443 ≤ 7293034) (next : lNext p l e s m below meth c cells slots Q bS D cc o a b x4) : W p l e room_1 s m #[Value.ref bS] below meth c H locs cells slots Q (F0 m 164 ls []) := by
  have hx := F.1.1
  have hb := F.1.2.1
  have hts := F.1.2.2.2.2
  have hown := F.1.2.2.2.1
  have hXs := F.2.2.2.2.2.1
  have hbl := F.2.2.2.2.2.2
  have hbA : ¬ (fun q : Nat => s.heap.size ≤ q) bS := Nat.not_le.mpr hbl
  obtain ⟨B, v, rf, x', m', Z, Z', rm, rm2, mc, ms, ⟨zP, zD⟩, M1, M2, hA, hrf, hZ, r1, r2⟩ := sem_append l hst D cc o a b (xs (x4 + (1 : Int32)).toNatClampNeg) x mv L hI
  have q1 := r1.2.2.1
  have q2 := r1.2.2.2.1
  have q3 := r1.2.2.2.2.1
  have q4 := r1.2.2.2.2.2
  have q5 := r2.2.2.2.2.1
  have q6 := r2.2.2.2.2.2
  have hP := zP g H hP
  have hD := zD g _ hD
  refine lv_aload_n hx hb dL_law_164 rfl (lv_at hl 1 rfl) ?_
  refine lv_aload_n hx hb dL_law_165 rfl (lv_at hl 0 rfl) ?_
  refine lv_iload hx hb dL_law_166 (lv_at hl 4 rfl) ?_
  refine lv_iconst (v := (1 : Int32)) hx hb dL_law_168 (by decide) ?_
  refine lv_iadd hx hb dL_law_169 ?_
  refine va_sld hx hb hXs hbl hbA hS h1 dL_law_170 ?_
  refine lv_aload_n hx hb dL_law_171 rfl (lv_at hl 3 rfl) ?_
  refine lcallW F (kL_append l D cc (rm := rm) r1.1 r1.2.1 (w0 := wLt cc a b x mv ++ Z) (w1 := fun q => (a 0, .inr (6, wXo a)) :: (wLt cc a b (x' q) mv ++ Z' q)) (M1 g) hA) (vx_cwSW 3 hts gL_law_L_append rfl r1.1 r1.2.1 (by decide +kernel) ⟨by show rm.frames + 1 + 1 ≤ 11; omega, by show 8 + (4 + 11) + (rm.locals + 40) ≤ 454; omega⟩) hP hD hS hl rfl rfl (Nat.le_of_ble_eq_true rfl) dL_law_172 ⟨by omega, by omega⟩ (fun q H locs hP hD hS => ?_)
  have hP : va_P D vwCl (wL cc o (outG g B) a b (x' q) mv ++ Z' q) H := hP
  have hD : va_D (fun q : Nat => s.heap.size ≤ q) (wL cc o (outG g B) a b (x' q) mv ++ Z' q) := hD
  obtain ⟨L', eZ, hI'⟩ := hZ q
  rw [eZ] at hP hD
  refine lv_istore (lv' := [(5, .int rf), (0, .ref bS), (1, .ref (a 0)), (2, .ref (b 0)), (3, .ref o), (4, .int x4)]) hx hb dL_law_175 hl (by decide) rfl (fun ls hl => ?_)
  refine lv_aload_n hx hb dL_law_177 rfl (lv_at hl 3 rfl) ?_
  refine lv_aload_n hx hb dL_law_178 rfl (lv_at hl 1 rfl) ?_
  refine lv_iload hx hb dL_law_179 (lv_at hl 5 rfl) ?_
  refine lv_iconst (v := (1 : Int32)) hx hb dL_law_181 (by decide) ?_
  refine lv_iadd hx hb dL_law_182 ?_
  refine va_sld hx hb hXs hbl hbA hS h1 dL_law_183 ?_
  refine lcallM F (M2 (outG g B) (x' q) (cp cc L')) (cwV 1 hts gL_law_X7_append rfl r2.1 r2.2.1 (by decide +kernel) ⟨by show rm2.frames + 1 ≤ 11; omega, by show 8 + (2 + 11) + rm2.locals ≤ 454; omega⟩) hP hD hS (q0 := 32) rfl rfl rfl hl rfl rfl (Nat.le_of_ble_eq_true rfl) dL_law_184 ⟨by omega, by omega⟩ (fun _ H locs hP hD hS => ?_)
  refine lv_istore (lv' := [(6, .int v), (5, .int rf), (0, .ref bS), (1, .ref (a 0)), (2, .ref (b 0)), (3, .ref o), (4, .int x4)]) hx hb dL_law_187 hl (by decide) rfl (fun ls hl => ?_)
  refine lv_aload_n hx hb dL_law_189 rfl (lv_at hl 4 rfl) ?_
  refine lcallM F (bX7_thrown l D cc o (outG g B) a b (x' q) m' (cp cc L') (h := rfl)) (cwV 0 hts gL_law_X7_thrown rfl rfl rfl (by decide +kernel) ⟨Nat.le_of_ble_eq_true rfl, Nat.le_of_ble_eq_true rfl⟩) hP hD hS (q0 := 32) rfl rfl rfl hl rfl rfl (Nat.le_of_ble_eq_true rfl) dL_law_190 ⟨by omega, by omega⟩ (fun _ H locs hP hD hS => ?_)
  refine lv_iload hx hb dL_law_193 (lv_at hl 1 rfl) ?_
  refine lv_icmp_eq (tgt := 200) hx hb dL_law_195 (by decide) (fun _ => ?_) (fun c9 => absurd (show fX7_thrown m'.1 = rf from hrf) c9)
  refine lv_iload hx hb dL_law_200 (lv_at hl 1 rfl) ?_
  refine lv_if_ne (tgt := 217) hx hb dL_law_202 (by decide) (fun _ => ?_) (fun c0 => ?_)
  · refine lv_goto (tgt := 1567) hx hb dL_law_217 (by decide) ?_
    refine W.widen (k := cells + 11) (n := slots + 1443) (by omega) (by omega) ?_
    exact next (outG g B) (x' q) m' L' H locs ls hI' hP hD hS (lv_sub hl [2, 3, 4, 5, 6] rfl)
  · have hB := aR_zero (by rw [← c0]; exact hA) (Nat.le_of_ble_eq_true rfl)
    refine lv_aload_n hx hb dL_law_205 rfl (lv_at hl 5 rfl) ?_
    refine lv_iconst (v := (0 : Int32)) hx hb dL_law_206 (by decide) ?_
    refine va_lald hx hb F.2.1 hP (q0 := 0) (t0 := 3) rfl rfl (pk_in 0 1 (by decide)) dL_law_207 ?_
    refine lv_iload hx hb dL_law_208 (lv_at hl 0 rfl) ?_
    refine lv_i2l (v := v.toInt64) hx hb dL_law_210 rfl ?_
    refine W.lcmp hx hb dL_law_211 ?_
    refine lv_if_eq (tgt := 217) hx hb dL_law_212 (by decide) (fun _ => ?_) (fun c9 => absurd (by rw [hB, outG_self]; exact cmp_self _) c9)
    refine lv_goto (tgt := 1567) hx hb dL_law_217 (by decide) ?_
    refine W.widen (k := cells + 11) (n := slots + 1443) (by omega) (by omega) ?_
    exact next (outG g B) (x' q) m' L' H locs ls hI' hP hD hS (lv_sub hl [2, 3, 4, 5, 6] rfl)
theorem lc_clearText (F : lwF p s m c bS Ls xs D cc) (hst : l.stackTraces = false) (hI : INV x mv L) (hP : va_P D vwCl (wL cc o g a b x mv ++ cp cc L) H) (hD : va_D (fun q : Nat => s.heap.size ≤ q) (wL cc o g a b x mv ++ cp cc L)) (hS : va_S (fun q : Nat => s.heap.size ≤ q) s.heap H locs) (hl : lv_has ls 7 (lwL bS o a b x4)) (h1 : vp_in (x4 + (1 : Int32)) Ls) (h2 : vp_in (x4 + (2 : Int32)) Ls) (h3 : vp_in (x4 + (3 : Int32)) Ls) (hf : cells + 11 ≤ 601024 ∧ slots + 1443 ≤ 7293034) (next : lNext p l e s m below meth c cells slots Q bS D cc o a b x4) : W p l e room_1 s m #[Value.ref bS] below meth c H locs cells slots Q (F0 m 220 ls []) := by
  have hx := F.1.1
  have hb := F.1.2.1
  have hts := F.1.2.2.2.2
  have hown := F.1.2.2.2.1
  have hXs := F.2.2.2.2.2.1
  have hbl := F.2.2.2.2.2.2
  have hbA : ¬ (fun q : Nat => s.heap.size ≤ q) bS := Nat.not_le.mpr hbl
  obtain ⟨v, x', m', Z, Z', rm, rm2, mc, ms, ⟨zP, zD⟩, M1, M2, hZ, r1, r2⟩ := sem_clearText l hst D cc o a b x mv L hI
  have q1 := r1.2.2.1
  have q2 := r1.2.2.2.1
  have q3 := r1.2.2.2.2.1
  have q4 := r1.2.2.2.2.2
  have q5 := r2.2.2.2.2.1
  have q6 := r2.2.2.2.2.2
  have hP := zP g H hP
  have hD := zD g _ hD
  refine lv_aload_n hx hb dL_law_220 rfl (lv_at hl 1 rfl) ?_
  refine lcallM F (M1 g) (cwV 0 hts gL_law_X6_clearText rfl r1.1 r1.2.1 (by decide +kernel) ⟨by show rm.frames + 1 ≤ 11; omega, by show 8 + (2 + 11) + rm.locals ≤ 454; omega⟩) hP hD hS (q0 := 1) rfl rfl rfl hl rfl rfl (Nat.le_of_ble_eq_true rfl) dL_law_221 ⟨by omega, by omega⟩ (fun q H locs hP hD hS => ?_)
  obtain ⟨L', eZ, hI'⟩ := hZ q
  rw [eZ] at hP hD
  refine lv_aload_n hx hb dL_law_224 rfl (lv_at hl 2 rfl) ?_
  refine lcallM F (M2 g (x' q) (cp cc L')) (cwV 0 hts gL_law_X7_clearText rfl r2.1 r2.2.1 (by decide +kernel) ⟨by show rm2.frames + 1 ≤ 11; omega, by show 8 + (2 + 11) + rm2.locals ≤ 454; omega⟩) hP hD hS (q0 := 32) rfl rfl rfl hl rfl rfl (Nat.le_of_ble_eq_true rfl) dL_law_225 ⟨by omega, by omega⟩ (fun _ H locs hP hD hS => ?_)
  refine lv_icmp_eq (tgt := 1567) hx hb dL_law_228 (by decide) (fun _ => ?_) (fun c9 => absurd rfl c9)
  refine W.widen (k := cells + 11) (n := slots + 1443) (by omega) (by omega) ?_
  exact next g (x' q) m' L' H locs ls hI' hP hD hS hl
theorem lc_errorPosition (F : lwF p s m c bS Ls xs D cc) (hst : l.stackTraces = false) (hI : INV x mv L) (hP : va_P D vwCl (wL cc o g a b x mv ++ cp cc L) H) (hD : va_D (fun q : Nat => s.heap.size ≤ q) (wL cc o g a b x mv ++ cp cc L)) (hS : va_S (fun q : Nat => s.heap.size ≤ q) s.heap H locs) (hl : lv_has ls 7 (lwL bS o a b x4)) (h1 : vp_in (x4 + (1 : Int32)) Ls) (h2 : vp_in (x4 + (2 : Int32)) Ls) (h3 : vp_in (x4 + (3 : Int32)) Ls) (hf : cells + 11 ≤ 601024 ∧ slots + 1443 ≤ 7293034) (next : lNext p l e s m below meth c cells slots Q bS D cc o a b x4) : W p l e room_1 s m #[Value.ref bS] below meth c H locs cells slots Q (F0 m 233 ls []) := by
  have hx := F.1.1
  have hb := F.1.2.1
  have hts := F.1.2.2.2.2
  have hown := F.1.2.2.2.1
  have hXs := F.2.2.2.2.2.1
  have hbl := F.2.2.2.2.2.2
  have hbA : ¬ (fun q : Nat => s.heap.size ≤ q) bS := Nat.not_le.mpr hbl
  obtain ⟨v, x', m', Z, Z', rm, rm2, mc, ms, ⟨zP, zD⟩, M1, M2, hZ, r1, r2⟩ := sem_errorPosition l hst D cc o a b x mv L hI
  have q1 := r1.2.2.1
  have q2 := r1.2.2.2.1
  have q3 := r1.2.2.2.2.1
  have q4 := r1.2.2.2.2.2
  have q5 := r2.2.2.2.2.1
  have q6 := r2.2.2.2.2.2
  have hP := zP g H hP
  have hD := zD g _ hD
  refine lv_aload_n hx hb dL_law_233 rfl (lv_at hl 1 rfl) ?_
  refine lcallM F (M1 g) (cwV 0 hts gL_law_X6_errorPosition rfl r1.1 r1.2.1 (by decide +kernel) ⟨by show rm.frames + 1 ≤ 11; omega, by show 8 + (1 + 11) + rm.locals ≤ 454; omega⟩) hP hD hS (q0 := 1) rfl rfl rfl hl rfl rfl (Nat.le_of_ble_eq_true rfl) dL_law_234 ⟨by omega, by omega⟩ (fun q H locs hP hD hS => ?_)
  obtain ⟨L', eZ, hI'⟩ := hZ q
  rw [eZ] at hP hD
  refine lv_aload_n hx hb dL_law_237 rfl (lv_at hl 2 rfl) ?_
  refine lcallM F (M2 g (x' q) (cp cc L')) (cwV 0 hts gL_law_X7_errorPosition rfl r2.1 r2.2.1 (by decide +kernel) ⟨by show rm2.frames + 1 ≤ 11; omega, by show 8 + (1 + 11) + rm2.locals ≤ 454; omega⟩) hP hD hS (q0 := 32) rfl rfl rfl hl rfl rfl (Nat.le_of_ble_eq_true rfl) dL_law_238 ⟨by omega, by omega⟩ (fun _ H locs hP hD hS => ?_)
  refine lv_icmp_eq (tgt := 1567) hx hb dL_law_241 (by decide) (fun _ => ?_) (fun c9 => absurd rfl c9)
  refine W.widen (k := cells + 11) (n := slots + 1443) (by omega) (by omega) ?_
  exact next g (x' q) m' L' H locs ls hI' hP hD hS hl
theorem lc_about (F : lwF p s m c bS Ls xs D cc) (hst : l.stackTraces = false) (hI : INV x mv L) (hP : va_P D vwCl (wL cc o g a b x mv ++ cp cc L) H) (hD : va_D (fun q : Nat => s.heap.size ≤ q) (wL cc o g a b x mv ++ cp cc L)) (hS : va_S (fun q : Nat => s.heap.size ≤ q) s.heap H locs) (hl : lv_has ls 7 (lwL bS o a b x4)) (h1 : vp_in (x4 + (1 : Int32)) Ls) (h2 : vp_in (x4 + (2 : Int32)) Ls) (h3 : vp_in (x4 + (3 : Int32)) Ls) (hf : cells + 11 ≤ 601024 ∧ slots + 1443 ≤ 7293034) (next : lNext p l e s m below meth c cells slots Q bS D cc o a b x4) : W p l e room_1 s m #[Value.ref bS] below meth c H locs cells slots Q (F0 m 246 ls []) := by
  have hx := F.1.1
  have hb := F.1.2.1
  have hts := F.1.2.2.2.2
  have hown := F.1.2.2.2.1
  have hXs := F.2.2.2.2.2.1
  have hbl := F.2.2.2.2.2.2
  have hbA : ¬ (fun q : Nat => s.heap.size ≤ q) bS := Nat.not_le.mpr hbl
  obtain ⟨B, v, rf, x', m', Z, Z', rm, rm2, mc, ms, ⟨zP, zD⟩, M1, M2, hA, hrf, hZ, r1, r2⟩ := sem_about l hst D cc o a b (xs (x4 + (1 : Int32)).toNatClampNeg) x mv L hI
  have q1 := r1.2.2.1
  have q2 := r1.2.2.2.1
  have q3 := r1.2.2.2.2.1
  have q4 := r1.2.2.2.2.2
  have q5 := r2.2.2.2.2.1
  have q6 := r2.2.2.2.2.2
  have hP := zP g H hP
  have hD := zD g _ hD
  refine lv_aload_n hx hb dL_law_246 rfl (lv_at hl 1 rfl) ?_
  refine lv_aload_n hx hb dL_law_247 rfl (lv_at hl 0 rfl) ?_
  refine lv_iload hx hb dL_law_248 (lv_at hl 4 rfl) ?_
  refine lv_iconst (v := (1 : Int32)) hx hb dL_law_250 (by decide) ?_
  refine lv_iadd hx hb dL_law_251 ?_
  refine va_sld hx hb hXs hbl hbA hS h1 dL_law_252 ?_
  refine lv_aload_n hx hb dL_law_253 rfl (lv_at hl 3 rfl) ?_
  refine lcallW F (kL_about l D cc (rm := rm) r1.1 r1.2.1 (w0 := wLt cc a b x mv ++ Z) (w1 := fun q => (a 0, .inr (6, wXo a)) :: (wLt cc a b (x' q) mv ++ Z' q)) (M1 g) hA) (vx_cwSW 3 hts gL_law_L_about rfl r1.1 r1.2.1 (by decide +kernel) ⟨by show rm.frames + 1 + 1 ≤ 11; omega, by show 8 + (4 + 11) + (rm.locals + 40) ≤ 454; omega⟩) hP hD hS hl rfl rfl (Nat.le_of_ble_eq_true rfl) dL_law_254 ⟨by omega, by omega⟩ (fun q H locs hP hD hS => ?_)
  have hP : va_P D vwCl (wL cc o (outG g B) a b (x' q) mv ++ Z' q) H := hP
  have hD : va_D (fun q : Nat => s.heap.size ≤ q) (wL cc o (outG g B) a b (x' q) mv ++ Z' q) := hD
  obtain ⟨L', eZ, hI'⟩ := hZ q
  rw [eZ] at hP hD
  refine lv_istore (lv' := [(5, .int rf), (0, .ref bS), (1, .ref (a 0)), (2, .ref (b 0)), (3, .ref o), (4, .int x4)]) hx hb dL_law_257 hl (by decide) rfl (fun ls hl => ?_)
  refine lv_aload_n hx hb dL_law_259 rfl (lv_at hl 3 rfl) ?_
  refine lv_aload_n hx hb dL_law_260 rfl (lv_at hl 1 rfl) ?_
  refine lv_iload hx hb dL_law_261 (lv_at hl 5 rfl) ?_
  refine lv_iconst (v := (1 : Int32)) hx hb dL_law_263 (by decide) ?_
  refine lv_iadd hx hb dL_law_264 ?_
  refine va_sld hx hb hXs hbl hbA hS h1 dL_law_265 ?_
  refine lcallM F (M2 (outG g B) (x' q) (cp cc L')) (cwV 1 hts gL_law_X7_about rfl r2.1 r2.2.1 (by decide +kernel) ⟨by show rm2.frames + 1 ≤ 11; omega, by show 8 + (2 + 11) + rm2.locals ≤ 454; omega⟩) hP hD hS (q0 := 32) rfl rfl rfl hl rfl rfl (Nat.le_of_ble_eq_true rfl) dL_law_266 ⟨by omega, by omega⟩ (fun _ H locs hP hD hS => ?_)
  refine lv_istore (lv' := [(6, .int v), (5, .int rf), (0, .ref bS), (1, .ref (a 0)), (2, .ref (b 0)), (3, .ref o), (4, .int x4)]) hx hb dL_law_269 hl (by decide) rfl (fun ls hl => ?_)
  refine lv_aload_n hx hb dL_law_271 rfl (lv_at hl 4 rfl) ?_
  refine lcallM F (bX7_thrown l D cc o (outG g B) a b (x' q) m' (cp cc L') (h := rfl)) (cwV 0 hts gL_law_X7_thrown rfl rfl rfl (by decide +kernel) ⟨Nat.le_of_ble_eq_true rfl, Nat.le_of_ble_eq_true rfl⟩) hP hD hS (q0 := 32) rfl rfl rfl hl rfl rfl (Nat.le_of_ble_eq_true rfl) dL_law_272 ⟨by omega, by omega⟩ (fun _ H locs hP hD hS => ?_)
  refine lv_iload hx hb dL_law_275 (lv_at hl 1 rfl) ?_
  refine lv_icmp_eq (tgt := 282) hx hb dL_law_277 (by decide) (fun _ => ?_) (fun c9 => absurd (show fX7_thrown m'.1 = rf from hrf) c9)
  refine lv_iload hx hb dL_law_282 (lv_at hl 1 rfl) ?_
  refine lv_if_ne (tgt := 299) hx hb dL_law_284 (by decide) (fun _ => ?_) (fun c0 => ?_)
  · refine lv_goto (tgt := 1567) hx hb dL_law_299 (by decide) ?_
    refine W.widen (k := cells + 11) (n := slots + 1443) (by omega) (by omega) ?_
    exact next (outG g B) (x' q) m' L' H locs ls hI' hP hD hS (lv_sub hl [2, 3, 4, 5, 6] rfl)
  · have hB := aR_zero (by rw [← c0]; exact hA) (Nat.le_of_ble_eq_true rfl)
    refine lv_aload_n hx hb dL_law_287 rfl (lv_at hl 5 rfl) ?_
    refine lv_iconst (v := (0 : Int32)) hx hb dL_law_288 (by decide) ?_
    refine va_lald hx hb F.2.1 hP (q0 := 0) (t0 := 3) rfl rfl (pk_in 0 1 (by decide)) dL_law_289 ?_
    refine lv_iload hx hb dL_law_290 (lv_at hl 0 rfl) ?_
    refine lv_i2l (v := v.toInt64) hx hb dL_law_292 rfl ?_
    refine W.lcmp hx hb dL_law_293 ?_
    refine lv_if_eq (tgt := 299) hx hb dL_law_294 (by decide) (fun _ => ?_) (fun c9 => absurd (by rw [hB, outG_self]; exact cmp_self _) c9)
    refine lv_goto (tgt := 1567) hx hb dL_law_299 (by decide) ?_
    refine W.widen (k := cells + 11) (n := slots + 1443) (by omega) (by omega) ?_
    exact next (outG g B) (x' q) m' L' H locs ls hI' hP hD hS (lv_sub hl [2, 3, 4, 5, 6] rfl)
theorem lc_sign (F : lwF p s m c bS Ls xs D cc) (hst : l.stackTraces = false) (hI : INV x mv L) (hP : va_P D vwCl (wL cc o g a b x mv ++ cp cc L) H) (hD : va_D (fun q : Nat => s.heap.size ≤ q) (wL cc o g a b x mv ++ cp cc L)) (hS : va_S (fun q : Nat => s.heap.size ≤ q) s.heap H locs) (hl : lv_has ls 7 (lwL bS o a b x4)) (h1 : vp_in (x4 + (1 : Int32)) Ls) (h2 : vp_in (x4 + (2 : Int32)) Ls) (h3 : vp_in (x4 + (3 : Int32)) Ls) (hf : cells + 11 ≤ 601024 ∧ slots + 1443 ≤ 7293034) (next : lNext p l e s m below meth c cells slots Q bS D cc o a b x4) : W p l e room_1 s m #[Value.ref bS] below meth c H locs cells slots Q (F0 m 302 ls []) := by
  have hx := F.1.1
  have hb := F.1.2.1
  have hts := F.1.2.2.2.2
  have hown := F.1.2.2.2.1
  have hXs := F.2.2.2.2.2.1
  have hbl := F.2.2.2.2.2.2
  have hbA : ¬ (fun q : Nat => s.heap.size ≤ q) bS := Nat.not_le.mpr hbl
  obtain ⟨B, v, rf, x', m', Z, Z', rm, rm2, mc, ms, ⟨zP, zD⟩, M1, M2, hA, hrf, hZ, r1, r2⟩ := sem_sign l hst D cc o a b (xs (x4 + (1 : Int32)).toNatClampNeg) x mv L hI
  have q1 := r1.2.2.1
  have q2 := r1.2.2.2.1
  have q3 := r1.2.2.2.2.1
  have q4 := r1.2.2.2.2.2
  have q5 := r2.2.2.2.2.1
  have q6 := r2.2.2.2.2.2
  have hP := zP g H hP
  have hD := zD g _ hD
  refine lv_aload_n hx hb dL_law_302 rfl (lv_at hl 1 rfl) ?_
  refine lv_aload_n hx hb dL_law_303 rfl (lv_at hl 0 rfl) ?_
  refine lv_iload hx hb dL_law_304 (lv_at hl 4 rfl) ?_
  refine lv_iconst (v := (1 : Int32)) hx hb dL_law_306 (by decide) ?_
  refine lv_iadd hx hb dL_law_307 ?_
  refine va_sld hx hb hXs hbl hbA hS h1 dL_law_308 ?_
  refine lv_aload_n hx hb dL_law_309 rfl (lv_at hl 3 rfl) ?_
  refine lcallW F (kL_sign l D cc (rm := rm) r1.1 r1.2.1 (w0 := wLt cc a b x mv ++ Z) (w1 := fun q => (a 0, .inr (6, wXo a)) :: (wLt cc a b (x' q) mv ++ Z' q)) (M1 g) hA) (vx_cwSW 3 hts gL_law_L_sign rfl r1.1 r1.2.1 (by decide +kernel) ⟨by show rm.frames + 1 + 1 ≤ 11; omega, by show 8 + (4 + 11) + (rm.locals + 40) ≤ 454; omega⟩) hP hD hS hl rfl rfl (Nat.le_of_ble_eq_true rfl) dL_law_310 ⟨by omega, by omega⟩ (fun q H locs hP hD hS => ?_)
  have hP : va_P D vwCl (wL cc o (outG g B) a b (x' q) mv ++ Z' q) H := hP
  have hD : va_D (fun q : Nat => s.heap.size ≤ q) (wL cc o (outG g B) a b (x' q) mv ++ Z' q) := hD
  obtain ⟨L', eZ, hI'⟩ := hZ q
  rw [eZ] at hP hD
  refine lv_istore (lv' := [(5, .int rf), (0, .ref bS), (1, .ref (a 0)), (2, .ref (b 0)), (3, .ref o), (4, .int x4)]) hx hb dL_law_313 hl (by decide) rfl (fun ls hl => ?_)
  refine lv_aload_n hx hb dL_law_315 rfl (lv_at hl 3 rfl) ?_
  refine lv_aload_n hx hb dL_law_316 rfl (lv_at hl 1 rfl) ?_
  refine lv_iload hx hb dL_law_317 (lv_at hl 5 rfl) ?_
  refine lv_iconst (v := (1 : Int32)) hx hb dL_law_319 (by decide) ?_
  refine lv_iadd hx hb dL_law_320 ?_
  refine va_sld hx hb hXs hbl hbA hS h1 dL_law_321 ?_
  refine lcallM F (M2 (outG g B) (x' q) (cp cc L')) (cwV 1 hts gL_law_X7_sign rfl r2.1 r2.2.1 (by decide +kernel) ⟨by show rm2.frames + 1 ≤ 11; omega, by show 8 + (3 + 11) + rm2.locals ≤ 454; omega⟩) hP hD hS (q0 := 32) rfl rfl rfl hl rfl rfl (Nat.le_of_ble_eq_true rfl) dL_law_322 ⟨by omega, by omega⟩ (fun _ H locs hP hD hS => ?_)
  refine lv_istore (lv' := [(6, .int v), (5, .int rf), (0, .ref bS), (1, .ref (a 0)), (2, .ref (b 0)), (3, .ref o), (4, .int x4)]) hx hb dL_law_325 hl (by decide) rfl (fun ls hl => ?_)
  refine lv_aload_n hx hb dL_law_327 rfl (lv_at hl 4 rfl) ?_
  refine lcallM F (bX7_thrown l D cc o (outG g B) a b (x' q) m' (cp cc L') (h := rfl)) (cwV 0 hts gL_law_X7_thrown rfl rfl rfl (by decide +kernel) ⟨Nat.le_of_ble_eq_true rfl, Nat.le_of_ble_eq_true rfl⟩) hP hD hS (q0 := 32) rfl rfl rfl hl rfl rfl (Nat.le_of_ble_eq_true rfl) dL_law_328 ⟨by omega, by omega⟩ (fun _ H locs hP hD hS => ?_)
  refine lv_iload hx hb dL_law_331 (lv_at hl 1 rfl) ?_
  refine lv_icmp_eq (tgt := 338) hx hb dL_law_333 (by decide) (fun _ => ?_) (fun c9 => absurd (show fX7_thrown m'.1 = rf from hrf) c9)
  refine lv_iload hx hb dL_law_338 (lv_at hl 1 rfl) ?_
  refine lv_if_ne (tgt := 355) hx hb dL_law_340 (by decide) (fun _ => ?_) (fun c0 => ?_)
  · refine lv_goto (tgt := 1567) hx hb dL_law_355 (by decide) ?_
    refine W.widen (k := cells + 11) (n := slots + 1443) (by omega) (by omega) ?_
    exact next (outG g B) (x' q) m' L' H locs ls hI' hP hD hS (lv_sub hl [2, 3, 4, 5, 6] rfl)
  · have hB := aR_zero (by rw [← c0]; exact hA) (Nat.le_of_ble_eq_true rfl)
    refine lv_aload_n hx hb dL_law_343 rfl (lv_at hl 5 rfl) ?_
    refine lv_iconst (v := (0 : Int32)) hx hb dL_law_344 (by decide) ?_
    refine va_lald hx hb F.2.1 hP (q0 := 0) (t0 := 3) rfl rfl (pk_in 0 1 (by decide)) dL_law_345 ?_
    refine lv_iload hx hb dL_law_346 (lv_at hl 0 rfl) ?_
    refine lv_i2l (v := v.toInt64) hx hb dL_law_348 rfl ?_
    refine W.lcmp hx hb dL_law_349 ?_
    refine lv_if_eq (tgt := 355) hx hb dL_law_350 (by decide) (fun _ => ?_) (fun c9 => absurd (by rw [hB, outG_self]; exact cmp_self _) c9)
    refine lv_goto (tgt := 1567) hx hb dL_law_355 (by decide) ?_
    refine W.widen (k := cells + 11) (n := slots + 1443) (by omega) (by omega) ?_
    exact next (outG g B) (x' q) m' L' H locs ls hI' hP hD hS (lv_sub hl [2, 3, 4, 5, 6] rfl)
theorem lc_sample (F : lwF p s m c bS Ls xs D cc) (hst : l.stackTraces = false) (hI : INV x mv L) (hP : va_P D vwCl (wL cc o g a b x mv ++ cp cc L) H) (hD : va_D (fun q : Nat => s.heap.size ≤ q) (wL cc o g a b x mv ++ cp cc L)) (hS : va_S (fun q : Nat => s.heap.size ≤ q) s.heap H locs) (hl : lv_has ls 7 (lwL bS o a b x4)) (h1 : vp_in (x4 + (1 : Int32)) Ls) (h2 : vp_in (x4 + (2 : Int32)) Ls) (h3 : vp_in (x4 + (3 : Int32)) Ls) (hf : cells + 11 ≤ 601024 ∧ slots + 1443 ≤ 7293034) (next : lNext p l e s m below meth c cells slots Q bS D cc o a b x4) : W p l e room_1 s m #[Value.ref bS] below meth c H locs cells slots Q (F0 m 358 ls []) := by
  have hx := F.1.1
  have hb := F.1.2.1
  have hts := F.1.2.2.2.2
  have hown := F.1.2.2.2.1
  have hXs := F.2.2.2.2.2.1
  have hbl := F.2.2.2.2.2.2
  have hbA : ¬ (fun q : Nat => s.heap.size ≤ q) bS := Nat.not_le.mpr hbl
  obtain ⟨B, v, rf, x', m', Z, Z', rm, rm2, mc, ms, ⟨zP, zD⟩, M1, M2, hA, hrf, hZ, r1, r2⟩ := sem_sample l hst D cc o a b (xs (x4 + (1 : Int32)).toNatClampNeg) (xs (x4 + (2 : Int32)).toNatClampNeg) x mv L hI
  have q1 := r1.2.2.1
  have q2 := r1.2.2.2.1
  have q3 := r1.2.2.2.2.1
  have q4 := r1.2.2.2.2.2
  have q5 := r2.2.2.2.2.1
  have q6 := r2.2.2.2.2.2
  have hP := zP g H hP
  have hD := zD g _ hD
  refine lv_aload_n hx hb dL_law_358 rfl (lv_at hl 1 rfl) ?_
  refine lv_aload_n hx hb dL_law_359 rfl (lv_at hl 0 rfl) ?_
  refine lv_iload hx hb dL_law_360 (lv_at hl 4 rfl) ?_
  refine lv_iconst (v := (1 : Int32)) hx hb dL_law_362 (by decide) ?_
  refine lv_iadd hx hb dL_law_363 ?_
  refine va_sld hx hb hXs hbl hbA hS h1 dL_law_364 ?_
  refine lv_aload_n hx hb dL_law_365 rfl (lv_at hl 0 rfl) ?_
  refine lv_iload hx hb dL_law_366 (lv_at hl 4 rfl) ?_
  refine lv_iconst (v := (2 : Int32)) hx hb dL_law_368 (by decide) ?_
  refine lv_iadd hx hb dL_law_369 ?_
  refine va_sld hx hb hXs hbl hbA hS h2 dL_law_370 ?_
  refine lv_aload_n hx hb dL_law_371 rfl (lv_at hl 3 rfl) ?_
  refine lcallW F (kL_sample l D cc (rm := rm) r1.1 r1.2.1 (w0 := wLt cc a b x mv ++ Z) (w1 := fun q => (a 0, .inr (6, wXo a)) :: (wLt cc a b (x' q) mv ++ Z' q)) (M1 g) hA) (vx_cwSW 4 hts gL_law_L_sample rfl r1.1 r1.2.1 (by decide +kernel) ⟨by show rm.frames + 1 + 1 ≤ 11; omega, by show 8 + (5 + 11) + (rm.locals + 40) ≤ 454; omega⟩) hP hD hS hl rfl rfl (Nat.le_of_ble_eq_true rfl) dL_law_372 ⟨by omega, by omega⟩ (fun q H locs hP hD hS => ?_)
  have hP : va_P D vwCl (wL cc o (outG g B) a b (x' q) mv ++ Z' q) H := hP
  have hD : va_D (fun q : Nat => s.heap.size ≤ q) (wL cc o (outG g B) a b (x' q) mv ++ Z' q) := hD
  obtain ⟨L', eZ, hI'⟩ := hZ q
  rw [eZ] at hP hD
  refine lv_istore (lv' := [(5, .int rf), (0, .ref bS), (1, .ref (a 0)), (2, .ref (b 0)), (3, .ref o), (4, .int x4)]) hx hb dL_law_375 hl (by decide) rfl (fun ls hl => ?_)
  refine lv_aload_n hx hb dL_law_377 rfl (lv_at hl 3 rfl) ?_
  refine lv_aload_n hx hb dL_law_378 rfl (lv_at hl 1 rfl) ?_
  refine lv_iload hx hb dL_law_379 (lv_at hl 5 rfl) ?_
  refine lv_iconst (v := (1 : Int32)) hx hb dL_law_381 (by decide) ?_
  refine lv_iadd hx hb dL_law_382 ?_
  refine va_sld hx hb hXs hbl hbA hS h1 dL_law_383 ?_
  refine lv_aload_n hx hb dL_law_384 rfl (lv_at hl 1 rfl) ?_
  refine lv_iload hx hb dL_law_385 (lv_at hl 5 rfl) ?_
  refine lv_iconst (v := (2 : Int32)) hx hb dL_law_387 (by decide) ?_
  refine lv_iadd hx hb dL_law_388 ?_
  refine va_sld hx hb hXs hbl hbA hS h2 dL_law_389 ?_
  refine lcallM F (M2 (outG g B) (x' q) (cp cc L')) (cwV 2 hts gL_law_X7_sample rfl r2.1 r2.2.1 (by decide +kernel) ⟨by show rm2.frames + 1 ≤ 11; omega, by show 8 + (3 + 11) + rm2.locals ≤ 454; omega⟩) hP hD hS (q0 := 32) rfl rfl rfl hl rfl rfl (Nat.le_of_ble_eq_true rfl) dL_law_390 ⟨by omega, by omega⟩ (fun _ H locs hP hD hS => ?_)
  refine lv_istore (lv' := [(6, .int v), (5, .int rf), (0, .ref bS), (1, .ref (a 0)), (2, .ref (b 0)), (3, .ref o), (4, .int x4)]) hx hb dL_law_393 hl (by decide) rfl (fun ls hl => ?_)
  refine lv_aload_n hx hb dL_law_395 rfl (lv_at hl 4 rfl) ?_
  refine lcallM F (bX7_thrown l D cc o (outG g B) a b (x' q) m' (cp cc L') (h := rfl)) (cwV 0 hts gL_law_X7_thrown rfl rfl rfl (by decide +kernel) ⟨Nat.le_of_ble_eq_true rfl, Nat.le_of_ble_eq_true rfl⟩) hP hD hS (q0 := 32) rfl rfl rfl hl rfl rfl (Nat.le_of_ble_eq_true rfl) dL_law_396 ⟨by omega, by omega⟩ (fun _ H locs hP hD hS => ?_)
  refine lv_iload hx hb dL_law_399 (lv_at hl 1 rfl) ?_
  refine lv_icmp_eq (tgt := 406) hx hb dL_law_401 (by decide) (fun _ => ?_) (fun c9 => absurd (show fX7_thrown m'.1 = rf from hrf) c9)
  refine lv_iload hx hb dL_law_406 (lv_at hl 1 rfl) ?_
  refine lv_if_ne (tgt := 423) hx hb dL_law_408 (by decide) (fun _ => ?_) (fun c0 => ?_)
  · refine lv_goto (tgt := 1567) hx hb dL_law_423 (by decide) ?_
    refine W.widen (k := cells + 11) (n := slots + 1443) (by omega) (by omega) ?_
    exact next (outG g B) (x' q) m' L' H locs ls hI' hP hD hS (lv_sub hl [2, 3, 4, 5, 6] rfl)
  · have hB := aR_zero (by rw [← c0]; exact hA) (Nat.le_of_ble_eq_true rfl)
    refine lv_aload_n hx hb dL_law_411 rfl (lv_at hl 5 rfl) ?_
    refine lv_iconst (v := (0 : Int32)) hx hb dL_law_412 (by decide) ?_
    refine va_lald hx hb F.2.1 hP (q0 := 0) (t0 := 3) rfl rfl (pk_in 0 1 (by decide)) dL_law_413 ?_
    refine lv_iload hx hb dL_law_414 (lv_at hl 0 rfl) ?_
    refine lv_i2l (v := v.toInt64) hx hb dL_law_416 rfl ?_
    refine W.lcmp hx hb dL_law_417 ?_
    refine lv_if_eq (tgt := 423) hx hb dL_law_418 (by decide) (fun _ => ?_) (fun c9 => absurd (by rw [hB, outG_self]; exact cmp_self _) c9)
    refine lv_goto (tgt := 1567) hx hb dL_law_423 (by decide) ?_
    refine W.widen (k := cells + 11) (n := slots + 1443) (by omega) (by omega) ?_
    exact next (outG g B) (x' q) m' L' H locs ls hI' hP hD hS (lv_sub hl [2, 3, 4, 5, 6] rfl)
theorem lc_signOf (F : lwF p s m c bS Ls xs D cc) (hst : l.stackTraces = false) (hI : INV x mv L) (hP : va_P D vwCl (wL cc o g a b x mv ++ cp cc L) H) (hD : va_D (fun q : Nat => s.heap.size ≤ q) (wL cc o g a b x mv ++ cp cc L)) (hS : va_S (fun q : Nat => s.heap.size ≤ q) s.heap H locs) (hl : lv_has ls 7 (lwL bS o a b x4)) (h1 : vp_in (x4 + (1 : Int32)) Ls) (h2 : vp_in (x4 + (2 : Int32)) Ls) (h3 : vp_in (x4 + (3 : Int32)) Ls) (hf : cells + 11 ≤ 601024 ∧ slots + 1443 ≤ 7293034) (next : lNext p l e s m below meth c cells slots Q bS D cc o a b x4) : W p l e room_1 s m #[Value.ref bS] below meth c H locs cells slots Q (F0 m 426 ls []) := by
  have hx := F.1.1
  have hb := F.1.2.1
  have hts := F.1.2.2.2.2
  have hown := F.1.2.2.2.1
  have hXs := F.2.2.2.2.2.1
  have hbl := F.2.2.2.2.2.2
  have hbA : ¬ (fun q : Nat => s.heap.size ≤ q) bS := Nat.not_le.mpr hbl
  obtain ⟨B, v, rf, x', m', Z, Z', rm, rm2, mc, ms, ⟨zP, zD⟩, M1, M2, hA, hrf, hZ, r1, r2⟩ := sem_signOf l hst D cc o a b (xs (x4 + (1 : Int32)).toNatClampNeg) (xs (x4 + (2 : Int32)).toNatClampNeg) x mv L hI
  have q1 := r1.2.2.1
  have q2 := r1.2.2.2.1
  have q3 := r1.2.2.2.2.1
  have q4 := r1.2.2.2.2.2
  have q5 := r2.2.2.2.2.1
  have q6 := r2.2.2.2.2.2
  have hP := zP g H hP
  have hD := zD g _ hD
  refine lv_aload_n hx hb dL_law_426 rfl (lv_at hl 1 rfl) ?_
  refine lv_aload_n hx hb dL_law_427 rfl (lv_at hl 0 rfl) ?_
  refine lv_iload hx hb dL_law_428 (lv_at hl 4 rfl) ?_
  refine lv_iconst (v := (1 : Int32)) hx hb dL_law_430 (by decide) ?_
  refine lv_iadd hx hb dL_law_431 ?_
  refine va_sld hx hb hXs hbl hbA hS h1 dL_law_432 ?_
  refine lv_aload_n hx hb dL_law_433 rfl (lv_at hl 0 rfl) ?_
  refine lv_iload hx hb dL_law_434 (lv_at hl 4 rfl) ?_
  refine lv_iconst (v := (2 : Int32)) hx hb dL_law_436 (by decide) ?_
  refine lv_iadd hx hb dL_law_437 ?_
  refine va_sld hx hb hXs hbl hbA hS h2 dL_law_438 ?_
  refine lv_aload_n hx hb dL_law_439 rfl (lv_at hl 3 rfl) ?_
  refine lcallW F (kL_signOf l D cc (rm := rm) r1.1 r1.2.1 (w0 := wLt cc a b x mv ++ Z) (w1 := fun q => (a 0, .inr (6, wXo a)) :: (wLt cc a b (x' q) mv ++ Z' q)) (M1 g) hA) (vx_cwSW 4 hts gL_law_L_signOf rfl r1.1 r1.2.1 (by decide +kernel) ⟨by show rm.frames + 1 + 1 ≤ 11; omega, by show 8 + (5 + 11) + (rm.locals + 40) ≤ 454; omega⟩) hP hD hS hl rfl rfl (Nat.le_of_ble_eq_true rfl) dL_law_440 ⟨by omega, by omega⟩ (fun q H locs hP hD hS => ?_)
  have hP : va_P D vwCl (wL cc o (outG g B) a b (x' q) mv ++ Z' q) H := hP
  have hD : va_D (fun q : Nat => s.heap.size ≤ q) (wL cc o (outG g B) a b (x' q) mv ++ Z' q) := hD
  obtain ⟨L', eZ, hI'⟩ := hZ q
  rw [eZ] at hP hD
  refine lv_istore (lv' := [(5, .int rf), (0, .ref bS), (1, .ref (a 0)), (2, .ref (b 0)), (3, .ref o), (4, .int x4)]) hx hb dL_law_443 hl (by decide) rfl (fun ls hl => ?_)
  refine lv_aload_n hx hb dL_law_445 rfl (lv_at hl 3 rfl) ?_
  refine lv_aload_n hx hb dL_law_446 rfl (lv_at hl 1 rfl) ?_
  refine lv_iload hx hb dL_law_447 (lv_at hl 5 rfl) ?_
  refine lv_iconst (v := (1 : Int32)) hx hb dL_law_449 (by decide) ?_
  refine lv_iadd hx hb dL_law_450 ?_
  refine va_sld hx hb hXs hbl hbA hS h1 dL_law_451 ?_
  refine lv_aload_n hx hb dL_law_452 rfl (lv_at hl 1 rfl) ?_
  refine lv_iload hx hb dL_law_453 (lv_at hl 5 rfl) ?_
  refine lv_iconst (v := (2 : Int32)) hx hb dL_law_455 (by decide) ?_
  refine lv_iadd hx hb dL_law_456 ?_
  refine va_sld hx hb hXs hbl hbA hS h2 dL_law_457 ?_
  refine lcallM F (M2 (outG g B) (x' q) (cp cc L')) (cwV 2 hts gL_law_X7_signOf rfl r2.1 r2.2.1 (by decide +kernel) ⟨by show rm2.frames + 1 ≤ 11; omega, by show 8 + (4 + 11) + rm2.locals ≤ 454; omega⟩) hP hD hS (q0 := 32) rfl rfl rfl hl rfl rfl (Nat.le_of_ble_eq_true rfl) dL_law_458 ⟨by omega, by omega⟩ (fun _ H locs hP hD hS => ?_)
  refine lv_istore (lv' := [(6, .int v), (5, .int rf), (0, .ref bS), (1, .ref (a 0)), (2, .ref (b 0)), (3, .ref o), (4, .int x4)]) hx hb dL_law_461 hl (by decide) rfl (fun ls hl => ?_)
  refine lv_aload_n hx hb dL_law_463 rfl (lv_at hl 4 rfl) ?_
  refine lcallM F (bX7_thrown l D cc o (outG g B) a b (x' q) m' (cp cc L') (h := rfl)) (cwV 0 hts gL_law_X7_thrown rfl rfl rfl (by decide +kernel) ⟨Nat.le_of_ble_eq_true rfl, Nat.le_of_ble_eq_true rfl⟩) hP hD hS (q0 := 32) rfl rfl rfl hl rfl rfl (Nat.le_of_ble_eq_true rfl) dL_law_464 ⟨by omega, by omega⟩ (fun _ H locs hP hD hS => ?_)
  refine lv_iload hx hb dL_law_467 (lv_at hl 1 rfl) ?_
  refine lv_icmp_eq (tgt := 474) hx hb dL_law_469 (by decide) (fun _ => ?_) (fun c9 => absurd (show fX7_thrown m'.1 = rf from hrf) c9)
  refine lv_iload hx hb dL_law_474 (lv_at hl 1 rfl) ?_
  refine lv_if_ne (tgt := 491) hx hb dL_law_476 (by decide) (fun _ => ?_) (fun c0 => ?_)
  · refine lv_goto (tgt := 1567) hx hb dL_law_491 (by decide) ?_
    refine W.widen (k := cells + 11) (n := slots + 1443) (by omega) (by omega) ?_
    exact next (outG g B) (x' q) m' L' H locs ls hI' hP hD hS (lv_sub hl [2, 3, 4, 5, 6] rfl)
  · have hB := aR_zero (by rw [← c0]; exact hA) (Nat.le_of_ble_eq_true rfl)
    refine lv_aload_n hx hb dL_law_479 rfl (lv_at hl 5 rfl) ?_
    refine lv_iconst (v := (0 : Int32)) hx hb dL_law_480 (by decide) ?_
    refine va_lald hx hb F.2.1 hP (q0 := 0) (t0 := 3) rfl rfl (pk_in 0 1 (by decide)) dL_law_481 ?_
    refine lv_iload hx hb dL_law_482 (lv_at hl 0 rfl) ?_
    refine lv_i2l (v := v.toInt64) hx hb dL_law_484 rfl ?_
    refine W.lcmp hx hb dL_law_485 ?_
    refine lv_if_eq (tgt := 491) hx hb dL_law_486 (by decide) (fun _ => ?_) (fun c9 => absurd (by rw [hB, outG_self]; exact cmp_self _) c9)
    refine lv_goto (tgt := 1567) hx hb dL_law_491 (by decide) ?_
    refine W.widen (k := cells + 11) (n := slots + 1443) (by omega) (by omega) ?_
    exact next (outG g B) (x' q) m' L' H locs ls hI' hP hD hS (lv_sub hl [2, 3, 4, 5, 6] rfl)
theorem lc_practised (F : lwF p s m c bS Ls xs D cc) (hst : l.stackTraces = false) (hI : INV x mv L) (hP : va_P D vwCl (wL cc o g a b x mv ++ cp cc L) H) (hD : va_D (fun q : Nat => s.heap.size ≤ q) (wL cc o g a b x mv ++ cp cc L)) (hS : va_S (fun q : Nat => s.heap.size ≤ q) s.heap H locs) (hl : lv_has ls 7 (lwL bS o a b x4)) (h1 : vp_in (x4 + (1 : Int32)) Ls) (h2 : vp_in (x4 + (2 : Int32)) Ls) (h3 : vp_in (x4 + (3 : Int32)) Ls) (hf : cells + 11 ≤ 601024 ∧ slots + 1443 ≤ 7293034) (next : lNext p l e s m below meth c cells slots Q bS D cc o a b x4) : W p l e room_1 s m #[Value.ref bS] below meth c H locs cells slots Q (F0 m 494 ls []) := by
  have hx := F.1.1
  have hb := F.1.2.1
  have hts := F.1.2.2.2.2
  have hown := F.1.2.2.2.1
  have hXs := F.2.2.2.2.2.1
  have hbl := F.2.2.2.2.2.2
  have hbA : ¬ (fun q : Nat => s.heap.size ≤ q) bS := Nat.not_le.mpr hbl
  obtain ⟨B, v, rf, x', m', Z, Z', rm, rm2, mc, ms, ⟨zP, zD⟩, M1, M2, hA, hrf, hZ, r1, r2⟩ := sem_practised l hst D cc o a b (xs (x4 + (1 : Int32)).toNatClampNeg) (xs (x4 + (2 : Int32)).toNatClampNeg) x mv L hI
  have q1 := r1.2.2.1
  have q2 := r1.2.2.2.1
  have q3 := r1.2.2.2.2.1
  have q4 := r1.2.2.2.2.2
  have q5 := r2.2.2.2.2.1
  have q6 := r2.2.2.2.2.2
  have hP := zP g H hP
  have hD := zD g _ hD
  refine lv_aload_n hx hb dL_law_494 rfl (lv_at hl 1 rfl) ?_
  refine lv_aload_n hx hb dL_law_495 rfl (lv_at hl 0 rfl) ?_
  refine lv_iload hx hb dL_law_496 (lv_at hl 4 rfl) ?_
  refine lv_iconst (v := (1 : Int32)) hx hb dL_law_498 (by decide) ?_
  refine lv_iadd hx hb dL_law_499 ?_
  refine va_sld hx hb hXs hbl hbA hS h1 dL_law_500 ?_
  refine lv_aload_n hx hb dL_law_501 rfl (lv_at hl 0 rfl) ?_
  refine lv_iload hx hb dL_law_502 (lv_at hl 4 rfl) ?_
  refine lv_iconst (v := (2 : Int32)) hx hb dL_law_504 (by decide) ?_
  refine lv_iadd hx hb dL_law_505 ?_
  refine va_sld hx hb hXs hbl hbA hS h2 dL_law_506 ?_
  refine lv_aload_n hx hb dL_law_507 rfl (lv_at hl 3 rfl) ?_
  refine lcallW F (kL_practised l D cc (rm := rm) r1.1 r1.2.1 (w0 := wLt cc a b x mv ++ Z) (w1 := fun q => (a 0, .inr (6, wXo a)) :: (wLt cc a b (x' q) mv ++ Z' q)) (M1 g) hA) (vx_cwSW 4 hts gL_law_L_practised rfl r1.1 r1.2.1 (by decide +kernel) ⟨by show rm.frames + 1 + 1 ≤ 11; omega, by show 8 + (5 + 11) + (rm.locals + 40) ≤ 454; omega⟩) hP hD hS hl rfl rfl (Nat.le_of_ble_eq_true rfl) dL_law_508 ⟨by omega, by omega⟩ (fun q H locs hP hD hS => ?_)
  have hP : va_P D vwCl (wL cc o (outG g B) a b (x' q) mv ++ Z' q) H := hP
  have hD : va_D (fun q : Nat => s.heap.size ≤ q) (wL cc o (outG g B) a b (x' q) mv ++ Z' q) := hD
  obtain ⟨L', eZ, hI'⟩ := hZ q
  rw [eZ] at hP hD
  refine lv_istore (lv' := [(5, .int rf), (0, .ref bS), (1, .ref (a 0)), (2, .ref (b 0)), (3, .ref o), (4, .int x4)]) hx hb dL_law_511 hl (by decide) rfl (fun ls hl => ?_)
  refine lv_aload_n hx hb dL_law_513 rfl (lv_at hl 3 rfl) ?_
  refine lv_aload_n hx hb dL_law_514 rfl (lv_at hl 1 rfl) ?_
  refine lv_iload hx hb dL_law_515 (lv_at hl 5 rfl) ?_
  refine lv_iconst (v := (1 : Int32)) hx hb dL_law_517 (by decide) ?_
  refine lv_iadd hx hb dL_law_518 ?_
  refine va_sld hx hb hXs hbl hbA hS h1 dL_law_519 ?_
  refine lv_aload_n hx hb dL_law_520 rfl (lv_at hl 1 rfl) ?_
  refine lv_iload hx hb dL_law_521 (lv_at hl 5 rfl) ?_
  refine lv_iconst (v := (2 : Int32)) hx hb dL_law_523 (by decide) ?_
  refine lv_iadd hx hb dL_law_524 ?_
  refine va_sld hx hb hXs hbl hbA hS h2 dL_law_525 ?_
  refine lcallM F (M2 (outG g B) (x' q) (cp cc L')) (cwV 2 hts gL_law_X7_practised rfl r2.1 r2.2.1 (by decide +kernel) ⟨by show rm2.frames + 1 ≤ 11; omega, by show 8 + (3 + 11) + rm2.locals ≤ 454; omega⟩) hP hD hS (q0 := 32) rfl rfl rfl hl rfl rfl (Nat.le_of_ble_eq_true rfl) dL_law_526 ⟨by omega, by omega⟩ (fun _ H locs hP hD hS => ?_)
  refine lv_istore (lv' := [(6, .int v), (5, .int rf), (0, .ref bS), (1, .ref (a 0)), (2, .ref (b 0)), (3, .ref o), (4, .int x4)]) hx hb dL_law_529 hl (by decide) rfl (fun ls hl => ?_)
  refine lv_aload_n hx hb dL_law_531 rfl (lv_at hl 4 rfl) ?_
  refine lcallM F (bX7_thrown l D cc o (outG g B) a b (x' q) m' (cp cc L') (h := rfl)) (cwV 0 hts gL_law_X7_thrown rfl rfl rfl (by decide +kernel) ⟨Nat.le_of_ble_eq_true rfl, Nat.le_of_ble_eq_true rfl⟩) hP hD hS (q0 := 32) rfl rfl rfl hl rfl rfl (Nat.le_of_ble_eq_true rfl) dL_law_532 ⟨by omega, by omega⟩ (fun _ H locs hP hD hS => ?_)
  refine lv_iload hx hb dL_law_535 (lv_at hl 1 rfl) ?_
  refine lv_icmp_eq (tgt := 542) hx hb dL_law_537 (by decide) (fun _ => ?_) (fun c9 => absurd (show fX7_thrown m'.1 = rf from hrf) c9)
  refine lv_iload hx hb dL_law_542 (lv_at hl 1 rfl) ?_
  refine lv_if_ne (tgt := 559) hx hb dL_law_544 (by decide) (fun _ => ?_) (fun c0 => ?_)
  · refine lv_goto (tgt := 1567) hx hb dL_law_559 (by decide) ?_
    refine W.widen (k := cells + 11) (n := slots + 1443) (by omega) (by omega) ?_
    exact next (outG g B) (x' q) m' L' H locs ls hI' hP hD hS (lv_sub hl [2, 3, 4, 5, 6] rfl)
  · have hB := aR_zero (by rw [← c0]; exact hA) (Nat.le_of_ble_eq_true rfl)
    refine lv_aload_n hx hb dL_law_547 rfl (lv_at hl 5 rfl) ?_
    refine lv_iconst (v := (0 : Int32)) hx hb dL_law_548 (by decide) ?_
    refine va_lald hx hb F.2.1 hP (q0 := 0) (t0 := 3) rfl rfl (pk_in 0 1 (by decide)) dL_law_549 ?_
    refine lv_iload hx hb dL_law_550 (lv_at hl 0 rfl) ?_
    refine lv_i2l (v := v.toInt64) hx hb dL_law_552 rfl ?_
    refine W.lcmp hx hb dL_law_553 ?_
    refine lv_if_eq (tgt := 559) hx hb dL_law_554 (by decide) (fun _ => ?_) (fun c9 => absurd (by rw [hB, outG_self]; exact cmp_self _) c9)
    refine lv_goto (tgt := 1567) hx hb dL_law_559 (by decide) ?_
    refine W.widen (k := cells + 11) (n := slots + 1443) (by omega) (by omega) ?_
    exact next (outG g B) (x' q) m' L' H locs ls hI' hP hD hS (lv_sub hl [2, 3, 4, 5, 6] rfl)
theorem lc_setting (F : lwF p s m c bS Ls xs D cc) (hst : l.stackTraces = false) (hI : INV x mv L) (hP : va_P D vwCl (wL cc o g a b x mv ++ cp cc L) H) (hD : va_D (fun q : Nat => s.heap.size ≤ q) (wL cc o g a b x mv ++ cp cc L)) (hS : va_S (fun q : Nat => s.heap.size ≤ q) s.heap H locs) (hl : lv_has ls 7 (lwL bS o a b x4)) (h1 : vp_in (x4 + (1 : Int32)) Ls) (h2 : vp_in (x4 + (2 : Int32)) Ls) (h3 : vp_in (x4 + (3 : Int32)) Ls) (hf : cells + 11 ≤ 601024 ∧ slots + 1443 ≤ 7293034) (next : lNext p l e s m below meth c cells slots Q bS D cc o a b x4) : W p l e room_1 s m #[Value.ref bS] below meth c H locs cells slots Q (F0 m 562 ls []) := by
  have hx := F.1.1
  have hb := F.1.2.1
  have hts := F.1.2.2.2.2
  have hown := F.1.2.2.2.1
  have hXs := F.2.2.2.2.2.1
  have hbl := F.2.2.2.2.2.2
  have hbA : ¬ (fun q : Nat => s.heap.size ≤ q) bS := Nat.not_le.mpr hbl
  obtain ⟨B, v, rf, x', m', Z, Z', rm, rm2, mc, ms, ⟨zP, zD⟩, M1, M2, hA, hrf, hZ, r1, r2⟩ := sem_setting l hst D cc o a b (xs (x4 + (1 : Int32)).toNatClampNeg) x mv L hI
  have q1 := r1.2.2.1
  have q2 := r1.2.2.2.1
  have q3 := r1.2.2.2.2.1
  have q4 := r1.2.2.2.2.2
  have q5 := r2.2.2.2.2.1
  have q6 := r2.2.2.2.2.2
  have hP := zP g H hP
  have hD := zD g _ hD
  refine lv_aload_n hx hb dL_law_562 rfl (lv_at hl 1 rfl) ?_
  refine lv_aload_n hx hb dL_law_563 rfl (lv_at hl 0 rfl) ?_
  refine lv_iload hx hb dL_law_564 (lv_at hl 4 rfl) ?_
  refine lv_iconst (v := (1 : Int32)) hx hb dL_law_566 (by decide) ?_
  refine lv_iadd hx hb dL_law_567 ?_
  refine va_sld hx hb hXs hbl hbA hS h1 dL_law_568 ?_
  refine lv_aload_n hx hb dL_law_569 rfl (lv_at hl 3 rfl) ?_
  refine lcallW F (kL_setting l D cc (rm := rm) r1.1 r1.2.1 (w0 := wLt cc a b x mv ++ Z) (w1 := fun q => (a 0, .inr (6, wXo a)) :: (wLt cc a b (x' q) mv ++ Z' q)) (M1 g) hA) (vx_cwSW 3 hts gL_law_L_setting rfl r1.1 r1.2.1 (by decide +kernel) ⟨by show rm.frames + 1 + 1 ≤ 11; omega, by show 8 + (4 + 11) + (rm.locals + 40) ≤ 454; omega⟩) hP hD hS hl rfl rfl (Nat.le_of_ble_eq_true rfl) dL_law_570 ⟨by omega, by omega⟩ (fun q H locs hP hD hS => ?_)
  have hP : va_P D vwCl (wL cc o (outG g B) a b (x' q) mv ++ Z' q) H := hP
  have hD : va_D (fun q : Nat => s.heap.size ≤ q) (wL cc o (outG g B) a b (x' q) mv ++ Z' q) := hD
  obtain ⟨L', eZ, hI'⟩ := hZ q
  rw [eZ] at hP hD
  refine lv_istore (lv' := [(5, .int rf), (0, .ref bS), (1, .ref (a 0)), (2, .ref (b 0)), (3, .ref o), (4, .int x4)]) hx hb dL_law_573 hl (by decide) rfl (fun ls hl => ?_)
  refine lv_aload_n hx hb dL_law_575 rfl (lv_at hl 3 rfl) ?_
  refine lv_aload_n hx hb dL_law_576 rfl (lv_at hl 1 rfl) ?_
  refine lv_iload hx hb dL_law_577 (lv_at hl 5 rfl) ?_
  refine lv_iconst (v := (1 : Int32)) hx hb dL_law_579 (by decide) ?_
  refine lv_iadd hx hb dL_law_580 ?_
  refine va_sld hx hb hXs hbl hbA hS h1 dL_law_581 ?_
  refine lcallM F (M2 (outG g B) (x' q) (cp cc L')) (cwV 1 hts gL_law_X7_setting rfl r2.1 r2.2.1 (by decide +kernel) ⟨by show rm2.frames + 1 ≤ 11; omega, by show 8 + (2 + 11) + rm2.locals ≤ 454; omega⟩) hP hD hS (q0 := 32) rfl rfl rfl hl rfl rfl (Nat.le_of_ble_eq_true rfl) dL_law_582 ⟨by omega, by omega⟩ (fun _ H locs hP hD hS => ?_)
  refine lv_istore (lv' := [(6, .int v), (5, .int rf), (0, .ref bS), (1, .ref (a 0)), (2, .ref (b 0)), (3, .ref o), (4, .int x4)]) hx hb dL_law_585 hl (by decide) rfl (fun ls hl => ?_)
  refine lv_aload_n hx hb dL_law_587 rfl (lv_at hl 4 rfl) ?_
  refine lcallM F (bX7_thrown l D cc o (outG g B) a b (x' q) m' (cp cc L') (h := rfl)) (cwV 0 hts gL_law_X7_thrown rfl rfl rfl (by decide +kernel) ⟨Nat.le_of_ble_eq_true rfl, Nat.le_of_ble_eq_true rfl⟩) hP hD hS (q0 := 32) rfl rfl rfl hl rfl rfl (Nat.le_of_ble_eq_true rfl) dL_law_588 ⟨by omega, by omega⟩ (fun _ H locs hP hD hS => ?_)
  refine lv_iload hx hb dL_law_591 (lv_at hl 1 rfl) ?_
  refine lv_icmp_eq (tgt := 598) hx hb dL_law_593 (by decide) (fun _ => ?_) (fun c9 => absurd (show fX7_thrown m'.1 = rf from hrf) c9)
  refine lv_iload hx hb dL_law_598 (lv_at hl 1 rfl) ?_
  refine lv_if_ne (tgt := 615) hx hb dL_law_600 (by decide) (fun _ => ?_) (fun c0 => ?_)
  · refine lv_goto (tgt := 1567) hx hb dL_law_615 (by decide) ?_
    refine W.widen (k := cells + 11) (n := slots + 1443) (by omega) (by omega) ?_
    exact next (outG g B) (x' q) m' L' H locs ls hI' hP hD hS (lv_sub hl [2, 3, 4, 5, 6] rfl)
  · have hB := aR_zero (by rw [← c0]; exact hA) (Nat.le_of_ble_eq_true rfl)
    refine lv_aload_n hx hb dL_law_603 rfl (lv_at hl 5 rfl) ?_
    refine lv_iconst (v := (0 : Int32)) hx hb dL_law_604 (by decide) ?_
    refine va_lald hx hb F.2.1 hP (q0 := 0) (t0 := 3) rfl rfl (pk_in 0 1 (by decide)) dL_law_605 ?_
    refine lv_iload hx hb dL_law_606 (lv_at hl 0 rfl) ?_
    refine lv_i2l (v := v.toInt64) hx hb dL_law_608 rfl ?_
    refine W.lcmp hx hb dL_law_609 ?_
    refine lv_if_eq (tgt := 615) hx hb dL_law_610 (by decide) (fun _ => ?_) (fun c9 => absurd (by rw [hB, outG_self]; exact cmp_self _) c9)
    refine lv_goto (tgt := 1567) hx hb dL_law_615 (by decide) ?_
    refine W.widen (k := cells + 11) (n := slots + 1443) (by omega) (by omega) ?_
    exact next (outG g B) (x' q) m' L' H locs ls hI' hP hD hS (lv_sub hl [2, 3, 4, 5, 6] rfl)
theorem lc_point (F : lwF p s m c bS Ls xs D cc) (hst : l.stackTraces = false) (hI : INV x mv L) (hP : va_P D vwCl (wL cc o g a b x mv ++ cp cc L) H) (hD : va_D (fun q : Nat => s.heap.size ≤ q) (wL cc o g a b x mv ++ cp cc L)) (hS : va_S (fun q : Nat => s.heap.size ≤ q) s.heap H locs) (hl : lv_has ls 7 (lwL bS o a b x4)) (h1 : vp_in (x4 + (1 : Int32)) Ls) (h2 : vp_in (x4 + (2 : Int32)) Ls) (h3 : vp_in (x4 + (3 : Int32)) Ls) (hf : cells + 11 ≤ 601024 ∧ slots + 1443 ≤ 7293034) (next : lNext p l e s m below meth c cells slots Q bS D cc o a b x4) : W p l e room_1 s m #[Value.ref bS] below meth c H locs cells slots Q (F0 m 618 ls []) := by
  have hx := F.1.1
  have hb := F.1.2.1
  have hts := F.1.2.2.2.2
  have hown := F.1.2.2.2.1
  have hXs := F.2.2.2.2.2.1
  have hbl := F.2.2.2.2.2.2
  have hbA : ¬ (fun q : Nat => s.heap.size ≤ q) bS := Nat.not_le.mpr hbl
  obtain ⟨B, v, rf, x', m', Z, Z', rm, rm2, mc, ms, ⟨zP, zD⟩, M1, M2, hA, hrf, hZ, r1, r2⟩ := sem_point l hst D cc o a b (xs (x4 + (1 : Int32)).toNatClampNeg) (xs (x4 + (2 : Int32)).toNatClampNeg) x mv L hI
  have q1 := r1.2.2.1
  have q2 := r1.2.2.2.1
  have q3 := r1.2.2.2.2.1
  have q4 := r1.2.2.2.2.2
  have q5 := r2.2.2.2.2.1
  have q6 := r2.2.2.2.2.2
  have hP := zP g H hP
  have hD := zD g _ hD
  refine lv_aload_n hx hb dL_law_618 rfl (lv_at hl 1 rfl) ?_
  refine lv_aload_n hx hb dL_law_619 rfl (lv_at hl 0 rfl) ?_
  refine lv_iload hx hb dL_law_620 (lv_at hl 4 rfl) ?_
  refine lv_iconst (v := (1 : Int32)) hx hb dL_law_622 (by decide) ?_
  refine lv_iadd hx hb dL_law_623 ?_
  refine va_sld hx hb hXs hbl hbA hS h1 dL_law_624 ?_
  refine lv_aload_n hx hb dL_law_625 rfl (lv_at hl 0 rfl) ?_
  refine lv_iload hx hb dL_law_626 (lv_at hl 4 rfl) ?_
  refine lv_iconst (v := (2 : Int32)) hx hb dL_law_628 (by decide) ?_
  refine lv_iadd hx hb dL_law_629 ?_
  refine va_sld hx hb hXs hbl hbA hS h2 dL_law_630 ?_
  refine lv_aload_n hx hb dL_law_631 rfl (lv_at hl 3 rfl) ?_
  refine lcallW F (kL_point l D cc (rm := rm) r1.1 r1.2.1 (w0 := wLt cc a b x mv ++ Z) (w1 := fun q => (a 0, .inr (6, wXo a)) :: (wLt cc a b (x' q) mv ++ Z' q)) (M1 g) hA) (vx_cwSW 4 hts gL_law_L_point rfl r1.1 r1.2.1 (by decide +kernel) ⟨by show rm.frames + 1 + 1 ≤ 11; omega, by show 8 + (5 + 11) + (rm.locals + 40) ≤ 454; omega⟩) hP hD hS hl rfl rfl (Nat.le_of_ble_eq_true rfl) dL_law_632 ⟨by omega, by omega⟩ (fun q H locs hP hD hS => ?_)
  have hP : va_P D vwCl (wL cc o (outG g B) a b (x' q) mv ++ Z' q) H := hP
  have hD : va_D (fun q : Nat => s.heap.size ≤ q) (wL cc o (outG g B) a b (x' q) mv ++ Z' q) := hD
  obtain ⟨L', eZ, hI'⟩ := hZ q
  rw [eZ] at hP hD
  refine lv_istore (lv' := [(5, .int rf), (0, .ref bS), (1, .ref (a 0)), (2, .ref (b 0)), (3, .ref o), (4, .int x4)]) hx hb dL_law_635 hl (by decide) rfl (fun ls hl => ?_)
  refine lv_aload_n hx hb dL_law_637 rfl (lv_at hl 3 rfl) ?_
  refine lv_aload_n hx hb dL_law_638 rfl (lv_at hl 1 rfl) ?_
  refine lv_iload hx hb dL_law_639 (lv_at hl 5 rfl) ?_
  refine lv_iconst (v := (1 : Int32)) hx hb dL_law_641 (by decide) ?_
  refine lv_iadd hx hb dL_law_642 ?_
  refine va_sld hx hb hXs hbl hbA hS h1 dL_law_643 ?_
  refine lv_aload_n hx hb dL_law_644 rfl (lv_at hl 1 rfl) ?_
  refine lv_iload hx hb dL_law_645 (lv_at hl 5 rfl) ?_
  refine lv_iconst (v := (2 : Int32)) hx hb dL_law_647 (by decide) ?_
  refine lv_iadd hx hb dL_law_648 ?_
  refine va_sld hx hb hXs hbl hbA hS h2 dL_law_649 ?_
  refine lcallM F (M2 (outG g B) (x' q) (cp cc L')) (cwV 2 hts gL_law_X7_point rfl r2.1 r2.2.1 (by decide +kernel) ⟨by show rm2.frames + 1 ≤ 11; omega, by show 8 + (3 + 11) + rm2.locals ≤ 454; omega⟩) hP hD hS (q0 := 32) rfl rfl rfl hl rfl rfl (Nat.le_of_ble_eq_true rfl) dL_law_650 ⟨by omega, by omega⟩ (fun _ H locs hP hD hS => ?_)
  refine lv_istore (lv' := [(6, .int v), (5, .int rf), (0, .ref bS), (1, .ref (a 0)), (2, .ref (b 0)), (3, .ref o), (4, .int x4)]) hx hb dL_law_653 hl (by decide) rfl (fun ls hl => ?_)
  refine lv_aload_n hx hb dL_law_655 rfl (lv_at hl 4 rfl) ?_
  refine lcallM F (bX7_thrown l D cc o (outG g B) a b (x' q) m' (cp cc L') (h := rfl)) (cwV 0 hts gL_law_X7_thrown rfl rfl rfl (by decide +kernel) ⟨Nat.le_of_ble_eq_true rfl, Nat.le_of_ble_eq_true rfl⟩) hP hD hS (q0 := 32) rfl rfl rfl hl rfl rfl (Nat.le_of_ble_eq_true rfl) dL_law_656 ⟨by omega, by omega⟩ (fun _ H locs hP hD hS => ?_)
  refine lv_iload hx hb dL_law_659 (lv_at hl 1 rfl) ?_
  refine lv_icmp_eq (tgt := 666) hx hb dL_law_661 (by decide) (fun _ => ?_) (fun c9 => absurd (show fX7_thrown m'.1 = rf from hrf) c9)
  refine lv_iload hx hb dL_law_666 (lv_at hl 1 rfl) ?_
  refine lv_if_ne (tgt := 683) hx hb dL_law_668 (by decide) (fun _ => ?_) (fun c0 => ?_)
  · refine lv_goto (tgt := 1567) hx hb dL_law_683 (by decide) ?_
    refine W.widen (k := cells + 11) (n := slots + 1443) (by omega) (by omega) ?_
    exact next (outG g B) (x' q) m' L' H locs ls hI' hP hD hS (lv_sub hl [2, 3, 4, 5, 6] rfl)
  · have hB := aR_zero (by rw [← c0]; exact hA) (Nat.le_of_ble_eq_true rfl)
    refine lv_aload_n hx hb dL_law_671 rfl (lv_at hl 5 rfl) ?_
    refine lv_iconst (v := (0 : Int32)) hx hb dL_law_672 (by decide) ?_
    refine va_lald hx hb F.2.1 hP (q0 := 0) (t0 := 3) rfl rfl (pk_in 0 1 (by decide)) dL_law_673 ?_
    refine lv_iload hx hb dL_law_674 (lv_at hl 0 rfl) ?_
    refine lv_i2l (v := v.toInt64) hx hb dL_law_676 rfl ?_
    refine W.lcmp hx hb dL_law_677 ?_
    refine lv_if_eq (tgt := 683) hx hb dL_law_678 (by decide) (fun _ => ?_) (fun c9 => absurd (by rw [hB, outG_self]; exact cmp_self _) c9)
    refine lv_goto (tgt := 1567) hx hb dL_law_683 (by decide) ?_
    refine W.widen (k := cells + 11) (n := slots + 1443) (by omega) (by omega) ?_
    exact next (outG g B) (x' q) m' L' H locs ls hI' hP hD hS (lv_sub hl [2, 3, 4, 5, 6] rfl)
theorem lc_lift (F : lwF p s m c bS Ls xs D cc) (hst : l.stackTraces = false) (hI : INV x mv L) (hP : va_P D vwCl (wL cc o g a b x mv ++ cp cc L) H) (hD : va_D (fun q : Nat => s.heap.size ≤ q) (wL cc o g a b x mv ++ cp cc L)) (hS : va_S (fun q : Nat => s.heap.size ≤ q) s.heap H locs) (hl : lv_has ls 7 (lwL bS o a b x4)) (h1 : vp_in (x4 + (1 : Int32)) Ls) (h2 : vp_in (x4 + (2 : Int32)) Ls) (h3 : vp_in (x4 + (3 : Int32)) Ls) (hf : cells + 11 ≤ 601024 ∧ slots + 1443 ≤ 7293034) (next : lNext p l e s m below meth c cells slots Q bS D cc o a b x4) : W p l e room_1 s m #[Value.ref bS] below meth c H locs cells slots Q (F0 m 686 ls []) := by
  have hx := F.1.1
  have hb := F.1.2.1
  have hts := F.1.2.2.2.2
  have hown := F.1.2.2.2.1
  have hXs := F.2.2.2.2.2.1
  have hbl := F.2.2.2.2.2.2
  have hbA : ¬ (fun q : Nat => s.heap.size ≤ q) bS := Nat.not_le.mpr hbl
  obtain ⟨v, x', m', Z, Z', rm, rm2, mc, ms, ⟨zP, zD⟩, M1, M2, hZ, r1, r2⟩ := sem_lift l hst D cc o a b x mv L hI
  have q1 := r1.2.2.1
  have q2 := r1.2.2.2.1
  have q3 := r1.2.2.2.2.1
  have q4 := r1.2.2.2.2.2
  have q5 := r2.2.2.2.2.1
  have q6 := r2.2.2.2.2.2
  have hP := zP g H hP
  have hD := zD g _ hD
  refine lv_aload_n hx hb dL_law_686 rfl (lv_at hl 1 rfl) ?_
  refine lcallM F (M1 g) (cwV 0 hts gL_law_X6_lift rfl r1.1 r1.2.1 (by decide +kernel) ⟨by show rm.frames + 1 ≤ 11; omega, by show 8 + (1 + 11) + rm.locals ≤ 454; omega⟩) hP hD hS (q0 := 1) rfl rfl rfl hl rfl rfl (Nat.le_of_ble_eq_true rfl) dL_law_687 ⟨by omega, by omega⟩ (fun q H locs hP hD hS => ?_)
  obtain ⟨L', eZ, hI'⟩ := hZ q
  rw [eZ] at hP hD
  refine lv_aload_n hx hb dL_law_690 rfl (lv_at hl 2 rfl) ?_
  refine lcallM F (M2 g (x' q) (cp cc L')) (cwV 0 hts gL_law_X7_lift rfl r2.1 r2.2.1 (by decide +kernel) ⟨by show rm2.frames + 1 ≤ 11; omega, by show 8 + (1 + 11) + rm2.locals ≤ 454; omega⟩) hP hD hS (q0 := 32) rfl rfl rfl hl rfl rfl (Nat.le_of_ble_eq_true rfl) dL_law_691 ⟨by omega, by omega⟩ (fun _ H locs hP hD hS => ?_)
  refine lv_icmp_eq (tgt := 1567) hx hb dL_law_694 (by decide) (fun _ => ?_) (fun c9 => absurd rfl c9)
  refine W.widen (k := cells + 11) (n := slots + 1443) (by omega) (by omega) ?_
  exact next g (x' q) m' L' H locs ls hI' hP hD hS hl
theorem lc_draw (F : lwF p s m c bS Ls xs D cc) (hst : l.stackTraces = false) (hI : INV x mv L) (hP : va_P D vwCl (wL cc o g a b x mv ++ cp cc L) H) (hD : va_D (fun q : Nat => s.heap.size ≤ q) (wL cc o g a b x mv ++ cp cc L)) (hS : va_S (fun q : Nat => s.heap.size ≤ q) s.heap H locs) (hl : lv_has ls 7 (lwL bS o a b x4)) (h1 : vp_in (x4 + (1 : Int32)) Ls) (h2 : vp_in (x4 + (2 : Int32)) Ls) (h3 : vp_in (x4 + (3 : Int32)) Ls) (hf : cells + 11 ≤ 601024 ∧ slots + 1443 ≤ 7293034) (next : lNext p l e s m below meth c cells slots Q bS D cc o a b x4) : W p l e room_1 s m #[Value.ref bS] below meth c H locs cells slots Q (F0 m 699 ls []) := by
  have hx := F.1.1
  have hb := F.1.2.1
  have hts := F.1.2.2.2.2
  have hown := F.1.2.2.2.1
  have hXs := F.2.2.2.2.2.1
  have hbl := F.2.2.2.2.2.2
  have hbA : ¬ (fun q : Nat => s.heap.size ≤ q) bS := Nat.not_le.mpr hbl
  obtain ⟨B, v, rf, x', m', Z, Z', rm, rm2, mc, ms, ⟨zP, zD⟩, M1, M2, hA, hrf, hZ, r1, r2⟩ := sem_draw l hst D cc o a b  x mv L hI
  have q1 := r1.2.2.1
  have q2 := r1.2.2.2.1
  have q3 := r1.2.2.2.2.1
  have q4 := r1.2.2.2.2.2
  have q5 := r2.2.2.2.2.1
  have q6 := r2.2.2.2.2.2
  have hP := zP g H hP
  have hD := zD g _ hD
  refine lv_aload_n hx hb dL_law_699 rfl (lv_at hl 1 rfl) ?_
  refine lv_aload_n hx hb dL_law_700 rfl (lv_at hl 3 rfl) ?_
  refine lcallW F (kL_draw l D cc (rm := rm) r1.1 r1.2.1 (w0 := wLt cc a b x mv ++ Z) (w1 := fun q => (a 0, .inr (6, wXo a)) :: (wLt cc a b (x' q) mv ++ Z' q)) (M1 g) hA) (vx_cwSW 2 hts gL_law_L_draw rfl r1.1 r1.2.1 (by decide +kernel) ⟨by show rm.frames + 1 + 1 ≤ 11; omega, by show 8 + (3 + 11) + (rm.locals + 40) ≤ 454; omega⟩) hP hD hS hl rfl rfl (Nat.le_of_ble_eq_true rfl) dL_law_701 ⟨by omega, by omega⟩ (fun q H locs hP hD hS => ?_)
  have hP : va_P D vwCl (wL cc o (outG g B) a b (x' q) mv ++ Z' q) H := hP
  have hD : va_D (fun q : Nat => s.heap.size ≤ q) (wL cc o (outG g B) a b (x' q) mv ++ Z' q) := hD
  obtain ⟨L', eZ, hI'⟩ := hZ q
  rw [eZ] at hP hD
  refine lv_istore (lv' := [(5, .int rf), (0, .ref bS), (1, .ref (a 0)), (2, .ref (b 0)), (3, .ref o), (4, .int x4)]) hx hb dL_law_704 hl (by decide) rfl (fun ls hl => ?_)
  refine lv_aload_n hx hb dL_law_706 rfl (lv_at hl 3 rfl) ?_
  refine lcallM F (M2 (outG g B) (x' q) (cp cc L')) (cwV 0 hts gL_law_X7_draw rfl r2.1 r2.2.1 (by decide +kernel) ⟨by show rm2.frames + 1 ≤ 11; omega, by show 8 + (2 + 11) + rm2.locals ≤ 454; omega⟩) hP hD hS (q0 := 32) rfl rfl rfl hl rfl rfl (Nat.le_of_ble_eq_true rfl) dL_law_707 ⟨by omega, by omega⟩ (fun _ H locs hP hD hS => ?_)
  refine lv_istore (lv' := [(6, .int v), (5, .int rf), (0, .ref bS), (1, .ref (a 0)), (2, .ref (b 0)), (3, .ref o), (4, .int x4)]) hx hb dL_law_710 hl (by decide) rfl (fun ls hl => ?_)
  refine lv_aload_n hx hb dL_law_712 rfl (lv_at hl 4 rfl) ?_
  refine lcallM F (bX7_thrown l D cc o (outG g B) a b (x' q) m' (cp cc L') (h := rfl)) (cwV 0 hts gL_law_X7_thrown rfl rfl rfl (by decide +kernel) ⟨Nat.le_of_ble_eq_true rfl, Nat.le_of_ble_eq_true rfl⟩) hP hD hS (q0 := 32) rfl rfl rfl hl rfl rfl (Nat.le_of_ble_eq_true rfl) dL_law_713 ⟨by omega, by omega⟩ (fun _ H locs hP hD hS => ?_)
  refine lv_iload hx hb dL_law_716 (lv_at hl 1 rfl) ?_
  refine lv_icmp_eq (tgt := 723) hx hb dL_law_718 (by decide) (fun _ => ?_) (fun c9 => absurd (show fX7_thrown m'.1 = rf from hrf) c9)
  refine lv_iload hx hb dL_law_723 (lv_at hl 1 rfl) ?_
  refine lv_if_ne (tgt := 740) hx hb dL_law_725 (by decide) (fun _ => ?_) (fun c0 => ?_)
  · refine lv_goto (tgt := 1567) hx hb dL_law_740 (by decide) ?_
    refine W.widen (k := cells + 11) (n := slots + 1443) (by omega) (by omega) ?_
    exact next (outG g B) (x' q) m' L' H locs ls hI' hP hD hS (lv_sub hl [2, 3, 4, 5, 6] rfl)
  · have hB := aR_zero (by rw [← c0]; exact hA) (Nat.le_of_ble_eq_true rfl)
    refine lv_aload_n hx hb dL_law_728 rfl (lv_at hl 5 rfl) ?_
    refine lv_iconst (v := (0 : Int32)) hx hb dL_law_729 (by decide) ?_
    refine va_lald hx hb F.2.1 hP (q0 := 0) (t0 := 3) rfl rfl (pk_in 0 1 (by decide)) dL_law_730 ?_
    refine lv_iload hx hb dL_law_731 (lv_at hl 0 rfl) ?_
    refine lv_i2l (v := v.toInt64) hx hb dL_law_733 rfl ?_
    refine W.lcmp hx hb dL_law_734 ?_
    refine lv_if_eq (tgt := 740) hx hb dL_law_735 (by decide) (fun _ => ?_) (fun c9 => absurd (by rw [hB, outG_self]; exact cmp_self _) c9)
    refine lv_goto (tgt := 1567) hx hb dL_law_740 (by decide) ?_
    refine W.widen (k := cells + 11) (n := slots + 1443) (by omega) (by omega) ?_
    exact next (outG g B) (x' q) m' L' H locs ls hI' hP hD hS (lv_sub hl [2, 3, 4, 5, 6] rfl)
theorem lc_learn (F : lwF p s m c bS Ls xs D cc) (hst : l.stackTraces = false) (hI : INV x mv L) (hP : va_P D vwCl (wL cc o g a b x mv ++ cp cc L) H) (hD : va_D (fun q : Nat => s.heap.size ≤ q) (wL cc o g a b x mv ++ cp cc L)) (hS : va_S (fun q : Nat => s.heap.size ≤ q) s.heap H locs) (hl : lv_has ls 7 (lwL bS o a b x4)) (h1 : vp_in (x4 + (1 : Int32)) Ls) (h2 : vp_in (x4 + (2 : Int32)) Ls) (h3 : vp_in (x4 + (3 : Int32)) Ls) (hf : cells + 11 ≤ 601024 ∧ slots + 1443 ≤ 7293034) (next : lNext p l e s m below meth c cells slots Q bS D cc o a b x4) : W p l e room_1 s m #[Value.ref bS] below meth c H locs cells slots Q (F0 m 743 ls []) := by
  have hx := F.1.1
  have hb := F.1.2.1
  have hts := F.1.2.2.2.2
  have hown := F.1.2.2.2.1
  have hXs := F.2.2.2.2.2.1
  have hbl := F.2.2.2.2.2.2
  have hbA : ¬ (fun q : Nat => s.heap.size ≤ q) bS := Nat.not_le.mpr hbl
  obtain ⟨B, v, rf, x', m', Z, Z', rm, rm2, mc, ms, ⟨zP, zD⟩, M1, M2, hA, hrf, hZ, r1, r2⟩ := sem_learn l hst D cc o a b (xs (x4 + (1 : Int32)).toNatClampNeg) x mv L hI
  have q1 := r1.2.2.1
  have q2 := r1.2.2.2.1
  have q3 := r1.2.2.2.2.1
  have q4 := r1.2.2.2.2.2
  have q5 := r2.2.2.2.2.1
  have q6 := r2.2.2.2.2.2
  have hP := zP g H hP
  have hD := zD g _ hD
  refine lv_aload_n hx hb dL_law_743 rfl (lv_at hl 1 rfl) ?_
  refine lv_aload_n hx hb dL_law_744 rfl (lv_at hl 0 rfl) ?_
  refine lv_iload hx hb dL_law_745 (lv_at hl 4 rfl) ?_
  refine lv_iconst (v := (1 : Int32)) hx hb dL_law_747 (by decide) ?_
  refine lv_iadd hx hb dL_law_748 ?_
  refine va_sld hx hb hXs hbl hbA hS h1 dL_law_749 ?_
  refine lv_aload_n hx hb dL_law_750 rfl (lv_at hl 3 rfl) ?_
  refine lcallW F (kL_learn l D cc (rm := rm) r1.1 r1.2.1 (w0 := wLt cc a b x mv ++ Z) (w1 := fun q => (a 0, .inr (6, wXo a)) :: (wLt cc a b (x' q) mv ++ Z' q)) (M1 g) hA) (vx_cwSW 3 hts gL_law_L_learn rfl r1.1 r1.2.1 (by decide +kernel) ⟨by show rm.frames + 1 + 1 ≤ 11; omega, by show 8 + (4 + 11) + (rm.locals + 40) ≤ 454; omega⟩) hP hD hS hl rfl rfl (Nat.le_of_ble_eq_true rfl) dL_law_751 ⟨by omega, by omega⟩ (fun q H locs hP hD hS => ?_)
  have hP : va_P D vwCl (wL cc o (outG g B) a b (x' q) mv ++ Z' q) H := hP
  have hD : va_D (fun q : Nat => s.heap.size ≤ q) (wL cc o (outG g B) a b (x' q) mv ++ Z' q) := hD
  obtain ⟨L', eZ, hI'⟩ := hZ q
  rw [eZ] at hP hD
  refine lv_istore (lv' := [(5, .int rf), (0, .ref bS), (1, .ref (a 0)), (2, .ref (b 0)), (3, .ref o), (4, .int x4)]) hx hb dL_law_754 hl (by decide) rfl (fun ls hl => ?_)
  refine lv_aload_n hx hb dL_law_756 rfl (lv_at hl 3 rfl) ?_
  refine lv_aload_n hx hb dL_law_757 rfl (lv_at hl 1 rfl) ?_
  refine lv_iload hx hb dL_law_758 (lv_at hl 5 rfl) ?_
  refine lv_iconst (v := (1 : Int32)) hx hb dL_law_760 (by decide) ?_
  refine lv_iadd hx hb dL_law_761 ?_
  refine va_sld hx hb hXs hbl hbA hS h1 dL_law_762 ?_
  refine lcallM F (M2 (outG g B) (x' q) (cp cc L')) (cwV 1 hts gL_law_X7_learn rfl r2.1 r2.2.1 (by decide +kernel) ⟨by show rm2.frames + 1 ≤ 11; omega, by show 8 + (2 + 11) + rm2.locals ≤ 454; omega⟩) hP hD hS (q0 := 32) rfl rfl rfl hl rfl rfl (Nat.le_of_ble_eq_true rfl) dL_law_763 ⟨by omega, by omega⟩ (fun _ H locs hP hD hS => ?_)
  refine lv_istore (lv' := [(6, .int v), (5, .int rf), (0, .ref bS), (1, .ref (a 0)), (2, .ref (b 0)), (3, .ref o), (4, .int x4)]) hx hb dL_law_766 hl (by decide) rfl (fun ls hl => ?_)
  refine lv_aload_n hx hb dL_law_768 rfl (lv_at hl 4 rfl) ?_
  refine lcallM F (bX7_thrown l D cc o (outG g B) a b (x' q) m' (cp cc L') (h := rfl)) (cwV 0 hts gL_law_X7_thrown rfl rfl rfl (by decide +kernel) ⟨Nat.le_of_ble_eq_true rfl, Nat.le_of_ble_eq_true rfl⟩) hP hD hS (q0 := 32) rfl rfl rfl hl rfl rfl (Nat.le_of_ble_eq_true rfl) dL_law_769 ⟨by omega, by omega⟩ (fun _ H locs hP hD hS => ?_)
  refine lv_iload hx hb dL_law_772 (lv_at hl 1 rfl) ?_
  refine lv_icmp_eq (tgt := 779) hx hb dL_law_774 (by decide) (fun _ => ?_) (fun c9 => absurd (show fX7_thrown m'.1 = rf from hrf) c9)
  refine lv_iload hx hb dL_law_779 (lv_at hl 1 rfl) ?_
  refine lv_if_ne (tgt := 796) hx hb dL_law_781 (by decide) (fun _ => ?_) (fun c0 => ?_)
  · refine lv_goto (tgt := 1567) hx hb dL_law_796 (by decide) ?_
    refine W.widen (k := cells + 11) (n := slots + 1443) (by omega) (by omega) ?_
    exact next (outG g B) (x' q) m' L' H locs ls hI' hP hD hS (lv_sub hl [2, 3, 4, 5, 6] rfl)
  · have hB := aR_zero (by rw [← c0]; exact hA) (Nat.le_of_ble_eq_true rfl)
    refine lv_aload_n hx hb dL_law_784 rfl (lv_at hl 5 rfl) ?_
    refine lv_iconst (v := (0 : Int32)) hx hb dL_law_785 (by decide) ?_
    refine va_lald hx hb F.2.1 hP (q0 := 0) (t0 := 3) rfl rfl (pk_in 0 1 (by decide)) dL_law_786 ?_
    refine lv_iload hx hb dL_law_787 (lv_at hl 0 rfl) ?_
    refine lv_i2l (v := v.toInt64) hx hb dL_law_789 rfl ?_
    refine W.lcmp hx hb dL_law_790 ?_
    refine lv_if_eq (tgt := 796) hx hb dL_law_791 (by decide) (fun _ => ?_) (fun c9 => absurd (by rw [hB, outG_self]; exact cmp_self _) c9)
    refine lv_goto (tgt := 1567) hx hb dL_law_796 (by decide) ?_
    refine W.widen (k := cells + 11) (n := slots + 1443) (by omega) (by omega) ?_
    exact next (outG g B) (x' q) m' L' H locs ls hI' hP hD hS (lv_sub hl [2, 3, 4, 5, 6] rfl)
theorem lc_forget (F : lwF p s m c bS Ls xs D cc) (hst : l.stackTraces = false) (hI : INV x mv L) (hP : va_P D vwCl (wL cc o g a b x mv ++ cp cc L) H) (hD : va_D (fun q : Nat => s.heap.size ≤ q) (wL cc o g a b x mv ++ cp cc L)) (hS : va_S (fun q : Nat => s.heap.size ≤ q) s.heap H locs) (hl : lv_has ls 7 (lwL bS o a b x4)) (h1 : vp_in (x4 + (1 : Int32)) Ls) (h2 : vp_in (x4 + (2 : Int32)) Ls) (h3 : vp_in (x4 + (3 : Int32)) Ls) (hf : cells + 11 ≤ 601024 ∧ slots + 1443 ≤ 7293034) (next : lNext p l e s m below meth c cells slots Q bS D cc o a b x4) : W p l e room_1 s m #[Value.ref bS] below meth c H locs cells slots Q (F0 m 799 ls []) := by
  have hx := F.1.1
  have hb := F.1.2.1
  have hts := F.1.2.2.2.2
  have hown := F.1.2.2.2.1
  have hXs := F.2.2.2.2.2.1
  have hbl := F.2.2.2.2.2.2
  have hbA : ¬ (fun q : Nat => s.heap.size ≤ q) bS := Nat.not_le.mpr hbl
  obtain ⟨B, v, rf, x', m', Z, Z', rm, rm2, mc, ms, ⟨zP, zD⟩, M1, M2, hA, hrf, hZ, r1, r2⟩ := sem_forget l hst D cc o a b (xs (x4 + (1 : Int32)).toNatClampNeg) x mv L hI
  have q1 := r1.2.2.1
  have q2 := r1.2.2.2.1
  have q3 := r1.2.2.2.2.1
  have q4 := r1.2.2.2.2.2
  have q5 := r2.2.2.2.2.1
  have q6 := r2.2.2.2.2.2
  have hP := zP g H hP
  have hD := zD g _ hD
  refine lv_aload_n hx hb dL_law_799 rfl (lv_at hl 1 rfl) ?_
  refine lv_aload_n hx hb dL_law_800 rfl (lv_at hl 0 rfl) ?_
  refine lv_iload hx hb dL_law_801 (lv_at hl 4 rfl) ?_
  refine lv_iconst (v := (1 : Int32)) hx hb dL_law_803 (by decide) ?_
  refine lv_iadd hx hb dL_law_804 ?_
  refine va_sld hx hb hXs hbl hbA hS h1 dL_law_805 ?_
  refine lv_aload_n hx hb dL_law_806 rfl (lv_at hl 3 rfl) ?_
  refine lcallW F (kL_forget l D cc (rm := rm) r1.1 r1.2.1 (w0 := wLt cc a b x mv ++ Z) (w1 := fun q => (a 0, .inr (6, wXo a)) :: (wLt cc a b (x' q) mv ++ Z' q)) (M1 g) hA) (vx_cwSW 3 hts gL_law_L_forget rfl r1.1 r1.2.1 (by decide +kernel) ⟨by show rm.frames + 1 + 1 ≤ 11; omega, by show 8 + (4 + 11) + (rm.locals + 40) ≤ 454; omega⟩) hP hD hS hl rfl rfl (Nat.le_of_ble_eq_true rfl) dL_law_807 ⟨by omega, by omega⟩ (fun q H locs hP hD hS => ?_)
  have hP : va_P D vwCl (wL cc o (outG g B) a b (x' q) mv ++ Z' q) H := hP
  have hD : va_D (fun q : Nat => s.heap.size ≤ q) (wL cc o (outG g B) a b (x' q) mv ++ Z' q) := hD
  obtain ⟨L', eZ, hI'⟩ := hZ q
  rw [eZ] at hP hD
  refine lv_istore (lv' := [(5, .int rf), (0, .ref bS), (1, .ref (a 0)), (2, .ref (b 0)), (3, .ref o), (4, .int x4)]) hx hb dL_law_810 hl (by decide) rfl (fun ls hl => ?_)
  refine lv_aload_n hx hb dL_law_812 rfl (lv_at hl 3 rfl) ?_
  refine lv_aload_n hx hb dL_law_813 rfl (lv_at hl 1 rfl) ?_
  refine lv_iload hx hb dL_law_814 (lv_at hl 5 rfl) ?_
  refine lv_iconst (v := (1 : Int32)) hx hb dL_law_816 (by decide) ?_
  refine lv_iadd hx hb dL_law_817 ?_
  refine va_sld hx hb hXs hbl hbA hS h1 dL_law_818 ?_
  refine lcallM F (M2 (outG g B) (x' q) (cp cc L')) (cwV 1 hts gL_law_X7_forget rfl r2.1 r2.2.1 (by decide +kernel) ⟨by show rm2.frames + 1 ≤ 11; omega, by show 8 + (2 + 11) + rm2.locals ≤ 454; omega⟩) hP hD hS (q0 := 32) rfl rfl rfl hl rfl rfl (Nat.le_of_ble_eq_true rfl) dL_law_819 ⟨by omega, by omega⟩ (fun _ H locs hP hD hS => ?_)
  refine lv_istore (lv' := [(6, .int v), (5, .int rf), (0, .ref bS), (1, .ref (a 0)), (2, .ref (b 0)), (3, .ref o), (4, .int x4)]) hx hb dL_law_822 hl (by decide) rfl (fun ls hl => ?_)
  refine lv_aload_n hx hb dL_law_824 rfl (lv_at hl 4 rfl) ?_
  refine lcallM F (bX7_thrown l D cc o (outG g B) a b (x' q) m' (cp cc L') (h := rfl)) (cwV 0 hts gL_law_X7_thrown rfl rfl rfl (by decide +kernel) ⟨Nat.le_of_ble_eq_true rfl, Nat.le_of_ble_eq_true rfl⟩) hP hD hS (q0 := 32) rfl rfl rfl hl rfl rfl (Nat.le_of_ble_eq_true rfl) dL_law_825 ⟨by omega, by omega⟩ (fun _ H locs hP hD hS => ?_)
  refine lv_iload hx hb dL_law_828 (lv_at hl 1 rfl) ?_
  refine lv_icmp_eq (tgt := 835) hx hb dL_law_830 (by decide) (fun _ => ?_) (fun c9 => absurd (show fX7_thrown m'.1 = rf from hrf) c9)
  refine lv_iload hx hb dL_law_835 (lv_at hl 1 rfl) ?_
  refine lv_if_ne (tgt := 852) hx hb dL_law_837 (by decide) (fun _ => ?_) (fun c0 => ?_)
  · refine lv_goto (tgt := 1567) hx hb dL_law_852 (by decide) ?_
    refine W.widen (k := cells + 11) (n := slots + 1443) (by omega) (by omega) ?_
    exact next (outG g B) (x' q) m' L' H locs ls hI' hP hD hS (lv_sub hl [2, 3, 4, 5, 6] rfl)
  · have hB := aR_zero (by rw [← c0]; exact hA) (Nat.le_of_ble_eq_true rfl)
    refine lv_aload_n hx hb dL_law_840 rfl (lv_at hl 5 rfl) ?_
    refine lv_iconst (v := (0 : Int32)) hx hb dL_law_841 (by decide) ?_
    refine va_lald hx hb F.2.1 hP (q0 := 0) (t0 := 3) rfl rfl (pk_in 0 1 (by decide)) dL_law_842 ?_
    refine lv_iload hx hb dL_law_843 (lv_at hl 0 rfl) ?_
    refine lv_i2l (v := v.toInt64) hx hb dL_law_845 rfl ?_
    refine W.lcmp hx hb dL_law_846 ?_
    refine lv_if_eq (tgt := 852) hx hb dL_law_847 (by decide) (fun _ => ?_) (fun c9 => absurd (by rw [hB, outG_self]; exact cmp_self _) c9)
    refine lv_goto (tgt := 1567) hx hb dL_law_852 (by decide) ?_
    refine W.widen (k := cells + 11) (n := slots + 1443) (by omega) (by omega) ?_
    exact next (outG g B) (x' q) m' L' H locs ls hI' hP hD hS (lv_sub hl [2, 3, 4, 5, 6] rfl)
theorem lc_practise (F : lwF p s m c bS Ls xs D cc) (hst : l.stackTraces = false) (hI : INV x mv L) (hP : va_P D vwCl (wL cc o g a b x mv ++ cp cc L) H) (hD : va_D (fun q : Nat => s.heap.size ≤ q) (wL cc o g a b x mv ++ cp cc L)) (hS : va_S (fun q : Nat => s.heap.size ≤ q) s.heap H locs) (hl : lv_has ls 7 (lwL bS o a b x4)) (h1 : vp_in (x4 + (1 : Int32)) Ls) (h2 : vp_in (x4 + (2 : Int32)) Ls) (h3 : vp_in (x4 + (3 : Int32)) Ls) (hf : cells + 11 ≤ 601024 ∧ slots + 1443 ≤ 7293034) (next : lNext p l e s m below meth c cells slots Q bS D cc o a b x4) : W p l e room_1 s m #[Value.ref bS] below meth c H locs cells slots Q (F0 m 855 ls []) := by
  have hx := F.1.1
  have hb := F.1.2.1
  have hts := F.1.2.2.2.2
  have hown := F.1.2.2.2.1
  have hXs := F.2.2.2.2.2.1
  have hbl := F.2.2.2.2.2.2
  have hbA : ¬ (fun q : Nat => s.heap.size ≤ q) bS := Nat.not_le.mpr hbl
  obtain ⟨B, v, rf, x', m', Z, Z', rm, rm2, mc, ms, ⟨zP, zD⟩, M1, M2, hA, hrf, hZ, r1, r2⟩ := sem_practise l hst D cc o a b (xs (x4 + (1 : Int32)).toNatClampNeg) x mv L hI
  have q1 := r1.2.2.1
  have q2 := r1.2.2.2.1
  have q3 := r1.2.2.2.2.1
  have q4 := r1.2.2.2.2.2
  have q5 := r2.2.2.2.2.1
  have q6 := r2.2.2.2.2.2
  have hP := zP g H hP
  have hD := zD g _ hD
  refine lv_aload_n hx hb dL_law_855 rfl (lv_at hl 1 rfl) ?_
  refine lv_aload_n hx hb dL_law_856 rfl (lv_at hl 0 rfl) ?_
  refine lv_iload hx hb dL_law_857 (lv_at hl 4 rfl) ?_
  refine lv_iconst (v := (1 : Int32)) hx hb dL_law_859 (by decide) ?_
  refine lv_iadd hx hb dL_law_860 ?_
  refine va_sld hx hb hXs hbl hbA hS h1 dL_law_861 ?_
  refine lv_aload_n hx hb dL_law_862 rfl (lv_at hl 3 rfl) ?_
  refine lcallW F (kL_practise l D cc (rm := rm) r1.1 r1.2.1 (w0 := wLt cc a b x mv ++ Z) (w1 := fun q => (a 0, .inr (6, wXo a)) :: (wLt cc a b (x' q) mv ++ Z' q)) (M1 g) hA) (vx_cwSW 3 hts gL_law_L_practise rfl r1.1 r1.2.1 (by decide +kernel) ⟨by show rm.frames + 1 + 1 ≤ 11; omega, by show 8 + (4 + 11) + (rm.locals + 40) ≤ 454; omega⟩) hP hD hS hl rfl rfl (Nat.le_of_ble_eq_true rfl) dL_law_863 ⟨by omega, by omega⟩ (fun q H locs hP hD hS => ?_)
  have hP : va_P D vwCl (wL cc o (outG g B) a b (x' q) mv ++ Z' q) H := hP
  have hD : va_D (fun q : Nat => s.heap.size ≤ q) (wL cc o (outG g B) a b (x' q) mv ++ Z' q) := hD
  obtain ⟨L', eZ, hI'⟩ := hZ q
  rw [eZ] at hP hD
  refine lv_istore (lv' := [(5, .int rf), (0, .ref bS), (1, .ref (a 0)), (2, .ref (b 0)), (3, .ref o), (4, .int x4)]) hx hb dL_law_866 hl (by decide) rfl (fun ls hl => ?_)
  refine lv_aload_n hx hb dL_law_868 rfl (lv_at hl 3 rfl) ?_
  refine lv_aload_n hx hb dL_law_869 rfl (lv_at hl 1 rfl) ?_
  refine lv_iload hx hb dL_law_870 (lv_at hl 5 rfl) ?_
  refine lv_iconst (v := (1 : Int32)) hx hb dL_law_872 (by decide) ?_
  refine lv_iadd hx hb dL_law_873 ?_
  refine va_sld hx hb hXs hbl hbA hS h1 dL_law_874 ?_
  refine lcallM F (M2 (outG g B) (x' q) (cp cc L')) (cwV 1 hts gL_law_X7_practise rfl r2.1 r2.2.1 (by decide +kernel) ⟨by show rm2.frames + 1 ≤ 11; omega, by show 8 + (2 + 11) + rm2.locals ≤ 454; omega⟩) hP hD hS (q0 := 32) rfl rfl rfl hl rfl rfl (Nat.le_of_ble_eq_true rfl) dL_law_875 ⟨by omega, by omega⟩ (fun _ H locs hP hD hS => ?_)
  refine lv_istore (lv' := [(6, .int v), (5, .int rf), (0, .ref bS), (1, .ref (a 0)), (2, .ref (b 0)), (3, .ref o), (4, .int x4)]) hx hb dL_law_878 hl (by decide) rfl (fun ls hl => ?_)
  refine lv_aload_n hx hb dL_law_880 rfl (lv_at hl 4 rfl) ?_
  refine lcallM F (bX7_thrown l D cc o (outG g B) a b (x' q) m' (cp cc L') (h := rfl)) (cwV 0 hts gL_law_X7_thrown rfl rfl rfl (by decide +kernel) ⟨Nat.le_of_ble_eq_true rfl, Nat.le_of_ble_eq_true rfl⟩) hP hD hS (q0 := 32) rfl rfl rfl hl rfl rfl (Nat.le_of_ble_eq_true rfl) dL_law_881 ⟨by omega, by omega⟩ (fun _ H locs hP hD hS => ?_)
  refine lv_iload hx hb dL_law_884 (lv_at hl 1 rfl) ?_
  refine lv_icmp_eq (tgt := 891) hx hb dL_law_886 (by decide) (fun _ => ?_) (fun c9 => absurd (show fX7_thrown m'.1 = rf from hrf) c9)
  refine lv_iload hx hb dL_law_891 (lv_at hl 1 rfl) ?_
  refine lv_if_ne (tgt := 908) hx hb dL_law_893 (by decide) (fun _ => ?_) (fun c0 => ?_)
  · refine lv_goto (tgt := 1567) hx hb dL_law_908 (by decide) ?_
    refine W.widen (k := cells + 11) (n := slots + 1443) (by omega) (by omega) ?_
    exact next (outG g B) (x' q) m' L' H locs ls hI' hP hD hS (lv_sub hl [2, 3, 4, 5, 6] rfl)
  · have hB := aR_zero (by rw [← c0]; exact hA) (Nat.le_of_ble_eq_true rfl)
    refine lv_aload_n hx hb dL_law_896 rfl (lv_at hl 5 rfl) ?_
    refine lv_iconst (v := (0 : Int32)) hx hb dL_law_897 (by decide) ?_
    refine va_lald hx hb F.2.1 hP (q0 := 0) (t0 := 3) rfl rfl (pk_in 0 1 (by decide)) dL_law_898 ?_
    refine lv_iload hx hb dL_law_899 (lv_at hl 0 rfl) ?_
    refine lv_i2l (v := v.toInt64) hx hb dL_law_901 rfl ?_
    refine W.lcmp hx hb dL_law_902 ?_
    refine lv_if_eq (tgt := 908) hx hb dL_law_903 (by decide) (fun _ => ?_) (fun c9 => absurd (by rw [hB, outG_self]; exact cmp_self _) c9)
    refine lv_goto (tgt := 1567) hx hb dL_law_908 (by decide) ?_
    refine W.widen (k := cells + 11) (n := slots + 1443) (by omega) (by omega) ?_
    exact next (outG g B) (x' q) m' L' H locs ls hI' hP hD hS (lv_sub hl [2, 3, 4, 5, 6] rfl)
theorem lc_set (F : lwF p s m c bS Ls xs D cc) (hst : l.stackTraces = false) (hI : INV x mv L) (hP : va_P D vwCl (wL cc o g a b x mv ++ cp cc L) H) (hD : va_D (fun q : Nat => s.heap.size ≤ q) (wL cc o g a b x mv ++ cp cc L)) (hS : va_S (fun q : Nat => s.heap.size ≤ q) s.heap H locs) (hl : lv_has ls 7 (lwL bS o a b x4)) (h1 : vp_in (x4 + (1 : Int32)) Ls) (h2 : vp_in (x4 + (2 : Int32)) Ls) (h3 : vp_in (x4 + (3 : Int32)) Ls) (hf : cells + 11 ≤ 601024 ∧ slots + 1443 ≤ 7293034) (next : lNext p l e s m below meth c cells slots Q bS D cc o a b x4) : W p l e room_1 s m #[Value.ref bS] below meth c H locs cells slots Q (F0 m 911 ls []) := by
  have hx := F.1.1
  have hb := F.1.2.1
  have hts := F.1.2.2.2.2
  have hown := F.1.2.2.2.1
  have hXs := F.2.2.2.2.2.1
  have hbl := F.2.2.2.2.2.2
  have hbA : ¬ (fun q : Nat => s.heap.size ≤ q) bS := Nat.not_le.mpr hbl
  obtain ⟨B, v, rf, x', m', Z, Z', rm, rm2, mc, ms, ⟨zP, zD⟩, M1, M2, hA, hrf, hZ, r1, r2⟩ := sem_set l hst D cc o a b (xs (x4 + (1 : Int32)).toNatClampNeg) (xs (x4 + (2 : Int32)).toNatClampNeg) x mv L hI
  have q1 := r1.2.2.1
  have q2 := r1.2.2.2.1
  have q3 := r1.2.2.2.2.1
  have q4 := r1.2.2.2.2.2
  have q5 := r2.2.2.2.2.1
  have q6 := r2.2.2.2.2.2
  have hP := zP g H hP
  have hD := zD g _ hD
  refine lv_aload_n hx hb dL_law_911 rfl (lv_at hl 1 rfl) ?_
  refine lv_aload_n hx hb dL_law_912 rfl (lv_at hl 0 rfl) ?_
  refine lv_iload hx hb dL_law_913 (lv_at hl 4 rfl) ?_
  refine lv_iconst (v := (1 : Int32)) hx hb dL_law_915 (by decide) ?_
  refine lv_iadd hx hb dL_law_916 ?_
  refine va_sld hx hb hXs hbl hbA hS h1 dL_law_917 ?_
  refine lv_aload_n hx hb dL_law_918 rfl (lv_at hl 0 rfl) ?_
  refine lv_iload hx hb dL_law_919 (lv_at hl 4 rfl) ?_
  refine lv_iconst (v := (2 : Int32)) hx hb dL_law_921 (by decide) ?_
  refine lv_iadd hx hb dL_law_922 ?_
  refine va_sld hx hb hXs hbl hbA hS h2 dL_law_923 ?_
  refine lv_aload_n hx hb dL_law_924 rfl (lv_at hl 3 rfl) ?_
  refine lcallW F (kL_set l D cc (rm := rm) r1.1 r1.2.1 (w0 := wLt cc a b x mv ++ Z) (w1 := fun q => (a 0, .inr (6, wXo a)) :: (wLt cc a b (x' q) mv ++ Z' q)) (M1 g) hA) (vx_cwSW 4 hts gL_law_L_set rfl r1.1 r1.2.1 (by decide +kernel) ⟨by show rm.frames + 1 + 1 ≤ 11; omega, by show 8 + (5 + 11) + (rm.locals + 40) ≤ 454; omega⟩) hP hD hS hl rfl rfl (Nat.le_of_ble_eq_true rfl) dL_law_925 ⟨by omega, by omega⟩ (fun q H locs hP hD hS => ?_)
  have hP : va_P D vwCl (wL cc o (outG g B) a b (x' q) mv ++ Z' q) H := hP
  have hD : va_D (fun q : Nat => s.heap.size ≤ q) (wL cc o (outG g B) a b (x' q) mv ++ Z' q) := hD
  obtain ⟨L', eZ, hI'⟩ := hZ q
  rw [eZ] at hP hD
  refine lv_istore (lv' := [(5, .int rf), (0, .ref bS), (1, .ref (a 0)), (2, .ref (b 0)), (3, .ref o), (4, .int x4)]) hx hb dL_law_928 hl (by decide) rfl (fun ls hl => ?_)
  refine lv_aload_n hx hb dL_law_930 rfl (lv_at hl 3 rfl) ?_
  refine lv_aload_n hx hb dL_law_931 rfl (lv_at hl 1 rfl) ?_
  refine lv_iload hx hb dL_law_932 (lv_at hl 5 rfl) ?_
  refine lv_iconst (v := (1 : Int32)) hx hb dL_law_934 (by decide) ?_
  refine lv_iadd hx hb dL_law_935 ?_
  refine va_sld hx hb hXs hbl hbA hS h1 dL_law_936 ?_
  refine lv_aload_n hx hb dL_law_937 rfl (lv_at hl 1 rfl) ?_
  refine lv_iload hx hb dL_law_938 (lv_at hl 5 rfl) ?_
  refine lv_iconst (v := (2 : Int32)) hx hb dL_law_940 (by decide) ?_
  refine lv_iadd hx hb dL_law_941 ?_
  refine va_sld hx hb hXs hbl hbA hS h2 dL_law_942 ?_
  refine lcallM F (M2 (outG g B) (x' q) (cp cc L')) (cwV 2 hts gL_law_X7_set rfl r2.1 r2.2.1 (by decide +kernel) ⟨by show rm2.frames + 1 ≤ 11; omega, by show 8 + (4 + 11) + rm2.locals ≤ 454; omega⟩) hP hD hS (q0 := 32) rfl rfl rfl hl rfl rfl (Nat.le_of_ble_eq_true rfl) dL_law_943 ⟨by omega, by omega⟩ (fun _ H locs hP hD hS => ?_)
  refine lv_istore (lv' := [(6, .int v), (5, .int rf), (0, .ref bS), (1, .ref (a 0)), (2, .ref (b 0)), (3, .ref o), (4, .int x4)]) hx hb dL_law_946 hl (by decide) rfl (fun ls hl => ?_)
  refine lv_aload_n hx hb dL_law_948 rfl (lv_at hl 4 rfl) ?_
  refine lcallM F (bX7_thrown l D cc o (outG g B) a b (x' q) m' (cp cc L') (h := rfl)) (cwV 0 hts gL_law_X7_thrown rfl rfl rfl (by decide +kernel) ⟨Nat.le_of_ble_eq_true rfl, Nat.le_of_ble_eq_true rfl⟩) hP hD hS (q0 := 32) rfl rfl rfl hl rfl rfl (Nat.le_of_ble_eq_true rfl) dL_law_949 ⟨by omega, by omega⟩ (fun _ H locs hP hD hS => ?_)
  refine lv_iload hx hb dL_law_952 (lv_at hl 1 rfl) ?_
  refine lv_icmp_eq (tgt := 959) hx hb dL_law_954 (by decide) (fun _ => ?_) (fun c9 => absurd (show fX7_thrown m'.1 = rf from hrf) c9)
  refine lv_iload hx hb dL_law_959 (lv_at hl 1 rfl) ?_
  refine lv_if_ne (tgt := 976) hx hb dL_law_961 (by decide) (fun _ => ?_) (fun c0 => ?_)
  · refine lv_goto (tgt := 1567) hx hb dL_law_976 (by decide) ?_
    refine W.widen (k := cells + 11) (n := slots + 1443) (by omega) (by omega) ?_
    exact next (outG g B) (x' q) m' L' H locs ls hI' hP hD hS (lv_sub hl [2, 3, 4, 5, 6] rfl)
  · have hB := aR_zero (by rw [← c0]; exact hA) (Nat.le_of_ble_eq_true rfl)
    refine lv_aload_n hx hb dL_law_964 rfl (lv_at hl 5 rfl) ?_
    refine lv_iconst (v := (0 : Int32)) hx hb dL_law_965 (by decide) ?_
    refine va_lald hx hb F.2.1 hP (q0 := 0) (t0 := 3) rfl rfl (pk_in 0 1 (by decide)) dL_law_966 ?_
    refine lv_iload hx hb dL_law_967 (lv_at hl 0 rfl) ?_
    refine lv_i2l (v := v.toInt64) hx hb dL_law_969 rfl ?_
    refine W.lcmp hx hb dL_law_970 ?_
    refine lv_if_eq (tgt := 976) hx hb dL_law_971 (by decide) (fun _ => ?_) (fun c9 => absurd (by rw [hB, outG_self]; exact cmp_self _) c9)
    refine lv_goto (tgt := 1567) hx hb dL_law_976 (by decide) ?_
    refine W.widen (k := cells + 11) (n := slots + 1443) (by omega) (by omega) ?_
    exact next (outG g B) (x' q) m' L' H locs ls hI' hP hD hS (lv_sub hl [2, 3, 4, 5, 6] rfl)
theorem lc_undo (F : lwF p s m c bS Ls xs D cc) (hst : l.stackTraces = false) (hI : INV x mv L) (hP : va_P D vwCl (wL cc o g a b x mv ++ cp cc L) H) (hD : va_D (fun q : Nat => s.heap.size ≤ q) (wL cc o g a b x mv ++ cp cc L)) (hS : va_S (fun q : Nat => s.heap.size ≤ q) s.heap H locs) (hl : lv_has ls 7 (lwL bS o a b x4)) (h1 : vp_in (x4 + (1 : Int32)) Ls) (h2 : vp_in (x4 + (2 : Int32)) Ls) (h3 : vp_in (x4 + (3 : Int32)) Ls) (hf : cells + 11 ≤ 601024 ∧ slots + 1443 ≤ 7293034) (next : lNext p l e s m below meth c cells slots Q bS D cc o a b x4) : W p l e room_1 s m #[Value.ref bS] below meth c H locs cells slots Q (F0 m 979 ls []) := by
  have hx := F.1.1
  have hb := F.1.2.1
  have hts := F.1.2.2.2.2
  have hown := F.1.2.2.2.1
  have hXs := F.2.2.2.2.2.1
  have hbl := F.2.2.2.2.2.2
  have hbA : ¬ (fun q : Nat => s.heap.size ≤ q) bS := Nat.not_le.mpr hbl
  obtain ⟨B, v, rf, x', m', Z, Z', rm, rm2, mc, ms, ⟨zP, zD⟩, M1, M2, hA, hrf, hZ, r1, r2⟩ := sem_undo l hst D cc o a b  x mv L hI
  have q1 := r1.2.2.1
  have q2 := r1.2.2.2.1
  have q3 := r1.2.2.2.2.1
  have q4 := r1.2.2.2.2.2
  have q5 := r2.2.2.2.2.1
  have q6 := r2.2.2.2.2.2
  have hP := zP g H hP
  have hD := zD g _ hD
  refine lv_aload_n hx hb dL_law_979 rfl (lv_at hl 1 rfl) ?_
  refine lv_aload_n hx hb dL_law_980 rfl (lv_at hl 3 rfl) ?_
  refine lcallW F (kL_undo l D cc (rm := rm) r1.1 r1.2.1 (w0 := wLt cc a b x mv ++ Z) (w1 := fun q => (a 0, .inr (6, wXo a)) :: (wLt cc a b (x' q) mv ++ Z' q)) (M1 g) hA) (vx_cwSW 2 hts gL_law_L_undo rfl r1.1 r1.2.1 (by decide +kernel) ⟨by show rm.frames + 1 + 1 ≤ 11; omega, by show 8 + (3 + 11) + (rm.locals + 40) ≤ 454; omega⟩) hP hD hS hl rfl rfl (Nat.le_of_ble_eq_true rfl) dL_law_981 ⟨by omega, by omega⟩ (fun q H locs hP hD hS => ?_)
  have hP : va_P D vwCl (wL cc o (outG g B) a b (x' q) mv ++ Z' q) H := hP
  have hD : va_D (fun q : Nat => s.heap.size ≤ q) (wL cc o (outG g B) a b (x' q) mv ++ Z' q) := hD
  obtain ⟨L', eZ, hI'⟩ := hZ q
  rw [eZ] at hP hD
  refine lv_istore (lv' := [(5, .int rf), (0, .ref bS), (1, .ref (a 0)), (2, .ref (b 0)), (3, .ref o), (4, .int x4)]) hx hb dL_law_984 hl (by decide) rfl (fun ls hl => ?_)
  refine lv_aload_n hx hb dL_law_986 rfl (lv_at hl 3 rfl) ?_
  refine lcallM F (M2 (outG g B) (x' q) (cp cc L')) (cwV 0 hts gL_law_X7_undo rfl r2.1 r2.2.1 (by decide +kernel) ⟨by show rm2.frames + 1 ≤ 11; omega, by show 8 + (1 + 11) + rm2.locals ≤ 454; omega⟩) hP hD hS (q0 := 32) rfl rfl rfl hl rfl rfl (Nat.le_of_ble_eq_true rfl) dL_law_987 ⟨by omega, by omega⟩ (fun _ H locs hP hD hS => ?_)
  refine lv_istore (lv' := [(6, .int v), (5, .int rf), (0, .ref bS), (1, .ref (a 0)), (2, .ref (b 0)), (3, .ref o), (4, .int x4)]) hx hb dL_law_990 hl (by decide) rfl (fun ls hl => ?_)
  refine lv_aload_n hx hb dL_law_992 rfl (lv_at hl 4 rfl) ?_
  refine lcallM F (bX7_thrown l D cc o (outG g B) a b (x' q) m' (cp cc L') (h := rfl)) (cwV 0 hts gL_law_X7_thrown rfl rfl rfl (by decide +kernel) ⟨Nat.le_of_ble_eq_true rfl, Nat.le_of_ble_eq_true rfl⟩) hP hD hS (q0 := 32) rfl rfl rfl hl rfl rfl (Nat.le_of_ble_eq_true rfl) dL_law_993 ⟨by omega, by omega⟩ (fun _ H locs hP hD hS => ?_)
  refine lv_iload hx hb dL_law_996 (lv_at hl 1 rfl) ?_
  refine lv_icmp_eq (tgt := 1003) hx hb dL_law_998 (by decide) (fun _ => ?_) (fun c9 => absurd (show fX7_thrown m'.1 = rf from hrf) c9)
  refine lv_iload hx hb dL_law_1003 (lv_at hl 1 rfl) ?_
  refine lv_if_ne (tgt := 1020) hx hb dL_law_1005 (by decide) (fun _ => ?_) (fun c0 => ?_)
  · refine lv_goto (tgt := 1567) hx hb dL_law_1020 (by decide) ?_
    refine W.widen (k := cells + 11) (n := slots + 1443) (by omega) (by omega) ?_
    exact next (outG g B) (x' q) m' L' H locs ls hI' hP hD hS (lv_sub hl [2, 3, 4, 5, 6] rfl)
  · have hB := aR_zero (by rw [← c0]; exact hA) (Nat.le_of_ble_eq_true rfl)
    refine lv_aload_n hx hb dL_law_1008 rfl (lv_at hl 5 rfl) ?_
    refine lv_iconst (v := (0 : Int32)) hx hb dL_law_1009 (by decide) ?_
    refine va_lald hx hb F.2.1 hP (q0 := 0) (t0 := 3) rfl rfl (pk_in 0 1 (by decide)) dL_law_1010 ?_
    refine lv_iload hx hb dL_law_1011 (lv_at hl 0 rfl) ?_
    refine lv_i2l (v := v.toInt64) hx hb dL_law_1013 rfl ?_
    refine W.lcmp hx hb dL_law_1014 ?_
    refine lv_if_eq (tgt := 1020) hx hb dL_law_1015 (by decide) (fun _ => ?_) (fun c9 => absurd (by rw [hB, outG_self]; exact cmp_self _) c9)
    refine lv_goto (tgt := 1567) hx hb dL_law_1020 (by decide) ?_
    refine W.widen (k := cells + 11) (n := slots + 1443) (by omega) (by omega) ?_
    exact next (outG g B) (x' q) m' L' H locs ls hI' hP hD hS (lv_sub hl [2, 3, 4, 5, 6] rfl)
theorem lc_read (F : lwF p s m c bS Ls xs D cc) (hst : l.stackTraces = false) (hI : INV x mv L) (hP : va_P D vwCl (wL cc o g a b x mv ++ cp cc L) H) (hD : va_D (fun q : Nat => s.heap.size ≤ q) (wL cc o g a b x mv ++ cp cc L)) (hS : va_S (fun q : Nat => s.heap.size ≤ q) s.heap H locs) (hl : lv_has ls 7 (lwL bS o a b x4)) (h1 : vp_in (x4 + (1 : Int32)) Ls) (h2 : vp_in (x4 + (2 : Int32)) Ls) (h3 : vp_in (x4 + (3 : Int32)) Ls) (hf : cells + 11 ≤ 601024 ∧ slots + 1443 ≤ 7293034) (next : lNext p l e s m below meth c cells slots Q bS D cc o a b x4) : W p l e room_1 s m #[Value.ref bS] below meth c H locs cells slots Q (F0 m 1023 ls []) := by
  have hx := F.1.1
  have hb := F.1.2.1
  have hts := F.1.2.2.2.2
  have hown := F.1.2.2.2.1
  have hXs := F.2.2.2.2.2.1
  have hbl := F.2.2.2.2.2.2
  have hbA : ¬ (fun q : Nat => s.heap.size ≤ q) bS := Nat.not_le.mpr hbl
  obtain ⟨B, v, rf, x', m', Z, Z', rm, rm2, mc, ms, ⟨zP, zD⟩, M1, M2, hA, hrf, hZ, r1, r2⟩ := sem_read l hst D cc o a b (xs (x4 + (1 : Int32)).toNatClampNeg) x mv L hI
  have q1 := r1.2.2.1
  have q2 := r1.2.2.2.1
  have q3 := r1.2.2.2.2.1
  have q4 := r1.2.2.2.2.2
  have q5 := r2.2.2.2.2.1
  have q6 := r2.2.2.2.2.2
  have hP := zP g H hP
  have hD := zD g _ hD
  refine lv_aload_n hx hb dL_law_1023 rfl (lv_at hl 1 rfl) ?_
  refine lv_aload_n hx hb dL_law_1024 rfl (lv_at hl 0 rfl) ?_
  refine lv_iload hx hb dL_law_1025 (lv_at hl 4 rfl) ?_
  refine lv_iconst (v := (1 : Int32)) hx hb dL_law_1027 (by decide) ?_
  refine lv_iadd hx hb dL_law_1028 ?_
  refine va_sld hx hb hXs hbl hbA hS h1 dL_law_1029 ?_
  refine lv_aload_n hx hb dL_law_1030 rfl (lv_at hl 3 rfl) ?_
  refine lcallW F (kL_read l D cc (rm := rm) r1.1 r1.2.1 (w0 := wLt cc a b x mv ++ Z) (w1 := fun q => (a 0, .inr (6, wXo a)) :: (wLt cc a b (x' q) mv ++ Z' q)) (M1 g) hA) (vx_cwSW 3 hts gL_law_L_read rfl r1.1 r1.2.1 (by decide +kernel) ⟨by show rm.frames + 1 + 1 ≤ 11; omega, by show 8 + (4 + 11) + (rm.locals + 40) ≤ 454; omega⟩) hP hD hS hl rfl rfl (Nat.le_of_ble_eq_true rfl) dL_law_1031 ⟨by omega, by omega⟩ (fun q H locs hP hD hS => ?_)
  have hP : va_P D vwCl (wL cc o (outG g B) a b (x' q) mv ++ Z' q) H := hP
  have hD : va_D (fun q : Nat => s.heap.size ≤ q) (wL cc o (outG g B) a b (x' q) mv ++ Z' q) := hD
  obtain ⟨L', eZ, hI'⟩ := hZ q
  rw [eZ] at hP hD
  refine lv_istore (lv' := [(5, .int rf), (0, .ref bS), (1, .ref (a 0)), (2, .ref (b 0)), (3, .ref o), (4, .int x4)]) hx hb dL_law_1034 hl (by decide) rfl (fun ls hl => ?_)
  refine lv_aload_n hx hb dL_law_1036 rfl (lv_at hl 3 rfl) ?_
  refine lv_aload_n hx hb dL_law_1037 rfl (lv_at hl 1 rfl) ?_
  refine lv_iload hx hb dL_law_1038 (lv_at hl 5 rfl) ?_
  refine lv_iconst (v := (1 : Int32)) hx hb dL_law_1040 (by decide) ?_
  refine lv_iadd hx hb dL_law_1041 ?_
  refine va_sld hx hb hXs hbl hbA hS h1 dL_law_1042 ?_
  refine lcallM F (M2 (outG g B) (x' q) (cp cc L')) (cwV 1 hts gL_law_X7_read rfl r2.1 r2.2.1 (by decide +kernel) ⟨by show rm2.frames + 1 ≤ 11; omega, by show 8 + (2 + 11) + rm2.locals ≤ 454; omega⟩) hP hD hS (q0 := 32) rfl rfl rfl hl rfl rfl (Nat.le_of_ble_eq_true rfl) dL_law_1043 ⟨by omega, by omega⟩ (fun _ H locs hP hD hS => ?_)
  refine lv_istore (lv' := [(6, .int v), (5, .int rf), (0, .ref bS), (1, .ref (a 0)), (2, .ref (b 0)), (3, .ref o), (4, .int x4)]) hx hb dL_law_1046 hl (by decide) rfl (fun ls hl => ?_)
  refine lv_aload_n hx hb dL_law_1048 rfl (lv_at hl 4 rfl) ?_
  refine lcallM F (bX7_thrown l D cc o (outG g B) a b (x' q) m' (cp cc L') (h := rfl)) (cwV 0 hts gL_law_X7_thrown rfl rfl rfl (by decide +kernel) ⟨Nat.le_of_ble_eq_true rfl, Nat.le_of_ble_eq_true rfl⟩) hP hD hS (q0 := 32) rfl rfl rfl hl rfl rfl (Nat.le_of_ble_eq_true rfl) dL_law_1049 ⟨by omega, by omega⟩ (fun _ H locs hP hD hS => ?_)
  refine lv_iload hx hb dL_law_1052 (lv_at hl 1 rfl) ?_
  refine lv_icmp_eq (tgt := 1059) hx hb dL_law_1054 (by decide) (fun _ => ?_) (fun c9 => absurd (show fX7_thrown m'.1 = rf from hrf) c9)
  refine lv_iload hx hb dL_law_1059 (lv_at hl 1 rfl) ?_
  refine lv_if_ne (tgt := 1076) hx hb dL_law_1061 (by decide) (fun _ => ?_) (fun c0 => ?_)
  · refine lv_goto (tgt := 1567) hx hb dL_law_1076 (by decide) ?_
    refine W.widen (k := cells + 11) (n := slots + 1443) (by omega) (by omega) ?_
    exact next (outG g B) (x' q) m' L' H locs ls hI' hP hD hS (lv_sub hl [2, 3, 4, 5, 6] rfl)
  · have hB := aR_zero (by rw [← c0]; exact hA) (Nat.le_of_ble_eq_true rfl)
    refine lv_aload_n hx hb dL_law_1064 rfl (lv_at hl 5 rfl) ?_
    refine lv_iconst (v := (0 : Int32)) hx hb dL_law_1065 (by decide) ?_
    refine va_lald hx hb F.2.1 hP (q0 := 0) (t0 := 3) rfl rfl (pk_in 0 1 (by decide)) dL_law_1066 ?_
    refine lv_iload hx hb dL_law_1067 (lv_at hl 0 rfl) ?_
    refine lv_i2l (v := v.toInt64) hx hb dL_law_1069 rfl ?_
    refine W.lcmp hx hb dL_law_1070 ?_
    refine lv_if_eq (tgt := 1076) hx hb dL_law_1071 (by decide) (fun _ => ?_) (fun c9 => absurd (by rw [hB, outG_self]; exact cmp_self _) c9)
    refine lv_goto (tgt := 1567) hx hb dL_law_1076 (by decide) ?_
    refine W.widen (k := cells + 11) (n := slots + 1443) (by omega) (by omega) ?_
    exact next (outG g B) (x' q) m' L' H locs ls hI' hP hD hS (lv_sub hl [2, 3, 4, 5, 6] rfl)
theorem lc_nearest (F : lwF p s m c bS Ls xs D cc) (hst : l.stackTraces = false) (hI : INV x mv L) (hP : va_P D vwCl (wL cc o g a b x mv ++ cp cc L) H) (hD : va_D (fun q : Nat => s.heap.size ≤ q) (wL cc o g a b x mv ++ cp cc L)) (hS : va_S (fun q : Nat => s.heap.size ≤ q) s.heap H locs) (hl : lv_has ls 7 (lwL bS o a b x4)) (h1 : vp_in (x4 + (1 : Int32)) Ls) (h2 : vp_in (x4 + (2 : Int32)) Ls) (h3 : vp_in (x4 + (3 : Int32)) Ls) (hf : cells + 11 ≤ 601024 ∧ slots + 1443 ≤ 7293034) (next : lNext p l e s m below meth c cells slots Q bS D cc o a b x4) : W p l e room_1 s m #[Value.ref bS] below meth c H locs cells slots Q (F0 m 1079 ls []) := by
  have hx := F.1.1
  have hb := F.1.2.1
  have hts := F.1.2.2.2.2
  have hown := F.1.2.2.2.1
  have hXs := F.2.2.2.2.2.1
  have hbl := F.2.2.2.2.2.2
  have hbA : ¬ (fun q : Nat => s.heap.size ≤ q) bS := Nat.not_le.mpr hbl
  obtain ⟨B, v, rf, x', m', Z, Z', rm, rm2, mc, ms, ⟨zP, zD⟩, M1, M2, hA, hrf, hZ, r1, r2⟩ := sem_nearest l hst D cc o a b (xs (x4 + (1 : Int32)).toNatClampNeg) x mv L hI
  have q1 := r1.2.2.1
  have q2 := r1.2.2.2.1
  have q3 := r1.2.2.2.2.1
  have q4 := r1.2.2.2.2.2
  have q5 := r2.2.2.2.2.1
  have q6 := r2.2.2.2.2.2
  have hP := zP g H hP
  have hD := zD g _ hD
  refine lv_aload_n hx hb dL_law_1079 rfl (lv_at hl 1 rfl) ?_
  refine lv_aload_n hx hb dL_law_1080 rfl (lv_at hl 0 rfl) ?_
  refine lv_iload hx hb dL_law_1081 (lv_at hl 4 rfl) ?_
  refine lv_iconst (v := (1 : Int32)) hx hb dL_law_1083 (by decide) ?_
  refine lv_iadd hx hb dL_law_1084 ?_
  refine va_sld hx hb hXs hbl hbA hS h1 dL_law_1085 ?_
  refine lv_aload_n hx hb dL_law_1086 rfl (lv_at hl 3 rfl) ?_
  refine lcallW F (kL_nearest l D cc (rm := rm) r1.1 r1.2.1 (w0 := wLt cc a b x mv ++ Z) (w1 := fun q => (a 0, .inr (6, wXo a)) :: (wLt cc a b (x' q) mv ++ Z' q)) (M1 g) hA) (vx_cwSW 3 hts gL_law_L_nearest rfl r1.1 r1.2.1 (by decide +kernel) ⟨by show rm.frames + 1 + 1 ≤ 11; omega, by show 8 + (4 + 11) + (rm.locals + 40) ≤ 454; omega⟩) hP hD hS hl rfl rfl (Nat.le_of_ble_eq_true rfl) dL_law_1087 ⟨by omega, by omega⟩ (fun q H locs hP hD hS => ?_)
  have hP : va_P D vwCl (wL cc o (outG g B) a b (x' q) mv ++ Z' q) H := hP
  have hD : va_D (fun q : Nat => s.heap.size ≤ q) (wL cc o (outG g B) a b (x' q) mv ++ Z' q) := hD
  obtain ⟨L', eZ, hI'⟩ := hZ q
  rw [eZ] at hP hD
  refine lv_istore (lv' := [(5, .int rf), (0, .ref bS), (1, .ref (a 0)), (2, .ref (b 0)), (3, .ref o), (4, .int x4)]) hx hb dL_law_1090 hl (by decide) rfl (fun ls hl => ?_)
  refine lv_aload_n hx hb dL_law_1092 rfl (lv_at hl 3 rfl) ?_
  refine lv_aload_n hx hb dL_law_1093 rfl (lv_at hl 1 rfl) ?_
  refine lv_iload hx hb dL_law_1094 (lv_at hl 5 rfl) ?_
  refine lv_iconst (v := (1 : Int32)) hx hb dL_law_1096 (by decide) ?_
  refine lv_iadd hx hb dL_law_1097 ?_
  refine va_sld hx hb hXs hbl hbA hS h1 dL_law_1098 ?_
  refine lcallM F (M2 (outG g B) (x' q) (cp cc L')) (cwV 1 hts gL_law_X7_nearest rfl r2.1 r2.2.1 (by decide +kernel) ⟨by show rm2.frames + 1 ≤ 11; omega, by show 8 + (8 + 11) + rm2.locals ≤ 454; omega⟩) hP hD hS (q0 := 32) rfl rfl rfl hl rfl rfl (Nat.le_of_ble_eq_true rfl) dL_law_1099 ⟨by omega, by omega⟩ (fun _ H locs hP hD hS => ?_)
  refine lv_istore (lv' := [(6, .int v), (5, .int rf), (0, .ref bS), (1, .ref (a 0)), (2, .ref (b 0)), (3, .ref o), (4, .int x4)]) hx hb dL_law_1102 hl (by decide) rfl (fun ls hl => ?_)
  refine lv_aload_n hx hb dL_law_1104 rfl (lv_at hl 4 rfl) ?_
  refine lcallM F (bX7_thrown l D cc o (outG g B) a b (x' q) m' (cp cc L') (h := rfl)) (cwV 0 hts gL_law_X7_thrown rfl rfl rfl (by decide +kernel) ⟨Nat.le_of_ble_eq_true rfl, Nat.le_of_ble_eq_true rfl⟩) hP hD hS (q0 := 32) rfl rfl rfl hl rfl rfl (Nat.le_of_ble_eq_true rfl) dL_law_1105 ⟨by omega, by omega⟩ (fun _ H locs hP hD hS => ?_)
  refine lv_iload hx hb dL_law_1108 (lv_at hl 1 rfl) ?_
  refine lv_icmp_eq (tgt := 1115) hx hb dL_law_1110 (by decide) (fun _ => ?_) (fun c9 => absurd (show fX7_thrown m'.1 = rf from hrf) c9)
  refine lv_iload hx hb dL_law_1115 (lv_at hl 1 rfl) ?_
  refine lv_if_ne (tgt := 1132) hx hb dL_law_1117 (by decide) (fun _ => ?_) (fun c0 => ?_)
  · refine lv_goto (tgt := 1567) hx hb dL_law_1132 (by decide) ?_
    refine W.widen (k := cells + 11) (n := slots + 1443) (by omega) (by omega) ?_
    exact next (outG g B) (x' q) m' L' H locs ls hI' hP hD hS (lv_sub hl [2, 3, 4, 5, 6] rfl)
  · have hB := aR_zero (by rw [← c0]; exact hA) (Nat.le_of_ble_eq_true rfl)
    refine lv_aload_n hx hb dL_law_1120 rfl (lv_at hl 5 rfl) ?_
    refine lv_iconst (v := (0 : Int32)) hx hb dL_law_1121 (by decide) ?_
    refine va_lald hx hb F.2.1 hP (q0 := 0) (t0 := 3) rfl rfl (pk_in 0 1 (by decide)) dL_law_1122 ?_
    refine lv_iload hx hb dL_law_1123 (lv_at hl 0 rfl) ?_
    refine lv_i2l (v := v.toInt64) hx hb dL_law_1125 rfl ?_
    refine W.lcmp hx hb dL_law_1126 ?_
    refine lv_if_eq (tgt := 1132) hx hb dL_law_1127 (by decide) (fun _ => ?_) (fun c9 => absurd (by rw [hB, outG_self]; exact cmp_self _) c9)
    refine lv_goto (tgt := 1567) hx hb dL_law_1132 (by decide) ?_
    refine W.widen (k := cells + 11) (n := slots + 1443) (by omega) (by omega) ?_
    exact next (outG g B) (x' q) m' L' H locs ls hI' hP hD hS (lv_sub hl [2, 3, 4, 5, 6] rfl)
theorem lc_between (F : lwF p s m c bS Ls xs D cc) (hst : l.stackTraces = false) (hI : INV x mv L) (hP : va_P D vwCl (wL cc o g a b x mv ++ cp cc L) H) (hD : va_D (fun q : Nat => s.heap.size ≤ q) (wL cc o g a b x mv ++ cp cc L)) (hS : va_S (fun q : Nat => s.heap.size ≤ q) s.heap H locs) (hl : lv_has ls 7 (lwL bS o a b x4)) (h1 : vp_in (x4 + (1 : Int32)) Ls) (h2 : vp_in (x4 + (2 : Int32)) Ls) (h3 : vp_in (x4 + (3 : Int32)) Ls) (hf : cells + 11 ≤ 601024 ∧ slots + 1443 ≤ 7293034) (next : lNext p l e s m below meth c cells slots Q bS D cc o a b x4) : W p l e room_1 s m #[Value.ref bS] below meth c H locs cells slots Q (F0 m 1135 ls []) := by
  have hx := F.1.1
  have hb := F.1.2.1
  have hts := F.1.2.2.2.2
  have hown := F.1.2.2.2.1
  have hXs := F.2.2.2.2.2.1
  have hbl := F.2.2.2.2.2.2
  have hbA : ¬ (fun q : Nat => s.heap.size ≤ q) bS := Nat.not_le.mpr hbl
  obtain ⟨B, v, rf, x', m', Z, Z', rm, rm2, mc, ms, ⟨zP, zD⟩, M1, M2, hA, hrf, hZ, r1, r2⟩ := sem_between l hst D cc o a b (xs (x4 + (1 : Int32)).toNatClampNeg) (xs (x4 + (2 : Int32)).toNatClampNeg) x mv L hI
  have q1 := r1.2.2.1
  have q2 := r1.2.2.2.1
  have q3 := r1.2.2.2.2.1
  have q4 := r1.2.2.2.2.2
  have q5 := r2.2.2.2.2.1
  have q6 := r2.2.2.2.2.2
  have hP := zP g H hP
  have hD := zD g _ hD
  refine lv_aload_n hx hb dL_law_1135 rfl (lv_at hl 1 rfl) ?_
  refine lv_aload_n hx hb dL_law_1136 rfl (lv_at hl 0 rfl) ?_
  refine lv_iload hx hb dL_law_1137 (lv_at hl 4 rfl) ?_
  refine lv_iconst (v := (1 : Int32)) hx hb dL_law_1139 (by decide) ?_
  refine lv_iadd hx hb dL_law_1140 ?_
  refine va_sld hx hb hXs hbl hbA hS h1 dL_law_1141 ?_
  refine lv_aload_n hx hb dL_law_1142 rfl (lv_at hl 0 rfl) ?_
  refine lv_iload hx hb dL_law_1143 (lv_at hl 4 rfl) ?_
  refine lv_iconst (v := (2 : Int32)) hx hb dL_law_1145 (by decide) ?_
  refine lv_iadd hx hb dL_law_1146 ?_
  refine va_sld hx hb hXs hbl hbA hS h2 dL_law_1147 ?_
  refine lv_aload_n hx hb dL_law_1148 rfl (lv_at hl 3 rfl) ?_
  refine lcallW F (kL_between l D cc (rm := rm) r1.1 r1.2.1 (w0 := wLt cc a b x mv ++ Z) (w1 := fun q => (a 0, .inr (6, wXo a)) :: (wLt cc a b (x' q) mv ++ Z' q)) (M1 g) hA) (vx_cwSW 4 hts gL_law_L_between rfl r1.1 r1.2.1 (by decide +kernel) ⟨by show rm.frames + 1 + 1 ≤ 11; omega, by show 8 + (5 + 11) + (rm.locals + 40) ≤ 454; omega⟩) hP hD hS hl rfl rfl (Nat.le_of_ble_eq_true rfl) dL_law_1149 ⟨by omega, by omega⟩ (fun q H locs hP hD hS => ?_)
  have hP : va_P D vwCl (wL cc o (outG g B) a b (x' q) mv ++ Z' q) H := hP
  have hD : va_D (fun q : Nat => s.heap.size ≤ q) (wL cc o (outG g B) a b (x' q) mv ++ Z' q) := hD
  obtain ⟨L', eZ, hI'⟩ := hZ q
  rw [eZ] at hP hD
  refine lv_istore (lv' := [(5, .int rf), (0, .ref bS), (1, .ref (a 0)), (2, .ref (b 0)), (3, .ref o), (4, .int x4)]) hx hb dL_law_1152 hl (by decide) rfl (fun ls hl => ?_)
  refine lv_aload_n hx hb dL_law_1154 rfl (lv_at hl 3 rfl) ?_
  refine lv_aload_n hx hb dL_law_1155 rfl (lv_at hl 1 rfl) ?_
  refine lv_iload hx hb dL_law_1156 (lv_at hl 5 rfl) ?_
  refine lv_iconst (v := (1 : Int32)) hx hb dL_law_1158 (by decide) ?_
  refine lv_iadd hx hb dL_law_1159 ?_
  refine va_sld hx hb hXs hbl hbA hS h1 dL_law_1160 ?_
  refine lv_aload_n hx hb dL_law_1161 rfl (lv_at hl 1 rfl) ?_
  refine lv_iload hx hb dL_law_1162 (lv_at hl 5 rfl) ?_
  refine lv_iconst (v := (2 : Int32)) hx hb dL_law_1164 (by decide) ?_
  refine lv_iadd hx hb dL_law_1165 ?_
  refine va_sld hx hb hXs hbl hbA hS h2 dL_law_1166 ?_
  refine lcallM F (M2 (outG g B) (x' q) (cp cc L')) (cwV 2 hts gL_law_X7_between rfl r2.1 r2.2.1 (by decide +kernel) ⟨by show rm2.frames + 1 ≤ 11; omega, by show 8 + (3 + 11) + rm2.locals ≤ 454; omega⟩) hP hD hS (q0 := 32) rfl rfl rfl hl rfl rfl (Nat.le_of_ble_eq_true rfl) dL_law_1167 ⟨by omega, by omega⟩ (fun _ H locs hP hD hS => ?_)
  refine lv_istore (lv' := [(6, .int v), (5, .int rf), (0, .ref bS), (1, .ref (a 0)), (2, .ref (b 0)), (3, .ref o), (4, .int x4)]) hx hb dL_law_1170 hl (by decide) rfl (fun ls hl => ?_)
  refine lv_aload_n hx hb dL_law_1172 rfl (lv_at hl 4 rfl) ?_
  refine lcallM F (bX7_thrown l D cc o (outG g B) a b (x' q) m' (cp cc L') (h := rfl)) (cwV 0 hts gL_law_X7_thrown rfl rfl rfl (by decide +kernel) ⟨Nat.le_of_ble_eq_true rfl, Nat.le_of_ble_eq_true rfl⟩) hP hD hS (q0 := 32) rfl rfl rfl hl rfl rfl (Nat.le_of_ble_eq_true rfl) dL_law_1173 ⟨by omega, by omega⟩ (fun _ H locs hP hD hS => ?_)
  refine lv_iload hx hb dL_law_1176 (lv_at hl 1 rfl) ?_
  refine lv_icmp_eq (tgt := 1183) hx hb dL_law_1178 (by decide) (fun _ => ?_) (fun c9 => absurd (show fX7_thrown m'.1 = rf from hrf) c9)
  refine lv_iload hx hb dL_law_1183 (lv_at hl 1 rfl) ?_
  refine lv_if_ne (tgt := 1200) hx hb dL_law_1185 (by decide) (fun _ => ?_) (fun c0 => ?_)
  · refine lv_goto (tgt := 1567) hx hb dL_law_1200 (by decide) ?_
    refine W.widen (k := cells + 11) (n := slots + 1443) (by omega) (by omega) ?_
    exact next (outG g B) (x' q) m' L' H locs ls hI' hP hD hS (lv_sub hl [2, 3, 4, 5, 6] rfl)
  · have hB := aR_zero (by rw [← c0]; exact hA) (Nat.le_of_ble_eq_true rfl)
    refine lv_aload_n hx hb dL_law_1188 rfl (lv_at hl 5 rfl) ?_
    refine lv_iconst (v := (0 : Int32)) hx hb dL_law_1189 (by decide) ?_
    refine va_lald hx hb F.2.1 hP (q0 := 0) (t0 := 3) rfl rfl (pk_in 0 1 (by decide)) dL_law_1190 ?_
    refine lv_iload hx hb dL_law_1191 (lv_at hl 0 rfl) ?_
    refine lv_i2l (v := v.toInt64) hx hb dL_law_1193 rfl ?_
    refine W.lcmp hx hb dL_law_1194 ?_
    refine lv_if_eq (tgt := 1200) hx hb dL_law_1195 (by decide) (fun _ => ?_) (fun c9 => absurd (by rw [hB, outG_self]; exact cmp_self _) c9)
    refine lv_goto (tgt := 1567) hx hb dL_law_1200 (by decide) ?_
    refine W.widen (k := cells + 11) (n := slots + 1443) (by omega) (by omega) ?_
    exact next (outG g B) (x' q) m' L' H locs ls hI' hP hD hS (lv_sub hl [2, 3, 4, 5, 6] rfl)
theorem lc_closest (F : lwF p s m c bS Ls xs D cc) (hst : l.stackTraces = false) (hI : INV x mv L) (hP : va_P D vwCl (wL cc o g a b x mv ++ cp cc L) H) (hD : va_D (fun q : Nat => s.heap.size ≤ q) (wL cc o g a b x mv ++ cp cc L)) (hS : va_S (fun q : Nat => s.heap.size ≤ q) s.heap H locs) (hl : lv_has ls 7 (lwL bS o a b x4)) (h1 : vp_in (x4 + (1 : Int32)) Ls) (h2 : vp_in (x4 + (2 : Int32)) Ls) (h3 : vp_in (x4 + (3 : Int32)) Ls) (hf : cells + 11 ≤ 601024 ∧ slots + 1443 ≤ 7293034) (next : lNext p l e s m below meth c cells slots Q bS D cc o a b x4) : W p l e room_1 s m #[Value.ref bS] below meth c H locs cells slots Q (F0 m 1203 ls []) := by
  have hx := F.1.1
  have hb := F.1.2.1
  have hts := F.1.2.2.2.2
  have hown := F.1.2.2.2.1
  have hXs := F.2.2.2.2.2.1
  have hbl := F.2.2.2.2.2.2
  have hbA : ¬ (fun q : Nat => s.heap.size ≤ q) bS := Nat.not_le.mpr hbl
  obtain ⟨v, x', m', Z, Z', rm, rm2, mc, ms, ⟨zP, zD⟩, M1, M2, hZ, r1, r2⟩ := sem_closest l hst D cc o a b x mv L hI
  have q1 := r1.2.2.1
  have q2 := r1.2.2.2.1
  have q3 := r1.2.2.2.2.1
  have q4 := r1.2.2.2.2.2
  have q5 := r2.2.2.2.2.1
  have q6 := r2.2.2.2.2.2
  have hP := zP g H hP
  have hD := zD g _ hD
  refine lv_aload_n hx hb dL_law_1203 rfl (lv_at hl 1 rfl) ?_
  refine lcallM F (M1 g) (cwV 0 hts gL_law_X6_closest rfl r1.1 r1.2.1 (by decide +kernel) ⟨by show rm.frames + 1 ≤ 11; omega, by show 8 + (1 + 11) + rm.locals ≤ 454; omega⟩) hP hD hS (q0 := 1) rfl rfl rfl hl rfl rfl (Nat.le_of_ble_eq_true rfl) dL_law_1204 ⟨by omega, by omega⟩ (fun q H locs hP hD hS => ?_)
  obtain ⟨L', eZ, hI'⟩ := hZ q
  rw [eZ] at hP hD
  refine lv_aload_n hx hb dL_law_1207 rfl (lv_at hl 2 rfl) ?_
  refine lcallM F (M2 g (x' q) (cp cc L')) (cwV 0 hts gL_law_X7_closest rfl r2.1 r2.2.1 (by decide +kernel) ⟨by show rm2.frames + 1 ≤ 11; omega, by show 8 + (1 + 11) + rm2.locals ≤ 454; omega⟩) hP hD hS (q0 := 32) rfl rfl rfl hl rfl rfl (Nat.le_of_ble_eq_true rfl) dL_law_1208 ⟨by omega, by omega⟩ (fun _ H locs hP hD hS => ?_)
  refine lv_icmp_eq (tgt := 1567) hx hb dL_law_1211 (by decide) (fun _ => ?_) (fun c9 => absurd rfl c9)
  refine W.widen (k := cells + 11) (n := slots + 1443) (by omega) (by omega) ?_
  exact next g (x' q) m' L' H locs ls hI' hP hD hS hl
theorem lc_byOthers (F : lwF p s m c bS Ls xs D cc) (hst : l.stackTraces = false) (hI : INV x mv L) (hP : va_P D vwCl (wL cc o g a b x mv ++ cp cc L) H) (hD : va_D (fun q : Nat => s.heap.size ≤ q) (wL cc o g a b x mv ++ cp cc L)) (hS : va_S (fun q : Nat => s.heap.size ≤ q) s.heap H locs) (hl : lv_has ls 7 (lwL bS o a b x4)) (h1 : vp_in (x4 + (1 : Int32)) Ls) (h2 : vp_in (x4 + (2 : Int32)) Ls) (h3 : vp_in (x4 + (3 : Int32)) Ls) (hf : cells + 11 ≤ 601024 ∧ slots + 1443 ≤ 7293034) (next : lNext p l e s m below meth c cells slots Q bS D cc o a b x4) : W p l e room_1 s m #[Value.ref bS] below meth c H locs cells slots Q (F0 m 1216 ls []) := by
  have hx := F.1.1
  have hb := F.1.2.1
  have hts := F.1.2.2.2.2
  have hown := F.1.2.2.2.1
  have hXs := F.2.2.2.2.2.1
  have hbl := F.2.2.2.2.2.2
  have hbA : ¬ (fun q : Nat => s.heap.size ≤ q) bS := Nat.not_le.mpr hbl
  obtain ⟨v, x', m', Z, Z', rm, rm2, mc, ms, ⟨zP, zD⟩, M1, M2, hZ, r1, r2⟩ := sem_byOthers l hst D cc o a b x mv L hI
  have q1 := r1.2.2.1
  have q2 := r1.2.2.2.1
  have q3 := r1.2.2.2.2.1
  have q4 := r1.2.2.2.2.2
  have q5 := r2.2.2.2.2.1
  have q6 := r2.2.2.2.2.2
  have hP := zP g H hP
  have hD := zD g _ hD
  refine lv_aload_n hx hb dL_law_1216 rfl (lv_at hl 1 rfl) ?_
  refine lcallM F (M1 g) (cwV 0 hts gL_law_X6_byOthers rfl r1.1 r1.2.1 (by decide +kernel) ⟨by show rm.frames + 1 ≤ 11; omega, by show 8 + (3 + 11) + rm.locals ≤ 454; omega⟩) hP hD hS (q0 := 1) rfl rfl rfl hl rfl rfl (Nat.le_of_ble_eq_true rfl) dL_law_1217 ⟨by omega, by omega⟩ (fun q H locs hP hD hS => ?_)
  obtain ⟨L', eZ, hI'⟩ := hZ q
  rw [eZ] at hP hD
  refine lv_aload_n hx hb dL_law_1220 rfl (lv_at hl 2 rfl) ?_
  refine lcallM F (M2 g (x' q) (cp cc L')) (cwV 0 hts gL_law_X7_byOthers rfl r2.1 r2.2.1 (by decide +kernel) ⟨by show rm2.frames + 1 ≤ 11; omega, by show 8 + (3 + 11) + rm2.locals ≤ 454; omega⟩) hP hD hS (q0 := 32) rfl rfl rfl hl rfl rfl (Nat.le_of_ble_eq_true rfl) dL_law_1221 ⟨by omega, by omega⟩ (fun _ H locs hP hD hS => ?_)
  refine lv_icmp_eq (tgt := 1567) hx hb dL_law_1224 (by decide) (fun _ => ?_) (fun c9 => absurd rfl c9)
  refine W.widen (k := cells + 11) (n := slots + 1443) (by omega) (by omega) ?_
  exact next g (x' q) m' L' H locs ls hI' hP hD hS hl
theorem lc_bestRuling (F : lwF p s m c bS Ls xs D cc) (hst : l.stackTraces = false) (hI : INV x mv L) (hP : va_P D vwCl (wL cc o g a b x mv ++ cp cc L) H) (hD : va_D (fun q : Nat => s.heap.size ≤ q) (wL cc o g a b x mv ++ cp cc L)) (hS : va_S (fun q : Nat => s.heap.size ≤ q) s.heap H locs) (hl : lv_has ls 7 (lwL bS o a b x4)) (h1 : vp_in (x4 + (1 : Int32)) Ls) (h2 : vp_in (x4 + (2 : Int32)) Ls) (h3 : vp_in (x4 + (3 : Int32)) Ls) (hf : cells + 11 ≤ 601024 ∧ slots + 1443 ≤ 7293034) (next : lNext p l e s m below meth c cells slots Q bS D cc o a b x4) : W p l e room_1 s m #[Value.ref bS] below meth c H locs cells slots Q (F0 m 1229 ls []) := by
  have hx := F.1.1
  have hb := F.1.2.1
  have hts := F.1.2.2.2.2
  have hown := F.1.2.2.2.1
  have hXs := F.2.2.2.2.2.1
  have hbl := F.2.2.2.2.2.2
  have hbA : ¬ (fun q : Nat => s.heap.size ≤ q) bS := Nat.not_le.mpr hbl
  obtain ⟨v, x', m', Z, Z', rm, rm2, mc, ms, ⟨zP, zD⟩, M1, M2, hZ, r1, r2⟩ := sem_bestRuling l hst D cc o a b x mv L hI
  have q1 := r1.2.2.1
  have q2 := r1.2.2.2.1
  have q3 := r1.2.2.2.2.1
  have q4 := r1.2.2.2.2.2
  have q5 := r2.2.2.2.2.1
  have q6 := r2.2.2.2.2.2
  have hP := zP g H hP
  have hD := zD g _ hD
  refine lv_aload_n hx hb dL_law_1229 rfl (lv_at hl 1 rfl) ?_
  refine lcallM F (M1 g) (cwV 0 hts gL_law_X6_bestRuling rfl r1.1 r1.2.1 (by decide +kernel) ⟨by show rm.frames + 1 ≤ 11; omega, by show 8 + (5 + 11) + rm.locals ≤ 454; omega⟩) hP hD hS (q0 := 1) rfl rfl rfl hl rfl rfl (Nat.le_of_ble_eq_true rfl) dL_law_1230 ⟨by omega, by omega⟩ (fun q H locs hP hD hS => ?_)
  obtain ⟨L', eZ, hI'⟩ := hZ q
  rw [eZ] at hP hD
  refine lv_aload_n hx hb dL_law_1233 rfl (lv_at hl 2 rfl) ?_
  refine lcallM F (M2 g (x' q) (cp cc L')) (cwV 0 hts gL_law_X7_bestRuling rfl r2.1 r2.2.1 (by decide +kernel) ⟨by show rm2.frames + 1 ≤ 11; omega, by show 8 + (4 + 11) + rm2.locals ≤ 454; omega⟩) hP hD hS (q0 := 32) rfl rfl rfl hl rfl rfl (Nat.le_of_ble_eq_true rfl) dL_law_1234 ⟨by omega, by omega⟩ (fun _ H locs hP hD hS => ?_)
  refine lv_icmp_eq (tgt := 1567) hx hb dL_law_1237 (by decide) (fun _ => ?_) (fun c9 => absurd rfl c9)
  refine W.widen (k := cells + 11) (n := slots + 1443) (by omega) (by omega) ?_
  exact next g (x' q) m' L' H locs ls hI' hP hD hS hl
theorem lc_mirrored (F : lwF p s m c bS Ls xs D cc) (hst : l.stackTraces = false) (hI : INV x mv L) (hP : va_P D vwCl (wL cc o g a b x mv ++ cp cc L) H) (hD : va_D (fun q : Nat => s.heap.size ≤ q) (wL cc o g a b x mv ++ cp cc L)) (hS : va_S (fun q : Nat => s.heap.size ≤ q) s.heap H locs) (hl : lv_has ls 7 (lwL bS o a b x4)) (h1 : vp_in (x4 + (1 : Int32)) Ls) (h2 : vp_in (x4 + (2 : Int32)) Ls) (h3 : vp_in (x4 + (3 : Int32)) Ls) (hf : cells + 11 ≤ 601024 ∧ slots + 1443 ≤ 7293034) (next : lNext p l e s m below meth c cells slots Q bS D cc o a b x4) : W p l e room_1 s m #[Value.ref bS] below meth c H locs cells slots Q (F0 m 1242 ls []) := by
  have hx := F.1.1
  have hb := F.1.2.1
  have hts := F.1.2.2.2.2
  have hown := F.1.2.2.2.1
  have hXs := F.2.2.2.2.2.1
  have hbl := F.2.2.2.2.2.2
  have hbA : ¬ (fun q : Nat => s.heap.size ≤ q) bS := Nat.not_le.mpr hbl
  obtain ⟨v, x', m', Z, Z', rm, rm2, mc, ms, ⟨zP, zD⟩, M1, M2, hZ, r1, r2⟩ := sem_mirrored l hst D cc o a b x mv L hI
  have q1 := r1.2.2.1
  have q2 := r1.2.2.2.1
  have q3 := r1.2.2.2.2.1
  have q4 := r1.2.2.2.2.2
  have q5 := r2.2.2.2.2.1
  have q6 := r2.2.2.2.2.2
  have hP := zP g H hP
  have hD := zD g _ hD
  refine lv_aload_n hx hb dL_law_1242 rfl (lv_at hl 1 rfl) ?_
  refine lcallM F (M1 g) (cwV 0 hts gL_law_X6_mirrored rfl r1.1 r1.2.1 (by decide +kernel) ⟨by show rm.frames + 1 ≤ 11; omega, by show 8 + (1 + 11) + rm.locals ≤ 454; omega⟩) hP hD hS (q0 := 1) rfl rfl rfl hl rfl rfl (Nat.le_of_ble_eq_true rfl) dL_law_1243 ⟨by omega, by omega⟩ (fun q H locs hP hD hS => ?_)
  obtain ⟨L', eZ, hI'⟩ := hZ q
  rw [eZ] at hP hD
  refine lv_aload_n hx hb dL_law_1246 rfl (lv_at hl 2 rfl) ?_
  refine lcallM F (M2 g (x' q) (cp cc L')) (cwV 0 hts gL_law_X7_mirrored rfl r2.1 r2.2.1 (by decide +kernel) ⟨by show rm2.frames + 1 ≤ 11; omega, by show 8 + (4 + 11) + rm2.locals ≤ 454; omega⟩) hP hD hS (q0 := 32) rfl rfl rfl hl rfl rfl (Nat.le_of_ble_eq_true rfl) dL_law_1247 ⟨by omega, by omega⟩ (fun _ H locs hP hD hS => ?_)
  refine lv_icmp_eq (tgt := 1567) hx hb dL_law_1250 (by decide) (fun _ => ?_) (fun c9 => absurd rfl c9)
  refine W.widen (k := cells + 11) (n := slots + 1443) (by omega) (by omega) ?_
  exact next g (x' q) m' L' H locs ls hI' hP hD hS hl
theorem lc_runScript (F : lwF p s m c bS Ls xs D cc) (hst : l.stackTraces = false) (hI : INV x mv L) (hP : va_P D vwCl (wL cc o g a b x mv ++ cp cc L) H) (hD : va_D (fun q : Nat => s.heap.size ≤ q) (wL cc o g a b x mv ++ cp cc L)) (hS : va_S (fun q : Nat => s.heap.size ≤ q) s.heap H locs) (hl : lv_has ls 7 (lwL bS o a b x4)) (h1 : vp_in (x4 + (1 : Int32)) Ls) (h2 : vp_in (x4 + (2 : Int32)) Ls) (h3 : vp_in (x4 + (3 : Int32)) Ls) (hf : cells + 11 ≤ 601024 ∧ slots + 1443 ≤ 7293034) (next : lNext p l e s m below meth c cells slots Q bS D cc o a b x4) : W p l e room_1 s m #[Value.ref bS] below meth c H locs cells slots Q (F0 m 1255 ls []) := by
  have hx := F.1.1
  have hb := F.1.2.1
  have hts := F.1.2.2.2.2
  have hown := F.1.2.2.2.1
  have hXs := F.2.2.2.2.2.1
  have hbl := F.2.2.2.2.2.2
  have hbA : ¬ (fun q : Nat => s.heap.size ≤ q) bS := Nat.not_le.mpr hbl
  obtain ⟨B, v, rf, x', m', Z, Z', rm, rm2, mc, ms, ⟨zP, zD⟩, M1, M2, hA, hrf, hZ, r1, r2⟩ := sem_runScript l hst D cc o a b (xs (x4 + (1 : Int32)).toNatClampNeg) ((xlshl (xs (x4 + (2 : Int32)).toNatClampNeg).toInt64 (32 : Int32)) ||| ((xs (x4 + (3 : Int32)).toNatClampNeg).toInt64 &&& (4294967295 : Int64))) x mv L hI
  have q1 := r1.2.2.1
  have q2 := r1.2.2.2.1
  have q3 := r1.2.2.2.2.1
  have q4 := r1.2.2.2.2.2
  have q5 := r2.2.2.2.2.1
  have q6 := r2.2.2.2.2.2
  have hP := zP g H hP
  have hD := zD g _ hD
  refine lv_aload_n hx hb dL_law_1255 rfl (lv_at hl 1 rfl) ?_
  refine lv_aload_n hx hb dL_law_1256 rfl (lv_at hl 0 rfl) ?_
  refine lv_iload hx hb dL_law_1257 (lv_at hl 4 rfl) ?_
  refine lv_iconst (v := (1 : Int32)) hx hb dL_law_1259 (by decide) ?_
  refine lv_iadd hx hb dL_law_1260 ?_
  refine va_sld hx hb hXs hbl hbA hS h1 dL_law_1261 ?_
  refine lv_aload_n hx hb dL_law_1262 rfl (lv_at hl 0 rfl) ?_
  refine lv_iload hx hb dL_law_1263 (lv_at hl 4 rfl) ?_
  refine lv_iconst (v := (2 : Int32)) hx hb dL_law_1265 (by decide) ?_
  refine lv_iadd hx hb dL_law_1266 ?_
  refine va_sld hx hb hXs hbl hbA hS h2 dL_law_1267 ?_
  refine lv_i2l (v := (xs (x4 + (2 : Int32)).toNatClampNeg).toInt64) hx hb dL_law_1268 rfl ?_
  refine lv_bipush (v := (32 : Int32)) hx hb dL_law_1269 (by decide) ?_
  refine lv_lshl (v := (xlshl (xs (x4 + (2 : Int32)).toNatClampNeg).toInt64 (32 : Int32))) hx hb dL_law_1271 rfl ?_
  refine lv_aload_n hx hb dL_law_1272 rfl (lv_at hl 0 rfl) ?_
  refine lv_iload hx hb dL_law_1273 (lv_at hl 4 rfl) ?_
  refine lv_iconst (v := (3 : Int32)) hx hb dL_law_1275 (by decide) ?_
  refine lv_iadd hx hb dL_law_1276 ?_
  refine va_sld hx hb hXs hbl hbA hS h3 dL_law_1277 ?_
  refine lv_i2l (v := (xs (x4 + (3 : Int32)).toNatClampNeg).toInt64) hx hb dL_law_1278 rfl ?_
  refine lv_ldc2 (own := RL) (v := (4294967295 : Int64)) hx hb hown (hts _ (by decide +kernel)) dL_law_1279 ?_
  refine lv_land hx hb dL_law_1282 ?_
  refine lv_lor hx hb dL_law_1283 ?_
  refine lv_aload_n hx hb dL_law_1284 rfl (lv_at hl 3 rfl) ?_
  refine lcallW F (kL_runScript l D cc (rm := rm) r1.1 r1.2.1 (w0 := wLt cc a b x mv ++ Z) (w1 := fun q => (a 0, .inr (6, wXo a)) :: (wLt cc a b (x' q) mv ++ Z' q)) (M1 g) hA) (vx_cwSW 4 hts gL_law_L_runScript rfl r1.1 r1.2.1 (by decide +kernel) ⟨by show rm.frames + 1 + 1 ≤ 11; omega, by show 8 + (6 + 11) + (rm.locals + 40) ≤ 454; omega⟩) hP hD hS hl rfl rfl (Nat.le_of_ble_eq_true rfl) dL_law_1285 ⟨by omega, by omega⟩ (fun q H locs hP hD hS => ?_)
  have hP : va_P D vwCl (wL cc o (outG g B) a b (x' q) mv ++ Z' q) H := hP
  have hD : va_D (fun q : Nat => s.heap.size ≤ q) (wL cc o (outG g B) a b (x' q) mv ++ Z' q) := hD
  obtain ⟨L', eZ, hI'⟩ := hZ q
  rw [eZ] at hP hD
  refine lv_istore (lv' := [(5, .int rf), (0, .ref bS), (1, .ref (a 0)), (2, .ref (b 0)), (3, .ref o), (4, .int x4)]) hx hb dL_law_1288 hl (by decide) rfl (fun ls hl => ?_)
  refine lv_aload_n hx hb dL_law_1290 rfl (lv_at hl 3 rfl) ?_
  refine lv_aload_n hx hb dL_law_1291 rfl (lv_at hl 1 rfl) ?_
  refine lv_iload hx hb dL_law_1292 (lv_at hl 5 rfl) ?_
  refine lv_iconst (v := (1 : Int32)) hx hb dL_law_1294 (by decide) ?_
  refine lv_iadd hx hb dL_law_1295 ?_
  refine va_sld hx hb hXs hbl hbA hS h1 dL_law_1296 ?_
  refine lv_aload_n hx hb dL_law_1297 rfl (lv_at hl 1 rfl) ?_
  refine lv_iload hx hb dL_law_1298 (lv_at hl 5 rfl) ?_
  refine lv_iconst (v := (2 : Int32)) hx hb dL_law_1300 (by decide) ?_
  refine lv_iadd hx hb dL_law_1301 ?_
  refine va_sld hx hb hXs hbl hbA hS h2 dL_law_1302 ?_
  refine lv_i2l (v := (xs (x4 + (2 : Int32)).toNatClampNeg).toInt64) hx hb dL_law_1303 rfl ?_
  refine lv_bipush (v := (32 : Int32)) hx hb dL_law_1304 (by decide) ?_
  refine lv_lshl (v := (xlshl (xs (x4 + (2 : Int32)).toNatClampNeg).toInt64 (32 : Int32))) hx hb dL_law_1306 rfl ?_
  refine lv_aload_n hx hb dL_law_1307 rfl (lv_at hl 1 rfl) ?_
  refine lv_iload hx hb dL_law_1308 (lv_at hl 5 rfl) ?_
  refine lv_iconst (v := (3 : Int32)) hx hb dL_law_1310 (by decide) ?_
  refine lv_iadd hx hb dL_law_1311 ?_
  refine va_sld hx hb hXs hbl hbA hS h3 dL_law_1312 ?_
  refine lv_i2l (v := (xs (x4 + (3 : Int32)).toNatClampNeg).toInt64) hx hb dL_law_1313 rfl ?_
  refine lv_ldc2 (own := RL) (v := (4294967295 : Int64)) hx hb hown (hts _ (by decide +kernel)) dL_law_1314 ?_
  refine lv_land hx hb dL_law_1317 ?_
  refine lv_lor hx hb dL_law_1318 ?_
  refine lcallM F (M2 (outG g B) (x' q) (cp cc L')) (cwV 2 hts gL_law_X7_runScript rfl r2.1 r2.2.1 (by decide +kernel) ⟨by show rm2.frames + 1 ≤ 11; omega, by show 8 + (8 + 11) + rm2.locals ≤ 454; omega⟩) hP hD hS (q0 := 32) rfl rfl rfl hl rfl rfl (Nat.le_of_ble_eq_true rfl) dL_law_1319 ⟨by omega, by omega⟩ (fun _ H locs hP hD hS => ?_)
  refine lv_istore (lv' := [(6, .int v), (5, .int rf), (0, .ref bS), (1, .ref (a 0)), (2, .ref (b 0)), (3, .ref o), (4, .int x4)]) hx hb dL_law_1322 hl (by decide) rfl (fun ls hl => ?_)
  refine lv_aload_n hx hb dL_law_1324 rfl (lv_at hl 4 rfl) ?_
  refine lcallM F (bX7_thrown l D cc o (outG g B) a b (x' q) m' (cp cc L') (h := rfl)) (cwV 0 hts gL_law_X7_thrown rfl rfl rfl (by decide +kernel) ⟨Nat.le_of_ble_eq_true rfl, Nat.le_of_ble_eq_true rfl⟩) hP hD hS (q0 := 32) rfl rfl rfl hl rfl rfl (Nat.le_of_ble_eq_true rfl) dL_law_1325 ⟨by omega, by omega⟩ (fun _ H locs hP hD hS => ?_)
  refine lv_iload hx hb dL_law_1328 (lv_at hl 1 rfl) ?_
  refine lv_icmp_eq (tgt := 1335) hx hb dL_law_1330 (by decide) (fun _ => ?_) (fun c9 => absurd (show fX7_thrown m'.1 = rf from hrf) c9)
  refine lv_iload hx hb dL_law_1335 (lv_at hl 1 rfl) ?_
  refine lv_if_ne (tgt := 1352) hx hb dL_law_1337 (by decide) (fun _ => ?_) (fun c0 => ?_)
  · refine lv_goto (tgt := 1567) hx hb dL_law_1352 (by decide) ?_
    refine W.widen (k := cells + 11) (n := slots + 1443) (by omega) (by omega) ?_
    exact next (outG g B) (x' q) m' L' H locs ls hI' hP hD hS (lv_sub hl [2, 3, 4, 5, 6] rfl)
  · have hB := aR_zero (by rw [← c0]; exact hA) (Nat.le_of_ble_eq_true rfl)
    refine lv_aload_n hx hb dL_law_1340 rfl (lv_at hl 5 rfl) ?_
    refine lv_iconst (v := (0 : Int32)) hx hb dL_law_1341 (by decide) ?_
    refine va_lald hx hb F.2.1 hP (q0 := 0) (t0 := 3) rfl rfl (pk_in 0 1 (by decide)) dL_law_1342 ?_
    refine lv_iload hx hb dL_law_1343 (lv_at hl 0 rfl) ?_
    refine lv_i2l (v := v.toInt64) hx hb dL_law_1345 rfl ?_
    refine W.lcmp hx hb dL_law_1346 ?_
    refine lv_if_eq (tgt := 1352) hx hb dL_law_1347 (by decide) (fun _ => ?_) (fun c9 => absurd (by rw [hB, outG_self]; exact cmp_self _) c9)
    refine lv_goto (tgt := 1567) hx hb dL_law_1352 (by decide) ?_
    refine W.widen (k := cells + 11) (n := slots + 1443) (by omega) (by omega) ?_
    exact next (outG g B) (x' q) m' L' H locs ls hI' hP hD hS (lv_sub hl [2, 3, 4, 5, 6] rfl)
theorem lc_simulate (F : lwF p s m c bS Ls xs D cc) (hst : l.stackTraces = false) (hI : INV x mv L) (hP : va_P D vwCl (wL cc o g a b x mv ++ cp cc L) H) (hD : va_D (fun q : Nat => s.heap.size ≤ q) (wL cc o g a b x mv ++ cp cc L)) (hS : va_S (fun q : Nat => s.heap.size ≤ q) s.heap H locs) (hl : lv_has ls 7 (lwL bS o a b x4)) (h1 : vp_in (x4 + (1 : Int32)) Ls) (h2 : vp_in (x4 + (2 : Int32)) Ls) (h3 : vp_in (x4 + (3 : Int32)) Ls) (hf : cells + 11 ≤ 601024 ∧ slots + 1443 ≤ 7293034) (next : lNext p l e s m below meth c cells slots Q bS D cc o a b x4) : W p l e room_1 s m #[Value.ref bS] below meth c H locs cells slots Q (F0 m 1355 ls []) := by
  have hx := F.1.1
  have hb := F.1.2.1
  have hts := F.1.2.2.2.2
  have hown := F.1.2.2.2.1
  have hXs := F.2.2.2.2.2.1
  have hbl := F.2.2.2.2.2.2
  have hbA : ¬ (fun q : Nat => s.heap.size ≤ q) bS := Nat.not_le.mpr hbl
  obtain ⟨B, v, rf, x', m', Z, Z', rm, rm2, mc, ms, ⟨zP, zD⟩, M1, M2, hA, hrf, hZ, r1, r2⟩ := sem_simulate l hst D cc o a b ((xlshl (xs (x4 + (1 : Int32)).toNatClampNeg).toInt64 (32 : Int32)) ||| ((xs (x4 + (2 : Int32)).toNatClampNeg).toInt64 &&& (4294967295 : Int64))) (xs (x4 + (3 : Int32)).toNatClampNeg) x mv L hI
  have q1 := r1.2.2.1
  have q2 := r1.2.2.2.1
  have q3 := r1.2.2.2.2.1
  have q4 := r1.2.2.2.2.2
  have q5 := r2.2.2.2.2.1
  have q6 := r2.2.2.2.2.2
  have hP := zP g H hP
  have hD := zD g _ hD
  refine lv_aload_n hx hb dL_law_1355 rfl (lv_at hl 1 rfl) ?_
  refine lv_aload_n hx hb dL_law_1356 rfl (lv_at hl 0 rfl) ?_
  refine lv_iload hx hb dL_law_1357 (lv_at hl 4 rfl) ?_
  refine lv_iconst (v := (1 : Int32)) hx hb dL_law_1359 (by decide) ?_
  refine lv_iadd hx hb dL_law_1360 ?_
  refine va_sld hx hb hXs hbl hbA hS h1 dL_law_1361 ?_
  refine lv_i2l (v := (xs (x4 + (1 : Int32)).toNatClampNeg).toInt64) hx hb dL_law_1362 rfl ?_
  refine lv_bipush (v := (32 : Int32)) hx hb dL_law_1363 (by decide) ?_
  refine lv_lshl (v := (xlshl (xs (x4 + (1 : Int32)).toNatClampNeg).toInt64 (32 : Int32))) hx hb dL_law_1365 rfl ?_
  refine lv_aload_n hx hb dL_law_1366 rfl (lv_at hl 0 rfl) ?_
  refine lv_iload hx hb dL_law_1367 (lv_at hl 4 rfl) ?_
  refine lv_iconst (v := (2 : Int32)) hx hb dL_law_1369 (by decide) ?_
  refine lv_iadd hx hb dL_law_1370 ?_
  refine va_sld hx hb hXs hbl hbA hS h2 dL_law_1371 ?_
  refine lv_i2l (v := (xs (x4 + (2 : Int32)).toNatClampNeg).toInt64) hx hb dL_law_1372 rfl ?_
  refine lv_ldc2 (own := RL) (v := (4294967295 : Int64)) hx hb hown (hts _ (by decide +kernel)) dL_law_1373 ?_
  refine lv_land hx hb dL_law_1376 ?_
  refine lv_lor hx hb dL_law_1377 ?_
  refine lv_aload_n hx hb dL_law_1378 rfl (lv_at hl 0 rfl) ?_
  refine lv_iload hx hb dL_law_1379 (lv_at hl 4 rfl) ?_
  refine lv_iconst (v := (3 : Int32)) hx hb dL_law_1381 (by decide) ?_
  refine lv_iadd hx hb dL_law_1382 ?_
  refine va_sld hx hb hXs hbl hbA hS h3 dL_law_1383 ?_
  refine lv_aload_n hx hb dL_law_1384 rfl (lv_at hl 3 rfl) ?_
  refine lcallW F (kL_simulate l D cc (rm := rm) r1.1 r1.2.1 (w0 := wLt cc a b x mv ++ Z) (w1 := fun q => (a 0, .inr (6, wXo a)) :: (wLt cc a b (x' q) mv ++ Z' q)) (M1 g) hA) (vx_cwSW 4 hts gL_law_L_simulate rfl r1.1 r1.2.1 (by decide +kernel) ⟨by show rm.frames + 1 + 1 ≤ 11; omega, by show 8 + (6 + 11) + (rm.locals + 40) ≤ 454; omega⟩) hP hD hS hl rfl rfl (Nat.le_of_ble_eq_true rfl) dL_law_1385 ⟨by omega, by omega⟩ (fun q H locs hP hD hS => ?_)
  have hP : va_P D vwCl (wL cc o (outG g B) a b (x' q) mv ++ Z' q) H := hP
  have hD : va_D (fun q : Nat => s.heap.size ≤ q) (wL cc o (outG g B) a b (x' q) mv ++ Z' q) := hD
  obtain ⟨L', eZ, hI'⟩ := hZ q
  rw [eZ] at hP hD
  refine lv_istore (lv' := [(5, .int rf), (0, .ref bS), (1, .ref (a 0)), (2, .ref (b 0)), (3, .ref o), (4, .int x4)]) hx hb dL_law_1388 hl (by decide) rfl (fun ls hl => ?_)
  refine lv_aload_n hx hb dL_law_1390 rfl (lv_at hl 3 rfl) ?_
  refine lv_aload_n hx hb dL_law_1391 rfl (lv_at hl 1 rfl) ?_
  refine lv_iload hx hb dL_law_1392 (lv_at hl 5 rfl) ?_
  refine lv_iconst (v := (1 : Int32)) hx hb dL_law_1394 (by decide) ?_
  refine lv_iadd hx hb dL_law_1395 ?_
  refine va_sld hx hb hXs hbl hbA hS h1 dL_law_1396 ?_
  refine lv_i2l (v := (xs (x4 + (1 : Int32)).toNatClampNeg).toInt64) hx hb dL_law_1397 rfl ?_
  refine lv_bipush (v := (32 : Int32)) hx hb dL_law_1398 (by decide) ?_
  refine lv_lshl (v := (xlshl (xs (x4 + (1 : Int32)).toNatClampNeg).toInt64 (32 : Int32))) hx hb dL_law_1400 rfl ?_
  refine lv_aload_n hx hb dL_law_1401 rfl (lv_at hl 1 rfl) ?_
  refine lv_iload hx hb dL_law_1402 (lv_at hl 5 rfl) ?_
  refine lv_iconst (v := (2 : Int32)) hx hb dL_law_1404 (by decide) ?_
  refine lv_iadd hx hb dL_law_1405 ?_
  refine va_sld hx hb hXs hbl hbA hS h2 dL_law_1406 ?_
  refine lv_i2l (v := (xs (x4 + (2 : Int32)).toNatClampNeg).toInt64) hx hb dL_law_1407 rfl ?_
  refine lv_ldc2 (own := RL) (v := (4294967295 : Int64)) hx hb hown (hts _ (by decide +kernel)) dL_law_1408 ?_
  refine lv_land hx hb dL_law_1411 ?_
  refine lv_lor hx hb dL_law_1412 ?_
  refine lv_aload_n hx hb dL_law_1413 rfl (lv_at hl 1 rfl) ?_
  refine lv_iload hx hb dL_law_1414 (lv_at hl 5 rfl) ?_
  refine lv_iconst (v := (3 : Int32)) hx hb dL_law_1416 (by decide) ?_
  refine lv_iadd hx hb dL_law_1417 ?_
  refine va_sld hx hb hXs hbl hbA hS h3 dL_law_1418 ?_
  refine lcallM F (M2 (outG g B) (x' q) (cp cc L')) (cwV 2 hts gL_law_X7_simulate rfl r2.1 r2.2.1 (by decide +kernel) ⟨by show rm2.frames + 1 ≤ 11; omega, by show 8 + (7 + 11) + rm2.locals ≤ 454; omega⟩) hP hD hS (q0 := 32) rfl rfl rfl hl rfl rfl (Nat.le_of_ble_eq_true rfl) dL_law_1419 ⟨by omega, by omega⟩ (fun _ H locs hP hD hS => ?_)
  refine lv_istore (lv' := [(6, .int v), (5, .int rf), (0, .ref bS), (1, .ref (a 0)), (2, .ref (b 0)), (3, .ref o), (4, .int x4)]) hx hb dL_law_1422 hl (by decide) rfl (fun ls hl => ?_)
  refine lv_aload_n hx hb dL_law_1424 rfl (lv_at hl 4 rfl) ?_
  refine lcallM F (bX7_thrown l D cc o (outG g B) a b (x' q) m' (cp cc L') (h := rfl)) (cwV 0 hts gL_law_X7_thrown rfl rfl rfl (by decide +kernel) ⟨Nat.le_of_ble_eq_true rfl, Nat.le_of_ble_eq_true rfl⟩) hP hD hS (q0 := 32) rfl rfl rfl hl rfl rfl (Nat.le_of_ble_eq_true rfl) dL_law_1425 ⟨by omega, by omega⟩ (fun _ H locs hP hD hS => ?_)
  refine lv_iload hx hb dL_law_1428 (lv_at hl 1 rfl) ?_
  refine lv_icmp_eq (tgt := 1435) hx hb dL_law_1430 (by decide) (fun _ => ?_) (fun c9 => absurd (show fX7_thrown m'.1 = rf from hrf) c9)
  refine lv_iload hx hb dL_law_1435 (lv_at hl 1 rfl) ?_
  refine lv_if_ne (tgt := 1452) hx hb dL_law_1437 (by decide) (fun _ => ?_) (fun c0 => ?_)
  · refine lv_goto (tgt := 1567) hx hb dL_law_1452 (by decide) ?_
    refine W.widen (k := cells + 11) (n := slots + 1443) (by omega) (by omega) ?_
    exact next (outG g B) (x' q) m' L' H locs ls hI' hP hD hS (lv_sub hl [2, 3, 4, 5, 6] rfl)
  · have hB := aR_zero (by rw [← c0]; exact hA) (Nat.le_of_ble_eq_true rfl)
    refine lv_aload_n hx hb dL_law_1440 rfl (lv_at hl 5 rfl) ?_
    refine lv_iconst (v := (0 : Int32)) hx hb dL_law_1441 (by decide) ?_
    refine va_lald hx hb F.2.1 hP (q0 := 0) (t0 := 3) rfl rfl (pk_in 0 1 (by decide)) dL_law_1442 ?_
    refine lv_iload hx hb dL_law_1443 (lv_at hl 0 rfl) ?_
    refine lv_i2l (v := v.toInt64) hx hb dL_law_1445 rfl ?_
    refine W.lcmp hx hb dL_law_1446 ?_
    refine lv_if_eq (tgt := 1452) hx hb dL_law_1447 (by decide) (fun _ => ?_) (fun c9 => absurd (by rw [hB, outG_self]; exact cmp_self _) c9)
    refine lv_goto (tgt := 1567) hx hb dL_law_1452 (by decide) ?_
    refine W.widen (k := cells + 11) (n := slots + 1443) (by omega) (by omega) ?_
    exact next (outG g B) (x' q) m' L' H locs ls hI' hP hD hS (lv_sub hl [2, 3, 4, 5, 6] rfl)
theorem lc_save (F : lwF p s m c bS Ls xs D cc) (hst : l.stackTraces = false) (hI : INV x mv L) (hP : va_P D vwCl (wL cc o g a b x mv ++ cp cc L) H) (hD : va_D (fun q : Nat => s.heap.size ≤ q) (wL cc o g a b x mv ++ cp cc L)) (hS : va_S (fun q : Nat => s.heap.size ≤ q) s.heap H locs) (hl : lv_has ls 7 (lwL bS o a b x4)) (h1 : vp_in (x4 + (1 : Int32)) Ls) (h2 : vp_in (x4 + (2 : Int32)) Ls) (h3 : vp_in (x4 + (3 : Int32)) Ls) (hf : cells + 11 ≤ 601024 ∧ slots + 1443 ≤ 7293034) (next : lNext p l e s m below meth c cells slots Q bS D cc o a b x4) : W p l e room_1 s m #[Value.ref bS] below meth c H locs cells slots Q (F0 m 1455 ls []) := by
  have hx := F.1.1
  have hb := F.1.2.1
  have hts := F.1.2.2.2.2
  have hown := F.1.2.2.2.1
  have hXs := F.2.2.2.2.2.1
  have hbl := F.2.2.2.2.2.2
  have hbA : ¬ (fun q : Nat => s.heap.size ≤ q) bS := Nat.not_le.mpr hbl
  obtain ⟨B, v, rf, x', m', Z, Z', rm, rm2, mc, ms, ⟨zP, zD⟩, M1, M2, hA, hrf, hZ, r1, r2⟩ := sem_save l hst D cc o a b (xs (x4 + (1 : Int32)).toNatClampNeg) x mv L hI
  have q1 := r1.2.2.1
  have q2 := r1.2.2.2.1
  have q3 := r1.2.2.2.2.1
  have q4 := r1.2.2.2.2.2
  have q5 := r2.2.2.2.2.1
  have q6 := r2.2.2.2.2.2
  have hP := zP g H hP
  have hD := zD g _ hD
  refine lv_aload_n hx hb dL_law_1455 rfl (lv_at hl 1 rfl) ?_
  refine lv_aload_n hx hb dL_law_1456 rfl (lv_at hl 0 rfl) ?_
  refine lv_iload hx hb dL_law_1457 (lv_at hl 4 rfl) ?_
  refine lv_iconst (v := (1 : Int32)) hx hb dL_law_1459 (by decide) ?_
  refine lv_iadd hx hb dL_law_1460 ?_
  refine va_sld hx hb hXs hbl hbA hS h1 dL_law_1461 ?_
  refine lv_aload_n hx hb dL_law_1462 rfl (lv_at hl 3 rfl) ?_
  refine lcallW F (kL_save l D cc (rm := rm) r1.1 r1.2.1 (w0 := wLt cc a b x mv ++ Z) (w1 := fun q => (a 0, .inr (6, wXo a)) :: (wLt cc a b (x' q) mv ++ Z' q)) (M1 g) hA) (vx_cwSW 3 hts gL_law_L_save rfl r1.1 r1.2.1 (by decide +kernel) ⟨by show rm.frames + 1 + 1 ≤ 11; omega, by show 8 + (4 + 11) + (rm.locals + 40) ≤ 454; omega⟩) hP hD hS hl rfl rfl (Nat.le_of_ble_eq_true rfl) dL_law_1463 ⟨by omega, by omega⟩ (fun q H locs hP hD hS => ?_)
  have hP : va_P D vwCl (wL cc o (outG g B) a b (x' q) mv ++ Z' q) H := hP
  have hD : va_D (fun q : Nat => s.heap.size ≤ q) (wL cc o (outG g B) a b (x' q) mv ++ Z' q) := hD
  obtain ⟨L', eZ, hI'⟩ := hZ q
  rw [eZ] at hP hD
  refine lv_istore (lv' := [(5, .int rf), (0, .ref bS), (1, .ref (a 0)), (2, .ref (b 0)), (3, .ref o), (4, .int x4)]) hx hb dL_law_1466 hl (by decide) rfl (fun ls hl => ?_)
  refine lv_aload_n hx hb dL_law_1468 rfl (lv_at hl 3 rfl) ?_
  refine lv_aload_n hx hb dL_law_1469 rfl (lv_at hl 1 rfl) ?_
  refine lv_iload hx hb dL_law_1470 (lv_at hl 5 rfl) ?_
  refine lv_iconst (v := (1 : Int32)) hx hb dL_law_1472 (by decide) ?_
  refine lv_iadd hx hb dL_law_1473 ?_
  refine va_sld hx hb hXs hbl hbA hS h1 dL_law_1474 ?_
  refine lcallM F (M2 (outG g B) (x' q) (cp cc L')) (cwV 1 hts gL_law_X7_save rfl r2.1 r2.2.1 (by decide +kernel) ⟨by show rm2.frames + 1 ≤ 11; omega, by show 8 + (2 + 11) + rm2.locals ≤ 454; omega⟩) hP hD hS (q0 := 32) rfl rfl rfl hl rfl rfl (Nat.le_of_ble_eq_true rfl) dL_law_1475 ⟨by omega, by omega⟩ (fun _ H locs hP hD hS => ?_)
  refine lv_istore (lv' := [(6, .int v), (5, .int rf), (0, .ref bS), (1, .ref (a 0)), (2, .ref (b 0)), (3, .ref o), (4, .int x4)]) hx hb dL_law_1478 hl (by decide) rfl (fun ls hl => ?_)
  refine lv_aload_n hx hb dL_law_1480 rfl (lv_at hl 4 rfl) ?_
  refine lcallM F (bX7_thrown l D cc o (outG g B) a b (x' q) m' (cp cc L') (h := rfl)) (cwV 0 hts gL_law_X7_thrown rfl rfl rfl (by decide +kernel) ⟨Nat.le_of_ble_eq_true rfl, Nat.le_of_ble_eq_true rfl⟩) hP hD hS (q0 := 32) rfl rfl rfl hl rfl rfl (Nat.le_of_ble_eq_true rfl) dL_law_1481 ⟨by omega, by omega⟩ (fun _ H locs hP hD hS => ?_)
  refine lv_iload hx hb dL_law_1484 (lv_at hl 1 rfl) ?_
  refine lv_icmp_eq (tgt := 1491) hx hb dL_law_1486 (by decide) (fun _ => ?_) (fun c9 => absurd (show fX7_thrown m'.1 = rf from hrf) c9)
  refine lv_iload hx hb dL_law_1491 (lv_at hl 1 rfl) ?_
  refine lv_if_ne (tgt := 1508) hx hb dL_law_1493 (by decide) (fun _ => ?_) (fun c0 => ?_)
  · refine lv_goto (tgt := 1567) hx hb dL_law_1508 (by decide) ?_
    refine W.widen (k := cells + 11) (n := slots + 1443) (by omega) (by omega) ?_
    exact next (outG g B) (x' q) m' L' H locs ls hI' hP hD hS (lv_sub hl [2, 3, 4, 5, 6] rfl)
  · have hB := aR_zero (by rw [← c0]; exact hA) (Nat.le_of_ble_eq_true rfl)
    refine lv_aload_n hx hb dL_law_1496 rfl (lv_at hl 5 rfl) ?_
    refine lv_iconst (v := (0 : Int32)) hx hb dL_law_1497 (by decide) ?_
    refine va_lald hx hb F.2.1 hP (q0 := 0) (t0 := 3) rfl rfl (pk_in 0 1 (by decide)) dL_law_1498 ?_
    refine lv_iload hx hb dL_law_1499 (lv_at hl 0 rfl) ?_
    refine lv_i2l (v := v.toInt64) hx hb dL_law_1501 rfl ?_
    refine W.lcmp hx hb dL_law_1502 ?_
    refine lv_if_eq (tgt := 1508) hx hb dL_law_1503 (by decide) (fun _ => ?_) (fun c9 => absurd (by rw [hB, outG_self]; exact cmp_self _) c9)
    refine lv_goto (tgt := 1567) hx hb dL_law_1508 (by decide) ?_
    refine W.widen (k := cells + 11) (n := slots + 1443) (by omega) (by omega) ?_
    exact next (outG g B) (x' q) m' L' H locs ls hI' hP hD hS (lv_sub hl [2, 3, 4, 5, 6] rfl)
theorem lc_restore (F : lwF p s m c bS Ls xs D cc) (hst : l.stackTraces = false) (hI : INV x mv L) (hP : va_P D vwCl (wL cc o g a b x mv ++ cp cc L) H) (hD : va_D (fun q : Nat => s.heap.size ≤ q) (wL cc o g a b x mv ++ cp cc L)) (hS : va_S (fun q : Nat => s.heap.size ≤ q) s.heap H locs) (hl : lv_has ls 7 (lwL bS o a b x4)) (h1 : vp_in (x4 + (1 : Int32)) Ls) (h2 : vp_in (x4 + (2 : Int32)) Ls) (h3 : vp_in (x4 + (3 : Int32)) Ls) (hf : cells + 11 ≤ 601024 ∧ slots + 1443 ≤ 7293034) (next : lNext p l e s m below meth c cells slots Q bS D cc o a b x4) : W p l e room_1 s m #[Value.ref bS] below meth c H locs cells slots Q (F0 m 1511 ls []) := by
  have hx := F.1.1
  have hb := F.1.2.1
  have hts := F.1.2.2.2.2
  have hown := F.1.2.2.2.1
  have hXs := F.2.2.2.2.2.1
  have hbl := F.2.2.2.2.2.2
  have hbA : ¬ (fun q : Nat => s.heap.size ≤ q) bS := Nat.not_le.mpr hbl
  obtain ⟨B, v, rf, x', m', Z, Z', rm, rm2, mc, ms, ⟨zP, zD⟩, M1, M2, hA, hrf, hZ, r1, r2⟩ := sem_restore l hst D cc o a b (xs (x4 + (1 : Int32)).toNatClampNeg) x mv L hI
  have q1 := r1.2.2.1
  have q2 := r1.2.2.2.1
  have q3 := r1.2.2.2.2.1
  have q4 := r1.2.2.2.2.2
  have q5 := r2.2.2.2.2.1
  have q6 := r2.2.2.2.2.2
  have hP := zP g H hP
  have hD := zD g _ hD
  refine lv_aload_n hx hb dL_law_1511 rfl (lv_at hl 1 rfl) ?_
  refine lv_aload_n hx hb dL_law_1512 rfl (lv_at hl 0 rfl) ?_
  refine lv_iload hx hb dL_law_1513 (lv_at hl 4 rfl) ?_
  refine lv_iconst (v := (1 : Int32)) hx hb dL_law_1515 (by decide) ?_
  refine lv_iadd hx hb dL_law_1516 ?_
  refine va_sld hx hb hXs hbl hbA hS h1 dL_law_1517 ?_
  refine lv_aload_n hx hb dL_law_1518 rfl (lv_at hl 3 rfl) ?_
  refine lcallW F (kL_restore l D cc (rm := rm) r1.1 r1.2.1 (w0 := wLt cc a b x mv ++ Z) (w1 := fun q => (a 0, .inr (6, wXo a)) :: (wLt cc a b (x' q) mv ++ Z' q)) (M1 g) hA) (vx_cwSW 3 hts gL_law_L_restore rfl r1.1 r1.2.1 (by decide +kernel) ⟨by show rm.frames + 1 + 1 ≤ 11; omega, by show 8 + (4 + 11) + (rm.locals + 40) ≤ 454; omega⟩) hP hD hS hl rfl rfl (Nat.le_of_ble_eq_true rfl) dL_law_1519 ⟨by omega, by omega⟩ (fun q H locs hP hD hS => ?_)
  have hP : va_P D vwCl (wL cc o (outG g B) a b (x' q) mv ++ Z' q) H := hP
  have hD : va_D (fun q : Nat => s.heap.size ≤ q) (wL cc o (outG g B) a b (x' q) mv ++ Z' q) := hD
  obtain ⟨L', eZ, hI'⟩ := hZ q
  rw [eZ] at hP hD
  refine lv_istore (lv' := [(5, .int rf), (0, .ref bS), (1, .ref (a 0)), (2, .ref (b 0)), (3, .ref o), (4, .int x4)]) hx hb dL_law_1522 hl (by decide) rfl (fun ls hl => ?_)
  refine lv_aload_n hx hb dL_law_1524 rfl (lv_at hl 3 rfl) ?_
  refine lv_aload_n hx hb dL_law_1525 rfl (lv_at hl 1 rfl) ?_
  refine lv_iload hx hb dL_law_1526 (lv_at hl 5 rfl) ?_
  refine lv_iconst (v := (1 : Int32)) hx hb dL_law_1528 (by decide) ?_
  refine lv_iadd hx hb dL_law_1529 ?_
  refine va_sld hx hb hXs hbl hbA hS h1 dL_law_1530 ?_
  refine lcallM F (M2 (outG g B) (x' q) (cp cc L')) (cwV 1 hts gL_law_X7_restore rfl r2.1 r2.2.1 (by decide +kernel) ⟨by show rm2.frames + 1 ≤ 11; omega, by show 8 + (2 + 11) + rm2.locals ≤ 454; omega⟩) hP hD hS (q0 := 32) rfl rfl rfl hl rfl rfl (Nat.le_of_ble_eq_true rfl) dL_law_1531 ⟨by omega, by omega⟩ (fun _ H locs hP hD hS => ?_)
  refine lv_istore (lv' := [(6, .int v), (5, .int rf), (0, .ref bS), (1, .ref (a 0)), (2, .ref (b 0)), (3, .ref o), (4, .int x4)]) hx hb dL_law_1534 hl (by decide) rfl (fun ls hl => ?_)
  refine lv_aload_n hx hb dL_law_1536 rfl (lv_at hl 4 rfl) ?_
  refine lcallM F (bX7_thrown l D cc o (outG g B) a b (x' q) m' (cp cc L') (h := rfl)) (cwV 0 hts gL_law_X7_thrown rfl rfl rfl (by decide +kernel) ⟨Nat.le_of_ble_eq_true rfl, Nat.le_of_ble_eq_true rfl⟩) hP hD hS (q0 := 32) rfl rfl rfl hl rfl rfl (Nat.le_of_ble_eq_true rfl) dL_law_1537 ⟨by omega, by omega⟩ (fun _ H locs hP hD hS => ?_)
  refine lv_iload hx hb dL_law_1540 (lv_at hl 1 rfl) ?_
  refine lv_icmp_eq (tgt := 1547) hx hb dL_law_1542 (by decide) (fun _ => ?_) (fun c9 => absurd (show fX7_thrown m'.1 = rf from hrf) c9)
  refine lv_iload hx hb dL_law_1547 (lv_at hl 1 rfl) ?_
  refine lv_if_ne (tgt := 1564) hx hb dL_law_1549 (by decide) (fun _ => ?_) (fun c0 => ?_)
  · refine lv_goto (tgt := 1567) hx hb dL_law_1564 (by decide) ?_
    refine W.widen (k := cells + 11) (n := slots + 1443) (by omega) (by omega) ?_
    exact next (outG g B) (x' q) m' L' H locs ls hI' hP hD hS (lv_sub hl [2, 3, 4, 5, 6] rfl)
  · have hB := aR_zero (by rw [← c0]; exact hA) (Nat.le_of_ble_eq_true rfl)
    refine lv_aload_n hx hb dL_law_1552 rfl (lv_at hl 5 rfl) ?_
    refine lv_iconst (v := (0 : Int32)) hx hb dL_law_1553 (by decide) ?_
    refine va_lald hx hb F.2.1 hP (q0 := 0) (t0 := 3) rfl rfl (pk_in 0 1 (by decide)) dL_law_1554 ?_
    refine lv_iload hx hb dL_law_1555 (lv_at hl 0 rfl) ?_
    refine lv_i2l (v := v.toInt64) hx hb dL_law_1557 rfl ?_
    refine W.lcmp hx hb dL_law_1558 ?_
    refine lv_if_eq (tgt := 1564) hx hb dL_law_1559 (by decide) (fun _ => ?_) (fun c9 => absurd (by rw [hB, outG_self]; exact cmp_self _) c9)
    refine lv_goto (tgt := 1567) hx hb dL_law_1564 (by decide) ?_
    refine W.widen (k := cells + 11) (n := slots + 1443) (by omega) (by omega) ?_
    exact next (outG g B) (x' q) m' L' H locs ls hI' hP hD hS (lv_sub hl [2, 3, 4, 5, 6] rfl)
end XCASES
