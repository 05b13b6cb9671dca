/-! GHOST 10: each kind of call, closed; rows for numbers -/
section XGQ
theorem gO.v {l : Launch} {y : MethodName} {wy : List Cond} {rm : Room} {D : va_G} {cc : Nat → ClassId} {a : Nat → Nat} {args : List Value} {G G' : GS} {v v' : Int32} {mc ms : Nat} (h : gO l y wy rm D cc a args G v G' mc ms) (e : v = v') : gO l y wy rm D cc a args G v' G' mc ms := by
  subst e; exact h
theorem gO.g {l : Launch} {y : MethodName} {wy : List Cond} {rm : Room} {D : va_G} {cc : Nat → ClassId} {a : Nat → Nat} {args : List Value} {G G' G2 : GS} {v : Int32} {mc ms : Nat} (h : gO l y wy rm D cc a args G v G' mc ms) (e : G' = G2) : gO l y wy rm D cc a args G v G2 mc ms := by
  subst e; exact h
theorem cIf_ex {p1 p2 : Prop} {c : Prop} {β : Type} {x y : (Int32 ⊕ String) × β} {P : String → Prop} (hx : ∀ E, x.1 = .inr E → P E) (hy : ∀ E, y.1 = .inr E → P E) : ∀ E, (cIf c x y).1 = .inr E → P E := by
  intro E h
  by_cases q : c
  · rw [cIf_pos q] at h; exact hx E h
  · rw [cIf_neg q] at h; exact hy E h
theorem inl_ex {P : String → Prop} {v : Int32} : ∀ E, (Sum.inl v : Int32 ⊕ String) = .inr E → P E := fun E h => by cases h
theorem inr_ex {P : String → Prop} {E0 : String} (h0 : P E0) : ∀ E, (Sum.inr E0 : Int32 ⊕ String) = .inr E → P E := fun E h => by
  cases h; exact h0
theorem ite_ex {c : Prop} [Decidable c] {x y : Int32 ⊕ String} {P : String → Prop} (hx : ∀ E, x = .inr E → P E) (hy : ∀ E, y = .inr E → P E) : ∀ E, (if c then x else y) = .inr E → P E := by
  intro E h
  by_cases q : c
  · rw [if_pos q] at h; exact hx E h
  · rw [if_neg q] at h; exact hy E h
theorem ite2_ex {c : Prop} [Decidable c] {β : Type} {x y : (Int32 ⊕ String) × β} {P : String → Prop} (hx : ∀ E, x.1 = .inr E → P E) (hy : ∀ E, y.1 = .inr E → P E) : ∀ E, (if c then x else y).1 = .inr E → P E := by
  intro E h
  by_cases q : c
  · rw [if_pos q] at h; exact hx E h
  · rw [if_neg q] at h; exact hy E h
theorem ex_about {r : RW} (p : Int32) : ∀ E, gAbout r p = .inr E → E = xIA := by
  unfold gAbout
  exact ite_ex inl_ex (ite_ex inl_ex (ite_ex inl_ex (ite_ex inl_ex (ite_ex inl_ex (ite_ex inl_ex (ite_ex inl_ex (ite_ex inl_ex (inr_ex rfl))))))))
theorem ex_sign {r : RW} (p : Int32) : ∀ E, gSign r p = .inr E → E = xIA := by
  unfold gSign
  exact ite_ex inl_ex (inr_ex rfl)
theorem ex_sample {r : RW} (p q : Int32) : ∀ E, gSample r p q = .inr E → E = xIO ∨ E = xIA := by
  unfold gSample
  exact ite_ex (inr_ex (Or.inl rfl)) (ite_ex inl_ex (ite_ex inl_ex (ite_ex inl_ex (ite_ex inl_ex (inr_ex (Or.inr rfl))))))
theorem ex_signOf {r : RW} (p q : Int32) : ∀ E, gSignOf r p q = .inr E → E = xIO ∨ E = xIA := by
  unfold gSignOf
  exact ite_ex (inr_ex (Or.inl rfl)) (ite_ex inl_ex (inr_ex (Or.inr rfl)))
theorem ex_practised {r : RW} (p q : Int32) : ∀ E, gPractised r p q = .inr E → E = xIA := by
  unfold gPractised
  exact ite_ex (inr_ex rfl) (ite_ex (inr_ex rfl) (ite_ex inl_ex (inr_ex rfl)))
theorem ex_setting {r : RW} (p : Int32) : ∀ E, gSetting r p = .inr E → E = xIA := by
  unfold gSetting
  exact ite_ex (inr_ex rfl) (ite_ex inl_ex (inr_ex rfl))
theorem ex_read {r : RW} (p : Int32) : ∀ E, gRead r p = .inr E → E = xIA := by
  unfold gRead
  exact ite_ex (inr_ex rfl) (ite_ex (ite_ex inl_ex (ite_ex inl_ex (ite_ex inl_ex (inl_ex)))) (inr_ex rfl))
theorem ex_nearest {r : RW} (p : Int32) : ∀ E, gNearest r p = .inr E → E = xIO := by
  unfold gNearest
  exact ite_ex (inr_ex rfl) inl_ex
theorem ex_between {r : RW} (p q : Int32) : ∀ E, gBetween r p q = .inr E → E = xIO := by
  unfold gBetween
  exact ite_ex (inr_ex rfl) (ite_ex (inr_ex rfl) inl_ex)
theorem ex_append {n : Nat} {t : Nat → Nat} (p : Int32) : ∀ E, (gAppend n t p).1 = .inr E → E = xIA ∨ E = xIS := by
  unfold gAppend
  exact ite2_ex (inr_ex (Or.inl rfl)) (ite2_ex (ite2_ex inl_ex (inr_ex (Or.inr rfl))) (inr_ex (Or.inl rfl)))
theorem ex_point {r : RW} (p q : Int32) : ∀ E, (gPoint r p q).1 = .inr E → E = xIA ∨ E = xIS := by
  unfold gPoint
  exact ite2_ex (inr_ex (Or.inl rfl)) (ite2_ex (inr_ex (Or.inl rfl)) (ite2_ex inl_ex (inr_ex (Or.inr rfl))))
theorem ex_draw {r : RW} {n : Nat} {t : Nat → Nat} : ∀ E, (gDraw r n t).1 = .inr E → E = xIS := by
  unfold gDraw
  exact cIf_ex (p1 := True) (p2 := True) inl_ex (inr_ex rfl)
theorem ex_learn {r : RW} (p : Int32) : ∀ E, (gLearn r p).1 = .inr E → E = xIA ∨ E = xIS := by
  unfold gLearn
  exact ite2_ex (inr_ex (Or.inl rfl)) (cIf_ex (p1 := True) (p2 := True) inl_ex (inr_ex (Or.inr rfl)))
theorem ex_forget {r : RW} (p : Int32) : ∀ E, (gForget r p).1 = .inr E → E = xIO := by
  unfold gForget
  exact ite2_ex (inr_ex rfl) inl_ex
theorem ex_practise {r : RW} (p : Int32) : ∀ E, (gPractise r p).1 = .inr E → E = xIA ∨ E = xIS := by
  unfold gPractise
  exact ite2_ex (inr_ex (Or.inl rfl)) (ite2_ex (inr_ex (Or.inr rfl)) inl_ex)
theorem ex_set {r : RW} (p q : Int32) : ∀ E, (gSet r p q).1 = .inr E → E = xIA ∨ E = xIS := by
  unfold gSet
  exact ite2_ex (inr_ex (Or.inl rfl)) (cIf_ex (p1 := True) (p2 := True) inl_ex (inr_ex (Or.inr rfl)))
theorem ex_save {G : GS} (p : Int32) : ∀ E, (gSave G p).1 = .inr E → E = xIO := by
  unfold gSave
  exact cIf_ex (p1 := True) (p2 := True) inl_ex (inr_ex rfl)
theorem ex_restore {G : GS} (p : Int32) : ∀ E, (gRestore G p).1 = .inr E → E = xIO ∨ E = xIS := by
  unfold gRestore
  refine cIf_ex (p1 := True) (p2 := True) ?_ (inr_ex (Or.inl rfl))
  cases G.2.2.2.2 p.toNatClampNeg with
  | none => exact inr_ex (Or.inr rfl)
  | some r' => exact inl_ex
theorem ex_undo {G : GS} : ∀ E, (gUndo G).1 = .inr E → E = xIS := by
  unfold gUndo
  cases G.2.2.2.1 with
  | nil => exact inr_ex rfl
  | cons r' hs => exact inl_ex
theorem ex_unO (w : Option (Int32 × Int32 × MT)) : ∀ E, unO w = .inr E → E = xIA := by
  cases w with
  | none => exact inr_ex rfl
  | some e => exact ite_ex inl_ex (inr_ex rfl)
theorem kq0 (l : Launch) (hst : l.stackTraces = false) (D : va_G) (cc : Nat → ClassId) (a : Nat → Nat) (G : GS) (p2 p3 p4 : Int32) : gO l yL_call wsL_call (rmK 1 6) D cc a [.int (nI 0), .int p2, .int p3, .int p4] G (wv ((gAppend G.2.1 G.2.2.1 p2).1)) (G.1, (gAppend G.2.1 G.2.2.1 p2).2.1, (gAppend G.2.1 G.2.2.1 p2).2.2, G.2.2.2.1, G.2.2.2.2) 1 6 := kc0 l D cc (sg_append l hst D cc a G p2) (ex_append p2)
theorem kq1 (l : Launch) (hst : l.stackTraces = false) (D : va_G) (cc : Nat → ClassId) (a : Nat → Nat) (G : GS) (p2 p3 p4 : Int32) : gO l yL_call wsL_call (rmK 1 6) D cc a [.int (nI 1), .int p2, .int p3, .int p4] G (wv (gAbout G.1 p2)) G 1 6 := kc1 l D cc (sg_about l hst D cc a G p2) (ex_about p2)
theorem kq2 (l : Launch) (hst : l.stackTraces = false) (D : va_G) (cc : Nat → ClassId) (a : Nat → Nat) (G : GS) (p2 p3 p4 : Int32) : gO l yL_call wsL_call (rmK 1 6) D cc a [.int (nI 2), .int p2, .int p3, .int p4] G (wv (gSign G.1 p2)) G 1 6 := kc2 l D cc (sg_sign l hst D cc a G p2) (ex_sign p2)
theorem kq3 (l : Launch) (hst : l.stackTraces = false) (D : va_G) (cc : Nat → ClassId) (a : Nat → Nat) (G : GS) (p2 p3 p4 : Int32) : gO l yL_call wsL_call (rmK 1 6) D cc a [.int (nI 3), .int p2, .int p3, .int p4] G (wv (gSample G.1 p2 p3)) G 1 6 := kc3 l D cc (sg_sample l hst D cc a G p2 p3) (ex_sample p2 p3)
theorem kq4 (l : Launch) (hst : l.stackTraces = false) (D : va_G) (cc : Nat → ClassId) (a : Nat → Nat) (G : GS) (p2 p3 p4 : Int32) : gO l yL_call wsL_call (rmK 1 6) D cc a [.int (nI 4), .int p2, .int p3, .int p4] G (wv (gSignOf G.1 p2 p3)) G 1 6 := kc4 l D cc (sg_signOf l hst D cc a G p2 p3) (ex_signOf p2 p3)
theorem kq5 (l : Launch) (hst : l.stackTraces = false) (D : va_G) (cc : Nat → ClassId) (a : Nat → Nat) (G : GS) (p2 p3 p4 : Int32) : gO l yL_call wsL_call (rmK 1 6) D cc a [.int (nI 5), .int p2, .int p3, .int p4] G (wv (gPractised G.1 p2 p3)) G 1 6 := kc5 l D cc (sg_practised l hst D cc a G p2 p3) (ex_practised p2 p3)
theorem kq6 (l : Launch) (hst : l.stackTraces = false) (D : va_G) (cc : Nat → ClassId) (a : Nat → Nat) (G : GS) (p2 p3 p4 : Int32) : gO l yL_call wsL_call (rmK 1 6) D cc a [.int (nI 6), .int p2, .int p3, .int p4] G (wv (gSetting G.1 p2)) G 1 6 := kc6 l D cc (sg_setting l hst D cc a G p2) (ex_setting p2)
theorem kq7 (l : Launch) (hst : l.stackTraces = false) (D : va_G) (cc : Nat → ClassId) (a : Nat → Nat) (G : GS) (p2 p3 p4 : Int32) : gO l yL_call wsL_call (rmK 11 1443) D cc a [.int (nI 7), .int p2, .int p3, .int p4] G (wv ((gPoint G.1 p2 p3).1)) (nxt G (gPoint G.1 p2 p3).2) 11 1443 := kc7 l D cc (sg_point l hst D cc a G p2 p3) (ex_point p2 p3)
theorem kq8 (l : Launch) (hst : l.stackTraces = false) (D : va_G) (cc : Nat → ClassId) (a : Nat → Nat) (G : GS) (p2 p3 p4 : Int32) : gO l yL_call wsL_call (rmK 11 1443) D cc a [.int (nI 8), .int p2, .int p3, .int p4] G (wv ((gDraw G.1 G.2.1 G.2.2.1).1)) (nxt G (gDraw G.1 G.2.1 G.2.2.1).2) 11 1443 := kc8 l D cc (sg_draw l hst D cc a G) ex_draw
theorem kq9 (l : Launch) (hst : l.stackTraces = false) (D : va_G) (cc : Nat → ClassId) (a : Nat → Nat) (G : GS) (p2 p3 p4 : Int32) : gO l yL_call wsL_call (rmK 11 1443) D cc a [.int (nI 9), .int p2, .int p3, .int p4] G (wv ((gLearn G.1 p2).1)) (nxt G (gLearn G.1 p2).2) 11 1443 := kc9 l D cc (sg_learn l hst D cc a G p2) (ex_learn p2)
theorem kq10 (l : Launch) (hst : l.stackTraces = false) (D : va_G) (cc : Nat → ClassId) (a : Nat → Nat) (G : GS) (p2 p3 p4 : Int32) : gO l yL_call wsL_call (rmK 11 1443) D cc a [.int (nI 10), .int p2, .int p3, .int p4] G (wv ((gForget G.1 p2).1)) (nxt G (gForget G.1 p2).2) 11 1443 := kc10 l D cc (sg_forget l hst D cc a G p2) (ex_forget p2)
theorem kq11 (l : Launch) (hst : l.stackTraces = false) (D : va_G) (cc : Nat → ClassId) (a : Nat → Nat) (G : GS) (p2 p3 p4 : Int32) : gO l yL_call wsL_call (rmK 11 1443) D cc a [.int (nI 11), .int p2, .int p3, .int p4] G (wv ((gPractise G.1 p2).1)) (nxt G (gPractise G.1 p2).2) 11 1443 := kc11 l D cc (sg_practise l hst D cc a G p2) (ex_practise p2)
theorem kq12 (l : Launch) (hst : l.stackTraces = false) (D : va_G) (cc : Nat → ClassId) (a : Nat → Nat) (G : GS) (p2 p3 p4 : Int32) : gO l yL_call wsL_call (rmK 11 1443) D cc a [.int (nI 12), .int p2, .int p3, .int p4] G (wv ((gSet G.1 p2 p3).1)) (nxt G (gSet G.1 p2 p3).2) 11 1443 := kc12 l D cc (sg_set l hst D cc a G p2 p3) (ex_set p2 p3)
theorem kq13 (l : Launch) (hst : l.stackTraces = false) (D : va_G) (cc : Nat → ClassId) (a : Nat → Nat) (G : GS) (p2 p3 p4 : Int32) : gO l yL_call wsL_call (rmK 1 6) D cc a [.int (nI 13), .int p2, .int p3, .int p4] G (wv ((gUndo G).1)) (gUndo G).2 1 6 := kc13 l D cc (sg_undo l hst D cc a G) ex_undo
theorem kq14 (l : Launch) (hst : l.stackTraces = false) (D : va_G) (cc : Nat → ClassId) (a : Nat → Nat) (G : GS) (p2 p3 p4 : Int32) : gO l yL_call wsL_call (rmK 1 6) D cc a [.int (nI 14), .int p2, .int p3, .int p4] G (wv (gRead G.1 p2)) G 1 6 := kc14 l D cc (sg_read l hst D cc a G p2) (ex_read p2)
theorem kq15 (l : Launch) (hst : l.stackTraces = false) (D : va_G) (cc : Nat → ClassId) (a : Nat → Nat) (G : GS) (p2 p3 p4 : Int32) : gO l yL_call wsL_call (rmK 1 6) D cc a [.int (nI 15), .int p2, .int p3, .int p4] G (wv (gNearest G.1 p2)) G 1 6 := kc15 l D cc (sg_nearest l hst D cc a G p2) (ex_nearest p2)
theorem kq16 (l : Launch) (hst : l.stackTraces = false) (D : va_G) (cc : Nat → ClassId) (a : Nat → Nat) (G : GS) (p2 p3 p4 : Int32) : gO l yL_call wsL_call (rmK 1 6) D cc a [.int (nI 16), .int p2, .int p3, .int p4] G (wv (gBetween G.1 p2 p3)) G 1 6 := kc16 l D cc (sg_between l hst D cc a G p2 p3) (ex_between p2 p3)
theorem kq17 (l : Launch) (hst : l.stackTraces = false) (D : va_G) (cc : Nat → ClassId) (a : Nat → Nat) (G : GS) (p2 p3 p4 : Int32) : gO l yL_call wsL_call (rmK 11 1443) D cc a [.int (nI 17), .int p2, .int p3, .int p4] G (wv ((gSave G p2).1)) (gSave G p2).2 11 1443 := kc17 l D cc (sg_save l hst D cc a G p2) (ex_save p2)
theorem kq18 (l : Launch) (hst : l.stackTraces = false) (D : va_G) (cc : Nat → ClassId) (a : Nat → Nat) (G : GS) (p2 p3 p4 : Int32) : gO l yL_call wsL_call (rmK 1 6) D cc a [.int (nI 18), .int p2, .int p3, .int p4] G (wv ((gRestore G p2).1)) (gRestore G p2).2 1 6 := kc18 l D cc (sg_restore l hst D cc a G p2) (ex_restore p2)
theorem kqS (l : Launch) (hst : l.stackTraces = false) (D : va_G) (cc : Nat → ClassId) (a : Nat → Nat) (G : GS) (p1 : Int32) (p2 : Int64) : gO l yL_tryScript wsL_tryScript (rmT 1 6) D cc a [.int p1, .long p2] G (wv (gScript G.1 p1 p2)) G 1 6 := k_tryScript l D cc (sg_runScript l hst D cc a G p1 p2) (ex_unO _)
theorem kqM (l : Launch) (hst : l.stackTraces = false) (D : va_G) (cc : Nat → ClassId) (a : Nat → Nat) (G : GS) (p1 : Int64) (p3 : Int32) : gO l yL_trySimulate wsL_trySimulate (rmT 1 6) D cc a [.long p1, .int p3] G (wv (gSim G.1 p1 p3)) G 1 6 := k_trySimulate l D cc (sg_simulate l hst D cc a G p1 p3) (ex_unO _)
section ROWS
variable {p : Program} {l : Launch} {e : Env} {R : Room} {s : State} {m : MethodId} {args : Array Value} {below : List Frame} {meth : Method} {c : Code} {H : Heap} {locs : List Loc} {cells slots : Nat} {Q : State → Prop} {bc : ByteArray} {pc : Nat} {ls : Array Slot} {rest : List Value} {x y : Nat}
theorem gr_iadd (hx : p.tables.exec = Jvm.exec) (hb : c.code = bc) (hdg : decode bc pc = .ok (.iadd, 1)) (k : W p l e R s m args below meth c H locs cells slots Q (F0 m (pc + 1) ls (.int (nI (x + y)) :: rest))) : W p l e R s m args below meth c H locs cells slots Q (F0 m pc ls (.int (nI y) :: .int (nI x) :: rest)) := by
  refine lv_iadd hx hb hdg ?_
  rw [nI_add]; exact k
theorem gr_imul (hx : p.tables.exec = Jvm.exec) (hb : c.code = bc) (hdg : decode bc pc = .ok (.imul, 1)) (k : W p l e R s m args below meth c H locs cells slots Q (F0 m (pc + 1) ls (.int (nI (x * y)) :: rest))) : W p l e R s m args below meth c H locs cells slots Q (F0 m pc ls (.int (nI y) :: .int (nI x) :: rest)) := by
  refine lv_imul hx hb hdg ?_
  rw [pk_mul]; exact k
theorem gr_irem (hx : p.tables.exec = Jvm.exec) (hb : c.code = bc) (hdg : decode bc pc = .ok (.irem, 1)) (h1 : x < 2 ^ 31) (h2 : 0 < y) (h3 : y < 2 ^ 31) (k : W p l e R s m args below meth c H locs cells slots Q (F0 m (pc + 1) ls (.int (nI (x % y)) :: rest))) : W p l e R s m args below meth c H locs cells slots Q (F0 m pc ls (.int (nI y) :: .int (nI x) :: rest)) := by
  refine lv_irem hx hb hdg (nI_ne0 h2 h3) ?_
  rw [pk_rem h1 h2 h3]; exact k
theorem gr_idiv (hx : p.tables.exec = Jvm.exec) (hb : c.code = bc) (hdg : decode bc pc = .ok (.idiv, 1)) (h1 : x < 2 ^ 31) (h2 : 0 < y) (h3 : y < 2 ^ 31) (k : W p l e R s m args below meth c H locs cells slots Q (F0 m (pc + 1) ls (.int (nI (x / y)) :: rest))) : W p l e R s m args below meth c H locs cells slots Q (F0 m pc ls (.int (nI y) :: .int (nI x) :: rest)) := by
  refine lv_idiv hx hb hdg (nI_ne0 h2 h3) ?_
  rw [pk_div h1 h2 h3]; exact k
theorem gr_isub (hx : p.tables.exec = Jvm.exec) (hb : c.code = bc) (hdg : decode bc pc = .ok (.isub, 1)) (h1 : y ≤ x) (k : W p l e R s m args below meth c H locs cells slots Q (F0 m (pc + 1) ls (.int (nI (x - y)) :: rest))) : W p l e R s m args below meth c H locs cells slots Q (F0 m pc ls (.int (nI y) :: .int (nI x) :: rest)) := by
  refine lv_isub hx hb hdg ?_
  rw [pk_sub h1]; exact k
end ROWS
end XGQ
