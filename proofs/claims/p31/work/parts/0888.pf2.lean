/-! GHOST 14: closed forms for the law's 'holds' -/
section XPF2
theorem sg_at {r : RW} (h : rI r) {k : Nat} (hk : k < (sigM r 0 (r 77)).length) : wv (gSign r (nI k)) = nI ((sigM r 0 (r 77)).getD k 0) := by
  have h40 := h.hand.2
  unfold gSign gSgn
  rw [if_pos (nI_pos' (by omega)), if_neg (nI_pos (by omega)), if_neg (nI_ge hk (by omega)), nI_clamp (by omega)]; rfl
theorem sg_end {r : RW} (h : rI r) : wv (gSign r (nI (sigM r 0 (r 77)).length)) = -1 := by
  have h40 := h.hand.2
  unfold gSign gSgn
  rw [if_pos (nI_pos' (by omega)), if_neg (nI_pos (by omega)), if_pos (Int32.le_refl _)]; rfl
theorem rd0 (r : RW) : wv (gRead r (nI 0)) = nI (hhow r 0 99) := by
  unfold gRead
  rw [if_neg (show ¬ nI 0 < 0 by decide), if_pos (show nI 0 ≤ (3 : Int32) by decide), if_pos (show nI 0 = (0 : Int32) from rfl)]; rfl
theorem rd1 (r : RW) : wv (gRead r (nI 1)) = hname r 0 99 := by
  unfold gRead
  rw [if_neg (show ¬ nI 1 < 0 by decide), if_pos (show nI 1 ≤ (3 : Int32) by decide), if_neg (show ¬ nI 1 = (0 : Int32) by decide), if_pos (show nI 1 = (1 : Int32) from rfl)]; rfl
theorem rd2 (r : RW) : wv (gRead r (nI 2)) = byI (hnr r 0 99) := by
  unfold gRead
  rw [if_neg (show ¬ nI 2 < 0 by decide), if_pos (show nI 2 ≤ (3 : Int32) by decide), if_neg (show ¬ nI 2 = (0 : Int32) by decide), if_neg (show ¬ nI 2 = (1 : Int32) by decide), if_pos (show nI 2 = (2 : Int32) from rfl)]; rfl
theorem rd3 (r : RW) : wv (gRead r (nI 3)) = oneI (hnr r 0 99) := by
  unfold gRead
  rw [if_neg (show ¬ nI 3 < 0 by decide), if_pos (show nI 3 ≤ (3 : Int32) by decide), if_neg (show ¬ nI 3 = (0 : Int32) by decide), if_neg (show ¬ nI 3 = (1 : Int32) by decide), if_neg (show ¬ nI 3 = (2 : Int32) by decide)]; rfl
theorem ne0 {r : RW} (h : rI r) (h0 : 0 < r 110) : wv (gNearest r (nI 0)) = gRk r 0 := by
  have h16 := h.h16
  unfold gNearest
  rw [has_yes h0 (by omega), if_neg i10, nI_clamp (by omega)]; rfl
theorem se1 (r : RW) : wv (gSetting r (nI 1)) = nI (r 78) := by
  unfold gSetting
  rw [if_neg (show ¬ nI 1 < 0 by decide), if_pos (show nI 1 < (3 : Int32) by decide), nI_clamp (by omega)]; rfl
theorem sa0 {r : RW} (h16 : r 110 ≤ 16) {s : Nat} (hs : s < r 110) : wv (gSample r (nI s) (nI 0)) = nI (r (atM s + 76)) := by
  unfold gSample
  rw [has_yes hs (by omega), if_neg i10, if_pos (show nI 0 = (0 : Int32) from rfl), nI_clamp (by omega)]; rfl
theorem sa1 {r : RW} (h16 : r 110 ≤ 16) {s : Nat} (hs : s < r 110) : wv (gSample r (nI s) (nI 1)) = nI (r (atM s)) := by
  unfold gSample
  rw [has_yes hs (by omega), if_neg i10, if_neg (show ¬ nI 1 = (0 : Int32) by decide), if_pos (show nI 1 = (1 : Int32) from rfl), nI_clamp (by omega)]; rfl
theorem sa3 {r : RW} (h16 : r 110 ≤ 16) {s : Nat} (hs : s < r 110) : wv (gSample r (nI s) (nI 3)) = nI (sigM r (atM s) (r 77)).length := by
  unfold gSample
  rw [has_yes hs (by omega), if_neg i10, if_neg (show ¬ nI 3 = (0 : Int32) by decide), if_neg (show ¬ nI 3 = (1 : Int32) by decide), if_neg (show ¬ nI 3 = (2 : Int32) by decide), if_pos (show nI 3 = (3 : Int32) from rfl), nI_clamp (by omega)]; rfl
theorem be_in {r : RW} (h16 : r 110 ≤ 16) {s t : Nat} (hs : s < r 110) (ht : t < r 110) : wv (gBetween r (nI s) (nI t)) = nI (pdM r (r 77) s t) := by
  unfold gBetween
  rw [has_yes hs (by omega), if_neg i10, has_yes ht (by omega), if_neg i10, nI_clamp (by omega), nI_clamp (by omega)]; rfl
theorem pd_le {r : RW} (h : rI r) {s t : Nat} (hs : s < r 110) (ht : t < r 110) : pdM r (r 77) s t ≤ 240 := by
  have := dsM_le (sigM r (atM s) (r 77)) (sigM r (atM t) (r 77))
  have a1 := (h.smp hs).2
  have a2 := (h.smp ht).2
  unfold pdM
  omega
theorem pp0 (r : RW) {k : Nat} (hk : k < 10) : wv (gPractised r (nI k) (nI 0)) = nI (r (80 + k)) := by
  unfold gPractised
  rw [name_yes hk, if_neg i10, if_neg (show ¬ nI 0 < 0 by decide), if_pos (show nI 0 < (3 : Int32) by decide), nI_clamp (by omega), nI_clamp (by omega)]
  show nI (r (80 + 10 * 0 + k)) = _
  rw [show 80 + 10 * 0 + k = 80 + k by omega]
def suM (r : RW) : Nat := ouS r 0 10 + ouS r 1 10 + ouS r 2 10
theorem ab5s (r : RW) : wv (gAbout r (nI 5)) = nI (suM r) := by
  rw [ab5, nI_add, nI_add]; rfl
theorem gr_ineg {p : Program} {l : Launch} {e : Env} {R : Room} {s : State} {m : MethodId} {args : Array Value} {below : List Frame} {meth : Method} {c : Code} {H : Heap} {locs : List Loc} {cells slots : Nat} {Q : State → Prop} {bc : ByteArray} {pc : Nat} {ls : Array Slot} {rest : List Value} {x y : Nat} (hx : p.tables.exec = Jvm.exec) (hb : c.code = bc) (hdg : decode bc pc = .ok (.ineg, 1)) (h : x ≤ y) (k : W p l e R s m args below meth c H locs cells slots Q (F0 m (pc + 1) ls (.int (nI (y - x)) :: rest))) : W p l e R s m args below meth c H locs cells slots Q (F0 m pc ls (.int (nI x - nI y) :: rest)) := by
  refine lv_ineg hx hb hdg ?_
  rw [Int32.neg_sub, pk_sub h]; exact k
theorem sub_neg {x y : Nat} (h : x < y) (hy : y < 2 ^ 30) : ¬ 0 ≤ nI x - nI y := by
  rw [Int32.le_iff_toInt_le, pk_sub_toInt (by omega) hy, Int32.toInt_zero]; omega
/-- the states behind practising, learning, and behind taking either back -/
def pG (G : GS) (nm : Nat) : GS := (pracR G.1 nm (pracM G.1 nm), G.2.1, G.2.2.1, pushH G.1 G.2.2.2.1, G.2.2.2.2)
def lG (G : GS) (nm : Nat) : GS := (learnR G.1 nm, G.2.1, G.2.2.1, pushH G.1 G.2.2.2.1, G.2.2.2.2)
def uG (G : GS) : GS := (G.1, G.2.1, G.2.2.1, G.2.2.2.1.take 13, G.2.2.2.2)
theorem pr_ok {r : RW} {k : Nat} (hk : k < 10) (h0 : ¬ r 0 = 0) : gPractise r (nI k) = (.inl (nI (pracM r k)), some (pracR r k (pracM r k))) := by
  unfold gPractise
  rw [name_yes hk, if_neg i10, if_neg h0, nI_clamp (by omega)]
theorem pr_G {G : GS} {k : Nat} (hk : k < 10) (h0 : ¬ G.1 0 = 0) : nxt G (gPractise G.1 (nI k)).2 = pG G k := by
  rw [pr_ok hk h0]; rfl
theorem pr_v {G : GS} {k : Nat} (hk : k < 10) (h0 : ¬ G.1 0 = 0) : wv (gPractise G.1 (nI k)).1 = nI (pracM G.1 k) := by
  rw [pr_ok hk h0]; rfl
theorem le_ok {r : RW} {k : Nat} (hk : k < 10) (h0 : lrnOk r k) : gLearn r (nI k) = (.inl (nI (r 110)), some (learnR r k)) := by
  unfold gLearn
  rw [name_yes hk, if_neg i10, nI_clamp (by omega), cIf_pos h0]
theorem le_not {r : RW} {k : Nat} (hk : k < 10) (h0 : ¬ lrnOk r k) : gLearn r (nI k) = (.inr xIS, none) := by
  unfold gLearn
  rw [name_yes hk, if_neg i10, nI_clamp (by omega), cIf_neg h0]
theorem le_G {G : GS} {k : Nat} (hk : k < 10) (h0 : lrnOk G.1 k) : nxt G (gLearn G.1 (nI k)).2 = lG G k := by
  rw [le_ok hk h0]; rfl
theorem le_v {G : GS} {k : Nat} (hk : k < 10) (h0 : lrnOk G.1 k) : wv (gLearn G.1 (nI k)).1 = nI (G.1 110) := by
  rw [le_ok hk h0]; rfl
theorem ud_p (G : GS) (k : Nat) : wv (gUndo (pG G k)).1 = nI (G.2.2.2.1.take 13).length := rfl
theorem ud_pG (G : GS) (k : Nat) : (gUndo (pG G k)).2 = uG G := rfl
theorem ud_l (G : GS) (k : Nat) : wv (gUndo (lG G k)).1 = nI (G.2.2.2.1.take 13).length := rfl
theorem ud_lG (G : GS) (k : Nat) : (gUndo (lG G k)).2 = uG G := rfl
theorem take_lt (hs : List RW) : (hs.take 13).length < 2 ^ 31 := by
  rw [List.length_take]; omega
/-- what becomes of practising -/
theorem pm_1 {r : RW} {k : Nat} (h : ¬ hhow r 0 99 = 0) : pracM r k = 1 := by
  unfold pracM
  rw [if_neg h]
theorem pm_b {r : RW} {k : Nat} {q : Nat × Nat} (h : hhow r 0 99 = 0) (e : hnr r 0 99 = some q) : pracM r k = if r (atM q.1 + 76) = k then 0 else 2 := by
  unfold pracM
  rw [if_pos h, e]
/-- the row behind practising -/
theorem pR_110 {r : RW} {k : Nat} (hk : k < 10) : (pG ((r, 0, (fun _ => 0), [], (fun _ => none)) : GS) k).1 110 = r 110 := by
  have := pracM_le r k
  show pracR r k (pracM r k) 110 = r 110
  unfold pracR
  rw [if_neg (by omega), if_neg (by omega)]
theorem pR_n {G : GS} {k : Nat} (hk : k < 10) : (pG G k).1 110 = G.1 110 := by
  have := pracM_le G.1 k
  show pracR G.1 k (pracM G.1 k) 110 = G.1 110
  unfold pracR
  rw [if_neg (by omega), if_neg (by omega)]
theorem pR_sa {G : GS} {k : Nat} (hk : k < 10) (h16 : G.1 110 ≤ 16) {s : Nat} (hs : s < G.1 110) : wv (gSample (pG G k).1 (nI s) (nI 0)) = nI (G.1 (atM s + 76)) := by
  have e := pR_n (G := G) hk
  rw [sa0 (by rw [e]; exact h16) (by rw [e]; exact hs)]
  show nI (pracR G.1 k (pracM G.1 k) (atM s + 76)) = _
  rw [prac_sm (by omega) (pracM_le _ _)]
theorem pR_pp {G : GS} {k : Nat} (hk : k < 10) : wv (gPractised (pG G k).1 (nI k) (nI 0)) = nI (G.1 (80 + k) + if pracM G.1 k = 0 then 1 else 0) := by
  rw [pp0 _ hk]
  show nI (pracR G.1 k (pracM G.1 k) (80 + k)) = _
  unfold pracR
  rw [if_neg (by omega)]
  by_cases z : pracM G.1 k = 0
  · rw [if_pos (by omega), if_pos z]
  · rw [if_neg (by omega), if_neg z]; rfl
theorem ouS_pr {r : RW} {nm o q : Nat} (hn : nm < 10) (ho : o ≤ 2) (hq : q ≤ 2) : ∀ k, k ≤ 10 → ouS (pracR r nm o) q k = ouS r q k + if q = o ∧ nm < k then 1 else 0 := by
  intro k
  induction k with
  | zero => intro _; rw [if_neg (by omega)]; rfl
  | succ k ih =>
    intro hk
    show ouS (pracR r nm o) q k + pracR r nm o (80 + 10 * q + k) = ouS r q k + r (80 + 10 * q + k) + _
    rw [ih (by omega)]
    have e : pracR r nm o (80 + 10 * q + k) = if q = o ∧ nm = k then r (80 + 10 * q + k) + 1 else r (80 + 10 * q + k) := by
      unfold pracR
      rw [if_neg (by omega)]
      by_cases z : q = o ∧ nm = k
      · rw [if_pos z, if_pos (by omega)]
      · rw [if_neg z, if_neg (by omega)]
    rw [e]
    by_cases z : q = o ∧ nm = k
    · rw [if_pos z, if_neg (by omega), if_pos (by omega)]; omega
    · rw [if_neg z]
      by_cases z2 : q = o ∧ nm < k
      · rw [if_pos z2, if_pos (by omega)]; omega
      · rw [if_neg z2, if_neg (by omega)]; omega
theorem pR_su {G : GS} {k : Nat} (hk : k < 10) : wv (gAbout (pG G k).1 (nI 5)) = nI (suM G.1 + 1) := by
  rw [ab5s]
  have ho := pracM_le G.1 k
  show nI (suM (pracR G.1 k (pracM G.1 k))) = _
  unfold suM
  rw [ouS_pr hk ho (by omega) 10 (Nat.le_refl _), ouS_pr hk ho (by omega) 10 (Nat.le_refl _), ouS_pr hk ho (by omega) 10 (Nat.le_refl _)]
  refine congrArg nI ?_
  rcases (by omega : pracM G.1 k = 0 ∨ pracM G.1 k = 1 ∨ pracM G.1 k = 2) with z | z | z
  · rw [z, if_pos (by omega), if_neg (by omega), if_neg (by omega)]; omega
  · rw [z, if_neg (by omega), if_pos (by omega), if_neg (by omega)]; omega
  · rw [z, if_neg (by omega), if_neg (by omega), if_pos (by omega)]; omega
theorem pR_0 (G : GS) (k : Nat) : wv (gAbout (pG G k).1 (nI 0)) = nI 0 := by
  rw [ab0]; rfl
/-- the row behind learning -/
theorem lR_n {G : GS} {k : Nat} : (lG G k).1 110 = G.1 110 + 1 := by
  show learnR G.1 k 110 = _
  unfold learnR
  rw [if_neg (by omega), if_pos rfl]
theorem lR_77 {G : GS} {k : Nat} : (lG G k).1 77 = G.1 77 := by
  show learnR G.1 k 77 = _
  exact learn_lo G.1 k (by omega) (by omega) (Or.inl (by unfold atM; omega))
theorem lR_sig {G : GS} {k : Nat} (h : rI G.1) : sigM (lG G k).1 (atM (G.1 110)) ((lG G k).1 77) = sigM G.1 0 (G.1 77) := by
  rw [lR_77]
  have hf := h.hand.1
  exact sigM_eq (r := G.1) (f := 0) (r2 := learnR G.1 k) (f2 := atM (G.1 110)) (G.1 77) (figEq_of (fun j hj => by rw [learn_new G.1 k hj, Nat.zero_add]) hf.1.2.1) hf.1.1
theorem lR_old {G : GS} {k s : Nat} (h : rI G.1) (hs : s < G.1 110) : sigM (lG G k).1 (atM s) ((lG G k).1 77) = sigM G.1 (atM s) (G.1 77) := by
  rw [lR_77]
  have hf := (h.smp hs).1
  exact sigM_eq (r := G.1) (f := atM s) (r2 := learnR G.1 k) (f2 := atM s) (G.1 77) (figEq_of (fun j hj => learn_as hs k (by omega)) hf.1.2.1) hf.1.1
theorem lR_s0 {G : GS} {k : Nat} (h : rI G.1) (h0 : lrnOk G.1 k) : wv (gSample (lG G k).1 (nI (G.1 110)) (nI 0)) = nI k := by
  have h16 := h.h16
  have h15 := h0.2.1
  have e := lR_n (G := G) (k := k)
  rw [sa0 (by rw [e]; omega) (by rw [e]; omega)]
  exact congrArg nI (learn_nm G.1 k)
theorem lR_s3 {G : GS} {k : Nat} (h : rI G.1) (h0 : lrnOk G.1 k) : wv (gSample (lG G k).1 (nI (G.1 110)) (nI 3)) = nI (sigM G.1 0 (G.1 77)).length := by
  have h16 := h.h16
  have h15 := h0.2.1
  have e := lR_n (G := G) (k := k)
  rw [sa3 (by rw [e]; omega) (by rw [e]; omega), lR_sig h]
theorem lR_s1 {G : GS} {k : Nat} (h : rI G.1) (h0 : lrnOk G.1 k) : wv (gSample (lG G k).1 (nI (G.1 110)) (nI 1)) = nI (G.1 0) := by
  have h16 := h.h16
  have h15 := h0.2.1
  have e := lR_n (G := G) (k := k)
  rw [sa1 (by rw [e]; omega) (by rw [e]; omega)]
  refine congrArg nI ?_
  have := learn_new G.1 k (j := 0) (by omega)
  rw [Nat.add_zero] at this
  exact this
theorem lR_be {G : GS} {k b : Nat} (h : rI G.1) (h0 : lrnOk G.1 k) (hb : b < G.1 110) : wv (gBetween (lG G k).1 (nI (G.1 110)) (nI b)) = nI (dtM G.1 G.1 0 (G.1 77) b) := by
  have h16 := h.h16
  have h15 := h0.2.1
  have e := lR_n (G := G) (k := k)
  rw [be_in (by rw [e]; omega) (by rw [e]; omega) (by rw [e]; omega)]
  refine congrArg nI ?_
  unfold pdM dtM
  rw [lR_sig h, lR_old h hb]
end XPF2
