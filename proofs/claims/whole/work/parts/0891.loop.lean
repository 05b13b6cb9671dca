/-! LAW KIT 11: the law's loop -/
section XLOOP
theorem loop_in {k Ls : Nat} (hk : k ≤ 512) (hL : Ls ≤ 2048) (h : ¬ Int32.ofNat Ls - (4 : Int32) < nI (4 * k)) : 4 * k + 4 ≤ Ls := by
  by_cases q : 4 ≤ Ls
  · by_cases z : 4 * k + 4 ≤ Ls
    · exact z
    · refine absurd ?_ h
      rw [show Int32.ofNat Ls - (4 : Int32) = nI Ls - nI 4 from rfl, pk_sub q]
      exact nI_lt (by omega) (by omega)
  · refine absurd ?_ h
    exact Int32.lt_of_lt_of_le (pk_sneg (a := Ls) (b := 4) (by omega) (by omega)) (nI_pos' (by omega))
set_option maxHeartbeats 4000000 in
/-- THE LAW'S LOOP: at its head, with k calls made, class and model agree -/
theorem law_loop {p : Program} {l : Launch} {e : Env} {s : State} {m : MethodId} {below : List Frame} {meth : Method} {c : Code} {bS Ls : Nat} {xs : Nat → Int32} {D : va_G} {cc : Nat → ClassId} (hL : Ls ≤ 2048) (C0 : lw_At p s m meth c bS Ls xs) (hst : l.stackTraces = false) (F : lwF p s m c bS Ls xs D cc) {o : Nat} {a b : Nat → Nat} :
    ∀ (n k : Nat), Ls ≤ 4 * (k + n) → k ≤ 512 → ∀ (x : XV) (mv : MV) (L : List LE) (g : Nat → Int64) (H : Heap) (locs : List Loc) (ls : Array Slot), INV x mv L → va_P D vwCl (wL cc o g a b x mv ++ cp cc L) H → va_D (fun q : Nat => s.heap.size ≤ q) (wL cc o g a b x mv ++ cp cc L) → va_S (fun q : Nat => s.heap.size ≤ q) s.heap H locs → lv_has ls 7 (lwL bS o a b (nI (4 * k))) →
      W p l e room_1 s m #[Value.ref bS] below meth c H locs (43 + 11 * k) (29300 + 1443 * k) (lw_Z below #[Value.ref bS] s) (F0 m 23 ls []) := by
  obtain ⟨hx, hb, hr, hml, hown, hts, hX, hbl, hlocks, hgv⟩ := C0
  have hbA : ¬ (fun q : Nat => s.heap.size ≤ q) bS := Nat.not_le.mpr hbl
  intro n
  induction n with
  | zero =>
    intro k hk hk5 x mv L g H locs ls hI hP hD hS hl
    refine lv_iload hx hb dL_law_23 (lv_at hl 4 rfl) ?_
    refine lv_aload_n hx hb dL_law_25 rfl (lv_at hl 0 rfl) ?_
    refine va_slen hx hb hX hbl hbA hS dL_law_26 ?_
    refine lv_iconst (v := (4 : Int32)) hx hb dL_law_27 (by decide) ?_
    refine lv_isub hx hb dL_law_28 ?_
    refine lv_icmp_gt (tgt := 1573) hx hb dL_law_29 (by decide) (fun _ => ?_) (fun c9 => ?_)
    · refine lv_iconst (v := (1 : Int32)) hx hb dL_law_1573 (by decide) ?_
      refine va_forget (fun q hq => hS.2.2 q hq) ?_
      refine W.widen (k := 601024) (n := 7293034) (by omega) (by omega) ?_
      exact lw_ret hx hb hr hlocks dL_law_1574
    · have := loop_in hk5 hL c9
      omega
  | succ n ih =>
    intro k hk hk5 x mv L g H locs ls hI hP hD hS hl
    refine lv_iload hx hb dL_law_23 (lv_at hl 4 rfl) ?_
    refine lv_aload_n hx hb dL_law_25 rfl (lv_at hl 0 rfl) ?_
    refine va_slen hx hb hX hbl hbA hS dL_law_26 ?_
    refine lv_iconst (v := (4 : Int32)) hx hb dL_law_27 (by decide) ?_
    refine lv_isub hx hb dL_law_28 ?_
    refine lv_icmp_gt (tgt := 1573) hx hb dL_law_29 (by decide) (fun _ => ?_) (fun c9 => ?_)
    · refine lv_iconst (v := (1 : Int32)) hx hb dL_law_1573 (by decide) ?_
      refine va_forget (fun q hq => hS.2.2 q hq) ?_
      refine W.widen (k := 601024) (n := 7293034) (by omega) (by omega) ?_
      exact lw_ret hx hb hr hlocks dL_law_1574
    · have hin := loop_in hk5 hL c9
      have h0 : vp_in (nI (4 * k)) Ls := pk_in _ _ (by omega : 4 * k < Ls)
      have h1 : vp_in (nI (4 * k) + (1 : Int32)) Ls := by rw [nI_1]; exact pk_in _ _ (by omega : 4 * k + 1 < Ls)
      have h2 : vp_in (nI (4 * k) + (2 : Int32)) Ls := by rw [show (2 : Int32) = nI 2 from rfl, nI_add]; exact pk_in _ _ (by omega : 4 * k + 2 < Ls)
      have h3 : vp_in (nI (4 * k) + (3 : Int32)) Ls := by rw [show (3 : Int32) = nI 3 from rfl, nI_add]; exact pk_in _ _ (by omega : 4 * k + 3 < Ls)
      have hf : (43 + 11 * k) + 11 ≤ 601024 ∧ (29300 + 1443 * k) + 1443 ≤ 7293034 := ⟨by omega, by omega⟩
      have next : lNext p l e s m below meth c (43 + 11 * k) (29300 + 1443 * k) (lw_Z below #[Value.ref bS] s) bS D cc o a b (nI (4 * k)) := by
        intro g' x' m' L' H' locs' ls' hI' hP' hD' hS' hl'
        refine lv_iinc (v := nI (4 * (k + 1))) (lv' := [(4, .int (nI (4 * (k + 1)))), (0, .ref bS), (1, .ref (a 0)), (2, .ref (b 0)), (3, .ref o)]) hx hb dL_law_1567 hl' (k := 4) rfl (by rw [show Int32.ofInt 4 = nI 4 from rfl, nI_add, Nat.mul_succ]) (by decide) rfl (fun ls hl => ?_)
        refine lv_goto (tgt := 23) hx hb dL_law_1570 (by decide) ?_
        have := ih (k + 1) (by omega) (by omega) x' m' L' g' H' locs' ls hI' hP' hD' hS' (lv_sub hl [1, 2, 3, 4, 0] rfl)
        rw [show 43 + 11 * (k + 1) = 43 + 11 * k + 11 by omega, show 29300 + 1443 * (k + 1) = 29300 + 1443 * k + 1443 by omega] at this
        exact this
      refine lv_aload_n hx hb dL_law_32 rfl (lv_at hl 0 rfl) ?_
      refine lv_iload hx hb dL_law_33 (lv_at hl 4 rfl) ?_
      refine va_sld hx hb hX hbl hbA hS h0 dL_law_35 ?_
      refine lv_bipush (v := (31 : Int32)) hx hb dL_law_36 (by decide) ?_
      refine lv_iand hx hb dL_law_38 ?_
      obtain ⟨j, hj, ej⟩ : ∃ j, j < 32 ∧ (xs (nI (4 * k)).toNatClampNeg &&& (31 : Int32)) = nI j := ⟨_, Nat.mod_lt _ (by decide), pk_and (xs (nI (4 * k)).toNatClampNeg) 5 (by decide)⟩
      rw [ej]
      match j, hj with
      | 0, _ =>
        refine lv_tableIn (off := 125) (tgt := 164) hx hb dL_law_39 (by decide) (by decide) (by decide) (by decide) ?_
        exact lc_append F hst hI hP hD hS hl h1 h2 h3 hf next
      | 1, _ =>
        refine lv_tableIn (off := 181) (tgt := 220) hx hb dL_law_39 (by decide) (by decide) (by decide) (by decide) ?_
        exact lc_clearText F hst hI hP hD hS hl h1 h2 h3 hf next
      | 2, _ =>
        refine lv_tableIn (off := 194) (tgt := 233) hx hb dL_law_39 (by decide) (by decide) (by decide) (by decide) ?_
        exact lc_errorPosition F hst hI hP hD hS hl h1 h2 h3 hf next
      | 3, _ =>
        refine lv_tableIn (off := 207) (tgt := 246) hx hb dL_law_39 (by decide) (by decide) (by decide) (by decide) ?_
        exact lc_about F hst hI hP hD hS hl h1 h2 h3 hf next
      | 4, _ =>
        refine lv_tableIn (off := 263) (tgt := 302) hx hb dL_law_39 (by decide) (by decide) (by decide) (by decide) ?_
        exact lc_sign F hst hI hP hD hS hl h1 h2 h3 hf next
      | 5, _ =>
        refine lv_tableIn (off := 319) (tgt := 358) hx hb dL_law_39 (by decide) (by decide) (by decide) (by decide) ?_
        exact lc_sample F hst hI hP hD hS hl h1 h2 h3 hf next
      | 6, _ =>
        refine lv_tableIn (off := 387) (tgt := 426) hx hb dL_law_39 (by decide) (by decide) (by decide) (by decide) ?_
        exact lc_signOf F hst hI hP hD hS hl h1 h2 h3 hf next
      | 7, _ =>
        refine lv_tableIn (off := 455) (tgt := 494) hx hb dL_law_39 (by decide) (by decide) (by decide) (by decide) ?_
        exact lc_practised F hst hI hP hD hS hl h1 h2 h3 hf next
      | 8, _ =>
        refine lv_tableIn (off := 523) (tgt := 562) hx hb dL_law_39 (by decide) (by decide) (by decide) (by decide) ?_
        exact lc_setting F hst hI hP hD hS hl h1 h2 h3 hf next
      | 9, _ =>
        refine lv_tableIn (off := 579) (tgt := 618) hx hb dL_law_39 (by decide) (by decide) (by decide) (by decide) ?_
        exact lc_point F hst hI hP hD hS hl h1 h2 h3 hf next
      | 10, _ =>
        refine lv_tableIn (off := 647) (tgt := 686) hx hb dL_law_39 (by decide) (by decide) (by decide) (by decide) ?_
        exact lc_lift F hst hI hP hD hS hl h1 h2 h3 hf next
      | 11, _ =>
        refine lv_tableIn (off := 660) (tgt := 699) hx hb dL_law_39 (by decide) (by decide) (by decide) (by decide) ?_
        exact lc_draw F hst hI hP hD hS hl h1 h2 h3 hf next
      | 12, _ =>
        refine lv_tableIn (off := 704) (tgt := 743) hx hb dL_law_39 (by decide) (by decide) (by decide) (by decide) ?_
        exact lc_learn F hst hI hP hD hS hl h1 h2 h3 hf next
      | 13, _ =>
        refine lv_tableIn (off := 760) (tgt := 799) hx hb dL_law_39 (by decide) (by decide) (by decide) (by decide) ?_
        exact lc_forget F hst hI hP hD hS hl h1 h2 h3 hf next
      | 14, _ =>
        refine lv_tableIn (off := 816) (tgt := 855) hx hb dL_law_39 (by decide) (by decide) (by decide) (by decide) ?_
        exact lc_practise F hst hI hP hD hS hl h1 h2 h3 hf next
      | 15, _ =>
        refine lv_tableIn (off := 872) (tgt := 911) hx hb dL_law_39 (by decide) (by decide) (by decide) (by decide) ?_
        exact lc_set F hst hI hP hD hS hl h1 h2 h3 hf next
      | 16, _ =>
        refine lv_tableIn (off := 940) (tgt := 979) hx hb dL_law_39 (by decide) (by decide) (by decide) (by decide) ?_
        exact lc_undo F hst hI hP hD hS hl h1 h2 h3 hf next
      | 17, _ =>
        refine lv_tableIn (off := 984) (tgt := 1023) hx hb dL_law_39 (by decide) (by decide) (by decide) (by decide) ?_
        exact lc_read F hst hI hP hD hS hl h1 h2 h3 hf next
      | 18, _ =>
        refine lv_tableIn (off := 1040) (tgt := 1079) hx hb dL_law_39 (by decide) (by decide) (by decide) (by decide) ?_
        exact lc_nearest F hst hI hP hD hS hl h1 h2 h3 hf next
      | 19, _ =>
        refine lv_tableIn (off := 1096) (tgt := 1135) hx hb dL_law_39 (by decide) (by decide) (by decide) (by decide) ?_
        exact lc_between F hst hI hP hD hS hl h1 h2 h3 hf next
      | 20, _ =>
        refine lv_tableIn (off := 1164) (tgt := 1203) hx hb dL_law_39 (by decide) (by decide) (by decide) (by decide) ?_
        exact lc_closest F hst hI hP hD hS hl h1 h2 h3 hf next
      | 21, _ =>
        refine lv_tableIn (off := 1177) (tgt := 1216) hx hb dL_law_39 (by decide) (by decide) (by decide) (by decide) ?_
        exact lc_byOthers F hst hI hP hD hS hl h1 h2 h3 hf next
      | 22, _ =>
        refine lv_tableIn (off := 1190) (tgt := 1229) hx hb dL_law_39 (by decide) (by decide) (by decide) (by decide) ?_
        exact lc_bestRuling F hst hI hP hD hS hl h1 h2 h3 hf next
      | 23, _ =>
        refine lv_tableIn (off := 1203) (tgt := 1242) hx hb dL_law_39 (by decide) (by decide) (by decide) (by decide) ?_
        exact lc_mirrored F hst hI hP hD hS hl h1 h2 h3 hf next
      | 24, _ =>
        refine lv_tableIn (off := 1216) (tgt := 1255) hx hb dL_law_39 (by decide) (by decide) (by decide) (by decide) ?_
        exact lc_runScript F hst hI hP hD hS hl h1 h2 h3 hf next
      | 25, _ =>
        refine lv_tableIn (off := 1316) (tgt := 1355) hx hb dL_law_39 (by decide) (by decide) (by decide) (by decide) ?_
        exact lc_simulate F hst hI hP hD hS hl h1 h2 h3 hf next
      | 26, _ =>
        refine lv_tableIn (off := 1416) (tgt := 1455) hx hb dL_law_39 (by decide) (by decide) (by decide) (by decide) ?_
        exact lc_save F hst hI hP hD hS hl h1 h2 h3 hf next
      | 27, _ =>
        refine lv_tableIn (off := 1472) (tgt := 1511) hx hb dL_law_39 (by decide) (by decide) (by decide) (by decide) ?_
        exact lc_restore F hst hI hP hD hS hl h1 h2 h3 hf next
      | 28, _ =>
        refine lv_tableOut (tgt := 1567) hx hb dL_law_39 (Or.inr (by decide)) (by decide) ?_
        refine W.widen (k := 43 + 11 * k + 11) (n := 29300 + 1443 * k + 1443) (by omega) (by omega) ?_
        exact next g x mv L H locs ls hI hP hD hS hl
      | 29, _ =>
        refine lv_tableOut (tgt := 1567) hx hb dL_law_39 (Or.inr (by decide)) (by decide) ?_
        refine W.widen (k := 43 + 11 * k + 11) (n := 29300 + 1443 * k + 1443) (by omega) (by omega) ?_
        exact next g x mv L H locs ls hI hP hD hS hl
      | 30, _ =>
        refine lv_tableOut (tgt := 1567) hx hb dL_law_39 (Or.inr (by decide)) (by decide) ?_
        refine W.widen (k := 43 + 11 * k + 11) (n := 29300 + 1443 * k + 1443) (by omega) (by omega) ?_
        exact next g x mv L H locs ls hI hP hD hS hl
      | 31, _ =>
        refine lv_tableOut (tgt := 1567) hx hb dL_law_39 (Or.inr (by decide)) (by decide) ?_
        refine W.widen (k := 43 + 11 * k + 11) (n := 29300 + 1443 * k + 1443) (by omega) (by omega) ?_
        exact next g x mv L H locs ls hI hP hD hS hl
      | j + 32, h9 => exact absurd h9 (by omega)
end XLOOP
