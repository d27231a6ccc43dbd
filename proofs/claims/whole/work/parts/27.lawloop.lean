/-! THE LAW's LOOP over the script, five ints to a call -/
theorem lw_end {l : Launch} {p : Program} {e : Env} {s : State} {m : MethodId} {b : Nat} {below : List Frame} {meth : Method} {c : Code} {H : Heap} {locs : List Loc} {cells slots : Nat} {ls : Array Slot} (G : gF p s m #[Value.ref b] meth c cL_law ret 7 RL wsL_law) (hS : va_S (gA s) s.heap H locs) (hc : cells ≤ 1069) (hs : slots ≤ 9070) : W p l e room_1 s m #[Value.ref b] below meth c H locs cells slots (lw_Z below #[Value.ref b] s) (F0 m 1527 ls []) := by
  refine lv_iconst (v := 1) G.1 G.2.1 dL_law_1527 (by decide) ?_
  refine W.widen hc hs ?_
  refine va_forget (fun z hz => hS.2.2 z hz) ?_
  exact lw_ret G.1 G.2.1 G.2.2.1 G.2.2.2.2.2.2 dL_law_1528
theorem gl_short {L a : Nat} (h5 : ¬ 5 ≤ L) (ha : a = 0) : nI L - nI 5 < nI a := by
  subst ha
  have h : L = 0 ∨ L = 1 ∨ L = 2 ∨ L = 3 ∨ L = 4 := by omega
  rcases h with rfl | rfl | rfl | rfl | rfl <;> decide
set_option maxRecDepth 100000 in
set_option maxHeartbeats 2000000 in
theorem lw_loop (l : Launch) (hst : l.stackTraces = false) {p : Program} {e : Env} {s : State} {m : MethodId} {b : Nat} {below : List Frame} {meth : Method} {c : Code} {L : Nat} {xs : Nat → Int32} {D : va_G} {q q2 : Nat → Nat} {cI cZ cL : ClassId} {o : Nat} (G : gF p s m #[Value.ref b] meth c cL_law ret 7 RL wsL_law) (hx : va_X b L xs s s.heap) (hb : b < s.heap.size) (hL : L ≤ 2560) :
    ∀ (n j : Nat) (N : Nat → Nat) (S : Nat → Nat → Nat) (tr fv : Nat → Nat) (th : Nat) (g : Nat → Int64) (H : Heap) (locs : List Loc) (ls : Array Slot), L ≤ 5 * j + n → 5 * j ≤ L → sp_ok N S → sp_inv N S → lAt D q q2 cI cZ cL o N S tr N S fv th g s H → va_S (gA s) s.heap H locs → lv_has ls 7 [(4, .int (nI (5 * j))), (0, .ref b), (1, .ref (q 0)), (2, .ref (q2 0)), (3, .ref o)] →
      W p l e room_1 s m #[Value.ref b] below meth c H locs (27 + j) (770 + 6 * j) (lw_Z below #[Value.ref b] s) (F0 m 23 ls []) := by
  intro n
  induction n with
  | zero =>
    intro j N S tr fv th g H locs ls hn hj hok hinv hX hS hl
    refine lv_iload G.1 G.2.1 dL_law_23 (lv_at hl 0 rfl) ?_
    refine lv_aload_n G.1 G.2.1 dL_law_25 rfl (lv_at hl 1 rfl) ?_
    refine va_slen G.1 G.2.1 hx hb (Nat.not_le.mpr hb) hS dL_law_26 ?_
    refine lv_iconst (v := nI 5) G.1 G.2.1 dL_law_27 (by decide) ?_
    by_cases h5 : 5 ≤ L
    · refine gn_isub G (a := L) dL_law_28 h5 ?_
      refine gn_gt G (by omega) (by omega) (tgt := 1527) dL_law_29 (by decide) (fun _ => lw_end G hS (by omega) (by omega)) (fun h => absurd h (by omega))
    · refine lv_isub (x := nI L) G.1 G.2.1 dL_law_28 ?_
      refine lv_icmp_gt G.1 G.2.1 (tgt := 1527) dL_law_29 (by decide) (fun _ => lw_end G hS (by omega) (by omega)) (fun h => absurd (gl_short h5 (by omega)) h)
  | succ n ih =>
    intro j N S tr fv th g H locs ls hn hj hok hinv hX hS hl
    refine lv_iload G.1 G.2.1 dL_law_23 (lv_at hl 0 rfl) ?_
    refine lv_aload_n G.1 G.2.1 dL_law_25 rfl (lv_at hl 1 rfl) ?_
    refine va_slen G.1 G.2.1 hx hb (Nat.not_le.mpr hb) hS dL_law_26 ?_
    refine lv_iconst (v := nI 5) G.1 G.2.1 dL_law_27 (by decide) ?_
    by_cases h5 : 5 ≤ L
    · refine gn_isub G (a := L) dL_law_28 h5 ?_
      refine gn_gt G (by omega) (by omega) (tgt := 1527) dL_law_29 (by decide) (fun _ => lw_end G hS (by omega) (by omega)) (fun h => ?_)
      have hj5 : 5 * j + 5 ≤ L := by omega
      have kk : lK p l e s m b below meth c (lw_Z below #[Value.ref b] s) D q q2 cI cZ cL o j (27 + j + 1) (770 + 6 * j + 6) := fun N S tr fv th g H locs ls hok hinv hX hS hl => by
        refine gn_iinc (n := 5) (k := 0) (lv' := [(4, .int (nI (5 * j + 5))), (0, .ref b), (1, .ref (q 0)), (2, .ref (q2 0)), (3, .ref o)]) G dL_law_1521 hl rfl (by decide) rfl (fun ls hl => ?_)
        refine lv_goto (tgt := 23) G.1 G.2.1 dL_law_1524 (by decide) ?_
        exact ih (j + 1) N S tr fv th g H locs ls (by omega) (by omega) hok hinv hX hS hl
      refine lv_aload_n G.1 G.2.1 dL_law_32 rfl (lv_at hl 1 rfl) ?_
      refine lv_iload G.1 G.2.1 dL_law_33 (lv_at hl 0 rfl) ?_
      refine va_sld G.1 G.2.1 hx hb (Nat.not_le.mpr hb) hS (vp_in_nI (show 5 * j < L by omega) (by omega)) dL_law_35 ?_
      refine lv_bipush (v := nI 31) G.1 G.2.1 dL_law_36 (by decide) ?_
      refine lv_iand G.1 G.2.1 dL_law_38 ?_
      obtain ⟨t, ht, et⟩ := pk_andE (xs (nI (5 * j)).toNatClampNeg) (m := nI 31) 5 (by decide)
      rw [et]
      have hc1 : 27 + j + 1 ≤ 1069 := by omega
      have hs1 : 770 + 6 * j + 6 ≤ 9070 := by omega
      by_cases h21 : t < 21
      · match t, h21 with
        | 0, _ => exact lv_tableIn (x := nI 0) (tgt := 136) G.1 G.2.1 dL_law_39 (by decide) (by decide) (off := 97) (by decide) (by decide) (lc_profile l hst G hx hb hL hj5 hok hinv hX hS hl hc1 hs1 kk)
        | 1, _ => exact lv_tableIn (x := nI 1) (tgt := 180) G.1 G.2.1 dL_law_39 (by decide) (by decide) (off := 141) (by decide) (by decide) (lc_bend l hst G hx hb hL hj5 hok hinv hX hS hl hc1 hs1 kk)
        | 2, _ => exact lv_tableIn (x := nI 2) (tgt := 272) G.1 G.2.1 dL_law_39 (by decide) (by decide) (off := 233) (by decide) (by decide) (lc_reach l hst G hx hb hL hj5 hok hinv hX hS hl hc1 hs1 kk)
        | 3, _ => exact lv_tableIn (x := nI 3) (tgt := 364) G.1 G.2.1 dL_law_39 (by decide) (by decide) (off := 325) (by decide) (by decide) (lc_way l hst G hx hb hL hj5 hok hinv hX hS hl hc1 hs1 kk)
        | 4, _ => exact lv_tableIn (x := nI 4) (tgt := 432) G.1 G.2.1 dL_law_39 (by decide) (by decide) (off := 393) (by decide) (by decide) (lc_curve l hst G hx hb hL hj5 hok hinv hX hS hl hc1 hs1 kk)
        | 5, _ => exact lv_tableIn (x := nI 5) (tgt := 512) G.1 G.2.1 dL_law_39 (by decide) (by decide) (off := 473) (by decide) (by decide) (lc_taken l hst G hx hb hL hj5 hok hinv hX hS hl hc1 hs1 kk)
        | 6, _ => exact lv_tableIn (x := nI 6) (tgt := 592) G.1 G.2.1 dL_law_39 (by decide) (by decide) (off := 553) (by decide) (by decide) (lc_chain l hst G hx hb hL hj5 hok hinv hX hS hl hc1 hs1 kk)
        | 7, _ => exact lv_tableIn (x := nI 7) (tgt := 636) G.1 G.2.1 dL_law_39 (by decide) (by decide) (off := 597) (by decide) (by decide) (lc_add l hst G hx hb hL hj5 hok hinv hX hS hl hc1 hs1 kk)
        | 8, _ => exact lv_tableIn (x := nI 8) (tgt := 704) G.1 G.2.1 dL_law_39 (by decide) (by decide) (off := 665) (by decide) (by decide) (lc_drop l hst G hx hb hL hj5 hok hinv hX hS hl hc1 hs1 kk)
        | 9, _ => exact lv_tableIn (x := nI 9) (tgt := 760) G.1 G.2.1 dL_law_39 (by decide) (by decide) (off := 721) (by decide) (by decide) (lc_through l hst G hx hb hL hj5 hok hinv hX hS hl hc1 hs1 kk)
        | 10, _ => exact lv_tableIn (x := nI 10) (tgt := 840) G.1 G.2.1 dL_law_39 (by decide) (by decide) (off := 801) (by decide) (by decide) (lc_gap l hst G hx hb hL hj5 hok hinv hX hS hl hc1 hs1 kk)
        | 11, _ => exact lv_tableIn (x := nI 11) (tgt := 896) G.1 G.2.1 dL_law_39 (by decide) (by decide) (off := 857) (by decide) (by decide) (lc_greyGap l hst G hx hb hL hj5 hok hinv hX hS hl hc1 hs1 kk)
        | 12, _ => exact lv_tableIn (x := nI 12) (tgt := 952) G.1 G.2.1 dL_law_39 (by decide) (by decide) (off := 913) (by decide) (by decide) (lc_join l hst G hx hb hL hj5 hok hinv hX hS hl hc1 hs1 kk)
        | 13, _ => exact lv_tableIn (x := nI 13) (tgt := 1020) G.1 G.2.1 dL_law_39 (by decide) (by decide) (off := 981) (by decide) (by decide) (lc_joined l hst G hx hb hL hj5 hok hinv hX hS hl hc1 hs1 kk)
        | 14, _ => exact lv_tableIn (x := nI 14) (tgt := 1100) G.1 G.2.1 dL_law_39 (by decide) (by decide) (off := 1061) (by decide) (by decide) (lc_stale l hst G hx hb hL hj5 hok hinv hX hS hl hc1 hs1 kk)
        | 15, _ => exact lv_tableIn (x := nI 15) (tgt := 1113) G.1 G.2.1 dL_law_39 (by decide) (by decide) (off := 1074) (by decide) (by decide) (lc_sign l hst G hx hb hL hj5 hok hinv hX hS hl hc1 hs1 kk)
        | 16, _ => exact lv_tableIn (x := nI 16) (tgt := 1176) G.1 G.2.1 dL_law_39 (by decide) (by decide) (off := 1137) (by decide) (by decide) (lc_held l hst G hx hb hL hj5 hok hinv hX hS hl hc1 hs1 kk)
        | 17, _ => exact lv_tableIn (x := nI 17) (tgt := 1189) G.1 G.2.1 dL_law_39 (by decide) (by decide) (off := 1150) (by decide) (by decide) (lc_paint l hst G hx hb hL hj5 hok hinv hX hS hl hc1 hs1 kk)
        | 18, _ => exact lv_tableIn (x := nI 18) (tgt := 1269) G.1 G.2.1 dL_law_39 (by decide) (by decide) (off := 1230) (by decide) (by decide) (lc_spot l hst G hx hb hL hj5 hok hinv hX hS hl hc1 hs1 kk)
        | 19, _ => exact lv_tableIn (x := nI 19) (tgt := 1349) G.1 G.2.1 dL_law_39 (by decide) (by decide) (off := 1310) (by decide) (by decide) (lc_mix l hst G hx hb hL hj5 hok hinv hX hS hl hc1 hs1 kk)
        | 20, _ => exact lv_tableIn (x := nI 20) (tgt := 1429) G.1 G.2.1 dL_law_39 (by decide) (by decide) (off := 1390) (by decide) (by decide) (lc_shown l hst G hx hb hL hj5 hok hinv hX hS hl hc1 hs1 kk)
        | t + 21, h => exact absurd h (by omega)
      · refine lv_tableOut (tgt := 1521) G.1 G.2.1 dL_law_39 (Or.inr (by rw [nI_toInt (by omega)]; omega)) (by decide) ?_
        exact W.widen (Nat.le_add_right _ _) (Nat.le_add_right _ _) (kk N S tr fv th g H locs ls hok hinv hX hS hl)
    · refine lv_isub (x := nI L) G.1 G.2.1 dL_law_28 ?_
      refine lv_icmp_gt G.1 G.2.1 (tgt := 1527) dL_law_29 (by decide) (fun _ => lw_end G hS (by omega) (by omega)) (fun h => absurd (gl_short h5 (by omega)) h)
