/-! THE LAW's LOOP: seventy-five choices, each with its questions -/
set_option maxRecDepth 100000 in
set_option maxHeartbeats 4000000 in
theorem lw_loop (l : Launch) (hst : l.stackTraces = false) {p : Program} {e : Env} {s : State} {m : MethodId} {b : Nat} {below : List Frame} {meth : Method} {c : Code} {H : Heap} {locs : List Loc} {Q : State → Prop} {L : Nat} {xs : Nat → Int32} {D : va_G} {q a : Nat → Nat} {cI : ClassId} {N : Nat → Nat} {S : Nat → Nat → Nat} {tr : Nat → Nat} {A : Nat → Prop} {ls : Array Slot} (G : gF p s m #[Value.ref b] meth c cL_law ret 14 RL wsL_law) (hx : va_X b L xs s s.heap) (hb : b < s.heap.size) (hbA : ¬ A b) (hL : L ≤ 260) (hA : ∀ z : Nat, s.heap.size ≤ z → A z) (hZ0 : gZ A s s.heap) (hli : li N S) (hm0 : N 0 = 0) (hm5 : N 5 = 0) (hZ : zAt D q a cI N S tr N S A s H) (hS : va_S A s.heap H locs) (hl : lv_has ls 14 [(8, .int (nI 0)), (0, .ref b), (1, .ref (q 0)), (2, .ref (a 0)), (3, .ref (a 1)), (4, .ref (a 2)), (5, .ref (a 3)), (6, .ref (a 4)), (7, .ref (a 5))]) (kk : ∀ (H : Heap) (locs : List Loc) (ls : Array Slot), va_S A s.heap H locs → W p l e room_1 s m #[Value.ref b] below meth c H locs (18 + 70 * 75) (520 + 420 * 75) Q (F0 m 401 ls [])) : W p l e room_1 s m #[Value.ref b] below meth c H locs 18 520 Q (F0 m 45 ls []) := by
  refine gj_loopW (fun i H locs ls => ∃ (N : Nat → Nat) (S : Nat → Nat → Nat) (tr : Nat → Nat), li N S ∧ N 0 = min i 3 ∧ N 5 = min (i - 3) 2 ∧ zAt D q a cI N S tr N S A s H ∧ va_S A s.heap H locs ∧ lv_has ls 14 [(8, .int (nI i)), (0, .ref b), (1, .ref (q 0)), (2, .ref (a 0)), (3, .ref (a 1)), (4, .ref (a 2)), (5, .ref (a 3)), (6, .ref (a 4)), (7, .ref (a 5))]) (fun i => 18 + 70 * i) (fun i => 520 + 420 * i) 75 ⟨N, S, tr, hli, by omega, by omega, hZ, hS, hl⟩ (show 18 ≤ 18 + 70 * 0 by omega) (show 520 ≤ 520 + 420 * 0 by omega) (fun i H locs ls hi hI kk2 => ?_) (fun H locs ls hI => ?_)
  · obtain ⟨N, S, tr, hli, hm0, hm5, hZ, hS, hl⟩ := hI
    have hli9 := hli
    obtain ⟨hok, hinv, hN0, hN5, h6⟩ := hli9
    have hok9 := hok
    obtain ⟨⟨ok0, ok5⟩, ok1, ok2, ok3, ok4, ok6, ok7, ok8, ok12, ok13, ok14⟩ := hok9
    refine lv_iload G.1 G.2.1 dL_law_45 (lv_at hl 0 rfl) ?_
    refine lv_bipush (v := nI 75) G.1 G.2.1 dL_law_47 (by decide) ?_
    refine gn_ge G (by omega) (by omega) (tgt := 401) dL_law_49 (by decide) (fun h => absurd h (by omega)) (fun h_49 => ?_)
    refine lv_aload_n G.1 G.2.1 dL_law_52 rfl (lv_at hl 1 rfl) ?_
    refine lv_iload G.1 G.2.1 dL_law_53 (lv_at hl 0 rfl) ?_
    refine lv_bipush (v := nI 71) G.1 G.2.1 dL_law_55 (by decide) ?_
    refine gn_irem G dL_law_57 (by omega) (by omega) (by omega) ?_
    refine gc_s (As := [.ref b, .int (nI (i % 71))]) (rest := []) G.fix (mL_cell l b L xs (i % 71) (by omega) hL) (va_cwS 2 G.2.2.2.2.2.1 gL_law_L_cell rfl rfl rfl (by decide +kernel) ⟨Nat.le_of_ble_eq_true rfl, Nat.le_of_ble_eq_true rfl⟩) cB_blind (fun U hU hW => ⟨by rw [hU]; exact (hx.kept (hS.2.1 b hb hbA)).moved hW.alike, by rw [hU]; exact Nat.lt_of_lt_of_le hb hS.1⟩) rfl hl.1 rfl (Nat.le_of_ble_eq_true rfl) dL_law_58 (show 18 + 70 * i ≤ 953113 by omega) (show 520 + 420 * i ≤ 6242284 by omega) (fun y1 _ => ?_)
    refine lv_iload G.1 G.2.1 dL_law_61 (lv_at hl 0 rfl) ?_
    refine lv_ldc (own := RL) (v := 11184811) G.1 G.2.1 G.2.2.2.2.1 (G.2.2.2.2.2.1 (.constant RL 142 (11184811)) (by decide +kernel)) dL_law_63 ?_
    refine lv_imul G.1 G.2.1 dL_law_65 ?_
    refine lv_topi (fun y2 hy2 => ?_)
    refine lv_ixor G.1 G.2.1 dL_law_66 ?_
    refine lv_topi (fun y3 hy3 => ?_)
    refine lv_istore (lv' := [(9, .int y3), (8, .int (nI i)), (0, .ref b), (1, .ref (q 0)), (2, .ref (a 0)), (3, .ref (a 1)), (4, .ref (a 2)), (5, .ref (a 3)), (6, .ref (a 4)), (7, .ref (a 5))]) G.1 G.2.1 dL_law_67 hl (by decide) rfl (fun ls hl => ?_)
    refine lv_iload G.1 G.2.1 dL_law_69 (lv_at hl 0 rfl) ?_
    refine lv_iconst (v := nI 4) G.1 G.2.1 dL_law_71 (by decide) ?_
    refine lv_ishr G.1 G.2.1 dL_law_72 ?_
    refine lv_topi (fun y4 hy4 => ?_)
    refine lv_istore (lv' := [(10, .int y4), (9, .int y3), (8, .int (nI i)), (0, .ref b), (1, .ref (q 0)), (2, .ref (a 0)), (3, .ref (a 1)), (4, .ref (a 2)), (5, .ref (a 3)), (6, .ref (a 4)), (7, .ref (a 5))]) G.1 G.2.1 dL_law_73 hl (by decide) rfl (fun ls hl => ?_)
    refine lv_iload G.1 G.2.1 dL_law_75 (lv_at hl 1 rfl) ?_
    refine lv_bipush (v := nI 24) G.1 G.2.1 dL_law_77 (by decide) ?_
    refine gc_s (As := [.int y3, .int (nI 24)]) (rest := []) G.fix (mL_some l y3 24 (by omega) (by omega)) (va_cwS 2 G.2.2.2.2.2.1 gL_law_L_some rfl rfl rfl (by decide +kernel) ⟨Nat.le_of_ble_eq_true rfl, Nat.le_of_ble_eq_true rfl⟩) gc_blindT (fun _ _ _ => trivial) rfl hl.1 rfl (Nat.le_of_ble_eq_true rfl) dL_law_79 (show 18 + 70 * i ≤ 953113 by omega) (show 520 + 420 * i ≤ 6242284 by omega) (fun r hr => ?_)
    obtain ⟨k5, hk5, rfl⟩ := hr
    refine lv_istore (lv' := [(11, .int (nI k5)), (10, .int y4), (9, .int y3), (8, .int (nI i)), (0, .ref b), (1, .ref (q 0)), (2, .ref (a 0)), (3, .ref (a 1)), (4, .ref (a 2)), (5, .ref (a 3)), (6, .ref (a 4)), (7, .ref (a 5))]) G.1 G.2.1 dL_law_82 hl (by decide) rfl (fun ls hl => ?_)
    refine gj_t (fun H locs ls => ∃ (N : Nat → Nat) (S : Nat → Nat → Nat) (tr : Nat → Nat), li N S ∧ N 0 = min (i + 1) 3 ∧ N 5 = min (i + 1 - 3) 2 ∧ zAt D q a cI N S tr N S A s H ∧ va_S A s.heap H locs ∧ lv_has ls 14 [(12, .int (nI 1)), (10, .int y4), (8, .int (nI i)), (0, .ref b), (1, .ref (q 0)), (2, .ref (a 0)), (3, .ref (a 1)), (4, .ref (a 2)), (5, .ref (a 3)), (6, .ref (a 4)), (7, .ref (a 5))]) 367 [] (18 + 70 * i + 2) (520 + 420 * i + 11) (fun H locs ls hI => ?_) (fun K367 => ?_)
    · obtain ⟨N7, S7, tr7, hli7, e0, e5, hZ, hS, hl⟩ := hI
      refine lv_iload G.1 G.2.1 dL_law_367 (lv_at hl 0 rfl) ?_
      refine gn_eqz G (by omega) (tgt := 393) dL_law_369 (by decide) (fun h => absurd h (by omega)) (fun h_369 => ?_)
      refine lv_aload_n G.1 G.2.1 dL_law_372 rfl (lv_at hl 4 rfl) ?_
      refine lv_iload G.1 G.2.1 dL_law_373 (lv_at hl 1 rfl) ?_
      refine lv_iload G.1 G.2.1 dL_law_375 (lv_at hl 2 rfl) ?_
      refine lv_aload_n G.1 G.2.1 dL_law_377 rfl (lv_at hl 5 rfl) ?_
      refine lv_aload_n G.1 G.2.1 dL_law_378 rfl (lv_at hl 6 rfl) ?_
      refine lv_aload G.1 G.2.1 dL_law_379 (lv_at hl 7 rfl) ?_
      refine lv_aload G.1 G.2.1 dL_law_381 (lv_at hl 8 rfl) ?_
      refine lv_aload G.1 G.2.1 dL_law_383 (lv_at hl 9 rfl) ?_
      refine lv_aload G.1 G.2.1 dL_law_385 (lv_at hl 10 rfl) ?_
      refine gz_mut (As := [.ref (q 0), .int y4, .int (nI i), .ref (a 0), .ref (a 1), .ref (a 2), .ref (a 3), .ref (a 4), .ref (a 5)]) (rest := []) (mc := 64) (ms := 400) G.fix (mL_asks l hst D q a cI N7 S7 tr7 A hli7 y4 i (by omega)) (va_cwS 9 G.2.2.2.2.2.1 gL_law_L_asks rfl rfl rfl (by decide +kernel) ⟨Nat.le_of_ble_eq_true rfl, Nat.le_of_ble_eq_true rfl⟩) hZ hA hS rfl hl.1 rfl (Nat.le_of_ble_eq_true rfl) dL_law_387 (show 18 + 70 * i + 2 + 64 ≤ 953113 by omega) (show 520 + 420 * i + 11 + 400 ≤ 6242284 by omega) (fun r N8 S8 tr8 H locs hp hZ hS => ?_)
      obtain ⟨rfl, e8, f8⟩ := hp
      rw [e8, f8] at hZ
      refine gn_nez G (by omega) (tgt := 395) dL_law_390 (by decide) (fun h_390 => ?_) (fun h => absurd h (by omega))
      refine gn_iinc (lv' := [(8, .int (nI (i + 1))), (12, .int (nI 1)), (10, .int y4), (0, .ref b), (1, .ref (q 0)), (2, .ref (a 0)), (3, .ref (a 1)), (4, .ref (a 2)), (5, .ref (a 3)), (6, .ref (a 4)), (7, .ref (a 5))]) (n := 1) G dL_law_395 hl (k := 2) rfl (by decide) rfl (fun ls hl => ?_)
      refine lv_goto (tgt := 45) G.1 G.2.1 dL_law_398 (by decide) ?_
      refine W.widen (k := 18 + 70 * ((i + 1))) (n := 520 + 420 * ((i + 1))) (show 18 + 70 * i + 2 + 64 ≤ 18 + 70 * ((i + 1)) by omega) (show 520 + 420 * i + 11 + 400 ≤ 520 + 420 * ((i + 1)) by omega) ?_
      exact kk2 _ _ _ ⟨N7, S7, tr8, hli7, e0, e5, hZ, hS, lv_sub hl [0, 3, 4, 5, 6, 7, 8, 9, 10] rfl⟩
    · by_cases hi3 : i < 3
      · obtain rfl : i = N 0 := by omega
        refine lv_iload G.1 G.2.1 dL_law_84 (lv_at hl 3 rfl) ?_
        refine lv_iconst (v := nI 3) G.1 G.2.1 dL_law_86 (by decide) ?_
        refine gn_ge G (by omega) (by omega) (tgt := 180) dL_law_87 (by decide) (fun h => absurd h (by omega)) (fun h_87 => ?_)
        refine lv_iconst (v := nI 0) G.1 G.2.1 dL_law_90 (by decide) ?_
        refine lv_istore (lv' := [(13, .int (nI 0)), (11, .int (nI k5)), (10, .int y4), (9, .int y3), (8, .int (nI (N 0))), (0, .ref b), (1, .ref (q 0)), (2, .ref (a 0)), (3, .ref (a 1)), (4, .ref (a 2)), (5, .ref (a 3)), (6, .ref (a 4)), (7, .ref (a 5))]) G.1 G.2.1 dL_law_91 hl (by decide) rfl (fun ls hl => ?_)
        refine gj_loopW (fun j H locs ls => zAt D q a cI N S tr N (gs S 1 (sp_fill (S 1) (N 0 * 15) j)) A s H ∧ va_S A s.heap H locs ∧ lv_has ls 14 [(13, .int (nI j)), (11, .int (nI k5)), (10, .int y4), (9, .int y3), (8, .int (nI (N 0))), (0, .ref b), (1, .ref (q 0)), (2, .ref (a 0)), (3, .ref (a 1)), (4, .ref (a 2)), (5, .ref (a 3)), (6, .ref (a 4)), (7, .ref (a 5))]) (fun _ => 18 + 70 * (N 0)) (fun _ => 520 + 420 * (N 0)) 15 ⟨zAt.cast lp_0 hZ, hS, lv_sub hl [0, 1, 2, 3, 4, 5, 6, 7, 8, 9, 10, 11, 12] rfl⟩ (Nat.le_refl _) (Nat.le_refl _) (fun j H locs ls hj93 hI kk93 => ?_) (fun H locs ls hI => ?_)
        · obtain ⟨hZ, hS, hl⟩ := hI
          refine lv_iload G.1 G.2.1 dL_law_93 (lv_at hl 0 rfl) ?_
          refine lv_bipush (v := nI 15) G.1 G.2.1 dL_law_95 (by decide) ?_
          refine gn_ge G (by omega) (by omega) (tgt := 123) dL_law_97 (by decide) (fun h => absurd h (by omega)) (fun h_97 => ?_)
          refine lv_aload_n G.1 G.2.1 dL_law_100 rfl (lv_at hl 8 rfl) ?_
          refine lv_bipush (v := nI 15) G.1 G.2.1 dL_law_101 (by decide) ?_
          refine lv_iload G.1 G.2.1 dL_law_103 (lv_at hl 4 rfl) ?_
          refine gn_imul G dL_law_105 ?_
          refine lv_iload G.1 G.2.1 dL_law_106 (lv_at hl 0 rfl) ?_
          refine gn_iadd G dL_law_108 ?_
          refine lv_iload G.1 G.2.1 dL_law_109 (lv_at hl 0 rfl) ?_
          refine lv_iconst (v := nI 5) G.1 G.2.1 dL_law_111 (by decide) ?_
          refine gn_irem G dL_law_112 (by omega) (by omega) (by omega) ?_
          refine gc_s (As := [.int (nI (j % 5))]) (rest := [.int (nI ((15 * (N 0)) + j)), .ref (a 1)]) G.fix (mL_at l (j % 5) (by omega)) (va_cwS 1 G.2.2.2.2.2.1 gL_law_L_at rfl rfl rfl (by decide +kernel) ⟨Nat.le_of_ble_eq_true rfl, Nat.le_of_ble_eq_true rfl⟩) gc_blindT (fun _ _ _ => trivial) rfl hl.1 rfl (Nat.le_of_ble_eq_true rfl) dL_law_113 (show 18 + 70 * (N 0) ≤ 953113 by omega) (show 520 + 420 * (N 0) ≤ 6242284 by omega) (fun r hr => ?_)
          subst hr
          have hv_113 := sp_vop_le (k := j % 5)
          refine gz_ast (k := 1) (len := 45) (F := ((gs S 1 (sp_fill (S 1) (N 0 * 15) j))) 1) (i := (15 * (N 0)) + j) (v := sp_vop (j % 5)) (N3 := N) (S3 := (gs S 1 (sp_fill (S 1) (N 0 * 15) ((j + 1))))) G hZ0 hZ hS rfl (by rw [show (15 * (N 0)) + j = N 0 * 15 + j from by omega]; exact lp_b) (by omega) (by decide) dL_law_116 (fun H locs hZ hS => ?_)
          refine gn_iinc (lv' := [(13, .int (nI (j + 1))), (11, .int (nI k5)), (10, .int y4), (9, .int y3), (8, .int (nI (N 0))), (0, .ref b), (1, .ref (q 0)), (2, .ref (a 0)), (3, .ref (a 1)), (4, .ref (a 2)), (5, .ref (a 3)), (6, .ref (a 4)), (7, .ref (a 5))]) (n := 1) G dL_law_117 hl (k := 0) rfl (by decide) rfl (fun ls hl => ?_)
          refine lv_goto (tgt := 93) G.1 G.2.1 dL_law_120 (by decide) ?_
          exact kk93 _ _ _ ⟨hZ, hS, lv_sub hl [0, 1, 2, 3, 4, 5, 6, 7, 8, 9, 10, 11, 12] rfl⟩
        · obtain ⟨hZ, hS, hl⟩ := hI
          refine lv_iload G.1 G.2.1 dL_law_93 (lv_at hl 0 rfl) ?_
          refine lv_bipush (v := nI 15) G.1 G.2.1 dL_law_95 (by decide) ?_
          refine gn_ge G (by omega) (by omega) (tgt := 123) dL_law_97 (by decide) (fun h_97 => ?_) (fun h => absurd h (by omega))
          refine lv_iconst (v := nI 0) G.1 G.2.1 dL_law_123 (by decide) ?_
          refine lv_istore (lv' := [(13, .int (nI 0)), (11, .int (nI k5)), (10, .int y4), (9, .int y3), (8, .int (nI (N 0))), (0, .ref b), (1, .ref (q 0)), (2, .ref (a 0)), (3, .ref (a 1)), (4, .ref (a 2)), (5, .ref (a 3)), (6, .ref (a 4)), (7, .ref (a 5))]) G.1 G.2.1 dL_law_124 hl (by decide) rfl (fun ls hl => ?_)
          refine gj_loopW (fun j H locs ls => zAt D q a cI N S tr N (gs (gs S 1 (sp_fill (S 1) (N 0 * 15) 15)) 3 (sp_fill2 (S 3) (N 0 * 3) j)) A s H ∧ va_S A s.heap H locs ∧ lv_has ls 14 [(13, .int (nI j)), (11, .int (nI k5)), (10, .int y4), (9, .int y3), (8, .int (nI (N 0))), (0, .ref b), (1, .ref (q 0)), (2, .ref (a 0)), (3, .ref (a 1)), (4, .ref (a 2)), (5, .ref (a 3)), (6, .ref (a 4)), (7, .ref (a 5))]) (fun _ => 18 + 70 * (N 0)) (fun _ => 520 + 420 * (N 0)) 3 ⟨zAt.cast lp_1 hZ, hS, lv_sub hl [0, 1, 2, 3, 4, 5, 6, 7, 8, 9, 10, 11, 12] rfl⟩ (Nat.le_refl _) (Nat.le_refl _) (fun j H locs ls hj126 hI kk126 => ?_) (fun H locs ls hI => ?_)
          · obtain ⟨hZ, hS, hl⟩ := hI
            refine lv_iload G.1 G.2.1 dL_law_126 (lv_at hl 0 rfl) ?_
            refine lv_iconst (v := nI 3) G.1 G.2.1 dL_law_128 (by decide) ?_
            refine gn_ge G (by omega) (by omega) (tgt := 154) dL_law_129 (by decide) (fun h => absurd h (by omega)) (fun h_129 => ?_)
            refine lv_aload G.1 G.2.1 dL_law_132 (lv_at hl 9 rfl) ?_
            refine lv_bipush (v := nI 9) G.1 G.2.1 dL_law_134 (by decide) ?_
            refine lv_iconst (v := nI 3) G.1 G.2.1 dL_law_136 (by decide) ?_
            refine lv_iload G.1 G.2.1 dL_law_137 (lv_at hl 4 rfl) ?_
            refine gn_imul G dL_law_139 ?_
            refine gn_iadd G dL_law_140 ?_
            refine lv_iload G.1 G.2.1 dL_law_141 (lv_at hl 0 rfl) ?_
            refine gn_iadd G dL_law_143 ?_
            refine lv_sipush (v := nI 255) G.1 G.2.1 dL_law_144 (by decide) ?_
            refine gz_ast (k := 2) (len := 18) (F := fR ((gs (gs S 1 (sp_fill (S 1) (N 0 * 15) 15)) 3 (sp_fill2 (S 3) (N 0 * 3) j)))) (i := (9 + (3 * (N 0))) + j) (v := 255) (N3 := N) (S3 := (gs (gs S 1 (sp_fill (S 1) (N 0 * 15) 15)) 3 (sp_fill2 (S 3) (N 0 * 3) ((j + 1))))) G hZ0 hZ hS rfl (lp_r) (by omega) (by decide) dL_law_147 (fun H locs hZ hS => ?_)
            refine gn_iinc (lv' := [(13, .int (nI (j + 1))), (11, .int (nI k5)), (10, .int y4), (9, .int y3), (8, .int (nI (N 0))), (0, .ref b), (1, .ref (q 0)), (2, .ref (a 0)), (3, .ref (a 1)), (4, .ref (a 2)), (5, .ref (a 3)), (6, .ref (a 4)), (7, .ref (a 5))]) (n := 1) G dL_law_148 hl (k := 0) rfl (by decide) rfl (fun ls hl => ?_)
            refine lv_goto (tgt := 126) G.1 G.2.1 dL_law_151 (by decide) ?_
            exact kk126 _ _ _ ⟨hZ, hS, lv_sub hl [0, 1, 2, 3, 4, 5, 6, 7, 8, 9, 10, 11, 12] rfl⟩
          · obtain ⟨hZ, hS, hl⟩ := hI
            refine lv_iload G.1 G.2.1 dL_law_126 (lv_at hl 0 rfl) ?_
            refine lv_iconst (v := nI 3) G.1 G.2.1 dL_law_128 (by decide) ?_
            refine gn_ge G (by omega) (by omega) (tgt := 154) dL_law_129 (by decide) (fun h_129 => ?_) (fun h => absurd h (by omega))
            refine lv_aload_n G.1 G.2.1 dL_law_154 rfl (lv_at hl 7 rfl) ?_
            refine lv_iconst (v := nI 0) G.1 G.2.1 dL_law_155 (by decide) ?_
            refine lv_dup2_11 G.1 G.2.1 dL_law_156 rfl rfl ?_
            refine gl_ald (k := 0) (len := 11) (F := fC N ((gs (gs S 1 (sp_fill (S 1) (N 0 * 15) 15)) 3 (sp_fill2 (S 3) (N 0 * 3) 3)))) G hZ.r rfl (by omega) (by decide) dL_law_157 ?_
            rw [fC_0]
            refine lv_iconst (v := nI 1) G.1 G.2.1 dL_law_158 (by decide) ?_
            refine gn_iadd G dL_law_159 ?_
            refine gz_ast (k := 0) (len := 11) (F := fC N ((gs (gs S 1 (sp_fill (S 1) (N 0 * 15) 15)) 3 (sp_fill2 (S 3) (N 0 * 3) 3)))) (i := 0) (v := (N 0) + 1) (N3 := (gu N 0 (N 0 + 1))) (S3 := (gs (gs S 1 (sp_fill (S 1) (N 0 * 15) 15)) 3 (sp_fill2 (S 3) (N 0 * 3) 3))) G hZ0 hZ hS rfl (ls_c0) (by omega) (by decide) dL_law_160 (fun H locs hZ hS => ?_)
            refine lv_aload_n G.1 G.2.1 dL_law_161 rfl (lv_at hl 6 rfl) ?_
            refine gz_vx (rest := []) (vx_runV (As := []) (rest := []) G.fix (mX0_profile l hst D q cI N S tr (va_A (xw q cI N S tr) H.size) hok hinv) (cwV 0 G.2.2.2.2.2.1 gL_law_X0_profile rfl rfl rfl (by decide +kernel) ⟨Nat.le_of_ble_eq_true rfl, Nat.le_of_ble_eq_true rfl⟩) ⟨xAt_blind, va_recv hZ.x.2.1 hZ.x.1 (ci := 0) (q0 := 0) rfl rfl, fun U hU hW => ⟨rfl, by show xAt _ _ _ _ _ _ _ U U.heap; rw [hU]; exact (hZ.x9 hA hS.1).moved hW⟩⟩ rfl rfl hl.1 rfl (lv_room (Nat.le_of_ble_eq_true rfl)) dL_law_162 ⟨show 18 + 70 * (N 0) + 1 ≤ 953113 by omega, show 520 + 420 * (N 0) + 6 ≤ 6242284 by omega⟩) (gE3_no rfl rfl (decide_eq_true (show N 0 < 8 by omega))) hZ hA hS (fun r Nx Sx tr9 H locs hp hZ hS => ?_)
            obtain ⟨-, -, -, rfl, eN, eS⟩ := hp
            rw [eN, eS] at hZ
            have hZ : zAt D q a cI (sN_profile N S) (sS_profile N S) tr9 (sN_profile N S) (sS_profile N S) A s H := hZ
            rw [show sR_profile N S = N 0 from rfl]
            refine lv_iload G.1 G.2.1 dL_law_165 (lv_at hl 4 rfl) ?_
            refine gn_ne G (by omega) (by omega) (tgt := 174) dL_law_167 (by decide) (fun h => absurd rfl h) (fun h_167 => ?_)
            refine lv_iconst (v := nI 1) G.1 G.2.1 dL_law_170 (by decide) ?_
            refine lv_goto (tgt := 175) G.1 G.2.1 dL_law_171 (by decide) ?_
            refine lv_istore (lv' := [(12, .int (nI 1)), (13, .int (nI 3)), (11, .int (nI k5)), (10, .int y4), (9, .int y3), (8, .int (nI (N 0))), (0, .ref b), (1, .ref (q 0)), (2, .ref (a 0)), (3, .ref (a 1)), (4, .ref (a 2)), (5, .ref (a 3)), (6, .ref (a 4)), (7, .ref (a 5))]) G.1 G.2.1 dL_law_175 hl (by decide) rfl (fun ls hl => ?_)
            refine lv_goto (tgt := 367) G.1 G.2.1 dL_law_177 (by decide) ?_
            refine W.widen (k := 18 + 70 * (N 0) + 2) (n := 520 + 420 * (N 0) + 11) (show 18 + 70 * (N 0) + 1 ≤ 18 + 70 * (N 0) + 2 by omega) (show 520 + 420 * (N 0) + 6 ≤ 520 + 420 * (N 0) + 11 by omega) ?_
            exact K367 _ _ _ ⟨sN_profile N S, sS_profile N S, tr9, li_profile hli (by omega), by show N 0 + 1 = _; omega, by show N 5 = _; omega, hZ, hS, lv_sub hl [0, 3, 5, 6, 7, 8, 9, 10, 11, 12, 13] rfl⟩
      · by_cases hi5 : i < 5
        · obtain rfl : i = N 5 + 3 := by omega
          refine lv_iload G.1 G.2.1 dL_law_84 (lv_at hl 3 rfl) ?_
          refine lv_iconst (v := nI 3) G.1 G.2.1 dL_law_86 (by decide) ?_
          refine gn_ge G (by omega) (by omega) (tgt := 180) dL_law_87 (by decide) (fun h_87 => ?_) (fun h => absurd h (by omega))
          refine lv_iload G.1 G.2.1 dL_law_180 (lv_at hl 3 rfl) ?_
          refine lv_iconst (v := nI 5) G.1 G.2.1 dL_law_182 (by decide) ?_
          refine gn_ge G (by omega) (by omega) (tgt := 214) dL_law_183 (by decide) (fun h => absurd h (by omega)) (fun h_183 => ?_)
          refine lv_aload_n G.1 G.2.1 dL_law_186 rfl (lv_at hl 6 rfl) ?_
          refine lv_iconst (v := nI 1) G.1 G.2.1 dL_law_187 (by decide) ?_
          refine lv_dup2_11 G.1 G.2.1 dL_law_188 rfl rfl ?_
          refine gl_ald (k := 0) (len := 11) (F := fC N S) G hZ.r rfl (by omega) (by decide) dL_law_189 ?_
          rw [fC_1]
          refine lv_iconst (v := nI 1) G.1 G.2.1 dL_law_190 (by decide) ?_
          refine gn_iadd G dL_law_191 ?_
          refine gz_ast (k := 0) (len := 11) (F := fC N S) (i := 1) (v := (N 5) + 1) (N3 := (gu N 5 (N 5 + 1))) (S3 := S) G hZ0 hZ hS rfl (ls_c1) (by omega) (by decide) dL_law_192 (fun H locs hZ hS => ?_)
          refine lv_aload_n G.1 G.2.1 dL_law_193 rfl (lv_at hl 5 rfl) ?_
          refine gz_vx (rest := []) (vx_runV (As := []) (rest := []) G.fix (mX0_chain l hst D q cI N S tr (va_A (xw q cI N S tr) H.size) hok hinv) (cwV 0 G.2.2.2.2.2.1 gL_law_X0_chain rfl rfl rfl (by decide +kernel) ⟨Nat.le_of_ble_eq_true rfl, Nat.le_of_ble_eq_true rfl⟩) ⟨xAt_blind, va_recv hZ.x.2.1 hZ.x.1 (ci := 0) (q0 := 0) rfl rfl, fun U hU hW => ⟨rfl, by show xAt _ _ _ _ _ _ _ U U.heap; rw [hU]; exact (hZ.x9 hA hS.1).moved hW⟩⟩ rfl rfl hl.1 rfl (lv_room (Nat.le_of_ble_eq_true rfl)) dL_law_194 ⟨show 18 + 70 * (N 5 + 3) + 1 ≤ 953113 by omega, show 520 + 420 * (N 5 + 3) + 6 ≤ 6242284 by omega⟩) (gE3_no rfl rfl (decide_eq_true (show N 5 < 6 by omega))) hZ hA hS (fun r Nx Sx tr9 H locs hp hZ hS => ?_)
          obtain ⟨-, -, -, rfl, eN, eS⟩ := hp
          rw [eN, eS] at hZ
          have hZ : zAt D q a cI (sN_chain N S) (sS_chain N S) tr9 (sN_chain N S) (sS_chain N S) A s H := hZ
          rw [show sR_chain N S = N 5 from rfl]
          refine lv_iload G.1 G.2.1 dL_law_197 (lv_at hl 3 rfl) ?_
          refine lv_iconst (v := nI 3) G.1 G.2.1 dL_law_199 (by decide) ?_
          refine gn_isub G dL_law_200 (by omega) ?_
          rw [show N 5 + 3 - 3 = N 5 from by omega]
          refine gn_ne G (by omega) (by omega) (tgt := 208) dL_law_201 (by decide) (fun h => absurd rfl h) (fun h_201 => ?_)
          refine lv_iconst (v := nI 1) G.1 G.2.1 dL_law_204 (by decide) ?_
          refine lv_goto (tgt := 209) G.1 G.2.1 dL_law_205 (by decide) ?_
          refine lv_istore (lv' := [(12, .int (nI 1)), (11, .int (nI k5)), (10, .int y4), (9, .int y3), (8, .int (nI (N 5 + 3))), (0, .ref b), (1, .ref (q 0)), (2, .ref (a 0)), (3, .ref (a 1)), (4, .ref (a 2)), (5, .ref (a 3)), (6, .ref (a 4)), (7, .ref (a 5))]) G.1 G.2.1 dL_law_209 hl (by decide) rfl (fun ls hl => ?_)
          refine lv_goto (tgt := 367) G.1 G.2.1 dL_law_211 (by decide) ?_
          refine W.widen (k := 18 + 70 * (N 5 + 3) + 2) (n := 520 + 420 * (N 5 + 3) + 11) (show 18 + 70 * (N 5 + 3) + 1 ≤ 18 + 70 * (N 5 + 3) + 2 by omega) (show 520 + 420 * (N 5 + 3) + 6 ≤ 520 + 420 * (N 5 + 3) + 11 by omega) ?_
          exact K367 _ _ _ ⟨sN_chain N S, sS_chain N S, tr9, li_chain hli (by omega), by show N 0 = _; omega, by show N 5 + 1 = _; omega, hZ, hS, lv_sub hl [0, 2, 4, 5, 6, 7, 8, 9, 10, 11, 12] rfl⟩
        · refine lv_iload G.1 G.2.1 dL_law_84 (lv_at hl 3 rfl) ?_
          refine lv_iconst (v := nI 3) G.1 G.2.1 dL_law_86 (by decide) ?_
          refine gn_ge G (by omega) (by omega) (tgt := 180) dL_law_87 (by decide) (fun h_87 => ?_) (fun h => absurd h (by omega))
          refine lv_iload G.1 G.2.1 dL_law_180 (lv_at hl 3 rfl) ?_
          refine lv_iconst (v := nI 5) G.1 G.2.1 dL_law_182 (by decide) ?_
          refine gn_ge G (by omega) (by omega) (tgt := 214) dL_law_183 (by decide) (fun h_183 => ?_) (fun h => absurd h (by omega))
          refine lv_iload G.1 G.2.1 dL_law_214 (lv_at hl 3 rfl) ?_
          refine lv_bipush (v := nI 11) G.1 G.2.1 dL_law_216 (by decide) ?_
          refine gn_lt G (by omega) (by omega) (tgt := 228) dL_law_218 (by decide) (fun h_218 => ?_) (fun h_218 => ?_)
          · refine lv_aload_n G.1 G.2.1 dL_law_228 rfl (lv_at hl 5 rfl) ?_
            refine lv_iload G.1 G.2.1 dL_law_229 (lv_at hl 0 rfl) ?_
            refine lv_iconst (v := nI 5) G.1 G.2.1 dL_law_231 (by decide) ?_
            refine gn_ge G (by omega) (by omega) (tgt := 239) dL_law_232 (by decide) (fun h_232 => ?_) (fun h_232 => ?_)
            · refine lv_iload G.1 G.2.1 dL_law_239 (lv_at hl 0 rfl) ?_
              refine lv_bipush (v := nI 8) G.1 G.2.1 dL_law_241 (by decide) ?_
              refine gn_ge G (by omega) (by omega) (tgt := 250) dL_law_243 (by decide) (fun h_243 => ?_) (fun h_243 => ?_)
              · refine lv_iconst (v := nI 2) G.1 G.2.1 dL_law_250 (by decide) ?_
                refine lv_iload G.1 G.2.1 dL_law_251 (lv_at hl 1 rfl) ?_
                refine lv_aload_n G.1 G.2.1 dL_law_253 rfl (lv_at hl 6 rfl) ?_
                refine lv_aload_n G.1 G.2.1 dL_law_254 rfl (lv_at hl 7 rfl) ?_
                refine lv_aload G.1 G.2.1 dL_law_255 (lv_at hl 8 rfl) ?_
                refine lv_aload G.1 G.2.1 dL_law_257 (lv_at hl 9 rfl) ?_
                refine gz_mut (As := [.ref (q 0), .int (nI 2), .int y4, .ref (a 0), .ref (a 1), .ref (a 2), .ref (a 3)]) (rest := []) (mc := 1) (ms := 6) G.fix (mL_profiles_2 l hst D q a cI N S tr A hli y4) (va_cwS 7 G.2.2.2.2.2.1 gL_law_L_profiles rfl rfl rfl (by decide +kernel) ⟨Nat.le_of_ble_eq_true rfl, Nat.le_of_ble_eq_true rfl⟩) hZ hA hS rfl hl.1 rfl (Nat.le_of_ble_eq_true rfl) dL_law_259 (show 18 + 70 * i + 1 ≤ 953113 by omega) (show 520 + 420 * i + 6 ≤ 6242284 by omega) (fun r N9 S9 tr9 H locs hp hZ hS => ?_)
                obtain ⟨rfl, hli9, e0, e5⟩ := hp
                refine lv_istore (lv' := [(12, .int (nI 1)), (11, .int (nI k5)), (10, .int y4), (9, .int y3), (8, .int (nI i)), (0, .ref b), (1, .ref (q 0)), (2, .ref (a 0)), (3, .ref (a 1)), (4, .ref (a 2)), (5, .ref (a 3)), (6, .ref (a 4)), (7, .ref (a 5))]) G.1 G.2.1 dL_law_262 hl (by decide) rfl (fun ls hl => ?_)
                refine lv_goto (tgt := 367) G.1 G.2.1 dL_law_264 (by decide) ?_
                refine W.widen (k := 18 + 70 * i + 2) (n := 520 + 420 * i + 11) (show 18 + 70 * i + 1 ≤ 18 + 70 * i + 2 by omega) (show 520 + 420 * i + 6 ≤ 520 + 420 * i + 11 by omega) ?_
                exact K367 _ _ _ ⟨N9, S9, tr9, hli9, by omega, by omega, hZ, hS, lv_sub hl [0, 2, 4, 5, 6, 7, 8, 9, 10, 11, 12] rfl⟩
              · refine lv_iconst (v := nI 1) G.1 G.2.1 dL_law_246 (by decide) ?_
                refine lv_goto (tgt := 251) G.1 G.2.1 dL_law_247 (by decide) ?_
                refine lv_iload G.1 G.2.1 dL_law_251 (lv_at hl 1 rfl) ?_
                refine lv_aload_n G.1 G.2.1 dL_law_253 rfl (lv_at hl 6 rfl) ?_
                refine lv_aload_n G.1 G.2.1 dL_law_254 rfl (lv_at hl 7 rfl) ?_
                refine lv_aload G.1 G.2.1 dL_law_255 (lv_at hl 8 rfl) ?_
                refine lv_aload G.1 G.2.1 dL_law_257 (lv_at hl 9 rfl) ?_
                refine gz_mut (As := [.ref (q 0), .int (nI 1), .int y4, .ref (a 0), .ref (a 1), .ref (a 2), .ref (a 3)]) (rest := []) (mc := 1) (ms := 6) G.fix (mL_profiles_1 l hst D q a cI N S tr A hli y4) (va_cwS 7 G.2.2.2.2.2.1 gL_law_L_profiles rfl rfl rfl (by decide +kernel) ⟨Nat.le_of_ble_eq_true rfl, Nat.le_of_ble_eq_true rfl⟩) hZ hA hS rfl hl.1 rfl (Nat.le_of_ble_eq_true rfl) dL_law_259 (show 18 + 70 * i + 1 ≤ 953113 by omega) (show 520 + 420 * i + 6 ≤ 6242284 by omega) (fun r N9 S9 tr9 H locs hp hZ hS => ?_)
                obtain ⟨rfl, hli9, e0, e5⟩ := hp
                refine lv_istore (lv' := [(12, .int (nI 1)), (11, .int (nI k5)), (10, .int y4), (9, .int y3), (8, .int (nI i)), (0, .ref b), (1, .ref (q 0)), (2, .ref (a 0)), (3, .ref (a 1)), (4, .ref (a 2)), (5, .ref (a 3)), (6, .ref (a 4)), (7, .ref (a 5))]) G.1 G.2.1 dL_law_262 hl (by decide) rfl (fun ls hl => ?_)
                refine lv_goto (tgt := 367) G.1 G.2.1 dL_law_264 (by decide) ?_
                refine W.widen (k := 18 + 70 * i + 2) (n := 520 + 420 * i + 11) (show 18 + 70 * i + 1 ≤ 18 + 70 * i + 2 by omega) (show 520 + 420 * i + 6 ≤ 520 + 420 * i + 11 by omega) ?_
                exact K367 _ _ _ ⟨N9, S9, tr9, hli9, by omega, by omega, hZ, hS, lv_sub hl [0, 2, 4, 5, 6, 7, 8, 9, 10, 11, 12] rfl⟩
            · refine lv_iconst (v := nI 0) G.1 G.2.1 dL_law_235 (by decide) ?_
              refine lv_goto (tgt := 251) G.1 G.2.1 dL_law_236 (by decide) ?_
              refine lv_iload G.1 G.2.1 dL_law_251 (lv_at hl 1 rfl) ?_
              refine lv_aload_n G.1 G.2.1 dL_law_253 rfl (lv_at hl 6 rfl) ?_
              refine lv_aload_n G.1 G.2.1 dL_law_254 rfl (lv_at hl 7 rfl) ?_
              refine lv_aload G.1 G.2.1 dL_law_255 (lv_at hl 8 rfl) ?_
              refine lv_aload G.1 G.2.1 dL_law_257 (lv_at hl 9 rfl) ?_
              refine gz_mut (As := [.ref (q 0), .int (nI 0), .int y4, .ref (a 0), .ref (a 1), .ref (a 2), .ref (a 3)]) (rest := []) (mc := 1) (ms := 6) G.fix (mL_profiles_0 l hst D q a cI N S tr A hli y4) (va_cwS 7 G.2.2.2.2.2.1 gL_law_L_profiles rfl rfl rfl (by decide +kernel) ⟨Nat.le_of_ble_eq_true rfl, Nat.le_of_ble_eq_true rfl⟩) hZ hA hS rfl hl.1 rfl (Nat.le_of_ble_eq_true rfl) dL_law_259 (show 18 + 70 * i + 1 ≤ 953113 by omega) (show 520 + 420 * i + 6 ≤ 6242284 by omega) (fun r N9 S9 tr9 H locs hp hZ hS => ?_)
              obtain ⟨rfl, hli9, e0, e5⟩ := hp
              refine lv_istore (lv' := [(12, .int (nI 1)), (11, .int (nI k5)), (10, .int y4), (9, .int y3), (8, .int (nI i)), (0, .ref b), (1, .ref (q 0)), (2, .ref (a 0)), (3, .ref (a 1)), (4, .ref (a 2)), (5, .ref (a 3)), (6, .ref (a 4)), (7, .ref (a 5))]) G.1 G.2.1 dL_law_262 hl (by decide) rfl (fun ls hl => ?_)
              refine lv_goto (tgt := 367) G.1 G.2.1 dL_law_264 (by decide) ?_
              refine W.widen (k := 18 + 70 * i + 2) (n := 520 + 420 * i + 11) (show 18 + 70 * i + 1 ≤ 18 + 70 * i + 2 by omega) (show 520 + 420 * i + 6 ≤ 520 + 420 * i + 11 by omega) ?_
              exact K367 _ _ _ ⟨N9, S9, tr9, hli9, by omega, by omega, hZ, hS, lv_sub hl [0, 2, 4, 5, 6, 7, 8, 9, 10, 11, 12] rfl⟩
          · refine lv_iload G.1 G.2.1 dL_law_221 (lv_at hl 0 rfl) ?_
            refine lv_bipush (v := nI 9) G.1 G.2.1 dL_law_223 (by decide) ?_
            refine gn_ge G (by omega) (by omega) (tgt := 267) dL_law_225 (by decide) (fun h_225 => ?_) (fun h_225 => ?_)
            · refine lv_iload G.1 G.2.1 dL_law_267 (lv_at hl 3 rfl) ?_
              refine lv_bipush (v := nI 15) G.1 G.2.1 dL_law_269 (by decide) ?_
              refine gn_lt G (by omega) (by omega) (tgt := 281) dL_law_271 (by decide) (fun h_271 => ?_) (fun h_271 => ?_)
              · refine lv_aload_n G.1 G.2.1 dL_law_281 rfl (lv_at hl 5 rfl) ?_
                refine lv_iload G.1 G.2.1 dL_law_282 (lv_at hl 0 rfl) ?_
                refine lv_bipush (v := nI 12) G.1 G.2.1 dL_law_284 (by decide) ?_
                refine gn_ge G (by omega) (by omega) (tgt := 293) dL_law_286 (by decide) (fun h_286 => ?_) (fun h_286 => ?_)
                · refine lv_iload G.1 G.2.1 dL_law_293 (lv_at hl 0 rfl) ?_
                  refine lv_bipush (v := nI 13) G.1 G.2.1 dL_law_295 (by decide) ?_
                  refine gn_ge G (by omega) (by omega) (tgt := 304) dL_law_297 (by decide) (fun h_297 => ?_) (fun h_297 => ?_)
                  · refine lv_iload G.1 G.2.1 dL_law_304 (lv_at hl 0 rfl) ?_
                    refine lv_bipush (v := nI 14) G.1 G.2.1 dL_law_306 (by decide) ?_
                    refine gn_ge G (by omega) (by omega) (tgt := 315) dL_law_308 (by decide) (fun h_308 => ?_) (fun h_308 => ?_)
                    · refine lv_iconst (v := nI 3) G.1 G.2.1 dL_law_315 (by decide) ?_
                      refine lv_iload G.1 G.2.1 dL_law_316 (lv_at hl 1 rfl) ?_
                      refine lv_aload_n G.1 G.2.1 dL_law_318 rfl (lv_at hl 6 rfl) ?_
                      refine lv_aload_n G.1 G.2.1 dL_law_319 rfl (lv_at hl 7 rfl) ?_
                      refine lv_aload G.1 G.2.1 dL_law_320 (lv_at hl 8 rfl) ?_
                      refine lv_aload G.1 G.2.1 dL_law_322 (lv_at hl 9 rfl) ?_
                      refine lv_aload G.1 G.2.1 dL_law_324 (lv_at hl 10 rfl) ?_
                      refine gz_mut (As := [.ref (q 0), .int (nI 3), .int y4, .ref (a 0), .ref (a 1), .ref (a 2), .ref (a 3), .ref (a 4)]) (rest := []) (mc := 2) (ms := 11) G.fix (mL_rows_3 l hst D q a cI N S tr A hli y4) (va_cwS 8 G.2.2.2.2.2.1 gL_law_L_rows rfl rfl rfl (by decide +kernel) ⟨Nat.le_of_ble_eq_true rfl, Nat.le_of_ble_eq_true rfl⟩) hZ hA hS rfl hl.1 rfl (Nat.le_of_ble_eq_true rfl) dL_law_326 (show 18 + 70 * i + 2 ≤ 953113 by omega) (show 520 + 420 * i + 11 ≤ 6242284 by omega) (fun r N9 S9 tr9 H locs hp hZ hS => ?_)
                      obtain ⟨rfl, hli9, e0, e5⟩ := hp
                      refine lv_istore (lv' := [(12, .int (nI 1)), (11, .int (nI k5)), (10, .int y4), (9, .int y3), (8, .int (nI i)), (0, .ref b), (1, .ref (q 0)), (2, .ref (a 0)), (3, .ref (a 1)), (4, .ref (a 2)), (5, .ref (a 3)), (6, .ref (a 4)), (7, .ref (a 5))]) G.1 G.2.1 dL_law_329 hl (by decide) rfl (fun ls hl => ?_)
                      refine lv_goto (tgt := 367) G.1 G.2.1 dL_law_331 (by decide) ?_
                      refine W.widen (k := 18 + 70 * i + 2) (n := 520 + 420 * i + 11) (show 18 + 70 * i + 2 ≤ 18 + 70 * i + 2 by omega) (show 520 + 420 * i + 11 ≤ 520 + 420 * i + 11 by omega) ?_
                      exact K367 _ _ _ ⟨N9, S9, tr9, hli9, by omega, by omega, hZ, hS, lv_sub hl [0, 2, 4, 5, 6, 7, 8, 9, 10, 11, 12] rfl⟩
                    · refine lv_iconst (v := nI 2) G.1 G.2.1 dL_law_311 (by decide) ?_
                      refine lv_goto (tgt := 316) G.1 G.2.1 dL_law_312 (by decide) ?_
                      refine lv_iload G.1 G.2.1 dL_law_316 (lv_at hl 1 rfl) ?_
                      refine lv_aload_n G.1 G.2.1 dL_law_318 rfl (lv_at hl 6 rfl) ?_
                      refine lv_aload_n G.1 G.2.1 dL_law_319 rfl (lv_at hl 7 rfl) ?_
                      refine lv_aload G.1 G.2.1 dL_law_320 (lv_at hl 8 rfl) ?_
                      refine lv_aload G.1 G.2.1 dL_law_322 (lv_at hl 9 rfl) ?_
                      refine lv_aload G.1 G.2.1 dL_law_324 (lv_at hl 10 rfl) ?_
                      refine gz_mut (As := [.ref (q 0), .int (nI 2), .int y4, .ref (a 0), .ref (a 1), .ref (a 2), .ref (a 3), .ref (a 4)]) (rest := []) (mc := 2) (ms := 11) G.fix (mL_rows_2 l hst D q a cI N S tr A hli y4) (va_cwS 8 G.2.2.2.2.2.1 gL_law_L_rows rfl rfl rfl (by decide +kernel) ⟨Nat.le_of_ble_eq_true rfl, Nat.le_of_ble_eq_true rfl⟩) hZ hA hS rfl hl.1 rfl (Nat.le_of_ble_eq_true rfl) dL_law_326 (show 18 + 70 * i + 2 ≤ 953113 by omega) (show 520 + 420 * i + 11 ≤ 6242284 by omega) (fun r N9 S9 tr9 H locs hp hZ hS => ?_)
                      obtain ⟨rfl, hli9, e0, e5⟩ := hp
                      refine lv_istore (lv' := [(12, .int (nI 1)), (11, .int (nI k5)), (10, .int y4), (9, .int y3), (8, .int (nI i)), (0, .ref b), (1, .ref (q 0)), (2, .ref (a 0)), (3, .ref (a 1)), (4, .ref (a 2)), (5, .ref (a 3)), (6, .ref (a 4)), (7, .ref (a 5))]) G.1 G.2.1 dL_law_329 hl (by decide) rfl (fun ls hl => ?_)
                      refine lv_goto (tgt := 367) G.1 G.2.1 dL_law_331 (by decide) ?_
                      refine W.widen (k := 18 + 70 * i + 2) (n := 520 + 420 * i + 11) (show 18 + 70 * i + 2 ≤ 18 + 70 * i + 2 by omega) (show 520 + 420 * i + 11 ≤ 520 + 420 * i + 11 by omega) ?_
                      exact K367 _ _ _ ⟨N9, S9, tr9, hli9, by omega, by omega, hZ, hS, lv_sub hl [0, 2, 4, 5, 6, 7, 8, 9, 10, 11, 12] rfl⟩
                  · refine lv_iconst (v := nI 1) G.1 G.2.1 dL_law_300 (by decide) ?_
                    refine lv_goto (tgt := 316) G.1 G.2.1 dL_law_301 (by decide) ?_
                    refine lv_iload G.1 G.2.1 dL_law_316 (lv_at hl 1 rfl) ?_
                    refine lv_aload_n G.1 G.2.1 dL_law_318 rfl (lv_at hl 6 rfl) ?_
                    refine lv_aload_n G.1 G.2.1 dL_law_319 rfl (lv_at hl 7 rfl) ?_
                    refine lv_aload G.1 G.2.1 dL_law_320 (lv_at hl 8 rfl) ?_
                    refine lv_aload G.1 G.2.1 dL_law_322 (lv_at hl 9 rfl) ?_
                    refine lv_aload G.1 G.2.1 dL_law_324 (lv_at hl 10 rfl) ?_
                    refine gz_mut (As := [.ref (q 0), .int (nI 1), .int y4, .ref (a 0), .ref (a 1), .ref (a 2), .ref (a 3), .ref (a 4)]) (rest := []) (mc := 2) (ms := 11) G.fix (mL_rows_1 l hst D q a cI N S tr A hli y4) (va_cwS 8 G.2.2.2.2.2.1 gL_law_L_rows rfl rfl rfl (by decide +kernel) ⟨Nat.le_of_ble_eq_true rfl, Nat.le_of_ble_eq_true rfl⟩) hZ hA hS rfl hl.1 rfl (Nat.le_of_ble_eq_true rfl) dL_law_326 (show 18 + 70 * i + 2 ≤ 953113 by omega) (show 520 + 420 * i + 11 ≤ 6242284 by omega) (fun r N9 S9 tr9 H locs hp hZ hS => ?_)
                    obtain ⟨rfl, hli9, e0, e5⟩ := hp
                    refine lv_istore (lv' := [(12, .int (nI 1)), (11, .int (nI k5)), (10, .int y4), (9, .int y3), (8, .int (nI i)), (0, .ref b), (1, .ref (q 0)), (2, .ref (a 0)), (3, .ref (a 1)), (4, .ref (a 2)), (5, .ref (a 3)), (6, .ref (a 4)), (7, .ref (a 5))]) G.1 G.2.1 dL_law_329 hl (by decide) rfl (fun ls hl => ?_)
                    refine lv_goto (tgt := 367) G.1 G.2.1 dL_law_331 (by decide) ?_
                    refine W.widen (k := 18 + 70 * i + 2) (n := 520 + 420 * i + 11) (show 18 + 70 * i + 2 ≤ 18 + 70 * i + 2 by omega) (show 520 + 420 * i + 11 ≤ 520 + 420 * i + 11 by omega) ?_
                    exact K367 _ _ _ ⟨N9, S9, tr9, hli9, by omega, by omega, hZ, hS, lv_sub hl [0, 2, 4, 5, 6, 7, 8, 9, 10, 11, 12] rfl⟩
                · refine lv_iconst (v := nI 0) G.1 G.2.1 dL_law_289 (by decide) ?_
                  refine lv_goto (tgt := 316) G.1 G.2.1 dL_law_290 (by decide) ?_
                  refine lv_iload G.1 G.2.1 dL_law_316 (lv_at hl 1 rfl) ?_
                  refine lv_aload_n G.1 G.2.1 dL_law_318 rfl (lv_at hl 6 rfl) ?_
                  refine lv_aload_n G.1 G.2.1 dL_law_319 rfl (lv_at hl 7 rfl) ?_
                  refine lv_aload G.1 G.2.1 dL_law_320 (lv_at hl 8 rfl) ?_
                  refine lv_aload G.1 G.2.1 dL_law_322 (lv_at hl 9 rfl) ?_
                  refine lv_aload G.1 G.2.1 dL_law_324 (lv_at hl 10 rfl) ?_
                  refine gz_mut (As := [.ref (q 0), .int (nI 0), .int y4, .ref (a 0), .ref (a 1), .ref (a 2), .ref (a 3), .ref (a 4)]) (rest := []) (mc := 2) (ms := 11) G.fix (mL_rows_0 l hst D q a cI N S tr A hli y4) (va_cwS 8 G.2.2.2.2.2.1 gL_law_L_rows rfl rfl rfl (by decide +kernel) ⟨Nat.le_of_ble_eq_true rfl, Nat.le_of_ble_eq_true rfl⟩) hZ hA hS rfl hl.1 rfl (Nat.le_of_ble_eq_true rfl) dL_law_326 (show 18 + 70 * i + 2 ≤ 953113 by omega) (show 520 + 420 * i + 11 ≤ 6242284 by omega) (fun r N9 S9 tr9 H locs hp hZ hS => ?_)
                  obtain ⟨rfl, hli9, e0, e5⟩ := hp
                  refine lv_istore (lv' := [(12, .int (nI 1)), (11, .int (nI k5)), (10, .int y4), (9, .int y3), (8, .int (nI i)), (0, .ref b), (1, .ref (q 0)), (2, .ref (a 0)), (3, .ref (a 1)), (4, .ref (a 2)), (5, .ref (a 3)), (6, .ref (a 4)), (7, .ref (a 5))]) G.1 G.2.1 dL_law_329 hl (by decide) rfl (fun ls hl => ?_)
                  refine lv_goto (tgt := 367) G.1 G.2.1 dL_law_331 (by decide) ?_
                  refine W.widen (k := 18 + 70 * i + 2) (n := 520 + 420 * i + 11) (show 18 + 70 * i + 2 ≤ 18 + 70 * i + 2 by omega) (show 520 + 420 * i + 11 ≤ 520 + 420 * i + 11 by omega) ?_
                  exact K367 _ _ _ ⟨N9, S9, tr9, hli9, by omega, by omega, hZ, hS, lv_sub hl [0, 2, 4, 5, 6, 7, 8, 9, 10, 11, 12] rfl⟩
              · refine lv_iload G.1 G.2.1 dL_law_274 (lv_at hl 0 rfl) ?_
                refine lv_bipush (v := nI 17) G.1 G.2.1 dL_law_276 (by decide) ?_
                refine gn_ge G (by omega) (by omega) (tgt := 334) dL_law_278 (by decide) (fun h_278 => ?_) (fun h_278 => ?_)
                · refine lv_aload_n G.1 G.2.1 dL_law_334 rfl (lv_at hl 5 rfl) ?_
                  refine lv_iload G.1 G.2.1 dL_law_335 (lv_at hl 0 rfl) ?_
                  refine lv_bipush (v := nI 19) G.1 G.2.1 dL_law_337 (by decide) ?_
                  refine gn_ge G (by omega) (by omega) (tgt := 346) dL_law_339 (by decide) (fun h_339 => ?_) (fun h_339 => ?_)
                  · refine lv_iload G.1 G.2.1 dL_law_346 (lv_at hl 0 rfl) ?_
                    refine lv_bipush (v := nI 21) G.1 G.2.1 dL_law_348 (by decide) ?_
                    refine gn_ge G (by omega) (by omega) (tgt := 357) dL_law_350 (by decide) (fun h_350 => ?_) (fun h_350 => ?_)
                    · refine lv_iconst (v := nI 2) G.1 G.2.1 dL_law_357 (by decide) ?_
                      refine lv_iload G.1 G.2.1 dL_law_358 (lv_at hl 1 rfl) ?_
                      refine lv_aload G.1 G.2.1 dL_law_360 (lv_at hl 11 rfl) ?_
                      refine gz_mut (As := [.ref (q 0), .int (nI 2), .int y4, .ref (a 5)]) (rest := []) (mc := 1) (ms := 6) G.fix (mL_colours_2 l hst D q a cI N S tr A hli y4) (va_cwS 4 G.2.2.2.2.2.1 gL_law_L_colours rfl rfl rfl (by decide +kernel) ⟨Nat.le_of_ble_eq_true rfl, Nat.le_of_ble_eq_true rfl⟩) hZ hA hS rfl hl.1 rfl (Nat.le_of_ble_eq_true rfl) dL_law_362 (show 18 + 70 * i + 1 ≤ 953113 by omega) (show 520 + 420 * i + 6 ≤ 6242284 by omega) (fun r N9 S9 tr9 H locs hp hZ hS => ?_)
                      obtain ⟨rfl, hli9, e0, e5⟩ := hp
                      refine lv_istore (lv' := [(12, .int (nI 1)), (11, .int (nI k5)), (10, .int y4), (9, .int y3), (8, .int (nI i)), (0, .ref b), (1, .ref (q 0)), (2, .ref (a 0)), (3, .ref (a 1)), (4, .ref (a 2)), (5, .ref (a 3)), (6, .ref (a 4)), (7, .ref (a 5))]) G.1 G.2.1 dL_law_365 hl (by decide) rfl (fun ls hl => ?_)
                      refine W.widen (k := 18 + 70 * i + 2) (n := 520 + 420 * i + 11) (show 18 + 70 * i + 1 ≤ 18 + 70 * i + 2 by omega) (show 520 + 420 * i + 6 ≤ 520 + 420 * i + 11 by omega) ?_
                      exact K367 _ _ _ ⟨N9, S9, tr9, hli9, by omega, by omega, hZ, hS, lv_sub hl [0, 2, 4, 5, 6, 7, 8, 9, 10, 11, 12] rfl⟩
                    · refine lv_iconst (v := nI 1) G.1 G.2.1 dL_law_353 (by decide) ?_
                      refine lv_goto (tgt := 358) G.1 G.2.1 dL_law_354 (by decide) ?_
                      refine lv_iload G.1 G.2.1 dL_law_358 (lv_at hl 1 rfl) ?_
                      refine lv_aload G.1 G.2.1 dL_law_360 (lv_at hl 11 rfl) ?_
                      refine gz_mut (As := [.ref (q 0), .int (nI 1), .int y4, .ref (a 5)]) (rest := []) (mc := 1) (ms := 6) G.fix (mL_colours_1 l hst D q a cI N S tr A hli y4) (va_cwS 4 G.2.2.2.2.2.1 gL_law_L_colours rfl rfl rfl (by decide +kernel) ⟨Nat.le_of_ble_eq_true rfl, Nat.le_of_ble_eq_true rfl⟩) hZ hA hS rfl hl.1 rfl (Nat.le_of_ble_eq_true rfl) dL_law_362 (show 18 + 70 * i + 1 ≤ 953113 by omega) (show 520 + 420 * i + 6 ≤ 6242284 by omega) (fun r N9 S9 tr9 H locs hp hZ hS => ?_)
                      obtain ⟨rfl, hli9, e0, e5⟩ := hp
                      refine lv_istore (lv' := [(12, .int (nI 1)), (11, .int (nI k5)), (10, .int y4), (9, .int y3), (8, .int (nI i)), (0, .ref b), (1, .ref (q 0)), (2, .ref (a 0)), (3, .ref (a 1)), (4, .ref (a 2)), (5, .ref (a 3)), (6, .ref (a 4)), (7, .ref (a 5))]) G.1 G.2.1 dL_law_365 hl (by decide) rfl (fun ls hl => ?_)
                      refine W.widen (k := 18 + 70 * i + 2) (n := 520 + 420 * i + 11) (show 18 + 70 * i + 1 ≤ 18 + 70 * i + 2 by omega) (show 520 + 420 * i + 6 ≤ 520 + 420 * i + 11 by omega) ?_
                      exact K367 _ _ _ ⟨N9, S9, tr9, hli9, by omega, by omega, hZ, hS, lv_sub hl [0, 2, 4, 5, 6, 7, 8, 9, 10, 11, 12] rfl⟩
                  · refine lv_iconst (v := nI 0) G.1 G.2.1 dL_law_342 (by decide) ?_
                    refine lv_goto (tgt := 358) G.1 G.2.1 dL_law_343 (by decide) ?_
                    refine lv_iload G.1 G.2.1 dL_law_358 (lv_at hl 1 rfl) ?_
                    refine lv_aload G.1 G.2.1 dL_law_360 (lv_at hl 11 rfl) ?_
                    refine gz_mut (As := [.ref (q 0), .int (nI 0), .int y4, .ref (a 5)]) (rest := []) (mc := 1) (ms := 6) G.fix (mL_colours_0 l hst D q a cI N S tr A hli y4) (va_cwS 4 G.2.2.2.2.2.1 gL_law_L_colours rfl rfl rfl (by decide +kernel) ⟨Nat.le_of_ble_eq_true rfl, Nat.le_of_ble_eq_true rfl⟩) hZ hA hS rfl hl.1 rfl (Nat.le_of_ble_eq_true rfl) dL_law_362 (show 18 + 70 * i + 1 ≤ 953113 by omega) (show 520 + 420 * i + 6 ≤ 6242284 by omega) (fun r N9 S9 tr9 H locs hp hZ hS => ?_)
                    obtain ⟨rfl, hli9, e0, e5⟩ := hp
                    refine lv_istore (lv' := [(12, .int (nI 1)), (11, .int (nI k5)), (10, .int y4), (9, .int y3), (8, .int (nI i)), (0, .ref b), (1, .ref (q 0)), (2, .ref (a 0)), (3, .ref (a 1)), (4, .ref (a 2)), (5, .ref (a 3)), (6, .ref (a 4)), (7, .ref (a 5))]) G.1 G.2.1 dL_law_365 hl (by decide) rfl (fun ls hl => ?_)
                    refine W.widen (k := 18 + 70 * i + 2) (n := 520 + 420 * i + 11) (show 18 + 70 * i + 1 ≤ 18 + 70 * i + 2 by omega) (show 520 + 420 * i + 6 ≤ 520 + 420 * i + 11 by omega) ?_
                    exact K367 _ _ _ ⟨N9, S9, tr9, hli9, by omega, by omega, hZ, hS, lv_sub hl [0, 2, 4, 5, 6, 7, 8, 9, 10, 11, 12] rfl⟩
                · refine lv_aload_n G.1 G.2.1 dL_law_281 rfl (lv_at hl 5 rfl) ?_
                  refine lv_iload G.1 G.2.1 dL_law_282 (lv_at hl 0 rfl) ?_
                  refine lv_bipush (v := nI 12) G.1 G.2.1 dL_law_284 (by decide) ?_
                  refine gn_ge G (by omega) (by omega) (tgt := 293) dL_law_286 (by decide) (fun h_286 => ?_) (fun h_286 => ?_)
                  · refine lv_iload G.1 G.2.1 dL_law_293 (lv_at hl 0 rfl) ?_
                    refine lv_bipush (v := nI 13) G.1 G.2.1 dL_law_295 (by decide) ?_
                    refine gn_ge G (by omega) (by omega) (tgt := 304) dL_law_297 (by decide) (fun h_297 => ?_) (fun h_297 => ?_)
                    · refine lv_iload G.1 G.2.1 dL_law_304 (lv_at hl 0 rfl) ?_
                      refine lv_bipush (v := nI 14) G.1 G.2.1 dL_law_306 (by decide) ?_
                      refine gn_ge G (by omega) (by omega) (tgt := 315) dL_law_308 (by decide) (fun h_308 => ?_) (fun h_308 => ?_)
                      · refine lv_iconst (v := nI 3) G.1 G.2.1 dL_law_315 (by decide) ?_
                        refine lv_iload G.1 G.2.1 dL_law_316 (lv_at hl 1 rfl) ?_
                        refine lv_aload_n G.1 G.2.1 dL_law_318 rfl (lv_at hl 6 rfl) ?_
                        refine lv_aload_n G.1 G.2.1 dL_law_319 rfl (lv_at hl 7 rfl) ?_
                        refine lv_aload G.1 G.2.1 dL_law_320 (lv_at hl 8 rfl) ?_
                        refine lv_aload G.1 G.2.1 dL_law_322 (lv_at hl 9 rfl) ?_
                        refine lv_aload G.1 G.2.1 dL_law_324 (lv_at hl 10 rfl) ?_
                        refine gz_mut (As := [.ref (q 0), .int (nI 3), .int y4, .ref (a 0), .ref (a 1), .ref (a 2), .ref (a 3), .ref (a 4)]) (rest := []) (mc := 2) (ms := 11) G.fix (mL_rows_3 l hst D q a cI N S tr A hli y4) (va_cwS 8 G.2.2.2.2.2.1 gL_law_L_rows rfl rfl rfl (by decide +kernel) ⟨Nat.le_of_ble_eq_true rfl, Nat.le_of_ble_eq_true rfl⟩) hZ hA hS rfl hl.1 rfl (Nat.le_of_ble_eq_true rfl) dL_law_326 (show 18 + 70 * i + 2 ≤ 953113 by omega) (show 520 + 420 * i + 11 ≤ 6242284 by omega) (fun r N9 S9 tr9 H locs hp hZ hS => ?_)
                        obtain ⟨rfl, hli9, e0, e5⟩ := hp
                        refine lv_istore (lv' := [(12, .int (nI 1)), (11, .int (nI k5)), (10, .int y4), (9, .int y3), (8, .int (nI i)), (0, .ref b), (1, .ref (q 0)), (2, .ref (a 0)), (3, .ref (a 1)), (4, .ref (a 2)), (5, .ref (a 3)), (6, .ref (a 4)), (7, .ref (a 5))]) G.1 G.2.1 dL_law_329 hl (by decide) rfl (fun ls hl => ?_)
                        refine lv_goto (tgt := 367) G.1 G.2.1 dL_law_331 (by decide) ?_
                        refine W.widen (k := 18 + 70 * i + 2) (n := 520 + 420 * i + 11) (show 18 + 70 * i + 2 ≤ 18 + 70 * i + 2 by omega) (show 520 + 420 * i + 11 ≤ 520 + 420 * i + 11 by omega) ?_
                        exact K367 _ _ _ ⟨N9, S9, tr9, hli9, by omega, by omega, hZ, hS, lv_sub hl [0, 2, 4, 5, 6, 7, 8, 9, 10, 11, 12] rfl⟩
                      · refine lv_iconst (v := nI 2) G.1 G.2.1 dL_law_311 (by decide) ?_
                        refine lv_goto (tgt := 316) G.1 G.2.1 dL_law_312 (by decide) ?_
                        refine lv_iload G.1 G.2.1 dL_law_316 (lv_at hl 1 rfl) ?_
                        refine lv_aload_n G.1 G.2.1 dL_law_318 rfl (lv_at hl 6 rfl) ?_
                        refine lv_aload_n G.1 G.2.1 dL_law_319 rfl (lv_at hl 7 rfl) ?_
                        refine lv_aload G.1 G.2.1 dL_law_320 (lv_at hl 8 rfl) ?_
                        refine lv_aload G.1 G.2.1 dL_law_322 (lv_at hl 9 rfl) ?_
                        refine lv_aload G.1 G.2.1 dL_law_324 (lv_at hl 10 rfl) ?_
                        refine gz_mut (As := [.ref (q 0), .int (nI 2), .int y4, .ref (a 0), .ref (a 1), .ref (a 2), .ref (a 3), .ref (a 4)]) (rest := []) (mc := 2) (ms := 11) G.fix (mL_rows_2 l hst D q a cI N S tr A hli y4) (va_cwS 8 G.2.2.2.2.2.1 gL_law_L_rows rfl rfl rfl (by decide +kernel) ⟨Nat.le_of_ble_eq_true rfl, Nat.le_of_ble_eq_true rfl⟩) hZ hA hS rfl hl.1 rfl (Nat.le_of_ble_eq_true rfl) dL_law_326 (show 18 + 70 * i + 2 ≤ 953113 by omega) (show 520 + 420 * i + 11 ≤ 6242284 by omega) (fun r N9 S9 tr9 H locs hp hZ hS => ?_)
                        obtain ⟨rfl, hli9, e0, e5⟩ := hp
                        refine lv_istore (lv' := [(12, .int (nI 1)), (11, .int (nI k5)), (10, .int y4), (9, .int y3), (8, .int (nI i)), (0, .ref b), (1, .ref (q 0)), (2, .ref (a 0)), (3, .ref (a 1)), (4, .ref (a 2)), (5, .ref (a 3)), (6, .ref (a 4)), (7, .ref (a 5))]) G.1 G.2.1 dL_law_329 hl (by decide) rfl (fun ls hl => ?_)
                        refine lv_goto (tgt := 367) G.1 G.2.1 dL_law_331 (by decide) ?_
                        refine W.widen (k := 18 + 70 * i + 2) (n := 520 + 420 * i + 11) (show 18 + 70 * i + 2 ≤ 18 + 70 * i + 2 by omega) (show 520 + 420 * i + 11 ≤ 520 + 420 * i + 11 by omega) ?_
                        exact K367 _ _ _ ⟨N9, S9, tr9, hli9, by omega, by omega, hZ, hS, lv_sub hl [0, 2, 4, 5, 6, 7, 8, 9, 10, 11, 12] rfl⟩
                    · refine lv_iconst (v := nI 1) G.1 G.2.1 dL_law_300 (by decide) ?_
                      refine lv_goto (tgt := 316) G.1 G.2.1 dL_law_301 (by decide) ?_
                      refine lv_iload G.1 G.2.1 dL_law_316 (lv_at hl 1 rfl) ?_
                      refine lv_aload_n G.1 G.2.1 dL_law_318 rfl (lv_at hl 6 rfl) ?_
                      refine lv_aload_n G.1 G.2.1 dL_law_319 rfl (lv_at hl 7 rfl) ?_
                      refine lv_aload G.1 G.2.1 dL_law_320 (lv_at hl 8 rfl) ?_
                      refine lv_aload G.1 G.2.1 dL_law_322 (lv_at hl 9 rfl) ?_
                      refine lv_aload G.1 G.2.1 dL_law_324 (lv_at hl 10 rfl) ?_
                      refine gz_mut (As := [.ref (q 0), .int (nI 1), .int y4, .ref (a 0), .ref (a 1), .ref (a 2), .ref (a 3), .ref (a 4)]) (rest := []) (mc := 2) (ms := 11) G.fix (mL_rows_1 l hst D q a cI N S tr A hli y4) (va_cwS 8 G.2.2.2.2.2.1 gL_law_L_rows rfl rfl rfl (by decide +kernel) ⟨Nat.le_of_ble_eq_true rfl, Nat.le_of_ble_eq_true rfl⟩) hZ hA hS rfl hl.1 rfl (Nat.le_of_ble_eq_true rfl) dL_law_326 (show 18 + 70 * i + 2 ≤ 953113 by omega) (show 520 + 420 * i + 11 ≤ 6242284 by omega) (fun r N9 S9 tr9 H locs hp hZ hS => ?_)
                      obtain ⟨rfl, hli9, e0, e5⟩ := hp
                      refine lv_istore (lv' := [(12, .int (nI 1)), (11, .int (nI k5)), (10, .int y4), (9, .int y3), (8, .int (nI i)), (0, .ref b), (1, .ref (q 0)), (2, .ref (a 0)), (3, .ref (a 1)), (4, .ref (a 2)), (5, .ref (a 3)), (6, .ref (a 4)), (7, .ref (a 5))]) G.1 G.2.1 dL_law_329 hl (by decide) rfl (fun ls hl => ?_)
                      refine lv_goto (tgt := 367) G.1 G.2.1 dL_law_331 (by decide) ?_
                      refine W.widen (k := 18 + 70 * i + 2) (n := 520 + 420 * i + 11) (show 18 + 70 * i + 2 ≤ 18 + 70 * i + 2 by omega) (show 520 + 420 * i + 11 ≤ 520 + 420 * i + 11 by omega) ?_
                      exact K367 _ _ _ ⟨N9, S9, tr9, hli9, by omega, by omega, hZ, hS, lv_sub hl [0, 2, 4, 5, 6, 7, 8, 9, 10, 11, 12] rfl⟩
                  · refine lv_iconst (v := nI 0) G.1 G.2.1 dL_law_289 (by decide) ?_
                    refine lv_goto (tgt := 316) G.1 G.2.1 dL_law_290 (by decide) ?_
                    refine lv_iload G.1 G.2.1 dL_law_316 (lv_at hl 1 rfl) ?_
                    refine lv_aload_n G.1 G.2.1 dL_law_318 rfl (lv_at hl 6 rfl) ?_
                    refine lv_aload_n G.1 G.2.1 dL_law_319 rfl (lv_at hl 7 rfl) ?_
                    refine lv_aload G.1 G.2.1 dL_law_320 (lv_at hl 8 rfl) ?_
                    refine lv_aload G.1 G.2.1 dL_law_322 (lv_at hl 9 rfl) ?_
                    refine lv_aload G.1 G.2.1 dL_law_324 (lv_at hl 10 rfl) ?_
                    refine gz_mut (As := [.ref (q 0), .int (nI 0), .int y4, .ref (a 0), .ref (a 1), .ref (a 2), .ref (a 3), .ref (a 4)]) (rest := []) (mc := 2) (ms := 11) G.fix (mL_rows_0 l hst D q a cI N S tr A hli y4) (va_cwS 8 G.2.2.2.2.2.1 gL_law_L_rows rfl rfl rfl (by decide +kernel) ⟨Nat.le_of_ble_eq_true rfl, Nat.le_of_ble_eq_true rfl⟩) hZ hA hS rfl hl.1 rfl (Nat.le_of_ble_eq_true rfl) dL_law_326 (show 18 + 70 * i + 2 ≤ 953113 by omega) (show 520 + 420 * i + 11 ≤ 6242284 by omega) (fun r N9 S9 tr9 H locs hp hZ hS => ?_)
                    obtain ⟨rfl, hli9, e0, e5⟩ := hp
                    refine lv_istore (lv' := [(12, .int (nI 1)), (11, .int (nI k5)), (10, .int y4), (9, .int y3), (8, .int (nI i)), (0, .ref b), (1, .ref (q 0)), (2, .ref (a 0)), (3, .ref (a 1)), (4, .ref (a 2)), (5, .ref (a 3)), (6, .ref (a 4)), (7, .ref (a 5))]) G.1 G.2.1 dL_law_329 hl (by decide) rfl (fun ls hl => ?_)
                    refine lv_goto (tgt := 367) G.1 G.2.1 dL_law_331 (by decide) ?_
                    refine W.widen (k := 18 + 70 * i + 2) (n := 520 + 420 * i + 11) (show 18 + 70 * i + 2 ≤ 18 + 70 * i + 2 by omega) (show 520 + 420 * i + 11 ≤ 520 + 420 * i + 11 by omega) ?_
                    exact K367 _ _ _ ⟨N9, S9, tr9, hli9, by omega, by omega, hZ, hS, lv_sub hl [0, 2, 4, 5, 6, 7, 8, 9, 10, 11, 12] rfl⟩
            · refine lv_aload_n G.1 G.2.1 dL_law_228 rfl (lv_at hl 5 rfl) ?_
              refine lv_iload G.1 G.2.1 dL_law_229 (lv_at hl 0 rfl) ?_
              refine lv_iconst (v := nI 5) G.1 G.2.1 dL_law_231 (by decide) ?_
              refine gn_ge G (by omega) (by omega) (tgt := 239) dL_law_232 (by decide) (fun h_232 => ?_) (fun h_232 => ?_)
              · refine lv_iload G.1 G.2.1 dL_law_239 (lv_at hl 0 rfl) ?_
                refine lv_bipush (v := nI 8) G.1 G.2.1 dL_law_241 (by decide) ?_
                refine gn_ge G (by omega) (by omega) (tgt := 250) dL_law_243 (by decide) (fun h_243 => ?_) (fun h_243 => ?_)
                · refine lv_iconst (v := nI 2) G.1 G.2.1 dL_law_250 (by decide) ?_
                  refine lv_iload G.1 G.2.1 dL_law_251 (lv_at hl 1 rfl) ?_
                  refine lv_aload_n G.1 G.2.1 dL_law_253 rfl (lv_at hl 6 rfl) ?_
                  refine lv_aload_n G.1 G.2.1 dL_law_254 rfl (lv_at hl 7 rfl) ?_
                  refine lv_aload G.1 G.2.1 dL_law_255 (lv_at hl 8 rfl) ?_
                  refine lv_aload G.1 G.2.1 dL_law_257 (lv_at hl 9 rfl) ?_
                  refine gz_mut (As := [.ref (q 0), .int (nI 2), .int y4, .ref (a 0), .ref (a 1), .ref (a 2), .ref (a 3)]) (rest := []) (mc := 1) (ms := 6) G.fix (mL_profiles_2 l hst D q a cI N S tr A hli y4) (va_cwS 7 G.2.2.2.2.2.1 gL_law_L_profiles rfl rfl rfl (by decide +kernel) ⟨Nat.le_of_ble_eq_true rfl, Nat.le_of_ble_eq_true rfl⟩) hZ hA hS rfl hl.1 rfl (Nat.le_of_ble_eq_true rfl) dL_law_259 (show 18 + 70 * i + 1 ≤ 953113 by omega) (show 520 + 420 * i + 6 ≤ 6242284 by omega) (fun r N9 S9 tr9 H locs hp hZ hS => ?_)
                  obtain ⟨rfl, hli9, e0, e5⟩ := hp
                  refine lv_istore (lv' := [(12, .int (nI 1)), (11, .int (nI k5)), (10, .int y4), (9, .int y3), (8, .int (nI i)), (0, .ref b), (1, .ref (q 0)), (2, .ref (a 0)), (3, .ref (a 1)), (4, .ref (a 2)), (5, .ref (a 3)), (6, .ref (a 4)), (7, .ref (a 5))]) G.1 G.2.1 dL_law_262 hl (by decide) rfl (fun ls hl => ?_)
                  refine lv_goto (tgt := 367) G.1 G.2.1 dL_law_264 (by decide) ?_
                  refine W.widen (k := 18 + 70 * i + 2) (n := 520 + 420 * i + 11) (show 18 + 70 * i + 1 ≤ 18 + 70 * i + 2 by omega) (show 520 + 420 * i + 6 ≤ 520 + 420 * i + 11 by omega) ?_
                  exact K367 _ _ _ ⟨N9, S9, tr9, hli9, by omega, by omega, hZ, hS, lv_sub hl [0, 2, 4, 5, 6, 7, 8, 9, 10, 11, 12] rfl⟩
                · refine lv_iconst (v := nI 1) G.1 G.2.1 dL_law_246 (by decide) ?_
                  refine lv_goto (tgt := 251) G.1 G.2.1 dL_law_247 (by decide) ?_
                  refine lv_iload G.1 G.2.1 dL_law_251 (lv_at hl 1 rfl) ?_
                  refine lv_aload_n G.1 G.2.1 dL_law_253 rfl (lv_at hl 6 rfl) ?_
                  refine lv_aload_n G.1 G.2.1 dL_law_254 rfl (lv_at hl 7 rfl) ?_
                  refine lv_aload G.1 G.2.1 dL_law_255 (lv_at hl 8 rfl) ?_
                  refine lv_aload G.1 G.2.1 dL_law_257 (lv_at hl 9 rfl) ?_
                  refine gz_mut (As := [.ref (q 0), .int (nI 1), .int y4, .ref (a 0), .ref (a 1), .ref (a 2), .ref (a 3)]) (rest := []) (mc := 1) (ms := 6) G.fix (mL_profiles_1 l hst D q a cI N S tr A hli y4) (va_cwS 7 G.2.2.2.2.2.1 gL_law_L_profiles rfl rfl rfl (by decide +kernel) ⟨Nat.le_of_ble_eq_true rfl, Nat.le_of_ble_eq_true rfl⟩) hZ hA hS rfl hl.1 rfl (Nat.le_of_ble_eq_true rfl) dL_law_259 (show 18 + 70 * i + 1 ≤ 953113 by omega) (show 520 + 420 * i + 6 ≤ 6242284 by omega) (fun r N9 S9 tr9 H locs hp hZ hS => ?_)
                  obtain ⟨rfl, hli9, e0, e5⟩ := hp
                  refine lv_istore (lv' := [(12, .int (nI 1)), (11, .int (nI k5)), (10, .int y4), (9, .int y3), (8, .int (nI i)), (0, .ref b), (1, .ref (q 0)), (2, .ref (a 0)), (3, .ref (a 1)), (4, .ref (a 2)), (5, .ref (a 3)), (6, .ref (a 4)), (7, .ref (a 5))]) G.1 G.2.1 dL_law_262 hl (by decide) rfl (fun ls hl => ?_)
                  refine lv_goto (tgt := 367) G.1 G.2.1 dL_law_264 (by decide) ?_
                  refine W.widen (k := 18 + 70 * i + 2) (n := 520 + 420 * i + 11) (show 18 + 70 * i + 1 ≤ 18 + 70 * i + 2 by omega) (show 520 + 420 * i + 6 ≤ 520 + 420 * i + 11 by omega) ?_
                  exact K367 _ _ _ ⟨N9, S9, tr9, hli9, by omega, by omega, hZ, hS, lv_sub hl [0, 2, 4, 5, 6, 7, 8, 9, 10, 11, 12] rfl⟩
              · refine lv_iconst (v := nI 0) G.1 G.2.1 dL_law_235 (by decide) ?_
                refine lv_goto (tgt := 251) G.1 G.2.1 dL_law_236 (by decide) ?_
                refine lv_iload G.1 G.2.1 dL_law_251 (lv_at hl 1 rfl) ?_
                refine lv_aload_n G.1 G.2.1 dL_law_253 rfl (lv_at hl 6 rfl) ?_
                refine lv_aload_n G.1 G.2.1 dL_law_254 rfl (lv_at hl 7 rfl) ?_
                refine lv_aload G.1 G.2.1 dL_law_255 (lv_at hl 8 rfl) ?_
                refine lv_aload G.1 G.2.1 dL_law_257 (lv_at hl 9 rfl) ?_
                refine gz_mut (As := [.ref (q 0), .int (nI 0), .int y4, .ref (a 0), .ref (a 1), .ref (a 2), .ref (a 3)]) (rest := []) (mc := 1) (ms := 6) G.fix (mL_profiles_0 l hst D q a cI N S tr A hli y4) (va_cwS 7 G.2.2.2.2.2.1 gL_law_L_profiles rfl rfl rfl (by decide +kernel) ⟨Nat.le_of_ble_eq_true rfl, Nat.le_of_ble_eq_true rfl⟩) hZ hA hS rfl hl.1 rfl (Nat.le_of_ble_eq_true rfl) dL_law_259 (show 18 + 70 * i + 1 ≤ 953113 by omega) (show 520 + 420 * i + 6 ≤ 6242284 by omega) (fun r N9 S9 tr9 H locs hp hZ hS => ?_)
                obtain ⟨rfl, hli9, e0, e5⟩ := hp
                refine lv_istore (lv' := [(12, .int (nI 1)), (11, .int (nI k5)), (10, .int y4), (9, .int y3), (8, .int (nI i)), (0, .ref b), (1, .ref (q 0)), (2, .ref (a 0)), (3, .ref (a 1)), (4, .ref (a 2)), (5, .ref (a 3)), (6, .ref (a 4)), (7, .ref (a 5))]) G.1 G.2.1 dL_law_262 hl (by decide) rfl (fun ls hl => ?_)
                refine lv_goto (tgt := 367) G.1 G.2.1 dL_law_264 (by decide) ?_
                refine W.widen (k := 18 + 70 * i + 2) (n := 520 + 420 * i + 11) (show 18 + 70 * i + 1 ≤ 18 + 70 * i + 2 by omega) (show 520 + 420 * i + 6 ≤ 520 + 420 * i + 11 by omega) ?_
                exact K367 _ _ _ ⟨N9, S9, tr9, hli9, by omega, by omega, hZ, hS, lv_sub hl [0, 2, 4, 5, 6, 7, 8, 9, 10, 11, 12] rfl⟩
  · obtain ⟨N, S, tr, hli, hm0, hm5, hZ, hS, hl⟩ := hI
    have hli9 := hli
    obtain ⟨hok, hinv, hN0, hN5, h6⟩ := hli9
    have hok9 := hok
    obtain ⟨⟨ok0, ok5⟩, ok1, ok2, ok3, ok4, ok6, ok7, ok8, ok12, ok13, ok14⟩ := hok9
    refine lv_iload G.1 G.2.1 dL_law_45 (lv_at hl 0 rfl) ?_
    refine lv_bipush (v := nI 75) G.1 G.2.1 dL_law_47 (by decide) ?_
    refine gn_ge G (by omega) (by omega) (tgt := 401) dL_law_49 (by decide) (fun h_49 => ?_) (fun h => absurd h (by omega))
    exact kk _ _ _ hS
