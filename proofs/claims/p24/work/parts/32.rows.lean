/-! THE LAW's CHOICES: a call on a chain -/
set_option maxRecDepth 100000 in
set_option maxHeartbeats 2000000 in
theorem mL_rows_0 (l : Launch) (hst : l.stackTraces = false) (D : va_G) (q a : Nat → Nat) (cI : ClassId) (N : Nat → Nat) (S : Nat → Nat → Nat) (tr : Nat → Nat) (A : Nat → Prop) (hli : li N S) (x : Int32) : Met l yL_rows wsL_rows { frames := 9, cells := 2, slots := 11, locals := 197 } (va_Pc [.ref (q 0), .int (nI 0), .int x, .ref (a 0), .ref (a 1), .ref (a 2), .ref (a 3), .ref (a 4)] (fun U => zBt D q a cI N S tr A U)) (gQz D q a cI (fun r N' S' => r = nI 1 ∧ li N' S' ∧ N' 0 = N 0 ∧ N' 5 = N 5) A) 2 11 A := by
  refine gc_met [.ref (q 0), .int (nI 0), .int x, .ref (a 0), .ref (a 1), .ref (a 2), .ref (a 3), .ref (a 4)] (by decide) rfl (Nat.le_of_ble_eq_true rfl) rfl ?_
  intro p e s m below meth c ls G hl hB
  obtain ⟨hZ, hA⟩ := hB
  have hli9 := hli
  obtain ⟨hok, hinv, hN0, hN5, h6⟩ := hli9
  have hok9 := hok
  obtain ⟨⟨ok0, ok5⟩, ok1, ok2, ok3, ok4, ok6, ok7, ok8, ok12, ok13, ok14⟩ := hok9
  have hZ0 : gZ A s s.heap := hZ.2.2.2
  have hS : va_S A s.heap s.heap [] := va_S.rf
  refine lv_iload_n G.1 G.2.1 dL_rows_0 rfl (lv_at hl 2 rfl) ?_
  refine lv_aload_n G.1 G.2.1 dL_rows_1 rfl (lv_at hl 3 rfl) ?_
  refine lv_iconst (v := nI 1) G.1 G.2.1 dL_rows_2 (by decide) ?_
  refine gl_ald (k := 0) (len := 11) (F := fC N S) G hZ.r rfl (by omega) (by decide) dL_rows_3 ?_
  rw [fC_1]
  refine lv_iconst (v := nI 1) G.1 G.2.1 dL_rows_4 (by decide) ?_
  refine gn_iadd G dL_rows_5 ?_
  refine gc_s (As := [.int x, .int (nI ((N 5) + 1))]) (rest := []) G.fix (mL_some l x ((N 5) + 1) (by omega) (by omega)) (va_cwS 2 G.2.2.2.2.2.1 gL_rows_L_some rfl rfl rfl (by decide +kernel) ⟨Nat.le_of_ble_eq_true rfl, Nat.le_of_ble_eq_true rfl⟩) gc_blindT (fun _ _ _ => trivial) rfl hl.1 rfl (Nat.le_of_ble_eq_true rfl) dL_rows_6 (show 0 ≤ 2 by omega) (show 0 ≤ 11 by omega) (fun r hr => ?_)
  obtain ⟨k1, hk1, rfl⟩ := hr
  refine lv_iload_n G.1 G.2.1 dL_rows_9 rfl (lv_at hl 2 rfl) ?_
  refine lv_bipush (v := nI 11) G.1 G.2.1 dL_rows_10 (by decide) ?_
  refine lv_ishr G.1 G.2.1 dL_rows_12 ?_
  refine lv_topi (fun y2 hy2 => ?_)
  refine lv_bipush (v := nI 19) G.1 G.2.1 dL_rows_13 (by decide) ?_
  refine gc_s (As := [.int y2, .int (nI 19)]) (rest := [.int (nI k1)]) G.fix (mL_some l y2 19 (by omega) (by omega)) (va_cwS 2 G.2.2.2.2.2.1 gL_rows_L_some rfl rfl rfl (by decide +kernel) ⟨Nat.le_of_ble_eq_true rfl, Nat.le_of_ble_eq_true rfl⟩) gc_blindT (fun _ _ _ => trivial) rfl hl.1 rfl (Nat.le_of_ble_eq_true rfl) dL_rows_15 (show 0 ≤ 2 by omega) (show 0 ≤ 11 by omega) (fun r hr => ?_)
  obtain ⟨k3, hk3, rfl⟩ := hr
  refine gj_x (fun x => ∃ e : Nat, x = nI e ∧ e ≤ 1) 26 [.int (nI k1)] (fun x hx => ?_) (fun K_26 => ?_)
  · obtain ⟨e4, rfl, he4⟩ := hx
    refine lv_isub G.1 G.2.1 dL_rows_26 ?_
    refine lv_topi (fun y5 hy5 => ?_)
    refine lv_istore (lv' := [(8, .int y5), (0, .ref (q 0)), (1, .int (nI 0)), (2, .int x), (3, .ref (a 0)), (4, .ref (a 1)), (5, .ref (a 2)), (6, .ref (a 3)), (7, .ref (a 4))]) G.1 G.2.1 dL_rows_27 hl (by decide) rfl (fun ls hl => ?_)
    by_cases hg_ch : gb y5 (N 5) = true
    · obtain ⟨ch, hch, rfl⟩ := gb_of (by omega) hg_ch
      have hb10 : S 10 ch = sp_bit (N 10) ch := (hinv.2.2.2.2.2.1 ch (by omega)).2
      have hb10b := sp_bit_lt (N 10) ch
      refine lv_iload G.1 G.2.1 dL_rows_29 (lv_at hl 0 rfl) ?_
      refine gn_ltz G (by omega) (tgt := 46) dL_rows_31 (by decide) ?_
      refine lv_iload G.1 G.2.1 dL_rows_34 (lv_at hl 0 rfl) ?_
      refine lv_aload_n G.1 G.2.1 dL_rows_36 rfl (lv_at hl 4 rfl) ?_
      refine lv_iconst (v := nI 1) G.1 G.2.1 dL_rows_37 (by decide) ?_
      refine gl_ald (k := 0) (len := 11) (F := fC N S) G hZ.r rfl (by omega) (by decide) dL_rows_38 ?_
      rw [fC_1]
      refine gn_ge G (by omega) (by omega) (tgt := 46) dL_rows_39 (by decide) (fun h => absurd h (by omega)) (fun h_39 => ?_)
      refine lv_iconst (v := nI 1) G.1 G.2.1 dL_rows_42 (by decide) ?_
      refine lv_goto (tgt := 47) G.1 G.2.1 dL_rows_43 (by decide) ?_
      refine lv_istore (lv' := [(9, .int (nI 1)), (8, .int (nI ch)), (0, .ref (q 0)), (1, .int (nI 0)), (2, .int x), (3, .ref (a 0)), (4, .ref (a 1)), (5, .ref (a 2)), (6, .ref (a 3)), (7, .ref (a 4))]) G.1 G.2.1 dL_rows_47 hl (by decide) rfl (fun ls hl => ?_)
      refine lv_iload_n G.1 G.2.1 dL_rows_49 rfl (lv_at hl 3 rfl) ?_
      refine gn_nez G (by omega) (tgt := 181) dL_rows_50 (by decide) (fun h => absurd rfl h) (fun h_50 => ?_)
      refine lv_iload_n G.1 G.2.1 dL_rows_53 rfl (lv_at hl 4 rfl) ?_
      refine lv_iconst (v := nI 4) G.1 G.2.1 dL_rows_54 (by decide) ?_
      refine lv_ishr G.1 G.2.1 dL_rows_55 ?_
      refine lv_topi (fun y6 hy6 => ?_)
      refine lv_aload_n G.1 G.2.1 dL_rows_56 rfl (lv_at hl 5 rfl) ?_
      refine lv_iconst (v := nI 0) G.1 G.2.1 dL_rows_57 (by decide) ?_
      refine gl_ald (k := 0) (len := 11) (F := fC N S) G hZ.r rfl (by omega) (by decide) dL_rows_58 ?_
      rw [fC_0]
      refine lv_iconst (v := nI 1) G.1 G.2.1 dL_rows_59 (by decide) ?_
      refine gn_iadd G dL_rows_60 ?_
      refine gc_s (As := [.int y6, .int (nI ((N 0) + 1))]) (rest := []) G.fix (mL_some l y6 ((N 0) + 1) (by omega) (by omega)) (va_cwS 2 G.2.2.2.2.2.1 gL_rows_L_some rfl rfl rfl (by decide +kernel) ⟨Nat.le_of_ble_eq_true rfl, Nat.le_of_ble_eq_true rfl⟩) gc_blindT (fun _ _ _ => trivial) rfl hl.1 rfl (Nat.le_of_ble_eq_true rfl) dL_rows_61 (show 0 ≤ 2 by omega) (show 0 ≤ 11 by omega) (fun r hr => ?_)
      obtain ⟨k7, hk7, rfl⟩ := hr
      refine lv_istore (lv' := [(10, .int (nI k7)), (9, .int (nI 1)), (8, .int (nI ch)), (0, .ref (q 0)), (1, .int (nI 0)), (2, .int x), (3, .ref (a 0)), (4, .ref (a 1)), (5, .ref (a 2)), (6, .ref (a 3)), (7, .ref (a 4))]) G.1 G.2.1 dL_rows_64 hl (by decide) rfl (fun ls hl => ?_)
      refine gj_x (fun x => ∃ f : Nat, x = nI f ∧ f ≤ 1 ∧ (f = 1 ↔ k7 < N 0)) 84 [] (fun x hx => ?_) (fun K_84 => ?_)
      · obtain ⟨f8, rfl, hf8, hf8b⟩ := hx
        refine lv_istore (lv' := [(11, .int (nI f8)), (10, .int (nI k7)), (9, .int (nI 1)), (8, .int (nI ch)), (0, .ref (q 0)), (1, .int (nI 0)), (2, .int x), (3, .ref (a 0)), (4, .ref (a 1)), (5, .ref (a 2)), (6, .ref (a 3)), (7, .ref (a 4))]) G.1 G.2.1 dL_rows_84 hl (by decide) rfl (fun ls hl => ?_)
        refine lv_iload G.1 G.2.1 dL_rows_86 (lv_at hl 0 rfl) ?_
        refine gn_nez G (by omega) (tgt := 96) dL_rows_88 (by decide) (fun h_88 => ?_) (fun h_88 => ?_)
        · refine lv_aload_n G.1 G.2.1 dL_rows_96 rfl (lv_at hl 7 rfl) ?_
          refine lv_bipush (v := nI 6) G.1 G.2.1 dL_rows_97 (by decide) ?_
          refine lv_iload G.1 G.2.1 dL_rows_99 (lv_at hl 3 rfl) ?_
          refine gn_iadd G dL_rows_101 ?_
          refine gl_ald (k := 0) (len := 11) (F := fC N S) G hZ.r rfl (by omega) (by decide) dL_rows_102 ?_
          rw [fC_10 (by omega)]
          refine lv_iconst (v := nI 1) G.1 G.2.1 dL_rows_103 (by decide) ?_
          refine gn_eq G (by omega) (by omega) (tgt := 118) dL_rows_104 (by decide) (fun h_104 => ?_) (fun h_104 => ?_)
          · refine lv_bipush (v := -103) G.1 G.2.1 dL_rows_118 (by decide) ?_
            refine lv_goto (tgt := 131) G.1 G.2.1 dL_rows_120 (by decide) ?_
            refine lv_istore (lv' := [(12, .int ((-103))), (11, .int (nI f8)), (10, .int (nI k7)), (9, .int (nI 1)), (8, .int (nI ch)), (0, .ref (q 0)), (1, .int (nI 0)), (2, .int x), (3, .ref (a 0)), (4, .ref (a 1)), (5, .ref (a 2)), (6, .ref (a 3)), (7, .ref (a 4))]) G.1 G.2.1 dL_rows_131 hl (by decide) rfl (fun ls hl => ?_)
            refine lv_iload G.1 G.2.1 dL_rows_133 (lv_at hl 0 rfl) ?_
            refine lv_if_le (tgt := 161) G.1 G.2.1 dL_rows_135 (by decide) (fun h_135 => ?_) (fun h => absurd (by decide) h)
            refine lv_aload_n G.1 G.2.1 dL_rows_161 rfl (lv_at hl 5 rfl) ?_
            refine lv_iconst (v := nI 1) G.1 G.2.1 dL_rows_162 (by decide) ?_
            refine lv_iload G.1 G.2.1 dL_rows_163 (lv_at hl 4 rfl) ?_
            refine lv_iload G.1 G.2.1 dL_rows_165 (lv_at hl 2 rfl) ?_
            refine gz_wrap (As := [.ref (q 0), .int (nI 1), .int (nI ch), .int (nI k7)]) (rest := []) G.fix (mL_sets_add l hst D q cI N S tr _ hok hinv ((nI ch)) ((nI k7))) (vx_cwSW 4 G.2.2.2.2.2.1 gL_rows_L_sets rfl rfl rfl (by decide +kernel) ⟨Nat.le_of_ble_eq_true rfl, Nat.le_of_ble_eq_true rfl⟩) hZ hA hS rfl hl.1 rfl (Nat.le_of_ble_eq_true rfl) dL_rows_167 (show 0 + 1 ≤ 2 by omega) (show 0 + 6 ≤ 11 by omega) (fun r Nx Sx tr H locs hp hZ hS => ?_)
            obtain ⟨rfl, eN, eS⟩ := hp
            have hk_167 : sj_add N S ((nI ch)) ((nI k7)) = 3 := gk_ttf (by simp only [sA_add, Bool.and_eq_true, decide_eq_true_eq, gb_nI (show ch < 2 ^ 31 by omega), gn_nI (show ch < 2 ^ 31 by omega), gb_nI (show k7 < 2 ^ 31 by omega), gn_nI (show k7 < 2 ^ 31 by omega)] <;> omega) rfl (by apply Bool.eq_false_iff.mpr; intro h; simp only [sC_add, Bool.and_eq_true, decide_eq_true_eq, gb_nI (show ch < 2 ^ 31 by omega), gn_nI (show ch < 2 ^ 31 by omega), gb_nI (show k7 < 2 ^ 31 by omega), gn_nI (show k7 < 2 ^ 31 by omega)] at h <;> omega)
            rw [hk_167] at eN eS
            have eN : Nx = N := eN
            have eS : Sx = S := eS
            rw [eN, eS] at hZ
            rw [hk_167, gRes_3]
            refine lv_iload G.1 G.2.1 dL_rows_170 (lv_at hl 0 rfl) ?_
            refine lv_icmp_ne (tgt := 179) G.1 G.2.1 dL_rows_172 (by decide) (fun h => absurd rfl h) (fun h_172 => ?_)
            refine lv_iconst (v := nI 1) G.1 G.2.1 dL_rows_175 (by decide) ?_
            refine lv_goto (tgt := 180) G.1 G.2.1 dL_rows_176 (by decide) ?_
            refine W.widen (k := 2) (n := 11) (show 0 + 1 ≤ 2 by omega) (show 0 + 6 ≤ 11 by omega) ?_
            exact W.zret G.1 G.2.1 G.2.2.1 rfl (fun t ht hW => ⟨nI 1, _, _, _, rfl, ⟨rfl, hli, rfl, rfl⟩, by rw [ht]; exact hZ.1, hS.F ht⟩) hS.2.2 dL_rows_180 G.2.2.2.2.2.2
          · refine lv_aload_n G.1 G.2.1 dL_rows_107 rfl (lv_at hl 7 rfl) ?_
            refine lv_iconst (v := nI 2) G.1 G.2.1 dL_rows_108 (by decide) ?_
            refine lv_iload G.1 G.2.1 dL_rows_109 (lv_at hl 3 rfl) ?_
            refine gn_iadd G dL_rows_111 ?_
            refine gl_ald (k := 0) (len := 11) (F := fC N S) G hZ.r rfl (by omega) (by decide) dL_rows_112 ?_
            rw [fC_7 (by omega)]
            have hv_112 := ok7 ch
            refine lv_bipush (v := nI 6) G.1 G.2.1 dL_rows_113 (by decide) ?_
            refine gn_ne G (by omega) (by omega) (tgt := 123) dL_rows_115 (by decide) (fun h_115 => ?_) (fun h_115 => ?_)
            · refine lv_aload_n G.1 G.2.1 dL_rows_123 rfl (lv_at hl 7 rfl) ?_
              refine lv_iconst (v := nI 2) G.1 G.2.1 dL_rows_124 (by decide) ?_
              refine lv_iload G.1 G.2.1 dL_rows_125 (lv_at hl 3 rfl) ?_
              refine gn_iadd G dL_rows_127 ?_
              refine gl_ald (k := 0) (len := 11) (F := fC N S) G hZ.r rfl (by omega) (by decide) dL_rows_128 ?_
              rw [fC_7 (by omega)]
              have hv_128 := ok7 ch
              refine lv_iconst (v := nI 1) G.1 G.2.1 dL_rows_129 (by decide) ?_
              refine gn_iadd G dL_rows_130 ?_
              refine lv_istore (lv' := [(12, .int (nI ((S 7 ch) + 1))), (11, .int (nI f8)), (10, .int (nI k7)), (9, .int (nI 1)), (8, .int (nI ch)), (0, .ref (q 0)), (1, .int (nI 0)), (2, .int x), (3, .ref (a 0)), (4, .ref (a 1)), (5, .ref (a 2)), (6, .ref (a 3)), (7, .ref (a 4))]) G.1 G.2.1 dL_rows_131 hl (by decide) rfl (fun ls hl => ?_)
              refine lv_iload G.1 G.2.1 dL_rows_133 (lv_at hl 0 rfl) ?_
              refine gn_lez G (by omega) (tgt := 161) dL_rows_135 (by decide) (fun h => absurd h (by omega)) (fun h_135 => ?_)
              refine lv_aload G.1 G.2.1 dL_rows_138 (lv_at hl 11 rfl) ?_
              refine lv_bipush (v := nI 6) G.1 G.2.1 dL_rows_140 (by decide) ?_
              refine lv_iload G.1 G.2.1 dL_rows_142 (lv_at hl 4 rfl) ?_
              refine gn_imul G dL_rows_144 ?_
              refine lv_iload G.1 G.2.1 dL_rows_145 (lv_at hl 0 rfl) ?_
              refine gn_iadd G dL_rows_147 ?_
              refine lv_iconst (v := nI 1) G.1 G.2.1 dL_rows_148 (by decide) ?_
              refine gn_isub G dL_rows_149 (by omega) ?_
              refine lv_iload G.1 G.2.1 dL_rows_150 (lv_at hl 2 rfl) ?_
              refine gz_ast (k := 3) (len := 12) (F := S 6) (i := ((6 * ch) + ((S 7 ch) + 1)) - 1) (v := k7) (N3 := N) (S3 := (gs S 6 (gu (S 6) (ch * 6 + S 7 ch) k7))) G hZ0 hZ hS rfl (by rw [show ((6 * ch) + ((S 7 ch) + 1)) - 1 = ch * 6 + S 7 ch from by omega]; exact ls_l) (by omega) (by decide) dL_rows_152 (fun H locs hZ hS => ?_)
              refine lv_aload_n G.1 G.2.1 dL_rows_153 rfl (lv_at hl 8 rfl) ?_
              refine lv_iconst (v := nI 2) G.1 G.2.1 dL_rows_154 (by decide) ?_
              refine lv_iload G.1 G.2.1 dL_rows_155 (lv_at hl 4 rfl) ?_
              refine gn_iadd G dL_rows_157 ?_
              refine lv_iload G.1 G.2.1 dL_rows_158 (lv_at hl 0 rfl) ?_
              refine gz_ast (k := 0) (len := 11) (F := fC N ((gs S 6 (gu (S 6) (ch * 6 + S 7 ch) k7)))) (i := 2 + ch) (v := (S 7 ch) + 1) (N3 := N) (S3 := (gs (gs S 6 (gu (S 6) (ch * 6 + S 7 ch) k7)) 7 (gu (S 7) ch (S 7 ch + 1)))) G hZ0 hZ hS rfl (ls_c7 (by omega)) (by omega) (by decide) dL_rows_160 (fun H locs hZ hS => ?_)
              refine lv_aload_n G.1 G.2.1 dL_rows_161 rfl (lv_at hl 5 rfl) ?_
              refine lv_iconst (v := nI 1) G.1 G.2.1 dL_rows_162 (by decide) ?_
              refine lv_iload G.1 G.2.1 dL_rows_163 (lv_at hl 4 rfl) ?_
              refine lv_iload G.1 G.2.1 dL_rows_165 (lv_at hl 2 rfl) ?_
              refine gz_wrap (As := [.ref (q 0), .int (nI 1), .int (nI ch), .int (nI k7)]) (rest := []) G.fix (mL_sets_add l hst D q cI N S tr _ hok hinv ((nI ch)) ((nI k7))) (vx_cwSW 4 G.2.2.2.2.2.1 gL_rows_L_sets rfl rfl rfl (by decide +kernel) ⟨Nat.le_of_ble_eq_true rfl, Nat.le_of_ble_eq_true rfl⟩) hZ hA hS rfl hl.1 rfl (Nat.le_of_ble_eq_true rfl) dL_rows_167 (show 0 + 1 ≤ 2 by omega) (show 0 + 6 ≤ 11 by omega) (fun r Nx Sx tr H locs hp hZ hS => ?_)
              obtain ⟨rfl, eN, eS⟩ := hp
              have hk_167 : sj_add N S ((nI ch)) ((nI k7)) = 0 := gk_ttt (by simp only [sA_add, Bool.and_eq_true, decide_eq_true_eq, gb_nI (show ch < 2 ^ 31 by omega), gn_nI (show ch < 2 ^ 31 by omega), gb_nI (show k7 < 2 ^ 31 by omega), gn_nI (show k7 < 2 ^ 31 by omega)] <;> omega) rfl (by simp only [sC_add, Bool.and_eq_true, decide_eq_true_eq, gb_nI (show ch < 2 ^ 31 by omega), gn_nI (show ch < 2 ^ 31 by omega), gb_nI (show k7 < 2 ^ 31 by omega), gn_nI (show k7 < 2 ^ 31 by omega)] <;> omega)
              rw [hk_167] at eN eS
              have eN : Nx = sN_add N S ((nI ch)) ((nI k7)) := eN
              have eS : Sx = sS_add N S ((nI ch)) ((nI k7)) := eS
              rw [eN, eS] at hZ
              rw [hk_167, gRes_0]
              have hR_167 : sR_add N S ((nI ch)) ((nI k7)) = (S 7 ch) + 1 := by simp only [sR_add, gn_nI (show ch < 2 ^ 31 by omega), gn_nI (show k7 < 2 ^ 31 by omega)]
              rw [hR_167]
              have hN9 : sN_add N S ((nI ch)) ((nI k7)) = N := by simp only [sN_add, gn_nI (show ch < 2 ^ 31 by omega), gn_nI (show k7 < 2 ^ 31 by omega)]
              have hS9 : sS_add N S ((nI ch)) ((nI k7)) = (gs (gs S 6 (gu (S 6) (ch * 6 + S 7 ch) k7)) 7 (gu (S 7) ch (S 7 ch + 1))) := by simp only [sS_add, gn_nI (show ch < 2 ^ 31 by omega), gn_nI (show k7 < 2 ^ 31 by omega)]
              have hli2 := li_add hli hk_167
              rw [hN9, hS9] at hli2 hZ
              refine lv_iload G.1 G.2.1 dL_rows_170 (lv_at hl 0 rfl) ?_
              refine gn_ne G (by omega) (by omega) (tgt := 179) dL_rows_172 (by decide) (fun h => absurd rfl h) (fun h_172 => ?_)
              refine lv_iconst (v := nI 1) G.1 G.2.1 dL_rows_175 (by decide) ?_
              refine lv_goto (tgt := 180) G.1 G.2.1 dL_rows_176 (by decide) ?_
              refine W.widen (k := 2) (n := 11) (show 0 + 1 ≤ 2 by omega) (show 0 + 6 ≤ 11 by omega) ?_
              exact W.zret G.1 G.2.1 G.2.2.1 rfl (fun t ht hW => ⟨nI 1, _, _, _, rfl, ⟨rfl, hli2, rfl, rfl⟩, by rw [ht]; exact hZ.1, hS.F ht⟩) hS.2.2 dL_rows_180 G.2.2.2.2.2.2
            · refine lv_bipush (v := -103) G.1 G.2.1 dL_rows_118 (by decide) ?_
              refine lv_goto (tgt := 131) G.1 G.2.1 dL_rows_120 (by decide) ?_
              refine lv_istore (lv' := [(12, .int ((-103))), (11, .int (nI f8)), (10, .int (nI k7)), (9, .int (nI 1)), (8, .int (nI ch)), (0, .ref (q 0)), (1, .int (nI 0)), (2, .int x), (3, .ref (a 0)), (4, .ref (a 1)), (5, .ref (a 2)), (6, .ref (a 3)), (7, .ref (a 4))]) G.1 G.2.1 dL_rows_131 hl (by decide) rfl (fun ls hl => ?_)
              refine lv_iload G.1 G.2.1 dL_rows_133 (lv_at hl 0 rfl) ?_
              refine lv_if_le (tgt := 161) G.1 G.2.1 dL_rows_135 (by decide) (fun h_135 => ?_) (fun h => absurd (by decide) h)
              refine lv_aload_n G.1 G.2.1 dL_rows_161 rfl (lv_at hl 5 rfl) ?_
              refine lv_iconst (v := nI 1) G.1 G.2.1 dL_rows_162 (by decide) ?_
              refine lv_iload G.1 G.2.1 dL_rows_163 (lv_at hl 4 rfl) ?_
              refine lv_iload G.1 G.2.1 dL_rows_165 (lv_at hl 2 rfl) ?_
              refine gz_wrap (As := [.ref (q 0), .int (nI 1), .int (nI ch), .int (nI k7)]) (rest := []) G.fix (mL_sets_add l hst D q cI N S tr _ hok hinv ((nI ch)) ((nI k7))) (vx_cwSW 4 G.2.2.2.2.2.1 gL_rows_L_sets rfl rfl rfl (by decide +kernel) ⟨Nat.le_of_ble_eq_true rfl, Nat.le_of_ble_eq_true rfl⟩) hZ hA hS rfl hl.1 rfl (Nat.le_of_ble_eq_true rfl) dL_rows_167 (show 0 + 1 ≤ 2 by omega) (show 0 + 6 ≤ 11 by omega) (fun r Nx Sx tr H locs hp hZ hS => ?_)
              obtain ⟨rfl, eN, eS⟩ := hp
              have hk_167 : sj_add N S ((nI ch)) ((nI k7)) = 3 := gk_ttf (by simp only [sA_add, Bool.and_eq_true, decide_eq_true_eq, gb_nI (show ch < 2 ^ 31 by omega), gn_nI (show ch < 2 ^ 31 by omega), gb_nI (show k7 < 2 ^ 31 by omega), gn_nI (show k7 < 2 ^ 31 by omega)] <;> omega) rfl (by apply Bool.eq_false_iff.mpr; intro h; simp only [sC_add, Bool.and_eq_true, decide_eq_true_eq, gb_nI (show ch < 2 ^ 31 by omega), gn_nI (show ch < 2 ^ 31 by omega), gb_nI (show k7 < 2 ^ 31 by omega), gn_nI (show k7 < 2 ^ 31 by omega)] at h <;> omega)
              rw [hk_167] at eN eS
              have eN : Nx = N := eN
              have eS : Sx = S := eS
              rw [eN, eS] at hZ
              rw [hk_167, gRes_3]
              refine lv_iload G.1 G.2.1 dL_rows_170 (lv_at hl 0 rfl) ?_
              refine lv_icmp_ne (tgt := 179) G.1 G.2.1 dL_rows_172 (by decide) (fun h => absurd rfl h) (fun h_172 => ?_)
              refine lv_iconst (v := nI 1) G.1 G.2.1 dL_rows_175 (by decide) ?_
              refine lv_goto (tgt := 180) G.1 G.2.1 dL_rows_176 (by decide) ?_
              refine W.widen (k := 2) (n := 11) (show 0 + 1 ≤ 2 by omega) (show 0 + 6 ≤ 11 by omega) ?_
              exact W.zret G.1 G.2.1 G.2.2.1 rfl (fun t ht hW => ⟨nI 1, _, _, _, rfl, ⟨rfl, hli, rfl, rfl⟩, by rw [ht]; exact hZ.1, hS.F ht⟩) hS.2.2 dL_rows_180 G.2.2.2.2.2.2
        · refine lv_bipush (v := -101) G.1 G.2.1 dL_rows_91 (by decide) ?_
          refine lv_goto (tgt := 131) G.1 G.2.1 dL_rows_93 (by decide) ?_
          refine lv_istore (lv' := [(12, .int ((-101))), (11, .int (nI f8)), (10, .int (nI k7)), (9, .int (nI 1)), (8, .int (nI ch)), (0, .ref (q 0)), (1, .int (nI 0)), (2, .int x), (3, .ref (a 0)), (4, .ref (a 1)), (5, .ref (a 2)), (6, .ref (a 3)), (7, .ref (a 4))]) G.1 G.2.1 dL_rows_131 hl (by decide) rfl (fun ls hl => ?_)
          refine lv_iload G.1 G.2.1 dL_rows_133 (lv_at hl 0 rfl) ?_
          refine lv_if_le (tgt := 161) G.1 G.2.1 dL_rows_135 (by decide) (fun h_135 => ?_) (fun h => absurd (by decide) h)
          refine lv_aload_n G.1 G.2.1 dL_rows_161 rfl (lv_at hl 5 rfl) ?_
          refine lv_iconst (v := nI 1) G.1 G.2.1 dL_rows_162 (by decide) ?_
          refine lv_iload G.1 G.2.1 dL_rows_163 (lv_at hl 4 rfl) ?_
          refine lv_iload G.1 G.2.1 dL_rows_165 (lv_at hl 2 rfl) ?_
          refine gz_wrap (As := [.ref (q 0), .int (nI 1), .int (nI ch), .int (nI k7)]) (rest := []) G.fix (mL_sets_add l hst D q cI N S tr _ hok hinv ((nI ch)) ((nI k7))) (vx_cwSW 4 G.2.2.2.2.2.1 gL_rows_L_sets rfl rfl rfl (by decide +kernel) ⟨Nat.le_of_ble_eq_true rfl, Nat.le_of_ble_eq_true rfl⟩) hZ hA hS rfl hl.1 rfl (Nat.le_of_ble_eq_true rfl) dL_rows_167 (show 0 + 1 ≤ 2 by omega) (show 0 + 6 ≤ 11 by omega) (fun r Nx Sx tr H locs hp hZ hS => ?_)
          obtain ⟨rfl, eN, eS⟩ := hp
          have hk_167 : sj_add N S ((nI ch)) ((nI k7)) = 1 := gk_f (by apply Bool.eq_false_iff.mpr; intro h; simp only [sA_add, Bool.and_eq_true, decide_eq_true_eq, gb_nI (show ch < 2 ^ 31 by omega), gn_nI (show ch < 2 ^ 31 by omega), gb_nI (show k7 < 2 ^ 31 by omega), gn_nI (show k7 < 2 ^ 31 by omega)] at h <;> omega)
          rw [hk_167] at eN eS
          have eN : Nx = N := eN
          have eS : Sx = S := eS
          rw [eN, eS] at hZ
          rw [hk_167, gRes_1]
          refine lv_iload G.1 G.2.1 dL_rows_170 (lv_at hl 0 rfl) ?_
          refine lv_icmp_ne (tgt := 179) G.1 G.2.1 dL_rows_172 (by decide) (fun h => absurd rfl h) (fun h_172 => ?_)
          refine lv_iconst (v := nI 1) G.1 G.2.1 dL_rows_175 (by decide) ?_
          refine lv_goto (tgt := 180) G.1 G.2.1 dL_rows_176 (by decide) ?_
          refine W.widen (k := 2) (n := 11) (show 0 + 1 ≤ 2 by omega) (show 0 + 6 ≤ 11 by omega) ?_
          exact W.zret G.1 G.2.1 G.2.2.1 rfl (fun t ht hW => ⟨nI 1, _, _, _, rfl, ⟨rfl, hli, rfl, rfl⟩, by rw [ht]; exact hZ.1, hS.F ht⟩) hS.2.2 dL_rows_180 G.2.2.2.2.2.2
      · refine lv_iload G.1 G.2.1 dL_rows_66 (lv_at hl 1 rfl) ?_
        refine gn_eqz G (by omega) (tgt := 83) dL_rows_68 (by decide) (fun h => absurd h (by omega)) (fun h_68 => ?_)
        refine lv_iload G.1 G.2.1 dL_rows_71 (lv_at hl 0 rfl) ?_
        refine lv_aload_n G.1 G.2.1 dL_rows_73 rfl (lv_at hl 6 rfl) ?_
        refine lv_iconst (v := nI 0) G.1 G.2.1 dL_rows_74 (by decide) ?_
        refine gl_ald (k := 0) (len := 11) (F := fC N S) G hZ.r rfl (by omega) (by decide) dL_rows_75 ?_
        rw [fC_0]
        refine gn_ge G (by omega) (by omega) (tgt := 83) dL_rows_76 (by decide) (fun h_76 => ?_) (fun h_76 => ?_)
        · refine lv_iconst (v := nI 0) G.1 G.2.1 dL_rows_83 (by decide) ?_
          exact K_84 _ (⟨_, rfl, by omega, by omega⟩)
        · refine lv_iconst (v := nI 1) G.1 G.2.1 dL_rows_79 (by decide) ?_
          refine lv_goto (tgt := 84) G.1 G.2.1 dL_rows_80 (by decide) ?_
          exact K_84 _ (⟨_, rfl, by omega, by omega⟩)
    · have hg_chf := lg_gbf hg_ch
      refine gj_x (fun x => x = (nI 0)) 47 [] (fun x hx => ?_) (fun K_47 => ?_)
      · subst hx
        refine lv_istore (lv' := [(9, .int (nI 0)), (8, .int y5), (0, .ref (q 0)), (1, .int (nI 0)), (2, .int x), (3, .ref (a 0)), (4, .ref (a 1)), (5, .ref (a 2)), (6, .ref (a 3)), (7, .ref (a 4))]) G.1 G.2.1 dL_rows_47 hl (by decide) rfl (fun ls hl => ?_)
        refine lv_iload_n G.1 G.2.1 dL_rows_49 rfl (lv_at hl 3 rfl) ?_
        refine gn_nez G (by omega) (tgt := 181) dL_rows_50 (by decide) (fun h => absurd rfl h) (fun h_50 => ?_)
        refine lv_iload_n G.1 G.2.1 dL_rows_53 rfl (lv_at hl 4 rfl) ?_
        refine lv_iconst (v := nI 4) G.1 G.2.1 dL_rows_54 (by decide) ?_
        refine lv_ishr G.1 G.2.1 dL_rows_55 ?_
        refine lv_topi (fun y9 hy9 => ?_)
        refine lv_aload_n G.1 G.2.1 dL_rows_56 rfl (lv_at hl 5 rfl) ?_
        refine lv_iconst (v := nI 0) G.1 G.2.1 dL_rows_57 (by decide) ?_
        refine gl_ald (k := 0) (len := 11) (F := fC N S) G hZ.r rfl (by omega) (by decide) dL_rows_58 ?_
        rw [fC_0]
        refine lv_iconst (v := nI 1) G.1 G.2.1 dL_rows_59 (by decide) ?_
        refine gn_iadd G dL_rows_60 ?_
        refine gc_s (As := [.int y9, .int (nI ((N 0) + 1))]) (rest := []) G.fix (mL_some l y9 ((N 0) + 1) (by omega) (by omega)) (va_cwS 2 G.2.2.2.2.2.1 gL_rows_L_some rfl rfl rfl (by decide +kernel) ⟨Nat.le_of_ble_eq_true rfl, Nat.le_of_ble_eq_true rfl⟩) gc_blindT (fun _ _ _ => trivial) rfl hl.1 rfl (Nat.le_of_ble_eq_true rfl) dL_rows_61 (show 0 ≤ 2 by omega) (show 0 ≤ 11 by omega) (fun r hr => ?_)
        obtain ⟨k10, hk10, rfl⟩ := hr
        refine lv_istore (lv' := [(10, .int (nI k10)), (9, .int (nI 0)), (8, .int y5), (0, .ref (q 0)), (1, .int (nI 0)), (2, .int x), (3, .ref (a 0)), (4, .ref (a 1)), (5, .ref (a 2)), (6, .ref (a 3)), (7, .ref (a 4))]) G.1 G.2.1 dL_rows_64 hl (by decide) rfl (fun ls hl => ?_)
        refine lv_iload G.1 G.2.1 dL_rows_66 (lv_at hl 1 rfl) ?_
        refine gn_eqz G (by omega) (tgt := 83) dL_rows_68 (by decide) (fun h_68 => ?_) (fun h => absurd rfl h)
        refine lv_iconst (v := nI 0) G.1 G.2.1 dL_rows_83 (by decide) ?_
        refine lv_istore (lv' := [(11, .int (nI 0)), (10, .int (nI k10)), (9, .int (nI 0)), (8, .int y5), (0, .ref (q 0)), (1, .int (nI 0)), (2, .int x), (3, .ref (a 0)), (4, .ref (a 1)), (5, .ref (a 2)), (6, .ref (a 3)), (7, .ref (a 4))]) G.1 G.2.1 dL_rows_84 hl (by decide) rfl (fun ls hl => ?_)
        refine lv_iload G.1 G.2.1 dL_rows_86 (lv_at hl 0 rfl) ?_
        refine gn_nez G (by omega) (tgt := 96) dL_rows_88 (by decide) (fun h => absurd rfl h) (fun h_88 => ?_)
        refine lv_bipush (v := -101) G.1 G.2.1 dL_rows_91 (by decide) ?_
        refine lv_goto (tgt := 131) G.1 G.2.1 dL_rows_93 (by decide) ?_
        refine lv_istore (lv' := [(12, .int ((-101))), (11, .int (nI 0)), (10, .int (nI k10)), (9, .int (nI 0)), (8, .int y5), (0, .ref (q 0)), (1, .int (nI 0)), (2, .int x), (3, .ref (a 0)), (4, .ref (a 1)), (5, .ref (a 2)), (6, .ref (a 3)), (7, .ref (a 4))]) G.1 G.2.1 dL_rows_131 hl (by decide) rfl (fun ls hl => ?_)
        refine lv_iload G.1 G.2.1 dL_rows_133 (lv_at hl 0 rfl) ?_
        refine lv_if_le (tgt := 161) G.1 G.2.1 dL_rows_135 (by decide) (fun h_135 => ?_) (fun h => absurd (by decide) h)
        refine lv_aload_n G.1 G.2.1 dL_rows_161 rfl (lv_at hl 5 rfl) ?_
        refine lv_iconst (v := nI 1) G.1 G.2.1 dL_rows_162 (by decide) ?_
        refine lv_iload G.1 G.2.1 dL_rows_163 (lv_at hl 4 rfl) ?_
        refine lv_iload G.1 G.2.1 dL_rows_165 (lv_at hl 2 rfl) ?_
        refine gz_wrap (As := [.ref (q 0), .int (nI 1), .int y5, .int (nI k10)]) (rest := []) G.fix (mL_sets_add l hst D q cI N S tr _ hok hinv y5 ((nI k10))) (vx_cwSW 4 G.2.2.2.2.2.1 gL_rows_L_sets rfl rfl rfl (by decide +kernel) ⟨Nat.le_of_ble_eq_true rfl, Nat.le_of_ble_eq_true rfl⟩) hZ hA hS rfl hl.1 rfl (Nat.le_of_ble_eq_true rfl) dL_rows_167 (show 0 + 1 ≤ 2 by omega) (show 0 + 6 ≤ 11 by omega) (fun r Nx Sx tr H locs hp hZ hS => ?_)
        obtain ⟨rfl, eN, eS⟩ := hp
        have hk_167 : sj_add N S y5 ((nI k10)) = 1 := gk_f (by simp [sA_add, hg_chf])
        rw [hk_167] at eN eS
        have eN : Nx = N := eN
        have eS : Sx = S := eS
        rw [eN, eS] at hZ
        rw [hk_167, gRes_1]
        refine lv_iload G.1 G.2.1 dL_rows_170 (lv_at hl 0 rfl) ?_
        refine lv_icmp_ne (tgt := 179) G.1 G.2.1 dL_rows_172 (by decide) (fun h => absurd rfl h) (fun h_172 => ?_)
        refine lv_iconst (v := nI 1) G.1 G.2.1 dL_rows_175 (by decide) ?_
        refine lv_goto (tgt := 180) G.1 G.2.1 dL_rows_176 (by decide) ?_
        refine W.widen (k := 2) (n := 11) (show 0 + 1 ≤ 2 by omega) (show 0 + 6 ≤ 11 by omega) ?_
        exact W.zret G.1 G.2.1 G.2.2.1 rfl (fun t ht hW => ⟨nI 1, _, _, _, rfl, ⟨rfl, hli, rfl, rfl⟩, by rw [ht]; exact hZ.1, hS.F ht⟩) hS.2.2 dL_rows_180 G.2.2.2.2.2.2
      · refine lv_iload G.1 G.2.1 dL_rows_29 (lv_at hl 0 rfl) ?_
        refine lv_if_lt (tgt := 46) G.1 G.2.1 dL_rows_31 (by decide) (fun h_31 => ?_) (fun h_31 => ?_)
        · refine lv_iconst (v := nI 0) G.1 G.2.1 dL_rows_46 (by decide) ?_
          exact K_47 _ (rfl)
        · refine lv_iload G.1 G.2.1 dL_rows_34 (lv_at hl 0 rfl) ?_
          refine lv_aload_n G.1 G.2.1 dL_rows_36 rfl (lv_at hl 4 rfl) ?_
          refine lv_iconst (v := nI 1) G.1 G.2.1 dL_rows_37 (by decide) ?_
          refine gl_ald (k := 0) (len := 11) (F := fC N S) G hZ.r rfl (by omega) (by decide) dL_rows_38 ?_
          rw [fC_1]
          refine lv_icmp_ge (tgt := 46) G.1 G.2.1 dL_rows_39 (by decide) (fun h_39 => ?_) (fun h => (lg_gein (by omega) h_31 h hg_chf).elim)
          refine lv_iconst (v := nI 0) G.1 G.2.1 dL_rows_46 (by decide) ?_
          exact K_47 _ (rfl)
  · refine gn_nez G (by omega) (tgt := 25) dL_rows_18 (by decide) (fun h_18 => ?_) (fun h_18 => ?_)
    · refine lv_iconst (v := nI 0) G.1 G.2.1 dL_rows_25 (by decide) ?_
      exact K_26 _ (⟨_, rfl, by omega⟩)
    · refine lv_iconst (v := nI 1) G.1 G.2.1 dL_rows_21 (by decide) ?_
      refine lv_goto (tgt := 26) G.1 G.2.1 dL_rows_22 (by decide) ?_
      exact K_26 _ (⟨_, rfl, by omega⟩)
set_option maxRecDepth 100000 in
set_option maxHeartbeats 2000000 in
theorem mL_rows_1 (l : Launch) (hst : l.stackTraces = false) (D : va_G) (q a : Nat → Nat) (cI : ClassId) (N : Nat → Nat) (S : Nat → Nat → Nat) (tr : Nat → Nat) (A : Nat → Prop) (hli : li N S) (x : Int32) : Met l yL_rows wsL_rows { frames := 9, cells := 2, slots := 11, locals := 197 } (va_Pc [.ref (q 0), .int (nI 1), .int x, .ref (a 0), .ref (a 1), .ref (a 2), .ref (a 3), .ref (a 4)] (fun U => zBt D q a cI N S tr A U)) (gQz D q a cI (fun r N' S' => r = nI 1 ∧ li N' S' ∧ N' 0 = N 0 ∧ N' 5 = N 5) A) 2 11 A := by
  refine gc_met [.ref (q 0), .int (nI 1), .int x, .ref (a 0), .ref (a 1), .ref (a 2), .ref (a 3), .ref (a 4)] (by decide) rfl (Nat.le_of_ble_eq_true rfl) rfl ?_
  intro p e s m below meth c ls G hl hB
  obtain ⟨hZ, hA⟩ := hB
  have hli9 := hli
  obtain ⟨hok, hinv, hN0, hN5, h6⟩ := hli9
  have hok9 := hok
  obtain ⟨⟨ok0, ok5⟩, ok1, ok2, ok3, ok4, ok6, ok7, ok8, ok12, ok13, ok14⟩ := hok9
  have hZ0 : gZ A s s.heap := hZ.2.2.2
  have hS : va_S A s.heap s.heap [] := va_S.rf
  refine lv_iload_n G.1 G.2.1 dL_rows_0 rfl (lv_at hl 2 rfl) ?_
  refine lv_aload_n G.1 G.2.1 dL_rows_1 rfl (lv_at hl 3 rfl) ?_
  refine lv_iconst (v := nI 1) G.1 G.2.1 dL_rows_2 (by decide) ?_
  refine gl_ald (k := 0) (len := 11) (F := fC N S) G hZ.r rfl (by omega) (by decide) dL_rows_3 ?_
  rw [fC_1]
  refine lv_iconst (v := nI 1) G.1 G.2.1 dL_rows_4 (by decide) ?_
  refine gn_iadd G dL_rows_5 ?_
  refine gc_s (As := [.int x, .int (nI ((N 5) + 1))]) (rest := []) G.fix (mL_some l x ((N 5) + 1) (by omega) (by omega)) (va_cwS 2 G.2.2.2.2.2.1 gL_rows_L_some rfl rfl rfl (by decide +kernel) ⟨Nat.le_of_ble_eq_true rfl, Nat.le_of_ble_eq_true rfl⟩) gc_blindT (fun _ _ _ => trivial) rfl hl.1 rfl (Nat.le_of_ble_eq_true rfl) dL_rows_6 (show 0 ≤ 2 by omega) (show 0 ≤ 11 by omega) (fun r hr => ?_)
  obtain ⟨k1, hk1, rfl⟩ := hr
  refine lv_iload_n G.1 G.2.1 dL_rows_9 rfl (lv_at hl 2 rfl) ?_
  refine lv_bipush (v := nI 11) G.1 G.2.1 dL_rows_10 (by decide) ?_
  refine lv_ishr G.1 G.2.1 dL_rows_12 ?_
  refine lv_topi (fun y2 hy2 => ?_)
  refine lv_bipush (v := nI 19) G.1 G.2.1 dL_rows_13 (by decide) ?_
  refine gc_s (As := [.int y2, .int (nI 19)]) (rest := [.int (nI k1)]) G.fix (mL_some l y2 19 (by omega) (by omega)) (va_cwS 2 G.2.2.2.2.2.1 gL_rows_L_some rfl rfl rfl (by decide +kernel) ⟨Nat.le_of_ble_eq_true rfl, Nat.le_of_ble_eq_true rfl⟩) gc_blindT (fun _ _ _ => trivial) rfl hl.1 rfl (Nat.le_of_ble_eq_true rfl) dL_rows_15 (show 0 ≤ 2 by omega) (show 0 ≤ 11 by omega) (fun r hr => ?_)
  obtain ⟨k3, hk3, rfl⟩ := hr
  refine gj_x (fun x => ∃ e : Nat, x = nI e ∧ e ≤ 1) 26 [.int (nI k1)] (fun x hx => ?_) (fun K_26 => ?_)
  · obtain ⟨e4, rfl, he4⟩ := hx
    refine lv_isub G.1 G.2.1 dL_rows_26 ?_
    refine lv_topi (fun y5 hy5 => ?_)
    refine lv_istore (lv' := [(8, .int y5), (0, .ref (q 0)), (1, .int (nI 1)), (2, .int x), (3, .ref (a 0)), (4, .ref (a 1)), (5, .ref (a 2)), (6, .ref (a 3)), (7, .ref (a 4))]) G.1 G.2.1 dL_rows_27 hl (by decide) rfl (fun ls hl => ?_)
    by_cases hg_ch : gb y5 (N 5) = true
    · obtain ⟨ch, hch, rfl⟩ := gb_of (by omega) hg_ch
      have hb10 : S 10 ch = sp_bit (N 10) ch := (hinv.2.2.2.2.2.1 ch (by omega)).2
      have hb10b := sp_bit_lt (N 10) ch
      refine lv_iload G.1 G.2.1 dL_rows_29 (lv_at hl 0 rfl) ?_
      refine gn_ltz G (by omega) (tgt := 46) dL_rows_31 (by decide) ?_
      refine lv_iload G.1 G.2.1 dL_rows_34 (lv_at hl 0 rfl) ?_
      refine lv_aload_n G.1 G.2.1 dL_rows_36 rfl (lv_at hl 4 rfl) ?_
      refine lv_iconst (v := nI 1) G.1 G.2.1 dL_rows_37 (by decide) ?_
      refine gl_ald (k := 0) (len := 11) (F := fC N S) G hZ.r rfl (by omega) (by decide) dL_rows_38 ?_
      rw [fC_1]
      refine gn_ge G (by omega) (by omega) (tgt := 46) dL_rows_39 (by decide) (fun h => absurd h (by omega)) (fun h_39 => ?_)
      refine lv_iconst (v := nI 1) G.1 G.2.1 dL_rows_42 (by decide) ?_
      refine lv_goto (tgt := 47) G.1 G.2.1 dL_rows_43 (by decide) ?_
      refine lv_istore (lv' := [(9, .int (nI 1)), (8, .int (nI ch)), (0, .ref (q 0)), (1, .int (nI 1)), (2, .int x), (3, .ref (a 0)), (4, .ref (a 1)), (5, .ref (a 2)), (6, .ref (a 3)), (7, .ref (a 4))]) G.1 G.2.1 dL_rows_47 hl (by decide) rfl (fun ls hl => ?_)
      refine lv_iload_n G.1 G.2.1 dL_rows_49 rfl (lv_at hl 3 rfl) ?_
      refine gn_nez G (by omega) (tgt := 181) dL_rows_50 (by decide) (fun h_50 => ?_) (fun h => absurd h (by omega))
      refine lv_iload_n G.1 G.2.1 dL_rows_181 rfl (lv_at hl 3 rfl) ?_
      refine lv_iconst (v := nI 1) G.1 G.2.1 dL_rows_182 (by decide) ?_
      refine gn_ne G (by omega) (by omega) (tgt := 273) dL_rows_183 (by decide) (fun h => absurd rfl h) (fun h_183 => ?_)
      refine lv_iload G.1 G.2.1 dL_rows_186 (lv_at hl 0 rfl) ?_
      refine gn_nez G (by omega) (tgt := 196) dL_rows_188 (by decide) (fun h_188 => ?_) (fun h => absurd h (by omega))
      refine lv_aload_n G.1 G.2.1 dL_rows_196 rfl (lv_at hl 5 rfl) ?_
      refine lv_bipush (v := nI 6) G.1 G.2.1 dL_rows_197 (by decide) ?_
      refine lv_iload G.1 G.2.1 dL_rows_199 (lv_at hl 1 rfl) ?_
      refine gn_iadd G dL_rows_201 ?_
      refine gl_ald (k := 0) (len := 11) (F := fC N S) G hZ.r rfl (by omega) (by decide) dL_rows_202 ?_
      rw [fC_10 (by omega)]
      refine lv_iconst (v := nI 1) G.1 G.2.1 dL_rows_203 (by decide) ?_
      refine gn_eq G (by omega) (by omega) (tgt := 216) dL_rows_204 (by decide) (fun h_204 => ?_) (fun h_204 => ?_)
      · refine lv_bipush (v := -103) G.1 G.2.1 dL_rows_216 (by decide) ?_
        refine lv_goto (tgt := 238) G.1 G.2.1 dL_rows_218 (by decide) ?_
        refine lv_istore (lv' := [(10, .int ((-103))), (9, .int (nI 1)), (8, .int (nI ch)), (0, .ref (q 0)), (1, .int (nI 1)), (2, .int x), (3, .ref (a 0)), (4, .ref (a 1)), (5, .ref (a 2)), (6, .ref (a 3)), (7, .ref (a 4))]) G.1 G.2.1 dL_rows_238 hl (by decide) rfl (fun ls hl => ?_)
        refine lv_iload G.1 G.2.1 dL_rows_240 (lv_at hl 0 rfl) ?_
        refine lv_if_lt (tgt := 255) G.1 G.2.1 dL_rows_242 (by decide) (fun h_242 => ?_) (fun h => absurd (by decide) h)
        refine lv_aload_n G.1 G.2.1 dL_rows_255 rfl (lv_at hl 3 rfl) ?_
        refine lv_iconst (v := nI 0) G.1 G.2.1 dL_rows_256 (by decide) ?_
        refine lv_iload G.1 G.2.1 dL_rows_257 (lv_at hl 2 rfl) ?_
        refine gz_wrap (As := [.ref (q 0), .int (nI 0), .int (nI ch)]) (rest := []) G.fix (mL_chains_drop l hst D q cI N S tr _ hok hinv ((nI ch))) (vx_cwSW 3 G.2.2.2.2.2.1 gL_rows_L_chains rfl rfl rfl (by decide +kernel) ⟨Nat.le_of_ble_eq_true rfl, Nat.le_of_ble_eq_true rfl⟩) hZ hA hS rfl hl.1 rfl (Nat.le_of_ble_eq_true rfl) dL_rows_259 (show 0 + 1 ≤ 2 by omega) (show 0 + 6 ≤ 11 by omega) (fun r Nx Sx tr H locs hp hZ hS => ?_)
        obtain ⟨rfl, eN, eS⟩ := hp
        have hk_259 : sj_drop N S ((nI ch)) = 3 := gk_ttf (by simp only [sA_drop, Bool.and_eq_true, decide_eq_true_eq, gb_nI (show ch < 2 ^ 31 by omega), gn_nI (show ch < 2 ^ 31 by omega)] <;> omega) rfl (by apply Bool.eq_false_iff.mpr; intro h; simp only [sC_drop, Bool.and_eq_true, decide_eq_true_eq, gb_nI (show ch < 2 ^ 31 by omega), gn_nI (show ch < 2 ^ 31 by omega)] at h <;> omega)
        rw [hk_259] at eN eS
        have eN : Nx = N := eN
        have eS : Sx = S := eS
        rw [eN, eS] at hZ
        rw [hk_259, gRes_3]
        refine lv_iload G.1 G.2.1 dL_rows_262 (lv_at hl 0 rfl) ?_
        refine lv_icmp_ne (tgt := 271) G.1 G.2.1 dL_rows_264 (by decide) (fun h => absurd rfl h) (fun h_264 => ?_)
        refine lv_iconst (v := nI 1) G.1 G.2.1 dL_rows_267 (by decide) ?_
        refine lv_goto (tgt := 272) G.1 G.2.1 dL_rows_268 (by decide) ?_
        refine W.widen (k := 2) (n := 11) (show 0 + 1 ≤ 2 by omega) (show 0 + 6 ≤ 11 by omega) ?_
        exact W.zret G.1 G.2.1 G.2.2.1 rfl (fun t ht hW => ⟨nI 1, _, _, _, rfl, ⟨rfl, hli, rfl, rfl⟩, by rw [ht]; exact hZ.1, hS.F ht⟩) hS.2.2 dL_rows_272 G.2.2.2.2.2.2
      · refine lv_aload_n G.1 G.2.1 dL_rows_207 rfl (lv_at hl 5 rfl) ?_
        refine lv_iconst (v := nI 2) G.1 G.2.1 dL_rows_208 (by decide) ?_
        refine lv_iload G.1 G.2.1 dL_rows_209 (lv_at hl 1 rfl) ?_
        refine gn_iadd G dL_rows_211 ?_
        refine gl_ald (k := 0) (len := 11) (F := fC N S) G hZ.r rfl (by omega) (by decide) dL_rows_212 ?_
        rw [fC_7 (by omega)]
        have hv_212 := ok7 ch
        refine gn_nez G (by omega) (tgt := 221) dL_rows_213 (by decide) (fun h_213 => ?_) (fun h_213 => ?_)
        · refine lv_aload G.1 G.2.1 dL_rows_221 (lv_at hl 8 rfl) ?_
          refine lv_bipush (v := nI 6) G.1 G.2.1 dL_rows_223 (by decide) ?_
          refine lv_iload G.1 G.2.1 dL_rows_225 (lv_at hl 1 rfl) ?_
          refine gn_imul G dL_rows_227 ?_
          refine lv_aload_n G.1 G.2.1 dL_rows_228 rfl (lv_at hl 5 rfl) ?_
          refine lv_iconst (v := nI 2) G.1 G.2.1 dL_rows_229 (by decide) ?_
          refine lv_iload G.1 G.2.1 dL_rows_230 (lv_at hl 1 rfl) ?_
          refine gn_iadd G dL_rows_232 ?_
          refine gl_ald (k := 0) (len := 11) (F := fC N S) G hZ.r rfl (by omega) (by decide) dL_rows_233 ?_
          rw [fC_7 (by omega)]
          have hv_233 := ok7 ch
          refine gn_iadd G dL_rows_234 ?_
          refine lv_iconst (v := nI 1) G.1 G.2.1 dL_rows_235 (by decide) ?_
          refine gn_isub G dL_rows_236 (by omega) ?_
          refine gl_ald (k := 3) (len := 12) (F := S 6) G hZ.r rfl (by omega) (by decide) dL_rows_237 ?_
          rw [show ((6 * ch) + (S 7 ch)) - 1 = ch * 6 + S 7 ch - 1 from by omega]
          have hv_237 := h6 (ch * 6 + S 7 ch - 1)
          refine lv_istore (lv' := [(10, .int (nI (S 6 (ch * 6 + S 7 ch - 1)))), (9, .int (nI 1)), (8, .int (nI ch)), (0, .ref (q 0)), (1, .int (nI 1)), (2, .int x), (3, .ref (a 0)), (4, .ref (a 1)), (5, .ref (a 2)), (6, .ref (a 3)), (7, .ref (a 4))]) G.1 G.2.1 dL_rows_238 hl (by decide) rfl (fun ls hl => ?_)
          refine lv_iload G.1 G.2.1 dL_rows_240 (lv_at hl 0 rfl) ?_
          refine gn_ltz G (by omega) (tgt := 255) dL_rows_242 (by decide) ?_
          refine lv_aload_n G.1 G.2.1 dL_rows_245 rfl (lv_at hl 6 rfl) ?_
          refine lv_iconst (v := nI 2) G.1 G.2.1 dL_rows_246 (by decide) ?_
          refine lv_iload G.1 G.2.1 dL_rows_247 (lv_at hl 2 rfl) ?_
          refine gn_iadd G dL_rows_249 ?_
          refine lv_dup2_11 G.1 G.2.1 dL_rows_250 rfl rfl ?_
          refine gl_ald (k := 0) (len := 11) (F := fC N S) G hZ.r rfl (by omega) (by decide) dL_rows_251 ?_
          rw [fC_7 (by omega)]
          have hv_251 := ok7 ch
          refine lv_iconst (v := nI 1) G.1 G.2.1 dL_rows_252 (by decide) ?_
          refine gn_isub G dL_rows_253 (by omega) ?_
          refine gz_ast (k := 0) (len := 11) (F := fC N S) (i := 2 + ch) (v := (S 7 ch) - 1) (N3 := N) (S3 := (gs S 7 (gu (S 7) ch (S 7 ch - 1)))) G hZ0 hZ hS rfl (ls_c7 (by omega)) (by omega) (by decide) dL_rows_254 (fun H locs hZ hS => ?_)
          refine lv_aload_n G.1 G.2.1 dL_rows_255 rfl (lv_at hl 3 rfl) ?_
          refine lv_iconst (v := nI 0) G.1 G.2.1 dL_rows_256 (by decide) ?_
          refine lv_iload G.1 G.2.1 dL_rows_257 (lv_at hl 2 rfl) ?_
          refine gz_wrap (As := [.ref (q 0), .int (nI 0), .int (nI ch)]) (rest := []) G.fix (mL_chains_drop l hst D q cI N S tr _ hok hinv ((nI ch))) (vx_cwSW 3 G.2.2.2.2.2.1 gL_rows_L_chains rfl rfl rfl (by decide +kernel) ⟨Nat.le_of_ble_eq_true rfl, Nat.le_of_ble_eq_true rfl⟩) hZ hA hS rfl hl.1 rfl (Nat.le_of_ble_eq_true rfl) dL_rows_259 (show 0 + 1 ≤ 2 by omega) (show 0 + 6 ≤ 11 by omega) (fun r Nx Sx tr H locs hp hZ hS => ?_)
          obtain ⟨rfl, eN, eS⟩ := hp
          have hk_259 : sj_drop N S ((nI ch)) = 0 := gk_ttt (by simp only [sA_drop, Bool.and_eq_true, decide_eq_true_eq, gb_nI (show ch < 2 ^ 31 by omega), gn_nI (show ch < 2 ^ 31 by omega)] <;> omega) rfl (by simp only [sC_drop, Bool.and_eq_true, decide_eq_true_eq, gb_nI (show ch < 2 ^ 31 by omega), gn_nI (show ch < 2 ^ 31 by omega)] <;> omega)
          rw [hk_259] at eN eS
          have eN : Nx = sN_drop N S ((nI ch)) := eN
          have eS : Sx = sS_drop N S ((nI ch)) := eS
          rw [eN, eS] at hZ
          rw [hk_259, gRes_0]
          have hR_259 : sR_drop N S ((nI ch)) = S 6 (ch * 6 + S 7 ch - 1) := by simp only [sR_drop, gn_nI (show ch < 2 ^ 31 by omega)]
          rw [hR_259]
          have hN9 : sN_drop N S ((nI ch)) = N := by simp only [sN_drop, gn_nI (show ch < 2 ^ 31 by omega)]
          have hS9 : sS_drop N S ((nI ch)) = (gs S 7 (gu (S 7) ch (S 7 ch - 1))) := by simp only [sS_drop, gn_nI (show ch < 2 ^ 31 by omega)]
          have hli2 := li_drop hli hk_259
          rw [hN9, hS9] at hli2 hZ
          refine lv_iload G.1 G.2.1 dL_rows_262 (lv_at hl 0 rfl) ?_
          refine gn_ne G (by omega) (by omega) (tgt := 271) dL_rows_264 (by decide) (fun h => absurd rfl h) (fun h_264 => ?_)
          refine lv_iconst (v := nI 1) G.1 G.2.1 dL_rows_267 (by decide) ?_
          refine lv_goto (tgt := 272) G.1 G.2.1 dL_rows_268 (by decide) ?_
          refine W.widen (k := 2) (n := 11) (show 0 + 1 ≤ 2 by omega) (show 0 + 6 ≤ 11 by omega) ?_
          exact W.zret G.1 G.2.1 G.2.2.1 rfl (fun t ht hW => ⟨nI 1, _, _, _, rfl, ⟨rfl, hli2, rfl, rfl⟩, by rw [ht]; exact hZ.1, hS.F ht⟩) hS.2.2 dL_rows_272 G.2.2.2.2.2.2
        · refine lv_bipush (v := -103) G.1 G.2.1 dL_rows_216 (by decide) ?_
          refine lv_goto (tgt := 238) G.1 G.2.1 dL_rows_218 (by decide) ?_
          refine lv_istore (lv' := [(10, .int ((-103))), (9, .int (nI 1)), (8, .int (nI ch)), (0, .ref (q 0)), (1, .int (nI 1)), (2, .int x), (3, .ref (a 0)), (4, .ref (a 1)), (5, .ref (a 2)), (6, .ref (a 3)), (7, .ref (a 4))]) G.1 G.2.1 dL_rows_238 hl (by decide) rfl (fun ls hl => ?_)
          refine lv_iload G.1 G.2.1 dL_rows_240 (lv_at hl 0 rfl) ?_
          refine lv_if_lt (tgt := 255) G.1 G.2.1 dL_rows_242 (by decide) (fun h_242 => ?_) (fun h => absurd (by decide) h)
          refine lv_aload_n G.1 G.2.1 dL_rows_255 rfl (lv_at hl 3 rfl) ?_
          refine lv_iconst (v := nI 0) G.1 G.2.1 dL_rows_256 (by decide) ?_
          refine lv_iload G.1 G.2.1 dL_rows_257 (lv_at hl 2 rfl) ?_
          refine gz_wrap (As := [.ref (q 0), .int (nI 0), .int (nI ch)]) (rest := []) G.fix (mL_chains_drop l hst D q cI N S tr _ hok hinv ((nI ch))) (vx_cwSW 3 G.2.2.2.2.2.1 gL_rows_L_chains rfl rfl rfl (by decide +kernel) ⟨Nat.le_of_ble_eq_true rfl, Nat.le_of_ble_eq_true rfl⟩) hZ hA hS rfl hl.1 rfl (Nat.le_of_ble_eq_true rfl) dL_rows_259 (show 0 + 1 ≤ 2 by omega) (show 0 + 6 ≤ 11 by omega) (fun r Nx Sx tr H locs hp hZ hS => ?_)
          obtain ⟨rfl, eN, eS⟩ := hp
          have hk_259 : sj_drop N S ((nI ch)) = 3 := gk_ttf (by simp only [sA_drop, Bool.and_eq_true, decide_eq_true_eq, gb_nI (show ch < 2 ^ 31 by omega), gn_nI (show ch < 2 ^ 31 by omega)] <;> omega) rfl (by apply Bool.eq_false_iff.mpr; intro h; simp only [sC_drop, Bool.and_eq_true, decide_eq_true_eq, gb_nI (show ch < 2 ^ 31 by omega), gn_nI (show ch < 2 ^ 31 by omega)] at h <;> omega)
          rw [hk_259] at eN eS
          have eN : Nx = N := eN
          have eS : Sx = S := eS
          rw [eN, eS] at hZ
          rw [hk_259, gRes_3]
          refine lv_iload G.1 G.2.1 dL_rows_262 (lv_at hl 0 rfl) ?_
          refine lv_icmp_ne (tgt := 271) G.1 G.2.1 dL_rows_264 (by decide) (fun h => absurd rfl h) (fun h_264 => ?_)
          refine lv_iconst (v := nI 1) G.1 G.2.1 dL_rows_267 (by decide) ?_
          refine lv_goto (tgt := 272) G.1 G.2.1 dL_rows_268 (by decide) ?_
          refine W.widen (k := 2) (n := 11) (show 0 + 1 ≤ 2 by omega) (show 0 + 6 ≤ 11 by omega) ?_
          exact W.zret G.1 G.2.1 G.2.2.1 rfl (fun t ht hW => ⟨nI 1, _, _, _, rfl, ⟨rfl, hli, rfl, rfl⟩, by rw [ht]; exact hZ.1, hS.F ht⟩) hS.2.2 dL_rows_272 G.2.2.2.2.2.2
    · have hg_chf := lg_gbf hg_ch
      refine gj_x (fun x => x = (nI 0)) 47 [] (fun x hx => ?_) (fun K_47 => ?_)
      · subst hx
        refine lv_istore (lv' := [(9, .int (nI 0)), (8, .int y5), (0, .ref (q 0)), (1, .int (nI 1)), (2, .int x), (3, .ref (a 0)), (4, .ref (a 1)), (5, .ref (a 2)), (6, .ref (a 3)), (7, .ref (a 4))]) G.1 G.2.1 dL_rows_47 hl (by decide) rfl (fun ls hl => ?_)
        refine lv_iload_n G.1 G.2.1 dL_rows_49 rfl (lv_at hl 3 rfl) ?_
        refine gn_nez G (by omega) (tgt := 181) dL_rows_50 (by decide) (fun h_50 => ?_) (fun h => absurd h (by omega))
        refine lv_iload_n G.1 G.2.1 dL_rows_181 rfl (lv_at hl 3 rfl) ?_
        refine lv_iconst (v := nI 1) G.1 G.2.1 dL_rows_182 (by decide) ?_
        refine gn_ne G (by omega) (by omega) (tgt := 273) dL_rows_183 (by decide) (fun h => absurd rfl h) (fun h_183 => ?_)
        refine lv_iload G.1 G.2.1 dL_rows_186 (lv_at hl 0 rfl) ?_
        refine gn_nez G (by omega) (tgt := 196) dL_rows_188 (by decide) (fun h => absurd rfl h) (fun h_188 => ?_)
        refine lv_bipush (v := -101) G.1 G.2.1 dL_rows_191 (by decide) ?_
        refine lv_goto (tgt := 238) G.1 G.2.1 dL_rows_193 (by decide) ?_
        refine lv_istore (lv' := [(10, .int ((-101))), (9, .int (nI 0)), (8, .int y5), (0, .ref (q 0)), (1, .int (nI 1)), (2, .int x), (3, .ref (a 0)), (4, .ref (a 1)), (5, .ref (a 2)), (6, .ref (a 3)), (7, .ref (a 4))]) G.1 G.2.1 dL_rows_238 hl (by decide) rfl (fun ls hl => ?_)
        refine lv_iload G.1 G.2.1 dL_rows_240 (lv_at hl 0 rfl) ?_
        refine lv_if_lt (tgt := 255) G.1 G.2.1 dL_rows_242 (by decide) (fun h_242 => ?_) (fun h => absurd (by decide) h)
        refine lv_aload_n G.1 G.2.1 dL_rows_255 rfl (lv_at hl 3 rfl) ?_
        refine lv_iconst (v := nI 0) G.1 G.2.1 dL_rows_256 (by decide) ?_
        refine lv_iload G.1 G.2.1 dL_rows_257 (lv_at hl 2 rfl) ?_
        refine gz_wrap (As := [.ref (q 0), .int (nI 0), .int y5]) (rest := []) G.fix (mL_chains_drop l hst D q cI N S tr _ hok hinv y5) (vx_cwSW 3 G.2.2.2.2.2.1 gL_rows_L_chains rfl rfl rfl (by decide +kernel) ⟨Nat.le_of_ble_eq_true rfl, Nat.le_of_ble_eq_true rfl⟩) hZ hA hS rfl hl.1 rfl (Nat.le_of_ble_eq_true rfl) dL_rows_259 (show 0 + 1 ≤ 2 by omega) (show 0 + 6 ≤ 11 by omega) (fun r Nx Sx tr H locs hp hZ hS => ?_)
        obtain ⟨rfl, eN, eS⟩ := hp
        have hk_259 : sj_drop N S y5 = 1 := gk_f (by simp [sA_drop, hg_chf])
        rw [hk_259] at eN eS
        have eN : Nx = N := eN
        have eS : Sx = S := eS
        rw [eN, eS] at hZ
        rw [hk_259, gRes_1]
        refine lv_iload G.1 G.2.1 dL_rows_262 (lv_at hl 0 rfl) ?_
        refine lv_icmp_ne (tgt := 271) G.1 G.2.1 dL_rows_264 (by decide) (fun h => absurd rfl h) (fun h_264 => ?_)
        refine lv_iconst (v := nI 1) G.1 G.2.1 dL_rows_267 (by decide) ?_
        refine lv_goto (tgt := 272) G.1 G.2.1 dL_rows_268 (by decide) ?_
        refine W.widen (k := 2) (n := 11) (show 0 + 1 ≤ 2 by omega) (show 0 + 6 ≤ 11 by omega) ?_
        exact W.zret G.1 G.2.1 G.2.2.1 rfl (fun t ht hW => ⟨nI 1, _, _, _, rfl, ⟨rfl, hli, rfl, rfl⟩, by rw [ht]; exact hZ.1, hS.F ht⟩) hS.2.2 dL_rows_272 G.2.2.2.2.2.2
      · refine lv_iload G.1 G.2.1 dL_rows_29 (lv_at hl 0 rfl) ?_
        refine lv_if_lt (tgt := 46) G.1 G.2.1 dL_rows_31 (by decide) (fun h_31 => ?_) (fun h_31 => ?_)
        · refine lv_iconst (v := nI 0) G.1 G.2.1 dL_rows_46 (by decide) ?_
          exact K_47 _ (rfl)
        · refine lv_iload G.1 G.2.1 dL_rows_34 (lv_at hl 0 rfl) ?_
          refine lv_aload_n G.1 G.2.1 dL_rows_36 rfl (lv_at hl 4 rfl) ?_
          refine lv_iconst (v := nI 1) G.1 G.2.1 dL_rows_37 (by decide) ?_
          refine gl_ald (k := 0) (len := 11) (F := fC N S) G hZ.r rfl (by omega) (by decide) dL_rows_38 ?_
          rw [fC_1]
          refine lv_icmp_ge (tgt := 46) G.1 G.2.1 dL_rows_39 (by decide) (fun h_39 => ?_) (fun h => (lg_gein (by omega) h_31 h hg_chf).elim)
          refine lv_iconst (v := nI 0) G.1 G.2.1 dL_rows_46 (by decide) ?_
          exact K_47 _ (rfl)
  · refine gn_nez G (by omega) (tgt := 25) dL_rows_18 (by decide) (fun h_18 => ?_) (fun h_18 => ?_)
    · refine lv_iconst (v := nI 0) G.1 G.2.1 dL_rows_25 (by decide) ?_
      exact K_26 _ (⟨_, rfl, by omega⟩)
    · refine lv_iconst (v := nI 1) G.1 G.2.1 dL_rows_21 (by decide) ?_
      refine lv_goto (tgt := 26) G.1 G.2.1 dL_rows_22 (by decide) ?_
      exact K_26 _ (⟨_, rfl, by omega⟩)
set_option maxRecDepth 100000 in
set_option maxHeartbeats 2000000 in
theorem mL_rows_2 (l : Launch) (hst : l.stackTraces = false) (D : va_G) (q a : Nat → Nat) (cI : ClassId) (N : Nat → Nat) (S : Nat → Nat → Nat) (tr : Nat → Nat) (A : Nat → Prop) (hli : li N S) (x : Int32) : Met l yL_rows wsL_rows { frames := 9, cells := 2, slots := 11, locals := 197 } (va_Pc [.ref (q 0), .int (nI 2), .int x, .ref (a 0), .ref (a 1), .ref (a 2), .ref (a 3), .ref (a 4)] (fun U => zBt D q a cI N S tr A U)) (gQz D q a cI (fun r N' S' => r = nI 1 ∧ li N' S' ∧ N' 0 = N 0 ∧ N' 5 = N 5) A) 2 11 A := by
  refine gc_met [.ref (q 0), .int (nI 2), .int x, .ref (a 0), .ref (a 1), .ref (a 2), .ref (a 3), .ref (a 4)] (by decide) rfl (Nat.le_of_ble_eq_true rfl) rfl ?_
  intro p e s m below meth c ls G hl hB
  obtain ⟨hZ, hA⟩ := hB
  have hli9 := hli
  obtain ⟨hok, hinv, hN0, hN5, h6⟩ := hli9
  have hok9 := hok
  obtain ⟨⟨ok0, ok5⟩, ok1, ok2, ok3, ok4, ok6, ok7, ok8, ok12, ok13, ok14⟩ := hok9
  have hZ0 : gZ A s s.heap := hZ.2.2.2
  have hS : va_S A s.heap s.heap [] := va_S.rf
  refine lv_iload_n G.1 G.2.1 dL_rows_0 rfl (lv_at hl 2 rfl) ?_
  refine lv_aload_n G.1 G.2.1 dL_rows_1 rfl (lv_at hl 3 rfl) ?_
  refine lv_iconst (v := nI 1) G.1 G.2.1 dL_rows_2 (by decide) ?_
  refine gl_ald (k := 0) (len := 11) (F := fC N S) G hZ.r rfl (by omega) (by decide) dL_rows_3 ?_
  rw [fC_1]
  refine lv_iconst (v := nI 1) G.1 G.2.1 dL_rows_4 (by decide) ?_
  refine gn_iadd G dL_rows_5 ?_
  refine gc_s (As := [.int x, .int (nI ((N 5) + 1))]) (rest := []) G.fix (mL_some l x ((N 5) + 1) (by omega) (by omega)) (va_cwS 2 G.2.2.2.2.2.1 gL_rows_L_some rfl rfl rfl (by decide +kernel) ⟨Nat.le_of_ble_eq_true rfl, Nat.le_of_ble_eq_true rfl⟩) gc_blindT (fun _ _ _ => trivial) rfl hl.1 rfl (Nat.le_of_ble_eq_true rfl) dL_rows_6 (show 0 ≤ 2 by omega) (show 0 ≤ 11 by omega) (fun r hr => ?_)
  obtain ⟨k1, hk1, rfl⟩ := hr
  refine lv_iload_n G.1 G.2.1 dL_rows_9 rfl (lv_at hl 2 rfl) ?_
  refine lv_bipush (v := nI 11) G.1 G.2.1 dL_rows_10 (by decide) ?_
  refine lv_ishr G.1 G.2.1 dL_rows_12 ?_
  refine lv_topi (fun y2 hy2 => ?_)
  refine lv_bipush (v := nI 19) G.1 G.2.1 dL_rows_13 (by decide) ?_
  refine gc_s (As := [.int y2, .int (nI 19)]) (rest := [.int (nI k1)]) G.fix (mL_some l y2 19 (by omega) (by omega)) (va_cwS 2 G.2.2.2.2.2.1 gL_rows_L_some rfl rfl rfl (by decide +kernel) ⟨Nat.le_of_ble_eq_true rfl, Nat.le_of_ble_eq_true rfl⟩) gc_blindT (fun _ _ _ => trivial) rfl hl.1 rfl (Nat.le_of_ble_eq_true rfl) dL_rows_15 (show 0 ≤ 2 by omega) (show 0 ≤ 11 by omega) (fun r hr => ?_)
  obtain ⟨k3, hk3, rfl⟩ := hr
  refine gj_x (fun x => ∃ e : Nat, x = nI e ∧ e ≤ 1) 26 [.int (nI k1)] (fun x hx => ?_) (fun K_26 => ?_)
  · obtain ⟨e4, rfl, he4⟩ := hx
    refine lv_isub G.1 G.2.1 dL_rows_26 ?_
    refine lv_topi (fun y5 hy5 => ?_)
    refine lv_istore (lv' := [(8, .int y5), (0, .ref (q 0)), (1, .int (nI 2)), (2, .int x), (3, .ref (a 0)), (4, .ref (a 1)), (5, .ref (a 2)), (6, .ref (a 3)), (7, .ref (a 4))]) G.1 G.2.1 dL_rows_27 hl (by decide) rfl (fun ls hl => ?_)
    by_cases hg_ch : gb y5 (N 5) = true
    · obtain ⟨ch, hch, rfl⟩ := gb_of (by omega) hg_ch
      have hb10 : S 10 ch = sp_bit (N 10) ch := (hinv.2.2.2.2.2.1 ch (by omega)).2
      have hb10b := sp_bit_lt (N 10) ch
      refine lv_iload G.1 G.2.1 dL_rows_29 (lv_at hl 0 rfl) ?_
      refine gn_ltz G (by omega) (tgt := 46) dL_rows_31 (by decide) ?_
      refine lv_iload G.1 G.2.1 dL_rows_34 (lv_at hl 0 rfl) ?_
      refine lv_aload_n G.1 G.2.1 dL_rows_36 rfl (lv_at hl 4 rfl) ?_
      refine lv_iconst (v := nI 1) G.1 G.2.1 dL_rows_37 (by decide) ?_
      refine gl_ald (k := 0) (len := 11) (F := fC N S) G hZ.r rfl (by omega) (by decide) dL_rows_38 ?_
      rw [fC_1]
      refine gn_ge G (by omega) (by omega) (tgt := 46) dL_rows_39 (by decide) (fun h => absurd h (by omega)) (fun h_39 => ?_)
      refine lv_iconst (v := nI 1) G.1 G.2.1 dL_rows_42 (by decide) ?_
      refine lv_goto (tgt := 47) G.1 G.2.1 dL_rows_43 (by decide) ?_
      refine lv_istore (lv' := [(9, .int (nI 1)), (8, .int (nI ch)), (0, .ref (q 0)), (1, .int (nI 2)), (2, .int x), (3, .ref (a 0)), (4, .ref (a 1)), (5, .ref (a 2)), (6, .ref (a 3)), (7, .ref (a 4))]) G.1 G.2.1 dL_rows_47 hl (by decide) rfl (fun ls hl => ?_)
      refine lv_iload_n G.1 G.2.1 dL_rows_49 rfl (lv_at hl 3 rfl) ?_
      refine gn_nez G (by omega) (tgt := 181) dL_rows_50 (by decide) (fun h_50 => ?_) (fun h => absurd h (by omega))
      refine lv_iload_n G.1 G.2.1 dL_rows_181 rfl (lv_at hl 3 rfl) ?_
      refine lv_iconst (v := nI 1) G.1 G.2.1 dL_rows_182 (by decide) ?_
      refine gn_ne G (by omega) (by omega) (tgt := 273) dL_rows_183 (by decide) (fun h_183 => ?_) (fun h => absurd h (by omega))
      refine lv_iload_n G.1 G.2.1 dL_rows_273 rfl (lv_at hl 3 rfl) ?_
      refine lv_iconst (v := nI 2) G.1 G.2.1 dL_rows_274 (by decide) ?_
      refine gn_ne G (by omega) (by omega) (tgt := 332) dL_rows_275 (by decide) (fun h => absurd rfl h) (fun h_275 => ?_)
      refine lv_iload G.1 G.2.1 dL_rows_278 (lv_at hl 0 rfl) ?_
      refine gn_eqz G (by omega) (tgt := 299) dL_rows_280 (by decide) (fun h => absurd h (by omega)) (fun h_280 => ?_)
      refine lv_aload_n G.1 G.2.1 dL_rows_283 rfl (lv_at hl 5 rfl) ?_
      refine lv_bipush (v := nI 6) G.1 G.2.1 dL_rows_284 (by decide) ?_
      refine lv_iload G.1 G.2.1 dL_rows_286 (lv_at hl 1 rfl) ?_
      refine gn_iadd G dL_rows_288 ?_
      refine lv_iconst (v := nI 1) G.1 G.2.1 dL_rows_289 (by decide) ?_
      refine lv_aload_n G.1 G.2.1 dL_rows_290 rfl (lv_at hl 5 rfl) ?_
      refine lv_bipush (v := nI 6) G.1 G.2.1 dL_rows_291 (by decide) ?_
      refine lv_iload G.1 G.2.1 dL_rows_293 (lv_at hl 1 rfl) ?_
      refine gn_iadd G dL_rows_295 ?_
      refine gl_ald (k := 0) (len := 11) (F := fC N S) G hZ.r rfl (by omega) (by decide) dL_rows_296 ?_
      rw [fC_10 (by omega)]
      refine gn_isub G dL_rows_297 (by omega) ?_
      refine gz_ast (k := 0) (len := 11) (F := fC N S) (i := 6 + ch) (v := 1 - (S 10 ch)) (N3 := (gu N 10 (N 10 ^^^ 2 ^ ch))) (S3 := (gs S 10 (gu (S 10) ch (1 - S 10 ch)))) G hZ0 hZ hS rfl (ls_c10 (by omega)) (by omega) (by decide) dL_rows_298 (fun H locs hZ hS => ?_)
      refine lv_aload_n G.1 G.2.1 dL_rows_299 rfl (lv_at hl 2 rfl) ?_
      refine lv_iconst (v := nI 1) G.1 G.2.1 dL_rows_300 (by decide) ?_
      refine lv_iload G.1 G.2.1 dL_rows_301 (lv_at hl 1 rfl) ?_
      refine gz_wrap (As := [.ref (q 0), .int (nI 1), .int (nI ch)]) (rest := []) G.fix (mL_chains_sign l hst D q cI N S tr _ hok hinv ((nI ch))) (vx_cwSW 3 G.2.2.2.2.2.1 gL_rows_L_chains rfl rfl rfl (by decide +kernel) ⟨Nat.le_of_ble_eq_true rfl, Nat.le_of_ble_eq_true rfl⟩) hZ hA hS rfl hl.1 rfl (Nat.le_of_ble_eq_true rfl) dL_rows_303 (show 0 + 1 ≤ 2 by omega) (show 0 + 6 ≤ 11 by omega) (fun r Nx Sx tr H locs hp hZ hS => ?_)
      obtain ⟨rfl, eN, eS⟩ := hp
      have hk_303 : sj_sign N S ((nI ch)) = 0 := gk_ttt (by simp only [sA_sign, Bool.and_eq_true, decide_eq_true_eq, gb_nI (show ch < 2 ^ 31 by omega), gn_nI (show ch < 2 ^ 31 by omega)] <;> omega) rfl rfl
      rw [hk_303] at eN eS
      have eN : Nx = sN_sign N S ((nI ch)) := eN
      have eS : Sx = sS_sign N S ((nI ch)) := eS
      rw [eN, eS] at hZ
      rw [hk_303, gRes_0]
      have hR_303 : sR_sign N S ((nI ch)) = 1 - sp_bit (N 10) ch := by simp only [sR_sign, gn_nI (show ch < 2 ^ 31 by omega)]
      rw [hR_303]
      have hN9 : sN_sign N S ((nI ch)) = (gu N 10 (N 10 ^^^ 2 ^ ch)) := by simp only [sN_sign, gn_nI (show ch < 2 ^ 31 by omega)]
      have hS9 : sS_sign N S ((nI ch)) = (gs S 10 (gu (S 10) ch (1 - S 10 ch))) := by simp only [sS_sign, gn_nI (show ch < 2 ^ 31 by omega)]
      have hli2 := li_sign hli hk_303
      rw [hN9, hS9] at hli2 hZ
      refine lv_iload G.1 G.2.1 dL_rows_306 (lv_at hl 0 rfl) ?_
      refine gn_eqz G (by omega) (tgt := 321) dL_rows_308 (by decide) (fun h => absurd h (by omega)) (fun h_308 => ?_)
      refine lv_aload_n G.1 G.2.1 dL_rows_311 rfl (lv_at hl 5 rfl) ?_
      refine lv_bipush (v := nI 6) G.1 G.2.1 dL_rows_312 (by decide) ?_
      refine lv_iload G.1 G.2.1 dL_rows_314 (lv_at hl 1 rfl) ?_
      refine gn_iadd G dL_rows_316 ?_
      refine gl_ald (k := 0) (len := 11) (F := fC ((gu N 10 (N 10 ^^^ 2 ^ ch))) ((gs S 10 (gu (S 10) ch (1 - S 10 ch))))) G hZ.r rfl (by omega) (by decide) dL_rows_317 ?_
      rw [fC_10 (by omega)]
      rw [gs_same, gu_same, hb10]
      refine lv_goto (tgt := 323) G.1 G.2.1 dL_rows_318 (by decide) ?_
      refine gn_ne G (by omega) (by omega) (tgt := 330) dL_rows_323 (by decide) (fun h => absurd rfl h) (fun h_323 => ?_)
      refine lv_iconst (v := nI 1) G.1 G.2.1 dL_rows_326 (by decide) ?_
      refine lv_goto (tgt := 331) G.1 G.2.1 dL_rows_327 (by decide) ?_
      refine W.widen (k := 2) (n := 11) (show 0 + 1 ≤ 2 by omega) (show 0 + 6 ≤ 11 by omega) ?_
      exact W.zret G.1 G.2.1 G.2.2.1 rfl (fun t ht hW => ⟨nI 1, _, _, _, rfl, ⟨rfl, hli2, rfl, rfl⟩, by rw [ht]; exact hZ.1, hS.F ht⟩) hS.2.2 dL_rows_331 G.2.2.2.2.2.2
    · have hg_chf := lg_gbf hg_ch
      refine gj_x (fun x => x = (nI 0)) 47 [] (fun x hx => ?_) (fun K_47 => ?_)
      · subst hx
        refine lv_istore (lv' := [(9, .int (nI 0)), (8, .int y5), (0, .ref (q 0)), (1, .int (nI 2)), (2, .int x), (3, .ref (a 0)), (4, .ref (a 1)), (5, .ref (a 2)), (6, .ref (a 3)), (7, .ref (a 4))]) G.1 G.2.1 dL_rows_47 hl (by decide) rfl (fun ls hl => ?_)
        refine lv_iload_n G.1 G.2.1 dL_rows_49 rfl (lv_at hl 3 rfl) ?_
        refine gn_nez G (by omega) (tgt := 181) dL_rows_50 (by decide) (fun h_50 => ?_) (fun h => absurd h (by omega))
        refine lv_iload_n G.1 G.2.1 dL_rows_181 rfl (lv_at hl 3 rfl) ?_
        refine lv_iconst (v := nI 1) G.1 G.2.1 dL_rows_182 (by decide) ?_
        refine gn_ne G (by omega) (by omega) (tgt := 273) dL_rows_183 (by decide) (fun h_183 => ?_) (fun h => absurd h (by omega))
        refine lv_iload_n G.1 G.2.1 dL_rows_273 rfl (lv_at hl 3 rfl) ?_
        refine lv_iconst (v := nI 2) G.1 G.2.1 dL_rows_274 (by decide) ?_
        refine gn_ne G (by omega) (by omega) (tgt := 332) dL_rows_275 (by decide) (fun h => absurd rfl h) (fun h_275 => ?_)
        refine lv_iload G.1 G.2.1 dL_rows_278 (lv_at hl 0 rfl) ?_
        refine gn_eqz G (by omega) (tgt := 299) dL_rows_280 (by decide) (fun h_280 => ?_) (fun h => absurd rfl h)
        refine lv_aload_n G.1 G.2.1 dL_rows_299 rfl (lv_at hl 2 rfl) ?_
        refine lv_iconst (v := nI 1) G.1 G.2.1 dL_rows_300 (by decide) ?_
        refine lv_iload G.1 G.2.1 dL_rows_301 (lv_at hl 1 rfl) ?_
        refine gz_wrap (As := [.ref (q 0), .int (nI 1), .int y5]) (rest := []) G.fix (mL_chains_sign l hst D q cI N S tr _ hok hinv y5) (vx_cwSW 3 G.2.2.2.2.2.1 gL_rows_L_chains rfl rfl rfl (by decide +kernel) ⟨Nat.le_of_ble_eq_true rfl, Nat.le_of_ble_eq_true rfl⟩) hZ hA hS rfl hl.1 rfl (Nat.le_of_ble_eq_true rfl) dL_rows_303 (show 0 + 1 ≤ 2 by omega) (show 0 + 6 ≤ 11 by omega) (fun r Nx Sx tr H locs hp hZ hS => ?_)
        obtain ⟨rfl, eN, eS⟩ := hp
        have hk_303 : sj_sign N S y5 = 1 := gk_f (by simp [sA_sign, hg_chf])
        rw [hk_303] at eN eS
        have eN : Nx = N := eN
        have eS : Sx = S := eS
        rw [eN, eS] at hZ
        rw [hk_303, gRes_1]
        refine lv_iload G.1 G.2.1 dL_rows_306 (lv_at hl 0 rfl) ?_
        refine gn_eqz G (by omega) (tgt := 321) dL_rows_308 (by decide) (fun h_308 => ?_) (fun h => absurd rfl h)
        refine lv_bipush (v := -101) G.1 G.2.1 dL_rows_321 (by decide) ?_
        refine lv_icmp_ne (tgt := 330) G.1 G.2.1 dL_rows_323 (by decide) (fun h => absurd rfl h) (fun h_323 => ?_)
        refine lv_iconst (v := nI 1) G.1 G.2.1 dL_rows_326 (by decide) ?_
        refine lv_goto (tgt := 331) G.1 G.2.1 dL_rows_327 (by decide) ?_
        refine W.widen (k := 2) (n := 11) (show 0 + 1 ≤ 2 by omega) (show 0 + 6 ≤ 11 by omega) ?_
        exact W.zret G.1 G.2.1 G.2.2.1 rfl (fun t ht hW => ⟨nI 1, _, _, _, rfl, ⟨rfl, hli, rfl, rfl⟩, by rw [ht]; exact hZ.1, hS.F ht⟩) hS.2.2 dL_rows_331 G.2.2.2.2.2.2
      · refine lv_iload G.1 G.2.1 dL_rows_29 (lv_at hl 0 rfl) ?_
        refine lv_if_lt (tgt := 46) G.1 G.2.1 dL_rows_31 (by decide) (fun h_31 => ?_) (fun h_31 => ?_)
        · refine lv_iconst (v := nI 0) G.1 G.2.1 dL_rows_46 (by decide) ?_
          exact K_47 _ (rfl)
        · refine lv_iload G.1 G.2.1 dL_rows_34 (lv_at hl 0 rfl) ?_
          refine lv_aload_n G.1 G.2.1 dL_rows_36 rfl (lv_at hl 4 rfl) ?_
          refine lv_iconst (v := nI 1) G.1 G.2.1 dL_rows_37 (by decide) ?_
          refine gl_ald (k := 0) (len := 11) (F := fC N S) G hZ.r rfl (by omega) (by decide) dL_rows_38 ?_
          rw [fC_1]
          refine lv_icmp_ge (tgt := 46) G.1 G.2.1 dL_rows_39 (by decide) (fun h_39 => ?_) (fun h => (lg_gein (by omega) h_31 h hg_chf).elim)
          refine lv_iconst (v := nI 0) G.1 G.2.1 dL_rows_46 (by decide) ?_
          exact K_47 _ (rfl)
  · refine gn_nez G (by omega) (tgt := 25) dL_rows_18 (by decide) (fun h_18 => ?_) (fun h_18 => ?_)
    · refine lv_iconst (v := nI 0) G.1 G.2.1 dL_rows_25 (by decide) ?_
      exact K_26 _ (⟨_, rfl, by omega⟩)
    · refine lv_iconst (v := nI 1) G.1 G.2.1 dL_rows_21 (by decide) ?_
      refine lv_goto (tgt := 26) G.1 G.2.1 dL_rows_22 (by decide) ?_
      exact K_26 _ (⟨_, rfl, by omega⟩)
set_option maxRecDepth 100000 in
set_option maxHeartbeats 2000000 in
theorem mL_rows_3 (l : Launch) (hst : l.stackTraces = false) (D : va_G) (q a : Nat → Nat) (cI : ClassId) (N : Nat → Nat) (S : Nat → Nat → Nat) (tr : Nat → Nat) (A : Nat → Prop) (hli : li N S) (x : Int32) : Met l yL_rows wsL_rows { frames := 9, cells := 2, slots := 11, locals := 197 } (va_Pc [.ref (q 0), .int (nI 3), .int x, .ref (a 0), .ref (a 1), .ref (a 2), .ref (a 3), .ref (a 4)] (fun U => zBt D q a cI N S tr A U)) (gQz D q a cI (fun r N' S' => r = nI 1 ∧ li N' S' ∧ N' 0 = N 0 ∧ N' 5 = N 5) A) 2 11 A := by
  refine gc_met [.ref (q 0), .int (nI 3), .int x, .ref (a 0), .ref (a 1), .ref (a 2), .ref (a 3), .ref (a 4)] (by decide) rfl (Nat.le_of_ble_eq_true rfl) rfl ?_
  intro p e s m below meth c ls G hl hB
  obtain ⟨hZ, hA⟩ := hB
  have hli9 := hli
  obtain ⟨hok, hinv, hN0, hN5, h6⟩ := hli9
  have hok9 := hok
  obtain ⟨⟨ok0, ok5⟩, ok1, ok2, ok3, ok4, ok6, ok7, ok8, ok12, ok13, ok14⟩ := hok9
  have hZ0 : gZ A s s.heap := hZ.2.2.2
  have hS : va_S A s.heap s.heap [] := va_S.rf
  refine lv_iload_n G.1 G.2.1 dL_rows_0 rfl (lv_at hl 2 rfl) ?_
  refine lv_aload_n G.1 G.2.1 dL_rows_1 rfl (lv_at hl 3 rfl) ?_
  refine lv_iconst (v := nI 1) G.1 G.2.1 dL_rows_2 (by decide) ?_
  refine gl_ald (k := 0) (len := 11) (F := fC N S) G hZ.r rfl (by omega) (by decide) dL_rows_3 ?_
  rw [fC_1]
  refine lv_iconst (v := nI 1) G.1 G.2.1 dL_rows_4 (by decide) ?_
  refine gn_iadd G dL_rows_5 ?_
  refine gc_s (As := [.int x, .int (nI ((N 5) + 1))]) (rest := []) G.fix (mL_some l x ((N 5) + 1) (by omega) (by omega)) (va_cwS 2 G.2.2.2.2.2.1 gL_rows_L_some rfl rfl rfl (by decide +kernel) ⟨Nat.le_of_ble_eq_true rfl, Nat.le_of_ble_eq_true rfl⟩) gc_blindT (fun _ _ _ => trivial) rfl hl.1 rfl (Nat.le_of_ble_eq_true rfl) dL_rows_6 (show 0 ≤ 2 by omega) (show 0 ≤ 11 by omega) (fun r hr => ?_)
  obtain ⟨k1, hk1, rfl⟩ := hr
  refine lv_iload_n G.1 G.2.1 dL_rows_9 rfl (lv_at hl 2 rfl) ?_
  refine lv_bipush (v := nI 11) G.1 G.2.1 dL_rows_10 (by decide) ?_
  refine lv_ishr G.1 G.2.1 dL_rows_12 ?_
  refine lv_topi (fun y2 hy2 => ?_)
  refine lv_bipush (v := nI 19) G.1 G.2.1 dL_rows_13 (by decide) ?_
  refine gc_s (As := [.int y2, .int (nI 19)]) (rest := [.int (nI k1)]) G.fix (mL_some l y2 19 (by omega) (by omega)) (va_cwS 2 G.2.2.2.2.2.1 gL_rows_L_some rfl rfl rfl (by decide +kernel) ⟨Nat.le_of_ble_eq_true rfl, Nat.le_of_ble_eq_true rfl⟩) gc_blindT (fun _ _ _ => trivial) rfl hl.1 rfl (Nat.le_of_ble_eq_true rfl) dL_rows_15 (show 0 ≤ 2 by omega) (show 0 ≤ 11 by omega) (fun r hr => ?_)
  obtain ⟨k3, hk3, rfl⟩ := hr
  refine gj_x (fun x => ∃ e : Nat, x = nI e ∧ e ≤ 1) 26 [.int (nI k1)] (fun x hx => ?_) (fun K_26 => ?_)
  · obtain ⟨e4, rfl, he4⟩ := hx
    refine lv_isub G.1 G.2.1 dL_rows_26 ?_
    refine lv_topi (fun y5 hy5 => ?_)
    refine lv_istore (lv' := [(8, .int y5), (0, .ref (q 0)), (1, .int (nI 3)), (2, .int x), (3, .ref (a 0)), (4, .ref (a 1)), (5, .ref (a 2)), (6, .ref (a 3)), (7, .ref (a 4))]) G.1 G.2.1 dL_rows_27 hl (by decide) rfl (fun ls hl => ?_)
    by_cases hg_ch : gb y5 (N 5) = true
    · obtain ⟨ch, hch, rfl⟩ := gb_of (by omega) hg_ch
      have hb10 : S 10 ch = sp_bit (N 10) ch := (hinv.2.2.2.2.2.1 ch (by omega)).2
      have hb10b := sp_bit_lt (N 10) ch
      refine lv_iload G.1 G.2.1 dL_rows_29 (lv_at hl 0 rfl) ?_
      refine gn_ltz G (by omega) (tgt := 46) dL_rows_31 (by decide) ?_
      refine lv_iload G.1 G.2.1 dL_rows_34 (lv_at hl 0 rfl) ?_
      refine lv_aload_n G.1 G.2.1 dL_rows_36 rfl (lv_at hl 4 rfl) ?_
      refine lv_iconst (v := nI 1) G.1 G.2.1 dL_rows_37 (by decide) ?_
      refine gl_ald (k := 0) (len := 11) (F := fC N S) G hZ.r rfl (by omega) (by decide) dL_rows_38 ?_
      rw [fC_1]
      refine gn_ge G (by omega) (by omega) (tgt := 46) dL_rows_39 (by decide) (fun h => absurd h (by omega)) (fun h_39 => ?_)
      refine lv_iconst (v := nI 1) G.1 G.2.1 dL_rows_42 (by decide) ?_
      refine lv_goto (tgt := 47) G.1 G.2.1 dL_rows_43 (by decide) ?_
      refine lv_istore (lv' := [(9, .int (nI 1)), (8, .int (nI ch)), (0, .ref (q 0)), (1, .int (nI 3)), (2, .int x), (3, .ref (a 0)), (4, .ref (a 1)), (5, .ref (a 2)), (6, .ref (a 3)), (7, .ref (a 4))]) G.1 G.2.1 dL_rows_47 hl (by decide) rfl (fun ls hl => ?_)
      refine lv_iload_n G.1 G.2.1 dL_rows_49 rfl (lv_at hl 3 rfl) ?_
      refine gn_nez G (by omega) (tgt := 181) dL_rows_50 (by decide) (fun h_50 => ?_) (fun h => absurd h (by omega))
      refine lv_iload_n G.1 G.2.1 dL_rows_181 rfl (lv_at hl 3 rfl) ?_
      refine lv_iconst (v := nI 1) G.1 G.2.1 dL_rows_182 (by decide) ?_
      refine gn_ne G (by omega) (by omega) (tgt := 273) dL_rows_183 (by decide) (fun h_183 => ?_) (fun h => absurd h (by omega))
      refine lv_iload_n G.1 G.2.1 dL_rows_273 rfl (lv_at hl 3 rfl) ?_
      refine lv_iconst (v := nI 2) G.1 G.2.1 dL_rows_274 (by decide) ?_
      refine gn_ne G (by omega) (by omega) (tgt := 332) dL_rows_275 (by decide) (fun h_275 => ?_) (fun h => absurd h (by omega))
      refine lv_iload_n G.1 G.2.1 dL_rows_332 rfl (lv_at hl 4 rfl) ?_
      refine lv_iconst (v := nI 4) G.1 G.2.1 dL_rows_333 (by decide) ?_
      refine lv_ishr G.1 G.2.1 dL_rows_334 ?_
      refine lv_topi (fun y6 hy6 => ?_)
      refine lv_bipush (v := nI 20) G.1 G.2.1 dL_rows_335 (by decide) ?_
      refine gc_s (As := [.int y6, .int (nI 20)]) (rest := []) G.fix (mL_some l y6 20 (by omega) (by omega)) (va_cwS 2 G.2.2.2.2.2.1 gL_rows_L_some rfl rfl rfl (by decide +kernel) ⟨Nat.le_of_ble_eq_true rfl, Nat.le_of_ble_eq_true rfl⟩) gc_blindT (fun _ _ _ => trivial) rfl hl.1 rfl (Nat.le_of_ble_eq_true rfl) dL_rows_337 (show 0 ≤ 2 by omega) (show 0 ≤ 11 by omega) (fun r hr => ?_)
      obtain ⟨k7, hk7, rfl⟩ := hr
      refine gj_x (fun x => ∃ e : Nat, x = nI e ∧ e ≤ 256) 373 [] (fun x hx => ?_) (fun K_373 => ?_)
      · obtain ⟨e8, rfl, he8⟩ := hx
        refine lv_istore (lv' := [(10, .int (nI e8)), (9, .int (nI 1)), (8, .int (nI ch)), (0, .ref (q 0)), (1, .int (nI 3)), (2, .int x), (3, .ref (a 0)), (4, .ref (a 1)), (5, .ref (a 2)), (6, .ref (a 3)), (7, .ref (a 4))]) G.1 G.2.1 dL_rows_373 hl (by decide) rfl (fun ls hl => ?_)
        refine lv_iload G.1 G.2.1 dL_rows_375 (lv_at hl 1 rfl) ?_
        refine gn_eqz G (by omega) (tgt := 395) dL_rows_377 (by decide) (fun h => absurd h (by omega)) (fun h_377 => ?_)
        refine lv_aload_n G.1 G.2.1 dL_rows_380 rfl (lv_at hl 6 rfl) ?_
        refine lv_aload G.1 G.2.1 dL_rows_381 (lv_at hl 7 rfl) ?_
        refine lv_aload G.1 G.2.1 dL_rows_383 (lv_at hl 8 rfl) ?_
        refine lv_aload G.1 G.2.1 dL_rows_385 (lv_at hl 9 rfl) ?_
        refine lv_iload G.1 G.2.1 dL_rows_387 (lv_at hl 2 rfl) ?_
        refine gz_grow (As := [.ref (a 0), .ref (a 1), .ref (a 2), .ref (a 3), .int (nI ch)]) (rest := []) (mc := 1) (ms := 5) G.fix (mL_gap l D a cI N S hok h6 ch (by omega)) (va_cwS 5 G.2.2.2.2.2.1 gL_rows_L_gap rfl rfl rfl (by decide +kernel) ⟨Nat.le_of_ble_eq_true rfl, Nat.le_of_ble_eq_true rfl⟩) hZ hS rfl hl.1 rfl (Nat.le_of_ble_eq_true rfl) dL_rows_389 (show 0 + 1 ≤ 2 by omega) (show 0 + 5 ≤ 11 by omega) (fun r H locs hr hZ hS => ?_)
        subst hr
        have hv_389 : sp_gap S ch ≤ 255 := sp_gapTo_le (ch := ch) hok 768
        refine lv_goto (tgt := 396) G.1 G.2.1 dL_rows_392 (by decide) ?_
        refine lv_istore (lv' := [(11, .int (nI (sp_gap S ch))), (10, .int (nI e8)), (9, .int (nI 1)), (8, .int (nI ch)), (0, .ref (q 0)), (1, .int (nI 3)), (2, .int x), (3, .ref (a 0)), (4, .ref (a 1)), (5, .ref (a 2)), (6, .ref (a 3)), (7, .ref (a 4))]) G.1 G.2.1 dL_rows_396 hl (by decide) rfl (fun ls hl => ?_)
        refine lv_iload G.1 G.2.1 dL_rows_398 (lv_at hl 2 rfl) ?_
        refine gn_nez G (by omega) (tgt := 408) dL_rows_400 (by decide) (fun h_400 => ?_) (fun h => absurd h (by omega))
        refine lv_iload G.1 G.2.1 dL_rows_408 (lv_at hl 1 rfl) ?_
        refine lv_sipush (v := nI 255) G.1 G.2.1 dL_rows_410 (by decide) ?_
        refine gn_le G (by omega) (by omega) (tgt := 421) dL_rows_413 (by decide) (fun h_413 => ?_) (fun h_413 => ?_)
        · refine lv_iload G.1 G.2.1 dL_rows_421 (lv_at hl 0 rfl) ?_
          refine lv_iload G.1 G.2.1 dL_rows_423 (lv_at hl 1 rfl) ?_
          refine gn_le G (by omega) (by omega) (tgt := 433) dL_rows_425 (by decide) (fun h_425 => ?_) (fun h_425 => ?_)
          · refine lv_iload G.1 G.2.1 dL_rows_433 (lv_at hl 0 rfl) ?_
            refine lv_istore (lv' := [(12, .int (nI (sp_gap S ch))), (11, .int (nI (sp_gap S ch))), (10, .int (nI e8)), (9, .int (nI 1)), (8, .int (nI ch)), (0, .ref (q 0)), (1, .int (nI 3)), (2, .int x), (3, .ref (a 0)), (4, .ref (a 1)), (5, .ref (a 2)), (6, .ref (a 3)), (7, .ref (a 4))]) G.1 G.2.1 dL_rows_435 hl (by decide) rfl (fun ls hl => ?_)
            refine lv_iconst (v := nI 0) G.1 G.2.1 dL_rows_437 (by decide) ?_
            refine lv_istore (lv' := [(13, .int (nI 0)), (12, .int (nI (sp_gap S ch))), (11, .int (nI (sp_gap S ch))), (10, .int (nI e8)), (9, .int (nI 1)), (8, .int (nI ch)), (0, .ref (q 0)), (1, .int (nI 3)), (2, .int x), (3, .ref (a 0)), (4, .ref (a 1)), (5, .ref (a 2)), (6, .ref (a 3)), (7, .ref (a 4))]) G.1 G.2.1 dL_rows_438 hl (by decide) rfl (fun ls hl => ?_)
            refine gj_loopW (fun j H locs ls => zAt D q a cI N S tr N (ljS S ch j) A s H ∧ va_S A s.heap H locs ∧ lv_has ls 14 [(13, .int (nI j)), (12, .int (nI (sp_gap S ch))), (11, .int (nI (sp_gap S ch))), (10, .int (nI e8)), (9, .int (nI 1)), (8, .int (nI ch)), (0, .ref (q 0)), (1, .int (nI 3)), (2, .int x), (3, .ref (a 0)), (4, .ref (a 1)), (5, .ref (a 2)), (6, .ref (a 3)), (7, .ref (a 4))]) (fun _ => 0 + 1) (fun _ => 0 + 5) 15 ⟨zAt.cast lj_0 hZ, hS, lv_sub hl [0, 1, 2, 3, 4, 5, 6, 7, 8, 9, 10, 11, 12, 13] rfl⟩ (Nat.le_refl _) (Nat.le_refl _) (fun j H locs ls hj440 hI kk440 => ?_) (fun H locs ls hI => ?_)
            · obtain ⟨hZ, hS, hl⟩ := hI
              refine lv_iload G.1 G.2.1 dL_rows_440 (lv_at hl 0 rfl) ?_
              refine lv_bipush (v := nI 15) G.1 G.2.1 dL_rows_442 (by decide) ?_
              refine gn_ge G (by omega) (by omega) (tgt := 499) dL_rows_444 (by decide) (fun h => absurd h (by omega)) (fun h_444 => ?_)
              refine lv_iload G.1 G.2.1 dL_rows_447 (lv_at hl 1 rfl) ?_
              refine gn_ltz G (by omega) (tgt := 499) dL_rows_449 (by decide) ?_
              refine lv_aload G.1 G.2.1 dL_rows_452 (lv_at hl 13 rfl) ?_
              refine lv_bipush (v := nI 15) G.1 G.2.1 dL_rows_454 (by decide) ?_
              refine lv_iload G.1 G.2.1 dL_rows_456 (lv_at hl 5 rfl) ?_
              refine gn_imul G dL_rows_458 ?_
              refine lv_iload G.1 G.2.1 dL_rows_459 (lv_at hl 0 rfl) ?_
              refine gn_iadd G dL_rows_461 ?_
              refine lv_aload_n G.1 G.2.1 dL_rows_462 rfl (lv_at hl 9 rfl) ?_
              refine lv_aload G.1 G.2.1 dL_rows_463 (lv_at hl 10 rfl) ?_
              refine lv_aload G.1 G.2.1 dL_rows_465 (lv_at hl 11 rfl) ?_
              refine lv_aload G.1 G.2.1 dL_rows_467 (lv_at hl 12 rfl) ?_
              refine lv_iload G.1 G.2.1 dL_rows_469 (lv_at hl 5 rfl) ?_
              refine lv_iload G.1 G.2.1 dL_rows_471 (lv_at hl 0 rfl) ?_
              refine lv_iconst (v := nI 5) G.1 G.2.1 dL_rows_473 (by decide) ?_
              refine gn_idiv G dL_rows_474 (by omega) (by omega) (by omega) ?_
              refine lv_iload G.1 G.2.1 dL_rows_475 (lv_at hl 0 rfl) ?_
              refine lv_iconst (v := nI 5) G.1 G.2.1 dL_rows_477 (by decide) ?_
              refine gn_irem G dL_rows_478 (by omega) (by omega) (by omega) ?_
              refine gc_s (As := [.int (nI (j % 5))]) (rest := [.int (nI (j / 5)), .int (nI ch), .ref (a 3), .ref (a 2), .ref (a 1), .ref (a 0), .int (nI ((15 * ch) + j)), .ref (a 4)]) G.fix (mL_at l (j % 5) (by omega)) (va_cwS 1 G.2.2.2.2.2.1 gL_rows_L_at rfl rfl rfl (by decide +kernel) ⟨Nat.le_of_ble_eq_true rfl, Nat.le_of_ble_eq_true rfl⟩) gc_blindT (fun _ _ _ => trivial) rfl hl.1 rfl (Nat.le_of_ble_eq_true rfl) dL_rows_479 (show 0 + 1 ≤ 2 by omega) (show 0 + 5 ≤ 11 by omega) (fun r hr => ?_)
              subst hr
              have hv_479 := sp_vop_le (k := j % 5)
              refine gc_s (As := [.ref (a 0), .ref (a 1), .ref (a 2), .ref (a 3), .int (nI ch), .int (nI (j / 5)), .int (nI (sp_vop (j % 5)))]) (rest := [.int (nI ((15 * ch) + j)), .ref (a 4)]) G.fix (mL_through l D a cI N ((ljS S ch j)) (ljS_ok hok) (ljS_6 h6) ch (j / 5) (sp_vop (j % 5)) (by omega) (by omega) (by omega)) (va_cwS 7 G.2.2.2.2.2.1 gL_rows_L_through rfl rfl rfl (by decide +kernel) ⟨Nat.le_of_ble_eq_true rfl, Nat.le_of_ble_eq_true rfl⟩) lrAt_blind (fun U hU hW => by rw [hU]; exact hZ.r.moved hW) rfl hl.1 rfl (Nat.le_of_ble_eq_true rfl) dL_rows_482 (show 0 + 1 ≤ 2 by omega) (show 0 + 5 ≤ 11 by omega) (fun r hr => ?_)
              subst hr
              rw [ljS_pass]
              have hv_482 := sp_pass_le (ch := ch) (b := j / 5) (v := sp_vop (j % 5)) hok (by omega)
              refine gz_ast (k := 4) (len := 30) (F := ((ljS S ch j)) 8) (i := (15 * ch) + j) (v := sp_pass S ch (j / 5) (sp_vop (j % 5))) (N3 := N) (S3 := (lj1 S ch j)) G hZ0 hZ hS rfl (by rw [show (15 * ch) + j = ch * 15 + j from by omega]; exact lj_k) (by omega) (by decide) dL_rows_485 (fun H locs hZ hS => ?_)
              refine lv_aload_n G.1 G.2.1 dL_rows_486 rfl (lv_at hl 9 rfl) ?_
              refine lv_iconst (v := nI 4) G.1 G.2.1 dL_rows_487 (by decide) ?_
              refine lv_iload G.1 G.2.1 dL_rows_488 (lv_at hl 5 rfl) ?_
              refine gn_iadd G dL_rows_490 ?_
              refine lv_iconst (v := nI 1) G.1 G.2.1 dL_rows_491 (by decide) ?_
              refine gz_ast (k := 0) (len := 11) (F := fC N ((lj1 S ch j))) (i := 4 + ch) (v := 1) (N3 := N) (S3 := (ljS S ch (j + 1))) G hZ0 hZ hS rfl (lj_c (by omega)) (by omega) (by decide) dL_rows_492 (fun H locs hZ hS => ?_)
              refine gn_iinc (lv' := [(13, .int (nI (j + 1))), (12, .int (nI (sp_gap S ch))), (11, .int (nI (sp_gap S ch))), (10, .int (nI e8)), (9, .int (nI 1)), (8, .int (nI ch)), (0, .ref (q 0)), (1, .int (nI 3)), (2, .int x), (3, .ref (a 0)), (4, .ref (a 1)), (5, .ref (a 2)), (6, .ref (a 3)), (7, .ref (a 4))]) (n := 1) G dL_rows_493 hl (k := 0) rfl (by decide) rfl (fun ls hl => ?_)
              refine lv_goto (tgt := 440) G.1 G.2.1 dL_rows_496 (by decide) ?_
              exact kk440 _ _ _ ⟨hZ, hS, lv_sub hl [0, 1, 2, 3, 4, 5, 6, 7, 8, 9, 10, 11, 12, 13] rfl⟩
            · obtain ⟨hZ, hS, hl⟩ := hI
              have hZ := zAt.cast lj_15 hZ
              refine lv_iload G.1 G.2.1 dL_rows_440 (lv_at hl 0 rfl) ?_
              refine lv_bipush (v := nI 15) G.1 G.2.1 dL_rows_442 (by decide) ?_
              refine gn_ge G (by omega) (by omega) (tgt := 499) dL_rows_444 (by decide) (fun h_444 => ?_) (fun h => absurd h (by omega))
              refine lv_aload_n G.1 G.2.1 dL_rows_499 rfl (lv_at hl 6 rfl) ?_
              refine lv_iconst (v := nI 2) G.1 G.2.1 dL_rows_500 (by decide) ?_
              refine lv_iload G.1 G.2.1 dL_rows_501 (lv_at hl 5 rfl) ?_
              refine lv_iload G.1 G.2.1 dL_rows_503 (lv_at hl 3 rfl) ?_
              refine gz_wrap (As := [.ref (q 0), .int (nI 2), .int (nI ch), .int (nI e8)]) (rest := []) G.fix (mL_sets_join l hst D q cI N S tr _ hok hinv ((nI ch)) ((nI e8))) (vx_cwSW 4 G.2.2.2.2.2.1 gL_rows_L_sets rfl rfl rfl (by decide +kernel) ⟨Nat.le_of_ble_eq_true rfl, Nat.le_of_ble_eq_true rfl⟩) hZ hA hS rfl hl.1 rfl (Nat.le_of_ble_eq_true rfl) dL_rows_505 (show 0 + 1 + 1 ≤ 2 by omega) (show 0 + 5 + 6 ≤ 11 by omega) (fun r Nx Sx tr H locs hp hZ hS => ?_)
              obtain ⟨rfl, eN, eS⟩ := hp
              have hk_505 : sj_join N S ((nI ch)) ((nI e8)) = 0 := gk_ttt (by simp only [sA_join, Bool.and_eq_true, decide_eq_true_eq, gb_nI (show ch < 2 ^ 31 by omega), gn_nI (show ch < 2 ^ 31 by omega), gb_nI (show e8 < 2 ^ 31 by omega), gn_nI (show e8 < 2 ^ 31 by omega)] <;> omega) (by simp only [sB_join, Bool.and_eq_true, decide_eq_true_eq, gb_nI (show ch < 2 ^ 31 by omega), gn_nI (show ch < 2 ^ 31 by omega), gb_nI (show e8 < 2 ^ 31 by omega), gn_nI (show e8 < 2 ^ 31 by omega)] <;> omega) (by simp only [sC_join, Bool.and_eq_true, decide_eq_true_eq, gb_nI (show ch < 2 ^ 31 by omega), gn_nI (show ch < 2 ^ 31 by omega), gb_nI (show e8 < 2 ^ 31 by omega), gn_nI (show e8 < 2 ^ 31 by omega)] <;> omega)
              rw [hk_505] at eN eS
              have eN : Nx = sN_join N S ((nI ch)) ((nI e8)) := eN
              have eS : Sx = sS_join N S ((nI ch)) ((nI e8)) := eS
              rw [eN, eS] at hZ
              rw [hk_505, gRes_0]
              have hR_505 : sR_join N S ((nI ch)) ((nI e8)) = sp_gap S ch := by simp only [sR_join, gn_nI (show ch < 2 ^ 31 by omega), gn_nI (show e8 < 2 ^ 31 by omega)]
              rw [hR_505]
              have hN9 : sN_join N S ((nI ch)) ((nI e8)) = (gu N 9 (N 9 ||| 2 ^ ch)) := by simp only [sN_join, gn_nI (show ch < 2 ^ 31 by omega), gn_nI (show e8 < 2 ^ 31 by omega)]
              have hS9 : sS_join N S ((nI ch)) ((nI e8)) = (gs (gs S 8 (sp_kpTo S ch 15)) 9 (gu (S 9) ch 1)) := by simp only [sS_join, gn_nI (show ch < 2 ^ 31 by omega), gn_nI (show e8 < 2 ^ 31 by omega)]
              have hli2 := li_join hli hk_505
              rw [hN9, hS9] at hli2 hZ
              refine lv_iload G.1 G.2.1 dL_rows_508 (lv_at hl 1 rfl) ?_
              refine gn_ne G (by omega) (by omega) (tgt := 517) dL_rows_510 (by decide) (fun h => absurd rfl h) (fun h_510 => ?_)
              refine lv_iconst (v := nI 1) G.1 G.2.1 dL_rows_513 (by decide) ?_
              refine lv_goto (tgt := 518) G.1 G.2.1 dL_rows_514 (by decide) ?_
              refine W.widen (k := 2) (n := 11) (show 0 + 1 + 1 ≤ 2 by omega) (show 0 + 5 + 6 ≤ 11 by omega) ?_
              exact W.zret G.1 G.2.1 G.2.2.1 rfl (fun t ht hW => ⟨nI 1, _, _, _, rfl, ⟨rfl, hli2, rfl, rfl⟩, by rw [ht]; exact hZ.1, hS.F ht⟩) hS.2.2 dL_rows_518 G.2.2.2.2.2.2
          · refine lv_bipush (v := -103) G.1 G.2.1 dL_rows_428 (by decide) ?_
            refine lv_goto (tgt := 435) G.1 G.2.1 dL_rows_430 (by decide) ?_
            refine lv_istore (lv' := [(12, .int ((-103))), (11, .int (nI (sp_gap S ch))), (10, .int (nI e8)), (9, .int (nI 1)), (8, .int (nI ch)), (0, .ref (q 0)), (1, .int (nI 3)), (2, .int x), (3, .ref (a 0)), (4, .ref (a 1)), (5, .ref (a 2)), (6, .ref (a 3)), (7, .ref (a 4))]) G.1 G.2.1 dL_rows_435 hl (by decide) rfl (fun ls hl => ?_)
            refine lv_iconst (v := nI 0) G.1 G.2.1 dL_rows_437 (by decide) ?_
            refine lv_istore (lv' := [(13, .int (nI 0)), (12, .int ((-103))), (11, .int (nI (sp_gap S ch))), (10, .int (nI e8)), (9, .int (nI 1)), (8, .int (nI ch)), (0, .ref (q 0)), (1, .int (nI 3)), (2, .int x), (3, .ref (a 0)), (4, .ref (a 1)), (5, .ref (a 2)), (6, .ref (a 3)), (7, .ref (a 4))]) G.1 G.2.1 dL_rows_438 hl (by decide) rfl (fun ls hl => ?_)
            refine lv_iload G.1 G.2.1 dL_rows_440 (lv_at hl 0 rfl) ?_
            refine lv_bipush (v := nI 15) G.1 G.2.1 dL_rows_442 (by decide) ?_
            refine gn_ge G (by omega) (by omega) (tgt := 499) dL_rows_444 (by decide) (fun h => absurd h (by omega)) (fun h_444 => ?_)
            refine lv_iload G.1 G.2.1 dL_rows_447 (lv_at hl 1 rfl) ?_
            refine lv_if_lt (tgt := 499) G.1 G.2.1 dL_rows_449 (by decide) (fun h_449 => ?_) (fun h => absurd (by decide) h)
            refine lv_aload_n G.1 G.2.1 dL_rows_499 rfl (lv_at hl 6 rfl) ?_
            refine lv_iconst (v := nI 2) G.1 G.2.1 dL_rows_500 (by decide) ?_
            refine lv_iload G.1 G.2.1 dL_rows_501 (lv_at hl 5 rfl) ?_
            refine lv_iload G.1 G.2.1 dL_rows_503 (lv_at hl 3 rfl) ?_
            refine gz_wrap (As := [.ref (q 0), .int (nI 2), .int (nI ch), .int (nI e8)]) (rest := []) G.fix (mL_sets_join l hst D q cI N S tr _ hok hinv ((nI ch)) ((nI e8))) (vx_cwSW 4 G.2.2.2.2.2.1 gL_rows_L_sets rfl rfl rfl (by decide +kernel) ⟨Nat.le_of_ble_eq_true rfl, Nat.le_of_ble_eq_true rfl⟩) hZ hA hS rfl hl.1 rfl (Nat.le_of_ble_eq_true rfl) dL_rows_505 (show 0 + 1 + 1 ≤ 2 by omega) (show 0 + 5 + 6 ≤ 11 by omega) (fun r Nx Sx tr H locs hp hZ hS => ?_)
            obtain ⟨rfl, eN, eS⟩ := hp
            have hk_505 : sj_join N S ((nI ch)) ((nI e8)) = 3 := gk_ttf (by simp only [sA_join, Bool.and_eq_true, decide_eq_true_eq, gb_nI (show ch < 2 ^ 31 by omega), gn_nI (show ch < 2 ^ 31 by omega), gb_nI (show e8 < 2 ^ 31 by omega), gn_nI (show e8 < 2 ^ 31 by omega)] <;> omega) (by simp only [sB_join, Bool.and_eq_true, decide_eq_true_eq, gb_nI (show ch < 2 ^ 31 by omega), gn_nI (show ch < 2 ^ 31 by omega), gb_nI (show e8 < 2 ^ 31 by omega), gn_nI (show e8 < 2 ^ 31 by omega)] <;> omega) (by apply Bool.eq_false_iff.mpr; intro h; simp only [sC_join, Bool.and_eq_true, decide_eq_true_eq, gb_nI (show ch < 2 ^ 31 by omega), gn_nI (show ch < 2 ^ 31 by omega), gb_nI (show e8 < 2 ^ 31 by omega), gn_nI (show e8 < 2 ^ 31 by omega)] at h <;> omega)
            rw [hk_505] at eN eS
            have eN : Nx = N := eN
            have eS : Sx = S := eS
            rw [eN, eS] at hZ
            rw [hk_505, gRes_3]
            refine lv_iload G.1 G.2.1 dL_rows_508 (lv_at hl 1 rfl) ?_
            refine lv_icmp_ne (tgt := 517) G.1 G.2.1 dL_rows_510 (by decide) (fun h => absurd rfl h) (fun h_510 => ?_)
            refine lv_iconst (v := nI 1) G.1 G.2.1 dL_rows_513 (by decide) ?_
            refine lv_goto (tgt := 518) G.1 G.2.1 dL_rows_514 (by decide) ?_
            refine W.widen (k := 2) (n := 11) (show 0 + 1 + 1 ≤ 2 by omega) (show 0 + 5 + 6 ≤ 11 by omega) ?_
            exact W.zret G.1 G.2.1 G.2.2.1 rfl (fun t ht hW => ⟨nI 1, _, _, _, rfl, ⟨rfl, hli, rfl, rfl⟩, by rw [ht]; exact hZ.1, hS.F ht⟩) hS.2.2 dL_rows_518 G.2.2.2.2.2.2
        · refine lv_bipush (v := -102) G.1 G.2.1 dL_rows_416 (by decide) ?_
          refine lv_goto (tgt := 435) G.1 G.2.1 dL_rows_418 (by decide) ?_
          refine lv_istore (lv' := [(12, .int ((-102))), (11, .int (nI (sp_gap S ch))), (10, .int (nI e8)), (9, .int (nI 1)), (8, .int (nI ch)), (0, .ref (q 0)), (1, .int (nI 3)), (2, .int x), (3, .ref (a 0)), (4, .ref (a 1)), (5, .ref (a 2)), (6, .ref (a 3)), (7, .ref (a 4))]) G.1 G.2.1 dL_rows_435 hl (by decide) rfl (fun ls hl => ?_)
          refine lv_iconst (v := nI 0) G.1 G.2.1 dL_rows_437 (by decide) ?_
          refine lv_istore (lv' := [(13, .int (nI 0)), (12, .int ((-102))), (11, .int (nI (sp_gap S ch))), (10, .int (nI e8)), (9, .int (nI 1)), (8, .int (nI ch)), (0, .ref (q 0)), (1, .int (nI 3)), (2, .int x), (3, .ref (a 0)), (4, .ref (a 1)), (5, .ref (a 2)), (6, .ref (a 3)), (7, .ref (a 4))]) G.1 G.2.1 dL_rows_438 hl (by decide) rfl (fun ls hl => ?_)
          refine lv_iload G.1 G.2.1 dL_rows_440 (lv_at hl 0 rfl) ?_
          refine lv_bipush (v := nI 15) G.1 G.2.1 dL_rows_442 (by decide) ?_
          refine gn_ge G (by omega) (by omega) (tgt := 499) dL_rows_444 (by decide) (fun h => absurd h (by omega)) (fun h_444 => ?_)
          refine lv_iload G.1 G.2.1 dL_rows_447 (lv_at hl 1 rfl) ?_
          refine lv_if_lt (tgt := 499) G.1 G.2.1 dL_rows_449 (by decide) (fun h_449 => ?_) (fun h => absurd (by decide) h)
          refine lv_aload_n G.1 G.2.1 dL_rows_499 rfl (lv_at hl 6 rfl) ?_
          refine lv_iconst (v := nI 2) G.1 G.2.1 dL_rows_500 (by decide) ?_
          refine lv_iload G.1 G.2.1 dL_rows_501 (lv_at hl 5 rfl) ?_
          refine lv_iload G.1 G.2.1 dL_rows_503 (lv_at hl 3 rfl) ?_
          refine gz_wrap (As := [.ref (q 0), .int (nI 2), .int (nI ch), .int (nI e8)]) (rest := []) G.fix (mL_sets_join l hst D q cI N S tr _ hok hinv ((nI ch)) ((nI e8))) (vx_cwSW 4 G.2.2.2.2.2.1 gL_rows_L_sets rfl rfl rfl (by decide +kernel) ⟨Nat.le_of_ble_eq_true rfl, Nat.le_of_ble_eq_true rfl⟩) hZ hA hS rfl hl.1 rfl (Nat.le_of_ble_eq_true rfl) dL_rows_505 (show 0 + 1 + 1 ≤ 2 by omega) (show 0 + 5 + 6 ≤ 11 by omega) (fun r Nx Sx tr H locs hp hZ hS => ?_)
          obtain ⟨rfl, eN, eS⟩ := hp
          have hk_505 : sj_join N S ((nI ch)) ((nI e8)) = 2 := gk_tf (by simp only [sA_join, Bool.and_eq_true, decide_eq_true_eq, gb_nI (show ch < 2 ^ 31 by omega), gn_nI (show ch < 2 ^ 31 by omega), gb_nI (show e8 < 2 ^ 31 by omega), gn_nI (show e8 < 2 ^ 31 by omega)] <;> omega) (by apply Bool.eq_false_iff.mpr; intro h; simp only [sB_join, Bool.and_eq_true, decide_eq_true_eq, gb_nI (show ch < 2 ^ 31 by omega), gn_nI (show ch < 2 ^ 31 by omega), gb_nI (show e8 < 2 ^ 31 by omega), gn_nI (show e8 < 2 ^ 31 by omega)] at h <;> omega)
          rw [hk_505] at eN eS
          have eN : Nx = N := eN
          have eS : Sx = S := eS
          rw [eN, eS] at hZ
          rw [hk_505, gRes_2]
          refine lv_iload G.1 G.2.1 dL_rows_508 (lv_at hl 1 rfl) ?_
          refine lv_icmp_ne (tgt := 517) G.1 G.2.1 dL_rows_510 (by decide) (fun h => absurd rfl h) (fun h_510 => ?_)
          refine lv_iconst (v := nI 1) G.1 G.2.1 dL_rows_513 (by decide) ?_
          refine lv_goto (tgt := 518) G.1 G.2.1 dL_rows_514 (by decide) ?_
          refine W.widen (k := 2) (n := 11) (show 0 + 1 + 1 ≤ 2 by omega) (show 0 + 5 + 6 ≤ 11 by omega) ?_
          exact W.zret G.1 G.2.1 G.2.2.1 rfl (fun t ht hW => ⟨nI 1, _, _, _, rfl, ⟨rfl, hli, rfl, rfl⟩, by rw [ht]; exact hZ.1, hS.F ht⟩) hS.2.2 dL_rows_518 G.2.2.2.2.2.2
      · refine gn_nez G (by omega) (tgt := 349) dL_rows_340 (by decide) (fun h_340 => ?_) (fun h_340 => ?_)
        · refine lv_iload_n G.1 G.2.1 dL_rows_349 rfl (lv_at hl 4 rfl) ?_
          refine lv_iconst (v := nI 4) G.1 G.2.1 dL_rows_350 (by decide) ?_
          refine lv_ishr G.1 G.2.1 dL_rows_351 ?_
          refine lv_topi (fun y9 hy9 => ?_)
          refine lv_iconst (v := nI 3) G.1 G.2.1 dL_rows_352 (by decide) ?_
          refine gc_s (As := [.int y9, .int (nI 3)]) (rest := []) G.fix (mL_some l y9 3 (by omega) (by omega)) (va_cwS 2 G.2.2.2.2.2.1 gL_rows_L_some rfl rfl rfl (by decide +kernel) ⟨Nat.le_of_ble_eq_true rfl, Nat.le_of_ble_eq_true rfl⟩) gc_blindT (fun _ _ _ => trivial) rfl hl.1 rfl (Nat.le_of_ble_eq_true rfl) dL_rows_353 (show 0 ≤ 2 by omega) (show 0 ≤ 11 by omega) (fun r hr => ?_)
          obtain ⟨k10, hk10, rfl⟩ := hr
          refine gn_nez G (by omega) (tgt := 365) dL_rows_356 (by decide) (fun h_356 => ?_) (fun h_356 => ?_)
          · refine lv_iload_n G.1 G.2.1 dL_rows_365 rfl (lv_at hl 4 rfl) ?_
            refine lv_iconst (v := nI 4) G.1 G.2.1 dL_rows_366 (by decide) ?_
            refine lv_ishr G.1 G.2.1 dL_rows_367 ?_
            refine lv_topi (fun y11 hy11 => ?_)
            refine lv_bipush (v := nI 12) G.1 G.2.1 dL_rows_368 (by decide) ?_
            refine gc_s (As := [.int y11, .int (nI 12)]) (rest := []) G.fix (mL_some l y11 12 (by omega) (by omega)) (va_cwS 2 G.2.2.2.2.2.1 gL_rows_L_some rfl rfl rfl (by decide +kernel) ⟨Nat.le_of_ble_eq_true rfl, Nat.le_of_ble_eq_true rfl⟩) gc_blindT (fun _ _ _ => trivial) rfl hl.1 rfl (Nat.le_of_ble_eq_true rfl) dL_rows_370 (show 0 ≤ 2 by omega) (show 0 ≤ 11 by omega) (fun r hr => ?_)
            obtain ⟨k12, hk12, rfl⟩ := hr
            exact K_373 _ (⟨_, rfl, by omega⟩)
          · refine lv_sipush (v := nI 255) G.1 G.2.1 dL_rows_359 (by decide) ?_
            refine lv_goto (tgt := 373) G.1 G.2.1 dL_rows_362 (by decide) ?_
            exact K_373 _ (⟨_, rfl, by omega⟩)
        · refine lv_sipush (v := nI 256) G.1 G.2.1 dL_rows_343 (by decide) ?_
          refine lv_goto (tgt := 373) G.1 G.2.1 dL_rows_346 (by decide) ?_
          exact K_373 _ (⟨_, rfl, by omega⟩)
    · have hg_chf := lg_gbf hg_ch
      refine gj_x (fun x => x = (nI 0)) 47 [] (fun x hx => ?_) (fun K_47 => ?_)
      · subst hx
        refine lv_istore (lv' := [(9, .int (nI 0)), (8, .int y5), (0, .ref (q 0)), (1, .int (nI 3)), (2, .int x), (3, .ref (a 0)), (4, .ref (a 1)), (5, .ref (a 2)), (6, .ref (a 3)), (7, .ref (a 4))]) G.1 G.2.1 dL_rows_47 hl (by decide) rfl (fun ls hl => ?_)
        refine lv_iload_n G.1 G.2.1 dL_rows_49 rfl (lv_at hl 3 rfl) ?_
        refine gn_nez G (by omega) (tgt := 181) dL_rows_50 (by decide) (fun h_50 => ?_) (fun h => absurd h (by omega))
        refine lv_iload_n G.1 G.2.1 dL_rows_181 rfl (lv_at hl 3 rfl) ?_
        refine lv_iconst (v := nI 1) G.1 G.2.1 dL_rows_182 (by decide) ?_
        refine gn_ne G (by omega) (by omega) (tgt := 273) dL_rows_183 (by decide) (fun h_183 => ?_) (fun h => absurd h (by omega))
        refine lv_iload_n G.1 G.2.1 dL_rows_273 rfl (lv_at hl 3 rfl) ?_
        refine lv_iconst (v := nI 2) G.1 G.2.1 dL_rows_274 (by decide) ?_
        refine gn_ne G (by omega) (by omega) (tgt := 332) dL_rows_275 (by decide) (fun h_275 => ?_) (fun h => absurd h (by omega))
        refine lv_iload_n G.1 G.2.1 dL_rows_332 rfl (lv_at hl 4 rfl) ?_
        refine lv_iconst (v := nI 4) G.1 G.2.1 dL_rows_333 (by decide) ?_
        refine lv_ishr G.1 G.2.1 dL_rows_334 ?_
        refine lv_topi (fun y13 hy13 => ?_)
        refine lv_bipush (v := nI 20) G.1 G.2.1 dL_rows_335 (by decide) ?_
        refine gc_s (As := [.int y13, .int (nI 20)]) (rest := []) G.fix (mL_some l y13 20 (by omega) (by omega)) (va_cwS 2 G.2.2.2.2.2.1 gL_rows_L_some rfl rfl rfl (by decide +kernel) ⟨Nat.le_of_ble_eq_true rfl, Nat.le_of_ble_eq_true rfl⟩) gc_blindT (fun _ _ _ => trivial) rfl hl.1 rfl (Nat.le_of_ble_eq_true rfl) dL_rows_337 (show 0 ≤ 2 by omega) (show 0 ≤ 11 by omega) (fun r hr => ?_)
        obtain ⟨k14, hk14, rfl⟩ := hr
        refine gj_x (fun x => ∃ e : Nat, x = nI e ∧ e ≤ 256) 373 [] (fun x hx => ?_) (fun K_373 => ?_)
        · obtain ⟨e15, rfl, he15⟩ := hx
          refine lv_istore (lv' := [(10, .int (nI e15)), (9, .int (nI 0)), (8, .int y5), (0, .ref (q 0)), (1, .int (nI 3)), (2, .int x), (3, .ref (a 0)), (4, .ref (a 1)), (5, .ref (a 2)), (6, .ref (a 3)), (7, .ref (a 4))]) G.1 G.2.1 dL_rows_373 hl (by decide) rfl (fun ls hl => ?_)
          refine lv_iload G.1 G.2.1 dL_rows_375 (lv_at hl 1 rfl) ?_
          refine gn_eqz G (by omega) (tgt := 395) dL_rows_377 (by decide) (fun h_377 => ?_) (fun h => absurd rfl h)
          refine lv_iconst (v := nI 0) G.1 G.2.1 dL_rows_395 (by decide) ?_
          refine lv_istore (lv' := [(11, .int (nI 0)), (10, .int (nI e15)), (9, .int (nI 0)), (8, .int y5), (0, .ref (q 0)), (1, .int (nI 3)), (2, .int x), (3, .ref (a 0)), (4, .ref (a 1)), (5, .ref (a 2)), (6, .ref (a 3)), (7, .ref (a 4))]) G.1 G.2.1 dL_rows_396 hl (by decide) rfl (fun ls hl => ?_)
          refine lv_iload G.1 G.2.1 dL_rows_398 (lv_at hl 2 rfl) ?_
          refine gn_nez G (by omega) (tgt := 408) dL_rows_400 (by decide) (fun h => absurd rfl h) (fun h_400 => ?_)
          refine lv_bipush (v := -101) G.1 G.2.1 dL_rows_403 (by decide) ?_
          refine lv_goto (tgt := 435) G.1 G.2.1 dL_rows_405 (by decide) ?_
          refine lv_istore (lv' := [(12, .int ((-101))), (11, .int (nI 0)), (10, .int (nI e15)), (9, .int (nI 0)), (8, .int y5), (0, .ref (q 0)), (1, .int (nI 3)), (2, .int x), (3, .ref (a 0)), (4, .ref (a 1)), (5, .ref (a 2)), (6, .ref (a 3)), (7, .ref (a 4))]) G.1 G.2.1 dL_rows_435 hl (by decide) rfl (fun ls hl => ?_)
          refine lv_iconst (v := nI 0) G.1 G.2.1 dL_rows_437 (by decide) ?_
          refine lv_istore (lv' := [(13, .int (nI 0)), (12, .int ((-101))), (11, .int (nI 0)), (10, .int (nI e15)), (9, .int (nI 0)), (8, .int y5), (0, .ref (q 0)), (1, .int (nI 3)), (2, .int x), (3, .ref (a 0)), (4, .ref (a 1)), (5, .ref (a 2)), (6, .ref (a 3)), (7, .ref (a 4))]) G.1 G.2.1 dL_rows_438 hl (by decide) rfl (fun ls hl => ?_)
          refine lv_iload G.1 G.2.1 dL_rows_440 (lv_at hl 0 rfl) ?_
          refine lv_bipush (v := nI 15) G.1 G.2.1 dL_rows_442 (by decide) ?_
          refine gn_ge G (by omega) (by omega) (tgt := 499) dL_rows_444 (by decide) (fun h => absurd h (by omega)) (fun h_444 => ?_)
          refine lv_iload G.1 G.2.1 dL_rows_447 (lv_at hl 1 rfl) ?_
          refine lv_if_lt (tgt := 499) G.1 G.2.1 dL_rows_449 (by decide) (fun h_449 => ?_) (fun h => absurd (by decide) h)
          refine lv_aload_n G.1 G.2.1 dL_rows_499 rfl (lv_at hl 6 rfl) ?_
          refine lv_iconst (v := nI 2) G.1 G.2.1 dL_rows_500 (by decide) ?_
          refine lv_iload G.1 G.2.1 dL_rows_501 (lv_at hl 5 rfl) ?_
          refine lv_iload G.1 G.2.1 dL_rows_503 (lv_at hl 3 rfl) ?_
          refine gz_wrap (As := [.ref (q 0), .int (nI 2), .int y5, .int (nI e15)]) (rest := []) G.fix (mL_sets_join l hst D q cI N S tr _ hok hinv y5 ((nI e15))) (vx_cwSW 4 G.2.2.2.2.2.1 gL_rows_L_sets rfl rfl rfl (by decide +kernel) ⟨Nat.le_of_ble_eq_true rfl, Nat.le_of_ble_eq_true rfl⟩) hZ hA hS rfl hl.1 rfl (Nat.le_of_ble_eq_true rfl) dL_rows_505 (show 0 + 1 ≤ 2 by omega) (show 0 + 6 ≤ 11 by omega) (fun r Nx Sx tr H locs hp hZ hS => ?_)
          obtain ⟨rfl, eN, eS⟩ := hp
          have hk_505 : sj_join N S y5 ((nI e15)) = 1 := gk_f (by simp [sA_join, hg_chf])
          rw [hk_505] at eN eS
          have eN : Nx = N := eN
          have eS : Sx = S := eS
          rw [eN, eS] at hZ
          rw [hk_505, gRes_1]
          refine lv_iload G.1 G.2.1 dL_rows_508 (lv_at hl 1 rfl) ?_
          refine lv_icmp_ne (tgt := 517) G.1 G.2.1 dL_rows_510 (by decide) (fun h => absurd rfl h) (fun h_510 => ?_)
          refine lv_iconst (v := nI 1) G.1 G.2.1 dL_rows_513 (by decide) ?_
          refine lv_goto (tgt := 518) G.1 G.2.1 dL_rows_514 (by decide) ?_
          refine W.widen (k := 2) (n := 11) (show 0 + 1 ≤ 2 by omega) (show 0 + 6 ≤ 11 by omega) ?_
          exact W.zret G.1 G.2.1 G.2.2.1 rfl (fun t ht hW => ⟨nI 1, _, _, _, rfl, ⟨rfl, hli, rfl, rfl⟩, by rw [ht]; exact hZ.1, hS.F ht⟩) hS.2.2 dL_rows_518 G.2.2.2.2.2.2
        · refine gn_nez G (by omega) (tgt := 349) dL_rows_340 (by decide) (fun h_340 => ?_) (fun h_340 => ?_)
          · refine lv_iload_n G.1 G.2.1 dL_rows_349 rfl (lv_at hl 4 rfl) ?_
            refine lv_iconst (v := nI 4) G.1 G.2.1 dL_rows_350 (by decide) ?_
            refine lv_ishr G.1 G.2.1 dL_rows_351 ?_
            refine lv_topi (fun y16 hy16 => ?_)
            refine lv_iconst (v := nI 3) G.1 G.2.1 dL_rows_352 (by decide) ?_
            refine gc_s (As := [.int y16, .int (nI 3)]) (rest := []) G.fix (mL_some l y16 3 (by omega) (by omega)) (va_cwS 2 G.2.2.2.2.2.1 gL_rows_L_some rfl rfl rfl (by decide +kernel) ⟨Nat.le_of_ble_eq_true rfl, Nat.le_of_ble_eq_true rfl⟩) gc_blindT (fun _ _ _ => trivial) rfl hl.1 rfl (Nat.le_of_ble_eq_true rfl) dL_rows_353 (show 0 ≤ 2 by omega) (show 0 ≤ 11 by omega) (fun r hr => ?_)
            obtain ⟨k17, hk17, rfl⟩ := hr
            refine gn_nez G (by omega) (tgt := 365) dL_rows_356 (by decide) (fun h_356 => ?_) (fun h_356 => ?_)
            · refine lv_iload_n G.1 G.2.1 dL_rows_365 rfl (lv_at hl 4 rfl) ?_
              refine lv_iconst (v := nI 4) G.1 G.2.1 dL_rows_366 (by decide) ?_
              refine lv_ishr G.1 G.2.1 dL_rows_367 ?_
              refine lv_topi (fun y18 hy18 => ?_)
              refine lv_bipush (v := nI 12) G.1 G.2.1 dL_rows_368 (by decide) ?_
              refine gc_s (As := [.int y18, .int (nI 12)]) (rest := []) G.fix (mL_some l y18 12 (by omega) (by omega)) (va_cwS 2 G.2.2.2.2.2.1 gL_rows_L_some rfl rfl rfl (by decide +kernel) ⟨Nat.le_of_ble_eq_true rfl, Nat.le_of_ble_eq_true rfl⟩) gc_blindT (fun _ _ _ => trivial) rfl hl.1 rfl (Nat.le_of_ble_eq_true rfl) dL_rows_370 (show 0 ≤ 2 by omega) (show 0 ≤ 11 by omega) (fun r hr => ?_)
              obtain ⟨k19, hk19, rfl⟩ := hr
              exact K_373 _ (⟨_, rfl, by omega⟩)
            · refine lv_sipush (v := nI 255) G.1 G.2.1 dL_rows_359 (by decide) ?_
              refine lv_goto (tgt := 373) G.1 G.2.1 dL_rows_362 (by decide) ?_
              exact K_373 _ (⟨_, rfl, by omega⟩)
          · refine lv_sipush (v := nI 256) G.1 G.2.1 dL_rows_343 (by decide) ?_
            refine lv_goto (tgt := 373) G.1 G.2.1 dL_rows_346 (by decide) ?_
            exact K_373 _ (⟨_, rfl, by omega⟩)
      · refine lv_iload G.1 G.2.1 dL_rows_29 (lv_at hl 0 rfl) ?_
        refine lv_if_lt (tgt := 46) G.1 G.2.1 dL_rows_31 (by decide) (fun h_31 => ?_) (fun h_31 => ?_)
        · refine lv_iconst (v := nI 0) G.1 G.2.1 dL_rows_46 (by decide) ?_
          exact K_47 _ (rfl)
        · refine lv_iload G.1 G.2.1 dL_rows_34 (lv_at hl 0 rfl) ?_
          refine lv_aload_n G.1 G.2.1 dL_rows_36 rfl (lv_at hl 4 rfl) ?_
          refine lv_iconst (v := nI 1) G.1 G.2.1 dL_rows_37 (by decide) ?_
          refine gl_ald (k := 0) (len := 11) (F := fC N S) G hZ.r rfl (by omega) (by decide) dL_rows_38 ?_
          rw [fC_1]
          refine lv_icmp_ge (tgt := 46) G.1 G.2.1 dL_rows_39 (by decide) (fun h_39 => ?_) (fun h => (lg_gein (by omega) h_31 h hg_chf).elim)
          refine lv_iconst (v := nI 0) G.1 G.2.1 dL_rows_46 (by decide) ?_
          exact K_47 _ (rfl)
  · refine gn_nez G (by omega) (tgt := 25) dL_rows_18 (by decide) (fun h_18 => ?_) (fun h_18 => ?_)
    · refine lv_iconst (v := nI 0) G.1 G.2.1 dL_rows_25 (by decide) ?_
      exact K_26 _ (⟨_, rfl, by omega⟩)
    · refine lv_iconst (v := nI 1) G.1 G.2.1 dL_rows_21 (by decide) ?_
      refine lv_goto (tgt := 26) G.1 G.2.1 dL_rows_22 (by decide) ?_
      exact K_26 _ (⟨_, rfl, by omega⟩)
