/-! THE LAW's CHOICES: a call on a profile -/
set_option maxRecDepth 100000 in
set_option maxHeartbeats 2000000 in
theorem mL_profiles_0 (l : Launch) (hst : l.stackTraces = false) (D : va_G) (q a : Nat → Nat) (cI : ClassId) (N : Nat → Nat) (S : Nat → Nat → Nat) (tr : Nat → Nat) (A : Nat → Prop) (hli : li N S) (x : Int32) : Met l yL_profiles wsL_profiles { frames := 9, cells := 1, slots := 6, locals := 197 } (va_Pc [.ref (q 0), .int (nI 0), .int x, .ref (a 0), .ref (a 1), .ref (a 2), .ref (a 3)] (fun U => zBt D q a cI N S tr A U)) (gQz D q a cI (fun r N' S' => r = nI 1 ∧ li N' S' ∧ N' 0 = N 0 ∧ N' 5 = N 5) A) 1 6 A := by
  refine gc_met [.ref (q 0), .int (nI 0), .int x, .ref (a 0), .ref (a 1), .ref (a 2), .ref (a 3)] (by decide) rfl (Nat.le_of_ble_eq_true rfl) rfl ?_
  intro p e s m below meth c ls G hl hB
  obtain ⟨hZ, hA⟩ := hB
  have hli9 := hli
  obtain ⟨hok, hinv, hN0, hN5, h6⟩ := hli9
  have hok9 := hok
  obtain ⟨⟨ok0, ok5⟩, ok1, ok2, ok3, ok4, ok6, ok7, ok8, ok12, ok13, ok14⟩ := hok9
  have hZ0 : gZ A s s.heap := hZ.2.2.2
  have hS : va_S A s.heap s.heap [] := va_S.rf
  refine lv_iload_n G.1 G.2.1 dL_profiles_0 rfl (lv_at hl 2 rfl) ?_
  refine lv_aload_n G.1 G.2.1 dL_profiles_1 rfl (lv_at hl 3 rfl) ?_
  refine lv_iconst (v := nI 0) G.1 G.2.1 dL_profiles_2 (by decide) ?_
  refine gl_ald (k := 0) (len := 11) (F := fC N S) G hZ.r rfl (by omega) (by decide) dL_profiles_3 ?_
  rw [fC_0]
  refine lv_iconst (v := nI 1) G.1 G.2.1 dL_profiles_4 (by decide) ?_
  refine gn_iadd G dL_profiles_5 ?_
  refine gc_s (As := [.int x, .int (nI ((N 0) + 1))]) (rest := []) G.fix (mL_some l x ((N 0) + 1) (by omega) (by omega)) (va_cwS 2 G.2.2.2.2.2.1 gL_profiles_L_some rfl rfl rfl (by decide +kernel) ⟨Nat.le_of_ble_eq_true rfl, Nat.le_of_ble_eq_true rfl⟩) gc_blindT (fun _ _ _ => trivial) rfl hl.1 rfl (Nat.le_of_ble_eq_true rfl) dL_profiles_6 (show 0 ≤ 1 by omega) (show 0 ≤ 6 by omega) (fun r hr => ?_)
  obtain ⟨k1, hk1, rfl⟩ := hr
  refine lv_iload_n G.1 G.2.1 dL_profiles_9 rfl (lv_at hl 2 rfl) ?_
  refine lv_bipush (v := nI 11) G.1 G.2.1 dL_profiles_10 (by decide) ?_
  refine lv_ishr G.1 G.2.1 dL_profiles_12 ?_
  refine lv_topi (fun y2 hy2 => ?_)
  refine lv_bipush (v := nI 19) G.1 G.2.1 dL_profiles_13 (by decide) ?_
  refine gc_s (As := [.int y2, .int (nI 19)]) (rest := [.int (nI k1)]) G.fix (mL_some l y2 19 (by omega) (by omega)) (va_cwS 2 G.2.2.2.2.2.1 gL_profiles_L_some rfl rfl rfl (by decide +kernel) ⟨Nat.le_of_ble_eq_true rfl, Nat.le_of_ble_eq_true rfl⟩) gc_blindT (fun _ _ _ => trivial) rfl hl.1 rfl (Nat.le_of_ble_eq_true rfl) dL_profiles_15 (show 0 ≤ 1 by omega) (show 0 ≤ 6 by omega) (fun r hr => ?_)
  obtain ⟨k3, hk3, rfl⟩ := hr
  refine gj_x (fun x => ∃ e : Nat, x = nI e ∧ e ≤ 1) 26 [.int (nI k1)] (fun x hx => ?_) (fun K_26 => ?_)
  · obtain ⟨e4, rfl, he4⟩ := hx
    refine lv_isub G.1 G.2.1 dL_profiles_26 ?_
    refine lv_topi (fun y5 hy5 => ?_)
    refine lv_istore (lv' := [(7, .int y5), (0, .ref (q 0)), (1, .int (nI 0)), (2, .int x), (3, .ref (a 0)), (4, .ref (a 1)), (5, .ref (a 2)), (6, .ref (a 3))]) G.1 G.2.1 dL_profiles_27 hl (by decide) rfl (fun ls hl => ?_)
    refine lv_iload_n G.1 G.2.1 dL_profiles_29 rfl (lv_at hl 3 rfl) ?_
    refine lv_iconst (v := nI 3) G.1 G.2.1 dL_profiles_30 (by decide) ?_
    refine lv_ishr G.1 G.2.1 dL_profiles_31 ?_
    refine lv_topi (fun y6 hy6 => ?_)
    refine lv_bipush (v := nI 40) G.1 G.2.1 dL_profiles_32 (by decide) ?_
    refine gc_s (As := [.int y6, .int (nI 40)]) (rest := []) G.fix (mL_some l y6 40 (by omega) (by omega)) (va_cwS 2 G.2.2.2.2.2.1 gL_profiles_L_some rfl rfl rfl (by decide +kernel) ⟨Nat.le_of_ble_eq_true rfl, Nat.le_of_ble_eq_true rfl⟩) gc_blindT (fun _ _ _ => trivial) rfl hl.1 rfl (Nat.le_of_ble_eq_true rfl) dL_profiles_34 (show 0 ≤ 1 by omega) (show 0 ≤ 6 by omega) (fun r hr => ?_)
    obtain ⟨k7, hk7, rfl⟩ := hr
    refine gj_x (fun x => ∃ e : Nat, x = nI e ∧ e ≤ 3) 51 [] (fun x hx => ?_) (fun K_51 => ?_)
    · obtain ⟨e8, rfl, he8⟩ := hx
      refine lv_istore (lv' := [(8, .int (nI e8)), (7, .int y5), (0, .ref (q 0)), (1, .int (nI 0)), (2, .int x), (3, .ref (a 0)), (4, .ref (a 1)), (5, .ref (a 2)), (6, .ref (a 3))]) G.1 G.2.1 dL_profiles_51 hl (by decide) rfl (fun ls hl => ?_)
      by_cases hg_j : gb y5 (N 0) = true
      · obtain ⟨j, hj, rfl⟩ := gb_of (by omega) hg_j
        refine lv_iload G.1 G.2.1 dL_profiles_53 (lv_at hl 1 rfl) ?_
        refine gn_ltz G (by omega) (tgt := 70) dL_profiles_55 (by decide) ?_
        refine lv_iload G.1 G.2.1 dL_profiles_58 (lv_at hl 1 rfl) ?_
        refine lv_aload_n G.1 G.2.1 dL_profiles_60 rfl (lv_at hl 5 rfl) ?_
        refine lv_iconst (v := nI 0) G.1 G.2.1 dL_profiles_61 (by decide) ?_
        refine gl_ald (k := 0) (len := 11) (F := fC N S) G hZ.r rfl (by omega) (by decide) dL_profiles_62 ?_
        rw [fC_0]
        refine gn_ge G (by omega) (by omega) (tgt := 70) dL_profiles_63 (by decide) (fun h => absurd h (by omega)) (fun h_63 => ?_)
        refine lv_iconst (v := nI 1) G.1 G.2.1 dL_profiles_66 (by decide) ?_
        refine lv_goto (tgt := 71) G.1 G.2.1 dL_profiles_67 (by decide) ?_
        refine lv_istore (lv' := [(9, .int (nI 1)), (8, .int (nI e8)), (7, .int (nI j)), (0, .ref (q 0)), (1, .int (nI 0)), (2, .int x), (3, .ref (a 0)), (4, .ref (a 1)), (5, .ref (a 2)), (6, .ref (a 3))]) G.1 G.2.1 dL_profiles_71 hl (by decide) rfl (fun ls hl => ?_)
        refine lv_iload G.1 G.2.1 dL_profiles_73 (lv_at hl 0 rfl) ?_
        refine gn_eqz G (by omega) (tgt := 96) dL_profiles_75 (by decide) (fun h => absurd h (by omega)) (fun h_75 => ?_)
        refine lv_aload_n G.1 G.2.1 dL_profiles_78 rfl (lv_at hl 6 rfl) ?_
        refine lv_aload G.1 G.2.1 dL_profiles_79 (lv_at hl 9 rfl) ?_
        refine gc_s (As := [.ref (a 0), .ref (a 3)]) (rest := []) G.fix (mL_held l D a cI N S hok hinv hN5) (va_cwS 2 G.2.2.2.2.2.1 gL_profiles_L_held rfl rfl rfl (by decide +kernel) ⟨Nat.le_of_ble_eq_true rfl, Nat.le_of_ble_eq_true rfl⟩) lrAt_blind (fun U hU hW => by rw [hU]; exact hZ.r.moved hW) rfl hl.1 rfl (Nat.le_of_ble_eq_true rfl) dL_profiles_81 (show 0 ≤ 1 by omega) (show 0 ≤ 6 by omega) (fun r hr => ?_)
        subst hr
        have hv_81 := sp_held_lt hok
        refine lv_iload G.1 G.2.1 dL_profiles_84 (lv_at hl 2 rfl) ?_
        refine gn_ishr G dL_profiles_86 (by omega) (by omega) ?_
        refine lv_iconst (v := nI 1) G.1 G.2.1 dL_profiles_87 (by decide) ?_
        refine gn_iand1 G dL_profiles_88 ?_
        have hbit_88 := sp_bit_lt (sp_held N S) j
        refine gj_x (fun x => ∃ f : Nat, x = nI f ∧ f ≤ 1 ∧ (f = 1 ↔ sp_bit (sp_held N S) j = 0)) 97 [] (fun x hx => ?_) (fun K_97 => ?_)
        · obtain ⟨f9, rfl, hf9, hf9b⟩ := hx
          refine lv_istore (lv' := [(10, .int (nI f9)), (9, .int (nI 1)), (8, .int (nI e8)), (7, .int (nI j)), (0, .ref (q 0)), (1, .int (nI 0)), (2, .int x), (3, .ref (a 0)), (4, .ref (a 1)), (5, .ref (a 2)), (6, .ref (a 3))]) G.1 G.2.1 dL_profiles_97 hl (by decide) rfl (fun ls hl => ?_)
          refine lv_iload_n G.1 G.2.1 dL_profiles_99 rfl (lv_at hl 5 rfl) ?_
          refine gn_nez G (by omega) (tgt := 261) dL_profiles_100 (by decide) (fun h => absurd rfl h) (fun h_100 => ?_)
          refine lv_iload_n G.1 G.2.1 dL_profiles_103 rfl (lv_at hl 6 rfl) ?_
          refine lv_iconst (v := nI 5) G.1 G.2.1 dL_profiles_104 (by decide) ?_
          refine lv_ishr G.1 G.2.1 dL_profiles_105 ?_
          refine lv_topi (fun y10 hy10 => ?_)
          refine lv_bipush (v := nI 40) G.1 G.2.1 dL_profiles_106 (by decide) ?_
          refine gc_s (As := [.int y10, .int (nI 40)]) (rest := []) G.fix (mL_some l y10 40 (by omega) (by omega)) (va_cwS 2 G.2.2.2.2.2.1 gL_profiles_L_some rfl rfl rfl (by decide +kernel) ⟨Nat.le_of_ble_eq_true rfl, Nat.le_of_ble_eq_true rfl⟩) gc_blindT (fun _ _ _ => trivial) rfl hl.1 rfl (Nat.le_of_ble_eq_true rfl) dL_profiles_108 (show 0 ≤ 1 by omega) (show 0 ≤ 6 by omega) (fun r hr => ?_)
          obtain ⟨k11, hk11, rfl⟩ := hr
          refine gj_x (fun x => ∃ e : Nat, x = nI e ∧ e ≤ 5) 125 [] (fun x hx => ?_) (fun K_125 => ?_)
          · obtain ⟨e12, rfl, he12⟩ := hx
            refine lv_istore (lv' := [(11, .int (nI e12)), (10, .int (nI f9)), (9, .int (nI 1)), (8, .int (nI e8)), (7, .int (nI j)), (0, .ref (q 0)), (1, .int (nI 0)), (2, .int x), (3, .ref (a 0)), (4, .ref (a 1)), (5, .ref (a 2)), (6, .ref (a 3))]) G.1 G.2.1 dL_profiles_125 hl (by decide) rfl (fun ls hl => ?_)
            refine lv_iload_n G.1 G.2.1 dL_profiles_127 rfl (lv_at hl 7 rfl) ?_
            refine lv_iconst (v := nI 4) G.1 G.2.1 dL_profiles_128 (by decide) ?_
            refine lv_ishr G.1 G.2.1 dL_profiles_129 ?_
            refine lv_topi (fun y13 hy13 => ?_)
            refine gc_s (As := [.int y13]) (rest := []) G.fix (mL_value l y13) (va_cwS 1 G.2.2.2.2.2.1 gL_profiles_L_value rfl rfl rfl (by decide +kernel) ⟨Nat.le_of_ble_eq_true rfl, Nat.le_of_ble_eq_true rfl⟩) gc_blindT (fun _ _ _ => trivial) rfl hl.1 rfl (Nat.le_of_ble_eq_true rfl) dL_profiles_130 (show 0 ≤ 1 by omega) (show 0 ≤ 6 by omega) (fun y14 _ => ?_)
            refine lv_istore (lv' := [(12, .int y14), (11, .int (nI e12)), (10, .int (nI f9)), (9, .int (nI 1)), (8, .int (nI e8)), (7, .int (nI j)), (0, .ref (q 0)), (1, .int (nI 0)), (2, .int x), (3, .ref (a 0)), (4, .ref (a 1)), (5, .ref (a 2)), (6, .ref (a 3))]) G.1 G.2.1 dL_profiles_133 hl (by decide) rfl (fun ls hl => ?_)
            refine gj_x (fun x => ∃ f : Nat, x = nI f ∧ f ≤ 1 ∧ (f = 1 ↔ e8 < 3 ∧ e12 < 5)) 157 [] (fun x hx => ?_) (fun K_157 => ?_)
            · obtain ⟨f15, rfl, hf15, hf15b⟩ := hx
              refine lv_istore (lv' := [(9, .int (nI f15)), (12, .int y14), (11, .int (nI e12)), (10, .int (nI f9)), (8, .int (nI e8)), (7, .int (nI j)), (0, .ref (q 0)), (1, .int (nI 0)), (2, .int x), (3, .ref (a 0)), (4, .ref (a 1)), (5, .ref (a 2)), (6, .ref (a 3))]) G.1 G.2.1 dL_profiles_157 hl (by decide) rfl (fun ls hl => ?_)
              refine lv_iload G.1 G.2.1 dL_profiles_159 (lv_at hl 0 rfl) ?_
              refine gn_nez G (by omega) (tgt := 169) dL_profiles_161 (by decide) (fun h_161 => ?_) (fun h_161 => ?_)
              · by_cases hg_v : gb y14 256 = true
                · obtain ⟨v, hv, rfl⟩ := gb_of (by omega) hg_v
                  refine lv_iload G.1 G.2.1 dL_profiles_169 (lv_at hl 1 rfl) ?_
                  refine gn_ltz G (by omega) (tgt := 182) dL_profiles_171 (by decide) ?_
                  refine lv_iload G.1 G.2.1 dL_profiles_174 (lv_at hl 1 rfl) ?_
                  refine lv_sipush (v := nI 255) G.1 G.2.1 dL_profiles_176 (by decide) ?_
                  refine gn_le G (by omega) (by omega) (tgt := 187) dL_profiles_179 (by decide) (fun h_179 => ?_) (fun h => absurd h (by omega))
                  refine lv_iload G.1 G.2.1 dL_profiles_187 (lv_at hl 3 rfl) ?_
                  refine gn_nez G (by omega) (tgt := 197) dL_profiles_189 (by decide) (fun h_189 => ?_) (fun h_189 => ?_)
                  · refine lv_aload G.1 G.2.1 dL_profiles_197 (lv_at hl 10 rfl) ?_
                    refine lv_bipush (v := nI 15) G.1 G.2.1 dL_profiles_199 (by decide) ?_
                    refine lv_iload G.1 G.2.1 dL_profiles_201 (lv_at hl 5 rfl) ?_
                    refine gn_imul G dL_profiles_203 ?_
                    refine lv_iconst (v := nI 5) G.1 G.2.1 dL_profiles_204 (by decide) ?_
                    refine lv_iload G.1 G.2.1 dL_profiles_205 (lv_at hl 4 rfl) ?_
                    refine gn_imul G dL_profiles_207 ?_
                    refine gn_iadd G dL_profiles_208 ?_
                    refine lv_iload G.1 G.2.1 dL_profiles_209 (lv_at hl 2 rfl) ?_
                    refine gn_iadd G dL_profiles_211 ?_
                    refine gl_ald (k := 1) (len := 45) (F := S 1) G hZ.r rfl (by omega) (by decide) dL_profiles_212 ?_
                    rw [show ((15 * j) + (5 * e8)) + e12 = (j * 3 + e8) * 5 + e12 from by omega]
                    have hv_212 := ok1 ((j * 3 + e8) * 5 + e12)
                    refine lv_istore (lv' := [(13, .int (nI (S 1 ((j * 3 + e8) * 5 + e12)))), (9, .int (nI f15)), (12, .int (nI v)), (11, .int (nI e12)), (10, .int (nI f9)), (8, .int (nI e8)), (7, .int (nI j)), (0, .ref (q 0)), (1, .int (nI 0)), (2, .int x), (3, .ref (a 0)), (4, .ref (a 1)), (5, .ref (a 2)), (6, .ref (a 3))]) G.1 G.2.1 dL_profiles_213 hl (by decide) rfl (fun ls hl => ?_)
                    refine lv_iload G.1 G.2.1 dL_profiles_215 (lv_at hl 0 rfl) ?_
                    refine gn_ltz G (by omega) (tgt := 238) dL_profiles_217 (by decide) ?_
                    refine lv_aload G.1 G.2.1 dL_profiles_220 (lv_at hl 11 rfl) ?_
                    refine lv_bipush (v := nI 15) G.1 G.2.1 dL_profiles_222 (by decide) ?_
                    refine lv_iload G.1 G.2.1 dL_profiles_224 (lv_at hl 6 rfl) ?_
                    refine gn_imul G dL_profiles_226 ?_
                    refine lv_iconst (v := nI 5) G.1 G.2.1 dL_profiles_227 (by decide) ?_
                    refine lv_iload G.1 G.2.1 dL_profiles_228 (lv_at hl 5 rfl) ?_
                    refine gn_imul G dL_profiles_230 ?_
                    refine gn_iadd G dL_profiles_231 ?_
                    refine lv_iload G.1 G.2.1 dL_profiles_232 (lv_at hl 3 rfl) ?_
                    refine gn_iadd G dL_profiles_234 ?_
                    refine lv_iload G.1 G.2.1 dL_profiles_235 (lv_at hl 2 rfl) ?_
                    refine gz_ast (k := 1) (len := 45) (F := S 1) (i := ((15 * j) + (5 * e8)) + e12) (v := v) (N3 := N) (S3 := (gs S 1 (gu (S 1) ((j * 3 + e8) * 5 + e12) v))) G hZ0 hZ hS rfl (by rw [show ((15 * j) + (5 * e8)) + e12 = (j * 3 + e8) * 5 + e12 from by omega]; exact ls_b) (by omega) (by decide) dL_profiles_237 (fun H locs hZ hS => ?_)
                    refine lv_aload_n G.1 G.2.1 dL_profiles_238 rfl (lv_at hl 7 rfl) ?_
                    refine lv_iload G.1 G.2.1 dL_profiles_239 (lv_at hl 6 rfl) ?_
                    refine lv_iload G.1 G.2.1 dL_profiles_241 (lv_at hl 5 rfl) ?_
                    refine lv_iload G.1 G.2.1 dL_profiles_243 (lv_at hl 3 rfl) ?_
                    refine lv_iload G.1 G.2.1 dL_profiles_245 (lv_at hl 2 rfl) ?_
                    refine gz_wrap (As := [.ref (q 0), .int (nI j), .int (nI e8), .int (nI e12), .int (nI v)]) (rest := []) G.fix (mL_bends l hst D q cI N S tr _ hok hinv ((nI j)) ((nI e8)) ((nI e12)) ((nI v))) (vx_cwSW 5 G.2.2.2.2.2.1 gL_profiles_L_bends rfl rfl rfl (by decide +kernel) ⟨Nat.le_of_ble_eq_true rfl, Nat.le_of_ble_eq_true rfl⟩) hZ hA hS rfl hl.1 rfl (Nat.le_of_ble_eq_true rfl) dL_profiles_247 (show 0 + 1 ≤ 1 by omega) (show 0 + 6 ≤ 6 by omega) (fun r Nx Sx tr H locs hp hZ hS => ?_)
                    obtain ⟨rfl, eN, eS⟩ := hp
                    have hk_247 : sj_bend N S ((nI j)) ((nI e8)) ((nI e12)) ((nI v)) = 0 := gk_ttt (by simp only [sA_bend, Bool.and_eq_true, decide_eq_true_eq, gb_nI (show j < 2 ^ 31 by omega), gn_nI (show j < 2 ^ 31 by omega), gb_nI (show e8 < 2 ^ 31 by omega), gn_nI (show e8 < 2 ^ 31 by omega), gb_nI (show e12 < 2 ^ 31 by omega), gn_nI (show e12 < 2 ^ 31 by omega), gb_nI (show v < 2 ^ 31 by omega), gn_nI (show v < 2 ^ 31 by omega)] <;> omega) (by simp only [sB_bend, Bool.and_eq_true, decide_eq_true_eq, gb_nI (show j < 2 ^ 31 by omega), gn_nI (show j < 2 ^ 31 by omega), gb_nI (show e8 < 2 ^ 31 by omega), gn_nI (show e8 < 2 ^ 31 by omega), gb_nI (show e12 < 2 ^ 31 by omega), gn_nI (show e12 < 2 ^ 31 by omega), gb_nI (show v < 2 ^ 31 by omega), gn_nI (show v < 2 ^ 31 by omega)] <;> omega) (by simp only [sC_bend, Bool.and_eq_true, decide_eq_true_eq, gb_nI (show j < 2 ^ 31 by omega), gn_nI (show j < 2 ^ 31 by omega), gb_nI (show e8 < 2 ^ 31 by omega), gn_nI (show e8 < 2 ^ 31 by omega), gb_nI (show e12 < 2 ^ 31 by omega), gn_nI (show e12 < 2 ^ 31 by omega), gb_nI (show v < 2 ^ 31 by omega), gn_nI (show v < 2 ^ 31 by omega)] <;> omega)
                    rw [hk_247] at eN eS
                    have eN : Nx = sN_bend N S ((nI j)) ((nI e8)) ((nI e12)) ((nI v)) := eN
                    have eS : Sx = sS_bend N S ((nI j)) ((nI e8)) ((nI e12)) ((nI v)) := eS
                    rw [eN, eS] at hZ
                    rw [hk_247, gRes_0]
                    have hR_247 : sR_bend N S ((nI j)) ((nI e8)) ((nI e12)) ((nI v)) = S 1 ((j * 3 + e8) * 5 + e12) := by simp only [sR_bend, gn_nI (show j < 2 ^ 31 by omega), gn_nI (show e8 < 2 ^ 31 by omega), gn_nI (show e12 < 2 ^ 31 by omega), gn_nI (show v < 2 ^ 31 by omega)]
                    rw [hR_247]
                    have hN9 : sN_bend N S ((nI j)) ((nI e8)) ((nI e12)) ((nI v)) = N := by simp only [sN_bend, gn_nI (show j < 2 ^ 31 by omega), gn_nI (show e8 < 2 ^ 31 by omega), gn_nI (show e12 < 2 ^ 31 by omega), gn_nI (show v < 2 ^ 31 by omega)]
                    have hS9 : sS_bend N S ((nI j)) ((nI e8)) ((nI e12)) ((nI v)) = (gs S 1 (gu (S 1) ((j * 3 + e8) * 5 + e12) v)) := by simp only [sS_bend, gn_nI (show j < 2 ^ 31 by omega), gn_nI (show e8 < 2 ^ 31 by omega), gn_nI (show e12 < 2 ^ 31 by omega), gn_nI (show v < 2 ^ 31 by omega)]
                    have hli2 := li_bend hli hk_247
                    rw [hN9, hS9] at hli2 hZ
                    refine lv_iload G.1 G.2.1 dL_profiles_250 (lv_at hl 0 rfl) ?_
                    refine gn_ne G (by omega) (by omega) (tgt := 259) dL_profiles_252 (by decide) (fun h => absurd rfl h) (fun h_252 => ?_)
                    refine lv_iconst (v := nI 1) G.1 G.2.1 dL_profiles_255 (by decide) ?_
                    refine lv_goto (tgt := 260) G.1 G.2.1 dL_profiles_256 (by decide) ?_
                    refine W.widen (k := 1) (n := 6) (show 0 + 1 ≤ 1 by omega) (show 0 + 6 ≤ 6 by omega) ?_
                    exact W.zret G.1 G.2.1 G.2.2.1 rfl (fun t ht hW => ⟨nI 1, _, _, _, rfl, ⟨rfl, hli2, rfl, rfl⟩, by rw [ht]; exact hZ.1, hS.F ht⟩) hS.2.2 dL_profiles_260 G.2.2.2.2.2.2
                  · refine lv_bipush (v := -103) G.1 G.2.1 dL_profiles_192 (by decide) ?_
                    refine lv_goto (tgt := 213) G.1 G.2.1 dL_profiles_194 (by decide) ?_
                    refine lv_istore (lv' := [(13, .int ((-103))), (9, .int (nI f15)), (12, .int (nI v)), (11, .int (nI e12)), (10, .int (nI f9)), (8, .int (nI e8)), (7, .int (nI j)), (0, .ref (q 0)), (1, .int (nI 0)), (2, .int x), (3, .ref (a 0)), (4, .ref (a 1)), (5, .ref (a 2)), (6, .ref (a 3))]) G.1 G.2.1 dL_profiles_213 hl (by decide) rfl (fun ls hl => ?_)
                    refine lv_iload G.1 G.2.1 dL_profiles_215 (lv_at hl 0 rfl) ?_
                    refine lv_if_lt (tgt := 238) G.1 G.2.1 dL_profiles_217 (by decide) (fun h_217 => ?_) (fun h => absurd (by decide) h)
                    refine lv_aload_n G.1 G.2.1 dL_profiles_238 rfl (lv_at hl 7 rfl) ?_
                    refine lv_iload G.1 G.2.1 dL_profiles_239 (lv_at hl 6 rfl) ?_
                    refine lv_iload G.1 G.2.1 dL_profiles_241 (lv_at hl 5 rfl) ?_
                    refine lv_iload G.1 G.2.1 dL_profiles_243 (lv_at hl 3 rfl) ?_
                    refine lv_iload G.1 G.2.1 dL_profiles_245 (lv_at hl 2 rfl) ?_
                    refine gz_wrap (As := [.ref (q 0), .int (nI j), .int (nI e8), .int (nI e12), .int (nI v)]) (rest := []) G.fix (mL_bends l hst D q cI N S tr _ hok hinv ((nI j)) ((nI e8)) ((nI e12)) ((nI v))) (vx_cwSW 5 G.2.2.2.2.2.1 gL_profiles_L_bends rfl rfl rfl (by decide +kernel) ⟨Nat.le_of_ble_eq_true rfl, Nat.le_of_ble_eq_true rfl⟩) hZ hA hS rfl hl.1 rfl (Nat.le_of_ble_eq_true rfl) dL_profiles_247 (show 0 + 1 ≤ 1 by omega) (show 0 + 6 ≤ 6 by omega) (fun r Nx Sx tr H locs hp hZ hS => ?_)
                    obtain ⟨rfl, eN, eS⟩ := hp
                    have hk_247 : sj_bend N S ((nI j)) ((nI e8)) ((nI e12)) ((nI v)) = 3 := gk_ttf (by simp only [sA_bend, Bool.and_eq_true, decide_eq_true_eq, gb_nI (show j < 2 ^ 31 by omega), gn_nI (show j < 2 ^ 31 by omega), gb_nI (show e8 < 2 ^ 31 by omega), gn_nI (show e8 < 2 ^ 31 by omega), gb_nI (show e12 < 2 ^ 31 by omega), gn_nI (show e12 < 2 ^ 31 by omega), gb_nI (show v < 2 ^ 31 by omega), gn_nI (show v < 2 ^ 31 by omega)] <;> omega) (by simp only [sB_bend, Bool.and_eq_true, decide_eq_true_eq, gb_nI (show j < 2 ^ 31 by omega), gn_nI (show j < 2 ^ 31 by omega), gb_nI (show e8 < 2 ^ 31 by omega), gn_nI (show e8 < 2 ^ 31 by omega), gb_nI (show e12 < 2 ^ 31 by omega), gn_nI (show e12 < 2 ^ 31 by omega), gb_nI (show v < 2 ^ 31 by omega), gn_nI (show v < 2 ^ 31 by omega)] <;> omega) (by apply Bool.eq_false_iff.mpr; intro h; simp only [sC_bend, Bool.and_eq_true, decide_eq_true_eq, gb_nI (show j < 2 ^ 31 by omega), gn_nI (show j < 2 ^ 31 by omega), gb_nI (show e8 < 2 ^ 31 by omega), gn_nI (show e8 < 2 ^ 31 by omega), gb_nI (show e12 < 2 ^ 31 by omega), gn_nI (show e12 < 2 ^ 31 by omega), gb_nI (show v < 2 ^ 31 by omega), gn_nI (show v < 2 ^ 31 by omega)] at h <;> omega)
                    rw [hk_247] at eN eS
                    have eN : Nx = N := eN
                    have eS : Sx = S := eS
                    rw [eN, eS] at hZ
                    rw [hk_247, gRes_3]
                    refine lv_iload G.1 G.2.1 dL_profiles_250 (lv_at hl 0 rfl) ?_
                    refine lv_icmp_ne (tgt := 259) G.1 G.2.1 dL_profiles_252 (by decide) (fun h => absurd rfl h) (fun h_252 => ?_)
                    refine lv_iconst (v := nI 1) G.1 G.2.1 dL_profiles_255 (by decide) ?_
                    refine lv_goto (tgt := 260) G.1 G.2.1 dL_profiles_256 (by decide) ?_
                    refine W.widen (k := 1) (n := 6) (show 0 + 1 ≤ 1 by omega) (show 0 + 6 ≤ 6 by omega) ?_
                    exact W.zret G.1 G.2.1 G.2.2.1 rfl (fun t ht hW => ⟨nI 1, _, _, _, rfl, ⟨rfl, hli, rfl, rfl⟩, by rw [ht]; exact hZ.1, hS.F ht⟩) hS.2.2 dL_profiles_260 G.2.2.2.2.2.2
                · have hg_vf := lg_gbf hg_v
                  refine gj_x (fun x => x = (-102)) 213 [] (fun x hx => ?_) (fun K_213 => ?_)
                  · subst hx
                    refine lv_istore (lv' := [(13, .int ((-102))), (9, .int (nI f15)), (12, .int y14), (11, .int (nI e12)), (10, .int (nI f9)), (8, .int (nI e8)), (7, .int (nI j)), (0, .ref (q 0)), (1, .int (nI 0)), (2, .int x), (3, .ref (a 0)), (4, .ref (a 1)), (5, .ref (a 2)), (6, .ref (a 3))]) G.1 G.2.1 dL_profiles_213 hl (by decide) rfl (fun ls hl => ?_)
                    refine lv_iload G.1 G.2.1 dL_profiles_215 (lv_at hl 0 rfl) ?_
                    refine lv_if_lt (tgt := 238) G.1 G.2.1 dL_profiles_217 (by decide) (fun h_217 => ?_) (fun h => absurd (by decide) h)
                    refine lv_aload_n G.1 G.2.1 dL_profiles_238 rfl (lv_at hl 7 rfl) ?_
                    refine lv_iload G.1 G.2.1 dL_profiles_239 (lv_at hl 6 rfl) ?_
                    refine lv_iload G.1 G.2.1 dL_profiles_241 (lv_at hl 5 rfl) ?_
                    refine lv_iload G.1 G.2.1 dL_profiles_243 (lv_at hl 3 rfl) ?_
                    refine lv_iload G.1 G.2.1 dL_profiles_245 (lv_at hl 2 rfl) ?_
                    refine gz_wrap (As := [.ref (q 0), .int (nI j), .int (nI e8), .int (nI e12), .int y14]) (rest := []) G.fix (mL_bends l hst D q cI N S tr _ hok hinv ((nI j)) ((nI e8)) ((nI e12)) y14) (vx_cwSW 5 G.2.2.2.2.2.1 gL_profiles_L_bends rfl rfl rfl (by decide +kernel) ⟨Nat.le_of_ble_eq_true rfl, Nat.le_of_ble_eq_true rfl⟩) hZ hA hS rfl hl.1 rfl (Nat.le_of_ble_eq_true rfl) dL_profiles_247 (show 0 + 1 ≤ 1 by omega) (show 0 + 6 ≤ 6 by omega) (fun r Nx Sx tr H locs hp hZ hS => ?_)
                    obtain ⟨rfl, eN, eS⟩ := hp
                    have hk_247 : sj_bend N S ((nI j)) ((nI e8)) ((nI e12)) y14 = 2 := gk_tf (by simp only [sA_bend, Bool.and_eq_true, decide_eq_true_eq, gb_nI (show j < 2 ^ 31 by omega), gn_nI (show j < 2 ^ 31 by omega), gb_nI (show e8 < 2 ^ 31 by omega), gn_nI (show e8 < 2 ^ 31 by omega), gb_nI (show e12 < 2 ^ 31 by omega), gn_nI (show e12 < 2 ^ 31 by omega)] <;> omega) (by simp [sB_bend, hg_vf])
                    rw [hk_247] at eN eS
                    have eN : Nx = N := eN
                    have eS : Sx = S := eS
                    rw [eN, eS] at hZ
                    rw [hk_247, gRes_2]
                    refine lv_iload G.1 G.2.1 dL_profiles_250 (lv_at hl 0 rfl) ?_
                    refine lv_icmp_ne (tgt := 259) G.1 G.2.1 dL_profiles_252 (by decide) (fun h => absurd rfl h) (fun h_252 => ?_)
                    refine lv_iconst (v := nI 1) G.1 G.2.1 dL_profiles_255 (by decide) ?_
                    refine lv_goto (tgt := 260) G.1 G.2.1 dL_profiles_256 (by decide) ?_
                    refine W.widen (k := 1) (n := 6) (show 0 + 1 ≤ 1 by omega) (show 0 + 6 ≤ 6 by omega) ?_
                    exact W.zret G.1 G.2.1 G.2.2.1 rfl (fun t ht hW => ⟨nI 1, _, _, _, rfl, ⟨rfl, hli, rfl, rfl⟩, by rw [ht]; exact hZ.1, hS.F ht⟩) hS.2.2 dL_profiles_260 G.2.2.2.2.2.2
                  · refine lv_iload G.1 G.2.1 dL_profiles_169 (lv_at hl 1 rfl) ?_
                    refine lv_if_lt (tgt := 182) G.1 G.2.1 dL_profiles_171 (by decide) (fun h_171 => ?_) (fun h_171 => ?_)
                    · refine lv_bipush (v := -102) G.1 G.2.1 dL_profiles_182 (by decide) ?_
                      refine lv_goto (tgt := 213) G.1 G.2.1 dL_profiles_184 (by decide) ?_
                      exact K_213 _ (rfl)
                    · refine lv_iload G.1 G.2.1 dL_profiles_174 (lv_at hl 1 rfl) ?_
                      refine lv_sipush (v := nI 255) G.1 G.2.1 dL_profiles_176 (by decide) ?_
                      refine lv_icmp_le (tgt := 187) G.1 G.2.1 dL_profiles_179 (by decide) (fun h => (lg_gein0 (by omega) h_171 h hg_vf).elim) (fun h_179 => ?_)
                      refine lv_bipush (v := -102) G.1 G.2.1 dL_profiles_182 (by decide) ?_
                      refine lv_goto (tgt := 213) G.1 G.2.1 dL_profiles_184 (by decide) ?_
                      exact K_213 _ (rfl)
              · refine lv_bipush (v := -101) G.1 G.2.1 dL_profiles_164 (by decide) ?_
                refine lv_goto (tgt := 213) G.1 G.2.1 dL_profiles_166 (by decide) ?_
                refine lv_istore (lv' := [(13, .int ((-101))), (9, .int (nI f15)), (12, .int y14), (11, .int (nI e12)), (10, .int (nI f9)), (8, .int (nI e8)), (7, .int (nI j)), (0, .ref (q 0)), (1, .int (nI 0)), (2, .int x), (3, .ref (a 0)), (4, .ref (a 1)), (5, .ref (a 2)), (6, .ref (a 3))]) G.1 G.2.1 dL_profiles_213 hl (by decide) rfl (fun ls hl => ?_)
                refine lv_iload G.1 G.2.1 dL_profiles_215 (lv_at hl 0 rfl) ?_
                refine lv_if_lt (tgt := 238) G.1 G.2.1 dL_profiles_217 (by decide) (fun h_217 => ?_) (fun h => absurd (by decide) h)
                refine lv_aload_n G.1 G.2.1 dL_profiles_238 rfl (lv_at hl 7 rfl) ?_
                refine lv_iload G.1 G.2.1 dL_profiles_239 (lv_at hl 6 rfl) ?_
                refine lv_iload G.1 G.2.1 dL_profiles_241 (lv_at hl 5 rfl) ?_
                refine lv_iload G.1 G.2.1 dL_profiles_243 (lv_at hl 3 rfl) ?_
                refine lv_iload G.1 G.2.1 dL_profiles_245 (lv_at hl 2 rfl) ?_
                refine gz_wrap (As := [.ref (q 0), .int (nI j), .int (nI e8), .int (nI e12), .int y14]) (rest := []) G.fix (mL_bends l hst D q cI N S tr _ hok hinv ((nI j)) ((nI e8)) ((nI e12)) y14) (vx_cwSW 5 G.2.2.2.2.2.1 gL_profiles_L_bends rfl rfl rfl (by decide +kernel) ⟨Nat.le_of_ble_eq_true rfl, Nat.le_of_ble_eq_true rfl⟩) hZ hA hS rfl hl.1 rfl (Nat.le_of_ble_eq_true rfl) dL_profiles_247 (show 0 + 1 ≤ 1 by omega) (show 0 + 6 ≤ 6 by omega) (fun r Nx Sx tr H locs hp hZ hS => ?_)
                obtain ⟨rfl, eN, eS⟩ := hp
                have hk_247 : sj_bend N S ((nI j)) ((nI e8)) ((nI e12)) y14 = 1 := gk_f (by apply Bool.eq_false_iff.mpr; intro h; simp only [sA_bend, Bool.and_eq_true, decide_eq_true_eq, gb_nI (show j < 2 ^ 31 by omega), gn_nI (show j < 2 ^ 31 by omega), gb_nI (show e8 < 2 ^ 31 by omega), gn_nI (show e8 < 2 ^ 31 by omega), gb_nI (show e12 < 2 ^ 31 by omega), gn_nI (show e12 < 2 ^ 31 by omega)] at h <;> omega)
                rw [hk_247] at eN eS
                have eN : Nx = N := eN
                have eS : Sx = S := eS
                rw [eN, eS] at hZ
                rw [hk_247, gRes_1]
                refine lv_iload G.1 G.2.1 dL_profiles_250 (lv_at hl 0 rfl) ?_
                refine lv_icmp_ne (tgt := 259) G.1 G.2.1 dL_profiles_252 (by decide) (fun h => absurd rfl h) (fun h_252 => ?_)
                refine lv_iconst (v := nI 1) G.1 G.2.1 dL_profiles_255 (by decide) ?_
                refine lv_goto (tgt := 260) G.1 G.2.1 dL_profiles_256 (by decide) ?_
                refine W.widen (k := 1) (n := 6) (show 0 + 1 ≤ 1 by omega) (show 0 + 6 ≤ 6 by omega) ?_
                exact W.zret G.1 G.2.1 G.2.2.1 rfl (fun t ht hW => ⟨nI 1, _, _, _, rfl, ⟨rfl, hli, rfl, rfl⟩, by rw [ht]; exact hZ.1, hS.F ht⟩) hS.2.2 dL_profiles_260 G.2.2.2.2.2.2
            · refine lv_iload G.1 G.2.1 dL_profiles_135 (lv_at hl 3 rfl) ?_
              refine gn_eqz G (by omega) (tgt := 156) dL_profiles_137 (by decide) (fun h => absurd h (by omega)) (fun h_137 => ?_)
              refine lv_iload G.1 G.2.1 dL_profiles_140 (lv_at hl 4 rfl) ?_
              refine lv_iconst (v := nI 3) G.1 G.2.1 dL_profiles_142 (by decide) ?_
              refine gn_ge G (by omega) (by omega) (tgt := 156) dL_profiles_143 (by decide) (fun h_143 => ?_) (fun h_143 => ?_)
              · refine lv_iconst (v := nI 0) G.1 G.2.1 dL_profiles_156 (by decide) ?_
                exact K_157 _ (⟨_, rfl, by omega, by omega⟩)
              · refine lv_iload G.1 G.2.1 dL_profiles_146 (lv_at hl 1 rfl) ?_
                refine lv_iconst (v := nI 5) G.1 G.2.1 dL_profiles_148 (by decide) ?_
                refine gn_ge G (by omega) (by omega) (tgt := 156) dL_profiles_149 (by decide) (fun h_149 => ?_) (fun h_149 => ?_)
                · refine lv_iconst (v := nI 0) G.1 G.2.1 dL_profiles_156 (by decide) ?_
                  exact K_157 _ (⟨_, rfl, by omega, by omega⟩)
                · refine lv_iconst (v := nI 1) G.1 G.2.1 dL_profiles_152 (by decide) ?_
                  refine lv_goto (tgt := 157) G.1 G.2.1 dL_profiles_153 (by decide) ?_
                  exact K_157 _ (⟨_, rfl, by omega, by omega⟩)
          · refine gn_nez G (by omega) (tgt := 118) dL_profiles_111 (by decide) (fun h_111 => ?_) (fun h_111 => ?_)
            · refine lv_iload_n G.1 G.2.1 dL_profiles_118 rfl (lv_at hl 6 rfl) ?_
              refine lv_iconst (v := nI 5) G.1 G.2.1 dL_profiles_119 (by decide) ?_
              refine lv_ishr G.1 G.2.1 dL_profiles_120 ?_
              refine lv_topi (fun y16 hy16 => ?_)
              refine lv_iconst (v := nI 5) G.1 G.2.1 dL_profiles_121 (by decide) ?_
              refine gc_s (As := [.int y16, .int (nI 5)]) (rest := []) G.fix (mL_some l y16 5 (by omega) (by omega)) (va_cwS 2 G.2.2.2.2.2.1 gL_profiles_L_some rfl rfl rfl (by decide +kernel) ⟨Nat.le_of_ble_eq_true rfl, Nat.le_of_ble_eq_true rfl⟩) gc_blindT (fun _ _ _ => trivial) rfl hl.1 rfl (Nat.le_of_ble_eq_true rfl) dL_profiles_122 (show 0 ≤ 1 by omega) (show 0 ≤ 6 by omega) (fun r hr => ?_)
              obtain ⟨k17, hk17, rfl⟩ := hr
              exact K_125 _ (⟨_, rfl, by omega⟩)
            · refine lv_iconst (v := nI 5) G.1 G.2.1 dL_profiles_114 (by decide) ?_
              refine lv_goto (tgt := 125) G.1 G.2.1 dL_profiles_115 (by decide) ?_
              exact K_125 _ (⟨_, rfl, by omega⟩)
        · refine gn_nez G (by omega) (tgt := 96) dL_profiles_89 (by decide) (fun h_89 => ?_) (fun h_89 => ?_)
          · refine lv_iconst (v := nI 0) G.1 G.2.1 dL_profiles_96 (by decide) ?_
            exact K_97 _ (⟨_, rfl, by omega, by omega⟩)
          · refine lv_iconst (v := nI 1) G.1 G.2.1 dL_profiles_92 (by decide) ?_
            refine lv_goto (tgt := 97) G.1 G.2.1 dL_profiles_93 (by decide) ?_
            exact K_97 _ (⟨_, rfl, by omega, by omega⟩)
      · have hg_jf := lg_gbf hg_j
        refine gj_x (fun x => x = (nI 0)) 71 [] (fun x hx => ?_) (fun K_71 => ?_)
        · subst hx
          refine lv_istore (lv' := [(9, .int (nI 0)), (8, .int (nI e8)), (7, .int y5), (0, .ref (q 0)), (1, .int (nI 0)), (2, .int x), (3, .ref (a 0)), (4, .ref (a 1)), (5, .ref (a 2)), (6, .ref (a 3))]) G.1 G.2.1 dL_profiles_71 hl (by decide) rfl (fun ls hl => ?_)
          refine lv_iload G.1 G.2.1 dL_profiles_73 (lv_at hl 0 rfl) ?_
          refine gn_eqz G (by omega) (tgt := 96) dL_profiles_75 (by decide) (fun h_75 => ?_) (fun h => absurd rfl h)
          refine lv_iconst (v := nI 0) G.1 G.2.1 dL_profiles_96 (by decide) ?_
          refine lv_istore (lv' := [(10, .int (nI 0)), (9, .int (nI 0)), (8, .int (nI e8)), (7, .int y5), (0, .ref (q 0)), (1, .int (nI 0)), (2, .int x), (3, .ref (a 0)), (4, .ref (a 1)), (5, .ref (a 2)), (6, .ref (a 3))]) G.1 G.2.1 dL_profiles_97 hl (by decide) rfl (fun ls hl => ?_)
          refine lv_iload_n G.1 G.2.1 dL_profiles_99 rfl (lv_at hl 5 rfl) ?_
          refine gn_nez G (by omega) (tgt := 261) dL_profiles_100 (by decide) (fun h => absurd rfl h) (fun h_100 => ?_)
          refine lv_iload_n G.1 G.2.1 dL_profiles_103 rfl (lv_at hl 6 rfl) ?_
          refine lv_iconst (v := nI 5) G.1 G.2.1 dL_profiles_104 (by decide) ?_
          refine lv_ishr G.1 G.2.1 dL_profiles_105 ?_
          refine lv_topi (fun y18 hy18 => ?_)
          refine lv_bipush (v := nI 40) G.1 G.2.1 dL_profiles_106 (by decide) ?_
          refine gc_s (As := [.int y18, .int (nI 40)]) (rest := []) G.fix (mL_some l y18 40 (by omega) (by omega)) (va_cwS 2 G.2.2.2.2.2.1 gL_profiles_L_some rfl rfl rfl (by decide +kernel) ⟨Nat.le_of_ble_eq_true rfl, Nat.le_of_ble_eq_true rfl⟩) gc_blindT (fun _ _ _ => trivial) rfl hl.1 rfl (Nat.le_of_ble_eq_true rfl) dL_profiles_108 (show 0 ≤ 1 by omega) (show 0 ≤ 6 by omega) (fun r hr => ?_)
          obtain ⟨k19, hk19, rfl⟩ := hr
          refine gj_x (fun x => ∃ e : Nat, x = nI e ∧ e ≤ 5) 125 [] (fun x hx => ?_) (fun K_125 => ?_)
          · obtain ⟨e20, rfl, he20⟩ := hx
            refine lv_istore (lv' := [(11, .int (nI e20)), (10, .int (nI 0)), (9, .int (nI 0)), (8, .int (nI e8)), (7, .int y5), (0, .ref (q 0)), (1, .int (nI 0)), (2, .int x), (3, .ref (a 0)), (4, .ref (a 1)), (5, .ref (a 2)), (6, .ref (a 3))]) G.1 G.2.1 dL_profiles_125 hl (by decide) rfl (fun ls hl => ?_)
            refine lv_iload_n G.1 G.2.1 dL_profiles_127 rfl (lv_at hl 7 rfl) ?_
            refine lv_iconst (v := nI 4) G.1 G.2.1 dL_profiles_128 (by decide) ?_
            refine lv_ishr G.1 G.2.1 dL_profiles_129 ?_
            refine lv_topi (fun y21 hy21 => ?_)
            refine gc_s (As := [.int y21]) (rest := []) G.fix (mL_value l y21) (va_cwS 1 G.2.2.2.2.2.1 gL_profiles_L_value rfl rfl rfl (by decide +kernel) ⟨Nat.le_of_ble_eq_true rfl, Nat.le_of_ble_eq_true rfl⟩) gc_blindT (fun _ _ _ => trivial) rfl hl.1 rfl (Nat.le_of_ble_eq_true rfl) dL_profiles_130 (show 0 ≤ 1 by omega) (show 0 ≤ 6 by omega) (fun y22 _ => ?_)
            refine lv_istore (lv' := [(12, .int y22), (11, .int (nI e20)), (10, .int (nI 0)), (9, .int (nI 0)), (8, .int (nI e8)), (7, .int y5), (0, .ref (q 0)), (1, .int (nI 0)), (2, .int x), (3, .ref (a 0)), (4, .ref (a 1)), (5, .ref (a 2)), (6, .ref (a 3))]) G.1 G.2.1 dL_profiles_133 hl (by decide) rfl (fun ls hl => ?_)
            refine lv_iload G.1 G.2.1 dL_profiles_135 (lv_at hl 3 rfl) ?_
            refine gn_eqz G (by omega) (tgt := 156) dL_profiles_137 (by decide) (fun h_137 => ?_) (fun h => absurd rfl h)
            refine lv_iconst (v := nI 0) G.1 G.2.1 dL_profiles_156 (by decide) ?_
            refine lv_istore (lv' := [(9, .int (nI 0)), (12, .int y22), (11, .int (nI e20)), (10, .int (nI 0)), (8, .int (nI e8)), (7, .int y5), (0, .ref (q 0)), (1, .int (nI 0)), (2, .int x), (3, .ref (a 0)), (4, .ref (a 1)), (5, .ref (a 2)), (6, .ref (a 3))]) G.1 G.2.1 dL_profiles_157 hl (by decide) rfl (fun ls hl => ?_)
            refine lv_iload G.1 G.2.1 dL_profiles_159 (lv_at hl 0 rfl) ?_
            refine gn_nez G (by omega) (tgt := 169) dL_profiles_161 (by decide) (fun h => absurd rfl h) (fun h_161 => ?_)
            refine lv_bipush (v := -101) G.1 G.2.1 dL_profiles_164 (by decide) ?_
            refine lv_goto (tgt := 213) G.1 G.2.1 dL_profiles_166 (by decide) ?_
            refine lv_istore (lv' := [(13, .int ((-101))), (9, .int (nI 0)), (12, .int y22), (11, .int (nI e20)), (10, .int (nI 0)), (8, .int (nI e8)), (7, .int y5), (0, .ref (q 0)), (1, .int (nI 0)), (2, .int x), (3, .ref (a 0)), (4, .ref (a 1)), (5, .ref (a 2)), (6, .ref (a 3))]) G.1 G.2.1 dL_profiles_213 hl (by decide) rfl (fun ls hl => ?_)
            refine lv_iload G.1 G.2.1 dL_profiles_215 (lv_at hl 0 rfl) ?_
            refine lv_if_lt (tgt := 238) G.1 G.2.1 dL_profiles_217 (by decide) (fun h_217 => ?_) (fun h => absurd (by decide) h)
            refine lv_aload_n G.1 G.2.1 dL_profiles_238 rfl (lv_at hl 7 rfl) ?_
            refine lv_iload G.1 G.2.1 dL_profiles_239 (lv_at hl 6 rfl) ?_
            refine lv_iload G.1 G.2.1 dL_profiles_241 (lv_at hl 5 rfl) ?_
            refine lv_iload G.1 G.2.1 dL_profiles_243 (lv_at hl 3 rfl) ?_
            refine lv_iload G.1 G.2.1 dL_profiles_245 (lv_at hl 2 rfl) ?_
            refine gz_wrap (As := [.ref (q 0), .int y5, .int (nI e8), .int (nI e20), .int y22]) (rest := []) G.fix (mL_bends l hst D q cI N S tr _ hok hinv y5 ((nI e8)) ((nI e20)) y22) (vx_cwSW 5 G.2.2.2.2.2.1 gL_profiles_L_bends rfl rfl rfl (by decide +kernel) ⟨Nat.le_of_ble_eq_true rfl, Nat.le_of_ble_eq_true rfl⟩) hZ hA hS rfl hl.1 rfl (Nat.le_of_ble_eq_true rfl) dL_profiles_247 (show 0 + 1 ≤ 1 by omega) (show 0 + 6 ≤ 6 by omega) (fun r Nx Sx tr H locs hp hZ hS => ?_)
            obtain ⟨rfl, eN, eS⟩ := hp
            have hk_247 : sj_bend N S y5 ((nI e8)) ((nI e20)) y22 = 1 := gk_f (by simp [sA_bend, hg_jf])
            rw [hk_247] at eN eS
            have eN : Nx = N := eN
            have eS : Sx = S := eS
            rw [eN, eS] at hZ
            rw [hk_247, gRes_1]
            refine lv_iload G.1 G.2.1 dL_profiles_250 (lv_at hl 0 rfl) ?_
            refine lv_icmp_ne (tgt := 259) G.1 G.2.1 dL_profiles_252 (by decide) (fun h => absurd rfl h) (fun h_252 => ?_)
            refine lv_iconst (v := nI 1) G.1 G.2.1 dL_profiles_255 (by decide) ?_
            refine lv_goto (tgt := 260) G.1 G.2.1 dL_profiles_256 (by decide) ?_
            refine W.widen (k := 1) (n := 6) (show 0 + 1 ≤ 1 by omega) (show 0 + 6 ≤ 6 by omega) ?_
            exact W.zret G.1 G.2.1 G.2.2.1 rfl (fun t ht hW => ⟨nI 1, _, _, _, rfl, ⟨rfl, hli, rfl, rfl⟩, by rw [ht]; exact hZ.1, hS.F ht⟩) hS.2.2 dL_profiles_260 G.2.2.2.2.2.2
          · refine gn_nez G (by omega) (tgt := 118) dL_profiles_111 (by decide) (fun h_111 => ?_) (fun h_111 => ?_)
            · refine lv_iload_n G.1 G.2.1 dL_profiles_118 rfl (lv_at hl 6 rfl) ?_
              refine lv_iconst (v := nI 5) G.1 G.2.1 dL_profiles_119 (by decide) ?_
              refine lv_ishr G.1 G.2.1 dL_profiles_120 ?_
              refine lv_topi (fun y23 hy23 => ?_)
              refine lv_iconst (v := nI 5) G.1 G.2.1 dL_profiles_121 (by decide) ?_
              refine gc_s (As := [.int y23, .int (nI 5)]) (rest := []) G.fix (mL_some l y23 5 (by omega) (by omega)) (va_cwS 2 G.2.2.2.2.2.1 gL_profiles_L_some rfl rfl rfl (by decide +kernel) ⟨Nat.le_of_ble_eq_true rfl, Nat.le_of_ble_eq_true rfl⟩) gc_blindT (fun _ _ _ => trivial) rfl hl.1 rfl (Nat.le_of_ble_eq_true rfl) dL_profiles_122 (show 0 ≤ 1 by omega) (show 0 ≤ 6 by omega) (fun r hr => ?_)
              obtain ⟨k24, hk24, rfl⟩ := hr
              exact K_125 _ (⟨_, rfl, by omega⟩)
            · refine lv_iconst (v := nI 5) G.1 G.2.1 dL_profiles_114 (by decide) ?_
              refine lv_goto (tgt := 125) G.1 G.2.1 dL_profiles_115 (by decide) ?_
              exact K_125 _ (⟨_, rfl, by omega⟩)
        · refine lv_iload G.1 G.2.1 dL_profiles_53 (lv_at hl 1 rfl) ?_
          refine lv_if_lt (tgt := 70) G.1 G.2.1 dL_profiles_55 (by decide) (fun h_55 => ?_) (fun h_55 => ?_)
          · refine lv_iconst (v := nI 0) G.1 G.2.1 dL_profiles_70 (by decide) ?_
            exact K_71 _ (rfl)
          · refine lv_iload G.1 G.2.1 dL_profiles_58 (lv_at hl 1 rfl) ?_
            refine lv_aload_n G.1 G.2.1 dL_profiles_60 rfl (lv_at hl 5 rfl) ?_
            refine lv_iconst (v := nI 0) G.1 G.2.1 dL_profiles_61 (by decide) ?_
            refine gl_ald (k := 0) (len := 11) (F := fC N S) G hZ.r rfl (by omega) (by decide) dL_profiles_62 ?_
            rw [fC_0]
            refine lv_icmp_ge (tgt := 70) G.1 G.2.1 dL_profiles_63 (by decide) (fun h_63 => ?_) (fun h => (lg_gein (by omega) h_55 h hg_jf).elim)
            refine lv_iconst (v := nI 0) G.1 G.2.1 dL_profiles_70 (by decide) ?_
            exact K_71 _ (rfl)
    · refine gn_nez G (by omega) (tgt := 44) dL_profiles_37 (by decide) (fun h_37 => ?_) (fun h_37 => ?_)
      · refine lv_iload_n G.1 G.2.1 dL_profiles_44 rfl (lv_at hl 3 rfl) ?_
        refine lv_iconst (v := nI 3) G.1 G.2.1 dL_profiles_45 (by decide) ?_
        refine lv_ishr G.1 G.2.1 dL_profiles_46 ?_
        refine lv_topi (fun y25 hy25 => ?_)
        refine lv_iconst (v := nI 3) G.1 G.2.1 dL_profiles_47 (by decide) ?_
        refine gc_s (As := [.int y25, .int (nI 3)]) (rest := []) G.fix (mL_some l y25 3 (by omega) (by omega)) (va_cwS 2 G.2.2.2.2.2.1 gL_profiles_L_some rfl rfl rfl (by decide +kernel) ⟨Nat.le_of_ble_eq_true rfl, Nat.le_of_ble_eq_true rfl⟩) gc_blindT (fun _ _ _ => trivial) rfl hl.1 rfl (Nat.le_of_ble_eq_true rfl) dL_profiles_48 (show 0 ≤ 1 by omega) (show 0 ≤ 6 by omega) (fun r hr => ?_)
        obtain ⟨k26, hk26, rfl⟩ := hr
        exact K_51 _ (⟨_, rfl, by omega⟩)
      · refine lv_iconst (v := nI 3) G.1 G.2.1 dL_profiles_40 (by decide) ?_
        refine lv_goto (tgt := 51) G.1 G.2.1 dL_profiles_41 (by decide) ?_
        exact K_51 _ (⟨_, rfl, by omega⟩)
  · refine gn_nez G (by omega) (tgt := 25) dL_profiles_18 (by decide) (fun h_18 => ?_) (fun h_18 => ?_)
    · refine lv_iconst (v := nI 0) G.1 G.2.1 dL_profiles_25 (by decide) ?_
      exact K_26 _ (⟨_, rfl, by omega⟩)
    · refine lv_iconst (v := nI 1) G.1 G.2.1 dL_profiles_21 (by decide) ?_
      refine lv_goto (tgt := 26) G.1 G.2.1 dL_profiles_22 (by decide) ?_
      exact K_26 _ (⟨_, rfl, by omega⟩)
set_option maxRecDepth 100000 in
set_option maxHeartbeats 2000000 in
theorem mL_profiles_1 (l : Launch) (hst : l.stackTraces = false) (D : va_G) (q a : Nat → Nat) (cI : ClassId) (N : Nat → Nat) (S : Nat → Nat → Nat) (tr : Nat → Nat) (A : Nat → Prop) (hli : li N S) (x : Int32) : Met l yL_profiles wsL_profiles { frames := 9, cells := 1, slots := 6, locals := 197 } (va_Pc [.ref (q 0), .int (nI 1), .int x, .ref (a 0), .ref (a 1), .ref (a 2), .ref (a 3)] (fun U => zBt D q a cI N S tr A U)) (gQz D q a cI (fun r N' S' => r = nI 1 ∧ li N' S' ∧ N' 0 = N 0 ∧ N' 5 = N 5) A) 1 6 A := by
  refine gc_met [.ref (q 0), .int (nI 1), .int x, .ref (a 0), .ref (a 1), .ref (a 2), .ref (a 3)] (by decide) rfl (Nat.le_of_ble_eq_true rfl) rfl ?_
  intro p e s m below meth c ls G hl hB
  obtain ⟨hZ, hA⟩ := hB
  have hli9 := hli
  obtain ⟨hok, hinv, hN0, hN5, h6⟩ := hli9
  have hok9 := hok
  obtain ⟨⟨ok0, ok5⟩, ok1, ok2, ok3, ok4, ok6, ok7, ok8, ok12, ok13, ok14⟩ := hok9
  have hZ0 : gZ A s s.heap := hZ.2.2.2
  have hS : va_S A s.heap s.heap [] := va_S.rf
  refine lv_iload_n G.1 G.2.1 dL_profiles_0 rfl (lv_at hl 2 rfl) ?_
  refine lv_aload_n G.1 G.2.1 dL_profiles_1 rfl (lv_at hl 3 rfl) ?_
  refine lv_iconst (v := nI 0) G.1 G.2.1 dL_profiles_2 (by decide) ?_
  refine gl_ald (k := 0) (len := 11) (F := fC N S) G hZ.r rfl (by omega) (by decide) dL_profiles_3 ?_
  rw [fC_0]
  refine lv_iconst (v := nI 1) G.1 G.2.1 dL_profiles_4 (by decide) ?_
  refine gn_iadd G dL_profiles_5 ?_
  refine gc_s (As := [.int x, .int (nI ((N 0) + 1))]) (rest := []) G.fix (mL_some l x ((N 0) + 1) (by omega) (by omega)) (va_cwS 2 G.2.2.2.2.2.1 gL_profiles_L_some rfl rfl rfl (by decide +kernel) ⟨Nat.le_of_ble_eq_true rfl, Nat.le_of_ble_eq_true rfl⟩) gc_blindT (fun _ _ _ => trivial) rfl hl.1 rfl (Nat.le_of_ble_eq_true rfl) dL_profiles_6 (show 0 ≤ 1 by omega) (show 0 ≤ 6 by omega) (fun r hr => ?_)
  obtain ⟨k1, hk1, rfl⟩ := hr
  refine lv_iload_n G.1 G.2.1 dL_profiles_9 rfl (lv_at hl 2 rfl) ?_
  refine lv_bipush (v := nI 11) G.1 G.2.1 dL_profiles_10 (by decide) ?_
  refine lv_ishr G.1 G.2.1 dL_profiles_12 ?_
  refine lv_topi (fun y2 hy2 => ?_)
  refine lv_bipush (v := nI 19) G.1 G.2.1 dL_profiles_13 (by decide) ?_
  refine gc_s (As := [.int y2, .int (nI 19)]) (rest := [.int (nI k1)]) G.fix (mL_some l y2 19 (by omega) (by omega)) (va_cwS 2 G.2.2.2.2.2.1 gL_profiles_L_some rfl rfl rfl (by decide +kernel) ⟨Nat.le_of_ble_eq_true rfl, Nat.le_of_ble_eq_true rfl⟩) gc_blindT (fun _ _ _ => trivial) rfl hl.1 rfl (Nat.le_of_ble_eq_true rfl) dL_profiles_15 (show 0 ≤ 1 by omega) (show 0 ≤ 6 by omega) (fun r hr => ?_)
  obtain ⟨k3, hk3, rfl⟩ := hr
  refine gj_x (fun x => ∃ e : Nat, x = nI e ∧ e ≤ 1) 26 [.int (nI k1)] (fun x hx => ?_) (fun K_26 => ?_)
  · obtain ⟨e4, rfl, he4⟩ := hx
    refine lv_isub G.1 G.2.1 dL_profiles_26 ?_
    refine lv_topi (fun y5 hy5 => ?_)
    refine lv_istore (lv' := [(7, .int y5), (0, .ref (q 0)), (1, .int (nI 1)), (2, .int x), (3, .ref (a 0)), (4, .ref (a 1)), (5, .ref (a 2)), (6, .ref (a 3))]) G.1 G.2.1 dL_profiles_27 hl (by decide) rfl (fun ls hl => ?_)
    refine lv_iload_n G.1 G.2.1 dL_profiles_29 rfl (lv_at hl 3 rfl) ?_
    refine lv_iconst (v := nI 3) G.1 G.2.1 dL_profiles_30 (by decide) ?_
    refine lv_ishr G.1 G.2.1 dL_profiles_31 ?_
    refine lv_topi (fun y6 hy6 => ?_)
    refine lv_bipush (v := nI 40) G.1 G.2.1 dL_profiles_32 (by decide) ?_
    refine gc_s (As := [.int y6, .int (nI 40)]) (rest := []) G.fix (mL_some l y6 40 (by omega) (by omega)) (va_cwS 2 G.2.2.2.2.2.1 gL_profiles_L_some rfl rfl rfl (by decide +kernel) ⟨Nat.le_of_ble_eq_true rfl, Nat.le_of_ble_eq_true rfl⟩) gc_blindT (fun _ _ _ => trivial) rfl hl.1 rfl (Nat.le_of_ble_eq_true rfl) dL_profiles_34 (show 0 ≤ 1 by omega) (show 0 ≤ 6 by omega) (fun r hr => ?_)
    obtain ⟨k7, hk7, rfl⟩ := hr
    refine gj_x (fun x => ∃ e : Nat, x = nI e ∧ e ≤ 3) 51 [] (fun x hx => ?_) (fun K_51 => ?_)
    · obtain ⟨e8, rfl, he8⟩ := hx
      refine lv_istore (lv' := [(8, .int (nI e8)), (7, .int y5), (0, .ref (q 0)), (1, .int (nI 1)), (2, .int x), (3, .ref (a 0)), (4, .ref (a 1)), (5, .ref (a 2)), (6, .ref (a 3))]) G.1 G.2.1 dL_profiles_51 hl (by decide) rfl (fun ls hl => ?_)
      by_cases hg_j : gb y5 (N 0) = true
      · obtain ⟨j, hj, rfl⟩ := gb_of (by omega) hg_j
        refine lv_iload G.1 G.2.1 dL_profiles_53 (lv_at hl 1 rfl) ?_
        refine gn_ltz G (by omega) (tgt := 70) dL_profiles_55 (by decide) ?_
        refine lv_iload G.1 G.2.1 dL_profiles_58 (lv_at hl 1 rfl) ?_
        refine lv_aload_n G.1 G.2.1 dL_profiles_60 rfl (lv_at hl 5 rfl) ?_
        refine lv_iconst (v := nI 0) G.1 G.2.1 dL_profiles_61 (by decide) ?_
        refine gl_ald (k := 0) (len := 11) (F := fC N S) G hZ.r rfl (by omega) (by decide) dL_profiles_62 ?_
        rw [fC_0]
        refine gn_ge G (by omega) (by omega) (tgt := 70) dL_profiles_63 (by decide) (fun h => absurd h (by omega)) (fun h_63 => ?_)
        refine lv_iconst (v := nI 1) G.1 G.2.1 dL_profiles_66 (by decide) ?_
        refine lv_goto (tgt := 71) G.1 G.2.1 dL_profiles_67 (by decide) ?_
        refine lv_istore (lv' := [(9, .int (nI 1)), (8, .int (nI e8)), (7, .int (nI j)), (0, .ref (q 0)), (1, .int (nI 1)), (2, .int x), (3, .ref (a 0)), (4, .ref (a 1)), (5, .ref (a 2)), (6, .ref (a 3))]) G.1 G.2.1 dL_profiles_71 hl (by decide) rfl (fun ls hl => ?_)
        refine lv_iload G.1 G.2.1 dL_profiles_73 (lv_at hl 0 rfl) ?_
        refine gn_eqz G (by omega) (tgt := 96) dL_profiles_75 (by decide) (fun h => absurd h (by omega)) (fun h_75 => ?_)
        refine lv_aload_n G.1 G.2.1 dL_profiles_78 rfl (lv_at hl 6 rfl) ?_
        refine lv_aload G.1 G.2.1 dL_profiles_79 (lv_at hl 9 rfl) ?_
        refine gc_s (As := [.ref (a 0), .ref (a 3)]) (rest := []) G.fix (mL_held l D a cI N S hok hinv hN5) (va_cwS 2 G.2.2.2.2.2.1 gL_profiles_L_held rfl rfl rfl (by decide +kernel) ⟨Nat.le_of_ble_eq_true rfl, Nat.le_of_ble_eq_true rfl⟩) lrAt_blind (fun U hU hW => by rw [hU]; exact hZ.r.moved hW) rfl hl.1 rfl (Nat.le_of_ble_eq_true rfl) dL_profiles_81 (show 0 ≤ 1 by omega) (show 0 ≤ 6 by omega) (fun r hr => ?_)
        subst hr
        have hv_81 := sp_held_lt hok
        refine lv_iload G.1 G.2.1 dL_profiles_84 (lv_at hl 2 rfl) ?_
        refine gn_ishr G dL_profiles_86 (by omega) (by omega) ?_
        refine lv_iconst (v := nI 1) G.1 G.2.1 dL_profiles_87 (by decide) ?_
        refine gn_iand1 G dL_profiles_88 ?_
        have hbit_88 := sp_bit_lt (sp_held N S) j
        refine gj_x (fun x => ∃ f : Nat, x = nI f ∧ f ≤ 1 ∧ (f = 1 ↔ sp_bit (sp_held N S) j = 0)) 97 [] (fun x hx => ?_) (fun K_97 => ?_)
        · obtain ⟨f9, rfl, hf9, hf9b⟩ := hx
          refine lv_istore (lv' := [(10, .int (nI f9)), (9, .int (nI 1)), (8, .int (nI e8)), (7, .int (nI j)), (0, .ref (q 0)), (1, .int (nI 1)), (2, .int x), (3, .ref (a 0)), (4, .ref (a 1)), (5, .ref (a 2)), (6, .ref (a 3))]) G.1 G.2.1 dL_profiles_97 hl (by decide) rfl (fun ls hl => ?_)
          refine lv_iload_n G.1 G.2.1 dL_profiles_99 rfl (lv_at hl 5 rfl) ?_
          refine gn_nez G (by omega) (tgt := 261) dL_profiles_100 (by decide) (fun h_100 => ?_) (fun h => absurd h (by omega))
          refine lv_iload_n G.1 G.2.1 dL_profiles_261 rfl (lv_at hl 5 rfl) ?_
          refine lv_iconst (v := nI 1) G.1 G.2.1 dL_profiles_262 (by decide) ?_
          refine gn_ne G (by omega) (by omega) (tgt := 488) dL_profiles_263 (by decide) (fun h => absurd rfl h) (fun h_263 => ?_)
          refine lv_iload_n G.1 G.2.1 dL_profiles_266 rfl (lv_at hl 6 rfl) ?_
          refine lv_iconst (v := nI 4) G.1 G.2.1 dL_profiles_267 (by decide) ?_
          refine lv_ishr G.1 G.2.1 dL_profiles_268 ?_
          refine lv_topi (fun y10 hy10 => ?_)
          refine lv_iconst (v := nI 2) G.1 G.2.1 dL_profiles_269 (by decide) ?_
          refine gc_s (As := [.int y10, .int (nI 2)]) (rest := []) G.fix (mL_some l y10 2 (by omega) (by omega)) (va_cwS 2 G.2.2.2.2.2.1 gL_profiles_L_some rfl rfl rfl (by decide +kernel) ⟨Nat.le_of_ble_eq_true rfl, Nat.le_of_ble_eq_true rfl⟩) gc_blindT (fun _ _ _ => trivial) rfl hl.1 rfl (Nat.le_of_ble_eq_true rfl) dL_profiles_270 (show 0 ≤ 1 by omega) (show 0 ≤ 6 by omega) (fun r hr => ?_)
          obtain ⟨k11, hk11, rfl⟩ := hr
          refine gj_x (fun x => ∃ e : Nat, x = nI e ∧ e ≤ 255) 289 [] (fun x hx => ?_) (fun K_289 => ?_)
          · obtain ⟨e12, rfl, he12⟩ := hx
            refine lv_istore (lv' := [(11, .int (nI e12)), (10, .int (nI f9)), (9, .int (nI 1)), (8, .int (nI e8)), (7, .int (nI j)), (0, .ref (q 0)), (1, .int (nI 1)), (2, .int x), (3, .ref (a 0)), (4, .ref (a 1)), (5, .ref (a 2)), (6, .ref (a 3))]) G.1 G.2.1 dL_profiles_289 hl (by decide) rfl (fun ls hl => ?_)
            refine lv_iload_n G.1 G.2.1 dL_profiles_291 rfl (lv_at hl 7 rfl) ?_
            refine lv_bipush (v := nI 6) G.1 G.2.1 dL_profiles_292 (by decide) ?_
            refine lv_ishr G.1 G.2.1 dL_profiles_294 ?_
            refine lv_topi (fun y13 hy13 => ?_)
            refine lv_bipush (v := nI 30) G.1 G.2.1 dL_profiles_295 (by decide) ?_
            refine gc_s (As := [.int y13, .int (nI 30)]) (rest := []) G.fix (mL_some l y13 30 (by omega) (by omega)) (va_cwS 2 G.2.2.2.2.2.1 gL_profiles_L_some rfl rfl rfl (by decide +kernel) ⟨Nat.le_of_ble_eq_true rfl, Nat.le_of_ble_eq_true rfl⟩) gc_blindT (fun _ _ _ => trivial) rfl hl.1 rfl (Nat.le_of_ble_eq_true rfl) dL_profiles_297 (show 0 ≤ 1 by omega) (show 0 ≤ 6 by omega) (fun r hr => ?_)
            obtain ⟨k14, hk14, rfl⟩ := hr
            refine gj_x (fun x => True) 345 [] (fun x hx => ?_) (fun K_345 => ?_)
            · obtain ⟨z15, rfl⟩ : ∃ z, z = x := ⟨x, rfl⟩
              refine lv_istore (lv' := [(12, .int z15), (11, .int (nI e12)), (10, .int (nI f9)), (9, .int (nI 1)), (8, .int (nI e8)), (7, .int (nI j)), (0, .ref (q 0)), (1, .int (nI 1)), (2, .int x), (3, .ref (a 0)), (4, .ref (a 1)), (5, .ref (a 2)), (6, .ref (a 3))]) G.1 G.2.1 dL_profiles_345 hl (by decide) rfl (fun ls hl => ?_)
              refine gj_x (fun x => ∃ f : Nat, x = nI f ∧ f ≤ 1 ∧ (f = 1 ↔ e8 < 3)) 363 [] (fun x hx => ?_) (fun K_363 => ?_)
              · obtain ⟨f16, rfl, hf16, hf16b⟩ := hx
                refine lv_istore (lv' := [(9, .int (nI f16)), (12, .int z15), (11, .int (nI e12)), (10, .int (nI f9)), (8, .int (nI e8)), (7, .int (nI j)), (0, .ref (q 0)), (1, .int (nI 1)), (2, .int x), (3, .ref (a 0)), (4, .ref (a 1)), (5, .ref (a 2)), (6, .ref (a 3))]) G.1 G.2.1 dL_profiles_363 hl (by decide) rfl (fun ls hl => ?_)
                refine lv_iload G.1 G.2.1 dL_profiles_365 (lv_at hl 0 rfl) ?_
                refine gn_nez G (by omega) (tgt := 375) dL_profiles_367 (by decide) (fun h_367 => ?_) (fun h_367 => ?_)
                · by_cases hg_v : gb z15 256 = true
                  · obtain ⟨v, hv, rfl⟩ := gb_of (by omega) hg_v
                    refine lv_iload G.1 G.2.1 dL_profiles_375 (lv_at hl 1 rfl) ?_
                    refine lv_iload G.1 G.2.1 dL_profiles_377 (lv_at hl 2 rfl) ?_
                    refine gn_lt G (by omega) (by omega) (tgt := 390) dL_profiles_379 (by decide) (fun h_379 => ?_) (fun h_379 => ?_)
                    · refine lv_bipush (v := -102) G.1 G.2.1 dL_profiles_390 (by decide) ?_
                      refine lv_goto (tgt := 431) G.1 G.2.1 dL_profiles_392 (by decide) ?_
                      refine lv_istore (lv' := [(13, .int ((-102))), (9, .int (nI f16)), (12, .int (nI v)), (11, .int (nI e12)), (10, .int (nI f9)), (8, .int (nI e8)), (7, .int (nI j)), (0, .ref (q 0)), (1, .int (nI 1)), (2, .int x), (3, .ref (a 0)), (4, .ref (a 1)), (5, .ref (a 2)), (6, .ref (a 3))]) G.1 G.2.1 dL_profiles_431 hl (by decide) rfl (fun ls hl => ?_)
                      refine lv_iload G.1 G.2.1 dL_profiles_433 (lv_at hl 0 rfl) ?_
                      refine lv_if_lt (tgt := 465) G.1 G.2.1 dL_profiles_435 (by decide) (fun h_435 => ?_) (fun h => absurd (by decide) h)
                      refine lv_aload_n G.1 G.2.1 dL_profiles_465 rfl (lv_at hl 7 rfl) ?_
                      refine lv_iload G.1 G.2.1 dL_profiles_466 (lv_at hl 6 rfl) ?_
                      refine lv_iload G.1 G.2.1 dL_profiles_468 (lv_at hl 5 rfl) ?_
                      refine lv_iload G.1 G.2.1 dL_profiles_470 (lv_at hl 3 rfl) ?_
                      refine lv_iload G.1 G.2.1 dL_profiles_472 (lv_at hl 2 rfl) ?_
                      refine gz_wrap (As := [.ref (q 0), .int (nI j), .int (nI e8), .int (nI e12), .int (nI v)]) (rest := []) G.fix (mL_reaches l hst D q cI N S tr _ hok hinv ((nI j)) ((nI e8)) ((nI e12)) ((nI v))) (vx_cwSW 5 G.2.2.2.2.2.1 gL_profiles_L_reaches rfl rfl rfl (by decide +kernel) ⟨Nat.le_of_ble_eq_true rfl, Nat.le_of_ble_eq_true rfl⟩) hZ hA hS rfl hl.1 rfl (Nat.le_of_ble_eq_true rfl) dL_profiles_474 (show 0 + 1 ≤ 1 by omega) (show 0 + 6 ≤ 6 by omega) (fun r Nx Sx tr H locs hp hZ hS => ?_)
                      obtain ⟨rfl, eN, eS⟩ := hp
                      have hk_474 : sj_reach N S ((nI j)) ((nI e8)) ((nI e12)) ((nI v)) = 2 := gk_tf (by simp only [sA_reach, Bool.and_eq_true, decide_eq_true_eq, gb_nI (show j < 2 ^ 31 by omega), gn_nI (show j < 2 ^ 31 by omega), gb_nI (show e8 < 2 ^ 31 by omega), gn_nI (show e8 < 2 ^ 31 by omega), gb_nI (show e12 < 2 ^ 31 by omega), gn_nI (show e12 < 2 ^ 31 by omega), gb_nI (show v < 2 ^ 31 by omega), gn_nI (show v < 2 ^ 31 by omega)] <;> omega) (by apply Bool.eq_false_iff.mpr; intro h; simp only [sB_reach, Bool.and_eq_true, decide_eq_true_eq, gb_nI (show j < 2 ^ 31 by omega), gn_nI (show j < 2 ^ 31 by omega), gb_nI (show e8 < 2 ^ 31 by omega), gn_nI (show e8 < 2 ^ 31 by omega), gb_nI (show e12 < 2 ^ 31 by omega), gn_nI (show e12 < 2 ^ 31 by omega), gb_nI (show v < 2 ^ 31 by omega), gn_nI (show v < 2 ^ 31 by omega)] at h <;> omega)
                      rw [hk_474] at eN eS
                      have eN : Nx = N := eN
                      have eS : Sx = S := eS
                      rw [eN, eS] at hZ
                      rw [hk_474, gRes_2]
                      refine lv_iload G.1 G.2.1 dL_profiles_477 (lv_at hl 0 rfl) ?_
                      refine lv_icmp_ne (tgt := 486) G.1 G.2.1 dL_profiles_479 (by decide) (fun h => absurd rfl h) (fun h_479 => ?_)
                      refine lv_iconst (v := nI 1) G.1 G.2.1 dL_profiles_482 (by decide) ?_
                      refine lv_goto (tgt := 487) G.1 G.2.1 dL_profiles_483 (by decide) ?_
                      refine W.widen (k := 1) (n := 6) (show 0 + 1 ≤ 1 by omega) (show 0 + 6 ≤ 6 by omega) ?_
                      exact W.zret G.1 G.2.1 G.2.2.1 rfl (fun t ht hW => ⟨nI 1, _, _, _, rfl, ⟨rfl, hli, rfl, rfl⟩, by rw [ht]; exact hZ.1, hS.F ht⟩) hS.2.2 dL_profiles_487 G.2.2.2.2.2.2
                    · refine lv_iload G.1 G.2.1 dL_profiles_382 (lv_at hl 1 rfl) ?_
                      refine lv_sipush (v := nI 255) G.1 G.2.1 dL_profiles_384 (by decide) ?_
                      refine gn_le G (by omega) (by omega) (tgt := 395) dL_profiles_387 (by decide) (fun h_387 => ?_) (fun h => absurd h (by omega))
                      refine lv_iload G.1 G.2.1 dL_profiles_395 (lv_at hl 3 rfl) ?_
                      refine gn_nez G (by omega) (tgt := 405) dL_profiles_397 (by decide) (fun h_397 => ?_) (fun h_397 => ?_)
                      · refine lv_aload G.1 G.2.1 dL_profiles_405 (lv_at hl 11 rfl) ?_
                        refine lv_bipush (v := nI 9) G.1 G.2.1 dL_profiles_407 (by decide) ?_
                        refine lv_iconst (v := nI 3) G.1 G.2.1 dL_profiles_409 (by decide) ?_
                        refine lv_iload G.1 G.2.1 dL_profiles_410 (lv_at hl 5 rfl) ?_
                        refine gn_imul G dL_profiles_412 ?_
                        refine gn_iadd G dL_profiles_413 ?_
                        refine lv_iload G.1 G.2.1 dL_profiles_414 (lv_at hl 4 rfl) ?_
                        refine gn_iadd G dL_profiles_416 ?_
                        refine gl_ald (k := 2) (len := 18) (F := fR S) G hZ.r rfl (by omega) (by decide) dL_profiles_417 ?_
                        rw [fR_3]
                        have hv_417 := ok3 (j * 3 + e8)
                        refine lv_aload G.1 G.2.1 dL_profiles_418 (lv_at hl 11 rfl) ?_
                        refine lv_iconst (v := nI 3) G.1 G.2.1 dL_profiles_420 (by decide) ?_
                        refine lv_iload G.1 G.2.1 dL_profiles_421 (lv_at hl 5 rfl) ?_
                        refine gn_imul G dL_profiles_423 ?_
                        refine lv_iload G.1 G.2.1 dL_profiles_424 (lv_at hl 4 rfl) ?_
                        refine gn_iadd G dL_profiles_426 ?_
                        refine gl_ald (k := 2) (len := 18) (F := fR S) G hZ.r rfl (by omega) (by decide) dL_profiles_427 ?_
                        rw [fR_2 (by omega)]
                        have hv_427 := ok2 (j * 3 + e8)
                        refine gn_isub G dL_profiles_428 (by omega) ?_
                        refine lv_iconst (v := nI 1) G.1 G.2.1 dL_profiles_429 (by decide) ?_
                        refine gn_iadd G dL_profiles_430 ?_
                        refine lv_istore (lv' := [(13, .int (nI (((S 3 (j * 3 + e8)) - (S 2 (j * 3 + e8))) + 1))), (9, .int (nI f16)), (12, .int (nI v)), (11, .int (nI e12)), (10, .int (nI f9)), (8, .int (nI e8)), (7, .int (nI j)), (0, .ref (q 0)), (1, .int (nI 1)), (2, .int x), (3, .ref (a 0)), (4, .ref (a 1)), (5, .ref (a 2)), (6, .ref (a 3))]) G.1 G.2.1 dL_profiles_431 hl (by decide) rfl (fun ls hl => ?_)
                        refine lv_iload G.1 G.2.1 dL_profiles_433 (lv_at hl 0 rfl) ?_
                        refine gn_ltz G (by omega) (tgt := 465) dL_profiles_435 (by decide) ?_
                        refine lv_aload G.1 G.2.1 dL_profiles_438 (lv_at hl 12 rfl) ?_
                        refine lv_iconst (v := nI 3) G.1 G.2.1 dL_profiles_440 (by decide) ?_
                        refine lv_iload G.1 G.2.1 dL_profiles_441 (lv_at hl 6 rfl) ?_
                        refine gn_imul G dL_profiles_443 ?_
                        refine lv_iload G.1 G.2.1 dL_profiles_444 (lv_at hl 5 rfl) ?_
                        refine gn_iadd G dL_profiles_446 ?_
                        refine lv_iload G.1 G.2.1 dL_profiles_447 (lv_at hl 3 rfl) ?_
                        refine gz_ast (k := 2) (len := 18) (F := fR S) (i := (3 * j) + e8) (v := e12) (N3 := N) (S3 := (gs S 2 (gu (S 2) (j * 3 + e8) e12))) G hZ0 hZ hS rfl (ls_r2 (by omega)) (by omega) (by decide) dL_profiles_449 (fun H locs hZ hS => ?_)
                        refine lv_aload G.1 G.2.1 dL_profiles_450 (lv_at hl 12 rfl) ?_
                        refine lv_bipush (v := nI 9) G.1 G.2.1 dL_profiles_452 (by decide) ?_
                        refine lv_iconst (v := nI 3) G.1 G.2.1 dL_profiles_454 (by decide) ?_
                        refine lv_iload G.1 G.2.1 dL_profiles_455 (lv_at hl 6 rfl) ?_
                        refine gn_imul G dL_profiles_457 ?_
                        refine gn_iadd G dL_profiles_458 ?_
                        refine lv_iload G.1 G.2.1 dL_profiles_459 (lv_at hl 5 rfl) ?_
                        refine gn_iadd G dL_profiles_461 ?_
                        refine lv_iload G.1 G.2.1 dL_profiles_462 (lv_at hl 2 rfl) ?_
                        refine gz_ast (k := 2) (len := 18) (F := fR ((gs S 2 (gu (S 2) (j * 3 + e8) e12)))) (i := (9 + (3 * j)) + e8) (v := v) (N3 := N) (S3 := (gs (gs S 2 (gu (S 2) (j * 3 + e8) e12)) 3 (gu (S 3) (j * 3 + e8) v))) G hZ0 hZ hS rfl (ls_r3) (by omega) (by decide) dL_profiles_464 (fun H locs hZ hS => ?_)
                        refine lv_aload_n G.1 G.2.1 dL_profiles_465 rfl (lv_at hl 7 rfl) ?_
                        refine lv_iload G.1 G.2.1 dL_profiles_466 (lv_at hl 6 rfl) ?_
                        refine lv_iload G.1 G.2.1 dL_profiles_468 (lv_at hl 5 rfl) ?_
                        refine lv_iload G.1 G.2.1 dL_profiles_470 (lv_at hl 3 rfl) ?_
                        refine lv_iload G.1 G.2.1 dL_profiles_472 (lv_at hl 2 rfl) ?_
                        refine gz_wrap (As := [.ref (q 0), .int (nI j), .int (nI e8), .int (nI e12), .int (nI v)]) (rest := []) G.fix (mL_reaches l hst D q cI N S tr _ hok hinv ((nI j)) ((nI e8)) ((nI e12)) ((nI v))) (vx_cwSW 5 G.2.2.2.2.2.1 gL_profiles_L_reaches rfl rfl rfl (by decide +kernel) ⟨Nat.le_of_ble_eq_true rfl, Nat.le_of_ble_eq_true rfl⟩) hZ hA hS rfl hl.1 rfl (Nat.le_of_ble_eq_true rfl) dL_profiles_474 (show 0 + 1 ≤ 1 by omega) (show 0 + 6 ≤ 6 by omega) (fun r Nx Sx tr H locs hp hZ hS => ?_)
                        obtain ⟨rfl, eN, eS⟩ := hp
                        have hk_474 : sj_reach N S ((nI j)) ((nI e8)) ((nI e12)) ((nI v)) = 0 := gk_ttt (by simp only [sA_reach, Bool.and_eq_true, decide_eq_true_eq, gb_nI (show j < 2 ^ 31 by omega), gn_nI (show j < 2 ^ 31 by omega), gb_nI (show e8 < 2 ^ 31 by omega), gn_nI (show e8 < 2 ^ 31 by omega), gb_nI (show e12 < 2 ^ 31 by omega), gn_nI (show e12 < 2 ^ 31 by omega), gb_nI (show v < 2 ^ 31 by omega), gn_nI (show v < 2 ^ 31 by omega)] <;> omega) (by simp only [sB_reach, Bool.and_eq_true, decide_eq_true_eq, gb_nI (show j < 2 ^ 31 by omega), gn_nI (show j < 2 ^ 31 by omega), gb_nI (show e8 < 2 ^ 31 by omega), gn_nI (show e8 < 2 ^ 31 by omega), gb_nI (show e12 < 2 ^ 31 by omega), gn_nI (show e12 < 2 ^ 31 by omega), gb_nI (show v < 2 ^ 31 by omega), gn_nI (show v < 2 ^ 31 by omega)] <;> omega) (by simp only [sC_reach, Bool.and_eq_true, decide_eq_true_eq, gb_nI (show j < 2 ^ 31 by omega), gn_nI (show j < 2 ^ 31 by omega), gb_nI (show e8 < 2 ^ 31 by omega), gn_nI (show e8 < 2 ^ 31 by omega), gb_nI (show e12 < 2 ^ 31 by omega), gn_nI (show e12 < 2 ^ 31 by omega), gb_nI (show v < 2 ^ 31 by omega), gn_nI (show v < 2 ^ 31 by omega)] <;> omega)
                        rw [hk_474] at eN eS
                        have eN : Nx = sN_reach N S ((nI j)) ((nI e8)) ((nI e12)) ((nI v)) := eN
                        have eS : Sx = sS_reach N S ((nI j)) ((nI e8)) ((nI e12)) ((nI v)) := eS
                        rw [eN, eS] at hZ
                        rw [hk_474, gRes_0]
                        have hR_474 : sR_reach N S ((nI j)) ((nI e8)) ((nI e12)) ((nI v)) = ((S 3 (j * 3 + e8)) - (S 2 (j * 3 + e8))) + 1 := by simp only [sR_reach, gn_nI (show j < 2 ^ 31 by omega), gn_nI (show e8 < 2 ^ 31 by omega), gn_nI (show e12 < 2 ^ 31 by omega), gn_nI (show v < 2 ^ 31 by omega)]
                        rw [hR_474]
                        have hN9 : sN_reach N S ((nI j)) ((nI e8)) ((nI e12)) ((nI v)) = N := by simp only [sN_reach, gn_nI (show j < 2 ^ 31 by omega), gn_nI (show e8 < 2 ^ 31 by omega), gn_nI (show e12 < 2 ^ 31 by omega), gn_nI (show v < 2 ^ 31 by omega)]
                        have hS9 : sS_reach N S ((nI j)) ((nI e8)) ((nI e12)) ((nI v)) = (gs (gs S 2 (gu (S 2) (j * 3 + e8) e12)) 3 (gu (S 3) (j * 3 + e8) v)) := by simp only [sS_reach, gn_nI (show j < 2 ^ 31 by omega), gn_nI (show e8 < 2 ^ 31 by omega), gn_nI (show e12 < 2 ^ 31 by omega), gn_nI (show v < 2 ^ 31 by omega)]
                        have hli2 := li_reach hli hk_474
                        rw [hN9, hS9] at hli2 hZ
                        refine lv_iload G.1 G.2.1 dL_profiles_477 (lv_at hl 0 rfl) ?_
                        refine gn_ne G (by omega) (by omega) (tgt := 486) dL_profiles_479 (by decide) (fun h => absurd rfl h) (fun h_479 => ?_)
                        refine lv_iconst (v := nI 1) G.1 G.2.1 dL_profiles_482 (by decide) ?_
                        refine lv_goto (tgt := 487) G.1 G.2.1 dL_profiles_483 (by decide) ?_
                        refine W.widen (k := 1) (n := 6) (show 0 + 1 ≤ 1 by omega) (show 0 + 6 ≤ 6 by omega) ?_
                        exact W.zret G.1 G.2.1 G.2.2.1 rfl (fun t ht hW => ⟨nI 1, _, _, _, rfl, ⟨rfl, hli2, rfl, rfl⟩, by rw [ht]; exact hZ.1, hS.F ht⟩) hS.2.2 dL_profiles_487 G.2.2.2.2.2.2
                      · refine lv_bipush (v := -103) G.1 G.2.1 dL_profiles_400 (by decide) ?_
                        refine lv_goto (tgt := 431) G.1 G.2.1 dL_profiles_402 (by decide) ?_
                        refine lv_istore (lv' := [(13, .int ((-103))), (9, .int (nI f16)), (12, .int (nI v)), (11, .int (nI e12)), (10, .int (nI f9)), (8, .int (nI e8)), (7, .int (nI j)), (0, .ref (q 0)), (1, .int (nI 1)), (2, .int x), (3, .ref (a 0)), (4, .ref (a 1)), (5, .ref (a 2)), (6, .ref (a 3))]) G.1 G.2.1 dL_profiles_431 hl (by decide) rfl (fun ls hl => ?_)
                        refine lv_iload G.1 G.2.1 dL_profiles_433 (lv_at hl 0 rfl) ?_
                        refine lv_if_lt (tgt := 465) G.1 G.2.1 dL_profiles_435 (by decide) (fun h_435 => ?_) (fun h => absurd (by decide) h)
                        refine lv_aload_n G.1 G.2.1 dL_profiles_465 rfl (lv_at hl 7 rfl) ?_
                        refine lv_iload G.1 G.2.1 dL_profiles_466 (lv_at hl 6 rfl) ?_
                        refine lv_iload G.1 G.2.1 dL_profiles_468 (lv_at hl 5 rfl) ?_
                        refine lv_iload G.1 G.2.1 dL_profiles_470 (lv_at hl 3 rfl) ?_
                        refine lv_iload G.1 G.2.1 dL_profiles_472 (lv_at hl 2 rfl) ?_
                        refine gz_wrap (As := [.ref (q 0), .int (nI j), .int (nI e8), .int (nI e12), .int (nI v)]) (rest := []) G.fix (mL_reaches l hst D q cI N S tr _ hok hinv ((nI j)) ((nI e8)) ((nI e12)) ((nI v))) (vx_cwSW 5 G.2.2.2.2.2.1 gL_profiles_L_reaches rfl rfl rfl (by decide +kernel) ⟨Nat.le_of_ble_eq_true rfl, Nat.le_of_ble_eq_true rfl⟩) hZ hA hS rfl hl.1 rfl (Nat.le_of_ble_eq_true rfl) dL_profiles_474 (show 0 + 1 ≤ 1 by omega) (show 0 + 6 ≤ 6 by omega) (fun r Nx Sx tr H locs hp hZ hS => ?_)
                        obtain ⟨rfl, eN, eS⟩ := hp
                        have hk_474 : sj_reach N S ((nI j)) ((nI e8)) ((nI e12)) ((nI v)) = 3 := gk_ttf (by simp only [sA_reach, Bool.and_eq_true, decide_eq_true_eq, gb_nI (show j < 2 ^ 31 by omega), gn_nI (show j < 2 ^ 31 by omega), gb_nI (show e8 < 2 ^ 31 by omega), gn_nI (show e8 < 2 ^ 31 by omega), gb_nI (show e12 < 2 ^ 31 by omega), gn_nI (show e12 < 2 ^ 31 by omega), gb_nI (show v < 2 ^ 31 by omega), gn_nI (show v < 2 ^ 31 by omega)] <;> omega) (by simp only [sB_reach, Bool.and_eq_true, decide_eq_true_eq, gb_nI (show j < 2 ^ 31 by omega), gn_nI (show j < 2 ^ 31 by omega), gb_nI (show e8 < 2 ^ 31 by omega), gn_nI (show e8 < 2 ^ 31 by omega), gb_nI (show e12 < 2 ^ 31 by omega), gn_nI (show e12 < 2 ^ 31 by omega), gb_nI (show v < 2 ^ 31 by omega), gn_nI (show v < 2 ^ 31 by omega)] <;> omega) (by apply Bool.eq_false_iff.mpr; intro h; simp only [sC_reach, Bool.and_eq_true, decide_eq_true_eq, gb_nI (show j < 2 ^ 31 by omega), gn_nI (show j < 2 ^ 31 by omega), gb_nI (show e8 < 2 ^ 31 by omega), gn_nI (show e8 < 2 ^ 31 by omega), gb_nI (show e12 < 2 ^ 31 by omega), gn_nI (show e12 < 2 ^ 31 by omega), gb_nI (show v < 2 ^ 31 by omega), gn_nI (show v < 2 ^ 31 by omega)] at h <;> omega)
                        rw [hk_474] at eN eS
                        have eN : Nx = N := eN
                        have eS : Sx = S := eS
                        rw [eN, eS] at hZ
                        rw [hk_474, gRes_3]
                        refine lv_iload G.1 G.2.1 dL_profiles_477 (lv_at hl 0 rfl) ?_
                        refine lv_icmp_ne (tgt := 486) G.1 G.2.1 dL_profiles_479 (by decide) (fun h => absurd rfl h) (fun h_479 => ?_)
                        refine lv_iconst (v := nI 1) G.1 G.2.1 dL_profiles_482 (by decide) ?_
                        refine lv_goto (tgt := 487) G.1 G.2.1 dL_profiles_483 (by decide) ?_
                        refine W.widen (k := 1) (n := 6) (show 0 + 1 ≤ 1 by omega) (show 0 + 6 ≤ 6 by omega) ?_
                        exact W.zret G.1 G.2.1 G.2.2.1 rfl (fun t ht hW => ⟨nI 1, _, _, _, rfl, ⟨rfl, hli, rfl, rfl⟩, by rw [ht]; exact hZ.1, hS.F ht⟩) hS.2.2 dL_profiles_487 G.2.2.2.2.2.2
                  · have hg_vf := lg_gbf hg_v
                    refine gj_x (fun x => x = (-102)) 431 [] (fun x hx => ?_) (fun K_431 => ?_)
                    · subst hx
                      refine lv_istore (lv' := [(13, .int ((-102))), (9, .int (nI f16)), (12, .int z15), (11, .int (nI e12)), (10, .int (nI f9)), (8, .int (nI e8)), (7, .int (nI j)), (0, .ref (q 0)), (1, .int (nI 1)), (2, .int x), (3, .ref (a 0)), (4, .ref (a 1)), (5, .ref (a 2)), (6, .ref (a 3))]) G.1 G.2.1 dL_profiles_431 hl (by decide) rfl (fun ls hl => ?_)
                      refine lv_iload G.1 G.2.1 dL_profiles_433 (lv_at hl 0 rfl) ?_
                      refine lv_if_lt (tgt := 465) G.1 G.2.1 dL_profiles_435 (by decide) (fun h_435 => ?_) (fun h => absurd (by decide) h)
                      refine lv_aload_n G.1 G.2.1 dL_profiles_465 rfl (lv_at hl 7 rfl) ?_
                      refine lv_iload G.1 G.2.1 dL_profiles_466 (lv_at hl 6 rfl) ?_
                      refine lv_iload G.1 G.2.1 dL_profiles_468 (lv_at hl 5 rfl) ?_
                      refine lv_iload G.1 G.2.1 dL_profiles_470 (lv_at hl 3 rfl) ?_
                      refine lv_iload G.1 G.2.1 dL_profiles_472 (lv_at hl 2 rfl) ?_
                      refine gz_wrap (As := [.ref (q 0), .int (nI j), .int (nI e8), .int (nI e12), .int z15]) (rest := []) G.fix (mL_reaches l hst D q cI N S tr _ hok hinv ((nI j)) ((nI e8)) ((nI e12)) z15) (vx_cwSW 5 G.2.2.2.2.2.1 gL_profiles_L_reaches rfl rfl rfl (by decide +kernel) ⟨Nat.le_of_ble_eq_true rfl, Nat.le_of_ble_eq_true rfl⟩) hZ hA hS rfl hl.1 rfl (Nat.le_of_ble_eq_true rfl) dL_profiles_474 (show 0 + 1 ≤ 1 by omega) (show 0 + 6 ≤ 6 by omega) (fun r Nx Sx tr H locs hp hZ hS => ?_)
                      obtain ⟨rfl, eN, eS⟩ := hp
                      have hk_474 : sj_reach N S ((nI j)) ((nI e8)) ((nI e12)) z15 = 2 := gk_tf (by simp only [sA_reach, Bool.and_eq_true, decide_eq_true_eq, gb_nI (show j < 2 ^ 31 by omega), gn_nI (show j < 2 ^ 31 by omega), gb_nI (show e8 < 2 ^ 31 by omega), gn_nI (show e8 < 2 ^ 31 by omega), gb_nI (show e12 < 2 ^ 31 by omega), gn_nI (show e12 < 2 ^ 31 by omega)] <;> omega) (by simp [sB_reach, hg_vf])
                      rw [hk_474] at eN eS
                      have eN : Nx = N := eN
                      have eS : Sx = S := eS
                      rw [eN, eS] at hZ
                      rw [hk_474, gRes_2]
                      refine lv_iload G.1 G.2.1 dL_profiles_477 (lv_at hl 0 rfl) ?_
                      refine lv_icmp_ne (tgt := 486) G.1 G.2.1 dL_profiles_479 (by decide) (fun h => absurd rfl h) (fun h_479 => ?_)
                      refine lv_iconst (v := nI 1) G.1 G.2.1 dL_profiles_482 (by decide) ?_
                      refine lv_goto (tgt := 487) G.1 G.2.1 dL_profiles_483 (by decide) ?_
                      refine W.widen (k := 1) (n := 6) (show 0 + 1 ≤ 1 by omega) (show 0 + 6 ≤ 6 by omega) ?_
                      exact W.zret G.1 G.2.1 G.2.2.1 rfl (fun t ht hW => ⟨nI 1, _, _, _, rfl, ⟨rfl, hli, rfl, rfl⟩, by rw [ht]; exact hZ.1, hS.F ht⟩) hS.2.2 dL_profiles_487 G.2.2.2.2.2.2
                    · refine lv_iload G.1 G.2.1 dL_profiles_375 (lv_at hl 1 rfl) ?_
                      refine lv_iload G.1 G.2.1 dL_profiles_377 (lv_at hl 2 rfl) ?_
                      refine lv_icmp_lt (tgt := 390) G.1 G.2.1 dL_profiles_379 (by decide) (fun h_379 => ?_) (fun h_379 => ?_)
                      · refine lv_bipush (v := -102) G.1 G.2.1 dL_profiles_390 (by decide) ?_
                        refine lv_goto (tgt := 431) G.1 G.2.1 dL_profiles_392 (by decide) ?_
                        exact K_431 _ (rfl)
                      · refine lv_iload G.1 G.2.1 dL_profiles_382 (lv_at hl 1 rfl) ?_
                        refine lv_sipush (v := nI 255) G.1 G.2.1 dL_profiles_384 (by decide) ?_
                        refine lv_icmp_le (tgt := 395) G.1 G.2.1 dL_profiles_387 (by decide) (fun h => absurd h (lg_outhi hg_vf h_379 (by omega))) (fun h_387 => ?_)
                        refine lv_bipush (v := -102) G.1 G.2.1 dL_profiles_390 (by decide) ?_
                        refine lv_goto (tgt := 431) G.1 G.2.1 dL_profiles_392 (by decide) ?_
                        exact K_431 _ (rfl)
                · refine lv_bipush (v := -101) G.1 G.2.1 dL_profiles_370 (by decide) ?_
                  refine lv_goto (tgt := 431) G.1 G.2.1 dL_profiles_372 (by decide) ?_
                  refine lv_istore (lv' := [(13, .int ((-101))), (9, .int (nI f16)), (12, .int z15), (11, .int (nI e12)), (10, .int (nI f9)), (8, .int (nI e8)), (7, .int (nI j)), (0, .ref (q 0)), (1, .int (nI 1)), (2, .int x), (3, .ref (a 0)), (4, .ref (a 1)), (5, .ref (a 2)), (6, .ref (a 3))]) G.1 G.2.1 dL_profiles_431 hl (by decide) rfl (fun ls hl => ?_)
                  refine lv_iload G.1 G.2.1 dL_profiles_433 (lv_at hl 0 rfl) ?_
                  refine lv_if_lt (tgt := 465) G.1 G.2.1 dL_profiles_435 (by decide) (fun h_435 => ?_) (fun h => absurd (by decide) h)
                  refine lv_aload_n G.1 G.2.1 dL_profiles_465 rfl (lv_at hl 7 rfl) ?_
                  refine lv_iload G.1 G.2.1 dL_profiles_466 (lv_at hl 6 rfl) ?_
                  refine lv_iload G.1 G.2.1 dL_profiles_468 (lv_at hl 5 rfl) ?_
                  refine lv_iload G.1 G.2.1 dL_profiles_470 (lv_at hl 3 rfl) ?_
                  refine lv_iload G.1 G.2.1 dL_profiles_472 (lv_at hl 2 rfl) ?_
                  refine gz_wrap (As := [.ref (q 0), .int (nI j), .int (nI e8), .int (nI e12), .int z15]) (rest := []) G.fix (mL_reaches l hst D q cI N S tr _ hok hinv ((nI j)) ((nI e8)) ((nI e12)) z15) (vx_cwSW 5 G.2.2.2.2.2.1 gL_profiles_L_reaches rfl rfl rfl (by decide +kernel) ⟨Nat.le_of_ble_eq_true rfl, Nat.le_of_ble_eq_true rfl⟩) hZ hA hS rfl hl.1 rfl (Nat.le_of_ble_eq_true rfl) dL_profiles_474 (show 0 + 1 ≤ 1 by omega) (show 0 + 6 ≤ 6 by omega) (fun r Nx Sx tr H locs hp hZ hS => ?_)
                  obtain ⟨rfl, eN, eS⟩ := hp
                  have hk_474 : sj_reach N S ((nI j)) ((nI e8)) ((nI e12)) z15 = 1 := gk_f (by apply Bool.eq_false_iff.mpr; intro h; simp only [sA_reach, Bool.and_eq_true, decide_eq_true_eq, gb_nI (show j < 2 ^ 31 by omega), gn_nI (show j < 2 ^ 31 by omega), gb_nI (show e8 < 2 ^ 31 by omega), gn_nI (show e8 < 2 ^ 31 by omega), gb_nI (show e12 < 2 ^ 31 by omega), gn_nI (show e12 < 2 ^ 31 by omega)] at h <;> omega)
                  rw [hk_474] at eN eS
                  have eN : Nx = N := eN
                  have eS : Sx = S := eS
                  rw [eN, eS] at hZ
                  rw [hk_474, gRes_1]
                  refine lv_iload G.1 G.2.1 dL_profiles_477 (lv_at hl 0 rfl) ?_
                  refine lv_icmp_ne (tgt := 486) G.1 G.2.1 dL_profiles_479 (by decide) (fun h => absurd rfl h) (fun h_479 => ?_)
                  refine lv_iconst (v := nI 1) G.1 G.2.1 dL_profiles_482 (by decide) ?_
                  refine lv_goto (tgt := 487) G.1 G.2.1 dL_profiles_483 (by decide) ?_
                  refine W.widen (k := 1) (n := 6) (show 0 + 1 ≤ 1 by omega) (show 0 + 6 ≤ 6 by omega) ?_
                  exact W.zret G.1 G.2.1 G.2.2.1 rfl (fun t ht hW => ⟨nI 1, _, _, _, rfl, ⟨rfl, hli, rfl, rfl⟩, by rw [ht]; exact hZ.1, hS.F ht⟩) hS.2.2 dL_profiles_487 G.2.2.2.2.2.2
              · refine lv_iload G.1 G.2.1 dL_profiles_347 (lv_at hl 3 rfl) ?_
                refine gn_eqz G (by omega) (tgt := 362) dL_profiles_349 (by decide) (fun h => absurd h (by omega)) (fun h_349 => ?_)
                refine lv_iload G.1 G.2.1 dL_profiles_352 (lv_at hl 4 rfl) ?_
                refine lv_iconst (v := nI 3) G.1 G.2.1 dL_profiles_354 (by decide) ?_
                refine gn_ge G (by omega) (by omega) (tgt := 362) dL_profiles_355 (by decide) (fun h_355 => ?_) (fun h_355 => ?_)
                · refine lv_iconst (v := nI 0) G.1 G.2.1 dL_profiles_362 (by decide) ?_
                  exact K_363 _ (⟨_, rfl, by omega, by omega⟩)
                · refine lv_iconst (v := nI 1) G.1 G.2.1 dL_profiles_358 (by decide) ?_
                  refine lv_goto (tgt := 363) G.1 G.2.1 dL_profiles_359 (by decide) ?_
                  exact K_363 _ (⟨_, rfl, by omega, by omega⟩)
            · refine gn_nez G (by omega) (tgt := 310) dL_profiles_300 (by decide) (fun h_300 => ?_) (fun h_300 => ?_)
              · refine lv_iload_n G.1 G.2.1 dL_profiles_310 rfl (lv_at hl 7 rfl) ?_
                refine lv_bipush (v := nI 6) G.1 G.2.1 dL_profiles_311 (by decide) ?_
                refine lv_ishr G.1 G.2.1 dL_profiles_313 ?_
                refine lv_topi (fun y17 hy17 => ?_)
                refine lv_bipush (v := nI 30) G.1 G.2.1 dL_profiles_314 (by decide) ?_
                refine gc_s (As := [.int y17, .int (nI 30)]) (rest := []) G.fix (mL_some l y17 30 (by omega) (by omega)) (va_cwS 2 G.2.2.2.2.2.1 gL_profiles_L_some rfl rfl rfl (by decide +kernel) ⟨Nat.le_of_ble_eq_true rfl, Nat.le_of_ble_eq_true rfl⟩) gc_blindT (fun _ _ _ => trivial) rfl hl.1 rfl (Nat.le_of_ble_eq_true rfl) dL_profiles_316 (show 0 ≤ 1 by omega) (show 0 ≤ 6 by omega) (fun r hr => ?_)
                obtain ⟨k18, hk18, rfl⟩ := hr
                refine lv_iconst (v := nI 1) G.1 G.2.1 dL_profiles_319 (by decide) ?_
                refine gn_ne G (by omega) (by omega) (tgt := 329) dL_profiles_320 (by decide) (fun h_320 => ?_) (fun h_320 => ?_)
                · refine lv_iload G.1 G.2.1 dL_profiles_329 (lv_at hl 0 rfl) ?_
                  refine lv_iload_n G.1 G.2.1 dL_profiles_331 rfl (lv_at hl 7 rfl) ?_
                  refine lv_bipush (v := nI 7) G.1 G.2.1 dL_profiles_332 (by decide) ?_
                  refine lv_ishr G.1 G.2.1 dL_profiles_334 ?_
                  refine lv_topi (fun y19 hy19 => ?_)
                  refine lv_sipush (v := nI 256) G.1 G.2.1 dL_profiles_335 (by decide) ?_
                  refine lv_iload G.1 G.2.1 dL_profiles_338 (lv_at hl 0 rfl) ?_
                  refine gn_isub G dL_profiles_340 (by omega) ?_
                  refine gc_s (As := [.int y19, .int (nI (256 - e12))]) (rest := [.int (nI e12)]) G.fix (mL_some l y19 (256 - e12) (by omega) (by omega)) (va_cwS 2 G.2.2.2.2.2.1 gL_profiles_L_some rfl rfl rfl (by decide +kernel) ⟨Nat.le_of_ble_eq_true rfl, Nat.le_of_ble_eq_true rfl⟩) gc_blindT (fun _ _ _ => trivial) rfl hl.1 rfl (Nat.le_of_ble_eq_true rfl) dL_profiles_341 (show 0 ≤ 1 by omega) (show 0 ≤ 6 by omega) (fun r hr => ?_)
                  obtain ⟨k20, hk20, rfl⟩ := hr
                  refine gn_iadd G dL_profiles_344 ?_
                  exact K_345 _ (trivial)
                · refine lv_sipush (v := nI 256) G.1 G.2.1 dL_profiles_323 (by decide) ?_
                  refine lv_goto (tgt := 345) G.1 G.2.1 dL_profiles_326 (by decide) ?_
                  exact K_345 _ (trivial)
              · refine lv_iload G.1 G.2.1 dL_profiles_303 (lv_at hl 0 rfl) ?_
                refine lv_iconst (v := nI 1) G.1 G.2.1 dL_profiles_305 (by decide) ?_
                refine lv_isub G.1 G.2.1 dL_profiles_306 ?_
                refine lv_topi (fun y21 hy21 => ?_)
                refine lv_goto (tgt := 345) G.1 G.2.1 dL_profiles_307 (by decide) ?_
                exact K_345 _ (trivial)
          · refine gn_nez G (by omega) (tgt := 280) dL_profiles_273 (by decide) (fun h_273 => ?_) (fun h_273 => ?_)
            · refine lv_iload_n G.1 G.2.1 dL_profiles_280 rfl (lv_at hl 6 rfl) ?_
              refine lv_iconst (v := nI 5) G.1 G.2.1 dL_profiles_281 (by decide) ?_
              refine lv_ishr G.1 G.2.1 dL_profiles_282 ?_
              refine lv_topi (fun y22 hy22 => ?_)
              refine lv_sipush (v := nI 256) G.1 G.2.1 dL_profiles_283 (by decide) ?_
              refine gc_s (As := [.int y22, .int (nI 256)]) (rest := []) G.fix (mL_some l y22 256 (by omega) (by omega)) (va_cwS 2 G.2.2.2.2.2.1 gL_profiles_L_some rfl rfl rfl (by decide +kernel) ⟨Nat.le_of_ble_eq_true rfl, Nat.le_of_ble_eq_true rfl⟩) gc_blindT (fun _ _ _ => trivial) rfl hl.1 rfl (Nat.le_of_ble_eq_true rfl) dL_profiles_286 (show 0 ≤ 1 by omega) (show 0 ≤ 6 by omega) (fun r hr => ?_)
              obtain ⟨k23, hk23, rfl⟩ := hr
              exact K_289 _ (⟨_, rfl, by omega⟩)
            · refine lv_iconst (v := nI 0) G.1 G.2.1 dL_profiles_276 (by decide) ?_
              refine lv_goto (tgt := 289) G.1 G.2.1 dL_profiles_277 (by decide) ?_
              exact K_289 _ (⟨_, rfl, by omega⟩)
        · refine gn_nez G (by omega) (tgt := 96) dL_profiles_89 (by decide) (fun h_89 => ?_) (fun h_89 => ?_)
          · refine lv_iconst (v := nI 0) G.1 G.2.1 dL_profiles_96 (by decide) ?_
            exact K_97 _ (⟨_, rfl, by omega, by omega⟩)
          · refine lv_iconst (v := nI 1) G.1 G.2.1 dL_profiles_92 (by decide) ?_
            refine lv_goto (tgt := 97) G.1 G.2.1 dL_profiles_93 (by decide) ?_
            exact K_97 _ (⟨_, rfl, by omega, by omega⟩)
      · have hg_jf := lg_gbf hg_j
        refine gj_x (fun x => x = (nI 0)) 71 [] (fun x hx => ?_) (fun K_71 => ?_)
        · subst hx
          refine lv_istore (lv' := [(9, .int (nI 0)), (8, .int (nI e8)), (7, .int y5), (0, .ref (q 0)), (1, .int (nI 1)), (2, .int x), (3, .ref (a 0)), (4, .ref (a 1)), (5, .ref (a 2)), (6, .ref (a 3))]) G.1 G.2.1 dL_profiles_71 hl (by decide) rfl (fun ls hl => ?_)
          refine lv_iload G.1 G.2.1 dL_profiles_73 (lv_at hl 0 rfl) ?_
          refine gn_eqz G (by omega) (tgt := 96) dL_profiles_75 (by decide) (fun h_75 => ?_) (fun h => absurd rfl h)
          refine lv_iconst (v := nI 0) G.1 G.2.1 dL_profiles_96 (by decide) ?_
          refine lv_istore (lv' := [(10, .int (nI 0)), (9, .int (nI 0)), (8, .int (nI e8)), (7, .int y5), (0, .ref (q 0)), (1, .int (nI 1)), (2, .int x), (3, .ref (a 0)), (4, .ref (a 1)), (5, .ref (a 2)), (6, .ref (a 3))]) G.1 G.2.1 dL_profiles_97 hl (by decide) rfl (fun ls hl => ?_)
          refine lv_iload_n G.1 G.2.1 dL_profiles_99 rfl (lv_at hl 5 rfl) ?_
          refine gn_nez G (by omega) (tgt := 261) dL_profiles_100 (by decide) (fun h_100 => ?_) (fun h => absurd h (by omega))
          refine lv_iload_n G.1 G.2.1 dL_profiles_261 rfl (lv_at hl 5 rfl) ?_
          refine lv_iconst (v := nI 1) G.1 G.2.1 dL_profiles_262 (by decide) ?_
          refine gn_ne G (by omega) (by omega) (tgt := 488) dL_profiles_263 (by decide) (fun h => absurd rfl h) (fun h_263 => ?_)
          refine lv_iload_n G.1 G.2.1 dL_profiles_266 rfl (lv_at hl 6 rfl) ?_
          refine lv_iconst (v := nI 4) G.1 G.2.1 dL_profiles_267 (by decide) ?_
          refine lv_ishr G.1 G.2.1 dL_profiles_268 ?_
          refine lv_topi (fun y24 hy24 => ?_)
          refine lv_iconst (v := nI 2) G.1 G.2.1 dL_profiles_269 (by decide) ?_
          refine gc_s (As := [.int y24, .int (nI 2)]) (rest := []) G.fix (mL_some l y24 2 (by omega) (by omega)) (va_cwS 2 G.2.2.2.2.2.1 gL_profiles_L_some rfl rfl rfl (by decide +kernel) ⟨Nat.le_of_ble_eq_true rfl, Nat.le_of_ble_eq_true rfl⟩) gc_blindT (fun _ _ _ => trivial) rfl hl.1 rfl (Nat.le_of_ble_eq_true rfl) dL_profiles_270 (show 0 ≤ 1 by omega) (show 0 ≤ 6 by omega) (fun r hr => ?_)
          obtain ⟨k25, hk25, rfl⟩ := hr
          refine gj_x (fun x => ∃ e : Nat, x = nI e ∧ e ≤ 255) 289 [] (fun x hx => ?_) (fun K_289 => ?_)
          · obtain ⟨e26, rfl, he26⟩ := hx
            refine lv_istore (lv' := [(11, .int (nI e26)), (10, .int (nI 0)), (9, .int (nI 0)), (8, .int (nI e8)), (7, .int y5), (0, .ref (q 0)), (1, .int (nI 1)), (2, .int x), (3, .ref (a 0)), (4, .ref (a 1)), (5, .ref (a 2)), (6, .ref (a 3))]) G.1 G.2.1 dL_profiles_289 hl (by decide) rfl (fun ls hl => ?_)
            refine lv_iload_n G.1 G.2.1 dL_profiles_291 rfl (lv_at hl 7 rfl) ?_
            refine lv_bipush (v := nI 6) G.1 G.2.1 dL_profiles_292 (by decide) ?_
            refine lv_ishr G.1 G.2.1 dL_profiles_294 ?_
            refine lv_topi (fun y27 hy27 => ?_)
            refine lv_bipush (v := nI 30) G.1 G.2.1 dL_profiles_295 (by decide) ?_
            refine gc_s (As := [.int y27, .int (nI 30)]) (rest := []) G.fix (mL_some l y27 30 (by omega) (by omega)) (va_cwS 2 G.2.2.2.2.2.1 gL_profiles_L_some rfl rfl rfl (by decide +kernel) ⟨Nat.le_of_ble_eq_true rfl, Nat.le_of_ble_eq_true rfl⟩) gc_blindT (fun _ _ _ => trivial) rfl hl.1 rfl (Nat.le_of_ble_eq_true rfl) dL_profiles_297 (show 0 ≤ 1 by omega) (show 0 ≤ 6 by omega) (fun r hr => ?_)
            obtain ⟨k28, hk28, rfl⟩ := hr
            refine gj_x (fun x => True) 345 [] (fun x hx => ?_) (fun K_345 => ?_)
            · obtain ⟨z29, rfl⟩ : ∃ z, z = x := ⟨x, rfl⟩
              refine lv_istore (lv' := [(12, .int z29), (11, .int (nI e26)), (10, .int (nI 0)), (9, .int (nI 0)), (8, .int (nI e8)), (7, .int y5), (0, .ref (q 0)), (1, .int (nI 1)), (2, .int x), (3, .ref (a 0)), (4, .ref (a 1)), (5, .ref (a 2)), (6, .ref (a 3))]) G.1 G.2.1 dL_profiles_345 hl (by decide) rfl (fun ls hl => ?_)
              refine lv_iload G.1 G.2.1 dL_profiles_347 (lv_at hl 3 rfl) ?_
              refine gn_eqz G (by omega) (tgt := 362) dL_profiles_349 (by decide) (fun h_349 => ?_) (fun h => absurd rfl h)
              refine lv_iconst (v := nI 0) G.1 G.2.1 dL_profiles_362 (by decide) ?_
              refine lv_istore (lv' := [(9, .int (nI 0)), (12, .int z29), (11, .int (nI e26)), (10, .int (nI 0)), (8, .int (nI e8)), (7, .int y5), (0, .ref (q 0)), (1, .int (nI 1)), (2, .int x), (3, .ref (a 0)), (4, .ref (a 1)), (5, .ref (a 2)), (6, .ref (a 3))]) G.1 G.2.1 dL_profiles_363 hl (by decide) rfl (fun ls hl => ?_)
              refine lv_iload G.1 G.2.1 dL_profiles_365 (lv_at hl 0 rfl) ?_
              refine gn_nez G (by omega) (tgt := 375) dL_profiles_367 (by decide) (fun h => absurd rfl h) (fun h_367 => ?_)
              refine lv_bipush (v := -101) G.1 G.2.1 dL_profiles_370 (by decide) ?_
              refine lv_goto (tgt := 431) G.1 G.2.1 dL_profiles_372 (by decide) ?_
              refine lv_istore (lv' := [(13, .int ((-101))), (9, .int (nI 0)), (12, .int z29), (11, .int (nI e26)), (10, .int (nI 0)), (8, .int (nI e8)), (7, .int y5), (0, .ref (q 0)), (1, .int (nI 1)), (2, .int x), (3, .ref (a 0)), (4, .ref (a 1)), (5, .ref (a 2)), (6, .ref (a 3))]) G.1 G.2.1 dL_profiles_431 hl (by decide) rfl (fun ls hl => ?_)
              refine lv_iload G.1 G.2.1 dL_profiles_433 (lv_at hl 0 rfl) ?_
              refine lv_if_lt (tgt := 465) G.1 G.2.1 dL_profiles_435 (by decide) (fun h_435 => ?_) (fun h => absurd (by decide) h)
              refine lv_aload_n G.1 G.2.1 dL_profiles_465 rfl (lv_at hl 7 rfl) ?_
              refine lv_iload G.1 G.2.1 dL_profiles_466 (lv_at hl 6 rfl) ?_
              refine lv_iload G.1 G.2.1 dL_profiles_468 (lv_at hl 5 rfl) ?_
              refine lv_iload G.1 G.2.1 dL_profiles_470 (lv_at hl 3 rfl) ?_
              refine lv_iload G.1 G.2.1 dL_profiles_472 (lv_at hl 2 rfl) ?_
              refine gz_wrap (As := [.ref (q 0), .int y5, .int (nI e8), .int (nI e26), .int z29]) (rest := []) G.fix (mL_reaches l hst D q cI N S tr _ hok hinv y5 ((nI e8)) ((nI e26)) z29) (vx_cwSW 5 G.2.2.2.2.2.1 gL_profiles_L_reaches rfl rfl rfl (by decide +kernel) ⟨Nat.le_of_ble_eq_true rfl, Nat.le_of_ble_eq_true rfl⟩) hZ hA hS rfl hl.1 rfl (Nat.le_of_ble_eq_true rfl) dL_profiles_474 (show 0 + 1 ≤ 1 by omega) (show 0 + 6 ≤ 6 by omega) (fun r Nx Sx tr H locs hp hZ hS => ?_)
              obtain ⟨rfl, eN, eS⟩ := hp
              have hk_474 : sj_reach N S y5 ((nI e8)) ((nI e26)) z29 = 1 := gk_f (by simp [sA_reach, hg_jf])
              rw [hk_474] at eN eS
              have eN : Nx = N := eN
              have eS : Sx = S := eS
              rw [eN, eS] at hZ
              rw [hk_474, gRes_1]
              refine lv_iload G.1 G.2.1 dL_profiles_477 (lv_at hl 0 rfl) ?_
              refine lv_icmp_ne (tgt := 486) G.1 G.2.1 dL_profiles_479 (by decide) (fun h => absurd rfl h) (fun h_479 => ?_)
              refine lv_iconst (v := nI 1) G.1 G.2.1 dL_profiles_482 (by decide) ?_
              refine lv_goto (tgt := 487) G.1 G.2.1 dL_profiles_483 (by decide) ?_
              refine W.widen (k := 1) (n := 6) (show 0 + 1 ≤ 1 by omega) (show 0 + 6 ≤ 6 by omega) ?_
              exact W.zret G.1 G.2.1 G.2.2.1 rfl (fun t ht hW => ⟨nI 1, _, _, _, rfl, ⟨rfl, hli, rfl, rfl⟩, by rw [ht]; exact hZ.1, hS.F ht⟩) hS.2.2 dL_profiles_487 G.2.2.2.2.2.2
            · refine gn_nez G (by omega) (tgt := 310) dL_profiles_300 (by decide) (fun h_300 => ?_) (fun h_300 => ?_)
              · refine lv_iload_n G.1 G.2.1 dL_profiles_310 rfl (lv_at hl 7 rfl) ?_
                refine lv_bipush (v := nI 6) G.1 G.2.1 dL_profiles_311 (by decide) ?_
                refine lv_ishr G.1 G.2.1 dL_profiles_313 ?_
                refine lv_topi (fun y30 hy30 => ?_)
                refine lv_bipush (v := nI 30) G.1 G.2.1 dL_profiles_314 (by decide) ?_
                refine gc_s (As := [.int y30, .int (nI 30)]) (rest := []) G.fix (mL_some l y30 30 (by omega) (by omega)) (va_cwS 2 G.2.2.2.2.2.1 gL_profiles_L_some rfl rfl rfl (by decide +kernel) ⟨Nat.le_of_ble_eq_true rfl, Nat.le_of_ble_eq_true rfl⟩) gc_blindT (fun _ _ _ => trivial) rfl hl.1 rfl (Nat.le_of_ble_eq_true rfl) dL_profiles_316 (show 0 ≤ 1 by omega) (show 0 ≤ 6 by omega) (fun r hr => ?_)
                obtain ⟨k31, hk31, rfl⟩ := hr
                refine lv_iconst (v := nI 1) G.1 G.2.1 dL_profiles_319 (by decide) ?_
                refine gn_ne G (by omega) (by omega) (tgt := 329) dL_profiles_320 (by decide) (fun h_320 => ?_) (fun h_320 => ?_)
                · refine lv_iload G.1 G.2.1 dL_profiles_329 (lv_at hl 0 rfl) ?_
                  refine lv_iload_n G.1 G.2.1 dL_profiles_331 rfl (lv_at hl 7 rfl) ?_
                  refine lv_bipush (v := nI 7) G.1 G.2.1 dL_profiles_332 (by decide) ?_
                  refine lv_ishr G.1 G.2.1 dL_profiles_334 ?_
                  refine lv_topi (fun y32 hy32 => ?_)
                  refine lv_sipush (v := nI 256) G.1 G.2.1 dL_profiles_335 (by decide) ?_
                  refine lv_iload G.1 G.2.1 dL_profiles_338 (lv_at hl 0 rfl) ?_
                  refine gn_isub G dL_profiles_340 (by omega) ?_
                  refine gc_s (As := [.int y32, .int (nI (256 - e26))]) (rest := [.int (nI e26)]) G.fix (mL_some l y32 (256 - e26) (by omega) (by omega)) (va_cwS 2 G.2.2.2.2.2.1 gL_profiles_L_some rfl rfl rfl (by decide +kernel) ⟨Nat.le_of_ble_eq_true rfl, Nat.le_of_ble_eq_true rfl⟩) gc_blindT (fun _ _ _ => trivial) rfl hl.1 rfl (Nat.le_of_ble_eq_true rfl) dL_profiles_341 (show 0 ≤ 1 by omega) (show 0 ≤ 6 by omega) (fun r hr => ?_)
                  obtain ⟨k33, hk33, rfl⟩ := hr
                  refine gn_iadd G dL_profiles_344 ?_
                  exact K_345 _ (trivial)
                · refine lv_sipush (v := nI 256) G.1 G.2.1 dL_profiles_323 (by decide) ?_
                  refine lv_goto (tgt := 345) G.1 G.2.1 dL_profiles_326 (by decide) ?_
                  exact K_345 _ (trivial)
              · refine lv_iload G.1 G.2.1 dL_profiles_303 (lv_at hl 0 rfl) ?_
                refine lv_iconst (v := nI 1) G.1 G.2.1 dL_profiles_305 (by decide) ?_
                refine lv_isub G.1 G.2.1 dL_profiles_306 ?_
                refine lv_topi (fun y34 hy34 => ?_)
                refine lv_goto (tgt := 345) G.1 G.2.1 dL_profiles_307 (by decide) ?_
                exact K_345 _ (trivial)
          · refine gn_nez G (by omega) (tgt := 280) dL_profiles_273 (by decide) (fun h_273 => ?_) (fun h_273 => ?_)
            · refine lv_iload_n G.1 G.2.1 dL_profiles_280 rfl (lv_at hl 6 rfl) ?_
              refine lv_iconst (v := nI 5) G.1 G.2.1 dL_profiles_281 (by decide) ?_
              refine lv_ishr G.1 G.2.1 dL_profiles_282 ?_
              refine lv_topi (fun y35 hy35 => ?_)
              refine lv_sipush (v := nI 256) G.1 G.2.1 dL_profiles_283 (by decide) ?_
              refine gc_s (As := [.int y35, .int (nI 256)]) (rest := []) G.fix (mL_some l y35 256 (by omega) (by omega)) (va_cwS 2 G.2.2.2.2.2.1 gL_profiles_L_some rfl rfl rfl (by decide +kernel) ⟨Nat.le_of_ble_eq_true rfl, Nat.le_of_ble_eq_true rfl⟩) gc_blindT (fun _ _ _ => trivial) rfl hl.1 rfl (Nat.le_of_ble_eq_true rfl) dL_profiles_286 (show 0 ≤ 1 by omega) (show 0 ≤ 6 by omega) (fun r hr => ?_)
              obtain ⟨k36, hk36, rfl⟩ := hr
              exact K_289 _ (⟨_, rfl, by omega⟩)
            · refine lv_iconst (v := nI 0) G.1 G.2.1 dL_profiles_276 (by decide) ?_
              refine lv_goto (tgt := 289) G.1 G.2.1 dL_profiles_277 (by decide) ?_
              exact K_289 _ (⟨_, rfl, by omega⟩)
        · refine lv_iload G.1 G.2.1 dL_profiles_53 (lv_at hl 1 rfl) ?_
          refine lv_if_lt (tgt := 70) G.1 G.2.1 dL_profiles_55 (by decide) (fun h_55 => ?_) (fun h_55 => ?_)
          · refine lv_iconst (v := nI 0) G.1 G.2.1 dL_profiles_70 (by decide) ?_
            exact K_71 _ (rfl)
          · refine lv_iload G.1 G.2.1 dL_profiles_58 (lv_at hl 1 rfl) ?_
            refine lv_aload_n G.1 G.2.1 dL_profiles_60 rfl (lv_at hl 5 rfl) ?_
            refine lv_iconst (v := nI 0) G.1 G.2.1 dL_profiles_61 (by decide) ?_
            refine gl_ald (k := 0) (len := 11) (F := fC N S) G hZ.r rfl (by omega) (by decide) dL_profiles_62 ?_
            rw [fC_0]
            refine lv_icmp_ge (tgt := 70) G.1 G.2.1 dL_profiles_63 (by decide) (fun h_63 => ?_) (fun h => (lg_gein (by omega) h_55 h hg_jf).elim)
            refine lv_iconst (v := nI 0) G.1 G.2.1 dL_profiles_70 (by decide) ?_
            exact K_71 _ (rfl)
    · refine gn_nez G (by omega) (tgt := 44) dL_profiles_37 (by decide) (fun h_37 => ?_) (fun h_37 => ?_)
      · refine lv_iload_n G.1 G.2.1 dL_profiles_44 rfl (lv_at hl 3 rfl) ?_
        refine lv_iconst (v := nI 3) G.1 G.2.1 dL_profiles_45 (by decide) ?_
        refine lv_ishr G.1 G.2.1 dL_profiles_46 ?_
        refine lv_topi (fun y37 hy37 => ?_)
        refine lv_iconst (v := nI 3) G.1 G.2.1 dL_profiles_47 (by decide) ?_
        refine gc_s (As := [.int y37, .int (nI 3)]) (rest := []) G.fix (mL_some l y37 3 (by omega) (by omega)) (va_cwS 2 G.2.2.2.2.2.1 gL_profiles_L_some rfl rfl rfl (by decide +kernel) ⟨Nat.le_of_ble_eq_true rfl, Nat.le_of_ble_eq_true rfl⟩) gc_blindT (fun _ _ _ => trivial) rfl hl.1 rfl (Nat.le_of_ble_eq_true rfl) dL_profiles_48 (show 0 ≤ 1 by omega) (show 0 ≤ 6 by omega) (fun r hr => ?_)
        obtain ⟨k38, hk38, rfl⟩ := hr
        exact K_51 _ (⟨_, rfl, by omega⟩)
      · refine lv_iconst (v := nI 3) G.1 G.2.1 dL_profiles_40 (by decide) ?_
        refine lv_goto (tgt := 51) G.1 G.2.1 dL_profiles_41 (by decide) ?_
        exact K_51 _ (⟨_, rfl, by omega⟩)
  · refine gn_nez G (by omega) (tgt := 25) dL_profiles_18 (by decide) (fun h_18 => ?_) (fun h_18 => ?_)
    · refine lv_iconst (v := nI 0) G.1 G.2.1 dL_profiles_25 (by decide) ?_
      exact K_26 _ (⟨_, rfl, by omega⟩)
    · refine lv_iconst (v := nI 1) G.1 G.2.1 dL_profiles_21 (by decide) ?_
      refine lv_goto (tgt := 26) G.1 G.2.1 dL_profiles_22 (by decide) ?_
      exact K_26 _ (⟨_, rfl, by omega⟩)
set_option maxRecDepth 100000 in
set_option maxHeartbeats 2000000 in
theorem mL_profiles_2 (l : Launch) (hst : l.stackTraces = false) (D : va_G) (q a : Nat → Nat) (cI : ClassId) (N : Nat → Nat) (S : Nat → Nat → Nat) (tr : Nat → Nat) (A : Nat → Prop) (hli : li N S) (x : Int32) : Met l yL_profiles wsL_profiles { frames := 9, cells := 1, slots := 6, locals := 197 } (va_Pc [.ref (q 0), .int (nI 2), .int x, .ref (a 0), .ref (a 1), .ref (a 2), .ref (a 3)] (fun U => zBt D q a cI N S tr A U)) (gQz D q a cI (fun r N' S' => r = nI 1 ∧ li N' S' ∧ N' 0 = N 0 ∧ N' 5 = N 5) A) 1 6 A := by
  refine gc_met [.ref (q 0), .int (nI 2), .int x, .ref (a 0), .ref (a 1), .ref (a 2), .ref (a 3)] (by decide) rfl (Nat.le_of_ble_eq_true rfl) rfl ?_
  intro p e s m below meth c ls G hl hB
  obtain ⟨hZ, hA⟩ := hB
  have hli9 := hli
  obtain ⟨hok, hinv, hN0, hN5, h6⟩ := hli9
  have hok9 := hok
  obtain ⟨⟨ok0, ok5⟩, ok1, ok2, ok3, ok4, ok6, ok7, ok8, ok12, ok13, ok14⟩ := hok9
  have hZ0 : gZ A s s.heap := hZ.2.2.2
  have hS : va_S A s.heap s.heap [] := va_S.rf
  refine lv_iload_n G.1 G.2.1 dL_profiles_0 rfl (lv_at hl 2 rfl) ?_
  refine lv_aload_n G.1 G.2.1 dL_profiles_1 rfl (lv_at hl 3 rfl) ?_
  refine lv_iconst (v := nI 0) G.1 G.2.1 dL_profiles_2 (by decide) ?_
  refine gl_ald (k := 0) (len := 11) (F := fC N S) G hZ.r rfl (by omega) (by decide) dL_profiles_3 ?_
  rw [fC_0]
  refine lv_iconst (v := nI 1) G.1 G.2.1 dL_profiles_4 (by decide) ?_
  refine gn_iadd G dL_profiles_5 ?_
  refine gc_s (As := [.int x, .int (nI ((N 0) + 1))]) (rest := []) G.fix (mL_some l x ((N 0) + 1) (by omega) (by omega)) (va_cwS 2 G.2.2.2.2.2.1 gL_profiles_L_some rfl rfl rfl (by decide +kernel) ⟨Nat.le_of_ble_eq_true rfl, Nat.le_of_ble_eq_true rfl⟩) gc_blindT (fun _ _ _ => trivial) rfl hl.1 rfl (Nat.le_of_ble_eq_true rfl) dL_profiles_6 (show 0 ≤ 1 by omega) (show 0 ≤ 6 by omega) (fun r hr => ?_)
  obtain ⟨k1, hk1, rfl⟩ := hr
  refine lv_iload_n G.1 G.2.1 dL_profiles_9 rfl (lv_at hl 2 rfl) ?_
  refine lv_bipush (v := nI 11) G.1 G.2.1 dL_profiles_10 (by decide) ?_
  refine lv_ishr G.1 G.2.1 dL_profiles_12 ?_
  refine lv_topi (fun y2 hy2 => ?_)
  refine lv_bipush (v := nI 19) G.1 G.2.1 dL_profiles_13 (by decide) ?_
  refine gc_s (As := [.int y2, .int (nI 19)]) (rest := [.int (nI k1)]) G.fix (mL_some l y2 19 (by omega) (by omega)) (va_cwS 2 G.2.2.2.2.2.1 gL_profiles_L_some rfl rfl rfl (by decide +kernel) ⟨Nat.le_of_ble_eq_true rfl, Nat.le_of_ble_eq_true rfl⟩) gc_blindT (fun _ _ _ => trivial) rfl hl.1 rfl (Nat.le_of_ble_eq_true rfl) dL_profiles_15 (show 0 ≤ 1 by omega) (show 0 ≤ 6 by omega) (fun r hr => ?_)
  obtain ⟨k3, hk3, rfl⟩ := hr
  refine gj_x (fun x => ∃ e : Nat, x = nI e ∧ e ≤ 1) 26 [.int (nI k1)] (fun x hx => ?_) (fun K_26 => ?_)
  · obtain ⟨e4, rfl, he4⟩ := hx
    refine lv_isub G.1 G.2.1 dL_profiles_26 ?_
    refine lv_topi (fun y5 hy5 => ?_)
    refine lv_istore (lv' := [(7, .int y5), (0, .ref (q 0)), (1, .int (nI 2)), (2, .int x), (3, .ref (a 0)), (4, .ref (a 1)), (5, .ref (a 2)), (6, .ref (a 3))]) G.1 G.2.1 dL_profiles_27 hl (by decide) rfl (fun ls hl => ?_)
    refine lv_iload_n G.1 G.2.1 dL_profiles_29 rfl (lv_at hl 3 rfl) ?_
    refine lv_iconst (v := nI 3) G.1 G.2.1 dL_profiles_30 (by decide) ?_
    refine lv_ishr G.1 G.2.1 dL_profiles_31 ?_
    refine lv_topi (fun y6 hy6 => ?_)
    refine lv_bipush (v := nI 40) G.1 G.2.1 dL_profiles_32 (by decide) ?_
    refine gc_s (As := [.int y6, .int (nI 40)]) (rest := []) G.fix (mL_some l y6 40 (by omega) (by omega)) (va_cwS 2 G.2.2.2.2.2.1 gL_profiles_L_some rfl rfl rfl (by decide +kernel) ⟨Nat.le_of_ble_eq_true rfl, Nat.le_of_ble_eq_true rfl⟩) gc_blindT (fun _ _ _ => trivial) rfl hl.1 rfl (Nat.le_of_ble_eq_true rfl) dL_profiles_34 (show 0 ≤ 1 by omega) (show 0 ≤ 6 by omega) (fun r hr => ?_)
    obtain ⟨k7, hk7, rfl⟩ := hr
    refine gj_x (fun x => ∃ e : Nat, x = nI e ∧ e ≤ 3) 51 [] (fun x hx => ?_) (fun K_51 => ?_)
    · obtain ⟨e8, rfl, he8⟩ := hx
      refine lv_istore (lv' := [(8, .int (nI e8)), (7, .int y5), (0, .ref (q 0)), (1, .int (nI 2)), (2, .int x), (3, .ref (a 0)), (4, .ref (a 1)), (5, .ref (a 2)), (6, .ref (a 3))]) G.1 G.2.1 dL_profiles_51 hl (by decide) rfl (fun ls hl => ?_)
      by_cases hg_j : gb y5 (N 0) = true
      · obtain ⟨j, hj, rfl⟩ := gb_of (by omega) hg_j
        refine lv_iload G.1 G.2.1 dL_profiles_53 (lv_at hl 1 rfl) ?_
        refine gn_ltz G (by omega) (tgt := 70) dL_profiles_55 (by decide) ?_
        refine lv_iload G.1 G.2.1 dL_profiles_58 (lv_at hl 1 rfl) ?_
        refine lv_aload_n G.1 G.2.1 dL_profiles_60 rfl (lv_at hl 5 rfl) ?_
        refine lv_iconst (v := nI 0) G.1 G.2.1 dL_profiles_61 (by decide) ?_
        refine gl_ald (k := 0) (len := 11) (F := fC N S) G hZ.r rfl (by omega) (by decide) dL_profiles_62 ?_
        rw [fC_0]
        refine gn_ge G (by omega) (by omega) (tgt := 70) dL_profiles_63 (by decide) (fun h => absurd h (by omega)) (fun h_63 => ?_)
        refine lv_iconst (v := nI 1) G.1 G.2.1 dL_profiles_66 (by decide) ?_
        refine lv_goto (tgt := 71) G.1 G.2.1 dL_profiles_67 (by decide) ?_
        refine lv_istore (lv' := [(9, .int (nI 1)), (8, .int (nI e8)), (7, .int (nI j)), (0, .ref (q 0)), (1, .int (nI 2)), (2, .int x), (3, .ref (a 0)), (4, .ref (a 1)), (5, .ref (a 2)), (6, .ref (a 3))]) G.1 G.2.1 dL_profiles_71 hl (by decide) rfl (fun ls hl => ?_)
        refine lv_iload G.1 G.2.1 dL_profiles_73 (lv_at hl 0 rfl) ?_
        refine gn_eqz G (by omega) (tgt := 96) dL_profiles_75 (by decide) (fun h => absurd h (by omega)) (fun h_75 => ?_)
        refine lv_aload_n G.1 G.2.1 dL_profiles_78 rfl (lv_at hl 6 rfl) ?_
        refine lv_aload G.1 G.2.1 dL_profiles_79 (lv_at hl 9 rfl) ?_
        refine gc_s (As := [.ref (a 0), .ref (a 3)]) (rest := []) G.fix (mL_held l D a cI N S hok hinv hN5) (va_cwS 2 G.2.2.2.2.2.1 gL_profiles_L_held rfl rfl rfl (by decide +kernel) ⟨Nat.le_of_ble_eq_true rfl, Nat.le_of_ble_eq_true rfl⟩) lrAt_blind (fun U hU hW => by rw [hU]; exact hZ.r.moved hW) rfl hl.1 rfl (Nat.le_of_ble_eq_true rfl) dL_profiles_81 (show 0 ≤ 1 by omega) (show 0 ≤ 6 by omega) (fun r hr => ?_)
        subst hr
        have hv_81 := sp_held_lt hok
        refine lv_iload G.1 G.2.1 dL_profiles_84 (lv_at hl 2 rfl) ?_
        refine gn_ishr G dL_profiles_86 (by omega) (by omega) ?_
        refine lv_iconst (v := nI 1) G.1 G.2.1 dL_profiles_87 (by decide) ?_
        refine gn_iand1 G dL_profiles_88 ?_
        have hbit_88 := sp_bit_lt (sp_held N S) j
        refine gj_x (fun x => ∃ f : Nat, x = nI f ∧ f ≤ 1 ∧ (f = 1 ↔ sp_bit (sp_held N S) j = 0)) 97 [] (fun x hx => ?_) (fun K_97 => ?_)
        · obtain ⟨f9, rfl, hf9, hf9b⟩ := hx
          refine lv_istore (lv' := [(10, .int (nI f9)), (9, .int (nI 1)), (8, .int (nI e8)), (7, .int (nI j)), (0, .ref (q 0)), (1, .int (nI 2)), (2, .int x), (3, .ref (a 0)), (4, .ref (a 1)), (5, .ref (a 2)), (6, .ref (a 3))]) G.1 G.2.1 dL_profiles_97 hl (by decide) rfl (fun ls hl => ?_)
          refine lv_iload_n G.1 G.2.1 dL_profiles_99 rfl (lv_at hl 5 rfl) ?_
          refine gn_nez G (by omega) (tgt := 261) dL_profiles_100 (by decide) (fun h_100 => ?_) (fun h => absurd h (by omega))
          refine lv_iload_n G.1 G.2.1 dL_profiles_261 rfl (lv_at hl 5 rfl) ?_
          refine lv_iconst (v := nI 1) G.1 G.2.1 dL_profiles_262 (by decide) ?_
          refine gn_ne G (by omega) (by omega) (tgt := 488) dL_profiles_263 (by decide) (fun h_263 => ?_) (fun h => absurd h (by omega))
          refine lv_iload_n G.1 G.2.1 dL_profiles_488 rfl (lv_at hl 6 rfl) ?_
          refine lv_iconst (v := nI 4) G.1 G.2.1 dL_profiles_489 (by decide) ?_
          refine lv_ishr G.1 G.2.1 dL_profiles_490 ?_
          refine lv_topi (fun y10 hy10 => ?_)
          refine lv_bipush (v := nI 20) G.1 G.2.1 dL_profiles_491 (by decide) ?_
          refine gc_s (As := [.int y10, .int (nI 20)]) (rest := []) G.fix (mL_some l y10 20 (by omega) (by omega)) (va_cwS 2 G.2.2.2.2.2.1 gL_profiles_L_some rfl rfl rfl (by decide +kernel) ⟨Nat.le_of_ble_eq_true rfl, Nat.le_of_ble_eq_true rfl⟩) gc_blindT (fun _ _ _ => trivial) rfl hl.1 rfl (Nat.le_of_ble_eq_true rfl) dL_profiles_493 (show 0 ≤ 1 by omega) (show 0 ≤ 6 by omega) (fun r hr => ?_)
          obtain ⟨k11, hk11, rfl⟩ := hr
          refine gj_x (fun x => ∃ e : Nat, x = nI e ∧ e ≤ 3) 510 [] (fun x hx => ?_) (fun K_510 => ?_)
          · obtain ⟨e12, rfl, he12⟩ := hx
            refine lv_istore (lv' := [(11, .int (nI e12)), (10, .int (nI f9)), (9, .int (nI 1)), (8, .int (nI e8)), (7, .int (nI j)), (0, .ref (q 0)), (1, .int (nI 2)), (2, .int x), (3, .ref (a 0)), (4, .ref (a 1)), (5, .ref (a 2)), (6, .ref (a 3))]) G.1 G.2.1 dL_profiles_510 hl (by decide) rfl (fun ls hl => ?_)
            refine lv_iload G.1 G.2.1 dL_profiles_512 (lv_at hl 2 rfl) ?_
            refine gn_nez G (by omega) (tgt := 522) dL_profiles_514 (by decide) (fun h_514 => ?_) (fun h => absurd h (by omega))
            refine lv_iload G.1 G.2.1 dL_profiles_522 (lv_at hl 0 rfl) ?_
            refine lv_iconst (v := nI 2) G.1 G.2.1 dL_profiles_524 (by decide) ?_
            refine gn_le G (by omega) (by omega) (tgt := 533) dL_profiles_525 (by decide) (fun h_525 => ?_) (fun h_525 => ?_)
            · refine lv_iload G.1 G.2.1 dL_profiles_533 (lv_at hl 1 rfl) ?_
              refine gn_nez G (by omega) (tgt := 543) dL_profiles_535 (by decide) (fun h_535 => ?_) (fun h_535 => ?_)
              · refine lv_aload_n G.1 G.2.1 dL_profiles_543 rfl (lv_at hl 8 rfl) ?_
                refine lv_bipush (v := nI 8) G.1 G.2.1 dL_profiles_544 (by decide) ?_
                refine lv_iload G.1 G.2.1 dL_profiles_546 (lv_at hl 4 rfl) ?_
                refine gn_iadd G dL_profiles_548 ?_
                refine gl_ald (k := 0) (len := 11) (F := fC N S) G hZ.r rfl (by omega) (by decide) dL_profiles_549 ?_
                rw [fC_4]
                have hv_549 := ok4 j
                refine lv_istore (lv' := [(12, .int (nI (S 4 j))), (11, .int (nI e12)), (10, .int (nI f9)), (9, .int (nI 1)), (8, .int (nI e8)), (7, .int (nI j)), (0, .ref (q 0)), (1, .int (nI 2)), (2, .int x), (3, .ref (a 0)), (4, .ref (a 1)), (5, .ref (a 2)), (6, .ref (a 3))]) G.1 G.2.1 dL_profiles_550 hl (by decide) rfl (fun ls hl => ?_)
                refine lv_iload G.1 G.2.1 dL_profiles_552 (lv_at hl 0 rfl) ?_
                refine gn_ltz G (by omega) (tgt := 566) dL_profiles_554 (by decide) ?_
                refine lv_aload_n G.1 G.2.1 dL_profiles_557 rfl (lv_at hl 9 rfl) ?_
                refine lv_bipush (v := nI 8) G.1 G.2.1 dL_profiles_558 (by decide) ?_
                refine lv_iload G.1 G.2.1 dL_profiles_560 (lv_at hl 5 rfl) ?_
                refine gn_iadd G dL_profiles_562 ?_
                refine lv_iload G.1 G.2.1 dL_profiles_563 (lv_at hl 1 rfl) ?_
                refine gz_ast (k := 0) (len := 11) (F := fC N S) (i := 8 + j) (v := e12) (N3 := N) (S3 := (gs S 4 (gu (S 4) j e12))) G hZ0 hZ hS rfl (ls_c4) (by omega) (by decide) dL_profiles_565 (fun H locs hZ hS => ?_)
                refine lv_aload_n G.1 G.2.1 dL_profiles_566 rfl (lv_at hl 6 rfl) ?_
                refine lv_iconst (v := nI 0) G.1 G.2.1 dL_profiles_567 (by decide) ?_
                refine lv_iload G.1 G.2.1 dL_profiles_568 (lv_at hl 5 rfl) ?_
                refine lv_iload G.1 G.2.1 dL_profiles_570 (lv_at hl 1 rfl) ?_
                refine gz_wrap (As := [.ref (q 0), .int (nI 0), .int (nI j), .int (nI e12)]) (rest := []) G.fix (mL_sets_way l hst D q cI N S tr _ hok hinv ((nI j)) ((nI e12))) (vx_cwSW 4 G.2.2.2.2.2.1 gL_profiles_L_sets rfl rfl rfl (by decide +kernel) ⟨Nat.le_of_ble_eq_true rfl, Nat.le_of_ble_eq_true rfl⟩) hZ hA hS rfl hl.1 rfl (Nat.le_of_ble_eq_true rfl) dL_profiles_572 (show 0 + 1 ≤ 1 by omega) (show 0 + 6 ≤ 6 by omega) (fun r Nx Sx tr H locs hp hZ hS => ?_)
                obtain ⟨rfl, eN, eS⟩ := hp
                have hk_572 : sj_way N S ((nI j)) ((nI e12)) = 0 := gk_ttt (by simp only [sA_way, Bool.and_eq_true, decide_eq_true_eq, gb_nI (show j < 2 ^ 31 by omega), gn_nI (show j < 2 ^ 31 by omega), gb_nI (show e12 < 2 ^ 31 by omega), gn_nI (show e12 < 2 ^ 31 by omega)] <;> omega) (by simp only [sB_way, Bool.and_eq_true, decide_eq_true_eq, gb_nI (show j < 2 ^ 31 by omega), gn_nI (show j < 2 ^ 31 by omega), gb_nI (show e12 < 2 ^ 31 by omega), gn_nI (show e12 < 2 ^ 31 by omega)] <;> omega) (by simp only [sC_way, Bool.and_eq_true, decide_eq_true_eq, gb_nI (show j < 2 ^ 31 by omega), gn_nI (show j < 2 ^ 31 by omega), gb_nI (show e12 < 2 ^ 31 by omega), gn_nI (show e12 < 2 ^ 31 by omega)] <;> omega)
                rw [hk_572] at eN eS
                have eN : Nx = sN_way N S ((nI j)) ((nI e12)) := eN
                have eS : Sx = sS_way N S ((nI j)) ((nI e12)) := eS
                rw [eN, eS] at hZ
                rw [hk_572, gRes_0]
                have hR_572 : sR_way N S ((nI j)) ((nI e12)) = S 4 j := by simp only [sR_way, gn_nI (show j < 2 ^ 31 by omega), gn_nI (show e12 < 2 ^ 31 by omega)]
                rw [hR_572]
                have hN9 : sN_way N S ((nI j)) ((nI e12)) = N := by simp only [sN_way, gn_nI (show j < 2 ^ 31 by omega), gn_nI (show e12 < 2 ^ 31 by omega)]
                have hS9 : sS_way N S ((nI j)) ((nI e12)) = (gs S 4 (gu (S 4) j e12)) := by simp only [sS_way, gn_nI (show j < 2 ^ 31 by omega), gn_nI (show e12 < 2 ^ 31 by omega)]
                have hli2 := li_way hli hk_572
                rw [hN9, hS9] at hli2 hZ
                refine lv_iload G.1 G.2.1 dL_profiles_575 (lv_at hl 0 rfl) ?_
                refine gn_ne G (by omega) (by omega) (tgt := 584) dL_profiles_577 (by decide) (fun h => absurd rfl h) (fun h_577 => ?_)
                refine lv_iconst (v := nI 1) G.1 G.2.1 dL_profiles_580 (by decide) ?_
                refine lv_goto (tgt := 585) G.1 G.2.1 dL_profiles_581 (by decide) ?_
                refine W.widen (k := 1) (n := 6) (show 0 + 1 ≤ 1 by omega) (show 0 + 6 ≤ 6 by omega) ?_
                exact W.zret G.1 G.2.1 G.2.2.1 rfl (fun t ht hW => ⟨nI 1, _, _, _, rfl, ⟨rfl, hli2, rfl, rfl⟩, by rw [ht]; exact hZ.1, hS.F ht⟩) hS.2.2 dL_profiles_585 G.2.2.2.2.2.2
              · refine lv_bipush (v := -103) G.1 G.2.1 dL_profiles_538 (by decide) ?_
                refine lv_goto (tgt := 550) G.1 G.2.1 dL_profiles_540 (by decide) ?_
                refine lv_istore (lv' := [(12, .int ((-103))), (11, .int (nI e12)), (10, .int (nI f9)), (9, .int (nI 1)), (8, .int (nI e8)), (7, .int (nI j)), (0, .ref (q 0)), (1, .int (nI 2)), (2, .int x), (3, .ref (a 0)), (4, .ref (a 1)), (5, .ref (a 2)), (6, .ref (a 3))]) G.1 G.2.1 dL_profiles_550 hl (by decide) rfl (fun ls hl => ?_)
                refine lv_iload G.1 G.2.1 dL_profiles_552 (lv_at hl 0 rfl) ?_
                refine lv_if_lt (tgt := 566) G.1 G.2.1 dL_profiles_554 (by decide) (fun h_554 => ?_) (fun h => absurd (by decide) h)
                refine lv_aload_n G.1 G.2.1 dL_profiles_566 rfl (lv_at hl 6 rfl) ?_
                refine lv_iconst (v := nI 0) G.1 G.2.1 dL_profiles_567 (by decide) ?_
                refine lv_iload G.1 G.2.1 dL_profiles_568 (lv_at hl 5 rfl) ?_
                refine lv_iload G.1 G.2.1 dL_profiles_570 (lv_at hl 1 rfl) ?_
                refine gz_wrap (As := [.ref (q 0), .int (nI 0), .int (nI j), .int (nI e12)]) (rest := []) G.fix (mL_sets_way l hst D q cI N S tr _ hok hinv ((nI j)) ((nI e12))) (vx_cwSW 4 G.2.2.2.2.2.1 gL_profiles_L_sets rfl rfl rfl (by decide +kernel) ⟨Nat.le_of_ble_eq_true rfl, Nat.le_of_ble_eq_true rfl⟩) hZ hA hS rfl hl.1 rfl (Nat.le_of_ble_eq_true rfl) dL_profiles_572 (show 0 + 1 ≤ 1 by omega) (show 0 + 6 ≤ 6 by omega) (fun r Nx Sx tr H locs hp hZ hS => ?_)
                obtain ⟨rfl, eN, eS⟩ := hp
                have hk_572 : sj_way N S ((nI j)) ((nI e12)) = 3 := gk_ttf (by simp only [sA_way, Bool.and_eq_true, decide_eq_true_eq, gb_nI (show j < 2 ^ 31 by omega), gn_nI (show j < 2 ^ 31 by omega), gb_nI (show e12 < 2 ^ 31 by omega), gn_nI (show e12 < 2 ^ 31 by omega)] <;> omega) (by simp only [sB_way, Bool.and_eq_true, decide_eq_true_eq, gb_nI (show j < 2 ^ 31 by omega), gn_nI (show j < 2 ^ 31 by omega), gb_nI (show e12 < 2 ^ 31 by omega), gn_nI (show e12 < 2 ^ 31 by omega)] <;> omega) (by apply Bool.eq_false_iff.mpr; intro h; simp only [sC_way, Bool.and_eq_true, decide_eq_true_eq, gb_nI (show j < 2 ^ 31 by omega), gn_nI (show j < 2 ^ 31 by omega), gb_nI (show e12 < 2 ^ 31 by omega), gn_nI (show e12 < 2 ^ 31 by omega)] at h <;> omega)
                rw [hk_572] at eN eS
                have eN : Nx = N := eN
                have eS : Sx = S := eS
                rw [eN, eS] at hZ
                rw [hk_572, gRes_3]
                refine lv_iload G.1 G.2.1 dL_profiles_575 (lv_at hl 0 rfl) ?_
                refine lv_icmp_ne (tgt := 584) G.1 G.2.1 dL_profiles_577 (by decide) (fun h => absurd rfl h) (fun h_577 => ?_)
                refine lv_iconst (v := nI 1) G.1 G.2.1 dL_profiles_580 (by decide) ?_
                refine lv_goto (tgt := 585) G.1 G.2.1 dL_profiles_581 (by decide) ?_
                refine W.widen (k := 1) (n := 6) (show 0 + 1 ≤ 1 by omega) (show 0 + 6 ≤ 6 by omega) ?_
                exact W.zret G.1 G.2.1 G.2.2.1 rfl (fun t ht hW => ⟨nI 1, _, _, _, rfl, ⟨rfl, hli, rfl, rfl⟩, by rw [ht]; exact hZ.1, hS.F ht⟩) hS.2.2 dL_profiles_585 G.2.2.2.2.2.2
            · refine lv_bipush (v := -102) G.1 G.2.1 dL_profiles_528 (by decide) ?_
              refine lv_goto (tgt := 550) G.1 G.2.1 dL_profiles_530 (by decide) ?_
              refine lv_istore (lv' := [(12, .int ((-102))), (11, .int (nI e12)), (10, .int (nI f9)), (9, .int (nI 1)), (8, .int (nI e8)), (7, .int (nI j)), (0, .ref (q 0)), (1, .int (nI 2)), (2, .int x), (3, .ref (a 0)), (4, .ref (a 1)), (5, .ref (a 2)), (6, .ref (a 3))]) G.1 G.2.1 dL_profiles_550 hl (by decide) rfl (fun ls hl => ?_)
              refine lv_iload G.1 G.2.1 dL_profiles_552 (lv_at hl 0 rfl) ?_
              refine lv_if_lt (tgt := 566) G.1 G.2.1 dL_profiles_554 (by decide) (fun h_554 => ?_) (fun h => absurd (by decide) h)
              refine lv_aload_n G.1 G.2.1 dL_profiles_566 rfl (lv_at hl 6 rfl) ?_
              refine lv_iconst (v := nI 0) G.1 G.2.1 dL_profiles_567 (by decide) ?_
              refine lv_iload G.1 G.2.1 dL_profiles_568 (lv_at hl 5 rfl) ?_
              refine lv_iload G.1 G.2.1 dL_profiles_570 (lv_at hl 1 rfl) ?_
              refine gz_wrap (As := [.ref (q 0), .int (nI 0), .int (nI j), .int (nI e12)]) (rest := []) G.fix (mL_sets_way l hst D q cI N S tr _ hok hinv ((nI j)) ((nI e12))) (vx_cwSW 4 G.2.2.2.2.2.1 gL_profiles_L_sets rfl rfl rfl (by decide +kernel) ⟨Nat.le_of_ble_eq_true rfl, Nat.le_of_ble_eq_true rfl⟩) hZ hA hS rfl hl.1 rfl (Nat.le_of_ble_eq_true rfl) dL_profiles_572 (show 0 + 1 ≤ 1 by omega) (show 0 + 6 ≤ 6 by omega) (fun r Nx Sx tr H locs hp hZ hS => ?_)
              obtain ⟨rfl, eN, eS⟩ := hp
              have hk_572 : sj_way N S ((nI j)) ((nI e12)) = 2 := gk_tf (by simp only [sA_way, Bool.and_eq_true, decide_eq_true_eq, gb_nI (show j < 2 ^ 31 by omega), gn_nI (show j < 2 ^ 31 by omega), gb_nI (show e12 < 2 ^ 31 by omega), gn_nI (show e12 < 2 ^ 31 by omega)] <;> omega) (by apply Bool.eq_false_iff.mpr; intro h; simp only [sB_way, Bool.and_eq_true, decide_eq_true_eq, gb_nI (show j < 2 ^ 31 by omega), gn_nI (show j < 2 ^ 31 by omega), gb_nI (show e12 < 2 ^ 31 by omega), gn_nI (show e12 < 2 ^ 31 by omega)] at h <;> omega)
              rw [hk_572] at eN eS
              have eN : Nx = N := eN
              have eS : Sx = S := eS
              rw [eN, eS] at hZ
              rw [hk_572, gRes_2]
              refine lv_iload G.1 G.2.1 dL_profiles_575 (lv_at hl 0 rfl) ?_
              refine lv_icmp_ne (tgt := 584) G.1 G.2.1 dL_profiles_577 (by decide) (fun h => absurd rfl h) (fun h_577 => ?_)
              refine lv_iconst (v := nI 1) G.1 G.2.1 dL_profiles_580 (by decide) ?_
              refine lv_goto (tgt := 585) G.1 G.2.1 dL_profiles_581 (by decide) ?_
              refine W.widen (k := 1) (n := 6) (show 0 + 1 ≤ 1 by omega) (show 0 + 6 ≤ 6 by omega) ?_
              exact W.zret G.1 G.2.1 G.2.2.1 rfl (fun t ht hW => ⟨nI 1, _, _, _, rfl, ⟨rfl, hli, rfl, rfl⟩, by rw [ht]; exact hZ.1, hS.F ht⟩) hS.2.2 dL_profiles_585 G.2.2.2.2.2.2
          · refine gn_nez G (by omega) (tgt := 503) dL_profiles_496 (by decide) (fun h_496 => ?_) (fun h_496 => ?_)
            · refine lv_iload_n G.1 G.2.1 dL_profiles_503 rfl (lv_at hl 6 rfl) ?_
              refine lv_iconst (v := nI 4) G.1 G.2.1 dL_profiles_504 (by decide) ?_
              refine lv_ishr G.1 G.2.1 dL_profiles_505 ?_
              refine lv_topi (fun y13 hy13 => ?_)
              refine lv_iconst (v := nI 3) G.1 G.2.1 dL_profiles_506 (by decide) ?_
              refine gc_s (As := [.int y13, .int (nI 3)]) (rest := []) G.fix (mL_some l y13 3 (by omega) (by omega)) (va_cwS 2 G.2.2.2.2.2.1 gL_profiles_L_some rfl rfl rfl (by decide +kernel) ⟨Nat.le_of_ble_eq_true rfl, Nat.le_of_ble_eq_true rfl⟩) gc_blindT (fun _ _ _ => trivial) rfl hl.1 rfl (Nat.le_of_ble_eq_true rfl) dL_profiles_507 (show 0 ≤ 1 by omega) (show 0 ≤ 6 by omega) (fun r hr => ?_)
              obtain ⟨k14, hk14, rfl⟩ := hr
              exact K_510 _ (⟨_, rfl, by omega⟩)
            · refine lv_iconst (v := nI 3) G.1 G.2.1 dL_profiles_499 (by decide) ?_
              refine lv_goto (tgt := 510) G.1 G.2.1 dL_profiles_500 (by decide) ?_
              exact K_510 _ (⟨_, rfl, by omega⟩)
        · refine gn_nez G (by omega) (tgt := 96) dL_profiles_89 (by decide) (fun h_89 => ?_) (fun h_89 => ?_)
          · refine lv_iconst (v := nI 0) G.1 G.2.1 dL_profiles_96 (by decide) ?_
            exact K_97 _ (⟨_, rfl, by omega, by omega⟩)
          · refine lv_iconst (v := nI 1) G.1 G.2.1 dL_profiles_92 (by decide) ?_
            refine lv_goto (tgt := 97) G.1 G.2.1 dL_profiles_93 (by decide) ?_
            exact K_97 _ (⟨_, rfl, by omega, by omega⟩)
      · have hg_jf := lg_gbf hg_j
        refine gj_x (fun x => x = (nI 0)) 71 [] (fun x hx => ?_) (fun K_71 => ?_)
        · subst hx
          refine lv_istore (lv' := [(9, .int (nI 0)), (8, .int (nI e8)), (7, .int y5), (0, .ref (q 0)), (1, .int (nI 2)), (2, .int x), (3, .ref (a 0)), (4, .ref (a 1)), (5, .ref (a 2)), (6, .ref (a 3))]) G.1 G.2.1 dL_profiles_71 hl (by decide) rfl (fun ls hl => ?_)
          refine lv_iload G.1 G.2.1 dL_profiles_73 (lv_at hl 0 rfl) ?_
          refine gn_eqz G (by omega) (tgt := 96) dL_profiles_75 (by decide) (fun h_75 => ?_) (fun h => absurd rfl h)
          refine lv_iconst (v := nI 0) G.1 G.2.1 dL_profiles_96 (by decide) ?_
          refine lv_istore (lv' := [(10, .int (nI 0)), (9, .int (nI 0)), (8, .int (nI e8)), (7, .int y5), (0, .ref (q 0)), (1, .int (nI 2)), (2, .int x), (3, .ref (a 0)), (4, .ref (a 1)), (5, .ref (a 2)), (6, .ref (a 3))]) G.1 G.2.1 dL_profiles_97 hl (by decide) rfl (fun ls hl => ?_)
          refine lv_iload_n G.1 G.2.1 dL_profiles_99 rfl (lv_at hl 5 rfl) ?_
          refine gn_nez G (by omega) (tgt := 261) dL_profiles_100 (by decide) (fun h_100 => ?_) (fun h => absurd h (by omega))
          refine lv_iload_n G.1 G.2.1 dL_profiles_261 rfl (lv_at hl 5 rfl) ?_
          refine lv_iconst (v := nI 1) G.1 G.2.1 dL_profiles_262 (by decide) ?_
          refine gn_ne G (by omega) (by omega) (tgt := 488) dL_profiles_263 (by decide) (fun h_263 => ?_) (fun h => absurd h (by omega))
          refine lv_iload_n G.1 G.2.1 dL_profiles_488 rfl (lv_at hl 6 rfl) ?_
          refine lv_iconst (v := nI 4) G.1 G.2.1 dL_profiles_489 (by decide) ?_
          refine lv_ishr G.1 G.2.1 dL_profiles_490 ?_
          refine lv_topi (fun y15 hy15 => ?_)
          refine lv_bipush (v := nI 20) G.1 G.2.1 dL_profiles_491 (by decide) ?_
          refine gc_s (As := [.int y15, .int (nI 20)]) (rest := []) G.fix (mL_some l y15 20 (by omega) (by omega)) (va_cwS 2 G.2.2.2.2.2.1 gL_profiles_L_some rfl rfl rfl (by decide +kernel) ⟨Nat.le_of_ble_eq_true rfl, Nat.le_of_ble_eq_true rfl⟩) gc_blindT (fun _ _ _ => trivial) rfl hl.1 rfl (Nat.le_of_ble_eq_true rfl) dL_profiles_493 (show 0 ≤ 1 by omega) (show 0 ≤ 6 by omega) (fun r hr => ?_)
          obtain ⟨k16, hk16, rfl⟩ := hr
          refine gj_x (fun x => ∃ e : Nat, x = nI e ∧ e ≤ 3) 510 [] (fun x hx => ?_) (fun K_510 => ?_)
          · obtain ⟨e17, rfl, he17⟩ := hx
            refine lv_istore (lv' := [(11, .int (nI e17)), (10, .int (nI 0)), (9, .int (nI 0)), (8, .int (nI e8)), (7, .int y5), (0, .ref (q 0)), (1, .int (nI 2)), (2, .int x), (3, .ref (a 0)), (4, .ref (a 1)), (5, .ref (a 2)), (6, .ref (a 3))]) G.1 G.2.1 dL_profiles_510 hl (by decide) rfl (fun ls hl => ?_)
            refine lv_iload G.1 G.2.1 dL_profiles_512 (lv_at hl 2 rfl) ?_
            refine gn_nez G (by omega) (tgt := 522) dL_profiles_514 (by decide) (fun h => absurd rfl h) (fun h_514 => ?_)
            refine lv_bipush (v := -101) G.1 G.2.1 dL_profiles_517 (by decide) ?_
            refine lv_goto (tgt := 550) G.1 G.2.1 dL_profiles_519 (by decide) ?_
            refine lv_istore (lv' := [(12, .int ((-101))), (11, .int (nI e17)), (10, .int (nI 0)), (9, .int (nI 0)), (8, .int (nI e8)), (7, .int y5), (0, .ref (q 0)), (1, .int (nI 2)), (2, .int x), (3, .ref (a 0)), (4, .ref (a 1)), (5, .ref (a 2)), (6, .ref (a 3))]) G.1 G.2.1 dL_profiles_550 hl (by decide) rfl (fun ls hl => ?_)
            refine lv_iload G.1 G.2.1 dL_profiles_552 (lv_at hl 0 rfl) ?_
            refine lv_if_lt (tgt := 566) G.1 G.2.1 dL_profiles_554 (by decide) (fun h_554 => ?_) (fun h => absurd (by decide) h)
            refine lv_aload_n G.1 G.2.1 dL_profiles_566 rfl (lv_at hl 6 rfl) ?_
            refine lv_iconst (v := nI 0) G.1 G.2.1 dL_profiles_567 (by decide) ?_
            refine lv_iload G.1 G.2.1 dL_profiles_568 (lv_at hl 5 rfl) ?_
            refine lv_iload G.1 G.2.1 dL_profiles_570 (lv_at hl 1 rfl) ?_
            refine gz_wrap (As := [.ref (q 0), .int (nI 0), .int y5, .int (nI e17)]) (rest := []) G.fix (mL_sets_way l hst D q cI N S tr _ hok hinv y5 ((nI e17))) (vx_cwSW 4 G.2.2.2.2.2.1 gL_profiles_L_sets rfl rfl rfl (by decide +kernel) ⟨Nat.le_of_ble_eq_true rfl, Nat.le_of_ble_eq_true rfl⟩) hZ hA hS rfl hl.1 rfl (Nat.le_of_ble_eq_true rfl) dL_profiles_572 (show 0 + 1 ≤ 1 by omega) (show 0 + 6 ≤ 6 by omega) (fun r Nx Sx tr H locs hp hZ hS => ?_)
            obtain ⟨rfl, eN, eS⟩ := hp
            have hk_572 : sj_way N S y5 ((nI e17)) = 1 := gk_f (by simp [sA_way, hg_jf])
            rw [hk_572] at eN eS
            have eN : Nx = N := eN
            have eS : Sx = S := eS
            rw [eN, eS] at hZ
            rw [hk_572, gRes_1]
            refine lv_iload G.1 G.2.1 dL_profiles_575 (lv_at hl 0 rfl) ?_
            refine lv_icmp_ne (tgt := 584) G.1 G.2.1 dL_profiles_577 (by decide) (fun h => absurd rfl h) (fun h_577 => ?_)
            refine lv_iconst (v := nI 1) G.1 G.2.1 dL_profiles_580 (by decide) ?_
            refine lv_goto (tgt := 585) G.1 G.2.1 dL_profiles_581 (by decide) ?_
            refine W.widen (k := 1) (n := 6) (show 0 + 1 ≤ 1 by omega) (show 0 + 6 ≤ 6 by omega) ?_
            exact W.zret G.1 G.2.1 G.2.2.1 rfl (fun t ht hW => ⟨nI 1, _, _, _, rfl, ⟨rfl, hli, rfl, rfl⟩, by rw [ht]; exact hZ.1, hS.F ht⟩) hS.2.2 dL_profiles_585 G.2.2.2.2.2.2
          · refine gn_nez G (by omega) (tgt := 503) dL_profiles_496 (by decide) (fun h_496 => ?_) (fun h_496 => ?_)
            · refine lv_iload_n G.1 G.2.1 dL_profiles_503 rfl (lv_at hl 6 rfl) ?_
              refine lv_iconst (v := nI 4) G.1 G.2.1 dL_profiles_504 (by decide) ?_
              refine lv_ishr G.1 G.2.1 dL_profiles_505 ?_
              refine lv_topi (fun y18 hy18 => ?_)
              refine lv_iconst (v := nI 3) G.1 G.2.1 dL_profiles_506 (by decide) ?_
              refine gc_s (As := [.int y18, .int (nI 3)]) (rest := []) G.fix (mL_some l y18 3 (by omega) (by omega)) (va_cwS 2 G.2.2.2.2.2.1 gL_profiles_L_some rfl rfl rfl (by decide +kernel) ⟨Nat.le_of_ble_eq_true rfl, Nat.le_of_ble_eq_true rfl⟩) gc_blindT (fun _ _ _ => trivial) rfl hl.1 rfl (Nat.le_of_ble_eq_true rfl) dL_profiles_507 (show 0 ≤ 1 by omega) (show 0 ≤ 6 by omega) (fun r hr => ?_)
              obtain ⟨k19, hk19, rfl⟩ := hr
              exact K_510 _ (⟨_, rfl, by omega⟩)
            · refine lv_iconst (v := nI 3) G.1 G.2.1 dL_profiles_499 (by decide) ?_
              refine lv_goto (tgt := 510) G.1 G.2.1 dL_profiles_500 (by decide) ?_
              exact K_510 _ (⟨_, rfl, by omega⟩)
        · refine lv_iload G.1 G.2.1 dL_profiles_53 (lv_at hl 1 rfl) ?_
          refine lv_if_lt (tgt := 70) G.1 G.2.1 dL_profiles_55 (by decide) (fun h_55 => ?_) (fun h_55 => ?_)
          · refine lv_iconst (v := nI 0) G.1 G.2.1 dL_profiles_70 (by decide) ?_
            exact K_71 _ (rfl)
          · refine lv_iload G.1 G.2.1 dL_profiles_58 (lv_at hl 1 rfl) ?_
            refine lv_aload_n G.1 G.2.1 dL_profiles_60 rfl (lv_at hl 5 rfl) ?_
            refine lv_iconst (v := nI 0) G.1 G.2.1 dL_profiles_61 (by decide) ?_
            refine gl_ald (k := 0) (len := 11) (F := fC N S) G hZ.r rfl (by omega) (by decide) dL_profiles_62 ?_
            rw [fC_0]
            refine lv_icmp_ge (tgt := 70) G.1 G.2.1 dL_profiles_63 (by decide) (fun h_63 => ?_) (fun h => (lg_gein (by omega) h_55 h hg_jf).elim)
            refine lv_iconst (v := nI 0) G.1 G.2.1 dL_profiles_70 (by decide) ?_
            exact K_71 _ (rfl)
    · refine gn_nez G (by omega) (tgt := 44) dL_profiles_37 (by decide) (fun h_37 => ?_) (fun h_37 => ?_)
      · refine lv_iload_n G.1 G.2.1 dL_profiles_44 rfl (lv_at hl 3 rfl) ?_
        refine lv_iconst (v := nI 3) G.1 G.2.1 dL_profiles_45 (by decide) ?_
        refine lv_ishr G.1 G.2.1 dL_profiles_46 ?_
        refine lv_topi (fun y20 hy20 => ?_)
        refine lv_iconst (v := nI 3) G.1 G.2.1 dL_profiles_47 (by decide) ?_
        refine gc_s (As := [.int y20, .int (nI 3)]) (rest := []) G.fix (mL_some l y20 3 (by omega) (by omega)) (va_cwS 2 G.2.2.2.2.2.1 gL_profiles_L_some rfl rfl rfl (by decide +kernel) ⟨Nat.le_of_ble_eq_true rfl, Nat.le_of_ble_eq_true rfl⟩) gc_blindT (fun _ _ _ => trivial) rfl hl.1 rfl (Nat.le_of_ble_eq_true rfl) dL_profiles_48 (show 0 ≤ 1 by omega) (show 0 ≤ 6 by omega) (fun r hr => ?_)
        obtain ⟨k21, hk21, rfl⟩ := hr
        exact K_51 _ (⟨_, rfl, by omega⟩)
      · refine lv_iconst (v := nI 3) G.1 G.2.1 dL_profiles_40 (by decide) ?_
        refine lv_goto (tgt := 51) G.1 G.2.1 dL_profiles_41 (by decide) ?_
        exact K_51 _ (⟨_, rfl, by omega⟩)
  · refine gn_nez G (by omega) (tgt := 25) dL_profiles_18 (by decide) (fun h_18 => ?_) (fun h_18 => ?_)
    · refine lv_iconst (v := nI 0) G.1 G.2.1 dL_profiles_25 (by decide) ?_
      exact K_26 _ (⟨_, rfl, by omega⟩)
    · refine lv_iconst (v := nI 1) G.1 G.2.1 dL_profiles_21 (by decide) ?_
      refine lv_goto (tgt := 26) G.1 G.2.1 dL_profiles_22 (by decide) ?_
      exact K_26 _ (⟨_, rfl, by omega⟩)
