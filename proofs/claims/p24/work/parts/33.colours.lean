/-! THE LAW's CHOICES: a pixel's band, an amount, a mix -/
set_option maxRecDepth 100000 in
set_option maxHeartbeats 2000000 in
theorem mL_colours_0 (l : Launch) (hst : l.stackTraces = false) (D : va_G) (q a : Nat → Nat) (cI : ClassId) (N : Nat → Nat) (S : Nat → Nat → Nat) (tr : Nat → Nat) (A : Nat → Prop) (hli : li N S) (w0 : Int32) : Met l yL_colours wsL_colours { frames := 9, cells := 1, slots := 6, locals := 150 } (va_Pc [.ref (q 0), .int (nI 0), .int w0, .ref (a 5)] (fun U => zBt D q a cI N S tr A U)) (gQz D q a cI (fun r N' S' => r = nI 1 ∧ li N' S' ∧ N' 0 = N 0 ∧ N' 5 = N 5) A) 1 6 A := by
  refine gc_met [.ref (q 0), .int (nI 0), .int w0, .ref (a 5)] (by decide) rfl (Nat.le_of_ble_eq_true rfl) rfl ?_
  intro p e s m below meth c ls G hl hB
  obtain ⟨hZ, hA⟩ := hB
  have hli9 := hli
  obtain ⟨hok, hinv, hN0, hN5, h6⟩ := hli9
  have hok9 := hok
  obtain ⟨⟨ok0, ok5⟩, ok1, ok2, ok3, ok4, ok6, ok7, ok8, ok12, ok13, ok14⟩ := hok9
  have hZ0 : gZ A s s.heap := hZ.2.2.2
  have hS : va_S A s.heap s.heap [] := va_S.rf
  refine lv_iload_n G.1 G.2.1 dL_colours_0 rfl (lv_at hl 2 rfl) ?_
  refine lv_bipush (v := nI 30) G.1 G.2.1 dL_colours_1 (by decide) ?_
  refine gc_s (As := [.int w0, .int (nI 30)]) (rest := []) G.fix (mL_some l w0 30 (by omega) (by omega)) (va_cwS 2 G.2.2.2.2.2.1 gL_colours_L_some rfl rfl rfl (by decide +kernel) ⟨Nat.le_of_ble_eq_true rfl, Nat.le_of_ble_eq_true rfl⟩) gc_blindT (fun _ _ _ => trivial) rfl hl.1 rfl (Nat.le_of_ble_eq_true rfl) dL_colours_3 (show 0 ≤ 1 by omega) (show 0 ≤ 6 by omega) (fun r hr => ?_)
  obtain ⟨k1, hk1, rfl⟩ := hr
  refine gj_x (fun x => ∃ e : Nat, x = nI e ∧ e ≤ 6 ∧ (e < 6 → e < 2)) 37 [] (fun x hx => ?_) (fun K_37 => ?_)
  · obtain ⟨e2, rfl, he2⟩ := hx
    obtain ⟨he2, he2b⟩ := he2
    refine lv_istore (lv' := [(4, .int (nI e2)), (0, .ref (q 0)), (1, .int (nI 0)), (2, .int w0), (3, .ref (a 5))]) G.1 G.2.1 dL_colours_37 hl (by decide) rfl (fun ls hl => ?_)
    refine lv_iload_n G.1 G.2.1 dL_colours_39 rfl (lv_at hl 3 rfl) ?_
    refine lv_iconst (v := nI 4) G.1 G.2.1 dL_colours_40 (by decide) ?_
    refine lv_ishr G.1 G.2.1 dL_colours_41 ?_
    refine lv_topi (fun y3 hy3 => ?_)
    refine lv_bipush (v := nI 30) G.1 G.2.1 dL_colours_42 (by decide) ?_
    refine gc_s (As := [.int y3, .int (nI 30)]) (rest := []) G.fix (mL_some l y3 30 (by omega) (by omega)) (va_cwS 2 G.2.2.2.2.2.1 gL_colours_L_some rfl rfl rfl (by decide +kernel) ⟨Nat.le_of_ble_eq_true rfl, Nat.le_of_ble_eq_true rfl⟩) gc_blindT (fun _ _ _ => trivial) rfl hl.1 rfl (Nat.le_of_ble_eq_true rfl) dL_colours_44 (show 0 ≤ 1 by omega) (show 0 ≤ 6 by omega) (fun r hr => ?_)
    obtain ⟨k4, hk4, rfl⟩ := hr
    refine gj_x (fun x => x = -1 ∨ ∃ e : Nat, x = nI e ∧ e < 3) 61 [] (fun x hx => ?_) (fun K_61 => ?_)
    · obtain ⟨z5, ez5⟩ : ∃ z, z = x := ⟨x, rfl⟩
      rw [← ez5] at hx ⊢
      refine lv_istore (lv' := [(5, .int z5), (4, .int (nI e2)), (0, .ref (q 0)), (1, .int (nI 0)), (2, .int w0), (3, .ref (a 5))]) G.1 G.2.1 dL_colours_61 hl (by decide) rfl (fun ls hl => ?_)
      rcases hx with rfl | ⟨e6, rfl, he6⟩
      · have hg_m1 : gb (-1) 3 = false := by decide
        refine lv_iload_n G.1 G.2.1 dL_colours_63 rfl (lv_at hl 4 rfl) ?_
        refine lv_iconst (v := nI 5) G.1 G.2.1 dL_colours_64 (by decide) ?_
        refine lv_ishr G.1 G.2.1 dL_colours_65 ?_
        refine lv_topi (fun y7 hy7 => ?_)
        refine gc_s (As := [.int y7]) (rest := []) G.fix (mL_value l y7) (va_cwS 1 G.2.2.2.2.2.1 gL_colours_L_value rfl rfl rfl (by decide +kernel) ⟨Nat.le_of_ble_eq_true rfl, Nat.le_of_ble_eq_true rfl⟩) gc_blindT (fun _ _ _ => trivial) rfl hl.1 rfl (Nat.le_of_ble_eq_true rfl) dL_colours_66 (show 0 ≤ 1 by omega) (show 0 ≤ 6 by omega) (fun y8 _ => ?_)
        refine lv_istore (lv' := [(6, .int y8), (5, .int ((-1))), (4, .int (nI e2)), (0, .ref (q 0)), (1, .int (nI 0)), (2, .int w0), (3, .ref (a 5))]) G.1 G.2.1 dL_colours_69 hl (by decide) rfl (fun ls hl => ?_)
        refine lv_iload G.1 G.2.1 dL_colours_71 (lv_at hl 1 rfl) ?_
        refine lv_if_lt (tgt := 96) G.1 G.2.1 dL_colours_73 (by decide) (fun h_73 => ?_) (fun h => absurd (by decide) h)
        refine lv_iconst (v := nI 0) G.1 G.2.1 dL_colours_96 (by decide) ?_
        refine lv_istore (lv' := [(7, .int (nI 0)), (6, .int y8), (5, .int ((-1))), (4, .int (nI e2)), (0, .ref (q 0)), (1, .int (nI 0)), (2, .int w0), (3, .ref (a 5))]) G.1 G.2.1 dL_colours_97 hl (by decide) rfl (fun ls hl => ?_)
        refine lv_bipush (v := nI 6) G.1 G.2.1 dL_colours_99 (by decide) ?_
        refine lv_iload_n G.1 G.2.1 dL_colours_101 rfl (lv_at hl 5 rfl) ?_
        refine gn_imul G dL_colours_102 ?_
        refine lv_iconst (v := nI 3) G.1 G.2.1 dL_colours_103 (by decide) ?_
        refine lv_iload G.1 G.2.1 dL_colours_104 (lv_at hl 3 rfl) ?_
        refine gn_imul G dL_colours_106 ?_
        refine gn_iadd G dL_colours_107 ?_
        refine lv_iload G.1 G.2.1 dL_colours_108 (lv_at hl 2 rfl) ?_
        refine lv_iadd G.1 G.2.1 dL_colours_110 ?_
        refine lv_topi (fun y9 hy9 => ?_)
        refine lv_istore (lv' := [(8, .int y9), (7, .int (nI 0)), (6, .int y8), (5, .int ((-1))), (4, .int (nI e2)), (0, .ref (q 0)), (1, .int (nI 0)), (2, .int w0), (3, .ref (a 5))]) G.1 G.2.1 dL_colours_111 hl (by decide) rfl (fun ls hl => ?_)
        refine lv_iload G.1 G.2.1 dL_colours_113 (lv_at hl 1 rfl) ?_
        refine gn_nez G (by omega) (tgt := 123) dL_colours_115 (by decide) (fun h => absurd rfl h) (fun h_115 => ?_)
        refine lv_bipush (v := -101) G.1 G.2.1 dL_colours_118 (by decide) ?_
        refine lv_goto (tgt := 145) G.1 G.2.1 dL_colours_120 (by decide) ?_
        refine lv_istore (lv' := [(9, .int ((-101))), (8, .int y9), (7, .int (nI 0)), (6, .int y8), (5, .int ((-1))), (4, .int (nI e2)), (0, .ref (q 0)), (1, .int (nI 0)), (2, .int w0), (3, .ref (a 5))]) G.1 G.2.1 dL_colours_145 hl (by decide) rfl (fun ls hl => ?_)
        refine lv_iload G.1 G.2.1 dL_colours_147 (lv_at hl 0 rfl) ?_
        refine lv_if_lt (tgt := 158) G.1 G.2.1 dL_colours_149 (by decide) (fun h_149 => ?_) (fun h => absurd (by decide) h)
        refine lv_aload_n G.1 G.2.1 dL_colours_158 rfl (lv_at hl 6 rfl) ?_
        refine lv_iload_n G.1 G.2.1 dL_colours_159 rfl (lv_at hl 7 rfl) ?_
        refine lv_iload G.1 G.2.1 dL_colours_160 (lv_at hl 5 rfl) ?_
        refine lv_iload G.1 G.2.1 dL_colours_162 (lv_at hl 4 rfl) ?_
        refine lv_iload G.1 G.2.1 dL_colours_164 (lv_at hl 3 rfl) ?_
        refine gz_wrap (As := [.ref (q 0), .int (nI 0), .int (nI e2), .int ((-1)), .int y8]) (rest := []) G.fix (mL_paints_paint l hst D q cI N S tr _ hok hinv ((nI e2)) ((-1)) y8) (vx_cwSW 5 G.2.2.2.2.2.1 gL_colours_L_paints rfl rfl rfl (by decide +kernel) ⟨Nat.le_of_ble_eq_true rfl, Nat.le_of_ble_eq_true rfl⟩) hZ hA hS rfl hl.1 rfl (Nat.le_of_ble_eq_true rfl) dL_colours_166 (show 0 + 1 ≤ 1 by omega) (show 0 + 6 ≤ 6 by omega) (fun r Nx Sx tr H locs hp hZ hS => ?_)
        obtain ⟨rfl, eN, eS⟩ := hp
        have hk_166 : sj_paint N S ((nI e2)) ((-1)) y8 = 1 := gk_f (by simp [sA_paint, hg_m1])
        rw [hk_166] at eN eS
        have eN : Nx = N := eN
        have eS : Sx = S := eS
        rw [eN, eS] at hZ
        rw [hk_166, gRes_1]
        refine lv_iload G.1 G.2.1 dL_colours_169 (lv_at hl 0 rfl) ?_
        refine lv_icmp_ne (tgt := 178) G.1 G.2.1 dL_colours_171 (by decide) (fun h => absurd rfl h) (fun h_171 => ?_)
        refine lv_iconst (v := nI 1) G.1 G.2.1 dL_colours_174 (by decide) ?_
        refine lv_goto (tgt := 179) G.1 G.2.1 dL_colours_175 (by decide) ?_
        refine W.widen (k := 1) (n := 6) (show 0 + 1 ≤ 1 by omega) (show 0 + 6 ≤ 6 by omega) ?_
        exact W.zret G.1 G.2.1 G.2.2.1 rfl (fun t ht hW => ⟨nI 1, _, _, _, rfl, ⟨rfl, hli, rfl, rfl⟩, by rw [ht]; exact hZ.1, hS.F ht⟩) hS.2.2 dL_colours_179 G.2.2.2.2.2.2
      · refine lv_iload_n G.1 G.2.1 dL_colours_63 rfl (lv_at hl 4 rfl) ?_
        refine lv_iconst (v := nI 5) G.1 G.2.1 dL_colours_64 (by decide) ?_
        refine lv_ishr G.1 G.2.1 dL_colours_65 ?_
        refine lv_topi (fun y10 hy10 => ?_)
        refine gc_s (As := [.int y10]) (rest := []) G.fix (mL_value l y10) (va_cwS 1 G.2.2.2.2.2.1 gL_colours_L_value rfl rfl rfl (by decide +kernel) ⟨Nat.le_of_ble_eq_true rfl, Nat.le_of_ble_eq_true rfl⟩) gc_blindT (fun _ _ _ => trivial) rfl hl.1 rfl (Nat.le_of_ble_eq_true rfl) dL_colours_66 (show 0 ≤ 1 by omega) (show 0 ≤ 6 by omega) (fun y11 _ => ?_)
        refine lv_istore (lv' := [(6, .int y11), (5, .int (nI e6)), (4, .int (nI e2)), (0, .ref (q 0)), (1, .int (nI 0)), (2, .int w0), (3, .ref (a 5))]) G.1 G.2.1 dL_colours_69 hl (by decide) rfl (fun ls hl => ?_)
        refine lv_iload G.1 G.2.1 dL_colours_71 (lv_at hl 1 rfl) ?_
        refine gn_ltz G (by omega) (tgt := 96) dL_colours_73 (by decide) ?_
        refine lv_iload G.1 G.2.1 dL_colours_76 (lv_at hl 2 rfl) ?_
        refine lv_iload_n G.1 G.2.1 dL_colours_78 rfl (lv_at hl 4 rfl) ?_
        refine lv_iconst (v := nI 2) G.1 G.2.1 dL_colours_79 (by decide) ?_
        refine gn_ne G (by omega) (by omega) (tgt := 87) dL_colours_80 (by decide) (fun h_80 => ?_) (fun h => absurd h (by omega))
        refine lv_bipush (v := nI 6) G.1 G.2.1 dL_colours_87 (by decide) ?_
        refine gn_ge G (by omega) (by omega) (tgt := 96) dL_colours_89 (by decide) (fun h_89 => ?_) (fun h_89 => ?_)
        · refine lv_iconst (v := nI 0) G.1 G.2.1 dL_colours_96 (by decide) ?_
          refine lv_istore (lv' := [(7, .int (nI 0)), (6, .int y11), (5, .int (nI e6)), (4, .int (nI e2)), (0, .ref (q 0)), (1, .int (nI 0)), (2, .int w0), (3, .ref (a 5))]) G.1 G.2.1 dL_colours_97 hl (by decide) rfl (fun ls hl => ?_)
          refine lv_bipush (v := nI 6) G.1 G.2.1 dL_colours_99 (by decide) ?_
          refine lv_iload_n G.1 G.2.1 dL_colours_101 rfl (lv_at hl 5 rfl) ?_
          refine gn_imul G dL_colours_102 ?_
          refine lv_iconst (v := nI 3) G.1 G.2.1 dL_colours_103 (by decide) ?_
          refine lv_iload G.1 G.2.1 dL_colours_104 (lv_at hl 3 rfl) ?_
          refine gn_imul G dL_colours_106 ?_
          refine gn_iadd G dL_colours_107 ?_
          refine lv_iload G.1 G.2.1 dL_colours_108 (lv_at hl 2 rfl) ?_
          refine gn_iadd G dL_colours_110 ?_
          refine lv_istore (lv' := [(8, .int (nI (((6 * 0) + (3 * e2)) + e6))), (7, .int (nI 0)), (6, .int y11), (5, .int (nI e6)), (4, .int (nI e2)), (0, .ref (q 0)), (1, .int (nI 0)), (2, .int w0), (3, .ref (a 5))]) G.1 G.2.1 dL_colours_111 hl (by decide) rfl (fun ls hl => ?_)
          refine lv_iload G.1 G.2.1 dL_colours_113 (lv_at hl 1 rfl) ?_
          refine gn_nez G (by omega) (tgt := 123) dL_colours_115 (by decide) (fun h => absurd rfl h) (fun h_115 => ?_)
          refine lv_bipush (v := -101) G.1 G.2.1 dL_colours_118 (by decide) ?_
          refine lv_goto (tgt := 145) G.1 G.2.1 dL_colours_120 (by decide) ?_
          refine lv_istore (lv' := [(9, .int ((-101))), (8, .int (nI (((6 * 0) + (3 * e2)) + e6))), (7, .int (nI 0)), (6, .int y11), (5, .int (nI e6)), (4, .int (nI e2)), (0, .ref (q 0)), (1, .int (nI 0)), (2, .int w0), (3, .ref (a 5))]) G.1 G.2.1 dL_colours_145 hl (by decide) rfl (fun ls hl => ?_)
          refine lv_iload G.1 G.2.1 dL_colours_147 (lv_at hl 0 rfl) ?_
          refine lv_if_lt (tgt := 158) G.1 G.2.1 dL_colours_149 (by decide) (fun h_149 => ?_) (fun h => absurd (by decide) h)
          refine lv_aload_n G.1 G.2.1 dL_colours_158 rfl (lv_at hl 6 rfl) ?_
          refine lv_iload_n G.1 G.2.1 dL_colours_159 rfl (lv_at hl 7 rfl) ?_
          refine lv_iload G.1 G.2.1 dL_colours_160 (lv_at hl 5 rfl) ?_
          refine lv_iload G.1 G.2.1 dL_colours_162 (lv_at hl 4 rfl) ?_
          refine lv_iload G.1 G.2.1 dL_colours_164 (lv_at hl 3 rfl) ?_
          refine gz_wrap (As := [.ref (q 0), .int (nI 0), .int (nI e2), .int (nI e6), .int y11]) (rest := []) G.fix (mL_paints_paint l hst D q cI N S tr _ hok hinv ((nI e2)) ((nI e6)) y11) (vx_cwSW 5 G.2.2.2.2.2.1 gL_colours_L_paints rfl rfl rfl (by decide +kernel) ⟨Nat.le_of_ble_eq_true rfl, Nat.le_of_ble_eq_true rfl⟩) hZ hA hS rfl hl.1 rfl (Nat.le_of_ble_eq_true rfl) dL_colours_166 (show 0 + 1 ≤ 1 by omega) (show 0 + 6 ≤ 6 by omega) (fun r Nx Sx tr H locs hp hZ hS => ?_)
          obtain ⟨rfl, eN, eS⟩ := hp
          have hk_166 : sj_paint N S ((nI e2)) ((nI e6)) y11 = 1 := gk_f (by apply Bool.eq_false_iff.mpr; intro h; simp only [sA_paint, Bool.and_eq_true, decide_eq_true_eq, gb_nI (show e2 < 2 ^ 31 by omega), gn_nI (show e2 < 2 ^ 31 by omega), gb_nI (show e6 < 2 ^ 31 by omega), gn_nI (show e6 < 2 ^ 31 by omega)] at h <;> omega)
          rw [hk_166] at eN eS
          have eN : Nx = N := eN
          have eS : Sx = S := eS
          rw [eN, eS] at hZ
          rw [hk_166, gRes_1]
          refine lv_iload G.1 G.2.1 dL_colours_169 (lv_at hl 0 rfl) ?_
          refine lv_icmp_ne (tgt := 178) G.1 G.2.1 dL_colours_171 (by decide) (fun h => absurd rfl h) (fun h_171 => ?_)
          refine lv_iconst (v := nI 1) G.1 G.2.1 dL_colours_174 (by decide) ?_
          refine lv_goto (tgt := 179) G.1 G.2.1 dL_colours_175 (by decide) ?_
          refine W.widen (k := 1) (n := 6) (show 0 + 1 ≤ 1 by omega) (show 0 + 6 ≤ 6 by omega) ?_
          exact W.zret G.1 G.2.1 G.2.2.1 rfl (fun t ht hW => ⟨nI 1, _, _, _, rfl, ⟨rfl, hli, rfl, rfl⟩, by rw [ht]; exact hZ.1, hS.F ht⟩) hS.2.2 dL_colours_179 G.2.2.2.2.2.2
        · refine lv_iconst (v := nI 1) G.1 G.2.1 dL_colours_92 (by decide) ?_
          refine lv_goto (tgt := 97) G.1 G.2.1 dL_colours_93 (by decide) ?_
          refine lv_istore (lv' := [(7, .int (nI 1)), (6, .int y11), (5, .int (nI e6)), (4, .int (nI e2)), (0, .ref (q 0)), (1, .int (nI 0)), (2, .int w0), (3, .ref (a 5))]) G.1 G.2.1 dL_colours_97 hl (by decide) rfl (fun ls hl => ?_)
          refine lv_bipush (v := nI 6) G.1 G.2.1 dL_colours_99 (by decide) ?_
          refine lv_iload_n G.1 G.2.1 dL_colours_101 rfl (lv_at hl 5 rfl) ?_
          refine gn_imul G dL_colours_102 ?_
          refine lv_iconst (v := nI 3) G.1 G.2.1 dL_colours_103 (by decide) ?_
          refine lv_iload G.1 G.2.1 dL_colours_104 (lv_at hl 3 rfl) ?_
          refine gn_imul G dL_colours_106 ?_
          refine gn_iadd G dL_colours_107 ?_
          refine lv_iload G.1 G.2.1 dL_colours_108 (lv_at hl 2 rfl) ?_
          refine gn_iadd G dL_colours_110 ?_
          refine lv_istore (lv' := [(8, .int (nI (((6 * 0) + (3 * e2)) + e6))), (7, .int (nI 1)), (6, .int y11), (5, .int (nI e6)), (4, .int (nI e2)), (0, .ref (q 0)), (1, .int (nI 0)), (2, .int w0), (3, .ref (a 5))]) G.1 G.2.1 dL_colours_111 hl (by decide) rfl (fun ls hl => ?_)
          refine lv_iload G.1 G.2.1 dL_colours_113 (lv_at hl 1 rfl) ?_
          refine gn_nez G (by omega) (tgt := 123) dL_colours_115 (by decide) (fun h_115 => ?_) (fun h => absurd h (by omega))
          by_cases hg_v : gb y11 256 = true
          · obtain ⟨v, hv, rfl⟩ := gb_of (by omega) hg_v
            refine lv_iload G.1 G.2.1 dL_colours_123 (lv_at hl 2 rfl) ?_
            refine gn_ltz G (by omega) (tgt := 136) dL_colours_125 (by decide) ?_
            refine lv_iload G.1 G.2.1 dL_colours_128 (lv_at hl 2 rfl) ?_
            refine lv_sipush (v := nI 255) G.1 G.2.1 dL_colours_130 (by decide) ?_
            refine gn_le G (by omega) (by omega) (tgt := 141) dL_colours_133 (by decide) (fun h_133 => ?_) (fun h => absurd h (by omega))
            refine lv_aload_n G.1 G.2.1 dL_colours_141 rfl (lv_at hl 8 rfl) ?_
            refine lv_iload G.1 G.2.1 dL_colours_142 (lv_at hl 0 rfl) ?_
            refine gl_ald (k := 5) (len := 21) (F := fP S) G hZ.r rfl (by omega) (by decide) dL_colours_144 ?_
            rw [show ((6 * 0) + (3 * e2)) + e6 = e2 * 3 + e6 from by omega, fP_12 (by omega)]
            have hv_144 := ok12 (e2 * 3 + e6)
            refine lv_istore (lv' := [(9, .int (nI (S 12 (e2 * 3 + e6)))), (8, .int (nI (((6 * 0) + (3 * e2)) + e6))), (7, .int (nI 1)), (6, .int (nI v)), (5, .int (nI e6)), (4, .int (nI e2)), (0, .ref (q 0)), (1, .int (nI 0)), (2, .int w0), (3, .ref (a 5))]) G.1 G.2.1 dL_colours_145 hl (by decide) rfl (fun ls hl => ?_)
            refine lv_iload G.1 G.2.1 dL_colours_147 (lv_at hl 0 rfl) ?_
            refine gn_ltz G (by omega) (tgt := 158) dL_colours_149 (by decide) ?_
            refine lv_aload_n G.1 G.2.1 dL_colours_152 rfl (lv_at hl 9 rfl) ?_
            refine lv_iload G.1 G.2.1 dL_colours_153 (lv_at hl 1 rfl) ?_
            refine lv_iload G.1 G.2.1 dL_colours_155 (lv_at hl 3 rfl) ?_
            refine gz_ast (k := 5) (len := 21) (F := fP S) (i := ((6 * 0) + (3 * e2)) + e6) (v := v) (N3 := N) (S3 := (gs S 12 (gu (S 12) (e2 * 3 + e6) v))) G hZ0 hZ hS rfl (by rw [show ((6 * 0) + (3 * e2)) + e6 = e2 * 3 + e6 from by omega]; exact ls_p12 (by omega)) (by omega) (by decide) dL_colours_157 (fun H locs hZ hS => ?_)
            refine lv_aload_n G.1 G.2.1 dL_colours_158 rfl (lv_at hl 6 rfl) ?_
            refine lv_iload_n G.1 G.2.1 dL_colours_159 rfl (lv_at hl 7 rfl) ?_
            refine lv_iload G.1 G.2.1 dL_colours_160 (lv_at hl 5 rfl) ?_
            refine lv_iload G.1 G.2.1 dL_colours_162 (lv_at hl 4 rfl) ?_
            refine lv_iload G.1 G.2.1 dL_colours_164 (lv_at hl 3 rfl) ?_
            refine gz_wrap (As := [.ref (q 0), .int (nI 0), .int (nI e2), .int (nI e6), .int (nI v)]) (rest := []) G.fix (mL_paints_paint l hst D q cI N S tr _ hok hinv ((nI e2)) ((nI e6)) ((nI v))) (vx_cwSW 5 G.2.2.2.2.2.1 gL_colours_L_paints rfl rfl rfl (by decide +kernel) ⟨Nat.le_of_ble_eq_true rfl, Nat.le_of_ble_eq_true rfl⟩) hZ hA hS rfl hl.1 rfl (Nat.le_of_ble_eq_true rfl) dL_colours_166 (show 0 + 1 ≤ 1 by omega) (show 0 + 6 ≤ 6 by omega) (fun r Nx Sx tr H locs hp hZ hS => ?_)
            obtain ⟨rfl, eN, eS⟩ := hp
            have hk_166 : sj_paint N S ((nI e2)) ((nI e6)) ((nI v)) = 0 := gk_ttt (by simp only [sA_paint, Bool.and_eq_true, decide_eq_true_eq, gb_nI (show e2 < 2 ^ 31 by omega), gn_nI (show e2 < 2 ^ 31 by omega), gb_nI (show e6 < 2 ^ 31 by omega), gn_nI (show e6 < 2 ^ 31 by omega), gb_nI (show v < 2 ^ 31 by omega), gn_nI (show v < 2 ^ 31 by omega)] <;> omega) (by simp only [sB_paint, Bool.and_eq_true, decide_eq_true_eq, gb_nI (show e2 < 2 ^ 31 by omega), gn_nI (show e2 < 2 ^ 31 by omega), gb_nI (show e6 < 2 ^ 31 by omega), gn_nI (show e6 < 2 ^ 31 by omega), gb_nI (show v < 2 ^ 31 by omega), gn_nI (show v < 2 ^ 31 by omega)] <;> omega) rfl
            rw [hk_166] at eN eS
            have eN : Nx = sN_paint N S ((nI e2)) ((nI e6)) ((nI v)) := eN
            have eS : Sx = sS_paint N S ((nI e2)) ((nI e6)) ((nI v)) := eS
            rw [eN, eS] at hZ
            rw [hk_166, gRes_0]
            have hR_166 : sR_paint N S ((nI e2)) ((nI e6)) ((nI v)) = S 12 (e2 * 3 + e6) := by simp only [sR_paint, gn_nI (show e2 < 2 ^ 31 by omega), gn_nI (show e6 < 2 ^ 31 by omega), gn_nI (show v < 2 ^ 31 by omega)]
            rw [hR_166]
            have hN9 : sN_paint N S ((nI e2)) ((nI e6)) ((nI v)) = N := by simp only [sN_paint, gn_nI (show e2 < 2 ^ 31 by omega), gn_nI (show e6 < 2 ^ 31 by omega), gn_nI (show v < 2 ^ 31 by omega)]
            have hS9 : sS_paint N S ((nI e2)) ((nI e6)) ((nI v)) = (gs S 12 (gu (S 12) (e2 * 3 + e6) v)) := by simp only [sS_paint, gn_nI (show e2 < 2 ^ 31 by omega), gn_nI (show e6 < 2 ^ 31 by omega), gn_nI (show v < 2 ^ 31 by omega)]
            have hli2 := li_paint hli hk_166
            rw [hN9, hS9] at hli2 hZ
            refine lv_iload G.1 G.2.1 dL_colours_169 (lv_at hl 0 rfl) ?_
            refine gn_ne G (by omega) (by omega) (tgt := 178) dL_colours_171 (by decide) (fun h => absurd rfl h) (fun h_171 => ?_)
            refine lv_iconst (v := nI 1) G.1 G.2.1 dL_colours_174 (by decide) ?_
            refine lv_goto (tgt := 179) G.1 G.2.1 dL_colours_175 (by decide) ?_
            refine W.widen (k := 1) (n := 6) (show 0 + 1 ≤ 1 by omega) (show 0 + 6 ≤ 6 by omega) ?_
            exact W.zret G.1 G.2.1 G.2.2.1 rfl (fun t ht hW => ⟨nI 1, _, _, _, rfl, ⟨rfl, hli2, rfl, rfl⟩, by rw [ht]; exact hZ.1, hS.F ht⟩) hS.2.2 dL_colours_179 G.2.2.2.2.2.2
          · have hg_vf := lg_gbf hg_v
            refine gj_x (fun x => x = (-102)) 145 [] (fun x hx => ?_) (fun K_145 => ?_)
            · subst hx
              refine lv_istore (lv' := [(9, .int ((-102))), (8, .int (nI (((6 * 0) + (3 * e2)) + e6))), (7, .int (nI 1)), (6, .int y11), (5, .int (nI e6)), (4, .int (nI e2)), (0, .ref (q 0)), (1, .int (nI 0)), (2, .int w0), (3, .ref (a 5))]) G.1 G.2.1 dL_colours_145 hl (by decide) rfl (fun ls hl => ?_)
              refine lv_iload G.1 G.2.1 dL_colours_147 (lv_at hl 0 rfl) ?_
              refine lv_if_lt (tgt := 158) G.1 G.2.1 dL_colours_149 (by decide) (fun h_149 => ?_) (fun h => absurd (by decide) h)
              refine lv_aload_n G.1 G.2.1 dL_colours_158 rfl (lv_at hl 6 rfl) ?_
              refine lv_iload_n G.1 G.2.1 dL_colours_159 rfl (lv_at hl 7 rfl) ?_
              refine lv_iload G.1 G.2.1 dL_colours_160 (lv_at hl 5 rfl) ?_
              refine lv_iload G.1 G.2.1 dL_colours_162 (lv_at hl 4 rfl) ?_
              refine lv_iload G.1 G.2.1 dL_colours_164 (lv_at hl 3 rfl) ?_
              refine gz_wrap (As := [.ref (q 0), .int (nI 0), .int (nI e2), .int (nI e6), .int y11]) (rest := []) G.fix (mL_paints_paint l hst D q cI N S tr _ hok hinv ((nI e2)) ((nI e6)) y11) (vx_cwSW 5 G.2.2.2.2.2.1 gL_colours_L_paints rfl rfl rfl (by decide +kernel) ⟨Nat.le_of_ble_eq_true rfl, Nat.le_of_ble_eq_true rfl⟩) hZ hA hS rfl hl.1 rfl (Nat.le_of_ble_eq_true rfl) dL_colours_166 (show 0 + 1 ≤ 1 by omega) (show 0 + 6 ≤ 6 by omega) (fun r Nx Sx tr H locs hp hZ hS => ?_)
              obtain ⟨rfl, eN, eS⟩ := hp
              have hk_166 : sj_paint N S ((nI e2)) ((nI e6)) y11 = 2 := gk_tf (by simp only [sA_paint, Bool.and_eq_true, decide_eq_true_eq, gb_nI (show e2 < 2 ^ 31 by omega), gn_nI (show e2 < 2 ^ 31 by omega), gb_nI (show e6 < 2 ^ 31 by omega), gn_nI (show e6 < 2 ^ 31 by omega)] <;> omega) (by simp [sB_paint, hg_vf])
              rw [hk_166] at eN eS
              have eN : Nx = N := eN
              have eS : Sx = S := eS
              rw [eN, eS] at hZ
              rw [hk_166, gRes_2]
              refine lv_iload G.1 G.2.1 dL_colours_169 (lv_at hl 0 rfl) ?_
              refine lv_icmp_ne (tgt := 178) G.1 G.2.1 dL_colours_171 (by decide) (fun h => absurd rfl h) (fun h_171 => ?_)
              refine lv_iconst (v := nI 1) G.1 G.2.1 dL_colours_174 (by decide) ?_
              refine lv_goto (tgt := 179) G.1 G.2.1 dL_colours_175 (by decide) ?_
              refine W.widen (k := 1) (n := 6) (show 0 + 1 ≤ 1 by omega) (show 0 + 6 ≤ 6 by omega) ?_
              exact W.zret G.1 G.2.1 G.2.2.1 rfl (fun t ht hW => ⟨nI 1, _, _, _, rfl, ⟨rfl, hli, rfl, rfl⟩, by rw [ht]; exact hZ.1, hS.F ht⟩) hS.2.2 dL_colours_179 G.2.2.2.2.2.2
            · refine lv_iload G.1 G.2.1 dL_colours_123 (lv_at hl 2 rfl) ?_
              refine lv_if_lt (tgt := 136) G.1 G.2.1 dL_colours_125 (by decide) (fun h_125 => ?_) (fun h_125 => ?_)
              · refine lv_bipush (v := -102) G.1 G.2.1 dL_colours_136 (by decide) ?_
                refine lv_goto (tgt := 145) G.1 G.2.1 dL_colours_138 (by decide) ?_
                exact K_145 _ (rfl)
              · refine lv_iload G.1 G.2.1 dL_colours_128 (lv_at hl 2 rfl) ?_
                refine lv_sipush (v := nI 255) G.1 G.2.1 dL_colours_130 (by decide) ?_
                refine lv_icmp_le (tgt := 141) G.1 G.2.1 dL_colours_133 (by decide) (fun h => (lg_gein0 (by omega) h_125 h hg_vf).elim) (fun h_133 => ?_)
                refine lv_bipush (v := -102) G.1 G.2.1 dL_colours_136 (by decide) ?_
                refine lv_goto (tgt := 145) G.1 G.2.1 dL_colours_138 (by decide) ?_
                exact K_145 _ (rfl)
    · refine gn_nez G (by omega) (tgt := 54) dL_colours_47 (by decide) (fun h_47 => ?_) (fun h_47 => ?_)
      · refine lv_iload_n G.1 G.2.1 dL_colours_54 rfl (lv_at hl 3 rfl) ?_
        refine lv_iconst (v := nI 4) G.1 G.2.1 dL_colours_55 (by decide) ?_
        refine lv_ishr G.1 G.2.1 dL_colours_56 ?_
        refine lv_topi (fun y12 hy12 => ?_)
        refine lv_iconst (v := nI 3) G.1 G.2.1 dL_colours_57 (by decide) ?_
        refine gc_s (As := [.int y12, .int (nI 3)]) (rest := []) G.fix (mL_some l y12 3 (by omega) (by omega)) (va_cwS 2 G.2.2.2.2.2.1 gL_colours_L_some rfl rfl rfl (by decide +kernel) ⟨Nat.le_of_ble_eq_true rfl, Nat.le_of_ble_eq_true rfl⟩) gc_blindT (fun _ _ _ => trivial) rfl hl.1 rfl (Nat.le_of_ble_eq_true rfl) dL_colours_58 (show 0 ≤ 1 by omega) (show 0 ≤ 6 by omega) (fun r hr => ?_)
        obtain ⟨k13, hk13, rfl⟩ := hr
        exact K_61 _ (Or.inr ⟨_, rfl, by omega⟩)
      · refine lv_iconst (v := -1) G.1 G.2.1 dL_colours_50 (by decide) ?_
        refine lv_goto (tgt := 61) G.1 G.2.1 dL_colours_51 (by decide) ?_
        exact K_61 _ (Or.inl rfl)
  · refine gn_nez G (by omega) (tgt := 23) dL_colours_6 (by decide) (fun h_6 => ?_) (fun h_6 => ?_)
    · refine lv_iload_n G.1 G.2.1 dL_colours_23 rfl (lv_at hl 2 rfl) ?_
      refine lv_iload_n G.1 G.2.1 dL_colours_24 rfl (lv_at hl 1 rfl) ?_
      refine lv_iconst (v := nI 2) G.1 G.2.1 dL_colours_25 (by decide) ?_
      refine gn_ne G (by omega) (by omega) (tgt := 33) dL_colours_26 (by decide) (fun h_26 => ?_) (fun h => absurd h (by omega))
      refine lv_iconst (v := nI 2) G.1 G.2.1 dL_colours_33 (by decide) ?_
      refine gc_s (As := [.int w0, .int (nI 2)]) (rest := []) G.fix (mL_some l w0 2 (by omega) (by omega)) (va_cwS 2 G.2.2.2.2.2.1 gL_colours_L_some rfl rfl rfl (by decide +kernel) ⟨Nat.le_of_ble_eq_true rfl, Nat.le_of_ble_eq_true rfl⟩) gc_blindT (fun _ _ _ => trivial) rfl hl.1 rfl (Nat.le_of_ble_eq_true rfl) dL_colours_34 (show 0 ≤ 1 by omega) (show 0 ≤ 6 by omega) (fun r hr => ?_)
      obtain ⟨k14, hk14, rfl⟩ := hr
      exact K_37 _ (⟨_, rfl, by omega, by omega⟩)
    · refine lv_iload_n G.1 G.2.1 dL_colours_9 rfl (lv_at hl 1 rfl) ?_
      refine lv_iconst (v := nI 2) G.1 G.2.1 dL_colours_10 (by decide) ?_
      refine gn_ne G (by omega) (by omega) (tgt := 18) dL_colours_11 (by decide) (fun h_11 => ?_) (fun h => absurd h (by omega))
      refine lv_bipush (v := nI 6) G.1 G.2.1 dL_colours_18 (by decide) ?_
      refine lv_goto (tgt := 37) G.1 G.2.1 dL_colours_20 (by decide) ?_
      exact K_37 _ (⟨_, rfl, by omega, by omega⟩)
set_option maxRecDepth 100000 in
set_option maxHeartbeats 2000000 in
theorem mL_colours_1 (l : Launch) (hst : l.stackTraces = false) (D : va_G) (q a : Nat → Nat) (cI : ClassId) (N : Nat → Nat) (S : Nat → Nat → Nat) (tr : Nat → Nat) (A : Nat → Prop) (hli : li N S) (w0 : Int32) : Met l yL_colours wsL_colours { frames := 9, cells := 1, slots := 6, locals := 150 } (va_Pc [.ref (q 0), .int (nI 1), .int w0, .ref (a 5)] (fun U => zBt D q a cI N S tr A U)) (gQz D q a cI (fun r N' S' => r = nI 1 ∧ li N' S' ∧ N' 0 = N 0 ∧ N' 5 = N 5) A) 1 6 A := by
  refine gc_met [.ref (q 0), .int (nI 1), .int w0, .ref (a 5)] (by decide) rfl (Nat.le_of_ble_eq_true rfl) rfl ?_
  intro p e s m below meth c ls G hl hB
  obtain ⟨hZ, hA⟩ := hB
  have hli9 := hli
  obtain ⟨hok, hinv, hN0, hN5, h6⟩ := hli9
  have hok9 := hok
  obtain ⟨⟨ok0, ok5⟩, ok1, ok2, ok3, ok4, ok6, ok7, ok8, ok12, ok13, ok14⟩ := hok9
  have hZ0 : gZ A s s.heap := hZ.2.2.2
  have hS : va_S A s.heap s.heap [] := va_S.rf
  refine lv_iload_n G.1 G.2.1 dL_colours_0 rfl (lv_at hl 2 rfl) ?_
  refine lv_bipush (v := nI 30) G.1 G.2.1 dL_colours_1 (by decide) ?_
  refine gc_s (As := [.int w0, .int (nI 30)]) (rest := []) G.fix (mL_some l w0 30 (by omega) (by omega)) (va_cwS 2 G.2.2.2.2.2.1 gL_colours_L_some rfl rfl rfl (by decide +kernel) ⟨Nat.le_of_ble_eq_true rfl, Nat.le_of_ble_eq_true rfl⟩) gc_blindT (fun _ _ _ => trivial) rfl hl.1 rfl (Nat.le_of_ble_eq_true rfl) dL_colours_3 (show 0 ≤ 1 by omega) (show 0 ≤ 6 by omega) (fun r hr => ?_)
  obtain ⟨k1, hk1, rfl⟩ := hr
  refine gj_x (fun x => ∃ e : Nat, x = nI e ∧ e ≤ 6 ∧ (e < 6 → e < 2)) 37 [] (fun x hx => ?_) (fun K_37 => ?_)
  · obtain ⟨e2, rfl, he2⟩ := hx
    obtain ⟨he2, he2b⟩ := he2
    refine lv_istore (lv' := [(4, .int (nI e2)), (0, .ref (q 0)), (1, .int (nI 1)), (2, .int w0), (3, .ref (a 5))]) G.1 G.2.1 dL_colours_37 hl (by decide) rfl (fun ls hl => ?_)
    refine lv_iload_n G.1 G.2.1 dL_colours_39 rfl (lv_at hl 3 rfl) ?_
    refine lv_iconst (v := nI 4) G.1 G.2.1 dL_colours_40 (by decide) ?_
    refine lv_ishr G.1 G.2.1 dL_colours_41 ?_
    refine lv_topi (fun y3 hy3 => ?_)
    refine lv_bipush (v := nI 30) G.1 G.2.1 dL_colours_42 (by decide) ?_
    refine gc_s (As := [.int y3, .int (nI 30)]) (rest := []) G.fix (mL_some l y3 30 (by omega) (by omega)) (va_cwS 2 G.2.2.2.2.2.1 gL_colours_L_some rfl rfl rfl (by decide +kernel) ⟨Nat.le_of_ble_eq_true rfl, Nat.le_of_ble_eq_true rfl⟩) gc_blindT (fun _ _ _ => trivial) rfl hl.1 rfl (Nat.le_of_ble_eq_true rfl) dL_colours_44 (show 0 ≤ 1 by omega) (show 0 ≤ 6 by omega) (fun r hr => ?_)
    obtain ⟨k4, hk4, rfl⟩ := hr
    refine gj_x (fun x => x = -1 ∨ ∃ e : Nat, x = nI e ∧ e < 3) 61 [] (fun x hx => ?_) (fun K_61 => ?_)
    · obtain ⟨z5, ez5⟩ : ∃ z, z = x := ⟨x, rfl⟩
      rw [← ez5] at hx ⊢
      refine lv_istore (lv' := [(5, .int z5), (4, .int (nI e2)), (0, .ref (q 0)), (1, .int (nI 1)), (2, .int w0), (3, .ref (a 5))]) G.1 G.2.1 dL_colours_61 hl (by decide) rfl (fun ls hl => ?_)
      rcases hx with rfl | ⟨e6, rfl, he6⟩
      · have hg_m1 : gb (-1) 3 = false := by decide
        refine lv_iload_n G.1 G.2.1 dL_colours_63 rfl (lv_at hl 4 rfl) ?_
        refine lv_iconst (v := nI 5) G.1 G.2.1 dL_colours_64 (by decide) ?_
        refine lv_ishr G.1 G.2.1 dL_colours_65 ?_
        refine lv_topi (fun y7 hy7 => ?_)
        refine gc_s (As := [.int y7]) (rest := []) G.fix (mL_value l y7) (va_cwS 1 G.2.2.2.2.2.1 gL_colours_L_value rfl rfl rfl (by decide +kernel) ⟨Nat.le_of_ble_eq_true rfl, Nat.le_of_ble_eq_true rfl⟩) gc_blindT (fun _ _ _ => trivial) rfl hl.1 rfl (Nat.le_of_ble_eq_true rfl) dL_colours_66 (show 0 ≤ 1 by omega) (show 0 ≤ 6 by omega) (fun y8 _ => ?_)
        refine lv_istore (lv' := [(6, .int y8), (5, .int ((-1))), (4, .int (nI e2)), (0, .ref (q 0)), (1, .int (nI 1)), (2, .int w0), (3, .ref (a 5))]) G.1 G.2.1 dL_colours_69 hl (by decide) rfl (fun ls hl => ?_)
        refine lv_iload G.1 G.2.1 dL_colours_71 (lv_at hl 1 rfl) ?_
        refine lv_if_lt (tgt := 96) G.1 G.2.1 dL_colours_73 (by decide) (fun h_73 => ?_) (fun h => absurd (by decide) h)
        refine lv_iconst (v := nI 0) G.1 G.2.1 dL_colours_96 (by decide) ?_
        refine lv_istore (lv' := [(7, .int (nI 0)), (6, .int y8), (5, .int ((-1))), (4, .int (nI e2)), (0, .ref (q 0)), (1, .int (nI 1)), (2, .int w0), (3, .ref (a 5))]) G.1 G.2.1 dL_colours_97 hl (by decide) rfl (fun ls hl => ?_)
        refine lv_bipush (v := nI 6) G.1 G.2.1 dL_colours_99 (by decide) ?_
        refine lv_iload_n G.1 G.2.1 dL_colours_101 rfl (lv_at hl 5 rfl) ?_
        refine gn_imul G dL_colours_102 ?_
        refine lv_iconst (v := nI 3) G.1 G.2.1 dL_colours_103 (by decide) ?_
        refine lv_iload G.1 G.2.1 dL_colours_104 (lv_at hl 3 rfl) ?_
        refine gn_imul G dL_colours_106 ?_
        refine gn_iadd G dL_colours_107 ?_
        refine lv_iload G.1 G.2.1 dL_colours_108 (lv_at hl 2 rfl) ?_
        refine lv_iadd G.1 G.2.1 dL_colours_110 ?_
        refine lv_topi (fun y9 hy9 => ?_)
        refine lv_istore (lv' := [(8, .int y9), (7, .int (nI 0)), (6, .int y8), (5, .int ((-1))), (4, .int (nI e2)), (0, .ref (q 0)), (1, .int (nI 1)), (2, .int w0), (3, .ref (a 5))]) G.1 G.2.1 dL_colours_111 hl (by decide) rfl (fun ls hl => ?_)
        refine lv_iload G.1 G.2.1 dL_colours_113 (lv_at hl 1 rfl) ?_
        refine gn_nez G (by omega) (tgt := 123) dL_colours_115 (by decide) (fun h => absurd rfl h) (fun h_115 => ?_)
        refine lv_bipush (v := -101) G.1 G.2.1 dL_colours_118 (by decide) ?_
        refine lv_goto (tgt := 145) G.1 G.2.1 dL_colours_120 (by decide) ?_
        refine lv_istore (lv' := [(9, .int ((-101))), (8, .int y9), (7, .int (nI 0)), (6, .int y8), (5, .int ((-1))), (4, .int (nI e2)), (0, .ref (q 0)), (1, .int (nI 1)), (2, .int w0), (3, .ref (a 5))]) G.1 G.2.1 dL_colours_145 hl (by decide) rfl (fun ls hl => ?_)
        refine lv_iload G.1 G.2.1 dL_colours_147 (lv_at hl 0 rfl) ?_
        refine lv_if_lt (tgt := 158) G.1 G.2.1 dL_colours_149 (by decide) (fun h_149 => ?_) (fun h => absurd (by decide) h)
        refine lv_aload_n G.1 G.2.1 dL_colours_158 rfl (lv_at hl 6 rfl) ?_
        refine lv_iload_n G.1 G.2.1 dL_colours_159 rfl (lv_at hl 7 rfl) ?_
        refine lv_iload G.1 G.2.1 dL_colours_160 (lv_at hl 5 rfl) ?_
        refine lv_iload G.1 G.2.1 dL_colours_162 (lv_at hl 4 rfl) ?_
        refine lv_iload G.1 G.2.1 dL_colours_164 (lv_at hl 3 rfl) ?_
        refine gz_wrap (As := [.ref (q 0), .int (nI 1), .int (nI e2), .int ((-1)), .int y8]) (rest := []) G.fix (mL_paints_spot l hst D q cI N S tr _ hok hinv ((nI e2)) ((-1)) y8) (vx_cwSW 5 G.2.2.2.2.2.1 gL_colours_L_paints rfl rfl rfl (by decide +kernel) ⟨Nat.le_of_ble_eq_true rfl, Nat.le_of_ble_eq_true rfl⟩) hZ hA hS rfl hl.1 rfl (Nat.le_of_ble_eq_true rfl) dL_colours_166 (show 0 + 1 ≤ 1 by omega) (show 0 + 6 ≤ 6 by omega) (fun r Nx Sx tr H locs hp hZ hS => ?_)
        obtain ⟨rfl, eN, eS⟩ := hp
        have hk_166 : sj_spot N S ((nI e2)) ((-1)) y8 = 1 := gk_f (by simp [sA_spot, hg_m1])
        rw [hk_166] at eN eS
        have eN : Nx = N := eN
        have eS : Sx = S := eS
        rw [eN, eS] at hZ
        rw [hk_166, gRes_1]
        refine lv_iload G.1 G.2.1 dL_colours_169 (lv_at hl 0 rfl) ?_
        refine lv_icmp_ne (tgt := 178) G.1 G.2.1 dL_colours_171 (by decide) (fun h => absurd rfl h) (fun h_171 => ?_)
        refine lv_iconst (v := nI 1) G.1 G.2.1 dL_colours_174 (by decide) ?_
        refine lv_goto (tgt := 179) G.1 G.2.1 dL_colours_175 (by decide) ?_
        refine W.widen (k := 1) (n := 6) (show 0 + 1 ≤ 1 by omega) (show 0 + 6 ≤ 6 by omega) ?_
        exact W.zret G.1 G.2.1 G.2.2.1 rfl (fun t ht hW => ⟨nI 1, _, _, _, rfl, ⟨rfl, hli, rfl, rfl⟩, by rw [ht]; exact hZ.1, hS.F ht⟩) hS.2.2 dL_colours_179 G.2.2.2.2.2.2
      · refine lv_iload_n G.1 G.2.1 dL_colours_63 rfl (lv_at hl 4 rfl) ?_
        refine lv_iconst (v := nI 5) G.1 G.2.1 dL_colours_64 (by decide) ?_
        refine lv_ishr G.1 G.2.1 dL_colours_65 ?_
        refine lv_topi (fun y10 hy10 => ?_)
        refine gc_s (As := [.int y10]) (rest := []) G.fix (mL_value l y10) (va_cwS 1 G.2.2.2.2.2.1 gL_colours_L_value rfl rfl rfl (by decide +kernel) ⟨Nat.le_of_ble_eq_true rfl, Nat.le_of_ble_eq_true rfl⟩) gc_blindT (fun _ _ _ => trivial) rfl hl.1 rfl (Nat.le_of_ble_eq_true rfl) dL_colours_66 (show 0 ≤ 1 by omega) (show 0 ≤ 6 by omega) (fun y11 _ => ?_)
        refine lv_istore (lv' := [(6, .int y11), (5, .int (nI e6)), (4, .int (nI e2)), (0, .ref (q 0)), (1, .int (nI 1)), (2, .int w0), (3, .ref (a 5))]) G.1 G.2.1 dL_colours_69 hl (by decide) rfl (fun ls hl => ?_)
        refine lv_iload G.1 G.2.1 dL_colours_71 (lv_at hl 1 rfl) ?_
        refine gn_ltz G (by omega) (tgt := 96) dL_colours_73 (by decide) ?_
        refine lv_iload G.1 G.2.1 dL_colours_76 (lv_at hl 2 rfl) ?_
        refine lv_iload_n G.1 G.2.1 dL_colours_78 rfl (lv_at hl 4 rfl) ?_
        refine lv_iconst (v := nI 2) G.1 G.2.1 dL_colours_79 (by decide) ?_
        refine gn_ne G (by omega) (by omega) (tgt := 87) dL_colours_80 (by decide) (fun h_80 => ?_) (fun h => absurd h (by omega))
        refine lv_bipush (v := nI 6) G.1 G.2.1 dL_colours_87 (by decide) ?_
        refine gn_ge G (by omega) (by omega) (tgt := 96) dL_colours_89 (by decide) (fun h_89 => ?_) (fun h_89 => ?_)
        · refine lv_iconst (v := nI 0) G.1 G.2.1 dL_colours_96 (by decide) ?_
          refine lv_istore (lv' := [(7, .int (nI 0)), (6, .int y11), (5, .int (nI e6)), (4, .int (nI e2)), (0, .ref (q 0)), (1, .int (nI 1)), (2, .int w0), (3, .ref (a 5))]) G.1 G.2.1 dL_colours_97 hl (by decide) rfl (fun ls hl => ?_)
          refine lv_bipush (v := nI 6) G.1 G.2.1 dL_colours_99 (by decide) ?_
          refine lv_iload_n G.1 G.2.1 dL_colours_101 rfl (lv_at hl 5 rfl) ?_
          refine gn_imul G dL_colours_102 ?_
          refine lv_iconst (v := nI 3) G.1 G.2.1 dL_colours_103 (by decide) ?_
          refine lv_iload G.1 G.2.1 dL_colours_104 (lv_at hl 3 rfl) ?_
          refine gn_imul G dL_colours_106 ?_
          refine gn_iadd G dL_colours_107 ?_
          refine lv_iload G.1 G.2.1 dL_colours_108 (lv_at hl 2 rfl) ?_
          refine gn_iadd G dL_colours_110 ?_
          refine lv_istore (lv' := [(8, .int (nI (((6 * 1) + (3 * e2)) + e6))), (7, .int (nI 0)), (6, .int y11), (5, .int (nI e6)), (4, .int (nI e2)), (0, .ref (q 0)), (1, .int (nI 1)), (2, .int w0), (3, .ref (a 5))]) G.1 G.2.1 dL_colours_111 hl (by decide) rfl (fun ls hl => ?_)
          refine lv_iload G.1 G.2.1 dL_colours_113 (lv_at hl 1 rfl) ?_
          refine gn_nez G (by omega) (tgt := 123) dL_colours_115 (by decide) (fun h => absurd rfl h) (fun h_115 => ?_)
          refine lv_bipush (v := -101) G.1 G.2.1 dL_colours_118 (by decide) ?_
          refine lv_goto (tgt := 145) G.1 G.2.1 dL_colours_120 (by decide) ?_
          refine lv_istore (lv' := [(9, .int ((-101))), (8, .int (nI (((6 * 1) + (3 * e2)) + e6))), (7, .int (nI 0)), (6, .int y11), (5, .int (nI e6)), (4, .int (nI e2)), (0, .ref (q 0)), (1, .int (nI 1)), (2, .int w0), (3, .ref (a 5))]) G.1 G.2.1 dL_colours_145 hl (by decide) rfl (fun ls hl => ?_)
          refine lv_iload G.1 G.2.1 dL_colours_147 (lv_at hl 0 rfl) ?_
          refine lv_if_lt (tgt := 158) G.1 G.2.1 dL_colours_149 (by decide) (fun h_149 => ?_) (fun h => absurd (by decide) h)
          refine lv_aload_n G.1 G.2.1 dL_colours_158 rfl (lv_at hl 6 rfl) ?_
          refine lv_iload_n G.1 G.2.1 dL_colours_159 rfl (lv_at hl 7 rfl) ?_
          refine lv_iload G.1 G.2.1 dL_colours_160 (lv_at hl 5 rfl) ?_
          refine lv_iload G.1 G.2.1 dL_colours_162 (lv_at hl 4 rfl) ?_
          refine lv_iload G.1 G.2.1 dL_colours_164 (lv_at hl 3 rfl) ?_
          refine gz_wrap (As := [.ref (q 0), .int (nI 1), .int (nI e2), .int (nI e6), .int y11]) (rest := []) G.fix (mL_paints_spot l hst D q cI N S tr _ hok hinv ((nI e2)) ((nI e6)) y11) (vx_cwSW 5 G.2.2.2.2.2.1 gL_colours_L_paints rfl rfl rfl (by decide +kernel) ⟨Nat.le_of_ble_eq_true rfl, Nat.le_of_ble_eq_true rfl⟩) hZ hA hS rfl hl.1 rfl (Nat.le_of_ble_eq_true rfl) dL_colours_166 (show 0 + 1 ≤ 1 by omega) (show 0 + 6 ≤ 6 by omega) (fun r Nx Sx tr H locs hp hZ hS => ?_)
          obtain ⟨rfl, eN, eS⟩ := hp
          have hk_166 : sj_spot N S ((nI e2)) ((nI e6)) y11 = 1 := gk_f (by apply Bool.eq_false_iff.mpr; intro h; simp only [sA_spot, Bool.and_eq_true, decide_eq_true_eq, gb_nI (show e2 < 2 ^ 31 by omega), gn_nI (show e2 < 2 ^ 31 by omega), gb_nI (show e6 < 2 ^ 31 by omega), gn_nI (show e6 < 2 ^ 31 by omega)] at h <;> omega)
          rw [hk_166] at eN eS
          have eN : Nx = N := eN
          have eS : Sx = S := eS
          rw [eN, eS] at hZ
          rw [hk_166, gRes_1]
          refine lv_iload G.1 G.2.1 dL_colours_169 (lv_at hl 0 rfl) ?_
          refine lv_icmp_ne (tgt := 178) G.1 G.2.1 dL_colours_171 (by decide) (fun h => absurd rfl h) (fun h_171 => ?_)
          refine lv_iconst (v := nI 1) G.1 G.2.1 dL_colours_174 (by decide) ?_
          refine lv_goto (tgt := 179) G.1 G.2.1 dL_colours_175 (by decide) ?_
          refine W.widen (k := 1) (n := 6) (show 0 + 1 ≤ 1 by omega) (show 0 + 6 ≤ 6 by omega) ?_
          exact W.zret G.1 G.2.1 G.2.2.1 rfl (fun t ht hW => ⟨nI 1, _, _, _, rfl, ⟨rfl, hli, rfl, rfl⟩, by rw [ht]; exact hZ.1, hS.F ht⟩) hS.2.2 dL_colours_179 G.2.2.2.2.2.2
        · refine lv_iconst (v := nI 1) G.1 G.2.1 dL_colours_92 (by decide) ?_
          refine lv_goto (tgt := 97) G.1 G.2.1 dL_colours_93 (by decide) ?_
          refine lv_istore (lv' := [(7, .int (nI 1)), (6, .int y11), (5, .int (nI e6)), (4, .int (nI e2)), (0, .ref (q 0)), (1, .int (nI 1)), (2, .int w0), (3, .ref (a 5))]) G.1 G.2.1 dL_colours_97 hl (by decide) rfl (fun ls hl => ?_)
          refine lv_bipush (v := nI 6) G.1 G.2.1 dL_colours_99 (by decide) ?_
          refine lv_iload_n G.1 G.2.1 dL_colours_101 rfl (lv_at hl 5 rfl) ?_
          refine gn_imul G dL_colours_102 ?_
          refine lv_iconst (v := nI 3) G.1 G.2.1 dL_colours_103 (by decide) ?_
          refine lv_iload G.1 G.2.1 dL_colours_104 (lv_at hl 3 rfl) ?_
          refine gn_imul G dL_colours_106 ?_
          refine gn_iadd G dL_colours_107 ?_
          refine lv_iload G.1 G.2.1 dL_colours_108 (lv_at hl 2 rfl) ?_
          refine gn_iadd G dL_colours_110 ?_
          refine lv_istore (lv' := [(8, .int (nI (((6 * 1) + (3 * e2)) + e6))), (7, .int (nI 1)), (6, .int y11), (5, .int (nI e6)), (4, .int (nI e2)), (0, .ref (q 0)), (1, .int (nI 1)), (2, .int w0), (3, .ref (a 5))]) G.1 G.2.1 dL_colours_111 hl (by decide) rfl (fun ls hl => ?_)
          refine lv_iload G.1 G.2.1 dL_colours_113 (lv_at hl 1 rfl) ?_
          refine gn_nez G (by omega) (tgt := 123) dL_colours_115 (by decide) (fun h_115 => ?_) (fun h => absurd h (by omega))
          by_cases hg_v : gb y11 256 = true
          · obtain ⟨v, hv, rfl⟩ := gb_of (by omega) hg_v
            refine lv_iload G.1 G.2.1 dL_colours_123 (lv_at hl 2 rfl) ?_
            refine gn_ltz G (by omega) (tgt := 136) dL_colours_125 (by decide) ?_
            refine lv_iload G.1 G.2.1 dL_colours_128 (lv_at hl 2 rfl) ?_
            refine lv_sipush (v := nI 255) G.1 G.2.1 dL_colours_130 (by decide) ?_
            refine gn_le G (by omega) (by omega) (tgt := 141) dL_colours_133 (by decide) (fun h_133 => ?_) (fun h => absurd h (by omega))
            refine lv_aload_n G.1 G.2.1 dL_colours_141 rfl (lv_at hl 8 rfl) ?_
            refine lv_iload G.1 G.2.1 dL_colours_142 (lv_at hl 0 rfl) ?_
            refine gl_ald (k := 5) (len := 21) (F := fP S) G hZ.r rfl (by omega) (by decide) dL_colours_144 ?_
            rw [show ((6 * 1) + (3 * e2)) + e6 = 6 + (e2 * 3 + e6) from by omega, fP_13 (by omega)]
            have hv_144 := ok13 (e2 * 3 + e6)
            refine lv_istore (lv' := [(9, .int (nI (S 13 (e2 * 3 + e6)))), (8, .int (nI (((6 * 1) + (3 * e2)) + e6))), (7, .int (nI 1)), (6, .int (nI v)), (5, .int (nI e6)), (4, .int (nI e2)), (0, .ref (q 0)), (1, .int (nI 1)), (2, .int w0), (3, .ref (a 5))]) G.1 G.2.1 dL_colours_145 hl (by decide) rfl (fun ls hl => ?_)
            refine lv_iload G.1 G.2.1 dL_colours_147 (lv_at hl 0 rfl) ?_
            refine gn_ltz G (by omega) (tgt := 158) dL_colours_149 (by decide) ?_
            refine lv_aload_n G.1 G.2.1 dL_colours_152 rfl (lv_at hl 9 rfl) ?_
            refine lv_iload G.1 G.2.1 dL_colours_153 (lv_at hl 1 rfl) ?_
            refine lv_iload G.1 G.2.1 dL_colours_155 (lv_at hl 3 rfl) ?_
            refine gz_ast (k := 5) (len := 21) (F := fP S) (i := ((6 * 1) + (3 * e2)) + e6) (v := v) (N3 := N) (S3 := (gs S 13 (gu (S 13) (e2 * 3 + e6) v))) G hZ0 hZ hS rfl (by rw [show ((6 * 1) + (3 * e2)) + e6 = 6 + (e2 * 3 + e6) from by omega]; exact ls_p13 (by omega)) (by omega) (by decide) dL_colours_157 (fun H locs hZ hS => ?_)
            refine lv_aload_n G.1 G.2.1 dL_colours_158 rfl (lv_at hl 6 rfl) ?_
            refine lv_iload_n G.1 G.2.1 dL_colours_159 rfl (lv_at hl 7 rfl) ?_
            refine lv_iload G.1 G.2.1 dL_colours_160 (lv_at hl 5 rfl) ?_
            refine lv_iload G.1 G.2.1 dL_colours_162 (lv_at hl 4 rfl) ?_
            refine lv_iload G.1 G.2.1 dL_colours_164 (lv_at hl 3 rfl) ?_
            refine gz_wrap (As := [.ref (q 0), .int (nI 1), .int (nI e2), .int (nI e6), .int (nI v)]) (rest := []) G.fix (mL_paints_spot l hst D q cI N S tr _ hok hinv ((nI e2)) ((nI e6)) ((nI v))) (vx_cwSW 5 G.2.2.2.2.2.1 gL_colours_L_paints rfl rfl rfl (by decide +kernel) ⟨Nat.le_of_ble_eq_true rfl, Nat.le_of_ble_eq_true rfl⟩) hZ hA hS rfl hl.1 rfl (Nat.le_of_ble_eq_true rfl) dL_colours_166 (show 0 + 1 ≤ 1 by omega) (show 0 + 6 ≤ 6 by omega) (fun r Nx Sx tr H locs hp hZ hS => ?_)
            obtain ⟨rfl, eN, eS⟩ := hp
            have hk_166 : sj_spot N S ((nI e2)) ((nI e6)) ((nI v)) = 0 := gk_ttt (by simp only [sA_spot, Bool.and_eq_true, decide_eq_true_eq, gb_nI (show e2 < 2 ^ 31 by omega), gn_nI (show e2 < 2 ^ 31 by omega), gb_nI (show e6 < 2 ^ 31 by omega), gn_nI (show e6 < 2 ^ 31 by omega), gb_nI (show v < 2 ^ 31 by omega), gn_nI (show v < 2 ^ 31 by omega)] <;> omega) (by simp only [sB_spot, Bool.and_eq_true, decide_eq_true_eq, gb_nI (show e2 < 2 ^ 31 by omega), gn_nI (show e2 < 2 ^ 31 by omega), gb_nI (show e6 < 2 ^ 31 by omega), gn_nI (show e6 < 2 ^ 31 by omega), gb_nI (show v < 2 ^ 31 by omega), gn_nI (show v < 2 ^ 31 by omega)] <;> omega) rfl
            rw [hk_166] at eN eS
            have eN : Nx = sN_spot N S ((nI e2)) ((nI e6)) ((nI v)) := eN
            have eS : Sx = sS_spot N S ((nI e2)) ((nI e6)) ((nI v)) := eS
            rw [eN, eS] at hZ
            rw [hk_166, gRes_0]
            have hR_166 : sR_spot N S ((nI e2)) ((nI e6)) ((nI v)) = S 13 (e2 * 3 + e6) := by simp only [sR_spot, gn_nI (show e2 < 2 ^ 31 by omega), gn_nI (show e6 < 2 ^ 31 by omega), gn_nI (show v < 2 ^ 31 by omega)]
            rw [hR_166]
            have hN9 : sN_spot N S ((nI e2)) ((nI e6)) ((nI v)) = N := by simp only [sN_spot, gn_nI (show e2 < 2 ^ 31 by omega), gn_nI (show e6 < 2 ^ 31 by omega), gn_nI (show v < 2 ^ 31 by omega)]
            have hS9 : sS_spot N S ((nI e2)) ((nI e6)) ((nI v)) = (gs S 13 (gu (S 13) (e2 * 3 + e6) v)) := by simp only [sS_spot, gn_nI (show e2 < 2 ^ 31 by omega), gn_nI (show e6 < 2 ^ 31 by omega), gn_nI (show v < 2 ^ 31 by omega)]
            have hli2 := li_spot hli hk_166
            rw [hN9, hS9] at hli2 hZ
            refine lv_iload G.1 G.2.1 dL_colours_169 (lv_at hl 0 rfl) ?_
            refine gn_ne G (by omega) (by omega) (tgt := 178) dL_colours_171 (by decide) (fun h => absurd rfl h) (fun h_171 => ?_)
            refine lv_iconst (v := nI 1) G.1 G.2.1 dL_colours_174 (by decide) ?_
            refine lv_goto (tgt := 179) G.1 G.2.1 dL_colours_175 (by decide) ?_
            refine W.widen (k := 1) (n := 6) (show 0 + 1 ≤ 1 by omega) (show 0 + 6 ≤ 6 by omega) ?_
            exact W.zret G.1 G.2.1 G.2.2.1 rfl (fun t ht hW => ⟨nI 1, _, _, _, rfl, ⟨rfl, hli2, rfl, rfl⟩, by rw [ht]; exact hZ.1, hS.F ht⟩) hS.2.2 dL_colours_179 G.2.2.2.2.2.2
          · have hg_vf := lg_gbf hg_v
            refine gj_x (fun x => x = (-102)) 145 [] (fun x hx => ?_) (fun K_145 => ?_)
            · subst hx
              refine lv_istore (lv' := [(9, .int ((-102))), (8, .int (nI (((6 * 1) + (3 * e2)) + e6))), (7, .int (nI 1)), (6, .int y11), (5, .int (nI e6)), (4, .int (nI e2)), (0, .ref (q 0)), (1, .int (nI 1)), (2, .int w0), (3, .ref (a 5))]) G.1 G.2.1 dL_colours_145 hl (by decide) rfl (fun ls hl => ?_)
              refine lv_iload G.1 G.2.1 dL_colours_147 (lv_at hl 0 rfl) ?_
              refine lv_if_lt (tgt := 158) G.1 G.2.1 dL_colours_149 (by decide) (fun h_149 => ?_) (fun h => absurd (by decide) h)
              refine lv_aload_n G.1 G.2.1 dL_colours_158 rfl (lv_at hl 6 rfl) ?_
              refine lv_iload_n G.1 G.2.1 dL_colours_159 rfl (lv_at hl 7 rfl) ?_
              refine lv_iload G.1 G.2.1 dL_colours_160 (lv_at hl 5 rfl) ?_
              refine lv_iload G.1 G.2.1 dL_colours_162 (lv_at hl 4 rfl) ?_
              refine lv_iload G.1 G.2.1 dL_colours_164 (lv_at hl 3 rfl) ?_
              refine gz_wrap (As := [.ref (q 0), .int (nI 1), .int (nI e2), .int (nI e6), .int y11]) (rest := []) G.fix (mL_paints_spot l hst D q cI N S tr _ hok hinv ((nI e2)) ((nI e6)) y11) (vx_cwSW 5 G.2.2.2.2.2.1 gL_colours_L_paints rfl rfl rfl (by decide +kernel) ⟨Nat.le_of_ble_eq_true rfl, Nat.le_of_ble_eq_true rfl⟩) hZ hA hS rfl hl.1 rfl (Nat.le_of_ble_eq_true rfl) dL_colours_166 (show 0 + 1 ≤ 1 by omega) (show 0 + 6 ≤ 6 by omega) (fun r Nx Sx tr H locs hp hZ hS => ?_)
              obtain ⟨rfl, eN, eS⟩ := hp
              have hk_166 : sj_spot N S ((nI e2)) ((nI e6)) y11 = 2 := gk_tf (by simp only [sA_spot, Bool.and_eq_true, decide_eq_true_eq, gb_nI (show e2 < 2 ^ 31 by omega), gn_nI (show e2 < 2 ^ 31 by omega), gb_nI (show e6 < 2 ^ 31 by omega), gn_nI (show e6 < 2 ^ 31 by omega)] <;> omega) (by simp [sB_spot, hg_vf])
              rw [hk_166] at eN eS
              have eN : Nx = N := eN
              have eS : Sx = S := eS
              rw [eN, eS] at hZ
              rw [hk_166, gRes_2]
              refine lv_iload G.1 G.2.1 dL_colours_169 (lv_at hl 0 rfl) ?_
              refine lv_icmp_ne (tgt := 178) G.1 G.2.1 dL_colours_171 (by decide) (fun h => absurd rfl h) (fun h_171 => ?_)
              refine lv_iconst (v := nI 1) G.1 G.2.1 dL_colours_174 (by decide) ?_
              refine lv_goto (tgt := 179) G.1 G.2.1 dL_colours_175 (by decide) ?_
              refine W.widen (k := 1) (n := 6) (show 0 + 1 ≤ 1 by omega) (show 0 + 6 ≤ 6 by omega) ?_
              exact W.zret G.1 G.2.1 G.2.2.1 rfl (fun t ht hW => ⟨nI 1, _, _, _, rfl, ⟨rfl, hli, rfl, rfl⟩, by rw [ht]; exact hZ.1, hS.F ht⟩) hS.2.2 dL_colours_179 G.2.2.2.2.2.2
            · refine lv_iload G.1 G.2.1 dL_colours_123 (lv_at hl 2 rfl) ?_
              refine lv_if_lt (tgt := 136) G.1 G.2.1 dL_colours_125 (by decide) (fun h_125 => ?_) (fun h_125 => ?_)
              · refine lv_bipush (v := -102) G.1 G.2.1 dL_colours_136 (by decide) ?_
                refine lv_goto (tgt := 145) G.1 G.2.1 dL_colours_138 (by decide) ?_
                exact K_145 _ (rfl)
              · refine lv_iload G.1 G.2.1 dL_colours_128 (lv_at hl 2 rfl) ?_
                refine lv_sipush (v := nI 255) G.1 G.2.1 dL_colours_130 (by decide) ?_
                refine lv_icmp_le (tgt := 141) G.1 G.2.1 dL_colours_133 (by decide) (fun h => (lg_gein0 (by omega) h_125 h hg_vf).elim) (fun h_133 => ?_)
                refine lv_bipush (v := -102) G.1 G.2.1 dL_colours_136 (by decide) ?_
                refine lv_goto (tgt := 145) G.1 G.2.1 dL_colours_138 (by decide) ?_
                exact K_145 _ (rfl)
    · refine gn_nez G (by omega) (tgt := 54) dL_colours_47 (by decide) (fun h_47 => ?_) (fun h_47 => ?_)
      · refine lv_iload_n G.1 G.2.1 dL_colours_54 rfl (lv_at hl 3 rfl) ?_
        refine lv_iconst (v := nI 4) G.1 G.2.1 dL_colours_55 (by decide) ?_
        refine lv_ishr G.1 G.2.1 dL_colours_56 ?_
        refine lv_topi (fun y12 hy12 => ?_)
        refine lv_iconst (v := nI 3) G.1 G.2.1 dL_colours_57 (by decide) ?_
        refine gc_s (As := [.int y12, .int (nI 3)]) (rest := []) G.fix (mL_some l y12 3 (by omega) (by omega)) (va_cwS 2 G.2.2.2.2.2.1 gL_colours_L_some rfl rfl rfl (by decide +kernel) ⟨Nat.le_of_ble_eq_true rfl, Nat.le_of_ble_eq_true rfl⟩) gc_blindT (fun _ _ _ => trivial) rfl hl.1 rfl (Nat.le_of_ble_eq_true rfl) dL_colours_58 (show 0 ≤ 1 by omega) (show 0 ≤ 6 by omega) (fun r hr => ?_)
        obtain ⟨k13, hk13, rfl⟩ := hr
        exact K_61 _ (Or.inr ⟨_, rfl, by omega⟩)
      · refine lv_iconst (v := -1) G.1 G.2.1 dL_colours_50 (by decide) ?_
        refine lv_goto (tgt := 61) G.1 G.2.1 dL_colours_51 (by decide) ?_
        exact K_61 _ (Or.inl rfl)
  · refine gn_nez G (by omega) (tgt := 23) dL_colours_6 (by decide) (fun h_6 => ?_) (fun h_6 => ?_)
    · refine lv_iload_n G.1 G.2.1 dL_colours_23 rfl (lv_at hl 2 rfl) ?_
      refine lv_iload_n G.1 G.2.1 dL_colours_24 rfl (lv_at hl 1 rfl) ?_
      refine lv_iconst (v := nI 2) G.1 G.2.1 dL_colours_25 (by decide) ?_
      refine gn_ne G (by omega) (by omega) (tgt := 33) dL_colours_26 (by decide) (fun h_26 => ?_) (fun h => absurd h (by omega))
      refine lv_iconst (v := nI 2) G.1 G.2.1 dL_colours_33 (by decide) ?_
      refine gc_s (As := [.int w0, .int (nI 2)]) (rest := []) G.fix (mL_some l w0 2 (by omega) (by omega)) (va_cwS 2 G.2.2.2.2.2.1 gL_colours_L_some rfl rfl rfl (by decide +kernel) ⟨Nat.le_of_ble_eq_true rfl, Nat.le_of_ble_eq_true rfl⟩) gc_blindT (fun _ _ _ => trivial) rfl hl.1 rfl (Nat.le_of_ble_eq_true rfl) dL_colours_34 (show 0 ≤ 1 by omega) (show 0 ≤ 6 by omega) (fun r hr => ?_)
      obtain ⟨k14, hk14, rfl⟩ := hr
      exact K_37 _ (⟨_, rfl, by omega, by omega⟩)
    · refine lv_iload_n G.1 G.2.1 dL_colours_9 rfl (lv_at hl 1 rfl) ?_
      refine lv_iconst (v := nI 2) G.1 G.2.1 dL_colours_10 (by decide) ?_
      refine gn_ne G (by omega) (by omega) (tgt := 18) dL_colours_11 (by decide) (fun h_11 => ?_) (fun h => absurd h (by omega))
      refine lv_bipush (v := nI 6) G.1 G.2.1 dL_colours_18 (by decide) ?_
      refine lv_goto (tgt := 37) G.1 G.2.1 dL_colours_20 (by decide) ?_
      exact K_37 _ (⟨_, rfl, by omega, by omega⟩)
set_option maxRecDepth 100000 in
set_option maxHeartbeats 2000000 in
theorem mL_colours_2 (l : Launch) (hst : l.stackTraces = false) (D : va_G) (q a : Nat → Nat) (cI : ClassId) (N : Nat → Nat) (S : Nat → Nat → Nat) (tr : Nat → Nat) (A : Nat → Prop) (hli : li N S) (w0 : Int32) : Met l yL_colours wsL_colours { frames := 9, cells := 1, slots := 6, locals := 150 } (va_Pc [.ref (q 0), .int (nI 2), .int w0, .ref (a 5)] (fun U => zBt D q a cI N S tr A U)) (gQz D q a cI (fun r N' S' => r = nI 1 ∧ li N' S' ∧ N' 0 = N 0 ∧ N' 5 = N 5) A) 1 6 A := by
  refine gc_met [.ref (q 0), .int (nI 2), .int w0, .ref (a 5)] (by decide) rfl (Nat.le_of_ble_eq_true rfl) rfl ?_
  intro p e s m below meth c ls G hl hB
  obtain ⟨hZ, hA⟩ := hB
  have hli9 := hli
  obtain ⟨hok, hinv, hN0, hN5, h6⟩ := hli9
  have hok9 := hok
  obtain ⟨⟨ok0, ok5⟩, ok1, ok2, ok3, ok4, ok6, ok7, ok8, ok12, ok13, ok14⟩ := hok9
  have hZ0 : gZ A s s.heap := hZ.2.2.2
  have hS : va_S A s.heap s.heap [] := va_S.rf
  refine lv_iload_n G.1 G.2.1 dL_colours_0 rfl (lv_at hl 2 rfl) ?_
  refine lv_bipush (v := nI 30) G.1 G.2.1 dL_colours_1 (by decide) ?_
  refine gc_s (As := [.int w0, .int (nI 30)]) (rest := []) G.fix (mL_some l w0 30 (by omega) (by omega)) (va_cwS 2 G.2.2.2.2.2.1 gL_colours_L_some rfl rfl rfl (by decide +kernel) ⟨Nat.le_of_ble_eq_true rfl, Nat.le_of_ble_eq_true rfl⟩) gc_blindT (fun _ _ _ => trivial) rfl hl.1 rfl (Nat.le_of_ble_eq_true rfl) dL_colours_3 (show 0 ≤ 1 by omega) (show 0 ≤ 6 by omega) (fun r hr => ?_)
  obtain ⟨k1, hk1, rfl⟩ := hr
  refine gj_x (fun x => ∃ e : Nat, x = nI e ∧ e ≤ 3) 37 [] (fun x hx => ?_) (fun K_37 => ?_)
  · obtain ⟨e2, rfl, he2⟩ := hx
    refine lv_istore (lv' := [(4, .int (nI e2)), (0, .ref (q 0)), (1, .int (nI 2)), (2, .int w0), (3, .ref (a 5))]) G.1 G.2.1 dL_colours_37 hl (by decide) rfl (fun ls hl => ?_)
    refine lv_iload_n G.1 G.2.1 dL_colours_39 rfl (lv_at hl 3 rfl) ?_
    refine lv_iconst (v := nI 4) G.1 G.2.1 dL_colours_40 (by decide) ?_
    refine lv_ishr G.1 G.2.1 dL_colours_41 ?_
    refine lv_topi (fun y3 hy3 => ?_)
    refine lv_bipush (v := nI 30) G.1 G.2.1 dL_colours_42 (by decide) ?_
    refine gc_s (As := [.int y3, .int (nI 30)]) (rest := []) G.fix (mL_some l y3 30 (by omega) (by omega)) (va_cwS 2 G.2.2.2.2.2.1 gL_colours_L_some rfl rfl rfl (by decide +kernel) ⟨Nat.le_of_ble_eq_true rfl, Nat.le_of_ble_eq_true rfl⟩) gc_blindT (fun _ _ _ => trivial) rfl hl.1 rfl (Nat.le_of_ble_eq_true rfl) dL_colours_44 (show 0 ≤ 1 by omega) (show 0 ≤ 6 by omega) (fun r hr => ?_)
    obtain ⟨k4, hk4, rfl⟩ := hr
    refine gj_x (fun x => x = -1 ∨ ∃ e : Nat, x = nI e ∧ e < 3) 61 [] (fun x hx => ?_) (fun K_61 => ?_)
    · obtain ⟨z5, ez5⟩ : ∃ z, z = x := ⟨x, rfl⟩
      rw [← ez5] at hx ⊢
      refine lv_istore (lv' := [(5, .int z5), (4, .int (nI e2)), (0, .ref (q 0)), (1, .int (nI 2)), (2, .int w0), (3, .ref (a 5))]) G.1 G.2.1 dL_colours_61 hl (by decide) rfl (fun ls hl => ?_)
      rcases hx with rfl | ⟨e6, rfl, he6⟩
      · have hg_m1 : gb (-1) 3 = false := by decide
        refine lv_iload_n G.1 G.2.1 dL_colours_63 rfl (lv_at hl 4 rfl) ?_
        refine lv_iconst (v := nI 5) G.1 G.2.1 dL_colours_64 (by decide) ?_
        refine lv_ishr G.1 G.2.1 dL_colours_65 ?_
        refine lv_topi (fun y7 hy7 => ?_)
        refine gc_s (As := [.int y7]) (rest := []) G.fix (mL_value l y7) (va_cwS 1 G.2.2.2.2.2.1 gL_colours_L_value rfl rfl rfl (by decide +kernel) ⟨Nat.le_of_ble_eq_true rfl, Nat.le_of_ble_eq_true rfl⟩) gc_blindT (fun _ _ _ => trivial) rfl hl.1 rfl (Nat.le_of_ble_eq_true rfl) dL_colours_66 (show 0 ≤ 1 by omega) (show 0 ≤ 6 by omega) (fun y8 _ => ?_)
        refine lv_istore (lv' := [(6, .int y8), (5, .int ((-1))), (4, .int (nI e2)), (0, .ref (q 0)), (1, .int (nI 2)), (2, .int w0), (3, .ref (a 5))]) G.1 G.2.1 dL_colours_69 hl (by decide) rfl (fun ls hl => ?_)
        refine lv_iload G.1 G.2.1 dL_colours_71 (lv_at hl 1 rfl) ?_
        refine lv_if_lt (tgt := 96) G.1 G.2.1 dL_colours_73 (by decide) (fun h_73 => ?_) (fun h => absurd (by decide) h)
        refine lv_iconst (v := nI 0) G.1 G.2.1 dL_colours_96 (by decide) ?_
        refine lv_istore (lv' := [(7, .int (nI 0)), (6, .int y8), (5, .int ((-1))), (4, .int (nI e2)), (0, .ref (q 0)), (1, .int (nI 2)), (2, .int w0), (3, .ref (a 5))]) G.1 G.2.1 dL_colours_97 hl (by decide) rfl (fun ls hl => ?_)
        refine lv_bipush (v := nI 6) G.1 G.2.1 dL_colours_99 (by decide) ?_
        refine lv_iload_n G.1 G.2.1 dL_colours_101 rfl (lv_at hl 5 rfl) ?_
        refine gn_imul G dL_colours_102 ?_
        refine lv_iconst (v := nI 3) G.1 G.2.1 dL_colours_103 (by decide) ?_
        refine lv_iload G.1 G.2.1 dL_colours_104 (lv_at hl 3 rfl) ?_
        refine gn_imul G dL_colours_106 ?_
        refine gn_iadd G dL_colours_107 ?_
        refine lv_iload G.1 G.2.1 dL_colours_108 (lv_at hl 2 rfl) ?_
        refine lv_iadd G.1 G.2.1 dL_colours_110 ?_
        refine lv_topi (fun y9 hy9 => ?_)
        refine lv_istore (lv' := [(8, .int y9), (7, .int (nI 0)), (6, .int y8), (5, .int ((-1))), (4, .int (nI e2)), (0, .ref (q 0)), (1, .int (nI 2)), (2, .int w0), (3, .ref (a 5))]) G.1 G.2.1 dL_colours_111 hl (by decide) rfl (fun ls hl => ?_)
        refine lv_iload G.1 G.2.1 dL_colours_113 (lv_at hl 1 rfl) ?_
        refine gn_nez G (by omega) (tgt := 123) dL_colours_115 (by decide) (fun h => absurd rfl h) (fun h_115 => ?_)
        refine lv_bipush (v := -101) G.1 G.2.1 dL_colours_118 (by decide) ?_
        refine lv_goto (tgt := 145) G.1 G.2.1 dL_colours_120 (by decide) ?_
        refine lv_istore (lv' := [(9, .int ((-101))), (8, .int y9), (7, .int (nI 0)), (6, .int y8), (5, .int ((-1))), (4, .int (nI e2)), (0, .ref (q 0)), (1, .int (nI 2)), (2, .int w0), (3, .ref (a 5))]) G.1 G.2.1 dL_colours_145 hl (by decide) rfl (fun ls hl => ?_)
        refine lv_iload G.1 G.2.1 dL_colours_147 (lv_at hl 0 rfl) ?_
        refine lv_if_lt (tgt := 158) G.1 G.2.1 dL_colours_149 (by decide) (fun h_149 => ?_) (fun h => absurd (by decide) h)
        refine lv_aload_n G.1 G.2.1 dL_colours_158 rfl (lv_at hl 6 rfl) ?_
        refine lv_iload_n G.1 G.2.1 dL_colours_159 rfl (lv_at hl 7 rfl) ?_
        refine lv_iload G.1 G.2.1 dL_colours_160 (lv_at hl 5 rfl) ?_
        refine lv_iload G.1 G.2.1 dL_colours_162 (lv_at hl 4 rfl) ?_
        refine lv_iload G.1 G.2.1 dL_colours_164 (lv_at hl 3 rfl) ?_
        refine gz_wrap (As := [.ref (q 0), .int (nI 2), .int (nI e2), .int ((-1)), .int y8]) (rest := []) G.fix (mL_paints_mix l hst D q cI N S tr _ hok hinv ((nI e2)) ((-1)) y8) (vx_cwSW 5 G.2.2.2.2.2.1 gL_colours_L_paints rfl rfl rfl (by decide +kernel) ⟨Nat.le_of_ble_eq_true rfl, Nat.le_of_ble_eq_true rfl⟩) hZ hA hS rfl hl.1 rfl (Nat.le_of_ble_eq_true rfl) dL_colours_166 (show 0 + 1 ≤ 1 by omega) (show 0 + 6 ≤ 6 by omega) (fun r Nx Sx tr H locs hp hZ hS => ?_)
        obtain ⟨rfl, eN, eS⟩ := hp
        have hk_166 : sj_mix N S ((nI e2)) ((-1)) y8 = 1 := gk_f (by simp [sA_mix, hg_m1])
        rw [hk_166] at eN eS
        have eN : Nx = N := eN
        have eS : Sx = S := eS
        rw [eN, eS] at hZ
        rw [hk_166, gRes_1]
        refine lv_iload G.1 G.2.1 dL_colours_169 (lv_at hl 0 rfl) ?_
        refine lv_icmp_ne (tgt := 178) G.1 G.2.1 dL_colours_171 (by decide) (fun h => absurd rfl h) (fun h_171 => ?_)
        refine lv_iconst (v := nI 1) G.1 G.2.1 dL_colours_174 (by decide) ?_
        refine lv_goto (tgt := 179) G.1 G.2.1 dL_colours_175 (by decide) ?_
        refine W.widen (k := 1) (n := 6) (show 0 + 1 ≤ 1 by omega) (show 0 + 6 ≤ 6 by omega) ?_
        exact W.zret G.1 G.2.1 G.2.2.1 rfl (fun t ht hW => ⟨nI 1, _, _, _, rfl, ⟨rfl, hli, rfl, rfl⟩, by rw [ht]; exact hZ.1, hS.F ht⟩) hS.2.2 dL_colours_179 G.2.2.2.2.2.2
      · refine lv_iload_n G.1 G.2.1 dL_colours_63 rfl (lv_at hl 4 rfl) ?_
        refine lv_iconst (v := nI 5) G.1 G.2.1 dL_colours_64 (by decide) ?_
        refine lv_ishr G.1 G.2.1 dL_colours_65 ?_
        refine lv_topi (fun y10 hy10 => ?_)
        refine gc_s (As := [.int y10]) (rest := []) G.fix (mL_value l y10) (va_cwS 1 G.2.2.2.2.2.1 gL_colours_L_value rfl rfl rfl (by decide +kernel) ⟨Nat.le_of_ble_eq_true rfl, Nat.le_of_ble_eq_true rfl⟩) gc_blindT (fun _ _ _ => trivial) rfl hl.1 rfl (Nat.le_of_ble_eq_true rfl) dL_colours_66 (show 0 ≤ 1 by omega) (show 0 ≤ 6 by omega) (fun y11 _ => ?_)
        refine lv_istore (lv' := [(6, .int y11), (5, .int (nI e6)), (4, .int (nI e2)), (0, .ref (q 0)), (1, .int (nI 2)), (2, .int w0), (3, .ref (a 5))]) G.1 G.2.1 dL_colours_69 hl (by decide) rfl (fun ls hl => ?_)
        refine lv_iload G.1 G.2.1 dL_colours_71 (lv_at hl 1 rfl) ?_
        refine gn_ltz G (by omega) (tgt := 96) dL_colours_73 (by decide) ?_
        refine lv_iload G.1 G.2.1 dL_colours_76 (lv_at hl 2 rfl) ?_
        refine lv_iload_n G.1 G.2.1 dL_colours_78 rfl (lv_at hl 4 rfl) ?_
        refine lv_iconst (v := nI 2) G.1 G.2.1 dL_colours_79 (by decide) ?_
        refine gn_ne G (by omega) (by omega) (tgt := 87) dL_colours_80 (by decide) (fun h => absurd rfl h) (fun h_80 => ?_)
        refine lv_iconst (v := nI 3) G.1 G.2.1 dL_colours_83 (by decide) ?_
        refine lv_goto (tgt := 89) G.1 G.2.1 dL_colours_84 (by decide) ?_
        refine gn_ge G (by omega) (by omega) (tgt := 96) dL_colours_89 (by decide) (fun h_89 => ?_) (fun h_89 => ?_)
        · refine lv_iconst (v := nI 0) G.1 G.2.1 dL_colours_96 (by decide) ?_
          refine lv_istore (lv' := [(7, .int (nI 0)), (6, .int y11), (5, .int (nI e6)), (4, .int (nI e2)), (0, .ref (q 0)), (1, .int (nI 2)), (2, .int w0), (3, .ref (a 5))]) G.1 G.2.1 dL_colours_97 hl (by decide) rfl (fun ls hl => ?_)
          refine lv_bipush (v := nI 6) G.1 G.2.1 dL_colours_99 (by decide) ?_
          refine lv_iload_n G.1 G.2.1 dL_colours_101 rfl (lv_at hl 5 rfl) ?_
          refine gn_imul G dL_colours_102 ?_
          refine lv_iconst (v := nI 3) G.1 G.2.1 dL_colours_103 (by decide) ?_
          refine lv_iload G.1 G.2.1 dL_colours_104 (lv_at hl 3 rfl) ?_
          refine gn_imul G dL_colours_106 ?_
          refine gn_iadd G dL_colours_107 ?_
          refine lv_iload G.1 G.2.1 dL_colours_108 (lv_at hl 2 rfl) ?_
          refine gn_iadd G dL_colours_110 ?_
          refine lv_istore (lv' := [(8, .int (nI (((6 * 2) + (3 * e2)) + e6))), (7, .int (nI 0)), (6, .int y11), (5, .int (nI e6)), (4, .int (nI e2)), (0, .ref (q 0)), (1, .int (nI 2)), (2, .int w0), (3, .ref (a 5))]) G.1 G.2.1 dL_colours_111 hl (by decide) rfl (fun ls hl => ?_)
          refine lv_iload G.1 G.2.1 dL_colours_113 (lv_at hl 1 rfl) ?_
          refine gn_nez G (by omega) (tgt := 123) dL_colours_115 (by decide) (fun h => absurd rfl h) (fun h_115 => ?_)
          refine lv_bipush (v := -101) G.1 G.2.1 dL_colours_118 (by decide) ?_
          refine lv_goto (tgt := 145) G.1 G.2.1 dL_colours_120 (by decide) ?_
          refine lv_istore (lv' := [(9, .int ((-101))), (8, .int (nI (((6 * 2) + (3 * e2)) + e6))), (7, .int (nI 0)), (6, .int y11), (5, .int (nI e6)), (4, .int (nI e2)), (0, .ref (q 0)), (1, .int (nI 2)), (2, .int w0), (3, .ref (a 5))]) G.1 G.2.1 dL_colours_145 hl (by decide) rfl (fun ls hl => ?_)
          refine lv_iload G.1 G.2.1 dL_colours_147 (lv_at hl 0 rfl) ?_
          refine lv_if_lt (tgt := 158) G.1 G.2.1 dL_colours_149 (by decide) (fun h_149 => ?_) (fun h => absurd (by decide) h)
          refine lv_aload_n G.1 G.2.1 dL_colours_158 rfl (lv_at hl 6 rfl) ?_
          refine lv_iload_n G.1 G.2.1 dL_colours_159 rfl (lv_at hl 7 rfl) ?_
          refine lv_iload G.1 G.2.1 dL_colours_160 (lv_at hl 5 rfl) ?_
          refine lv_iload G.1 G.2.1 dL_colours_162 (lv_at hl 4 rfl) ?_
          refine lv_iload G.1 G.2.1 dL_colours_164 (lv_at hl 3 rfl) ?_
          refine gz_wrap (As := [.ref (q 0), .int (nI 2), .int (nI e2), .int (nI e6), .int y11]) (rest := []) G.fix (mL_paints_mix l hst D q cI N S tr _ hok hinv ((nI e2)) ((nI e6)) y11) (vx_cwSW 5 G.2.2.2.2.2.1 gL_colours_L_paints rfl rfl rfl (by decide +kernel) ⟨Nat.le_of_ble_eq_true rfl, Nat.le_of_ble_eq_true rfl⟩) hZ hA hS rfl hl.1 rfl (Nat.le_of_ble_eq_true rfl) dL_colours_166 (show 0 + 1 ≤ 1 by omega) (show 0 + 6 ≤ 6 by omega) (fun r Nx Sx tr H locs hp hZ hS => ?_)
          obtain ⟨rfl, eN, eS⟩ := hp
          have hk_166 : sj_mix N S ((nI e2)) ((nI e6)) y11 = 1 := gk_f (by apply Bool.eq_false_iff.mpr; intro h; simp only [sA_mix, Bool.and_eq_true, decide_eq_true_eq, gb_nI (show e2 < 2 ^ 31 by omega), gn_nI (show e2 < 2 ^ 31 by omega), gb_nI (show e6 < 2 ^ 31 by omega), gn_nI (show e6 < 2 ^ 31 by omega)] at h <;> omega)
          rw [hk_166] at eN eS
          have eN : Nx = N := eN
          have eS : Sx = S := eS
          rw [eN, eS] at hZ
          rw [hk_166, gRes_1]
          refine lv_iload G.1 G.2.1 dL_colours_169 (lv_at hl 0 rfl) ?_
          refine lv_icmp_ne (tgt := 178) G.1 G.2.1 dL_colours_171 (by decide) (fun h => absurd rfl h) (fun h_171 => ?_)
          refine lv_iconst (v := nI 1) G.1 G.2.1 dL_colours_174 (by decide) ?_
          refine lv_goto (tgt := 179) G.1 G.2.1 dL_colours_175 (by decide) ?_
          refine W.widen (k := 1) (n := 6) (show 0 + 1 ≤ 1 by omega) (show 0 + 6 ≤ 6 by omega) ?_
          exact W.zret G.1 G.2.1 G.2.2.1 rfl (fun t ht hW => ⟨nI 1, _, _, _, rfl, ⟨rfl, hli, rfl, rfl⟩, by rw [ht]; exact hZ.1, hS.F ht⟩) hS.2.2 dL_colours_179 G.2.2.2.2.2.2
        · refine lv_iconst (v := nI 1) G.1 G.2.1 dL_colours_92 (by decide) ?_
          refine lv_goto (tgt := 97) G.1 G.2.1 dL_colours_93 (by decide) ?_
          refine lv_istore (lv' := [(7, .int (nI 1)), (6, .int y11), (5, .int (nI e6)), (4, .int (nI e2)), (0, .ref (q 0)), (1, .int (nI 2)), (2, .int w0), (3, .ref (a 5))]) G.1 G.2.1 dL_colours_97 hl (by decide) rfl (fun ls hl => ?_)
          refine lv_bipush (v := nI 6) G.1 G.2.1 dL_colours_99 (by decide) ?_
          refine lv_iload_n G.1 G.2.1 dL_colours_101 rfl (lv_at hl 5 rfl) ?_
          refine gn_imul G dL_colours_102 ?_
          refine lv_iconst (v := nI 3) G.1 G.2.1 dL_colours_103 (by decide) ?_
          refine lv_iload G.1 G.2.1 dL_colours_104 (lv_at hl 3 rfl) ?_
          refine gn_imul G dL_colours_106 ?_
          refine gn_iadd G dL_colours_107 ?_
          refine lv_iload G.1 G.2.1 dL_colours_108 (lv_at hl 2 rfl) ?_
          refine gn_iadd G dL_colours_110 ?_
          refine lv_istore (lv' := [(8, .int (nI (((6 * 2) + (3 * e2)) + e6))), (7, .int (nI 1)), (6, .int y11), (5, .int (nI e6)), (4, .int (nI e2)), (0, .ref (q 0)), (1, .int (nI 2)), (2, .int w0), (3, .ref (a 5))]) G.1 G.2.1 dL_colours_111 hl (by decide) rfl (fun ls hl => ?_)
          refine lv_iload G.1 G.2.1 dL_colours_113 (lv_at hl 1 rfl) ?_
          refine gn_nez G (by omega) (tgt := 123) dL_colours_115 (by decide) (fun h_115 => ?_) (fun h => absurd h (by omega))
          by_cases hg_v : gb y11 256 = true
          · obtain ⟨v, hv, rfl⟩ := gb_of (by omega) hg_v
            refine lv_iload G.1 G.2.1 dL_colours_123 (lv_at hl 2 rfl) ?_
            refine gn_ltz G (by omega) (tgt := 136) dL_colours_125 (by decide) ?_
            refine lv_iload G.1 G.2.1 dL_colours_128 (lv_at hl 2 rfl) ?_
            refine lv_sipush (v := nI 255) G.1 G.2.1 dL_colours_130 (by decide) ?_
            refine gn_le G (by omega) (by omega) (tgt := 141) dL_colours_133 (by decide) (fun h_133 => ?_) (fun h => absurd h (by omega))
            refine lv_aload_n G.1 G.2.1 dL_colours_141 rfl (lv_at hl 8 rfl) ?_
            refine lv_iload G.1 G.2.1 dL_colours_142 (lv_at hl 0 rfl) ?_
            refine gl_ald (k := 5) (len := 21) (F := fP S) G hZ.r rfl (by omega) (by decide) dL_colours_144 ?_
            rw [show ((6 * 2) + (3 * e2)) + e6 = 12 + (e2 * 3 + e6) from by omega, fP_14]
            have hv_144 := ok14 (e2 * 3 + e6)
            refine lv_istore (lv' := [(9, .int (nI (S 14 (e2 * 3 + e6)))), (8, .int (nI (((6 * 2) + (3 * e2)) + e6))), (7, .int (nI 1)), (6, .int (nI v)), (5, .int (nI e6)), (4, .int (nI e2)), (0, .ref (q 0)), (1, .int (nI 2)), (2, .int w0), (3, .ref (a 5))]) G.1 G.2.1 dL_colours_145 hl (by decide) rfl (fun ls hl => ?_)
            refine lv_iload G.1 G.2.1 dL_colours_147 (lv_at hl 0 rfl) ?_
            refine gn_ltz G (by omega) (tgt := 158) dL_colours_149 (by decide) ?_
            refine lv_aload_n G.1 G.2.1 dL_colours_152 rfl (lv_at hl 9 rfl) ?_
            refine lv_iload G.1 G.2.1 dL_colours_153 (lv_at hl 1 rfl) ?_
            refine lv_iload G.1 G.2.1 dL_colours_155 (lv_at hl 3 rfl) ?_
            refine gz_ast (k := 5) (len := 21) (F := fP S) (i := ((6 * 2) + (3 * e2)) + e6) (v := v) (N3 := N) (S3 := (gs S 14 (gu (S 14) (e2 * 3 + e6) v))) G hZ0 hZ hS rfl (by rw [show ((6 * 2) + (3 * e2)) + e6 = 12 + (e2 * 3 + e6) from by omega]; exact ls_p14) (by omega) (by decide) dL_colours_157 (fun H locs hZ hS => ?_)
            refine lv_aload_n G.1 G.2.1 dL_colours_158 rfl (lv_at hl 6 rfl) ?_
            refine lv_iload_n G.1 G.2.1 dL_colours_159 rfl (lv_at hl 7 rfl) ?_
            refine lv_iload G.1 G.2.1 dL_colours_160 (lv_at hl 5 rfl) ?_
            refine lv_iload G.1 G.2.1 dL_colours_162 (lv_at hl 4 rfl) ?_
            refine lv_iload G.1 G.2.1 dL_colours_164 (lv_at hl 3 rfl) ?_
            refine gz_wrap (As := [.ref (q 0), .int (nI 2), .int (nI e2), .int (nI e6), .int (nI v)]) (rest := []) G.fix (mL_paints_mix l hst D q cI N S tr _ hok hinv ((nI e2)) ((nI e6)) ((nI v))) (vx_cwSW 5 G.2.2.2.2.2.1 gL_colours_L_paints rfl rfl rfl (by decide +kernel) ⟨Nat.le_of_ble_eq_true rfl, Nat.le_of_ble_eq_true rfl⟩) hZ hA hS rfl hl.1 rfl (Nat.le_of_ble_eq_true rfl) dL_colours_166 (show 0 + 1 ≤ 1 by omega) (show 0 + 6 ≤ 6 by omega) (fun r Nx Sx tr H locs hp hZ hS => ?_)
            obtain ⟨rfl, eN, eS⟩ := hp
            have hk_166 : sj_mix N S ((nI e2)) ((nI e6)) ((nI v)) = 0 := gk_ttt (by simp only [sA_mix, Bool.and_eq_true, decide_eq_true_eq, gb_nI (show e2 < 2 ^ 31 by omega), gn_nI (show e2 < 2 ^ 31 by omega), gb_nI (show e6 < 2 ^ 31 by omega), gn_nI (show e6 < 2 ^ 31 by omega), gb_nI (show v < 2 ^ 31 by omega), gn_nI (show v < 2 ^ 31 by omega)] <;> omega) (by simp only [sB_mix, Bool.and_eq_true, decide_eq_true_eq, gb_nI (show e2 < 2 ^ 31 by omega), gn_nI (show e2 < 2 ^ 31 by omega), gb_nI (show e6 < 2 ^ 31 by omega), gn_nI (show e6 < 2 ^ 31 by omega), gb_nI (show v < 2 ^ 31 by omega), gn_nI (show v < 2 ^ 31 by omega)] <;> omega) rfl
            rw [hk_166] at eN eS
            have eN : Nx = sN_mix N S ((nI e2)) ((nI e6)) ((nI v)) := eN
            have eS : Sx = sS_mix N S ((nI e2)) ((nI e6)) ((nI v)) := eS
            rw [eN, eS] at hZ
            rw [hk_166, gRes_0]
            have hR_166 : sR_mix N S ((nI e2)) ((nI e6)) ((nI v)) = S 14 (e2 * 3 + e6) := by simp only [sR_mix, gn_nI (show e2 < 2 ^ 31 by omega), gn_nI (show e6 < 2 ^ 31 by omega), gn_nI (show v < 2 ^ 31 by omega)]
            rw [hR_166]
            have hN9 : sN_mix N S ((nI e2)) ((nI e6)) ((nI v)) = N := by simp only [sN_mix, gn_nI (show e2 < 2 ^ 31 by omega), gn_nI (show e6 < 2 ^ 31 by omega), gn_nI (show v < 2 ^ 31 by omega)]
            have hS9 : sS_mix N S ((nI e2)) ((nI e6)) ((nI v)) = (gs S 14 (gu (S 14) (e2 * 3 + e6) v)) := by simp only [sS_mix, gn_nI (show e2 < 2 ^ 31 by omega), gn_nI (show e6 < 2 ^ 31 by omega), gn_nI (show v < 2 ^ 31 by omega)]
            have hli2 := li_mix hli hk_166
            rw [hN9, hS9] at hli2 hZ
            refine lv_iload G.1 G.2.1 dL_colours_169 (lv_at hl 0 rfl) ?_
            refine gn_ne G (by omega) (by omega) (tgt := 178) dL_colours_171 (by decide) (fun h => absurd rfl h) (fun h_171 => ?_)
            refine lv_iconst (v := nI 1) G.1 G.2.1 dL_colours_174 (by decide) ?_
            refine lv_goto (tgt := 179) G.1 G.2.1 dL_colours_175 (by decide) ?_
            refine W.widen (k := 1) (n := 6) (show 0 + 1 ≤ 1 by omega) (show 0 + 6 ≤ 6 by omega) ?_
            exact W.zret G.1 G.2.1 G.2.2.1 rfl (fun t ht hW => ⟨nI 1, _, _, _, rfl, ⟨rfl, hli2, rfl, rfl⟩, by rw [ht]; exact hZ.1, hS.F ht⟩) hS.2.2 dL_colours_179 G.2.2.2.2.2.2
          · have hg_vf := lg_gbf hg_v
            refine gj_x (fun x => x = (-102)) 145 [] (fun x hx => ?_) (fun K_145 => ?_)
            · subst hx
              refine lv_istore (lv' := [(9, .int ((-102))), (8, .int (nI (((6 * 2) + (3 * e2)) + e6))), (7, .int (nI 1)), (6, .int y11), (5, .int (nI e6)), (4, .int (nI e2)), (0, .ref (q 0)), (1, .int (nI 2)), (2, .int w0), (3, .ref (a 5))]) G.1 G.2.1 dL_colours_145 hl (by decide) rfl (fun ls hl => ?_)
              refine lv_iload G.1 G.2.1 dL_colours_147 (lv_at hl 0 rfl) ?_
              refine lv_if_lt (tgt := 158) G.1 G.2.1 dL_colours_149 (by decide) (fun h_149 => ?_) (fun h => absurd (by decide) h)
              refine lv_aload_n G.1 G.2.1 dL_colours_158 rfl (lv_at hl 6 rfl) ?_
              refine lv_iload_n G.1 G.2.1 dL_colours_159 rfl (lv_at hl 7 rfl) ?_
              refine lv_iload G.1 G.2.1 dL_colours_160 (lv_at hl 5 rfl) ?_
              refine lv_iload G.1 G.2.1 dL_colours_162 (lv_at hl 4 rfl) ?_
              refine lv_iload G.1 G.2.1 dL_colours_164 (lv_at hl 3 rfl) ?_
              refine gz_wrap (As := [.ref (q 0), .int (nI 2), .int (nI e2), .int (nI e6), .int y11]) (rest := []) G.fix (mL_paints_mix l hst D q cI N S tr _ hok hinv ((nI e2)) ((nI e6)) y11) (vx_cwSW 5 G.2.2.2.2.2.1 gL_colours_L_paints rfl rfl rfl (by decide +kernel) ⟨Nat.le_of_ble_eq_true rfl, Nat.le_of_ble_eq_true rfl⟩) hZ hA hS rfl hl.1 rfl (Nat.le_of_ble_eq_true rfl) dL_colours_166 (show 0 + 1 ≤ 1 by omega) (show 0 + 6 ≤ 6 by omega) (fun r Nx Sx tr H locs hp hZ hS => ?_)
              obtain ⟨rfl, eN, eS⟩ := hp
              have hk_166 : sj_mix N S ((nI e2)) ((nI e6)) y11 = 2 := gk_tf (by simp only [sA_mix, Bool.and_eq_true, decide_eq_true_eq, gb_nI (show e2 < 2 ^ 31 by omega), gn_nI (show e2 < 2 ^ 31 by omega), gb_nI (show e6 < 2 ^ 31 by omega), gn_nI (show e6 < 2 ^ 31 by omega)] <;> omega) (by simp [sB_mix, hg_vf])
              rw [hk_166] at eN eS
              have eN : Nx = N := eN
              have eS : Sx = S := eS
              rw [eN, eS] at hZ
              rw [hk_166, gRes_2]
              refine lv_iload G.1 G.2.1 dL_colours_169 (lv_at hl 0 rfl) ?_
              refine lv_icmp_ne (tgt := 178) G.1 G.2.1 dL_colours_171 (by decide) (fun h => absurd rfl h) (fun h_171 => ?_)
              refine lv_iconst (v := nI 1) G.1 G.2.1 dL_colours_174 (by decide) ?_
              refine lv_goto (tgt := 179) G.1 G.2.1 dL_colours_175 (by decide) ?_
              refine W.widen (k := 1) (n := 6) (show 0 + 1 ≤ 1 by omega) (show 0 + 6 ≤ 6 by omega) ?_
              exact W.zret G.1 G.2.1 G.2.2.1 rfl (fun t ht hW => ⟨nI 1, _, _, _, rfl, ⟨rfl, hli, rfl, rfl⟩, by rw [ht]; exact hZ.1, hS.F ht⟩) hS.2.2 dL_colours_179 G.2.2.2.2.2.2
            · refine lv_iload G.1 G.2.1 dL_colours_123 (lv_at hl 2 rfl) ?_
              refine lv_if_lt (tgt := 136) G.1 G.2.1 dL_colours_125 (by decide) (fun h_125 => ?_) (fun h_125 => ?_)
              · refine lv_bipush (v := -102) G.1 G.2.1 dL_colours_136 (by decide) ?_
                refine lv_goto (tgt := 145) G.1 G.2.1 dL_colours_138 (by decide) ?_
                exact K_145 _ (rfl)
              · refine lv_iload G.1 G.2.1 dL_colours_128 (lv_at hl 2 rfl) ?_
                refine lv_sipush (v := nI 255) G.1 G.2.1 dL_colours_130 (by decide) ?_
                refine lv_icmp_le (tgt := 141) G.1 G.2.1 dL_colours_133 (by decide) (fun h => (lg_gein0 (by omega) h_125 h hg_vf).elim) (fun h_133 => ?_)
                refine lv_bipush (v := -102) G.1 G.2.1 dL_colours_136 (by decide) ?_
                refine lv_goto (tgt := 145) G.1 G.2.1 dL_colours_138 (by decide) ?_
                exact K_145 _ (rfl)
    · refine gn_nez G (by omega) (tgt := 54) dL_colours_47 (by decide) (fun h_47 => ?_) (fun h_47 => ?_)
      · refine lv_iload_n G.1 G.2.1 dL_colours_54 rfl (lv_at hl 3 rfl) ?_
        refine lv_iconst (v := nI 4) G.1 G.2.1 dL_colours_55 (by decide) ?_
        refine lv_ishr G.1 G.2.1 dL_colours_56 ?_
        refine lv_topi (fun y12 hy12 => ?_)
        refine lv_iconst (v := nI 3) G.1 G.2.1 dL_colours_57 (by decide) ?_
        refine gc_s (As := [.int y12, .int (nI 3)]) (rest := []) G.fix (mL_some l y12 3 (by omega) (by omega)) (va_cwS 2 G.2.2.2.2.2.1 gL_colours_L_some rfl rfl rfl (by decide +kernel) ⟨Nat.le_of_ble_eq_true rfl, Nat.le_of_ble_eq_true rfl⟩) gc_blindT (fun _ _ _ => trivial) rfl hl.1 rfl (Nat.le_of_ble_eq_true rfl) dL_colours_58 (show 0 ≤ 1 by omega) (show 0 ≤ 6 by omega) (fun r hr => ?_)
        obtain ⟨k13, hk13, rfl⟩ := hr
        exact K_61 _ (Or.inr ⟨_, rfl, by omega⟩)
      · refine lv_iconst (v := -1) G.1 G.2.1 dL_colours_50 (by decide) ?_
        refine lv_goto (tgt := 61) G.1 G.2.1 dL_colours_51 (by decide) ?_
        exact K_61 _ (Or.inl rfl)
  · refine gn_nez G (by omega) (tgt := 23) dL_colours_6 (by decide) (fun h_6 => ?_) (fun h_6 => ?_)
    · refine lv_iload_n G.1 G.2.1 dL_colours_23 rfl (lv_at hl 2 rfl) ?_
      refine lv_iload_n G.1 G.2.1 dL_colours_24 rfl (lv_at hl 1 rfl) ?_
      refine lv_iconst (v := nI 2) G.1 G.2.1 dL_colours_25 (by decide) ?_
      refine gn_ne G (by omega) (by omega) (tgt := 33) dL_colours_26 (by decide) (fun h => absurd rfl h) (fun h_26 => ?_)
      refine lv_iconst (v := nI 3) G.1 G.2.1 dL_colours_29 (by decide) ?_
      refine lv_goto (tgt := 34) G.1 G.2.1 dL_colours_30 (by decide) ?_
      refine gc_s (As := [.int w0, .int (nI 3)]) (rest := []) G.fix (mL_some l w0 3 (by omega) (by omega)) (va_cwS 2 G.2.2.2.2.2.1 gL_colours_L_some rfl rfl rfl (by decide +kernel) ⟨Nat.le_of_ble_eq_true rfl, Nat.le_of_ble_eq_true rfl⟩) gc_blindT (fun _ _ _ => trivial) rfl hl.1 rfl (Nat.le_of_ble_eq_true rfl) dL_colours_34 (show 0 ≤ 1 by omega) (show 0 ≤ 6 by omega) (fun r hr => ?_)
      obtain ⟨k14, hk14, rfl⟩ := hr
      exact K_37 _ (⟨_, rfl, by omega⟩)
    · refine lv_iload_n G.1 G.2.1 dL_colours_9 rfl (lv_at hl 1 rfl) ?_
      refine lv_iconst (v := nI 2) G.1 G.2.1 dL_colours_10 (by decide) ?_
      refine gn_ne G (by omega) (by omega) (tgt := 18) dL_colours_11 (by decide) (fun h => absurd rfl h) (fun h_11 => ?_)
      refine lv_iconst (v := nI 3) G.1 G.2.1 dL_colours_14 (by decide) ?_
      refine lv_goto (tgt := 37) G.1 G.2.1 dL_colours_15 (by decide) ?_
      exact K_37 _ (⟨_, rfl, by omega⟩)
