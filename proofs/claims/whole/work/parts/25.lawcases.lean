/-! THE CALLS OF A SCRIPT, one by one -/
set_option maxRecDepth 100000 in
set_option maxHeartbeats 800000 in
/-- a call of profile in the script -/
theorem lc_profile (l : Launch) (hst : l.stackTraces = false) {p : Program} {e : Env} {s : State} {m : MethodId} {b : Nat} {below : List Frame} {meth : Method} {c : Code} {H : Heap} {locs : List Loc} {cells slots : Nat} {Q : State → Prop} {L : Nat} {xs : Nat → Int32} {D : va_G} {q q2 : Nat → Nat} {cI cZ cL : ClassId} {o : Nat} {N : Nat → Nat} {S : Nat → Nat → Nat} {tr fv : Nat → Nat} {th : Nat} {g : Nat → Int64} {j : Nat} {ls : Array Slot} (G : gF p s m #[Value.ref b] meth c cL_law ret 7 RL wsL_law) (hx : va_X b L xs s s.heap) (hb : b < s.heap.size) (hL : L ≤ 2560) (hj : 5 * j + 5 ≤ L) (hok : sp_ok N S) (hinv : sp_inv N S) (hX : lAt D q q2 cI cZ cL o N S tr N S fv th g s H) (hS : va_S (gA s) s.heap H locs) (hl : lv_has ls 7 [(4, .int (nI (5 * j))), (0, .ref b), (1, .ref (q 0)), (2, .ref (q2 0)), (3, .ref o)]) (hc : cells + 1 ≤ 1069) (hs : slots + 6 ≤ 9070) (kk : lK p l e s m b below meth c Q D q q2 cI cZ cL o j (cells + 1) (slots + 6)) : W p l e room_1 s m #[Value.ref b] below meth c H locs cells slots Q (F0 m 136 ls []) := by
  refine lv_aload_n G.1 G.2.1 dL_law_136 rfl (lv_at hl 2 rfl) ?_
  refine lv_aload_n G.1 G.2.1 dL_law_137 rfl (lv_at hl 4 rfl) ?_
  refine gl_wrap (As := [.ref (q 0), .ref o]) (rest := []) G.fix (mL_profile l hst D q cI o cL N S tr g (va_A (xw q cI N S tr) H.size) hok hinv) (vx_cwSW 2 G.2.2.2.2.2.1 gL_law_L_profile rfl rfl rfl (by decide +kernel) ⟨Nat.le_of_ble_eq_true rfl, Nat.le_of_ble_eq_true rfl⟩) hX hS rfl hl.1 rfl (Nat.zero_le _) dL_law_138 hc hs (fun k N1 S1 tr1 g1 H locs hp hX hS => ?_)
  obtain ⟨ek, eN, eS, ev⟩ := hp
  refine lv_istore (lv' := [(5, .int (nI k)), (4, .int (nI (5 * j))), (0, .ref b), (1, .ref (q 0)), (2, .ref (q2 0)), (3, .ref o)]) G.1 G.2.1 dL_law_141 hl (by decide) rfl (fun ls hl => ?_)
  refine lv_aload_n G.1 G.2.1 dL_law_143 rfl (lv_at hl 4 rfl) ?_
  refine gl_m (As := []) (rest := []) G.fix (mX1_profile l D q2 cI cZ N S fv th (va_A (mw q2 cI cZ N S fv th) H.size) hok hinv) (fun _ _ _ _ h => h) (cwV 0 G.2.2.2.2.2.1 gL_law_X1_profile rfl rfl rfl (by decide +kernel) ⟨Nat.le_of_ble_eq_true rfl, Nat.le_of_ble_eq_true rfl⟩) hX hS rfl hl.1 rfl (Nat.zero_le _) dL_law_144 (show cells + 1 ≤ 1069 from hc) (show slots + 6 ≤ 9070 from hs) (fun r N2 S2 fv2 th2 H locs hp hX hS => ?_)
  obtain ⟨et, er, eN2, eS2⟩ := hp
  rw [eN, eS, eN2, eS2] at hX
  refine lv_istore (lv' := [(6, .int r), (5, .int (nI k)), (4, .int (nI (5 * j))), (0, .ref b), (1, .ref (q 0)), (2, .ref (q2 0)), (3, .ref o)]) G.1 G.2.1 dL_law_147 hl (by decide) rfl (fun ls hl => ?_)
  refine lv_aload_n G.1 G.2.1 dL_law_149 rfl (lv_at hl 5 rfl) ?_
  refine gc_v (As := []) (rest := []) G.fix (mX1_thrown l D q2 cI cZ _ _ fv2 th2 (gA s)) (cwV 0 G.2.2.2.2.2.1 gL_law_X1_thrown rfl rfl rfl (by decide +kernel) ⟨Nat.le_of_ble_eq_true rfl, Nat.le_of_ble_eq_true rfl⟩) mAt_blind (va_recv hX.mm.2.1 hX.mm.1 (ci := 1) (q0 := 0) rfl rfl) (fun U hU hW => by show mAt _ _ _ _ _ _ _ _ _ U U.heap; rw [hU]; exact hX.mm.moved hW) rfl hl.1 rfl (Nat.zero_le _) dL_law_150 (show cells + 1 ≤ 1069 from hc) (show slots + 6 ≤ 9070 from hs) (fun r9 hr9 => ?_)
  subst hr9
  refine lv_iload G.1 G.2.1 dL_law_153 (lv_at hl 1 rfl) ?_
  have hk : k < 2 ^ 31 := by rw [ek]; exact gk_lt _ _ _
  have ekt : th2 = k := et.trans ek.symm
  refine gn_eq G (by rw [ekt]; exact hk) hk (tgt := 160) dL_law_155 (by decide) (fun _ => ?_) (fun h => absurd ekt h)
  have hin := inv_if hok hinv (k := sk_profile N S) (fun h => inv_profile hok hinv h)
  refine lv_iload G.1 G.2.1 dL_law_160 (lv_at hl 1 rfl) ?_
  have hl2 : lv_has ls 7 [(4, .int (nI (5 * j))), (0, .ref b), (1, .ref (q 0)), (2, .ref (q2 0)), (3, .ref o)] := lv_sub hl [2, 3, 4, 5, 6] rfl
  refine gn_nez G hk (tgt := 177) dL_law_162 (by decide) (fun _ => ?_) (fun h0 => ?_)
  · refine lv_goto (tgt := 1521) G.1 G.2.1 dL_law_177 (by decide) ?_
    exact kk _ _ _ _ _ _ _ _ _ hin.1 hin.2 hX hS hl2
  · have h9 : sk_profile N S = 0 := ek.symm.trans h0
    have e9 : (nI 0).toNatClampNeg = 0 := by decide
    refine lv_aload_n G.1 G.2.1 dL_law_165 rfl (lv_at hl 6 rfl) ?_
    refine lv_iconst (v := nI 0) G.1 G.2.1 dL_law_166 (by decide) ?_
    refine va_lald (D := D) G.1 G.2.1 hX.2.1 hX.1 0 2 (f := g1) rfl rfl (by unfold vp_in; decide) dL_law_167 ?_
    rw [e9, ev h9]
    have er9 := er h9
    refine lv_iload G.1 G.2.1 dL_law_168 (lv_at hl 0 rfl) ?_
    refine lv_i2l (v := r.toInt64) G.1 G.2.1 dL_law_170 rfl ?_
    refine W.lcmp G.1 G.2.1 dL_law_171 ?_
    rw [er9]
    refine lv_if_eq G.1 G.2.1 (tgt := 177) dL_law_172 (by decide) (fun _ => ?_) (fun h => absurd ((lg_cmp_eq _ _).mpr rfl) h)
    refine lv_goto (tgt := 1521) G.1 G.2.1 dL_law_177 (by decide) ?_
    exact kk _ _ _ _ _ _ _ _ _ hin.1 hin.2 hX hS hl2
set_option maxRecDepth 100000 in
set_option maxHeartbeats 800000 in
/-- a call of bend in the script -/
theorem lc_bend (l : Launch) (hst : l.stackTraces = false) {p : Program} {e : Env} {s : State} {m : MethodId} {b : Nat} {below : List Frame} {meth : Method} {c : Code} {H : Heap} {locs : List Loc} {cells slots : Nat} {Q : State → Prop} {L : Nat} {xs : Nat → Int32} {D : va_G} {q q2 : Nat → Nat} {cI cZ cL : ClassId} {o : Nat} {N : Nat → Nat} {S : Nat → Nat → Nat} {tr fv : Nat → Nat} {th : Nat} {g : Nat → Int64} {j : Nat} {ls : Array Slot} (G : gF p s m #[Value.ref b] meth c cL_law ret 7 RL wsL_law) (hx : va_X b L xs s s.heap) (hb : b < s.heap.size) (hL : L ≤ 2560) (hj : 5 * j + 5 ≤ L) (hok : sp_ok N S) (hinv : sp_inv N S) (hX : lAt D q q2 cI cZ cL o N S tr N S fv th g s H) (hS : va_S (gA s) s.heap H locs) (hl : lv_has ls 7 [(4, .int (nI (5 * j))), (0, .ref b), (1, .ref (q 0)), (2, .ref (q2 0)), (3, .ref o)]) (hc : cells + 1 ≤ 1069) (hs : slots + 6 ≤ 9070) (kk : lK p l e s m b below meth c Q D q q2 cI cZ cL o j (cells + 1) (slots + 6)) : W p l e room_1 s m #[Value.ref b] below meth c H locs cells slots Q (F0 m 180 ls []) := by
  refine lv_aload_n G.1 G.2.1 dL_law_180 rfl (lv_at hl 2 rfl) ?_
  refine lv_aload_n G.1 G.2.1 dL_law_181 rfl (lv_at hl 1 rfl) ?_
  refine lv_iload G.1 G.2.1 dL_law_182 (lv_at hl 0 rfl) ?_
  refine lv_iconst (v := nI 1) G.1 G.2.1 dL_law_184 (by decide) ?_
  refine gn_iadd G dL_law_185 ?_
  refine va_sld G.1 G.2.1 hx hb (Nat.not_le.mpr hb) hS (vp_in_nI (show 5 * j + 1 < L by omega) (by omega)) dL_law_186 ?_
  refine lv_aload_n G.1 G.2.1 dL_law_187 rfl (lv_at hl 1 rfl) ?_
  refine lv_iload G.1 G.2.1 dL_law_188 (lv_at hl 0 rfl) ?_
  refine lv_iconst (v := nI 2) G.1 G.2.1 dL_law_190 (by decide) ?_
  refine gn_iadd G dL_law_191 ?_
  refine va_sld G.1 G.2.1 hx hb (Nat.not_le.mpr hb) hS (vp_in_nI (show 5 * j + 2 < L by omega) (by omega)) dL_law_192 ?_
  refine lv_aload_n G.1 G.2.1 dL_law_193 rfl (lv_at hl 1 rfl) ?_
  refine lv_iload G.1 G.2.1 dL_law_194 (lv_at hl 0 rfl) ?_
  refine lv_iconst (v := nI 3) G.1 G.2.1 dL_law_196 (by decide) ?_
  refine gn_iadd G dL_law_197 ?_
  refine va_sld G.1 G.2.1 hx hb (Nat.not_le.mpr hb) hS (vp_in_nI (show 5 * j + 3 < L by omega) (by omega)) dL_law_198 ?_
  refine lv_aload_n G.1 G.2.1 dL_law_199 rfl (lv_at hl 1 rfl) ?_
  refine lv_iload G.1 G.2.1 dL_law_200 (lv_at hl 0 rfl) ?_
  refine lv_iconst (v := nI 4) G.1 G.2.1 dL_law_202 (by decide) ?_
  refine gn_iadd G dL_law_203 ?_
  refine va_sld G.1 G.2.1 hx hb (Nat.not_le.mpr hb) hS (vp_in_nI (show 5 * j + 4 < L by omega) (by omega)) dL_law_204 ?_
  refine lv_aload_n G.1 G.2.1 dL_law_205 rfl (lv_at hl 4 rfl) ?_
  refine gl_wrap (As := [.ref (q 0), .int (xs (nI (5 * j + 1)).toNatClampNeg), .int (xs (nI (5 * j + 2)).toNatClampNeg), .int (xs (nI (5 * j + 3)).toNatClampNeg), .int (xs (nI (5 * j + 4)).toNatClampNeg), .ref o]) (rest := []) G.fix (mL_bend l hst D q cI o cL N S tr g (va_A (xw q cI N S tr) H.size) hok hinv (xs (nI (5 * j + 1)).toNatClampNeg) (xs (nI (5 * j + 2)).toNatClampNeg) (xs (nI (5 * j + 3)).toNatClampNeg) (xs (nI (5 * j + 4)).toNatClampNeg)) (vx_cwSW 6 G.2.2.2.2.2.1 gL_law_L_bend rfl rfl rfl (by decide +kernel) ⟨Nat.le_of_ble_eq_true rfl, Nat.le_of_ble_eq_true rfl⟩) hX hS rfl hl.1 rfl (Nat.zero_le _) dL_law_206 hc hs (fun k N1 S1 tr1 g1 H locs hp hX hS => ?_)
  obtain ⟨ek, eN, eS, ev⟩ := hp
  refine lv_istore (lv' := [(5, .int (nI k)), (4, .int (nI (5 * j))), (0, .ref b), (1, .ref (q 0)), (2, .ref (q2 0)), (3, .ref o)]) G.1 G.2.1 dL_law_209 hl (by decide) rfl (fun ls hl => ?_)
  refine lv_aload_n G.1 G.2.1 dL_law_211 rfl (lv_at hl 4 rfl) ?_
  refine lv_aload_n G.1 G.2.1 dL_law_212 rfl (lv_at hl 2 rfl) ?_
  refine lv_iload G.1 G.2.1 dL_law_213 (lv_at hl 1 rfl) ?_
  refine lv_iconst (v := nI 1) G.1 G.2.1 dL_law_215 (by decide) ?_
  refine gn_iadd G dL_law_216 ?_
  refine va_sld G.1 G.2.1 hx hb (Nat.not_le.mpr hb) hS (vp_in_nI (show 5 * j + 1 < L by omega) (by omega)) dL_law_217 ?_
  refine lv_aload_n G.1 G.2.1 dL_law_218 rfl (lv_at hl 2 rfl) ?_
  refine lv_iload G.1 G.2.1 dL_law_219 (lv_at hl 1 rfl) ?_
  refine lv_iconst (v := nI 2) G.1 G.2.1 dL_law_221 (by decide) ?_
  refine gn_iadd G dL_law_222 ?_
  refine va_sld G.1 G.2.1 hx hb (Nat.not_le.mpr hb) hS (vp_in_nI (show 5 * j + 2 < L by omega) (by omega)) dL_law_223 ?_
  refine lv_aload_n G.1 G.2.1 dL_law_224 rfl (lv_at hl 2 rfl) ?_
  refine lv_iload G.1 G.2.1 dL_law_225 (lv_at hl 1 rfl) ?_
  refine lv_iconst (v := nI 3) G.1 G.2.1 dL_law_227 (by decide) ?_
  refine gn_iadd G dL_law_228 ?_
  refine va_sld G.1 G.2.1 hx hb (Nat.not_le.mpr hb) hS (vp_in_nI (show 5 * j + 3 < L by omega) (by omega)) dL_law_229 ?_
  refine lv_aload_n G.1 G.2.1 dL_law_230 rfl (lv_at hl 2 rfl) ?_
  refine lv_iload G.1 G.2.1 dL_law_231 (lv_at hl 1 rfl) ?_
  refine lv_iconst (v := nI 4) G.1 G.2.1 dL_law_233 (by decide) ?_
  refine gn_iadd G dL_law_234 ?_
  refine va_sld G.1 G.2.1 hx hb (Nat.not_le.mpr hb) hS (vp_in_nI (show 5 * j + 4 < L by omega) (by omega)) dL_law_235 ?_
  refine gl_m (As := [.int (xs (nI (5 * j + 1)).toNatClampNeg), .int (xs (nI (5 * j + 2)).toNatClampNeg), .int (xs (nI (5 * j + 3)).toNatClampNeg), .int (xs (nI (5 * j + 4)).toNatClampNeg)]) (rest := []) G.fix (mX1_bend l D q2 cI cZ N S fv th (va_A (mw q2 cI cZ N S fv th) H.size) hok hinv (xs (nI (5 * j + 1)).toNatClampNeg) (xs (nI (5 * j + 2)).toNatClampNeg) (xs (nI (5 * j + 3)).toNatClampNeg) (xs (nI (5 * j + 4)).toNatClampNeg)) (fun _ _ _ _ h => h) (cwV 4 G.2.2.2.2.2.1 gL_law_X1_bend rfl rfl rfl (by decide +kernel) ⟨Nat.le_of_ble_eq_true rfl, Nat.le_of_ble_eq_true rfl⟩) hX hS rfl hl.1 rfl (Nat.zero_le _) dL_law_236 (show cells + 1 ≤ 1069 from hc) (show slots + 6 ≤ 9070 from hs) (fun r N2 S2 fv2 th2 H locs hp hX hS => ?_)
  obtain ⟨et, er, eN2, eS2⟩ := hp
  rw [eN, eS, eN2, eS2] at hX
  refine lv_istore (lv' := [(6, .int r), (5, .int (nI k)), (4, .int (nI (5 * j))), (0, .ref b), (1, .ref (q 0)), (2, .ref (q2 0)), (3, .ref o)]) G.1 G.2.1 dL_law_239 hl (by decide) rfl (fun ls hl => ?_)
  refine lv_aload_n G.1 G.2.1 dL_law_241 rfl (lv_at hl 5 rfl) ?_
  refine gc_v (As := []) (rest := []) G.fix (mX1_thrown l D q2 cI cZ _ _ fv2 th2 (gA s)) (cwV 0 G.2.2.2.2.2.1 gL_law_X1_thrown rfl rfl rfl (by decide +kernel) ⟨Nat.le_of_ble_eq_true rfl, Nat.le_of_ble_eq_true rfl⟩) mAt_blind (va_recv hX.mm.2.1 hX.mm.1 (ci := 1) (q0 := 0) rfl rfl) (fun U hU hW => by show mAt _ _ _ _ _ _ _ _ _ U U.heap; rw [hU]; exact hX.mm.moved hW) rfl hl.1 rfl (Nat.zero_le _) dL_law_242 (show cells + 1 ≤ 1069 from hc) (show slots + 6 ≤ 9070 from hs) (fun r9 hr9 => ?_)
  subst hr9
  refine lv_iload G.1 G.2.1 dL_law_245 (lv_at hl 1 rfl) ?_
  have hk : k < 2 ^ 31 := by rw [ek]; exact gk_lt _ _ _
  have ekt : th2 = k := et.trans ek.symm
  refine gn_eq G (by rw [ekt]; exact hk) hk (tgt := 252) dL_law_247 (by decide) (fun _ => ?_) (fun h => absurd ekt h)
  have hin := inv_if hok hinv (k := sk_bend N S (xs (nI (5 * j + 1)).toNatClampNeg) (xs (nI (5 * j + 2)).toNatClampNeg) (xs (nI (5 * j + 3)).toNatClampNeg) (xs (nI (5 * j + 4)).toNatClampNeg)) (fun h => inv_bend hok hinv h)
  refine lv_iload G.1 G.2.1 dL_law_252 (lv_at hl 1 rfl) ?_
  have hl2 : lv_has ls 7 [(4, .int (nI (5 * j))), (0, .ref b), (1, .ref (q 0)), (2, .ref (q2 0)), (3, .ref o)] := lv_sub hl [2, 3, 4, 5, 6] rfl
  refine gn_nez G hk (tgt := 269) dL_law_254 (by decide) (fun _ => ?_) (fun h0 => ?_)
  · refine lv_goto (tgt := 1521) G.1 G.2.1 dL_law_269 (by decide) ?_
    exact kk _ _ _ _ _ _ _ _ _ hin.1 hin.2 hX hS hl2
  · have h9 : sk_bend N S (xs (nI (5 * j + 1)).toNatClampNeg) (xs (nI (5 * j + 2)).toNatClampNeg) (xs (nI (5 * j + 3)).toNatClampNeg) (xs (nI (5 * j + 4)).toNatClampNeg) = 0 := ek.symm.trans h0
    have e9 : (nI 0).toNatClampNeg = 0 := by decide
    refine lv_aload_n G.1 G.2.1 dL_law_257 rfl (lv_at hl 6 rfl) ?_
    refine lv_iconst (v := nI 0) G.1 G.2.1 dL_law_258 (by decide) ?_
    refine va_lald (D := D) G.1 G.2.1 hX.2.1 hX.1 0 2 (f := g1) rfl rfl (by unfold vp_in; decide) dL_law_259 ?_
    rw [e9, ev h9]
    have er9 := er h9
    refine lv_iload G.1 G.2.1 dL_law_260 (lv_at hl 0 rfl) ?_
    refine lv_i2l (v := r.toInt64) G.1 G.2.1 dL_law_262 rfl ?_
    refine W.lcmp G.1 G.2.1 dL_law_263 ?_
    rw [er9]
    refine lv_if_eq G.1 G.2.1 (tgt := 269) dL_law_264 (by decide) (fun _ => ?_) (fun h => absurd ((lg_cmp_eq _ _).mpr rfl) h)
    refine lv_goto (tgt := 1521) G.1 G.2.1 dL_law_269 (by decide) ?_
    exact kk _ _ _ _ _ _ _ _ _ hin.1 hin.2 hX hS hl2
set_option maxRecDepth 100000 in
set_option maxHeartbeats 800000 in
/-- a call of reach in the script -/
theorem lc_reach (l : Launch) (hst : l.stackTraces = false) {p : Program} {e : Env} {s : State} {m : MethodId} {b : Nat} {below : List Frame} {meth : Method} {c : Code} {H : Heap} {locs : List Loc} {cells slots : Nat} {Q : State → Prop} {L : Nat} {xs : Nat → Int32} {D : va_G} {q q2 : Nat → Nat} {cI cZ cL : ClassId} {o : Nat} {N : Nat → Nat} {S : Nat → Nat → Nat} {tr fv : Nat → Nat} {th : Nat} {g : Nat → Int64} {j : Nat} {ls : Array Slot} (G : gF p s m #[Value.ref b] meth c cL_law ret 7 RL wsL_law) (hx : va_X b L xs s s.heap) (hb : b < s.heap.size) (hL : L ≤ 2560) (hj : 5 * j + 5 ≤ L) (hok : sp_ok N S) (hinv : sp_inv N S) (hX : lAt D q q2 cI cZ cL o N S tr N S fv th g s H) (hS : va_S (gA s) s.heap H locs) (hl : lv_has ls 7 [(4, .int (nI (5 * j))), (0, .ref b), (1, .ref (q 0)), (2, .ref (q2 0)), (3, .ref o)]) (hc : cells + 1 ≤ 1069) (hs : slots + 6 ≤ 9070) (kk : lK p l e s m b below meth c Q D q q2 cI cZ cL o j (cells + 1) (slots + 6)) : W p l e room_1 s m #[Value.ref b] below meth c H locs cells slots Q (F0 m 272 ls []) := by
  refine lv_aload_n G.1 G.2.1 dL_law_272 rfl (lv_at hl 2 rfl) ?_
  refine lv_aload_n G.1 G.2.1 dL_law_273 rfl (lv_at hl 1 rfl) ?_
  refine lv_iload G.1 G.2.1 dL_law_274 (lv_at hl 0 rfl) ?_
  refine lv_iconst (v := nI 1) G.1 G.2.1 dL_law_276 (by decide) ?_
  refine gn_iadd G dL_law_277 ?_
  refine va_sld G.1 G.2.1 hx hb (Nat.not_le.mpr hb) hS (vp_in_nI (show 5 * j + 1 < L by omega) (by omega)) dL_law_278 ?_
  refine lv_aload_n G.1 G.2.1 dL_law_279 rfl (lv_at hl 1 rfl) ?_
  refine lv_iload G.1 G.2.1 dL_law_280 (lv_at hl 0 rfl) ?_
  refine lv_iconst (v := nI 2) G.1 G.2.1 dL_law_282 (by decide) ?_
  refine gn_iadd G dL_law_283 ?_
  refine va_sld G.1 G.2.1 hx hb (Nat.not_le.mpr hb) hS (vp_in_nI (show 5 * j + 2 < L by omega) (by omega)) dL_law_284 ?_
  refine lv_aload_n G.1 G.2.1 dL_law_285 rfl (lv_at hl 1 rfl) ?_
  refine lv_iload G.1 G.2.1 dL_law_286 (lv_at hl 0 rfl) ?_
  refine lv_iconst (v := nI 3) G.1 G.2.1 dL_law_288 (by decide) ?_
  refine gn_iadd G dL_law_289 ?_
  refine va_sld G.1 G.2.1 hx hb (Nat.not_le.mpr hb) hS (vp_in_nI (show 5 * j + 3 < L by omega) (by omega)) dL_law_290 ?_
  refine lv_aload_n G.1 G.2.1 dL_law_291 rfl (lv_at hl 1 rfl) ?_
  refine lv_iload G.1 G.2.1 dL_law_292 (lv_at hl 0 rfl) ?_
  refine lv_iconst (v := nI 4) G.1 G.2.1 dL_law_294 (by decide) ?_
  refine gn_iadd G dL_law_295 ?_
  refine va_sld G.1 G.2.1 hx hb (Nat.not_le.mpr hb) hS (vp_in_nI (show 5 * j + 4 < L by omega) (by omega)) dL_law_296 ?_
  refine lv_aload_n G.1 G.2.1 dL_law_297 rfl (lv_at hl 4 rfl) ?_
  refine gl_wrap (As := [.ref (q 0), .int (xs (nI (5 * j + 1)).toNatClampNeg), .int (xs (nI (5 * j + 2)).toNatClampNeg), .int (xs (nI (5 * j + 3)).toNatClampNeg), .int (xs (nI (5 * j + 4)).toNatClampNeg), .ref o]) (rest := []) G.fix (mL_reach l hst D q cI o cL N S tr g (va_A (xw q cI N S tr) H.size) hok hinv (xs (nI (5 * j + 1)).toNatClampNeg) (xs (nI (5 * j + 2)).toNatClampNeg) (xs (nI (5 * j + 3)).toNatClampNeg) (xs (nI (5 * j + 4)).toNatClampNeg)) (vx_cwSW 6 G.2.2.2.2.2.1 gL_law_L_reach rfl rfl rfl (by decide +kernel) ⟨Nat.le_of_ble_eq_true rfl, Nat.le_of_ble_eq_true rfl⟩) hX hS rfl hl.1 rfl (Nat.zero_le _) dL_law_298 hc hs (fun k N1 S1 tr1 g1 H locs hp hX hS => ?_)
  obtain ⟨ek, eN, eS, ev⟩ := hp
  refine lv_istore (lv' := [(5, .int (nI k)), (4, .int (nI (5 * j))), (0, .ref b), (1, .ref (q 0)), (2, .ref (q2 0)), (3, .ref o)]) G.1 G.2.1 dL_law_301 hl (by decide) rfl (fun ls hl => ?_)
  refine lv_aload_n G.1 G.2.1 dL_law_303 rfl (lv_at hl 4 rfl) ?_
  refine lv_aload_n G.1 G.2.1 dL_law_304 rfl (lv_at hl 2 rfl) ?_
  refine lv_iload G.1 G.2.1 dL_law_305 (lv_at hl 1 rfl) ?_
  refine lv_iconst (v := nI 1) G.1 G.2.1 dL_law_307 (by decide) ?_
  refine gn_iadd G dL_law_308 ?_
  refine va_sld G.1 G.2.1 hx hb (Nat.not_le.mpr hb) hS (vp_in_nI (show 5 * j + 1 < L by omega) (by omega)) dL_law_309 ?_
  refine lv_aload_n G.1 G.2.1 dL_law_310 rfl (lv_at hl 2 rfl) ?_
  refine lv_iload G.1 G.2.1 dL_law_311 (lv_at hl 1 rfl) ?_
  refine lv_iconst (v := nI 2) G.1 G.2.1 dL_law_313 (by decide) ?_
  refine gn_iadd G dL_law_314 ?_
  refine va_sld G.1 G.2.1 hx hb (Nat.not_le.mpr hb) hS (vp_in_nI (show 5 * j + 2 < L by omega) (by omega)) dL_law_315 ?_
  refine lv_aload_n G.1 G.2.1 dL_law_316 rfl (lv_at hl 2 rfl) ?_
  refine lv_iload G.1 G.2.1 dL_law_317 (lv_at hl 1 rfl) ?_
  refine lv_iconst (v := nI 3) G.1 G.2.1 dL_law_319 (by decide) ?_
  refine gn_iadd G dL_law_320 ?_
  refine va_sld G.1 G.2.1 hx hb (Nat.not_le.mpr hb) hS (vp_in_nI (show 5 * j + 3 < L by omega) (by omega)) dL_law_321 ?_
  refine lv_aload_n G.1 G.2.1 dL_law_322 rfl (lv_at hl 2 rfl) ?_
  refine lv_iload G.1 G.2.1 dL_law_323 (lv_at hl 1 rfl) ?_
  refine lv_iconst (v := nI 4) G.1 G.2.1 dL_law_325 (by decide) ?_
  refine gn_iadd G dL_law_326 ?_
  refine va_sld G.1 G.2.1 hx hb (Nat.not_le.mpr hb) hS (vp_in_nI (show 5 * j + 4 < L by omega) (by omega)) dL_law_327 ?_
  refine gl_m (As := [.int (xs (nI (5 * j + 1)).toNatClampNeg), .int (xs (nI (5 * j + 2)).toNatClampNeg), .int (xs (nI (5 * j + 3)).toNatClampNeg), .int (xs (nI (5 * j + 4)).toNatClampNeg)]) (rest := []) G.fix (mX1_reach l D q2 cI cZ N S fv th (va_A (mw q2 cI cZ N S fv th) H.size) hok hinv (xs (nI (5 * j + 1)).toNatClampNeg) (xs (nI (5 * j + 2)).toNatClampNeg) (xs (nI (5 * j + 3)).toNatClampNeg) (xs (nI (5 * j + 4)).toNatClampNeg)) (fun _ _ _ _ h => h) (cwV 4 G.2.2.2.2.2.1 gL_law_X1_reach rfl rfl rfl (by decide +kernel) ⟨Nat.le_of_ble_eq_true rfl, Nat.le_of_ble_eq_true rfl⟩) hX hS rfl hl.1 rfl (Nat.zero_le _) dL_law_328 (show cells + 1 ≤ 1069 from hc) (show slots + 6 ≤ 9070 from hs) (fun r N2 S2 fv2 th2 H locs hp hX hS => ?_)
  obtain ⟨et, er, eN2, eS2⟩ := hp
  rw [eN, eS, eN2, eS2] at hX
  refine lv_istore (lv' := [(6, .int r), (5, .int (nI k)), (4, .int (nI (5 * j))), (0, .ref b), (1, .ref (q 0)), (2, .ref (q2 0)), (3, .ref o)]) G.1 G.2.1 dL_law_331 hl (by decide) rfl (fun ls hl => ?_)
  refine lv_aload_n G.1 G.2.1 dL_law_333 rfl (lv_at hl 5 rfl) ?_
  refine gc_v (As := []) (rest := []) G.fix (mX1_thrown l D q2 cI cZ _ _ fv2 th2 (gA s)) (cwV 0 G.2.2.2.2.2.1 gL_law_X1_thrown rfl rfl rfl (by decide +kernel) ⟨Nat.le_of_ble_eq_true rfl, Nat.le_of_ble_eq_true rfl⟩) mAt_blind (va_recv hX.mm.2.1 hX.mm.1 (ci := 1) (q0 := 0) rfl rfl) (fun U hU hW => by show mAt _ _ _ _ _ _ _ _ _ U U.heap; rw [hU]; exact hX.mm.moved hW) rfl hl.1 rfl (Nat.zero_le _) dL_law_334 (show cells + 1 ≤ 1069 from hc) (show slots + 6 ≤ 9070 from hs) (fun r9 hr9 => ?_)
  subst hr9
  refine lv_iload G.1 G.2.1 dL_law_337 (lv_at hl 1 rfl) ?_
  have hk : k < 2 ^ 31 := by rw [ek]; exact gk_lt _ _ _
  have ekt : th2 = k := et.trans ek.symm
  refine gn_eq G (by rw [ekt]; exact hk) hk (tgt := 344) dL_law_339 (by decide) (fun _ => ?_) (fun h => absurd ekt h)
  have hin := inv_if hok hinv (k := sk_reach N S (xs (nI (5 * j + 1)).toNatClampNeg) (xs (nI (5 * j + 2)).toNatClampNeg) (xs (nI (5 * j + 3)).toNatClampNeg) (xs (nI (5 * j + 4)).toNatClampNeg)) (fun h => inv_reach hok hinv h)
  refine lv_iload G.1 G.2.1 dL_law_344 (lv_at hl 1 rfl) ?_
  have hl2 : lv_has ls 7 [(4, .int (nI (5 * j))), (0, .ref b), (1, .ref (q 0)), (2, .ref (q2 0)), (3, .ref o)] := lv_sub hl [2, 3, 4, 5, 6] rfl
  refine gn_nez G hk (tgt := 361) dL_law_346 (by decide) (fun _ => ?_) (fun h0 => ?_)
  · refine lv_goto (tgt := 1521) G.1 G.2.1 dL_law_361 (by decide) ?_
    exact kk _ _ _ _ _ _ _ _ _ hin.1 hin.2 hX hS hl2
  · have h9 : sk_reach N S (xs (nI (5 * j + 1)).toNatClampNeg) (xs (nI (5 * j + 2)).toNatClampNeg) (xs (nI (5 * j + 3)).toNatClampNeg) (xs (nI (5 * j + 4)).toNatClampNeg) = 0 := ek.symm.trans h0
    have e9 : (nI 0).toNatClampNeg = 0 := by decide
    refine lv_aload_n G.1 G.2.1 dL_law_349 rfl (lv_at hl 6 rfl) ?_
    refine lv_iconst (v := nI 0) G.1 G.2.1 dL_law_350 (by decide) ?_
    refine va_lald (D := D) G.1 G.2.1 hX.2.1 hX.1 0 2 (f := g1) rfl rfl (by unfold vp_in; decide) dL_law_351 ?_
    rw [e9, ev h9]
    have er9 := er h9
    refine lv_iload G.1 G.2.1 dL_law_352 (lv_at hl 0 rfl) ?_
    refine lv_i2l (v := r.toInt64) G.1 G.2.1 dL_law_354 rfl ?_
    refine W.lcmp G.1 G.2.1 dL_law_355 ?_
    rw [er9]
    refine lv_if_eq G.1 G.2.1 (tgt := 361) dL_law_356 (by decide) (fun _ => ?_) (fun h => absurd ((lg_cmp_eq _ _).mpr rfl) h)
    refine lv_goto (tgt := 1521) G.1 G.2.1 dL_law_361 (by decide) ?_
    exact kk _ _ _ _ _ _ _ _ _ hin.1 hin.2 hX hS hl2
set_option maxRecDepth 100000 in
set_option maxHeartbeats 800000 in
/-- a call of way in the script -/
theorem lc_way (l : Launch) (hst : l.stackTraces = false) {p : Program} {e : Env} {s : State} {m : MethodId} {b : Nat} {below : List Frame} {meth : Method} {c : Code} {H : Heap} {locs : List Loc} {cells slots : Nat} {Q : State → Prop} {L : Nat} {xs : Nat → Int32} {D : va_G} {q q2 : Nat → Nat} {cI cZ cL : ClassId} {o : Nat} {N : Nat → Nat} {S : Nat → Nat → Nat} {tr fv : Nat → Nat} {th : Nat} {g : Nat → Int64} {j : Nat} {ls : Array Slot} (G : gF p s m #[Value.ref b] meth c cL_law ret 7 RL wsL_law) (hx : va_X b L xs s s.heap) (hb : b < s.heap.size) (hL : L ≤ 2560) (hj : 5 * j + 5 ≤ L) (hok : sp_ok N S) (hinv : sp_inv N S) (hX : lAt D q q2 cI cZ cL o N S tr N S fv th g s H) (hS : va_S (gA s) s.heap H locs) (hl : lv_has ls 7 [(4, .int (nI (5 * j))), (0, .ref b), (1, .ref (q 0)), (2, .ref (q2 0)), (3, .ref o)]) (hc : cells + 1 ≤ 1069) (hs : slots + 6 ≤ 9070) (kk : lK p l e s m b below meth c Q D q q2 cI cZ cL o j (cells + 1) (slots + 6)) : W p l e room_1 s m #[Value.ref b] below meth c H locs cells slots Q (F0 m 364 ls []) := by
  refine lv_aload_n G.1 G.2.1 dL_law_364 rfl (lv_at hl 2 rfl) ?_
  refine lv_aload_n G.1 G.2.1 dL_law_365 rfl (lv_at hl 1 rfl) ?_
  refine lv_iload G.1 G.2.1 dL_law_366 (lv_at hl 0 rfl) ?_
  refine lv_iconst (v := nI 1) G.1 G.2.1 dL_law_368 (by decide) ?_
  refine gn_iadd G dL_law_369 ?_
  refine va_sld G.1 G.2.1 hx hb (Nat.not_le.mpr hb) hS (vp_in_nI (show 5 * j + 1 < L by omega) (by omega)) dL_law_370 ?_
  refine lv_aload_n G.1 G.2.1 dL_law_371 rfl (lv_at hl 1 rfl) ?_
  refine lv_iload G.1 G.2.1 dL_law_372 (lv_at hl 0 rfl) ?_
  refine lv_iconst (v := nI 2) G.1 G.2.1 dL_law_374 (by decide) ?_
  refine gn_iadd G dL_law_375 ?_
  refine va_sld G.1 G.2.1 hx hb (Nat.not_le.mpr hb) hS (vp_in_nI (show 5 * j + 2 < L by omega) (by omega)) dL_law_376 ?_
  refine lv_aload_n G.1 G.2.1 dL_law_377 rfl (lv_at hl 4 rfl) ?_
  refine gl_wrap (As := [.ref (q 0), .int (xs (nI (5 * j + 1)).toNatClampNeg), .int (xs (nI (5 * j + 2)).toNatClampNeg), .ref o]) (rest := []) G.fix (mL_way l hst D q cI o cL N S tr g (va_A (xw q cI N S tr) H.size) hok hinv (xs (nI (5 * j + 1)).toNatClampNeg) (xs (nI (5 * j + 2)).toNatClampNeg)) (vx_cwSW 4 G.2.2.2.2.2.1 gL_law_L_way rfl rfl rfl (by decide +kernel) ⟨Nat.le_of_ble_eq_true rfl, Nat.le_of_ble_eq_true rfl⟩) hX hS rfl hl.1 rfl (Nat.zero_le _) dL_law_378 hc hs (fun k N1 S1 tr1 g1 H locs hp hX hS => ?_)
  obtain ⟨ek, eN, eS, ev⟩ := hp
  refine lv_istore (lv' := [(5, .int (nI k)), (4, .int (nI (5 * j))), (0, .ref b), (1, .ref (q 0)), (2, .ref (q2 0)), (3, .ref o)]) G.1 G.2.1 dL_law_381 hl (by decide) rfl (fun ls hl => ?_)
  refine lv_aload_n G.1 G.2.1 dL_law_383 rfl (lv_at hl 4 rfl) ?_
  refine lv_aload_n G.1 G.2.1 dL_law_384 rfl (lv_at hl 2 rfl) ?_
  refine lv_iload G.1 G.2.1 dL_law_385 (lv_at hl 1 rfl) ?_
  refine lv_iconst (v := nI 1) G.1 G.2.1 dL_law_387 (by decide) ?_
  refine gn_iadd G dL_law_388 ?_
  refine va_sld G.1 G.2.1 hx hb (Nat.not_le.mpr hb) hS (vp_in_nI (show 5 * j + 1 < L by omega) (by omega)) dL_law_389 ?_
  refine lv_aload_n G.1 G.2.1 dL_law_390 rfl (lv_at hl 2 rfl) ?_
  refine lv_iload G.1 G.2.1 dL_law_391 (lv_at hl 1 rfl) ?_
  refine lv_iconst (v := nI 2) G.1 G.2.1 dL_law_393 (by decide) ?_
  refine gn_iadd G dL_law_394 ?_
  refine va_sld G.1 G.2.1 hx hb (Nat.not_le.mpr hb) hS (vp_in_nI (show 5 * j + 2 < L by omega) (by omega)) dL_law_395 ?_
  refine gl_m (As := [.int (xs (nI (5 * j + 1)).toNatClampNeg), .int (xs (nI (5 * j + 2)).toNatClampNeg)]) (rest := []) G.fix (mX1_way l D q2 cI cZ N S fv th (va_A (mw q2 cI cZ N S fv th) H.size) hok hinv (xs (nI (5 * j + 1)).toNatClampNeg) (xs (nI (5 * j + 2)).toNatClampNeg)) (fun _ _ _ _ h => h) (cwV 2 G.2.2.2.2.2.1 gL_law_X1_way rfl rfl rfl (by decide +kernel) ⟨Nat.le_of_ble_eq_true rfl, Nat.le_of_ble_eq_true rfl⟩) hX hS rfl hl.1 rfl (Nat.zero_le _) dL_law_396 (show cells + 1 ≤ 1069 from hc) (show slots + 6 ≤ 9070 from hs) (fun r N2 S2 fv2 th2 H locs hp hX hS => ?_)
  obtain ⟨et, er, eN2, eS2⟩ := hp
  rw [eN, eS, eN2, eS2] at hX
  refine lv_istore (lv' := [(6, .int r), (5, .int (nI k)), (4, .int (nI (5 * j))), (0, .ref b), (1, .ref (q 0)), (2, .ref (q2 0)), (3, .ref o)]) G.1 G.2.1 dL_law_399 hl (by decide) rfl (fun ls hl => ?_)
  refine lv_aload_n G.1 G.2.1 dL_law_401 rfl (lv_at hl 5 rfl) ?_
  refine gc_v (As := []) (rest := []) G.fix (mX1_thrown l D q2 cI cZ _ _ fv2 th2 (gA s)) (cwV 0 G.2.2.2.2.2.1 gL_law_X1_thrown rfl rfl rfl (by decide +kernel) ⟨Nat.le_of_ble_eq_true rfl, Nat.le_of_ble_eq_true rfl⟩) mAt_blind (va_recv hX.mm.2.1 hX.mm.1 (ci := 1) (q0 := 0) rfl rfl) (fun U hU hW => by show mAt _ _ _ _ _ _ _ _ _ U U.heap; rw [hU]; exact hX.mm.moved hW) rfl hl.1 rfl (Nat.zero_le _) dL_law_402 (show cells + 1 ≤ 1069 from hc) (show slots + 6 ≤ 9070 from hs) (fun r9 hr9 => ?_)
  subst hr9
  refine lv_iload G.1 G.2.1 dL_law_405 (lv_at hl 1 rfl) ?_
  have hk : k < 2 ^ 31 := by rw [ek]; exact gk_lt _ _ _
  have ekt : th2 = k := et.trans ek.symm
  refine gn_eq G (by rw [ekt]; exact hk) hk (tgt := 412) dL_law_407 (by decide) (fun _ => ?_) (fun h => absurd ekt h)
  have hin := inv_if hok hinv (k := sk_way N S (xs (nI (5 * j + 1)).toNatClampNeg) (xs (nI (5 * j + 2)).toNatClampNeg)) (fun h => inv_way hok hinv h)
  refine lv_iload G.1 G.2.1 dL_law_412 (lv_at hl 1 rfl) ?_
  have hl2 : lv_has ls 7 [(4, .int (nI (5 * j))), (0, .ref b), (1, .ref (q 0)), (2, .ref (q2 0)), (3, .ref o)] := lv_sub hl [2, 3, 4, 5, 6] rfl
  refine gn_nez G hk (tgt := 429) dL_law_414 (by decide) (fun _ => ?_) (fun h0 => ?_)
  · refine lv_goto (tgt := 1521) G.1 G.2.1 dL_law_429 (by decide) ?_
    exact kk _ _ _ _ _ _ _ _ _ hin.1 hin.2 hX hS hl2
  · have h9 : sk_way N S (xs (nI (5 * j + 1)).toNatClampNeg) (xs (nI (5 * j + 2)).toNatClampNeg) = 0 := ek.symm.trans h0
    have e9 : (nI 0).toNatClampNeg = 0 := by decide
    refine lv_aload_n G.1 G.2.1 dL_law_417 rfl (lv_at hl 6 rfl) ?_
    refine lv_iconst (v := nI 0) G.1 G.2.1 dL_law_418 (by decide) ?_
    refine va_lald (D := D) G.1 G.2.1 hX.2.1 hX.1 0 2 (f := g1) rfl rfl (by unfold vp_in; decide) dL_law_419 ?_
    rw [e9, ev h9]
    have er9 := er h9
    refine lv_iload G.1 G.2.1 dL_law_420 (lv_at hl 0 rfl) ?_
    refine lv_i2l (v := r.toInt64) G.1 G.2.1 dL_law_422 rfl ?_
    refine W.lcmp G.1 G.2.1 dL_law_423 ?_
    rw [er9]
    refine lv_if_eq G.1 G.2.1 (tgt := 429) dL_law_424 (by decide) (fun _ => ?_) (fun h => absurd ((lg_cmp_eq _ _).mpr rfl) h)
    refine lv_goto (tgt := 1521) G.1 G.2.1 dL_law_429 (by decide) ?_
    exact kk _ _ _ _ _ _ _ _ _ hin.1 hin.2 hX hS hl2
set_option maxRecDepth 100000 in
set_option maxHeartbeats 800000 in
/-- a call of curve in the script -/
theorem lc_curve (l : Launch) (hst : l.stackTraces = false) {p : Program} {e : Env} {s : State} {m : MethodId} {b : Nat} {below : List Frame} {meth : Method} {c : Code} {H : Heap} {locs : List Loc} {cells slots : Nat} {Q : State → Prop} {L : Nat} {xs : Nat → Int32} {D : va_G} {q q2 : Nat → Nat} {cI cZ cL : ClassId} {o : Nat} {N : Nat → Nat} {S : Nat → Nat → Nat} {tr fv : Nat → Nat} {th : Nat} {g : Nat → Int64} {j : Nat} {ls : Array Slot} (G : gF p s m #[Value.ref b] meth c cL_law ret 7 RL wsL_law) (hx : va_X b L xs s s.heap) (hb : b < s.heap.size) (hL : L ≤ 2560) (hj : 5 * j + 5 ≤ L) (hok : sp_ok N S) (hinv : sp_inv N S) (hX : lAt D q q2 cI cZ cL o N S tr N S fv th g s H) (hS : va_S (gA s) s.heap H locs) (hl : lv_has ls 7 [(4, .int (nI (5 * j))), (0, .ref b), (1, .ref (q 0)), (2, .ref (q2 0)), (3, .ref o)]) (hc : cells + 1 ≤ 1069) (hs : slots + 6 ≤ 9070) (kk : lK p l e s m b below meth c Q D q q2 cI cZ cL o j (cells + 1) (slots + 6)) : W p l e room_1 s m #[Value.ref b] below meth c H locs cells slots Q (F0 m 432 ls []) := by
  refine lv_aload_n G.1 G.2.1 dL_law_432 rfl (lv_at hl 2 rfl) ?_
  refine lv_aload_n G.1 G.2.1 dL_law_433 rfl (lv_at hl 1 rfl) ?_
  refine lv_iload G.1 G.2.1 dL_law_434 (lv_at hl 0 rfl) ?_
  refine lv_iconst (v := nI 1) G.1 G.2.1 dL_law_436 (by decide) ?_
  refine gn_iadd G dL_law_437 ?_
  refine va_sld G.1 G.2.1 hx hb (Nat.not_le.mpr hb) hS (vp_in_nI (show 5 * j + 1 < L by omega) (by omega)) dL_law_438 ?_
  refine lv_aload_n G.1 G.2.1 dL_law_439 rfl (lv_at hl 1 rfl) ?_
  refine lv_iload G.1 G.2.1 dL_law_440 (lv_at hl 0 rfl) ?_
  refine lv_iconst (v := nI 2) G.1 G.2.1 dL_law_442 (by decide) ?_
  refine gn_iadd G dL_law_443 ?_
  refine va_sld G.1 G.2.1 hx hb (Nat.not_le.mpr hb) hS (vp_in_nI (show 5 * j + 2 < L by omega) (by omega)) dL_law_444 ?_
  refine lv_aload_n G.1 G.2.1 dL_law_445 rfl (lv_at hl 1 rfl) ?_
  refine lv_iload G.1 G.2.1 dL_law_446 (lv_at hl 0 rfl) ?_
  refine lv_iconst (v := nI 3) G.1 G.2.1 dL_law_448 (by decide) ?_
  refine gn_iadd G dL_law_449 ?_
  refine va_sld G.1 G.2.1 hx hb (Nat.not_le.mpr hb) hS (vp_in_nI (show 5 * j + 3 < L by omega) (by omega)) dL_law_450 ?_
  refine lv_aload_n G.1 G.2.1 dL_law_451 rfl (lv_at hl 4 rfl) ?_
  refine gl_wrap (As := [.ref (q 0), .int (xs (nI (5 * j + 1)).toNatClampNeg), .int (xs (nI (5 * j + 2)).toNatClampNeg), .int (xs (nI (5 * j + 3)).toNatClampNeg), .ref o]) (rest := []) G.fix (mL_curve l hst D q cI o cL N S tr g (va_A (xw q cI N S tr) H.size) hok hinv (xs (nI (5 * j + 1)).toNatClampNeg) (xs (nI (5 * j + 2)).toNatClampNeg) (xs (nI (5 * j + 3)).toNatClampNeg)) (vx_cwSW 5 G.2.2.2.2.2.1 gL_law_L_curve rfl rfl rfl (by decide +kernel) ⟨Nat.le_of_ble_eq_true rfl, Nat.le_of_ble_eq_true rfl⟩) hX hS rfl hl.1 rfl (Nat.zero_le _) dL_law_452 hc hs (fun k N1 S1 tr1 g1 H locs hp hX hS => ?_)
  obtain ⟨ek, eN, eS, ev⟩ := hp
  refine lv_istore (lv' := [(5, .int (nI k)), (4, .int (nI (5 * j))), (0, .ref b), (1, .ref (q 0)), (2, .ref (q2 0)), (3, .ref o)]) G.1 G.2.1 dL_law_455 hl (by decide) rfl (fun ls hl => ?_)
  refine lv_aload_n G.1 G.2.1 dL_law_457 rfl (lv_at hl 4 rfl) ?_
  refine lv_aload_n G.1 G.2.1 dL_law_458 rfl (lv_at hl 2 rfl) ?_
  refine lv_iload G.1 G.2.1 dL_law_459 (lv_at hl 1 rfl) ?_
  refine lv_iconst (v := nI 1) G.1 G.2.1 dL_law_461 (by decide) ?_
  refine gn_iadd G dL_law_462 ?_
  refine va_sld G.1 G.2.1 hx hb (Nat.not_le.mpr hb) hS (vp_in_nI (show 5 * j + 1 < L by omega) (by omega)) dL_law_463 ?_
  refine lv_aload_n G.1 G.2.1 dL_law_464 rfl (lv_at hl 2 rfl) ?_
  refine lv_iload G.1 G.2.1 dL_law_465 (lv_at hl 1 rfl) ?_
  refine lv_iconst (v := nI 2) G.1 G.2.1 dL_law_467 (by decide) ?_
  refine gn_iadd G dL_law_468 ?_
  refine va_sld G.1 G.2.1 hx hb (Nat.not_le.mpr hb) hS (vp_in_nI (show 5 * j + 2 < L by omega) (by omega)) dL_law_469 ?_
  refine lv_aload_n G.1 G.2.1 dL_law_470 rfl (lv_at hl 2 rfl) ?_
  refine lv_iload G.1 G.2.1 dL_law_471 (lv_at hl 1 rfl) ?_
  refine lv_iconst (v := nI 3) G.1 G.2.1 dL_law_473 (by decide) ?_
  refine gn_iadd G dL_law_474 ?_
  refine va_sld G.1 G.2.1 hx hb (Nat.not_le.mpr hb) hS (vp_in_nI (show 5 * j + 3 < L by omega) (by omega)) dL_law_475 ?_
  refine gl_m (As := [.int (xs (nI (5 * j + 1)).toNatClampNeg), .int (xs (nI (5 * j + 2)).toNatClampNeg), .int (xs (nI (5 * j + 3)).toNatClampNeg)]) (rest := []) G.fix (mX1_curve l D q2 cI cZ N S fv th (va_A (mw q2 cI cZ N S fv th) H.size) hok hinv (xs (nI (5 * j + 1)).toNatClampNeg) (xs (nI (5 * j + 2)).toNatClampNeg) (xs (nI (5 * j + 3)).toNatClampNeg)) (fun _ _ _ _ h => h) (cwV 3 G.2.2.2.2.2.1 gL_law_X1_curve rfl rfl rfl (by decide +kernel) ⟨Nat.le_of_ble_eq_true rfl, Nat.le_of_ble_eq_true rfl⟩) hX hS rfl hl.1 rfl (Nat.zero_le _) dL_law_476 (show cells + 1 ≤ 1069 from hc) (show slots + 6 ≤ 9070 from hs) (fun r N2 S2 fv2 th2 H locs hp hX hS => ?_)
  obtain ⟨et, er, eN2, eS2⟩ := hp
  rw [eN, eS, eN2, eS2] at hX
  refine lv_istore (lv' := [(6, .int r), (5, .int (nI k)), (4, .int (nI (5 * j))), (0, .ref b), (1, .ref (q 0)), (2, .ref (q2 0)), (3, .ref o)]) G.1 G.2.1 dL_law_479 hl (by decide) rfl (fun ls hl => ?_)
  refine lv_aload_n G.1 G.2.1 dL_law_481 rfl (lv_at hl 5 rfl) ?_
  refine gc_v (As := []) (rest := []) G.fix (mX1_thrown l D q2 cI cZ _ _ fv2 th2 (gA s)) (cwV 0 G.2.2.2.2.2.1 gL_law_X1_thrown rfl rfl rfl (by decide +kernel) ⟨Nat.le_of_ble_eq_true rfl, Nat.le_of_ble_eq_true rfl⟩) mAt_blind (va_recv hX.mm.2.1 hX.mm.1 (ci := 1) (q0 := 0) rfl rfl) (fun U hU hW => by show mAt _ _ _ _ _ _ _ _ _ U U.heap; rw [hU]; exact hX.mm.moved hW) rfl hl.1 rfl (Nat.zero_le _) dL_law_482 (show cells + 1 ≤ 1069 from hc) (show slots + 6 ≤ 9070 from hs) (fun r9 hr9 => ?_)
  subst hr9
  refine lv_iload G.1 G.2.1 dL_law_485 (lv_at hl 1 rfl) ?_
  have hk : k < 2 ^ 31 := by rw [ek]; exact gk_lt _ _ _
  have ekt : th2 = k := et.trans ek.symm
  refine gn_eq G (by rw [ekt]; exact hk) hk (tgt := 492) dL_law_487 (by decide) (fun _ => ?_) (fun h => absurd ekt h)
  have hin := inv_if hok hinv (k := sk_curve N S (xs (nI (5 * j + 1)).toNatClampNeg) (xs (nI (5 * j + 2)).toNatClampNeg) (xs (nI (5 * j + 3)).toNatClampNeg)) (fun h => (⟨hok, hinv⟩ : sp_ok (sN_curve N S (xs (nI (5 * j + 1)).toNatClampNeg) (xs (nI (5 * j + 2)).toNatClampNeg) (xs (nI (5 * j + 3)).toNatClampNeg)) (sS_curve N S (xs (nI (5 * j + 1)).toNatClampNeg) (xs (nI (5 * j + 2)).toNatClampNeg) (xs (nI (5 * j + 3)).toNatClampNeg)) ∧ sp_inv (sN_curve N S (xs (nI (5 * j + 1)).toNatClampNeg) (xs (nI (5 * j + 2)).toNatClampNeg) (xs (nI (5 * j + 3)).toNatClampNeg)) (sS_curve N S (xs (nI (5 * j + 1)).toNatClampNeg) (xs (nI (5 * j + 2)).toNatClampNeg) (xs (nI (5 * j + 3)).toNatClampNeg))))
  refine lv_iload G.1 G.2.1 dL_law_492 (lv_at hl 1 rfl) ?_
  have hl2 : lv_has ls 7 [(4, .int (nI (5 * j))), (0, .ref b), (1, .ref (q 0)), (2, .ref (q2 0)), (3, .ref o)] := lv_sub hl [2, 3, 4, 5, 6] rfl
  refine gn_nez G hk (tgt := 509) dL_law_494 (by decide) (fun _ => ?_) (fun h0 => ?_)
  · refine lv_goto (tgt := 1521) G.1 G.2.1 dL_law_509 (by decide) ?_
    exact kk _ _ _ _ _ _ _ _ _ hin.1 hin.2 hX hS hl2
  · have h9 : sk_curve N S (xs (nI (5 * j + 1)).toNatClampNeg) (xs (nI (5 * j + 2)).toNatClampNeg) (xs (nI (5 * j + 3)).toNatClampNeg) = 0 := ek.symm.trans h0
    have e9 : (nI 0).toNatClampNeg = 0 := by decide
    refine lv_aload_n G.1 G.2.1 dL_law_497 rfl (lv_at hl 6 rfl) ?_
    refine lv_iconst (v := nI 0) G.1 G.2.1 dL_law_498 (by decide) ?_
    refine va_lald (D := D) G.1 G.2.1 hX.2.1 hX.1 0 2 (f := g1) rfl rfl (by unfold vp_in; decide) dL_law_499 ?_
    rw [e9, ev h9]
    have er9 := er h9
    refine lv_iload G.1 G.2.1 dL_law_500 (lv_at hl 0 rfl) ?_
    refine lv_i2l (v := r.toInt64) G.1 G.2.1 dL_law_502 rfl ?_
    refine W.lcmp G.1 G.2.1 dL_law_503 ?_
    rw [er9]
    refine lv_if_eq G.1 G.2.1 (tgt := 509) dL_law_504 (by decide) (fun _ => ?_) (fun h => absurd ((lg_cmp_eq _ _).mpr rfl) h)
    refine lv_goto (tgt := 1521) G.1 G.2.1 dL_law_509 (by decide) ?_
    exact kk _ _ _ _ _ _ _ _ _ hin.1 hin.2 hX hS hl2
set_option maxRecDepth 100000 in
set_option maxHeartbeats 800000 in
/-- a call of taken in the script -/
theorem lc_taken (l : Launch) (hst : l.stackTraces = false) {p : Program} {e : Env} {s : State} {m : MethodId} {b : Nat} {below : List Frame} {meth : Method} {c : Code} {H : Heap} {locs : List Loc} {cells slots : Nat} {Q : State → Prop} {L : Nat} {xs : Nat → Int32} {D : va_G} {q q2 : Nat → Nat} {cI cZ cL : ClassId} {o : Nat} {N : Nat → Nat} {S : Nat → Nat → Nat} {tr fv : Nat → Nat} {th : Nat} {g : Nat → Int64} {j : Nat} {ls : Array Slot} (G : gF p s m #[Value.ref b] meth c cL_law ret 7 RL wsL_law) (hx : va_X b L xs s s.heap) (hb : b < s.heap.size) (hL : L ≤ 2560) (hj : 5 * j + 5 ≤ L) (hok : sp_ok N S) (hinv : sp_inv N S) (hX : lAt D q q2 cI cZ cL o N S tr N S fv th g s H) (hS : va_S (gA s) s.heap H locs) (hl : lv_has ls 7 [(4, .int (nI (5 * j))), (0, .ref b), (1, .ref (q 0)), (2, .ref (q2 0)), (3, .ref o)]) (hc : cells + 1 ≤ 1069) (hs : slots + 6 ≤ 9070) (kk : lK p l e s m b below meth c Q D q q2 cI cZ cL o j (cells + 1) (slots + 6)) : W p l e room_1 s m #[Value.ref b] below meth c H locs cells slots Q (F0 m 512 ls []) := by
  refine lv_aload_n G.1 G.2.1 dL_law_512 rfl (lv_at hl 2 rfl) ?_
  refine lv_aload_n G.1 G.2.1 dL_law_513 rfl (lv_at hl 1 rfl) ?_
  refine lv_iload G.1 G.2.1 dL_law_514 (lv_at hl 0 rfl) ?_
  refine lv_iconst (v := nI 1) G.1 G.2.1 dL_law_516 (by decide) ?_
  refine gn_iadd G dL_law_517 ?_
  refine va_sld G.1 G.2.1 hx hb (Nat.not_le.mpr hb) hS (vp_in_nI (show 5 * j + 1 < L by omega) (by omega)) dL_law_518 ?_
  refine lv_aload_n G.1 G.2.1 dL_law_519 rfl (lv_at hl 1 rfl) ?_
  refine lv_iload G.1 G.2.1 dL_law_520 (lv_at hl 0 rfl) ?_
  refine lv_iconst (v := nI 2) G.1 G.2.1 dL_law_522 (by decide) ?_
  refine gn_iadd G dL_law_523 ?_
  refine va_sld G.1 G.2.1 hx hb (Nat.not_le.mpr hb) hS (vp_in_nI (show 5 * j + 2 < L by omega) (by omega)) dL_law_524 ?_
  refine lv_aload_n G.1 G.2.1 dL_law_525 rfl (lv_at hl 1 rfl) ?_
  refine lv_iload G.1 G.2.1 dL_law_526 (lv_at hl 0 rfl) ?_
  refine lv_iconst (v := nI 3) G.1 G.2.1 dL_law_528 (by decide) ?_
  refine gn_iadd G dL_law_529 ?_
  refine va_sld G.1 G.2.1 hx hb (Nat.not_le.mpr hb) hS (vp_in_nI (show 5 * j + 3 < L by omega) (by omega)) dL_law_530 ?_
  refine lv_aload_n G.1 G.2.1 dL_law_531 rfl (lv_at hl 4 rfl) ?_
  refine gl_wrap (As := [.ref (q 0), .int (xs (nI (5 * j + 1)).toNatClampNeg), .int (xs (nI (5 * j + 2)).toNatClampNeg), .int (xs (nI (5 * j + 3)).toNatClampNeg), .ref o]) (rest := []) G.fix (mL_taken l hst D q cI o cL N S tr g (va_A (xw q cI N S tr) H.size) hok hinv (xs (nI (5 * j + 1)).toNatClampNeg) (xs (nI (5 * j + 2)).toNatClampNeg) (xs (nI (5 * j + 3)).toNatClampNeg)) (vx_cwSW 5 G.2.2.2.2.2.1 gL_law_L_taken rfl rfl rfl (by decide +kernel) ⟨Nat.le_of_ble_eq_true rfl, Nat.le_of_ble_eq_true rfl⟩) hX hS rfl hl.1 rfl (Nat.zero_le _) dL_law_532 hc hs (fun k N1 S1 tr1 g1 H locs hp hX hS => ?_)
  obtain ⟨ek, eN, eS, ev⟩ := hp
  refine lv_istore (lv' := [(5, .int (nI k)), (4, .int (nI (5 * j))), (0, .ref b), (1, .ref (q 0)), (2, .ref (q2 0)), (3, .ref o)]) G.1 G.2.1 dL_law_535 hl (by decide) rfl (fun ls hl => ?_)
  refine lv_aload_n G.1 G.2.1 dL_law_537 rfl (lv_at hl 4 rfl) ?_
  refine lv_aload_n G.1 G.2.1 dL_law_538 rfl (lv_at hl 2 rfl) ?_
  refine lv_iload G.1 G.2.1 dL_law_539 (lv_at hl 1 rfl) ?_
  refine lv_iconst (v := nI 1) G.1 G.2.1 dL_law_541 (by decide) ?_
  refine gn_iadd G dL_law_542 ?_
  refine va_sld G.1 G.2.1 hx hb (Nat.not_le.mpr hb) hS (vp_in_nI (show 5 * j + 1 < L by omega) (by omega)) dL_law_543 ?_
  refine lv_aload_n G.1 G.2.1 dL_law_544 rfl (lv_at hl 2 rfl) ?_
  refine lv_iload G.1 G.2.1 dL_law_545 (lv_at hl 1 rfl) ?_
  refine lv_iconst (v := nI 2) G.1 G.2.1 dL_law_547 (by decide) ?_
  refine gn_iadd G dL_law_548 ?_
  refine va_sld G.1 G.2.1 hx hb (Nat.not_le.mpr hb) hS (vp_in_nI (show 5 * j + 2 < L by omega) (by omega)) dL_law_549 ?_
  refine lv_aload_n G.1 G.2.1 dL_law_550 rfl (lv_at hl 2 rfl) ?_
  refine lv_iload G.1 G.2.1 dL_law_551 (lv_at hl 1 rfl) ?_
  refine lv_iconst (v := nI 3) G.1 G.2.1 dL_law_553 (by decide) ?_
  refine gn_iadd G dL_law_554 ?_
  refine va_sld G.1 G.2.1 hx hb (Nat.not_le.mpr hb) hS (vp_in_nI (show 5 * j + 3 < L by omega) (by omega)) dL_law_555 ?_
  refine gl_m (As := [.int (xs (nI (5 * j + 1)).toNatClampNeg), .int (xs (nI (5 * j + 2)).toNatClampNeg), .int (xs (nI (5 * j + 3)).toNatClampNeg)]) (rest := []) G.fix (mX1_taken l D q2 cI cZ N S fv th (va_A (mw q2 cI cZ N S fv th) H.size) hok hinv (xs (nI (5 * j + 1)).toNatClampNeg) (xs (nI (5 * j + 2)).toNatClampNeg) (xs (nI (5 * j + 3)).toNatClampNeg)) (fun _ _ _ _ h => h) (cwV 3 G.2.2.2.2.2.1 gL_law_X1_taken rfl rfl rfl (by decide +kernel) ⟨Nat.le_of_ble_eq_true rfl, Nat.le_of_ble_eq_true rfl⟩) hX hS rfl hl.1 rfl (Nat.zero_le _) dL_law_556 (show cells + 1 ≤ 1069 from hc) (show slots + 6 ≤ 9070 from hs) (fun r N2 S2 fv2 th2 H locs hp hX hS => ?_)
  obtain ⟨et, er, eN2, eS2⟩ := hp
  rw [eN, eS, eN2, eS2] at hX
  refine lv_istore (lv' := [(6, .int r), (5, .int (nI k)), (4, .int (nI (5 * j))), (0, .ref b), (1, .ref (q 0)), (2, .ref (q2 0)), (3, .ref o)]) G.1 G.2.1 dL_law_559 hl (by decide) rfl (fun ls hl => ?_)
  refine lv_aload_n G.1 G.2.1 dL_law_561 rfl (lv_at hl 5 rfl) ?_
  refine gc_v (As := []) (rest := []) G.fix (mX1_thrown l D q2 cI cZ _ _ fv2 th2 (gA s)) (cwV 0 G.2.2.2.2.2.1 gL_law_X1_thrown rfl rfl rfl (by decide +kernel) ⟨Nat.le_of_ble_eq_true rfl, Nat.le_of_ble_eq_true rfl⟩) mAt_blind (va_recv hX.mm.2.1 hX.mm.1 (ci := 1) (q0 := 0) rfl rfl) (fun U hU hW => by show mAt _ _ _ _ _ _ _ _ _ U U.heap; rw [hU]; exact hX.mm.moved hW) rfl hl.1 rfl (Nat.zero_le _) dL_law_562 (show cells + 1 ≤ 1069 from hc) (show slots + 6 ≤ 9070 from hs) (fun r9 hr9 => ?_)
  subst hr9
  refine lv_iload G.1 G.2.1 dL_law_565 (lv_at hl 1 rfl) ?_
  have hk : k < 2 ^ 31 := by rw [ek]; exact gk_lt _ _ _
  have ekt : th2 = k := et.trans ek.symm
  refine gn_eq G (by rw [ekt]; exact hk) hk (tgt := 572) dL_law_567 (by decide) (fun _ => ?_) (fun h => absurd ekt h)
  have hin := inv_if hok hinv (k := sk_taken N S (xs (nI (5 * j + 1)).toNatClampNeg) (xs (nI (5 * j + 2)).toNatClampNeg) (xs (nI (5 * j + 3)).toNatClampNeg)) (fun h => (⟨hok, hinv⟩ : sp_ok (sN_taken N S (xs (nI (5 * j + 1)).toNatClampNeg) (xs (nI (5 * j + 2)).toNatClampNeg) (xs (nI (5 * j + 3)).toNatClampNeg)) (sS_taken N S (xs (nI (5 * j + 1)).toNatClampNeg) (xs (nI (5 * j + 2)).toNatClampNeg) (xs (nI (5 * j + 3)).toNatClampNeg)) ∧ sp_inv (sN_taken N S (xs (nI (5 * j + 1)).toNatClampNeg) (xs (nI (5 * j + 2)).toNatClampNeg) (xs (nI (5 * j + 3)).toNatClampNeg)) (sS_taken N S (xs (nI (5 * j + 1)).toNatClampNeg) (xs (nI (5 * j + 2)).toNatClampNeg) (xs (nI (5 * j + 3)).toNatClampNeg))))
  refine lv_iload G.1 G.2.1 dL_law_572 (lv_at hl 1 rfl) ?_
  have hl2 : lv_has ls 7 [(4, .int (nI (5 * j))), (0, .ref b), (1, .ref (q 0)), (2, .ref (q2 0)), (3, .ref o)] := lv_sub hl [2, 3, 4, 5, 6] rfl
  refine gn_nez G hk (tgt := 589) dL_law_574 (by decide) (fun _ => ?_) (fun h0 => ?_)
  · refine lv_goto (tgt := 1521) G.1 G.2.1 dL_law_589 (by decide) ?_
    exact kk _ _ _ _ _ _ _ _ _ hin.1 hin.2 hX hS hl2
  · have h9 : sk_taken N S (xs (nI (5 * j + 1)).toNatClampNeg) (xs (nI (5 * j + 2)).toNatClampNeg) (xs (nI (5 * j + 3)).toNatClampNeg) = 0 := ek.symm.trans h0
    have e9 : (nI 0).toNatClampNeg = 0 := by decide
    refine lv_aload_n G.1 G.2.1 dL_law_577 rfl (lv_at hl 6 rfl) ?_
    refine lv_iconst (v := nI 0) G.1 G.2.1 dL_law_578 (by decide) ?_
    refine va_lald (D := D) G.1 G.2.1 hX.2.1 hX.1 0 2 (f := g1) rfl rfl (by unfold vp_in; decide) dL_law_579 ?_
    rw [e9, ev h9]
    have er9 := er h9
    refine lv_iload G.1 G.2.1 dL_law_580 (lv_at hl 0 rfl) ?_
    refine lv_i2l (v := r.toInt64) G.1 G.2.1 dL_law_582 rfl ?_
    refine W.lcmp G.1 G.2.1 dL_law_583 ?_
    rw [er9]
    refine lv_if_eq G.1 G.2.1 (tgt := 589) dL_law_584 (by decide) (fun _ => ?_) (fun h => absurd ((lg_cmp_eq _ _).mpr rfl) h)
    refine lv_goto (tgt := 1521) G.1 G.2.1 dL_law_589 (by decide) ?_
    exact kk _ _ _ _ _ _ _ _ _ hin.1 hin.2 hX hS hl2
set_option maxRecDepth 100000 in
set_option maxHeartbeats 800000 in
/-- a call of chain in the script -/
theorem lc_chain (l : Launch) (hst : l.stackTraces = false) {p : Program} {e : Env} {s : State} {m : MethodId} {b : Nat} {below : List Frame} {meth : Method} {c : Code} {H : Heap} {locs : List Loc} {cells slots : Nat} {Q : State → Prop} {L : Nat} {xs : Nat → Int32} {D : va_G} {q q2 : Nat → Nat} {cI cZ cL : ClassId} {o : Nat} {N : Nat → Nat} {S : Nat → Nat → Nat} {tr fv : Nat → Nat} {th : Nat} {g : Nat → Int64} {j : Nat} {ls : Array Slot} (G : gF p s m #[Value.ref b] meth c cL_law ret 7 RL wsL_law) (hx : va_X b L xs s s.heap) (hb : b < s.heap.size) (hL : L ≤ 2560) (hj : 5 * j + 5 ≤ L) (hok : sp_ok N S) (hinv : sp_inv N S) (hX : lAt D q q2 cI cZ cL o N S tr N S fv th g s H) (hS : va_S (gA s) s.heap H locs) (hl : lv_has ls 7 [(4, .int (nI (5 * j))), (0, .ref b), (1, .ref (q 0)), (2, .ref (q2 0)), (3, .ref o)]) (hc : cells + 1 ≤ 1069) (hs : slots + 6 ≤ 9070) (kk : lK p l e s m b below meth c Q D q q2 cI cZ cL o j (cells + 1) (slots + 6)) : W p l e room_1 s m #[Value.ref b] below meth c H locs cells slots Q (F0 m 592 ls []) := by
  refine lv_aload_n G.1 G.2.1 dL_law_592 rfl (lv_at hl 2 rfl) ?_
  refine lv_aload_n G.1 G.2.1 dL_law_593 rfl (lv_at hl 4 rfl) ?_
  refine gl_wrap (As := [.ref (q 0), .ref o]) (rest := []) G.fix (mL_chain l hst D q cI o cL N S tr g (va_A (xw q cI N S tr) H.size) hok hinv) (vx_cwSW 2 G.2.2.2.2.2.1 gL_law_L_chain rfl rfl rfl (by decide +kernel) ⟨Nat.le_of_ble_eq_true rfl, Nat.le_of_ble_eq_true rfl⟩) hX hS rfl hl.1 rfl (Nat.zero_le _) dL_law_594 hc hs (fun k N1 S1 tr1 g1 H locs hp hX hS => ?_)
  obtain ⟨ek, eN, eS, ev⟩ := hp
  refine lv_istore (lv' := [(5, .int (nI k)), (4, .int (nI (5 * j))), (0, .ref b), (1, .ref (q 0)), (2, .ref (q2 0)), (3, .ref o)]) G.1 G.2.1 dL_law_597 hl (by decide) rfl (fun ls hl => ?_)
  refine lv_aload_n G.1 G.2.1 dL_law_599 rfl (lv_at hl 4 rfl) ?_
  refine gl_m (As := []) (rest := []) G.fix (mX1_chain l D q2 cI cZ N S fv th (va_A (mw q2 cI cZ N S fv th) H.size) hok hinv) (fun _ _ _ _ h => h) (cwV 0 G.2.2.2.2.2.1 gL_law_X1_chain rfl rfl rfl (by decide +kernel) ⟨Nat.le_of_ble_eq_true rfl, Nat.le_of_ble_eq_true rfl⟩) hX hS rfl hl.1 rfl (Nat.zero_le _) dL_law_600 (show cells + 1 ≤ 1069 from hc) (show slots + 6 ≤ 9070 from hs) (fun r N2 S2 fv2 th2 H locs hp hX hS => ?_)
  obtain ⟨et, er, eN2, eS2⟩ := hp
  rw [eN, eS, eN2, eS2] at hX
  refine lv_istore (lv' := [(6, .int r), (5, .int (nI k)), (4, .int (nI (5 * j))), (0, .ref b), (1, .ref (q 0)), (2, .ref (q2 0)), (3, .ref o)]) G.1 G.2.1 dL_law_603 hl (by decide) rfl (fun ls hl => ?_)
  refine lv_aload_n G.1 G.2.1 dL_law_605 rfl (lv_at hl 5 rfl) ?_
  refine gc_v (As := []) (rest := []) G.fix (mX1_thrown l D q2 cI cZ _ _ fv2 th2 (gA s)) (cwV 0 G.2.2.2.2.2.1 gL_law_X1_thrown rfl rfl rfl (by decide +kernel) ⟨Nat.le_of_ble_eq_true rfl, Nat.le_of_ble_eq_true rfl⟩) mAt_blind (va_recv hX.mm.2.1 hX.mm.1 (ci := 1) (q0 := 0) rfl rfl) (fun U hU hW => by show mAt _ _ _ _ _ _ _ _ _ U U.heap; rw [hU]; exact hX.mm.moved hW) rfl hl.1 rfl (Nat.zero_le _) dL_law_606 (show cells + 1 ≤ 1069 from hc) (show slots + 6 ≤ 9070 from hs) (fun r9 hr9 => ?_)
  subst hr9
  refine lv_iload G.1 G.2.1 dL_law_609 (lv_at hl 1 rfl) ?_
  have hk : k < 2 ^ 31 := by rw [ek]; exact gk_lt _ _ _
  have ekt : th2 = k := et.trans ek.symm
  refine gn_eq G (by rw [ekt]; exact hk) hk (tgt := 616) dL_law_611 (by decide) (fun _ => ?_) (fun h => absurd ekt h)
  have hin := inv_if hok hinv (k := sk_chain N S) (fun h => inv_chain hok hinv h)
  refine lv_iload G.1 G.2.1 dL_law_616 (lv_at hl 1 rfl) ?_
  have hl2 : lv_has ls 7 [(4, .int (nI (5 * j))), (0, .ref b), (1, .ref (q 0)), (2, .ref (q2 0)), (3, .ref o)] := lv_sub hl [2, 3, 4, 5, 6] rfl
  refine gn_nez G hk (tgt := 633) dL_law_618 (by decide) (fun _ => ?_) (fun h0 => ?_)
  · refine lv_goto (tgt := 1521) G.1 G.2.1 dL_law_633 (by decide) ?_
    exact kk _ _ _ _ _ _ _ _ _ hin.1 hin.2 hX hS hl2
  · have h9 : sk_chain N S = 0 := ek.symm.trans h0
    have e9 : (nI 0).toNatClampNeg = 0 := by decide
    refine lv_aload_n G.1 G.2.1 dL_law_621 rfl (lv_at hl 6 rfl) ?_
    refine lv_iconst (v := nI 0) G.1 G.2.1 dL_law_622 (by decide) ?_
    refine va_lald (D := D) G.1 G.2.1 hX.2.1 hX.1 0 2 (f := g1) rfl rfl (by unfold vp_in; decide) dL_law_623 ?_
    rw [e9, ev h9]
    have er9 := er h9
    refine lv_iload G.1 G.2.1 dL_law_624 (lv_at hl 0 rfl) ?_
    refine lv_i2l (v := r.toInt64) G.1 G.2.1 dL_law_626 rfl ?_
    refine W.lcmp G.1 G.2.1 dL_law_627 ?_
    rw [er9]
    refine lv_if_eq G.1 G.2.1 (tgt := 633) dL_law_628 (by decide) (fun _ => ?_) (fun h => absurd ((lg_cmp_eq _ _).mpr rfl) h)
    refine lv_goto (tgt := 1521) G.1 G.2.1 dL_law_633 (by decide) ?_
    exact kk _ _ _ _ _ _ _ _ _ hin.1 hin.2 hX hS hl2
set_option maxRecDepth 100000 in
set_option maxHeartbeats 800000 in
/-- a call of add in the script -/
theorem lc_add (l : Launch) (hst : l.stackTraces = false) {p : Program} {e : Env} {s : State} {m : MethodId} {b : Nat} {below : List Frame} {meth : Method} {c : Code} {H : Heap} {locs : List Loc} {cells slots : Nat} {Q : State → Prop} {L : Nat} {xs : Nat → Int32} {D : va_G} {q q2 : Nat → Nat} {cI cZ cL : ClassId} {o : Nat} {N : Nat → Nat} {S : Nat → Nat → Nat} {tr fv : Nat → Nat} {th : Nat} {g : Nat → Int64} {j : Nat} {ls : Array Slot} (G : gF p s m #[Value.ref b] meth c cL_law ret 7 RL wsL_law) (hx : va_X b L xs s s.heap) (hb : b < s.heap.size) (hL : L ≤ 2560) (hj : 5 * j + 5 ≤ L) (hok : sp_ok N S) (hinv : sp_inv N S) (hX : lAt D q q2 cI cZ cL o N S tr N S fv th g s H) (hS : va_S (gA s) s.heap H locs) (hl : lv_has ls 7 [(4, .int (nI (5 * j))), (0, .ref b), (1, .ref (q 0)), (2, .ref (q2 0)), (3, .ref o)]) (hc : cells + 1 ≤ 1069) (hs : slots + 6 ≤ 9070) (kk : lK p l e s m b below meth c Q D q q2 cI cZ cL o j (cells + 1) (slots + 6)) : W p l e room_1 s m #[Value.ref b] below meth c H locs cells slots Q (F0 m 636 ls []) := by
  refine lv_aload_n G.1 G.2.1 dL_law_636 rfl (lv_at hl 2 rfl) ?_
  refine lv_aload_n G.1 G.2.1 dL_law_637 rfl (lv_at hl 1 rfl) ?_
  refine lv_iload G.1 G.2.1 dL_law_638 (lv_at hl 0 rfl) ?_
  refine lv_iconst (v := nI 1) G.1 G.2.1 dL_law_640 (by decide) ?_
  refine gn_iadd G dL_law_641 ?_
  refine va_sld G.1 G.2.1 hx hb (Nat.not_le.mpr hb) hS (vp_in_nI (show 5 * j + 1 < L by omega) (by omega)) dL_law_642 ?_
  refine lv_aload_n G.1 G.2.1 dL_law_643 rfl (lv_at hl 1 rfl) ?_
  refine lv_iload G.1 G.2.1 dL_law_644 (lv_at hl 0 rfl) ?_
  refine lv_iconst (v := nI 2) G.1 G.2.1 dL_law_646 (by decide) ?_
  refine gn_iadd G dL_law_647 ?_
  refine va_sld G.1 G.2.1 hx hb (Nat.not_le.mpr hb) hS (vp_in_nI (show 5 * j + 2 < L by omega) (by omega)) dL_law_648 ?_
  refine lv_aload_n G.1 G.2.1 dL_law_649 rfl (lv_at hl 4 rfl) ?_
  refine gl_wrap (As := [.ref (q 0), .int (xs (nI (5 * j + 1)).toNatClampNeg), .int (xs (nI (5 * j + 2)).toNatClampNeg), .ref o]) (rest := []) G.fix (mL_add l hst D q cI o cL N S tr g (va_A (xw q cI N S tr) H.size) hok hinv (xs (nI (5 * j + 1)).toNatClampNeg) (xs (nI (5 * j + 2)).toNatClampNeg)) (vx_cwSW 4 G.2.2.2.2.2.1 gL_law_L_add rfl rfl rfl (by decide +kernel) ⟨Nat.le_of_ble_eq_true rfl, Nat.le_of_ble_eq_true rfl⟩) hX hS rfl hl.1 rfl (Nat.zero_le _) dL_law_650 hc hs (fun k N1 S1 tr1 g1 H locs hp hX hS => ?_)
  obtain ⟨ek, eN, eS, ev⟩ := hp
  refine lv_istore (lv' := [(5, .int (nI k)), (4, .int (nI (5 * j))), (0, .ref b), (1, .ref (q 0)), (2, .ref (q2 0)), (3, .ref o)]) G.1 G.2.1 dL_law_653 hl (by decide) rfl (fun ls hl => ?_)
  refine lv_aload_n G.1 G.2.1 dL_law_655 rfl (lv_at hl 4 rfl) ?_
  refine lv_aload_n G.1 G.2.1 dL_law_656 rfl (lv_at hl 2 rfl) ?_
  refine lv_iload G.1 G.2.1 dL_law_657 (lv_at hl 1 rfl) ?_
  refine lv_iconst (v := nI 1) G.1 G.2.1 dL_law_659 (by decide) ?_
  refine gn_iadd G dL_law_660 ?_
  refine va_sld G.1 G.2.1 hx hb (Nat.not_le.mpr hb) hS (vp_in_nI (show 5 * j + 1 < L by omega) (by omega)) dL_law_661 ?_
  refine lv_aload_n G.1 G.2.1 dL_law_662 rfl (lv_at hl 2 rfl) ?_
  refine lv_iload G.1 G.2.1 dL_law_663 (lv_at hl 1 rfl) ?_
  refine lv_iconst (v := nI 2) G.1 G.2.1 dL_law_665 (by decide) ?_
  refine gn_iadd G dL_law_666 ?_
  refine va_sld G.1 G.2.1 hx hb (Nat.not_le.mpr hb) hS (vp_in_nI (show 5 * j + 2 < L by omega) (by omega)) dL_law_667 ?_
  refine gl_m (As := [.int (xs (nI (5 * j + 1)).toNatClampNeg), .int (xs (nI (5 * j + 2)).toNatClampNeg)]) (rest := []) G.fix (mX1_add l D q2 cI cZ N S fv th (va_A (mw q2 cI cZ N S fv th) H.size) hok hinv (xs (nI (5 * j + 1)).toNatClampNeg) (xs (nI (5 * j + 2)).toNatClampNeg)) (fun _ _ _ _ h => h) (cwV 2 G.2.2.2.2.2.1 gL_law_X1_add rfl rfl rfl (by decide +kernel) ⟨Nat.le_of_ble_eq_true rfl, Nat.le_of_ble_eq_true rfl⟩) hX hS rfl hl.1 rfl (Nat.zero_le _) dL_law_668 (show cells + 1 ≤ 1069 from hc) (show slots + 6 ≤ 9070 from hs) (fun r N2 S2 fv2 th2 H locs hp hX hS => ?_)
  obtain ⟨et, er, eN2, eS2⟩ := hp
  rw [eN, eS, eN2, eS2] at hX
  refine lv_istore (lv' := [(6, .int r), (5, .int (nI k)), (4, .int (nI (5 * j))), (0, .ref b), (1, .ref (q 0)), (2, .ref (q2 0)), (3, .ref o)]) G.1 G.2.1 dL_law_671 hl (by decide) rfl (fun ls hl => ?_)
  refine lv_aload_n G.1 G.2.1 dL_law_673 rfl (lv_at hl 5 rfl) ?_
  refine gc_v (As := []) (rest := []) G.fix (mX1_thrown l D q2 cI cZ _ _ fv2 th2 (gA s)) (cwV 0 G.2.2.2.2.2.1 gL_law_X1_thrown rfl rfl rfl (by decide +kernel) ⟨Nat.le_of_ble_eq_true rfl, Nat.le_of_ble_eq_true rfl⟩) mAt_blind (va_recv hX.mm.2.1 hX.mm.1 (ci := 1) (q0 := 0) rfl rfl) (fun U hU hW => by show mAt _ _ _ _ _ _ _ _ _ U U.heap; rw [hU]; exact hX.mm.moved hW) rfl hl.1 rfl (Nat.zero_le _) dL_law_674 (show cells + 1 ≤ 1069 from hc) (show slots + 6 ≤ 9070 from hs) (fun r9 hr9 => ?_)
  subst hr9
  refine lv_iload G.1 G.2.1 dL_law_677 (lv_at hl 1 rfl) ?_
  have hk : k < 2 ^ 31 := by rw [ek]; exact gk_lt _ _ _
  have ekt : th2 = k := et.trans ek.symm
  refine gn_eq G (by rw [ekt]; exact hk) hk (tgt := 684) dL_law_679 (by decide) (fun _ => ?_) (fun h => absurd ekt h)
  have hin := inv_if hok hinv (k := sk_add N S (xs (nI (5 * j + 1)).toNatClampNeg) (xs (nI (5 * j + 2)).toNatClampNeg)) (fun h => inv_add hok hinv h)
  refine lv_iload G.1 G.2.1 dL_law_684 (lv_at hl 1 rfl) ?_
  have hl2 : lv_has ls 7 [(4, .int (nI (5 * j))), (0, .ref b), (1, .ref (q 0)), (2, .ref (q2 0)), (3, .ref o)] := lv_sub hl [2, 3, 4, 5, 6] rfl
  refine gn_nez G hk (tgt := 701) dL_law_686 (by decide) (fun _ => ?_) (fun h0 => ?_)
  · refine lv_goto (tgt := 1521) G.1 G.2.1 dL_law_701 (by decide) ?_
    exact kk _ _ _ _ _ _ _ _ _ hin.1 hin.2 hX hS hl2
  · have h9 : sk_add N S (xs (nI (5 * j + 1)).toNatClampNeg) (xs (nI (5 * j + 2)).toNatClampNeg) = 0 := ek.symm.trans h0
    have e9 : (nI 0).toNatClampNeg = 0 := by decide
    refine lv_aload_n G.1 G.2.1 dL_law_689 rfl (lv_at hl 6 rfl) ?_
    refine lv_iconst (v := nI 0) G.1 G.2.1 dL_law_690 (by decide) ?_
    refine va_lald (D := D) G.1 G.2.1 hX.2.1 hX.1 0 2 (f := g1) rfl rfl (by unfold vp_in; decide) dL_law_691 ?_
    rw [e9, ev h9]
    have er9 := er h9
    refine lv_iload G.1 G.2.1 dL_law_692 (lv_at hl 0 rfl) ?_
    refine lv_i2l (v := r.toInt64) G.1 G.2.1 dL_law_694 rfl ?_
    refine W.lcmp G.1 G.2.1 dL_law_695 ?_
    rw [er9]
    refine lv_if_eq G.1 G.2.1 (tgt := 701) dL_law_696 (by decide) (fun _ => ?_) (fun h => absurd ((lg_cmp_eq _ _).mpr rfl) h)
    refine lv_goto (tgt := 1521) G.1 G.2.1 dL_law_701 (by decide) ?_
    exact kk _ _ _ _ _ _ _ _ _ hin.1 hin.2 hX hS hl2
set_option maxRecDepth 100000 in
set_option maxHeartbeats 800000 in
/-- a call of drop in the script -/
theorem lc_drop (l : Launch) (hst : l.stackTraces = false) {p : Program} {e : Env} {s : State} {m : MethodId} {b : Nat} {below : List Frame} {meth : Method} {c : Code} {H : Heap} {locs : List Loc} {cells slots : Nat} {Q : State → Prop} {L : Nat} {xs : Nat → Int32} {D : va_G} {q q2 : Nat → Nat} {cI cZ cL : ClassId} {o : Nat} {N : Nat → Nat} {S : Nat → Nat → Nat} {tr fv : Nat → Nat} {th : Nat} {g : Nat → Int64} {j : Nat} {ls : Array Slot} (G : gF p s m #[Value.ref b] meth c cL_law ret 7 RL wsL_law) (hx : va_X b L xs s s.heap) (hb : b < s.heap.size) (hL : L ≤ 2560) (hj : 5 * j + 5 ≤ L) (hok : sp_ok N S) (hinv : sp_inv N S) (hX : lAt D q q2 cI cZ cL o N S tr N S fv th g s H) (hS : va_S (gA s) s.heap H locs) (hl : lv_has ls 7 [(4, .int (nI (5 * j))), (0, .ref b), (1, .ref (q 0)), (2, .ref (q2 0)), (3, .ref o)]) (hc : cells + 1 ≤ 1069) (hs : slots + 6 ≤ 9070) (kk : lK p l e s m b below meth c Q D q q2 cI cZ cL o j (cells + 1) (slots + 6)) : W p l e room_1 s m #[Value.ref b] below meth c H locs cells slots Q (F0 m 704 ls []) := by
  refine lv_aload_n G.1 G.2.1 dL_law_704 rfl (lv_at hl 2 rfl) ?_
  refine lv_aload_n G.1 G.2.1 dL_law_705 rfl (lv_at hl 1 rfl) ?_
  refine lv_iload G.1 G.2.1 dL_law_706 (lv_at hl 0 rfl) ?_
  refine lv_iconst (v := nI 1) G.1 G.2.1 dL_law_708 (by decide) ?_
  refine gn_iadd G dL_law_709 ?_
  refine va_sld G.1 G.2.1 hx hb (Nat.not_le.mpr hb) hS (vp_in_nI (show 5 * j + 1 < L by omega) (by omega)) dL_law_710 ?_
  refine lv_aload_n G.1 G.2.1 dL_law_711 rfl (lv_at hl 4 rfl) ?_
  refine gl_wrap (As := [.ref (q 0), .int (xs (nI (5 * j + 1)).toNatClampNeg), .ref o]) (rest := []) G.fix (mL_drop l hst D q cI o cL N S tr g (va_A (xw q cI N S tr) H.size) hok hinv (xs (nI (5 * j + 1)).toNatClampNeg)) (vx_cwSW 3 G.2.2.2.2.2.1 gL_law_L_drop rfl rfl rfl (by decide +kernel) ⟨Nat.le_of_ble_eq_true rfl, Nat.le_of_ble_eq_true rfl⟩) hX hS rfl hl.1 rfl (Nat.zero_le _) dL_law_712 hc hs (fun k N1 S1 tr1 g1 H locs hp hX hS => ?_)
  obtain ⟨ek, eN, eS, ev⟩ := hp
  refine lv_istore (lv' := [(5, .int (nI k)), (4, .int (nI (5 * j))), (0, .ref b), (1, .ref (q 0)), (2, .ref (q2 0)), (3, .ref o)]) G.1 G.2.1 dL_law_715 hl (by decide) rfl (fun ls hl => ?_)
  refine lv_aload_n G.1 G.2.1 dL_law_717 rfl (lv_at hl 4 rfl) ?_
  refine lv_aload_n G.1 G.2.1 dL_law_718 rfl (lv_at hl 2 rfl) ?_
  refine lv_iload G.1 G.2.1 dL_law_719 (lv_at hl 1 rfl) ?_
  refine lv_iconst (v := nI 1) G.1 G.2.1 dL_law_721 (by decide) ?_
  refine gn_iadd G dL_law_722 ?_
  refine va_sld G.1 G.2.1 hx hb (Nat.not_le.mpr hb) hS (vp_in_nI (show 5 * j + 1 < L by omega) (by omega)) dL_law_723 ?_
  refine gl_m (As := [.int (xs (nI (5 * j + 1)).toNatClampNeg)]) (rest := []) G.fix (mX1_drop l D q2 cI cZ N S fv th (va_A (mw q2 cI cZ N S fv th) H.size) hok hinv (xs (nI (5 * j + 1)).toNatClampNeg)) (fun _ _ _ _ h => h) (cwV 1 G.2.2.2.2.2.1 gL_law_X1_drop rfl rfl rfl (by decide +kernel) ⟨Nat.le_of_ble_eq_true rfl, Nat.le_of_ble_eq_true rfl⟩) hX hS rfl hl.1 rfl (Nat.zero_le _) dL_law_724 (show cells + 1 ≤ 1069 from hc) (show slots + 6 ≤ 9070 from hs) (fun r N2 S2 fv2 th2 H locs hp hX hS => ?_)
  obtain ⟨et, er, eN2, eS2⟩ := hp
  rw [eN, eS, eN2, eS2] at hX
  refine lv_istore (lv' := [(6, .int r), (5, .int (nI k)), (4, .int (nI (5 * j))), (0, .ref b), (1, .ref (q 0)), (2, .ref (q2 0)), (3, .ref o)]) G.1 G.2.1 dL_law_727 hl (by decide) rfl (fun ls hl => ?_)
  refine lv_aload_n G.1 G.2.1 dL_law_729 rfl (lv_at hl 5 rfl) ?_
  refine gc_v (As := []) (rest := []) G.fix (mX1_thrown l D q2 cI cZ _ _ fv2 th2 (gA s)) (cwV 0 G.2.2.2.2.2.1 gL_law_X1_thrown rfl rfl rfl (by decide +kernel) ⟨Nat.le_of_ble_eq_true rfl, Nat.le_of_ble_eq_true rfl⟩) mAt_blind (va_recv hX.mm.2.1 hX.mm.1 (ci := 1) (q0 := 0) rfl rfl) (fun U hU hW => by show mAt _ _ _ _ _ _ _ _ _ U U.heap; rw [hU]; exact hX.mm.moved hW) rfl hl.1 rfl (Nat.zero_le _) dL_law_730 (show cells + 1 ≤ 1069 from hc) (show slots + 6 ≤ 9070 from hs) (fun r9 hr9 => ?_)
  subst hr9
  refine lv_iload G.1 G.2.1 dL_law_733 (lv_at hl 1 rfl) ?_
  have hk : k < 2 ^ 31 := by rw [ek]; exact gk_lt _ _ _
  have ekt : th2 = k := et.trans ek.symm
  refine gn_eq G (by rw [ekt]; exact hk) hk (tgt := 740) dL_law_735 (by decide) (fun _ => ?_) (fun h => absurd ekt h)
  have hin := inv_if hok hinv (k := sk_drop N S (xs (nI (5 * j + 1)).toNatClampNeg)) (fun h => inv_drop hok hinv h)
  refine lv_iload G.1 G.2.1 dL_law_740 (lv_at hl 1 rfl) ?_
  have hl2 : lv_has ls 7 [(4, .int (nI (5 * j))), (0, .ref b), (1, .ref (q 0)), (2, .ref (q2 0)), (3, .ref o)] := lv_sub hl [2, 3, 4, 5, 6] rfl
  refine gn_nez G hk (tgt := 757) dL_law_742 (by decide) (fun _ => ?_) (fun h0 => ?_)
  · refine lv_goto (tgt := 1521) G.1 G.2.1 dL_law_757 (by decide) ?_
    exact kk _ _ _ _ _ _ _ _ _ hin.1 hin.2 hX hS hl2
  · have h9 : sk_drop N S (xs (nI (5 * j + 1)).toNatClampNeg) = 0 := ek.symm.trans h0
    have e9 : (nI 0).toNatClampNeg = 0 := by decide
    refine lv_aload_n G.1 G.2.1 dL_law_745 rfl (lv_at hl 6 rfl) ?_
    refine lv_iconst (v := nI 0) G.1 G.2.1 dL_law_746 (by decide) ?_
    refine va_lald (D := D) G.1 G.2.1 hX.2.1 hX.1 0 2 (f := g1) rfl rfl (by unfold vp_in; decide) dL_law_747 ?_
    rw [e9, ev h9]
    have er9 := er h9
    refine lv_iload G.1 G.2.1 dL_law_748 (lv_at hl 0 rfl) ?_
    refine lv_i2l (v := r.toInt64) G.1 G.2.1 dL_law_750 rfl ?_
    refine W.lcmp G.1 G.2.1 dL_law_751 ?_
    rw [er9]
    refine lv_if_eq G.1 G.2.1 (tgt := 757) dL_law_752 (by decide) (fun _ => ?_) (fun h => absurd ((lg_cmp_eq _ _).mpr rfl) h)
    refine lv_goto (tgt := 1521) G.1 G.2.1 dL_law_757 (by decide) ?_
    exact kk _ _ _ _ _ _ _ _ _ hin.1 hin.2 hX hS hl2
set_option maxRecDepth 100000 in
set_option maxHeartbeats 800000 in
/-- a call of through in the script -/
theorem lc_through (l : Launch) (hst : l.stackTraces = false) {p : Program} {e : Env} {s : State} {m : MethodId} {b : Nat} {below : List Frame} {meth : Method} {c : Code} {H : Heap} {locs : List Loc} {cells slots : Nat} {Q : State → Prop} {L : Nat} {xs : Nat → Int32} {D : va_G} {q q2 : Nat → Nat} {cI cZ cL : ClassId} {o : Nat} {N : Nat → Nat} {S : Nat → Nat → Nat} {tr fv : Nat → Nat} {th : Nat} {g : Nat → Int64} {j : Nat} {ls : Array Slot} (G : gF p s m #[Value.ref b] meth c cL_law ret 7 RL wsL_law) (hx : va_X b L xs s s.heap) (hb : b < s.heap.size) (hL : L ≤ 2560) (hj : 5 * j + 5 ≤ L) (hok : sp_ok N S) (hinv : sp_inv N S) (hX : lAt D q q2 cI cZ cL o N S tr N S fv th g s H) (hS : va_S (gA s) s.heap H locs) (hl : lv_has ls 7 [(4, .int (nI (5 * j))), (0, .ref b), (1, .ref (q 0)), (2, .ref (q2 0)), (3, .ref o)]) (hc : cells + 1 ≤ 1069) (hs : slots + 6 ≤ 9070) (kk : lK p l e s m b below meth c Q D q q2 cI cZ cL o j (cells + 1) (slots + 6)) : W p l e room_1 s m #[Value.ref b] below meth c H locs cells slots Q (F0 m 760 ls []) := by
  refine lv_aload_n G.1 G.2.1 dL_law_760 rfl (lv_at hl 2 rfl) ?_
  refine lv_aload_n G.1 G.2.1 dL_law_761 rfl (lv_at hl 1 rfl) ?_
  refine lv_iload G.1 G.2.1 dL_law_762 (lv_at hl 0 rfl) ?_
  refine lv_iconst (v := nI 1) G.1 G.2.1 dL_law_764 (by decide) ?_
  refine gn_iadd G dL_law_765 ?_
  refine va_sld G.1 G.2.1 hx hb (Nat.not_le.mpr hb) hS (vp_in_nI (show 5 * j + 1 < L by omega) (by omega)) dL_law_766 ?_
  refine lv_aload_n G.1 G.2.1 dL_law_767 rfl (lv_at hl 1 rfl) ?_
  refine lv_iload G.1 G.2.1 dL_law_768 (lv_at hl 0 rfl) ?_
  refine lv_iconst (v := nI 2) G.1 G.2.1 dL_law_770 (by decide) ?_
  refine gn_iadd G dL_law_771 ?_
  refine va_sld G.1 G.2.1 hx hb (Nat.not_le.mpr hb) hS (vp_in_nI (show 5 * j + 2 < L by omega) (by omega)) dL_law_772 ?_
  refine lv_aload_n G.1 G.2.1 dL_law_773 rfl (lv_at hl 1 rfl) ?_
  refine lv_iload G.1 G.2.1 dL_law_774 (lv_at hl 0 rfl) ?_
  refine lv_iconst (v := nI 3) G.1 G.2.1 dL_law_776 (by decide) ?_
  refine gn_iadd G dL_law_777 ?_
  refine va_sld G.1 G.2.1 hx hb (Nat.not_le.mpr hb) hS (vp_in_nI (show 5 * j + 3 < L by omega) (by omega)) dL_law_778 ?_
  refine lv_aload_n G.1 G.2.1 dL_law_779 rfl (lv_at hl 4 rfl) ?_
  refine gl_wrap (As := [.ref (q 0), .int (xs (nI (5 * j + 1)).toNatClampNeg), .int (xs (nI (5 * j + 2)).toNatClampNeg), .int (xs (nI (5 * j + 3)).toNatClampNeg), .ref o]) (rest := []) G.fix (mL_through l hst D q cI o cL N S tr g (va_A (xw q cI N S tr) H.size) hok hinv (xs (nI (5 * j + 1)).toNatClampNeg) (xs (nI (5 * j + 2)).toNatClampNeg) (xs (nI (5 * j + 3)).toNatClampNeg)) (vx_cwSW 5 G.2.2.2.2.2.1 gL_law_L_through rfl rfl rfl (by decide +kernel) ⟨Nat.le_of_ble_eq_true rfl, Nat.le_of_ble_eq_true rfl⟩) hX hS rfl hl.1 rfl (Nat.zero_le _) dL_law_780 hc hs (fun k N1 S1 tr1 g1 H locs hp hX hS => ?_)
  obtain ⟨ek, eN, eS, ev⟩ := hp
  refine lv_istore (lv' := [(5, .int (nI k)), (4, .int (nI (5 * j))), (0, .ref b), (1, .ref (q 0)), (2, .ref (q2 0)), (3, .ref o)]) G.1 G.2.1 dL_law_783 hl (by decide) rfl (fun ls hl => ?_)
  refine lv_aload_n G.1 G.2.1 dL_law_785 rfl (lv_at hl 4 rfl) ?_
  refine lv_aload_n G.1 G.2.1 dL_law_786 rfl (lv_at hl 2 rfl) ?_
  refine lv_iload G.1 G.2.1 dL_law_787 (lv_at hl 1 rfl) ?_
  refine lv_iconst (v := nI 1) G.1 G.2.1 dL_law_789 (by decide) ?_
  refine gn_iadd G dL_law_790 ?_
  refine va_sld G.1 G.2.1 hx hb (Nat.not_le.mpr hb) hS (vp_in_nI (show 5 * j + 1 < L by omega) (by omega)) dL_law_791 ?_
  refine lv_aload_n G.1 G.2.1 dL_law_792 rfl (lv_at hl 2 rfl) ?_
  refine lv_iload G.1 G.2.1 dL_law_793 (lv_at hl 1 rfl) ?_
  refine lv_iconst (v := nI 2) G.1 G.2.1 dL_law_795 (by decide) ?_
  refine gn_iadd G dL_law_796 ?_
  refine va_sld G.1 G.2.1 hx hb (Nat.not_le.mpr hb) hS (vp_in_nI (show 5 * j + 2 < L by omega) (by omega)) dL_law_797 ?_
  refine lv_aload_n G.1 G.2.1 dL_law_798 rfl (lv_at hl 2 rfl) ?_
  refine lv_iload G.1 G.2.1 dL_law_799 (lv_at hl 1 rfl) ?_
  refine lv_iconst (v := nI 3) G.1 G.2.1 dL_law_801 (by decide) ?_
  refine gn_iadd G dL_law_802 ?_
  refine va_sld G.1 G.2.1 hx hb (Nat.not_le.mpr hb) hS (vp_in_nI (show 5 * j + 3 < L by omega) (by omega)) dL_law_803 ?_
  refine gl_m (As := [.int (xs (nI (5 * j + 1)).toNatClampNeg), .int (xs (nI (5 * j + 2)).toNatClampNeg), .int (xs (nI (5 * j + 3)).toNatClampNeg)]) (rest := []) G.fix (mX1_through l D q2 cI cZ N S fv th (va_A (mw q2 cI cZ N S fv th) H.size) hok hinv (xs (nI (5 * j + 1)).toNatClampNeg) (xs (nI (5 * j + 2)).toNatClampNeg) (xs (nI (5 * j + 3)).toNatClampNeg)) (fun _ _ _ _ h => h) (cwV 3 G.2.2.2.2.2.1 gL_law_X1_through rfl rfl rfl (by decide +kernel) ⟨Nat.le_of_ble_eq_true rfl, Nat.le_of_ble_eq_true rfl⟩) hX hS rfl hl.1 rfl (Nat.zero_le _) dL_law_804 (show cells + 1 ≤ 1069 from hc) (show slots + 6 ≤ 9070 from hs) (fun r N2 S2 fv2 th2 H locs hp hX hS => ?_)
  obtain ⟨et, er, eN2, eS2⟩ := hp
  rw [eN, eS, eN2, eS2] at hX
  refine lv_istore (lv' := [(6, .int r), (5, .int (nI k)), (4, .int (nI (5 * j))), (0, .ref b), (1, .ref (q 0)), (2, .ref (q2 0)), (3, .ref o)]) G.1 G.2.1 dL_law_807 hl (by decide) rfl (fun ls hl => ?_)
  refine lv_aload_n G.1 G.2.1 dL_law_809 rfl (lv_at hl 5 rfl) ?_
  refine gc_v (As := []) (rest := []) G.fix (mX1_thrown l D q2 cI cZ _ _ fv2 th2 (gA s)) (cwV 0 G.2.2.2.2.2.1 gL_law_X1_thrown rfl rfl rfl (by decide +kernel) ⟨Nat.le_of_ble_eq_true rfl, Nat.le_of_ble_eq_true rfl⟩) mAt_blind (va_recv hX.mm.2.1 hX.mm.1 (ci := 1) (q0 := 0) rfl rfl) (fun U hU hW => by show mAt _ _ _ _ _ _ _ _ _ U U.heap; rw [hU]; exact hX.mm.moved hW) rfl hl.1 rfl (Nat.zero_le _) dL_law_810 (show cells + 1 ≤ 1069 from hc) (show slots + 6 ≤ 9070 from hs) (fun r9 hr9 => ?_)
  subst hr9
  refine lv_iload G.1 G.2.1 dL_law_813 (lv_at hl 1 rfl) ?_
  have hk : k < 2 ^ 31 := by rw [ek]; exact gk_lt _ _ _
  have ekt : th2 = k := et.trans ek.symm
  refine gn_eq G (by rw [ekt]; exact hk) hk (tgt := 820) dL_law_815 (by decide) (fun _ => ?_) (fun h => absurd ekt h)
  have hin := inv_if hok hinv (k := sk_through N S (xs (nI (5 * j + 1)).toNatClampNeg) (xs (nI (5 * j + 2)).toNatClampNeg) (xs (nI (5 * j + 3)).toNatClampNeg)) (fun h => (⟨hok, hinv⟩ : sp_ok (sN_through N S (xs (nI (5 * j + 1)).toNatClampNeg) (xs (nI (5 * j + 2)).toNatClampNeg) (xs (nI (5 * j + 3)).toNatClampNeg)) (sS_through N S (xs (nI (5 * j + 1)).toNatClampNeg) (xs (nI (5 * j + 2)).toNatClampNeg) (xs (nI (5 * j + 3)).toNatClampNeg)) ∧ sp_inv (sN_through N S (xs (nI (5 * j + 1)).toNatClampNeg) (xs (nI (5 * j + 2)).toNatClampNeg) (xs (nI (5 * j + 3)).toNatClampNeg)) (sS_through N S (xs (nI (5 * j + 1)).toNatClampNeg) (xs (nI (5 * j + 2)).toNatClampNeg) (xs (nI (5 * j + 3)).toNatClampNeg))))
  refine lv_iload G.1 G.2.1 dL_law_820 (lv_at hl 1 rfl) ?_
  have hl2 : lv_has ls 7 [(4, .int (nI (5 * j))), (0, .ref b), (1, .ref (q 0)), (2, .ref (q2 0)), (3, .ref o)] := lv_sub hl [2, 3, 4, 5, 6] rfl
  refine gn_nez G hk (tgt := 837) dL_law_822 (by decide) (fun _ => ?_) (fun h0 => ?_)
  · refine lv_goto (tgt := 1521) G.1 G.2.1 dL_law_837 (by decide) ?_
    exact kk _ _ _ _ _ _ _ _ _ hin.1 hin.2 hX hS hl2
  · have h9 : sk_through N S (xs (nI (5 * j + 1)).toNatClampNeg) (xs (nI (5 * j + 2)).toNatClampNeg) (xs (nI (5 * j + 3)).toNatClampNeg) = 0 := ek.symm.trans h0
    have e9 : (nI 0).toNatClampNeg = 0 := by decide
    refine lv_aload_n G.1 G.2.1 dL_law_825 rfl (lv_at hl 6 rfl) ?_
    refine lv_iconst (v := nI 0) G.1 G.2.1 dL_law_826 (by decide) ?_
    refine va_lald (D := D) G.1 G.2.1 hX.2.1 hX.1 0 2 (f := g1) rfl rfl (by unfold vp_in; decide) dL_law_827 ?_
    rw [e9, ev h9]
    have er9 := er h9
    refine lv_iload G.1 G.2.1 dL_law_828 (lv_at hl 0 rfl) ?_
    refine lv_i2l (v := r.toInt64) G.1 G.2.1 dL_law_830 rfl ?_
    refine W.lcmp G.1 G.2.1 dL_law_831 ?_
    rw [er9]
    refine lv_if_eq G.1 G.2.1 (tgt := 837) dL_law_832 (by decide) (fun _ => ?_) (fun h => absurd ((lg_cmp_eq _ _).mpr rfl) h)
    refine lv_goto (tgt := 1521) G.1 G.2.1 dL_law_837 (by decide) ?_
    exact kk _ _ _ _ _ _ _ _ _ hin.1 hin.2 hX hS hl2
set_option maxRecDepth 100000 in
set_option maxHeartbeats 800000 in
/-- a call of gap in the script -/
theorem lc_gap (l : Launch) (hst : l.stackTraces = false) {p : Program} {e : Env} {s : State} {m : MethodId} {b : Nat} {below : List Frame} {meth : Method} {c : Code} {H : Heap} {locs : List Loc} {cells slots : Nat} {Q : State → Prop} {L : Nat} {xs : Nat → Int32} {D : va_G} {q q2 : Nat → Nat} {cI cZ cL : ClassId} {o : Nat} {N : Nat → Nat} {S : Nat → Nat → Nat} {tr fv : Nat → Nat} {th : Nat} {g : Nat → Int64} {j : Nat} {ls : Array Slot} (G : gF p s m #[Value.ref b] meth c cL_law ret 7 RL wsL_law) (hx : va_X b L xs s s.heap) (hb : b < s.heap.size) (hL : L ≤ 2560) (hj : 5 * j + 5 ≤ L) (hok : sp_ok N S) (hinv : sp_inv N S) (hX : lAt D q q2 cI cZ cL o N S tr N S fv th g s H) (hS : va_S (gA s) s.heap H locs) (hl : lv_has ls 7 [(4, .int (nI (5 * j))), (0, .ref b), (1, .ref (q 0)), (2, .ref (q2 0)), (3, .ref o)]) (hc : cells + 1 ≤ 1069) (hs : slots + 6 ≤ 9070) (kk : lK p l e s m b below meth c Q D q q2 cI cZ cL o j (cells + 1) (slots + 6)) : W p l e room_1 s m #[Value.ref b] below meth c H locs cells slots Q (F0 m 840 ls []) := by
  refine lv_aload_n G.1 G.2.1 dL_law_840 rfl (lv_at hl 2 rfl) ?_
  refine lv_aload_n G.1 G.2.1 dL_law_841 rfl (lv_at hl 1 rfl) ?_
  refine lv_iload G.1 G.2.1 dL_law_842 (lv_at hl 0 rfl) ?_
  refine lv_iconst (v := nI 1) G.1 G.2.1 dL_law_844 (by decide) ?_
  refine gn_iadd G dL_law_845 ?_
  refine va_sld G.1 G.2.1 hx hb (Nat.not_le.mpr hb) hS (vp_in_nI (show 5 * j + 1 < L by omega) (by omega)) dL_law_846 ?_
  refine lv_aload_n G.1 G.2.1 dL_law_847 rfl (lv_at hl 4 rfl) ?_
  refine gl_wrap (As := [.ref (q 0), .int (xs (nI (5 * j + 1)).toNatClampNeg), .ref o]) (rest := []) G.fix (mL_gap l hst D q cI o cL N S tr g (va_A (xw q cI N S tr) H.size) hok hinv (xs (nI (5 * j + 1)).toNatClampNeg)) (vx_cwSW 3 G.2.2.2.2.2.1 gL_law_L_gap rfl rfl rfl (by decide +kernel) ⟨Nat.le_of_ble_eq_true rfl, Nat.le_of_ble_eq_true rfl⟩) hX hS rfl hl.1 rfl (Nat.zero_le _) dL_law_848 hc hs (fun k N1 S1 tr1 g1 H locs hp hX hS => ?_)
  obtain ⟨ek, eN, eS, ev⟩ := hp
  refine lv_istore (lv' := [(5, .int (nI k)), (4, .int (nI (5 * j))), (0, .ref b), (1, .ref (q 0)), (2, .ref (q2 0)), (3, .ref o)]) G.1 G.2.1 dL_law_851 hl (by decide) rfl (fun ls hl => ?_)
  refine lv_aload_n G.1 G.2.1 dL_law_853 rfl (lv_at hl 4 rfl) ?_
  refine lv_aload_n G.1 G.2.1 dL_law_854 rfl (lv_at hl 2 rfl) ?_
  refine lv_iload G.1 G.2.1 dL_law_855 (lv_at hl 1 rfl) ?_
  refine lv_iconst (v := nI 1) G.1 G.2.1 dL_law_857 (by decide) ?_
  refine gn_iadd G dL_law_858 ?_
  refine va_sld G.1 G.2.1 hx hb (Nat.not_le.mpr hb) hS (vp_in_nI (show 5 * j + 1 < L by omega) (by omega)) dL_law_859 ?_
  refine gl_m (As := [.int (xs (nI (5 * j + 1)).toNatClampNeg)]) (rest := []) G.fix (mX1_gap l D q2 cI cZ N S fv th (va_A (mw q2 cI cZ N S fv th) H.size) hok hinv (xs (nI (5 * j + 1)).toNatClampNeg)) (fun _ _ _ _ h => h) (cwV 1 G.2.2.2.2.2.1 gL_law_X1_gap rfl rfl rfl (by decide +kernel) ⟨Nat.le_of_ble_eq_true rfl, Nat.le_of_ble_eq_true rfl⟩) hX hS rfl hl.1 rfl (Nat.zero_le _) dL_law_860 (show cells + 1 ≤ 1069 from hc) (show slots + 6 ≤ 9070 from hs) (fun r N2 S2 fv2 th2 H locs hp hX hS => ?_)
  obtain ⟨et, er, eN2, eS2⟩ := hp
  rw [eN, eS, eN2, eS2] at hX
  refine lv_istore (lv' := [(6, .int r), (5, .int (nI k)), (4, .int (nI (5 * j))), (0, .ref b), (1, .ref (q 0)), (2, .ref (q2 0)), (3, .ref o)]) G.1 G.2.1 dL_law_863 hl (by decide) rfl (fun ls hl => ?_)
  refine lv_aload_n G.1 G.2.1 dL_law_865 rfl (lv_at hl 5 rfl) ?_
  refine gc_v (As := []) (rest := []) G.fix (mX1_thrown l D q2 cI cZ _ _ fv2 th2 (gA s)) (cwV 0 G.2.2.2.2.2.1 gL_law_X1_thrown rfl rfl rfl (by decide +kernel) ⟨Nat.le_of_ble_eq_true rfl, Nat.le_of_ble_eq_true rfl⟩) mAt_blind (va_recv hX.mm.2.1 hX.mm.1 (ci := 1) (q0 := 0) rfl rfl) (fun U hU hW => by show mAt _ _ _ _ _ _ _ _ _ U U.heap; rw [hU]; exact hX.mm.moved hW) rfl hl.1 rfl (Nat.zero_le _) dL_law_866 (show cells + 1 ≤ 1069 from hc) (show slots + 6 ≤ 9070 from hs) (fun r9 hr9 => ?_)
  subst hr9
  refine lv_iload G.1 G.2.1 dL_law_869 (lv_at hl 1 rfl) ?_
  have hk : k < 2 ^ 31 := by rw [ek]; exact gk_lt _ _ _
  have ekt : th2 = k := et.trans ek.symm
  refine gn_eq G (by rw [ekt]; exact hk) hk (tgt := 876) dL_law_871 (by decide) (fun _ => ?_) (fun h => absurd ekt h)
  have hin := inv_if hok hinv (k := sk_gap N S (xs (nI (5 * j + 1)).toNatClampNeg)) (fun h => (⟨hok, hinv⟩ : sp_ok (sN_gap N S (xs (nI (5 * j + 1)).toNatClampNeg)) (sS_gap N S (xs (nI (5 * j + 1)).toNatClampNeg)) ∧ sp_inv (sN_gap N S (xs (nI (5 * j + 1)).toNatClampNeg)) (sS_gap N S (xs (nI (5 * j + 1)).toNatClampNeg))))
  refine lv_iload G.1 G.2.1 dL_law_876 (lv_at hl 1 rfl) ?_
  have hl2 : lv_has ls 7 [(4, .int (nI (5 * j))), (0, .ref b), (1, .ref (q 0)), (2, .ref (q2 0)), (3, .ref o)] := lv_sub hl [2, 3, 4, 5, 6] rfl
  refine gn_nez G hk (tgt := 893) dL_law_878 (by decide) (fun _ => ?_) (fun h0 => ?_)
  · refine lv_goto (tgt := 1521) G.1 G.2.1 dL_law_893 (by decide) ?_
    exact kk _ _ _ _ _ _ _ _ _ hin.1 hin.2 hX hS hl2
  · have h9 : sk_gap N S (xs (nI (5 * j + 1)).toNatClampNeg) = 0 := ek.symm.trans h0
    have e9 : (nI 0).toNatClampNeg = 0 := by decide
    refine lv_aload_n G.1 G.2.1 dL_law_881 rfl (lv_at hl 6 rfl) ?_
    refine lv_iconst (v := nI 0) G.1 G.2.1 dL_law_882 (by decide) ?_
    refine va_lald (D := D) G.1 G.2.1 hX.2.1 hX.1 0 2 (f := g1) rfl rfl (by unfold vp_in; decide) dL_law_883 ?_
    rw [e9, ev h9]
    have er9 := er h9
    refine lv_iload G.1 G.2.1 dL_law_884 (lv_at hl 0 rfl) ?_
    refine lv_i2l (v := r.toInt64) G.1 G.2.1 dL_law_886 rfl ?_
    refine W.lcmp G.1 G.2.1 dL_law_887 ?_
    rw [er9]
    refine lv_if_eq G.1 G.2.1 (tgt := 893) dL_law_888 (by decide) (fun _ => ?_) (fun h => absurd ((lg_cmp_eq _ _).mpr rfl) h)
    refine lv_goto (tgt := 1521) G.1 G.2.1 dL_law_893 (by decide) ?_
    exact kk _ _ _ _ _ _ _ _ _ hin.1 hin.2 hX hS hl2
set_option maxRecDepth 100000 in
set_option maxHeartbeats 800000 in
/-- a call of greyGap in the script -/
theorem lc_greyGap (l : Launch) (hst : l.stackTraces = false) {p : Program} {e : Env} {s : State} {m : MethodId} {b : Nat} {below : List Frame} {meth : Method} {c : Code} {H : Heap} {locs : List Loc} {cells slots : Nat} {Q : State → Prop} {L : Nat} {xs : Nat → Int32} {D : va_G} {q q2 : Nat → Nat} {cI cZ cL : ClassId} {o : Nat} {N : Nat → Nat} {S : Nat → Nat → Nat} {tr fv : Nat → Nat} {th : Nat} {g : Nat → Int64} {j : Nat} {ls : Array Slot} (G : gF p s m #[Value.ref b] meth c cL_law ret 7 RL wsL_law) (hx : va_X b L xs s s.heap) (hb : b < s.heap.size) (hL : L ≤ 2560) (hj : 5 * j + 5 ≤ L) (hok : sp_ok N S) (hinv : sp_inv N S) (hX : lAt D q q2 cI cZ cL o N S tr N S fv th g s H) (hS : va_S (gA s) s.heap H locs) (hl : lv_has ls 7 [(4, .int (nI (5 * j))), (0, .ref b), (1, .ref (q 0)), (2, .ref (q2 0)), (3, .ref o)]) (hc : cells + 1 ≤ 1069) (hs : slots + 6 ≤ 9070) (kk : lK p l e s m b below meth c Q D q q2 cI cZ cL o j (cells + 1) (slots + 6)) : W p l e room_1 s m #[Value.ref b] below meth c H locs cells slots Q (F0 m 896 ls []) := by
  refine lv_aload_n G.1 G.2.1 dL_law_896 rfl (lv_at hl 2 rfl) ?_
  refine lv_aload_n G.1 G.2.1 dL_law_897 rfl (lv_at hl 1 rfl) ?_
  refine lv_iload G.1 G.2.1 dL_law_898 (lv_at hl 0 rfl) ?_
  refine lv_iconst (v := nI 1) G.1 G.2.1 dL_law_900 (by decide) ?_
  refine gn_iadd G dL_law_901 ?_
  refine va_sld G.1 G.2.1 hx hb (Nat.not_le.mpr hb) hS (vp_in_nI (show 5 * j + 1 < L by omega) (by omega)) dL_law_902 ?_
  refine lv_aload_n G.1 G.2.1 dL_law_903 rfl (lv_at hl 4 rfl) ?_
  refine gl_wrap (As := [.ref (q 0), .int (xs (nI (5 * j + 1)).toNatClampNeg), .ref o]) (rest := []) G.fix (mL_greyGap l hst D q cI o cL N S tr g (va_A (xw q cI N S tr) H.size) hok hinv (xs (nI (5 * j + 1)).toNatClampNeg)) (vx_cwSW 3 G.2.2.2.2.2.1 gL_law_L_greyGap rfl rfl rfl (by decide +kernel) ⟨Nat.le_of_ble_eq_true rfl, Nat.le_of_ble_eq_true rfl⟩) hX hS rfl hl.1 rfl (Nat.zero_le _) dL_law_904 hc hs (fun k N1 S1 tr1 g1 H locs hp hX hS => ?_)
  obtain ⟨ek, eN, eS, ev⟩ := hp
  refine lv_istore (lv' := [(5, .int (nI k)), (4, .int (nI (5 * j))), (0, .ref b), (1, .ref (q 0)), (2, .ref (q2 0)), (3, .ref o)]) G.1 G.2.1 dL_law_907 hl (by decide) rfl (fun ls hl => ?_)
  refine lv_aload_n G.1 G.2.1 dL_law_909 rfl (lv_at hl 4 rfl) ?_
  refine lv_aload_n G.1 G.2.1 dL_law_910 rfl (lv_at hl 2 rfl) ?_
  refine lv_iload G.1 G.2.1 dL_law_911 (lv_at hl 1 rfl) ?_
  refine lv_iconst (v := nI 1) G.1 G.2.1 dL_law_913 (by decide) ?_
  refine gn_iadd G dL_law_914 ?_
  refine va_sld G.1 G.2.1 hx hb (Nat.not_le.mpr hb) hS (vp_in_nI (show 5 * j + 1 < L by omega) (by omega)) dL_law_915 ?_
  refine gl_m (As := [.int (xs (nI (5 * j + 1)).toNatClampNeg)]) (rest := []) G.fix (mX1_greyGap l D q2 cI cZ N S fv th (va_A (mw q2 cI cZ N S fv th) H.size) hok hinv (xs (nI (5 * j + 1)).toNatClampNeg)) (fun _ _ _ _ h => h) (cwV 1 G.2.2.2.2.2.1 gL_law_X1_greyGap rfl rfl rfl (by decide +kernel) ⟨Nat.le_of_ble_eq_true rfl, Nat.le_of_ble_eq_true rfl⟩) hX hS rfl hl.1 rfl (Nat.zero_le _) dL_law_916 (show cells + 1 ≤ 1069 from hc) (show slots + 6 ≤ 9070 from hs) (fun r N2 S2 fv2 th2 H locs hp hX hS => ?_)
  obtain ⟨et, er, eN2, eS2⟩ := hp
  rw [eN, eS, eN2, eS2] at hX
  refine lv_istore (lv' := [(6, .int r), (5, .int (nI k)), (4, .int (nI (5 * j))), (0, .ref b), (1, .ref (q 0)), (2, .ref (q2 0)), (3, .ref o)]) G.1 G.2.1 dL_law_919 hl (by decide) rfl (fun ls hl => ?_)
  refine lv_aload_n G.1 G.2.1 dL_law_921 rfl (lv_at hl 5 rfl) ?_
  refine gc_v (As := []) (rest := []) G.fix (mX1_thrown l D q2 cI cZ _ _ fv2 th2 (gA s)) (cwV 0 G.2.2.2.2.2.1 gL_law_X1_thrown rfl rfl rfl (by decide +kernel) ⟨Nat.le_of_ble_eq_true rfl, Nat.le_of_ble_eq_true rfl⟩) mAt_blind (va_recv hX.mm.2.1 hX.mm.1 (ci := 1) (q0 := 0) rfl rfl) (fun U hU hW => by show mAt _ _ _ _ _ _ _ _ _ U U.heap; rw [hU]; exact hX.mm.moved hW) rfl hl.1 rfl (Nat.zero_le _) dL_law_922 (show cells + 1 ≤ 1069 from hc) (show slots + 6 ≤ 9070 from hs) (fun r9 hr9 => ?_)
  subst hr9
  refine lv_iload G.1 G.2.1 dL_law_925 (lv_at hl 1 rfl) ?_
  have hk : k < 2 ^ 31 := by rw [ek]; exact gk_lt _ _ _
  have ekt : th2 = k := et.trans ek.symm
  refine gn_eq G (by rw [ekt]; exact hk) hk (tgt := 932) dL_law_927 (by decide) (fun _ => ?_) (fun h => absurd ekt h)
  have hin := inv_if hok hinv (k := sk_greyGap N S (xs (nI (5 * j + 1)).toNatClampNeg)) (fun h => (⟨hok, hinv⟩ : sp_ok (sN_greyGap N S (xs (nI (5 * j + 1)).toNatClampNeg)) (sS_greyGap N S (xs (nI (5 * j + 1)).toNatClampNeg)) ∧ sp_inv (sN_greyGap N S (xs (nI (5 * j + 1)).toNatClampNeg)) (sS_greyGap N S (xs (nI (5 * j + 1)).toNatClampNeg))))
  refine lv_iload G.1 G.2.1 dL_law_932 (lv_at hl 1 rfl) ?_
  have hl2 : lv_has ls 7 [(4, .int (nI (5 * j))), (0, .ref b), (1, .ref (q 0)), (2, .ref (q2 0)), (3, .ref o)] := lv_sub hl [2, 3, 4, 5, 6] rfl
  refine gn_nez G hk (tgt := 949) dL_law_934 (by decide) (fun _ => ?_) (fun h0 => ?_)
  · refine lv_goto (tgt := 1521) G.1 G.2.1 dL_law_949 (by decide) ?_
    exact kk _ _ _ _ _ _ _ _ _ hin.1 hin.2 hX hS hl2
  · have h9 : sk_greyGap N S (xs (nI (5 * j + 1)).toNatClampNeg) = 0 := ek.symm.trans h0
    have e9 : (nI 0).toNatClampNeg = 0 := by decide
    refine lv_aload_n G.1 G.2.1 dL_law_937 rfl (lv_at hl 6 rfl) ?_
    refine lv_iconst (v := nI 0) G.1 G.2.1 dL_law_938 (by decide) ?_
    refine va_lald (D := D) G.1 G.2.1 hX.2.1 hX.1 0 2 (f := g1) rfl rfl (by unfold vp_in; decide) dL_law_939 ?_
    rw [e9, ev h9]
    have er9 := er h9
    refine lv_iload G.1 G.2.1 dL_law_940 (lv_at hl 0 rfl) ?_
    refine lv_i2l (v := r.toInt64) G.1 G.2.1 dL_law_942 rfl ?_
    refine W.lcmp G.1 G.2.1 dL_law_943 ?_
    rw [er9]
    refine lv_if_eq G.1 G.2.1 (tgt := 949) dL_law_944 (by decide) (fun _ => ?_) (fun h => absurd ((lg_cmp_eq _ _).mpr rfl) h)
    refine lv_goto (tgt := 1521) G.1 G.2.1 dL_law_949 (by decide) ?_
    exact kk _ _ _ _ _ _ _ _ _ hin.1 hin.2 hX hS hl2
set_option maxRecDepth 100000 in
set_option maxHeartbeats 800000 in
/-- a call of join in the script -/
theorem lc_join (l : Launch) (hst : l.stackTraces = false) {p : Program} {e : Env} {s : State} {m : MethodId} {b : Nat} {below : List Frame} {meth : Method} {c : Code} {H : Heap} {locs : List Loc} {cells slots : Nat} {Q : State → Prop} {L : Nat} {xs : Nat → Int32} {D : va_G} {q q2 : Nat → Nat} {cI cZ cL : ClassId} {o : Nat} {N : Nat → Nat} {S : Nat → Nat → Nat} {tr fv : Nat → Nat} {th : Nat} {g : Nat → Int64} {j : Nat} {ls : Array Slot} (G : gF p s m #[Value.ref b] meth c cL_law ret 7 RL wsL_law) (hx : va_X b L xs s s.heap) (hb : b < s.heap.size) (hL : L ≤ 2560) (hj : 5 * j + 5 ≤ L) (hok : sp_ok N S) (hinv : sp_inv N S) (hX : lAt D q q2 cI cZ cL o N S tr N S fv th g s H) (hS : va_S (gA s) s.heap H locs) (hl : lv_has ls 7 [(4, .int (nI (5 * j))), (0, .ref b), (1, .ref (q 0)), (2, .ref (q2 0)), (3, .ref o)]) (hc : cells + 1 ≤ 1069) (hs : slots + 6 ≤ 9070) (kk : lK p l e s m b below meth c Q D q q2 cI cZ cL o j (cells + 1) (slots + 6)) : W p l e room_1 s m #[Value.ref b] below meth c H locs cells slots Q (F0 m 952 ls []) := by
  refine lv_aload_n G.1 G.2.1 dL_law_952 rfl (lv_at hl 2 rfl) ?_
  refine lv_aload_n G.1 G.2.1 dL_law_953 rfl (lv_at hl 1 rfl) ?_
  refine lv_iload G.1 G.2.1 dL_law_954 (lv_at hl 0 rfl) ?_
  refine lv_iconst (v := nI 1) G.1 G.2.1 dL_law_956 (by decide) ?_
  refine gn_iadd G dL_law_957 ?_
  refine va_sld G.1 G.2.1 hx hb (Nat.not_le.mpr hb) hS (vp_in_nI (show 5 * j + 1 < L by omega) (by omega)) dL_law_958 ?_
  refine lv_aload_n G.1 G.2.1 dL_law_959 rfl (lv_at hl 1 rfl) ?_
  refine lv_iload G.1 G.2.1 dL_law_960 (lv_at hl 0 rfl) ?_
  refine lv_iconst (v := nI 2) G.1 G.2.1 dL_law_962 (by decide) ?_
  refine gn_iadd G dL_law_963 ?_
  refine va_sld G.1 G.2.1 hx hb (Nat.not_le.mpr hb) hS (vp_in_nI (show 5 * j + 2 < L by omega) (by omega)) dL_law_964 ?_
  refine lv_aload_n G.1 G.2.1 dL_law_965 rfl (lv_at hl 4 rfl) ?_
  refine gl_wrap (As := [.ref (q 0), .int (xs (nI (5 * j + 1)).toNatClampNeg), .int (xs (nI (5 * j + 2)).toNatClampNeg), .ref o]) (rest := []) G.fix (mL_join l hst D q cI o cL N S tr g (va_A (xw q cI N S tr) H.size) hok hinv (xs (nI (5 * j + 1)).toNatClampNeg) (xs (nI (5 * j + 2)).toNatClampNeg)) (vx_cwSW 4 G.2.2.2.2.2.1 gL_law_L_join rfl rfl rfl (by decide +kernel) ⟨Nat.le_of_ble_eq_true rfl, Nat.le_of_ble_eq_true rfl⟩) hX hS rfl hl.1 rfl (Nat.zero_le _) dL_law_966 hc hs (fun k N1 S1 tr1 g1 H locs hp hX hS => ?_)
  obtain ⟨ek, eN, eS, ev⟩ := hp
  refine lv_istore (lv' := [(5, .int (nI k)), (4, .int (nI (5 * j))), (0, .ref b), (1, .ref (q 0)), (2, .ref (q2 0)), (3, .ref o)]) G.1 G.2.1 dL_law_969 hl (by decide) rfl (fun ls hl => ?_)
  refine lv_aload_n G.1 G.2.1 dL_law_971 rfl (lv_at hl 4 rfl) ?_
  refine lv_aload_n G.1 G.2.1 dL_law_972 rfl (lv_at hl 2 rfl) ?_
  refine lv_iload G.1 G.2.1 dL_law_973 (lv_at hl 1 rfl) ?_
  refine lv_iconst (v := nI 1) G.1 G.2.1 dL_law_975 (by decide) ?_
  refine gn_iadd G dL_law_976 ?_
  refine va_sld G.1 G.2.1 hx hb (Nat.not_le.mpr hb) hS (vp_in_nI (show 5 * j + 1 < L by omega) (by omega)) dL_law_977 ?_
  refine lv_aload_n G.1 G.2.1 dL_law_978 rfl (lv_at hl 2 rfl) ?_
  refine lv_iload G.1 G.2.1 dL_law_979 (lv_at hl 1 rfl) ?_
  refine lv_iconst (v := nI 2) G.1 G.2.1 dL_law_981 (by decide) ?_
  refine gn_iadd G dL_law_982 ?_
  refine va_sld G.1 G.2.1 hx hb (Nat.not_le.mpr hb) hS (vp_in_nI (show 5 * j + 2 < L by omega) (by omega)) dL_law_983 ?_
  refine gl_m (As := [.int (xs (nI (5 * j + 1)).toNatClampNeg), .int (xs (nI (5 * j + 2)).toNatClampNeg)]) (rest := []) G.fix (mX1_join l D q2 cI cZ N S fv th (va_A (mw q2 cI cZ N S fv th) H.size) hok hinv (xs (nI (5 * j + 1)).toNatClampNeg) (xs (nI (5 * j + 2)).toNatClampNeg)) (fun _ _ _ _ h => h) (cwV 2 G.2.2.2.2.2.1 gL_law_X1_join rfl rfl rfl (by decide +kernel) ⟨Nat.le_of_ble_eq_true rfl, Nat.le_of_ble_eq_true rfl⟩) hX hS rfl hl.1 rfl (Nat.zero_le _) dL_law_984 (show cells + 1 ≤ 1069 from hc) (show slots + 6 ≤ 9070 from hs) (fun r N2 S2 fv2 th2 H locs hp hX hS => ?_)
  obtain ⟨et, er, eN2, eS2⟩ := hp
  rw [eN, eS, eN2, eS2] at hX
  refine lv_istore (lv' := [(6, .int r), (5, .int (nI k)), (4, .int (nI (5 * j))), (0, .ref b), (1, .ref (q 0)), (2, .ref (q2 0)), (3, .ref o)]) G.1 G.2.1 dL_law_987 hl (by decide) rfl (fun ls hl => ?_)
  refine lv_aload_n G.1 G.2.1 dL_law_989 rfl (lv_at hl 5 rfl) ?_
  refine gc_v (As := []) (rest := []) G.fix (mX1_thrown l D q2 cI cZ _ _ fv2 th2 (gA s)) (cwV 0 G.2.2.2.2.2.1 gL_law_X1_thrown rfl rfl rfl (by decide +kernel) ⟨Nat.le_of_ble_eq_true rfl, Nat.le_of_ble_eq_true rfl⟩) mAt_blind (va_recv hX.mm.2.1 hX.mm.1 (ci := 1) (q0 := 0) rfl rfl) (fun U hU hW => by show mAt _ _ _ _ _ _ _ _ _ U U.heap; rw [hU]; exact hX.mm.moved hW) rfl hl.1 rfl (Nat.zero_le _) dL_law_990 (show cells + 1 ≤ 1069 from hc) (show slots + 6 ≤ 9070 from hs) (fun r9 hr9 => ?_)
  subst hr9
  refine lv_iload G.1 G.2.1 dL_law_993 (lv_at hl 1 rfl) ?_
  have hk : k < 2 ^ 31 := by rw [ek]; exact gk_lt _ _ _
  have ekt : th2 = k := et.trans ek.symm
  refine gn_eq G (by rw [ekt]; exact hk) hk (tgt := 1000) dL_law_995 (by decide) (fun _ => ?_) (fun h => absurd ekt h)
  have hin := inv_if hok hinv (k := sk_join N S (xs (nI (5 * j + 1)).toNatClampNeg) (xs (nI (5 * j + 2)).toNatClampNeg)) (fun h => inv_join hok hinv h)
  refine lv_iload G.1 G.2.1 dL_law_1000 (lv_at hl 1 rfl) ?_
  have hl2 : lv_has ls 7 [(4, .int (nI (5 * j))), (0, .ref b), (1, .ref (q 0)), (2, .ref (q2 0)), (3, .ref o)] := lv_sub hl [2, 3, 4, 5, 6] rfl
  refine gn_nez G hk (tgt := 1017) dL_law_1002 (by decide) (fun _ => ?_) (fun h0 => ?_)
  · refine lv_goto (tgt := 1521) G.1 G.2.1 dL_law_1017 (by decide) ?_
    exact kk _ _ _ _ _ _ _ _ _ hin.1 hin.2 hX hS hl2
  · have h9 : sk_join N S (xs (nI (5 * j + 1)).toNatClampNeg) (xs (nI (5 * j + 2)).toNatClampNeg) = 0 := ek.symm.trans h0
    have e9 : (nI 0).toNatClampNeg = 0 := by decide
    refine lv_aload_n G.1 G.2.1 dL_law_1005 rfl (lv_at hl 6 rfl) ?_
    refine lv_iconst (v := nI 0) G.1 G.2.1 dL_law_1006 (by decide) ?_
    refine va_lald (D := D) G.1 G.2.1 hX.2.1 hX.1 0 2 (f := g1) rfl rfl (by unfold vp_in; decide) dL_law_1007 ?_
    rw [e9, ev h9]
    have er9 := er h9
    refine lv_iload G.1 G.2.1 dL_law_1008 (lv_at hl 0 rfl) ?_
    refine lv_i2l (v := r.toInt64) G.1 G.2.1 dL_law_1010 rfl ?_
    refine W.lcmp G.1 G.2.1 dL_law_1011 ?_
    rw [er9]
    refine lv_if_eq G.1 G.2.1 (tgt := 1017) dL_law_1012 (by decide) (fun _ => ?_) (fun h => absurd ((lg_cmp_eq _ _).mpr rfl) h)
    refine lv_goto (tgt := 1521) G.1 G.2.1 dL_law_1017 (by decide) ?_
    exact kk _ _ _ _ _ _ _ _ _ hin.1 hin.2 hX hS hl2
set_option maxRecDepth 100000 in
set_option maxHeartbeats 800000 in
/-- a call of joined in the script -/
theorem lc_joined (l : Launch) (hst : l.stackTraces = false) {p : Program} {e : Env} {s : State} {m : MethodId} {b : Nat} {below : List Frame} {meth : Method} {c : Code} {H : Heap} {locs : List Loc} {cells slots : Nat} {Q : State → Prop} {L : Nat} {xs : Nat → Int32} {D : va_G} {q q2 : Nat → Nat} {cI cZ cL : ClassId} {o : Nat} {N : Nat → Nat} {S : Nat → Nat → Nat} {tr fv : Nat → Nat} {th : Nat} {g : Nat → Int64} {j : Nat} {ls : Array Slot} (G : gF p s m #[Value.ref b] meth c cL_law ret 7 RL wsL_law) (hx : va_X b L xs s s.heap) (hb : b < s.heap.size) (hL : L ≤ 2560) (hj : 5 * j + 5 ≤ L) (hok : sp_ok N S) (hinv : sp_inv N S) (hX : lAt D q q2 cI cZ cL o N S tr N S fv th g s H) (hS : va_S (gA s) s.heap H locs) (hl : lv_has ls 7 [(4, .int (nI (5 * j))), (0, .ref b), (1, .ref (q 0)), (2, .ref (q2 0)), (3, .ref o)]) (hc : cells + 1 ≤ 1069) (hs : slots + 6 ≤ 9070) (kk : lK p l e s m b below meth c Q D q q2 cI cZ cL o j (cells + 1) (slots + 6)) : W p l e room_1 s m #[Value.ref b] below meth c H locs cells slots Q (F0 m 1020 ls []) := by
  refine lv_aload_n G.1 G.2.1 dL_law_1020 rfl (lv_at hl 2 rfl) ?_
  refine lv_aload_n G.1 G.2.1 dL_law_1021 rfl (lv_at hl 1 rfl) ?_
  refine lv_iload G.1 G.2.1 dL_law_1022 (lv_at hl 0 rfl) ?_
  refine lv_iconst (v := nI 1) G.1 G.2.1 dL_law_1024 (by decide) ?_
  refine gn_iadd G dL_law_1025 ?_
  refine va_sld G.1 G.2.1 hx hb (Nat.not_le.mpr hb) hS (vp_in_nI (show 5 * j + 1 < L by omega) (by omega)) dL_law_1026 ?_
  refine lv_aload_n G.1 G.2.1 dL_law_1027 rfl (lv_at hl 1 rfl) ?_
  refine lv_iload G.1 G.2.1 dL_law_1028 (lv_at hl 0 rfl) ?_
  refine lv_iconst (v := nI 2) G.1 G.2.1 dL_law_1030 (by decide) ?_
  refine gn_iadd G dL_law_1031 ?_
  refine va_sld G.1 G.2.1 hx hb (Nat.not_le.mpr hb) hS (vp_in_nI (show 5 * j + 2 < L by omega) (by omega)) dL_law_1032 ?_
  refine lv_aload_n G.1 G.2.1 dL_law_1033 rfl (lv_at hl 1 rfl) ?_
  refine lv_iload G.1 G.2.1 dL_law_1034 (lv_at hl 0 rfl) ?_
  refine lv_iconst (v := nI 3) G.1 G.2.1 dL_law_1036 (by decide) ?_
  refine gn_iadd G dL_law_1037 ?_
  refine va_sld G.1 G.2.1 hx hb (Nat.not_le.mpr hb) hS (vp_in_nI (show 5 * j + 3 < L by omega) (by omega)) dL_law_1038 ?_
  refine lv_aload_n G.1 G.2.1 dL_law_1039 rfl (lv_at hl 4 rfl) ?_
  refine gl_wrap (As := [.ref (q 0), .int (xs (nI (5 * j + 1)).toNatClampNeg), .int (xs (nI (5 * j + 2)).toNatClampNeg), .int (xs (nI (5 * j + 3)).toNatClampNeg), .ref o]) (rest := []) G.fix (mL_joined l hst D q cI o cL N S tr g (va_A (xw q cI N S tr) H.size) hok hinv (xs (nI (5 * j + 1)).toNatClampNeg) (xs (nI (5 * j + 2)).toNatClampNeg) (xs (nI (5 * j + 3)).toNatClampNeg)) (vx_cwSW 5 G.2.2.2.2.2.1 gL_law_L_joined rfl rfl rfl (by decide +kernel) ⟨Nat.le_of_ble_eq_true rfl, Nat.le_of_ble_eq_true rfl⟩) hX hS rfl hl.1 rfl (Nat.zero_le _) dL_law_1040 hc hs (fun k N1 S1 tr1 g1 H locs hp hX hS => ?_)
  obtain ⟨ek, eN, eS, ev⟩ := hp
  refine lv_istore (lv' := [(5, .int (nI k)), (4, .int (nI (5 * j))), (0, .ref b), (1, .ref (q 0)), (2, .ref (q2 0)), (3, .ref o)]) G.1 G.2.1 dL_law_1043 hl (by decide) rfl (fun ls hl => ?_)
  refine lv_aload_n G.1 G.2.1 dL_law_1045 rfl (lv_at hl 4 rfl) ?_
  refine lv_aload_n G.1 G.2.1 dL_law_1046 rfl (lv_at hl 2 rfl) ?_
  refine lv_iload G.1 G.2.1 dL_law_1047 (lv_at hl 1 rfl) ?_
  refine lv_iconst (v := nI 1) G.1 G.2.1 dL_law_1049 (by decide) ?_
  refine gn_iadd G dL_law_1050 ?_
  refine va_sld G.1 G.2.1 hx hb (Nat.not_le.mpr hb) hS (vp_in_nI (show 5 * j + 1 < L by omega) (by omega)) dL_law_1051 ?_
  refine lv_aload_n G.1 G.2.1 dL_law_1052 rfl (lv_at hl 2 rfl) ?_
  refine lv_iload G.1 G.2.1 dL_law_1053 (lv_at hl 1 rfl) ?_
  refine lv_iconst (v := nI 2) G.1 G.2.1 dL_law_1055 (by decide) ?_
  refine gn_iadd G dL_law_1056 ?_
  refine va_sld G.1 G.2.1 hx hb (Nat.not_le.mpr hb) hS (vp_in_nI (show 5 * j + 2 < L by omega) (by omega)) dL_law_1057 ?_
  refine lv_aload_n G.1 G.2.1 dL_law_1058 rfl (lv_at hl 2 rfl) ?_
  refine lv_iload G.1 G.2.1 dL_law_1059 (lv_at hl 1 rfl) ?_
  refine lv_iconst (v := nI 3) G.1 G.2.1 dL_law_1061 (by decide) ?_
  refine gn_iadd G dL_law_1062 ?_
  refine va_sld G.1 G.2.1 hx hb (Nat.not_le.mpr hb) hS (vp_in_nI (show 5 * j + 3 < L by omega) (by omega)) dL_law_1063 ?_
  refine gl_m (As := [.int (xs (nI (5 * j + 1)).toNatClampNeg), .int (xs (nI (5 * j + 2)).toNatClampNeg), .int (xs (nI (5 * j + 3)).toNatClampNeg)]) (rest := []) G.fix (mX1_joined l D q2 cI cZ N S fv th (va_A (mw q2 cI cZ N S fv th) H.size) hok hinv (xs (nI (5 * j + 1)).toNatClampNeg) (xs (nI (5 * j + 2)).toNatClampNeg) (xs (nI (5 * j + 3)).toNatClampNeg)) (fun _ _ _ _ h => h) (cwV 3 G.2.2.2.2.2.1 gL_law_X1_joined rfl rfl rfl (by decide +kernel) ⟨Nat.le_of_ble_eq_true rfl, Nat.le_of_ble_eq_true rfl⟩) hX hS rfl hl.1 rfl (Nat.zero_le _) dL_law_1064 (show cells + 1 ≤ 1069 from hc) (show slots + 6 ≤ 9070 from hs) (fun r N2 S2 fv2 th2 H locs hp hX hS => ?_)
  obtain ⟨et, er, eN2, eS2⟩ := hp
  rw [eN, eS, eN2, eS2] at hX
  refine lv_istore (lv' := [(6, .int r), (5, .int (nI k)), (4, .int (nI (5 * j))), (0, .ref b), (1, .ref (q 0)), (2, .ref (q2 0)), (3, .ref o)]) G.1 G.2.1 dL_law_1067 hl (by decide) rfl (fun ls hl => ?_)
  refine lv_aload_n G.1 G.2.1 dL_law_1069 rfl (lv_at hl 5 rfl) ?_
  refine gc_v (As := []) (rest := []) G.fix (mX1_thrown l D q2 cI cZ _ _ fv2 th2 (gA s)) (cwV 0 G.2.2.2.2.2.1 gL_law_X1_thrown rfl rfl rfl (by decide +kernel) ⟨Nat.le_of_ble_eq_true rfl, Nat.le_of_ble_eq_true rfl⟩) mAt_blind (va_recv hX.mm.2.1 hX.mm.1 (ci := 1) (q0 := 0) rfl rfl) (fun U hU hW => by show mAt _ _ _ _ _ _ _ _ _ U U.heap; rw [hU]; exact hX.mm.moved hW) rfl hl.1 rfl (Nat.zero_le _) dL_law_1070 (show cells + 1 ≤ 1069 from hc) (show slots + 6 ≤ 9070 from hs) (fun r9 hr9 => ?_)
  subst hr9
  refine lv_iload G.1 G.2.1 dL_law_1073 (lv_at hl 1 rfl) ?_
  have hk : k < 2 ^ 31 := by rw [ek]; exact gk_lt _ _ _
  have ekt : th2 = k := et.trans ek.symm
  refine gn_eq G (by rw [ekt]; exact hk) hk (tgt := 1080) dL_law_1075 (by decide) (fun _ => ?_) (fun h => absurd ekt h)
  have hin := inv_if hok hinv (k := sk_joined N S (xs (nI (5 * j + 1)).toNatClampNeg) (xs (nI (5 * j + 2)).toNatClampNeg) (xs (nI (5 * j + 3)).toNatClampNeg)) (fun h => (⟨hok, hinv⟩ : sp_ok (sN_joined N S (xs (nI (5 * j + 1)).toNatClampNeg) (xs (nI (5 * j + 2)).toNatClampNeg) (xs (nI (5 * j + 3)).toNatClampNeg)) (sS_joined N S (xs (nI (5 * j + 1)).toNatClampNeg) (xs (nI (5 * j + 2)).toNatClampNeg) (xs (nI (5 * j + 3)).toNatClampNeg)) ∧ sp_inv (sN_joined N S (xs (nI (5 * j + 1)).toNatClampNeg) (xs (nI (5 * j + 2)).toNatClampNeg) (xs (nI (5 * j + 3)).toNatClampNeg)) (sS_joined N S (xs (nI (5 * j + 1)).toNatClampNeg) (xs (nI (5 * j + 2)).toNatClampNeg) (xs (nI (5 * j + 3)).toNatClampNeg))))
  refine lv_iload G.1 G.2.1 dL_law_1080 (lv_at hl 1 rfl) ?_
  have hl2 : lv_has ls 7 [(4, .int (nI (5 * j))), (0, .ref b), (1, .ref (q 0)), (2, .ref (q2 0)), (3, .ref o)] := lv_sub hl [2, 3, 4, 5, 6] rfl
  refine gn_nez G hk (tgt := 1097) dL_law_1082 (by decide) (fun _ => ?_) (fun h0 => ?_)
  · refine lv_goto (tgt := 1521) G.1 G.2.1 dL_law_1097 (by decide) ?_
    exact kk _ _ _ _ _ _ _ _ _ hin.1 hin.2 hX hS hl2
  · have h9 : sk_joined N S (xs (nI (5 * j + 1)).toNatClampNeg) (xs (nI (5 * j + 2)).toNatClampNeg) (xs (nI (5 * j + 3)).toNatClampNeg) = 0 := ek.symm.trans h0
    have e9 : (nI 0).toNatClampNeg = 0 := by decide
    refine lv_aload_n G.1 G.2.1 dL_law_1085 rfl (lv_at hl 6 rfl) ?_
    refine lv_iconst (v := nI 0) G.1 G.2.1 dL_law_1086 (by decide) ?_
    refine va_lald (D := D) G.1 G.2.1 hX.2.1 hX.1 0 2 (f := g1) rfl rfl (by unfold vp_in; decide) dL_law_1087 ?_
    rw [e9, ev h9]
    have er9 := er h9
    refine lv_iload G.1 G.2.1 dL_law_1088 (lv_at hl 0 rfl) ?_
    refine lv_i2l (v := r.toInt64) G.1 G.2.1 dL_law_1090 rfl ?_
    refine W.lcmp G.1 G.2.1 dL_law_1091 ?_
    rw [er9]
    refine lv_if_eq G.1 G.2.1 (tgt := 1097) dL_law_1092 (by decide) (fun _ => ?_) (fun h => absurd ((lg_cmp_eq _ _).mpr rfl) h)
    refine lv_goto (tgt := 1521) G.1 G.2.1 dL_law_1097 (by decide) ?_
    exact kk _ _ _ _ _ _ _ _ _ hin.1 hin.2 hX hS hl2
set_option maxRecDepth 100000 in
set_option maxHeartbeats 800000 in
theorem lc_stale (l : Launch) (hst : l.stackTraces = false) {p : Program} {e : Env} {s : State} {m : MethodId} {b : Nat} {below : List Frame} {meth : Method} {c : Code} {H : Heap} {locs : List Loc} {cells slots : Nat} {Q : State → Prop} {L : Nat} {xs : Nat → Int32} {D : va_G} {q q2 : Nat → Nat} {cI cZ cL : ClassId} {o : Nat} {N : Nat → Nat} {S : Nat → Nat → Nat} {tr fv : Nat → Nat} {th : Nat} {g : Nat → Int64} {j : Nat} {ls : Array Slot} (G : gF p s m #[Value.ref b] meth c cL_law ret 7 RL wsL_law) (hx : va_X b L xs s s.heap) (hb : b < s.heap.size) (hL : L ≤ 2560) (hj : 5 * j + 5 ≤ L) (hok : sp_ok N S) (hinv : sp_inv N S) (hX : lAt D q q2 cI cZ cL o N S tr N S fv th g s H) (hS : va_S (gA s) s.heap H locs) (hl : lv_has ls 7 [(4, .int (nI (5 * j))), (0, .ref b), (1, .ref (q 0)), (2, .ref (q2 0)), (3, .ref o)]) (hc : cells + 1 ≤ 1069) (hs : slots + 6 ≤ 9070) (kk : lK p l e s m b below meth c Q D q q2 cI cZ cL o j (cells + 1) (slots + 6)) : W p l e room_1 s m #[Value.ref b] below meth c H locs cells slots Q (F0 m 1100 ls []) := by
  have hlt9 : sp_stale N S < 2 ^ 31 := Nat.lt_of_lt_of_le (sp_staleTo_lt N S _ (Nat.le_refl _)) (by decide)
  refine lv_aload_n G.1 G.2.1 dL_law_1100 rfl (lv_at hl 2 rfl) ?_
  refine gc_v (As := []) (rest := []) G.fix (mX0_stale l D q cI N S tr (gA s) hok hinv.2.2.1) (cwV 0 G.2.2.2.2.2.1 gL_law_X0_stale rfl rfl rfl (by decide +kernel) ⟨Nat.le_of_ble_eq_true rfl, Nat.le_of_ble_eq_true rfl⟩) xAt_blind (va_recv hX.x.2.1 hX.x.1 (ci := 0) (q0 := 0) rfl rfl) (fun U hU hW => by show xAt _ _ _ _ _ _ _ U U.heap; rw [hU]; exact hX.x.moved hW) rfl hl.1 rfl (Nat.zero_le _) dL_law_1101 (show cells ≤ 1069 by omega) (show slots ≤ 9070 by omega) (fun r9 hr9 => ?_)
  subst hr9
  refine lv_aload_n G.1 G.2.1 dL_law_1104 rfl (lv_at hl 3 rfl) ?_
  refine gl_m (As := []) (rest := [.int (nI (sp_stale N S))]) G.fix (mX1_stale l D q2 cI cZ N S fv th (va_A (mw q2 cI cZ N S fv th) H.size) hok hinv) gQd_m (cwV 0 G.2.2.2.2.2.1 gL_law_X1_stale rfl rfl rfl (by decide +kernel) ⟨Nat.le_of_ble_eq_true rfl, Nat.le_of_ble_eq_true rfl⟩) hX hS rfl hl.1 rfl (Nat.le_of_ble_eq_true rfl) dL_law_1105 (show cells ≤ 1069 by omega) (show slots ≤ 9070 by omega) (fun r N2 S2 fv2 th2 H locs hp hX hS => ?_)
  obtain ⟨rfl, rfl, rfl, rfl⟩ := hp
  refine gn_eq G (hlt9) (hlt9) (tgt := 1521) dL_law_1108 (by decide) (fun _ => ?_) (fun h => absurd rfl h)
  exact W.widen (Nat.le_add_right _ _) (Nat.le_add_right _ _) (kk _ _ _ _ _ _ _ _ _ hok hinv hX hS hl)
set_option maxRecDepth 100000 in
set_option maxHeartbeats 800000 in
/-- a call of sign in the script -/
theorem lc_sign (l : Launch) (hst : l.stackTraces = false) {p : Program} {e : Env} {s : State} {m : MethodId} {b : Nat} {below : List Frame} {meth : Method} {c : Code} {H : Heap} {locs : List Loc} {cells slots : Nat} {Q : State → Prop} {L : Nat} {xs : Nat → Int32} {D : va_G} {q q2 : Nat → Nat} {cI cZ cL : ClassId} {o : Nat} {N : Nat → Nat} {S : Nat → Nat → Nat} {tr fv : Nat → Nat} {th : Nat} {g : Nat → Int64} {j : Nat} {ls : Array Slot} (G : gF p s m #[Value.ref b] meth c cL_law ret 7 RL wsL_law) (hx : va_X b L xs s s.heap) (hb : b < s.heap.size) (hL : L ≤ 2560) (hj : 5 * j + 5 ≤ L) (hok : sp_ok N S) (hinv : sp_inv N S) (hX : lAt D q q2 cI cZ cL o N S tr N S fv th g s H) (hS : va_S (gA s) s.heap H locs) (hl : lv_has ls 7 [(4, .int (nI (5 * j))), (0, .ref b), (1, .ref (q 0)), (2, .ref (q2 0)), (3, .ref o)]) (hc : cells + 1 ≤ 1069) (hs : slots + 6 ≤ 9070) (kk : lK p l e s m b below meth c Q D q q2 cI cZ cL o j (cells + 1) (slots + 6)) : W p l e room_1 s m #[Value.ref b] below meth c H locs cells slots Q (F0 m 1113 ls []) := by
  refine lv_aload_n G.1 G.2.1 dL_law_1113 rfl (lv_at hl 2 rfl) ?_
  refine lv_aload_n G.1 G.2.1 dL_law_1114 rfl (lv_at hl 1 rfl) ?_
  refine lv_iload G.1 G.2.1 dL_law_1115 (lv_at hl 0 rfl) ?_
  refine lv_iconst (v := nI 1) G.1 G.2.1 dL_law_1117 (by decide) ?_
  refine gn_iadd G dL_law_1118 ?_
  refine va_sld G.1 G.2.1 hx hb (Nat.not_le.mpr hb) hS (vp_in_nI (show 5 * j + 1 < L by omega) (by omega)) dL_law_1119 ?_
  refine lv_aload_n G.1 G.2.1 dL_law_1120 rfl (lv_at hl 4 rfl) ?_
  refine gl_wrap (As := [.ref (q 0), .int (xs (nI (5 * j + 1)).toNatClampNeg), .ref o]) (rest := []) G.fix (mL_sign l hst D q cI o cL N S tr g (va_A (xw q cI N S tr) H.size) hok hinv (xs (nI (5 * j + 1)).toNatClampNeg)) (vx_cwSW 3 G.2.2.2.2.2.1 gL_law_L_sign rfl rfl rfl (by decide +kernel) ⟨Nat.le_of_ble_eq_true rfl, Nat.le_of_ble_eq_true rfl⟩) hX hS rfl hl.1 rfl (Nat.zero_le _) dL_law_1121 hc hs (fun k N1 S1 tr1 g1 H locs hp hX hS => ?_)
  obtain ⟨ek, eN, eS, ev⟩ := hp
  refine lv_istore (lv' := [(5, .int (nI k)), (4, .int (nI (5 * j))), (0, .ref b), (1, .ref (q 0)), (2, .ref (q2 0)), (3, .ref o)]) G.1 G.2.1 dL_law_1124 hl (by decide) rfl (fun ls hl => ?_)
  refine lv_aload_n G.1 G.2.1 dL_law_1126 rfl (lv_at hl 4 rfl) ?_
  refine lv_aload_n G.1 G.2.1 dL_law_1127 rfl (lv_at hl 2 rfl) ?_
  refine lv_iload G.1 G.2.1 dL_law_1128 (lv_at hl 1 rfl) ?_
  refine lv_iconst (v := nI 1) G.1 G.2.1 dL_law_1130 (by decide) ?_
  refine gn_iadd G dL_law_1131 ?_
  refine va_sld G.1 G.2.1 hx hb (Nat.not_le.mpr hb) hS (vp_in_nI (show 5 * j + 1 < L by omega) (by omega)) dL_law_1132 ?_
  refine gl_m (As := [.int (xs (nI (5 * j + 1)).toNatClampNeg)]) (rest := []) G.fix (mX1_sign l D q2 cI cZ N S fv th (va_A (mw q2 cI cZ N S fv th) H.size) hok hinv (xs (nI (5 * j + 1)).toNatClampNeg)) (fun _ _ _ _ h => h) (cwV 1 G.2.2.2.2.2.1 gL_law_X1_sign rfl rfl rfl (by decide +kernel) ⟨Nat.le_of_ble_eq_true rfl, Nat.le_of_ble_eq_true rfl⟩) hX hS rfl hl.1 rfl (Nat.zero_le _) dL_law_1133 (show cells + 1 ≤ 1069 from hc) (show slots + 6 ≤ 9070 from hs) (fun r N2 S2 fv2 th2 H locs hp hX hS => ?_)
  obtain ⟨et, er, eN2, eS2⟩ := hp
  rw [eN, eS, eN2, eS2] at hX
  refine lv_istore (lv' := [(6, .int r), (5, .int (nI k)), (4, .int (nI (5 * j))), (0, .ref b), (1, .ref (q 0)), (2, .ref (q2 0)), (3, .ref o)]) G.1 G.2.1 dL_law_1136 hl (by decide) rfl (fun ls hl => ?_)
  refine lv_aload_n G.1 G.2.1 dL_law_1138 rfl (lv_at hl 5 rfl) ?_
  refine gc_v (As := []) (rest := []) G.fix (mX1_thrown l D q2 cI cZ _ _ fv2 th2 (gA s)) (cwV 0 G.2.2.2.2.2.1 gL_law_X1_thrown rfl rfl rfl (by decide +kernel) ⟨Nat.le_of_ble_eq_true rfl, Nat.le_of_ble_eq_true rfl⟩) mAt_blind (va_recv hX.mm.2.1 hX.mm.1 (ci := 1) (q0 := 0) rfl rfl) (fun U hU hW => by show mAt _ _ _ _ _ _ _ _ _ U U.heap; rw [hU]; exact hX.mm.moved hW) rfl hl.1 rfl (Nat.zero_le _) dL_law_1139 (show cells + 1 ≤ 1069 from hc) (show slots + 6 ≤ 9070 from hs) (fun r9 hr9 => ?_)
  subst hr9
  refine lv_iload G.1 G.2.1 dL_law_1142 (lv_at hl 1 rfl) ?_
  have hk : k < 2 ^ 31 := by rw [ek]; exact gk_lt _ _ _
  have ekt : th2 = k := et.trans ek.symm
  refine gn_eq G (by rw [ekt]; exact hk) hk (tgt := 1149) dL_law_1144 (by decide) (fun _ => ?_) (fun h => absurd ekt h)
  have hin := inv_if hok hinv (k := sk_sign N S (xs (nI (5 * j + 1)).toNatClampNeg)) (fun h => inv_sign hok hinv h)
  refine lv_iload G.1 G.2.1 dL_law_1149 (lv_at hl 1 rfl) ?_
  have hl2 : lv_has ls 7 [(4, .int (nI (5 * j))), (0, .ref b), (1, .ref (q 0)), (2, .ref (q2 0)), (3, .ref o)] := lv_sub hl [2, 3, 4, 5, 6] rfl
  refine gn_nez G hk (tgt := 1173) dL_law_1151 (by decide) (fun _ => ?_) (fun h0 => ?_)
  · refine lv_goto (tgt := 1521) G.1 G.2.1 dL_law_1173 (by decide) ?_
    exact kk _ _ _ _ _ _ _ _ _ hin.1 hin.2 hX hS hl2
  · have h9 : sk_sign N S (xs (nI (5 * j + 1)).toNatClampNeg) = 0 := ek.symm.trans h0
    have e9 : (nI 0).toNatClampNeg = 0 := by decide
    refine lv_aload_n G.1 G.2.1 dL_law_1154 rfl (lv_at hl 6 rfl) ?_
    refine lv_iconst (v := nI 0) G.1 G.2.1 dL_law_1155 (by decide) ?_
    refine va_lald (D := D) G.1 G.2.1 hX.2.1 hX.1 0 2 (f := g1) rfl rfl (by unfold vp_in; decide) dL_law_1156 ?_
    rw [e9, ev h9]
    have er9 := er h9
    refine lv_iload G.1 G.2.1 dL_law_1157 (lv_at hl 0 rfl) ?_
    have hb9 := sp_bit_lt (N 10) (gn (xs (nI (5 * j + 1)).toNatClampNeg))
    have hR9 : sR_sign N S (xs (nI (5 * j + 1)).toNatClampNeg) = 1 - sp_bit (N 10) (gn (xs (nI (5 * j + 1)).toNatClampNeg)) := rfl
    rw [er9]
    refine gn_eqz G (by omega) (tgt := 1166) dL_law_1159 (by decide) (fun h => ?_) (fun h => ?_)
    · refine lv_lconst (v := 0) G.1 G.2.1 dL_law_1166 (by decide) ?_
      rw [h]
      refine W.lcmp G.1 G.2.1 dL_law_1167 ?_
      refine lv_if_eq G.1 G.2.1 (tgt := 1173) dL_law_1168 (by decide) (fun _ => ?_) (fun h => absurd (by decide) h)
      refine lv_goto (tgt := 1521) G.1 G.2.1 dL_law_1173 (by decide) ?_
      exact kk _ _ _ _ _ _ _ _ _ hin.1 hin.2 hX hS hl2
    · have hR : sR_sign N S (xs (nI (5 * j + 1)).toNatClampNeg) = 1 := by omega
      refine lv_lconst (v := 1) G.1 G.2.1 dL_law_1162 (by decide) ?_
      refine lv_goto (tgt := 1167) G.1 G.2.1 dL_law_1163 (by decide) ?_
      rw [hR]
      refine W.lcmp G.1 G.2.1 dL_law_1167 ?_
      refine lv_if_eq G.1 G.2.1 (tgt := 1173) dL_law_1168 (by decide) (fun _ => ?_) (fun h => absurd (by decide) h)
      refine lv_goto (tgt := 1521) G.1 G.2.1 dL_law_1173 (by decide) ?_
      exact kk _ _ _ _ _ _ _ _ _ hin.1 hin.2 hX hS hl2
set_option maxRecDepth 100000 in
set_option maxHeartbeats 800000 in
theorem lc_held (l : Launch) (hst : l.stackTraces = false) {p : Program} {e : Env} {s : State} {m : MethodId} {b : Nat} {below : List Frame} {meth : Method} {c : Code} {H : Heap} {locs : List Loc} {cells slots : Nat} {Q : State → Prop} {L : Nat} {xs : Nat → Int32} {D : va_G} {q q2 : Nat → Nat} {cI cZ cL : ClassId} {o : Nat} {N : Nat → Nat} {S : Nat → Nat → Nat} {tr fv : Nat → Nat} {th : Nat} {g : Nat → Int64} {j : Nat} {ls : Array Slot} (G : gF p s m #[Value.ref b] meth c cL_law ret 7 RL wsL_law) (hx : va_X b L xs s s.heap) (hb : b < s.heap.size) (hL : L ≤ 2560) (hj : 5 * j + 5 ≤ L) (hok : sp_ok N S) (hinv : sp_inv N S) (hX : lAt D q q2 cI cZ cL o N S tr N S fv th g s H) (hS : va_S (gA s) s.heap H locs) (hl : lv_has ls 7 [(4, .int (nI (5 * j))), (0, .ref b), (1, .ref (q 0)), (2, .ref (q2 0)), (3, .ref o)]) (hc : cells + 1 ≤ 1069) (hs : slots + 6 ≤ 9070) (kk : lK p l e s m b below meth c Q D q q2 cI cZ cL o j (cells + 1) (slots + 6)) : W p l e room_1 s m #[Value.ref b] below meth c H locs cells slots Q (F0 m 1176 ls []) := by
  have hlt9 : sp_held N S < 2 ^ 31 := Nat.lt_of_lt_of_le (sp_held_lt hok) (by decide)
  refine lv_aload_n G.1 G.2.1 dL_law_1176 rfl (lv_at hl 2 rfl) ?_
  refine gc_v (As := []) (rest := []) G.fix (mX0_held l D q cI N S tr (gA s) hok hinv.2.2.2.1) (cwV 0 G.2.2.2.2.2.1 gL_law_X0_held rfl rfl rfl (by decide +kernel) ⟨Nat.le_of_ble_eq_true rfl, Nat.le_of_ble_eq_true rfl⟩) xAt_blind (va_recv hX.x.2.1 hX.x.1 (ci := 0) (q0 := 0) rfl rfl) (fun U hU hW => by show xAt _ _ _ _ _ _ _ U U.heap; rw [hU]; exact hX.x.moved hW) rfl hl.1 rfl (Nat.zero_le _) dL_law_1177 (show cells ≤ 1069 by omega) (show slots ≤ 9070 by omega) (fun r9 hr9 => ?_)
  subst hr9
  refine lv_aload_n G.1 G.2.1 dL_law_1180 rfl (lv_at hl 3 rfl) ?_
  refine gl_m (As := []) (rest := [.int (nI (sp_held N S))]) G.fix (mX1_held l D q2 cI cZ N S fv th (va_A (mw q2 cI cZ N S fv th) H.size) hok hinv) gQd_m (cwV 0 G.2.2.2.2.2.1 gL_law_X1_held rfl rfl rfl (by decide +kernel) ⟨Nat.le_of_ble_eq_true rfl, Nat.le_of_ble_eq_true rfl⟩) hX hS rfl hl.1 rfl (Nat.le_of_ble_eq_true rfl) dL_law_1181 (show cells ≤ 1069 by omega) (show slots ≤ 9070 by omega) (fun r N2 S2 fv2 th2 H locs hp hX hS => ?_)
  obtain ⟨rfl, rfl, rfl, rfl⟩ := hp
  refine gn_eq G (hlt9) (hlt9) (tgt := 1521) dL_law_1184 (by decide) (fun _ => ?_) (fun h => absurd rfl h)
  exact W.widen (Nat.le_add_right _ _) (Nat.le_add_right _ _) (kk _ _ _ _ _ _ _ _ _ hok hinv hX hS hl)
set_option maxRecDepth 100000 in
set_option maxHeartbeats 800000 in
/-- a call of paint in the script -/
theorem lc_paint (l : Launch) (hst : l.stackTraces = false) {p : Program} {e : Env} {s : State} {m : MethodId} {b : Nat} {below : List Frame} {meth : Method} {c : Code} {H : Heap} {locs : List Loc} {cells slots : Nat} {Q : State → Prop} {L : Nat} {xs : Nat → Int32} {D : va_G} {q q2 : Nat → Nat} {cI cZ cL : ClassId} {o : Nat} {N : Nat → Nat} {S : Nat → Nat → Nat} {tr fv : Nat → Nat} {th : Nat} {g : Nat → Int64} {j : Nat} {ls : Array Slot} (G : gF p s m #[Value.ref b] meth c cL_law ret 7 RL wsL_law) (hx : va_X b L xs s s.heap) (hb : b < s.heap.size) (hL : L ≤ 2560) (hj : 5 * j + 5 ≤ L) (hok : sp_ok N S) (hinv : sp_inv N S) (hX : lAt D q q2 cI cZ cL o N S tr N S fv th g s H) (hS : va_S (gA s) s.heap H locs) (hl : lv_has ls 7 [(4, .int (nI (5 * j))), (0, .ref b), (1, .ref (q 0)), (2, .ref (q2 0)), (3, .ref o)]) (hc : cells + 1 ≤ 1069) (hs : slots + 6 ≤ 9070) (kk : lK p l e s m b below meth c Q D q q2 cI cZ cL o j (cells + 1) (slots + 6)) : W p l e room_1 s m #[Value.ref b] below meth c H locs cells slots Q (F0 m 1189 ls []) := by
  refine lv_aload_n G.1 G.2.1 dL_law_1189 rfl (lv_at hl 2 rfl) ?_
  refine lv_aload_n G.1 G.2.1 dL_law_1190 rfl (lv_at hl 1 rfl) ?_
  refine lv_iload G.1 G.2.1 dL_law_1191 (lv_at hl 0 rfl) ?_
  refine lv_iconst (v := nI 1) G.1 G.2.1 dL_law_1193 (by decide) ?_
  refine gn_iadd G dL_law_1194 ?_
  refine va_sld G.1 G.2.1 hx hb (Nat.not_le.mpr hb) hS (vp_in_nI (show 5 * j + 1 < L by omega) (by omega)) dL_law_1195 ?_
  refine lv_aload_n G.1 G.2.1 dL_law_1196 rfl (lv_at hl 1 rfl) ?_
  refine lv_iload G.1 G.2.1 dL_law_1197 (lv_at hl 0 rfl) ?_
  refine lv_iconst (v := nI 2) G.1 G.2.1 dL_law_1199 (by decide) ?_
  refine gn_iadd G dL_law_1200 ?_
  refine va_sld G.1 G.2.1 hx hb (Nat.not_le.mpr hb) hS (vp_in_nI (show 5 * j + 2 < L by omega) (by omega)) dL_law_1201 ?_
  refine lv_aload_n G.1 G.2.1 dL_law_1202 rfl (lv_at hl 1 rfl) ?_
  refine lv_iload G.1 G.2.1 dL_law_1203 (lv_at hl 0 rfl) ?_
  refine lv_iconst (v := nI 3) G.1 G.2.1 dL_law_1205 (by decide) ?_
  refine gn_iadd G dL_law_1206 ?_
  refine va_sld G.1 G.2.1 hx hb (Nat.not_le.mpr hb) hS (vp_in_nI (show 5 * j + 3 < L by omega) (by omega)) dL_law_1207 ?_
  refine lv_aload_n G.1 G.2.1 dL_law_1208 rfl (lv_at hl 4 rfl) ?_
  refine gl_wrap (As := [.ref (q 0), .int (xs (nI (5 * j + 1)).toNatClampNeg), .int (xs (nI (5 * j + 2)).toNatClampNeg), .int (xs (nI (5 * j + 3)).toNatClampNeg), .ref o]) (rest := []) G.fix (mL_paint l hst D q cI o cL N S tr g (va_A (xw q cI N S tr) H.size) hok hinv (xs (nI (5 * j + 1)).toNatClampNeg) (xs (nI (5 * j + 2)).toNatClampNeg) (xs (nI (5 * j + 3)).toNatClampNeg)) (vx_cwSW 5 G.2.2.2.2.2.1 gL_law_L_paint rfl rfl rfl (by decide +kernel) ⟨Nat.le_of_ble_eq_true rfl, Nat.le_of_ble_eq_true rfl⟩) hX hS rfl hl.1 rfl (Nat.zero_le _) dL_law_1209 hc hs (fun k N1 S1 tr1 g1 H locs hp hX hS => ?_)
  obtain ⟨ek, eN, eS, ev⟩ := hp
  refine lv_istore (lv' := [(5, .int (nI k)), (4, .int (nI (5 * j))), (0, .ref b), (1, .ref (q 0)), (2, .ref (q2 0)), (3, .ref o)]) G.1 G.2.1 dL_law_1212 hl (by decide) rfl (fun ls hl => ?_)
  refine lv_aload_n G.1 G.2.1 dL_law_1214 rfl (lv_at hl 4 rfl) ?_
  refine lv_aload_n G.1 G.2.1 dL_law_1215 rfl (lv_at hl 2 rfl) ?_
  refine lv_iload G.1 G.2.1 dL_law_1216 (lv_at hl 1 rfl) ?_
  refine lv_iconst (v := nI 1) G.1 G.2.1 dL_law_1218 (by decide) ?_
  refine gn_iadd G dL_law_1219 ?_
  refine va_sld G.1 G.2.1 hx hb (Nat.not_le.mpr hb) hS (vp_in_nI (show 5 * j + 1 < L by omega) (by omega)) dL_law_1220 ?_
  refine lv_aload_n G.1 G.2.1 dL_law_1221 rfl (lv_at hl 2 rfl) ?_
  refine lv_iload G.1 G.2.1 dL_law_1222 (lv_at hl 1 rfl) ?_
  refine lv_iconst (v := nI 2) G.1 G.2.1 dL_law_1224 (by decide) ?_
  refine gn_iadd G dL_law_1225 ?_
  refine va_sld G.1 G.2.1 hx hb (Nat.not_le.mpr hb) hS (vp_in_nI (show 5 * j + 2 < L by omega) (by omega)) dL_law_1226 ?_
  refine lv_aload_n G.1 G.2.1 dL_law_1227 rfl (lv_at hl 2 rfl) ?_
  refine lv_iload G.1 G.2.1 dL_law_1228 (lv_at hl 1 rfl) ?_
  refine lv_iconst (v := nI 3) G.1 G.2.1 dL_law_1230 (by decide) ?_
  refine gn_iadd G dL_law_1231 ?_
  refine va_sld G.1 G.2.1 hx hb (Nat.not_le.mpr hb) hS (vp_in_nI (show 5 * j + 3 < L by omega) (by omega)) dL_law_1232 ?_
  refine gl_m (As := [.int (xs (nI (5 * j + 1)).toNatClampNeg), .int (xs (nI (5 * j + 2)).toNatClampNeg), .int (xs (nI (5 * j + 3)).toNatClampNeg)]) (rest := []) G.fix (mX1_paint l D q2 cI cZ N S fv th (va_A (mw q2 cI cZ N S fv th) H.size) hok hinv (xs (nI (5 * j + 1)).toNatClampNeg) (xs (nI (5 * j + 2)).toNatClampNeg) (xs (nI (5 * j + 3)).toNatClampNeg)) (fun _ _ _ _ h => h) (cwV 3 G.2.2.2.2.2.1 gL_law_X1_paint rfl rfl rfl (by decide +kernel) ⟨Nat.le_of_ble_eq_true rfl, Nat.le_of_ble_eq_true rfl⟩) hX hS rfl hl.1 rfl (Nat.zero_le _) dL_law_1233 (show cells + 1 ≤ 1069 from hc) (show slots + 6 ≤ 9070 from hs) (fun r N2 S2 fv2 th2 H locs hp hX hS => ?_)
  obtain ⟨et, er, eN2, eS2⟩ := hp
  rw [eN, eS, eN2, eS2] at hX
  refine lv_istore (lv' := [(6, .int r), (5, .int (nI k)), (4, .int (nI (5 * j))), (0, .ref b), (1, .ref (q 0)), (2, .ref (q2 0)), (3, .ref o)]) G.1 G.2.1 dL_law_1236 hl (by decide) rfl (fun ls hl => ?_)
  refine lv_aload_n G.1 G.2.1 dL_law_1238 rfl (lv_at hl 5 rfl) ?_
  refine gc_v (As := []) (rest := []) G.fix (mX1_thrown l D q2 cI cZ _ _ fv2 th2 (gA s)) (cwV 0 G.2.2.2.2.2.1 gL_law_X1_thrown rfl rfl rfl (by decide +kernel) ⟨Nat.le_of_ble_eq_true rfl, Nat.le_of_ble_eq_true rfl⟩) mAt_blind (va_recv hX.mm.2.1 hX.mm.1 (ci := 1) (q0 := 0) rfl rfl) (fun U hU hW => by show mAt _ _ _ _ _ _ _ _ _ U U.heap; rw [hU]; exact hX.mm.moved hW) rfl hl.1 rfl (Nat.zero_le _) dL_law_1239 (show cells + 1 ≤ 1069 from hc) (show slots + 6 ≤ 9070 from hs) (fun r9 hr9 => ?_)
  subst hr9
  refine lv_iload G.1 G.2.1 dL_law_1242 (lv_at hl 1 rfl) ?_
  have hk : k < 2 ^ 31 := by rw [ek]; exact gk_lt _ _ _
  have ekt : th2 = k := et.trans ek.symm
  refine gn_eq G (by rw [ekt]; exact hk) hk (tgt := 1249) dL_law_1244 (by decide) (fun _ => ?_) (fun h => absurd ekt h)
  have hin := inv_if hok hinv (k := sk_paint N S (xs (nI (5 * j + 1)).toNatClampNeg) (xs (nI (5 * j + 2)).toNatClampNeg) (xs (nI (5 * j + 3)).toNatClampNeg)) (fun h => inv_paint hok hinv h)
  refine lv_iload G.1 G.2.1 dL_law_1249 (lv_at hl 1 rfl) ?_
  have hl2 : lv_has ls 7 [(4, .int (nI (5 * j))), (0, .ref b), (1, .ref (q 0)), (2, .ref (q2 0)), (3, .ref o)] := lv_sub hl [2, 3, 4, 5, 6] rfl
  refine gn_nez G hk (tgt := 1266) dL_law_1251 (by decide) (fun _ => ?_) (fun h0 => ?_)
  · refine lv_goto (tgt := 1521) G.1 G.2.1 dL_law_1266 (by decide) ?_
    exact kk _ _ _ _ _ _ _ _ _ hin.1 hin.2 hX hS hl2
  · have h9 : sk_paint N S (xs (nI (5 * j + 1)).toNatClampNeg) (xs (nI (5 * j + 2)).toNatClampNeg) (xs (nI (5 * j + 3)).toNatClampNeg) = 0 := ek.symm.trans h0
    have e9 : (nI 0).toNatClampNeg = 0 := by decide
    refine lv_aload_n G.1 G.2.1 dL_law_1254 rfl (lv_at hl 6 rfl) ?_
    refine lv_iconst (v := nI 0) G.1 G.2.1 dL_law_1255 (by decide) ?_
    refine va_lald (D := D) G.1 G.2.1 hX.2.1 hX.1 0 2 (f := g1) rfl rfl (by unfold vp_in; decide) dL_law_1256 ?_
    rw [e9, ev h9]
    have er9 := er h9
    refine lv_iload G.1 G.2.1 dL_law_1257 (lv_at hl 0 rfl) ?_
    refine lv_i2l (v := r.toInt64) G.1 G.2.1 dL_law_1259 rfl ?_
    refine W.lcmp G.1 G.2.1 dL_law_1260 ?_
    rw [er9]
    refine lv_if_eq G.1 G.2.1 (tgt := 1266) dL_law_1261 (by decide) (fun _ => ?_) (fun h => absurd ((lg_cmp_eq _ _).mpr rfl) h)
    refine lv_goto (tgt := 1521) G.1 G.2.1 dL_law_1266 (by decide) ?_
    exact kk _ _ _ _ _ _ _ _ _ hin.1 hin.2 hX hS hl2
set_option maxRecDepth 100000 in
set_option maxHeartbeats 800000 in
/-- a call of spot in the script -/
theorem lc_spot (l : Launch) (hst : l.stackTraces = false) {p : Program} {e : Env} {s : State} {m : MethodId} {b : Nat} {below : List Frame} {meth : Method} {c : Code} {H : Heap} {locs : List Loc} {cells slots : Nat} {Q : State → Prop} {L : Nat} {xs : Nat → Int32} {D : va_G} {q q2 : Nat → Nat} {cI cZ cL : ClassId} {o : Nat} {N : Nat → Nat} {S : Nat → Nat → Nat} {tr fv : Nat → Nat} {th : Nat} {g : Nat → Int64} {j : Nat} {ls : Array Slot} (G : gF p s m #[Value.ref b] meth c cL_law ret 7 RL wsL_law) (hx : va_X b L xs s s.heap) (hb : b < s.heap.size) (hL : L ≤ 2560) (hj : 5 * j + 5 ≤ L) (hok : sp_ok N S) (hinv : sp_inv N S) (hX : lAt D q q2 cI cZ cL o N S tr N S fv th g s H) (hS : va_S (gA s) s.heap H locs) (hl : lv_has ls 7 [(4, .int (nI (5 * j))), (0, .ref b), (1, .ref (q 0)), (2, .ref (q2 0)), (3, .ref o)]) (hc : cells + 1 ≤ 1069) (hs : slots + 6 ≤ 9070) (kk : lK p l e s m b below meth c Q D q q2 cI cZ cL o j (cells + 1) (slots + 6)) : W p l e room_1 s m #[Value.ref b] below meth c H locs cells slots Q (F0 m 1269 ls []) := by
  refine lv_aload_n G.1 G.2.1 dL_law_1269 rfl (lv_at hl 2 rfl) ?_
  refine lv_aload_n G.1 G.2.1 dL_law_1270 rfl (lv_at hl 1 rfl) ?_
  refine lv_iload G.1 G.2.1 dL_law_1271 (lv_at hl 0 rfl) ?_
  refine lv_iconst (v := nI 1) G.1 G.2.1 dL_law_1273 (by decide) ?_
  refine gn_iadd G dL_law_1274 ?_
  refine va_sld G.1 G.2.1 hx hb (Nat.not_le.mpr hb) hS (vp_in_nI (show 5 * j + 1 < L by omega) (by omega)) dL_law_1275 ?_
  refine lv_aload_n G.1 G.2.1 dL_law_1276 rfl (lv_at hl 1 rfl) ?_
  refine lv_iload G.1 G.2.1 dL_law_1277 (lv_at hl 0 rfl) ?_
  refine lv_iconst (v := nI 2) G.1 G.2.1 dL_law_1279 (by decide) ?_
  refine gn_iadd G dL_law_1280 ?_
  refine va_sld G.1 G.2.1 hx hb (Nat.not_le.mpr hb) hS (vp_in_nI (show 5 * j + 2 < L by omega) (by omega)) dL_law_1281 ?_
  refine lv_aload_n G.1 G.2.1 dL_law_1282 rfl (lv_at hl 1 rfl) ?_
  refine lv_iload G.1 G.2.1 dL_law_1283 (lv_at hl 0 rfl) ?_
  refine lv_iconst (v := nI 3) G.1 G.2.1 dL_law_1285 (by decide) ?_
  refine gn_iadd G dL_law_1286 ?_
  refine va_sld G.1 G.2.1 hx hb (Nat.not_le.mpr hb) hS (vp_in_nI (show 5 * j + 3 < L by omega) (by omega)) dL_law_1287 ?_
  refine lv_aload_n G.1 G.2.1 dL_law_1288 rfl (lv_at hl 4 rfl) ?_
  refine gl_wrap (As := [.ref (q 0), .int (xs (nI (5 * j + 1)).toNatClampNeg), .int (xs (nI (5 * j + 2)).toNatClampNeg), .int (xs (nI (5 * j + 3)).toNatClampNeg), .ref o]) (rest := []) G.fix (mL_spot l hst D q cI o cL N S tr g (va_A (xw q cI N S tr) H.size) hok hinv (xs (nI (5 * j + 1)).toNatClampNeg) (xs (nI (5 * j + 2)).toNatClampNeg) (xs (nI (5 * j + 3)).toNatClampNeg)) (vx_cwSW 5 G.2.2.2.2.2.1 gL_law_L_spot rfl rfl rfl (by decide +kernel) ⟨Nat.le_of_ble_eq_true rfl, Nat.le_of_ble_eq_true rfl⟩) hX hS rfl hl.1 rfl (Nat.zero_le _) dL_law_1289 hc hs (fun k N1 S1 tr1 g1 H locs hp hX hS => ?_)
  obtain ⟨ek, eN, eS, ev⟩ := hp
  refine lv_istore (lv' := [(5, .int (nI k)), (4, .int (nI (5 * j))), (0, .ref b), (1, .ref (q 0)), (2, .ref (q2 0)), (3, .ref o)]) G.1 G.2.1 dL_law_1292 hl (by decide) rfl (fun ls hl => ?_)
  refine lv_aload_n G.1 G.2.1 dL_law_1294 rfl (lv_at hl 4 rfl) ?_
  refine lv_aload_n G.1 G.2.1 dL_law_1295 rfl (lv_at hl 2 rfl) ?_
  refine lv_iload G.1 G.2.1 dL_law_1296 (lv_at hl 1 rfl) ?_
  refine lv_iconst (v := nI 1) G.1 G.2.1 dL_law_1298 (by decide) ?_
  refine gn_iadd G dL_law_1299 ?_
  refine va_sld G.1 G.2.1 hx hb (Nat.not_le.mpr hb) hS (vp_in_nI (show 5 * j + 1 < L by omega) (by omega)) dL_law_1300 ?_
  refine lv_aload_n G.1 G.2.1 dL_law_1301 rfl (lv_at hl 2 rfl) ?_
  refine lv_iload G.1 G.2.1 dL_law_1302 (lv_at hl 1 rfl) ?_
  refine lv_iconst (v := nI 2) G.1 G.2.1 dL_law_1304 (by decide) ?_
  refine gn_iadd G dL_law_1305 ?_
  refine va_sld G.1 G.2.1 hx hb (Nat.not_le.mpr hb) hS (vp_in_nI (show 5 * j + 2 < L by omega) (by omega)) dL_law_1306 ?_
  refine lv_aload_n G.1 G.2.1 dL_law_1307 rfl (lv_at hl 2 rfl) ?_
  refine lv_iload G.1 G.2.1 dL_law_1308 (lv_at hl 1 rfl) ?_
  refine lv_iconst (v := nI 3) G.1 G.2.1 dL_law_1310 (by decide) ?_
  refine gn_iadd G dL_law_1311 ?_
  refine va_sld G.1 G.2.1 hx hb (Nat.not_le.mpr hb) hS (vp_in_nI (show 5 * j + 3 < L by omega) (by omega)) dL_law_1312 ?_
  refine gl_m (As := [.int (xs (nI (5 * j + 1)).toNatClampNeg), .int (xs (nI (5 * j + 2)).toNatClampNeg), .int (xs (nI (5 * j + 3)).toNatClampNeg)]) (rest := []) G.fix (mX1_spot l D q2 cI cZ N S fv th (va_A (mw q2 cI cZ N S fv th) H.size) hok hinv (xs (nI (5 * j + 1)).toNatClampNeg) (xs (nI (5 * j + 2)).toNatClampNeg) (xs (nI (5 * j + 3)).toNatClampNeg)) (fun _ _ _ _ h => h) (cwV 3 G.2.2.2.2.2.1 gL_law_X1_spot rfl rfl rfl (by decide +kernel) ⟨Nat.le_of_ble_eq_true rfl, Nat.le_of_ble_eq_true rfl⟩) hX hS rfl hl.1 rfl (Nat.zero_le _) dL_law_1313 (show cells + 1 ≤ 1069 from hc) (show slots + 6 ≤ 9070 from hs) (fun r N2 S2 fv2 th2 H locs hp hX hS => ?_)
  obtain ⟨et, er, eN2, eS2⟩ := hp
  rw [eN, eS, eN2, eS2] at hX
  refine lv_istore (lv' := [(6, .int r), (5, .int (nI k)), (4, .int (nI (5 * j))), (0, .ref b), (1, .ref (q 0)), (2, .ref (q2 0)), (3, .ref o)]) G.1 G.2.1 dL_law_1316 hl (by decide) rfl (fun ls hl => ?_)
  refine lv_aload_n G.1 G.2.1 dL_law_1318 rfl (lv_at hl 5 rfl) ?_
  refine gc_v (As := []) (rest := []) G.fix (mX1_thrown l D q2 cI cZ _ _ fv2 th2 (gA s)) (cwV 0 G.2.2.2.2.2.1 gL_law_X1_thrown rfl rfl rfl (by decide +kernel) ⟨Nat.le_of_ble_eq_true rfl, Nat.le_of_ble_eq_true rfl⟩) mAt_blind (va_recv hX.mm.2.1 hX.mm.1 (ci := 1) (q0 := 0) rfl rfl) (fun U hU hW => by show mAt _ _ _ _ _ _ _ _ _ U U.heap; rw [hU]; exact hX.mm.moved hW) rfl hl.1 rfl (Nat.zero_le _) dL_law_1319 (show cells + 1 ≤ 1069 from hc) (show slots + 6 ≤ 9070 from hs) (fun r9 hr9 => ?_)
  subst hr9
  refine lv_iload G.1 G.2.1 dL_law_1322 (lv_at hl 1 rfl) ?_
  have hk : k < 2 ^ 31 := by rw [ek]; exact gk_lt _ _ _
  have ekt : th2 = k := et.trans ek.symm
  refine gn_eq G (by rw [ekt]; exact hk) hk (tgt := 1329) dL_law_1324 (by decide) (fun _ => ?_) (fun h => absurd ekt h)
  have hin := inv_if hok hinv (k := sk_spot N S (xs (nI (5 * j + 1)).toNatClampNeg) (xs (nI (5 * j + 2)).toNatClampNeg) (xs (nI (5 * j + 3)).toNatClampNeg)) (fun h => inv_spot hok hinv h)
  refine lv_iload G.1 G.2.1 dL_law_1329 (lv_at hl 1 rfl) ?_
  have hl2 : lv_has ls 7 [(4, .int (nI (5 * j))), (0, .ref b), (1, .ref (q 0)), (2, .ref (q2 0)), (3, .ref o)] := lv_sub hl [2, 3, 4, 5, 6] rfl
  refine gn_nez G hk (tgt := 1346) dL_law_1331 (by decide) (fun _ => ?_) (fun h0 => ?_)
  · refine lv_goto (tgt := 1521) G.1 G.2.1 dL_law_1346 (by decide) ?_
    exact kk _ _ _ _ _ _ _ _ _ hin.1 hin.2 hX hS hl2
  · have h9 : sk_spot N S (xs (nI (5 * j + 1)).toNatClampNeg) (xs (nI (5 * j + 2)).toNatClampNeg) (xs (nI (5 * j + 3)).toNatClampNeg) = 0 := ek.symm.trans h0
    have e9 : (nI 0).toNatClampNeg = 0 := by decide
    refine lv_aload_n G.1 G.2.1 dL_law_1334 rfl (lv_at hl 6 rfl) ?_
    refine lv_iconst (v := nI 0) G.1 G.2.1 dL_law_1335 (by decide) ?_
    refine va_lald (D := D) G.1 G.2.1 hX.2.1 hX.1 0 2 (f := g1) rfl rfl (by unfold vp_in; decide) dL_law_1336 ?_
    rw [e9, ev h9]
    have er9 := er h9
    refine lv_iload G.1 G.2.1 dL_law_1337 (lv_at hl 0 rfl) ?_
    refine lv_i2l (v := r.toInt64) G.1 G.2.1 dL_law_1339 rfl ?_
    refine W.lcmp G.1 G.2.1 dL_law_1340 ?_
    rw [er9]
    refine lv_if_eq G.1 G.2.1 (tgt := 1346) dL_law_1341 (by decide) (fun _ => ?_) (fun h => absurd ((lg_cmp_eq _ _).mpr rfl) h)
    refine lv_goto (tgt := 1521) G.1 G.2.1 dL_law_1346 (by decide) ?_
    exact kk _ _ _ _ _ _ _ _ _ hin.1 hin.2 hX hS hl2
set_option maxRecDepth 100000 in
set_option maxHeartbeats 800000 in
/-- a call of mix in the script -/
theorem lc_mix (l : Launch) (hst : l.stackTraces = false) {p : Program} {e : Env} {s : State} {m : MethodId} {b : Nat} {below : List Frame} {meth : Method} {c : Code} {H : Heap} {locs : List Loc} {cells slots : Nat} {Q : State → Prop} {L : Nat} {xs : Nat → Int32} {D : va_G} {q q2 : Nat → Nat} {cI cZ cL : ClassId} {o : Nat} {N : Nat → Nat} {S : Nat → Nat → Nat} {tr fv : Nat → Nat} {th : Nat} {g : Nat → Int64} {j : Nat} {ls : Array Slot} (G : gF p s m #[Value.ref b] meth c cL_law ret 7 RL wsL_law) (hx : va_X b L xs s s.heap) (hb : b < s.heap.size) (hL : L ≤ 2560) (hj : 5 * j + 5 ≤ L) (hok : sp_ok N S) (hinv : sp_inv N S) (hX : lAt D q q2 cI cZ cL o N S tr N S fv th g s H) (hS : va_S (gA s) s.heap H locs) (hl : lv_has ls 7 [(4, .int (nI (5 * j))), (0, .ref b), (1, .ref (q 0)), (2, .ref (q2 0)), (3, .ref o)]) (hc : cells + 1 ≤ 1069) (hs : slots + 6 ≤ 9070) (kk : lK p l e s m b below meth c Q D q q2 cI cZ cL o j (cells + 1) (slots + 6)) : W p l e room_1 s m #[Value.ref b] below meth c H locs cells slots Q (F0 m 1349 ls []) := by
  refine lv_aload_n G.1 G.2.1 dL_law_1349 rfl (lv_at hl 2 rfl) ?_
  refine lv_aload_n G.1 G.2.1 dL_law_1350 rfl (lv_at hl 1 rfl) ?_
  refine lv_iload G.1 G.2.1 dL_law_1351 (lv_at hl 0 rfl) ?_
  refine lv_iconst (v := nI 1) G.1 G.2.1 dL_law_1353 (by decide) ?_
  refine gn_iadd G dL_law_1354 ?_
  refine va_sld G.1 G.2.1 hx hb (Nat.not_le.mpr hb) hS (vp_in_nI (show 5 * j + 1 < L by omega) (by omega)) dL_law_1355 ?_
  refine lv_aload_n G.1 G.2.1 dL_law_1356 rfl (lv_at hl 1 rfl) ?_
  refine lv_iload G.1 G.2.1 dL_law_1357 (lv_at hl 0 rfl) ?_
  refine lv_iconst (v := nI 2) G.1 G.2.1 dL_law_1359 (by decide) ?_
  refine gn_iadd G dL_law_1360 ?_
  refine va_sld G.1 G.2.1 hx hb (Nat.not_le.mpr hb) hS (vp_in_nI (show 5 * j + 2 < L by omega) (by omega)) dL_law_1361 ?_
  refine lv_aload_n G.1 G.2.1 dL_law_1362 rfl (lv_at hl 1 rfl) ?_
  refine lv_iload G.1 G.2.1 dL_law_1363 (lv_at hl 0 rfl) ?_
  refine lv_iconst (v := nI 3) G.1 G.2.1 dL_law_1365 (by decide) ?_
  refine gn_iadd G dL_law_1366 ?_
  refine va_sld G.1 G.2.1 hx hb (Nat.not_le.mpr hb) hS (vp_in_nI (show 5 * j + 3 < L by omega) (by omega)) dL_law_1367 ?_
  refine lv_aload_n G.1 G.2.1 dL_law_1368 rfl (lv_at hl 4 rfl) ?_
  refine gl_wrap (As := [.ref (q 0), .int (xs (nI (5 * j + 1)).toNatClampNeg), .int (xs (nI (5 * j + 2)).toNatClampNeg), .int (xs (nI (5 * j + 3)).toNatClampNeg), .ref o]) (rest := []) G.fix (mL_mix l hst D q cI o cL N S tr g (va_A (xw q cI N S tr) H.size) hok hinv (xs (nI (5 * j + 1)).toNatClampNeg) (xs (nI (5 * j + 2)).toNatClampNeg) (xs (nI (5 * j + 3)).toNatClampNeg)) (vx_cwSW 5 G.2.2.2.2.2.1 gL_law_L_mix rfl rfl rfl (by decide +kernel) ⟨Nat.le_of_ble_eq_true rfl, Nat.le_of_ble_eq_true rfl⟩) hX hS rfl hl.1 rfl (Nat.zero_le _) dL_law_1369 hc hs (fun k N1 S1 tr1 g1 H locs hp hX hS => ?_)
  obtain ⟨ek, eN, eS, ev⟩ := hp
  refine lv_istore (lv' := [(5, .int (nI k)), (4, .int (nI (5 * j))), (0, .ref b), (1, .ref (q 0)), (2, .ref (q2 0)), (3, .ref o)]) G.1 G.2.1 dL_law_1372 hl (by decide) rfl (fun ls hl => ?_)
  refine lv_aload_n G.1 G.2.1 dL_law_1374 rfl (lv_at hl 4 rfl) ?_
  refine lv_aload_n G.1 G.2.1 dL_law_1375 rfl (lv_at hl 2 rfl) ?_
  refine lv_iload G.1 G.2.1 dL_law_1376 (lv_at hl 1 rfl) ?_
  refine lv_iconst (v := nI 1) G.1 G.2.1 dL_law_1378 (by decide) ?_
  refine gn_iadd G dL_law_1379 ?_
  refine va_sld G.1 G.2.1 hx hb (Nat.not_le.mpr hb) hS (vp_in_nI (show 5 * j + 1 < L by omega) (by omega)) dL_law_1380 ?_
  refine lv_aload_n G.1 G.2.1 dL_law_1381 rfl (lv_at hl 2 rfl) ?_
  refine lv_iload G.1 G.2.1 dL_law_1382 (lv_at hl 1 rfl) ?_
  refine lv_iconst (v := nI 2) G.1 G.2.1 dL_law_1384 (by decide) ?_
  refine gn_iadd G dL_law_1385 ?_
  refine va_sld G.1 G.2.1 hx hb (Nat.not_le.mpr hb) hS (vp_in_nI (show 5 * j + 2 < L by omega) (by omega)) dL_law_1386 ?_
  refine lv_aload_n G.1 G.2.1 dL_law_1387 rfl (lv_at hl 2 rfl) ?_
  refine lv_iload G.1 G.2.1 dL_law_1388 (lv_at hl 1 rfl) ?_
  refine lv_iconst (v := nI 3) G.1 G.2.1 dL_law_1390 (by decide) ?_
  refine gn_iadd G dL_law_1391 ?_
  refine va_sld G.1 G.2.1 hx hb (Nat.not_le.mpr hb) hS (vp_in_nI (show 5 * j + 3 < L by omega) (by omega)) dL_law_1392 ?_
  refine gl_m (As := [.int (xs (nI (5 * j + 1)).toNatClampNeg), .int (xs (nI (5 * j + 2)).toNatClampNeg), .int (xs (nI (5 * j + 3)).toNatClampNeg)]) (rest := []) G.fix (mX1_mix l D q2 cI cZ N S fv th (va_A (mw q2 cI cZ N S fv th) H.size) hok hinv (xs (nI (5 * j + 1)).toNatClampNeg) (xs (nI (5 * j + 2)).toNatClampNeg) (xs (nI (5 * j + 3)).toNatClampNeg)) (fun _ _ _ _ h => h) (cwV 3 G.2.2.2.2.2.1 gL_law_X1_mix rfl rfl rfl (by decide +kernel) ⟨Nat.le_of_ble_eq_true rfl, Nat.le_of_ble_eq_true rfl⟩) hX hS rfl hl.1 rfl (Nat.zero_le _) dL_law_1393 (show cells + 1 ≤ 1069 from hc) (show slots + 6 ≤ 9070 from hs) (fun r N2 S2 fv2 th2 H locs hp hX hS => ?_)
  obtain ⟨et, er, eN2, eS2⟩ := hp
  rw [eN, eS, eN2, eS2] at hX
  refine lv_istore (lv' := [(6, .int r), (5, .int (nI k)), (4, .int (nI (5 * j))), (0, .ref b), (1, .ref (q 0)), (2, .ref (q2 0)), (3, .ref o)]) G.1 G.2.1 dL_law_1396 hl (by decide) rfl (fun ls hl => ?_)
  refine lv_aload_n G.1 G.2.1 dL_law_1398 rfl (lv_at hl 5 rfl) ?_
  refine gc_v (As := []) (rest := []) G.fix (mX1_thrown l D q2 cI cZ _ _ fv2 th2 (gA s)) (cwV 0 G.2.2.2.2.2.1 gL_law_X1_thrown rfl rfl rfl (by decide +kernel) ⟨Nat.le_of_ble_eq_true rfl, Nat.le_of_ble_eq_true rfl⟩) mAt_blind (va_recv hX.mm.2.1 hX.mm.1 (ci := 1) (q0 := 0) rfl rfl) (fun U hU hW => by show mAt _ _ _ _ _ _ _ _ _ U U.heap; rw [hU]; exact hX.mm.moved hW) rfl hl.1 rfl (Nat.zero_le _) dL_law_1399 (show cells + 1 ≤ 1069 from hc) (show slots + 6 ≤ 9070 from hs) (fun r9 hr9 => ?_)
  subst hr9
  refine lv_iload G.1 G.2.1 dL_law_1402 (lv_at hl 1 rfl) ?_
  have hk : k < 2 ^ 31 := by rw [ek]; exact gk_lt _ _ _
  have ekt : th2 = k := et.trans ek.symm
  refine gn_eq G (by rw [ekt]; exact hk) hk (tgt := 1409) dL_law_1404 (by decide) (fun _ => ?_) (fun h => absurd ekt h)
  have hin := inv_if hok hinv (k := sk_mix N S (xs (nI (5 * j + 1)).toNatClampNeg) (xs (nI (5 * j + 2)).toNatClampNeg) (xs (nI (5 * j + 3)).toNatClampNeg)) (fun h => inv_mix hok hinv h)
  refine lv_iload G.1 G.2.1 dL_law_1409 (lv_at hl 1 rfl) ?_
  have hl2 : lv_has ls 7 [(4, .int (nI (5 * j))), (0, .ref b), (1, .ref (q 0)), (2, .ref (q2 0)), (3, .ref o)] := lv_sub hl [2, 3, 4, 5, 6] rfl
  refine gn_nez G hk (tgt := 1426) dL_law_1411 (by decide) (fun _ => ?_) (fun h0 => ?_)
  · refine lv_goto (tgt := 1521) G.1 G.2.1 dL_law_1426 (by decide) ?_
    exact kk _ _ _ _ _ _ _ _ _ hin.1 hin.2 hX hS hl2
  · have h9 : sk_mix N S (xs (nI (5 * j + 1)).toNatClampNeg) (xs (nI (5 * j + 2)).toNatClampNeg) (xs (nI (5 * j + 3)).toNatClampNeg) = 0 := ek.symm.trans h0
    have e9 : (nI 0).toNatClampNeg = 0 := by decide
    refine lv_aload_n G.1 G.2.1 dL_law_1414 rfl (lv_at hl 6 rfl) ?_
    refine lv_iconst (v := nI 0) G.1 G.2.1 dL_law_1415 (by decide) ?_
    refine va_lald (D := D) G.1 G.2.1 hX.2.1 hX.1 0 2 (f := g1) rfl rfl (by unfold vp_in; decide) dL_law_1416 ?_
    rw [e9, ev h9]
    have er9 := er h9
    refine lv_iload G.1 G.2.1 dL_law_1417 (lv_at hl 0 rfl) ?_
    refine lv_i2l (v := r.toInt64) G.1 G.2.1 dL_law_1419 rfl ?_
    refine W.lcmp G.1 G.2.1 dL_law_1420 ?_
    rw [er9]
    refine lv_if_eq G.1 G.2.1 (tgt := 1426) dL_law_1421 (by decide) (fun _ => ?_) (fun h => absurd ((lg_cmp_eq _ _).mpr rfl) h)
    refine lv_goto (tgt := 1521) G.1 G.2.1 dL_law_1426 (by decide) ?_
    exact kk _ _ _ _ _ _ _ _ _ hin.1 hin.2 hX hS hl2
set_option maxRecDepth 100000 in
set_option maxHeartbeats 800000 in
/-- a call of shown in the script -/
theorem lc_shown (l : Launch) (hst : l.stackTraces = false) {p : Program} {e : Env} {s : State} {m : MethodId} {b : Nat} {below : List Frame} {meth : Method} {c : Code} {H : Heap} {locs : List Loc} {cells slots : Nat} {Q : State → Prop} {L : Nat} {xs : Nat → Int32} {D : va_G} {q q2 : Nat → Nat} {cI cZ cL : ClassId} {o : Nat} {N : Nat → Nat} {S : Nat → Nat → Nat} {tr fv : Nat → Nat} {th : Nat} {g : Nat → Int64} {j : Nat} {ls : Array Slot} (G : gF p s m #[Value.ref b] meth c cL_law ret 7 RL wsL_law) (hx : va_X b L xs s s.heap) (hb : b < s.heap.size) (hL : L ≤ 2560) (hj : 5 * j + 5 ≤ L) (hok : sp_ok N S) (hinv : sp_inv N S) (hX : lAt D q q2 cI cZ cL o N S tr N S fv th g s H) (hS : va_S (gA s) s.heap H locs) (hl : lv_has ls 7 [(4, .int (nI (5 * j))), (0, .ref b), (1, .ref (q 0)), (2, .ref (q2 0)), (3, .ref o)]) (hc : cells + 1 ≤ 1069) (hs : slots + 6 ≤ 9070) (kk : lK p l e s m b below meth c Q D q q2 cI cZ cL o j (cells + 1) (slots + 6)) : W p l e room_1 s m #[Value.ref b] below meth c H locs cells slots Q (F0 m 1429 ls []) := by
  refine lv_aload_n G.1 G.2.1 dL_law_1429 rfl (lv_at hl 2 rfl) ?_
  refine lv_aload_n G.1 G.2.1 dL_law_1430 rfl (lv_at hl 1 rfl) ?_
  refine lv_iload G.1 G.2.1 dL_law_1431 (lv_at hl 0 rfl) ?_
  refine lv_iconst (v := nI 1) G.1 G.2.1 dL_law_1433 (by decide) ?_
  refine gn_iadd G dL_law_1434 ?_
  refine va_sld G.1 G.2.1 hx hb (Nat.not_le.mpr hb) hS (vp_in_nI (show 5 * j + 1 < L by omega) (by omega)) dL_law_1435 ?_
  refine lv_aload_n G.1 G.2.1 dL_law_1436 rfl (lv_at hl 1 rfl) ?_
  refine lv_iload G.1 G.2.1 dL_law_1437 (lv_at hl 0 rfl) ?_
  refine lv_iconst (v := nI 2) G.1 G.2.1 dL_law_1439 (by decide) ?_
  refine gn_iadd G dL_law_1440 ?_
  refine va_sld G.1 G.2.1 hx hb (Nat.not_le.mpr hb) hS (vp_in_nI (show 5 * j + 2 < L by omega) (by omega)) dL_law_1441 ?_
  refine lv_aload_n G.1 G.2.1 dL_law_1442 rfl (lv_at hl 1 rfl) ?_
  refine lv_iload G.1 G.2.1 dL_law_1443 (lv_at hl 0 rfl) ?_
  refine lv_iconst (v := nI 3) G.1 G.2.1 dL_law_1445 (by decide) ?_
  refine gn_iadd G dL_law_1446 ?_
  refine va_sld G.1 G.2.1 hx hb (Nat.not_le.mpr hb) hS (vp_in_nI (show 5 * j + 3 < L by omega) (by omega)) dL_law_1447 ?_
  refine lv_aload_n G.1 G.2.1 dL_law_1448 rfl (lv_at hl 1 rfl) ?_
  refine lv_iload G.1 G.2.1 dL_law_1449 (lv_at hl 0 rfl) ?_
  refine lv_iconst (v := nI 4) G.1 G.2.1 dL_law_1451 (by decide) ?_
  refine gn_iadd G dL_law_1452 ?_
  refine va_sld G.1 G.2.1 hx hb (Nat.not_le.mpr hb) hS (vp_in_nI (show 5 * j + 4 < L by omega) (by omega)) dL_law_1453 ?_
  refine lv_aload_n G.1 G.2.1 dL_law_1454 rfl (lv_at hl 4 rfl) ?_
  refine gl_wrap (As := [.ref (q 0), .int (xs (nI (5 * j + 1)).toNatClampNeg), .int (xs (nI (5 * j + 2)).toNatClampNeg), .int (xs (nI (5 * j + 3)).toNatClampNeg), .int (xs (nI (5 * j + 4)).toNatClampNeg), .ref o]) (rest := []) G.fix (mL_shown l hst D q cI o cL N S tr g (va_A (xw q cI N S tr) H.size) hok hinv (xs (nI (5 * j + 1)).toNatClampNeg) (xs (nI (5 * j + 2)).toNatClampNeg) (xs (nI (5 * j + 3)).toNatClampNeg) (xs (nI (5 * j + 4)).toNatClampNeg)) (vx_cwSW 6 G.2.2.2.2.2.1 gL_law_L_shown rfl rfl rfl (by decide +kernel) ⟨Nat.le_of_ble_eq_true rfl, Nat.le_of_ble_eq_true rfl⟩) hX hS rfl hl.1 rfl (Nat.zero_le _) dL_law_1455 hc hs (fun k N1 S1 tr1 g1 H locs hp hX hS => ?_)
  obtain ⟨ek, eN, eS, ev⟩ := hp
  refine lv_istore (lv' := [(5, .int (nI k)), (4, .int (nI (5 * j))), (0, .ref b), (1, .ref (q 0)), (2, .ref (q2 0)), (3, .ref o)]) G.1 G.2.1 dL_law_1458 hl (by decide) rfl (fun ls hl => ?_)
  refine lv_aload_n G.1 G.2.1 dL_law_1460 rfl (lv_at hl 4 rfl) ?_
  refine lv_aload_n G.1 G.2.1 dL_law_1461 rfl (lv_at hl 2 rfl) ?_
  refine lv_iload G.1 G.2.1 dL_law_1462 (lv_at hl 1 rfl) ?_
  refine lv_iconst (v := nI 1) G.1 G.2.1 dL_law_1464 (by decide) ?_
  refine gn_iadd G dL_law_1465 ?_
  refine va_sld G.1 G.2.1 hx hb (Nat.not_le.mpr hb) hS (vp_in_nI (show 5 * j + 1 < L by omega) (by omega)) dL_law_1466 ?_
  refine lv_aload_n G.1 G.2.1 dL_law_1467 rfl (lv_at hl 2 rfl) ?_
  refine lv_iload G.1 G.2.1 dL_law_1468 (lv_at hl 1 rfl) ?_
  refine lv_iconst (v := nI 2) G.1 G.2.1 dL_law_1470 (by decide) ?_
  refine gn_iadd G dL_law_1471 ?_
  refine va_sld G.1 G.2.1 hx hb (Nat.not_le.mpr hb) hS (vp_in_nI (show 5 * j + 2 < L by omega) (by omega)) dL_law_1472 ?_
  refine lv_aload_n G.1 G.2.1 dL_law_1473 rfl (lv_at hl 2 rfl) ?_
  refine lv_iload G.1 G.2.1 dL_law_1474 (lv_at hl 1 rfl) ?_
  refine lv_iconst (v := nI 3) G.1 G.2.1 dL_law_1476 (by decide) ?_
  refine gn_iadd G dL_law_1477 ?_
  refine va_sld G.1 G.2.1 hx hb (Nat.not_le.mpr hb) hS (vp_in_nI (show 5 * j + 3 < L by omega) (by omega)) dL_law_1478 ?_
  refine lv_aload_n G.1 G.2.1 dL_law_1479 rfl (lv_at hl 2 rfl) ?_
  refine lv_iload G.1 G.2.1 dL_law_1480 (lv_at hl 1 rfl) ?_
  refine lv_iconst (v := nI 4) G.1 G.2.1 dL_law_1482 (by decide) ?_
  refine gn_iadd G dL_law_1483 ?_
  refine va_sld G.1 G.2.1 hx hb (Nat.not_le.mpr hb) hS (vp_in_nI (show 5 * j + 4 < L by omega) (by omega)) dL_law_1484 ?_
  refine gl_m (As := [.int (xs (nI (5 * j + 1)).toNatClampNeg), .int (xs (nI (5 * j + 2)).toNatClampNeg), .int (xs (nI (5 * j + 3)).toNatClampNeg), .int (xs (nI (5 * j + 4)).toNatClampNeg)]) (rest := []) G.fix (mX1_shown l D q2 cI cZ N S fv th (va_A (mw q2 cI cZ N S fv th) H.size) hok hinv (xs (nI (5 * j + 1)).toNatClampNeg) (xs (nI (5 * j + 2)).toNatClampNeg) (xs (nI (5 * j + 3)).toNatClampNeg) (xs (nI (5 * j + 4)).toNatClampNeg)) (fun _ _ _ _ h => h) (cwV 4 G.2.2.2.2.2.1 gL_law_X1_shown rfl rfl rfl (by decide +kernel) ⟨Nat.le_of_ble_eq_true rfl, Nat.le_of_ble_eq_true rfl⟩) hX hS rfl hl.1 rfl (Nat.zero_le _) dL_law_1485 (show cells + 1 ≤ 1069 from hc) (show slots + 6 ≤ 9070 from hs) (fun r N2 S2 fv2 th2 H locs hp hX hS => ?_)
  obtain ⟨et, er, eN2, eS2⟩ := hp
  rw [eN, eS, eN2, eS2] at hX
  refine lv_istore (lv' := [(6, .int r), (5, .int (nI k)), (4, .int (nI (5 * j))), (0, .ref b), (1, .ref (q 0)), (2, .ref (q2 0)), (3, .ref o)]) G.1 G.2.1 dL_law_1488 hl (by decide) rfl (fun ls hl => ?_)
  refine lv_aload_n G.1 G.2.1 dL_law_1490 rfl (lv_at hl 5 rfl) ?_
  refine gc_v (As := []) (rest := []) G.fix (mX1_thrown l D q2 cI cZ _ _ fv2 th2 (gA s)) (cwV 0 G.2.2.2.2.2.1 gL_law_X1_thrown rfl rfl rfl (by decide +kernel) ⟨Nat.le_of_ble_eq_true rfl, Nat.le_of_ble_eq_true rfl⟩) mAt_blind (va_recv hX.mm.2.1 hX.mm.1 (ci := 1) (q0 := 0) rfl rfl) (fun U hU hW => by show mAt _ _ _ _ _ _ _ _ _ U U.heap; rw [hU]; exact hX.mm.moved hW) rfl hl.1 rfl (Nat.zero_le _) dL_law_1491 (show cells + 1 ≤ 1069 from hc) (show slots + 6 ≤ 9070 from hs) (fun r9 hr9 => ?_)
  subst hr9
  refine lv_iload G.1 G.2.1 dL_law_1494 (lv_at hl 1 rfl) ?_
  have hk : k < 2 ^ 31 := by rw [ek]; exact gk_lt _ _ _
  have ekt : th2 = k := et.trans ek.symm
  refine gn_eq G (by rw [ekt]; exact hk) hk (tgt := 1501) dL_law_1496 (by decide) (fun _ => ?_) (fun h => absurd ekt h)
  have hin := inv_if hok hinv (k := sk_shown N S (xs (nI (5 * j + 1)).toNatClampNeg) (xs (nI (5 * j + 2)).toNatClampNeg) (xs (nI (5 * j + 3)).toNatClampNeg) (xs (nI (5 * j + 4)).toNatClampNeg)) (fun h => (⟨hok, hinv⟩ : sp_ok (sN_shown N S (xs (nI (5 * j + 1)).toNatClampNeg) (xs (nI (5 * j + 2)).toNatClampNeg) (xs (nI (5 * j + 3)).toNatClampNeg) (xs (nI (5 * j + 4)).toNatClampNeg)) (sS_shown N S (xs (nI (5 * j + 1)).toNatClampNeg) (xs (nI (5 * j + 2)).toNatClampNeg) (xs (nI (5 * j + 3)).toNatClampNeg) (xs (nI (5 * j + 4)).toNatClampNeg)) ∧ sp_inv (sN_shown N S (xs (nI (5 * j + 1)).toNatClampNeg) (xs (nI (5 * j + 2)).toNatClampNeg) (xs (nI (5 * j + 3)).toNatClampNeg) (xs (nI (5 * j + 4)).toNatClampNeg)) (sS_shown N S (xs (nI (5 * j + 1)).toNatClampNeg) (xs (nI (5 * j + 2)).toNatClampNeg) (xs (nI (5 * j + 3)).toNatClampNeg) (xs (nI (5 * j + 4)).toNatClampNeg))))
  refine lv_iload G.1 G.2.1 dL_law_1501 (lv_at hl 1 rfl) ?_
  have hl2 : lv_has ls 7 [(4, .int (nI (5 * j))), (0, .ref b), (1, .ref (q 0)), (2, .ref (q2 0)), (3, .ref o)] := lv_sub hl [2, 3, 4, 5, 6] rfl
  refine gn_nez G hk (tgt := 1518) dL_law_1503 (by decide) (fun _ => ?_) (fun h0 => ?_)
  · refine lv_goto (tgt := 1521) G.1 G.2.1 dL_law_1518 (by decide) ?_
    exact kk _ _ _ _ _ _ _ _ _ hin.1 hin.2 hX hS hl2
  · have h9 : sk_shown N S (xs (nI (5 * j + 1)).toNatClampNeg) (xs (nI (5 * j + 2)).toNatClampNeg) (xs (nI (5 * j + 3)).toNatClampNeg) (xs (nI (5 * j + 4)).toNatClampNeg) = 0 := ek.symm.trans h0
    have e9 : (nI 0).toNatClampNeg = 0 := by decide
    refine lv_aload_n G.1 G.2.1 dL_law_1506 rfl (lv_at hl 6 rfl) ?_
    refine lv_iconst (v := nI 0) G.1 G.2.1 dL_law_1507 (by decide) ?_
    refine va_lald (D := D) G.1 G.2.1 hX.2.1 hX.1 0 2 (f := g1) rfl rfl (by unfold vp_in; decide) dL_law_1508 ?_
    rw [e9, ev h9]
    have er9 := er h9
    refine lv_iload G.1 G.2.1 dL_law_1509 (lv_at hl 0 rfl) ?_
    refine lv_i2l (v := r.toInt64) G.1 G.2.1 dL_law_1511 rfl ?_
    refine W.lcmp G.1 G.2.1 dL_law_1512 ?_
    rw [er9]
    refine lv_if_eq G.1 G.2.1 (tgt := 1518) dL_law_1513 (by decide) (fun _ => ?_) (fun h => absurd ((lg_cmp_eq _ _).mpr rfl) h)
    refine lv_goto (tgt := 1521) G.1 G.2.1 dL_law_1518 (by decide) ?_
    exact kk _ _ _ _ _ _ _ _ _ hin.1 hin.2 hX hS hl2
