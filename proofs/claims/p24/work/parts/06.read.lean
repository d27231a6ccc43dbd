/-! the class's own methods that only read -/
set_option maxRecDepth 100000 in
set_option maxHeartbeats 4000000 in
/-- the value between two places of a row -/
theorem mX0_between (l : Launch) (D : va_G) (a : Nat) (cI : ClassId) (n : Nat) (F : Nat → Nat) (o v : Nat) (ho : o + 4 < n) (hv : v ≤ 255) (hF : F (o + v / 64) ≤ 255 ∧ F (o + v / 64 + 1) ≤ 255) (hn : n < 2 ^ 31 := by decide) : Met l yX0_between wsX0_between { frames := 1, cells := 0, slots := 0, locals := 22 } (va_Pc [.ref a, .int (nI o), .int (nI v)] (fun U => rAt D a cI n F U U.heap)) (vp_Si (fun r => r = nI (sp_btw F o v))) 0 0 (fun _ => False) := by
  refine gc_met [.ref a, .int (nI o), .int (nI v)] (by decide) rfl (Nat.le_of_ble_eq_true rfl) rfl ?_
  intro p e s m below meth c ls G hl hX
  have hFa := hF.1
  have hFb := hF.2
  refine lv_iload_n G.1 G.2.1 dX0_between_0 rfl (lv_at hl 2 rfl) ?_
  refine lv_bipush (v := nI 64) G.1 G.2.1 dX0_between_1 (by decide) ?_
  refine gn_idiv G dX0_between_3 (by omega) (by decide) (by decide) ?_
  refine lv_istore_n (lv' := [(3, .int (nI (v / 64))), (0, .ref a), (1, .int (nI o)), (2, .int (nI v))]) G.1 G.2.1 dX0_between_4 rfl hl (by decide) rfl (fun ls hl => ?_)
  refine lv_aload_n G.1 G.2.1 dX0_between_5 rfl (lv_at hl 1 rfl) ?_
  refine lv_iload_n G.1 G.2.1 dX0_between_6 rfl (lv_at hl 2 rfl) ?_
  refine lv_iload_n G.1 G.2.1 dX0_between_7 rfl (lv_at hl 0 rfl) ?_
  refine gn_iadd G dX0_between_8 ?_
  refine gc_s (As := [.ref a, .int (nI (o + (v / 64)))]) (rest := []) G.fix (mX0_read l D a cI n F (o + (v / 64)) (by omega) hn) (va_cwS 2 G.2.2.2.2.2.1 gX0_between_X0_read rfl rfl rfl (by decide +kernel) ⟨Nat.le_of_ble_eq_true rfl, Nat.le_of_ble_eq_true rfl⟩) rAt_blind (fun U hU hW => by rw [hU]; exact hX.moved hW) rfl hl.1 rfl (Nat.le_of_ble_eq_true rfl) dX0_between_9 (Nat.zero_le _) (Nat.zero_le _) (fun r hr => ?_)
  subst hr
  refine lv_istore (lv' := [(4, .int (nI (F (o + (v / 64))))), (3, .int (nI (v / 64))), (0, .ref a), (1, .int (nI o)), (2, .int (nI v))]) G.1 G.2.1 dX0_between_12 hl (by decide) rfl (fun ls hl => ?_)
  refine lv_aload_n G.1 G.2.1 dX0_between_14 rfl (lv_at hl 2 rfl) ?_
  refine lv_iload_n G.1 G.2.1 dX0_between_15 rfl (lv_at hl 3 rfl) ?_
  refine lv_iload_n G.1 G.2.1 dX0_between_16 rfl (lv_at hl 1 rfl) ?_
  refine gn_iadd G dX0_between_17 ?_
  refine lv_iconst (v := nI 1) G.1 G.2.1 dX0_between_18 (by decide) ?_
  refine gn_iadd G dX0_between_19 ?_
  refine gc_s (As := [.ref a, .int (nI ((o + (v / 64)) + 1))]) (rest := []) G.fix (mX0_read l D a cI n F ((o + (v / 64)) + 1) (by omega) hn) (va_cwS 2 G.2.2.2.2.2.1 gX0_between_X0_read rfl rfl rfl (by decide +kernel) ⟨Nat.le_of_ble_eq_true rfl, Nat.le_of_ble_eq_true rfl⟩) rAt_blind (fun U hU hW => by rw [hU]; exact hX.moved hW) rfl hl.1 rfl (Nat.le_of_ble_eq_true rfl) dX0_between_20 (Nat.zero_le _) (Nat.zero_le _) (fun r hr => ?_)
  subst hr
  refine lv_istore (lv' := [(5, .int (nI (F ((o + (v / 64)) + 1)))), (4, .int (nI (F (o + (v / 64))))), (3, .int (nI (v / 64))), (0, .ref a), (1, .int (nI o)), (2, .int (nI v))]) G.1 G.2.1 dX0_between_23 hl (by decide) rfl (fun ls hl => ?_)
  refine lv_iload_n G.1 G.2.1 dX0_between_25 rfl (lv_at hl 2 rfl) ?_
  refine lv_iconst (v := nI 3) G.1 G.2.1 dX0_between_26 (by decide) ?_
  refine gn_ne G (by omega) (by omega) (tgt := 35) dX0_between_27 (by decide) (fun h_27 => ?_) (fun h_27 => ?_)
  · refine lv_bipush (v := nI 64) G.1 G.2.1 dX0_between_35 (by decide) ?_
    refine lv_istore (lv' := [(6, .int (nI 64)), (5, .int (nI (F ((o + (v / 64)) + 1)))), (4, .int (nI (F (o + (v / 64))))), (3, .int (nI (v / 64))), (0, .ref a), (1, .int (nI o)), (2, .int (nI v))]) G.1 G.2.1 dX0_between_37 hl (by decide) rfl (fun ls hl => ?_)
    refine lv_iload G.1 G.2.1 dX0_between_39 (lv_at hl 2 rfl) ?_
    refine lv_iload G.1 G.2.1 dX0_between_41 (lv_at hl 1 rfl) ?_
    refine lv_iload G.1 G.2.1 dX0_between_43 (lv_at hl 2 rfl) ?_
    refine lv_isub G.1 G.2.1 dX0_between_45 ?_
    refine lv_iload_n G.1 G.2.1 dX0_between_46 rfl (lv_at hl 6 rfl) ?_
    refine lv_iload_n G.1 G.2.1 dX0_between_47 rfl (lv_at hl 3 rfl) ?_
    refine lv_bipush (v := nI 64) G.1 G.2.1 dX0_between_48 (by decide) ?_
    refine gn_imul G dX0_between_50 ?_
    refine gn_isub G dX0_between_51 (by omega) ?_
    refine lv_imul G.1 G.2.1 dX0_between_52 ?_
    refine lv_topi (fun z ez => ?_)
    refine lv_iload G.1 G.2.1 dX0_between_53 (lv_at hl 0 rfl) ?_
    have hw : 64 = sp_w (v / 64) := by unfold sp_w; first | rw [if_pos h_27] | rw [if_neg h_27]
    have hC := hFa
    have hDD := hFb
    have hSS : sp_btw F o v = (F (o + v / 64) * (sp_w (v / 64) - (v - v / 64 * 64)) + F (o + v / 64 + 1) * (v - v / 64 * 64)) / sp_w (v / 64) := rfl
    clear hF hFa hFb
    generalize F (o + v / 64) = C at ez hC hSS hl ⊢
    generalize F (o + v / 64 + 1) = E9 at ez hDD hSS hl
    have ht9 := sp_far hv
    have hzt : z.toInt = ((E9 : Int) - C) * ((v - v / 64 * 64 : Nat) : Int) ∧ -16320 ≤ z.toInt ∧ z.toInt ≤ 16320 := by rw [ez]; exact gp_prod (by omega) (by omega) (by have := sp_w_le (v / 64); omega)
    refine gc_s (As := [.int z, .int (nI 64)]) (rest := [.int (nI C)]) G.fix (mJ9_floorDiv l z (nI 64) (by omega) (by rw [nI_toInt (by decide)]; omega)) (va_cwS 2 G.2.2.2.2.2.1 gX0_between_J9_floorDiv_7cf53 rfl rfl rfl (by decide +kernel) ⟨Nat.le_of_ble_eq_true rfl, Nat.le_of_ble_eq_true rfl⟩) gc_blindT (fun _ _ _ => trivial) rfl hl.1 rfl (Nat.le_of_ble_eq_true rfl) dX0_between_55 (Nat.zero_le _) (Nat.zero_le _) (fun r hr => ?_)
    refine lv_iadd G.1 G.2.1 dX0_between_58 ?_
    exact W.iret G.1 G.2.1 G.2.2.1 (fun t ht hW => ⟨_, rfl, gp_btwR (w := 64) hSS hw hr hzt.1 (sp_w_pos _) (sp_w_le _) ht9 hC hDD, ht⟩) (fun q h => nomatch h) dX0_between_59 G.2.2.2.2.2.2
  · refine lv_bipush (v := nI 63) G.1 G.2.1 dX0_between_30 (by decide) ?_
    refine lv_goto (tgt := 37) G.1 G.2.1 dX0_between_32 (by decide) ?_
    refine lv_istore (lv' := [(6, .int (nI 63)), (5, .int (nI (F ((o + (v / 64)) + 1)))), (4, .int (nI (F (o + (v / 64))))), (3, .int (nI (v / 64))), (0, .ref a), (1, .int (nI o)), (2, .int (nI v))]) G.1 G.2.1 dX0_between_37 hl (by decide) rfl (fun ls hl => ?_)
    refine lv_iload G.1 G.2.1 dX0_between_39 (lv_at hl 2 rfl) ?_
    refine lv_iload G.1 G.2.1 dX0_between_41 (lv_at hl 1 rfl) ?_
    refine lv_iload G.1 G.2.1 dX0_between_43 (lv_at hl 2 rfl) ?_
    refine lv_isub G.1 G.2.1 dX0_between_45 ?_
    refine lv_iload_n G.1 G.2.1 dX0_between_46 rfl (lv_at hl 6 rfl) ?_
    refine lv_iload_n G.1 G.2.1 dX0_between_47 rfl (lv_at hl 3 rfl) ?_
    refine lv_bipush (v := nI 64) G.1 G.2.1 dX0_between_48 (by decide) ?_
    refine gn_imul G dX0_between_50 ?_
    refine gn_isub G dX0_between_51 (by omega) ?_
    refine lv_imul G.1 G.2.1 dX0_between_52 ?_
    refine lv_topi (fun z ez => ?_)
    refine lv_iload G.1 G.2.1 dX0_between_53 (lv_at hl 0 rfl) ?_
    have hw : 63 = sp_w (v / 64) := by unfold sp_w; first | rw [if_pos h_27] | rw [if_neg h_27]
    have hC := hFa
    have hDD := hFb
    have hSS : sp_btw F o v = (F (o + v / 64) * (sp_w (v / 64) - (v - v / 64 * 64)) + F (o + v / 64 + 1) * (v - v / 64 * 64)) / sp_w (v / 64) := rfl
    clear hF hFa hFb
    generalize F (o + v / 64) = C at ez hC hSS hl ⊢
    generalize F (o + v / 64 + 1) = E9 at ez hDD hSS hl
    have ht9 := sp_far hv
    have hzt : z.toInt = ((E9 : Int) - C) * ((v - v / 64 * 64 : Nat) : Int) ∧ -16320 ≤ z.toInt ∧ z.toInt ≤ 16320 := by rw [ez]; exact gp_prod (by omega) (by omega) (by have := sp_w_le (v / 64); omega)
    refine gc_s (As := [.int z, .int (nI 63)]) (rest := [.int (nI C)]) G.fix (mJ9_floorDiv l z (nI 63) (by omega) (by rw [nI_toInt (by decide)]; omega)) (va_cwS 2 G.2.2.2.2.2.1 gX0_between_J9_floorDiv_7cf53 rfl rfl rfl (by decide +kernel) ⟨Nat.le_of_ble_eq_true rfl, Nat.le_of_ble_eq_true rfl⟩) gc_blindT (fun _ _ _ => trivial) rfl hl.1 rfl (Nat.le_of_ble_eq_true rfl) dX0_between_55 (Nat.zero_le _) (Nat.zero_le _) (fun r hr => ?_)
    refine lv_iadd G.1 G.2.1 dX0_between_58 ?_
    exact W.iret G.1 G.2.1 G.2.2.1 (fun t ht hW => ⟨_, rfl, gp_btwR (w := 63) hSS hw hr hzt.1 (sp_w_pos _) (sp_w_le _) ht9 hC hDD, ht⟩) (fun q h => nomatch h) dX0_between_59 G.2.2.2.2.2.2
set_option maxRecDepth 100000 in
set_option maxHeartbeats 4000000 in
/-- the value of a curve -/
theorem mX0_bent (l : Launch) (D : va_G) (q : Nat → Nat) (cI : ClassId) (N : Nat → Nat) (S : Nat → Nat → Nat) (tr : Nat → Nat) (A : Nat → Prop) (pf bd vl : Nat) (hok : sp_ok N S) (hpf : pf < 8) (hbd : bd < 3) (hvl : vl ≤ 255) : Met l yX0_bent wsX0_bent { frames := 2, cells := 0, slots := 0, locals := 48 } (va_Pc [.ref (q 0), .int (nI pf), .int (nI bd), .int (nI vl)] (fun U => xAt D q cI N S tr A U U.heap)) (vp_Si (fun r => r = nI (sp_curve S pf bd vl))) 0 0 (fun _ => False) := by
  refine gc_met [.ref (q 0), .int (nI pf), .int (nI bd), .int (nI vl)] (by decide) rfl (Nat.le_of_ble_eq_true rfl) rfl ?_
  intro p e s m below meth c ls G hl hX
  have hok9 := hok
  obtain ⟨⟨ok0, ok5⟩, ok1, ok2, ok3, ok4, ok6, ok7, ok8, ok12, ok13, ok14⟩ := hok9
  have hb2 : S 1 ((pf * 3 + bd) * 5 + vl / 64) ≤ 255 ∧ S 1 ((pf * 3 + bd) * 5 + vl / 64 + 1) ≤ 255 := ⟨ok1 _, ok1 _⟩
  refine lv_aload_n G.1 G.2.1 dX0_bent_0 rfl (lv_at hl 0 rfl) ?_
  refine gx_get G hX (by decide +kernel) 1 (by decide) (by decide +kernel) rfl rfl rfl dX0_bent_1 ?_
  refine lv_iload_n G.1 G.2.1 dX0_bent_4 rfl (lv_at hl 1 rfl) ?_
  refine lv_iconst (v := nI 3) G.1 G.2.1 dX0_bent_5 (by decide) ?_
  refine gn_imul G dX0_bent_6 ?_
  refine lv_iload_n G.1 G.2.1 dX0_bent_7 rfl (lv_at hl 2 rfl) ?_
  refine gn_iadd G dX0_bent_8 ?_
  refine lv_iconst (v := nI 5) G.1 G.2.1 dX0_bent_9 (by decide) ?_
  refine gn_imul G dX0_bent_10 ?_
  refine lv_iload_n G.1 G.2.1 dX0_bent_11 rfl (lv_at hl 3 rfl) ?_
  refine gc_s (As := [.ref (q 1), .int (nI (((pf * 3) + bd) * 5)), .int (nI vl)]) (rest := []) G.fix (mX0_between l D (q 1) cI 120 (S 1) (((pf * 3) + bd) * 5) vl (by first | omega | assumption | exact ok6 _ | apply hq) (by first | omega | assumption | exact ok6 _ | apply hq) (by first | assumption | (intro j; omega))) (va_cwS 3 G.2.2.2.2.2.1 gX0_bent_X0_between rfl rfl rfl (by decide +kernel) ⟨Nat.le_of_ble_eq_true rfl, Nat.le_of_ble_eq_true rfl⟩) rAt_blind (fun U hU hW => by rw [hU]; exact (hX.row 1 rfl).moved hW) rfl hl.1 rfl (Nat.le_of_ble_eq_true rfl) dX0_bent_12 (Nat.zero_le _) (Nat.zero_le _) (fun r hr => ?_)
  subst hr
  exact W.iret G.1 G.2.1 G.2.2.1 (fun t ht hW => ⟨_, rfl, rfl, ht⟩) (fun q h => nomatch h) dX0_bent_15 G.2.2.2.2.2.2
set_option maxRecDepth 100000 in
set_option maxHeartbeats 4000000 in
/-- what a profile makes of a value -/
theorem mX0_take (l : Launch) (D : va_G) (q : Nat → Nat) (cI : ClassId) (N : Nat → Nat) (S : Nat → Nat → Nat) (tr : Nat → Nat) (A : Nat → Prop) (pf bd vl : Nat) (hok : sp_ok N S) (hpf : pf < 8) (hbd : bd < 3) (hvl : vl ≤ 255) : Met l yX0_take wsX0_take { frames := 3, cells := 0, slots := 0, locals := 71 } (va_Pc [.ref (q 0), .int (nI pf), .int (nI bd), .int (nI vl)] (fun U => xAt D q cI N S tr A U U.heap)) (vp_Si (fun r => r = nI (sp_tk S pf bd vl))) 0 0 (fun _ => False) := by
  refine gc_met [.ref (q 0), .int (nI pf), .int (nI bd), .int (nI vl)] (by decide) rfl (Nat.le_of_ble_eq_true rfl) rfl ?_
  intro p e s m below meth c ls G hl hX
  have hok9 := hok
  obtain ⟨⟨ok0, ok5⟩, ok1, ok2, ok3, ok4, ok6, ok7, ok8, ok12, ok13, ok14⟩ := hok9
  have h2 := ok2 (pf * 3 + bd)
  have h3 := ok3 (pf * 3 + bd)
  have h4 := ok4 pf
  have hc := sp_curve_le (p := pf) (b := bd) hok hvl
  have hmul : sp_curve S pf bd vl * (S 3 (pf * 3 + bd) - S 2 (pf * 3 + bd)) ≤ 255 * 255 := Nat.mul_le_mul hc (by omega)
  refine lv_aload_n G.1 G.2.1 dX0_take_0 rfl (lv_at hl 0 rfl) ?_
  refine gx_get G hX (by decide +kernel) 2 (by decide) (by decide +kernel) rfl rfl rfl dX0_take_1 ?_
  refine lv_iload_n G.1 G.2.1 dX0_take_4 rfl (lv_at hl 1 rfl) ?_
  refine lv_iconst (v := nI 3) G.1 G.2.1 dX0_take_5 (by decide) ?_
  refine gn_imul G dX0_take_6 ?_
  refine lv_iload_n G.1 G.2.1 dX0_take_7 rfl (lv_at hl 2 rfl) ?_
  refine gn_iadd G dX0_take_8 ?_
  refine gc_s (As := [.ref (q 2), .int (nI ((pf * 3) + bd))]) (rest := []) G.fix (mX0_read l D (q 2) cI 24 (S 2) ((pf * 3) + bd) (by first | omega | assumption | exact ok6 _ | apply hq)) (va_cwS 2 G.2.2.2.2.2.1 gX0_take_X0_read rfl rfl rfl (by decide +kernel) ⟨Nat.le_of_ble_eq_true rfl, Nat.le_of_ble_eq_true rfl⟩) rAt_blind (fun U hU hW => by rw [hU]; exact (hX.row 2 rfl).moved hW) rfl hl.1 rfl (Nat.le_of_ble_eq_true rfl) dX0_take_9 (Nat.zero_le _) (Nat.zero_le _) (fun r hr => ?_)
  subst hr
  refine lv_istore (lv' := [(4, .int (nI (S 2 ((pf * 3) + bd)))), (0, .ref (q 0)), (1, .int (nI pf)), (2, .int (nI bd)), (3, .int (nI vl))]) G.1 G.2.1 dX0_take_12 hl (by decide) rfl (fun ls hl => ?_)
  refine lv_aload_n G.1 G.2.1 dX0_take_14 rfl (lv_at hl 1 rfl) ?_
  refine gx_get G hX (by decide +kernel) 3 (by decide) (by decide +kernel) rfl rfl rfl dX0_take_15 ?_
  refine lv_iload_n G.1 G.2.1 dX0_take_18 rfl (lv_at hl 2 rfl) ?_
  refine lv_iconst (v := nI 3) G.1 G.2.1 dX0_take_19 (by decide) ?_
  refine gn_imul G dX0_take_20 ?_
  refine lv_iload_n G.1 G.2.1 dX0_take_21 rfl (lv_at hl 3 rfl) ?_
  refine gn_iadd G dX0_take_22 ?_
  refine gc_s (As := [.ref (q 3), .int (nI ((pf * 3) + bd))]) (rest := []) G.fix (mX0_read l D (q 3) cI 24 (S 3) ((pf * 3) + bd) (by first | omega | assumption | exact ok6 _ | apply hq)) (va_cwS 2 G.2.2.2.2.2.1 gX0_take_X0_read rfl rfl rfl (by decide +kernel) ⟨Nat.le_of_ble_eq_true rfl, Nat.le_of_ble_eq_true rfl⟩) rAt_blind (fun U hU hW => by rw [hU]; exact (hX.row 3 rfl).moved hW) rfl hl.1 rfl (Nat.le_of_ble_eq_true rfl) dX0_take_23 (Nat.zero_le _) (Nat.zero_le _) (fun r hr => ?_)
  subst hr
  refine lv_istore (lv' := [(5, .int (nI (S 3 ((pf * 3) + bd)))), (4, .int (nI (S 2 ((pf * 3) + bd)))), (0, .ref (q 0)), (1, .int (nI pf)), (2, .int (nI bd)), (3, .int (nI vl))]) G.1 G.2.1 dX0_take_26 hl (by decide) rfl (fun ls hl => ?_)
  refine lv_aload_n G.1 G.2.1 dX0_take_28 rfl (lv_at hl 2 rfl) ?_
  refine lv_iload_n G.1 G.2.1 dX0_take_29 rfl (lv_at hl 3 rfl) ?_
  refine lv_iload_n G.1 G.2.1 dX0_take_30 rfl (lv_at hl 4 rfl) ?_
  refine lv_iload_n G.1 G.2.1 dX0_take_31 rfl (lv_at hl 5 rfl) ?_
  refine gc_v (As := [.int (nI pf), .int (nI bd), .int (nI vl)]) (rest := []) G.fix (mX0_bent l D q cI N S tr A pf bd vl hok (by first | omega | assumption | exact ok6 _ | apply hq) (by first | omega | assumption | exact ok6 _ | apply hq) (by first | omega | assumption | exact ok6 _ | apply hq)) (cwV 3 G.2.2.2.2.2.1 gX0_take_X0_bent rfl rfl rfl (by decide +kernel) ⟨Nat.le_of_ble_eq_true rfl, Nat.le_of_ble_eq_true rfl⟩) xAt_blind (va_recv hX.2.1 hX.1 (ci := 0) (q0 := 0) rfl rfl) (fun U hU hW => by rw [hU]; exact hX.moved hW) rfl hl.1 rfl (Nat.le_of_ble_eq_true rfl) dX0_take_32 (Nat.zero_le _) (Nat.zero_le _) (fun r hr => ?_)
  subst hr
  refine lv_istore (lv' := [(6, .int (nI (sp_curve S pf bd vl))), (5, .int (nI (S 3 ((pf * 3) + bd)))), (4, .int (nI (S 2 ((pf * 3) + bd)))), (0, .ref (q 0)), (1, .int (nI pf)), (2, .int (nI bd)), (3, .int (nI vl))]) G.1 G.2.1 dX0_take_35 hl (by decide) rfl (fun ls hl => ?_)
  refine lv_aload_n G.1 G.2.1 dX0_take_37 rfl (lv_at hl 3 rfl) ?_
  refine gx_get G hX (by decide +kernel) 4 (by decide) (by decide +kernel) rfl rfl rfl dX0_take_38 ?_
  refine lv_iload_n G.1 G.2.1 dX0_take_41 rfl (lv_at hl 4 rfl) ?_
  refine gc_s (As := [.ref (q 4), .int (nI pf)]) (rest := []) G.fix (mX0_read l D (q 4) cI 8 (S 4) (pf) (by first | omega | assumption | exact ok6 _ | apply hq)) (va_cwS 2 G.2.2.2.2.2.1 gX0_take_X0_read rfl rfl rfl (by decide +kernel) ⟨Nat.le_of_ble_eq_true rfl, Nat.le_of_ble_eq_true rfl⟩) rAt_blind (fun U hU hW => by rw [hU]; exact (hX.row 4 rfl).moved hW) rfl hl.1 rfl (Nat.le_of_ble_eq_true rfl) dX0_take_42 (Nat.zero_le _) (Nat.zero_le _) (fun r hr => ?_)
  subst hr
  refine lv_istore (lv' := [(7, .int (nI (S 4 pf))), (6, .int (nI (sp_curve S pf bd vl))), (5, .int (nI (S 3 ((pf * 3) + bd)))), (4, .int (nI (S 2 ((pf * 3) + bd)))), (0, .ref (q 0)), (1, .int (nI pf)), (2, .int (nI bd)), (3, .int (nI vl))]) G.1 G.2.1 dX0_take_45 hl (by decide) rfl (fun ls hl => ?_)
  refine lv_iload G.1 G.2.1 dX0_take_47 (lv_at hl 0 rfl) ?_
  refine lv_iconst (v := nI 1) G.1 G.2.1 dX0_take_49 (by decide) ?_
  refine gn_ne G (by omega) (by omega) (tgt := 69) dX0_take_50 (by decide) (fun h_50 => ?_) (fun h_50 => ?_)
  · refine lv_iload G.1 G.2.1 dX0_take_69 (lv_at hl 0 rfl) ?_
    refine lv_iconst (v := nI 2) G.1 G.2.1 dX0_take_71 (by decide) ?_
    refine gn_ne G (by omega) (by omega) (tgt := 86) dX0_take_72 (by decide) (fun h_72 => ?_) (fun h_72 => ?_)
    · refine lv_iload G.1 G.2.1 dX0_take_86 (lv_at hl 3 rfl) ?_
      refine lv_iload G.1 G.2.1 dX0_take_88 (lv_at hl 2 rfl) ?_
      refine lv_iload G.1 G.2.1 dX0_take_90 (lv_at hl 1 rfl) ?_
      refine gr_min G hl.1 (ix := 119) (by decide +kernel) (by decide +kernel) (by decide +kernel) (by decide +kernel) (Nat.le_of_ble_eq_true rfl) (Nat.le_of_ble_eq_true rfl) (Nat.zero_le _) (Nat.zero_le _) (by omega) (by omega) dX0_take_92 ?_
      refine gr_max G hl.1 (ix := 125) (by decide +kernel) (by decide +kernel) (by decide +kernel) (by decide +kernel) (Nat.le_of_ble_eq_true rfl) (Nat.le_of_ble_eq_true rfl) (Nat.zero_le _) (Nat.zero_le _) (by omega) (by omega) dX0_take_95 ?_
      exact W.iret G.1 G.2.1 G.2.2.1 (fun t ht hW => ⟨_, rfl, by show nI _ = nI _; unfold sp_tk sp_take; rw [if_neg h_50, if_neg h_72], ht⟩) (fun q h => nomatch h) dX0_take_98 G.2.2.2.2.2.2
    · refine lv_iload G.1 G.2.1 dX0_take_75 (lv_at hl 1 rfl) ?_
      refine lv_iload G.1 G.2.1 dX0_take_77 (lv_at hl 3 rfl) ?_
      refine lv_iload G.1 G.2.1 dX0_take_79 (lv_at hl 2 rfl) ?_
      refine gc_s (As := [.int (nI (sp_curve S pf bd vl)), .int (nI (S 2 ((pf * 3) + bd))), .int (nI (S 3 ((pf * 3) + bd)))]) (rest := []) G.fix (mX0_fold l (sp_curve S pf bd vl) (S 2 (pf * 3 + bd)) (S 3 (pf * 3 + bd)) (by omega) (by omega) (by omega)) (va_cwS 3 G.2.2.2.2.2.1 gX0_take_X0_fold rfl rfl rfl (by decide +kernel) ⟨Nat.le_of_ble_eq_true rfl, Nat.le_of_ble_eq_true rfl⟩) gc_blindT (fun _ _ _ => trivial) rfl hl.1 rfl (Nat.le_of_ble_eq_true rfl) dX0_take_81 (Nat.zero_le _) (Nat.zero_le _) (fun z hz => ?_)
      refine lv_istore (lv' := [(6, .int z), (7, .int (nI (S 4 pf))), (5, .int (nI (S 3 ((pf * 3) + bd)))), (4, .int (nI (S 2 ((pf * 3) + bd)))), (0, .ref (q 0)), (1, .int (nI pf)), (2, .int (nI bd)), (3, .int (nI vl))]) G.1 G.2.1 dX0_take_84 hl (by decide) rfl (fun ls hl => ?_)
      refine lv_iload G.1 G.2.1 dX0_take_86 (lv_at hl 3 rfl) ?_
      refine lv_iload G.1 G.2.1 dX0_take_88 (lv_at hl 2 rfl) ?_
      refine lv_iload G.1 G.2.1 dX0_take_90 (lv_at hl 0 rfl) ?_
      refine va_mmin G.1 G.2.1 (G.2.2.2.1.trans hl.1.symm) G.2.2.2.2.1 (G.2.2.2.2.2.1 (.methodLink RX0 119 Lib.Math.min.name) (by decide +kernel)) (G.2.2.2.2.2.1 _ (by decide +kernel)) (G.2.2.2.2.2.1 _ (by decide +kernel)) (G.2.2.2.2.2.1 _ (by decide +kernel)) (Nat.le_of_ble_eq_true rfl) (Nat.le_of_ble_eq_true rfl) (Nat.zero_le _) (Nat.zero_le _) dX0_take_92 ?_
      refine lv_topi (fun y ey => ?_)
      refine va_mmax G.1 G.2.1 (G.2.2.2.1.trans hl.1.symm) G.2.2.2.2.1 (G.2.2.2.2.2.1 (.methodLink RX0 125 Lib.Math.max.name) (by decide +kernel)) (G.2.2.2.2.2.1 _ (by decide +kernel)) (G.2.2.2.2.2.1 _ (by decide +kernel)) (G.2.2.2.2.2.1 _ (by decide +kernel)) (Nat.le_of_ble_eq_true rfl) (Nat.le_of_ble_eq_true rfl) (Nat.zero_le _) (Nat.zero_le _) dX0_take_95 ?_
      exact W.iret G.1 G.2.1 G.2.2.1 (fun t ht hW => ⟨_, rfl, by show (if nI _ < y then y else nI _) = nI _; unfold sp_tk sp_take; rw [if_neg h_50, if_pos h_72]; exact gp_clamp h2 h3 hc hz ey, ht⟩) (fun q h => nomatch h) dX0_take_98 G.2.2.2.2.2.2
  · refine lv_iload G.1 G.2.1 dX0_take_53 (lv_at hl 3 rfl) ?_
    refine lv_iload G.1 G.2.1 dX0_take_55 (lv_at hl 1 rfl) ?_
    refine lv_iload G.1 G.2.1 dX0_take_57 (lv_at hl 2 rfl) ?_
    refine lv_iload G.1 G.2.1 dX0_take_59 (lv_at hl 3 rfl) ?_
    refine gn_isub G dX0_take_61 (by omega) ?_
    refine gn_imul G dX0_take_62 ?_
    refine lv_sipush (v := nI 255) G.1 G.2.1 dX0_take_63 (by decide) ?_
    refine gn_idiv G dX0_take_66 (by omega) (by decide) (by decide) ?_
    refine gn_iadd G dX0_take_67 ?_
    exact W.iret G.1 G.2.1 G.2.2.1 (fun t ht hW => ⟨_, rfl, by show nI _ = nI _; unfold sp_tk sp_take; rw [if_pos h_50], ht⟩) (fun q h => nomatch h) dX0_take_68 G.2.2.2.2.2.2
set_option maxRecDepth 100000 in
set_option maxHeartbeats 4000000 in
/-- a value through a chain -/
theorem mX0_pass (l : Launch) (D : va_G) (q : Nat → Nat) (cI : ClassId) (N : Nat → Nat) (S : Nat → Nat → Nat) (tr : Nat → Nat) (A : Nat → Prop) (ch bd vl : Nat) (hok : sp_ok N S) (hch : ch < 6) (hbd : bd < 3) (hvl : vl ≤ 255) : Met l yX0_pass wsX0_pass { frames := 4, cells := 0, slots := 0, locals := 98 } (va_Pc [.ref (q 0), .int (nI ch), .int (nI bd), .int (nI vl)] (fun U => xAt D q cI N S tr A U U.heap)) (vp_Si (fun r => r = nI (sp_pass S ch bd vl))) 0 0 (fun _ => False) := by
  refine gc_met [.ref (q 0), .int (nI ch), .int (nI bd), .int (nI vl)] (by decide) rfl (Nat.le_of_ble_eq_true rfl) rfl ?_
  intro p e s m below meth c ls G hl hX
  have hok9 := hok
  obtain ⟨⟨ok0, ok5⟩, ok1, ok2, ok3, ok4, ok6, ok7, ok8, ok12, ok13, ok14⟩ := hok9
  have h7 := ok7 ch
  have hq := fun k => sp_passTo_le (ch := ch) (b := bd) hok hvl k
  have h6 := fun k => ok6 (ch * 6 + k)
  refine lv_aload_n G.1 G.2.1 dX0_pass_0 rfl (lv_at hl 0 rfl) ?_
  refine gx_get G hX (by decide +kernel) 7 (by decide) (by decide +kernel) rfl rfl rfl dX0_pass_1 ?_
  refine lv_iload_n G.1 G.2.1 dX0_pass_4 rfl (lv_at hl 1 rfl) ?_
  refine gc_s (As := [.ref (q 7), .int (nI ch)]) (rest := []) G.fix (mX0_read l D (q 7) cI 6 (S 7) (ch) (by first | omega | assumption | exact ok6 _ | apply hq)) (va_cwS 2 G.2.2.2.2.2.1 gX0_pass_X0_read rfl rfl rfl (by decide +kernel) ⟨Nat.le_of_ble_eq_true rfl, Nat.le_of_ble_eq_true rfl⟩) rAt_blind (fun U hU hW => by rw [hU]; exact (hX.row 6 rfl).moved hW) rfl hl.1 rfl (Nat.le_of_ble_eq_true rfl) dX0_pass_5 (Nat.zero_le _) (Nat.zero_le _) (fun r hr => ?_)
  subst hr
  refine lv_istore (lv' := [(4, .int (nI (S 7 ch))), (0, .ref (q 0)), (1, .int (nI ch)), (2, .int (nI bd)), (3, .int (nI vl))]) G.1 G.2.1 dX0_pass_8 hl (by decide) rfl (fun ls hl => ?_)
  refine lv_iload_n G.1 G.2.1 dX0_pass_10 rfl (lv_at hl 4 rfl) ?_
  refine lv_istore (lv' := [(5, .int (nI vl)), (4, .int (nI (S 7 ch))), (0, .ref (q 0)), (1, .int (nI ch)), (2, .int (nI bd)), (3, .int (nI vl))]) G.1 G.2.1 dX0_pass_11 hl (by decide) rfl (fun ls hl => ?_)
  refine lv_iconst (v := nI 0) G.1 G.2.1 dX0_pass_13 (by decide) ?_
  refine lv_istore (lv' := [(6, .int (nI 0)), (5, .int (nI vl)), (4, .int (nI (S 7 ch))), (0, .ref (q 0)), (1, .int (nI ch)), (2, .int (nI bd)), (3, .int (nI vl))]) G.1 G.2.1 dX0_pass_14 hl (by decide) rfl (fun ls hl => ?_)
  have loop1 : ∀ (d1 x1 : Nat), x1 + d1 = S 7 ch → ∀ ls : Array Slot, lv_has ls 7 [(0, .ref (q 0)), (1, .int (nI ch)), (2, .int (nI bd)), (4, .int (nI (S 7 ch))), (5, .int (nI (sp_passTo S ch bd vl x1))), (6, .int (nI x1))] → W p l e { frames := 4, cells := 0, slots := 0, locals := 98 } s m ([.ref (q 0), .int (nI ch), .int (nI bd), .int (nI vl)] : List Value).toArray below meth c s.heap [] 0 0 (MQ below (vp_Si (fun r => r = nI (sp_pass S ch bd vl))) ([.ref (q 0), .int (nI ch), .int (nI bd), .int (nI vl)] : List Value).toArray s 0 0 (fun _ => False)) (F0 m 16 ls []) := by
    intro d1
    induction d1 with
    | zero =>
      intro x1 hd1 ls hl
      refine lv_iload G.1 G.2.1 dX0_pass_16 (lv_at hl 5 rfl) ?_
      refine lv_iload G.1 G.2.1 dX0_pass_18 (lv_at hl 3 rfl) ?_
      refine gn_ge G (by omega) (by omega) (tgt := 52) dX0_pass_20 (by decide) (fun h_20 => ?_) (fun h_20 => absurd h_20 (by omega))
      refine lv_iload G.1 G.2.1 dX0_pass_52 (lv_at hl 4 rfl) ?_
      exact W.iret G.1 G.2.1 G.2.2.1 (fun t ht hW => ⟨_, rfl, by show nI _ = nI _; unfold sp_pass; rw [show x1 = S 7 ch from by omega], ht⟩) (fun q h => nomatch h) dX0_pass_54 G.2.2.2.2.2.2
    | succ d1 ih1 =>
      intro x1 hd1 ls hl
      refine lv_iload G.1 G.2.1 dX0_pass_16 (lv_at hl 5 rfl) ?_
      refine lv_iload G.1 G.2.1 dX0_pass_18 (lv_at hl 3 rfl) ?_
      refine gn_ge G (by omega) (by omega) (tgt := 52) dX0_pass_20 (by decide) (fun h_20 => absurd h_20 (by omega)) (fun h_20 => ?_)
      refine lv_aload_n G.1 G.2.1 dX0_pass_23 rfl (lv_at hl 0 rfl) ?_
      refine lv_aload_n G.1 G.2.1 dX0_pass_24 rfl (lv_at hl 0 rfl) ?_
      refine gx_get G hX (by decide +kernel) 6 (by decide) (by decide +kernel) rfl rfl rfl dX0_pass_25 ?_
      refine lv_iload_n G.1 G.2.1 dX0_pass_28 rfl (lv_at hl 1 rfl) ?_
      refine lv_bipush (v := nI 6) G.1 G.2.1 dX0_pass_29 (by decide) ?_
      refine gn_imul G dX0_pass_31 ?_
      refine lv_iload G.1 G.2.1 dX0_pass_32 (lv_at hl 5 rfl) ?_
      refine gn_iadd G dX0_pass_34 ?_
      refine gc_s (As := [.ref (q 6), .int (nI ((ch * 6) + x1))]) (rest := [.ref (q 0)]) G.fix (mX0_read l D (q 6) cI 36 (S 6) ((ch * 6) + x1) (by first | omega | assumption | exact ok6 _ | apply hq)) (va_cwS 2 G.2.2.2.2.2.1 gX0_pass_X0_read rfl rfl rfl (by decide +kernel) ⟨Nat.le_of_ble_eq_true rfl, Nat.le_of_ble_eq_true rfl⟩) rAt_blind (fun U hU hW => by rw [hU]; exact (hX.row 5 rfl).moved hW) rfl hl.1 rfl (Nat.le_of_ble_eq_true rfl) dX0_pass_35 (Nat.zero_le _) (Nat.zero_le _) (fun r hr => ?_)
      subst hr
      refine lv_iload_n G.1 G.2.1 dX0_pass_38 rfl (lv_at hl 2 rfl) ?_
      refine lv_iload G.1 G.2.1 dX0_pass_39 (lv_at hl 4 rfl) ?_
      refine gc_v (As := [.int (nI (S 6 ((ch * 6) + x1))), .int (nI bd), .int (nI (sp_passTo S ch bd vl x1))]) (rest := []) G.fix (mX0_take l D q cI N S tr A (S 6 ((ch * 6) + x1)) bd (sp_passTo S ch bd vl x1) hok (by first | omega | assumption | exact ok6 _ | apply hq) (by first | omega | assumption | exact ok6 _ | apply hq) (by first | omega | assumption | exact ok6 _ | apply hq)) (cwV 3 G.2.2.2.2.2.1 gX0_pass_X0_take rfl rfl rfl (by decide +kernel) ⟨Nat.le_of_ble_eq_true rfl, Nat.le_of_ble_eq_true rfl⟩) xAt_blind (va_recv hX.2.1 hX.1 (ci := 0) (q0 := 0) rfl rfl) (fun U hU hW => by rw [hU]; exact hX.moved hW) rfl hl.1 rfl (Nat.le_of_ble_eq_true rfl) dX0_pass_41 (Nat.zero_le _) (Nat.zero_le _) (fun r hr => ?_)
      subst hr
      refine lv_istore (lv' := [(5, .int (nI (sp_tk S (S 6 ((ch * 6) + x1)) bd (sp_passTo S ch bd vl x1)))), (0, .ref (q 0)), (1, .int (nI ch)), (2, .int (nI bd)), (4, .int (nI (S 7 ch))), (6, .int (nI x1))]) G.1 G.2.1 dX0_pass_44 hl (by decide) rfl (fun ls hl => ?_)
      refine gn_iinc (lv' := [(6, .int (nI (x1 + 1))), (5, .int (nI (sp_tk S (S 6 ((ch * 6) + x1)) bd (sp_passTo S ch bd vl x1)))), (0, .ref (q 0)), (1, .int (nI ch)), (2, .int (nI bd)), (4, .int (nI (S 7 ch)))]) (n := 1) G dX0_pass_46 hl (k := 5) rfl (by decide) rfl (fun ls hl => ?_)
      refine lv_goto (tgt := 16) G.1 G.2.1 dX0_pass_49 (by decide) ?_
      exact ih1 (x1 + 1) (by omega) _ (lv_sub hl [2, 3, 4, 5, 1, 0] rfl)
  exact loop1 (S 7 ch) 0 (by omega) _ (lv_sub hl [3, 4, 5, 2, 1, 0] rfl)
set_option maxRecDepth 100000 in
set_option maxHeartbeats 4000000 in
/-- the profiles of a chain, as a set -/
theorem mX0_profilesOf (l : Launch) (D : va_G) (q : Nat → Nat) (cI : ClassId) (N : Nat → Nat) (S : Nat → Nat → Nat) (tr : Nat → Nat) (A : Nat → Prop) (ch : Nat) (hok : sp_ok N S) (hch : ch < 6) : Met l yX0_profilesOf wsX0_profilesOf { frames := 1, cells := 0, slots := 0, locals := 21 } (va_Pc [.ref (q 0), .int (nI ch)] (fun U => xAt D q cI N S tr A U U.heap)) (vp_Si (fun r => r = nI (sp_of S ch))) 0 0 (fun _ => False) := by
  refine gc_met [.ref (q 0), .int (nI ch)] (by decide) rfl (Nat.le_of_ble_eq_true rfl) rfl ?_
  intro p e s m below meth c ls G hl hX
  have hok9 := hok
  obtain ⟨⟨ok0, ok5⟩, ok1, ok2, ok3, ok4, ok6, ok7, ok8, ok12, ok13, ok14⟩ := hok9
  have h7 := ok7 ch
  refine lv_aload_n G.1 G.2.1 dX0_profilesOf_0 rfl (lv_at hl 0 rfl) ?_
  refine gx_get G hX (by decide +kernel) 7 (by decide) (by decide +kernel) rfl rfl rfl dX0_profilesOf_1 ?_
  refine lv_iload_n G.1 G.2.1 dX0_profilesOf_4 rfl (lv_at hl 1 rfl) ?_
  refine gc_s (As := [.ref (q 7), .int (nI ch)]) (rest := []) G.fix (mX0_read l D (q 7) cI 6 (S 7) (ch) (by first | omega | assumption | exact ok6 _ | apply hq)) (va_cwS 2 G.2.2.2.2.2.1 gX0_profilesOf_X0_read rfl rfl rfl (by decide +kernel) ⟨Nat.le_of_ble_eq_true rfl, Nat.le_of_ble_eq_true rfl⟩) rAt_blind (fun U hU hW => by rw [hU]; exact (hX.row 6 rfl).moved hW) rfl hl.1 rfl (Nat.le_of_ble_eq_true rfl) dX0_profilesOf_5 (Nat.zero_le _) (Nat.zero_le _) (fun r hr => ?_)
  subst hr
  refine lv_istore_n (lv' := [(2, .int (nI (S 7 ch))), (0, .ref (q 0)), (1, .int (nI ch))]) G.1 G.2.1 dX0_profilesOf_8 rfl hl (by decide) rfl (fun ls hl => ?_)
  refine lv_iconst (v := nI 0) G.1 G.2.1 dX0_profilesOf_9 (by decide) ?_
  refine lv_istore_n (lv' := [(3, .int (nI 0)), (2, .int (nI (S 7 ch))), (0, .ref (q 0)), (1, .int (nI ch))]) G.1 G.2.1 dX0_profilesOf_10 rfl hl (by decide) rfl (fun ls hl => ?_)
  refine lv_iconst (v := nI 0) G.1 G.2.1 dX0_profilesOf_11 (by decide) ?_
  refine lv_istore (lv' := [(4, .int (nI 0)), (3, .int (nI 0)), (2, .int (nI (S 7 ch))), (0, .ref (q 0)), (1, .int (nI ch))]) G.1 G.2.1 dX0_profilesOf_12 hl (by decide) rfl (fun ls hl => ?_)
  have loop1 : ∀ (d1 x1 : Nat), x1 + d1 = S 7 ch → ∀ ls : Array Slot, lv_has ls 5 [(0, .ref (q 0)), (1, .int (nI ch)), (2, .int (nI (S 7 ch))), (3, .int (nI (sp_ofTo S ch x1))), (4, .int (nI x1))] → W p l e { frames := 1, cells := 0, slots := 0, locals := 21 } s m ([.ref (q 0), .int (nI ch)] : List Value).toArray below meth c s.heap [] 0 0 (MQ below (vp_Si (fun r => r = nI (sp_of S ch))) ([.ref (q 0), .int (nI ch)] : List Value).toArray s 0 0 (fun _ => False)) (F0 m 14 ls []) := by
    intro d1
    induction d1 with
    | zero =>
      intro x1 hd1 ls hl
      refine lv_iload G.1 G.2.1 dX0_profilesOf_14 (lv_at hl 4 rfl) ?_
      refine lv_iload_n G.1 G.2.1 dX0_profilesOf_16 rfl (lv_at hl 2 rfl) ?_
      refine gn_ge G (by first | omega | exact Nat.lt_trans (ok6 _) (by decide)) (by first | omega | exact Nat.lt_trans (ok6 _) (by decide)) (tgt := 45) dX0_profilesOf_17 (by decide) (fun h_17 => ?_) (fun h_17 => absurd h_17 (by omega))
      refine lv_iload_n G.1 G.2.1 dX0_profilesOf_45 rfl (lv_at hl 3 rfl) ?_
      exact W.iret G.1 G.2.1 G.2.2.1 (fun t ht hW => ⟨_, rfl, by show nI _ = nI _; unfold sp_of; rw [show x1 = S 7 ch from by omega], ht⟩) (fun q h => nomatch h) dX0_profilesOf_46 G.2.2.2.2.2.2
    | succ d1 ih1 =>
      intro x1 hd1 ls hl
      refine lv_iload G.1 G.2.1 dX0_profilesOf_14 (lv_at hl 4 rfl) ?_
      refine lv_iload_n G.1 G.2.1 dX0_profilesOf_16 rfl (lv_at hl 2 rfl) ?_
      refine gn_ge G (by first | omega | exact Nat.lt_trans (ok6 _) (by decide)) (by first | omega | exact Nat.lt_trans (ok6 _) (by decide)) (tgt := 45) dX0_profilesOf_17 (by decide) (fun h_17 => absurd h_17 (by omega)) (fun h_17 => ?_)
      refine lv_iload_n G.1 G.2.1 dX0_profilesOf_20 rfl (lv_at hl 3 rfl) ?_
      refine lv_iconst (v := nI 1) G.1 G.2.1 dX0_profilesOf_21 (by decide) ?_
      refine lv_aload_n G.1 G.2.1 dX0_profilesOf_22 rfl (lv_at hl 0 rfl) ?_
      refine gx_get G hX (by decide +kernel) 6 (by decide) (by decide +kernel) rfl rfl rfl dX0_profilesOf_23 ?_
      refine lv_iload_n G.1 G.2.1 dX0_profilesOf_26 rfl (lv_at hl 1 rfl) ?_
      refine lv_bipush (v := nI 6) G.1 G.2.1 dX0_profilesOf_27 (by decide) ?_
      refine gn_imul G dX0_profilesOf_29 ?_
      refine lv_iload G.1 G.2.1 dX0_profilesOf_30 (lv_at hl 4 rfl) ?_
      refine gn_iadd G dX0_profilesOf_32 ?_
      refine gc_s (As := [.ref (q 6), .int (nI ((ch * 6) + x1))]) (rest := [.int (nI 1), .int (nI (sp_ofTo S ch x1))]) G.fix (mX0_read l D (q 6) cI 36 (S 6) ((ch * 6) + x1) (by first | omega | assumption | exact ok6 _ | apply hq)) (va_cwS 2 G.2.2.2.2.2.1 gX0_profilesOf_X0_read rfl rfl rfl (by decide +kernel) ⟨Nat.le_of_ble_eq_true rfl, Nat.le_of_ble_eq_true rfl⟩) rAt_blind (fun U hU hW => by rw [hU]; exact (hX.row 5 rfl).moved hW) rfl hl.1 rfl (Nat.le_of_ble_eq_true rfl) dX0_profilesOf_33 (Nat.zero_le _) (Nat.zero_le _) (fun r hr => ?_)
      subst hr
      refine gn_ishl G dX0_profilesOf_36 (by first | omega | exact Nat.lt_trans (ok6 _) (by decide)) ?_
      refine gn_ior G dX0_profilesOf_37 ?_
      refine lv_istore_n (lv' := [(3, .int (nI ((sp_ofTo S ch x1) ||| (2 ^ (S 6 ((ch * 6) + x1)))))), (0, .ref (q 0)), (1, .int (nI ch)), (2, .int (nI (S 7 ch))), (4, .int (nI x1))]) G.1 G.2.1 dX0_profilesOf_38 rfl hl (by decide) rfl (fun ls hl => ?_)
      refine gn_iinc (lv' := [(4, .int (nI (x1 + 1))), (3, .int (nI ((sp_ofTo S ch x1) ||| (2 ^ (S 6 ((ch * 6) + x1)))))), (0, .ref (q 0)), (1, .int (nI ch)), (2, .int (nI (S 7 ch)))]) (n := 1) G dX0_profilesOf_39 hl (k := 4) rfl (by decide) rfl (fun ls hl => ?_)
      refine lv_goto (tgt := 14) G.1 G.2.1 dX0_profilesOf_42 (by decide) ?_
      exact ih1 (x1 + 1) (by omega) _ (lv_sub hl [2, 3, 4, 1, 0] rfl)
  exact loop1 (S 7 ch) 0 (by omega) _ (lv_sub hl [3, 4, 2, 1, 0] rfl)
set_option maxRecDepth 100000 in
set_option maxHeartbeats 4000000 in
/-- the profiles that are held, as a set -/
theorem mX0_held (l : Launch) (D : va_G) (q : Nat → Nat) (cI : ClassId) (N : Nat → Nat) (S : Nat → Nat → Nat) (tr : Nat → Nat) (A : Nat → Prop) (hok : sp_ok N S) (hN : N 10 < 64) : Met l yX0_held wsX0_held { frames := 2, cells := 0, slots := 0, locals := 45 } (va_Pc [.ref (q 0)] (fun U => xAt D q cI N S tr A U U.heap)) (vp_Si (fun r => r = nI (sp_held N S))) 0 0 (fun _ => False) := by
  refine gc_met [.ref (q 0)] (by decide) rfl (Nat.le_of_ble_eq_true rfl) rfl ?_
  intro p e s m below meth c ls G hl hX
  have hok9 := hok
  obtain ⟨⟨ok0, ok5⟩, ok1, ok2, ok3, ok4, ok6, ok7, ok8, ok12, ok13, ok14⟩ := hok9
  refine lv_iconst (v := nI 0) G.1 G.2.1 dX0_held_0 (by decide) ?_
  refine lv_istore_n (lv' := [(1, .int (nI 0)), (0, .ref (q 0))]) G.1 G.2.1 dX0_held_1 rfl hl (by decide) rfl (fun ls hl => ?_)
  refine lv_iconst (v := nI 0) G.1 G.2.1 dX0_held_2 (by decide) ?_
  refine lv_istore_n (lv' := [(2, .int (nI 0)), (1, .int (nI 0)), (0, .ref (q 0))]) G.1 G.2.1 dX0_held_3 rfl hl (by decide) rfl (fun ls hl => ?_)
  have loop1 : ∀ (d1 x1 : Nat), x1 + d1 = 6 → ∀ ls : Array Slot, lv_has ls 3 [(0, .ref (q 0)), (1, .int (nI (sp_heldTo N S x1))), (2, .int (nI x1))] → W p l e { frames := 2, cells := 0, slots := 0, locals := 45 } s m ([.ref (q 0)] : List Value).toArray below meth c s.heap [] 0 0 (MQ below (vp_Si (fun r => r = nI (sp_held N S))) ([.ref (q 0)] : List Value).toArray s 0 0 (fun _ => False)) (F0 m 4 ls []) := by
    intro d1
    induction d1 with
    | zero =>
      intro x1 hd1 ls hl
      refine lv_iload_n G.1 G.2.1 dX0_held_4 rfl (lv_at hl 2 rfl) ?_
      refine lv_bipush (v := nI 6) G.1 G.2.1 dX0_held_5 (by decide) ?_
      refine gn_ge G (by omega) (by omega) (tgt := 35) dX0_held_7 (by decide) (fun h_7 => ?_) (fun h_7 => absurd h_7 (by omega))
      refine lv_iload_n G.1 G.2.1 dX0_held_35 rfl (lv_at hl 1 rfl) ?_
      exact W.iret G.1 G.2.1 G.2.2.1 (fun t ht hW => ⟨_, rfl, by show nI _ = nI _; unfold sp_held; rw [show x1 = 6 from by omega], ht⟩) (fun q h => nomatch h) dX0_held_36 G.2.2.2.2.2.2
    | succ d1 ih1 =>
      intro x1 hd1 ls hl
      refine lv_iload_n G.1 G.2.1 dX0_held_4 rfl (lv_at hl 2 rfl) ?_
      refine lv_bipush (v := nI 6) G.1 G.2.1 dX0_held_5 (by decide) ?_
      refine gn_ge G (by omega) (by omega) (tgt := 35) dX0_held_7 (by decide) (fun h_7 => absurd h_7 (by omega)) (fun h_7 => ?_)
      refine lv_aload_n G.1 G.2.1 dX0_held_10 rfl (lv_at hl 0 rfl) ?_
      refine gx_get G hX (by decide +kernel) 10 (by decide) (by decide +kernel) rfl rfl rfl dX0_held_11 ?_
      refine lv_iload_n G.1 G.2.1 dX0_held_14 rfl (lv_at hl 2 rfl) ?_
      refine gc_s (As := [.int (nI (N 10)), .int (nI x1)]) (rest := []) G.fix (mX0_hasBit l (N 10) x1 (by first | omega | assumption | exact ok6 _ | apply hq) (by omega)) (va_cwS 2 G.2.2.2.2.2.1 gX0_held_X0_hasBit rfl rfl rfl (by decide +kernel) ⟨Nat.le_of_ble_eq_true rfl, Nat.le_of_ble_eq_true rfl⟩) gc_blindT (fun _ _ _ => trivial) rfl hl.1 rfl (Nat.le_of_ble_eq_true rfl) dX0_held_15 (Nat.zero_le _) (Nat.zero_le _) (fun r hr => ?_)
      subst hr
      refine gn_eqz G (by exact sp_b31 _ _) (tgt := 29) dX0_held_18 (by decide) (fun h_18 => ?_) (fun h_18 => ?_)
      · refine gn_iinc (lv' := [(2, .int (nI (x1 + 1))), (0, .ref (q 0)), (1, .int (nI (sp_heldTo N S x1)))]) (n := 1) G dX0_held_29 hl (k := 2) rfl (by decide) rfl (fun ls hl => ?_)
        refine lv_goto (tgt := 4) G.1 G.2.1 dX0_held_32 (by decide) ?_
        exact ih1 (x1 + 1) (by omega) _ (by have hb9 := sp_bit_lt (N 10) x1; have e9 : sp_heldTo N S (x1 + 1) = sp_heldTo N S x1 := (by first | exact sp_held_y (by omega) | exact sp_held_n (by omega)); rw [e9]; exact lv_sub hl [1, 2, 0] rfl)
      · refine lv_iload_n G.1 G.2.1 dX0_held_21 rfl (lv_at hl 1 rfl) ?_
        refine lv_aload_n G.1 G.2.1 dX0_held_22 rfl (lv_at hl 0 rfl) ?_
        refine lv_iload_n G.1 G.2.1 dX0_held_23 rfl (lv_at hl 2 rfl) ?_
        refine gc_v (As := [.int (nI x1)]) (rest := [.int (nI (sp_heldTo N S x1))]) G.fix (mX0_profilesOf l D q cI N S tr A x1 hok (by first | omega | assumption | exact ok6 _ | apply hq)) (cwV 1 G.2.2.2.2.2.1 gX0_held_X0_profilesOf rfl rfl rfl (by decide +kernel) ⟨Nat.le_of_ble_eq_true rfl, Nat.le_of_ble_eq_true rfl⟩) xAt_blind (va_recv hX.2.1 hX.1 (ci := 0) (q0 := 0) rfl rfl) (fun U hU hW => by rw [hU]; exact hX.moved hW) rfl hl.1 rfl (Nat.le_of_ble_eq_true rfl) dX0_held_24 (Nat.zero_le _) (Nat.zero_le _) (fun r hr => ?_)
        subst hr
        refine gn_ior G dX0_held_27 ?_
        refine lv_istore_n (lv' := [(1, .int (nI ((sp_heldTo N S x1) ||| (sp_of S x1)))), (0, .ref (q 0)), (2, .int (nI x1))]) G.1 G.2.1 dX0_held_28 rfl hl (by decide) rfl (fun ls hl => ?_)
        refine gn_iinc (lv' := [(2, .int (nI (x1 + 1))), (1, .int (nI ((sp_heldTo N S x1) ||| (sp_of S x1)))), (0, .ref (q 0))]) (n := 1) G dX0_held_29 hl (k := 2) rfl (by decide) rfl (fun ls hl => ?_)
        refine lv_goto (tgt := 4) G.1 G.2.1 dX0_held_32 (by decide) ?_
        exact ih1 (x1 + 1) (by omega) _ (by have hb9 := sp_bit_lt (N 10) x1; have e9 : sp_heldTo N S (x1 + 1) = (sp_heldTo N S x1) ||| (sp_of S x1) := (by first | exact sp_held_y (by omega) | exact sp_held_n (by omega)); rw [e9]; exact lv_sub hl [2, 1, 0] rfl)
  exact loop1 6 0 (by omega) _ (lv_sub hl [2, 1, 0] rfl)
set_option maxRecDepth 100000 in
set_option maxHeartbeats 4000000 in
/-- a band of a pixel with inks -/
theorem mX0_inked (l : Launch) (D : va_G) (q : Nat → Nat) (cI : ClassId) (N : Nat → Nat) (S : Nat → Nat → Nat) (tr : Nat → Nat) (A : Nat → Prop) (px bd ks : Nat) (hok : sp_ok N S) (hpx : px < 6) (hbd : bd < 3) (hks : ks ≤ 7) : Met l yX0_inked wsX0_inked { frames := 1, cells := 0, slots := 0, locals := 21 } (va_Pc [.ref (q 0), .int (nI px), .int (nI bd), .int (nI ks)] (fun U => xAt D q cI N S tr A U U.heap)) (vp_Si (fun r => r = nI (sp_ink S px bd ks))) 0 0 (fun _ => False) := by
  refine gc_met [.ref (q 0), .int (nI px), .int (nI bd), .int (nI ks)] (by decide) rfl (Nat.le_of_ble_eq_true rfl) rfl ?_
  intro p e s m below meth c ls G hl hX
  have hok9 := hok
  obtain ⟨⟨ok0, ok5⟩, ok1, ok2, ok3, ok4, ok6, ok7, ok8, ok12, ok13, ok14⟩ := hok9
  have hm := fun i j => Nat.mul_le_mul (ok14 i) (ok13 j)
  have hi := fun k => sp_inkTo_le (px := px) (bd := bd) (ks := ks) hok k
  refine lv_aload_n G.1 G.2.1 dX0_inked_0 rfl (lv_at hl 0 rfl) ?_
  refine gx_get G hX (by decide +kernel) 12 (by decide) (by decide +kernel) rfl rfl rfl dX0_inked_1 ?_
  refine lv_iload_n G.1 G.2.1 dX0_inked_4 rfl (lv_at hl 1 rfl) ?_
  refine lv_iconst (v := nI 3) G.1 G.2.1 dX0_inked_5 (by decide) ?_
  refine gn_imul G dX0_inked_6 ?_
  refine lv_iload_n G.1 G.2.1 dX0_inked_7 rfl (lv_at hl 2 rfl) ?_
  refine gn_iadd G dX0_inked_8 ?_
  refine gc_s (As := [.ref (q 12), .int (nI ((px * 3) + bd))]) (rest := []) G.fix (mX0_read l D (q 12) cI 18 (S 12) ((px * 3) + bd) (by first | omega | assumption | exact ok6 _ | apply hq)) (va_cwS 2 G.2.2.2.2.2.1 gX0_inked_X0_read rfl rfl rfl (by decide +kernel) ⟨Nat.le_of_ble_eq_true rfl, Nat.le_of_ble_eq_true rfl⟩) rAt_blind (fun U hU hW => by rw [hU]; exact (hX.row 9 rfl).moved hW) rfl hl.1 rfl (Nat.le_of_ble_eq_true rfl) dX0_inked_9 (Nat.zero_le _) (Nat.zero_le _) (fun r hr => ?_)
  subst hr
  refine lv_istore (lv' := [(4, .int (nI (S 12 ((px * 3) + bd)))), (0, .ref (q 0)), (1, .int (nI px)), (2, .int (nI bd)), (3, .int (nI ks))]) G.1 G.2.1 dX0_inked_12 hl (by decide) rfl (fun ls hl => ?_)
  refine lv_iconst (v := nI 0) G.1 G.2.1 dX0_inked_14 (by decide) ?_
  refine lv_istore (lv' := [(5, .int (nI 0)), (4, .int (nI (S 12 ((px * 3) + bd)))), (0, .ref (q 0)), (1, .int (nI px)), (2, .int (nI bd)), (3, .int (nI ks))]) G.1 G.2.1 dX0_inked_15 hl (by decide) rfl (fun ls hl => ?_)
  have loop1 : ∀ (d1 x1 : Nat), x1 + d1 = 3 → ∀ ls : Array Slot, lv_has ls 7 [(0, .ref (q 0)), (1, .int (nI px)), (2, .int (nI bd)), (3, .int (nI ks)), (4, .int (nI (sp_inkTo S px bd ks x1))), (5, .int (nI x1))] → W p l e { frames := 1, cells := 0, slots := 0, locals := 21 } s m ([.ref (q 0), .int (nI px), .int (nI bd), .int (nI ks)] : List Value).toArray below meth c s.heap [] 0 0 (MQ below (vp_Si (fun r => r = nI (sp_ink S px bd ks))) ([.ref (q 0), .int (nI px), .int (nI bd), .int (nI ks)] : List Value).toArray s 0 0 (fun _ => False)) (F0 m 17 ls []) := by
    intro d1
    induction d1 with
    | zero =>
      intro x1 hd1 ls hl
      refine lv_iload G.1 G.2.1 dX0_inked_17 (lv_at hl 5 rfl) ?_
      refine lv_iconst (v := nI 3) G.1 G.2.1 dX0_inked_19 (by decide) ?_
      refine gn_ge G (by first | omega | exact sp_b31 _ _ | exact Nat.lt_of_le_of_lt (hm _ _) (by decide) | (have h91 := hm (x1 * 3 + bd) (px * 3 + x1); have h92 := hi x1; have h93 := Nat.div_le_self (S 14 (x1 * 3 + bd) * S 13 (px * 3 + x1)) 255; omega)) (by first | omega | exact sp_b31 _ _ | exact Nat.lt_of_le_of_lt (hm _ _) (by decide) | (have h91 := hm (x1 * 3 + bd) (px * 3 + x1); have h92 := hi x1; have h93 := Nat.div_le_self (S 14 (x1 * 3 + bd) * S 13 (px * 3 + x1)) 255; omega)) (tgt := 84) dX0_inked_20 (by decide) (fun h_20 => ?_) (fun h_20 => absurd h_20 (by omega))
      refine lv_iload G.1 G.2.1 dX0_inked_84 (lv_at hl 4 rfl) ?_
      exact W.iret G.1 G.2.1 G.2.2.1 (fun t ht hW => ⟨_, rfl, by show nI _ = nI _; unfold sp_ink; rw [show x1 = 3 from by omega], ht⟩) (fun q h => nomatch h) dX0_inked_86 G.2.2.2.2.2.2
    | succ d1 ih1 =>
      intro x1 hd1 ls hl
      refine lv_iload G.1 G.2.1 dX0_inked_17 (lv_at hl 5 rfl) ?_
      refine lv_iconst (v := nI 3) G.1 G.2.1 dX0_inked_19 (by decide) ?_
      refine gn_ge G (by first | omega | exact sp_b31 _ _ | exact Nat.lt_of_le_of_lt (hm _ _) (by decide) | (have h91 := hm (x1 * 3 + bd) (px * 3 + x1); have h92 := hi x1; have h93 := Nat.div_le_self (S 14 (x1 * 3 + bd) * S 13 (px * 3 + x1)) 255; omega)) (by first | omega | exact sp_b31 _ _ | exact Nat.lt_of_le_of_lt (hm _ _) (by decide) | (have h91 := hm (x1 * 3 + bd) (px * 3 + x1); have h92 := hi x1; have h93 := Nat.div_le_self (S 14 (x1 * 3 + bd) * S 13 (px * 3 + x1)) 255; omega)) (tgt := 84) dX0_inked_20 (by decide) (fun h_20 => absurd h_20 (by omega)) (fun h_20 => ?_)
      refine lv_iload_n G.1 G.2.1 dX0_inked_23 rfl (lv_at hl 3 rfl) ?_
      refine lv_iload G.1 G.2.1 dX0_inked_24 (lv_at hl 5 rfl) ?_
      refine gc_s (As := [.int (nI ks), .int (nI x1)]) (rest := []) G.fix (mX0_hasBit l ks x1 (by first | omega | assumption | exact ok6 _ | apply hq) (by omega)) (va_cwS 2 G.2.2.2.2.2.1 gX0_inked_X0_hasBit rfl rfl rfl (by decide +kernel) ⟨Nat.le_of_ble_eq_true rfl, Nat.le_of_ble_eq_true rfl⟩) gc_blindT (fun _ _ _ => trivial) rfl hl.1 rfl (Nat.le_of_ble_eq_true rfl) dX0_inked_26 (Nat.zero_le _) (Nat.zero_le _) (fun r hr => ?_)
      subst hr
      refine gn_nez G (by first | omega | exact sp_b31 _ _ | exact Nat.lt_of_le_of_lt (hm _ _) (by decide) | (have h91 := hm (x1 * 3 + bd) (px * 3 + x1); have h92 := hi x1; have h93 := Nat.div_le_self (S 14 (x1 * 3 + bd) * S 13 (px * 3 + x1)) 255; omega)) (tgt := 78) dX0_inked_29 (by decide) (fun h_29 => ?_) (fun h_29 => ?_)
      · refine gn_iinc (lv' := [(5, .int (nI (x1 + 1))), (0, .ref (q 0)), (1, .int (nI px)), (2, .int (nI bd)), (3, .int (nI ks)), (4, .int (nI (sp_inkTo S px bd ks x1)))]) (n := 1) G dX0_inked_78 hl (k := 5) rfl (by decide) rfl (fun ls hl => ?_)
        refine lv_goto (tgt := 17) G.1 G.2.1 dX0_inked_81 (by decide) ?_
        exact ih1 (x1 + 1) (by omega) _ (by have hb9 := sp_bit_lt ks x1; have e9 : sp_inkTo S px bd ks (x1 + 1) = sp_inkTo S px bd ks x1 := (by first | exact sp_ink_y (by omega) | exact sp_ink_n (by omega)); rw [e9]; exact lv_sub hl [1, 2, 3, 4, 5, 0] rfl)
      · refine lv_aload_n G.1 G.2.1 dX0_inked_32 rfl (lv_at hl 0 rfl) ?_
        refine gx_get G hX (by decide +kernel) 14 (by decide) (by decide +kernel) rfl rfl rfl dX0_inked_33 ?_
        refine lv_iload G.1 G.2.1 dX0_inked_36 (lv_at hl 5 rfl) ?_
        refine lv_iconst (v := nI 3) G.1 G.2.1 dX0_inked_38 (by decide) ?_
        refine gn_imul G dX0_inked_39 ?_
        refine lv_iload_n G.1 G.2.1 dX0_inked_40 rfl (lv_at hl 2 rfl) ?_
        refine gn_iadd G dX0_inked_41 ?_
        refine gc_s (As := [.ref (q 14), .int (nI ((x1 * 3) + bd))]) (rest := []) G.fix (mX0_read l D (q 14) cI 9 (S 14) ((x1 * 3) + bd) (by first | omega | assumption | exact ok6 _ | apply hq)) (va_cwS 2 G.2.2.2.2.2.1 gX0_inked_X0_read rfl rfl rfl (by decide +kernel) ⟨Nat.le_of_ble_eq_true rfl, Nat.le_of_ble_eq_true rfl⟩) rAt_blind (fun U hU hW => by rw [hU]; exact (hX.row 11 rfl).moved hW) rfl hl.1 rfl (Nat.le_of_ble_eq_true rfl) dX0_inked_42 (Nat.zero_le _) (Nat.zero_le _) (fun r hr => ?_)
        subst hr
        refine lv_aload_n G.1 G.2.1 dX0_inked_45 rfl (lv_at hl 0 rfl) ?_
        refine gx_get G hX (by decide +kernel) 13 (by decide) (by decide +kernel) rfl rfl rfl dX0_inked_46 ?_
        refine lv_iload_n G.1 G.2.1 dX0_inked_49 rfl (lv_at hl 1 rfl) ?_
        refine lv_iconst (v := nI 3) G.1 G.2.1 dX0_inked_50 (by decide) ?_
        refine gn_imul G dX0_inked_51 ?_
        refine lv_iload G.1 G.2.1 dX0_inked_52 (lv_at hl 5 rfl) ?_
        refine gn_iadd G dX0_inked_54 ?_
        refine gc_s (As := [.ref (q 13), .int (nI ((px * 3) + x1))]) (rest := [.int (nI (S 14 ((x1 * 3) + bd)))]) G.fix (mX0_read l D (q 13) cI 18 (S 13) ((px * 3) + x1) (by first | omega | assumption | exact ok6 _ | apply hq)) (va_cwS 2 G.2.2.2.2.2.1 gX0_inked_X0_read rfl rfl rfl (by decide +kernel) ⟨Nat.le_of_ble_eq_true rfl, Nat.le_of_ble_eq_true rfl⟩) rAt_blind (fun U hU hW => by rw [hU]; exact (hX.row 10 rfl).moved hW) rfl hl.1 rfl (Nat.le_of_ble_eq_true rfl) dX0_inked_55 (Nat.zero_le _) (Nat.zero_le _) (fun r hr => ?_)
        subst hr
        refine gn_imul G dX0_inked_58 ?_
        refine lv_sipush (v := nI 255) G.1 G.2.1 dX0_inked_59 (by decide) ?_
        refine gn_idiv G dX0_inked_62 (by first | omega | exact sp_b31 _ _ | exact Nat.lt_of_le_of_lt (hm _ _) (by decide) | (have h91 := hm (x1 * 3 + bd) (px * 3 + x1); have h92 := hi x1; have h93 := Nat.div_le_self (S 14 (x1 * 3 + bd) * S 13 (px * 3 + x1)) 255; omega)) (by decide) (by decide) ?_
        refine lv_istore (lv' := [(6, .int (nI (((S 14 ((x1 * 3) + bd)) * (S 13 ((px * 3) + x1))) / 255))), (0, .ref (q 0)), (1, .int (nI px)), (2, .int (nI bd)), (3, .int (nI ks)), (4, .int (nI (sp_inkTo S px bd ks x1))), (5, .int (nI x1))]) G.1 G.2.1 dX0_inked_63 hl (by decide) rfl (fun ls hl => ?_)
        refine lv_sipush (v := nI 255) G.1 G.2.1 dX0_inked_65 (by decide) ?_
        refine lv_iload G.1 G.2.1 dX0_inked_68 (lv_at hl 5 rfl) ?_
        refine lv_iload G.1 G.2.1 dX0_inked_70 (lv_at hl 0 rfl) ?_
        refine gn_iadd G dX0_inked_72 ?_
        refine gr_min G hl.1 (ix := 119) (by decide +kernel) (by decide +kernel) (by decide +kernel) (by decide +kernel) (Nat.le_of_ble_eq_true rfl) (Nat.le_of_ble_eq_true rfl) (Nat.zero_le _) (Nat.zero_le _) (by first | omega | exact sp_b31 _ _ | exact Nat.lt_of_le_of_lt (hm _ _) (by decide) | (have h91 := hm (x1 * 3 + bd) (px * 3 + x1); have h92 := hi x1; have h93 := Nat.div_le_self (S 14 (x1 * 3 + bd) * S 13 (px * 3 + x1)) 255; omega)) (by first | omega | exact sp_b31 _ _ | exact Nat.lt_of_le_of_lt (hm _ _) (by decide) | (have h91 := hm (x1 * 3 + bd) (px * 3 + x1); have h92 := hi x1; have h93 := Nat.div_le_self (S 14 (x1 * 3 + bd) * S 13 (px * 3 + x1)) 255; omega)) dX0_inked_73 ?_
        refine lv_istore (lv' := [(4, .int (nI (min 255 ((sp_inkTo S px bd ks x1) + (((S 14 ((x1 * 3) + bd)) * (S 13 ((px * 3) + x1))) / 255))))), (6, .int (nI (((S 14 ((x1 * 3) + bd)) * (S 13 ((px * 3) + x1))) / 255))), (0, .ref (q 0)), (1, .int (nI px)), (2, .int (nI bd)), (3, .int (nI ks)), (5, .int (nI x1))]) G.1 G.2.1 dX0_inked_76 hl (by decide) rfl (fun ls hl => ?_)
        refine gn_iinc (lv' := [(5, .int (nI (x1 + 1))), (4, .int (nI (min 255 ((sp_inkTo S px bd ks x1) + (((S 14 ((x1 * 3) + bd)) * (S 13 ((px * 3) + x1))) / 255))))), (6, .int (nI (((S 14 ((x1 * 3) + bd)) * (S 13 ((px * 3) + x1))) / 255))), (0, .ref (q 0)), (1, .int (nI px)), (2, .int (nI bd)), (3, .int (nI ks))]) (n := 1) G dX0_inked_78 hl (k := 6) rfl (by decide) rfl (fun ls hl => ?_)
        refine lv_goto (tgt := 17) G.1 G.2.1 dX0_inked_81 (by decide) ?_
        exact ih1 (x1 + 1) (by omega) _ (by have hb9 := sp_bit_lt ks x1; have e9 : sp_inkTo S px bd ks (x1 + 1) = min 255 ((sp_inkTo S px bd ks x1) + (((S 14 ((x1 * 3) + bd)) * (S 13 ((px * 3) + x1))) / 255)) := (by first | exact sp_ink_y (by omega) | exact sp_ink_n (by omega)); rw [e9]; exact lv_sub hl [3, 4, 5, 6, 1, 0] rfl)
  exact loop1 3 0 (by omega) _ (lv_sub hl [2, 3, 4, 5, 1, 0] rfl)
set_option maxRecDepth 100000 in
set_option maxHeartbeats 4000000 in
/-- whether a chain differs from what is kept -/
theorem mX0_differsFromKept (l : Launch) (D : va_G) (q : Nat → Nat) (cI : ClassId) (N : Nat → Nat) (S : Nat → Nat → Nat) (tr : Nat → Nat) (A : Nat → Prop) (ch : Nat) (hok : sp_ok N S) (hch : ch < 6) : Met l yX0_differsFromKept wsX0_differsFromKept { frames := 5, cells := 0, slots := 0, locals := 124 } (va_Pc [.ref (q 0), .int (nI ch)] (fun U => xAt D q cI N S tr A U U.heap)) (vp_Si (fun r => r = nI (sp_dif S ch))) 0 0 (fun _ => False) := by
  refine gc_met [.ref (q 0), .int (nI ch)] (by decide) rfl (Nat.le_of_ble_eq_true rfl) rfl ?_
  intro p e s m below meth c ls G hl hX
  have hok9 := hok
  obtain ⟨⟨ok0, ok5⟩, ok1, ok2, ok3, ok4, ok6, ok7, ok8, ok12, ok13, ok14⟩ := hok9
  have hq := fun k => @sp_vop_le k
  refine lv_iconst (v := nI 0) G.1 G.2.1 dX0_differsFromKept_0 (by decide) ?_
  refine lv_istore_n (lv' := [(2, .int (nI 0)), (0, .ref (q 0)), (1, .int (nI ch))]) G.1 G.2.1 dX0_differsFromKept_1 rfl hl (by decide) rfl (fun ls hl => ?_)
  have loop1 : ∀ (d1 x1 : Nat), x1 + d1 = 3 → sp_difTo S ch (x1 * 5) = 0 → ∀ ls : Array Slot, lv_has ls 5 [(0, .ref (q 0)), (1, .int (nI ch)), (2, .int (nI x1))] → W p l e { frames := 5, cells := 0, slots := 0, locals := 124 } s m ([.ref (q 0), .int (nI ch)] : List Value).toArray below meth c s.heap [] 0 0 (MQ below (vp_Si (fun r => r = nI (sp_dif S ch))) ([.ref (q 0), .int (nI ch)] : List Value).toArray s 0 0 (fun _ => False)) (F0 m 2 ls []) := by
    intro d1
    induction d1 with
    | zero =>
      intro x1 hd1 hv1 ls hl
      refine lv_iload_n G.1 G.2.1 dX0_differsFromKept_2 rfl (lv_at hl 2 rfl) ?_
      refine lv_iconst (v := nI 3) G.1 G.2.1 dX0_differsFromKept_3 (by decide) ?_
      refine gn_ge G (by first | omega | exact Nat.lt_of_le_of_lt (sp_pass_le hok sp_vop_le) (by decide) | exact Nat.lt_of_le_of_lt (ok8 _) (by decide)) (by first | omega | exact Nat.lt_of_le_of_lt (sp_pass_le hok sp_vop_le) (by decide) | exact Nat.lt_of_le_of_lt (ok8 _) (by decide)) (tgt := 61) dX0_differsFromKept_4 (by decide) (fun h_4 => ?_) (fun h_4 => absurd h_4 (by omega))
      refine lv_iconst (v := nI 0) G.1 G.2.1 dX0_differsFromKept_61 (by decide) ?_
      exact W.zret G.1 G.2.1 G.2.2.1 rfl (fun t ht hW => ⟨_, rfl, by show nI _ = nI _; unfold sp_dif; rw [show 15 = x1 * 5 from by omega, hv1], ht⟩) (fun q h => nomatch h) dX0_differsFromKept_62 G.2.2.2.2.2.2
    | succ d1 ih1 =>
      intro x1 hd1 hv1 ls hl
      refine lv_iload_n G.1 G.2.1 dX0_differsFromKept_2 rfl (lv_at hl 2 rfl) ?_
      refine lv_iconst (v := nI 3) G.1 G.2.1 dX0_differsFromKept_3 (by decide) ?_
      refine gn_ge G (by first | omega | exact Nat.lt_of_le_of_lt (sp_pass_le hok sp_vop_le) (by decide) | exact Nat.lt_of_le_of_lt (ok8 _) (by decide)) (by first | omega | exact Nat.lt_of_le_of_lt (sp_pass_le hok sp_vop_le) (by decide) | exact Nat.lt_of_le_of_lt (ok8 _) (by decide)) (tgt := 61) dX0_differsFromKept_4 (by decide) (fun h_4 => absurd h_4 (by omega)) (fun h_4 => ?_)
      refine lv_iconst (v := nI 0) G.1 G.2.1 dX0_differsFromKept_7 (by decide) ?_
      refine lv_istore_n (lv' := [(3, .int (nI 0)), (0, .ref (q 0)), (1, .int (nI ch)), (2, .int (nI x1))]) G.1 G.2.1 dX0_differsFromKept_8 rfl hl (by decide) rfl (fun ls hl => ?_)
      have loop2 : ∀ (d2 x2 : Nat), x2 + d2 = 5 → sp_difTo S ch (x1 * 5 + x2) = 0 → ∀ ls : Array Slot, lv_has ls 5 [(0, .ref (q 0)), (1, .int (nI ch)), (2, .int (nI x1)), (3, .int (nI x2))] → W p l e { frames := 5, cells := 0, slots := 0, locals := 124 } s m ([.ref (q 0), .int (nI ch)] : List Value).toArray below meth c s.heap [] 0 0 (MQ below (vp_Si (fun r => r = nI (sp_dif S ch))) ([.ref (q 0), .int (nI ch)] : List Value).toArray s 0 0 (fun _ => False)) (F0 m 9 ls []) := by
        intro d2
        induction d2 with
        | zero =>
          intro x2 hd2 hv2 ls hl
          refine lv_iload_n G.1 G.2.1 dX0_differsFromKept_9 rfl (lv_at hl 3 rfl) ?_
          refine lv_iconst (v := nI 5) G.1 G.2.1 dX0_differsFromKept_10 (by decide) ?_
          refine gn_ge G (by first | omega | exact Nat.lt_of_le_of_lt (sp_pass_le hok sp_vop_le) (by decide) | exact Nat.lt_of_le_of_lt (ok8 _) (by decide)) (by first | omega | exact Nat.lt_of_le_of_lt (sp_pass_le hok sp_vop_le) (by decide) | exact Nat.lt_of_le_of_lt (ok8 _) (by decide)) (tgt := 55) dX0_differsFromKept_11 (by decide) (fun h_11 => ?_) (fun h_11 => absurd h_11 (by omega))
          refine gn_iinc (lv' := [(2, .int (nI (x1 + 1))), (0, .ref (q 0)), (1, .int (nI ch)), (3, .int (nI x2))]) (n := 1) G dX0_differsFromKept_55 hl (k := 2) rfl (by decide) rfl (fun ls hl => ?_)
          refine lv_goto (tgt := 2) G.1 G.2.1 dX0_differsFromKept_58 (by decide) ?_
          exact ih1 (x1 + 1) (by omega) (by rw [show (x1 + 1) * 5 = x1 * 5 + x2 from by omega]; exact hv2) _ (lv_sub hl [1, 2, 0] rfl)
        | succ d2 ih2 =>
          intro x2 hd2 hv2 ls hl
          refine lv_iload_n G.1 G.2.1 dX0_differsFromKept_9 rfl (lv_at hl 3 rfl) ?_
          refine lv_iconst (v := nI 5) G.1 G.2.1 dX0_differsFromKept_10 (by decide) ?_
          refine gn_ge G (by first | omega | exact Nat.lt_of_le_of_lt (sp_pass_le hok sp_vop_le) (by decide) | exact Nat.lt_of_le_of_lt (ok8 _) (by decide)) (by first | omega | exact Nat.lt_of_le_of_lt (sp_pass_le hok sp_vop_le) (by decide) | exact Nat.lt_of_le_of_lt (ok8 _) (by decide)) (tgt := 55) dX0_differsFromKept_11 (by decide) (fun h_11 => absurd h_11 (by omega)) (fun h_11 => ?_)
          refine lv_aload_n G.1 G.2.1 dX0_differsFromKept_14 rfl (lv_at hl 0 rfl) ?_
          refine gx_get G hX (by decide +kernel) 8 (by decide) (by decide +kernel) rfl rfl rfl dX0_differsFromKept_15 ?_
          refine lv_iload_n G.1 G.2.1 dX0_differsFromKept_18 rfl (lv_at hl 1 rfl) ?_
          refine lv_iconst (v := nI 3) G.1 G.2.1 dX0_differsFromKept_19 (by decide) ?_
          refine gn_imul G dX0_differsFromKept_20 ?_
          refine lv_iload_n G.1 G.2.1 dX0_differsFromKept_21 rfl (lv_at hl 2 rfl) ?_
          refine gn_iadd G dX0_differsFromKept_22 ?_
          refine lv_iconst (v := nI 5) G.1 G.2.1 dX0_differsFromKept_23 (by decide) ?_
          refine gn_imul G dX0_differsFromKept_24 ?_
          refine lv_iload_n G.1 G.2.1 dX0_differsFromKept_25 rfl (lv_at hl 3 rfl) ?_
          refine gn_iadd G dX0_differsFromKept_26 ?_
          refine gc_s (As := [.ref (q 8), .int (nI ((((ch * 3) + x1) * 5) + x2))]) (rest := []) G.fix (mX0_read l D (q 8) cI 90 (S 8) ((((ch * 3) + x1) * 5) + x2) (by first | omega | assumption | exact ok6 _ | apply hq)) (va_cwS 2 G.2.2.2.2.2.1 gX0_differsFromKept_X0_read rfl rfl rfl (by decide +kernel) ⟨Nat.le_of_ble_eq_true rfl, Nat.le_of_ble_eq_true rfl⟩) rAt_blind (fun U hU hW => by rw [hU]; exact (hX.row 7 rfl).moved hW) rfl hl.1 rfl (Nat.le_of_ble_eq_true rfl) dX0_differsFromKept_27 (Nat.zero_le _) (Nat.zero_le _) (fun r hr => ?_)
          subst hr
          refine lv_istore (lv' := [(4, .int (nI (S 8 ((((ch * 3) + x1) * 5) + x2)))), (0, .ref (q 0)), (1, .int (nI ch)), (2, .int (nI x1)), (3, .int (nI x2))]) G.1 G.2.1 dX0_differsFromKept_30 hl (by decide) rfl (fun ls hl => ?_)
          refine lv_aload_n G.1 G.2.1 dX0_differsFromKept_32 rfl (lv_at hl 1 rfl) ?_
          refine lv_iload_n G.1 G.2.1 dX0_differsFromKept_33 rfl (lv_at hl 2 rfl) ?_
          refine lv_iload_n G.1 G.2.1 dX0_differsFromKept_34 rfl (lv_at hl 3 rfl) ?_
          refine lv_iload_n G.1 G.2.1 dX0_differsFromKept_35 rfl (lv_at hl 4 rfl) ?_
          refine gc_s (As := [.int (nI x2)]) (rest := [.int (nI x1), .int (nI ch), .ref (q 0)]) G.fix (mX0_valueOfPlace l x2 (by omega)) (va_cwS 1 G.2.2.2.2.2.1 gX0_differsFromKept_X0_valueOfPlace rfl rfl rfl (by decide +kernel) ⟨Nat.le_of_ble_eq_true rfl, Nat.le_of_ble_eq_true rfl⟩) gc_blindT (fun _ _ _ => trivial) rfl hl.1 rfl (Nat.le_of_ble_eq_true rfl) dX0_differsFromKept_36 (Nat.zero_le _) (Nat.zero_le _) (fun r hr => ?_)
          subst hr
          refine gc_v (As := [.int (nI ch), .int (nI x1), .int (nI (sp_vop x2))]) (rest := []) G.fix (mX0_pass l D q cI N S tr A ch x1 (sp_vop x2) hok (by first | omega | assumption | exact ok6 _ | apply hq) (by first | omega | assumption | exact ok6 _ | apply hq) (by first | omega | assumption | exact ok6 _ | apply hq)) (cwV 3 G.2.2.2.2.2.1 gX0_differsFromKept_X0_pass rfl rfl rfl (by decide +kernel) ⟨Nat.le_of_ble_eq_true rfl, Nat.le_of_ble_eq_true rfl⟩) xAt_blind (va_recv hX.2.1 hX.1 (ci := 0) (q0 := 0) rfl rfl) (fun U hU hW => by rw [hU]; exact hX.moved hW) rfl hl.1 rfl (Nat.le_of_ble_eq_true rfl) dX0_differsFromKept_39 (Nat.zero_le _) (Nat.zero_le _) (fun r hr => ?_)
          subst hr
          refine lv_iload G.1 G.2.1 dX0_differsFromKept_42 (lv_at hl 0 rfl) ?_
          refine gn_eq G (by first | omega | exact Nat.lt_of_le_of_lt (sp_pass_le hok sp_vop_le) (by decide) | exact Nat.lt_of_le_of_lt (ok8 _) (by decide)) (by first | omega | exact Nat.lt_of_le_of_lt (sp_pass_le hok sp_vop_le) (by decide) | exact Nat.lt_of_le_of_lt (ok8 _) (by decide)) (tgt := 49) dX0_differsFromKept_44 (by decide) (fun h_44 => ?_) (fun h_44 => ?_)
          · refine gn_iinc (lv' := [(3, .int (nI (x2 + 1))), (4, .int (nI (S 8 ((((ch * 3) + x1) * 5) + x2)))), (0, .ref (q 0)), (1, .int (nI ch)), (2, .int (nI x1))]) (n := 1) G dX0_differsFromKept_49 hl (k := 4) rfl (by decide) rfl (fun ls hl => ?_)
            refine lv_goto (tgt := 9) G.1 G.2.1 dX0_differsFromKept_52 (by decide) ?_
            exact ih2 (x2 + 1) (by omega) (sp_dif_e hv2 (by omega) h_44) _ (lv_sub hl [2, 3, 4, 0] rfl)
          · refine lv_iconst (v := nI 1) G.1 G.2.1 dX0_differsFromKept_47 (by decide) ?_
            exact W.zret G.1 G.2.1 G.2.2.1 rfl (fun t ht hW => ⟨_, rfl, by show nI _ = nI _; rw [sp_dif_d hv2 (by omega) (by omega) h_44], ht⟩) (fun q h => nomatch h) dX0_differsFromKept_48 G.2.2.2.2.2.2
      exact loop2 5 0 (by omega) (hv1) _ (lv_sub hl [1, 2, 3, 0] rfl)
  exact loop1 3 0 (by omega) (rfl) _ (lv_sub hl [1, 2, 0] rfl)
set_option maxRecDepth 100000 in
set_option maxHeartbeats 4000000 in
/-- the chains that are joined and stale -/
theorem mX0_stale (l : Launch) (D : va_G) (q : Nat → Nat) (cI : ClassId) (N : Nat → Nat) (S : Nat → Nat → Nat) (tr : Nat → Nat) (A : Nat → Prop) (hok : sp_ok N S) (hN : N 9 < 64) : Met l yX0_stale wsX0_stale { frames := 6, cells := 0, slots := 0, locals := 148 } (va_Pc [.ref (q 0)] (fun U => xAt D q cI N S tr A U U.heap)) (vp_Si (fun r => r = nI (sp_stale N S))) 0 0 (fun _ => False) := by
  refine gc_met [.ref (q 0)] (by decide) rfl (Nat.le_of_ble_eq_true rfl) rfl ?_
  intro p e s m below meth c ls G hl hX
  have hok9 := hok
  obtain ⟨⟨ok0, ok5⟩, ok1, ok2, ok3, ok4, ok6, ok7, ok8, ok12, ok13, ok14⟩ := hok9
  refine lv_iconst (v := nI 0) G.1 G.2.1 dX0_stale_0 (by decide) ?_
  refine lv_istore_n (lv' := [(1, .int (nI 0)), (0, .ref (q 0))]) G.1 G.2.1 dX0_stale_1 rfl hl (by decide) rfl (fun ls hl => ?_)
  refine lv_iconst (v := nI 0) G.1 G.2.1 dX0_stale_2 (by decide) ?_
  refine lv_istore_n (lv' := [(2, .int (nI 0)), (1, .int (nI 0)), (0, .ref (q 0))]) G.1 G.2.1 dX0_stale_3 rfl hl (by decide) rfl (fun ls hl => ?_)
  have loop1 : ∀ (d1 x1 : Nat), x1 + d1 = 6 → ∀ ls : Array Slot, lv_has ls 3 [(0, .ref (q 0)), (1, .int (nI (sp_staleTo N S x1))), (2, .int (nI x1))] → W p l e { frames := 6, cells := 0, slots := 0, locals := 148 } s m ([.ref (q 0)] : List Value).toArray below meth c s.heap [] 0 0 (MQ below (vp_Si (fun r => r = nI (sp_stale N S))) ([.ref (q 0)] : List Value).toArray s 0 0 (fun _ => False)) (F0 m 4 ls []) := by
    intro d1
    induction d1 with
    | zero =>
      intro x1 hd1 ls hl
      refine lv_iload_n G.1 G.2.1 dX0_stale_4 rfl (lv_at hl 2 rfl) ?_
      refine lv_bipush (v := nI 6) G.1 G.2.1 dX0_stale_5 (by decide) ?_
      refine gn_ge G (by omega) (by omega) (tgt := 41) dX0_stale_7 (by decide) (fun h_7 => ?_) (fun h_7 => absurd h_7 (by omega))
      refine lv_iload_n G.1 G.2.1 dX0_stale_41 rfl (lv_at hl 1 rfl) ?_
      exact W.iret G.1 G.2.1 G.2.2.1 (fun t ht hW => ⟨_, rfl, by show nI _ = nI _; unfold sp_stale; rw [show x1 = 6 from by omega], ht⟩) (fun q h => nomatch h) dX0_stale_42 G.2.2.2.2.2.2
    | succ d1 ih1 =>
      intro x1 hd1 ls hl
      refine lv_iload_n G.1 G.2.1 dX0_stale_4 rfl (lv_at hl 2 rfl) ?_
      refine lv_bipush (v := nI 6) G.1 G.2.1 dX0_stale_5 (by decide) ?_
      refine gn_ge G (by omega) (by omega) (tgt := 41) dX0_stale_7 (by decide) (fun h_7 => absurd h_7 (by omega)) (fun h_7 => ?_)
      refine lv_aload_n G.1 G.2.1 dX0_stale_10 rfl (lv_at hl 0 rfl) ?_
      refine gx_get G hX (by decide +kernel) 9 (by decide) (by decide +kernel) rfl rfl rfl dX0_stale_11 ?_
      refine lv_iload_n G.1 G.2.1 dX0_stale_14 rfl (lv_at hl 2 rfl) ?_
      refine gc_s (As := [.int (nI (N 9)), .int (nI x1)]) (rest := []) G.fix (mX0_hasBit l (N 9) x1 (by first | omega | assumption | exact ok6 _ | apply hq) (by omega)) (va_cwS 2 G.2.2.2.2.2.1 gX0_stale_X0_hasBit rfl rfl rfl (by decide +kernel) ⟨Nat.le_of_ble_eq_true rfl, Nat.le_of_ble_eq_true rfl⟩) gc_blindT (fun _ _ _ => trivial) rfl hl.1 rfl (Nat.le_of_ble_eq_true rfl) dX0_stale_15 (Nat.zero_le _) (Nat.zero_le _) (fun r hr => ?_)
      subst hr
      refine gn_eqz G (by exact sp_b31 _ _) (tgt := 35) dX0_stale_18 (by decide) (fun h_18 => ?_) (fun h_18 => ?_)
      · refine gn_iinc (lv' := [(2, .int (nI (x1 + 1))), (0, .ref (q 0)), (1, .int (nI (sp_staleTo N S x1)))]) (n := 1) G dX0_stale_35 hl (k := 2) rfl (by decide) rfl (fun ls hl => ?_)
        refine lv_goto (tgt := 4) G.1 G.2.1 dX0_stale_38 (by decide) ?_
        exact ih1 (x1 + 1) (by omega) _ (by have hb9 := sp_bit_lt (N 9) x1; have hd9 := sp_dif_lt S x1; have e9 : sp_staleTo N S (x1 + 1) = sp_staleTo N S x1 := (by first | exact sp_stale_y (by omega) | exact sp_stale_n (by omega)); rw [e9]; exact lv_sub hl [1, 2, 0] rfl)
      · refine lv_aload_n G.1 G.2.1 dX0_stale_21 rfl (lv_at hl 0 rfl) ?_
        refine lv_iload_n G.1 G.2.1 dX0_stale_22 rfl (lv_at hl 2 rfl) ?_
        refine gc_v (As := [.int (nI x1)]) (rest := []) G.fix (mX0_differsFromKept l D q cI N S tr A x1 hok (by first | omega | assumption | exact ok6 _ | apply hq)) (cwV 1 G.2.2.2.2.2.1 gX0_stale_X0_differsFromKept rfl rfl rfl (by decide +kernel) ⟨Nat.le_of_ble_eq_true rfl, Nat.le_of_ble_eq_true rfl⟩) xAt_blind (va_recv hX.2.1 hX.1 (ci := 0) (q0 := 0) rfl rfl) (fun U hU hW => by rw [hU]; exact hX.moved hW) rfl hl.1 rfl (Nat.le_of_ble_eq_true rfl) dX0_stale_23 (Nat.zero_le _) (Nat.zero_le _) (fun r hr => ?_)
        subst hr
        refine gn_eqz G (by exact sp_d31 _ _) (tgt := 35) dX0_stale_26 (by decide) (fun h_26 => ?_) (fun h_26 => ?_)
        · refine gn_iinc (lv' := [(2, .int (nI (x1 + 1))), (0, .ref (q 0)), (1, .int (nI (sp_staleTo N S x1)))]) (n := 1) G dX0_stale_35 hl (k := 2) rfl (by decide) rfl (fun ls hl => ?_)
          refine lv_goto (tgt := 4) G.1 G.2.1 dX0_stale_38 (by decide) ?_
          exact ih1 (x1 + 1) (by omega) _ (by have hb9 := sp_bit_lt (N 9) x1; have hd9 := sp_dif_lt S x1; have e9 : sp_staleTo N S (x1 + 1) = sp_staleTo N S x1 := (by first | exact sp_stale_y (by omega) | exact sp_stale_n (by omega)); rw [e9]; exact lv_sub hl [1, 2, 0] rfl)
        · refine lv_iload_n G.1 G.2.1 dX0_stale_29 rfl (lv_at hl 1 rfl) ?_
          refine lv_iconst (v := nI 1) G.1 G.2.1 dX0_stale_30 (by decide) ?_
          refine lv_iload_n G.1 G.2.1 dX0_stale_31 rfl (lv_at hl 2 rfl) ?_
          refine gn_ishl G dX0_stale_32 (by omega) ?_
          refine gn_ior G dX0_stale_33 ?_
          refine lv_istore_n (lv' := [(1, .int (nI ((sp_staleTo N S x1) ||| (2 ^ x1)))), (0, .ref (q 0)), (2, .int (nI x1))]) G.1 G.2.1 dX0_stale_34 rfl hl (by decide) rfl (fun ls hl => ?_)
          refine gn_iinc (lv' := [(2, .int (nI (x1 + 1))), (1, .int (nI ((sp_staleTo N S x1) ||| (2 ^ x1)))), (0, .ref (q 0))]) (n := 1) G dX0_stale_35 hl (k := 2) rfl (by decide) rfl (fun ls hl => ?_)
          refine lv_goto (tgt := 4) G.1 G.2.1 dX0_stale_38 (by decide) ?_
          exact ih1 (x1 + 1) (by omega) _ (by have hb9 := sp_bit_lt (N 9) x1; have hd9 := sp_dif_lt S x1; have e9 : sp_staleTo N S (x1 + 1) = (sp_staleTo N S x1) ||| (2 ^ x1) := (by first | exact sp_stale_y (by omega) | exact sp_stale_n (by omega)); rw [e9]; exact lv_sub hl [2, 1, 0] rfl)
  exact loop1 6 0 (by omega) _ (lv_sub hl [2, 1, 0] rfl)
