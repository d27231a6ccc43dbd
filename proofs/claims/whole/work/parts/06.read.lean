/-! the class's own methods that only read -/
set_option maxRecDepth 100000 in
set_option maxHeartbeats 4000000 in
/-- the value between two places of a row -/
theorem mX0_between (l : Launch) (D : va_G) (a : Nat) (cI : ClassId) (n : Nat) (F : Nat → Nat) (o v : Nat) (ho : o + 4 < n) (hv : v ≤ 255) (hF : F (o + v / 64) ≤ 255 ∧ F (o + v / 64 + 1) ≤ 255) (hn : n < 2 ^ 31 := by decide) : Met l yX0_between wsX0_between { frames := 1, cells := 0, slots := 0, locals := 22 } (va_Pc [.ref a, .int (nI o), .int (nI v)] (fun U => rAt D a cI n F U U.heap)) (vp_Si (fun r => r = nI (sp_btw F o v))) 0 0 (fun _ => False) := by
  refine gc_met [.ref a, .int (nI o), .int (nI v)] (by decide) rfl (Nat.le_of_ble_eq_true rfl) rfl ?_
  intro p e s m below meth c ls G hl hX
  have hFa := hF.1
  have hFb := hF.2
  refine lv_iload_n G.1 G.2.1 dX0_between_0 rfl (lv_at hl 2 rfl) ?_
  refine lv_bipush (v := nI 64) G.1 G.2.1 dX0_between_1 (by decide) ?_
  refine gn_idiv G dX0_between_3 (by omega) (by decide) (by decide) ?_
  refine lv_istore_n (lv' := [(3, .int (nI (v / 64))), (0, .ref a), (1, .int (nI o)), (2, .int (nI v))]) G.1 G.2.1 dX0_between_4 rfl hl (by decide) rfl (fun ls hl => ?_)
  refine lv_aload_n G.1 G.2.1 dX0_between_5 rfl (lv_at hl 1 rfl) ?_
  refine lv_iload_n G.1 G.2.1 dX0_between_6 rfl (lv_at hl 2 rfl) ?_
  refine lv_iload_n G.1 G.2.1 dX0_between_7 rfl (lv_at hl 0 rfl) ?_
  refine gn_iadd G dX0_between_8 ?_
  refine gc_s (As := [.ref a, .int (nI (o + (v / 64)))]) (rest := []) G.fix (mX0_read l D a cI n F (o + (v / 64)) (by omega) hn) (va_cwS 2 G.2.2.2.2.2.1 gX0_between_X0_read rfl rfl rfl (by decide +kernel) ⟨Nat.le_of_ble_eq_true rfl, Nat.le_of_ble_eq_true rfl⟩) rAt_blind (fun U hU hW => by rw [hU]; exact hX.moved hW) rfl hl.1 rfl (Nat.le_of_ble_eq_true rfl) dX0_between_9 (Nat.zero_le _) (Nat.zero_le _) (fun r hr => ?_)
  subst hr
  refine lv_istore (lv' := [(4, .int (nI (F (o + (v / 64))))), (3, .int (nI (v / 64))), (0, .ref a), (1, .int (nI o)), (2, .int (nI v))]) G.1 G.2.1 dX0_between_12 hl (by decide) rfl (fun ls hl => ?_)
  refine lv_aload_n G.1 G.2.1 dX0_between_14 rfl (lv_at hl 2 rfl) ?_
  refine lv_iload_n G.1 G.2.1 dX0_between_15 rfl (lv_at hl 3 rfl) ?_
  refine lv_iload_n G.1 G.2.1 dX0_between_16 rfl (lv_at hl 1 rfl) ?_
  refine gn_iadd G dX0_between_17 ?_
  refine lv_iconst (v := nI 1) G.1 G.2.1 dX0_between_18 (by decide) ?_
  refine gn_iadd G dX0_between_19 ?_
  refine gc_s (As := [.ref a, .int (nI ((o + (v / 64)) + 1))]) (rest := []) G.fix (mX0_read l D a cI n F ((o + (v / 64)) + 1) (by omega) hn) (va_cwS 2 G.2.2.2.2.2.1 gX0_between_X0_read rfl rfl rfl (by decide +kernel) ⟨Nat.le_of_ble_eq_true rfl, Nat.le_of_ble_eq_true rfl⟩) rAt_blind (fun U hU hW => by rw [hU]; exact hX.moved hW) rfl hl.1 rfl (Nat.le_of_ble_eq_true rfl) dX0_between_20 (Nat.zero_le _) (Nat.zero_le _) (fun r hr => ?_)
  subst hr
  refine lv_istore (lv' := [(5, .int (nI (F ((o + (v / 64)) + 1)))), (4, .int (nI (F (o + (v / 64))))), (3, .int (nI (v / 64))), (0, .ref a), (1, .int (nI o)), (2, .int (nI v))]) G.1 G.2.1 dX0_between_23 hl (by decide) rfl (fun ls hl => ?_)
  refine lv_iload_n G.1 G.2.1 dX0_between_25 rfl (lv_at hl 2 rfl) ?_
  refine lv_iconst (v := nI 3) G.1 G.2.1 dX0_between_26 (by decide) ?_
  refine gn_ne G (by omega) (by omega) (tgt := 35) dX0_between_27 (by decide) (fun h_27 => ?_) (fun h_27 => ?_)
  · refine lv_bipush (v := nI 64) G.1 G.2.1 dX0_between_35 (by decide) ?_
    refine lv_istore (lv' := [(6, .int (nI 64)), (5, .int (nI (F ((o + (v / 64)) + 1)))), (4, .int (nI (F (o + (v / 64))))), (3, .int (nI (v / 64))), (0, .ref a), (1, .int (nI o)), (2, .int (nI v))]) G.1 G.2.1 dX0_between_37 hl (by decide) rfl (fun ls hl => ?_)
    refine lv_iload G.1 G.2.1 dX0_between_39 (lv_at hl 2 rfl) ?_
    refine lv_iload G.1 G.2.1 dX0_between_41 (lv_at hl 1 rfl) ?_
    refine lv_iload G.1 G.2.1 dX0_between_43 (lv_at hl 2 rfl) ?_
    refine lv_isub G.1 G.2.1 dX0_between_45 ?_
    refine lv_iload_n G.1 G.2.1 dX0_between_46 rfl (lv_at hl 6 rfl) ?_
    refine lv_iload_n G.1 G.2.1 dX0_between_47 rfl (lv_at hl 3 rfl) ?_
    refine lv_bipush (v := nI 64) G.1 G.2.1 dX0_between_48 (by decide) ?_
    refine gn_imul G dX0_between_50 ?_
    refine gn_isub G dX0_between_51 (by omega) ?_
    refine lv_imul G.1 G.2.1 dX0_between_52 ?_
    refine lv_topi (fun z ez => ?_)
    refine lv_iload G.1 G.2.1 dX0_between_53 (lv_at hl 0 rfl) ?_
    have hw : 64 = sp_w (v / 64) := by unfold sp_w; first | rw [if_pos h_27] | rw [if_neg h_27]
    have hC := hFa
    have hDD := hFb
    generalize F (o + v / 64) = C at *
    generalize F (o + v / 64 + 1) = E9 at *
    have ht := sp_far hv
    have hzt : z.toInt = ((E9 : Int) - C) * ((v - v / 64 * 64 : Nat) : Int) ∧ -16320 ≤ z.toInt ∧ z.toInt ≤ 16320 := by rw [ez]; exact gp_prod (by omega) (by omega) (by have := sp_w_le (v / 64); omega)
    refine gc_s (As := [.int z, .int (nI 64)]) (rest := [.int (nI C)]) G.fix (mJ9_floorDiv l z (nI 64) (by omega) (by rw [nI_toInt (by decide)]; omega)) (va_cwS 2 G.2.2.2.2.2.1 gX0_between_J9_floorDiv_7cf53 rfl rfl rfl (by decide +kernel) ⟨Nat.le_of_ble_eq_true rfl, Nat.le_of_ble_eq_true rfl⟩) gc_blindT (fun _ _ _ => trivial) rfl hl.1 rfl (Nat.le_of_ble_eq_true rfl) dX0_between_55 (Nat.zero_le _) (Nat.zero_le _) (fun r hr => ?_)
    refine lv_iadd G.1 G.2.1 dX0_between_58 ?_
    exact W.iret G.1 G.2.1 G.2.2.1 (fun t ht hW => ⟨_, rfl, gp_btwR (w := 64) hw hr hzt.1 (by decide) (by rw [hw]; exact sp_far hv) hC hDD, ht⟩) (fun q h => nomatch h) dX0_between_59 G.2.2.2.2.2.2
  · refine lv_bipush (v := nI 63) G.1 G.2.1 dX0_between_30 (by decide) ?_
    refine lv_goto (tgt := 37) G.1 G.2.1 dX0_between_32 (by decide) ?_
    refine lv_istore (lv' := [(6, .int (nI 63)), (5, .int (nI (F ((o + (v / 64)) + 1)))), (4, .int (nI (F (o + (v / 64))))), (3, .int (nI (v / 64))), (0, .ref a), (1, .int (nI o)), (2, .int (nI v))]) G.1 G.2.1 dX0_between_37 hl (by decide) rfl (fun ls hl => ?_)
    refine lv_iload G.1 G.2.1 dX0_between_39 (lv_at hl 2 rfl) ?_
    refine lv_iload G.1 G.2.1 dX0_between_41 (lv_at hl 1 rfl) ?_
    refine lv_iload G.1 G.2.1 dX0_between_43 (lv_at hl 2 rfl) ?_
    refine lv_isub G.1 G.2.1 dX0_between_45 ?_
    refine lv_iload_n G.1 G.2.1 dX0_between_46 rfl (lv_at hl 6 rfl) ?_
    refine lv_iload_n G.1 G.2.1 dX0_between_47 rfl (lv_at hl 3 rfl) ?_
    refine lv_bipush (v := nI 64) G.1 G.2.1 dX0_between_48 (by decide) ?_
    refine gn_imul G dX0_between_50 ?_
    refine gn_isub G dX0_between_51 (by omega) ?_
    refine lv_imul G.1 G.2.1 dX0_between_52 ?_
    refine lv_topi (fun z ez => ?_)
    refine lv_iload G.1 G.2.1 dX0_between_53 (lv_at hl 0 rfl) ?_
    have hw : 63 = sp_w (v / 64) := by unfold sp_w; first | rw [if_pos h_27] | rw [if_neg h_27]
    have hC := hFa
    have hDD := hFb
    generalize F (o + v / 64) = C at *
    generalize F (o + v / 64 + 1) = E9 at *
    have ht := sp_far hv
    have hzt : z.toInt = ((E9 : Int) - C) * ((v - v / 64 * 64 : Nat) : Int) ∧ -16320 ≤ z.toInt ∧ z.toInt ≤ 16320 := by rw [ez]; exact gp_prod (by omega) (by omega) (by have := sp_w_le (v / 64); omega)
    refine gc_s (As := [.int z, .int (nI 63)]) (rest := [.int (nI C)]) G.fix (mJ9_floorDiv l z (nI 63) (by omega) (by rw [nI_toInt (by decide)]; omega)) (va_cwS 2 G.2.2.2.2.2.1 gX0_between_J9_floorDiv_7cf53 rfl rfl rfl (by decide +kernel) ⟨Nat.le_of_ble_eq_true rfl, Nat.le_of_ble_eq_true rfl⟩) gc_blindT (fun _ _ _ => trivial) rfl hl.1 rfl (Nat.le_of_ble_eq_true rfl) dX0_between_55 (Nat.zero_le _) (Nat.zero_le _) (fun r hr => ?_)
    refine lv_iadd G.1 G.2.1 dX0_between_58 ?_
    exact W.iret G.1 G.2.1 G.2.2.1 (fun t ht hW => ⟨_, rfl, gp_btwR (w := 63) hw hr hzt.1 (by decide) (by rw [hw]; exact sp_far hv) hC hDD, ht⟩) (fun q h => nomatch h) dX0_between_59 G.2.2.2.2.2.2
set_option maxRecDepth 100000 in
set_option maxHeartbeats 4000000 in
/-- the value of a curve -/
theorem mX0_bent (l : Launch) (D : va_G) (q : Nat → Nat) (cI : ClassId) (N : Nat → Nat) (S : Nat → Nat → Nat) (tr : Nat → Nat) (A : Nat → Prop) (pf bd vl : Nat) (hok : sp_ok N S) (hpf : pf < 8) (hbd : bd < 3) (hvl : vl ≤ 255) : Met l yX0_bent wsX0_bent { frames := 2, cells := 0, slots := 0, locals := 48 } (va_Pc [.ref (q 0), .int (nI pf), .int (nI bd), .int (nI vl)] (fun U => xAt D q cI N S tr A U U.heap)) (vp_Si (fun r => r = nI (sp_curve S pf bd vl))) 0 0 (fun _ => False) := by
  refine gc_met [.ref (q 0), .int (nI pf), .int (nI bd), .int (nI vl)] (by decide) rfl (Nat.le_of_ble_eq_true rfl) rfl ?_
  intro p e s m below meth c ls G hl hX
  have hok9 := hok
  obtain ⟨⟨ok0, ok5⟩, ok1, ok2, ok3, ok4, ok6, ok7, ok8, ok12, ok13, ok14⟩ := hok9
  have hb2 : S 1 ((pf * 3 + bd) * 5 + vl / 64) ≤ 255 ∧ S 1 ((pf * 3 + bd) * 5 + vl / 64 + 1) ≤ 255 := ⟨ok1 _, ok1 _⟩
  refine lv_aload_n G.1 G.2.1 dX0_bent_0 rfl (lv_at hl 0 rfl) ?_
  refine gx_get G hX (by decide +kernel) 1 (by decide) (by decide +kernel) rfl rfl rfl dX0_bent_1 ?_
  refine lv_iload_n G.1 G.2.1 dX0_bent_4 rfl (lv_at hl 1 rfl) ?_
  refine lv_iconst (v := nI 3) G.1 G.2.1 dX0_bent_5 (by decide) ?_
  refine gn_imul G dX0_bent_6 ?_
  refine lv_iload_n G.1 G.2.1 dX0_bent_7 rfl (lv_at hl 2 rfl) ?_
  refine gn_iadd G dX0_bent_8 ?_
  refine lv_iconst (v := nI 5) G.1 G.2.1 dX0_bent_9 (by decide) ?_
  refine gn_imul G dX0_bent_10 ?_
  refine lv_iload_n G.1 G.2.1 dX0_bent_11 rfl (lv_at hl 3 rfl) ?_
  refine gc_s (As := [.ref (q 1), .int (nI (((pf * 3) + bd) * 5)), .int (nI vl)]) (rest := []) G.fix (mX0_between l D (q 1) cI 120 (S 1) (((pf * 3) + bd) * 5) vl (by first | omega | assumption) (by first | omega | assumption) (by first | assumption | (intro j; omega))) (va_cwS 3 G.2.2.2.2.2.1 gX0_bent_X0_between rfl rfl rfl (by decide +kernel) ⟨Nat.le_of_ble_eq_true rfl, Nat.le_of_ble_eq_true rfl⟩) rAt_blind (fun U hU hW => by rw [hU]; exact (hX.row 1 rfl).moved hW) rfl hl.1 rfl (Nat.le_of_ble_eq_true rfl) dX0_bent_12 (Nat.zero_le _) (Nat.zero_le _) (fun r hr => ?_)
  subst hr
  exact W.iret G.1 G.2.1 G.2.2.1 (fun t ht hW => ⟨_, rfl, rfl, ht⟩) (fun q h => nomatch h) dX0_bent_15 G.2.2.2.2.2.2
set_option maxRecDepth 100000 in
set_option maxHeartbeats 4000000 in
/-- what a profile makes of a value -/
theorem mX0_take (l : Launch) (D : va_G) (q : Nat → Nat) (cI : ClassId) (N : Nat → Nat) (S : Nat → Nat → Nat) (tr : Nat → Nat) (A : Nat → Prop) (pf bd vl : Nat) (hok : sp_ok N S) (hpf : pf < 8) (hbd : bd < 3) (hvl : vl ≤ 255) : Met l yX0_take wsX0_take { frames := 3, cells := 0, slots := 0, locals := 71 } (va_Pc [.ref (q 0), .int (nI pf), .int (nI bd), .int (nI vl)] (fun U => xAt D q cI N S tr A U U.heap)) (vp_Si (fun r => r = nI (sp_tk S pf bd vl))) 0 0 (fun _ => False) := by
  refine gc_met [.ref (q 0), .int (nI pf), .int (nI bd), .int (nI vl)] (by decide) rfl (Nat.le_of_ble_eq_true rfl) rfl ?_
  intro p e s m below meth c ls G hl hX
  have hok9 := hok
  obtain ⟨⟨ok0, ok5⟩, ok1, ok2, ok3, ok4, ok6, ok7, ok8, ok12, ok13, ok14⟩ := hok9
  have h2 := ok2 (pf * 3 + bd)
  have h3 := ok3 (pf * 3 + bd)
  have h4 := ok4 pf
  have hc := sp_curve_le (p := pf) (b := bd) hok hvl
  have hmul : sp_curve S pf bd vl * (S 3 (pf * 3 + bd) - S 2 (pf * 3 + bd)) ≤ 255 * 255 := Nat.mul_le_mul hc (by omega)
  refine lv_aload_n G.1 G.2.1 dX0_take_0 rfl (lv_at hl 0 rfl) ?_
  refine gx_get G hX (by decide +kernel) 2 (by decide) (by decide +kernel) rfl rfl rfl dX0_take_1 ?_
  refine lv_iload_n G.1 G.2.1 dX0_take_4 rfl (lv_at hl 1 rfl) ?_
  refine lv_iconst (v := nI 3) G.1 G.2.1 dX0_take_5 (by decide) ?_
  refine gn_imul G dX0_take_6 ?_
  refine lv_iload_n G.1 G.2.1 dX0_take_7 rfl (lv_at hl 2 rfl) ?_
  refine gn_iadd G dX0_take_8 ?_
  refine gc_s (As := [.ref (q 2), .int (nI ((pf * 3) + bd))]) (rest := []) G.fix (mX0_read l D (q 2) cI 24 (S 2) ((pf * 3) + bd) (by first | omega | assumption)) (va_cwS 2 G.2.2.2.2.2.1 gX0_take_X0_read rfl rfl rfl (by decide +kernel) ⟨Nat.le_of_ble_eq_true rfl, Nat.le_of_ble_eq_true rfl⟩) rAt_blind (fun U hU hW => by rw [hU]; exact (hX.row 2 rfl).moved hW) rfl hl.1 rfl (Nat.le_of_ble_eq_true rfl) dX0_take_9 (Nat.zero_le _) (Nat.zero_le _) (fun r hr => ?_)
  subst hr
  refine lv_istore (lv' := [(4, .int (nI (S 2 ((pf * 3) + bd)))), (0, .ref (q 0)), (1, .int (nI pf)), (2, .int (nI bd)), (3, .int (nI vl))]) G.1 G.2.1 dX0_take_12 hl (by decide) rfl (fun ls hl => ?_)
  refine lv_aload_n G.1 G.2.1 dX0_take_14 rfl (lv_at hl 1 rfl) ?_
  refine gx_get G hX (by decide +kernel) 3 (by decide) (by decide +kernel) rfl rfl rfl dX0_take_15 ?_
  refine lv_iload_n G.1 G.2.1 dX0_take_18 rfl (lv_at hl 2 rfl) ?_
  refine lv_iconst (v := nI 3) G.1 G.2.1 dX0_take_19 (by decide) ?_
  refine gn_imul G dX0_take_20 ?_
  refine lv_iload_n G.1 G.2.1 dX0_take_21 rfl (lv_at hl 3 rfl) ?_
  refine gn_iadd G dX0_take_22 ?_
  refine gc_s (As := [.ref (q 3), .int (nI ((pf * 3) + bd))]) (rest := []) G.fix (mX0_read l D (q 3) cI 24 (S 3) ((pf * 3) + bd) (by first | omega | assumption)) (va_cwS 2 G.2.2.2.2.2.1 gX0_take_X0_read rfl rfl rfl (by decide +kernel) ⟨Nat.le_of_ble_eq_true rfl, Nat.le_of_ble_eq_true rfl⟩) rAt_blind (fun U hU hW => by rw [hU]; exact (hX.row 3 rfl).moved hW) rfl hl.1 rfl (Nat.le_of_ble_eq_true rfl) dX0_take_23 (Nat.zero_le _) (Nat.zero_le _) (fun r hr => ?_)
  subst hr
  refine lv_istore (lv' := [(5, .int (nI (S 3 ((pf * 3) + bd)))), (4, .int (nI (S 2 ((pf * 3) + bd)))), (0, .ref (q 0)), (1, .int (nI pf)), (2, .int (nI bd)), (3, .int (nI vl))]) G.1 G.2.1 dX0_take_26 hl (by decide) rfl (fun ls hl => ?_)
  refine lv_aload_n G.1 G.2.1 dX0_take_28 rfl (lv_at hl 2 rfl) ?_
  refine lv_iload_n G.1 G.2.1 dX0_take_29 rfl (lv_at hl 3 rfl) ?_
  refine lv_iload_n G.1 G.2.1 dX0_take_30 rfl (lv_at hl 4 rfl) ?_
  refine lv_iload_n G.1 G.2.1 dX0_take_31 rfl (lv_at hl 5 rfl) ?_
  refine gc_v (As := [.int (nI pf), .int (nI bd), .int (nI vl)]) (rest := []) G.fix (mX0_bent l D q cI N S tr A pf bd vl hok (by first | omega | assumption) (by first | omega | assumption) (by first | omega | assumption)) (cwV 3 G.2.2.2.2.2.1 gX0_take_X0_bent rfl rfl rfl (by decide +kernel) ⟨Nat.le_of_ble_eq_true rfl, Nat.le_of_ble_eq_true rfl⟩) xAt_blind (va_recv hX.2.1 hX.1 (ci := 0) (q0 := 0) rfl rfl) (fun U hU hW => by rw [hU]; exact hX.moved hW) rfl hl.1 rfl (Nat.le_of_ble_eq_true rfl) dX0_take_32 (Nat.zero_le _) (Nat.zero_le _) (fun r hr => ?_)
  subst hr
  refine lv_istore (lv' := [(6, .int (nI (sp_curve S pf bd vl))), (5, .int (nI (S 3 ((pf * 3) + bd)))), (4, .int (nI (S 2 ((pf * 3) + bd)))), (0, .ref (q 0)), (1, .int (nI pf)), (2, .int (nI bd)), (3, .int (nI vl))]) G.1 G.2.1 dX0_take_35 hl (by decide) rfl (fun ls hl => ?_)
  refine lv_aload_n G.1 G.2.1 dX0_take_37 rfl (lv_at hl 3 rfl) ?_
  refine gx_get G hX (by decide +kernel) 4 (by decide) (by decide +kernel) rfl rfl rfl dX0_take_38 ?_
  refine lv_iload_n G.1 G.2.1 dX0_take_41 rfl (lv_at hl 4 rfl) ?_
  refine gc_s (As := [.ref (q 4), .int (nI pf)]) (rest := []) G.fix (mX0_read l D (q 4) cI 8 (S 4) (pf) (by first | omega | assumption)) (va_cwS 2 G.2.2.2.2.2.1 gX0_take_X0_read rfl rfl rfl (by decide +kernel) ⟨Nat.le_of_ble_eq_true rfl, Nat.le_of_ble_eq_true rfl⟩) rAt_blind (fun U hU hW => by rw [hU]; exact (hX.row 4 rfl).moved hW) rfl hl.1 rfl (Nat.le_of_ble_eq_true rfl) dX0_take_42 (Nat.zero_le _) (Nat.zero_le _) (fun r hr => ?_)
  subst hr
  refine lv_istore (lv' := [(7, .int (nI (S 4 pf))), (6, .int (nI (sp_curve S pf bd vl))), (5, .int (nI (S 3 ((pf * 3) + bd)))), (4, .int (nI (S 2 ((pf * 3) + bd)))), (0, .ref (q 0)), (1, .int (nI pf)), (2, .int (nI bd)), (3, .int (nI vl))]) G.1 G.2.1 dX0_take_45 hl (by decide) rfl (fun ls hl => ?_)
  refine lv_iload G.1 G.2.1 dX0_take_47 (lv_at hl 0 rfl) ?_
  refine lv_iconst (v := nI 1) G.1 G.2.1 dX0_take_49 (by decide) ?_
  refine gn_ne G (by omega) (by omega) (tgt := 69) dX0_take_50 (by decide) (fun h_50 => ?_) (fun h_50 => ?_)
  · refine lv_iload G.1 G.2.1 dX0_take_69 (lv_at hl 0 rfl) ?_
    refine lv_iconst (v := nI 2) G.1 G.2.1 dX0_take_71 (by decide) ?_
    refine gn_ne G (by omega) (by omega) (tgt := 86) dX0_take_72 (by decide) (fun h_72 => ?_) (fun h_72 => ?_)
    · refine lv_iload G.1 G.2.1 dX0_take_86 (lv_at hl 3 rfl) ?_
      refine lv_iload G.1 G.2.1 dX0_take_88 (lv_at hl 2 rfl) ?_
      refine lv_iload G.1 G.2.1 dX0_take_90 (lv_at hl 1 rfl) ?_
      refine gr_min G hl.1 (ix := 119) (by decide +kernel) (by decide +kernel) (by decide +kernel) (by decide +kernel) (Nat.le_of_ble_eq_true rfl) (Nat.le_of_ble_eq_true rfl) (Nat.zero_le _) (Nat.zero_le _) (by omega) (by omega) dX0_take_92 ?_
      refine gr_max G hl.1 (ix := 125) (by decide +kernel) (by decide +kernel) (by decide +kernel) (by decide +kernel) (Nat.le_of_ble_eq_true rfl) (Nat.le_of_ble_eq_true rfl) (Nat.zero_le _) (Nat.zero_le _) (by omega) (by omega) dX0_take_95 ?_
      exact W.iret G.1 G.2.1 G.2.2.1 (fun t ht hW => ⟨_, rfl, by show nI _ = nI _; unfold sp_tk sp_take; rw [if_neg h_50, if_neg h_72], ht⟩) (fun q h => nomatch h) dX0_take_98 G.2.2.2.2.2.2
    · refine lv_iload G.1 G.2.1 dX0_take_75 (lv_at hl 1 rfl) ?_
      refine lv_iload G.1 G.2.1 dX0_take_77 (lv_at hl 3 rfl) ?_
      refine lv_iload G.1 G.2.1 dX0_take_79 (lv_at hl 2 rfl) ?_
      refine gc_s (As := [.int (nI (sp_curve S pf bd vl)), .int (nI (S 2 ((pf * 3) + bd))), .int (nI (S 3 ((pf * 3) + bd)))]) (rest := []) G.fix (mX0_fold l (sp_curve S pf bd vl) (S 2 (pf * 3 + bd)) (S 3 (pf * 3 + bd)) (by omega) (by omega) (by omega)) (va_cwS 3 G.2.2.2.2.2.1 gX0_take_X0_fold rfl rfl rfl (by decide +kernel) ⟨Nat.le_of_ble_eq_true rfl, Nat.le_of_ble_eq_true rfl⟩) gc_blindT (fun _ _ _ => trivial) rfl hl.1 rfl (Nat.le_of_ble_eq_true rfl) dX0_take_81 (Nat.zero_le _) (Nat.zero_le _) (fun z hz => ?_)
      refine lv_istore (lv' := [(6, .int z), (7, .int (nI (S 4 pf))), (5, .int (nI (S 3 ((pf * 3) + bd)))), (4, .int (nI (S 2 ((pf * 3) + bd)))), (0, .ref (q 0)), (1, .int (nI pf)), (2, .int (nI bd)), (3, .int (nI vl))]) G.1 G.2.1 dX0_take_84 hl (by decide) rfl (fun ls hl => ?_)
      refine lv_iload G.1 G.2.1 dX0_take_86 (lv_at hl 3 rfl) ?_
      refine lv_iload G.1 G.2.1 dX0_take_88 (lv_at hl 2 rfl) ?_
      refine lv_iload G.1 G.2.1 dX0_take_90 (lv_at hl 0 rfl) ?_
      refine va_mmin G.1 G.2.1 (G.2.2.2.1.trans hl.1.symm) G.2.2.2.2.1 (G.2.2.2.2.2.1 (.methodLink RX0 119 Lib.Math.min.name) (by decide +kernel)) (G.2.2.2.2.2.1 _ (by decide +kernel)) (G.2.2.2.2.2.1 _ (by decide +kernel)) (G.2.2.2.2.2.1 _ (by decide +kernel)) (Nat.le_of_ble_eq_true rfl) (Nat.le_of_ble_eq_true rfl) (Nat.zero_le _) (Nat.zero_le _) dX0_take_92 ?_
      refine lv_topi (fun y ey => ?_)
      refine va_mmax G.1 G.2.1 (G.2.2.2.1.trans hl.1.symm) G.2.2.2.2.1 (G.2.2.2.2.2.1 (.methodLink RX0 125 Lib.Math.max.name) (by decide +kernel)) (G.2.2.2.2.2.1 _ (by decide +kernel)) (G.2.2.2.2.2.1 _ (by decide +kernel)) (G.2.2.2.2.2.1 _ (by decide +kernel)) (Nat.le_of_ble_eq_true rfl) (Nat.le_of_ble_eq_true rfl) (Nat.zero_le _) (Nat.zero_le _) dX0_take_95 ?_
      exact W.iret G.1 G.2.1 G.2.2.1 (fun t ht hW => ⟨_, rfl, by show (if nI _ < y then y else nI _) = nI _; unfold sp_tk sp_take; rw [if_neg h_50, if_pos h_72]; exact gp_clamp h2 h3 hc hz ey, ht⟩) (fun q h => nomatch h) dX0_take_98 G.2.2.2.2.2.2
  · refine lv_iload G.1 G.2.1 dX0_take_53 (lv_at hl 3 rfl) ?_
    refine lv_iload G.1 G.2.1 dX0_take_55 (lv_at hl 1 rfl) ?_
    refine lv_iload G.1 G.2.1 dX0_take_57 (lv_at hl 2 rfl) ?_
    refine lv_iload G.1 G.2.1 dX0_take_59 (lv_at hl 3 rfl) ?_
    refine gn_isub G dX0_take_61 (by omega) ?_
    refine gn_imul G dX0_take_62 ?_
    refine lv_sipush (v := nI 255) G.1 G.2.1 dX0_take_63 (by decide) ?_
    refine gn_idiv G dX0_take_66 (by omega) (by decide) (by decide) ?_
    refine gn_iadd G dX0_take_67 ?_
    exact W.iret G.1 G.2.1 G.2.2.1 (fun t ht hW => ⟨_, rfl, by show nI _ = nI _; unfold sp_tk sp_take; rw [if_pos h_50], ht⟩) (fun q h => nomatch h) dX0_take_68 G.2.2.2.2.2.2
set_option maxRecDepth 100000 in
set_option maxHeartbeats 4000000 in
/-- a value through a chain -/
theorem mX0_pass (l : Launch) (D : va_G) (q : Nat → Nat) (cI : ClassId) (N : Nat → Nat) (S : Nat → Nat → Nat) (tr : Nat → Nat) (A : Nat → Prop) (ch bd vl : Nat) (hok : sp_ok N S) (hch : ch < 6) (hbd : bd < 3) (hvl : vl ≤ 255) : Met l yX0_pass wsX0_pass { frames := 4, cells := 0, slots := 0, locals := 98 } (va_Pc [.ref (q 0), .int (nI ch), .int (nI bd), .int (nI vl)] (fun U => xAt D q cI N S tr A U U.heap)) (vp_Si (fun r => r = nI (sp_pass S ch bd vl))) 0 0 (fun _ => False) := by
  refine gc_met [.ref (q 0), .int (nI ch), .int (nI bd), .int (nI vl)] (by decide) rfl (Nat.le_of_ble_eq_true rfl) rfl ?_
  intro p e s m below meth c ls G hl hX
  have hok9 := hok
  obtain ⟨⟨ok0, ok5⟩, ok1, ok2, ok3, ok4, ok6, ok7, ok8, ok12, ok13, ok14⟩ := hok9
  have h7 := ok7 ch
  have hq := fun k => sp_passTo_le (ch := ch) (b := bd) hok hvl k
  have h6 := fun k => ok6 (ch * 6 + k)
  refine lv_aload_n G.1 G.2.1 dX0_pass_0 rfl (lv_at hl 0 rfl) ?_
  refine gx_get G hX (by decide +kernel) 7 (by decide) (by decide +kernel) rfl rfl rfl dX0_pass_1 ?_
  refine lv_iload_n G.1 G.2.1 dX0_pass_4 rfl (lv_at hl 1 rfl) ?_
  refine gc_s (As := [.ref (q 7), .int (nI ch)]) (rest := []) G.fix (mX0_read l D (q 7) cI 6 (S 7) (ch) (by first | omega | assumption)) (va_cwS 2 G.2.2.2.2.2.1 gX0_pass_X0_read rfl rfl rfl (by decide +kernel) ⟨Nat.le_of_ble_eq_true rfl, Nat.le_of_ble_eq_true rfl⟩) rAt_blind (fun U hU hW => by rw [hU]; exact (hX.row 6 rfl).moved hW) rfl hl.1 rfl (Nat.le_of_ble_eq_true rfl) dX0_pass_5 (Nat.zero_le _) (Nat.zero_le _) (fun r hr => ?_)
  subst hr
  refine lv_istore (lv' := [(4, .int (nI (S 7 ch))), (0, .ref (q 0)), (1, .int (nI ch)), (2, .int (nI bd)), (3, .int (nI vl))]) G.1 G.2.1 dX0_pass_8 hl (by decide) rfl (fun ls hl => ?_)
  refine lv_iload_n G.1 G.2.1 dX0_pass_10 rfl (lv_at hl 4 rfl) ?_
  refine lv_istore (lv' := [(5, .int (nI vl)), (4, .int (nI (S 7 ch))), (0, .ref (q 0)), (1, .int (nI ch)), (2, .int (nI bd)), (3, .int (nI vl))]) G.1 G.2.1 dX0_pass_11 hl (by decide) rfl (fun ls hl => ?_)
  refine lv_iconst (v := nI 0) G.1 G.2.1 dX0_pass_13 (by decide) ?_
  refine lv_istore (lv' := [(6, .int (nI 0)), (5, .int (nI vl)), (4, .int (nI (S 7 ch))), (0, .ref (q 0)), (1, .int (nI ch)), (2, .int (nI bd)), (3, .int (nI vl))]) G.1 G.2.1 dX0_pass_14 hl (by decide) rfl (fun ls hl => ?_)
  have loop1 : ∀ (d1 x1 : Nat), x1 + d1 = S 7 ch → ∀ ls : Array Slot, lv_has ls 7 [(0, .ref (q 0)), (1, .int (nI ch)), (2, .int (nI bd)), (4, .int (nI (S 7 ch))), (5, .int (nI (sp_passTo S ch bd vl x1))), (6, .int (nI x1))] → W p l e { frames := 4, cells := 0, slots := 0, locals := 98 } s m ([.ref (q 0), .int (nI ch), .int (nI bd), .int (nI vl)] : List Value).toArray below meth c s.heap [] 0 0 (MQ below (vp_Si (fun r => r = nI (sp_pass S ch bd vl))) ([.ref (q 0), .int (nI ch), .int (nI bd), .int (nI vl)] : List Value).toArray s 0 0 (fun _ => False)) (F0 m 16 ls []) := by
    intro d1
    induction d1 with
    | zero =>
      intro x1 hd1 ls hl
      refine lv_iload G.1 G.2.1 dX0_pass_16 (lv_at hl 5 rfl) ?_
      refine lv_iload G.1 G.2.1 dX0_pass_18 (lv_at hl 3 rfl) ?_
      refine gn_ge G (by omega) (by omega) (tgt := 52) dX0_pass_20 (by decide) (fun h_20 => ?_) (fun h_20 => absurd h_20 (by omega))
      refine lv_iload G.1 G.2.1 dX0_pass_52 (lv_at hl 4 rfl) ?_
      exact W.iret G.1 G.2.1 G.2.2.1 (fun t ht hW => ⟨_, rfl, by show nI _ = nI _; unfold sp_pass; rw [show x1 = S 7 ch from by omega], ht⟩) (fun q h => nomatch h) dX0_pass_54 G.2.2.2.2.2.2
    | succ d1 ih1 =>
      intro x1 hd1 ls hl
      refine lv_iload G.1 G.2.1 dX0_pass_16 (lv_at hl 5 rfl) ?_
      refine lv_iload G.1 G.2.1 dX0_pass_18 (lv_at hl 3 rfl) ?_
      refine gn_ge G (by omega) (by omega) (tgt := 52) dX0_pass_20 (by decide) (fun h_20 => absurd h_20 (by omega)) (fun h_20 => ?_)
      refine lv_aload_n G.1 G.2.1 dX0_pass_23 rfl (lv_at hl 0 rfl) ?_
      refine lv_aload_n G.1 G.2.1 dX0_pass_24 rfl (lv_at hl 0 rfl) ?_
      refine gx_get G hX (by decide +kernel) 6 (by decide) (by decide +kernel) rfl rfl rfl dX0_pass_25 ?_
      refine lv_iload_n G.1 G.2.1 dX0_pass_28 rfl (lv_at hl 1 rfl) ?_
      refine lv_bipush (v := nI 6) G.1 G.2.1 dX0_pass_29 (by decide) ?_
      refine gn_imul G dX0_pass_31 ?_
      refine lv_iload G.1 G.2.1 dX0_pass_32 (lv_at hl 5 rfl) ?_
      refine gn_iadd G dX0_pass_34 ?_
      refine gc_s (As := [.ref (q 6), .int (nI ((ch * 6) + x1))]) (rest := [.ref (q 0)]) G.fix (mX0_read l D (q 6) cI 36 (S 6) ((ch * 6) + x1) (by first | omega | assumption)) (va_cwS 2 G.2.2.2.2.2.1 gX0_pass_X0_read rfl rfl rfl (by decide +kernel) ⟨Nat.le_of_ble_eq_true rfl, Nat.le_of_ble_eq_true rfl⟩) rAt_blind (fun U hU hW => by rw [hU]; exact (hX.row 5 rfl).moved hW) rfl hl.1 rfl (Nat.le_of_ble_eq_true rfl) dX0_pass_35 (Nat.zero_le _) (Nat.zero_le _) (fun r hr => ?_)
      subst hr
      refine lv_iload_n G.1 G.2.1 dX0_pass_38 rfl (lv_at hl 2 rfl) ?_
      refine lv_iload G.1 G.2.1 dX0_pass_39 (lv_at hl 4 rfl) ?_
      refine gc_v (As := [.int (nI (S 6 ((ch * 6) + x1))), .int (nI bd), .int (nI (sp_passTo S ch bd vl x1))]) (rest := []) G.fix (mX0_take l D q cI N S tr A (S 6 ((ch * 6) + x1)) bd (sp_passTo S ch bd vl x1) hok (by first | omega | assumption) (by first | omega | assumption) (by first | omega | assumption)) (cwV 3 G.2.2.2.2.2.1 gX0_pass_X0_take rfl rfl rfl (by decide +kernel) ⟨Nat.le_of_ble_eq_true rfl, Nat.le_of_ble_eq_true rfl⟩) xAt_blind (va_recv hX.2.1 hX.1 (ci := 0) (q0 := 0) rfl rfl) (fun U hU hW => by rw [hU]; exact hX.moved hW) rfl hl.1 rfl (Nat.le_of_ble_eq_true rfl) dX0_pass_41 (Nat.zero_le _) (Nat.zero_le _) (fun r hr => ?_)
      subst hr
      refine lv_istore (lv' := [(5, .int (nI (sp_tk S (S 6 ((ch * 6) + x1)) bd (sp_passTo S ch bd vl x1)))), (0, .ref (q 0)), (1, .int (nI ch)), (2, .int (nI bd)), (4, .int (nI (S 7 ch))), (6, .int (nI x1))]) G.1 G.2.1 dX0_pass_44 hl (by decide) rfl (fun ls hl => ?_)
      refine gn_iinc (lv' := [(6, .int (nI (x1 + 1))), (5, .int (nI (sp_tk S (S 6 ((ch * 6) + x1)) bd (sp_passTo S ch bd vl x1)))), (0, .ref (q 0)), (1, .int (nI ch)), (2, .int (nI bd)), (4, .int (nI (S 7 ch)))]) (n := 1) G dX0_pass_46 hl (k := 5) rfl (by decide) rfl (fun ls hl => ?_)
      refine lv_goto (tgt := 16) G.1 G.2.1 dX0_pass_49 (by decide) ?_
      exact ih1 (x1 + 1) (by omega) _ (lv_sub hl [2, 3, 4, 5, 1, 0] rfl)
  exact loop1 S 7 ch 0 (by omega) _ (lv_sub hl [3, 4, 5, 2, 1, 0] rfl)
