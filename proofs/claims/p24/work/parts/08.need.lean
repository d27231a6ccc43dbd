/-! the class's checks: each returns with nothing changed, or throws -/
set_option maxRecDepth 100000 in
set_option maxHeartbeats 4000000 in
/-- a check: needBand -/
theorem mX0_needBand (l : Launch) (hst : l.stackTraces = false) (b : Int32) : vx_Met l yX0_needBand wsX0_needBand { frames := 6, cells := 1, slots := 6, locals := 82 } (va_Pc [.int b] (fun U => gZ (fun _ => False) U U.heap)) (va_Sv (fun _ => gb b 3 = true)) (gX (fun E => E = gIO ∧ gb b 3 = false)) 1 6 (fun _ => False) := by
  refine gc_vxmet [.int b] (by decide) rfl (Nat.le_of_ble_eq_true rfl) rfl ?_
  intro p e s m below meth c ls G hx0 hl hZ0
  have hS : va_S (fun _ => False) s.heap s.heap [] := va_S.rf
  refine lv_iload_n G.1 G.2.1 dX0_needBand_0 rfl (lv_at hl 0 rfl) ?_
  refine lv_if_lt (tgt := 9) G.1 G.2.1 dX0_needBand_1 (by decide) (fun h_1 => ?_) (fun h_1 => ?_)
  · exact gx_throw (text := "no such band") G hx0 hst (by decide +kernel) (by decide +kernel) (by decide +kernel) (by decide +kernel) gx_not_IO gx_good_IO (by decide +kernel) hZ0 hS hl.1 dX0_needBand_9 dX0_needBand_12 dX0_needBand_13 dX0_needBand_15 dX0_needBand_18 (Nat.le_of_ble_eq_true rfl) (Nat.le_of_ble_eq_true rfl) (Nat.le_of_ble_eq_true rfl) (Nat.le_of_ble_eq_true rfl) (fun t _ hz hk => ⟨⟨rfl, by first | exact gb_neg (by assumption) | exact gb_nlt (by decide) (by assumption) | exact gi_nle (by assumption)⟩, hz, hk⟩) (fun _ h => nomatch h) (by decide) (by decide)
  · refine lv_iload_n G.1 G.2.1 dX0_needBand_4 rfl (lv_at hl 0 rfl) ?_
    refine lv_iconst (v := nI 3) G.1 G.2.1 dX0_needBand_5 (by decide) ?_
    refine lv_icmp_lt (tgt := 19) G.1 G.2.1 dX0_needBand_6 (by decide) (fun h_6 => ?_) (fun h_6 => ?_)
    · exact vx_ret (W.widen (k := 1) (n := 6) (Nat.zero_le _) (Nat.zero_le _) (W.vret G.1 G.2.1 G.2.2.1 (fun t ht hW => ⟨rfl, by first | exact gb_in (by decide) (by assumption) (by assumption) | exact gi_le (by assumption) (by assumption), ht⟩) (fun q h => nomatch h) dX0_needBand_19 G.2.2.2.2.2.2))
    · exact gx_throw (text := "no such band") G hx0 hst (by decide +kernel) (by decide +kernel) (by decide +kernel) (by decide +kernel) gx_not_IO gx_good_IO (by decide +kernel) hZ0 hS hl.1 dX0_needBand_9 dX0_needBand_12 dX0_needBand_13 dX0_needBand_15 dX0_needBand_18 (Nat.le_of_ble_eq_true rfl) (Nat.le_of_ble_eq_true rfl) (Nat.le_of_ble_eq_true rfl) (Nat.le_of_ble_eq_true rfl) (fun t _ hz hk => ⟨⟨rfl, by first | exact gb_neg (by assumption) | exact gb_nlt (by decide) (by assumption) | exact gi_nle (by assumption)⟩, hz, hk⟩) (fun _ h => nomatch h) (by decide) (by decide)
set_option maxRecDepth 100000 in
set_option maxHeartbeats 4000000 in
/-- a check: needPixel -/
theorem mX0_needPixel (l : Launch) (hst : l.stackTraces = false) (b : Int32) : vx_Met l yX0_needPixel wsX0_needPixel { frames := 6, cells := 1, slots := 6, locals := 82 } (va_Pc [.int b] (fun U => gZ (fun _ => False) U U.heap)) (va_Sv (fun _ => gb b 6 = true)) (gX (fun E => E = gIO ∧ gb b 6 = false)) 1 6 (fun _ => False) := by
  refine gc_vxmet [.int b] (by decide) rfl (Nat.le_of_ble_eq_true rfl) rfl ?_
  intro p e s m below meth c ls G hx0 hl hZ0
  have hS : va_S (fun _ => False) s.heap s.heap [] := va_S.rf
  refine lv_iload_n G.1 G.2.1 dX0_needPixel_0 rfl (lv_at hl 0 rfl) ?_
  refine lv_if_lt (tgt := 10) G.1 G.2.1 dX0_needPixel_1 (by decide) (fun h_1 => ?_) (fun h_1 => ?_)
  · exact gx_throw (text := "no such pixel") G hx0 hst (by decide +kernel) (by decide +kernel) (by decide +kernel) (by decide +kernel) gx_not_IO gx_good_IO (by decide +kernel) hZ0 hS hl.1 dX0_needPixel_10 dX0_needPixel_13 dX0_needPixel_14 dX0_needPixel_16 dX0_needPixel_19 (Nat.le_of_ble_eq_true rfl) (Nat.le_of_ble_eq_true rfl) (Nat.le_of_ble_eq_true rfl) (Nat.le_of_ble_eq_true rfl) (fun t _ hz hk => ⟨⟨rfl, by first | exact gb_neg (by assumption) | exact gb_nlt (by decide) (by assumption) | exact gi_nle (by assumption)⟩, hz, hk⟩) (fun _ h => nomatch h) (by decide) (by decide)
  · refine lv_iload_n G.1 G.2.1 dX0_needPixel_4 rfl (lv_at hl 0 rfl) ?_
    refine lv_bipush (v := nI 6) G.1 G.2.1 dX0_needPixel_5 (by decide) ?_
    refine lv_icmp_lt (tgt := 20) G.1 G.2.1 dX0_needPixel_7 (by decide) (fun h_7 => ?_) (fun h_7 => ?_)
    · exact vx_ret (W.widen (k := 1) (n := 6) (Nat.zero_le _) (Nat.zero_le _) (W.vret G.1 G.2.1 G.2.2.1 (fun t ht hW => ⟨rfl, by first | exact gb_in (by decide) (by assumption) (by assumption) | exact gi_le (by assumption) (by assumption), ht⟩) (fun q h => nomatch h) dX0_needPixel_20 G.2.2.2.2.2.2))
    · exact gx_throw (text := "no such pixel") G hx0 hst (by decide +kernel) (by decide +kernel) (by decide +kernel) (by decide +kernel) gx_not_IO gx_good_IO (by decide +kernel) hZ0 hS hl.1 dX0_needPixel_10 dX0_needPixel_13 dX0_needPixel_14 dX0_needPixel_16 dX0_needPixel_19 (Nat.le_of_ble_eq_true rfl) (Nat.le_of_ble_eq_true rfl) (Nat.le_of_ble_eq_true rfl) (Nat.le_of_ble_eq_true rfl) (fun t _ hz hk => ⟨⟨rfl, by first | exact gb_neg (by assumption) | exact gb_nlt (by decide) (by assumption) | exact gi_nle (by assumption)⟩, hz, hk⟩) (fun _ h => nomatch h) (by decide) (by decide)
set_option maxRecDepth 100000 in
set_option maxHeartbeats 4000000 in
/-- a check: needInk -/
theorem mX0_needInk (l : Launch) (hst : l.stackTraces = false) (b : Int32) : vx_Met l yX0_needInk wsX0_needInk { frames := 6, cells := 1, slots := 6, locals := 82 } (va_Pc [.int b] (fun U => gZ (fun _ => False) U U.heap)) (va_Sv (fun _ => gb b 3 = true)) (gX (fun E => E = gIO ∧ gb b 3 = false)) 1 6 (fun _ => False) := by
  refine gc_vxmet [.int b] (by decide) rfl (Nat.le_of_ble_eq_true rfl) rfl ?_
  intro p e s m below meth c ls G hx0 hl hZ0
  have hS : va_S (fun _ => False) s.heap s.heap [] := va_S.rf
  refine lv_iload_n G.1 G.2.1 dX0_needInk_0 rfl (lv_at hl 0 rfl) ?_
  refine lv_if_lt (tgt := 9) G.1 G.2.1 dX0_needInk_1 (by decide) (fun h_1 => ?_) (fun h_1 => ?_)
  · exact gx_throw (text := "no such ink") G hx0 hst (by decide +kernel) (by decide +kernel) (by decide +kernel) (by decide +kernel) gx_not_IO gx_good_IO (by decide +kernel) hZ0 hS hl.1 dX0_needInk_9 dX0_needInk_12 dX0_needInk_13 dX0_needInk_15 dX0_needInk_18 (Nat.le_of_ble_eq_true rfl) (Nat.le_of_ble_eq_true rfl) (Nat.le_of_ble_eq_true rfl) (Nat.le_of_ble_eq_true rfl) (fun t _ hz hk => ⟨⟨rfl, by first | exact gb_neg (by assumption) | exact gb_nlt (by decide) (by assumption) | exact gi_nle (by assumption)⟩, hz, hk⟩) (fun _ h => nomatch h) (by decide) (by decide)
  · refine lv_iload_n G.1 G.2.1 dX0_needInk_4 rfl (lv_at hl 0 rfl) ?_
    refine lv_iconst (v := nI 3) G.1 G.2.1 dX0_needInk_5 (by decide) ?_
    refine lv_icmp_lt (tgt := 19) G.1 G.2.1 dX0_needInk_6 (by decide) (fun h_6 => ?_) (fun h_6 => ?_)
    · exact vx_ret (W.widen (k := 1) (n := 6) (Nat.zero_le _) (Nat.zero_le _) (W.vret G.1 G.2.1 G.2.2.1 (fun t ht hW => ⟨rfl, by first | exact gb_in (by decide) (by assumption) (by assumption) | exact gi_le (by assumption) (by assumption), ht⟩) (fun q h => nomatch h) dX0_needInk_19 G.2.2.2.2.2.2))
    · exact gx_throw (text := "no such ink") G hx0 hst (by decide +kernel) (by decide +kernel) (by decide +kernel) (by decide +kernel) gx_not_IO gx_good_IO (by decide +kernel) hZ0 hS hl.1 dX0_needInk_9 dX0_needInk_12 dX0_needInk_13 dX0_needInk_15 dX0_needInk_18 (Nat.le_of_ble_eq_true rfl) (Nat.le_of_ble_eq_true rfl) (Nat.le_of_ble_eq_true rfl) (Nat.le_of_ble_eq_true rfl) (fun t _ hz hk => ⟨⟨rfl, by first | exact gb_neg (by assumption) | exact gb_nlt (by decide) (by assumption) | exact gi_nle (by assumption)⟩, hz, hk⟩) (fun _ h => nomatch h) (by decide) (by decide)
set_option maxRecDepth 100000 in
set_option maxHeartbeats 4000000 in
/-- a check: needValue -/
theorem mX0_needValue (l : Launch) (hst : l.stackTraces = false) (b : Int32) : vx_Met l yX0_needValue wsX0_needValue { frames := 6, cells := 1, slots := 6, locals := 82 } (va_Pc [.int b] (fun U => gZ (fun _ => False) U U.heap)) (va_Sv (fun _ => gb b 256 = true)) (gX (fun E => E = gIA ∧ gb b 256 = false)) 1 6 (fun _ => False) := by
  refine gc_vxmet [.int b] (by decide) rfl (Nat.le_of_ble_eq_true rfl) rfl ?_
  intro p e s m below meth c ls G hx0 hl hZ0
  have hS : va_S (fun _ => False) s.heap s.heap [] := va_S.rf
  refine lv_iload_n G.1 G.2.1 dX0_needValue_0 rfl (lv_at hl 0 rfl) ?_
  refine lv_if_lt (tgt := 11) G.1 G.2.1 dX0_needValue_1 (by decide) (fun h_1 => ?_) (fun h_1 => ?_)
  · exact gx_throw (text := "out of 0 to 255") G hx0 hst (by decide +kernel) (by decide +kernel) (by decide +kernel) (by decide +kernel) gx_not_IA gx_good_IA (by decide +kernel) hZ0 hS hl.1 dX0_needValue_11 dX0_needValue_14 dX0_needValue_15 dX0_needValue_17 dX0_needValue_20 (Nat.le_of_ble_eq_true rfl) (Nat.le_of_ble_eq_true rfl) (Nat.le_of_ble_eq_true rfl) (Nat.le_of_ble_eq_true rfl) (fun t _ hz hk => ⟨⟨rfl, by first | exact gb_neg (by assumption) | exact gb_nlt (by decide) (by assumption) | exact gi_nle (by assumption)⟩, hz, hk⟩) (fun _ h => nomatch h) (by decide) (by decide)
  · refine lv_iload_n G.1 G.2.1 dX0_needValue_4 rfl (lv_at hl 0 rfl) ?_
    refine lv_sipush (v := nI 255) G.1 G.2.1 dX0_needValue_5 (by decide) ?_
    refine lv_icmp_le (tgt := 21) G.1 G.2.1 dX0_needValue_8 (by decide) (fun h_8 => ?_) (fun h_8 => ?_)
    · exact vx_ret (W.widen (k := 1) (n := 6) (Nat.zero_le _) (Nat.zero_le _) (W.vret G.1 G.2.1 G.2.2.1 (fun t ht hW => ⟨rfl, by first | exact gb_in (by decide) (by assumption) (by assumption) | exact gi_le (by assumption) (by assumption), ht⟩) (fun q h => nomatch h) dX0_needValue_21 G.2.2.2.2.2.2))
    · exact gx_throw (text := "out of 0 to 255") G hx0 hst (by decide +kernel) (by decide +kernel) (by decide +kernel) (by decide +kernel) gx_not_IA gx_good_IA (by decide +kernel) hZ0 hS hl.1 dX0_needValue_11 dX0_needValue_14 dX0_needValue_15 dX0_needValue_17 dX0_needValue_20 (Nat.le_of_ble_eq_true rfl) (Nat.le_of_ble_eq_true rfl) (Nat.le_of_ble_eq_true rfl) (Nat.le_of_ble_eq_true rfl) (fun t _ hz hk => ⟨⟨rfl, by first | exact gb_neg (by assumption) | exact gb_nlt (by decide) (by assumption) | exact gi_nle (by assumption)⟩, hz, hk⟩) (fun _ h => nomatch h) (by decide) (by decide)
set_option maxRecDepth 100000 in
set_option maxHeartbeats 4000000 in
/-- a check: needProfile -/
theorem mX0_needProfile (l : Launch) (hst : l.stackTraces = false) (D : va_G) (q : Nat → Nat) (cI : ClassId) (N : Nat → Nat) (S : Nat → Nat → Nat) (tr : Nat → Nat) (A : Nat → Prop) (hok : sp_ok N S) (b : Int32) : vx_Met l yX0_needProfile wsX0_needProfile { frames := 6, cells := 1, slots := 6, locals := 82 } (va_Pc [.ref (q 0), .int b] (fun U => xAt D q cI N S tr A U U.heap)) (va_Sv (fun _ => gb b (N 0) = true)) (gX (fun E => E = gIO ∧ gb b (N 0) = false)) 1 6 (fun _ => False) := by
  refine gc_vxmet [.ref (q 0), .int b] (by decide) rfl (Nat.le_of_ble_eq_true rfl) rfl ?_
  intro p e s m below meth c ls G hx0 hl hX
  have hZ0 := hX.2.2.2
  have hS : va_S A s.heap s.heap [] := va_S.rf
  have hn1 := hok.1.1
  have hn2 := hok.1.2
  refine lv_iload_n G.1 G.2.1 dX0_needProfile_0 rfl (lv_at hl 1 rfl) ?_
  refine lv_if_lt (tgt := 12) G.1 G.2.1 dX0_needProfile_1 (by decide) (fun h_1 => ?_) (fun h_1 => ?_)
  · exact gx_throw (text := "no such profile") G hx0 hst (by decide +kernel) (by decide +kernel) (by decide +kernel) (by decide +kernel) gx_not_IO gx_good_IO (by decide +kernel) hZ0 hS hl.1 dX0_needProfile_12 dX0_needProfile_15 dX0_needProfile_16 dX0_needProfile_18 dX0_needProfile_21 (Nat.le_of_ble_eq_true rfl) (Nat.le_of_ble_eq_true rfl) (Nat.le_of_ble_eq_true rfl) (Nat.le_of_ble_eq_true rfl) (fun t _ hz hk => ⟨⟨rfl, by first | exact gb_neg (by assumption) | exact gb_nlt (by omega) (by assumption)⟩, hz, hk⟩) (fun _ h => nomatch h) (by decide) (by decide)
  · refine lv_iload_n G.1 G.2.1 dX0_needProfile_4 rfl (lv_at hl 1 rfl) ?_
    refine lv_aload_n G.1 G.2.1 dX0_needProfile_5 rfl (lv_at hl 0 rfl) ?_
    refine gx_get G hX (by decide +kernel) 0 (by decide) (by decide +kernel) rfl rfl rfl dX0_needProfile_6 ?_
    refine lv_icmp_lt (tgt := 22) G.1 G.2.1 dX0_needProfile_9 (by decide) (fun h_9 => ?_) (fun h_9 => ?_)
    · exact vx_ret (W.widen (k := 1) (n := 6) (Nat.zero_le _) (Nat.zero_le _) (W.vret G.1 G.2.1 G.2.2.1 (fun t ht hW => ⟨rfl, gb_in (by omega) (by assumption) (by assumption), ht⟩) (fun q h => nomatch h) dX0_needProfile_22 G.2.2.2.2.2.2))
    · exact gx_throw (text := "no such profile") G hx0 hst (by decide +kernel) (by decide +kernel) (by decide +kernel) (by decide +kernel) gx_not_IO gx_good_IO (by decide +kernel) hZ0 hS hl.1 dX0_needProfile_12 dX0_needProfile_15 dX0_needProfile_16 dX0_needProfile_18 dX0_needProfile_21 (Nat.le_of_ble_eq_true rfl) (Nat.le_of_ble_eq_true rfl) (Nat.le_of_ble_eq_true rfl) (Nat.le_of_ble_eq_true rfl) (fun t _ hz hk => ⟨⟨rfl, by first | exact gb_neg (by assumption) | exact gb_nlt (by omega) (by assumption)⟩, hz, hk⟩) (fun _ h => nomatch h) (by decide) (by decide)
set_option maxRecDepth 100000 in
set_option maxHeartbeats 4000000 in
/-- a check: needChain -/
theorem mX0_needChain (l : Launch) (hst : l.stackTraces = false) (D : va_G) (q : Nat → Nat) (cI : ClassId) (N : Nat → Nat) (S : Nat → Nat → Nat) (tr : Nat → Nat) (A : Nat → Prop) (hok : sp_ok N S) (b : Int32) : vx_Met l yX0_needChain wsX0_needChain { frames := 6, cells := 1, slots := 6, locals := 82 } (va_Pc [.ref (q 0), .int b] (fun U => xAt D q cI N S tr A U U.heap)) (va_Sv (fun _ => gb b (N 5) = true)) (gX (fun E => E = gIO ∧ gb b (N 5) = false)) 1 6 (fun _ => False) := by
  refine gc_vxmet [.ref (q 0), .int b] (by decide) rfl (Nat.le_of_ble_eq_true rfl) rfl ?_
  intro p e s m below meth c ls G hx0 hl hX
  have hZ0 := hX.2.2.2
  have hS : va_S A s.heap s.heap [] := va_S.rf
  have hn1 := hok.1.1
  have hn2 := hok.1.2
  refine lv_iload_n G.1 G.2.1 dX0_needChain_0 rfl (lv_at hl 1 rfl) ?_
  refine lv_if_lt (tgt := 12) G.1 G.2.1 dX0_needChain_1 (by decide) (fun h_1 => ?_) (fun h_1 => ?_)
  · exact gx_throw (text := "no such chain") G hx0 hst (by decide +kernel) (by decide +kernel) (by decide +kernel) (by decide +kernel) gx_not_IO gx_good_IO (by decide +kernel) hZ0 hS hl.1 dX0_needChain_12 dX0_needChain_15 dX0_needChain_16 dX0_needChain_18 dX0_needChain_21 (Nat.le_of_ble_eq_true rfl) (Nat.le_of_ble_eq_true rfl) (Nat.le_of_ble_eq_true rfl) (Nat.le_of_ble_eq_true rfl) (fun t _ hz hk => ⟨⟨rfl, by first | exact gb_neg (by assumption) | exact gb_nlt (by omega) (by assumption)⟩, hz, hk⟩) (fun _ h => nomatch h) (by decide) (by decide)
  · refine lv_iload_n G.1 G.2.1 dX0_needChain_4 rfl (lv_at hl 1 rfl) ?_
    refine lv_aload_n G.1 G.2.1 dX0_needChain_5 rfl (lv_at hl 0 rfl) ?_
    refine gx_get G hX (by decide +kernel) 5 (by decide) (by decide +kernel) rfl rfl rfl dX0_needChain_6 ?_
    refine lv_icmp_lt (tgt := 22) G.1 G.2.1 dX0_needChain_9 (by decide) (fun h_9 => ?_) (fun h_9 => ?_)
    · exact vx_ret (W.widen (k := 1) (n := 6) (Nat.zero_le _) (Nat.zero_le _) (W.vret G.1 G.2.1 G.2.2.1 (fun t ht hW => ⟨rfl, gb_in (by omega) (by assumption) (by assumption), ht⟩) (fun q h => nomatch h) dX0_needChain_22 G.2.2.2.2.2.2))
    · exact gx_throw (text := "no such chain") G hx0 hst (by decide +kernel) (by decide +kernel) (by decide +kernel) (by decide +kernel) gx_not_IO gx_good_IO (by decide +kernel) hZ0 hS hl.1 dX0_needChain_12 dX0_needChain_15 dX0_needChain_16 dX0_needChain_18 dX0_needChain_21 (Nat.le_of_ble_eq_true rfl) (Nat.le_of_ble_eq_true rfl) (Nat.le_of_ble_eq_true rfl) (Nat.le_of_ble_eq_true rfl) (fun t _ hz hk => ⟨⟨rfl, by first | exact gb_neg (by assumption) | exact gb_nlt (by omega) (by assumption)⟩, hz, hk⟩) (fun _ h => nomatch h) (by decide) (by decide)
set_option maxRecDepth 100000 in
set_option maxHeartbeats 4000000 in
/-- a check: needFreeProfile -/
theorem mX0_needFreeProfile (l : Launch) (hst : l.stackTraces = false) (D : va_G) (q : Nat → Nat) (cI : ClassId) (N : Nat → Nat) (S : Nat → Nat → Nat) (tr : Nat → Nat) (A : Nat → Prop) (hok : sp_ok N S) (hN : N 10 < 64) (pf : Nat) (hb9 : pf < 8) : vx_Met l yX0_needFreeProfile wsX0_needFreeProfile { frames := 6, cells := 1, slots := 6, locals := 82 } (va_Pc [.ref (q 0), .int (nI pf)] (fun U => xAt D q cI N S tr A U U.heap)) (va_Sv (fun _ => sp_bit (sp_held N S) pf = 0)) (gX (fun E => E = gIS ∧ sp_bit (sp_held N S) pf ≠ 0)) 1 6 (fun _ => False) := by
  refine gc_vxmet [.ref (q 0), .int (nI pf)] (by decide) rfl (Nat.le_of_ble_eq_true rfl) rfl ?_
  intro p e s m below meth c ls G hx0 hl hX
  have hZ0 := hX.2.2.2
  have hS : va_S A s.heap s.heap [] := va_S.rf
  have hh := sp_held_lt hok
  refine lv_aload_n G.1 G.2.1 dX0_needFreeProfile_0 rfl (lv_at hl 0 rfl) ?_
  refine gc_v (As := []) (rest := []) G.fix (mX0_held l D q cI N S tr A  hok (by omega)) (cwV 0 G.2.2.2.2.2.1 gX0_needFreeProfile_X0_held rfl rfl rfl (by decide +kernel) ⟨Nat.le_of_ble_eq_true rfl, Nat.le_of_ble_eq_true rfl⟩) xAt_blind (va_recv hX.2.1 hX.1 (ci := 0) (q0 := 0) rfl rfl) (fun U hU hW => by rw [hU]; exact hX.moved hW) rfl hl.1 rfl (Nat.le_of_ble_eq_true rfl) dX0_needFreeProfile_1 (Nat.zero_le _) (Nat.zero_le _) (fun r hr => ?_)
  subst hr
  refine lv_iload_n G.1 G.2.1 dX0_needFreeProfile_4 rfl (lv_at hl 1 rfl) ?_
  refine gc_s (As := [.int (nI (sp_held N S)), .int (nI pf)]) (rest := []) G.fix (mX0_hasBit l (sp_held N S) pf (by first | omega | assumption | exact ok6 _ | apply hq) (by omega)) (va_cwS 2 G.2.2.2.2.2.1 gX0_needFreeProfile_X0_hasBit rfl rfl rfl (by decide +kernel) ⟨Nat.le_of_ble_eq_true rfl, Nat.le_of_ble_eq_true rfl⟩) gc_blindT (fun _ _ _ => trivial) rfl hl.1 rfl (Nat.le_of_ble_eq_true rfl) dX0_needFreeProfile_5 (Nat.zero_le _) (Nat.zero_le _) (fun r hr => ?_)
  subst hr
  refine gn_eqz G (by exact sp_b31 _ _) (tgt := 21) dX0_needFreeProfile_8 (by decide) (fun h_8 => ?_) (fun h_8 => ?_)
  · exact vx_ret (W.widen (k := 1) (n := 6) (Nat.zero_le _) (Nat.zero_le _) (W.vret G.1 G.2.1 G.2.2.1 (fun t ht hW => ⟨rfl, h_8, ht⟩) (fun q h => nomatch h) dX0_needFreeProfile_21 G.2.2.2.2.2.2))
  · exact gx_throw (text := "the profile is held") G hx0 hst (by decide +kernel) (by decide +kernel) (by decide +kernel) (by decide +kernel) gx_not_IS gx_good_IS (by decide +kernel) hZ0 hS hl.1 dX0_needFreeProfile_11 dX0_needFreeProfile_14 dX0_needFreeProfile_15 dX0_needFreeProfile_17 dX0_needFreeProfile_20 (Nat.le_of_ble_eq_true rfl) (Nat.le_of_ble_eq_true rfl) (Nat.le_of_ble_eq_true rfl) (Nat.le_of_ble_eq_true rfl) (fun t _ hz hk => ⟨⟨rfl, h_8⟩, hz, hk⟩) (fun _ h => nomatch h) (by decide) (by decide)
set_option maxRecDepth 100000 in
set_option maxHeartbeats 4000000 in
/-- a check: needFreeChain -/
theorem mX0_needFreeChain (l : Launch) (hst : l.stackTraces = false) (D : va_G) (q : Nat → Nat) (cI : ClassId) (N : Nat → Nat) (S : Nat → Nat → Nat) (tr : Nat → Nat) (A : Nat → Prop) (hok : sp_ok N S) (hN : N 10 < 64) (ch : Nat) (hb9 : ch < 6) : vx_Met l yX0_needFreeChain wsX0_needFreeChain { frames := 6, cells := 1, slots := 6, locals := 82 } (va_Pc [.ref (q 0), .int (nI ch)] (fun U => xAt D q cI N S tr A U U.heap)) (va_Sv (fun _ => sp_bit (N 10) ch = 0)) (gX (fun E => E = gIS ∧ sp_bit (N 10) ch ≠ 0)) 1 6 (fun _ => False) := by
  refine gc_vxmet [.ref (q 0), .int (nI ch)] (by decide) rfl (Nat.le_of_ble_eq_true rfl) rfl ?_
  intro p e s m below meth c ls G hx0 hl hX
  have hZ0 := hX.2.2.2
  have hS : va_S A s.heap s.heap [] := va_S.rf
  have hh := sp_held_lt hok
  refine lv_aload_n G.1 G.2.1 dX0_needFreeChain_0 rfl (lv_at hl 0 rfl) ?_
  refine gx_get G hX (by decide +kernel) 10 (by decide) (by decide +kernel) rfl rfl rfl dX0_needFreeChain_1 ?_
  refine lv_iload_n G.1 G.2.1 dX0_needFreeChain_4 rfl (lv_at hl 1 rfl) ?_
  refine gc_s (As := [.int (nI (N 10)), .int (nI ch)]) (rest := []) G.fix (mX0_hasBit l (N 10) ch (by first | omega | assumption | exact ok6 _ | apply hq) (by omega)) (va_cwS 2 G.2.2.2.2.2.1 gX0_needFreeChain_X0_hasBit rfl rfl rfl (by decide +kernel) ⟨Nat.le_of_ble_eq_true rfl, Nat.le_of_ble_eq_true rfl⟩) gc_blindT (fun _ _ _ => trivial) rfl hl.1 rfl (Nat.le_of_ble_eq_true rfl) dX0_needFreeChain_5 (Nat.zero_le _) (Nat.zero_le _) (fun r hr => ?_)
  subst hr
  refine gn_eqz G (by exact sp_b31 _ _) (tgt := 21) dX0_needFreeChain_8 (by decide) (fun h_8 => ?_) (fun h_8 => ?_)
  · exact vx_ret (W.widen (k := 1) (n := 6) (Nat.zero_le _) (Nat.zero_le _) (W.vret G.1 G.2.1 G.2.2.1 (fun t ht hW => ⟨rfl, h_8, ht⟩) (fun q h => nomatch h) dX0_needFreeChain_21 G.2.2.2.2.2.2))
  · exact gx_throw (text := "the chain is held") G hx0 hst (by decide +kernel) (by decide +kernel) (by decide +kernel) (by decide +kernel) gx_not_IS gx_good_IS (by decide +kernel) hZ0 hS hl.1 dX0_needFreeChain_11 dX0_needFreeChain_14 dX0_needFreeChain_15 dX0_needFreeChain_17 dX0_needFreeChain_20 (Nat.le_of_ble_eq_true rfl) (Nat.le_of_ble_eq_true rfl) (Nat.le_of_ble_eq_true rfl) (Nat.le_of_ble_eq_true rfl) (fun t _ hz hk => ⟨⟨rfl, h_8⟩, hz, hk⟩) (fun _ h => nomatch h) (by decide) (by decide)
