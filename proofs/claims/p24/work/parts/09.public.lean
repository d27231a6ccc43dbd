/-! the class's public calls, but those with loops of their own */ -/
theorem gb_not3 {x : Int32} (h0 : ¬ x = 0) (h1 : ¬ x = nI 1) (h2 : ¬ x = nI 2) : gb x 3 = false := by
  cases hb : gb x 3 with
  | false => rfl
  | true =>
    obtain ⟨j, hj, rfl⟩ := gb_of (by decide) hb
    rcases (by omega : j = 0 ∨ j = 1 ∨ j = 2) with rfl | rfl | rfl
    · exact absurd rfl h0
    · exact absurd rfl h1
    · exact absurd rfl h2
theorem gb_is3 {x : Int32} (h : x = 0 ∨ x = nI 1 ∨ x = nI 2) : gb x 3 = true := by
  rcases h with rfl | rfl | rfl <;> decide
theorem gb_nle7 {x : Int32} (h : ¬ x ≤ nI 7) : gb x 8 = false := by
  have h1 : ¬ x.toInt ≤ (nI 7).toInt := fun z => h (Int32.le_iff_toInt_le.mpr z)
  rw [nI_toInt (by decide)] at h1
  simp only [gb, decide_eq_false_iff_not]
  omega
theorem gb_le7 {x : Int32} (h : ¬ x < 0) (h2 : x ≤ nI 7) : gb x 8 = true := by
  have h1 := Int32.le_iff_toInt_le.mp h2
  rw [nI_toInt (by decide)] at h1
  have h3 : ¬ x.toInt < 0 := fun z => h (Int32.lt_iff_toInt_lt.mpr (by simpa using z))
  simp only [gb, decide_eq_true_eq]
  omega
theorem sp_bit_test (x b : Nat) : sp_bit x b = if x.testBit b then 1 else 0 := by
  unfold sp_bit
  rw [← Nat.shiftRight_eq_div_pow]
  simp only [Nat.testBit, Nat.one_and_eq_mod_two]
  have h := Nat.mod_two_eq_zero_or_one (x >>> b)
  rcases h with h | h <;> simp [h]
theorem sp_xor_bit (x b : Nat) : sp_bit (x ^^^ 2 ^ b) b = 1 - sp_bit x b := by
  rw [sp_bit_test, sp_bit_test, Nat.testBit_xor, Nat.testBit_two_pow_self]
  cases x.testBit b <;> rfl
theorem xAt_free9 {D : va_G} {q : Nat → Nat} {cI : ClassId} {N : Nat → Nat} {S : Nat → Nat → Nat} {tr F : Nat → Nat} {A : Nat → Prop} {s : State} {H : Heap} (h : xAt D q cI N S tr A s H) : xAt D q cI N (gs S 9 F) tr A s H := by
  have e : xw q cI N (gs S 9 F) tr = xw q cI N S tr := rfl
  unfold xAt
  rw [e]
  exact h
theorem xAt_free10 {D : va_G} {q : Nat → Nat} {cI : ClassId} {N : Nat → Nat} {S : Nat → Nat → Nat} {tr F : Nat → Nat} {A : Nat → Prop} {s : State} {H : Heap} (h : xAt D q cI N S tr A s H) : xAt D q cI N (gs S 10 F) tr A s H := by
  have e : xw q cI N (gs S 10 F) tr = xw q cI N S tr := rfl
  unfold xAt
  rw [e]
  exact h
theorem gp_narrow_z (x b : Nat) : narrow .boolean (.int (nI (sp_bit x b))) = .int (nI (sp_bit x b)) := by
  have h := sp_bit_lt x b
  rcases (by omega : sp_bit x b = 0 ∨ sp_bit x b = 1) with e | e <;> rw [e] <;> rfl
set_option maxRecDepth 100000 in
set_option maxHeartbeats 4000000 in
/-- curve -/
theorem mX0_curve (l : Launch) (hst : l.stackTraces = false) (D : va_G) (q : Nat → Nat) (cI : ClassId) (N : Nat → Nat) (S : Nat → Nat → Nat) (tr : Nat → Nat) (A : Nat → Prop) (hok : sp_ok N S) (hinv : sp_inv N S) (i1 i2 i3 : Int32) : vx_Met l yX0_curve wsX0_curve { frames := 7, cells := 1, slots := 6, locals := 103 } (va_Pc [.ref (q 0), .int i1, .int i2, .int i3] (fun U => xAt D q cI N S tr A U U.heap)) (gQx D q cI (fun r N2 S2 => sA_curve N S i1 i2 i3 = true ∧ sB_curve N S i1 i2 i3 = true ∧ sC_curve N S i1 i2 i3 = true ∧ r = nI (sR_curve N S i1 i2 i3) ∧ N2 = sN_curve N S i1 i2 i3 ∧ S2 = sS_curve N S i1 i2 i3) A) (gXx D q cI N S A (gE3 (sA_curve N S i1 i2 i3) (sB_curve N S i1 i2 i3) (sC_curve N S i1 i2 i3))) 1 6 A := by
  refine gc_vxmet [.ref (q 0), .int i1, .int i2, .int i3] (by decide) rfl (Nat.le_of_ble_eq_true rfl) rfl ?_
  intro p e s m below meth c ls G hx0 hl hX
  have hZ0 := hX.2.2.2
  have hS : va_S A s.heap s.heap [] := va_S.rf
  have hok9 := hok
  obtain ⟨⟨ok0, ok5⟩, ok1, ok2, ok3, ok4, ok6, ok7, ok8, ok12, ok13, ok14⟩ := hok9
  have hN := hinv.2.2.2.1
  have hN9 := hinv.2.2.1
  refine lv_aload_n G.1 G.2.1 dX0_curve_0 rfl (lv_at hl 0 rfl) ?_
  refine lv_iload_n G.1 G.2.1 dX0_curve_1 rfl (lv_at hl 1 rfl) ?_
  refine gc_needT (vx_runV (As := [.int i1]) (rest := []) G.fix (mX0_needProfile l hst D q cI N S tr A hok i1) (cwV 1 G.2.2.2.2.2.1 gX0_curve_X0_needProfile rfl rfl rfl (by decide +kernel) ⟨Nat.le_of_ble_eq_true rfl, Nat.le_of_ble_eq_true rfl⟩) ⟨xAt_blind, va_recv hX.2.1 hX.1 (ci := 0) (q0 := 0) rfl rfl, fun U hU hW => ⟨rfl, by show xAt _ _ _ _ _ _ _ U U.heap; rw [hU]; exact hX.moved hW⟩⟩ rfl rfl hl.1 rfl (lv_room (Nat.le_of_ble_eq_true rfl)) dX0_curve_2 ⟨Nat.le_of_ble_eq_true rfl, Nat.le_of_ble_eq_true rfl⟩) hx0 G.2.2.2.2.2.2 (fun E t hE hz hk _ => ⟨Or.inl ⟨hE.1, (by simp [sA_curve, hE.2] <;> omega)⟩, gXx_of hX hS hz hk⟩) hS.2.2 (by decide) (by decide) (fun hA1 => ?_)
  obtain ⟨j1, hj1, rfl⟩ := gb_of (by omega) hA1
  have hg1 := gn_nI (show j1 < 2 ^ 31 by omega)
  refine lv_iload_n G.1 G.2.1 dX0_curve_5 rfl (lv_at hl 2 rfl) ?_
  refine gc_needT (vx_runS (As := [.int i2]) (rest := []) G.fix (mX0_needBand l hst i2) (va_cwS 1 G.2.2.2.2.2.1 gX0_curve_X0_needBand rfl rfl rfl (by decide +kernel) ⟨Nat.le_of_ble_eq_true rfl, Nat.le_of_ble_eq_true rfl⟩) ⟨gZ_blind, fun U hU hW => ⟨rfl, by show gZ _ U U.heap; rw [hU]; exact hX.2.2.2.none.moved hW⟩⟩ rfl rfl hl.1 rfl (lv_room (Nat.le_of_ble_eq_true rfl)) dX0_curve_6 ⟨Nat.le_of_ble_eq_true rfl, Nat.le_of_ble_eq_true rfl⟩) hx0 G.2.2.2.2.2.2 (fun E t hE hz hk _ => ⟨Or.inl ⟨hE.1, (by simp [sA_curve, hA1, hg1, hE.2] <;> omega)⟩, gXx_of hX hS hz hk⟩) hS.2.2 (by decide) (by decide) (fun hA2 => ?_)
  obtain ⟨j2, hj2, rfl⟩ := gb_of (by omega) hA2
  have hg2 := gn_nI (show j2 < 2 ^ 31 by omega)
  refine lv_iload_n G.1 G.2.1 dX0_curve_9 rfl (lv_at hl 3 rfl) ?_
  refine gc_needT (vx_runS (As := [.int i3]) (rest := []) G.fix (mX0_needValue l hst i3) (va_cwS 1 G.2.2.2.2.2.1 gX0_curve_X0_needValue rfl rfl rfl (by decide +kernel) ⟨Nat.le_of_ble_eq_true rfl, Nat.le_of_ble_eq_true rfl⟩) ⟨gZ_blind, fun U hU hW => ⟨rfl, by show gZ _ U U.heap; rw [hU]; exact hX.2.2.2.none.moved hW⟩⟩ rfl rfl hl.1 rfl (lv_room (Nat.le_of_ble_eq_true rfl)) dX0_curve_10 ⟨Nat.le_of_ble_eq_true rfl, Nat.le_of_ble_eq_true rfl⟩) hx0 G.2.2.2.2.2.2 (fun E t hE hz hk _ => ⟨Or.inr (Or.inl ⟨hE.1, (by simp [sA_curve, hA1, hA2, hg1, hg2]), (by simp [sB_curve, hg1, hg2, hE.2] <;> omega)⟩), gXx_of hX hS hz hk⟩) hS.2.2 (by decide) (by decide) (fun hB3 => ?_)
  obtain ⟨j3, hj3, rfl⟩ := gb_of (by omega) hB3
  have hg3 := gn_nI (show j3 < 2 ^ 31 by omega)
  refine lv_aload_n G.1 G.2.1 dX0_curve_13 rfl (lv_at hl 0 rfl) ?_
  refine lv_iload_n G.1 G.2.1 dX0_curve_14 rfl (lv_at hl 1 rfl) ?_
  refine lv_iload_n G.1 G.2.1 dX0_curve_15 rfl (lv_at hl 2 rfl) ?_
  refine lv_iload_n G.1 G.2.1 dX0_curve_16 rfl (lv_at hl 3 rfl) ?_
  refine gc_v (As := [.int (nI j1), .int (nI j2), .int (nI j3)]) (rest := []) G.fix (mX0_bent l D q cI N S tr A j1 j2 j3 hok (by first | omega | assumption | exact ok6 _ | apply hq) (by first | omega | assumption | exact ok6 _ | apply hq) (by first | omega | assumption | exact ok6 _ | apply hq)) (cwV 3 G.2.2.2.2.2.1 gX0_curve_X0_bent rfl rfl rfl (by decide +kernel) ⟨Nat.le_of_ble_eq_true rfl, Nat.le_of_ble_eq_true rfl⟩) xAt_blind (va_recv hX.2.1 hX.1 (ci := 0) (q0 := 0) rfl rfl) (fun U hU hW => by rw [hU]; exact hX.moved hW) rfl hl.1 rfl (Nat.le_of_ble_eq_true rfl) dX0_curve_17 (Nat.zero_le _) (Nat.zero_le _) (fun r hr => ?_)
  subst hr
  exact vx_ret (W.widen (k := 1) (n := 6) (Nat.zero_le _) (Nat.zero_le _) (W.iret G.1 G.2.1 G.2.2.1 (fun t ht hW => gQx_of hX hS ht ⟨(by simp [sA_curve, hA1, hA2, hg1, hg2, hg3]), (by simp [sB_curve, hB3, hg1, hg2, hg3]), rfl, (by show nI _ = nI _; simp only [sR_curve, hg1, hg2, hg3]), (by simp only [sN_curve, hg1, hg2, hg3]), (by simp only [sS_curve, hg1, hg2, hg3])⟩) hS.2.2 dX0_curve_20 G.2.2.2.2.2.2))
set_option maxRecDepth 100000 in
set_option maxHeartbeats 4000000 in
/-- taken -/
theorem mX0_taken (l : Launch) (hst : l.stackTraces = false) (D : va_G) (q : Nat → Nat) (cI : ClassId) (N : Nat → Nat) (S : Nat → Nat → Nat) (tr : Nat → Nat) (A : Nat → Prop) (hok : sp_ok N S) (hinv : sp_inv N S) (i1 i2 i3 : Int32) : vx_Met l yX0_taken wsX0_taken { frames := 7, cells := 1, slots := 6, locals := 103 } (va_Pc [.ref (q 0), .int i1, .int i2, .int i3] (fun U => xAt D q cI N S tr A U U.heap)) (gQx D q cI (fun r N2 S2 => sA_taken N S i1 i2 i3 = true ∧ sB_taken N S i1 i2 i3 = true ∧ sC_taken N S i1 i2 i3 = true ∧ r = nI (sR_taken N S i1 i2 i3) ∧ N2 = sN_taken N S i1 i2 i3 ∧ S2 = sS_taken N S i1 i2 i3) A) (gXx D q cI N S A (gE3 (sA_taken N S i1 i2 i3) (sB_taken N S i1 i2 i3) (sC_taken N S i1 i2 i3))) 1 6 A := by
  refine gc_vxmet [.ref (q 0), .int i1, .int i2, .int i3] (by decide) rfl (Nat.le_of_ble_eq_true rfl) rfl ?_
  intro p e s m below meth c ls G hx0 hl hX
  have hZ0 := hX.2.2.2
  have hS : va_S A s.heap s.heap [] := va_S.rf
  have hok9 := hok
  obtain ⟨⟨ok0, ok5⟩, ok1, ok2, ok3, ok4, ok6, ok7, ok8, ok12, ok13, ok14⟩ := hok9
  have hN := hinv.2.2.2.1
  have hN9 := hinv.2.2.1
  refine lv_aload_n G.1 G.2.1 dX0_taken_0 rfl (lv_at hl 0 rfl) ?_
  refine lv_iload_n G.1 G.2.1 dX0_taken_1 rfl (lv_at hl 1 rfl) ?_
  refine gc_needT (vx_runV (As := [.int i1]) (rest := []) G.fix (mX0_needProfile l hst D q cI N S tr A hok i1) (cwV 1 G.2.2.2.2.2.1 gX0_taken_X0_needProfile rfl rfl rfl (by decide +kernel) ⟨Nat.le_of_ble_eq_true rfl, Nat.le_of_ble_eq_true rfl⟩) ⟨xAt_blind, va_recv hX.2.1 hX.1 (ci := 0) (q0 := 0) rfl rfl, fun U hU hW => ⟨rfl, by show xAt _ _ _ _ _ _ _ U U.heap; rw [hU]; exact hX.moved hW⟩⟩ rfl rfl hl.1 rfl (lv_room (Nat.le_of_ble_eq_true rfl)) dX0_taken_2 ⟨Nat.le_of_ble_eq_true rfl, Nat.le_of_ble_eq_true rfl⟩) hx0 G.2.2.2.2.2.2 (fun E t hE hz hk _ => ⟨Or.inl ⟨hE.1, (by simp [sA_taken, hE.2] <;> omega)⟩, gXx_of hX hS hz hk⟩) hS.2.2 (by decide) (by decide) (fun hA1 => ?_)
  obtain ⟨j1, hj1, rfl⟩ := gb_of (by omega) hA1
  have hg1 := gn_nI (show j1 < 2 ^ 31 by omega)
  refine lv_iload_n G.1 G.2.1 dX0_taken_5 rfl (lv_at hl 2 rfl) ?_
  refine gc_needT (vx_runS (As := [.int i2]) (rest := []) G.fix (mX0_needBand l hst i2) (va_cwS 1 G.2.2.2.2.2.1 gX0_taken_X0_needBand rfl rfl rfl (by decide +kernel) ⟨Nat.le_of_ble_eq_true rfl, Nat.le_of_ble_eq_true rfl⟩) ⟨gZ_blind, fun U hU hW => ⟨rfl, by show gZ _ U U.heap; rw [hU]; exact hX.2.2.2.none.moved hW⟩⟩ rfl rfl hl.1 rfl (lv_room (Nat.le_of_ble_eq_true rfl)) dX0_taken_6 ⟨Nat.le_of_ble_eq_true rfl, Nat.le_of_ble_eq_true rfl⟩) hx0 G.2.2.2.2.2.2 (fun E t hE hz hk _ => ⟨Or.inl ⟨hE.1, (by simp [sA_taken, hA1, hg1, hE.2] <;> omega)⟩, gXx_of hX hS hz hk⟩) hS.2.2 (by decide) (by decide) (fun hA2 => ?_)
  obtain ⟨j2, hj2, rfl⟩ := gb_of (by omega) hA2
  have hg2 := gn_nI (show j2 < 2 ^ 31 by omega)
  refine lv_iload_n G.1 G.2.1 dX0_taken_9 rfl (lv_at hl 3 rfl) ?_
  refine gc_needT (vx_runS (As := [.int i3]) (rest := []) G.fix (mX0_needValue l hst i3) (va_cwS 1 G.2.2.2.2.2.1 gX0_taken_X0_needValue rfl rfl rfl (by decide +kernel) ⟨Nat.le_of_ble_eq_true rfl, Nat.le_of_ble_eq_true rfl⟩) ⟨gZ_blind, fun U hU hW => ⟨rfl, by show gZ _ U U.heap; rw [hU]; exact hX.2.2.2.none.moved hW⟩⟩ rfl rfl hl.1 rfl (lv_room (Nat.le_of_ble_eq_true rfl)) dX0_taken_10 ⟨Nat.le_of_ble_eq_true rfl, Nat.le_of_ble_eq_true rfl⟩) hx0 G.2.2.2.2.2.2 (fun E t hE hz hk _ => ⟨Or.inr (Or.inl ⟨hE.1, (by simp [sA_taken, hA1, hA2, hg1, hg2]), (by simp [sB_taken, hg1, hg2, hE.2] <;> omega)⟩), gXx_of hX hS hz hk⟩) hS.2.2 (by decide) (by decide) (fun hB3 => ?_)
  obtain ⟨j3, hj3, rfl⟩ := gb_of (by omega) hB3
  have hg3 := gn_nI (show j3 < 2 ^ 31 by omega)
  refine lv_aload_n G.1 G.2.1 dX0_taken_13 rfl (lv_at hl 0 rfl) ?_
  refine lv_iload_n G.1 G.2.1 dX0_taken_14 rfl (lv_at hl 1 rfl) ?_
  refine lv_iload_n G.1 G.2.1 dX0_taken_15 rfl (lv_at hl 2 rfl) ?_
  refine lv_iload_n G.1 G.2.1 dX0_taken_16 rfl (lv_at hl 3 rfl) ?_
  refine gc_v (As := [.int (nI j1), .int (nI j2), .int (nI j3)]) (rest := []) G.fix (mX0_take l D q cI N S tr A j1 j2 j3 hok (by first | omega | assumption | exact ok6 _ | apply hq) (by first | omega | assumption | exact ok6 _ | apply hq) (by first | omega | assumption | exact ok6 _ | apply hq)) (cwV 3 G.2.2.2.2.2.1 gX0_taken_X0_take rfl rfl rfl (by decide +kernel) ⟨Nat.le_of_ble_eq_true rfl, Nat.le_of_ble_eq_true rfl⟩) xAt_blind (va_recv hX.2.1 hX.1 (ci := 0) (q0 := 0) rfl rfl) (fun U hU hW => by rw [hU]; exact hX.moved hW) rfl hl.1 rfl (Nat.le_of_ble_eq_true rfl) dX0_taken_17 (Nat.zero_le _) (Nat.zero_le _) (fun r hr => ?_)
  subst hr
  exact vx_ret (W.widen (k := 1) (n := 6) (Nat.zero_le _) (Nat.zero_le _) (W.iret G.1 G.2.1 G.2.2.1 (fun t ht hW => gQx_of hX hS ht ⟨(by simp [sA_taken, hA1, hA2, hg1, hg2, hg3]), (by simp [sB_taken, hB3, hg1, hg2, hg3]), rfl, (by show nI _ = nI _; simp only [sR_taken, hg1, hg2, hg3]), (by simp only [sN_taken, hg1, hg2, hg3]), (by simp only [sS_taken, hg1, hg2, hg3])⟩) hS.2.2 dX0_taken_20 G.2.2.2.2.2.2))
set_option maxRecDepth 100000 in
set_option maxHeartbeats 4000000 in
/-- through -/
theorem mX0_through (l : Launch) (hst : l.stackTraces = false) (D : va_G) (q : Nat → Nat) (cI : ClassId) (N : Nat → Nat) (S : Nat → Nat → Nat) (tr : Nat → Nat) (A : Nat → Prop) (hok : sp_ok N S) (hinv : sp_inv N S) (i1 i2 i3 : Int32) : vx_Met l yX0_through wsX0_through { frames := 7, cells := 1, slots := 6, locals := 124 } (va_Pc [.ref (q 0), .int i1, .int i2, .int i3] (fun U => xAt D q cI N S tr A U U.heap)) (gQx D q cI (fun r N2 S2 => sA_through N S i1 i2 i3 = true ∧ sB_through N S i1 i2 i3 = true ∧ sC_through N S i1 i2 i3 = true ∧ r = nI (sR_through N S i1 i2 i3) ∧ N2 = sN_through N S i1 i2 i3 ∧ S2 = sS_through N S i1 i2 i3) A) (gXx D q cI N S A (gE3 (sA_through N S i1 i2 i3) (sB_through N S i1 i2 i3) (sC_through N S i1 i2 i3))) 1 6 A := by
  refine gc_vxmet [.ref (q 0), .int i1, .int i2, .int i3] (by decide) rfl (Nat.le_of_ble_eq_true rfl) rfl ?_
  intro p e s m below meth c ls G hx0 hl hX
  have hZ0 := hX.2.2.2
  have hS : va_S A s.heap s.heap [] := va_S.rf
  have hok9 := hok
  obtain ⟨⟨ok0, ok5⟩, ok1, ok2, ok3, ok4, ok6, ok7, ok8, ok12, ok13, ok14⟩ := hok9
  have hN := hinv.2.2.2.1
  have hN9 := hinv.2.2.1
  refine lv_aload_n G.1 G.2.1 dX0_through_0 rfl (lv_at hl 0 rfl) ?_
  refine lv_iload_n G.1 G.2.1 dX0_through_1 rfl (lv_at hl 1 rfl) ?_
  refine gc_needT (vx_runV (As := [.int i1]) (rest := []) G.fix (mX0_needChain l hst D q cI N S tr A hok i1) (cwV 1 G.2.2.2.2.2.1 gX0_through_X0_needChain rfl rfl rfl (by decide +kernel) ⟨Nat.le_of_ble_eq_true rfl, Nat.le_of_ble_eq_true rfl⟩) ⟨xAt_blind, va_recv hX.2.1 hX.1 (ci := 0) (q0 := 0) rfl rfl, fun U hU hW => ⟨rfl, by show xAt _ _ _ _ _ _ _ U U.heap; rw [hU]; exact hX.moved hW⟩⟩ rfl rfl hl.1 rfl (lv_room (Nat.le_of_ble_eq_true rfl)) dX0_through_2 ⟨Nat.le_of_ble_eq_true rfl, Nat.le_of_ble_eq_true rfl⟩) hx0 G.2.2.2.2.2.2 (fun E t hE hz hk _ => ⟨Or.inl ⟨hE.1, (by simp [sA_through, hE.2] <;> omega)⟩, gXx_of hX hS hz hk⟩) hS.2.2 (by decide) (by decide) (fun hA1 => ?_)
  obtain ⟨j1, hj1, rfl⟩ := gb_of (by omega) hA1
  have hg1 := gn_nI (show j1 < 2 ^ 31 by omega)
  refine lv_iload_n G.1 G.2.1 dX0_through_5 rfl (lv_at hl 2 rfl) ?_
  refine gc_needT (vx_runS (As := [.int i2]) (rest := []) G.fix (mX0_needBand l hst i2) (va_cwS 1 G.2.2.2.2.2.1 gX0_through_X0_needBand rfl rfl rfl (by decide +kernel) ⟨Nat.le_of_ble_eq_true rfl, Nat.le_of_ble_eq_true rfl⟩) ⟨gZ_blind, fun U hU hW => ⟨rfl, by show gZ _ U U.heap; rw [hU]; exact hX.2.2.2.none.moved hW⟩⟩ rfl rfl hl.1 rfl (lv_room (Nat.le_of_ble_eq_true rfl)) dX0_through_6 ⟨Nat.le_of_ble_eq_true rfl, Nat.le_of_ble_eq_true rfl⟩) hx0 G.2.2.2.2.2.2 (fun E t hE hz hk _ => ⟨Or.inl ⟨hE.1, (by simp [sA_through, hA1, hg1, hE.2] <;> omega)⟩, gXx_of hX hS hz hk⟩) hS.2.2 (by decide) (by decide) (fun hA2 => ?_)
  obtain ⟨j2, hj2, rfl⟩ := gb_of (by omega) hA2
  have hg2 := gn_nI (show j2 < 2 ^ 31 by omega)
  refine lv_iload_n G.1 G.2.1 dX0_through_9 rfl (lv_at hl 3 rfl) ?_
  refine gc_needT (vx_runS (As := [.int i3]) (rest := []) G.fix (mX0_needValue l hst i3) (va_cwS 1 G.2.2.2.2.2.1 gX0_through_X0_needValue rfl rfl rfl (by decide +kernel) ⟨Nat.le_of_ble_eq_true rfl, Nat.le_of_ble_eq_true rfl⟩) ⟨gZ_blind, fun U hU hW => ⟨rfl, by show gZ _ U U.heap; rw [hU]; exact hX.2.2.2.none.moved hW⟩⟩ rfl rfl hl.1 rfl (lv_room (Nat.le_of_ble_eq_true rfl)) dX0_through_10 ⟨Nat.le_of_ble_eq_true rfl, Nat.le_of_ble_eq_true rfl⟩) hx0 G.2.2.2.2.2.2 (fun E t hE hz hk _ => ⟨Or.inr (Or.inl ⟨hE.1, (by simp [sA_through, hA1, hA2, hg1, hg2]), (by simp [sB_through, hg1, hg2, hE.2] <;> omega)⟩), gXx_of hX hS hz hk⟩) hS.2.2 (by decide) (by decide) (fun hB3 => ?_)
  obtain ⟨j3, hj3, rfl⟩ := gb_of (by omega) hB3
  have hg3 := gn_nI (show j3 < 2 ^ 31 by omega)
  refine lv_aload_n G.1 G.2.1 dX0_through_13 rfl (lv_at hl 0 rfl) ?_
  refine lv_iload_n G.1 G.2.1 dX0_through_14 rfl (lv_at hl 1 rfl) ?_
  refine lv_iload_n G.1 G.2.1 dX0_through_15 rfl (lv_at hl 2 rfl) ?_
  refine lv_iload_n G.1 G.2.1 dX0_through_16 rfl (lv_at hl 3 rfl) ?_
  refine gc_v (As := [.int (nI j1), .int (nI j2), .int (nI j3)]) (rest := []) G.fix (mX0_pass l D q cI N S tr A j1 j2 j3 hok (by first | omega | assumption | exact ok6 _ | apply hq) (by first | omega | assumption | exact ok6 _ | apply hq) (by first | omega | assumption | exact ok6 _ | apply hq)) (cwV 3 G.2.2.2.2.2.1 gX0_through_X0_pass rfl rfl rfl (by decide +kernel) ⟨Nat.le_of_ble_eq_true rfl, Nat.le_of_ble_eq_true rfl⟩) xAt_blind (va_recv hX.2.1 hX.1 (ci := 0) (q0 := 0) rfl rfl) (fun U hU hW => by rw [hU]; exact hX.moved hW) rfl hl.1 rfl (Nat.le_of_ble_eq_true rfl) dX0_through_17 (Nat.zero_le _) (Nat.zero_le _) (fun r hr => ?_)
  subst hr
  exact vx_ret (W.widen (k := 1) (n := 6) (Nat.zero_le _) (Nat.zero_le _) (W.iret G.1 G.2.1 G.2.2.1 (fun t ht hW => gQx_of hX hS ht ⟨(by simp [sA_through, hA1, hA2, hg1, hg2, hg3]), (by simp [sB_through, hB3, hg1, hg2, hg3]), rfl, (by show nI _ = nI _; simp only [sR_through, hg1, hg2, hg3]), (by simp only [sN_through, hg1, hg2, hg3]), (by simp only [sS_through, hg1, hg2, hg3])⟩) hS.2.2 dX0_through_20 G.2.2.2.2.2.2))
set_option maxRecDepth 100000 in
set_option maxHeartbeats 4000000 in
/-- paint -/
theorem mX0_paint (l : Launch) (hst : l.stackTraces = false) (D : va_G) (q : Nat → Nat) (cI : ClassId) (N : Nat → Nat) (S : Nat → Nat → Nat) (tr : Nat → Nat) (A : Nat → Prop) (hok : sp_ok N S) (hinv : sp_inv N S) (i1 i2 i3 : Int32) : vx_Met l yX0_paint wsX0_paint { frames := 7, cells := 1, slots := 6, locals := 102 } (va_Pc [.ref (q 0), .int i1, .int i2, .int i3] (fun U => xAt D q cI N S tr A U U.heap)) (gQx D q cI (fun r N2 S2 => sA_paint N S i1 i2 i3 = true ∧ sB_paint N S i1 i2 i3 = true ∧ sC_paint N S i1 i2 i3 = true ∧ r = nI (sR_paint N S i1 i2 i3) ∧ N2 = sN_paint N S i1 i2 i3 ∧ S2 = sS_paint N S i1 i2 i3) A) (gXx D q cI N S A (gE3 (sA_paint N S i1 i2 i3) (sB_paint N S i1 i2 i3) (sC_paint N S i1 i2 i3))) 1 6 A := by
  refine gc_vxmet [.ref (q 0), .int i1, .int i2, .int i3] (by decide) rfl (Nat.le_of_ble_eq_true rfl) rfl ?_
  intro p e s m below meth c ls G hx0 hl hX
  have hZ0 := hX.2.2.2
  have hS : va_S A s.heap s.heap [] := va_S.rf
  have hok9 := hok
  obtain ⟨⟨ok0, ok5⟩, ok1, ok2, ok3, ok4, ok6, ok7, ok8, ok12, ok13, ok14⟩ := hok9
  have hN := hinv.2.2.2.1
  have hN9 := hinv.2.2.1
  refine lv_iload_n G.1 G.2.1 dX0_paint_0 rfl (lv_at hl 1 rfl) ?_
  refine gc_needT (vx_runS (As := [.int i1]) (rest := []) G.fix (mX0_needPixel l hst i1) (va_cwS 1 G.2.2.2.2.2.1 gX0_paint_X0_needPixel rfl rfl rfl (by decide +kernel) ⟨Nat.le_of_ble_eq_true rfl, Nat.le_of_ble_eq_true rfl⟩) ⟨gZ_blind, fun U hU hW => ⟨rfl, by show gZ _ U U.heap; rw [hU]; exact hX.2.2.2.none.moved hW⟩⟩ rfl rfl hl.1 rfl (lv_room (Nat.le_of_ble_eq_true rfl)) dX0_paint_1 ⟨Nat.le_of_ble_eq_true rfl, Nat.le_of_ble_eq_true rfl⟩) hx0 G.2.2.2.2.2.2 (fun E t hE hz hk _ => ⟨Or.inl ⟨hE.1, (by simp [sA_paint, hE.2] <;> omega)⟩, gXx_of hX hS hz hk⟩) hS.2.2 (by decide) (by decide) (fun hA1 => ?_)
  obtain ⟨j1, hj1, rfl⟩ := gb_of (by omega) hA1
  have hg1 := gn_nI (show j1 < 2 ^ 31 by omega)
  refine lv_iload_n G.1 G.2.1 dX0_paint_4 rfl (lv_at hl 2 rfl) ?_
  refine gc_needT (vx_runS (As := [.int i2]) (rest := []) G.fix (mX0_needBand l hst i2) (va_cwS 1 G.2.2.2.2.2.1 gX0_paint_X0_needBand rfl rfl rfl (by decide +kernel) ⟨Nat.le_of_ble_eq_true rfl, Nat.le_of_ble_eq_true rfl⟩) ⟨gZ_blind, fun U hU hW => ⟨rfl, by show gZ _ U U.heap; rw [hU]; exact hX.2.2.2.none.moved hW⟩⟩ rfl rfl hl.1 rfl (lv_room (Nat.le_of_ble_eq_true rfl)) dX0_paint_5 ⟨Nat.le_of_ble_eq_true rfl, Nat.le_of_ble_eq_true rfl⟩) hx0 G.2.2.2.2.2.2 (fun E t hE hz hk _ => ⟨Or.inl ⟨hE.1, (by simp [sA_paint, hA1, hg1, hE.2] <;> omega)⟩, gXx_of hX hS hz hk⟩) hS.2.2 (by decide) (by decide) (fun hA2 => ?_)
  obtain ⟨j2, hj2, rfl⟩ := gb_of (by omega) hA2
  have hg2 := gn_nI (show j2 < 2 ^ 31 by omega)
  refine lv_iload_n G.1 G.2.1 dX0_paint_8 rfl (lv_at hl 3 rfl) ?_
  refine gc_needT (vx_runS (As := [.int i3]) (rest := []) G.fix (mX0_needValue l hst i3) (va_cwS 1 G.2.2.2.2.2.1 gX0_paint_X0_needValue rfl rfl rfl (by decide +kernel) ⟨Nat.le_of_ble_eq_true rfl, Nat.le_of_ble_eq_true rfl⟩) ⟨gZ_blind, fun U hU hW => ⟨rfl, by show gZ _ U U.heap; rw [hU]; exact hX.2.2.2.none.moved hW⟩⟩ rfl rfl hl.1 rfl (lv_room (Nat.le_of_ble_eq_true rfl)) dX0_paint_9 ⟨Nat.le_of_ble_eq_true rfl, Nat.le_of_ble_eq_true rfl⟩) hx0 G.2.2.2.2.2.2 (fun E t hE hz hk _ => ⟨Or.inr (Or.inl ⟨hE.1, (by simp [sA_paint, hA1, hA2, hg1, hg2]), (by simp [sB_paint, hg1, hg2, hE.2] <;> omega)⟩), gXx_of hX hS hz hk⟩) hS.2.2 (by decide) (by decide) (fun hB3 => ?_)
  obtain ⟨j3, hj3, rfl⟩ := gb_of (by omega) hB3
  have hg3 := gn_nI (show j3 < 2 ^ 31 by omega)
  refine lv_aload_n G.1 G.2.1 dX0_paint_12 rfl (lv_at hl 0 rfl) ?_
  refine gx_get G hX (by decide +kernel) 12 (by decide) (by decide +kernel) rfl rfl rfl dX0_paint_13 ?_
  refine lv_iload_n G.1 G.2.1 dX0_paint_16 rfl (lv_at hl 1 rfl) ?_
  refine lv_iconst (v := nI 3) G.1 G.2.1 dX0_paint_17 (by decide) ?_
  refine gn_imul G dX0_paint_18 ?_
  refine lv_iload_n G.1 G.2.1 dX0_paint_19 rfl (lv_at hl 2 rfl) ?_
  refine gn_iadd G dX0_paint_20 ?_
  refine lv_iload_n G.1 G.2.1 dX0_paint_21 rfl (lv_at hl 3 rfl) ?_
  refine gx_swap (k := 12) (kp := 9) (len := 18) (F := S 12) (i := (j1 * 3) + j2) (v := j3) (S' := (gs S 12 (gu (S 12) ((j1 * 3) + j2) j3))) (tr' := tr) (rest := []) G.fix (mX0_swap l D (q 12) cI 18 (S 12) ((j1 * 3) + j2) j3 (by first | omega | assumption)) (va_cwS 3 G.2.2.2.2.2.1 gX0_paint_X0_swap rfl rfl rfl (by decide +kernel) ⟨Nat.le_of_ble_eq_true rfl, Nat.le_of_ble_eq_true rfl⟩) hX hS rfl (rfl) hl.1 rfl (Nat.le_of_ble_eq_true rfl) dX0_paint_22 (Nat.zero_le _) (Nat.zero_le _) (fun H1 locs1 hX hS => ?_)
  exact vx_ret (W.widen (k := 1) (n := 6) (Nat.zero_le _) (Nat.zero_le _) (W.iret G.1 G.2.1 G.2.2.1 (fun t ht hW => gQx_of hX hS ht ⟨(by simp [sA_paint, hA1, hA2, hg1, hg2, hg3]), (by simp [sB_paint, hB3, hg1, hg2, hg3]), rfl, (by show nI _ = nI _; simp only [sR_paint, hg1, hg2, hg3]), (by simp only [sN_paint, hg1, hg2, hg3]), (by simp only [sS_paint, hg1, hg2, hg3])⟩) hS.2.2 dX0_paint_25 G.2.2.2.2.2.2))
set_option maxRecDepth 100000 in
set_option maxHeartbeats 4000000 in
/-- spot -/
theorem mX0_spot (l : Launch) (hst : l.stackTraces = false) (D : va_G) (q : Nat → Nat) (cI : ClassId) (N : Nat → Nat) (S : Nat → Nat → Nat) (tr : Nat → Nat) (A : Nat → Prop) (hok : sp_ok N S) (hinv : sp_inv N S) (i1 i2 i3 : Int32) : vx_Met l yX0_spot wsX0_spot { frames := 7, cells := 1, slots := 6, locals := 102 } (va_Pc [.ref (q 0), .int i1, .int i2, .int i3] (fun U => xAt D q cI N S tr A U U.heap)) (gQx D q cI (fun r N2 S2 => sA_spot N S i1 i2 i3 = true ∧ sB_spot N S i1 i2 i3 = true ∧ sC_spot N S i1 i2 i3 = true ∧ r = nI (sR_spot N S i1 i2 i3) ∧ N2 = sN_spot N S i1 i2 i3 ∧ S2 = sS_spot N S i1 i2 i3) A) (gXx D q cI N S A (gE3 (sA_spot N S i1 i2 i3) (sB_spot N S i1 i2 i3) (sC_spot N S i1 i2 i3))) 1 6 A := by
  refine gc_vxmet [.ref (q 0), .int i1, .int i2, .int i3] (by decide) rfl (Nat.le_of_ble_eq_true rfl) rfl ?_
  intro p e s m below meth c ls G hx0 hl hX
  have hZ0 := hX.2.2.2
  have hS : va_S A s.heap s.heap [] := va_S.rf
  have hok9 := hok
  obtain ⟨⟨ok0, ok5⟩, ok1, ok2, ok3, ok4, ok6, ok7, ok8, ok12, ok13, ok14⟩ := hok9
  have hN := hinv.2.2.2.1
  have hN9 := hinv.2.2.1
  refine lv_iload_n G.1 G.2.1 dX0_spot_0 rfl (lv_at hl 1 rfl) ?_
  refine gc_needT (vx_runS (As := [.int i1]) (rest := []) G.fix (mX0_needPixel l hst i1) (va_cwS 1 G.2.2.2.2.2.1 gX0_spot_X0_needPixel rfl rfl rfl (by decide +kernel) ⟨Nat.le_of_ble_eq_true rfl, Nat.le_of_ble_eq_true rfl⟩) ⟨gZ_blind, fun U hU hW => ⟨rfl, by show gZ _ U U.heap; rw [hU]; exact hX.2.2.2.none.moved hW⟩⟩ rfl rfl hl.1 rfl (lv_room (Nat.le_of_ble_eq_true rfl)) dX0_spot_1 ⟨Nat.le_of_ble_eq_true rfl, Nat.le_of_ble_eq_true rfl⟩) hx0 G.2.2.2.2.2.2 (fun E t hE hz hk _ => ⟨Or.inl ⟨hE.1, (by simp [sA_spot, hE.2] <;> omega)⟩, gXx_of hX hS hz hk⟩) hS.2.2 (by decide) (by decide) (fun hA1 => ?_)
  obtain ⟨j1, hj1, rfl⟩ := gb_of (by omega) hA1
  have hg1 := gn_nI (show j1 < 2 ^ 31 by omega)
  refine lv_iload_n G.1 G.2.1 dX0_spot_4 rfl (lv_at hl 2 rfl) ?_
  refine gc_needT (vx_runS (As := [.int i2]) (rest := []) G.fix (mX0_needInk l hst i2) (va_cwS 1 G.2.2.2.2.2.1 gX0_spot_X0_needInk rfl rfl rfl (by decide +kernel) ⟨Nat.le_of_ble_eq_true rfl, Nat.le_of_ble_eq_true rfl⟩) ⟨gZ_blind, fun U hU hW => ⟨rfl, by show gZ _ U U.heap; rw [hU]; exact hX.2.2.2.none.moved hW⟩⟩ rfl rfl hl.1 rfl (lv_room (Nat.le_of_ble_eq_true rfl)) dX0_spot_5 ⟨Nat.le_of_ble_eq_true rfl, Nat.le_of_ble_eq_true rfl⟩) hx0 G.2.2.2.2.2.2 (fun E t hE hz hk _ => ⟨Or.inl ⟨hE.1, (by simp [sA_spot, hA1, hg1, hE.2] <;> omega)⟩, gXx_of hX hS hz hk⟩) hS.2.2 (by decide) (by decide) (fun hA2 => ?_)
  obtain ⟨j2, hj2, rfl⟩ := gb_of (by omega) hA2
  have hg2 := gn_nI (show j2 < 2 ^ 31 by omega)
  refine lv_iload_n G.1 G.2.1 dX0_spot_8 rfl (lv_at hl 3 rfl) ?_
  refine gc_needT (vx_runS (As := [.int i3]) (rest := []) G.fix (mX0_needValue l hst i3) (va_cwS 1 G.2.2.2.2.2.1 gX0_spot_X0_needValue rfl rfl rfl (by decide +kernel) ⟨Nat.le_of_ble_eq_true rfl, Nat.le_of_ble_eq_true rfl⟩) ⟨gZ_blind, fun U hU hW => ⟨rfl, by show gZ _ U U.heap; rw [hU]; exact hX.2.2.2.none.moved hW⟩⟩ rfl rfl hl.1 rfl (lv_room (Nat.le_of_ble_eq_true rfl)) dX0_spot_9 ⟨Nat.le_of_ble_eq_true rfl, Nat.le_of_ble_eq_true rfl⟩) hx0 G.2.2.2.2.2.2 (fun E t hE hz hk _ => ⟨Or.inr (Or.inl ⟨hE.1, (by simp [sA_spot, hA1, hA2, hg1, hg2]), (by simp [sB_spot, hg1, hg2, hE.2] <;> omega)⟩), gXx_of hX hS hz hk⟩) hS.2.2 (by decide) (by decide) (fun hB3 => ?_)
  obtain ⟨j3, hj3, rfl⟩ := gb_of (by omega) hB3
  have hg3 := gn_nI (show j3 < 2 ^ 31 by omega)
  refine lv_aload_n G.1 G.2.1 dX0_spot_12 rfl (lv_at hl 0 rfl) ?_
  refine gx_get G hX (by decide +kernel) 13 (by decide) (by decide +kernel) rfl rfl rfl dX0_spot_13 ?_
  refine lv_iload_n G.1 G.2.1 dX0_spot_16 rfl (lv_at hl 1 rfl) ?_
  refine lv_iconst (v := nI 3) G.1 G.2.1 dX0_spot_17 (by decide) ?_
  refine gn_imul G dX0_spot_18 ?_
  refine lv_iload_n G.1 G.2.1 dX0_spot_19 rfl (lv_at hl 2 rfl) ?_
  refine gn_iadd G dX0_spot_20 ?_
  refine lv_iload_n G.1 G.2.1 dX0_spot_21 rfl (lv_at hl 3 rfl) ?_
  refine gx_swap (k := 13) (kp := 10) (len := 18) (F := S 13) (i := (j1 * 3) + j2) (v := j3) (S' := (gs S 13 (gu (S 13) ((j1 * 3) + j2) j3))) (tr' := tr) (rest := []) G.fix (mX0_swap l D (q 13) cI 18 (S 13) ((j1 * 3) + j2) j3 (by first | omega | assumption)) (va_cwS 3 G.2.2.2.2.2.1 gX0_spot_X0_swap rfl rfl rfl (by decide +kernel) ⟨Nat.le_of_ble_eq_true rfl, Nat.le_of_ble_eq_true rfl⟩) hX hS rfl (rfl) hl.1 rfl (Nat.le_of_ble_eq_true rfl) dX0_spot_22 (Nat.zero_le _) (Nat.zero_le _) (fun H1 locs1 hX hS => ?_)
  exact vx_ret (W.widen (k := 1) (n := 6) (Nat.zero_le _) (Nat.zero_le _) (W.iret G.1 G.2.1 G.2.2.1 (fun t ht hW => gQx_of hX hS ht ⟨(by simp [sA_spot, hA1, hA2, hg1, hg2, hg3]), (by simp [sB_spot, hB3, hg1, hg2, hg3]), rfl, (by show nI _ = nI _; simp only [sR_spot, hg1, hg2, hg3]), (by simp only [sN_spot, hg1, hg2, hg3]), (by simp only [sS_spot, hg1, hg2, hg3])⟩) hS.2.2 dX0_spot_25 G.2.2.2.2.2.2))
set_option maxRecDepth 100000 in
set_option maxHeartbeats 4000000 in
/-- mix -/
theorem mX0_mix (l : Launch) (hst : l.stackTraces = false) (D : va_G) (q : Nat → Nat) (cI : ClassId) (N : Nat → Nat) (S : Nat → Nat → Nat) (tr : Nat → Nat) (A : Nat → Prop) (hok : sp_ok N S) (hinv : sp_inv N S) (i1 i2 i3 : Int32) : vx_Met l yX0_mix wsX0_mix { frames := 7, cells := 1, slots := 6, locals := 102 } (va_Pc [.ref (q 0), .int i1, .int i2, .int i3] (fun U => xAt D q cI N S tr A U U.heap)) (gQx D q cI (fun r N2 S2 => sA_mix N S i1 i2 i3 = true ∧ sB_mix N S i1 i2 i3 = true ∧ sC_mix N S i1 i2 i3 = true ∧ r = nI (sR_mix N S i1 i2 i3) ∧ N2 = sN_mix N S i1 i2 i3 ∧ S2 = sS_mix N S i1 i2 i3) A) (gXx D q cI N S A (gE3 (sA_mix N S i1 i2 i3) (sB_mix N S i1 i2 i3) (sC_mix N S i1 i2 i3))) 1 6 A := by
  refine gc_vxmet [.ref (q 0), .int i1, .int i2, .int i3] (by decide) rfl (Nat.le_of_ble_eq_true rfl) rfl ?_
  intro p e s m below meth c ls G hx0 hl hX
  have hZ0 := hX.2.2.2
  have hS : va_S A s.heap s.heap [] := va_S.rf
  have hok9 := hok
  obtain ⟨⟨ok0, ok5⟩, ok1, ok2, ok3, ok4, ok6, ok7, ok8, ok12, ok13, ok14⟩ := hok9
  have hN := hinv.2.2.2.1
  have hN9 := hinv.2.2.1
  refine lv_iload_n G.1 G.2.1 dX0_mix_0 rfl (lv_at hl 1 rfl) ?_
  refine gc_needT (vx_runS (As := [.int i1]) (rest := []) G.fix (mX0_needInk l hst i1) (va_cwS 1 G.2.2.2.2.2.1 gX0_mix_X0_needInk rfl rfl rfl (by decide +kernel) ⟨Nat.le_of_ble_eq_true rfl, Nat.le_of_ble_eq_true rfl⟩) ⟨gZ_blind, fun U hU hW => ⟨rfl, by show gZ _ U U.heap; rw [hU]; exact hX.2.2.2.none.moved hW⟩⟩ rfl rfl hl.1 rfl (lv_room (Nat.le_of_ble_eq_true rfl)) dX0_mix_1 ⟨Nat.le_of_ble_eq_true rfl, Nat.le_of_ble_eq_true rfl⟩) hx0 G.2.2.2.2.2.2 (fun E t hE hz hk _ => ⟨Or.inl ⟨hE.1, (by simp [sA_mix, hE.2] <;> omega)⟩, gXx_of hX hS hz hk⟩) hS.2.2 (by decide) (by decide) (fun hA1 => ?_)
  obtain ⟨j1, hj1, rfl⟩ := gb_of (by omega) hA1
  have hg1 := gn_nI (show j1 < 2 ^ 31 by omega)
  refine lv_iload_n G.1 G.2.1 dX0_mix_4 rfl (lv_at hl 2 rfl) ?_
  refine gc_needT (vx_runS (As := [.int i2]) (rest := []) G.fix (mX0_needBand l hst i2) (va_cwS 1 G.2.2.2.2.2.1 gX0_mix_X0_needBand rfl rfl rfl (by decide +kernel) ⟨Nat.le_of_ble_eq_true rfl, Nat.le_of_ble_eq_true rfl⟩) ⟨gZ_blind, fun U hU hW => ⟨rfl, by show gZ _ U U.heap; rw [hU]; exact hX.2.2.2.none.moved hW⟩⟩ rfl rfl hl.1 rfl (lv_room (Nat.le_of_ble_eq_true rfl)) dX0_mix_5 ⟨Nat.le_of_ble_eq_true rfl, Nat.le_of_ble_eq_true rfl⟩) hx0 G.2.2.2.2.2.2 (fun E t hE hz hk _ => ⟨Or.inl ⟨hE.1, (by simp [sA_mix, hA1, hg1, hE.2] <;> omega)⟩, gXx_of hX hS hz hk⟩) hS.2.2 (by decide) (by decide) (fun hA2 => ?_)
  obtain ⟨j2, hj2, rfl⟩ := gb_of (by omega) hA2
  have hg2 := gn_nI (show j2 < 2 ^ 31 by omega)
  refine lv_iload_n G.1 G.2.1 dX0_mix_8 rfl (lv_at hl 3 rfl) ?_
  refine gc_needT (vx_runS (As := [.int i3]) (rest := []) G.fix (mX0_needValue l hst i3) (va_cwS 1 G.2.2.2.2.2.1 gX0_mix_X0_needValue rfl rfl rfl (by decide +kernel) ⟨Nat.le_of_ble_eq_true rfl, Nat.le_of_ble_eq_true rfl⟩) ⟨gZ_blind, fun U hU hW => ⟨rfl, by show gZ _ U U.heap; rw [hU]; exact hX.2.2.2.none.moved hW⟩⟩ rfl rfl hl.1 rfl (lv_room (Nat.le_of_ble_eq_true rfl)) dX0_mix_9 ⟨Nat.le_of_ble_eq_true rfl, Nat.le_of_ble_eq_true rfl⟩) hx0 G.2.2.2.2.2.2 (fun E t hE hz hk _ => ⟨Or.inr (Or.inl ⟨hE.1, (by simp [sA_mix, hA1, hA2, hg1, hg2]), (by simp [sB_mix, hg1, hg2, hE.2] <;> omega)⟩), gXx_of hX hS hz hk⟩) hS.2.2 (by decide) (by decide) (fun hB3 => ?_)
  obtain ⟨j3, hj3, rfl⟩ := gb_of (by omega) hB3
  have hg3 := gn_nI (show j3 < 2 ^ 31 by omega)
  refine lv_aload_n G.1 G.2.1 dX0_mix_12 rfl (lv_at hl 0 rfl) ?_
  refine gx_get G hX (by decide +kernel) 14 (by decide) (by decide +kernel) rfl rfl rfl dX0_mix_13 ?_
  refine lv_iload_n G.1 G.2.1 dX0_mix_16 rfl (lv_at hl 1 rfl) ?_
  refine lv_iconst (v := nI 3) G.1 G.2.1 dX0_mix_17 (by decide) ?_
  refine gn_imul G dX0_mix_18 ?_
  refine lv_iload_n G.1 G.2.1 dX0_mix_19 rfl (lv_at hl 2 rfl) ?_
  refine gn_iadd G dX0_mix_20 ?_
  refine lv_iload_n G.1 G.2.1 dX0_mix_21 rfl (lv_at hl 3 rfl) ?_
  refine gx_swap (k := 14) (kp := 11) (len := 9) (F := S 14) (i := (j1 * 3) + j2) (v := j3) (S' := (gs S 14 (gu (S 14) ((j1 * 3) + j2) j3))) (tr' := tr) (rest := []) G.fix (mX0_swap l D (q 14) cI 9 (S 14) ((j1 * 3) + j2) j3 (by first | omega | assumption)) (va_cwS 3 G.2.2.2.2.2.1 gX0_mix_X0_swap rfl rfl rfl (by decide +kernel) ⟨Nat.le_of_ble_eq_true rfl, Nat.le_of_ble_eq_true rfl⟩) hX hS rfl (rfl) hl.1 rfl (Nat.le_of_ble_eq_true rfl) dX0_mix_22 (Nat.zero_le _) (Nat.zero_le _) (fun H1 locs1 hX hS => ?_)
  exact vx_ret (W.widen (k := 1) (n := 6) (Nat.zero_le _) (Nat.zero_le _) (W.iret G.1 G.2.1 G.2.2.1 (fun t ht hW => gQx_of hX hS ht ⟨(by simp [sA_mix, hA1, hA2, hg1, hg2, hg3]), (by simp [sB_mix, hB3, hg1, hg2, hg3]), rfl, (by show nI _ = nI _; simp only [sR_mix, hg1, hg2, hg3]), (by simp only [sN_mix, hg1, hg2, hg3]), (by simp only [sS_mix, hg1, hg2, hg3])⟩) hS.2.2 dX0_mix_25 G.2.2.2.2.2.2))
set_option maxRecDepth 100000 in
set_option maxHeartbeats 4000000 in
/-- bend -/
theorem mX0_bend (l : Launch) (hst : l.stackTraces = false) (D : va_G) (q : Nat → Nat) (cI : ClassId) (N : Nat → Nat) (S : Nat → Nat → Nat) (tr : Nat → Nat) (A : Nat → Prop) (hok : sp_ok N S) (hinv : sp_inv N S) (i1 i2 i3 i4 : Int32) : vx_Met l yX0_bend wsX0_bend { frames := 7, cells := 1, slots := 6, locals := 103 } (va_Pc [.ref (q 0), .int i1, .int i2, .int i3, .int i4] (fun U => xAt D q cI N S tr A U U.heap)) (gQx D q cI (fun r N2 S2 => sA_bend N S i1 i2 i3 i4 = true ∧ sB_bend N S i1 i2 i3 i4 = true ∧ sC_bend N S i1 i2 i3 i4 = true ∧ r = nI (sR_bend N S i1 i2 i3 i4) ∧ N2 = sN_bend N S i1 i2 i3 i4 ∧ S2 = sS_bend N S i1 i2 i3 i4) A) (gXx D q cI N S A (gE3 (sA_bend N S i1 i2 i3 i4) (sB_bend N S i1 i2 i3 i4) (sC_bend N S i1 i2 i3 i4))) 1 6 A := by
  refine gc_vxmet [.ref (q 0), .int i1, .int i2, .int i3, .int i4] (by decide) rfl (Nat.le_of_ble_eq_true rfl) rfl ?_
  intro p e s m below meth c ls G hx0 hl hX
  have hZ0 := hX.2.2.2
  have hS : va_S A s.heap s.heap [] := va_S.rf
  have hok9 := hok
  obtain ⟨⟨ok0, ok5⟩, ok1, ok2, ok3, ok4, ok6, ok7, ok8, ok12, ok13, ok14⟩ := hok9
  have hN := hinv.2.2.2.1
  have hN9 := hinv.2.2.1
  refine lv_aload_n G.1 G.2.1 dX0_bend_0 rfl (lv_at hl 0 rfl) ?_
  refine lv_iload_n G.1 G.2.1 dX0_bend_1 rfl (lv_at hl 1 rfl) ?_
  refine gc_needT (vx_runV (As := [.int i1]) (rest := []) G.fix (mX0_needProfile l hst D q cI N S tr A hok i1) (cwV 1 G.2.2.2.2.2.1 gX0_bend_X0_needProfile rfl rfl rfl (by decide +kernel) ⟨Nat.le_of_ble_eq_true rfl, Nat.le_of_ble_eq_true rfl⟩) ⟨xAt_blind, va_recv hX.2.1 hX.1 (ci := 0) (q0 := 0) rfl rfl, fun U hU hW => ⟨rfl, by show xAt _ _ _ _ _ _ _ U U.heap; rw [hU]; exact hX.moved hW⟩⟩ rfl rfl hl.1 rfl (lv_room (Nat.le_of_ble_eq_true rfl)) dX0_bend_2 ⟨Nat.le_of_ble_eq_true rfl, Nat.le_of_ble_eq_true rfl⟩) hx0 G.2.2.2.2.2.2 (fun E t hE hz hk _ => ⟨Or.inl ⟨hE.1, (by simp [sA_bend, hE.2] <;> omega)⟩, gXx_of hX hS hz hk⟩) hS.2.2 (by decide) (by decide) (fun hA1 => ?_)
  obtain ⟨j1, hj1, rfl⟩ := gb_of (by omega) hA1
  have hg1 := gn_nI (show j1 < 2 ^ 31 by omega)
  refine lv_iload_n G.1 G.2.1 dX0_bend_5 rfl (lv_at hl 2 rfl) ?_
  refine gc_needT (vx_runS (As := [.int i2]) (rest := []) G.fix (mX0_needBand l hst i2) (va_cwS 1 G.2.2.2.2.2.1 gX0_bend_X0_needBand rfl rfl rfl (by decide +kernel) ⟨Nat.le_of_ble_eq_true rfl, Nat.le_of_ble_eq_true rfl⟩) ⟨gZ_blind, fun U hU hW => ⟨rfl, by show gZ _ U U.heap; rw [hU]; exact hX.2.2.2.none.moved hW⟩⟩ rfl rfl hl.1 rfl (lv_room (Nat.le_of_ble_eq_true rfl)) dX0_bend_6 ⟨Nat.le_of_ble_eq_true rfl, Nat.le_of_ble_eq_true rfl⟩) hx0 G.2.2.2.2.2.2 (fun E t hE hz hk _ => ⟨Or.inl ⟨hE.1, (by simp [sA_bend, hA1, hg1, hE.2] <;> omega)⟩, gXx_of hX hS hz hk⟩) hS.2.2 (by decide) (by decide) (fun hA2 => ?_)
  obtain ⟨j2, hj2, rfl⟩ := gb_of (by omega) hA2
  have hg2 := gn_nI (show j2 < 2 ^ 31 by omega)
  refine lv_iload_n G.1 G.2.1 dX0_bend_9 rfl (lv_at hl 3 rfl) ?_
  refine lv_if_lt (tgt := 18) G.1 G.2.1 dX0_bend_10 (by decide) (fun h_10 => ?_) (fun h_10 => ?_)
  · exact gx_throw (text := "no such place") G hx0 hst (by decide +kernel) (by decide +kernel) (by decide +kernel) (by decide +kernel) gx_not_IO gx_good_IO (by decide +kernel) hZ0 hS hl.1 dX0_bend_18 dX0_bend_21 dX0_bend_22 dX0_bend_24 dX0_bend_27 (Nat.le_of_ble_eq_true rfl) (Nat.le_of_ble_eq_true rfl) (Nat.le_of_ble_eq_true rfl) (Nat.le_of_ble_eq_true rfl) (fun t _ hz hk => ⟨Or.inl ⟨rfl, by have h9 : gb i3 5 = false := (by first | exact gb_neg (by assumption) | exact gb_nlt (by decide) (by assumption)); simp [sA_bend, h9]⟩, gXx_of hX hS hz hk⟩) hS.2.2 (by decide) (by decide)
  · refine lv_iload_n G.1 G.2.1 dX0_bend_13 rfl (lv_at hl 3 rfl) ?_
    refine lv_iconst (v := nI 5) G.1 G.2.1 dX0_bend_14 (by decide) ?_
    refine lv_icmp_lt (tgt := 28) G.1 G.2.1 dX0_bend_15 (by decide) (fun h_15 => ?_) (fun h_15 => ?_)
    · have hA3 : gb i3 5 = true := gb_in (by decide) h_10 h_15
      obtain ⟨j3, hj3, rfl⟩ := gb_of (by omega) hA3
      have hg3 := gn_nI (show j3 < 2 ^ 31 by omega)
      refine lv_iload G.1 G.2.1 dX0_bend_28 (lv_at hl 4 rfl) ?_
      refine gc_needT (vx_runS (As := [.int i4]) (rest := []) G.fix (mX0_needValue l hst i4) (va_cwS 1 G.2.2.2.2.2.1 gX0_bend_X0_needValue rfl rfl rfl (by decide +kernel) ⟨Nat.le_of_ble_eq_true rfl, Nat.le_of_ble_eq_true rfl⟩) ⟨gZ_blind, fun U hU hW => ⟨rfl, by show gZ _ U U.heap; rw [hU]; exact hX.2.2.2.none.moved hW⟩⟩ rfl rfl hl.1 rfl (lv_room (Nat.le_of_ble_eq_true rfl)) dX0_bend_30 ⟨Nat.le_of_ble_eq_true rfl, Nat.le_of_ble_eq_true rfl⟩) hx0 G.2.2.2.2.2.2 (fun E t hE hz hk _ => ⟨Or.inr (Or.inl ⟨hE.1, (by simp [sA_bend, hA1, hA2, hA3, hg1, hg2, hg3]), (by simp [sB_bend, hg1, hg2, hg3, hE.2] <;> omega)⟩), gXx_of hX hS hz hk⟩) hS.2.2 (by decide) (by decide) (fun hB4 => ?_)
      obtain ⟨j4, hj4, rfl⟩ := gb_of (by omega) hB4
      have hg4 := gn_nI (show j4 < 2 ^ 31 by omega)
      refine lv_aload_n G.1 G.2.1 dX0_bend_33 rfl (lv_at hl 0 rfl) ?_
      refine lv_iload_n G.1 G.2.1 dX0_bend_34 rfl (lv_at hl 1 rfl) ?_
      refine gc_needT (vx_runV (As := [.int (nI j1)]) (rest := []) G.fix (mX0_needFreeProfile l hst D q cI N S tr A hok hN j1 (by omega)) (cwV 1 G.2.2.2.2.2.1 gX0_bend_X0_needFreeProfile rfl rfl rfl (by decide +kernel) ⟨Nat.le_of_ble_eq_true rfl, Nat.le_of_ble_eq_true rfl⟩) ⟨xAt_blind, va_recv hX.2.1 hX.1 (ci := 0) (q0 := 0) rfl rfl, fun U hU hW => ⟨rfl, by show xAt _ _ _ _ _ _ _ U U.heap; rw [hU]; exact hX.moved hW⟩⟩ rfl rfl hl.1 rfl (lv_room (Nat.le_of_ble_eq_true rfl)) dX0_bend_35 ⟨Nat.le_of_ble_eq_true rfl, Nat.le_of_ble_eq_true rfl⟩) hx0 G.2.2.2.2.2.2 (fun E t hE hz hk _ => ⟨Or.inr (Or.inr ⟨hE.1, (by simp [sA_bend, hA1, hA2, hA3, hg1, hg2, hg3, hg4]), (by simp [sB_bend, hB4, hg1, hg2, hg3, hg4]), (by simp [sC_bend, hg1, hg2, hg3, hg4, hE.2] <;> omega)⟩), gXx_of hX hS hz hk⟩) hS.2.2 (by decide) (by decide) (fun hC1 => ?_)
      refine lv_aload_n G.1 G.2.1 dX0_bend_38 rfl (lv_at hl 0 rfl) ?_
      refine gx_get G hX (by decide +kernel) 1 (by decide) (by decide +kernel) rfl rfl rfl dX0_bend_39 ?_
      refine lv_iload_n G.1 G.2.1 dX0_bend_42 rfl (lv_at hl 1 rfl) ?_
      refine lv_iconst (v := nI 3) G.1 G.2.1 dX0_bend_43 (by decide) ?_
      refine gn_imul G dX0_bend_44 ?_
      refine lv_iload_n G.1 G.2.1 dX0_bend_45 rfl (lv_at hl 2 rfl) ?_
      refine gn_iadd G dX0_bend_46 ?_
      refine lv_iconst (v := nI 5) G.1 G.2.1 dX0_bend_47 (by decide) ?_
      refine gn_imul G dX0_bend_48 ?_
      refine lv_iload_n G.1 G.2.1 dX0_bend_49 rfl (lv_at hl 3 rfl) ?_
      refine gn_iadd G dX0_bend_50 ?_
      refine lv_iload G.1 G.2.1 dX0_bend_51 (lv_at hl 4 rfl) ?_
      refine gx_swap (k := 1) (kp := 1) (len := 120) (F := S 1) (i := (((j1 * 3) + j2) * 5) + j3) (v := j4) (S' := (gs S 1 (gu (S 1) ((((j1 * 3) + j2) * 5) + j3) j4))) (tr' := tr) (rest := []) G.fix (mX0_swap l D (q 1) cI 120 (S 1) ((((j1 * 3) + j2) * 5) + j3) j4 (by first | omega | assumption)) (va_cwS 3 G.2.2.2.2.2.1 gX0_bend_X0_swap rfl rfl rfl (by decide +kernel) ⟨Nat.le_of_ble_eq_true rfl, Nat.le_of_ble_eq_true rfl⟩) hX hS rfl (rfl) hl.1 rfl (Nat.le_of_ble_eq_true rfl) dX0_bend_53 (Nat.zero_le _) (Nat.zero_le _) (fun H1 locs1 hX hS => ?_)
      exact vx_ret (W.widen (k := 1) (n := 6) (Nat.zero_le _) (Nat.zero_le _) (W.iret G.1 G.2.1 G.2.2.1 (fun t ht hW => gQx_of hX hS ht ⟨(by simp [sA_bend, hA1, hA2, hA3, hg1, hg2, hg3, hg4]), (by simp [sB_bend, hB4, hg1, hg2, hg3, hg4]), (by simp [sC_bend, hC1, hg1, hg2, hg3, hg4]), (by show nI _ = nI _; simp only [sR_bend, hg1, hg2, hg3, hg4]), (by simp only [sN_bend, hg1, hg2, hg3, hg4]), (by simp only [sS_bend, hg1, hg2, hg3, hg4])⟩) hS.2.2 dX0_bend_56 G.2.2.2.2.2.2))
    · exact gx_throw (text := "no such place") G hx0 hst (by decide +kernel) (by decide +kernel) (by decide +kernel) (by decide +kernel) gx_not_IO gx_good_IO (by decide +kernel) hZ0 hS hl.1 dX0_bend_18 dX0_bend_21 dX0_bend_22 dX0_bend_24 dX0_bend_27 (Nat.le_of_ble_eq_true rfl) (Nat.le_of_ble_eq_true rfl) (Nat.le_of_ble_eq_true rfl) (Nat.le_of_ble_eq_true rfl) (fun t _ hz hk => ⟨Or.inl ⟨rfl, by have h9 : gb i3 5 = false := (by first | exact gb_neg (by assumption) | exact gb_nlt (by decide) (by assumption)); simp [sA_bend, h9]⟩, gXx_of hX hS hz hk⟩) hS.2.2 (by decide) (by decide)
set_option maxRecDepth 100000 in
set_option maxHeartbeats 4000000 in
/-- reach -/
theorem mX0_reach (l : Launch) (hst : l.stackTraces = false) (D : va_G) (q : Nat → Nat) (cI : ClassId) (N : Nat → Nat) (S : Nat → Nat → Nat) (tr : Nat → Nat) (A : Nat → Prop) (hok : sp_ok N S) (hinv : sp_inv N S) (i1 i2 i3 i4 : Int32) : vx_Met l yX0_reach wsX0_reach { frames := 7, cells := 1, slots := 6, locals := 103 } (va_Pc [.ref (q 0), .int i1, .int i2, .int i3, .int i4] (fun U => xAt D q cI N S tr A U U.heap)) (gQx D q cI (fun r N2 S2 => sA_reach N S i1 i2 i3 i4 = true ∧ sB_reach N S i1 i2 i3 i4 = true ∧ sC_reach N S i1 i2 i3 i4 = true ∧ r = nI (sR_reach N S i1 i2 i3 i4) ∧ N2 = sN_reach N S i1 i2 i3 i4 ∧ S2 = sS_reach N S i1 i2 i3 i4) A) (gXx D q cI N S A (gE3 (sA_reach N S i1 i2 i3 i4) (sB_reach N S i1 i2 i3 i4) (sC_reach N S i1 i2 i3 i4))) 1 6 A := by
  refine gc_vxmet [.ref (q 0), .int i1, .int i2, .int i3, .int i4] (by decide) rfl (Nat.le_of_ble_eq_true rfl) rfl ?_
  intro p e s m below meth c ls G hx0 hl hX
  have hZ0 := hX.2.2.2
  have hS : va_S A s.heap s.heap [] := va_S.rf
  have hok9 := hok
  obtain ⟨⟨ok0, ok5⟩, ok1, ok2, ok3, ok4, ok6, ok7, ok8, ok12, ok13, ok14⟩ := hok9
  have hN := hinv.2.2.2.1
  have hN9 := hinv.2.2.1
  refine lv_aload_n G.1 G.2.1 dX0_reach_0 rfl (lv_at hl 0 rfl) ?_
  refine lv_iload_n G.1 G.2.1 dX0_reach_1 rfl (lv_at hl 1 rfl) ?_
  refine gc_needT (vx_runV (As := [.int i1]) (rest := []) G.fix (mX0_needProfile l hst D q cI N S tr A hok i1) (cwV 1 G.2.2.2.2.2.1 gX0_reach_X0_needProfile rfl rfl rfl (by decide +kernel) ⟨Nat.le_of_ble_eq_true rfl, Nat.le_of_ble_eq_true rfl⟩) ⟨xAt_blind, va_recv hX.2.1 hX.1 (ci := 0) (q0 := 0) rfl rfl, fun U hU hW => ⟨rfl, by show xAt _ _ _ _ _ _ _ U U.heap; rw [hU]; exact hX.moved hW⟩⟩ rfl rfl hl.1 rfl (lv_room (Nat.le_of_ble_eq_true rfl)) dX0_reach_2 ⟨Nat.le_of_ble_eq_true rfl, Nat.le_of_ble_eq_true rfl⟩) hx0 G.2.2.2.2.2.2 (fun E t hE hz hk _ => ⟨Or.inl ⟨hE.1, (by simp [sA_reach, hE.2] <;> omega)⟩, gXx_of hX hS hz hk⟩) hS.2.2 (by decide) (by decide) (fun hA1 => ?_)
  obtain ⟨j1, hj1, rfl⟩ := gb_of (by omega) hA1
  have hg1 := gn_nI (show j1 < 2 ^ 31 by omega)
  refine lv_iload_n G.1 G.2.1 dX0_reach_5 rfl (lv_at hl 2 rfl) ?_
  refine gc_needT (vx_runS (As := [.int i2]) (rest := []) G.fix (mX0_needBand l hst i2) (va_cwS 1 G.2.2.2.2.2.1 gX0_reach_X0_needBand rfl rfl rfl (by decide +kernel) ⟨Nat.le_of_ble_eq_true rfl, Nat.le_of_ble_eq_true rfl⟩) ⟨gZ_blind, fun U hU hW => ⟨rfl, by show gZ _ U U.heap; rw [hU]; exact hX.2.2.2.none.moved hW⟩⟩ rfl rfl hl.1 rfl (lv_room (Nat.le_of_ble_eq_true rfl)) dX0_reach_6 ⟨Nat.le_of_ble_eq_true rfl, Nat.le_of_ble_eq_true rfl⟩) hx0 G.2.2.2.2.2.2 (fun E t hE hz hk _ => ⟨Or.inl ⟨hE.1, (by simp [sA_reach, hA1, hg1, hE.2] <;> omega)⟩, gXx_of hX hS hz hk⟩) hS.2.2 (by decide) (by decide) (fun hA2 => ?_)
  obtain ⟨j2, hj2, rfl⟩ := gb_of (by omega) hA2
  have hg2 := gn_nI (show j2 < 2 ^ 31 by omega)
  refine lv_iload_n G.1 G.2.1 dX0_reach_9 rfl (lv_at hl 3 rfl) ?_
  refine gc_needT (vx_runS (As := [.int i3]) (rest := []) G.fix (mX0_needValue l hst i3) (va_cwS 1 G.2.2.2.2.2.1 gX0_reach_X0_needValue rfl rfl rfl (by decide +kernel) ⟨Nat.le_of_ble_eq_true rfl, Nat.le_of_ble_eq_true rfl⟩) ⟨gZ_blind, fun U hU hW => ⟨rfl, by show gZ _ U U.heap; rw [hU]; exact hX.2.2.2.none.moved hW⟩⟩ rfl rfl hl.1 rfl (lv_room (Nat.le_of_ble_eq_true rfl)) dX0_reach_10 ⟨Nat.le_of_ble_eq_true rfl, Nat.le_of_ble_eq_true rfl⟩) hx0 G.2.2.2.2.2.2 (fun E t hE hz hk _ => ⟨Or.inr (Or.inl ⟨hE.1, (by simp [sA_reach, hA1, hA2, hg1, hg2]), (by simp [sB_reach, hg1, hg2, hE.2] <;> omega)⟩), gXx_of hX hS hz hk⟩) hS.2.2 (by decide) (by decide) (fun hB3 => ?_)
  obtain ⟨j3, hj3, rfl⟩ := gb_of (by omega) hB3
  have hg3 := gn_nI (show j3 < 2 ^ 31 by omega)
  refine lv_iload G.1 G.2.1 dX0_reach_13 (lv_at hl 4 rfl) ?_
  refine gc_needT (vx_runS (As := [.int i4]) (rest := []) G.fix (mX0_needValue l hst i4) (va_cwS 1 G.2.2.2.2.2.1 gX0_reach_X0_needValue rfl rfl rfl (by decide +kernel) ⟨Nat.le_of_ble_eq_true rfl, Nat.le_of_ble_eq_true rfl⟩) ⟨gZ_blind, fun U hU hW => ⟨rfl, by show gZ _ U U.heap; rw [hU]; exact hX.2.2.2.none.moved hW⟩⟩ rfl rfl hl.1 rfl (lv_room (Nat.le_of_ble_eq_true rfl)) dX0_reach_15 ⟨Nat.le_of_ble_eq_true rfl, Nat.le_of_ble_eq_true rfl⟩) hx0 G.2.2.2.2.2.2 (fun E t hE hz hk _ => ⟨Or.inr (Or.inl ⟨hE.1, (by simp [sA_reach, hA1, hA2, hg1, hg2, hg3]), (by simp [sB_reach, hB3, hg1, hg2, hg3, hE.2] <;> omega)⟩), gXx_of hX hS hz hk⟩) hS.2.2 (by decide) (by decide) (fun hB4 => ?_)
  obtain ⟨j4, hj4, rfl⟩ := gb_of (by omega) hB4
  have hg4 := gn_nI (show j4 < 2 ^ 31 by omega)
  refine lv_iload G.1 G.2.1 dX0_reach_18 (lv_at hl 4 rfl) ?_
  refine lv_iload_n G.1 G.2.1 dX0_reach_20 rfl (lv_at hl 3 rfl) ?_
  refine gn_ge G (by omega) (by omega) (tgt := 34) dX0_reach_21 (by decide) (fun h_21 => ?_) (fun h_21 => ?_)
  · refine lv_aload_n G.1 G.2.1 dX0_reach_34 rfl (lv_at hl 0 rfl) ?_
    refine lv_iload_n G.1 G.2.1 dX0_reach_35 rfl (lv_at hl 1 rfl) ?_
    refine gc_needT (vx_runV (As := [.int (nI j1)]) (rest := []) G.fix (mX0_needFreeProfile l hst D q cI N S tr A hok hN j1 (by omega)) (cwV 1 G.2.2.2.2.2.1 gX0_reach_X0_needFreeProfile rfl rfl rfl (by decide +kernel) ⟨Nat.le_of_ble_eq_true rfl, Nat.le_of_ble_eq_true rfl⟩) ⟨xAt_blind, va_recv hX.2.1 hX.1 (ci := 0) (q0 := 0) rfl rfl, fun U hU hW => ⟨rfl, by show xAt _ _ _ _ _ _ _ U U.heap; rw [hU]; exact hX.moved hW⟩⟩ rfl rfl hl.1 rfl (lv_room (Nat.le_of_ble_eq_true rfl)) dX0_reach_36 ⟨Nat.le_of_ble_eq_true rfl, Nat.le_of_ble_eq_true rfl⟩) hx0 G.2.2.2.2.2.2 (fun E t hE hz hk _ => ⟨Or.inr (Or.inr ⟨hE.1, (by simp [sA_reach, hA1, hA2, hg1, hg2, hg3, hg4]), (by simp [sB_reach, hB3, hB4, h_21, hg1, hg2, hg3, hg4]), (by simp [sC_reach, hg1, hg2, hg3, hg4, hE.2] <;> omega)⟩), gXx_of hX hS hz hk⟩) hS.2.2 (by decide) (by decide) (fun hC1 => ?_)
    refine lv_iload_n G.1 G.2.1 dX0_reach_39 rfl (lv_at hl 1 rfl) ?_
    refine lv_iconst (v := nI 3) G.1 G.2.1 dX0_reach_40 (by decide) ?_
    refine gn_imul G dX0_reach_41 ?_
    refine lv_iload_n G.1 G.2.1 dX0_reach_42 rfl (lv_at hl 2 rfl) ?_
    refine gn_iadd G dX0_reach_43 ?_
    refine lv_istore (lv' := [(5, .int (nI ((j1 * 3) + j2))), (0, .ref (q 0)), (1, .int (nI j1)), (2, .int (nI j2)), (3, .int (nI j3)), (4, .int (nI j4))]) G.1 G.2.1 dX0_reach_44 hl (by decide) rfl (fun ls hl => ?_)
    have hlt := ok2 (j1 * 3 + j2)
    refine lv_aload_n G.1 G.2.1 dX0_reach_46 rfl (lv_at hl 1 rfl) ?_
    refine gx_get G hX (by decide +kernel) 2 (by decide) (by decide +kernel) rfl rfl rfl dX0_reach_47 ?_
    refine lv_iload G.1 G.2.1 dX0_reach_50 (lv_at hl 0 rfl) ?_
    refine lv_iload_n G.1 G.2.1 dX0_reach_52 rfl (lv_at hl 4 rfl) ?_
    refine gx_swap (k := 2) (kp := 2) (len := 24) (F := S 2) (i := (j1 * 3) + j2) (v := j3) (S' := (gs S 2 (gu (S 2) ((j1 * 3) + j2) j3))) (tr' := tr) (rest := []) G.fix (mX0_swap l D (q 2) cI 24 (S 2) ((j1 * 3) + j2) j3 (by first | omega | assumption)) (va_cwS 3 G.2.2.2.2.2.1 gX0_reach_X0_swap rfl rfl rfl (by decide +kernel) ⟨Nat.le_of_ble_eq_true rfl, Nat.le_of_ble_eq_true rfl⟩) hX hS rfl (rfl) hl.1 rfl (Nat.le_of_ble_eq_true rfl) dX0_reach_53 (Nat.zero_le _) (Nat.zero_le _) (fun H1 locs1 hX hS => ?_)
    refine lv_istore (lv' := [(6, .int (nI (S 2 ((j1 * 3) + j2)))), (5, .int (nI ((j1 * 3) + j2))), (0, .ref (q 0)), (1, .int (nI j1)), (2, .int (nI j2)), (3, .int (nI j3)), (4, .int (nI j4))]) G.1 G.2.1 dX0_reach_56 hl (by decide) rfl (fun ls hl => ?_)
    refine lv_aload_n G.1 G.2.1 dX0_reach_58 rfl (lv_at hl 2 rfl) ?_
    refine gx_get G hX (by decide +kernel) 3 (by decide) (by decide +kernel) rfl rfl rfl dX0_reach_59 ?_
    refine lv_iload G.1 G.2.1 dX0_reach_62 (lv_at hl 1 rfl) ?_
    refine lv_iload G.1 G.2.1 dX0_reach_64 (lv_at hl 6 rfl) ?_
    refine gx_swap (k := 3) (kp := 3) (len := 24) (F := S 3) (i := (j1 * 3) + j2) (v := j4) (S' := (gs (gs S 2 (gu (S 2) ((j1 * 3) + j2) j3)) 3 (gu (S 3) ((j1 * 3) + j2) j4))) (tr' := tr) (rest := []) G.fix (mX0_swap l D (q 3) cI 24 (S 3) ((j1 * 3) + j2) j4 (by first | omega | assumption)) (va_cwS 3 G.2.2.2.2.2.1 gX0_reach_X0_swap rfl rfl rfl (by decide +kernel) ⟨Nat.le_of_ble_eq_true rfl, Nat.le_of_ble_eq_true rfl⟩) hX hS rfl (rfl) hl.1 rfl (Nat.le_of_ble_eq_true rfl) dX0_reach_66 (Nat.zero_le _) (Nat.zero_le _) (fun H1 locs1 hX hS => ?_)
    refine lv_istore (lv' := [(7, .int (nI (S 3 ((j1 * 3) + j2)))), (6, .int (nI (S 2 ((j1 * 3) + j2)))), (5, .int (nI ((j1 * 3) + j2))), (0, .ref (q 0)), (1, .int (nI j1)), (2, .int (nI j2)), (3, .int (nI j3)), (4, .int (nI j4))]) G.1 G.2.1 dX0_reach_69 hl (by decide) rfl (fun ls hl => ?_)
    refine lv_iload G.1 G.2.1 dX0_reach_71 (lv_at hl 0 rfl) ?_
    refine lv_iload G.1 G.2.1 dX0_reach_73 (lv_at hl 1 rfl) ?_
    refine gn_isub G dX0_reach_75 (by omega) ?_
    refine lv_iconst (v := nI 1) G.1 G.2.1 dX0_reach_76 (by decide) ?_
    refine gn_iadd G dX0_reach_77 ?_
    exact vx_ret (W.widen (k := 1) (n := 6) (Nat.zero_le _) (Nat.zero_le _) (W.iret G.1 G.2.1 G.2.2.1 (fun t ht hW => gQx_of hX hS ht ⟨(by simp [sA_reach, hA1, hA2, hg1, hg2, hg3, hg4]), (by simp [sB_reach, hB3, hB4, h_21, hg1, hg2, hg3, hg4]), (by simp [sC_reach, hC1, hg1, hg2, hg3, hg4]), (by show nI _ = nI _; simp only [sR_reach, hg1, hg2, hg3, hg4]), (by simp only [sN_reach, hg1, hg2, hg3, hg4]), (by simp only [sS_reach, hg1, hg2, hg3, hg4])⟩) hS.2.2 dX0_reach_78 G.2.2.2.2.2.2))
  · exact gx_throw (text := "the greatest is below the least") G hx0 hst (by decide +kernel) (by decide +kernel) (by decide +kernel) (by decide +kernel) gx_not_IA gx_good_IA (by decide +kernel) hZ0 hS hl.1 dX0_reach_24 dX0_reach_27 dX0_reach_28 dX0_reach_30 dX0_reach_33 (Nat.le_of_ble_eq_true rfl) (Nat.le_of_ble_eq_true rfl) (Nat.le_of_ble_eq_true rfl) (Nat.le_of_ble_eq_true rfl) (fun t _ hz hk => ⟨Or.inr (Or.inl ⟨rfl, (by simp [sA_reach, hA1, hA2, hg1, hg2, hg3, hg4]), by simp [sB_reach, hg3, hg4]; omega⟩), gXx_of hX hS hz hk⟩) hS.2.2 (by decide) (by decide)
set_option maxRecDepth 100000 in
set_option maxHeartbeats 4000000 in
/-- way -/
theorem mX0_way (l : Launch) (hst : l.stackTraces = false) (D : va_G) (q : Nat → Nat) (cI : ClassId) (N : Nat → Nat) (S : Nat → Nat → Nat) (tr : Nat → Nat) (A : Nat → Prop) (hok : sp_ok N S) (hinv : sp_inv N S) (i1 i2 : Int32) : vx_Met l yX0_way wsX0_way { frames := 7, cells := 1, slots := 6, locals := 103 } (va_Pc [.ref (q 0), .int i1, .int i2] (fun U => xAt D q cI N S tr A U U.heap)) (gQx D q cI (fun r N2 S2 => sA_way N S i1 i2 = true ∧ sB_way N S i1 i2 = true ∧ sC_way N S i1 i2 = true ∧ r = nI (sR_way N S i1 i2) ∧ N2 = sN_way N S i1 i2 ∧ S2 = sS_way N S i1 i2) A) (gXx D q cI N S A (gE3 (sA_way N S i1 i2) (sB_way N S i1 i2) (sC_way N S i1 i2))) 1 6 A := by
  refine gc_vxmet [.ref (q 0), .int i1, .int i2] (by decide) rfl (Nat.le_of_ble_eq_true rfl) rfl ?_
  intro p e s m below meth c ls G hx0 hl hX
  have hZ0 := hX.2.2.2
  have hS : va_S A s.heap s.heap [] := va_S.rf
  have hok9 := hok
  obtain ⟨⟨ok0, ok5⟩, ok1, ok2, ok3, ok4, ok6, ok7, ok8, ok12, ok13, ok14⟩ := hok9
  have hN := hinv.2.2.2.1
  have hN9 := hinv.2.2.1
  refine lv_aload_n G.1 G.2.1 dX0_way_0 rfl (lv_at hl 0 rfl) ?_
  refine lv_iload_n G.1 G.2.1 dX0_way_1 rfl (lv_at hl 1 rfl) ?_
  refine gc_needT (vx_runV (As := [.int i1]) (rest := []) G.fix (mX0_needProfile l hst D q cI N S tr A hok i1) (cwV 1 G.2.2.2.2.2.1 gX0_way_X0_needProfile rfl rfl rfl (by decide +kernel) ⟨Nat.le_of_ble_eq_true rfl, Nat.le_of_ble_eq_true rfl⟩) ⟨xAt_blind, va_recv hX.2.1 hX.1 (ci := 0) (q0 := 0) rfl rfl, fun U hU hW => ⟨rfl, by show xAt _ _ _ _ _ _ _ U U.heap; rw [hU]; exact hX.moved hW⟩⟩ rfl rfl hl.1 rfl (lv_room (Nat.le_of_ble_eq_true rfl)) dX0_way_2 ⟨Nat.le_of_ble_eq_true rfl, Nat.le_of_ble_eq_true rfl⟩) hx0 G.2.2.2.2.2.2 (fun E t hE hz hk _ => ⟨Or.inl ⟨hE.1, (by simp [sA_way, hE.2] <;> omega)⟩, gXx_of hX hS hz hk⟩) hS.2.2 (by decide) (by decide) (fun hA1 => ?_)
  obtain ⟨j1, hj1, rfl⟩ := gb_of (by omega) hA1
  have hg1 := gn_nI (show j1 < 2 ^ 31 by omega)
  refine lv_iload_n G.1 G.2.1 dX0_way_5 rfl (lv_at hl 2 rfl) ?_
  refine lv_if_eq (tgt := 29) G.1 G.2.1 dX0_way_6 (by decide) (fun h_6 => ?_) (fun h_6 => ?_)
  · have hB2 : gb i2 3 = true := by first | exact gb_is3 (Or.inl (by assumption)) | exact gb_is3 (Or.inr (Or.inl (by assumption))) | exact gb_is3 (Or.inr (Or.inr (by assumption)))
    obtain ⟨j2, hj2, rfl⟩ := gb_of (by omega) hB2
    have hg2 := gn_nI (show j2 < 2 ^ 31 by omega)
    refine lv_aload_n G.1 G.2.1 dX0_way_29 rfl (lv_at hl 0 rfl) ?_
    refine lv_iload_n G.1 G.2.1 dX0_way_30 rfl (lv_at hl 1 rfl) ?_
    refine gc_needT (vx_runV (As := [.int (nI j1)]) (rest := []) G.fix (mX0_needFreeProfile l hst D q cI N S tr A hok hN j1 (by omega)) (cwV 1 G.2.2.2.2.2.1 gX0_way_X0_needFreeProfile rfl rfl rfl (by decide +kernel) ⟨Nat.le_of_ble_eq_true rfl, Nat.le_of_ble_eq_true rfl⟩) ⟨xAt_blind, va_recv hX.2.1 hX.1 (ci := 0) (q0 := 0) rfl rfl, fun U hU hW => ⟨rfl, by show xAt _ _ _ _ _ _ _ U U.heap; rw [hU]; exact hX.moved hW⟩⟩ rfl rfl hl.1 rfl (lv_room (Nat.le_of_ble_eq_true rfl)) dX0_way_31 ⟨Nat.le_of_ble_eq_true rfl, Nat.le_of_ble_eq_true rfl⟩) hx0 G.2.2.2.2.2.2 (fun E t hE hz hk _ => ⟨Or.inr (Or.inr ⟨hE.1, (by simp [sA_way, hA1, hg1, hg2]), (by simp [sB_way, hB2, hg1, hg2]), (by simp [sC_way, hg1, hg2, hE.2] <;> omega)⟩), gXx_of hX hS hz hk⟩) hS.2.2 (by decide) (by decide) (fun hC1 => ?_)
    refine lv_aload_n G.1 G.2.1 dX0_way_34 rfl (lv_at hl 0 rfl) ?_
    refine gx_get G hX (by decide +kernel) 4 (by decide) (by decide +kernel) rfl rfl rfl dX0_way_35 ?_
    refine lv_iload_n G.1 G.2.1 dX0_way_38 rfl (lv_at hl 1 rfl) ?_
    refine lv_iload_n G.1 G.2.1 dX0_way_39 rfl (lv_at hl 2 rfl) ?_
    refine gx_swap (k := 4) (kp := 4) (len := 8) (F := S 4) (i := j1) (v := j2) (S' := (gs S 4 (gu (S 4) j1 j2))) (tr' := tr) (rest := []) G.fix (mX0_swap l D (q 4) cI 8 (S 4) j1 j2 (by first | omega | assumption)) (va_cwS 3 G.2.2.2.2.2.1 gX0_way_X0_swap rfl rfl rfl (by decide +kernel) ⟨Nat.le_of_ble_eq_true rfl, Nat.le_of_ble_eq_true rfl⟩) hX hS rfl (rfl) hl.1 rfl (Nat.le_of_ble_eq_true rfl) dX0_way_40 (Nat.zero_le _) (Nat.zero_le _) (fun H1 locs1 hX hS => ?_)
    exact vx_ret (W.widen (k := 1) (n := 6) (Nat.zero_le _) (Nat.zero_le _) (W.iret G.1 G.2.1 G.2.2.1 (fun t ht hW => gQx_of hX hS ht ⟨(by simp [sA_way, hA1, hg1, hg2]), (by simp [sB_way, hB2, hg1, hg2]), (by simp [sC_way, hC1, hg1, hg2]), (by show nI _ = nI _; simp only [sR_way, hg1, hg2]), (by simp only [sN_way, hg1, hg2]), (by simp only [sS_way, hg1, hg2])⟩) hS.2.2 dX0_way_43 G.2.2.2.2.2.2))
  · refine lv_iload_n G.1 G.2.1 dX0_way_9 rfl (lv_at hl 2 rfl) ?_
    refine lv_iconst (v := nI 1) G.1 G.2.1 dX0_way_10 (by decide) ?_
    refine lv_icmp_eq (tgt := 29) G.1 G.2.1 dX0_way_11 (by decide) (fun h_11 => ?_) (fun h_11 => ?_)
    · have hB2 : gb i2 3 = true := by first | exact gb_is3 (Or.inl (by assumption)) | exact gb_is3 (Or.inr (Or.inl (by assumption))) | exact gb_is3 (Or.inr (Or.inr (by assumption)))
      obtain ⟨j2, hj2, rfl⟩ := gb_of (by omega) hB2
      have hg2 := gn_nI (show j2 < 2 ^ 31 by omega)
      refine lv_aload_n G.1 G.2.1 dX0_way_29 rfl (lv_at hl 0 rfl) ?_
      refine lv_iload_n G.1 G.2.1 dX0_way_30 rfl (lv_at hl 1 rfl) ?_
      refine gc_needT (vx_runV (As := [.int (nI j1)]) (rest := []) G.fix (mX0_needFreeProfile l hst D q cI N S tr A hok hN j1 (by omega)) (cwV 1 G.2.2.2.2.2.1 gX0_way_X0_needFreeProfile rfl rfl rfl (by decide +kernel) ⟨Nat.le_of_ble_eq_true rfl, Nat.le_of_ble_eq_true rfl⟩) ⟨xAt_blind, va_recv hX.2.1 hX.1 (ci := 0) (q0 := 0) rfl rfl, fun U hU hW => ⟨rfl, by show xAt _ _ _ _ _ _ _ U U.heap; rw [hU]; exact hX.moved hW⟩⟩ rfl rfl hl.1 rfl (lv_room (Nat.le_of_ble_eq_true rfl)) dX0_way_31 ⟨Nat.le_of_ble_eq_true rfl, Nat.le_of_ble_eq_true rfl⟩) hx0 G.2.2.2.2.2.2 (fun E t hE hz hk _ => ⟨Or.inr (Or.inr ⟨hE.1, (by simp [sA_way, hA1, hg1, hg2]), (by simp [sB_way, hB2, hg1, hg2]), (by simp [sC_way, hg1, hg2, hE.2] <;> omega)⟩), gXx_of hX hS hz hk⟩) hS.2.2 (by decide) (by decide) (fun hC1 => ?_)
      refine lv_aload_n G.1 G.2.1 dX0_way_34 rfl (lv_at hl 0 rfl) ?_
      refine gx_get G hX (by decide +kernel) 4 (by decide) (by decide +kernel) rfl rfl rfl dX0_way_35 ?_
      refine lv_iload_n G.1 G.2.1 dX0_way_38 rfl (lv_at hl 1 rfl) ?_
      refine lv_iload_n G.1 G.2.1 dX0_way_39 rfl (lv_at hl 2 rfl) ?_
      refine gx_swap (k := 4) (kp := 4) (len := 8) (F := S 4) (i := j1) (v := j2) (S' := (gs S 4 (gu (S 4) j1 j2))) (tr' := tr) (rest := []) G.fix (mX0_swap l D (q 4) cI 8 (S 4) j1 j2 (by first | omega | assumption)) (va_cwS 3 G.2.2.2.2.2.1 gX0_way_X0_swap rfl rfl rfl (by decide +kernel) ⟨Nat.le_of_ble_eq_true rfl, Nat.le_of_ble_eq_true rfl⟩) hX hS rfl (rfl) hl.1 rfl (Nat.le_of_ble_eq_true rfl) dX0_way_40 (Nat.zero_le _) (Nat.zero_le _) (fun H1 locs1 hX hS => ?_)
      exact vx_ret (W.widen (k := 1) (n := 6) (Nat.zero_le _) (Nat.zero_le _) (W.iret G.1 G.2.1 G.2.2.1 (fun t ht hW => gQx_of hX hS ht ⟨(by simp [sA_way, hA1, hg1, hg2]), (by simp [sB_way, hB2, hg1, hg2]), (by simp [sC_way, hC1, hg1, hg2]), (by show nI _ = nI _; simp only [sR_way, hg1, hg2]), (by simp only [sN_way, hg1, hg2]), (by simp only [sS_way, hg1, hg2])⟩) hS.2.2 dX0_way_43 G.2.2.2.2.2.2))
    · refine lv_iload_n G.1 G.2.1 dX0_way_14 rfl (lv_at hl 2 rfl) ?_
      refine lv_iconst (v := nI 2) G.1 G.2.1 dX0_way_15 (by decide) ?_
      refine lv_icmp_eq (tgt := 29) G.1 G.2.1 dX0_way_16 (by decide) (fun h_16 => ?_) (fun h_16 => ?_)
      · have hB2 : gb i2 3 = true := by first | exact gb_is3 (Or.inl (by assumption)) | exact gb_is3 (Or.inr (Or.inl (by assumption))) | exact gb_is3 (Or.inr (Or.inr (by assumption)))
        obtain ⟨j2, hj2, rfl⟩ := gb_of (by omega) hB2
        have hg2 := gn_nI (show j2 < 2 ^ 31 by omega)
        refine lv_aload_n G.1 G.2.1 dX0_way_29 rfl (lv_at hl 0 rfl) ?_
        refine lv_iload_n G.1 G.2.1 dX0_way_30 rfl (lv_at hl 1 rfl) ?_
        refine gc_needT (vx_runV (As := [.int (nI j1)]) (rest := []) G.fix (mX0_needFreeProfile l hst D q cI N S tr A hok hN j1 (by omega)) (cwV 1 G.2.2.2.2.2.1 gX0_way_X0_needFreeProfile rfl rfl rfl (by decide +kernel) ⟨Nat.le_of_ble_eq_true rfl, Nat.le_of_ble_eq_true rfl⟩) ⟨xAt_blind, va_recv hX.2.1 hX.1 (ci := 0) (q0 := 0) rfl rfl, fun U hU hW => ⟨rfl, by show xAt _ _ _ _ _ _ _ U U.heap; rw [hU]; exact hX.moved hW⟩⟩ rfl rfl hl.1 rfl (lv_room (Nat.le_of_ble_eq_true rfl)) dX0_way_31 ⟨Nat.le_of_ble_eq_true rfl, Nat.le_of_ble_eq_true rfl⟩) hx0 G.2.2.2.2.2.2 (fun E t hE hz hk _ => ⟨Or.inr (Or.inr ⟨hE.1, (by simp [sA_way, hA1, hg1, hg2]), (by simp [sB_way, hB2, hg1, hg2]), (by simp [sC_way, hg1, hg2, hE.2] <;> omega)⟩), gXx_of hX hS hz hk⟩) hS.2.2 (by decide) (by decide) (fun hC1 => ?_)
        refine lv_aload_n G.1 G.2.1 dX0_way_34 rfl (lv_at hl 0 rfl) ?_
        refine gx_get G hX (by decide +kernel) 4 (by decide) (by decide +kernel) rfl rfl rfl dX0_way_35 ?_
        refine lv_iload_n G.1 G.2.1 dX0_way_38 rfl (lv_at hl 1 rfl) ?_
        refine lv_iload_n G.1 G.2.1 dX0_way_39 rfl (lv_at hl 2 rfl) ?_
        refine gx_swap (k := 4) (kp := 4) (len := 8) (F := S 4) (i := j1) (v := j2) (S' := (gs S 4 (gu (S 4) j1 j2))) (tr' := tr) (rest := []) G.fix (mX0_swap l D (q 4) cI 8 (S 4) j1 j2 (by first | omega | assumption)) (va_cwS 3 G.2.2.2.2.2.1 gX0_way_X0_swap rfl rfl rfl (by decide +kernel) ⟨Nat.le_of_ble_eq_true rfl, Nat.le_of_ble_eq_true rfl⟩) hX hS rfl (rfl) hl.1 rfl (Nat.le_of_ble_eq_true rfl) dX0_way_40 (Nat.zero_le _) (Nat.zero_le _) (fun H1 locs1 hX hS => ?_)
        exact vx_ret (W.widen (k := 1) (n := 6) (Nat.zero_le _) (Nat.zero_le _) (W.iret G.1 G.2.1 G.2.2.1 (fun t ht hW => gQx_of hX hS ht ⟨(by simp [sA_way, hA1, hg1, hg2]), (by simp [sB_way, hB2, hg1, hg2]), (by simp [sC_way, hC1, hg1, hg2]), (by show nI _ = nI _; simp only [sR_way, hg1, hg2]), (by simp only [sN_way, hg1, hg2]), (by simp only [sS_way, hg1, hg2])⟩) hS.2.2 dX0_way_43 G.2.2.2.2.2.2))
      · exact gx_throw (text := "no such way") G hx0 hst (by decide +kernel) (by decide +kernel) (by decide +kernel) (by decide +kernel) gx_not_IA gx_good_IA (by decide +kernel) hZ0 hS hl.1 dX0_way_19 dX0_way_22 dX0_way_23 dX0_way_25 dX0_way_28 (Nat.le_of_ble_eq_true rfl) (Nat.le_of_ble_eq_true rfl) (Nat.le_of_ble_eq_true rfl) (Nat.le_of_ble_eq_true rfl) (fun t _ hz hk => ⟨Or.inr (Or.inl ⟨rfl, (by simp [sA_way, hA1, hg1]), by show gb i2 3 = false; exact gb_not3 h_6 h_11 h_16⟩), gXx_of hX hS hz hk⟩) hS.2.2 (by decide) (by decide)
set_option maxRecDepth 100000 in
set_option maxHeartbeats 4000000 in
/-- chain -/
theorem mX0_chain (l : Launch) (hst : l.stackTraces = false) (D : va_G) (q : Nat → Nat) (cI : ClassId) (N : Nat → Nat) (S : Nat → Nat → Nat) (tr : Nat → Nat) (A : Nat → Prop) (hok : sp_ok N S) (hinv : sp_inv N S) : vx_Met l yX0_chain wsX0_chain { frames := 6, cells := 1, slots := 6, locals := 82 } (va_Pc [.ref (q 0)] (fun U => xAt D q cI N S tr A U U.heap)) (gQx D q cI (fun r N2 S2 => sA_chain N S = true ∧ sB_chain N S = true ∧ sC_chain N S = true ∧ r = nI (sR_chain N S) ∧ N2 = sN_chain N S ∧ S2 = sS_chain N S) A) (gXx D q cI N S A (gE3 (sA_chain N S) (sB_chain N S) (sC_chain N S))) 1 6 A := by
  refine gc_vxmet [.ref (q 0)] (by decide) rfl (Nat.le_of_ble_eq_true rfl) rfl ?_
  intro p e s m below meth c ls G hx0 hl hX
  have hZ0 := hX.2.2.2
  have hS : va_S A s.heap s.heap [] := va_S.rf
  have hok9 := hok
  obtain ⟨⟨ok0, ok5⟩, ok1, ok2, ok3, ok4, ok6, ok7, ok8, ok12, ok13, ok14⟩ := hok9
  have hN := hinv.2.2.2.1
  have hN9 := hinv.2.2.1
  refine lv_aload_n G.1 G.2.1 dX0_chain_0 rfl (lv_at hl 0 rfl) ?_
  refine gx_get G hX (by decide +kernel) 5 (by decide) (by decide +kernel) rfl rfl rfl dX0_chain_1 ?_
  refine lv_bipush (v := nI 6) G.1 G.2.1 dX0_chain_4 (by decide) ?_
  refine gn_lt G (by omega) (by omega) (tgt := 19) dX0_chain_6 (by decide) (fun h_6 => ?_) (fun h_6 => ?_)
  · refine lv_aload_n G.1 G.2.1 dX0_chain_19 rfl (lv_at hl 0 rfl) ?_
    refine gx_get G hX (by decide +kernel) 5 (by decide) (by decide +kernel) rfl rfl rfl dX0_chain_20 ?_
    refine lv_istore_n (lv' := [(1, .int (nI (N 5))), (0, .ref (q 0))]) G.1 G.2.1 dX0_chain_23 rfl hl (by decide) rfl (fun ls hl => ?_)
    refine lv_aload_n G.1 G.2.1 dX0_chain_24 rfl (lv_at hl 1 rfl) ?_
    refine lv_dup G.1 G.2.1 dX0_chain_25 rfl ?_
    refine gx_get G hX (by decide +kernel) 5 (by decide) (by decide +kernel) rfl rfl rfl dX0_chain_26 ?_
    refine lv_iconst (v := nI 1) G.1 G.2.1 dX0_chain_29 (by decide) ?_
    refine gn_iadd G dX0_chain_30 ?_
    refine gx_put (k := 5) (N' := (gu N 5 ((N 5) + 1))) G hZ0 hX hS (by decide +kernel) (by decide) (by decide +kernel) rfl rfl (by decide +kernel) rfl (Nat.le_of_ble_eq_true rfl) rfl dX0_chain_31 (fun H1 locs1 hX hS => ?_)
    refine lv_iload_n G.1 G.2.1 dX0_chain_34 rfl (lv_at hl 0 rfl) ?_
    exact vx_ret (W.widen (k := 1) (n := 6) (Nat.zero_le _) (Nat.zero_le _) (W.iret G.1 G.2.1 G.2.2.1 (fun t ht hW => gQx_of hX hS ht ⟨rfl, rfl, (by simp [sC_chain, h_6]), (by show nI _ = nI _; simp only [sR_chain]), (by simp only [sN_chain]), (by simp only [sS_chain])⟩) hS.2.2 dX0_chain_35 G.2.2.2.2.2.2))
  · exact gx_throw (text := "there are 6 chains") G hx0 hst (by decide +kernel) (by decide +kernel) (by decide +kernel) (by decide +kernel) gx_not_IS gx_good_IS (by decide +kernel) hZ0 hS hl.1 dX0_chain_9 dX0_chain_12 dX0_chain_13 dX0_chain_15 dX0_chain_18 (Nat.le_of_ble_eq_true rfl) (Nat.le_of_ble_eq_true rfl) (Nat.le_of_ble_eq_true rfl) (Nat.le_of_ble_eq_true rfl) (fun t _ hz hk => ⟨Or.inr (Or.inr ⟨rfl, rfl, rfl, (by simp [sC_chain, h_6] <;> omega)⟩), gXx_of hX hS hz hk⟩) hS.2.2 (by decide) (by decide)
set_option maxRecDepth 100000 in
set_option maxHeartbeats 4000000 in
/-- add -/
theorem mX0_add (l : Launch) (hst : l.stackTraces = false) (D : va_G) (q : Nat → Nat) (cI : ClassId) (N : Nat → Nat) (S : Nat → Nat → Nat) (tr : Nat → Nat) (A : Nat → Prop) (hok : sp_ok N S) (hinv : sp_inv N S) (i1 i2 : Int32) : vx_Met l yX0_add wsX0_add { frames := 7, cells := 1, slots := 6, locals := 103 } (va_Pc [.ref (q 0), .int i1, .int i2] (fun U => xAt D q cI N S tr A U U.heap)) (gQx D q cI (fun r N2 S2 => sA_add N S i1 i2 = true ∧ sB_add N S i1 i2 = true ∧ sC_add N S i1 i2 = true ∧ r = nI (sR_add N S i1 i2) ∧ N2 = sN_add N S i1 i2 ∧ S2 = sS_add N S i1 i2) A) (gXx D q cI N S A (gE3 (sA_add N S i1 i2) (sB_add N S i1 i2) (sC_add N S i1 i2))) 1 6 A := by
  refine gc_vxmet [.ref (q 0), .int i1, .int i2] (by decide) rfl (Nat.le_of_ble_eq_true rfl) rfl ?_
  intro p e s m below meth c ls G hx0 hl hX
  have hZ0 := hX.2.2.2
  have hS : va_S A s.heap s.heap [] := va_S.rf
  have hok9 := hok
  obtain ⟨⟨ok0, ok5⟩, ok1, ok2, ok3, ok4, ok6, ok7, ok8, ok12, ok13, ok14⟩ := hok9
  have hN := hinv.2.2.2.1
  have hN9 := hinv.2.2.1
  refine lv_aload_n G.1 G.2.1 dX0_add_0 rfl (lv_at hl 0 rfl) ?_
  refine lv_iload_n G.1 G.2.1 dX0_add_1 rfl (lv_at hl 1 rfl) ?_
  refine gc_needT (vx_runV (As := [.int i1]) (rest := []) G.fix (mX0_needChain l hst D q cI N S tr A hok i1) (cwV 1 G.2.2.2.2.2.1 gX0_add_X0_needChain rfl rfl rfl (by decide +kernel) ⟨Nat.le_of_ble_eq_true rfl, Nat.le_of_ble_eq_true rfl⟩) ⟨xAt_blind, va_recv hX.2.1 hX.1 (ci := 0) (q0 := 0) rfl rfl, fun U hU hW => ⟨rfl, by show xAt _ _ _ _ _ _ _ U U.heap; rw [hU]; exact hX.moved hW⟩⟩ rfl rfl hl.1 rfl (lv_room (Nat.le_of_ble_eq_true rfl)) dX0_add_2 ⟨Nat.le_of_ble_eq_true rfl, Nat.le_of_ble_eq_true rfl⟩) hx0 G.2.2.2.2.2.2 (fun E t hE hz hk _ => ⟨Or.inl ⟨hE.1, (by simp [sA_add, hE.2] <;> omega)⟩, gXx_of hX hS hz hk⟩) hS.2.2 (by decide) (by decide) (fun hA1 => ?_)
  obtain ⟨j1, hj1, rfl⟩ := gb_of (by omega) hA1
  have hg1 := gn_nI (show j1 < 2 ^ 31 by omega)
  refine lv_aload_n G.1 G.2.1 dX0_add_5 rfl (lv_at hl 0 rfl) ?_
  refine lv_iload_n G.1 G.2.1 dX0_add_6 rfl (lv_at hl 2 rfl) ?_
  refine gc_needT (vx_runV (As := [.int i2]) (rest := []) G.fix (mX0_needProfile l hst D q cI N S tr A hok i2) (cwV 1 G.2.2.2.2.2.1 gX0_add_X0_needProfile rfl rfl rfl (by decide +kernel) ⟨Nat.le_of_ble_eq_true rfl, Nat.le_of_ble_eq_true rfl⟩) ⟨xAt_blind, va_recv hX.2.1 hX.1 (ci := 0) (q0 := 0) rfl rfl, fun U hU hW => ⟨rfl, by show xAt _ _ _ _ _ _ _ U U.heap; rw [hU]; exact hX.moved hW⟩⟩ rfl rfl hl.1 rfl (lv_room (Nat.le_of_ble_eq_true rfl)) dX0_add_7 ⟨Nat.le_of_ble_eq_true rfl, Nat.le_of_ble_eq_true rfl⟩) hx0 G.2.2.2.2.2.2 (fun E t hE hz hk _ => ⟨Or.inl ⟨hE.1, (by simp [sA_add, hA1, hg1, hE.2] <;> omega)⟩, gXx_of hX hS hz hk⟩) hS.2.2 (by decide) (by decide) (fun hA2 => ?_)
  obtain ⟨j2, hj2, rfl⟩ := gb_of (by omega) hA2
  have hg2 := gn_nI (show j2 < 2 ^ 31 by omega)
  refine lv_aload_n G.1 G.2.1 dX0_add_10 rfl (lv_at hl 0 rfl) ?_
  refine lv_iload_n G.1 G.2.1 dX0_add_11 rfl (lv_at hl 1 rfl) ?_
  refine gc_needT (vx_runV (As := [.int (nI j1)]) (rest := []) G.fix (mX0_needFreeChain l hst D q cI N S tr A hok hN j1 (by omega)) (cwV 1 G.2.2.2.2.2.1 gX0_add_X0_needFreeChain rfl rfl rfl (by decide +kernel) ⟨Nat.le_of_ble_eq_true rfl, Nat.le_of_ble_eq_true rfl⟩) ⟨xAt_blind, va_recv hX.2.1 hX.1 (ci := 0) (q0 := 0) rfl rfl, fun U hU hW => ⟨rfl, by show xAt _ _ _ _ _ _ _ U U.heap; rw [hU]; exact hX.moved hW⟩⟩ rfl rfl hl.1 rfl (lv_room (Nat.le_of_ble_eq_true rfl)) dX0_add_12 ⟨Nat.le_of_ble_eq_true rfl, Nat.le_of_ble_eq_true rfl⟩) hx0 G.2.2.2.2.2.2 (fun E t hE hz hk _ => ⟨Or.inr (Or.inr ⟨hE.1, (by simp [sA_add, hA1, hA2, hg1, hg2]), rfl, (by simp [sC_add, hg1, hg2, hE.2] <;> omega)⟩), gXx_of hX hS hz hk⟩) hS.2.2 (by decide) (by decide) (fun hC1 => ?_)
  refine lv_aload_n G.1 G.2.1 dX0_add_15 rfl (lv_at hl 0 rfl) ?_
  refine gx_get G hX (by decide +kernel) 7 (by decide) (by decide +kernel) rfl rfl rfl dX0_add_16 ?_
  refine lv_iload_n G.1 G.2.1 dX0_add_19 rfl (lv_at hl 1 rfl) ?_
  refine gc_s (As := [.ref (q 7), .int (nI j1)]) (rest := []) G.fix (mX0_read l D (q 7) cI 6 (S 7) (j1) (by first | omega | assumption | exact ok6 _ | apply hq)) (va_cwS 2 G.2.2.2.2.2.1 gX0_add_X0_read rfl rfl rfl (by decide +kernel) ⟨Nat.le_of_ble_eq_true rfl, Nat.le_of_ble_eq_true rfl⟩) rAt_blind (fun U hU hW => by rw [hU]; exact (hX.row 6 rfl).moved hW) rfl hl.1 rfl (Nat.le_of_ble_eq_true rfl) dX0_add_20 (Nat.zero_le _) (Nat.zero_le _) (fun r hr => ?_)
  subst hr
  refine lv_istore_n (lv' := [(3, .int (nI (S 7 j1))), (0, .ref (q 0)), (1, .int (nI j1)), (2, .int (nI j2))]) G.1 G.2.1 dX0_add_23 rfl hl (by decide) rfl (fun ls hl => ?_)
  have hl6 := ok7 j1
  refine lv_iload_n G.1 G.2.1 dX0_add_24 rfl (lv_at hl 0 rfl) ?_
  refine lv_bipush (v := nI 6) G.1 G.2.1 dX0_add_25 (by decide) ?_
  refine gn_lt G (by omega) (by omega) (tgt := 40) dX0_add_27 (by decide) (fun h_27 => ?_) (fun h_27 => ?_)
  · refine lv_aload_n G.1 G.2.1 dX0_add_40 rfl (lv_at hl 1 rfl) ?_
    refine gx_get G hX (by decide +kernel) 6 (by decide) (by decide +kernel) rfl rfl rfl dX0_add_41 ?_
    refine lv_iload_n G.1 G.2.1 dX0_add_44 rfl (lv_at hl 2 rfl) ?_
    refine lv_bipush (v := nI 6) G.1 G.2.1 dX0_add_45 (by decide) ?_
    refine gn_imul G dX0_add_47 ?_
    refine lv_iload_n G.1 G.2.1 dX0_add_48 rfl (lv_at hl 0 rfl) ?_
    refine gn_iadd G dX0_add_49 ?_
    refine lv_iload_n G.1 G.2.1 dX0_add_50 rfl (lv_at hl 3 rfl) ?_
    refine gx_swap (k := 6) (kp := 5) (len := 36) (F := S 6) (i := (j1 * 6) + (S 7 j1)) (v := j2) (S' := (gs S 6 (gu (S 6) ((j1 * 6) + (S 7 j1)) j2))) (tr' := tr) (rest := []) G.fix (mX0_swap l D (q 6) cI 36 (S 6) ((j1 * 6) + (S 7 j1)) j2 (by first | omega | assumption)) (va_cwS 3 G.2.2.2.2.2.1 gX0_add_X0_swap rfl rfl rfl (by decide +kernel) ⟨Nat.le_of_ble_eq_true rfl, Nat.le_of_ble_eq_true rfl⟩) hX hS rfl (rfl) hl.1 rfl (Nat.le_of_ble_eq_true rfl) dX0_add_51 (Nat.zero_le _) (Nat.zero_le _) (fun H1 locs1 hX hS => ?_)
    refine lv_pop G.1 G.2.1 dX0_add_54 rfl ?_
    refine lv_aload_n G.1 G.2.1 dX0_add_55 rfl (lv_at hl 1 rfl) ?_
    refine gx_get G hX (by decide +kernel) 7 (by decide) (by decide +kernel) rfl rfl rfl dX0_add_56 ?_
    refine lv_iload_n G.1 G.2.1 dX0_add_59 rfl (lv_at hl 2 rfl) ?_
    refine lv_iload_n G.1 G.2.1 dX0_add_60 rfl (lv_at hl 0 rfl) ?_
    refine lv_iconst (v := nI 1) G.1 G.2.1 dX0_add_61 (by decide) ?_
    refine gn_iadd G dX0_add_62 ?_
    refine gx_swap (k := 7) (kp := 6) (len := 6) (F := S 7) (i := j1) (v := (S 7 j1) + 1) (S' := (gs (gs S 6 (gu (S 6) ((j1 * 6) + (S 7 j1)) j2)) 7 (gu (S 7) j1 ((S 7 j1) + 1)))) (tr' := tr) (rest := []) G.fix (mX0_swap l D (q 7) cI 6 (S 7) j1 ((S 7 j1) + 1) (by first | omega | assumption)) (va_cwS 3 G.2.2.2.2.2.1 gX0_add_X0_swap rfl rfl rfl (by decide +kernel) ⟨Nat.le_of_ble_eq_true rfl, Nat.le_of_ble_eq_true rfl⟩) hX hS rfl (rfl) hl.1 rfl (Nat.le_of_ble_eq_true rfl) dX0_add_63 (Nat.zero_le _) (Nat.zero_le _) (fun H1 locs1 hX hS => ?_)
    refine lv_pop G.1 G.2.1 dX0_add_66 rfl ?_
    refine lv_iload_n G.1 G.2.1 dX0_add_67 rfl (lv_at hl 0 rfl) ?_
    refine lv_iconst (v := nI 1) G.1 G.2.1 dX0_add_68 (by decide) ?_
    refine gn_iadd G dX0_add_69 ?_
    exact vx_ret (W.widen (k := 1) (n := 6) (Nat.zero_le _) (Nat.zero_le _) (W.iret G.1 G.2.1 G.2.2.1 (fun t ht hW => gQx_of hX hS ht ⟨(by simp [sA_add, hA1, hA2, hg1, hg2]), rfl, (by simp [sC_add, hC1, h_27, hg1, hg2]), (by show nI _ = nI _; simp only [sR_add, hg1, hg2]), (by simp only [sN_add, hg1, hg2]), (by simp only [sS_add, hg1, hg2])⟩) hS.2.2 dX0_add_70 G.2.2.2.2.2.2))
  · exact gx_throw (text := "the chain has 6 profiles") G hx0 hst (by decide +kernel) (by decide +kernel) (by decide +kernel) (by decide +kernel) gx_not_IS gx_good_IS (by decide +kernel) hZ0 hS hl.1 dX0_add_30 dX0_add_33 dX0_add_34 dX0_add_36 dX0_add_39 (Nat.le_of_ble_eq_true rfl) (Nat.le_of_ble_eq_true rfl) (Nat.le_of_ble_eq_true rfl) (Nat.le_of_ble_eq_true rfl) (fun t _ hz hk => ⟨Or.inr (Or.inr ⟨rfl, (by simp [sA_add, hA1, hA2, hg1, hg2]), rfl, (by simp [sC_add, hC1, hg1, hg2, h_27] <;> omega)⟩), gXx_of hX hS hz hk⟩) hS.2.2 (by decide) (by decide)
set_option maxRecDepth 100000 in
set_option maxHeartbeats 4000000 in
/-- drop -/
theorem mX0_drop (l : Launch) (hst : l.stackTraces = false) (D : va_G) (q : Nat → Nat) (cI : ClassId) (N : Nat → Nat) (S : Nat → Nat → Nat) (tr : Nat → Nat) (A : Nat → Prop) (hok : sp_ok N S) (hinv : sp_inv N S) (i1 : Int32) : vx_Met l yX0_drop wsX0_drop { frames := 7, cells := 1, slots := 6, locals := 103 } (va_Pc [.ref (q 0), .int i1] (fun U => xAt D q cI N S tr A U U.heap)) (gQx D q cI (fun r N2 S2 => sA_drop N S i1 = true ∧ sB_drop N S i1 = true ∧ sC_drop N S i1 = true ∧ r = nI (sR_drop N S i1) ∧ N2 = sN_drop N S i1 ∧ S2 = sS_drop N S i1) A) (gXx D q cI N S A (gE3 (sA_drop N S i1) (sB_drop N S i1) (sC_drop N S i1))) 1 6 A := by
  refine gc_vxmet [.ref (q 0), .int i1] (by decide) rfl (Nat.le_of_ble_eq_true rfl) rfl ?_
  intro p e s m below meth c ls G hx0 hl hX
  have hZ0 := hX.2.2.2
  have hS : va_S A s.heap s.heap [] := va_S.rf
  have hok9 := hok
  obtain ⟨⟨ok0, ok5⟩, ok1, ok2, ok3, ok4, ok6, ok7, ok8, ok12, ok13, ok14⟩ := hok9
  have hN := hinv.2.2.2.1
  have hN9 := hinv.2.2.1
  refine lv_aload_n G.1 G.2.1 dX0_drop_0 rfl (lv_at hl 0 rfl) ?_
  refine lv_iload_n G.1 G.2.1 dX0_drop_1 rfl (lv_at hl 1 rfl) ?_
  refine gc_needT (vx_runV (As := [.int i1]) (rest := []) G.fix (mX0_needChain l hst D q cI N S tr A hok i1) (cwV 1 G.2.2.2.2.2.1 gX0_drop_X0_needChain rfl rfl rfl (by decide +kernel) ⟨Nat.le_of_ble_eq_true rfl, Nat.le_of_ble_eq_true rfl⟩) ⟨xAt_blind, va_recv hX.2.1 hX.1 (ci := 0) (q0 := 0) rfl rfl, fun U hU hW => ⟨rfl, by show xAt _ _ _ _ _ _ _ U U.heap; rw [hU]; exact hX.moved hW⟩⟩ rfl rfl hl.1 rfl (lv_room (Nat.le_of_ble_eq_true rfl)) dX0_drop_2 ⟨Nat.le_of_ble_eq_true rfl, Nat.le_of_ble_eq_true rfl⟩) hx0 G.2.2.2.2.2.2 (fun E t hE hz hk _ => ⟨Or.inl ⟨hE.1, (by simp [sA_drop, hE.2] <;> omega)⟩, gXx_of hX hS hz hk⟩) hS.2.2 (by decide) (by decide) (fun hA1 => ?_)
  obtain ⟨j1, hj1, rfl⟩ := gb_of (by omega) hA1
  have hg1 := gn_nI (show j1 < 2 ^ 31 by omega)
  refine lv_aload_n G.1 G.2.1 dX0_drop_5 rfl (lv_at hl 0 rfl) ?_
  refine lv_iload_n G.1 G.2.1 dX0_drop_6 rfl (lv_at hl 1 rfl) ?_
  refine gc_needT (vx_runV (As := [.int (nI j1)]) (rest := []) G.fix (mX0_needFreeChain l hst D q cI N S tr A hok hN j1 (by omega)) (cwV 1 G.2.2.2.2.2.1 gX0_drop_X0_needFreeChain rfl rfl rfl (by decide +kernel) ⟨Nat.le_of_ble_eq_true rfl, Nat.le_of_ble_eq_true rfl⟩) ⟨xAt_blind, va_recv hX.2.1 hX.1 (ci := 0) (q0 := 0) rfl rfl, fun U hU hW => ⟨rfl, by show xAt _ _ _ _ _ _ _ U U.heap; rw [hU]; exact hX.moved hW⟩⟩ rfl rfl hl.1 rfl (lv_room (Nat.le_of_ble_eq_true rfl)) dX0_drop_7 ⟨Nat.le_of_ble_eq_true rfl, Nat.le_of_ble_eq_true rfl⟩) hx0 G.2.2.2.2.2.2 (fun E t hE hz hk _ => ⟨Or.inr (Or.inr ⟨hE.1, (by simp [sA_drop, hA1, hg1]), rfl, (by simp [sC_drop, hg1, hE.2] <;> omega)⟩), gXx_of hX hS hz hk⟩) hS.2.2 (by decide) (by decide) (fun hC1 => ?_)
  refine lv_aload_n G.1 G.2.1 dX0_drop_10 rfl (lv_at hl 0 rfl) ?_
  refine gx_get G hX (by decide +kernel) 7 (by decide) (by decide +kernel) rfl rfl rfl dX0_drop_11 ?_
  refine lv_iload_n G.1 G.2.1 dX0_drop_14 rfl (lv_at hl 1 rfl) ?_
  refine gc_s (As := [.ref (q 7), .int (nI j1)]) (rest := []) G.fix (mX0_read l D (q 7) cI 6 (S 7) (j1) (by first | omega | assumption | exact ok6 _ | apply hq)) (va_cwS 2 G.2.2.2.2.2.1 gX0_drop_X0_read rfl rfl rfl (by decide +kernel) ⟨Nat.le_of_ble_eq_true rfl, Nat.le_of_ble_eq_true rfl⟩) rAt_blind (fun U hU hW => by rw [hU]; exact (hX.row 6 rfl).moved hW) rfl hl.1 rfl (Nat.le_of_ble_eq_true rfl) dX0_drop_15 (Nat.zero_le _) (Nat.zero_le _) (fun r hr => ?_)
  subst hr
  refine lv_istore_n (lv' := [(2, .int (nI (S 7 j1))), (0, .ref (q 0)), (1, .int (nI j1))]) G.1 G.2.1 dX0_drop_18 rfl hl (by decide) rfl (fun ls hl => ?_)
  have hl6 := ok7 j1
  refine lv_iload_n G.1 G.2.1 dX0_drop_19 rfl (lv_at hl 0 rfl) ?_
  refine gn_gtz G (by omega) (tgt := 33) dX0_drop_20 (by decide) (fun h_20 => ?_) (fun h_20 => ?_)
  · refine lv_aload_n G.1 G.2.1 dX0_drop_33 rfl (lv_at hl 1 rfl) ?_
    refine gx_get G hX (by decide +kernel) 7 (by decide) (by decide +kernel) rfl rfl rfl dX0_drop_34 ?_
    refine lv_iload_n G.1 G.2.1 dX0_drop_37 rfl (lv_at hl 2 rfl) ?_
    refine lv_iload_n G.1 G.2.1 dX0_drop_38 rfl (lv_at hl 0 rfl) ?_
    refine lv_iconst (v := nI 1) G.1 G.2.1 dX0_drop_39 (by decide) ?_
    refine gn_isub G dX0_drop_40 (by omega) ?_
    refine gx_swap (k := 7) (kp := 6) (len := 6) (F := S 7) (i := j1) (v := (S 7 j1) - 1) (S' := (gs S 7 (gu (S 7) j1 ((S 7 j1) - 1)))) (tr' := tr) (rest := []) G.fix (mX0_swap l D (q 7) cI 6 (S 7) j1 ((S 7 j1) - 1) (by first | omega | assumption)) (va_cwS 3 G.2.2.2.2.2.1 gX0_drop_X0_swap rfl rfl rfl (by decide +kernel) ⟨Nat.le_of_ble_eq_true rfl, Nat.le_of_ble_eq_true rfl⟩) hX hS rfl (rfl) hl.1 rfl (Nat.le_of_ble_eq_true rfl) dX0_drop_41 (Nat.zero_le _) (Nat.zero_le _) (fun H1 locs1 hX hS => ?_)
    refine lv_pop G.1 G.2.1 dX0_drop_44 rfl ?_
    refine lv_aload_n G.1 G.2.1 dX0_drop_45 rfl (lv_at hl 1 rfl) ?_
    refine gx_get G hX (by decide +kernel) 6 (by decide) (by decide +kernel) rfl rfl rfl dX0_drop_46 ?_
    refine lv_iload_n G.1 G.2.1 dX0_drop_49 rfl (lv_at hl 2 rfl) ?_
    refine lv_bipush (v := nI 6) G.1 G.2.1 dX0_drop_50 (by decide) ?_
    refine gn_imul G dX0_drop_52 ?_
    refine lv_iload_n G.1 G.2.1 dX0_drop_53 rfl (lv_at hl 0 rfl) ?_
    refine gn_iadd G dX0_drop_54 ?_
    refine lv_iconst (v := nI 1) G.1 G.2.1 dX0_drop_55 (by decide) ?_
    refine gn_isub G dX0_drop_56 (by omega) ?_
    refine gc_s (As := [.ref (q 6), .int (nI (((j1 * 6) + (S 7 j1)) - 1))]) (rest := []) G.fix (mX0_read l D (q 6) cI 36 (S 6) (((j1 * 6) + (S 7 j1)) - 1) (by first | omega | assumption | exact ok6 _ | apply hq)) (va_cwS 2 G.2.2.2.2.2.1 gX0_drop_X0_read rfl rfl rfl (by decide +kernel) ⟨Nat.le_of_ble_eq_true rfl, Nat.le_of_ble_eq_true rfl⟩) rAt_blind (fun U hU hW => by rw [hU]; exact (hX.row 5 rfl).moved hW) rfl hl.1 rfl (Nat.le_of_ble_eq_true rfl) dX0_drop_57 (Nat.zero_le _) (Nat.zero_le _) (fun r hr => ?_)
    subst hr
    exact vx_ret (W.widen (k := 1) (n := 6) (Nat.zero_le _) (Nat.zero_le _) (W.iret G.1 G.2.1 G.2.2.1 (fun t ht hW => gQx_of hX hS ht ⟨(by simp [sA_drop, hA1, hg1]), rfl, (by simp [sC_drop, hC1, h_20, hg1]), (by show nI _ = nI _; simp only [sR_drop, hg1]), (by simp only [sN_drop, hg1]), (by simp only [sS_drop, hg1])⟩) hS.2.2 dX0_drop_60 G.2.2.2.2.2.2))
  · exact gx_throw (text := "the chain has no profile") G hx0 hst (by decide +kernel) (by decide +kernel) (by decide +kernel) (by decide +kernel) gx_not_IS gx_good_IS (by decide +kernel) hZ0 hS hl.1 dX0_drop_23 dX0_drop_26 dX0_drop_27 dX0_drop_29 dX0_drop_32 (Nat.le_of_ble_eq_true rfl) (Nat.le_of_ble_eq_true rfl) (Nat.le_of_ble_eq_true rfl) (Nat.le_of_ble_eq_true rfl) (fun t _ hz hk => ⟨Or.inr (Or.inr ⟨rfl, (by simp [sA_drop, hA1, hg1]), rfl, (by simp [sC_drop, hC1, hg1, h_20] <;> omega)⟩), gXx_of hX hS hz hk⟩) hS.2.2 (by decide) (by decide)
set_option maxRecDepth 100000 in
set_option maxHeartbeats 4000000 in
/-- joined -/
theorem mX0_joined (l : Launch) (hst : l.stackTraces = false) (D : va_G) (q : Nat → Nat) (cI : ClassId) (N : Nat → Nat) (S : Nat → Nat → Nat) (tr : Nat → Nat) (A : Nat → Prop) (hok : sp_ok N S) (hinv : sp_inv N S) (i1 i2 i3 : Int32) : vx_Met l yX0_joined wsX0_joined { frames := 7, cells := 1, slots := 6, locals := 103 } (va_Pc [.ref (q 0), .int i1, .int i2, .int i3] (fun U => xAt D q cI N S tr A U U.heap)) (gQx D q cI (fun r N2 S2 => sA_joined N S i1 i2 i3 = true ∧ sB_joined N S i1 i2 i3 = true ∧ sC_joined N S i1 i2 i3 = true ∧ r = nI (sR_joined N S i1 i2 i3) ∧ N2 = sN_joined N S i1 i2 i3 ∧ S2 = sS_joined N S i1 i2 i3) A) (gXx D q cI N S A (gE3 (sA_joined N S i1 i2 i3) (sB_joined N S i1 i2 i3) (sC_joined N S i1 i2 i3))) 1 6 A := by
  refine gc_vxmet [.ref (q 0), .int i1, .int i2, .int i3] (by decide) rfl (Nat.le_of_ble_eq_true rfl) rfl ?_
  intro p e s m below meth c ls G hx0 hl hX
  have hZ0 := hX.2.2.2
  have hS : va_S A s.heap s.heap [] := va_S.rf
  have hok9 := hok
  obtain ⟨⟨ok0, ok5⟩, ok1, ok2, ok3, ok4, ok6, ok7, ok8, ok12, ok13, ok14⟩ := hok9
  have hN := hinv.2.2.2.1
  have hN9 := hinv.2.2.1
  refine lv_aload_n G.1 G.2.1 dX0_joined_0 rfl (lv_at hl 0 rfl) ?_
  refine lv_iload_n G.1 G.2.1 dX0_joined_1 rfl (lv_at hl 1 rfl) ?_
  refine gc_needT (vx_runV (As := [.int i1]) (rest := []) G.fix (mX0_needChain l hst D q cI N S tr A hok i1) (cwV 1 G.2.2.2.2.2.1 gX0_joined_X0_needChain rfl rfl rfl (by decide +kernel) ⟨Nat.le_of_ble_eq_true rfl, Nat.le_of_ble_eq_true rfl⟩) ⟨xAt_blind, va_recv hX.2.1 hX.1 (ci := 0) (q0 := 0) rfl rfl, fun U hU hW => ⟨rfl, by show xAt _ _ _ _ _ _ _ U U.heap; rw [hU]; exact hX.moved hW⟩⟩ rfl rfl hl.1 rfl (lv_room (Nat.le_of_ble_eq_true rfl)) dX0_joined_2 ⟨Nat.le_of_ble_eq_true rfl, Nat.le_of_ble_eq_true rfl⟩) hx0 G.2.2.2.2.2.2 (fun E t hE hz hk _ => ⟨Or.inl ⟨hE.1, (by simp [sA_joined, hE.2] <;> omega)⟩, gXx_of hX hS hz hk⟩) hS.2.2 (by decide) (by decide) (fun hA1 => ?_)
  obtain ⟨j1, hj1, rfl⟩ := gb_of (by omega) hA1
  have hg1 := gn_nI (show j1 < 2 ^ 31 by omega)
  refine lv_iload_n G.1 G.2.1 dX0_joined_5 rfl (lv_at hl 2 rfl) ?_
  refine gc_needT (vx_runS (As := [.int i2]) (rest := []) G.fix (mX0_needBand l hst i2) (va_cwS 1 G.2.2.2.2.2.1 gX0_joined_X0_needBand rfl rfl rfl (by decide +kernel) ⟨Nat.le_of_ble_eq_true rfl, Nat.le_of_ble_eq_true rfl⟩) ⟨gZ_blind, fun U hU hW => ⟨rfl, by show gZ _ U U.heap; rw [hU]; exact hX.2.2.2.none.moved hW⟩⟩ rfl rfl hl.1 rfl (lv_room (Nat.le_of_ble_eq_true rfl)) dX0_joined_6 ⟨Nat.le_of_ble_eq_true rfl, Nat.le_of_ble_eq_true rfl⟩) hx0 G.2.2.2.2.2.2 (fun E t hE hz hk _ => ⟨Or.inl ⟨hE.1, (by simp [sA_joined, hA1, hg1, hE.2] <;> omega)⟩, gXx_of hX hS hz hk⟩) hS.2.2 (by decide) (by decide) (fun hA2 => ?_)
  obtain ⟨j2, hj2, rfl⟩ := gb_of (by omega) hA2
  have hg2 := gn_nI (show j2 < 2 ^ 31 by omega)
  refine lv_iload_n G.1 G.2.1 dX0_joined_9 rfl (lv_at hl 3 rfl) ?_
  refine gc_needT (vx_runS (As := [.int i3]) (rest := []) G.fix (mX0_needValue l hst i3) (va_cwS 1 G.2.2.2.2.2.1 gX0_joined_X0_needValue rfl rfl rfl (by decide +kernel) ⟨Nat.le_of_ble_eq_true rfl, Nat.le_of_ble_eq_true rfl⟩) ⟨gZ_blind, fun U hU hW => ⟨rfl, by show gZ _ U U.heap; rw [hU]; exact hX.2.2.2.none.moved hW⟩⟩ rfl rfl hl.1 rfl (lv_room (Nat.le_of_ble_eq_true rfl)) dX0_joined_10 ⟨Nat.le_of_ble_eq_true rfl, Nat.le_of_ble_eq_true rfl⟩) hx0 G.2.2.2.2.2.2 (fun E t hE hz hk _ => ⟨Or.inr (Or.inl ⟨hE.1, (by simp [sA_joined, hA1, hA2, hg1, hg2]), (by simp [sB_joined, hg1, hg2, hE.2] <;> omega)⟩), gXx_of hX hS hz hk⟩) hS.2.2 (by decide) (by decide) (fun hB3 => ?_)
  obtain ⟨j3, hj3, rfl⟩ := gb_of (by omega) hB3
  have hg3 := gn_nI (show j3 < 2 ^ 31 by omega)
  refine lv_aload_n G.1 G.2.1 dX0_joined_13 rfl (lv_at hl 0 rfl) ?_
  refine gx_get G hX (by decide +kernel) 9 (by decide) (by decide +kernel) rfl rfl rfl dX0_joined_14 ?_
  refine lv_iload_n G.1 G.2.1 dX0_joined_17 rfl (lv_at hl 1 rfl) ?_
  refine gc_s (As := [.int (nI (N 9)), .int (nI j1)]) (rest := []) G.fix (mX0_hasBit l (N 9) j1 (by first | omega | assumption | exact ok6 _ | apply hq) (by omega)) (va_cwS 2 G.2.2.2.2.2.1 gX0_joined_X0_hasBit rfl rfl rfl (by decide +kernel) ⟨Nat.le_of_ble_eq_true rfl, Nat.le_of_ble_eq_true rfl⟩) gc_blindT (fun _ _ _ => trivial) rfl hl.1 rfl (Nat.le_of_ble_eq_true rfl) dX0_joined_18 (Nat.zero_le _) (Nat.zero_le _) (fun r hr => ?_)
  subst hr
  refine gn_nez G (by exact sp_b31 _ _) (tgt := 34) dX0_joined_21 (by decide) (fun h_21 => ?_) (fun h_21 => ?_)
  · have hb8 := sp_bit_lt (N 9) j1
    have hC1 : sp_bit (N 9) j1 = 1 := by omega
    have hb2 : S 8 ((j1 * 3 + j2) * 5 + j3 / 64) ≤ 255 ∧ S 8 ((j1 * 3 + j2) * 5 + j3 / 64 + 1) ≤ 255 := ⟨ok8 _, ok8 _⟩
    refine lv_aload_n G.1 G.2.1 dX0_joined_34 rfl (lv_at hl 0 rfl) ?_
    refine gx_get G hX (by decide +kernel) 8 (by decide) (by decide +kernel) rfl rfl rfl dX0_joined_35 ?_
    refine lv_iload_n G.1 G.2.1 dX0_joined_38 rfl (lv_at hl 1 rfl) ?_
    refine lv_iconst (v := nI 3) G.1 G.2.1 dX0_joined_39 (by decide) ?_
    refine gn_imul G dX0_joined_40 ?_
    refine lv_iload_n G.1 G.2.1 dX0_joined_41 rfl (lv_at hl 2 rfl) ?_
    refine gn_iadd G dX0_joined_42 ?_
    refine lv_iconst (v := nI 5) G.1 G.2.1 dX0_joined_43 (by decide) ?_
    refine gn_imul G dX0_joined_44 ?_
    refine lv_iload_n G.1 G.2.1 dX0_joined_45 rfl (lv_at hl 3 rfl) ?_
    refine gc_s (As := [.ref (q 8), .int (nI (((j1 * 3) + j2) * 5)), .int (nI j3)]) (rest := []) G.fix (mX0_between l D (q 8) cI 90 (S 8) (((j1 * 3) + j2) * 5) j3 (by first | omega | assumption | exact ok6 _ | apply hq) (by first | omega | assumption | exact ok6 _ | apply hq) (by first | assumption | (intro j; omega))) (va_cwS 3 G.2.2.2.2.2.1 gX0_joined_X0_between rfl rfl rfl (by decide +kernel) ⟨Nat.le_of_ble_eq_true rfl, Nat.le_of_ble_eq_true rfl⟩) rAt_blind (fun U hU hW => by rw [hU]; exact (hX.row 7 rfl).moved hW) rfl hl.1 rfl (Nat.le_of_ble_eq_true rfl) dX0_joined_46 (Nat.zero_le _) (Nat.zero_le _) (fun r hr => ?_)
    subst hr
    exact vx_ret (W.widen (k := 1) (n := 6) (Nat.zero_le _) (Nat.zero_le _) (W.iret G.1 G.2.1 G.2.2.1 (fun t ht hW => gQx_of hX hS ht ⟨(by simp [sA_joined, hA1, hA2, hg1, hg2, hg3]), (by simp [sB_joined, hB3, hg1, hg2, hg3]), (by simp [sC_joined, hC1, hg1, hg2, hg3]), (by show nI _ = nI _; simp only [sR_joined, hg1, hg2, hg3]), (by simp only [sN_joined, hg1, hg2, hg3]), (by simp only [sS_joined, hg1, hg2, hg3])⟩) hS.2.2 dX0_joined_49 G.2.2.2.2.2.2))
  · exact gx_throw (text := "the chain is not joined") G hx0 hst (by decide +kernel) (by decide +kernel) (by decide +kernel) (by decide +kernel) gx_not_IS gx_good_IS (by decide +kernel) hZ0 hS hl.1 dX0_joined_24 dX0_joined_27 dX0_joined_28 dX0_joined_30 dX0_joined_33 (Nat.le_of_ble_eq_true rfl) (Nat.le_of_ble_eq_true rfl) (Nat.le_of_ble_eq_true rfl) (Nat.le_of_ble_eq_true rfl) (fun t _ hz hk => ⟨Or.inr (Or.inr ⟨rfl, (by simp [sA_joined, hA1, hA2, hg1, hg2, hg3]), (by simp [sB_joined, hB3, hg1, hg2, hg3]), (by simp [sC_joined, hg1, hg2, hg3, h_21] <;> omega)⟩), gXx_of hX hS hz hk⟩) hS.2.2 (by decide) (by decide)
set_option maxRecDepth 100000 in
set_option maxHeartbeats 4000000 in
/-- sign -/
theorem mX0_sign (l : Launch) (hst : l.stackTraces = false) (D : va_G) (q : Nat → Nat) (cI : ClassId) (N : Nat → Nat) (S : Nat → Nat → Nat) (tr : Nat → Nat) (A : Nat → Prop) (hok : sp_ok N S) (hinv : sp_inv N S) (i1 : Int32) : vx_Met l yX0_sign wsX0_sign { frames := 7, cells := 1, slots := 6, locals := 103 } (va_Pc [.ref (q 0), .int i1] (fun U => xAt D q cI N S tr A U U.heap)) (gQx D q cI (fun r N2 S2 => sA_sign N S i1 = true ∧ sB_sign N S i1 = true ∧ sC_sign N S i1 = true ∧ r = nI (sR_sign N S i1) ∧ N2 = sN_sign N S i1 ∧ S2 = sS_sign N S i1) A) (gXx D q cI N S A (gE3 (sA_sign N S i1) (sB_sign N S i1) (sC_sign N S i1))) 1 6 A := by
  refine gc_vxmet [.ref (q 0), .int i1] (by decide) rfl (Nat.le_of_ble_eq_true rfl) rfl ?_
  intro p e s m below meth c ls G hx0 hl hX
  have hZ0 := hX.2.2.2
  have hS : va_S A s.heap s.heap [] := va_S.rf
  have hok9 := hok
  obtain ⟨⟨ok0, ok5⟩, ok1, ok2, ok3, ok4, ok6, ok7, ok8, ok12, ok13, ok14⟩ := hok9
  have hN := hinv.2.2.2.1
  have hN9 := hinv.2.2.1
  refine lv_aload_n G.1 G.2.1 dX0_sign_0 rfl (lv_at hl 0 rfl) ?_
  refine lv_iload_n G.1 G.2.1 dX0_sign_1 rfl (lv_at hl 1 rfl) ?_
  refine gc_needT (vx_runV (As := [.int i1]) (rest := []) G.fix (mX0_needChain l hst D q cI N S tr A hok i1) (cwV 1 G.2.2.2.2.2.1 gX0_sign_X0_needChain rfl rfl rfl (by decide +kernel) ⟨Nat.le_of_ble_eq_true rfl, Nat.le_of_ble_eq_true rfl⟩) ⟨xAt_blind, va_recv hX.2.1 hX.1 (ci := 0) (q0 := 0) rfl rfl, fun U hU hW => ⟨rfl, by show xAt _ _ _ _ _ _ _ U U.heap; rw [hU]; exact hX.moved hW⟩⟩ rfl rfl hl.1 rfl (lv_room (Nat.le_of_ble_eq_true rfl)) dX0_sign_2 ⟨Nat.le_of_ble_eq_true rfl, Nat.le_of_ble_eq_true rfl⟩) hx0 G.2.2.2.2.2.2 (fun E t hE hz hk _ => ⟨Or.inl ⟨hE.1, (by simp [sA_sign, hE.2] <;> omega)⟩, gXx_of hX hS hz hk⟩) hS.2.2 (by decide) (by decide) (fun hA1 => ?_)
  obtain ⟨j1, hj1, rfl⟩ := gb_of (by omega) hA1
  have hg1 := gn_nI (show j1 < 2 ^ 31 by omega)
  refine lv_aload_n G.1 G.2.1 dX0_sign_5 rfl (lv_at hl 0 rfl) ?_
  have hxl : N 10 ^^^ 2 ^ j1 < 2 ^ 31 := Nat.lt_trans (Nat.xor_lt_two_pow (n := 6) hN (Nat.pow_lt_pow_right (by decide) (by omega))) (by decide)
  refine lv_aload_n G.1 G.2.1 dX0_sign_6 rfl (lv_at hl 0 rfl) ?_
  refine gx_get G hX (by decide +kernel) 10 (by decide) (by decide +kernel) rfl rfl rfl dX0_sign_7 ?_
  refine lv_iconst (v := nI 1) G.1 G.2.1 dX0_sign_10 (by decide) ?_
  refine lv_iload_n G.1 G.2.1 dX0_sign_11 rfl (lv_at hl 1 rfl) ?_
  refine gn_ishl G dX0_sign_12 (by omega) ?_
  refine gn_ixor G dX0_sign_13 ?_
  refine gx_put (k := 10) (N' := (gu N 10 ((N 10) ^^^ (2 ^ j1)))) G hZ0 hX hS (by decide +kernel) (by decide) (by decide +kernel) rfl rfl (by decide +kernel) rfl (Nat.le_of_ble_eq_true rfl) rfl dX0_sign_14 (fun H1 locs1 hX hS => ?_)
  refine lv_aload_n G.1 G.2.1 dX0_sign_17 rfl (lv_at hl 0 rfl) ?_
  refine gx_get G hX (by decide +kernel) 10 (by decide) (by decide +kernel) rfl rfl rfl dX0_sign_18 ?_
  refine lv_iload_n G.1 G.2.1 dX0_sign_21 rfl (lv_at hl 1 rfl) ?_
  refine gc_s (As := [.int (nI (((N 10) ^^^ (2 ^ j1)))), .int (nI j1)]) (rest := []) G.fix (mX0_hasBit l (((N 10) ^^^ (2 ^ j1))) j1 (by first | omega | assumption | exact ok6 _ | apply hq) (by omega)) (va_cwS 2 G.2.2.2.2.2.1 gX0_sign_X0_hasBit rfl rfl rfl (by decide +kernel) ⟨Nat.le_of_ble_eq_true rfl, Nat.le_of_ble_eq_true rfl⟩) gc_blindT (fun _ _ _ => trivial) rfl hl.1 rfl (Nat.le_of_ble_eq_true rfl) dX0_sign_22 (Nat.zero_le _) (Nat.zero_le _) (fun r hr => ?_)
  subst hr
  have hX := xAt_free10 (F := gu (S 10) j1 (1 - S 10 j1)) hX
  exact vx_ret (W.widen (k := 1) (n := 6) (Nat.zero_le _) (Nat.zero_le _) (W.zret G.1 G.2.1 G.2.2.1 (gp_narrow_z _ _) (fun t ht hW => gQx_of hX hS ht ⟨(by simp [sA_sign, hA1, hg1]), rfl, rfl, (by show nI _ = nI _; rw [sR_sign, hg1]; exact congrArg nI (sp_xor_bit _ _)), (by simp only [sN_sign, hg1]), (by simp only [sS_sign, hg1])⟩) hS.2.2 dX0_sign_25 G.2.2.2.2.2.2))
set_option maxRecDepth 100000 in
set_option maxHeartbeats 4000000 in
/-- shown -/
theorem mX0_shown (l : Launch) (hst : l.stackTraces = false) (D : va_G) (q : Nat → Nat) (cI : ClassId) (N : Nat → Nat) (S : Nat → Nat → Nat) (tr : Nat → Nat) (A : Nat → Prop) (hok : sp_ok N S) (hinv : sp_inv N S) (i1 i2 i3 i4 : Int32) : vx_Met l yX0_shown wsX0_shown { frames := 7, cells := 1, slots := 6, locals := 124 } (va_Pc [.ref (q 0), .int i1, .int i2, .int i3, .int i4] (fun U => xAt D q cI N S tr A U U.heap)) (gQx D q cI (fun r N2 S2 => sA_shown N S i1 i2 i3 i4 = true ∧ sB_shown N S i1 i2 i3 i4 = true ∧ sC_shown N S i1 i2 i3 i4 = true ∧ r = nI (sR_shown N S i1 i2 i3 i4) ∧ N2 = sN_shown N S i1 i2 i3 i4 ∧ S2 = sS_shown N S i1 i2 i3 i4) A) (gXx D q cI N S A (gE3 (sA_shown N S i1 i2 i3 i4) (sB_shown N S i1 i2 i3 i4) (sC_shown N S i1 i2 i3 i4))) 1 6 A := by
  refine gc_vxmet [.ref (q 0), .int i1, .int i2, .int i3, .int i4] (by decide) rfl (Nat.le_of_ble_eq_true rfl) rfl ?_
  intro p e s m below meth c ls G hx0 hl hX
  have hZ0 := hX.2.2.2
  have hS : va_S A s.heap s.heap [] := va_S.rf
  have hok9 := hok
  obtain ⟨⟨ok0, ok5⟩, ok1, ok2, ok3, ok4, ok6, ok7, ok8, ok12, ok13, ok14⟩ := hok9
  have hN := hinv.2.2.2.1
  have hN9 := hinv.2.2.1
  refine lv_aload_n G.1 G.2.1 dX0_shown_0 rfl (lv_at hl 0 rfl) ?_
  refine lv_iload_n G.1 G.2.1 dX0_shown_1 rfl (lv_at hl 1 rfl) ?_
  refine gc_needT (vx_runV (As := [.int i1]) (rest := []) G.fix (mX0_needChain l hst D q cI N S tr A hok i1) (cwV 1 G.2.2.2.2.2.1 gX0_shown_X0_needChain rfl rfl rfl (by decide +kernel) ⟨Nat.le_of_ble_eq_true rfl, Nat.le_of_ble_eq_true rfl⟩) ⟨xAt_blind, va_recv hX.2.1 hX.1 (ci := 0) (q0 := 0) rfl rfl, fun U hU hW => ⟨rfl, by show xAt _ _ _ _ _ _ _ U U.heap; rw [hU]; exact hX.moved hW⟩⟩ rfl rfl hl.1 rfl (lv_room (Nat.le_of_ble_eq_true rfl)) dX0_shown_2 ⟨Nat.le_of_ble_eq_true rfl, Nat.le_of_ble_eq_true rfl⟩) hx0 G.2.2.2.2.2.2 (fun E t hE hz hk _ => ⟨Or.inl ⟨hE.1, (by simp [sA_shown, hE.2] <;> omega)⟩, gXx_of hX hS hz hk⟩) hS.2.2 (by decide) (by decide) (fun hA1 => ?_)
  obtain ⟨j1, hj1, rfl⟩ := gb_of (by omega) hA1
  have hg1 := gn_nI (show j1 < 2 ^ 31 by omega)
  refine lv_iload_n G.1 G.2.1 dX0_shown_5 rfl (lv_at hl 2 rfl) ?_
  refine gc_needT (vx_runS (As := [.int i2]) (rest := []) G.fix (mX0_needPixel l hst i2) (va_cwS 1 G.2.2.2.2.2.1 gX0_shown_X0_needPixel rfl rfl rfl (by decide +kernel) ⟨Nat.le_of_ble_eq_true rfl, Nat.le_of_ble_eq_true rfl⟩) ⟨gZ_blind, fun U hU hW => ⟨rfl, by show gZ _ U U.heap; rw [hU]; exact hX.2.2.2.none.moved hW⟩⟩ rfl rfl hl.1 rfl (lv_room (Nat.le_of_ble_eq_true rfl)) dX0_shown_6 ⟨Nat.le_of_ble_eq_true rfl, Nat.le_of_ble_eq_true rfl⟩) hx0 G.2.2.2.2.2.2 (fun E t hE hz hk _ => ⟨Or.inl ⟨hE.1, (by simp [sA_shown, hA1, hg1, hE.2] <;> omega)⟩, gXx_of hX hS hz hk⟩) hS.2.2 (by decide) (by decide) (fun hA2 => ?_)
  obtain ⟨j2, hj2, rfl⟩ := gb_of (by omega) hA2
  have hg2 := gn_nI (show j2 < 2 ^ 31 by omega)
  refine lv_iload_n G.1 G.2.1 dX0_shown_9 rfl (lv_at hl 3 rfl) ?_
  refine gc_needT (vx_runS (As := [.int i3]) (rest := []) G.fix (mX0_needBand l hst i3) (va_cwS 1 G.2.2.2.2.2.1 gX0_shown_X0_needBand rfl rfl rfl (by decide +kernel) ⟨Nat.le_of_ble_eq_true rfl, Nat.le_of_ble_eq_true rfl⟩) ⟨gZ_blind, fun U hU hW => ⟨rfl, by show gZ _ U U.heap; rw [hU]; exact hX.2.2.2.none.moved hW⟩⟩ rfl rfl hl.1 rfl (lv_room (Nat.le_of_ble_eq_true rfl)) dX0_shown_10 ⟨Nat.le_of_ble_eq_true rfl, Nat.le_of_ble_eq_true rfl⟩) hx0 G.2.2.2.2.2.2 (fun E t hE hz hk _ => ⟨Or.inl ⟨hE.1, (by simp [sA_shown, hA1, hA2, hg1, hg2, hE.2] <;> omega)⟩, gXx_of hX hS hz hk⟩) hS.2.2 (by decide) (by decide) (fun hA3 => ?_)
  obtain ⟨j3, hj3, rfl⟩ := gb_of (by omega) hA3
  have hg3 := gn_nI (show j3 < 2 ^ 31 by omega)
  refine lv_iload G.1 G.2.1 dX0_shown_13 (lv_at hl 4 rfl) ?_
  refine lv_if_lt (tgt := 25) G.1 G.2.1 dX0_shown_15 (by decide) (fun h_15 => ?_) (fun h_15 => ?_)
  · exact gx_throw (text := "no such set of inks") G hx0 hst (by decide +kernel) (by decide +kernel) (by decide +kernel) (by decide +kernel) gx_not_IA gx_good_IA (by decide +kernel) hZ0 hS hl.1 dX0_shown_25 dX0_shown_28 dX0_shown_29 dX0_shown_31 dX0_shown_34 (Nat.le_of_ble_eq_true rfl) (Nat.le_of_ble_eq_true rfl) (Nat.le_of_ble_eq_true rfl) (Nat.le_of_ble_eq_true rfl) (fun t _ hz hk => ⟨Or.inr (Or.inl ⟨rfl, (by simp [sA_shown, hA1, hA2, hA3, hg1, hg2, hg3]), by show gb i4 8 = false; first | exact gb_neg (by assumption) | exact gb_nle7 (by assumption)⟩), gXx_of hX hS hz hk⟩) hS.2.2 (by decide) (by decide)
  · refine lv_iload G.1 G.2.1 dX0_shown_18 (lv_at hl 4 rfl) ?_
    refine lv_bipush (v := nI 7) G.1 G.2.1 dX0_shown_20 (by decide) ?_
    refine lv_icmp_le (tgt := 35) G.1 G.2.1 dX0_shown_22 (by decide) (fun h_22 => ?_) (fun h_22 => ?_)
    · have hB4 : gb i4 8 = true := gb_le7 h_15 h_22
      obtain ⟨j4, hj4, rfl⟩ := gb_of (by omega) hB4
      have hg4 := gn_nI (show j4 < 2 ^ 31 by omega)
      have hq := sp_ink_le (px := j2) (bd := j3) (ks := j4) hok
      refine lv_aload_n G.1 G.2.1 dX0_shown_35 rfl (lv_at hl 0 rfl) ?_
      refine lv_iload_n G.1 G.2.1 dX0_shown_36 rfl (lv_at hl 1 rfl) ?_
      refine lv_iload_n G.1 G.2.1 dX0_shown_37 rfl (lv_at hl 3 rfl) ?_
      refine lv_aload_n G.1 G.2.1 dX0_shown_38 rfl (lv_at hl 0 rfl) ?_
      refine lv_iload_n G.1 G.2.1 dX0_shown_39 rfl (lv_at hl 2 rfl) ?_
      refine lv_iload_n G.1 G.2.1 dX0_shown_40 rfl (lv_at hl 3 rfl) ?_
      refine lv_iload G.1 G.2.1 dX0_shown_41 (lv_at hl 4 rfl) ?_
      refine gc_v (As := [.int (nI j2), .int (nI j3), .int (nI j4)]) (rest := [.int (nI j3), .int (nI j1), .ref (q 0)]) G.fix (mX0_inked l D q cI N S tr A j2 j3 j4 hok (by first | omega | assumption | exact ok6 _ | apply hq) (by first | omega | assumption | exact ok6 _ | apply hq) (by first | omega | assumption | exact ok6 _ | apply hq)) (cwV 3 G.2.2.2.2.2.1 gX0_shown_X0_inked rfl rfl rfl (by decide +kernel) ⟨Nat.le_of_ble_eq_true rfl, Nat.le_of_ble_eq_true rfl⟩) xAt_blind (va_recv hX.2.1 hX.1 (ci := 0) (q0 := 0) rfl rfl) (fun U hU hW => by rw [hU]; exact hX.moved hW) rfl hl.1 rfl (Nat.le_of_ble_eq_true rfl) dX0_shown_43 (Nat.zero_le _) (Nat.zero_le _) (fun r hr => ?_)
      subst hr
      refine gc_v (As := [.int (nI j1), .int (nI j3), .int (nI (sp_ink S j2 j3 j4))]) (rest := []) G.fix (mX0_pass l D q cI N S tr A j1 j3 (sp_ink S j2 j3 j4) hok (by first | omega | assumption | exact ok6 _ | apply hq) (by first | omega | assumption | exact ok6 _ | apply hq) (by first | omega | assumption | exact ok6 _ | apply hq)) (cwV 3 G.2.2.2.2.2.1 gX0_shown_X0_pass rfl rfl rfl (by decide +kernel) ⟨Nat.le_of_ble_eq_true rfl, Nat.le_of_ble_eq_true rfl⟩) xAt_blind (va_recv hX.2.1 hX.1 (ci := 0) (q0 := 0) rfl rfl) (fun U hU hW => by rw [hU]; exact hX.moved hW) rfl hl.1 rfl (Nat.le_of_ble_eq_true rfl) dX0_shown_46 (Nat.zero_le _) (Nat.zero_le _) (fun r hr => ?_)
      subst hr
      exact vx_ret (W.widen (k := 1) (n := 6) (Nat.zero_le _) (Nat.zero_le _) (W.iret G.1 G.2.1 G.2.2.1 (fun t ht hW => gQx_of hX hS ht ⟨(by simp [sA_shown, hA1, hA2, hA3, hg1, hg2, hg3, hg4]), (by simp [sB_shown, hB4, hg1, hg2, hg3, hg4]), rfl, (by show nI _ = nI _; simp only [sR_shown, hg1, hg2, hg3, hg4]), (by simp only [sN_shown, hg1, hg2, hg3, hg4]), (by simp only [sS_shown, hg1, hg2, hg3, hg4])⟩) hS.2.2 dX0_shown_49 G.2.2.2.2.2.2))
    · exact gx_throw (text := "no such set of inks") G hx0 hst (by decide +kernel) (by decide +kernel) (by decide +kernel) (by decide +kernel) gx_not_IA gx_good_IA (by decide +kernel) hZ0 hS hl.1 dX0_shown_25 dX0_shown_28 dX0_shown_29 dX0_shown_31 dX0_shown_34 (Nat.le_of_ble_eq_true rfl) (Nat.le_of_ble_eq_true rfl) (Nat.le_of_ble_eq_true rfl) (Nat.le_of_ble_eq_true rfl) (fun t _ hz hk => ⟨Or.inr (Or.inl ⟨rfl, (by simp [sA_shown, hA1, hA2, hA3, hg1, hg2, hg3]), by show gb i4 8 = false; first | exact gb_neg (by assumption) | exact gb_nle7 (by assumption)⟩), gXx_of hX hS hz hk⟩) hS.2.2 (by decide) (by decide)
