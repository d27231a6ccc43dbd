/-! THE LAW's OWN METHODS that only read -/
set_option maxRecDepth 100000 in
set_option maxHeartbeats 1000000 in
theorem mL_some (l : Launch) (x : Int32) (n : Nat) (h0 : 0 < n) (hn : n < 2 ^ 31) : Met l yL_some wsL_some { frames := 0, cells := 0, slots := 0, locals := 0 } (va_Pc [.int x, .int (nI n)] (fun _ => True)) (vp_Si (fun r => ∃ k : Nat, k < n ∧ r = nI k)) 0 0 (fun _ => False) := by
  refine gc_met [.int x, .int (nI n)] (by decide) rfl (Nat.le_of_ble_eq_true rfl) rfl ?_
  intro p e s m below meth c ls G hl _
  refine lv_iload_n G.1 G.2.1 dL_some_0 rfl (lv_at hl 0 rfl) ?_
  refine lv_iconst (v := nI 2) G.1 G.2.1 dL_some_1 (by decide) ?_
  obtain ⟨u, hu, eu⟩ := lg_ushr2 x
  refine lv_iushr (v := nI u) G.1 G.2.1 dL_some_2 eu ?_
  refine lv_iload_n G.1 G.2.1 dL_some_3 rfl (lv_at hl 1 rfl) ?_
  refine gn_irem G dL_some_4 (by omega) (by omega) (by omega) ?_
  exact W.iret G.1 G.2.1 G.2.2.1 (fun t ht hW => ⟨_, rfl, ⟨_, Nat.mod_lt _ h0, rfl⟩, ht⟩) (fun q h => nomatch h) dL_some_5 G.2.2.2.2.2.2
set_option maxRecDepth 100000 in
set_option maxHeartbeats 1000000 in
theorem mL_at (l : Launch) (j : Nat) (hj : j ≤ 4) : Met l yL_at wsL_at { frames := 0, cells := 0, slots := 0, locals := 0 } (va_Pc [.int (nI j)] (fun _ => True)) (vp_Si (fun r => r = nI (sp_vop j))) 0 0 (fun _ => False) := by
  refine gc_met [.int (nI j)] (by decide) rfl (Nat.le_of_ble_eq_true rfl) rfl ?_
  intro p e s m below meth c ls G hl _
  refine lv_iload_n G.1 G.2.1 dL_at_0 rfl (lv_at hl 0 rfl) ?_
  refine lv_iconst (v := nI 4) G.1 G.2.1 dL_at_1 (by decide) ?_
  refine gn_ne G (by omega) (by omega) (tgt := 11) dL_at_2 (by decide) (fun h_2 => ?_) (fun h_2 => ?_)
  · have e9 : 64 * j = sp_vop j := by unfold sp_vop; omega
    refine lv_bipush (v := nI 64) G.1 G.2.1 dL_at_11 (by decide) ?_
    refine lv_iload_n G.1 G.2.1 dL_at_13 rfl (lv_at hl 0 rfl) ?_
    refine gn_imul G dL_at_14 ?_
    exact W.iret G.1 G.2.1 G.2.2.1 (fun t ht hW => ⟨_, rfl, by rw [e9], ht⟩) (fun q h => nomatch h) dL_at_15 G.2.2.2.2.2.2
  · refine lv_sipush (v := nI 255) G.1 G.2.1 dL_at_5 (by decide) ?_
    refine lv_goto (tgt := 15) G.1 G.2.1 dL_at_8 (by decide) ?_
    exact W.iret G.1 G.2.1 G.2.2.1 (fun t ht hW => ⟨_, rfl, by rw [h_2]; rfl, ht⟩) (fun q h => nomatch h) dL_at_15 G.2.2.2.2.2.2
set_option maxRecDepth 100000 in
set_option maxHeartbeats 1000000 in
theorem mL_apart (l : Launch) (u v : Nat) (hu : u < 2 ^ 31) (hv : v < 2 ^ 31) : Met l yL_apart wsL_apart { frames := 0, cells := 0, slots := 0, locals := 0 } (va_Pc [.int (nI u), .int (nI v)] (fun _ => True)) (vp_Si (fun r => r = nI (sp_ap u v))) 0 0 (fun _ => False) := by
  refine gc_met [.int (nI u), .int (nI v)] (by decide) rfl (Nat.le_of_ble_eq_true rfl) rfl ?_
  intro p e s m below meth c ls G hl _
  refine lv_iload_n G.1 G.2.1 dL_apart_0 rfl (lv_at hl 0 rfl) ?_
  refine lv_iload_n G.1 G.2.1 dL_apart_1 rfl (lv_at hl 1 rfl) ?_
  refine gn_ge G (by omega) (by omega) (tgt := 11) dL_apart_2 (by decide) (fun h_2 => ?_) (fun h_2 => ?_)
  · refine lv_iload_n G.1 G.2.1 dL_apart_11 rfl (lv_at hl 0 rfl) ?_
    refine lv_iload_n G.1 G.2.1 dL_apart_12 rfl (lv_at hl 1 rfl) ?_
    refine gn_isub G dL_apart_13 (by omega) ?_
    exact W.iret G.1 G.2.1 G.2.2.1 (fun t ht hW => ⟨_, rfl, by unfold sp_ap; rw [if_neg (Nat.not_lt.mpr h_2)], ht⟩) (fun q h => nomatch h) dL_apart_14 G.2.2.2.2.2.2
  · refine lv_iload_n G.1 G.2.1 dL_apart_5 rfl (lv_at hl 1 rfl) ?_
    refine lv_iload_n G.1 G.2.1 dL_apart_6 rfl (lv_at hl 0 rfl) ?_
    refine gn_isub G dL_apart_7 (by omega) ?_
    refine lv_goto (tgt := 14) G.1 G.2.1 dL_apart_8 (by decide) ?_
    exact W.iret G.1 G.2.1 G.2.2.1 (fun t ht hW => ⟨_, rfl, by unfold sp_ap; rw [if_pos h_2], ht⟩) (fun q h => nomatch h) dL_apart_14 G.2.2.2.2.2.2
set_option maxRecDepth 100000 in
set_option maxHeartbeats 1000000 in
theorem mL_value (l : Launch) (x : Int32) : Met l yL_value wsL_value { frames := 1, cells := 0, slots := 0, locals := 21 } (va_Pc [.int x] (fun _ => True)) (vp_Si (fun r => True)) 0 0 (fun _ => False) := by
  refine gc_met [.int x] (by decide) rfl (Nat.le_of_ble_eq_true rfl) rfl ?_
  intro p e s m below meth c ls G hl _
  refine lv_iload_n G.1 G.2.1 dL_value_0 rfl (lv_at hl 0 rfl) ?_
  refine lv_bipush (v := nI 40) G.1 G.2.1 dL_value_1 (by decide) ?_
  refine gc_s (As := [.int x, .int (nI 40)]) (rest := []) G.fix (mL_some l x 40 (by omega) (by omega)) (va_cwS 2 G.2.2.2.2.2.1 gL_value_L_some rfl rfl rfl (by decide +kernel) ⟨Nat.le_of_ble_eq_true rfl, Nat.le_of_ble_eq_true rfl⟩) gc_blindT (fun _ _ _ => trivial) rfl hl.1 rfl (Nat.le_of_ble_eq_true rfl) dL_value_3 (Nat.zero_le _) (Nat.zero_le _) (fun r hr => ?_)
  obtain ⟨k1, hk1, rfl⟩ := hr
  refine gn_nez G (by omega) (tgt := 15) dL_value_6 (by decide) (fun h_6 => ?_) (fun h_6 => ?_)
  · refine lv_iload_n G.1 G.2.1 dL_value_15 rfl (lv_at hl 0 rfl) ?_
    refine lv_bipush (v := nI 60) G.1 G.2.1 dL_value_16 (by decide) ?_
    refine gc_s (As := [.int x, .int (nI 60)]) (rest := []) G.fix (mL_some l x 60 (by omega) (by omega)) (va_cwS 2 G.2.2.2.2.2.1 gL_value_L_some rfl rfl rfl (by decide +kernel) ⟨Nat.le_of_ble_eq_true rfl, Nat.le_of_ble_eq_true rfl⟩) gc_blindT (fun _ _ _ => trivial) rfl hl.1 rfl (Nat.le_of_ble_eq_true rfl) dL_value_18 (Nat.zero_le _) (Nat.zero_le _) (fun r hr => ?_)
    obtain ⟨k2, hk2, rfl⟩ := hr
    refine lv_iconst (v := nI 1) G.1 G.2.1 dL_value_21 (by decide) ?_
    refine gn_ne G (by omega) (by omega) (tgt := 29) dL_value_22 (by decide) (fun h_22 => ?_) (fun h_22 => ?_)
    · refine lv_iload_n G.1 G.2.1 dL_value_29 rfl (lv_at hl 0 rfl) ?_
      refine lv_iconst (v := nI 3) G.1 G.2.1 dL_value_30 (by decide) ?_
      refine gc_s (As := [.int x, .int (nI 3)]) (rest := []) G.fix (mL_some l x 3 (by omega) (by omega)) (va_cwS 2 G.2.2.2.2.2.1 gL_value_L_some rfl rfl rfl (by decide +kernel) ⟨Nat.le_of_ble_eq_true rfl, Nat.le_of_ble_eq_true rfl⟩) gc_blindT (fun _ _ _ => trivial) rfl hl.1 rfl (Nat.le_of_ble_eq_true rfl) dL_value_31 (Nat.zero_le _) (Nat.zero_le _) (fun r hr => ?_)
      obtain ⟨k3, hk3, rfl⟩ := hr
      refine gn_nez G (by omega) (tgt := 51) dL_value_34 (by decide) (fun h_34 => ?_) (fun h_34 => ?_)
      · refine lv_iload_n G.1 G.2.1 dL_value_51 rfl (lv_at hl 0 rfl) ?_
        refine lv_sipush (v := nI 256) G.1 G.2.1 dL_value_52 (by decide) ?_
        refine gc_s (As := [.int x, .int (nI 256)]) (rest := []) G.fix (mL_some l x 256 (by omega) (by omega)) (va_cwS 2 G.2.2.2.2.2.1 gL_value_L_some rfl rfl rfl (by decide +kernel) ⟨Nat.le_of_ble_eq_true rfl, Nat.le_of_ble_eq_true rfl⟩) gc_blindT (fun _ _ _ => trivial) rfl hl.1 rfl (Nat.le_of_ble_eq_true rfl) dL_value_55 (Nat.zero_le _) (Nat.zero_le _) (fun r hr => ?_)
        obtain ⟨k4, hk4, rfl⟩ := hr
        exact W.iret G.1 G.2.1 G.2.2.1 (fun t ht hW => ⟨_, rfl, trivial, ht⟩) (fun q h => nomatch h) dL_value_58 G.2.2.2.2.2.2
      · refine lv_sipush (v := nI 255) G.1 G.2.1 dL_value_37 (by decide) ?_
        refine lv_iload_n G.1 G.2.1 dL_value_40 rfl (lv_at hl 0 rfl) ?_
        refine lv_iconst (v := nI 3) G.1 G.2.1 dL_value_41 (by decide) ?_
        refine lv_ishr G.1 G.2.1 dL_value_42 ?_
        refine lv_topi (fun y5 hy5 => ?_)
        refine lv_iconst (v := nI 2) G.1 G.2.1 dL_value_43 (by decide) ?_
        refine gc_s (As := [.int y5, .int (nI 2)]) (rest := [.int (nI 255)]) G.fix (mL_some l y5 2 (by omega) (by omega)) (va_cwS 2 G.2.2.2.2.2.1 gL_value_L_some rfl rfl rfl (by decide +kernel) ⟨Nat.le_of_ble_eq_true rfl, Nat.le_of_ble_eq_true rfl⟩) gc_blindT (fun _ _ _ => trivial) rfl hl.1 rfl (Nat.le_of_ble_eq_true rfl) dL_value_44 (Nat.zero_le _) (Nat.zero_le _) (fun r hr => ?_)
        obtain ⟨k6, hk6, rfl⟩ := hr
        refine gn_imul G dL_value_47 ?_
        refine lv_goto (tgt := 58) G.1 G.2.1 dL_value_48 (by decide) ?_
        exact W.iret G.1 G.2.1 G.2.2.1 (fun t ht hW => ⟨_, rfl, trivial, ht⟩) (fun q h => nomatch h) dL_value_58 G.2.2.2.2.2.2
    · refine lv_iconst (v := -1) G.1 G.2.1 dL_value_25 (by decide) ?_
      refine lv_goto (tgt := 58) G.1 G.2.1 dL_value_26 (by decide) ?_
      exact W.iret G.1 G.2.1 G.2.2.1 (fun t ht hW => ⟨_, rfl, trivial, ht⟩) (fun q h => nomatch h) dL_value_58 G.2.2.2.2.2.2
  · refine lv_sipush (v := nI 256) G.1 G.2.1 dL_value_9 (by decide) ?_
    refine lv_goto (tgt := 58) G.1 G.2.1 dL_value_12 (by decide) ?_
    exact W.iret G.1 G.2.1 G.2.2.1 (fun t ht hW => ⟨_, rfl, trivial, ht⟩) (fun q h => nomatch h) dL_value_58 G.2.2.2.2.2.2
theorem lg_Ub {C D t w x : Nat} (hC : C ≤ 255) (hD : D ≤ 255) (hx : x ≤ w) (ht : t ≤ w) (hw : w ≤ 64) : C * x + D * t + (256 - C) * w < 2 ^ 31 := by
  have b1 : C * x ≤ 255 * 64 := Nat.mul_le_mul hC (by omega)
  have b2 : D * t ≤ 255 * 64 := Nat.mul_le_mul hD (by omega)
  have b3 : (256 - C) * w ≤ 256 * 64 := Nat.mul_le_mul (by omega) hw
  omega
set_option maxRecDepth 100000 in
set_option maxHeartbeats 1000000 in
theorem mL_between (l : Launch) (D : va_G) (b : Nat) (cI : ClassId) (n : Nat) (F : Nat → Nat) (o v : Nat) (ho : o + 4 < n) (hn : n < 2 ^ 31) (hv : v ≤ 255) (hF : ∀ j, F j ≤ 255) : Met l yL_between wsL_between { frames := 1, cells := 0, slots := 0, locals := 20 } (va_Pc [.ref b, .int (nI o), .int (nI v)] (fun U => rAt D b cI n F U U.heap)) (vp_Si (fun r => r = nI (sp_btw F o v))) 0 0 (fun _ => False) := by
  refine gc_met [.ref b, .int (nI o), .int (nI v)] (by decide) rfl (Nat.le_of_ble_eq_true rfl) rfl ?_
  intro p e s m below meth c ls G hl hR
  refine lv_iload_n G.1 G.2.1 dL_between_0 rfl (lv_at hl 2 rfl) ?_
  refine lv_sipush (v := nI 255) G.1 G.2.1 dL_between_1 (by decide) ?_
  refine gn_ne G (by omega) (by omega) (tgt := 11) dL_between_4 (by decide) (fun h_4 => ?_) (fun h_4 => ?_)
  · refine lv_iload_n G.1 G.2.1 dL_between_11 rfl (lv_at hl 2 rfl) ?_
    refine lv_bipush (v := nI 64) G.1 G.2.1 dL_between_12 (by decide) ?_
    refine gn_idiv G dL_between_14 (by omega) (by omega) (by omega) ?_
    refine lv_istore_n (lv' := [(3, .int (nI (v / 64))), (0, .ref b), (1, .int (nI o)), (2, .int (nI v))]) G.1 G.2.1 dL_between_15 rfl hl (by decide) rfl (fun ls hl => ?_)
    refine lv_iload_n G.1 G.2.1 dL_between_16 rfl (lv_at hl 3 rfl) ?_
    refine lv_iload_n G.1 G.2.1 dL_between_17 rfl (lv_at hl 0 rfl) ?_
    refine gc_s (As := [.int (nI (v / 64))]) (rest := [.int (nI v)]) G.fix (mL_at l (v / 64) (by omega)) (va_cwS 1 G.2.2.2.2.2.1 gL_between_L_at rfl rfl rfl (by decide +kernel) ⟨Nat.le_of_ble_eq_true rfl, Nat.le_of_ble_eq_true rfl⟩) gc_blindT (fun _ _ _ => trivial) rfl hl.1 rfl (Nat.le_of_ble_eq_true rfl) dL_between_18 (Nat.zero_le _) (Nat.zero_le _) (fun r hr => ?_)
    subst hr
    have hv_18 := sp_vop_le (k := v / 64)
    have hq : v / 64 ≤ 3 := by omega
    rw [sp_vop_lo hq]
    refine gn_isub G dL_between_21 (by omega) ?_
    refine lv_istore (lv' := [(4, .int (nI (v - (v / 64 * 64)))), (3, .int (nI (v / 64))), (0, .ref b), (1, .int (nI o)), (2, .int (nI v))]) G.1 G.2.1 dL_between_22 hl (by decide) rfl (fun ls hl => ?_)
    refine lv_iload G.1 G.2.1 dL_between_24 (lv_at hl 0 rfl) ?_
    refine gn_nez G (by omega) (tgt := 35) dL_between_26 (by decide) (fun h_26 => ?_) (fun h_26 => ?_)
    · refine lv_iload_n G.1 G.2.1 dL_between_35 rfl (lv_at hl 1 rfl) ?_
      refine lv_iconst (v := nI 1) G.1 G.2.1 dL_between_36 (by decide) ?_
      refine gn_iadd G dL_between_37 ?_
      refine gc_s (As := [.int (nI ((v / 64) + 1))]) (rest := []) G.fix (mL_at l ((v / 64) + 1) (by omega)) (va_cwS 1 G.2.2.2.2.2.1 gL_between_L_at rfl rfl rfl (by decide +kernel) ⟨Nat.le_of_ble_eq_true rfl, Nat.le_of_ble_eq_true rfl⟩) gc_blindT (fun _ _ _ => trivial) rfl hl.1 rfl (Nat.le_of_ble_eq_true rfl) dL_between_38 (Nat.zero_le _) (Nat.zero_le _) (fun r hr => ?_)
      subst hr
      have hv_38 := sp_vop_le (k := (v / 64) + 1)
      refine lv_iload_n G.1 G.2.1 dL_between_41 rfl (lv_at hl 1 rfl) ?_
      refine gc_s (As := [.int (nI (v / 64))]) (rest := [.int (nI (sp_vop ((v / 64) + 1)))]) G.fix (mL_at l (v / 64) (by omega)) (va_cwS 1 G.2.2.2.2.2.1 gL_between_L_at rfl rfl rfl (by decide +kernel) ⟨Nat.le_of_ble_eq_true rfl, Nat.le_of_ble_eq_true rfl⟩) gc_blindT (fun _ _ _ => trivial) rfl hl.1 rfl (Nat.le_of_ble_eq_true rfl) dL_between_42 (Nat.zero_le _) (Nat.zero_le _) (fun r hr => ?_)
      subst hr
      have hv_42 := sp_vop_le (k := v / 64)
      have hvw := sp_vop_w (k := v / 64) (by omega)
      have hvw2 := sp_w_pos (v / 64)
      refine gn_isub G dL_between_45 (by omega) ?_
      rw [hvw]
      have hfar := sp_far hv
      have hwp := sp_w_pos (v / 64)
      have hwl := sp_w_le (v / 64)
      refine lv_istore (lv' := [(5, .int (nI (sp_w (v / 64)))), (4, .int (nI (v - (v / 64 * 64)))), (3, .int (nI (v / 64))), (0, .ref b), (1, .int (nI o)), (2, .int (nI v))]) G.1 G.2.1 dL_between_46 hl (by decide) rfl (fun ls hl => ?_)
      refine lv_aload_n G.1 G.2.1 dL_between_48 rfl (lv_at hl 3 rfl) ?_
      refine lv_iload_n G.1 G.2.1 dL_between_49 rfl (lv_at hl 4 rfl) ?_
      refine lv_iload_n G.1 G.2.1 dL_between_50 rfl (lv_at hl 2 rfl) ?_
      refine gn_iadd G dL_between_51 ?_
      refine lv_iconst (v := nI 1) G.1 G.2.1 dL_between_52 (by decide) ?_
      refine gn_iadd G dL_between_53 ?_
      refine gl_ald1 G hR (by omega) (by assumption) dL_between_54 ?_
      have hv_54 := hF ((o + (v / 64)) + 1)
      refine lv_aload_n G.1 G.2.1 dL_between_55 rfl (lv_at hl 3 rfl) ?_
      refine lv_iload_n G.1 G.2.1 dL_between_56 rfl (lv_at hl 4 rfl) ?_
      refine lv_iload_n G.1 G.2.1 dL_between_57 rfl (lv_at hl 2 rfl) ?_
      refine gn_iadd G dL_between_58 ?_
      refine gl_ald1 G hR (by omega) (by assumption) dL_between_59 ?_
      have hv_59 := hF (o + (v / 64))
      refine lv_isub G.1 G.2.1 dL_between_60 ?_
      refine lv_topi (fun y1 hy1 => ?_)
      refine lv_iload G.1 G.2.1 dL_between_61 (lv_at hl 1 rfl) ?_
      refine lv_imul G.1 G.2.1 dL_between_63 ?_
      refine lv_topi (fun y2 hy2 => ?_)
      refine lv_sipush (v := nI 256) G.1 G.2.1 dL_between_64 (by decide) ?_
      refine lv_iload G.1 G.2.1 dL_between_67 (lv_at hl 0 rfl) ?_
      refine gn_imul G dL_between_69 ?_
      refine lv_iadd G.1 G.2.1 dL_between_70 ?_
      refine lv_topi (fun y3 hy3 => ?_)
      obtain rfl : y3 = nI (F (o + v / 64) * (sp_w (v / 64) - (v - v / 64 * 64)) + F (o + v / 64 + 1) * (v - v / 64 * 64) + (256 - F (o + v / 64)) * sp_w (v / 64)) := by
        rw [hy3, hy2, hy1]
        exact lg_up (hF _) (hF _) hfar hwl
      have hfin := lg_fin (C := F (o + v / 64)) (X := F (o + v / 64) * (sp_w (v / 64) - (v - v / 64 * 64)) + F (o + v / 64 + 1) * (v - v / 64 * 64)) (hF _) hwp
      have eB : sp_btw F o v = (F (o + v / 64) * (sp_w (v / 64) - (v - v / 64 * 64)) + F (o + v / 64 + 1) * (v - v / 64 * 64)) / sp_w (v / 64) := rfl
      have hU : F (o + v / 64) * (sp_w (v / 64) - (v - v / 64 * 64)) + F (o + v / 64 + 1) * (v - v / 64 * 64) + (256 - F (o + v / 64)) * sp_w (v / 64) < 2 ^ 31 := lg_Ub (hF _) (hF _) (Nat.sub_le _ _) hfar hwl
      generalize hUe : F (o + v / 64) * (sp_w (v / 64) - (v - v / 64 * 64)) + F (o + v / 64 + 1) * (v - v / 64 * 64) + (256 - F (o + v / 64)) * sp_w (v / 64) = U at hfin hU ⊢
      have hm9 := Nat.mod_le U (sp_w (v / 64))
      refine lv_istore (lv' := [(6, .int (nI U)), (5, .int (nI (sp_w (v / 64)))), (4, .int (nI (v - (v / 64 * 64)))), (3, .int (nI (v / 64))), (0, .ref b), (1, .int (nI o)), (2, .int (nI v))]) G.1 G.2.1 dL_between_71 hl (by decide) rfl (fun ls hl => ?_)
      refine lv_aload_n G.1 G.2.1 dL_between_73 rfl (lv_at hl 4 rfl) ?_
      refine lv_iload_n G.1 G.2.1 dL_between_74 rfl (lv_at hl 5 rfl) ?_
      refine lv_iload_n G.1 G.2.1 dL_between_75 rfl (lv_at hl 3 rfl) ?_
      refine gn_iadd G dL_between_76 ?_
      refine gl_ald1 G hR (by omega) (by assumption) dL_between_77 ?_
      have hv_77 := hF (o + (v / 64))
      refine lv_iload G.1 G.2.1 dL_between_78 (lv_at hl 0 rfl) ?_
      refine lv_iload G.1 G.2.1 dL_between_80 (lv_at hl 0 rfl) ?_
      refine lv_iload G.1 G.2.1 dL_between_82 (lv_at hl 1 rfl) ?_
      refine gn_irem G dL_between_84 (by omega) (by omega) (by omega) ?_
      refine gn_isub G dL_between_85 (by omega) ?_
      refine lv_iload G.1 G.2.1 dL_between_86 (lv_at hl 1 rfl) ?_
      refine gn_idiv G dL_between_88 (by omega) (by omega) (by omega) ?_
      refine gn_iadd G dL_between_89 ?_
      refine lv_sipush (v := nI 256) G.1 G.2.1 dL_between_90 (by decide) ?_
      refine gn_isub G dL_between_93 (by omega) ?_
      exact W.iret G.1 G.2.1 G.2.2.1 (fun t ht hW => ⟨_, rfl, congrArg nI (by rw [eB]; omega), ht⟩) (fun q h => nomatch h) dL_between_94 G.2.2.2.2.2.2
    · refine lv_aload_n G.1 G.2.1 dL_between_29 rfl (lv_at hl 2 rfl) ?_
      refine lv_iload_n G.1 G.2.1 dL_between_30 rfl (lv_at hl 3 rfl) ?_
      refine lv_iload_n G.1 G.2.1 dL_between_31 rfl (lv_at hl 1 rfl) ?_
      refine gn_iadd G dL_between_32 ?_
      refine gl_ald1 G hR (by omega) (by assumption) dL_between_33 ?_
      have hv_33 := hF (o + (v / 64))
      exact W.iret G.1 G.2.1 G.2.2.1 (fun t ht hW => ⟨_, rfl, by rw [sp_btw_pt h_26], ht⟩) (fun q h => nomatch h) dL_between_34 G.2.2.2.2.2.2
  · subst h_4
    refine lv_iconst (v := nI 4) G.1 G.2.1 dL_between_7 (by decide) ?_
    refine lv_goto (tgt := 15) G.1 G.2.1 dL_between_8 (by decide) ?_
    refine lv_istore_n (lv' := [(3, .int (nI 4)), (0, .ref b), (1, .int (nI o)), (2, .int (nI 255))]) G.1 G.2.1 dL_between_15 rfl hl (by decide) rfl (fun ls hl => ?_)
    refine lv_iload_n G.1 G.2.1 dL_between_16 rfl (lv_at hl 3 rfl) ?_
    refine lv_iload_n G.1 G.2.1 dL_between_17 rfl (lv_at hl 0 rfl) ?_
    refine gc_s (As := [.int (nI 4)]) (rest := [.int (nI 255)]) G.fix (mL_at l 4 (by omega)) (va_cwS 1 G.2.2.2.2.2.1 gL_between_L_at rfl rfl rfl (by decide +kernel) ⟨Nat.le_of_ble_eq_true rfl, Nat.le_of_ble_eq_true rfl⟩) gc_blindT (fun _ _ _ => trivial) rfl hl.1 rfl (Nat.le_of_ble_eq_true rfl) dL_between_18 (Nat.zero_le _) (Nat.zero_le _) (fun r hr => ?_)
    subst hr
    have hv_18 := sp_vop_le (k := 4)
    rw [show sp_vop 4 = 255 from rfl]
    refine gn_isub G dL_between_21 (by omega) ?_
    refine lv_istore (lv' := [(4, .int (nI (255 - 255))), (3, .int (nI 4)), (0, .ref b), (1, .int (nI o)), (2, .int (nI 255))]) G.1 G.2.1 dL_between_22 hl (by decide) rfl (fun ls hl => ?_)
    refine lv_iload G.1 G.2.1 dL_between_24 (lv_at hl 0 rfl) ?_
    refine gn_nez G (by omega) (tgt := 35) dL_between_26 (by decide) (fun h => absurd h (by omega)) (fun h_26 => ?_)
    refine lv_aload_n G.1 G.2.1 dL_between_29 rfl (lv_at hl 2 rfl) ?_
    refine lv_iload_n G.1 G.2.1 dL_between_30 rfl (lv_at hl 3 rfl) ?_
    refine lv_iload_n G.1 G.2.1 dL_between_31 rfl (lv_at hl 1 rfl) ?_
    refine gn_iadd G dL_between_32 ?_
    refine gl_ald1 G hR (by omega) (by assumption) dL_between_33 ?_
    have hv_33 := hF (o + 4)
    exact W.iret G.1 G.2.1 G.2.2.1 (fun t ht hW => ⟨_, rfl, by rw [sp_btw_255], ht⟩) (fun q h => nomatch h) dL_between_34 G.2.2.2.2.2.2
set_option maxRecDepth 100000 in
set_option maxHeartbeats 1000000 in
theorem mL_taken (l : Launch) (D : va_G) (a : Nat → Nat) (cI : ClassId) (N : Nat → Nat) (S : Nat → Nat → Nat) (hok : sp_ok N S) (p b v : Nat) (hp : p ≤ 2) (hb : b ≤ 2) (hv : v ≤ 255) : Met l yL_taken wsL_taken { frames := 2, cells := 0, slots := 0, locals := 46 } (va_Pc [.ref (a 0), .ref (a 1), .ref (a 2), .int (nI p), .int (nI b), .int (nI v)] (fun U => lrAt D a cI N S U U.heap)) (vp_Si (fun r => r = nI (sp_tk S p b v))) 0 0 (fun _ => False) := by
  refine gc_met [.ref (a 0), .ref (a 1), .ref (a 2), .int (nI p), .int (nI b), .int (nI v)] (by decide) rfl (Nat.le_of_ble_eq_true rfl) rfl ?_
  intro p9 e s m below meth c ls G hl hR
  have hok9 := hok
  obtain ⟨⟨ok0, ok5⟩, ok1, ok2, ok3, ok4, ok6, ok7, ok8, ok12, ok13, ok14⟩ := hok9
  refine lv_aload_n G.1 G.2.1 dL_taken_0 rfl (lv_at hl 2 rfl) ?_
  refine lv_iconst (v := nI 3) G.1 G.2.1 dL_taken_1 (by decide) ?_
  refine lv_iload_n G.1 G.2.1 dL_taken_2 rfl (lv_at hl 3 rfl) ?_
  refine gn_imul G dL_taken_3 ?_
  refine lv_iload G.1 G.2.1 dL_taken_4 (lv_at hl 4 rfl) ?_
  refine gn_iadd G dL_taken_6 ?_
  refine gl_ald (k := 2) (len := 18) (F := fR S) G hR rfl (by omega) (by decide) dL_taken_7 ?_
  rw [fR_2 (by omega)]
  have hv_7 := ok2 (p * 3 + b)
  refine lv_istore (lv' := [(6, .int (nI (S 2 (p * 3 + b)))), (0, .ref (a 0)), (1, .ref (a 1)), (2, .ref (a 2)), (3, .int (nI p)), (4, .int (nI b)), (5, .int (nI v))]) G.1 G.2.1 dL_taken_8 hl (by decide) rfl (fun ls hl => ?_)
  refine lv_aload_n G.1 G.2.1 dL_taken_10 rfl (lv_at hl 3 rfl) ?_
  refine lv_bipush (v := nI 9) G.1 G.2.1 dL_taken_11 (by decide) ?_
  refine lv_iconst (v := nI 3) G.1 G.2.1 dL_taken_13 (by decide) ?_
  refine lv_iload_n G.1 G.2.1 dL_taken_14 rfl (lv_at hl 4 rfl) ?_
  refine gn_imul G dL_taken_15 ?_
  refine gn_iadd G dL_taken_16 ?_
  refine lv_iload G.1 G.2.1 dL_taken_17 (lv_at hl 5 rfl) ?_
  refine gn_iadd G dL_taken_19 ?_
  refine gl_ald (k := 2) (len := 18) (F := fR S) G hR rfl (by omega) (by decide) dL_taken_20 ?_
  rw [fR_3]
  have hv_20 := ok3 (p * 3 + b)
  refine lv_istore (lv' := [(7, .int (nI (S 3 (p * 3 + b)))), (6, .int (nI (S 2 (p * 3 + b)))), (0, .ref (a 0)), (1, .ref (a 1)), (2, .ref (a 2)), (3, .int (nI p)), (4, .int (nI b)), (5, .int (nI v))]) G.1 G.2.1 dL_taken_21 hl (by decide) rfl (fun ls hl => ?_)
  refine lv_aload_n G.1 G.2.1 dL_taken_23 rfl (lv_at hl 3 rfl) ?_
  refine lv_bipush (v := nI 15) G.1 G.2.1 dL_taken_24 (by decide) ?_
  refine lv_iload_n G.1 G.2.1 dL_taken_26 rfl (lv_at hl 5 rfl) ?_
  refine gn_imul G dL_taken_27 ?_
  refine lv_iconst (v := nI 5) G.1 G.2.1 dL_taken_28 (by decide) ?_
  refine lv_iload G.1 G.2.1 dL_taken_29 (lv_at hl 6 rfl) ?_
  refine gn_imul G dL_taken_31 ?_
  refine gn_iadd G dL_taken_32 ?_
  refine lv_iload G.1 G.2.1 dL_taken_33 (lv_at hl 7 rfl) ?_
  refine gc_s (As := [.ref (a 1), .int (nI ((15 * p) + (5 * b))), .int (nI v)]) (rest := []) G.fix (mL_between l D (a 1) cI 45 (S 1) ((15 * p) + (5 * b)) v (by omega) (by decide) (by omega) ok1) (va_cwS 3 G.2.2.2.2.2.1 gL_taken_L_between rfl rfl rfl (by decide +kernel) ⟨Nat.le_of_ble_eq_true rfl, Nat.le_of_ble_eq_true rfl⟩) rAt_blind (fun U hU hW => by rw [hU]; exact (hR.row 1 rfl).moved hW) rfl hl.1 rfl (Nat.le_of_ble_eq_true rfl) dL_taken_35 (Nat.zero_le _) (Nat.zero_le _) (fun r hr => ?_)
  subst hr
  rw [show (15 * p) + (5 * b) = (p * 3 + b) * 5 from by omega]
  have hv_35 := sp_btw_le (g := S 1) (o := (p * 3 + b) * 5) (v := v) ok1 (by omega)
  have hv2_35 : sp_curve S p b v ≤ 255 := hv_35
  have eF : sp_btw (S 1) ((p * 3 + b) * 5) v = sp_curve S p b v := rfl
  rw [eF]
  have hlg := ok2 (p * 3 + b)
  have hg9 := ok3 (p * 3 + b)
  refine lv_istore (lv' := [(8, .int (nI (sp_curve S p b v))), (7, .int (nI (S 3 (p * 3 + b)))), (6, .int (nI (S 2 (p * 3 + b)))), (0, .ref (a 0)), (1, .ref (a 1)), (2, .ref (a 2)), (3, .int (nI p)), (4, .int (nI b)), (5, .int (nI v))]) G.1 G.2.1 dL_taken_38 hl (by decide) rfl (fun ls hl => ?_)
  refine lv_aload_n G.1 G.2.1 dL_taken_40 rfl (lv_at hl 3 rfl) ?_
  refine lv_bipush (v := nI 8) G.1 G.2.1 dL_taken_41 (by decide) ?_
  refine lv_iload_n G.1 G.2.1 dL_taken_43 rfl (lv_at hl 6 rfl) ?_
  refine gn_iadd G dL_taken_44 ?_
  refine gl_ald (k := 0) (len := 11) (F := fC N S) G hR rfl (by omega) (by decide) dL_taken_45 ?_
  rw [fC_4]
  have hv_45 := ok4 p
  refine lv_istore (lv' := [(9, .int (nI (S 4 p))), (8, .int (nI (sp_curve S p b v))), (7, .int (nI (S 3 (p * 3 + b)))), (6, .int (nI (S 2 (p * 3 + b)))), (0, .ref (a 0)), (1, .ref (a 1)), (2, .ref (a 2)), (3, .int (nI p)), (4, .int (nI b)), (5, .int (nI v))]) G.1 G.2.1 dL_taken_46 hl (by decide) rfl (fun ls hl => ?_)
  refine lv_iload G.1 G.2.1 dL_taken_48 (lv_at hl 0 rfl) ?_
  refine lv_iconst (v := nI 1) G.1 G.2.1 dL_taken_50 (by decide) ?_
  refine gn_ne G (by omega) (by omega) (tgt := 83) dL_taken_51 (by decide) (fun h_51 => ?_) (fun h_51 => ?_)
  · refine gj_x (fun x => x.toInt = lg_fold (S 2 (p * 3 + b)) (S 3 (p * 3 + b)) (S 4 p) (sp_curve S p b v)) 131 [] (fun x hx => ?_) (fun K_131 => ?_)
    · refine lv_istore (lv' := [(10, .int x), (9, .int (nI (S 4 p))), (8, .int (nI (sp_curve S p b v))), (7, .int (nI (S 3 (p * 3 + b)))), (6, .int (nI (S 2 (p * 3 + b)))), (0, .ref (a 0)), (1, .ref (a 1)), (2, .ref (a 2)), (3, .int (nI p)), (4, .int (nI b)), (5, .int (nI v))]) G.1 G.2.1 dL_taken_131 hl (by decide) rfl (fun ls hl => ?_)
      refine lv_iload G.1 G.2.1 dL_taken_133 (lv_at hl 0 rfl) ?_
      refine lv_iload G.1 G.2.1 dL_taken_135 (lv_at hl 4 rfl) ?_
      refine lv_icmp_ge (tgt := 145) G.1 G.2.1 dL_taken_137 (by decide) (fun h_137 => ?_) (fun h_137 => ?_)
      · refine lv_iload G.1 G.2.1 dL_taken_145 (lv_at hl 0 rfl) ?_
        refine lv_iload G.1 G.2.1 dL_taken_147 (lv_at hl 3 rfl) ?_
        refine lv_icmp_le (tgt := 157) G.1 G.2.1 dL_taken_149 (by decide) (fun h_149 => ?_) (fun h_149 => ?_)
        · refine lv_iload G.1 G.2.1 dL_taken_157 (lv_at hl 0 rfl) ?_
          exact W.iret G.1 G.2.1 G.2.2.1 (fun t ht hW => ⟨_, rfl, (lg_clamp hlg hg9 hv2_35 (ok4 p) h_51 hx).2.2 h_137 h_149, ht⟩) (fun q h => nomatch h) dL_taken_159 G.2.2.2.2.2.2
        · refine lv_iload G.1 G.2.1 dL_taken_152 (lv_at hl 3 rfl) ?_
          refine lv_goto (tgt := 159) G.1 G.2.1 dL_taken_154 (by decide) ?_
          exact W.iret G.1 G.2.1 G.2.2.1 (fun t ht hW => ⟨_, rfl, (lg_clamp hlg hg9 hv2_35 (ok4 p) h_51 hx).2.1 h_137 h_149, ht⟩) (fun q h => nomatch h) dL_taken_159 G.2.2.2.2.2.2
      · refine lv_iload G.1 G.2.1 dL_taken_140 (lv_at hl 4 rfl) ?_
        refine lv_goto (tgt := 159) G.1 G.2.1 dL_taken_142 (by decide) ?_
        exact W.iret G.1 G.2.1 G.2.2.1 (fun t ht hW => ⟨_, rfl, (lg_clamp hlg hg9 hv2_35 (ok4 p) h_51 hx).1 h_137, ht⟩) (fun q h => nomatch h) dL_taken_159 G.2.2.2.2.2.2
    · refine lv_iload G.1 G.2.1 dL_taken_83 (lv_at hl 0 rfl) ?_
      refine gn_nez G (by omega) (tgt := 93) dL_taken_85 (by decide) (fun h_85 => ?_) (fun h_85 => ?_)
      · refine lv_iload G.1 G.2.1 dL_taken_93 (lv_at hl 1 rfl) ?_
        refine lv_iload G.1 G.2.1 dL_taken_95 (lv_at hl 2 rfl) ?_
        refine gn_le G (by omega) (by omega) (tgt := 111) dL_taken_97 (by decide) (fun h_97 => ?_) (fun h_97 => ?_)
        · refine lv_iload G.1 G.2.1 dL_taken_111 (lv_at hl 1 rfl) ?_
          refine lv_iload G.1 G.2.1 dL_taken_113 (lv_at hl 3 rfl) ?_
          refine gn_ge G (by omega) (by omega) (tgt := 129) dL_taken_115 (by decide) (fun h_115 => ?_) (fun h_115 => ?_)
          · refine lv_iload G.1 G.2.1 dL_taken_129 (lv_at hl 1 rfl) ?_
            exact K_131 _ (by unfold lg_fold; rw [if_neg h_85, if_neg (by omega), if_neg (by omega)]; exact nI_toInt (by omega))
          · refine lv_iload G.1 G.2.1 dL_taken_118 (lv_at hl 3 rfl) ?_
            refine lv_iload G.1 G.2.1 dL_taken_120 (lv_at hl 3 rfl) ?_
            refine lv_iload G.1 G.2.1 dL_taken_122 (lv_at hl 1 rfl) ?_
            refine gn_isub G dL_taken_124 (by omega) ?_
            refine gn_iadd G dL_taken_125 ?_
            refine lv_goto (tgt := 131) G.1 G.2.1 dL_taken_126 (by decide) ?_
            exact K_131 _ (by unfold lg_fold; rw [if_neg h_85, if_neg (by omega), if_pos h_115]; rw [nI_toInt (by omega)]; omega)
        · refine lv_iload G.1 G.2.1 dL_taken_100 (lv_at hl 2 rfl) ?_
          refine lv_iload G.1 G.2.1 dL_taken_102 (lv_at hl 1 rfl) ?_
          refine lv_iload G.1 G.2.1 dL_taken_104 (lv_at hl 2 rfl) ?_
          refine gn_isub G dL_taken_106 (by omega) ?_
          refine lv_isub G.1 G.2.1 dL_taken_107 ?_
          refine lv_topi (fun y1 hy1 => ?_)
          refine lv_goto (tgt := 131) G.1 G.2.1 dL_taken_108 (by decide) ?_
          exact K_131 _ (by unfold lg_fold; rw [if_neg h_85, if_pos h_97, hy1, pk_sub_toInt (by omega) (by omega)]; omega)
      · refine lv_iload G.1 G.2.1 dL_taken_88 (lv_at hl 1 rfl) ?_
        refine lv_goto (tgt := 131) G.1 G.2.1 dL_taken_90 (by decide) ?_
        exact K_131 _ (by unfold lg_fold; rw [if_pos h_85]; exact nI_toInt (by omega))
  · have hX : (sp_curve S p b v) * (S 3 (p * 3 + b) - S 2 (p * 3 + b)) ≤ 255 * 255 := Nat.mul_le_mul (by omega) (by omega)
    have hm9 := Nat.mod_le ((sp_curve S p b v) * (S 3 (p * 3 + b) - S 2 (p * 3 + b))) 255
    refine lv_iload G.1 G.2.1 dL_taken_54 (lv_at hl 3 rfl) ?_
    refine lv_iload G.1 G.2.1 dL_taken_56 (lv_at hl 1 rfl) ?_
    refine lv_iload G.1 G.2.1 dL_taken_58 (lv_at hl 2 rfl) ?_
    refine lv_iload G.1 G.2.1 dL_taken_60 (lv_at hl 3 rfl) ?_
    refine gn_isub G dL_taken_62 (by omega) ?_
    refine gn_imul G dL_taken_63 ?_
    refine lv_iload G.1 G.2.1 dL_taken_64 (lv_at hl 1 rfl) ?_
    refine lv_iload G.1 G.2.1 dL_taken_66 (lv_at hl 2 rfl) ?_
    refine lv_iload G.1 G.2.1 dL_taken_68 (lv_at hl 3 rfl) ?_
    refine gn_isub G dL_taken_70 (by omega) ?_
    refine gn_imul G dL_taken_71 ?_
    refine lv_sipush (v := nI 255) G.1 G.2.1 dL_taken_72 (by decide) ?_
    refine gn_irem G dL_taken_75 (by omega) (by omega) (by omega) ?_
    refine gn_isub G dL_taken_76 (by omega) ?_
    refine lv_sipush (v := nI 255) G.1 G.2.1 dL_taken_77 (by decide) ?_
    refine gn_idiv G dL_taken_80 (by omega) (by omega) (by omega) ?_
    refine gn_iadd G dL_taken_81 ?_
    exact W.iret G.1 G.2.1 G.2.2.1 (fun t ht hW => ⟨_, rfl, by rw [lg_div _ _ (by decide)]; show _ = nI (sp_take _ _ _ _); unfold sp_take; rw [if_pos h_51], ht⟩) (fun q h => nomatch h) dL_taken_82 G.2.2.2.2.2.2
set_option maxRecDepth 100000 in
set_option maxHeartbeats 1000000 in
theorem mL_through (l : Launch) (D : va_G) (a : Nat → Nat) (cI : ClassId) (N : Nat → Nat) (S : Nat → Nat → Nat) (hok : sp_ok N S) (h6 : ∀ j, S 6 j ≤ 2) (ch b v : Nat) (hch : ch ≤ 1) (hb : b ≤ 2) (hv : v ≤ 255) : Met l yL_through wsL_through { frames := 3, cells := 0, slots := 0, locals := 76 } (va_Pc [.ref (a 0), .ref (a 1), .ref (a 2), .ref (a 3), .int (nI ch), .int (nI b), .int (nI v)] (fun U => lrAt D a cI N S U U.heap)) (vp_Si (fun r => r = nI (sp_pass S ch b v))) 0 0 (fun _ => False) := by
  refine gc_met [.ref (a 0), .ref (a 1), .ref (a 2), .ref (a 3), .int (nI ch), .int (nI b), .int (nI v)] (by decide) rfl (Nat.le_of_ble_eq_true rfl) rfl ?_
  intro p e s m below meth c ls G hl hR
  have hok9 := hok
  obtain ⟨⟨ok0, ok5⟩, ok1, ok2, ok3, ok4, ok6, ok7, ok8, ok12, ok13, ok14⟩ := hok9
  refine lv_iload G.1 G.2.1 dL_through_0 (lv_at hl 6 rfl) ?_
  refine lv_istore (lv' := [(7, .int (nI v)), (0, .ref (a 0)), (1, .ref (a 1)), (2, .ref (a 2)), (3, .ref (a 3)), (4, .int (nI ch)), (5, .int (nI b)), (6, .int (nI v))]) G.1 G.2.1 dL_through_2 hl (by decide) rfl (fun ls hl => ?_)
  refine lv_iconst (v := nI 0) G.1 G.2.1 dL_through_4 (by decide) ?_
  refine lv_istore (lv' := [(8, .int (nI 0)), (7, .int (nI v)), (0, .ref (a 0)), (1, .ref (a 1)), (2, .ref (a 2)), (3, .ref (a 3)), (4, .int (nI ch)), (5, .int (nI b)), (6, .int (nI v))]) G.1 G.2.1 dL_through_5 hl (by decide) rfl (fun ls hl => ?_)
  refine gj_loop (fun k ls => lv_has ls 9 [(8, .int (nI k)), (7, .int (nI (sp_passTo S ch b v k))), (0, .ref (a 0)), (1, .ref (a 1)), (2, .ref (a 2)), (3, .ref (a 3)), (4, .int (nI ch)), (5, .int (nI b)), (6, .int (nI v))]) (S 7 ch) 0 (Nat.zero_le _) (lv_sub hl [0, 1, 2, 3, 4, 5, 6, 7, 8] rfl) (fun k ls hj7 hl kk7 => ?_) (fun ls hl => ?_)
  · refine lv_iload G.1 G.2.1 dL_through_7 (lv_at hl 0 rfl) ?_
    refine lv_aload_n G.1 G.2.1 dL_through_9 rfl (lv_at hl 2 rfl) ?_
    refine lv_iconst (v := nI 2) G.1 G.2.1 dL_through_10 (by decide) ?_
    refine lv_iload G.1 G.2.1 dL_through_11 (lv_at hl 6 rfl) ?_
    refine gn_iadd G dL_through_13 ?_
    refine gl_ald (k := 0) (len := 11) (F := fC N S) G hR rfl (by omega) (by decide) dL_through_14 ?_
    rw [fC_7 (by omega)]
    have hv_14 := ok7 ch
    refine gn_ge G (by omega) (by omega) (tgt := 46) dL_through_15 (by decide) (fun h => absurd h (by omega)) (fun h_15 => ?_)
    have hq := sp_passTo_le (ch := ch) (b := b) (v := v) hok hv k
    refine lv_aload_n G.1 G.2.1 dL_through_18 rfl (lv_at hl 2 rfl) ?_
    refine lv_aload_n G.1 G.2.1 dL_through_19 rfl (lv_at hl 3 rfl) ?_
    refine lv_aload_n G.1 G.2.1 dL_through_20 rfl (lv_at hl 4 rfl) ?_
    refine lv_aload_n G.1 G.2.1 dL_through_21 rfl (lv_at hl 5 rfl) ?_
    refine lv_bipush (v := nI 6) G.1 G.2.1 dL_through_22 (by decide) ?_
    refine lv_iload G.1 G.2.1 dL_through_24 (lv_at hl 6 rfl) ?_
    refine gn_imul G dL_through_26 ?_
    refine lv_iload G.1 G.2.1 dL_through_27 (lv_at hl 0 rfl) ?_
    refine gn_iadd G dL_through_29 ?_
    refine gl_ald (k := 3) (len := 12) (F := S 6) G hR rfl (by omega) (by decide) dL_through_30 ?_
    rw [show (6 * ch) + k = ch * 6 + k from by omega]
    have hv_30 := h6 (ch * 6 + k)
    refine lv_iload G.1 G.2.1 dL_through_31 (lv_at hl 7 rfl) ?_
    refine lv_iload G.1 G.2.1 dL_through_33 (lv_at hl 1 rfl) ?_
    refine gc_s (As := [.ref (a 0), .ref (a 1), .ref (a 2), .int (nI (S 6 (ch * 6 + k))), .int (nI b), .int (nI (sp_passTo S ch b v k))]) (rest := []) G.fix (mL_taken l D a cI N S hok (S 6 (ch * 6 + k)) b (sp_passTo S ch b v k) (by omega) (by omega) (by omega)) (va_cwS 6 G.2.2.2.2.2.1 gL_through_L_taken rfl rfl rfl (by decide +kernel) ⟨Nat.le_of_ble_eq_true rfl, Nat.le_of_ble_eq_true rfl⟩) lrAt_blind (fun U hU hW => by rw [hU]; exact hR.moved hW) rfl hl.1 rfl (Nat.le_of_ble_eq_true rfl) dL_through_35 (Nat.zero_le _) (Nat.zero_le _) (fun r hr => ?_)
    subst hr
    have hv_35 := sp_tk_le (p := S 6 (ch * 6 + k)) (b := b) (v := sp_passTo S ch b v k) hok (by omega)
    have e9 : sp_tk S (S 6 (ch * 6 + k)) b (sp_passTo S ch b v k) = sp_passTo S ch b v (k + 1) := rfl
    rw [e9]
    refine lv_istore (lv' := [(7, .int (nI (sp_passTo S ch b v (k + 1)))), (8, .int (nI k)), (0, .ref (a 0)), (1, .ref (a 1)), (2, .ref (a 2)), (3, .ref (a 3)), (4, .int (nI ch)), (5, .int (nI b)), (6, .int (nI v))]) G.1 G.2.1 dL_through_38 hl (by decide) rfl (fun ls hl => ?_)
    refine gn_iinc (lv' := [(8, .int (nI (k + 1))), (7, .int (nI (sp_passTo S ch b v (k + 1)))), (0, .ref (a 0)), (1, .ref (a 1)), (2, .ref (a 2)), (3, .ref (a 3)), (4, .int (nI ch)), (5, .int (nI b)), (6, .int (nI v))]) (n := 1) G dL_through_40 hl (k := 1) rfl (by decide) rfl (fun ls hl => ?_)
    refine lv_goto (tgt := 7) G.1 G.2.1 dL_through_43 (by decide) ?_
    exact kk7 _ (lv_sub hl [0, 1, 2, 3, 4, 5, 6, 7, 8] rfl)
  · refine lv_iload G.1 G.2.1 dL_through_7 (lv_at hl 0 rfl) ?_
    refine lv_aload_n G.1 G.2.1 dL_through_9 rfl (lv_at hl 2 rfl) ?_
    refine lv_iconst (v := nI 2) G.1 G.2.1 dL_through_10 (by decide) ?_
    refine lv_iload G.1 G.2.1 dL_through_11 (lv_at hl 6 rfl) ?_
    refine gn_iadd G dL_through_13 ?_
    refine gl_ald (k := 0) (len := 11) (F := fC N S) G hR rfl (by omega) (by decide) dL_through_14 ?_
    rw [fC_7 (by omega)]
    have hv_14 := ok7 ch
    refine gn_ge G (by omega) (by omega) (tgt := 46) dL_through_15 (by decide) (fun h_15 => ?_) (fun h => absurd h (by omega))
    refine lv_iload G.1 G.2.1 dL_through_46 (lv_at hl 1 rfl) ?_
    exact W.iret G.1 G.2.1 G.2.2.1 (fun t ht hW => ⟨_, rfl, rfl, ht⟩) (fun q h => nomatch h) dL_through_48 G.2.2.2.2.2.2
set_option maxRecDepth 100000 in
set_option maxHeartbeats 1000000 in
theorem mL_held (l : Launch) (D : va_G) (a : Nat → Nat) (cI : ClassId) (N : Nat → Nat) (S : Nat → Nat → Nat) (hok : sp_ok N S) (hinv : sp_inv N S) (h5 : N 5 ≤ 2) : Met l yL_held wsL_held { frames := 0, cells := 0, slots := 0, locals := 0 } (va_Pc [.ref (a 0), .ref (a 3)] (fun U => lrAt D a cI N S U U.heap)) (vp_Si (fun r => r = nI (sp_held N S))) 0 0 (fun _ => False) := by
  refine gc_met [.ref (a 0), .ref (a 3)] (by decide) rfl (Nat.le_of_ble_eq_true rfl) rfl ?_
  intro p e s m below meth c ls G hl hR
  have hok9 := hok
  obtain ⟨⟨ok0, ok5⟩, ok1, ok2, ok3, ok4, ok6, ok7, ok8, ok12, ok13, ok14⟩ := hok9
  have h6 : ∀ j, S 6 j ≤ 7 := fun j => Nat.le_of_lt_succ (ok6 j)
  refine lv_iconst (v := nI 0) G.1 G.2.1 dL_held_0 (by decide) ?_
  refine lv_istore_n (lv' := [(2, .int (nI 0)), (0, .ref (a 0)), (1, .ref (a 3))]) G.1 G.2.1 dL_held_1 rfl hl (by decide) rfl (fun ls hl => ?_)
  refine lv_iconst (v := nI 0) G.1 G.2.1 dL_held_2 (by decide) ?_
  refine lv_istore_n (lv' := [(3, .int (nI 0)), (2, .int (nI 0)), (0, .ref (a 0)), (1, .ref (a 3))]) G.1 G.2.1 dL_held_3 rfl hl (by decide) rfl (fun ls hl => ?_)
  refine gj_loop (fun k ls => lv_has ls 4 [(3, .int (nI k)), (2, .int (nI (lg_hTo S k))), (0, .ref (a 0)), (1, .ref (a 3))]) (12) 0 (Nat.zero_le _) (lv_sub hl [0, 1, 2, 3] rfl) (fun k ls hj4 hl kk4 => ?_) (fun ls hl => ?_)
  · refine lv_iload_n G.1 G.2.1 dL_held_4 rfl (lv_at hl 0 rfl) ?_
    refine lv_bipush (v := nI 12) G.1 G.2.1 dL_held_5 (by decide) ?_
    refine gn_ge G (by omega) (by omega) (tgt := 56) dL_held_7 (by decide) (fun h => absurd h (by omega)) (fun h_7 => ?_)
    have hq := lg_hTo_lt h6 k
    have h10 := hinv.2.2.2.2.2.1 (k / 6) (by omega)
    have h1b := sp_bit_lt (N 10) (k / 6)
    rw [← h10.2] at h1b
    refine lv_iload_n G.1 G.2.1 dL_held_10 rfl (lv_at hl 1 rfl) ?_
    refine lv_aload_n G.1 G.2.1 dL_held_11 rfl (lv_at hl 2 rfl) ?_
    refine lv_bipush (v := nI 6) G.1 G.2.1 dL_held_12 (by decide) ?_
    refine lv_iload_n G.1 G.2.1 dL_held_14 rfl (lv_at hl 0 rfl) ?_
    refine lv_bipush (v := nI 6) G.1 G.2.1 dL_held_15 (by decide) ?_
    refine gn_idiv G dL_held_17 (by omega) (by omega) (by omega) ?_
    refine gn_iadd G dL_held_18 ?_
    refine gl_ald (k := 0) (len := 11) (F := fC N S) G hR rfl (by omega) (by decide) dL_held_19 ?_
    rw [fC_10 (by omega)]
    refine lv_iconst (v := nI 1) G.1 G.2.1 dL_held_20 (by decide) ?_
    refine gn_ne G (by omega) (by omega) (tgt := 47) dL_held_21 (by decide) (fun h_21 => ?_) (fun h_21 => ?_)
    · refine lv_iconst (v := nI 0) G.1 G.2.1 dL_held_47 (by decide) ?_
      refine gn_ior G dL_held_48 ?_
      rw [show (lg_hTo S k) ||| 0 = lg_hTo S (k + 1) from by show lg_hTo S k ||| _ = lg_hTo S k ||| _; rw [if_neg (fun z => h_21 z.1)]]
      refine lv_istore_n (lv' := [(2, .int (nI (lg_hTo S (k + 1)))), (3, .int (nI k)), (0, .ref (a 0)), (1, .ref (a 3))]) G.1 G.2.1 dL_held_49 rfl hl (by decide) rfl (fun ls hl => ?_)
      refine gn_iinc (lv' := [(3, .int (nI (k + 1))), (2, .int (nI (lg_hTo S (k + 1)))), (0, .ref (a 0)), (1, .ref (a 3))]) (n := 1) G dL_held_50 hl (k := 1) rfl (by decide) rfl (fun ls hl => ?_)
      refine lv_goto (tgt := 4) G.1 G.2.1 dL_held_53 (by decide) ?_
      exact kk4 _ (lv_sub hl [0, 1, 2, 3] rfl)
    · refine lv_iload_n G.1 G.2.1 dL_held_24 rfl (lv_at hl 0 rfl) ?_
      refine lv_bipush (v := nI 6) G.1 G.2.1 dL_held_25 (by decide) ?_
      refine gn_irem G dL_held_27 (by omega) (by omega) (by omega) ?_
      refine lv_aload_n G.1 G.2.1 dL_held_28 rfl (lv_at hl 2 rfl) ?_
      refine lv_iconst (v := nI 2) G.1 G.2.1 dL_held_29 (by decide) ?_
      refine lv_iload_n G.1 G.2.1 dL_held_30 rfl (lv_at hl 0 rfl) ?_
      refine lv_bipush (v := nI 6) G.1 G.2.1 dL_held_31 (by decide) ?_
      refine gn_idiv G dL_held_33 (by omega) (by omega) (by omega) ?_
      refine gn_iadd G dL_held_34 ?_
      refine gl_ald (k := 0) (len := 11) (F := fC N S) G hR rfl (by omega) (by decide) dL_held_35 ?_
      rw [fC_7 (by omega)]
      have hv_35 := ok7 (k / 6)
      refine gn_ge G (by omega) (by omega) (tgt := 47) dL_held_36 (by decide) (fun h_36 => ?_) (fun h_36 => ?_)
      · refine lv_iconst (v := nI 0) G.1 G.2.1 dL_held_47 (by decide) ?_
        refine gn_ior G dL_held_48 ?_
        rw [show (lg_hTo S k) ||| 0 = lg_hTo S (k + 1) from by show lg_hTo S k ||| _ = lg_hTo S k ||| _; rw [if_neg (fun z => absurd z.2 (Nat.not_lt.mpr h_36))]]
        refine lv_istore_n (lv' := [(2, .int (nI (lg_hTo S (k + 1)))), (3, .int (nI k)), (0, .ref (a 0)), (1, .ref (a 3))]) G.1 G.2.1 dL_held_49 rfl hl (by decide) rfl (fun ls hl => ?_)
        refine gn_iinc (lv' := [(3, .int (nI (k + 1))), (2, .int (nI (lg_hTo S (k + 1)))), (0, .ref (a 0)), (1, .ref (a 3))]) (n := 1) G dL_held_50 hl (k := 1) rfl (by decide) rfl (fun ls hl => ?_)
        refine lv_goto (tgt := 4) G.1 G.2.1 dL_held_53 (by decide) ?_
        exact kk4 _ (lv_sub hl [0, 1, 2, 3] rfl)
      · refine lv_iconst (v := nI 1) G.1 G.2.1 dL_held_39 (by decide) ?_
        refine lv_aload_n G.1 G.2.1 dL_held_40 rfl (lv_at hl 3 rfl) ?_
        refine lv_iload_n G.1 G.2.1 dL_held_41 rfl (lv_at hl 0 rfl) ?_
        refine gl_ald (k := 3) (len := 12) (F := S 6) G hR rfl (by omega) (by decide) dL_held_42 ?_
        have hv_42 := h6 k
        refine gn_ishl G dL_held_43 (by omega) ?_
        refine lv_goto (tgt := 48) G.1 G.2.1 dL_held_44 (by decide) ?_
        refine gn_ior G dL_held_48 ?_
        rw [show (lg_hTo S k) ||| (2 ^ (S 6 k)) = lg_hTo S (k + 1) from by show lg_hTo S k ||| _ = lg_hTo S k ||| _; rw [if_pos ⟨h_21, h_36⟩]]
        refine lv_istore_n (lv' := [(2, .int (nI (lg_hTo S (k + 1)))), (3, .int (nI k)), (0, .ref (a 0)), (1, .ref (a 3))]) G.1 G.2.1 dL_held_49 rfl hl (by decide) rfl (fun ls hl => ?_)
        refine gn_iinc (lv' := [(3, .int (nI (k + 1))), (2, .int (nI (lg_hTo S (k + 1)))), (0, .ref (a 0)), (1, .ref (a 3))]) (n := 1) G dL_held_50 hl (k := 1) rfl (by decide) rfl (fun ls hl => ?_)
        refine lv_goto (tgt := 4) G.1 G.2.1 dL_held_53 (by decide) ?_
        exact kk4 _ (lv_sub hl [0, 1, 2, 3] rfl)
  · refine lv_iload_n G.1 G.2.1 dL_held_4 rfl (lv_at hl 0 rfl) ?_
    refine lv_bipush (v := nI 12) G.1 G.2.1 dL_held_5 (by decide) ?_
    refine gn_ge G (by omega) (by omega) (tgt := 56) dL_held_7 (by decide) (fun h_7 => ?_) (fun h => absurd h (by omega))
    refine lv_iload_n G.1 G.2.1 dL_held_56 rfl (lv_at hl 1 rfl) ?_
    exact W.iret G.1 G.2.1 G.2.2.1 (fun t ht hW => ⟨_, rfl, by rw [lg_held hok hinv h5], ht⟩) (fun q h => nomatch h) dL_held_57 G.2.2.2.2.2.2
theorem lg_m1 {a : Nat} (h : a < 2 ^ 31) : ¬ nI a ≤ -1 := fun z => by
  have h1 := Int32.le_iff_toInt_le.mp z
  rw [nI_toInt h] at h1
  have h2 : (-1 : Int32).toInt = -1 := by decide
  omega
set_option maxRecDepth 100000 in
set_option maxHeartbeats 1000000 in
theorem mL_greys (l : Launch) (D : va_G) (a : Nat → Nat) (cI : ClassId) (N : Nat → Nat) (S : Nat → Nat → Nat) (hok : sp_ok N S) (h6 : ∀ j, S 6 j ≤ 2) (ch : Nat) (hch : ch ≤ 1) : Met l yL_greys wsL_greys { frames := 4, cells := 0, slots := 0, locals := 104 } (va_Pc [.ref (a 0), .ref (a 1), .ref (a 2), .ref (a 3), .int (nI ch)] (fun U => lrAt D a cI N S U U.heap)) (vp_Si (fun r => r = nI (sp_grey S ch))) 0 0 (fun _ => False) := by
  refine gc_met [.ref (a 0), .ref (a 1), .ref (a 2), .ref (a 3), .int (nI ch)] (by decide) rfl (Nat.le_of_ble_eq_true rfl) rfl ?_
  intro p e s m below meth c ls G hl hR
  have hok9 := hok
  obtain ⟨⟨ok0, ok5⟩, ok1, ok2, ok3, ok4, ok6, ok7, ok8, ok12, ok13, ok14⟩ := hok9
  refine lv_iconst (v := nI 0) G.1 G.2.1 dL_greys_0 (by decide) ?_
  refine lv_istore (lv' := [(5, .int (nI 0)), (0, .ref (a 0)), (1, .ref (a 1)), (2, .ref (a 2)), (3, .ref (a 3)), (4, .int (nI ch))]) G.1 G.2.1 dL_greys_1 hl (by decide) rfl (fun ls hl => ?_)
  refine lv_iconst (v := nI 0) G.1 G.2.1 dL_greys_3 (by decide) ?_
  refine lv_istore (lv' := [(6, .int (nI 0)), (5, .int (nI 0)), (0, .ref (a 0)), (1, .ref (a 1)), (2, .ref (a 2)), (3, .ref (a 3)), (4, .int (nI ch))]) G.1 G.2.1 dL_greys_4 hl (by decide) rfl (fun ls hl => ?_)
  refine gj_loop (fun v ls => lv_has ls 11 [(6, .int (nI v)), (5, .int (nI (sp_greyTo S ch v))), (0, .ref (a 0)), (1, .ref (a 1)), (2, .ref (a 2)), (3, .ref (a 3)), (4, .int (nI ch))]) (256) 0 (Nat.zero_le _) (lv_sub hl [0, 1, 2, 3, 4, 5, 6] rfl) (fun v ls hj6 hl kk6 => ?_) (fun ls hl => ?_)
  · refine lv_iload G.1 G.2.1 dL_greys_6 (lv_at hl 0 rfl) ?_
    refine lv_sipush (v := nI 256) G.1 G.2.1 dL_greys_8 (by decide) ?_
    refine gn_ge G (by omega) (by omega) (tgt := 112) dL_greys_11 (by decide) (fun h => absurd h (by omega)) (fun h_11 => ?_)
    have hmost := sp_greyTo_le (ch := ch) hok v (by omega)
    refine lv_sipush (v := nI 256) G.1 G.2.1 dL_greys_14 (by decide) ?_
    refine lv_istore (lv' := [(7, .int (nI 256)), (6, .int (nI v)), (5, .int (nI (sp_greyTo S ch v))), (0, .ref (a 0)), (1, .ref (a 1)), (2, .ref (a 2)), (3, .ref (a 3)), (4, .int (nI ch))]) G.1 G.2.1 dL_greys_17 hl (by decide) rfl (fun ls hl => ?_)
    refine lv_iconst (v := -1) G.1 G.2.1 dL_greys_19 (by decide) ?_
    refine lv_istore (lv' := [(8, .int ((-1))), (7, .int (nI 256)), (6, .int (nI v)), (5, .int (nI (sp_greyTo S ch v))), (0, .ref (a 0)), (1, .ref (a 1)), (2, .ref (a 2)), (3, .ref (a 3)), (4, .int (nI ch))]) G.1 G.2.1 dL_greys_20 hl (by decide) rfl (fun ls hl => ?_)
    refine lv_iconst (v := nI 0) G.1 G.2.1 dL_greys_22 (by decide) ?_
    refine lv_istore (lv' := [(9, .int (nI 0)), (8, .int ((-1))), (7, .int (nI 256)), (6, .int (nI v)), (5, .int (nI (sp_greyTo S ch v))), (0, .ref (a 0)), (1, .ref (a 1)), (2, .ref (a 2)), (3, .ref (a 3)), (4, .int (nI ch))]) G.1 G.2.1 dL_greys_23 hl (by decide) rfl (fun ls hl => ?_)
    refine lv_iload G.1 G.2.1 dL_greys_25 (lv_at hl 0 rfl) ?_
    refine lv_iconst (v := nI 3) G.1 G.2.1 dL_greys_27 (by decide) ?_
    refine gn_ge G (by omega) (by omega) (tgt := 84) dL_greys_28 (by decide) (fun h => absurd h (by omega)) (fun h_28 => ?_)
    refine lv_aload_n G.1 G.2.1 dL_greys_31 rfl (lv_at hl 5 rfl) ?_
    refine lv_aload_n G.1 G.2.1 dL_greys_32 rfl (lv_at hl 6 rfl) ?_
    refine lv_aload_n G.1 G.2.1 dL_greys_33 rfl (lv_at hl 7 rfl) ?_
    refine lv_aload_n G.1 G.2.1 dL_greys_34 rfl (lv_at hl 8 rfl) ?_
    refine lv_iload G.1 G.2.1 dL_greys_35 (lv_at hl 9 rfl) ?_
    refine lv_iload G.1 G.2.1 dL_greys_37 (lv_at hl 0 rfl) ?_
    refine lv_iload G.1 G.2.1 dL_greys_39 (lv_at hl 3 rfl) ?_
    refine gc_s (As := [.ref (a 0), .ref (a 1), .ref (a 2), .ref (a 3), .int (nI ch), .int (nI 0), .int (nI v)]) (rest := []) G.fix (mL_through l D a cI N S hok h6 ch 0 v (by omega) (by omega) (by omega)) (va_cwS 7 G.2.2.2.2.2.1 gL_greys_L_through rfl rfl rfl (by decide +kernel) ⟨Nat.le_of_ble_eq_true rfl, Nat.le_of_ble_eq_true rfl⟩) lrAt_blind (fun U hU hW => by rw [hU]; exact hR.moved hW) rfl hl.1 rfl (Nat.le_of_ble_eq_true rfl) dL_greys_41 (Nat.zero_le _) (Nat.zero_le _) (fun r hr => ?_)
    subst hr
    have hv_41 := sp_pass_le (ch := ch) (b := 0) (v := v) hok (by omega)
    refine lv_istore (lv' := [(10, .int (nI (sp_pass S ch 0 v))), (9, .int (nI 0)), (8, .int ((-1))), (7, .int (nI 256)), (6, .int (nI v)), (5, .int (nI (sp_greyTo S ch v))), (0, .ref (a 0)), (1, .ref (a 1)), (2, .ref (a 2)), (3, .ref (a 3)), (4, .int (nI ch))]) G.1 G.2.1 dL_greys_44 hl (by decide) rfl (fun ls hl => ?_)
    refine gj_x (fun x => x = nI (sp_pass S ch 0 v)) 60 [] (fun x hx => ?_) (fun K_60 => ?_)
    · subst hx
      refine lv_istore (lv' := [(7, .int (nI (sp_pass S ch 0 v))), (10, .int (nI (sp_pass S ch 0 v))), (9, .int (nI 0)), (8, .int ((-1))), (6, .int (nI v)), (5, .int (nI (sp_greyTo S ch v))), (0, .ref (a 0)), (1, .ref (a 1)), (2, .ref (a 2)), (3, .ref (a 3)), (4, .int (nI ch))]) G.1 G.2.1 dL_greys_60 hl (by decide) rfl (fun ls hl => ?_)
      refine gj_x (fun x => x = nI (sp_pass S ch 0 v)) 76 [] (fun x hx => ?_) (fun K_76 => ?_)
      · subst hx
        refine lv_istore (lv' := [(8, .int (nI (sp_pass S ch 0 v))), (7, .int (nI (sp_pass S ch 0 v))), (10, .int (nI (sp_pass S ch 0 v))), (9, .int (nI 0)), (6, .int (nI v)), (5, .int (nI (sp_greyTo S ch v))), (0, .ref (a 0)), (1, .ref (a 1)), (2, .ref (a 2)), (3, .ref (a 3)), (4, .int (nI ch))]) G.1 G.2.1 dL_greys_76 hl (by decide) rfl (fun ls hl => ?_)
        refine gn_iinc (lv' := [(9, .int (nI 1)), (8, .int (nI (sp_pass S ch 0 v))), (7, .int (nI (sp_pass S ch 0 v))), (10, .int (nI (sp_pass S ch 0 v))), (6, .int (nI v)), (5, .int (nI (sp_greyTo S ch v))), (0, .ref (a 0)), (1, .ref (a 1)), (2, .ref (a 2)), (3, .ref (a 3)), (4, .int (nI ch))]) (n := 1) G dL_greys_78 hl (k := 3) rfl (by decide) rfl (fun ls hl => ?_)
        refine lv_goto (tgt := 25) G.1 G.2.1 dL_greys_81 (by decide) ?_
        refine lv_iload G.1 G.2.1 dL_greys_25 (lv_at hl 0 rfl) ?_
        refine lv_iconst (v := nI 3) G.1 G.2.1 dL_greys_27 (by decide) ?_
        refine gn_ge G (by omega) (by omega) (tgt := 84) dL_greys_28 (by decide) (fun h => absurd h (by omega)) (fun h_28 => ?_)
        refine lv_aload_n G.1 G.2.1 dL_greys_31 rfl (lv_at hl 6 rfl) ?_
        refine lv_aload_n G.1 G.2.1 dL_greys_32 rfl (lv_at hl 7 rfl) ?_
        refine lv_aload_n G.1 G.2.1 dL_greys_33 rfl (lv_at hl 8 rfl) ?_
        refine lv_aload_n G.1 G.2.1 dL_greys_34 rfl (lv_at hl 9 rfl) ?_
        refine lv_iload G.1 G.2.1 dL_greys_35 (lv_at hl 10 rfl) ?_
        refine lv_iload G.1 G.2.1 dL_greys_37 (lv_at hl 0 rfl) ?_
        refine lv_iload G.1 G.2.1 dL_greys_39 (lv_at hl 4 rfl) ?_
        refine gc_s (As := [.ref (a 0), .ref (a 1), .ref (a 2), .ref (a 3), .int (nI ch), .int (nI 1), .int (nI v)]) (rest := []) G.fix (mL_through l D a cI N S hok h6 ch 1 v (by omega) (by omega) (by omega)) (va_cwS 7 G.2.2.2.2.2.1 gL_greys_L_through rfl rfl rfl (by decide +kernel) ⟨Nat.le_of_ble_eq_true rfl, Nat.le_of_ble_eq_true rfl⟩) lrAt_blind (fun U hU hW => by rw [hU]; exact hR.moved hW) rfl hl.1 rfl (Nat.le_of_ble_eq_true rfl) dL_greys_41 (Nat.zero_le _) (Nat.zero_le _) (fun r hr => ?_)
        subst hr
        have hv_41 := sp_pass_le (ch := ch) (b := 1) (v := v) hok (by omega)
        refine lv_istore (lv' := [(10, .int (nI (sp_pass S ch 1 v))), (9, .int (nI 1)), (8, .int (nI (sp_pass S ch 0 v))), (7, .int (nI (sp_pass S ch 0 v))), (6, .int (nI v)), (5, .int (nI (sp_greyTo S ch v))), (0, .ref (a 0)), (1, .ref (a 1)), (2, .ref (a 2)), (3, .ref (a 3)), (4, .int (nI ch))]) G.1 G.2.1 dL_greys_44 hl (by decide) rfl (fun ls hl => ?_)
        refine gj_x (fun x => x = nI (min (sp_pass S ch 0 v) (sp_pass S ch 1 v))) 60 [] (fun x hx => ?_) (fun K_60 => ?_)
        · subst hx
          refine lv_istore (lv' := [(7, .int (nI (min (sp_pass S ch 0 v) (sp_pass S ch 1 v)))), (10, .int (nI (sp_pass S ch 1 v))), (9, .int (nI 1)), (8, .int (nI (sp_pass S ch 0 v))), (6, .int (nI v)), (5, .int (nI (sp_greyTo S ch v))), (0, .ref (a 0)), (1, .ref (a 1)), (2, .ref (a 2)), (3, .ref (a 3)), (4, .int (nI ch))]) G.1 G.2.1 dL_greys_60 hl (by decide) rfl (fun ls hl => ?_)
          refine gj_x (fun x => x = nI (max (sp_pass S ch 0 v) (sp_pass S ch 1 v))) 76 [] (fun x hx => ?_) (fun K_76 => ?_)
          · subst hx
            refine lv_istore (lv' := [(8, .int (nI (max (sp_pass S ch 0 v) (sp_pass S ch 1 v)))), (7, .int (nI (min (sp_pass S ch 0 v) (sp_pass S ch 1 v)))), (10, .int (nI (sp_pass S ch 1 v))), (9, .int (nI 1)), (6, .int (nI v)), (5, .int (nI (sp_greyTo S ch v))), (0, .ref (a 0)), (1, .ref (a 1)), (2, .ref (a 2)), (3, .ref (a 3)), (4, .int (nI ch))]) G.1 G.2.1 dL_greys_76 hl (by decide) rfl (fun ls hl => ?_)
            refine gn_iinc (lv' := [(9, .int (nI 2)), (8, .int (nI (max (sp_pass S ch 0 v) (sp_pass S ch 1 v)))), (7, .int (nI (min (sp_pass S ch 0 v) (sp_pass S ch 1 v)))), (10, .int (nI (sp_pass S ch 1 v))), (6, .int (nI v)), (5, .int (nI (sp_greyTo S ch v))), (0, .ref (a 0)), (1, .ref (a 1)), (2, .ref (a 2)), (3, .ref (a 3)), (4, .int (nI ch))]) (n := 1) G dL_greys_78 hl (k := 3) rfl (by decide) rfl (fun ls hl => ?_)
            refine lv_goto (tgt := 25) G.1 G.2.1 dL_greys_81 (by decide) ?_
            refine lv_iload G.1 G.2.1 dL_greys_25 (lv_at hl 0 rfl) ?_
            refine lv_iconst (v := nI 3) G.1 G.2.1 dL_greys_27 (by decide) ?_
            refine gn_ge G (by omega) (by omega) (tgt := 84) dL_greys_28 (by decide) (fun h => absurd h (by omega)) (fun h_28 => ?_)
            refine lv_aload_n G.1 G.2.1 dL_greys_31 rfl (lv_at hl 6 rfl) ?_
            refine lv_aload_n G.1 G.2.1 dL_greys_32 rfl (lv_at hl 7 rfl) ?_
            refine lv_aload_n G.1 G.2.1 dL_greys_33 rfl (lv_at hl 8 rfl) ?_
            refine lv_aload_n G.1 G.2.1 dL_greys_34 rfl (lv_at hl 9 rfl) ?_
            refine lv_iload G.1 G.2.1 dL_greys_35 (lv_at hl 10 rfl) ?_
            refine lv_iload G.1 G.2.1 dL_greys_37 (lv_at hl 0 rfl) ?_
            refine lv_iload G.1 G.2.1 dL_greys_39 (lv_at hl 4 rfl) ?_
            refine gc_s (As := [.ref (a 0), .ref (a 1), .ref (a 2), .ref (a 3), .int (nI ch), .int (nI 2), .int (nI v)]) (rest := []) G.fix (mL_through l D a cI N S hok h6 ch 2 v (by omega) (by omega) (by omega)) (va_cwS 7 G.2.2.2.2.2.1 gL_greys_L_through rfl rfl rfl (by decide +kernel) ⟨Nat.le_of_ble_eq_true rfl, Nat.le_of_ble_eq_true rfl⟩) lrAt_blind (fun U hU hW => by rw [hU]; exact hR.moved hW) rfl hl.1 rfl (Nat.le_of_ble_eq_true rfl) dL_greys_41 (Nat.zero_le _) (Nat.zero_le _) (fun r hr => ?_)
            subst hr
            have hv_41 := sp_pass_le (ch := ch) (b := 2) (v := v) hok (by omega)
            refine lv_istore (lv' := [(10, .int (nI (sp_pass S ch 2 v))), (9, .int (nI 2)), (8, .int (nI (max (sp_pass S ch 0 v) (sp_pass S ch 1 v)))), (7, .int (nI (min (sp_pass S ch 0 v) (sp_pass S ch 1 v)))), (6, .int (nI v)), (5, .int (nI (sp_greyTo S ch v))), (0, .ref (a 0)), (1, .ref (a 1)), (2, .ref (a 2)), (3, .ref (a 3)), (4, .int (nI ch))]) G.1 G.2.1 dL_greys_44 hl (by decide) rfl (fun ls hl => ?_)
            refine gj_x (fun x => x = nI (min (min (sp_pass S ch 0 v) (sp_pass S ch 1 v)) (sp_pass S ch 2 v))) 60 [] (fun x hx => ?_) (fun K_60 => ?_)
            · subst hx
              refine lv_istore (lv' := [(7, .int (nI (min (min (sp_pass S ch 0 v) (sp_pass S ch 1 v)) (sp_pass S ch 2 v)))), (10, .int (nI (sp_pass S ch 2 v))), (9, .int (nI 2)), (8, .int (nI (max (sp_pass S ch 0 v) (sp_pass S ch 1 v)))), (6, .int (nI v)), (5, .int (nI (sp_greyTo S ch v))), (0, .ref (a 0)), (1, .ref (a 1)), (2, .ref (a 2)), (3, .ref (a 3)), (4, .int (nI ch))]) G.1 G.2.1 dL_greys_60 hl (by decide) rfl (fun ls hl => ?_)
              refine gj_x (fun x => x = nI (max (max (sp_pass S ch 0 v) (sp_pass S ch 1 v)) (sp_pass S ch 2 v))) 76 [] (fun x hx => ?_) (fun K_76 => ?_)
              · subst hx
                refine lv_istore (lv' := [(8, .int (nI (max (max (sp_pass S ch 0 v) (sp_pass S ch 1 v)) (sp_pass S ch 2 v)))), (7, .int (nI (min (min (sp_pass S ch 0 v) (sp_pass S ch 1 v)) (sp_pass S ch 2 v)))), (10, .int (nI (sp_pass S ch 2 v))), (9, .int (nI 2)), (6, .int (nI v)), (5, .int (nI (sp_greyTo S ch v))), (0, .ref (a 0)), (1, .ref (a 1)), (2, .ref (a 2)), (3, .ref (a 3)), (4, .int (nI ch))]) G.1 G.2.1 dL_greys_76 hl (by decide) rfl (fun ls hl => ?_)
                refine gn_iinc (lv' := [(9, .int (nI 3)), (8, .int (nI (max (max (sp_pass S ch 0 v) (sp_pass S ch 1 v)) (sp_pass S ch 2 v)))), (7, .int (nI (min (min (sp_pass S ch 0 v) (sp_pass S ch 1 v)) (sp_pass S ch 2 v)))), (10, .int (nI (sp_pass S ch 2 v))), (6, .int (nI v)), (5, .int (nI (sp_greyTo S ch v))), (0, .ref (a 0)), (1, .ref (a 1)), (2, .ref (a 2)), (3, .ref (a 3)), (4, .int (nI ch))]) (n := 1) G dL_greys_78 hl (k := 3) rfl (by decide) rfl (fun ls hl => ?_)
                refine lv_goto (tgt := 25) G.1 G.2.1 dL_greys_81 (by decide) ?_
                refine lv_iload G.1 G.2.1 dL_greys_25 (lv_at hl 0 rfl) ?_
                refine lv_iconst (v := nI 3) G.1 G.2.1 dL_greys_27 (by decide) ?_
                refine gn_ge G (by omega) (by omega) (tgt := 84) dL_greys_28 (by decide) (fun h_28 => ?_) (fun h => absurd h (by omega))
                refine gj_x (fun x => x = nI (sp_greyTo S ch (v + 1))) 104 [] (fun x hx => ?_) (fun K_104 => ?_)
                · subst hx
                  refine lv_istore (lv' := [(5, .int (nI (sp_greyTo S ch (v + 1)))), (9, .int (nI 3)), (8, .int (nI (max (max (sp_pass S ch 0 v) (sp_pass S ch 1 v)) (sp_pass S ch 2 v)))), (7, .int (nI (min (min (sp_pass S ch 0 v) (sp_pass S ch 1 v)) (sp_pass S ch 2 v)))), (10, .int (nI (sp_pass S ch 2 v))), (6, .int (nI v)), (0, .ref (a 0)), (1, .ref (a 1)), (2, .ref (a 2)), (3, .ref (a 3)), (4, .int (nI ch))]) G.1 G.2.1 dL_greys_104 hl (by decide) rfl (fun ls hl => ?_)
                  refine gn_iinc (lv' := [(6, .int (nI (v + 1))), (5, .int (nI (sp_greyTo S ch (v + 1)))), (9, .int (nI 3)), (8, .int (nI (max (max (sp_pass S ch 0 v) (sp_pass S ch 1 v)) (sp_pass S ch 2 v)))), (7, .int (nI (min (min (sp_pass S ch 0 v) (sp_pass S ch 1 v)) (sp_pass S ch 2 v)))), (10, .int (nI (sp_pass S ch 2 v))), (0, .ref (a 0)), (1, .ref (a 1)), (2, .ref (a 2)), (3, .ref (a 3)), (4, .int (nI ch))]) (n := 1) G dL_greys_106 hl (k := 5) rfl (by decide) rfl (fun ls hl => ?_)
                  refine lv_goto (tgt := 6) G.1 G.2.1 dL_greys_109 (by decide) ?_
                  exact kk6 _ (lv_sub hl [0, 1, 6, 7, 8, 9, 10] rfl)
                · refine lv_iload G.1 G.2.1 dL_greys_84 (lv_at hl 1 rfl) ?_
                  refine lv_iload G.1 G.2.1 dL_greys_86 (lv_at hl 2 rfl) ?_
                  refine gn_isub G dL_greys_88 (by omega) ?_
                  refine lv_iload G.1 G.2.1 dL_greys_89 (lv_at hl 5 rfl) ?_
                  refine gn_le G (by omega) (by omega) (tgt := 102) dL_greys_91 (by decide) (fun h_91 => ?_) (fun h_91 => ?_)
                  · refine lv_iload G.1 G.2.1 dL_greys_102 (lv_at hl 5 rfl) ?_
                    exact K_104 _ (congrArg nI (by rw [sp_grey_s]; omega))
                  · refine lv_iload G.1 G.2.1 dL_greys_94 (lv_at hl 1 rfl) ?_
                    refine lv_iload G.1 G.2.1 dL_greys_96 (lv_at hl 2 rfl) ?_
                    refine gn_isub G dL_greys_98 (by omega) ?_
                    refine lv_goto (tgt := 104) G.1 G.2.1 dL_greys_99 (by decide) ?_
                    exact K_104 _ (congrArg nI (by rw [sp_grey_s]; omega))
              · refine lv_iload G.1 G.2.1 dL_greys_62 (lv_at hl 1 rfl) ?_
                refine lv_iload G.1 G.2.1 dL_greys_64 (lv_at hl 3 rfl) ?_
                refine gn_le G (by omega) (by omega) (tgt := 74) dL_greys_66 (by decide) (fun h_66 => ?_) (fun h_66 => ?_)
                · refine lv_iload G.1 G.2.1 dL_greys_74 (lv_at hl 3 rfl) ?_
                  exact K_76 _ (congrArg nI (by omega))
                · refine lv_iload G.1 G.2.1 dL_greys_69 (lv_at hl 1 rfl) ?_
                  refine lv_goto (tgt := 76) G.1 G.2.1 dL_greys_71 (by decide) ?_
                  exact K_76 _ (congrArg nI (by omega))
            · refine lv_iload G.1 G.2.1 dL_greys_46 (lv_at hl 0 rfl) ?_
              refine lv_iload G.1 G.2.1 dL_greys_48 (lv_at hl 3 rfl) ?_
              refine gn_ge G (by omega) (by omega) (tgt := 58) dL_greys_50 (by decide) (fun h_50 => ?_) (fun h_50 => ?_)
              · refine lv_iload G.1 G.2.1 dL_greys_58 (lv_at hl 3 rfl) ?_
                exact K_60 _ (congrArg nI (by omega))
              · refine lv_iload G.1 G.2.1 dL_greys_53 (lv_at hl 0 rfl) ?_
                refine lv_goto (tgt := 60) G.1 G.2.1 dL_greys_55 (by decide) ?_
                exact K_60 _ (congrArg nI (by omega))
          · refine lv_iload G.1 G.2.1 dL_greys_62 (lv_at hl 1 rfl) ?_
            refine lv_iload G.1 G.2.1 dL_greys_64 (lv_at hl 3 rfl) ?_
            refine gn_le G (by omega) (by omega) (tgt := 74) dL_greys_66 (by decide) (fun h_66 => ?_) (fun h_66 => ?_)
            · refine lv_iload G.1 G.2.1 dL_greys_74 (lv_at hl 3 rfl) ?_
              exact K_76 _ (congrArg nI (by omega))
            · refine lv_iload G.1 G.2.1 dL_greys_69 (lv_at hl 1 rfl) ?_
              refine lv_goto (tgt := 76) G.1 G.2.1 dL_greys_71 (by decide) ?_
              exact K_76 _ (congrArg nI (by omega))
        · refine lv_iload G.1 G.2.1 dL_greys_46 (lv_at hl 0 rfl) ?_
          refine lv_iload G.1 G.2.1 dL_greys_48 (lv_at hl 3 rfl) ?_
          refine gn_ge G (by omega) (by omega) (tgt := 58) dL_greys_50 (by decide) (fun h_50 => ?_) (fun h_50 => ?_)
          · refine lv_iload G.1 G.2.1 dL_greys_58 (lv_at hl 3 rfl) ?_
            exact K_60 _ (congrArg nI (by omega))
          · refine lv_iload G.1 G.2.1 dL_greys_53 (lv_at hl 0 rfl) ?_
            refine lv_goto (tgt := 60) G.1 G.2.1 dL_greys_55 (by decide) ?_
            exact K_60 _ (congrArg nI (by omega))
      · refine lv_iload G.1 G.2.1 dL_greys_62 (lv_at hl 1 rfl) ?_
        refine lv_iload G.1 G.2.1 dL_greys_64 (lv_at hl 3 rfl) ?_
        refine lv_icmp_le (tgt := 74) G.1 G.2.1 dL_greys_66 (by decide) (fun h => absurd h (lg_m1 (by omega))) (fun h_66 => ?_)
        refine lv_iload G.1 G.2.1 dL_greys_69 (lv_at hl 1 rfl) ?_
        refine lv_goto (tgt := 76) G.1 G.2.1 dL_greys_71 (by decide) ?_
        exact K_76 _ (congrArg nI (by omega))
    · refine lv_iload G.1 G.2.1 dL_greys_46 (lv_at hl 0 rfl) ?_
      refine lv_iload G.1 G.2.1 dL_greys_48 (lv_at hl 3 rfl) ?_
      refine gn_ge G (by omega) (by omega) (tgt := 58) dL_greys_50 (by decide) (fun h => absurd h (by omega)) (fun h_50 => ?_)
      refine lv_iload G.1 G.2.1 dL_greys_53 (lv_at hl 0 rfl) ?_
      refine lv_goto (tgt := 60) G.1 G.2.1 dL_greys_55 (by decide) ?_
      exact K_60 _ (congrArg nI (by omega))
  · refine lv_iload G.1 G.2.1 dL_greys_6 (lv_at hl 0 rfl) ?_
    refine lv_sipush (v := nI 256) G.1 G.2.1 dL_greys_8 (by decide) ?_
    refine gn_ge G (by omega) (by omega) (tgt := 112) dL_greys_11 (by decide) (fun h_11 => ?_) (fun h => absurd h (by omega))
    refine lv_iload G.1 G.2.1 dL_greys_112 (lv_at hl 1 rfl) ?_
    exact W.iret G.1 G.2.1 G.2.2.1 (fun t ht hW => ⟨_, rfl, rfl, ht⟩) (fun q h => nomatch h) dL_greys_114 G.2.2.2.2.2.2
/-- the row of five places that the law's gap makes -/
def g5At (D : va_G) (f : Nat) (cI : ClassId) (F : Nat → Nat) (s : State) (H : Heap) : Prop := va_P D vwCl [(f, .inl (cI, 5, .inl (gr F)))] H ∧ va_K D vwCl [(cI, .int)] s ∧ va_D (gA s) [(f, .inl (cI, 5, .inl (gr F)))]
theorem g5At.row {D : va_G} {f : Nat} {cI : ClassId} {F : Nat → Nat} {s : State} {H : Heap} (h : g5At D f cI F s H) : rAt D f cI 5 F s H := ⟨h.1, h.2.1⟩
theorem lr_kept {D : va_G} {a : Nat → Nat} {cI : ClassId} {N : Nat → Nat} {S : Nat → Nat → Nat} {s : State} {H : Heap} {locs : List Loc} (h : lrAt D a cI N S s s.heap) (hS : va_S (gA s) s.heap H locs) : lrAt D a cI N S s H := ⟨h.1.kept (fun k x hx => hS.2.1 _ (h.1 k x hx).lt (Nat.not_le.mpr (h.1 k x hx).lt)), h.2⟩
/-- five places of a chain's curve -/
def lg5 (S : Nat → Nat → Nat) (ch b : Nat) (F : Nat → Nat) : Nat → Nat → Nat
  | 0 => F
  | k + 1 => gu (lg5 S ch b F k) k (sp_pass S ch b (sp_vop k))
theorem lg5_le {N : Nat → Nat} {S : Nat → Nat → Nat} {ch b : Nat} {F : Nat → Nat} (hok : sp_ok N S) (hF : ∀ j, F j ≤ 255) : ∀ k j, lg5 S ch b F k j ≤ 255
  | 0, j => hF j
  | k + 1, j => gu_le (lg5_le hok hF k) (sp_pass_le hok sp_vop_le) j
theorem lg5_at {S : Nat → Nat → Nat} {ch b : Nat} {F : Nat → Nat} : ∀ {n j : Nat}, j < n → lg5 S ch b F n j = sp_pass S ch b (sp_vop j)
  | 0, j, h => absurd h (Nat.not_lt_zero j)
  | n + 1, j, h => by
    show gu (lg5 S ch b F n) n _ j = _
    by_cases e : j = n
    · rw [e, gu_same]
    · rw [gu_other _ _ e]
      exact lg5_at (by omega)
theorem lg5_btw {S : Nat → Nat → Nat} {ch b v : Nat} {F : Nat → Nat} (hv : v ≤ 255) : sp_btw (lg5 S ch b F 5) 0 v = sp_btw (fun k => sp_pass S ch b (sp_vop k)) 0 v := by
  unfold sp_btw
  rw [lg5_at (by omega), lg5_at (by omega)]
section G5
variable {p : Program} {l : Launch} {e : Env} {R : Room} {s : State} {m : MethodId} {args : Array Value} {below : List Frame} {meth : Method} {c : Code} {H : Heap} {locs : List Loc} {cells slots : Nat} {Q : State → Prop}
variable {cc : ByteArray} {nL pc : Nat} {ret : Option FieldType} {ws : List Cond} {own : String} {rest : List Value} {ls : Array Slot} {D : va_G} {cI : ClassId} {f i v : Nat} {F : Nat → Nat}
theorem g5_ast (G : gF p s m args meth c cc ret nL own ws) (h5 : g5At D f cI F s H) (hS : va_S (gA s) s.heap H locs) (hi : i < 5) (hdg : decode cc pc = .ok (.iastore, 1))
    (kk : ∀ (H1 : Heap) (locs1 : List Loc), g5At D f cI (gu F i v) s H1 → va_S (gA s) s.heap H1 locs1 → W p l e R s m args below meth c H1 locs1 cells slots Q (F0 m (pc + 1) ls rest)) : W p l e R s m args below meth c H locs cells slots Q (F0 m pc ls (.int (nI v) :: .int (nI i) :: .ref f :: rest)) := by
  refine va_iast (D := D) (A := gA s) (H0 := s.heap) G.1 G.2.1 h5.2.1 h5.1 h5.2.2 hS 0 0 (f := gr F) rfl rfl (vp_in_nI hi (by decide)) hdg (fun H1 locs1 hP hD hS1 => ?_)
  rw [nI_clamp (by omega), gr_upd] at hP hD
  exact kk H1 locs1 ⟨hP, h5.2.1, hD⟩ hS1
end G5
set_option maxRecDepth 100000 in
set_option maxHeartbeats 1000000 in
theorem mL_gap (l : Launch) (D : va_G) (a : Nat → Nat) (cI : ClassId) (N : Nat → Nat) (S : Nat → Nat → Nat) (hok : sp_ok N S) (h6 : ∀ j, S 6 j ≤ 2) (ch : Nat) (hch : ch ≤ 1) : Met l yL_gap wsL_gap { frames := 4, cells := 1, slots := 5, locals := 104 } (va_Pc [.ref (a 0), .ref (a 1), .ref (a 2), .ref (a 3), .int (nI ch)] (fun U => lrAt D a cI N S U U.heap)) (gQn (fun r => r = nI (sp_gap S ch))) 1 5 (fun _ => False) := by
  refine gc_met [.ref (a 0), .ref (a 1), .ref (a 2), .ref (a 3), .int (nI ch)] (by decide) rfl (Nat.le_of_ble_eq_true rfl) rfl ?_
  intro p e s m below meth c ls G hl hR0
  have hok9 := hok
  obtain ⟨⟨ok0, ok5⟩, ok1, ok2, ok3, ok4, ok6, ok7, ok8, ok12, ok13, ok14⟩ := hok9
  refine lv_iconst (v := nI 0) G.1 G.2.1 dL_gap_0 (by decide) ?_
  refine lv_istore (lv' := [(5, .int (nI 0)), (0, .ref (a 0)), (1, .ref (a 1)), (2, .ref (a 2)), (3, .ref (a 3)), (4, .int (nI ch))]) G.1 G.2.1 dL_gap_1 hl (by decide) rfl (fun ls hl => ?_)
  refine lv_iconst (v := nI 5) G.1 G.2.1 dL_gap_3 (by decide) ?_
  refine va_newa (D := D) (A := gA s) (ws := []) (atype := .int) (ty := .int) (N' := 5) (a0 := (5, .inl (gr (fun _ => 0)))) G.1 G.2.1 (G.2.2.2.2.2.1 (.arrayClass .int) (by decide +kernel)) rfl hR0.2 (fun k q h => nomatch h) ⟨(fun i j p q h => nomatch h), (fun k q h => nomatch h)⟩ (va_S.rf) (fun q h => h) (fun _ => rfl) (by decide) (by decide) (by decide) (Nat.le_of_ble_eq_true rfl) (Nat.le_of_ble_eq_true rfl) dL_gap_4 (fun f5 cX H hK hP hD hS => ?_)
  obtain rfl : cI = cX := Option.some.inj ((show _ = some cI from (hK.2 0 _ rfl).2).symm.trans (show _ = some cX from (hK.2 1 _ rfl).2))
  refine W.widen (k := 1) (n := 5) (Nat.le_of_ble_eq_true rfl) (Nat.le_of_ble_eq_true rfl) ?_
  have h5 : g5At D f5 cI (fun _ => 0) s H := ⟨hP, hK.sub [0] rfl, hD⟩
  have hF5 : ∀ j : Nat, (fun _ => 0 : Nat → Nat) j ≤ 255 := fun _ => Nat.zero_le _
  refine lv_astore (lv' := [(6, .ref f5), (5, .int (nI 0)), (0, .ref (a 0)), (1, .ref (a 1)), (2, .ref (a 2)), (3, .ref (a 3)), (4, .int (nI ch))]) G.1 G.2.1 dL_gap_6 hl (by decide) rfl (fun ls hl => ?_)
  refine lv_iconst (v := nI 0) G.1 G.2.1 dL_gap_8 (by decide) ?_
  refine lv_istore (lv' := [(7, .int (nI 0)), (6, .ref f5), (5, .int (nI 0)), (0, .ref (a 0)), (1, .ref (a 1)), (2, .ref (a 2)), (3, .ref (a 3)), (4, .int (nI ch))]) G.1 G.2.1 dL_gap_9 hl (by decide) rfl (fun ls hl => ?_)
  refine gj_loopW (fun b H locs ls => (∃ F : Nat → Nat, (∀ i, F i ≤ 255) ∧ g5At D f5 cI F s H) ∧ va_S (gA s) s.heap H locs ∧ lv_has ls 10 [(7, .int (nI b)), (5, .int (nI (sp_gapTo S ch (b * 256)))), (6, .ref f5), (0, .ref (a 0)), (1, .ref (a 1)), (2, .ref (a 2)), (3, .ref (a 3)), (4, .int (nI ch))]) (fun _ => 1) (fun _ => 5) (3) ⟨⟨_, hF5, h5⟩, hS, lv_sub hl [0, 2, 1, 3, 4, 5, 6, 7] rfl⟩ (Nat.le_refl _) (Nat.le_refl _) (fun b H locs ls hj11 hI kk11 => ?_) (fun H locs ls hI => ?_)
  · obtain ⟨⟨F0_, hF0, h5⟩, hS, hl⟩ := hI
    refine lv_iload G.1 G.2.1 dL_gap_11 (lv_at hl 0 rfl) ?_
    refine lv_iconst (v := nI 3) G.1 G.2.1 dL_gap_13 (by decide) ?_
    refine gn_ge G (by omega) (by omega) (tgt := 118) dL_gap_14 (by decide) (fun h => absurd h (by omega)) (fun h_14 => ?_)
    refine lv_iconst (v := nI 0) G.1 G.2.1 dL_gap_17 (by decide) ?_
    refine lv_istore (lv' := [(8, .int (nI 0)), (7, .int (nI b)), (5, .int (nI (sp_gapTo S ch (b * 256)))), (6, .ref f5), (0, .ref (a 0)), (1, .ref (a 1)), (2, .ref (a 2)), (3, .ref (a 3)), (4, .int (nI ch))]) G.1 G.2.1 dL_gap_18 hl (by decide) rfl (fun ls hl => ?_)
    refine gj_loopW (fun k H locs ls => g5At D f5 cI (lg5 S ch b F0_ k) s H ∧ va_S (gA s) s.heap H locs ∧ lv_has ls 10 [(8, .int (nI k)), (7, .int (nI b)), (5, .int (nI (sp_gapTo S ch (b * 256)))), (6, .ref f5), (0, .ref (a 0)), (1, .ref (a 1)), (2, .ref (a 2)), (3, .ref (a 3)), (4, .int (nI ch))]) (fun _ => 1) (fun _ => 5) (5) ⟨h5, hS, lv_sub hl [0, 1, 2, 3, 4, 5, 6, 7, 8] rfl⟩ (Nat.le_refl _) (Nat.le_refl _) (fun k H locs ls hj20 hI kk20 => ?_) (fun H locs ls hI => ?_)
    · obtain ⟨h5, hS, hl⟩ := hI
      refine lv_iload G.1 G.2.1 dL_gap_20 (lv_at hl 0 rfl) ?_
      refine lv_iconst (v := nI 5) G.1 G.2.1 dL_gap_22 (by decide) ?_
      refine gn_ge G (by omega) (by omega) (tgt := 53) dL_gap_23 (by decide) (fun h => absurd h (by omega)) (fun h_23 => ?_)
      refine lv_aload G.1 G.2.1 dL_gap_26 (lv_at hl 3 rfl) ?_
      refine lv_iload G.1 G.2.1 dL_gap_28 (lv_at hl 0 rfl) ?_
      refine lv_aload_n G.1 G.2.1 dL_gap_30 rfl (lv_at hl 4 rfl) ?_
      refine lv_aload_n G.1 G.2.1 dL_gap_31 rfl (lv_at hl 5 rfl) ?_
      refine lv_aload_n G.1 G.2.1 dL_gap_32 rfl (lv_at hl 6 rfl) ?_
      refine lv_aload_n G.1 G.2.1 dL_gap_33 rfl (lv_at hl 7 rfl) ?_
      refine lv_iload G.1 G.2.1 dL_gap_34 (lv_at hl 8 rfl) ?_
      refine lv_iload G.1 G.2.1 dL_gap_36 (lv_at hl 1 rfl) ?_
      refine lv_iload G.1 G.2.1 dL_gap_38 (lv_at hl 0 rfl) ?_
      refine gc_s (As := [.int (nI k)]) (rest := [.int (nI b), .int (nI ch), .ref (a 3), .ref (a 2), .ref (a 1), .ref (a 0), .int (nI k), .ref f5]) G.fix (mL_at l k (by omega)) (va_cwS 1 G.2.2.2.2.2.1 gL_gap_L_at rfl rfl rfl (by decide +kernel) ⟨Nat.le_of_ble_eq_true rfl, Nat.le_of_ble_eq_true rfl⟩) gc_blindT (fun _ _ _ => trivial) rfl hl.1 rfl (Nat.le_of_ble_eq_true rfl) dL_gap_40 (Nat.le_of_ble_eq_true rfl) (Nat.le_of_ble_eq_true rfl) (fun r hr => ?_)
      subst hr
      have hv_40 := sp_vop_le (k := k)
      refine gc_s (As := [.ref (a 0), .ref (a 1), .ref (a 2), .ref (a 3), .int (nI ch), .int (nI b), .int (nI (sp_vop k))]) (rest := [.int (nI k), .ref f5]) G.fix (mL_through l D a cI N S hok h6 ch b (sp_vop k) (by omega) (by omega) (by omega)) (va_cwS 7 G.2.2.2.2.2.1 gL_gap_L_through rfl rfl rfl (by decide +kernel) ⟨Nat.le_of_ble_eq_true rfl, Nat.le_of_ble_eq_true rfl⟩) lrAt_blind (fun U hU hW => by rw [hU]; exact (lr_kept hR0 hS).moved hW) rfl hl.1 rfl (Nat.le_of_ble_eq_true rfl) dL_gap_43 (Nat.le_of_ble_eq_true rfl) (Nat.le_of_ble_eq_true rfl) (fun r hr => ?_)
      subst hr
      have hv_43 := sp_pass_le (ch := ch) (b := b) (v := sp_vop k) hok (by omega)
      refine g5_ast G h5 hS (by omega) dL_gap_46 (fun H locs h5 hS => ?_)
      refine gn_iinc (lv' := [(8, .int (nI (k + 1))), (7, .int (nI b)), (5, .int (nI (sp_gapTo S ch (b * 256)))), (6, .ref f5), (0, .ref (a 0)), (1, .ref (a 1)), (2, .ref (a 2)), (3, .ref (a 3)), (4, .int (nI ch))]) (n := 1) G dL_gap_47 hl (k := 0) rfl (by decide) rfl (fun ls hl => ?_)
      refine lv_goto (tgt := 20) G.1 G.2.1 dL_gap_50 (by decide) ?_
      exact kk20 _ _ _ ⟨h5, hS, lv_sub hl [0, 1, 2, 3, 4, 5, 6, 7, 8] rfl⟩
    · obtain ⟨h5, hS, hl⟩ := hI
      refine lv_iload G.1 G.2.1 dL_gap_20 (lv_at hl 0 rfl) ?_
      refine lv_iconst (v := nI 5) G.1 G.2.1 dL_gap_22 (by decide) ?_
      refine gn_ge G (by omega) (by omega) (tgt := 53) dL_gap_23 (by decide) (fun h_23 => ?_) (fun h => absurd h (by omega))
      have hF5 := lg5_le (ch := ch) (b := b) hok hF0 5
      refine lv_iconst (v := nI 0) G.1 G.2.1 dL_gap_53 (by decide) ?_
      refine lv_istore (lv' := [(8, .int (nI 0)), (7, .int (nI b)), (5, .int (nI (sp_gapTo S ch (b * 256)))), (6, .ref f5), (0, .ref (a 0)), (1, .ref (a 1)), (2, .ref (a 2)), (3, .ref (a 3)), (4, .int (nI ch))]) G.1 G.2.1 dL_gap_54 hl (by decide) rfl (fun ls hl => ?_)
      refine gj_loop (fun v ls => lv_has ls 10 [(8, .int (nI v)), (7, .int (nI b)), (5, .int (nI (sp_gapTo S ch (b * 256 + v)))), (6, .ref f5), (0, .ref (a 0)), (1, .ref (a 1)), (2, .ref (a 2)), (3, .ref (a 3)), (4, .int (nI ch))]) 256 0 (Nat.zero_le _) (lv_sub hl [0, 1, 2, 3, 4, 5, 6, 7, 8] rfl) (fun v ls hj56 hl kk56 => ?_) (fun ls hl => ?_)
      · have hmost := sp_gapTo_le (ch := ch) hok (b * 256 + v)
        refine lv_iload G.1 G.2.1 dL_gap_56 (lv_at hl 0 rfl) ?_
        refine lv_sipush (v := nI 256) G.1 G.2.1 dL_gap_58 (by decide) ?_
        refine gn_ge G (by omega) (by omega) (tgt := 112) dL_gap_61 (by decide) (fun h => absurd h (by omega)) (fun h_61 => ?_)
        refine lv_aload_n G.1 G.2.1 dL_gap_64 rfl (lv_at hl 4 rfl) ?_
        refine lv_aload_n G.1 G.2.1 dL_gap_65 rfl (lv_at hl 5 rfl) ?_
        refine lv_aload_n G.1 G.2.1 dL_gap_66 rfl (lv_at hl 6 rfl) ?_
        refine lv_aload_n G.1 G.2.1 dL_gap_67 rfl (lv_at hl 7 rfl) ?_
        refine lv_iload G.1 G.2.1 dL_gap_68 (lv_at hl 8 rfl) ?_
        refine lv_iload G.1 G.2.1 dL_gap_70 (lv_at hl 1 rfl) ?_
        refine lv_iload G.1 G.2.1 dL_gap_72 (lv_at hl 0 rfl) ?_
        refine gc_s (As := [.ref (a 0), .ref (a 1), .ref (a 2), .ref (a 3), .int (nI ch), .int (nI b), .int (nI v)]) (rest := []) G.fix (mL_through l D a cI N S hok h6 ch b v (by omega) (by omega) (by omega)) (va_cwS 7 G.2.2.2.2.2.1 gL_gap_L_through rfl rfl rfl (by decide +kernel) ⟨Nat.le_of_ble_eq_true rfl, Nat.le_of_ble_eq_true rfl⟩) lrAt_blind (fun U hU hW => by rw [hU]; exact (lr_kept hR0 hS).moved hW) rfl hl.1 rfl (Nat.le_of_ble_eq_true rfl) dL_gap_74 (Nat.le_of_ble_eq_true rfl) (Nat.le_of_ble_eq_true rfl) (fun r hr => ?_)
        subst hr
        have hv_74 := sp_pass_le (ch := ch) (b := b) (v := v) hok (by omega)
        refine lv_aload G.1 G.2.1 dL_gap_77 (lv_at hl 3 rfl) ?_
        refine lv_iconst (v := nI 0) G.1 G.2.1 dL_gap_79 (by decide) ?_
        refine lv_iload G.1 G.2.1 dL_gap_80 (lv_at hl 0 rfl) ?_
        refine gc_s (As := [.ref f5, .int (nI 0), .int (nI v)]) (rest := [.int (nI (sp_pass S ch b v))]) G.fix (mL_between l D (f5) cI 5 (lg5 S ch b F0_ 5) 0 v (by omega) (by decide) (by omega) hF5) (va_cwS 3 G.2.2.2.2.2.1 gL_gap_L_between rfl rfl rfl (by decide +kernel) ⟨Nat.le_of_ble_eq_true rfl, Nat.le_of_ble_eq_true rfl⟩) rAt_blind (fun U hU hW => by rw [hU]; exact h5.row.moved hW) rfl hl.1 rfl (Nat.le_of_ble_eq_true rfl) dL_gap_82 (Nat.le_of_ble_eq_true rfl) (Nat.le_of_ble_eq_true rfl) (fun r hr => ?_)
        subst hr
        have hv_82 := sp_btw_le (g := lg5 S ch b F0_ 5) (o := 0) (v := v) hF5 (by omega)
        rw [lg5_btw (by omega)] at hv_82 ⊢
        refine gc_s (As := [.int (nI (sp_pass S ch b v)), .int (nI (sp_btw (fun k => sp_pass S ch b (sp_vop k)) 0 v))]) (rest := []) G.fix (mL_apart l (sp_pass S ch b v) (sp_btw (fun k => sp_pass S ch b (sp_vop k)) 0 v) (by omega) (by omega)) (va_cwS 2 G.2.2.2.2.2.1 gL_gap_L_apart rfl rfl rfl (by decide +kernel) ⟨Nat.le_of_ble_eq_true rfl, Nat.le_of_ble_eq_true rfl⟩) gc_blindT (fun _ _ _ => trivial) rfl hl.1 rfl (Nat.le_of_ble_eq_true rfl) dL_gap_85 (Nat.le_of_ble_eq_true rfl) (Nat.le_of_ble_eq_true rfl) (fun r hr => ?_)
        subst hr
        have hv_85 := sp_ap_le (a := sp_pass S ch b v) (b := sp_btw (fun k => sp_pass S ch b (sp_vop k)) 0 v) (by omega) (by omega)
        refine lv_istore (lv' := [(9, .int (nI (sp_ap (sp_pass S ch b v) (sp_btw (fun k => sp_pass S ch b (sp_vop k)) 0 v)))), (8, .int (nI v)), (7, .int (nI b)), (5, .int (nI (sp_gapTo S ch (b * 256 + v)))), (6, .ref f5), (0, .ref (a 0)), (1, .ref (a 1)), (2, .ref (a 2)), (3, .ref (a 3)), (4, .int (nI ch))]) G.1 G.2.1 dL_gap_88 hl (by decide) rfl (fun ls hl => ?_)
        refine gj_x (fun x => x = nI (sp_gapTo S ch (b * 256 + (v + 1)))) 104 [] (fun x hx => ?_) (fun K_104 => ?_)
        · subst hx
          refine lv_istore (lv' := [(5, .int (nI (sp_gapTo S ch (b * 256 + (v + 1))))), (9, .int (nI (sp_ap (sp_pass S ch b v) (sp_btw (fun k => sp_pass S ch b (sp_vop k)) 0 v)))), (8, .int (nI v)), (7, .int (nI b)), (6, .ref f5), (0, .ref (a 0)), (1, .ref (a 1)), (2, .ref (a 2)), (3, .ref (a 3)), (4, .int (nI ch))]) G.1 G.2.1 dL_gap_104 hl (by decide) rfl (fun ls hl => ?_)
          refine gn_iinc (lv' := [(8, .int (nI (v + 1))), (5, .int (nI (sp_gapTo S ch (b * 256 + (v + 1))))), (9, .int (nI (sp_ap (sp_pass S ch b v) (sp_btw (fun k => sp_pass S ch b (sp_vop k)) 0 v)))), (7, .int (nI b)), (6, .ref f5), (0, .ref (a 0)), (1, .ref (a 1)), (2, .ref (a 2)), (3, .ref (a 3)), (4, .int (nI ch))]) (n := 1) G dL_gap_106 hl (k := 2) rfl (by decide) rfl (fun ls hl => ?_)
          refine lv_goto (tgt := 56) G.1 G.2.1 dL_gap_109 (by decide) ?_
          exact kk56 _ (lv_sub hl [0, 3, 1, 4, 5, 6, 7, 8, 9] rfl)
        · refine lv_iload G.1 G.2.1 dL_gap_90 (lv_at hl 0 rfl) ?_
          refine lv_iload G.1 G.2.1 dL_gap_92 (lv_at hl 3 rfl) ?_
          refine gn_le G (by omega) (by omega) (tgt := 102) dL_gap_94 (by decide) (fun h_94 => ?_) (fun h_94 => ?_)
          · refine lv_iload G.1 G.2.1 dL_gap_102 (lv_at hl 3 rfl) ?_
            exact K_104 _ (congrArg nI (by rw [sp_gapTo_m (by omega)]; omega))
          · refine lv_iload G.1 G.2.1 dL_gap_97 (lv_at hl 0 rfl) ?_
            refine lv_goto (tgt := 104) G.1 G.2.1 dL_gap_99 (by decide) ?_
            exact K_104 _ (congrArg nI (by rw [sp_gapTo_m (by omega)]; omega))
      · refine lv_iload G.1 G.2.1 dL_gap_56 (lv_at hl 0 rfl) ?_
        refine lv_sipush (v := nI 256) G.1 G.2.1 dL_gap_58 (by decide) ?_
        refine gn_ge G (by omega) (by omega) (tgt := 112) dL_gap_61 (by decide) (fun h_61 => ?_) (fun h => absurd h (by omega))
        refine gn_iinc (lv' := [(7, .int (nI (b + 1))), (8, .int (nI 256)), (5, .int (nI (sp_gapTo S ch (b * 256 + 256)))), (6, .ref f5), (0, .ref (a 0)), (1, .ref (a 1)), (2, .ref (a 2)), (3, .ref (a 3)), (4, .int (nI ch))]) (n := 1) G dL_gap_112 hl (k := 1) rfl (by decide) rfl (fun ls hl => ?_)
        refine lv_goto (tgt := 11) G.1 G.2.1 dL_gap_115 (by decide) ?_
        exact kk11 _ _ _ ⟨⟨_, hF5, h5⟩, hS, by rw [show (b + 1) * 256 = b * 256 + 256 from by omega]; exact lv_sub hl [0, 2, 3, 4, 5, 6, 7, 8] rfl⟩
  · obtain ⟨⟨F0_, hF0, h5⟩, hS, hl⟩ := hI
    refine lv_iload G.1 G.2.1 dL_gap_11 (lv_at hl 0 rfl) ?_
    refine lv_iconst (v := nI 3) G.1 G.2.1 dL_gap_13 (by decide) ?_
    refine gn_ge G (by omega) (by omega) (tgt := 118) dL_gap_14 (by decide) (fun h_14 => ?_) (fun h => absurd h (by omega))
    refine lv_iload G.1 G.2.1 dL_gap_118 (lv_at hl 1 rfl) ?_
    refine va_forget (fun z hz => hS.2.2 z hz) ?_
    exact W.iret G.1 G.2.1 G.2.2.1 (fun t ht hW => ⟨_, rfl, rfl, by rw [ht]; exact hS.1, fun z h1 _ => by rw [ht]; exact hS.2.1 z h1 (Nat.not_le.mpr h1)⟩) (fun q h => nomatch h) dL_gap_120 G.2.2.2.2.2.2
