/-! the class's small static methods -/
set_option maxRecDepth 100000 in
set_option maxHeartbeats 4000000 in
/-- a row is read -/
theorem mX0_read (l : Launch) (D : va_G) (a : Nat) (cI : ClassId) (n : Nat) (F : Nat → Nat) (i : Nat) (hi : i < n) (hn : n < 2 ^ 31 := by decide) : Met l yX0_read wsX0_read { frames := 0, cells := 0, slots := 0, locals := 0 } (va_Pc [.ref a, .int (nI i)] (fun U => rAt D a cI n F U U.heap)) (vp_Si (fun r => r = nI (F i))) 0 0 (fun _ => False) := by
  refine gc_met [.ref a, .int (nI i)] (by decide) rfl (Nat.le_of_ble_eq_true rfl) rfl ?_
  intro p e s m below meth c ls G hl hX
  refine lv_aload_n G.1 G.2.1 dX0_read_0 rfl (lv_at hl 0 rfl) ?_
  refine lv_ifnull G.1 G.2.1 dX0_read_1 ?_
  refine lv_iload_n G.1 G.2.1 dX0_read_4 rfl (lv_at hl 1 rfl) ?_
  refine gn_ltz G (by omega) (tgt := 20) dX0_read_5 (by decide) ?_
  refine lv_iload_n G.1 G.2.1 dX0_read_8 rfl (lv_at hl 1 rfl) ?_
  refine lv_aload_n G.1 G.2.1 dX0_read_9 rfl (lv_at hl 0 rfl) ?_
  refine va_alen (D := D) G.1 G.2.1 hX.2 hX.1 0 0 rfl rfl (v := nI n) rfl dX0_read_10 ?_
  refine gn_ge G (by omega) (by omega) (tgt := 20) dX0_read_11 (by decide) (fun h_11 => absurd h_11 (by omega)) (fun h_11 => ?_)
  refine lv_aload_n G.1 G.2.1 dX0_read_14 rfl (lv_at hl 0 rfl) ?_
  refine lv_iload_n G.1 G.2.1 dX0_read_15 rfl (lv_at hl 1 rfl) ?_
  refine va_iald (D := D) G.1 G.2.1 hX.2 hX.1 0 0 (f := gr F) rfl rfl (vp_in_nI hi hn) dX0_read_16 ?_
  rw [nI_clamp (by omega)]
  refine lv_goto (tgt := 21) G.1 G.2.1 dX0_read_17 (by decide) ?_
  exact W.iret G.1 G.2.1 G.2.2.1 (fun t ht hW => ⟨_, rfl, rfl, ht⟩) (fun q h => nomatch h) dX0_read_21 G.2.2.2.2.2.2
set_option maxRecDepth 100000 in
set_option maxHeartbeats 4000000 in
/-- a bit is read -/
theorem mX0_hasBit (l : Launch) (x b : Nat) (hx : x < 2 ^ 31) (hb : b < 32) : Met l yX0_hasBit wsX0_hasBit { frames := 0, cells := 0, slots := 0, locals := 0 } (va_Pc [.int (nI x), .int (nI b)] (fun _ => True)) (vp_Si (fun r => r = nI (sp_bit x b))) 0 0 (fun _ => False) := by
  refine gc_met [.int (nI x), .int (nI b)] (by decide) rfl (Nat.le_of_ble_eq_true rfl) rfl ?_
  intro p e s m below meth c ls G hl _
  refine lv_iload_n G.1 G.2.1 dX0_hasBit_0 rfl (lv_at hl 0 rfl) ?_
  refine lv_iload_n G.1 G.2.1 dX0_hasBit_1 rfl (lv_at hl 1 rfl) ?_
  refine lv_ishr G.1 G.2.1 dX0_hasBit_2 ?_
  rw [pk_shrN hx _ b (s_l b hb)]
  refine lv_iconst (v := nI 1) G.1 G.2.1 dX0_hasBit_3 (by decide) ?_
  refine lv_iand G.1 G.2.1 dX0_hasBit_4 ?_
  rw [show nI 1 = nI (2 ^ 1 - 1) from rfl, fa_mask]
  refine lv_iconst (v := nI 1) G.1 G.2.1 dX0_hasBit_5 (by decide) ?_
  refine gn_ne G (by omega) (by omega) (tgt := 13) dX0_hasBit_6 (by decide) (fun h_6 => ?_) (fun h_6 => ?_)
  · refine lv_iconst (v := nI 0) G.1 G.2.1 dX0_hasBit_13 (by decide) ?_
    exact W.zret G.1 G.2.1 G.2.2.1 rfl (fun t ht hW => ⟨_, rfl, by have h9 := h_6; unfold sp_bit; first | (rw [show x / 2 ^ b % 2 = 1 from h9]) | (rw [show x / 2 ^ b % 2 = 0 from by have h8 : ¬ x / 2 ^ b % 2 = 1 := h9; omega]), ht⟩) (fun q h => nomatch h) dX0_hasBit_14 G.2.2.2.2.2.2
  · refine lv_iconst (v := nI 1) G.1 G.2.1 dX0_hasBit_9 (by decide) ?_
    refine lv_goto (tgt := 14) G.1 G.2.1 dX0_hasBit_10 (by decide) ?_
    exact W.zret G.1 G.2.1 G.2.2.1 rfl (fun t ht hW => ⟨_, rfl, by have h9 := h_6; unfold sp_bit; first | (rw [show x / 2 ^ b % 2 = 1 from h9]) | (rw [show x / 2 ^ b % 2 = 0 from by have h8 : ¬ x / 2 ^ b % 2 = 1 := h9; omega]), ht⟩) (fun q h => nomatch h) dX0_hasBit_14 G.2.2.2.2.2.2
set_option maxRecDepth 100000 in
set_option maxHeartbeats 4000000 in
/-- the value of a place -/
theorem mX0_valueOfPlace (l : Launch) (k : Nat) (hk : k < 5) : Met l yX0_valueOfPlace wsX0_valueOfPlace { frames := 1, cells := 0, slots := 0, locals := 13 } (va_Pc [.int (nI k)] (fun _ => True)) (vp_Si (fun r => r = nI (sp_vop k))) 0 0 (fun _ => False) := by
  refine gc_met [.int (nI k)] (by decide) rfl (Nat.le_of_ble_eq_true rfl) rfl ?_
  intro p e s m below meth c ls G hl _
  refine lv_iload_n G.1 G.2.1 dX0_valueOfPlace_0 rfl (lv_at hl 0 rfl) ?_
  refine lv_bipush (v := nI 64) G.1 G.2.1 dX0_valueOfPlace_1 (by decide) ?_
  refine gn_imul G dX0_valueOfPlace_3 ?_
  refine lv_sipush (v := nI 255) G.1 G.2.1 dX0_valueOfPlace_4 (by decide) ?_
  refine gr_min G hl.1 (ix := 119) (by decide +kernel) (by decide +kernel) (by decide +kernel) (by decide +kernel) (Nat.le_of_ble_eq_true rfl) (Nat.le_of_ble_eq_true rfl) (Nat.zero_le _) (Nat.zero_le _) (by omega) (by omega) dX0_valueOfPlace_7 ?_
  exact W.iret G.1 G.2.1 G.2.2.1 (fun t ht hW => ⟨_, rfl, rfl, ht⟩) (fun q h => nomatch h) dX0_valueOfPlace_10 G.2.2.2.2.2.2
set_option maxRecDepth 100000 in
set_option maxHeartbeats 4000000 in
/-- Math.floorDiv of small ints, by a positive one: the quotient rounded down -/
theorem mJ9_floorDiv (l : Launch) (x y : Int32) (hx : -1073741824 ≤ x.toInt ∧ x.toInt < 1073741824) (hy : 0 < y.toInt) : Met l yJ9_floorDiv_7cf53 wsJ9_floorDiv_7cf53 { frames := 0, cells := 0, slots := 0, locals := 0 } (va_Pc [.int x, .int y] (fun _ => True)) (vp_Si (fun r => r.toInt = x.toInt / y.toInt)) 0 0 (fun _ => False) := by
  refine gc_metF [.int x, .int y] (by decide +kernel) rfl (Nat.le_of_ble_eq_true rfl) rfl ?_
  intro p e s m below meth c ls G hl _
  have hy0 : ¬ y = 0 := fun z => by rw [z] at hy; exact absurd hy (by decide)
  obtain ⟨e1, e2, e3⟩ := gp_divT hx hy
  obtain ⟨f1, f2, f3⟩ := gp_floor (a := x.toInt) hy
  refine lv_iload_n G.1 G.2.1 dJ9_floorDiv_7cf53_0 rfl (lv_at hl 0 rfl) ?_
  refine lv_iload_n G.1 G.2.1 dJ9_floorDiv_7cf53_1 rfl (lv_at hl 1 rfl) ?_
  refine lv_idiv G.1 G.2.1 dJ9_floorDiv_7cf53_2 hy0 ?_
  refine lv_topi (fun d ed => ?_)
  have ed1 : d.toInt = x.toInt.tdiv y.toInt := by rw [ed]; exact e1
  refine lv_istore_n (lv' := [(2, .int d), (0, .int x), (1, .int y)]) G.1 G.2.1 dJ9_floorDiv_7cf53_3 rfl hl (by decide) rfl (fun ls hl => ?_)
  refine lv_iload_n G.1 G.2.1 dJ9_floorDiv_7cf53_4 rfl (lv_at hl 1 rfl) ?_
  refine lv_iload_n G.1 G.2.1 dJ9_floorDiv_7cf53_5 rfl (lv_at hl 2 rfl) ?_
  refine lv_ixor G.1 G.2.1 dJ9_floorDiv_7cf53_6 ?_
  have em : (d * y).toInt = x.toInt.tdiv y.toInt * y.toInt := by
    rw [Int32.toInt_mul, ed1]
    have hb := gp_mulback x.toInt y.toInt hx hy
    exact fb_bmod (by omega) (by omega)
  refine lv_if_ge (tgt := 21) G.1 G.2.1 dJ9_floorDiv_7cf53_7 (by decide) (fun h => ?_) (fun h => ?_)
  · have hn : ¬ x.toInt < 0 := fun z => by
      have h1 := (gp_xneg x y (by omega)).mpr z
      have h2 := Int32.lt_iff_toInt_lt.mp h1
      have h3 := Int32.le_iff_toInt_le.mp h
      omega
    refine lv_iload_n G.1 G.2.1 dJ9_floorDiv_7cf53_21 rfl (lv_at hl 0 rfl) ?_
    exact W.iret G.1 G.2.1 G.2.2.1 (fun t ht hW => ⟨_, rfl, by show d.toInt = _; rw [ed1]; exact (f1 (by omega)).1, ht⟩) (fun q h => nomatch h) dJ9_floorDiv_7cf53_22 G.2.2.2.2.2.2
  · have hn : x.toInt < 0 := by
      refine (gp_xneg x y (by omega)).mp ?_
      rw [Int32.lt_iff_toInt_lt]
      have h3 : ¬ (0 : Int32).toInt ≤ (x ^^^ y).toInt := fun z => h (Int32.le_iff_toInt_le.mpr z)
      omega
    refine lv_iload_n G.1 G.2.1 dJ9_floorDiv_7cf53_10 rfl (lv_at hl 0 rfl) ?_
    refine lv_iload_n G.1 G.2.1 dJ9_floorDiv_7cf53_11 rfl (lv_at hl 2 rfl) ?_
    refine lv_imul G.1 G.2.1 dJ9_floorDiv_7cf53_12 ?_
    refine lv_iload_n G.1 G.2.1 dJ9_floorDiv_7cf53_13 rfl (lv_at hl 1 rfl) ?_
    refine lv_icmp_eq (tgt := 21) G.1 G.2.1 dJ9_floorDiv_7cf53_14 (by decide) (fun h2 => ?_) (fun h2 => ?_)
    · have h3 : x.toInt.tdiv y.toInt * y.toInt = x.toInt := by rw [← em, h2]
      refine lv_iload_n G.1 G.2.1 dJ9_floorDiv_7cf53_21 rfl (lv_at hl 0 rfl) ?_
      exact W.iret G.1 G.2.1 G.2.2.1 (fun t ht hW => ⟨_, rfl, by show d.toInt = _; rw [ed1]; exact f2 hn h3, ht⟩) (fun q h => nomatch h) dJ9_floorDiv_7cf53_22 G.2.2.2.2.2.2
    · have h3 : x.toInt.tdiv y.toInt * y.toInt ≠ x.toInt := fun z => h2 (Int32.toInt_inj.mp (by rw [em, z]))
      refine lv_iload_n G.1 G.2.1 dJ9_floorDiv_7cf53_17 rfl (lv_at hl 0 rfl) ?_
      refine lv_iconst (v := 1) G.1 G.2.1 dJ9_floorDiv_7cf53_18 (by decide) ?_
      refine lv_isub G.1 G.2.1 dJ9_floorDiv_7cf53_19 ?_
      exact W.iret G.1 G.2.1 G.2.2.1 (fun t ht hW => ⟨_, rfl, by show (d - 1).toInt = _; rw [fb_subI (by rw [ed1]; show -2147483648 ≤ x.toInt.tdiv y.toInt - 1; omega) (by rw [ed1]; show x.toInt.tdiv y.toInt - 1 < 2147483648; omega), ed1]; exact (f3 hn h3).1, ht⟩) (fun q h => nomatch h) dJ9_floorDiv_7cf53_20 G.2.2.2.2.2.2
set_option maxRecDepth 100000 in
set_option maxHeartbeats 4000000 in
/-- fold of three bytes -/
theorem mX0_fold (l : Launch) (v a b : Nat) (hv : v ≤ 255) (ha : a ≤ 255) (hb : b ≤ 255) : Met l yX0_fold wsX0_fold { frames := 0, cells := 0, slots := 0, locals := 0 } (va_Pc [.int (nI v), .int (nI a), .int (nI b)] (fun _ => True)) (vp_Si (fun r => r.toInt = if b < v then 2 * (b : Int) - v else if v < a then 2 * (a : Int) - v else v)) 0 0 (fun _ => False) := by
  refine gc_met [.int (nI v), .int (nI a), .int (nI b)] (by decide) rfl (Nat.le_of_ble_eq_true rfl) rfl ?_
  intro p e s m below meth c ls G hl _
  have tv := nI_toInt (n := v) (by omega)
  have ta := nI_toInt (n := a) (by omega)
  have tb := nI_toInt (n := b) (by omega)
  refine lv_iload_n G.1 G.2.1 dX0_fold_0 rfl (lv_at hl 0 rfl) ?_
  refine lv_iload_n G.1 G.2.1 dX0_fold_1 rfl (lv_at hl 2 rfl) ?_
  refine gn_le G (by omega) (by omega) (tgt := 11) dX0_fold_2 (by decide) (fun h1 => ?_) (fun h1 => ?_)
  · refine lv_iload_n G.1 G.2.1 dX0_fold_11 rfl (lv_at hl 0 rfl) ?_
    refine lv_iload_n G.1 G.2.1 dX0_fold_12 rfl (lv_at hl 1 rfl) ?_
    refine gn_ge G (by omega) (by omega) (tgt := 22) dX0_fold_13 (by decide) (fun h2 => ?_) (fun h2 => ?_)
    · refine lv_iload_n G.1 G.2.1 dX0_fold_22 rfl (lv_at hl 0 rfl) ?_
      exact W.iret G.1 G.2.1 G.2.2.1 (fun t ht hW => ⟨_, rfl, by show (nI v).toInt = _; rw [tv, if_neg (by omega), if_neg (by omega)], ht⟩) (fun q h => nomatch h) dX0_fold_23 G.2.2.2.2.2.2
    · refine lv_iload_n G.1 G.2.1 dX0_fold_16 rfl (lv_at hl 1 rfl) ?_
      refine lv_iload_n G.1 G.2.1 dX0_fold_17 rfl (lv_at hl 1 rfl) ?_
      refine lv_iload_n G.1 G.2.1 dX0_fold_18 rfl (lv_at hl 0 rfl) ?_
      refine gn_isub G dX0_fold_19 (by omega) ?_
      refine gn_iadd G dX0_fold_20 ?_
      exact W.iret G.1 G.2.1 G.2.2.1 (fun t ht hW => ⟨_, rfl, by show (nI (a + (a - v))).toInt = _; rw [nI_toInt (by omega), if_neg (by omega), if_pos (by omega)]; omega, ht⟩) (fun q h => nomatch h) dX0_fold_21 G.2.2.2.2.2.2
  · refine lv_iload_n G.1 G.2.1 dX0_fold_5 rfl (lv_at hl 2 rfl) ?_
    refine lv_iload_n G.1 G.2.1 dX0_fold_6 rfl (lv_at hl 0 rfl) ?_
    refine lv_iload_n G.1 G.2.1 dX0_fold_7 rfl (lv_at hl 2 rfl) ?_
    refine gn_isub G dX0_fold_8 (by omega) ?_
    refine lv_isub G.1 G.2.1 dX0_fold_9 ?_
    exact W.iret G.1 G.2.1 G.2.2.1 (fun t ht hW => ⟨_, rfl, by show (nI b - nI (v - b)).toInt = _; rw [if_pos (by omega), pk_sub_toInt (by omega) (by omega)]; omega, ht⟩) (fun q h => nomatch h) dX0_fold_10 G.2.2.2.2.2.2
