/-! the reference's small methods -/
theorem gbn_bit (b : Bool) : gbn b = 0 ∨ gbn b = 1 := by cases b <;> simp [gbn]
theorem gin_y {x lo hi : Int32} (h1 : ¬ x < lo) (h2 : ¬ hi < x) : 1 = gbn (gin x lo hi) := by
  have a1 : ¬ x.toInt < lo.toInt := fun z => h1 (Int32.lt_iff_toInt_lt.mpr z)
  have a2 : ¬ hi.toInt < x.toInt := fun z => h2 (Int32.lt_iff_toInt_lt.mpr z)
  have e : gin x lo hi = true := by unfold gin; exact decide_eq_true ⟨by omega, by omega⟩
  rw [e]; rfl
theorem gin_lo {x lo hi : Int32} (h1 : x < lo) : 0 = gbn (gin x lo hi) := by
  have a1 := Int32.lt_iff_toInt_lt.mp h1
  have e : gin x lo hi = false := by unfold gin; exact decide_eq_false (fun z => by omega)
  rw [e]; rfl
theorem gin_hi {x lo hi : Int32} (h1 : hi < x) : 0 = gbn (gin x lo hi) := by
  have a1 := Int32.lt_iff_toInt_lt.mp h1
  have e : gin x lo hi = false := by unfold gin; exact decide_eq_false (fun z => by omega)
  rw [e]; rfl
set_option maxRecDepth 100000 in
set_option maxHeartbeats 4000000 in
/-- in a range -/
theorem mX1_isIn (l : Launch) (x lo hi : Int32) : Met l yX1_isIn wsX1_isIn { frames := 0, cells := 0, slots := 0, locals := 0 } (va_Pc [.int x, .int lo, .int hi] (fun _ => True)) (vp_Si (fun r => r = nI (gbn (gin x lo hi)))) 0 0 (fun _ => False) := by
  refine gc_met [.int x, .int lo, .int hi] (by decide) rfl (Nat.le_of_ble_eq_true rfl) rfl ?_
  intro p e s m below meth c ls G hl _
  refine lv_iload_n G.1 G.2.1 dX1_isIn_0 rfl (lv_at hl 0 rfl) ?_
  refine lv_iload_n G.1 G.2.1 dX1_isIn_1 rfl (lv_at hl 1 rfl) ?_
  refine lv_icmp_lt (tgt := 14) G.1 G.2.1 dX1_isIn_2 (by decide) (fun h_2 => ?_) (fun h_2 => ?_)
  · refine lv_iconst (v := nI 0) G.1 G.2.1 dX1_isIn_14 (by decide) ?_
    exact W.zret G.1 G.2.1 G.2.2.1 rfl (fun t ht hW => ⟨_, rfl, by show nI _ = nI _; first | exact congrArg nI (gin_y (by assumption) (by assumption)) | exact congrArg nI (gin_lo (by assumption)) | exact congrArg nI (gin_hi (by assumption)), ht⟩) (fun q h => nomatch h) dX1_isIn_15 G.2.2.2.2.2.2
  · refine lv_iload_n G.1 G.2.1 dX1_isIn_5 rfl (lv_at hl 0 rfl) ?_
    refine lv_iload_n G.1 G.2.1 dX1_isIn_6 rfl (lv_at hl 2 rfl) ?_
    refine lv_icmp_gt (tgt := 14) G.1 G.2.1 dX1_isIn_7 (by decide) (fun h_7 => ?_) (fun h_7 => ?_)
    · refine lv_iconst (v := nI 0) G.1 G.2.1 dX1_isIn_14 (by decide) ?_
      exact W.zret G.1 G.2.1 G.2.2.1 rfl (fun t ht hW => ⟨_, rfl, by show nI _ = nI _; first | exact congrArg nI (gin_y (by assumption) (by assumption)) | exact congrArg nI (gin_lo (by assumption)) | exact congrArg nI (gin_hi (by assumption)), ht⟩) (fun q h => nomatch h) dX1_isIn_15 G.2.2.2.2.2.2
    · refine lv_iconst (v := nI 1) G.1 G.2.1 dX1_isIn_10 (by decide) ?_
      refine lv_goto (tgt := 15) G.1 G.2.1 dX1_isIn_11 (by decide) ?_
      exact W.zret G.1 G.2.1 G.2.2.1 rfl (fun t ht hW => ⟨_, rfl, by show nI _ = nI _; first | exact congrArg nI (gin_y (by assumption) (by assumption)) | exact congrArg nI (gin_lo (by assumption)) | exact congrArg nI (gin_hi (by assumption)), ht⟩) (fun q h => nomatch h) dX1_isIn_15 G.2.2.2.2.2.2
set_option maxRecDepth 100000 in
set_option maxHeartbeats 4000000 in
/-- isByte -/
theorem mX1_isByte (l : Launch) (x : Int32) : Met l yX1_isByte wsX1_isByte { frames := 1, cells := 0, slots := 0, locals := 22 } (va_Pc [.int x] (fun _ => True)) (vp_Si (fun r => r = nI (gbn (gb x 256)))) 0 0 (fun _ => False) := by
  refine gc_met [.int x] (by decide) rfl (Nat.le_of_ble_eq_true rfl) rfl ?_
  intro p e s m below meth c ls G hl _
  refine lv_iload_n G.1 G.2.1 dX1_isByte_0 rfl (lv_at hl 0 rfl) ?_
  refine lv_iconst (v := nI 0) G.1 G.2.1 dX1_isByte_1 (by decide) ?_
  refine lv_sipush (v := nI 255) G.1 G.2.1 dX1_isByte_2 (by decide) ?_
  refine gc_s (As := [.int x, .int (nI 0), .int (nI 255)]) (rest := []) G.fix (mX1_isIn l x (nI 0) (nI 255)) (va_cwS 3 G.2.2.2.2.2.1 gX1_isByte_X1_isIn rfl rfl rfl (by decide +kernel) ⟨Nat.le_of_ble_eq_true rfl, Nat.le_of_ble_eq_true rfl⟩) gc_blindT (fun _ _ _ => trivial) rfl hl.1 rfl (Nat.le_of_ble_eq_true rfl) dX1_isByte_5 (Nat.zero_le _) (Nat.zero_le _) (fun r hr => ?_)
  subst hr
  rw [gin_k (by decide)]
  exact W.zret G.1 G.2.1 G.2.2.1 (gp_nz (gbn_bit _)) (fun t ht hW => ⟨_, rfl, rfl, ht⟩) (fun q h => nomatch h) dX1_isByte_8 G.2.2.2.2.2.2
set_option maxRecDepth 100000 in
set_option maxHeartbeats 4000000 in
/-- isThird -/
theorem mX1_isThird (l : Launch) (x : Int32) : Met l yX1_isThird wsX1_isThird { frames := 1, cells := 0, slots := 0, locals := 22 } (va_Pc [.int x] (fun _ => True)) (vp_Si (fun r => r = nI (gbn (gb x 3)))) 0 0 (fun _ => False) := by
  refine gc_met [.int x] (by decide) rfl (Nat.le_of_ble_eq_true rfl) rfl ?_
  intro p e s m below meth c ls G hl _
  refine lv_iload_n G.1 G.2.1 dX1_isThird_0 rfl (lv_at hl 0 rfl) ?_
  refine lv_iconst (v := nI 0) G.1 G.2.1 dX1_isThird_1 (by decide) ?_
  refine lv_iconst (v := nI 2) G.1 G.2.1 dX1_isThird_2 (by decide) ?_
  refine gc_s (As := [.int x, .int (nI 0), .int (nI 2)]) (rest := []) G.fix (mX1_isIn l x (nI 0) (nI 2)) (va_cwS 3 G.2.2.2.2.2.1 gX1_isThird_X1_isIn rfl rfl rfl (by decide +kernel) ⟨Nat.le_of_ble_eq_true rfl, Nat.le_of_ble_eq_true rfl⟩) gc_blindT (fun _ _ _ => trivial) rfl hl.1 rfl (Nat.le_of_ble_eq_true rfl) dX1_isThird_3 (Nat.zero_le _) (Nat.zero_le _) (fun r hr => ?_)
  subst hr
  rw [gin_k (by decide)]
  exact W.zret G.1 G.2.1 G.2.2.1 (gp_nz (gbn_bit _)) (fun t ht hW => ⟨_, rfl, rfl, ht⟩) (fun q h => nomatch h) dX1_isThird_6 G.2.2.2.2.2.2
set_option maxRecDepth 100000 in
set_option maxHeartbeats 4000000 in
/-- isPixel -/
theorem mX1_isPixel (l : Launch) (x : Int32) : Met l yX1_isPixel wsX1_isPixel { frames := 1, cells := 0, slots := 0, locals := 22 } (va_Pc [.int x] (fun _ => True)) (vp_Si (fun r => r = nI (gbn (gb x 6)))) 0 0 (fun _ => False) := by
  refine gc_met [.int x] (by decide) rfl (Nat.le_of_ble_eq_true rfl) rfl ?_
  intro p e s m below meth c ls G hl _
  refine lv_iload_n G.1 G.2.1 dX1_isPixel_0 rfl (lv_at hl 0 rfl) ?_
  refine lv_iconst (v := nI 0) G.1 G.2.1 dX1_isPixel_1 (by decide) ?_
  refine lv_iconst (v := nI 5) G.1 G.2.1 dX1_isPixel_2 (by decide) ?_
  refine gc_s (As := [.int x, .int (nI 0), .int (nI 5)]) (rest := []) G.fix (mX1_isIn l x (nI 0) (nI 5)) (va_cwS 3 G.2.2.2.2.2.1 gX1_isPixel_X1_isIn rfl rfl rfl (by decide +kernel) ⟨Nat.le_of_ble_eq_true rfl, Nat.le_of_ble_eq_true rfl⟩) gc_blindT (fun _ _ _ => trivial) rfl hl.1 rfl (Nat.le_of_ble_eq_true rfl) dX1_isPixel_3 (Nat.zero_le _) (Nat.zero_le _) (fun r hr => ?_)
  subst hr
  rw [gin_k (by decide)]
  exact W.zret G.1 G.2.1 G.2.2.1 (gp_nz (gbn_bit _)) (fun t ht hW => ⟨_, rfl, rfl, ht⟩) (fun q h => nomatch h) dX1_isPixel_6 G.2.2.2.2.2.2
set_option maxRecDepth 100000 in
set_option maxHeartbeats 4000000 in
/-- a place -/
theorem mX1_placeAt (l : Launch) (k : Nat) (hk : k ≤ 4) : Met l yX1_placeAt wsX1_placeAt { frames := 0, cells := 0, slots := 0, locals := 0 } (va_Pc [.int (nI k)] (fun _ => True)) (vp_Si (fun r => r = nI (sp_vop k))) 0 0 (fun _ => False) := by
  refine gc_met [.int (nI k)] (by decide) rfl (Nat.le_of_ble_eq_true rfl) rfl ?_
  intro p e s m below meth c ls G hl _
  refine lv_iload_n G.1 G.2.1 dX1_placeAt_0 rfl (lv_at hl 0 rfl) ?_
  refine lv_iconst (v := nI 4) G.1 G.2.1 dX1_placeAt_1 (by decide) ?_
  refine gn_ne G (by first | omega | assumption) (by first | omega | assumption) (tgt := 11) dX1_placeAt_2 (by decide) (fun h_2 => ?_) (fun h_2 => ?_)
  · refine lv_bipush (v := nI 64) G.1 G.2.1 dX1_placeAt_11 (by decide) ?_
    refine lv_iload_n G.1 G.2.1 dX1_placeAt_13 rfl (lv_at hl 0 rfl) ?_
    refine gn_imul G dX1_placeAt_14 ?_
    exact W.iret G.1 G.2.1 G.2.2.1 (fun t ht hW => ⟨_, rfl, by show nI _ = nI _; unfold sp_vop; congr 1; omega, ht⟩) (fun q h => nomatch h) dX1_placeAt_15 G.2.2.2.2.2.2
  · refine lv_sipush (v := nI 255) G.1 G.2.1 dX1_placeAt_5 (by decide) ?_
    refine lv_goto (tgt := 15) G.1 G.2.1 dX1_placeAt_8 (by decide) ?_
    exact W.iret G.1 G.2.1 G.2.2.1 (fun t ht hW => ⟨_, rfl, by show nI _ = nI _; unfold sp_vop; congr 1; omega, ht⟩) (fun q h => nomatch h) dX1_placeAt_15 G.2.2.2.2.2.2
set_option maxRecDepth 100000 in
set_option maxHeartbeats 4000000 in
/-- a quotient rounded down -/
theorem mX1_quotient (l : Launch) (x y : Int32) (hx : -1073741824 ≤ x.toInt ∧ x.toInt < 1073741824) (hy : 0 < y.toInt) : Met l yX1_quotient wsX1_quotient { frames := 0, cells := 0, slots := 0, locals := 0 } (va_Pc [.int x, .int y] (fun _ => True)) (vp_Si (fun r => r.toInt = x.toInt / y.toInt)) 0 0 (fun _ => False) := by
  refine gc_met [.int x, .int y] (by decide) rfl (Nat.le_of_ble_eq_true rfl) rfl ?_
  intro p e s m below meth c ls G hl _
  have hy0 : ¬ y = 0 := fun z => by rw [z] at hy; exact absurd hy (by decide)
  obtain ⟨e1, e2, e3⟩ := gp_divT hx hy
  obtain ⟨f1, f2, f3⟩ := gp_floor (a := x.toInt) hy
  refine lv_iload_n G.1 G.2.1 dX1_quotient_0 rfl (lv_at hl 0 rfl) ?_
  refine lv_iload_n G.1 G.2.1 dX1_quotient_1 rfl (lv_at hl 1 rfl) ?_
  refine lv_idiv G.1 G.2.1 dX1_quotient_2 hy0 ?_
  refine lv_topi (fun d ed => ?_)
  have ed1 : d.toInt = x.toInt.tdiv y.toInt := by rw [ed]; exact e1
  refine lv_istore_n (lv' := [(2, .int d), (0, .int x), (1, .int y)]) G.1 G.2.1 dX1_quotient_3 rfl hl (by decide) rfl (fun ls hl => ?_)
  have em : (d * y).toInt = x.toInt.tdiv y.toInt * y.toInt := by
    rw [Int32.toInt_mul, ed1]
    have hb := gp_mulback x.toInt y.toInt hx hy
    exact fb_bmod (by omega) (by omega)
  refine lv_iload_n G.1 G.2.1 dX1_quotient_4 rfl (lv_at hl 0 rfl) ?_
  refine lv_iload_n G.1 G.2.1 dX1_quotient_5 rfl (lv_at hl 2 rfl) ?_
  refine lv_imul G.1 G.2.1 dX1_quotient_6 ?_
  refine lv_iload_n G.1 G.2.1 dX1_quotient_7 rfl (lv_at hl 1 rfl) ?_
  refine lv_icmp_le (tgt := 17) G.1 G.2.1 dX1_quotient_8 (by decide) (fun h => ?_) (fun h => ?_)
  · have h1 := Int32.le_iff_toInt_le.mp h
    rw [em] at h1
    have hq : x.toInt.tdiv y.toInt = x.toInt / y.toInt := by
      rcases (by omega : x.toInt < 0 ∨ 0 ≤ x.toInt) with g | g
      · rcases Int.decEq (x.toInt.tdiv y.toInt * y.toInt) x.toInt with g2 | g2
        · exact absurd (f3 g g2).2 (by omega)
        · exact f2 g g2
      · exact (f1 g).1
    refine lv_iload_n G.1 G.2.1 dX1_quotient_17 rfl (lv_at hl 0 rfl) ?_
    exact W.iret G.1 G.2.1 G.2.2.1 (fun t ht hW => ⟨_, rfl, by show d.toInt = _; rw [ed1]; exact hq, ht⟩) (fun q h => nomatch h) dX1_quotient_18 G.2.2.2.2.2.2
  · have h1 : ¬ (d * y).toInt ≤ x.toInt := fun z => h (Int32.le_iff_toInt_le.mpr z)
    rw [em] at h1
    have hq : x.toInt.tdiv y.toInt - 1 = x.toInt / y.toInt := by
      rcases (by omega : x.toInt < 0 ∨ 0 ≤ x.toInt) with g | g
      · exact (f3 g (by omega)).1
      · exact absurd (f1 g).2 (by omega)
    refine lv_iload_n G.1 G.2.1 dX1_quotient_11 rfl (lv_at hl 0 rfl) ?_
    refine lv_iconst (v := 1) G.1 G.2.1 dX1_quotient_12 (by decide) ?_
    refine lv_isub G.1 G.2.1 dX1_quotient_13 ?_
    refine lv_goto (tgt := 18) G.1 G.2.1 dX1_quotient_14 (by decide) ?_
    exact W.iret G.1 G.2.1 G.2.2.1 (fun t ht hW => ⟨_, rfl, by show (d - 1).toInt = _; rw [fb_subI (by rw [ed1]; show -2147483648 ≤ x.toInt.tdiv y.toInt - 1; omega) (by rw [ed1]; show x.toInt.tdiv y.toInt - 1 < 2147483648; omega), ed1]; exact hq, ht⟩) (fun q h => nomatch h) dX1_quotient_18 G.2.2.2.2.2.2
set_option maxRecDepth 100000 in
set_option maxHeartbeats 4000000 in
/-- how far apart -/
theorem mX1_apart (l : Launch) (a b : Nat) (ha : a ≤ 255) (hb : b ≤ 255) : Met l yX1_apart wsX1_apart { frames := 0, cells := 0, slots := 0, locals := 0 } (va_Pc [.int (nI a), .int (nI b)] (fun _ => True)) (vp_Si (fun r => r = nI (sp_ap a b))) 0 0 (fun _ => False) := by
  refine gc_met [.int (nI a), .int (nI b)] (by decide) rfl (Nat.le_of_ble_eq_true rfl) rfl ?_
  intro p e s m below meth c ls G hl _
  refine lv_iload_n G.1 G.2.1 dX1_apart_0 rfl (lv_at hl 0 rfl) ?_
  refine lv_iload_n G.1 G.2.1 dX1_apart_1 rfl (lv_at hl 1 rfl) ?_
  refine gn_le G (by first | omega | assumption) (by first | omega | assumption) (tgt := 11) dX1_apart_2 (by decide) (fun h_2 => ?_) (fun h_2 => ?_)
  · refine lv_iload_n G.1 G.2.1 dX1_apart_11 rfl (lv_at hl 1 rfl) ?_
    refine lv_iload_n G.1 G.2.1 dX1_apart_12 rfl (lv_at hl 0 rfl) ?_
    refine gn_isub G dX1_apart_13 (by first | omega | assumption) ?_
    exact W.iret G.1 G.2.1 G.2.2.1 (fun t ht hW => ⟨_, rfl, by show nI _ = nI _; unfold sp_ap; congr 1; split <;> omega, ht⟩) (fun q h => nomatch h) dX1_apart_14 G.2.2.2.2.2.2
  · refine lv_iload_n G.1 G.2.1 dX1_apart_5 rfl (lv_at hl 0 rfl) ?_
    refine lv_iload_n G.1 G.2.1 dX1_apart_6 rfl (lv_at hl 1 rfl) ?_
    refine gn_isub G dX1_apart_7 (by first | omega | assumption) ?_
    refine lv_goto (tgt := 14) G.1 G.2.1 dX1_apart_8 (by decide) ?_
    exact W.iret G.1 G.2.1 G.2.2.1 (fun t ht hW => ⟨_, rfl, by show nI _ = nI _; unfold sp_ap; congr 1; split <;> omega, ht⟩) (fun q h => nomatch h) dX1_apart_14 G.2.2.2.2.2.2
set_option maxRecDepth 100000 in
set_option maxHeartbeats 4000000 in
/-- the number of the exception -/
theorem mX1_thrown (l : Launch) (D : va_G) (q : Nat → Nat) (cI cZ : ClassId) (N : Nat → Nat) (S : Nat → Nat → Nat) (fv : Nat → Nat) (th : Nat) (A : Nat → Prop) : Met l yX1_thrown wsX1_thrown { frames := 0, cells := 0, slots := 0, locals := 0 } (va_Pc [.ref (q 0)] (fun U => mAt D q cI cZ N S fv th A U U.heap)) (vp_Si (fun r => r = nI th)) 0 0 (fun _ => False) := by
  refine gc_met [.ref (q 0)] (by decide) rfl (Nat.le_of_ble_eq_true rfl) rfl ?_
  intro p e s m below meth c ls G hl hX
  have hS : va_S A s.heap s.heap [] := va_S.rf
  refine lv_aload_n G.1 G.2.1 dX1_thrown_0 rfl (lv_at hl 0 rfl) ?_
  refine gm_get G hX (by decide +kernel) 15 (by decide) (by decide +kernel) rfl rfl rfl dX1_thrown_1 ?_
  exact W.iret G.1 G.2.1 G.2.2.1 (fun t ht hW => ⟨_, rfl, rfl, ht⟩) (fun q h => nomatch h) dX1_thrown_4 G.2.2.2.2.2.2
set_option maxRecDepth 100000 in
set_option maxHeartbeats 4000000 in
/-- isProfile -/
theorem mX1_isProfile (l : Launch) (D : va_G) (q : Nat → Nat) (cI cZ : ClassId) (N : Nat → Nat) (S : Nat → Nat → Nat) (fv : Nat → Nat) (th : Nat) (A : Nat → Prop) (hok : sp_ok N S) (x : Int32) : Met l yX1_isProfile wsX1_isProfile { frames := 1, cells := 0, slots := 0, locals := 22 } (va_Pc [.ref (q 0), .int x] (fun U => mAt D q cI cZ N S fv th A U U.heap)) (vp_Si (fun r => r = nI (gbn (gb x (N 0))))) 0 0 (fun _ => False) := by
  refine gc_met [.ref (q 0), .int x] (by decide) rfl (Nat.le_of_ble_eq_true rfl) rfl ?_
  intro p e s m below meth c ls G hl hX
  have hS : va_S A s.heap s.heap [] := va_S.rf
  have hok9 := hok
  obtain ⟨⟨ok0, ok5⟩, ok1, ok2, ok3, ok4, ok6, ok7, ok8, ok12, ok13, ok14⟩ := hok9
  refine lv_iload_n G.1 G.2.1 dX1_isProfile_0 rfl (lv_at hl 1 rfl) ?_
  refine lv_iconst (v := nI 0) G.1 G.2.1 dX1_isProfile_1 (by decide) ?_
  refine lv_aload_n G.1 G.2.1 dX1_isProfile_2 rfl (lv_at hl 0 rfl) ?_
  refine gm_get G hX (by decide +kernel) 0 (by decide) (by decide +kernel) rfl rfl rfl dX1_isProfile_3 ?_
  refine lv_iconst (v := nI 1) G.1 G.2.1 dX1_isProfile_6 (by decide) ?_
  refine lv_isub G.1 G.2.1 dX1_isProfile_7 ?_
  refine gc_s (As := [.int x, .int (nI 0), .int (nI (N 0) - nI 1)]) (rest := []) G.fix (mX1_isIn l x (nI 0) (nI (N 0) - nI 1)) (va_cwS 3 G.2.2.2.2.2.1 gX1_isProfile_X1_isIn rfl rfl rfl (by decide +kernel) ⟨Nat.le_of_ble_eq_true rfl, Nat.le_of_ble_eq_true rfl⟩) gc_blindT (fun _ _ _ => trivial) rfl hl.1 rfl (Nat.le_of_ble_eq_true rfl) dX1_isProfile_8 (Nat.zero_le _) (Nat.zero_le _) (fun r hr => ?_)
  subst hr
  rw [gin_n (by omega)]
  exact W.zret G.1 G.2.1 G.2.2.1 (gp_nz (gbn_bit _)) (fun t ht hW => ⟨_, rfl, rfl, ht⟩) (fun q h => nomatch h) dX1_isProfile_11 G.2.2.2.2.2.2
set_option maxRecDepth 100000 in
set_option maxHeartbeats 4000000 in
/-- isChain -/
theorem mX1_isChain (l : Launch) (D : va_G) (q : Nat → Nat) (cI cZ : ClassId) (N : Nat → Nat) (S : Nat → Nat → Nat) (fv : Nat → Nat) (th : Nat) (A : Nat → Prop) (hok : sp_ok N S) (x : Int32) : Met l yX1_isChain wsX1_isChain { frames := 1, cells := 0, slots := 0, locals := 22 } (va_Pc [.ref (q 0), .int x] (fun U => mAt D q cI cZ N S fv th A U U.heap)) (vp_Si (fun r => r = nI (gbn (gb x (N 5))))) 0 0 (fun _ => False) := by
  refine gc_met [.ref (q 0), .int x] (by decide) rfl (Nat.le_of_ble_eq_true rfl) rfl ?_
  intro p e s m below meth c ls G hl hX
  have hS : va_S A s.heap s.heap [] := va_S.rf
  have hok9 := hok
  obtain ⟨⟨ok0, ok5⟩, ok1, ok2, ok3, ok4, ok6, ok7, ok8, ok12, ok13, ok14⟩ := hok9
  refine lv_iload_n G.1 G.2.1 dX1_isChain_0 rfl (lv_at hl 1 rfl) ?_
  refine lv_iconst (v := nI 0) G.1 G.2.1 dX1_isChain_1 (by decide) ?_
  refine lv_aload_n G.1 G.2.1 dX1_isChain_2 rfl (lv_at hl 0 rfl) ?_
  refine gm_get G hX (by decide +kernel) 5 (by decide) (by decide +kernel) rfl rfl rfl dX1_isChain_3 ?_
  refine lv_iconst (v := nI 1) G.1 G.2.1 dX1_isChain_6 (by decide) ?_
  refine lv_isub G.1 G.2.1 dX1_isChain_7 ?_
  refine gc_s (As := [.int x, .int (nI 0), .int (nI (N 5) - nI 1)]) (rest := []) G.fix (mX1_isIn l x (nI 0) (nI (N 5) - nI 1)) (va_cwS 3 G.2.2.2.2.2.1 gX1_isChain_X1_isIn rfl rfl rfl (by decide +kernel) ⟨Nat.le_of_ble_eq_true rfl, Nat.le_of_ble_eq_true rfl⟩) gc_blindT (fun _ _ _ => trivial) rfl hl.1 rfl (Nat.le_of_ble_eq_true rfl) dX1_isChain_8 (Nat.zero_le _) (Nat.zero_le _) (fun r hr => ?_)
  subst hr
  rw [gin_n (by omega)]
  exact W.zret G.1 G.2.1 G.2.2.1 (gp_nz (gbn_bit _)) (fun t ht hW => ⟨_, rfl, rfl, ht⟩) (fun q h => nomatch h) dX1_isChain_11 G.2.2.2.2.2.2
set_option maxRecDepth 100000 in
set_option maxHeartbeats 4000000 in
/-- may -/
theorem mX1_may (l : Launch) (D : va_G) (q : Nat → Nat) (cI cZ : ClassId) (N : Nat → Nat) (S : Nat → Nat → Nat) (fv : Nat → Nat) (th : Nat) (A : Nat → Prop) (ka : Nat) (ha : ka ≤ 1) : Met l yX1_may wsX1_may { frames := 0, cells := 0, slots := 0, locals := 0 } (va_Pc [.ref (q 0), .int (nI ka)] (fun U => mAt D q cI cZ N S fv th A U U.heap)) (gQd D q cI cZ N S (sp_m3 ka 1 1) (nI (sp_z (sp_m3 ka 1 1))) A) 0 0 A := by
  refine gc_met [.ref (q 0), .int (nI ka)] (by decide) rfl (Nat.le_of_ble_eq_true rfl) rfl ?_
  intro p e s m below meth c ls G hl hX
  have hS : va_S A s.heap s.heap [] := va_S.rf
  refine lv_aload_n G.1 G.2.1 dX1_may_0 rfl (lv_at hl 0 rfl) ?_
  refine lv_iload_n G.1 G.2.1 dX1_may_1 rfl (lv_at hl 1 rfl) ?_
  refine gn_eqz G (by first | omega | assumption) (tgt := 9) dX1_may_2 (by decide) (fun h_2 => ?_) (fun h_2 => ?_)
  · refine lv_iconst (v := nI 1) G.1 G.2.1 dX1_may_9 (by decide) ?_
    refine gm_put (k := 15) (v := 1) (N' := N) (th' := 1) G hX hS (by decide +kernel) (by decide) (by decide +kernel) rfl rfl (by decide +kernel) rfl (Nat.le_of_ble_eq_true rfl) rfl dX1_may_10 (fun H1 locs1 hX hS => ?_)
    refine lv_iload_n G.1 G.2.1 dX1_may_13 rfl (lv_at hl 1 rfl) ?_
    have eT : sp_m3 ka 1 1 = 1 := by unfold sp_m3; simp [h_2]
    have eR : sp_z (sp_m3 ka 1 1) = ka := by rw [eT]; unfold sp_z; (try simp only [*]); simp [h_2] <;> omega
    rw [eT] at eR ⊢
    rw [eR]
    exact W.zret G.1 G.2.1 G.2.2.1 (gp_nz (by first | exact Or.inl rfl | exact Or.inr rfl | omega)) (fun t ht hW => gQd_of hX hS ht) hS.2.2 dX1_may_14 G.2.2.2.2.2.2
  · refine lv_iconst (v := nI 0) G.1 G.2.1 dX1_may_5 (by decide) ?_
    refine lv_goto (tgt := 10) G.1 G.2.1 dX1_may_6 (by decide) ?_
    refine gm_put (k := 15) (v := 0) (N' := N) (th' := 0) G hX hS (by decide +kernel) (by decide) (by decide +kernel) rfl rfl (by decide +kernel) rfl (Nat.le_of_ble_eq_true rfl) rfl dX1_may_10 (fun H1 locs1 hX hS => ?_)
    refine lv_iload_n G.1 G.2.1 dX1_may_13 rfl (lv_at hl 1 rfl) ?_
    have eT : sp_m3 ka 1 1 = 0 := by unfold sp_m3; simp [h_2]
    have eR : sp_z (sp_m3 ka 1 1) = ka := by rw [eT]; unfold sp_z; (try simp only [*]); simp [h_2] <;> omega
    rw [eT] at eR ⊢
    rw [eR]
    exact W.zret G.1 G.2.1 G.2.2.1 (gp_nz (by first | exact Or.inl rfl | exact Or.inr rfl | omega)) (fun t ht hW => gQd_of hX hS ht) hS.2.2 dX1_may_14 G.2.2.2.2.2.2
set_option maxRecDepth 100000 in
set_option maxHeartbeats 4000000 in
/-- mayBoth -/
theorem mX1_mayBoth (l : Launch) (D : va_G) (q : Nat → Nat) (cI cZ : ClassId) (N : Nat → Nat) (S : Nat → Nat → Nat) (fv : Nat → Nat) (th : Nat) (A : Nat → Prop) (ka kb : Nat) (ha : ka < 2 ^ 31) (hb : kb < 2 ^ 31) : Met l yX1_mayBoth wsX1_mayBoth { frames := 0, cells := 0, slots := 0, locals := 0 } (va_Pc [.ref (q 0), .int (nI ka), .int (nI kb)] (fun U => mAt D q cI cZ N S fv th A U U.heap)) (gQd D q cI cZ N S (sp_m3 ka kb 1) (nI (sp_z (sp_m3 ka kb 1))) A) 0 0 A := by
  refine gc_met [.ref (q 0), .int (nI ka), .int (nI kb)] (by decide) rfl (Nat.le_of_ble_eq_true rfl) rfl ?_
  intro p e s m below meth c ls G hl hX
  have hS : va_S A s.heap s.heap [] := va_S.rf
  refine lv_aload_n G.1 G.2.1 dX1_mayBoth_0 rfl (lv_at hl 0 rfl) ?_
  refine lv_iload_n G.1 G.2.1 dX1_mayBoth_1 rfl (lv_at hl 1 rfl) ?_
  refine gn_nez G (by first | omega | assumption) (tgt := 9) dX1_mayBoth_2 (by decide) (fun h_2 => ?_) (fun h_2 => ?_)
  · refine lv_iload_n G.1 G.2.1 dX1_mayBoth_9 rfl (lv_at hl 2 rfl) ?_
    refine gn_nez G (by first | omega | assumption) (tgt := 17) dX1_mayBoth_10 (by decide) (fun h_10 => ?_) (fun h_10 => ?_)
    · refine lv_iconst (v := nI 0) G.1 G.2.1 dX1_mayBoth_17 (by decide) ?_
      refine gm_put (k := 15) (v := 0) (N' := N) (th' := 0) G hX hS (by decide +kernel) (by decide) (by decide +kernel) rfl rfl (by decide +kernel) rfl (Nat.le_of_ble_eq_true rfl) rfl dX1_mayBoth_18 (fun H1 locs1 hX hS => ?_)
      refine lv_aload_n G.1 G.2.1 dX1_mayBoth_21 rfl (lv_at hl 0 rfl) ?_
      refine gm_get G hX (by decide +kernel) 15 (by decide) (by decide +kernel) rfl rfl rfl dX1_mayBoth_22 ?_
      refine gn_nez G (by decide) (tgt := 32) dX1_mayBoth_25 (by decide) (fun h_25 => absurd h_25 (by decide)) (fun h_25 => ?_)
      refine lv_iconst (v := nI 1) G.1 G.2.1 dX1_mayBoth_28 (by decide) ?_
      refine lv_goto (tgt := 33) G.1 G.2.1 dX1_mayBoth_29 (by decide) ?_
      have eT : sp_m3 ka kb 1 = 0 := by unfold sp_m3; simp [h_2, h_10]
      have eR : sp_z (sp_m3 ka kb 1) = 1 := by rw [eT]; rfl
      rw [eT] at eR ⊢
      rw [eR]
      exact W.zret G.1 G.2.1 G.2.2.1 (gp_nz (by first | exact Or.inl rfl | exact Or.inr rfl | omega)) (fun t ht hW => gQd_of hX hS ht) hS.2.2 dX1_mayBoth_33 G.2.2.2.2.2.2
    · refine lv_iconst (v := nI 2) G.1 G.2.1 dX1_mayBoth_13 (by decide) ?_
      refine lv_goto (tgt := 18) G.1 G.2.1 dX1_mayBoth_14 (by decide) ?_
      refine gm_put (k := 15) (v := 2) (N' := N) (th' := 2) G hX hS (by decide +kernel) (by decide) (by decide +kernel) rfl rfl (by decide +kernel) rfl (Nat.le_of_ble_eq_true rfl) rfl dX1_mayBoth_18 (fun H1 locs1 hX hS => ?_)
      refine lv_aload_n G.1 G.2.1 dX1_mayBoth_21 rfl (lv_at hl 0 rfl) ?_
      refine gm_get G hX (by decide +kernel) 15 (by decide) (by decide +kernel) rfl rfl rfl dX1_mayBoth_22 ?_
      refine gn_nez G (by decide) (tgt := 32) dX1_mayBoth_25 (by decide) (fun h_25 => ?_) (fun h_25 => absurd h_25 (by decide))
      refine lv_iconst (v := nI 0) G.1 G.2.1 dX1_mayBoth_32 (by decide) ?_
      have eT : sp_m3 ka kb 1 = 2 := by unfold sp_m3; simp [h_2, h_10]
      have eR : sp_z (sp_m3 ka kb 1) = 0 := by rw [eT]; rfl
      rw [eT] at eR ⊢
      rw [eR]
      exact W.zret G.1 G.2.1 G.2.2.1 (gp_nz (by first | exact Or.inl rfl | exact Or.inr rfl | omega)) (fun t ht hW => gQd_of hX hS ht) hS.2.2 dX1_mayBoth_33 G.2.2.2.2.2.2
  · refine lv_iconst (v := nI 1) G.1 G.2.1 dX1_mayBoth_5 (by decide) ?_
    refine lv_goto (tgt := 18) G.1 G.2.1 dX1_mayBoth_6 (by decide) ?_
    refine gm_put (k := 15) (v := 1) (N' := N) (th' := 1) G hX hS (by decide +kernel) (by decide) (by decide +kernel) rfl rfl (by decide +kernel) rfl (Nat.le_of_ble_eq_true rfl) rfl dX1_mayBoth_18 (fun H1 locs1 hX hS => ?_)
    refine lv_aload_n G.1 G.2.1 dX1_mayBoth_21 rfl (lv_at hl 0 rfl) ?_
    refine gm_get G hX (by decide +kernel) 15 (by decide) (by decide +kernel) rfl rfl rfl dX1_mayBoth_22 ?_
    refine gn_nez G (by decide) (tgt := 32) dX1_mayBoth_25 (by decide) (fun h_25 => ?_) (fun h_25 => absurd h_25 (by decide))
    refine lv_iconst (v := nI 0) G.1 G.2.1 dX1_mayBoth_32 (by decide) ?_
    have eT : sp_m3 ka kb 1 = 1 := by unfold sp_m3; simp [h_2]
    have eR : sp_z (sp_m3 ka kb 1) = 0 := by rw [eT]; rfl
    rw [eT] at eR ⊢
    rw [eR]
    exact W.zret G.1 G.2.1 G.2.2.1 (gp_nz (by first | exact Or.inl rfl | exact Or.inr rfl | omega)) (fun t ht hW => gQd_of hX hS ht) hS.2.2 dX1_mayBoth_33 G.2.2.2.2.2.2
set_option maxRecDepth 100000 in
set_option maxHeartbeats 4000000 in
/-- mayAll -/
theorem mX1_mayAll (l : Launch) (D : va_G) (q : Nat → Nat) (cI cZ : ClassId) (N : Nat → Nat) (S : Nat → Nat → Nat) (fv : Nat → Nat) (th : Nat) (A : Nat → Prop) (ka kb kc : Nat) (ha : ka < 2 ^ 31) (hb : kb < 2 ^ 31) (hc : kc < 2 ^ 31) : Met l yX1_mayAll wsX1_mayAll { frames := 0, cells := 0, slots := 0, locals := 0 } (va_Pc [.ref (q 0), .int (nI ka), .int (nI kb), .int (nI kc)] (fun U => mAt D q cI cZ N S fv th A U U.heap)) (gQd D q cI cZ N S (sp_m3 ka kb kc) (nI (sp_z (sp_m3 ka kb kc))) A) 0 0 A := by
  refine gc_met [.ref (q 0), .int (nI ka), .int (nI kb), .int (nI kc)] (by decide) rfl (Nat.le_of_ble_eq_true rfl) rfl ?_
  intro p e s m below meth c ls G hl hX
  have hS : va_S A s.heap s.heap [] := va_S.rf
  refine lv_aload_n G.1 G.2.1 dX1_mayAll_0 rfl (lv_at hl 0 rfl) ?_
  refine lv_iload_n G.1 G.2.1 dX1_mayAll_1 rfl (lv_at hl 1 rfl) ?_
  refine gn_nez G (by first | omega | assumption) (tgt := 9) dX1_mayAll_2 (by decide) (fun h_2 => ?_) (fun h_2 => ?_)
  · refine lv_iload_n G.1 G.2.1 dX1_mayAll_9 rfl (lv_at hl 2 rfl) ?_
    refine gn_nez G (by first | omega | assumption) (tgt := 17) dX1_mayAll_10 (by decide) (fun h_10 => ?_) (fun h_10 => ?_)
    · refine lv_iload_n G.1 G.2.1 dX1_mayAll_17 rfl (lv_at hl 3 rfl) ?_
      refine gn_nez G (by first | omega | assumption) (tgt := 25) dX1_mayAll_18 (by decide) (fun h_18 => ?_) (fun h_18 => ?_)
      · refine lv_iconst (v := nI 0) G.1 G.2.1 dX1_mayAll_25 (by decide) ?_
        refine gm_put (k := 15) (v := 0) (N' := N) (th' := 0) G hX hS (by decide +kernel) (by decide) (by decide +kernel) rfl rfl (by decide +kernel) rfl (Nat.le_of_ble_eq_true rfl) rfl dX1_mayAll_26 (fun H1 locs1 hX hS => ?_)
        refine lv_aload_n G.1 G.2.1 dX1_mayAll_29 rfl (lv_at hl 0 rfl) ?_
        refine gm_get G hX (by decide +kernel) 15 (by decide) (by decide +kernel) rfl rfl rfl dX1_mayAll_30 ?_
        refine gn_nez G (by decide) (tgt := 40) dX1_mayAll_33 (by decide) (fun h_33 => absurd h_33 (by decide)) (fun h_33 => ?_)
        refine lv_iconst (v := nI 1) G.1 G.2.1 dX1_mayAll_36 (by decide) ?_
        refine lv_goto (tgt := 41) G.1 G.2.1 dX1_mayAll_37 (by decide) ?_
        have eT : sp_m3 ka kb kc = 0 := by unfold sp_m3; simp [h_2, h_10, h_18]
        have eR : sp_z (sp_m3 ka kb kc) = 1 := by rw [eT]; rfl
        rw [eT] at eR ⊢
        rw [eR]
        exact W.zret G.1 G.2.1 G.2.2.1 (gp_nz (by first | exact Or.inl rfl | exact Or.inr rfl | omega)) (fun t ht hW => gQd_of hX hS ht) hS.2.2 dX1_mayAll_41 G.2.2.2.2.2.2
      · refine lv_iconst (v := nI 3) G.1 G.2.1 dX1_mayAll_21 (by decide) ?_
        refine lv_goto (tgt := 26) G.1 G.2.1 dX1_mayAll_22 (by decide) ?_
        refine gm_put (k := 15) (v := 3) (N' := N) (th' := 3) G hX hS (by decide +kernel) (by decide) (by decide +kernel) rfl rfl (by decide +kernel) rfl (Nat.le_of_ble_eq_true rfl) rfl dX1_mayAll_26 (fun H1 locs1 hX hS => ?_)
        refine lv_aload_n G.1 G.2.1 dX1_mayAll_29 rfl (lv_at hl 0 rfl) ?_
        refine gm_get G hX (by decide +kernel) 15 (by decide) (by decide +kernel) rfl rfl rfl dX1_mayAll_30 ?_
        refine gn_nez G (by decide) (tgt := 40) dX1_mayAll_33 (by decide) (fun h_33 => ?_) (fun h_33 => absurd h_33 (by decide))
        refine lv_iconst (v := nI 0) G.1 G.2.1 dX1_mayAll_40 (by decide) ?_
        have eT : sp_m3 ka kb kc = 3 := by unfold sp_m3; simp [h_2, h_10, h_18]
        have eR : sp_z (sp_m3 ka kb kc) = 0 := by rw [eT]; rfl
        rw [eT] at eR ⊢
        rw [eR]
        exact W.zret G.1 G.2.1 G.2.2.1 (gp_nz (by first | exact Or.inl rfl | exact Or.inr rfl | omega)) (fun t ht hW => gQd_of hX hS ht) hS.2.2 dX1_mayAll_41 G.2.2.2.2.2.2
    · refine lv_iconst (v := nI 2) G.1 G.2.1 dX1_mayAll_13 (by decide) ?_
      refine lv_goto (tgt := 26) G.1 G.2.1 dX1_mayAll_14 (by decide) ?_
      refine gm_put (k := 15) (v := 2) (N' := N) (th' := 2) G hX hS (by decide +kernel) (by decide) (by decide +kernel) rfl rfl (by decide +kernel) rfl (Nat.le_of_ble_eq_true rfl) rfl dX1_mayAll_26 (fun H1 locs1 hX hS => ?_)
      refine lv_aload_n G.1 G.2.1 dX1_mayAll_29 rfl (lv_at hl 0 rfl) ?_
      refine gm_get G hX (by decide +kernel) 15 (by decide) (by decide +kernel) rfl rfl rfl dX1_mayAll_30 ?_
      refine gn_nez G (by decide) (tgt := 40) dX1_mayAll_33 (by decide) (fun h_33 => ?_) (fun h_33 => absurd h_33 (by decide))
      refine lv_iconst (v := nI 0) G.1 G.2.1 dX1_mayAll_40 (by decide) ?_
      have eT : sp_m3 ka kb kc = 2 := by unfold sp_m3; simp [h_2, h_10]
      have eR : sp_z (sp_m3 ka kb kc) = 0 := by rw [eT]; rfl
      rw [eT] at eR ⊢
      rw [eR]
      exact W.zret G.1 G.2.1 G.2.2.1 (gp_nz (by first | exact Or.inl rfl | exact Or.inr rfl | omega)) (fun t ht hW => gQd_of hX hS ht) hS.2.2 dX1_mayAll_41 G.2.2.2.2.2.2
  · refine lv_iconst (v := nI 1) G.1 G.2.1 dX1_mayAll_5 (by decide) ?_
    refine lv_goto (tgt := 26) G.1 G.2.1 dX1_mayAll_6 (by decide) ?_
    refine gm_put (k := 15) (v := 1) (N' := N) (th' := 1) G hX hS (by decide +kernel) (by decide) (by decide +kernel) rfl rfl (by decide +kernel) rfl (Nat.le_of_ble_eq_true rfl) rfl dX1_mayAll_26 (fun H1 locs1 hX hS => ?_)
    refine lv_aload_n G.1 G.2.1 dX1_mayAll_29 rfl (lv_at hl 0 rfl) ?_
    refine gm_get G hX (by decide +kernel) 15 (by decide) (by decide +kernel) rfl rfl rfl dX1_mayAll_30 ?_
    refine gn_nez G (by decide) (tgt := 40) dX1_mayAll_33 (by decide) (fun h_33 => ?_) (fun h_33 => absurd h_33 (by decide))
    refine lv_iconst (v := nI 0) G.1 G.2.1 dX1_mayAll_40 (by decide) ?_
    have eT : sp_m3 ka kb kc = 1 := by unfold sp_m3; simp [h_2]
    have eR : sp_z (sp_m3 ka kb kc) = 0 := by rw [eT]; rfl
    rw [eT] at eR ⊢
    rw [eR]
    exact W.zret G.1 G.2.1 G.2.2.1 (gp_nz (by first | exact Or.inl rfl | exact Or.inr rfl | omega)) (fun t ht hW => gQd_of hX hS ht) hS.2.2 dX1_mayAll_41 G.2.2.2.2.2.2
