/-! the reference's curves, chains and gaps -/
/-- five places of a row, laid into the row 'five' -/
def sp_rowTo (F : Nat → Nat) (o : Nat) (fv : Nat → Nat) : Nat → Nat → Nat
  | 0 => fv
  | k + 1 => gu (sp_rowTo F o fv k) k (F (o + k))
theorem sp_rowTo_at {F : Nat → Nat} {o : Nat} {fv : Nat → Nat} : ∀ {n j : Nat}, j < n → sp_rowTo F o fv n j = F (o + j)
  | 0, j, h => absurd h (Nat.not_lt_zero j)
  | n + 1, j, h => by
    show gu (sp_rowTo F o fv n) n _ j = _
    by_cases e : j = n
    · rw [e, gu_same]
    · rw [gu_other _ _ e]
      exact sp_rowTo_at (by omega)
theorem sp_rowTo_le {F : Nat → Nat} {o : Nat} {fv : Nat → Nat} (hF : ∀ j, F j ≤ 255) : ∀ j, j < 5 → sp_rowTo F o fv 5 j ≤ 255 := fun j h => by rw [sp_rowTo_at h]; exact hF _
theorem sp_btw_row {F : Nat → Nat} {o v : Nat} {fv : Nat → Nat} (hv : v ≤ 255) : sp_btw (sp_rowTo F o fv 5) 0 v = sp_btw F o v := by
  unfold sp_btw
  rw [sp_rowTo_at (by omega), sp_rowTo_at (by omega), show o + (0 + v / 64) = o + v / 64 from by omega, show o + (0 + v / 64 + 1) = o + v / 64 + 1 from by omega]
theorem sp_btw_pl {g : Nat → Nat} {k v : Nat} (hk : k ≤ 4) (e : sp_vop k = v) : sp_btw g 0 v = g k := by
  unfold sp_vop at e
  rcases (by omega : k = 4 ∨ k < 4) with h | h
  · subst h
    obtain rfl : v = 255 := by omega
    show (g (0 + 255 / 64) * (63 - (255 - 255 / 64 * 64)) + g (0 + 255 / 64 + 1) * (255 - 255 / 64 * 64)) / 63 = g 4
    show (g 3 * 0 + g 4 * 63) / 63 = g 4
    rw [Nat.mul_zero, Nat.zero_add, Nat.mul_div_cancel _ (by decide)]
  · obtain rfl : v = k * 64 := by omega
    unfold sp_btw
    rw [show k * 64 / 64 = k from by omega, Nat.sub_self, Nat.mul_zero, Nat.add_zero, Nat.sub_zero, Nat.zero_add, Nat.mul_div_cancel _ (sp_w_pos k)]
theorem sp_vop_w {k : Nat} (hk : k < 4) : sp_vop (k + 1) - sp_vop k = sp_w k := by
  rcases (by omega : k = 0 ∨ k = 1 ∨ k = 2 ∨ k = 3) with h | h | h | h <;> subst h <;> rfl
theorem sp_btw_in {g : Nat → Nat} {k v : Nat} (hk : k < 4) (h1 : sp_vop k ≤ v) (h2 : v < sp_vop (k + 1)) : sp_btw g 0 v = (g k * (sp_vop (k + 1) - sp_vop k - (v - sp_vop k)) + g (k + 1) * (v - sp_vop k)) / (sp_vop (k + 1) - sp_vop k) := by
  have hw := sp_vop_w hk
  have e1 : sp_vop k = k * 64 := by unfold sp_vop; omega
  have e2 : v / 64 = k := by unfold sp_vop at h2; omega
  rw [hw]
  unfold sp_btw
  rw [e2, e1, Nat.zero_add]
/-- whether a profile is in a signed chain, as the reference goes through them -/
def sp_hin (S : Nat → Nat → Nat) (pf c a : Nat) : Nat → Nat
  | 0 => a
  | k + 1 => if sp_hin S pf c a k ≠ 0 then 1 else if S 10 c ≠ 0 ∧ S 6 (c * 6 + k) = pf then 1 else 0
def sp_hout (S : Nat → Nat → Nat) (pf : Nat) : Nat → Nat
  | 0 => 0
  | c + 1 => sp_hin S pf c (sp_hout S pf c) (S 7 c)
theorem sp_hin_a {S : Nat → Nat → Nat} {pf c a k : Nat} (h : sp_hin S pf c a k ≠ 0) : sp_hin S pf c a (k + 1) = 1 := if_pos h
theorem sp_hin_b {S : Nat → Nat → Nat} {pf c a k : Nat} (h : sp_hin S pf c a k = 0) (h1 : S 10 c ≠ 0) (h2 : S 6 (c * 6 + k) = pf) : sp_hin S pf c a (k + 1) = 1 := by
  show (if sp_hin S pf c a k ≠ 0 then 1 else if S 10 c ≠ 0 ∧ S 6 (c * 6 + k) = pf then 1 else 0) = 1
  rw [if_neg (fun z => z h), if_pos ⟨h1, h2⟩]
theorem sp_hin_c {S : Nat → Nat → Nat} {pf c a k : Nat} (h : sp_hin S pf c a k = 0) (h1 : ¬ (S 10 c ≠ 0 ∧ S 6 (c * 6 + k) = pf)) : sp_hin S pf c a (k + 1) = 0 := by
  show (if sp_hin S pf c a k ≠ 0 then 1 else if S 10 c ≠ 0 ∧ S 6 (c * 6 + k) = pf then 1 else 0) = 0
  rw [if_neg (fun z => z h), if_neg h1]
theorem sp_hin_lt {S : Nat → Nat → Nat} {pf c a : Nat} (ha : a < 2) : ∀ k, sp_hin S pf c a k < 2
  | 0 => ha
  | k + 1 => by
    unfold sp_hin
    split
    · decide
    · split <;> decide
theorem sp_hout_lt (S : Nat → Nat → Nat) (pf : Nat) : ∀ n, sp_hout S pf n < 2
  | 0 => Nat.le_of_ble_eq_true rfl
  | c + 1 => sp_hin_lt (sp_hout_lt S pf c) _
theorem sp_gapTo_m {S : Nat → Nat → Nat} {ch x1 x3 : Nat} (h : x3 < 256) : sp_gapTo S ch (x1 * 256 + (x3 + 1)) = max (sp_gapTo S ch (x1 * 256 + x3)) (sp_ap (sp_pass S ch x1 x3) (sp_btw (fun k => sp_pass S ch x1 (sp_vop k)) 0 x3)) := by
  show max (sp_gapTo S ch (x1 * 256 + x3)) (sp_gapAt S ch ((x1 * 256 + x3) / 256) ((x1 * 256 + x3) % 256)) = _
  rw [show (x1 * 256 + x3) / 256 = x1 from by omega, show (x1 * 256 + x3) % 256 = x3 from by omega]
  rfl
theorem gp_f1 {l g f : Nat} {z : Int32} (hl : l ≤ g) (hg : g ≤ 255) (hf : f ≤ 255) (h : g < f) (hz : z.toInt = 2 * (g : Int) - f) : ((¬ nI l ≤ z) → nI l = nI (sp_take l g 2 f)) ∧ (nI l ≤ z → z ≤ nI g → z = nI (sp_take l g 2 f)) ∧ (nI l ≤ z → ¬ z ≤ nI g → nI g = nI (sp_take l g 2 f)) := by
  have tl : (nI l).toInt = (l : Int) := nI_toInt (by omega)
  have tg : (nI g).toInt = (g : Int) := nI_toInt (by omega)
  have e : sp_take l g 2 f = max l (min g (2 * g - f)) := by
    unfold sp_take
    rw [if_neg (by decide), if_pos rfl, if_pos h]
  rw [e]
  refine ⟨fun h1 => ?_, fun h1 h2 => ?_, fun h1 h2 => ?_⟩
  · have a1 : ¬ (nI l).toInt ≤ z.toInt := fun q => h1 (Int32.le_iff_toInt_le.mpr q)
    congr 1
    omega
  · have a1 := Int32.le_iff_toInt_le.mp h1
    have a2 := Int32.le_iff_toInt_le.mp h2
    exact gp_nat (by omega) (by omega)
  · have a2 : ¬ z.toInt ≤ (nI g).toInt := fun q => h2 (Int32.le_iff_toInt_le.mpr q)
    omega
set_option maxRecDepth 100000 in
set_option maxHeartbeats 4000000 in
/-- the value between two places -/
theorem mX1_between (l : Launch) (D : va_G) (q : Nat → Nat) (cI cZ : ClassId) (N : Nat → Nat) (S : Nat → Nat → Nat) (fv : Nat → Nat) (th : Nat) (A : Nat → Prop) (v : Nat) (hv : v ≤ 255) (hF : ∀ j, j < 5 → fv j ≤ 255) : Met l yX1_between wsX1_between { frames := 1, cells := 0, slots := 0, locals := 22 } (va_Pc [.ref (q 0), .int (nI v)] (fun U => mAt D q cI cZ N S fv th A U U.heap)) (vp_Si (fun r => r = nI (sp_btw fv 0 v))) 0 0 (fun _ => False) := by
  refine gc_met [.ref (q 0), .int (nI v)] (by decide) rfl (Nat.le_of_ble_eq_true rfl) rfl ?_
  intro p e s m below meth c ls G hl hX
  have hS : va_S A s.heap s.heap [] := va_S.rf
  refine lv_iconst (v := nI 0) G.1 G.2.1 dX1_between_0 (by decide) ?_
  refine lv_istore_n (lv' := [(2, .int (nI 0)), (0, .ref (q 0)), (1, .int (nI v))]) G.1 G.2.1 dX1_between_1 rfl hl (by decide) rfl (fun ls hl => ?_)
  have loop1 : ∀ (d1 x1 : Nat), x1 + d1 = 4 → (x1 = 0 ∨ sp_vop x1 ≤ v) → ∀ ls : Array Slot, lv_has ls 3 [(0, .ref (q 0)), (1, .int (nI v)), (2, .int (nI x1))] → W p l e { frames := 1, cells := 0, slots := 0, locals := 22 } s m ([.ref (q 0), .int (nI v)] : List Value).toArray below meth c s.heap [] 0 0 (MQ below (vp_Si (fun r => r = nI (sp_btw fv 0 v))) ([.ref (q 0), .int (nI v)] : List Value).toArray s 0 0 (fun _ => False)) (F0 m 2 ls []) := by
    intro d1
    induction d1 with
    | zero =>
      intro x1 hd1 hv1 ls hl
      refine lv_iload_n G.1 G.2.1 dX1_between_2 rfl (lv_at hl 2 rfl) ?_
      refine lv_iconst (v := nI 4) G.1 G.2.1 dX1_between_3 (by decide) ?_
      refine gn_ge G (by first | omega | assumption) (by first | omega | assumption) (tgt := 23) dX1_between_4 (by decide) (fun h_4 => ?_) (fun h_4 => absurd h_4 (by omega))
      have hlo : sp_vop x1 ≤ v := by rcases hv1 with h | h; (rw [h]; exact Nat.zero_le _); exact h
      have hhi : x1 = 4 ∨ v < sp_vop (x1 + 1) := by first | exact Or.inl (by omega) | exact Or.inr h_14
      refine lv_iload_n G.1 G.2.1 dX1_between_23 rfl (lv_at hl 2 rfl) ?_
      refine gc_s (As := [.int (nI x1)]) (rest := []) G.fix (mX1_placeAt l x1 (by first | omega | assumption)) (va_cwS 1 G.2.2.2.2.2.1 gX1_between_X1_placeAt rfl rfl rfl (by decide +kernel) ⟨Nat.le_of_ble_eq_true rfl, Nat.le_of_ble_eq_true rfl⟩) gc_blindT (fun _ _ _ => trivial) rfl hl.1 rfl (Nat.le_of_ble_eq_true rfl) dX1_between_24 (Nat.zero_le _) (Nat.zero_le _) (fun r hr => ?_)
      subst hr
      refine lv_iload_n G.1 G.2.1 dX1_between_27 rfl (lv_at hl 1 rfl) ?_
      refine gn_ne G (by first | omega | exact Nat.lt_of_le_of_lt sp_vop_le (by decide)) (by first | omega | exact Nat.lt_of_le_of_lt sp_vop_le (by decide)) (tgt := 38) dX1_between_28 (by decide) (fun h_28 => ?_) (fun h_28 => ?_)
      · have hk4 : x1 < 4 := by
          rcases (by omega : x1 < 4 ∨ x1 = 4) with h | h
          · exact h
          · exact absurd (by rw [h] at hlo ⊢; have : sp_vop 4 = 255 := rfl; omega) h_28
        have hh2 : v < sp_vop (x1 + 1) := by rcases hhi with h | h; (exact absurd h (by omega)); exact h
        have hw9 := sp_vop_w hk4
        have hwp := sp_w_pos x1
        have hwl := sp_w_le x1
        have hC := hF x1 (by omega)
        have hD9 := hF (x1 + 1) (by omega)
        refine lv_aload_n G.1 G.2.1 dX1_between_38 rfl (lv_at hl 0 rfl) ?_
        refine gm_get G hX (by decide +kernel) 14 (by decide) (by decide +kernel) rfl rfl rfl dX1_between_39 ?_
        refine lv_iload_n G.1 G.2.1 dX1_between_42 rfl (lv_at hl 2 rfl) ?_
        refine gm_ald (k := 14) (kp := 13) (len := 5) (F := fv) G hX rfl (by first | omega | assumption) (by decide) dX1_between_43 ?_
        refine lv_aload_n G.1 G.2.1 dX1_between_44 rfl (lv_at hl 0 rfl) ?_
        refine gm_get G hX (by decide +kernel) 14 (by decide) (by decide +kernel) rfl rfl rfl dX1_between_45 ?_
        refine lv_iload_n G.1 G.2.1 dX1_between_48 rfl (lv_at hl 2 rfl) ?_
        refine lv_iconst (v := nI 1) G.1 G.2.1 dX1_between_49 (by decide) ?_
        refine gn_iadd G dX1_between_50 ?_
        refine gm_ald (k := 14) (kp := 13) (len := 5) (F := fv) G hX rfl (by first | omega | assumption) (by decide) dX1_between_51 ?_
        refine lv_aload_n G.1 G.2.1 dX1_between_52 rfl (lv_at hl 0 rfl) ?_
        refine gm_get G hX (by decide +kernel) 14 (by decide) (by decide +kernel) rfl rfl rfl dX1_between_53 ?_
        refine lv_iload_n G.1 G.2.1 dX1_between_56 rfl (lv_at hl 2 rfl) ?_
        refine gm_ald (k := 14) (kp := 13) (len := 5) (F := fv) G hX rfl (by first | omega | assumption) (by decide) dX1_between_57 ?_
        refine lv_isub G.1 G.2.1 dX1_between_58 ?_
        refine lv_iload_n G.1 G.2.1 dX1_between_59 rfl (lv_at hl 1 rfl) ?_
        refine lv_iload_n G.1 G.2.1 dX1_between_60 rfl (lv_at hl 2 rfl) ?_
        refine gc_s (As := [.int (nI x1)]) (rest := [.int (nI v), .int ((nI (fv (x1 + 1)) - nI (fv x1))), .int (nI (fv x1))]) G.fix (mX1_placeAt l x1 (by first | omega | assumption)) (va_cwS 1 G.2.2.2.2.2.1 gX1_between_X1_placeAt rfl rfl rfl (by decide +kernel) ⟨Nat.le_of_ble_eq_true rfl, Nat.le_of_ble_eq_true rfl⟩) gc_blindT (fun _ _ _ => trivial) rfl hl.1 rfl (Nat.le_of_ble_eq_true rfl) dX1_between_61 (Nat.zero_le _) (Nat.zero_le _) (fun r hr => ?_)
        subst hr
        refine gn_isub G dX1_between_64 (by first | omega | assumption) ?_
        refine lv_imul G.1 G.2.1 dX1_between_65 ?_
        refine lv_topi (fun z ez => ?_)
        have hzt : z.toInt = ((fv (x1 + 1) : Int) - fv x1) * ((v - sp_vop x1 : Nat) : Int) ∧ -16320 ≤ z.toInt ∧ z.toInt ≤ 16320 := by rw [ez]; exact gp_prod hC hD9 (by omega)
        refine lv_iload_n G.1 G.2.1 dX1_between_66 rfl (lv_at hl 2 rfl) ?_
        refine lv_iconst (v := nI 1) G.1 G.2.1 dX1_between_67 (by decide) ?_
        refine gn_iadd G dX1_between_68 ?_
        refine gc_s (As := [.int (nI (x1 + 1))]) (rest := [.int z, .int (nI (fv x1))]) G.fix (mX1_placeAt l (x1 + 1) (by first | omega | assumption)) (va_cwS 1 G.2.2.2.2.2.1 gX1_between_X1_placeAt rfl rfl rfl (by decide +kernel) ⟨Nat.le_of_ble_eq_true rfl, Nat.le_of_ble_eq_true rfl⟩) gc_blindT (fun _ _ _ => trivial) rfl hl.1 rfl (Nat.le_of_ble_eq_true rfl) dX1_between_69 (Nat.zero_le _) (Nat.zero_le _) (fun r hr => ?_)
        subst hr
        refine lv_iload_n G.1 G.2.1 dX1_between_72 rfl (lv_at hl 2 rfl) ?_
        refine gc_s (As := [.int (nI x1)]) (rest := [.int (nI (sp_vop (x1 + 1))), .int z, .int (nI (fv x1))]) G.fix (mX1_placeAt l x1 (by first | omega | assumption)) (va_cwS 1 G.2.2.2.2.2.1 gX1_between_X1_placeAt rfl rfl rfl (by decide +kernel) ⟨Nat.le_of_ble_eq_true rfl, Nat.le_of_ble_eq_true rfl⟩) gc_blindT (fun _ _ _ => trivial) rfl hl.1 rfl (Nat.le_of_ble_eq_true rfl) dX1_between_73 (Nat.zero_le _) (Nat.zero_le _) (fun r hr => ?_)
        subst hr
        refine gn_isub G dX1_between_76 (by first | omega | assumption) ?_
        refine gc_s (As := [.int z, .int (nI ((sp_vop (x1 + 1)) - (sp_vop x1)))]) (rest := [.int (nI (fv x1))]) G.fix (mX1_quotient l z (nI ((sp_vop (x1 + 1)) - (sp_vop x1))) (by omega) (by rw [nI_toInt (by omega)]; omega)) (va_cwS 2 G.2.2.2.2.2.1 gX1_between_X1_quotient rfl rfl rfl (by decide +kernel) ⟨Nat.le_of_ble_eq_true rfl, Nat.le_of_ble_eq_true rfl⟩) gc_blindT (fun _ _ _ => trivial) rfl hl.1 rfl (Nat.le_of_ble_eq_true rfl) dX1_between_77 (Nat.zero_le _) (Nat.zero_le _) (fun r hr => ?_)
        refine lv_iadd G.1 G.2.1 dX1_between_80 ?_
        exact W.iret G.1 G.2.1 G.2.2.1 (fun t ht hW => ⟨_, rfl, gp_btwR (w := (sp_vop (x1 + 1)) - (sp_vop x1)) (sp_btw_in hk4 hlo hh2) rfl hr hzt.1 (by omega) (by omega) (by omega) hC hD9, ht⟩) (fun q h => nomatch h) dX1_between_81 G.2.2.2.2.2.2
      · refine lv_aload_n G.1 G.2.1 dX1_between_31 rfl (lv_at hl 0 rfl) ?_
        refine gm_get G hX (by decide +kernel) 14 (by decide) (by decide +kernel) rfl rfl rfl dX1_between_32 ?_
        refine lv_iload_n G.1 G.2.1 dX1_between_35 rfl (lv_at hl 2 rfl) ?_
        refine gm_ald (k := 14) (kp := 13) (len := 5) (F := fv) G hX rfl (by first | omega | assumption) (by decide) dX1_between_36 ?_
        exact W.iret G.1 G.2.1 G.2.2.1 (fun t ht hW => ⟨_, rfl, by show nI _ = nI _; rw [sp_btw_pl (by omega) h_28], ht⟩) (fun q h => nomatch h) dX1_between_37 G.2.2.2.2.2.2
    | succ d1 ih1 =>
      intro x1 hd1 hv1 ls hl
      refine lv_iload_n G.1 G.2.1 dX1_between_2 rfl (lv_at hl 2 rfl) ?_
      refine lv_iconst (v := nI 4) G.1 G.2.1 dX1_between_3 (by decide) ?_
      refine gn_ge G (by first | omega | assumption) (by first | omega | assumption) (tgt := 23) dX1_between_4 (by decide) (fun h_4 => absurd h_4 (by omega)) (fun h_4 => ?_)
      refine lv_iload_n G.1 G.2.1 dX1_between_7 rfl (lv_at hl 2 rfl) ?_
      refine lv_iconst (v := nI 1) G.1 G.2.1 dX1_between_8 (by decide) ?_
      refine gn_iadd G dX1_between_9 ?_
      refine gc_s (As := [.int (nI (x1 + 1))]) (rest := []) G.fix (mX1_placeAt l (x1 + 1) (by first | omega | assumption)) (va_cwS 1 G.2.2.2.2.2.1 gX1_between_X1_placeAt rfl rfl rfl (by decide +kernel) ⟨Nat.le_of_ble_eq_true rfl, Nat.le_of_ble_eq_true rfl⟩) gc_blindT (fun _ _ _ => trivial) rfl hl.1 rfl (Nat.le_of_ble_eq_true rfl) dX1_between_10 (Nat.zero_le _) (Nat.zero_le _) (fun r hr => ?_)
      subst hr
      refine lv_iload_n G.1 G.2.1 dX1_between_13 rfl (lv_at hl 1 rfl) ?_
      refine gn_gt G (by first | omega | exact Nat.lt_of_le_of_lt sp_vop_le (by decide)) (by first | omega | exact Nat.lt_of_le_of_lt sp_vop_le (by decide)) (tgt := 23) dX1_between_14 (by decide) (fun h_14 => ?_) (fun h_14 => ?_)
      · have hlo : sp_vop x1 ≤ v := by rcases hv1 with h | h; (rw [h]; exact Nat.zero_le _); exact h
        have hhi : x1 = 4 ∨ v < sp_vop (x1 + 1) := by first | exact Or.inl (by omega) | exact Or.inr h_14
        refine lv_iload_n G.1 G.2.1 dX1_between_23 rfl (lv_at hl 2 rfl) ?_
        refine gc_s (As := [.int (nI x1)]) (rest := []) G.fix (mX1_placeAt l x1 (by first | omega | assumption)) (va_cwS 1 G.2.2.2.2.2.1 gX1_between_X1_placeAt rfl rfl rfl (by decide +kernel) ⟨Nat.le_of_ble_eq_true rfl, Nat.le_of_ble_eq_true rfl⟩) gc_blindT (fun _ _ _ => trivial) rfl hl.1 rfl (Nat.le_of_ble_eq_true rfl) dX1_between_24 (Nat.zero_le _) (Nat.zero_le _) (fun r hr => ?_)
        subst hr
        refine lv_iload_n G.1 G.2.1 dX1_between_27 rfl (lv_at hl 1 rfl) ?_
        refine gn_ne G (by first | omega | exact Nat.lt_of_le_of_lt sp_vop_le (by decide)) (by first | omega | exact Nat.lt_of_le_of_lt sp_vop_le (by decide)) (tgt := 38) dX1_between_28 (by decide) (fun h_28 => ?_) (fun h_28 => ?_)
        · have hk4 : x1 < 4 := by
            rcases (by omega : x1 < 4 ∨ x1 = 4) with h | h
            · exact h
            · exact absurd (by rw [h] at hlo ⊢; have : sp_vop 4 = 255 := rfl; omega) h_28
          have hh2 : v < sp_vop (x1 + 1) := by rcases hhi with h | h; (exact absurd h (by omega)); exact h
          have hw9 := sp_vop_w hk4
          have hwp := sp_w_pos x1
          have hwl := sp_w_le x1
          have hC := hF x1 (by omega)
          have hD9 := hF (x1 + 1) (by omega)
          refine lv_aload_n G.1 G.2.1 dX1_between_38 rfl (lv_at hl 0 rfl) ?_
          refine gm_get G hX (by decide +kernel) 14 (by decide) (by decide +kernel) rfl rfl rfl dX1_between_39 ?_
          refine lv_iload_n G.1 G.2.1 dX1_between_42 rfl (lv_at hl 2 rfl) ?_
          refine gm_ald (k := 14) (kp := 13) (len := 5) (F := fv) G hX rfl (by first | omega | assumption) (by decide) dX1_between_43 ?_
          refine lv_aload_n G.1 G.2.1 dX1_between_44 rfl (lv_at hl 0 rfl) ?_
          refine gm_get G hX (by decide +kernel) 14 (by decide) (by decide +kernel) rfl rfl rfl dX1_between_45 ?_
          refine lv_iload_n G.1 G.2.1 dX1_between_48 rfl (lv_at hl 2 rfl) ?_
          refine lv_iconst (v := nI 1) G.1 G.2.1 dX1_between_49 (by decide) ?_
          refine gn_iadd G dX1_between_50 ?_
          refine gm_ald (k := 14) (kp := 13) (len := 5) (F := fv) G hX rfl (by first | omega | assumption) (by decide) dX1_between_51 ?_
          refine lv_aload_n G.1 G.2.1 dX1_between_52 rfl (lv_at hl 0 rfl) ?_
          refine gm_get G hX (by decide +kernel) 14 (by decide) (by decide +kernel) rfl rfl rfl dX1_between_53 ?_
          refine lv_iload_n G.1 G.2.1 dX1_between_56 rfl (lv_at hl 2 rfl) ?_
          refine gm_ald (k := 14) (kp := 13) (len := 5) (F := fv) G hX rfl (by first | omega | assumption) (by decide) dX1_between_57 ?_
          refine lv_isub G.1 G.2.1 dX1_between_58 ?_
          refine lv_iload_n G.1 G.2.1 dX1_between_59 rfl (lv_at hl 1 rfl) ?_
          refine lv_iload_n G.1 G.2.1 dX1_between_60 rfl (lv_at hl 2 rfl) ?_
          refine gc_s (As := [.int (nI x1)]) (rest := [.int (nI v), .int ((nI (fv (x1 + 1)) - nI (fv x1))), .int (nI (fv x1))]) G.fix (mX1_placeAt l x1 (by first | omega | assumption)) (va_cwS 1 G.2.2.2.2.2.1 gX1_between_X1_placeAt rfl rfl rfl (by decide +kernel) ⟨Nat.le_of_ble_eq_true rfl, Nat.le_of_ble_eq_true rfl⟩) gc_blindT (fun _ _ _ => trivial) rfl hl.1 rfl (Nat.le_of_ble_eq_true rfl) dX1_between_61 (Nat.zero_le _) (Nat.zero_le _) (fun r hr => ?_)
          subst hr
          refine gn_isub G dX1_between_64 (by first | omega | assumption) ?_
          refine lv_imul G.1 G.2.1 dX1_between_65 ?_
          refine lv_topi (fun z ez => ?_)
          have hzt : z.toInt = ((fv (x1 + 1) : Int) - fv x1) * ((v - sp_vop x1 : Nat) : Int) ∧ -16320 ≤ z.toInt ∧ z.toInt ≤ 16320 := by rw [ez]; exact gp_prod hC hD9 (by omega)
          refine lv_iload_n G.1 G.2.1 dX1_between_66 rfl (lv_at hl 2 rfl) ?_
          refine lv_iconst (v := nI 1) G.1 G.2.1 dX1_between_67 (by decide) ?_
          refine gn_iadd G dX1_between_68 ?_
          refine gc_s (As := [.int (nI (x1 + 1))]) (rest := [.int z, .int (nI (fv x1))]) G.fix (mX1_placeAt l (x1 + 1) (by first | omega | assumption)) (va_cwS 1 G.2.2.2.2.2.1 gX1_between_X1_placeAt rfl rfl rfl (by decide +kernel) ⟨Nat.le_of_ble_eq_true rfl, Nat.le_of_ble_eq_true rfl⟩) gc_blindT (fun _ _ _ => trivial) rfl hl.1 rfl (Nat.le_of_ble_eq_true rfl) dX1_between_69 (Nat.zero_le _) (Nat.zero_le _) (fun r hr => ?_)
          subst hr
          refine lv_iload_n G.1 G.2.1 dX1_between_72 rfl (lv_at hl 2 rfl) ?_
          refine gc_s (As := [.int (nI x1)]) (rest := [.int (nI (sp_vop (x1 + 1))), .int z, .int (nI (fv x1))]) G.fix (mX1_placeAt l x1 (by first | omega | assumption)) (va_cwS 1 G.2.2.2.2.2.1 gX1_between_X1_placeAt rfl rfl rfl (by decide +kernel) ⟨Nat.le_of_ble_eq_true rfl, Nat.le_of_ble_eq_true rfl⟩) gc_blindT (fun _ _ _ => trivial) rfl hl.1 rfl (Nat.le_of_ble_eq_true rfl) dX1_between_73 (Nat.zero_le _) (Nat.zero_le _) (fun r hr => ?_)
          subst hr
          refine gn_isub G dX1_between_76 (by first | omega | assumption) ?_
          refine gc_s (As := [.int z, .int (nI ((sp_vop (x1 + 1)) - (sp_vop x1)))]) (rest := [.int (nI (fv x1))]) G.fix (mX1_quotient l z (nI ((sp_vop (x1 + 1)) - (sp_vop x1))) (by omega) (by rw [nI_toInt (by omega)]; omega)) (va_cwS 2 G.2.2.2.2.2.1 gX1_between_X1_quotient rfl rfl rfl (by decide +kernel) ⟨Nat.le_of_ble_eq_true rfl, Nat.le_of_ble_eq_true rfl⟩) gc_blindT (fun _ _ _ => trivial) rfl hl.1 rfl (Nat.le_of_ble_eq_true rfl) dX1_between_77 (Nat.zero_le _) (Nat.zero_le _) (fun r hr => ?_)
          refine lv_iadd G.1 G.2.1 dX1_between_80 ?_
          exact W.iret G.1 G.2.1 G.2.2.1 (fun t ht hW => ⟨_, rfl, gp_btwR (w := (sp_vop (x1 + 1)) - (sp_vop x1)) (sp_btw_in hk4 hlo hh2) rfl hr hzt.1 (by omega) (by omega) (by omega) hC hD9, ht⟩) (fun q h => nomatch h) dX1_between_81 G.2.2.2.2.2.2
        · refine lv_aload_n G.1 G.2.1 dX1_between_31 rfl (lv_at hl 0 rfl) ?_
          refine gm_get G hX (by decide +kernel) 14 (by decide) (by decide +kernel) rfl rfl rfl dX1_between_32 ?_
          refine lv_iload_n G.1 G.2.1 dX1_between_35 rfl (lv_at hl 2 rfl) ?_
          refine gm_ald (k := 14) (kp := 13) (len := 5) (F := fv) G hX rfl (by first | omega | assumption) (by decide) dX1_between_36 ?_
          exact W.iret G.1 G.2.1 G.2.2.1 (fun t ht hW => ⟨_, rfl, by show nI _ = nI _; rw [sp_btw_pl (by omega) h_28], ht⟩) (fun q h => nomatch h) dX1_between_37 G.2.2.2.2.2.2
      · refine gn_iinc (lv' := [(2, .int (nI (x1 + 1))), (0, .ref (q 0)), (1, .int (nI v))]) (n := 1) G dX1_between_17 hl (k := 2) rfl (by decide) rfl (fun ls hl => ?_)
        refine lv_goto (tgt := 2) G.1 G.2.1 dX1_between_20 (by decide) ?_
        exact ih1 (x1 + 1) (by omega) (Or.inr h_14) _ (lv_sub hl [1, 2, 0] rfl)
  exact loop1 4 0 (by omega) (Or.inl rfl) _ (lv_sub hl [1, 2, 0] rfl)
set_option maxRecDepth 100000 in
set_option maxHeartbeats 4000000 in
/-- the value of a curve -/
theorem mX1_curveOf (l : Launch) (D : va_G) (q : Nat → Nat) (cI cZ : ClassId) (N : Nat → Nat) (S : Nat → Nat → Nat) (fv : Nat → Nat) (th : Nat) (A : Nat → Prop) (hok : sp_ok N S) (pf bd vl : Nat) (hpf : pf < 8) (hbd : bd < 3) (hvl : vl ≤ 255) : Met l yX1_curveOf wsX1_curveOf { frames := 2, cells := 0, slots := 0, locals := 44 } (va_Pc [.ref (q 0), .int (nI pf), .int (nI bd), .int (nI vl)] (fun U => mAt D q cI cZ N S fv th A U U.heap)) (gQd D q cI cZ N S th (nI (sp_curve S pf bd vl)) A) 0 0 A := by
  refine gc_met [.ref (q 0), .int (nI pf), .int (nI bd), .int (nI vl)] (by decide) rfl (Nat.le_of_ble_eq_true rfl) rfl ?_
  intro p e s m below meth c ls G hl hX
  have hS : va_S A s.heap s.heap [] := va_S.rf
  have hok9 := hok
  obtain ⟨⟨ok0, ok5⟩, ok1, ok2, ok3, ok4, ok6, ok7, ok8, ok12, ok13, ok14⟩ := hok9
  refine lv_iconst (v := nI 0) G.1 G.2.1 dX1_curveOf_0 (by decide) ?_
  refine lv_istore (lv' := [(4, .int (nI 0)), (0, .ref (q 0)), (1, .int (nI pf)), (2, .int (nI bd)), (3, .int (nI vl))]) G.1 G.2.1 dX1_curveOf_1 hl (by decide) rfl (fun ls hl => ?_)
  have loop1 : ∀ (d1 x1 : Nat), x1 + d1 = 5 → ∀ (H9 : Heap) (locs9 : List Loc), mAt D q cI cZ N S ((sp_rowTo (S 1) ((pf * 3 + bd) * 5) fv x1)) th A s H9 → va_S A s.heap H9 locs9 → ∀ ls : Array Slot, lv_has ls 5 [(0, .ref (q 0)), (1, .int (nI pf)), (2, .int (nI bd)), (3, .int (nI vl)), (4, .int (nI x1))] → W p l e { frames := 2, cells := 0, slots := 0, locals := 44 } s m ([.ref (q 0), .int (nI pf), .int (nI bd), .int (nI vl)] : List Value).toArray below meth c H9 locs9 0 0 (MQ below (gQd D q cI cZ N S th (nI (sp_curve S pf bd vl)) A) ([.ref (q 0), .int (nI pf), .int (nI bd), .int (nI vl)] : List Value).toArray s 0 0 A) (F0 m 3 ls []) := by
    intro d1
    induction d1 with
    | zero =>
      intro x1 hd1 H9 locs9 hX hS ls hl
      refine lv_iload G.1 G.2.1 dX1_curveOf_3 (lv_at hl 4 rfl) ?_
      refine lv_iconst (v := nI 5) G.1 G.2.1 dX1_curveOf_5 (by decide) ?_
      refine gn_ge G (by first | omega | assumption) (by first | omega | assumption) (tgt := 38) dX1_curveOf_6 (by decide) (fun h_6 => ?_) (fun h_6 => absurd h_6 (by omega))
      refine lv_aload_n G.1 G.2.1 dX1_curveOf_38 rfl (lv_at hl 0 rfl) ?_
      refine lv_iload_n G.1 G.2.1 dX1_curveOf_39 rfl (lv_at hl 3 rfl) ?_
      obtain rfl : x1 = 5 := by omega
      refine gc_v (As := [.int (nI vl)]) (rest := []) G.fix (mX1_between l D q cI cZ N S ((sp_rowTo (S 1) ((pf * 3 + bd) * 5) fv 5)) th A vl (by omega) (sp_rowTo_le ok1)) (cwV 1 G.2.2.2.2.2.1 gX1_curveOf_X1_between rfl rfl rfl (by decide +kernel) ⟨Nat.le_of_ble_eq_true rfl, Nat.le_of_ble_eq_true rfl⟩) mAt_blind (va_recv hX.2.1 hX.1 (ci := 1) (q0 := 0) rfl rfl) (fun U hU hW => by rw [hU]; exact hX.moved hW) rfl hl.1 rfl (Nat.le_of_ble_eq_true rfl) dX1_curveOf_40 (Nat.zero_le _) (Nat.zero_le _) (fun r hr => ?_)
      subst hr
      rw [sp_btw_row (by omega)]
      exact W.iret G.1 G.2.1 G.2.2.1 (fun t ht hW => gQd_of hX hS ht) hS.2.2 dX1_curveOf_43 G.2.2.2.2.2.2
    | succ d1 ih1 =>
      intro x1 hd1 H9 locs9 hX hS ls hl
      refine lv_iload G.1 G.2.1 dX1_curveOf_3 (lv_at hl 4 rfl) ?_
      refine lv_iconst (v := nI 5) G.1 G.2.1 dX1_curveOf_5 (by decide) ?_
      refine gn_ge G (by first | omega | assumption) (by first | omega | assumption) (tgt := 38) dX1_curveOf_6 (by decide) (fun h_6 => absurd h_6 (by omega)) (fun h_6 => ?_)
      refine lv_aload_n G.1 G.2.1 dX1_curveOf_9 rfl (lv_at hl 0 rfl) ?_
      refine gm_get G hX (by decide +kernel) 14 (by decide) (by decide +kernel) rfl rfl rfl dX1_curveOf_10 ?_
      refine lv_iload G.1 G.2.1 dX1_curveOf_13 (lv_at hl 4 rfl) ?_
      refine lv_aload_n G.1 G.2.1 dX1_curveOf_15 rfl (lv_at hl 0 rfl) ?_
      refine gm_get G hX (by decide +kernel) 1 (by decide) (by decide +kernel) rfl rfl rfl dX1_curveOf_16 ?_
      refine lv_bipush (v := nI 15) G.1 G.2.1 dX1_curveOf_19 (by decide) ?_
      refine lv_iload_n G.1 G.2.1 dX1_curveOf_21 rfl (lv_at hl 1 rfl) ?_
      refine gn_imul G dX1_curveOf_22 ?_
      refine lv_iconst (v := nI 5) G.1 G.2.1 dX1_curveOf_23 (by decide) ?_
      refine lv_iload_n G.1 G.2.1 dX1_curveOf_24 rfl (lv_at hl 2 rfl) ?_
      refine gn_imul G dX1_curveOf_25 ?_
      refine gn_iadd G dX1_curveOf_26 ?_
      refine lv_iload G.1 G.2.1 dX1_curveOf_27 (lv_at hl 4 rfl) ?_
      refine gn_iadd G dX1_curveOf_29 ?_
      refine gm_ald (k := 1) (kp := 1) (len := 120) (F := S 1) G hX rfl (by first | omega | assumption) (by decide) dX1_curveOf_30 ?_
      rw [show ((15 * pf) + (5 * bd)) + x1 = ((pf * 3) + bd) * 5 + x1 from by omega]
      refine gm_ast (k := 14) (kp := 13) (len := 5) (F := (sp_rowTo (S 1) ((pf * 3 + bd) * 5) fv x1)) (i := x1) (v := S 1 (((pf * 3) + bd) * 5 + x1)) (S' := S) (fv' := (sp_rowTo (S 1) ((pf * 3 + bd) * 5) fv (x1 + 1))) G hX hS rfl (rfl) (by first | omega | assumption) (by decide) dX1_curveOf_31 (fun H1 locs1 hX hS => ?_)
      refine gn_iinc (lv' := [(4, .int (nI (x1 + 1))), (0, .ref (q 0)), (1, .int (nI pf)), (2, .int (nI bd)), (3, .int (nI vl))]) (n := 1) G dX1_curveOf_32 hl (k := 4) rfl (by decide) rfl (fun ls hl => ?_)
      refine lv_goto (tgt := 3) G.1 G.2.1 dX1_curveOf_35 (by decide) ?_
      exact ih1 (x1 + 1) (by omega) _ _ (mAt_cast (rfl) hX) hS _ (lv_sub hl [1, 2, 3, 4, 0] rfl)
  exact loop1 5 0 (by omega) _ _ (mAt_cast (rfl) hX) hS _ (lv_sub hl [1, 2, 3, 4, 0] rfl)
set_option maxRecDepth 100000 in
set_option maxHeartbeats 4000000 in
/-- what a profile makes of a value -/
theorem mX1_takenBy (l : Launch) (D : va_G) (q : Nat → Nat) (cI cZ : ClassId) (N : Nat → Nat) (S : Nat → Nat → Nat) (fv : Nat → Nat) (th : Nat) (A : Nat → Prop) (hok : sp_ok N S) (pf bd vl : Nat) (hpf : pf < 8) (hbd : bd < 3) (hvl : vl ≤ 255) : Met l yX1_takenBy wsX1_takenBy { frames := 3, cells := 0, slots := 0, locals := 68 } (va_Pc [.ref (q 0), .int (nI pf), .int (nI bd), .int (nI vl)] (fun U => mAt D q cI cZ N S fv th A U U.heap)) (gQd D q cI cZ N S th (nI (sp_tk S pf bd vl)) A) 0 0 A := by
  refine gc_met [.ref (q 0), .int (nI pf), .int (nI bd), .int (nI vl)] (by decide) rfl (Nat.le_of_ble_eq_true rfl) rfl ?_
  intro p e s m below meth c ls G hl hX
  have hS : va_S A s.heap s.heap [] := va_S.rf
  have hok9 := hok
  obtain ⟨⟨ok0, ok5⟩, ok1, ok2, ok3, ok4, ok6, ok7, ok8, ok12, ok13, ok14⟩ := hok9
  have h2 := ok2 (pf * 3 + bd)
  have h3 := ok3 (pf * 3 + bd)
  have h4 := ok4 pf
  have hc := sp_curve_le (p := pf) (b := bd) hok hvl
  have hmul : sp_curve S pf bd vl * (S 3 (pf * 3 + bd) - S 2 (pf * 3 + bd)) ≤ 255 * 255 := Nat.mul_le_mul hc (by omega)
  refine lv_aload_n G.1 G.2.1 dX1_takenBy_0 rfl (lv_at hl 0 rfl) ?_
  refine gm_get G hX (by decide +kernel) 2 (by decide) (by decide +kernel) rfl rfl rfl dX1_takenBy_1 ?_
  refine lv_iconst (v := nI 3) G.1 G.2.1 dX1_takenBy_4 (by decide) ?_
  refine lv_iload_n G.1 G.2.1 dX1_takenBy_5 rfl (lv_at hl 1 rfl) ?_
  refine gn_imul G dX1_takenBy_6 ?_
  refine lv_iload_n G.1 G.2.1 dX1_takenBy_7 rfl (lv_at hl 2 rfl) ?_
  refine gn_iadd G dX1_takenBy_8 ?_
  refine gm_ald (k := 2) (kp := 2) (len := 24) (F := S 2) G hX rfl (by first | omega | assumption) (by decide) dX1_takenBy_9 ?_
  rw [show (3 * pf) + bd = (pf * 3) + bd from by omega]
  refine lv_istore (lv' := [(4, .int (nI (S 2 ((pf * 3) + bd)))), (0, .ref (q 0)), (1, .int (nI pf)), (2, .int (nI bd)), (3, .int (nI vl))]) G.1 G.2.1 dX1_takenBy_10 hl (by decide) rfl (fun ls hl => ?_)
  refine lv_aload_n G.1 G.2.1 dX1_takenBy_12 rfl (lv_at hl 1 rfl) ?_
  refine gm_get G hX (by decide +kernel) 3 (by decide) (by decide +kernel) rfl rfl rfl dX1_takenBy_13 ?_
  refine lv_iconst (v := nI 3) G.1 G.2.1 dX1_takenBy_16 (by decide) ?_
  refine lv_iload_n G.1 G.2.1 dX1_takenBy_17 rfl (lv_at hl 2 rfl) ?_
  refine gn_imul G dX1_takenBy_18 ?_
  refine lv_iload_n G.1 G.2.1 dX1_takenBy_19 rfl (lv_at hl 3 rfl) ?_
  refine gn_iadd G dX1_takenBy_20 ?_
  refine gm_ald (k := 3) (kp := 3) (len := 24) (F := S 3) G hX rfl (by first | omega | assumption) (by decide) dX1_takenBy_21 ?_
  rw [show (3 * pf) + bd = (pf * 3) + bd from by omega]
  refine lv_istore (lv' := [(5, .int (nI (S 3 ((pf * 3) + bd)))), (4, .int (nI (S 2 ((pf * 3) + bd)))), (0, .ref (q 0)), (1, .int (nI pf)), (2, .int (nI bd)), (3, .int (nI vl))]) G.1 G.2.1 dX1_takenBy_22 hl (by decide) rfl (fun ls hl => ?_)
  refine lv_aload_n G.1 G.2.1 dX1_takenBy_24 rfl (lv_at hl 2 rfl) ?_
  refine lv_iload_n G.1 G.2.1 dX1_takenBy_25 rfl (lv_at hl 3 rfl) ?_
  refine lv_iload_n G.1 G.2.1 dX1_takenBy_26 rfl (lv_at hl 4 rfl) ?_
  refine lv_iload_n G.1 G.2.1 dX1_takenBy_27 rfl (lv_at hl 5 rfl) ?_
  refine gm_mut (N' := N) (S' := S) (th' := th) (r := (nI (sp_curve S pf bd vl))) (As := [.int (nI pf), .int (nI bd), .int (nI vl)]) (rest := []) G.fix (mX1_curveOf l D q cI cZ N S fv th A hok pf bd vl (by first | omega | assumption | exact ok6 _ | apply hq) (by first | omega | assumption | exact ok6 _ | apply hq) (by first | omega | assumption | exact ok6 _ | apply hq)) (cwV 3 G.2.2.2.2.2.1 gX1_takenBy_X1_curveOf rfl rfl rfl (by decide +kernel) ⟨Nat.le_of_ble_eq_true rfl, Nat.le_of_ble_eq_true rfl⟩) hX hS rfl hl.1 rfl (Nat.le_of_ble_eq_true rfl) dX1_takenBy_28 (Nat.zero_le _) (Nat.zero_le _) (fun fv H1 locs1 hX hS => ?_)
  refine lv_istore (lv' := [(6, .int (nI (sp_curve S pf bd vl))), (5, .int (nI (S 3 ((pf * 3) + bd)))), (4, .int (nI (S 2 ((pf * 3) + bd)))), (0, .ref (q 0)), (1, .int (nI pf)), (2, .int (nI bd)), (3, .int (nI vl))]) G.1 G.2.1 dX1_takenBy_31 hl (by decide) rfl (fun ls hl => ?_)
  refine lv_aload_n G.1 G.2.1 dX1_takenBy_33 rfl (lv_at hl 3 rfl) ?_
  refine gm_get G hX (by decide +kernel) 4 (by decide) (by decide +kernel) rfl rfl rfl dX1_takenBy_34 ?_
  refine lv_iload_n G.1 G.2.1 dX1_takenBy_37 rfl (lv_at hl 4 rfl) ?_
  refine gm_ald (k := 4) (kp := 4) (len := 8) (F := S 4) G hX rfl (by first | omega | assumption) (by decide) dX1_takenBy_38 ?_
  refine lv_iconst (v := nI 1) G.1 G.2.1 dX1_takenBy_39 (by decide) ?_
  refine gn_ne G (by first | omega | assumption) (by first | omega | assumption) (tgt := 59) dX1_takenBy_40 (by decide) (fun h_40 => ?_) (fun h_40 => ?_)
  · refine lv_aload_n G.1 G.2.1 dX1_takenBy_59 rfl (lv_at hl 3 rfl) ?_
    refine gm_get G hX (by decide +kernel) 4 (by decide) (by decide +kernel) rfl rfl rfl dX1_takenBy_60 ?_
    refine lv_iload_n G.1 G.2.1 dX1_takenBy_63 rfl (lv_at hl 4 rfl) ?_
    refine gm_ald (k := 4) (kp := 4) (len := 8) (F := S 4) G hX rfl (by first | omega | assumption) (by decide) dX1_takenBy_64 ?_
    refine lv_iconst (v := nI 2) G.1 G.2.1 dX1_takenBy_65 (by decide) ?_
    refine gn_ne G (by first | omega | assumption) (by first | omega | assumption) (tgt := 107) dX1_takenBy_66 (by decide) (fun h_66 => ?_) (fun h_66 => ?_)
    · refine lv_iload G.1 G.2.1 dX1_takenBy_107 (lv_at hl 0 rfl) ?_
      refine lv_iload G.1 G.2.1 dX1_takenBy_109 (lv_at hl 2 rfl) ?_
      refine gn_ge G (by omega) (by omega) (tgt := 119) dX1_takenBy_111 (by decide) (fun h_111 => ?_) (fun h_111 => ?_)
      · refine lv_iload G.1 G.2.1 dX1_takenBy_119 (lv_at hl 0 rfl) ?_
        refine lv_iload G.1 G.2.1 dX1_takenBy_121 (lv_at hl 1 rfl) ?_
        refine gn_le G (by omega) (by omega) (tgt := 131) dX1_takenBy_123 (by decide) (fun h_123 => ?_) (fun h_123 => ?_)
        · refine lv_iload G.1 G.2.1 dX1_takenBy_131 (lv_at hl 0 rfl) ?_
          rw [show sp_curve S pf bd vl = sp_tk S pf bd vl from by unfold sp_tk sp_take; rw [if_neg h_40]; (repeat' split) <;> omega]
          exact W.iret G.1 G.2.1 G.2.2.1 (fun t ht hW => gQd_of hX hS ht) hS.2.2 dX1_takenBy_133 G.2.2.2.2.2.2
        · refine lv_iload G.1 G.2.1 dX1_takenBy_126 (lv_at hl 1 rfl) ?_
          refine lv_goto (tgt := 133) G.1 G.2.1 dX1_takenBy_128 (by decide) ?_
          rw [show S 3 ((pf * 3) + bd) = sp_tk S pf bd vl from by unfold sp_tk sp_take; rw [if_neg h_40]; (repeat' split) <;> omega]
          exact W.iret G.1 G.2.1 G.2.2.1 (fun t ht hW => gQd_of hX hS ht) hS.2.2 dX1_takenBy_133 G.2.2.2.2.2.2
      · refine lv_iload G.1 G.2.1 dX1_takenBy_114 (lv_at hl 2 rfl) ?_
        refine lv_goto (tgt := 133) G.1 G.2.1 dX1_takenBy_116 (by decide) ?_
        rw [show S 2 ((pf * 3) + bd) = sp_tk S pf bd vl from by unfold sp_tk sp_take; rw [if_neg h_40]; (repeat' split) <;> omega]
        exact W.iret G.1 G.2.1 G.2.2.1 (fun t ht hW => gQd_of hX hS ht) hS.2.2 dX1_takenBy_133 G.2.2.2.2.2.2
    · refine lv_iload G.1 G.2.1 dX1_takenBy_69 (lv_at hl 0 rfl) ?_
      refine lv_iload G.1 G.2.1 dX1_takenBy_71 (lv_at hl 1 rfl) ?_
      refine gn_le G (by first | omega | assumption) (by first | omega | assumption) (tgt := 86) dX1_takenBy_73 (by decide) (fun h_73 => ?_) (fun h_73 => ?_)
      · refine lv_iload G.1 G.2.1 dX1_takenBy_86 (lv_at hl 0 rfl) ?_
        refine lv_iload G.1 G.2.1 dX1_takenBy_88 (lv_at hl 2 rfl) ?_
        refine gn_ge G (by first | omega | assumption) (by first | omega | assumption) (tgt := 103) dX1_takenBy_90 (by decide) (fun h_90 => ?_) (fun h_90 => ?_)
        · refine lv_iload G.1 G.2.1 dX1_takenBy_103 (lv_at hl 0 rfl) ?_
          refine lv_istore (lv' := [(6, .int (nI (sp_curve S pf bd vl))), (5, .int (nI (S 3 ((pf * 3) + bd)))), (4, .int (nI (S 2 ((pf * 3) + bd)))), (0, .ref (q 0)), (1, .int (nI pf)), (2, .int (nI bd)), (3, .int (nI vl))]) G.1 G.2.1 dX1_takenBy_105 hl (by decide) rfl (fun ls hl => ?_)
          refine lv_iload G.1 G.2.1 dX1_takenBy_107 (lv_at hl 0 rfl) ?_
          refine lv_iload G.1 G.2.1 dX1_takenBy_109 (lv_at hl 2 rfl) ?_
          refine gn_ge G (by omega) (by omega) (tgt := 119) dX1_takenBy_111 (by decide) (fun h_111 => ?_) (fun h_111 => ?_)
          · refine lv_iload G.1 G.2.1 dX1_takenBy_119 (lv_at hl 0 rfl) ?_
            refine lv_iload G.1 G.2.1 dX1_takenBy_121 (lv_at hl 1 rfl) ?_
            refine gn_le G (by omega) (by omega) (tgt := 131) dX1_takenBy_123 (by decide) (fun h_123 => ?_) (fun h_123 => ?_)
            · refine lv_iload G.1 G.2.1 dX1_takenBy_131 (lv_at hl 0 rfl) ?_
              rw [show sp_curve S pf bd vl = sp_tk S pf bd vl from by unfold sp_tk sp_take; rw [if_neg h_40]; (repeat' split) <;> omega]
              exact W.iret G.1 G.2.1 G.2.2.1 (fun t ht hW => gQd_of hX hS ht) hS.2.2 dX1_takenBy_133 G.2.2.2.2.2.2
            · refine lv_iload G.1 G.2.1 dX1_takenBy_126 (lv_at hl 1 rfl) ?_
              refine lv_goto (tgt := 133) G.1 G.2.1 dX1_takenBy_128 (by decide) ?_
              rw [show S 3 ((pf * 3) + bd) = sp_tk S pf bd vl from by unfold sp_tk sp_take; rw [if_neg h_40]; (repeat' split) <;> omega]
              exact W.iret G.1 G.2.1 G.2.2.1 (fun t ht hW => gQd_of hX hS ht) hS.2.2 dX1_takenBy_133 G.2.2.2.2.2.2
          · refine lv_iload G.1 G.2.1 dX1_takenBy_114 (lv_at hl 2 rfl) ?_
            refine lv_goto (tgt := 133) G.1 G.2.1 dX1_takenBy_116 (by decide) ?_
            rw [show S 2 ((pf * 3) + bd) = sp_tk S pf bd vl from by unfold sp_tk sp_take; rw [if_neg h_40]; (repeat' split) <;> omega]
            exact W.iret G.1 G.2.1 G.2.2.1 (fun t ht hW => gQd_of hX hS ht) hS.2.2 dX1_takenBy_133 G.2.2.2.2.2.2
        · refine lv_iconst (v := nI 2) G.1 G.2.1 dX1_takenBy_93 (by decide) ?_
          refine lv_iload G.1 G.2.1 dX1_takenBy_94 (lv_at hl 2 rfl) ?_
          refine gn_imul G dX1_takenBy_96 ?_
          refine lv_iload G.1 G.2.1 dX1_takenBy_97 (lv_at hl 0 rfl) ?_
          refine gn_isub G dX1_takenBy_99 (by first | omega | assumption) ?_
          refine lv_goto (tgt := 105) G.1 G.2.1 dX1_takenBy_100 (by decide) ?_
          refine lv_istore (lv' := [(6, .int (nI ((2 * (S 2 ((pf * 3) + bd))) - (sp_curve S pf bd vl)))), (5, .int (nI (S 3 ((pf * 3) + bd)))), (4, .int (nI (S 2 ((pf * 3) + bd)))), (0, .ref (q 0)), (1, .int (nI pf)), (2, .int (nI bd)), (3, .int (nI vl))]) G.1 G.2.1 dX1_takenBy_105 hl (by decide) rfl (fun ls hl => ?_)
          refine lv_iload G.1 G.2.1 dX1_takenBy_107 (lv_at hl 0 rfl) ?_
          refine lv_iload G.1 G.2.1 dX1_takenBy_109 (lv_at hl 2 rfl) ?_
          refine gn_ge G (by omega) (by omega) (tgt := 119) dX1_takenBy_111 (by decide) (fun h_111 => ?_) (fun h_111 => ?_)
          · refine lv_iload G.1 G.2.1 dX1_takenBy_119 (lv_at hl 0 rfl) ?_
            refine lv_iload G.1 G.2.1 dX1_takenBy_121 (lv_at hl 1 rfl) ?_
            refine gn_le G (by omega) (by omega) (tgt := 131) dX1_takenBy_123 (by decide) (fun h_123 => ?_) (fun h_123 => ?_)
            · refine lv_iload G.1 G.2.1 dX1_takenBy_131 (lv_at hl 0 rfl) ?_
              rw [show (2 * (S 2 ((pf * 3) + bd))) - (sp_curve S pf bd vl) = sp_tk S pf bd vl from by unfold sp_tk sp_take; rw [if_neg h_40]; (repeat' split) <;> omega]
              exact W.iret G.1 G.2.1 G.2.2.1 (fun t ht hW => gQd_of hX hS ht) hS.2.2 dX1_takenBy_133 G.2.2.2.2.2.2
            · refine lv_iload G.1 G.2.1 dX1_takenBy_126 (lv_at hl 1 rfl) ?_
              refine lv_goto (tgt := 133) G.1 G.2.1 dX1_takenBy_128 (by decide) ?_
              rw [show S 3 ((pf * 3) + bd) = sp_tk S pf bd vl from by unfold sp_tk sp_take; rw [if_neg h_40]; (repeat' split) <;> omega]
              exact W.iret G.1 G.2.1 G.2.2.1 (fun t ht hW => gQd_of hX hS ht) hS.2.2 dX1_takenBy_133 G.2.2.2.2.2.2
          · refine lv_iload G.1 G.2.1 dX1_takenBy_114 (lv_at hl 2 rfl) ?_
            refine lv_goto (tgt := 133) G.1 G.2.1 dX1_takenBy_116 (by decide) ?_
            rw [show S 2 ((pf * 3) + bd) = sp_tk S pf bd vl from by unfold sp_tk sp_take; rw [if_neg h_40]; (repeat' split) <;> omega]
            exact W.iret G.1 G.2.1 G.2.2.1 (fun t ht hW => gQd_of hX hS ht) hS.2.2 dX1_takenBy_133 G.2.2.2.2.2.2
      · refine lv_iconst (v := nI 2) G.1 G.2.1 dX1_takenBy_76 (by decide) ?_
        refine lv_iload G.1 G.2.1 dX1_takenBy_77 (lv_at hl 1 rfl) ?_
        refine gn_imul G dX1_takenBy_79 ?_
        refine lv_iload G.1 G.2.1 dX1_takenBy_80 (lv_at hl 0 rfl) ?_
        refine lv_isub G.1 G.2.1 dX1_takenBy_82 ?_
        refine lv_topi (fun z ez => ?_)
        have hz : z.toInt = 2 * (S 3 (pf * 3 + bd) : Int) - sp_curve S pf bd vl := by rw [ez, pk_sub_toInt (by omega) (by omega)]; omega
        obtain ⟨f1, f2, f3⟩ := gp_f1 h2 h3 hc h_73 hz
        refine lv_goto (tgt := 105) G.1 G.2.1 dX1_takenBy_83 (by decide) ?_
        refine lv_istore (lv' := [(6, .int z), (5, .int (nI (S 3 ((pf * 3) + bd)))), (4, .int (nI (S 2 ((pf * 3) + bd)))), (0, .ref (q 0)), (1, .int (nI pf)), (2, .int (nI bd)), (3, .int (nI vl))]) G.1 G.2.1 dX1_takenBy_105 hl (by decide) rfl (fun ls hl => ?_)
        refine lv_iload G.1 G.2.1 dX1_takenBy_107 (lv_at hl 0 rfl) ?_
        refine lv_iload G.1 G.2.1 dX1_takenBy_109 (lv_at hl 2 rfl) ?_
        refine lv_icmp_ge (tgt := 119) G.1 G.2.1 dX1_takenBy_111 (by decide) (fun h_111 => ?_) (fun h_111 => ?_)
        · refine lv_iload G.1 G.2.1 dX1_takenBy_119 (lv_at hl 0 rfl) ?_
          refine lv_iload G.1 G.2.1 dX1_takenBy_121 (lv_at hl 1 rfl) ?_
          refine lv_icmp_le (tgt := 131) G.1 G.2.1 dX1_takenBy_123 (by decide) (fun h_123 => ?_) (fun h_123 => ?_)
          · refine lv_iload G.1 G.2.1 dX1_takenBy_131 (lv_at hl 0 rfl) ?_
            rw [show sp_tk S pf bd vl = sp_take (S 2 (pf * 3 + bd)) (S 3 (pf * 3 + bd)) 2 (sp_curve S pf bd vl) from by unfold sp_tk; rw [h_66]]
            rw [show z = nI (sp_take (S 2 (pf * 3 + bd)) (S 3 (pf * 3 + bd)) 2 (sp_curve S pf bd vl)) from by first | exact f1 (by assumption) | exact f2 (by assumption) (by assumption) | exact f3 (by assumption) (by assumption)]
            exact W.iret G.1 G.2.1 G.2.2.1 (fun t ht hW => gQd_of hX hS ht) hS.2.2 dX1_takenBy_133 G.2.2.2.2.2.2
          · refine lv_iload G.1 G.2.1 dX1_takenBy_126 (lv_at hl 1 rfl) ?_
            refine lv_goto (tgt := 133) G.1 G.2.1 dX1_takenBy_128 (by decide) ?_
            rw [show sp_tk S pf bd vl = sp_take (S 2 (pf * 3 + bd)) (S 3 (pf * 3 + bd)) 2 (sp_curve S pf bd vl) from by unfold sp_tk; rw [h_66]]
            rw [show nI (S 3 ((pf * 3) + bd)) = nI (sp_take (S 2 (pf * 3 + bd)) (S 3 (pf * 3 + bd)) 2 (sp_curve S pf bd vl)) from by first | exact f1 (by assumption) | exact f2 (by assumption) (by assumption) | exact f3 (by assumption) (by assumption)]
            exact W.iret G.1 G.2.1 G.2.2.1 (fun t ht hW => gQd_of hX hS ht) hS.2.2 dX1_takenBy_133 G.2.2.2.2.2.2
        · refine lv_iload G.1 G.2.1 dX1_takenBy_114 (lv_at hl 2 rfl) ?_
          refine lv_goto (tgt := 133) G.1 G.2.1 dX1_takenBy_116 (by decide) ?_
          rw [show sp_tk S pf bd vl = sp_take (S 2 (pf * 3 + bd)) (S 3 (pf * 3 + bd)) 2 (sp_curve S pf bd vl) from by unfold sp_tk; rw [h_66]]
          rw [show nI (S 2 ((pf * 3) + bd)) = nI (sp_take (S 2 (pf * 3 + bd)) (S 3 (pf * 3 + bd)) 2 (sp_curve S pf bd vl)) from by first | exact f1 (by assumption) | exact f2 (by assumption) (by assumption) | exact f3 (by assumption) (by assumption)]
          exact W.iret G.1 G.2.1 G.2.2.1 (fun t ht hW => gQd_of hX hS ht) hS.2.2 dX1_takenBy_133 G.2.2.2.2.2.2
  · refine lv_iload G.1 G.2.1 dX1_takenBy_43 (lv_at hl 2 rfl) ?_
    refine lv_iload G.1 G.2.1 dX1_takenBy_45 (lv_at hl 0 rfl) ?_
    refine lv_iload G.1 G.2.1 dX1_takenBy_47 (lv_at hl 1 rfl) ?_
    refine lv_iload G.1 G.2.1 dX1_takenBy_49 (lv_at hl 2 rfl) ?_
    refine gn_isub G dX1_takenBy_51 (by first | omega | assumption) ?_
    refine gn_imul G dX1_takenBy_52 ?_
    refine lv_sipush (v := nI 255) G.1 G.2.1 dX1_takenBy_53 (by decide) ?_
    refine gn_idiv G dX1_takenBy_56 (by first | omega | assumption) (by decide) (by decide) ?_
    refine gn_iadd G dX1_takenBy_57 ?_
    rw [show (S 2 ((pf * 3) + bd)) + (((sp_curve S pf bd vl) * ((S 3 ((pf * 3) + bd)) - (S 2 ((pf * 3) + bd)))) / 255) = sp_tk S pf bd vl from by unfold sp_tk sp_take; rw [if_pos h_40]]
    exact W.iret G.1 G.2.1 G.2.2.1 (fun t ht hW => gQd_of hX hS ht) hS.2.2 dX1_takenBy_58 G.2.2.2.2.2.2
set_option maxRecDepth 100000 in
set_option maxHeartbeats 4000000 in
/-- a value through a chain -/
theorem mX1_throughOf (l : Launch) (D : va_G) (q : Nat → Nat) (cI cZ : ClassId) (N : Nat → Nat) (S : Nat → Nat → Nat) (fv : Nat → Nat) (th : Nat) (A : Nat → Prop) (hok : sp_ok N S) (ch bd vl : Nat) (hch : ch < 6) (hbd : bd < 3) (hvl : vl ≤ 255) : Met l yX1_throughOf wsX1_throughOf { frames := 4, cells := 0, slots := 0, locals := 94 } (va_Pc [.ref (q 0), .int (nI ch), .int (nI bd), .int (nI vl)] (fun U => mAt D q cI cZ N S fv th A U U.heap)) (gQd D q cI cZ N S th (nI (sp_pass S ch bd vl)) A) 0 0 A := by
  refine gc_met [.ref (q 0), .int (nI ch), .int (nI bd), .int (nI vl)] (by decide) rfl (Nat.le_of_ble_eq_true rfl) rfl ?_
  intro p e s m below meth c ls G hl hX
  have hS : va_S A s.heap s.heap [] := va_S.rf
  have hok9 := hok
  obtain ⟨⟨ok0, ok5⟩, ok1, ok2, ok3, ok4, ok6, ok7, ok8, ok12, ok13, ok14⟩ := hok9
  have h7 := ok7 ch
  have hq := fun k => sp_passTo_le (ch := ch) (b := bd) hok hvl k
  refine lv_iload_n G.1 G.2.1 dX1_throughOf_0 rfl (lv_at hl 3 rfl) ?_
  refine lv_istore (lv' := [(4, .int (nI vl)), (0, .ref (q 0)), (1, .int (nI ch)), (2, .int (nI bd)), (3, .int (nI vl))]) G.1 G.2.1 dX1_throughOf_1 hl (by decide) rfl (fun ls hl => ?_)
  refine lv_iconst (v := nI 0) G.1 G.2.1 dX1_throughOf_3 (by decide) ?_
  refine lv_istore (lv' := [(5, .int (nI 0)), (4, .int (nI vl)), (0, .ref (q 0)), (1, .int (nI ch)), (2, .int (nI bd)), (3, .int (nI vl))]) G.1 G.2.1 dX1_throughOf_4 hl (by decide) rfl (fun ls hl => ?_)
  have loop1 : ∀ (d1 x1 : Nat), x1 + d1 = S 7 ch → ∀ (fv : Nat → Nat) (H9 : Heap) (locs9 : List Loc), mAt D q cI cZ N S fv th A s H9 → va_S A s.heap H9 locs9 → ∀ ls : Array Slot, lv_has ls 6 [(0, .ref (q 0)), (1, .int (nI ch)), (2, .int (nI bd)), (4, .int (nI (sp_passTo S ch bd vl x1))), (5, .int (nI x1))] → W p l e { frames := 4, cells := 0, slots := 0, locals := 94 } s m ([.ref (q 0), .int (nI ch), .int (nI bd), .int (nI vl)] : List Value).toArray below meth c H9 locs9 0 0 (MQ below (gQd D q cI cZ N S th (nI (sp_pass S ch bd vl)) A) ([.ref (q 0), .int (nI ch), .int (nI bd), .int (nI vl)] : List Value).toArray s 0 0 A) (F0 m 6 ls []) := by
    intro d1
    induction d1 with
    | zero =>
      intro x1 hd1 fv H9 locs9 hX hS ls hl
      refine lv_iload G.1 G.2.1 dX1_throughOf_6 (lv_at hl 4 rfl) ?_
      refine lv_aload_n G.1 G.2.1 dX1_throughOf_8 rfl (lv_at hl 0 rfl) ?_
      refine gm_get G hX (by decide +kernel) 6 (by decide) (by decide +kernel) rfl rfl rfl dX1_throughOf_9 ?_
      refine lv_iload_n G.1 G.2.1 dX1_throughOf_12 rfl (lv_at hl 1 rfl) ?_
      refine gm_ald (k := 6) (kp := 5) (len := 6) (F := S 7) G hX rfl (by first | omega | assumption) (by decide) dX1_throughOf_13 ?_
      refine gn_ge G (by first | omega | assumption) (by first | omega | assumption) (tgt := 44) dX1_throughOf_14 (by decide) (fun h_14 => ?_) (fun h_14 => absurd h_14 (by omega))
      refine lv_iload G.1 G.2.1 dX1_throughOf_44 (lv_at hl 3 rfl) ?_
      rw [show sp_passTo S ch bd vl x1 = sp_pass S ch bd vl from by unfold sp_pass; rw [show x1 = S 7 ch from by omega]]
      exact W.iret G.1 G.2.1 G.2.2.1 (fun t ht hW => gQd_of hX hS ht) hS.2.2 dX1_throughOf_46 G.2.2.2.2.2.2
    | succ d1 ih1 =>
      intro x1 hd1 fv H9 locs9 hX hS ls hl
      refine lv_iload G.1 G.2.1 dX1_throughOf_6 (lv_at hl 4 rfl) ?_
      refine lv_aload_n G.1 G.2.1 dX1_throughOf_8 rfl (lv_at hl 0 rfl) ?_
      refine gm_get G hX (by decide +kernel) 6 (by decide) (by decide +kernel) rfl rfl rfl dX1_throughOf_9 ?_
      refine lv_iload_n G.1 G.2.1 dX1_throughOf_12 rfl (lv_at hl 1 rfl) ?_
      refine gm_ald (k := 6) (kp := 5) (len := 6) (F := S 7) G hX rfl (by first | omega | assumption) (by decide) dX1_throughOf_13 ?_
      refine gn_ge G (by first | omega | assumption) (by first | omega | assumption) (tgt := 44) dX1_throughOf_14 (by decide) (fun h_14 => absurd h_14 (by omega)) (fun h_14 => ?_)
      refine lv_aload_n G.1 G.2.1 dX1_throughOf_17 rfl (lv_at hl 0 rfl) ?_
      refine lv_aload_n G.1 G.2.1 dX1_throughOf_18 rfl (lv_at hl 0 rfl) ?_
      refine gm_get G hX (by decide +kernel) 7 (by decide) (by decide +kernel) rfl rfl rfl dX1_throughOf_19 ?_
      refine lv_bipush (v := nI 6) G.1 G.2.1 dX1_throughOf_22 (by decide) ?_
      refine lv_iload_n G.1 G.2.1 dX1_throughOf_24 rfl (lv_at hl 1 rfl) ?_
      refine gn_imul G dX1_throughOf_25 ?_
      refine lv_iload G.1 G.2.1 dX1_throughOf_26 (lv_at hl 4 rfl) ?_
      refine gn_iadd G dX1_throughOf_28 ?_
      refine gm_ald (k := 7) (kp := 6) (len := 36) (F := S 6) G hX rfl (by first | omega | assumption) (by decide) dX1_throughOf_29 ?_
      rw [show (6 * ch) + x1 = (ch * 6) + x1 from by omega]
      refine lv_iload_n G.1 G.2.1 dX1_throughOf_30 rfl (lv_at hl 2 rfl) ?_
      refine lv_iload G.1 G.2.1 dX1_throughOf_31 (lv_at hl 3 rfl) ?_
      refine gm_mut (N' := N) (S' := S) (th' := th) (r := (nI (sp_tk S (S 6 ((ch * 6) + x1)) bd (sp_passTo S ch bd vl x1)))) (As := [.int (nI (S 6 ((ch * 6) + x1))), .int (nI bd), .int (nI (sp_passTo S ch bd vl x1))]) (rest := []) G.fix (mX1_takenBy l D q cI cZ N S fv th A hok (S 6 ((ch * 6) + x1)) bd (sp_passTo S ch bd vl x1) (by first | omega | assumption | exact ok6 _ | apply hq) (by first | omega | assumption | exact ok6 _ | apply hq) (by first | omega | assumption | exact ok6 _ | apply hq)) (cwV 3 G.2.2.2.2.2.1 gX1_throughOf_X1_takenBy rfl rfl rfl (by decide +kernel) ⟨Nat.le_of_ble_eq_true rfl, Nat.le_of_ble_eq_true rfl⟩) hX hS rfl hl.1 rfl (Nat.le_of_ble_eq_true rfl) dX1_throughOf_33 (Nat.zero_le _) (Nat.zero_le _) (fun fv H1 locs1 hX hS => ?_)
      refine lv_istore (lv' := [(4, .int (nI (sp_tk S (S 6 ((ch * 6) + x1)) bd (sp_passTo S ch bd vl x1)))), (0, .ref (q 0)), (1, .int (nI ch)), (2, .int (nI bd)), (5, .int (nI x1))]) G.1 G.2.1 dX1_throughOf_36 hl (by decide) rfl (fun ls hl => ?_)
      refine gn_iinc (lv' := [(5, .int (nI (x1 + 1))), (4, .int (nI (sp_tk S (S 6 ((ch * 6) + x1)) bd (sp_passTo S ch bd vl x1)))), (0, .ref (q 0)), (1, .int (nI ch)), (2, .int (nI bd))]) (n := 1) G dX1_throughOf_38 hl (k := 4) rfl (by decide) rfl (fun ls hl => ?_)
      refine lv_goto (tgt := 6) G.1 G.2.1 dX1_throughOf_41 (by decide) ?_
      exact ih1 (x1 + 1) (by omega) _ _ _ (mAt_cast (rfl) hX) hS _ (lv_sub hl [2, 3, 4, 1, 0] rfl)
  exact loop1 (S 7 ch) 0 (by omega) _ _ _ (mAt_cast (rfl) hX) hS _ (lv_sub hl [2, 3, 4, 1, 0] rfl)
set_option maxRecDepth 100000 in
set_option maxHeartbeats 4000000 in
/-- whether a profile is held -/
theorem mX1_isHeld (l : Launch) (D : va_G) (q : Nat → Nat) (cI cZ : ClassId) (N : Nat → Nat) (S : Nat → Nat → Nat) (fv : Nat → Nat) (th : Nat) (A : Nat → Prop) (hok : sp_ok N S) (hinv : sp_inv N S) (pf : Nat) (hpf : pf < 8) : Met l yX1_isHeld wsX1_isHeld { frames := 0, cells := 0, slots := 0, locals := 0 } (va_Pc [.ref (q 0), .int (nI pf)] (fun U => mAt D q cI cZ N S fv th A U U.heap)) (vp_Si (fun r => r = nI (sp_hout S pf (N 5)))) 0 0 (fun _ => False) := by
  refine gc_met [.ref (q 0), .int (nI pf)] (by decide) rfl (Nat.le_of_ble_eq_true rfl) rfl ?_
  intro p e s m below meth c ls G hl hX
  have hS : va_S A s.heap s.heap [] := va_S.rf
  have hok9 := hok
  obtain ⟨⟨ok0, ok5⟩, ok1, ok2, ok3, ok4, ok6, ok7, ok8, ok12, ok13, ok14⟩ := hok9
  refine lv_iconst (v := nI 0) G.1 G.2.1 dX1_isHeld_0 (by decide) ?_
  refine lv_istore_n (lv' := [(2, .int (nI 0)), (0, .ref (q 0)), (1, .int (nI pf))]) G.1 G.2.1 dX1_isHeld_1 rfl hl (by decide) rfl (fun ls hl => ?_)
  refine lv_iconst (v := nI 0) G.1 G.2.1 dX1_isHeld_2 (by decide) ?_
  refine lv_istore_n (lv' := [(3, .int (nI 0)), (2, .int (nI 0)), (0, .ref (q 0)), (1, .int (nI pf))]) G.1 G.2.1 dX1_isHeld_3 rfl hl (by decide) rfl (fun ls hl => ?_)
  have loop1 : ∀ (d1 x1 : Nat), x1 + d1 = N 5 → ∀ ls : Array Slot, lv_has ls 5 [(0, .ref (q 0)), (1, .int (nI pf)), (2, .int (nI (sp_hout S pf x1))), (3, .int (nI x1))] → W p l e { frames := 0, cells := 0, slots := 0, locals := 0 } s m ([.ref (q 0), .int (nI pf)] : List Value).toArray below meth c s.heap [] 0 0 (MQ below (vp_Si (fun r => r = nI (sp_hout S pf (N 5)))) ([.ref (q 0), .int (nI pf)] : List Value).toArray s 0 0 (fun _ => False)) (F0 m 4 ls []) := by
    intro d1
    induction d1 with
    | zero =>
      intro x1 hd1 ls hl
      refine lv_iload_n G.1 G.2.1 dX1_isHeld_4 rfl (lv_at hl 3 rfl) ?_
      refine lv_aload_n G.1 G.2.1 dX1_isHeld_5 rfl (lv_at hl 0 rfl) ?_
      refine gm_get G hX (by decide +kernel) 5 (by decide) (by decide +kernel) rfl rfl rfl dX1_isHeld_6 ?_
      refine gn_ge G (by first | omega | assumption) (by first | omega | assumption) (tgt := 73) dX1_isHeld_9 (by decide) (fun h_9 => ?_) (fun h_9 => absurd h_9 (by omega))
      refine lv_iload_n G.1 G.2.1 dX1_isHeld_73 rfl (lv_at hl 2 rfl) ?_
      have hhl := sp_hout_lt S pf x1
      exact W.zret G.1 G.2.1 G.2.2.1 (gp_nz (by omega)) (fun t ht hW => ⟨_, rfl, by show nI _ = nI _; rw [show x1 = N 5 from by omega], ht⟩) (fun q h => nomatch h) dX1_isHeld_74 G.2.2.2.2.2.2
    | succ d1 ih1 =>
      intro x1 hd1 ls hl
      refine lv_iload_n G.1 G.2.1 dX1_isHeld_4 rfl (lv_at hl 3 rfl) ?_
      refine lv_aload_n G.1 G.2.1 dX1_isHeld_5 rfl (lv_at hl 0 rfl) ?_
      refine gm_get G hX (by decide +kernel) 5 (by decide) (by decide +kernel) rfl rfl rfl dX1_isHeld_6 ?_
      refine gn_ge G (by first | omega | assumption) (by first | omega | assumption) (tgt := 73) dX1_isHeld_9 (by decide) (fun h_9 => absurd h_9 (by omega)) (fun h_9 => ?_)
      have h79 := ok7 x1
      have h109 := (hinv.2.2.2.2.2.1 x1 (by omega)).2
      have hb10 := sp_bit_lt (N 10) x1
      refine lv_iconst (v := nI 0) G.1 G.2.1 dX1_isHeld_12 (by decide) ?_
      refine lv_istore (lv' := [(4, .int (nI 0)), (0, .ref (q 0)), (1, .int (nI pf)), (2, .int (nI (sp_hout S pf x1))), (3, .int (nI x1))]) G.1 G.2.1 dX1_isHeld_13 hl (by decide) rfl (fun ls hl => ?_)
      have loop2 : ∀ (d2 x2 : Nat), x2 + d2 = S 7 x1 → ∀ ls : Array Slot, lv_has ls 5 [(0, .ref (q 0)), (1, .int (nI pf)), (2, .int (nI (sp_hin S pf x1 (sp_hout S pf x1) x2))), (3, .int (nI x1)), (4, .int (nI x2))] → W p l e { frames := 0, cells := 0, slots := 0, locals := 0 } s m ([.ref (q 0), .int (nI pf)] : List Value).toArray below meth c s.heap [] 0 0 (MQ below (vp_Si (fun r => r = nI (sp_hout S pf (N 5)))) ([.ref (q 0), .int (nI pf)] : List Value).toArray s 0 0 (fun _ => False)) (F0 m 15 ls []) := by
        intro d2
        induction d2 with
        | zero =>
          intro x2 hd2 ls hl
          refine lv_iload G.1 G.2.1 dX1_isHeld_15 (lv_at hl 4 rfl) ?_
          refine lv_aload_n G.1 G.2.1 dX1_isHeld_17 rfl (lv_at hl 0 rfl) ?_
          refine gm_get G hX (by decide +kernel) 6 (by decide) (by decide +kernel) rfl rfl rfl dX1_isHeld_18 ?_
          refine lv_iload_n G.1 G.2.1 dX1_isHeld_21 rfl (lv_at hl 3 rfl) ?_
          refine gm_ald (k := 6) (kp := 5) (len := 6) (F := S 7) G hX rfl (by first | omega | assumption) (by decide) dX1_isHeld_22 ?_
          refine gn_ge G (by first | omega | assumption) (by first | omega | assumption) (tgt := 67) dX1_isHeld_23 (by decide) (fun h_23 => ?_) (fun h_23 => absurd h_23 (by omega))
          refine gn_iinc (lv' := [(3, .int (nI (x1 + 1))), (0, .ref (q 0)), (1, .int (nI pf)), (2, .int (nI (sp_hin S pf x1 (sp_hout S pf x1) x2))), (4, .int (nI x2))]) (n := 1) G dX1_isHeld_67 hl (k := 3) rfl (by decide) rfl (fun ls hl => ?_)
          refine lv_goto (tgt := 4) G.1 G.2.1 dX1_isHeld_70 (by decide) ?_
          exact ih1 (x1 + 1) (by omega) _ (by rw [show sp_hout S pf (x1 + 1) = sp_hin S pf x1 (sp_hout S pf x1) x2 from by rw [show x2 = S 7 x1 from by omega]; rfl]; exact lv_sub hl [1, 2, 3, 0] rfl)
        | succ d2 ih2 =>
          intro x2 hd2 ls hl
          refine lv_iload G.1 G.2.1 dX1_isHeld_15 (lv_at hl 4 rfl) ?_
          refine lv_aload_n G.1 G.2.1 dX1_isHeld_17 rfl (lv_at hl 0 rfl) ?_
          refine gm_get G hX (by decide +kernel) 6 (by decide) (by decide +kernel) rfl rfl rfl dX1_isHeld_18 ?_
          refine lv_iload_n G.1 G.2.1 dX1_isHeld_21 rfl (lv_at hl 3 rfl) ?_
          refine gm_ald (k := 6) (kp := 5) (len := 6) (F := S 7) G hX rfl (by first | omega | assumption) (by decide) dX1_isHeld_22 ?_
          refine gn_ge G (by first | omega | assumption) (by first | omega | assumption) (tgt := 67) dX1_isHeld_23 (by decide) (fun h_23 => absurd h_23 (by omega)) (fun h_23 => ?_)
          have hhl := sp_hin_lt (S := S) (pf := pf) (c := x1) (sp_hout_lt S pf x1) x2
          have h69 := ok6 (x1 * 6 + x2)
          refine lv_iload_n G.1 G.2.1 dX1_isHeld_26 rfl (lv_at hl 2 rfl) ?_
          refine gn_nez G (by first | omega | assumption) (tgt := 55) dX1_isHeld_27 (by decide) (fun h_27 => ?_) (fun h_27 => ?_)
          · refine lv_iconst (v := nI 1) G.1 G.2.1 dX1_isHeld_55 (by decide) ?_
            refine lv_goto (tgt := 60) G.1 G.2.1 dX1_isHeld_56 (by decide) ?_
            refine lv_istore_n (lv' := [(2, .int (nI 1)), (0, .ref (q 0)), (1, .int (nI pf)), (3, .int (nI x1)), (4, .int (nI x2))]) G.1 G.2.1 dX1_isHeld_60 rfl hl (by decide) rfl (fun ls hl => ?_)
            refine gn_iinc (lv' := [(4, .int (nI (x2 + 1))), (2, .int (nI 1)), (0, .ref (q 0)), (1, .int (nI pf)), (3, .int (nI x1))]) (n := 1) G dX1_isHeld_61 hl (k := 4) rfl (by decide) rfl (fun ls hl => ?_)
            refine lv_goto (tgt := 15) G.1 G.2.1 dX1_isHeld_64 (by decide) ?_
            exact ih2 (x2 + 1) (by omega) _ (by rw [show sp_hin S pf x1 (sp_hout S pf x1) (x2 + 1) = 1 from by first | exact sp_hin_a h_27 | exact sp_hin_b h_27 h_36 h_52 | exact sp_hin_c h_27 (fun z => z.1 h_36) | exact sp_hin_c h_27 (fun z => h_52 z.2)]; exact lv_sub hl [2, 3, 1, 4, 0] rfl)
          · refine lv_aload_n G.1 G.2.1 dX1_isHeld_30 rfl (lv_at hl 0 rfl) ?_
            refine gm_get G hX (by decide +kernel) 9 (by decide) (by decide +kernel) rfl rfl rfl dX1_isHeld_31 ?_
            refine lv_iload_n G.1 G.2.1 dX1_isHeld_34 rfl (lv_at hl 3 rfl) ?_
            refine gm_zld (k := 9) (kp := 8) (len := 6) (F := S 10) G hX rfl (by first | omega | assumption) (by decide) dX1_isHeld_35 ?_
            refine gn_eqz G (by first | omega | assumption) (tgt := 59) dX1_isHeld_36 (by decide) (fun h_36 => ?_) (fun h_36 => ?_)
            · refine lv_iconst (v := nI 0) G.1 G.2.1 dX1_isHeld_59 (by decide) ?_
              refine lv_istore_n (lv' := [(2, .int (nI 0)), (0, .ref (q 0)), (1, .int (nI pf)), (3, .int (nI x1)), (4, .int (nI x2))]) G.1 G.2.1 dX1_isHeld_60 rfl hl (by decide) rfl (fun ls hl => ?_)
              refine gn_iinc (lv' := [(4, .int (nI (x2 + 1))), (2, .int (nI 0)), (0, .ref (q 0)), (1, .int (nI pf)), (3, .int (nI x1))]) (n := 1) G dX1_isHeld_61 hl (k := 4) rfl (by decide) rfl (fun ls hl => ?_)
              refine lv_goto (tgt := 15) G.1 G.2.1 dX1_isHeld_64 (by decide) ?_
              exact ih2 (x2 + 1) (by omega) _ (by rw [show sp_hin S pf x1 (sp_hout S pf x1) (x2 + 1) = 0 from by first | exact sp_hin_a h_27 | exact sp_hin_b h_27 h_36 h_52 | exact sp_hin_c h_27 (fun z => z.1 h_36) | exact sp_hin_c h_27 (fun z => h_52 z.2)]; exact lv_sub hl [2, 3, 1, 4, 0] rfl)
            · refine lv_aload_n G.1 G.2.1 dX1_isHeld_39 rfl (lv_at hl 0 rfl) ?_
              refine gm_get G hX (by decide +kernel) 7 (by decide) (by decide +kernel) rfl rfl rfl dX1_isHeld_40 ?_
              refine lv_bipush (v := nI 6) G.1 G.2.1 dX1_isHeld_43 (by decide) ?_
              refine lv_iload_n G.1 G.2.1 dX1_isHeld_45 rfl (lv_at hl 3 rfl) ?_
              refine gn_imul G dX1_isHeld_46 ?_
              refine lv_iload G.1 G.2.1 dX1_isHeld_47 (lv_at hl 4 rfl) ?_
              refine gn_iadd G dX1_isHeld_49 ?_
              refine gm_ald (k := 7) (kp := 6) (len := 36) (F := S 6) G hX rfl (by first | omega | assumption) (by decide) dX1_isHeld_50 ?_
              rw [show (6 * x1) + x2 = (x1 * 6) + x2 from by omega]
              refine lv_iload_n G.1 G.2.1 dX1_isHeld_51 rfl (lv_at hl 1 rfl) ?_
              refine gn_ne G (by first | omega | assumption) (by first | omega | assumption) (tgt := 59) dX1_isHeld_52 (by decide) (fun h_52 => ?_) (fun h_52 => ?_)
              · refine lv_iconst (v := nI 0) G.1 G.2.1 dX1_isHeld_59 (by decide) ?_
                refine lv_istore_n (lv' := [(2, .int (nI 0)), (0, .ref (q 0)), (1, .int (nI pf)), (3, .int (nI x1)), (4, .int (nI x2))]) G.1 G.2.1 dX1_isHeld_60 rfl hl (by decide) rfl (fun ls hl => ?_)
                refine gn_iinc (lv' := [(4, .int (nI (x2 + 1))), (2, .int (nI 0)), (0, .ref (q 0)), (1, .int (nI pf)), (3, .int (nI x1))]) (n := 1) G dX1_isHeld_61 hl (k := 4) rfl (by decide) rfl (fun ls hl => ?_)
                refine lv_goto (tgt := 15) G.1 G.2.1 dX1_isHeld_64 (by decide) ?_
                exact ih2 (x2 + 1) (by omega) _ (by rw [show sp_hin S pf x1 (sp_hout S pf x1) (x2 + 1) = 0 from by first | exact sp_hin_a h_27 | exact sp_hin_b h_27 h_36 h_52 | exact sp_hin_c h_27 (fun z => z.1 h_36) | exact sp_hin_c h_27 (fun z => h_52 z.2)]; exact lv_sub hl [2, 3, 1, 4, 0] rfl)
              · refine lv_iconst (v := nI 1) G.1 G.2.1 dX1_isHeld_55 (by decide) ?_
                refine lv_goto (tgt := 60) G.1 G.2.1 dX1_isHeld_56 (by decide) ?_
                refine lv_istore_n (lv' := [(2, .int (nI 1)), (0, .ref (q 0)), (1, .int (nI pf)), (3, .int (nI x1)), (4, .int (nI x2))]) G.1 G.2.1 dX1_isHeld_60 rfl hl (by decide) rfl (fun ls hl => ?_)
                refine gn_iinc (lv' := [(4, .int (nI (x2 + 1))), (2, .int (nI 1)), (0, .ref (q 0)), (1, .int (nI pf)), (3, .int (nI x1))]) (n := 1) G dX1_isHeld_61 hl (k := 4) rfl (by decide) rfl (fun ls hl => ?_)
                refine lv_goto (tgt := 15) G.1 G.2.1 dX1_isHeld_64 (by decide) ?_
                exact ih2 (x2 + 1) (by omega) _ (by rw [show sp_hin S pf x1 (sp_hout S pf x1) (x2 + 1) = 1 from by first | exact sp_hin_a h_27 | exact sp_hin_b h_27 h_36 h_52 | exact sp_hin_c h_27 (fun z => z.1 h_36) | exact sp_hin_c h_27 (fun z => h_52 z.2)]; exact lv_sub hl [2, 3, 1, 4, 0] rfl)
      exact loop2 (S 7 x1) 0 (by omega) _ (lv_sub hl [1, 2, 3, 4, 0] rfl)
  exact loop1 (N 5) 0 (by omega) _ (lv_sub hl [2, 3, 1, 0] rfl)
set_option maxRecDepth 100000 in
set_option maxHeartbeats 4000000 in
/-- the gap of a chain -/
theorem mX1_gapOf (l : Launch) (D : va_G) (q : Nat → Nat) (cI cZ : ClassId) (N : Nat → Nat) (S : Nat → Nat → Nat) (fv : Nat → Nat) (th : Nat) (A : Nat → Prop) (hok : sp_ok N S) (ch : Nat) (hch : ch < 6) : Met l yX1_gapOf wsX1_gapOf { frames := 5, cells := 0, slots := 0, locals := 119 } (va_Pc [.ref (q 0), .int (nI ch)] (fun U => mAt D q cI cZ N S fv th A U U.heap)) (gQd D q cI cZ N S th (nI (sp_gap S ch)) A) 0 0 A := by
  refine gc_met [.ref (q 0), .int (nI ch)] (by decide) rfl (Nat.le_of_ble_eq_true rfl) rfl ?_
  intro p e s m below meth c ls G hl hX
  have hS : va_S A s.heap s.heap [] := va_S.rf
  have hok9 := hok
  obtain ⟨⟨ok0, ok5⟩, ok1, ok2, ok3, ok4, ok6, ok7, ok8, ok12, ok13, ok14⟩ := hok9
  have hq := fun k => @sp_vop_le k
  have hpl := fun b v (hv : v ≤ 255) => sp_pass_le (ch := ch) (b := b) hok hv
  refine lv_iconst (v := nI 0) G.1 G.2.1 dX1_gapOf_0 (by decide) ?_
  refine lv_istore_n (lv' := [(2, .int (nI 0)), (0, .ref (q 0)), (1, .int (nI ch))]) G.1 G.2.1 dX1_gapOf_1 rfl hl (by decide) rfl (fun ls hl => ?_)
  refine lv_iconst (v := nI 0) G.1 G.2.1 dX1_gapOf_2 (by decide) ?_
  refine lv_istore_n (lv' := [(3, .int (nI 0)), (2, .int (nI 0)), (0, .ref (q 0)), (1, .int (nI ch))]) G.1 G.2.1 dX1_gapOf_3 rfl hl (by decide) rfl (fun ls hl => ?_)
  have loop1 : ∀ (d1 x1 : Nat), x1 + d1 = 3 → ∀ (fv : Nat → Nat) (H9 : Heap) (locs9 : List Loc), mAt D q cI cZ N S fv th A s H9 → va_S A s.heap H9 locs9 → ∀ ls : Array Slot, lv_has ls 11 [(0, .ref (q 0)), (1, .int (nI ch)), (2, .int (nI (sp_gapTo S ch (x1 * 256)))), (3, .int (nI x1))] → W p l e { frames := 5, cells := 0, slots := 0, locals := 119 } s m ([.ref (q 0), .int (nI ch)] : List Value).toArray below meth c H9 locs9 0 0 (MQ below (gQd D q cI cZ N S th (nI (sp_gap S ch)) A) ([.ref (q 0), .int (nI ch)] : List Value).toArray s 0 0 A) (F0 m 4 ls []) := by
    intro d1
    induction d1 with
    | zero =>
      intro x1 hd1 fv H9 locs9 hX hS ls hl
      refine lv_iload_n G.1 G.2.1 dX1_gapOf_4 rfl (lv_at hl 3 rfl) ?_
      refine lv_iconst (v := nI 3) G.1 G.2.1 dX1_gapOf_5 (by decide) ?_
      refine gn_ge G (by first | omega | assumption) (by first | omega | assumption) (tgt := 174) dX1_gapOf_6 (by decide) (fun h_6 => ?_) (fun h_6 => absurd h_6 (by omega))
      refine lv_iload_n G.1 G.2.1 dX1_gapOf_174 rfl (lv_at hl 2 rfl) ?_
      rw [show sp_gapTo S ch (x1 * 256) = sp_gap S ch from by rw [show x1 = 3 from by omega]; rfl]
      exact W.iret G.1 G.2.1 G.2.2.1 (fun t ht hW => gQd_of hX hS ht) hS.2.2 dX1_gapOf_175 G.2.2.2.2.2.2
    | succ d1 ih1 =>
      intro x1 hd1 fv H9 locs9 hX hS ls hl
      refine lv_iload_n G.1 G.2.1 dX1_gapOf_4 rfl (lv_at hl 3 rfl) ?_
      refine lv_iconst (v := nI 3) G.1 G.2.1 dX1_gapOf_5 (by decide) ?_
      refine gn_ge G (by first | omega | assumption) (by first | omega | assumption) (tgt := 174) dX1_gapOf_6 (by decide) (fun h_6 => absurd h_6 (by omega)) (fun h_6 => ?_)
      refine lv_iconst (v := nI 0) G.1 G.2.1 dX1_gapOf_9 (by decide) ?_
      refine lv_istore (lv' := [(4, .int (nI 0)), (0, .ref (q 0)), (1, .int (nI ch)), (2, .int (nI (sp_gapTo S ch (x1 * 256)))), (3, .int (nI x1))]) G.1 G.2.1 dX1_gapOf_10 hl (by decide) rfl (fun ls hl => ?_)
      have loop2 : ∀ (d2 x2 : Nat), x2 + d2 = 256 → ∀ (fv : Nat → Nat) (H9 : Heap) (locs9 : List Loc), mAt D q cI cZ N S fv th A s H9 → va_S A s.heap H9 locs9 → ∀ ls : Array Slot, lv_has ls 11 [(0, .ref (q 0)), (1, .int (nI ch)), (2, .int (nI (sp_gapTo S ch (x1 * 256 + x2)))), (3, .int (nI x1)), (4, .int (nI x2))] → W p l e { frames := 5, cells := 0, slots := 0, locals := 119 } s m ([.ref (q 0), .int (nI ch)] : List Value).toArray below meth c H9 locs9 0 0 (MQ below (gQd D q cI cZ N S th (nI (sp_gap S ch)) A) ([.ref (q 0), .int (nI ch)] : List Value).toArray s 0 0 A) (F0 m 12 ls []) := by
        intro d2
        induction d2 with
        | zero =>
          intro x2 hd2 fv H9 locs9 hX hS ls hl
          refine lv_iload G.1 G.2.1 dX1_gapOf_12 (lv_at hl 4 rfl) ?_
          refine lv_sipush (v := nI 256) G.1 G.2.1 dX1_gapOf_14 (by decide) ?_
          refine gn_ge G (by first | omega | assumption) (by first | omega | assumption) (tgt := 168) dX1_gapOf_17 (by decide) (fun h_17 => ?_) (fun h_17 => absurd h_17 (by omega))
          refine gn_iinc (lv' := [(3, .int (nI (x1 + 1))), (0, .ref (q 0)), (1, .int (nI ch)), (2, .int (nI (sp_gapTo S ch (x1 * 256 + x2)))), (4, .int (nI x2))]) (n := 1) G dX1_gapOf_168 hl (k := 3) rfl (by decide) rfl (fun ls hl => ?_)
          refine lv_goto (tgt := 4) G.1 G.2.1 dX1_gapOf_171 (by decide) ?_
          exact ih1 (x1 + 1) (by omega) _ _ _ (mAt_cast (rfl) hX) hS _ (by rw [show (x1 + 1) * 256 = x1 * 256 + x2 from by omega]; exact lv_sub hl [1, 2, 3, 0] rfl)
        | succ d2 ih2 =>
          intro x2 hd2 fv H9 locs9 hX hS ls hl
          refine lv_iload G.1 G.2.1 dX1_gapOf_12 (lv_at hl 4 rfl) ?_
          refine lv_sipush (v := nI 256) G.1 G.2.1 dX1_gapOf_14 (by decide) ?_
          refine gn_ge G (by first | omega | assumption) (by first | omega | assumption) (tgt := 168) dX1_gapOf_17 (by decide) (fun h_17 => absurd h_17 (by omega)) (fun h_17 => ?_)
          refine lv_aload_n G.1 G.2.1 dX1_gapOf_20 rfl (lv_at hl 0 rfl) ?_
          refine lv_iload_n G.1 G.2.1 dX1_gapOf_21 rfl (lv_at hl 1 rfl) ?_
          refine lv_iload_n G.1 G.2.1 dX1_gapOf_22 rfl (lv_at hl 3 rfl) ?_
          refine lv_iload G.1 G.2.1 dX1_gapOf_23 (lv_at hl 4 rfl) ?_
          refine gm_mut (N' := N) (S' := S) (th' := th) (r := (nI (sp_pass S ch x1 x2))) (As := [.int (nI ch), .int (nI x1), .int (nI x2)]) (rest := []) G.fix (mX1_throughOf l D q cI cZ N S fv th A hok ch x1 x2 (by first | omega | assumption | exact ok6 _ | apply hq) (by first | omega | assumption | exact ok6 _ | apply hq) (by first | omega | assumption | exact ok6 _ | apply hq)) (cwV 3 G.2.2.2.2.2.1 gX1_gapOf_X1_throughOf rfl rfl rfl (by decide +kernel) ⟨Nat.le_of_ble_eq_true rfl, Nat.le_of_ble_eq_true rfl⟩) hX hS rfl hl.1 rfl (Nat.le_of_ble_eq_true rfl) dX1_gapOf_25 (Nat.zero_le _) (Nat.zero_le _) (fun fv H1 locs1 hX hS => ?_)
          refine lv_istore (lv' := [(5, .int (nI (sp_pass S ch x1 x2))), (0, .ref (q 0)), (1, .int (nI ch)), (2, .int (nI (sp_gapTo S ch (x1 * 256 + x2)))), (3, .int (nI x1)), (4, .int (nI x2))]) G.1 G.2.1 dX1_gapOf_28 hl (by decide) rfl (fun ls hl => ?_)
          refine lv_iload G.1 G.2.1 dX1_gapOf_30 (lv_at hl 5 rfl) ?_
          refine lv_sipush (v := nI 255) G.1 G.2.1 dX1_gapOf_32 (by decide) ?_
          refine gn_ne G (by first | omega | assumption) (by first | omega | assumption) (tgt := 42) dX1_gapOf_35 (by decide) (fun h_35 => ?_) (fun h_35 => ?_)
          · refine lv_iload G.1 G.2.1 dX1_gapOf_42 (lv_at hl 5 rfl) ?_
            refine lv_bipush (v := nI 64) G.1 G.2.1 dX1_gapOf_44 (by decide) ?_
            refine gn_idiv G dX1_gapOf_46 (by first | omega | assumption) (by decide) (by decide) ?_
            have hpa := hpl x1 x2 (by omega)
            have hpb : sp_btw (fun k => sp_pass S ch x1 (sp_vop k)) 0 x2 ≤ 255 := sp_btw_le (fun j => hpl _ _ sp_vop_le) (by omega)
            have hgl := sp_gapTo_le hok (ch := ch) (x1 * 256 + x2)
            have hap := sp_ap_le hpa hpb
            refine lv_istore (lv' := [(6, .int (nI (x2 / 64))), (5, .int (nI (sp_pass S ch x1 x2))), (0, .ref (q 0)), (1, .int (nI ch)), (2, .int (nI (sp_gapTo S ch (x1 * 256 + x2)))), (3, .int (nI x1)), (4, .int (nI x2))]) G.1 G.2.1 dX1_gapOf_47 hl (by decide) rfl (fun ls hl => ?_)
            refine lv_aload_n G.1 G.2.1 dX1_gapOf_49 rfl (lv_at hl 2 rfl) ?_
            refine lv_iload_n G.1 G.2.1 dX1_gapOf_50 rfl (lv_at hl 3 rfl) ?_
            refine lv_iload_n G.1 G.2.1 dX1_gapOf_51 rfl (lv_at hl 5 rfl) ?_
            refine lv_iload G.1 G.2.1 dX1_gapOf_52 (lv_at hl 0 rfl) ?_
            refine gc_s (As := [.int (nI (x2 / 64))]) (rest := [.int (nI x1), .int (nI ch), .ref (q 0)]) G.fix (mX1_placeAt l (x2 / 64) (by first | omega | assumption)) (va_cwS 1 G.2.2.2.2.2.1 gX1_gapOf_X1_placeAt rfl rfl rfl (by decide +kernel) ⟨Nat.le_of_ble_eq_true rfl, Nat.le_of_ble_eq_true rfl⟩) gc_blindT (fun _ _ _ => trivial) rfl hl.1 rfl (Nat.le_of_ble_eq_true rfl) dX1_gapOf_54 (Nat.zero_le _) (Nat.zero_le _) (fun r hr => ?_)
            subst hr
            refine gm_mut (N' := N) (S' := S) (th' := th) (r := (nI (sp_pass S ch x1 (sp_vop (x2 / 64))))) (As := [.int (nI ch), .int (nI x1), .int (nI (sp_vop (x2 / 64)))]) (rest := []) G.fix (mX1_throughOf l D q cI cZ N S fv th A hok ch x1 (sp_vop (x2 / 64)) (by first | omega | assumption | exact ok6 _ | apply hq) (by first | omega | assumption | exact ok6 _ | apply hq) (by first | omega | assumption | exact ok6 _ | apply hq)) (cwV 3 G.2.2.2.2.2.1 gX1_gapOf_X1_throughOf rfl rfl rfl (by decide +kernel) ⟨Nat.le_of_ble_eq_true rfl, Nat.le_of_ble_eq_true rfl⟩) hX hS rfl hl.1 rfl (Nat.le_of_ble_eq_true rfl) dX1_gapOf_57 (Nat.zero_le _) (Nat.zero_le _) (fun fv H1 locs1 hX hS => ?_)
            refine lv_istore (lv' := [(7, .int (nI (sp_pass S ch x1 (sp_vop (x2 / 64))))), (6, .int (nI (x2 / 64))), (5, .int (nI (sp_pass S ch x1 x2))), (0, .ref (q 0)), (1, .int (nI ch)), (2, .int (nI (sp_gapTo S ch (x1 * 256 + x2)))), (3, .int (nI x1)), (4, .int (nI x2))]) G.1 G.2.1 dX1_gapOf_60 hl (by decide) rfl (fun ls hl => ?_)
            refine lv_aload_n G.1 G.2.1 dX1_gapOf_62 rfl (lv_at hl 3 rfl) ?_
            refine lv_iload_n G.1 G.2.1 dX1_gapOf_63 rfl (lv_at hl 4 rfl) ?_
            refine lv_iload_n G.1 G.2.1 dX1_gapOf_64 rfl (lv_at hl 6 rfl) ?_
            refine lv_iload G.1 G.2.1 dX1_gapOf_65 (lv_at hl 1 rfl) ?_
            refine lv_iconst (v := nI 1) G.1 G.2.1 dX1_gapOf_67 (by decide) ?_
            refine gn_iadd G dX1_gapOf_68 ?_
            refine gc_s (As := [.int (nI ((x2 / 64) + 1))]) (rest := [.int (nI x1), .int (nI ch), .ref (q 0)]) G.fix (mX1_placeAt l ((x2 / 64) + 1) (by first | omega | assumption)) (va_cwS 1 G.2.2.2.2.2.1 gX1_gapOf_X1_placeAt rfl rfl rfl (by decide +kernel) ⟨Nat.le_of_ble_eq_true rfl, Nat.le_of_ble_eq_true rfl⟩) gc_blindT (fun _ _ _ => trivial) rfl hl.1 rfl (Nat.le_of_ble_eq_true rfl) dX1_gapOf_69 (Nat.zero_le _) (Nat.zero_le _) (fun r hr => ?_)
            subst hr
            refine gm_mut (N' := N) (S' := S) (th' := th) (r := (nI (sp_pass S ch x1 (sp_vop ((x2 / 64) + 1))))) (As := [.int (nI ch), .int (nI x1), .int (nI (sp_vop ((x2 / 64) + 1)))]) (rest := []) G.fix (mX1_throughOf l D q cI cZ N S fv th A hok ch x1 (sp_vop ((x2 / 64) + 1)) (by first | omega | assumption | exact ok6 _ | apply hq) (by first | omega | assumption | exact ok6 _ | apply hq) (by first | omega | assumption | exact ok6 _ | apply hq)) (cwV 3 G.2.2.2.2.2.1 gX1_gapOf_X1_throughOf rfl rfl rfl (by decide +kernel) ⟨Nat.le_of_ble_eq_true rfl, Nat.le_of_ble_eq_true rfl⟩) hX hS rfl hl.1 rfl (Nat.le_of_ble_eq_true rfl) dX1_gapOf_72 (Nat.zero_le _) (Nat.zero_le _) (fun fv H1 locs1 hX hS => ?_)
            refine lv_istore (lv' := [(8, .int (nI (sp_pass S ch x1 (sp_vop ((x2 / 64) + 1))))), (7, .int (nI (sp_pass S ch x1 (sp_vop (x2 / 64))))), (6, .int (nI (x2 / 64))), (5, .int (nI (sp_pass S ch x1 x2))), (0, .ref (q 0)), (1, .int (nI ch)), (2, .int (nI (sp_gapTo S ch (x1 * 256 + x2)))), (3, .int (nI x1)), (4, .int (nI x2))]) G.1 G.2.1 dX1_gapOf_75 hl (by decide) rfl (fun ls hl => ?_)
            refine lv_iload G.1 G.2.1 dX1_gapOf_77 (lv_at hl 8 rfl) ?_
            refine lv_iload G.1 G.2.1 dX1_gapOf_79 (lv_at hl 2 rfl) ?_
            refine gc_s (As := [.int (nI (x2 / 64))]) (rest := [.int (nI x2)]) G.fix (mX1_placeAt l (x2 / 64) (by first | omega | assumption)) (va_cwS 1 G.2.2.2.2.2.1 gX1_gapOf_X1_placeAt rfl rfl rfl (by decide +kernel) ⟨Nat.le_of_ble_eq_true rfl, Nat.le_of_ble_eq_true rfl⟩) gc_blindT (fun _ _ _ => trivial) rfl hl.1 rfl (Nat.le_of_ble_eq_true rfl) dX1_gapOf_81 (Nat.zero_le _) (Nat.zero_le _) (fun r hr => ?_)
            subst hr
            refine gn_isub G dX1_gapOf_84 (by first | omega | (unfold sp_vop; omega)) ?_
            refine lv_istore (lv' := [(9, .int (nI (x2 - (sp_vop (x2 / 64))))), (8, .int (nI (sp_pass S ch x1 (sp_vop ((x2 / 64) + 1))))), (7, .int (nI (sp_pass S ch x1 (sp_vop (x2 / 64))))), (6, .int (nI (x2 / 64))), (5, .int (nI (sp_pass S ch x1 x2))), (0, .ref (q 0)), (1, .int (nI ch)), (2, .int (nI (sp_gapTo S ch (x1 * 256 + x2)))), (3, .int (nI x1)), (4, .int (nI x2))]) G.1 G.2.1 dX1_gapOf_85 hl (by decide) rfl (fun ls hl => ?_)
            refine lv_iload G.1 G.2.1 dX1_gapOf_87 (lv_at hl 0 rfl) ?_
            refine lv_iload G.1 G.2.1 dX1_gapOf_89 (lv_at hl 3 rfl) ?_
            refine lv_iconst (v := nI 1) G.1 G.2.1 dX1_gapOf_91 (by decide) ?_
            refine gn_iadd G dX1_gapOf_92 ?_
            refine gc_s (As := [.int (nI ((x2 / 64) + 1))]) (rest := [.int (nI (x2 - (sp_vop (x2 / 64))))]) G.fix (mX1_placeAt l ((x2 / 64) + 1) (by first | omega | assumption)) (va_cwS 1 G.2.2.2.2.2.1 gX1_gapOf_X1_placeAt rfl rfl rfl (by decide +kernel) ⟨Nat.le_of_ble_eq_true rfl, Nat.le_of_ble_eq_true rfl⟩) gc_blindT (fun _ _ _ => trivial) rfl hl.1 rfl (Nat.le_of_ble_eq_true rfl) dX1_gapOf_93 (Nat.zero_le _) (Nat.zero_le _) (fun r hr => ?_)
            subst hr
            refine lv_iload G.1 G.2.1 dX1_gapOf_96 (lv_at hl 3 rfl) ?_
            refine gc_s (As := [.int (nI (x2 / 64))]) (rest := [.int (nI (sp_vop ((x2 / 64) + 1))), .int (nI (x2 - (sp_vop (x2 / 64))))]) G.fix (mX1_placeAt l (x2 / 64) (by first | omega | assumption)) (va_cwS 1 G.2.2.2.2.2.1 gX1_gapOf_X1_placeAt rfl rfl rfl (by decide +kernel) ⟨Nat.le_of_ble_eq_true rfl, Nat.le_of_ble_eq_true rfl⟩) gc_blindT (fun _ _ _ => trivial) rfl hl.1 rfl (Nat.le_of_ble_eq_true rfl) dX1_gapOf_98 (Nat.zero_le _) (Nat.zero_le _) (fun r hr => ?_)
            subst hr
            refine gn_isub G dX1_gapOf_101 (by first | omega | (unfold sp_vop; omega)) ?_
            refine gn_ne G (by first | omega | (unfold sp_vop; omega)) (by first | omega | (unfold sp_vop; omega)) (tgt := 110) dX1_gapOf_102 (by decide) (fun h_102 => ?_) (fun h_102 => absurd h_102 (by unfold sp_vop; omega))
            refine lv_iload G.1 G.2.1 dX1_gapOf_110 (lv_at hl 2 rfl) ?_
            refine lv_iload G.1 G.2.1 dX1_gapOf_112 (lv_at hl 1 rfl) ?_
            refine lv_iload G.1 G.2.1 dX1_gapOf_114 (lv_at hl 2 rfl) ?_
            refine lv_isub G.1 G.2.1 dX1_gapOf_116 ?_
            refine lv_iload G.1 G.2.1 dX1_gapOf_117 (lv_at hl 0 rfl) ?_
            refine lv_imul G.1 G.2.1 dX1_gapOf_119 ?_
            refine lv_topi (fun z ez => ?_)
            have hk4 : x2 / 64 < 4 := by omega
            have hlo : sp_vop (x2 / 64) ≤ x2 := by unfold sp_vop; omega
            have hh2 : x2 < sp_vop ((x2 / 64) + 1) := by unfold sp_vop; omega
            have hw9 := sp_vop_w hk4
            have hwp := sp_w_pos (x2 / 64)
            have hwl := sp_w_le (x2 / 64)
            have hC := hpl x1 (sp_vop (x2 / 64)) sp_vop_le
            have hD9 := hpl x1 (sp_vop ((x2 / 64) + 1)) sp_vop_le
            have hzt : z.toInt = ((sp_pass S ch x1 (sp_vop ((x2 / 64) + 1)) : Int) - sp_pass S ch x1 (sp_vop (x2 / 64))) * ((x2 - sp_vop (x2 / 64) : Nat) : Int) ∧ -16320 ≤ z.toInt ∧ z.toInt ≤ 16320 := by rw [ez]; exact gp_prod hC hD9 (by omega)
            refine lv_iload G.1 G.2.1 dX1_gapOf_120 (lv_at hl 3 rfl) ?_
            refine lv_iconst (v := nI 1) G.1 G.2.1 dX1_gapOf_122 (by decide) ?_
            refine gn_iadd G dX1_gapOf_123 ?_
            refine gc_s (As := [.int (nI ((x2 / 64) + 1))]) (rest := [.int z, .int (nI (sp_pass S ch x1 (sp_vop (x2 / 64))))]) G.fix (mX1_placeAt l ((x2 / 64) + 1) (by first | omega | assumption)) (va_cwS 1 G.2.2.2.2.2.1 gX1_gapOf_X1_placeAt rfl rfl rfl (by decide +kernel) ⟨Nat.le_of_ble_eq_true rfl, Nat.le_of_ble_eq_true rfl⟩) gc_blindT (fun _ _ _ => trivial) rfl hl.1 rfl (Nat.le_of_ble_eq_true rfl) dX1_gapOf_124 (Nat.zero_le _) (Nat.zero_le _) (fun r hr => ?_)
            subst hr
            refine lv_iload G.1 G.2.1 dX1_gapOf_127 (lv_at hl 3 rfl) ?_
            refine gc_s (As := [.int (nI (x2 / 64))]) (rest := [.int (nI (sp_vop ((x2 / 64) + 1))), .int z, .int (nI (sp_pass S ch x1 (sp_vop (x2 / 64))))]) G.fix (mX1_placeAt l (x2 / 64) (by first | omega | assumption)) (va_cwS 1 G.2.2.2.2.2.1 gX1_gapOf_X1_placeAt rfl rfl rfl (by decide +kernel) ⟨Nat.le_of_ble_eq_true rfl, Nat.le_of_ble_eq_true rfl⟩) gc_blindT (fun _ _ _ => trivial) rfl hl.1 rfl (Nat.le_of_ble_eq_true rfl) dX1_gapOf_129 (Nat.zero_le _) (Nat.zero_le _) (fun r hr => ?_)
            subst hr
            refine gn_isub G dX1_gapOf_132 (by first | omega | (unfold sp_vop; omega)) ?_
            refine gc_s (As := [.int z, .int (nI ((sp_vop ((x2 / 64) + 1)) - (sp_vop (x2 / 64))))]) (rest := [.int (nI (sp_pass S ch x1 (sp_vop (x2 / 64))))]) G.fix (mX1_quotient l z (nI ((sp_vop ((x2 / 64) + 1)) - (sp_vop (x2 / 64)))) (by omega) (by rw [nI_toInt (by omega)]; omega)) (va_cwS 2 G.2.2.2.2.2.1 gX1_gapOf_X1_quotient rfl rfl rfl (by decide +kernel) ⟨Nat.le_of_ble_eq_true rfl, Nat.le_of_ble_eq_true rfl⟩) gc_blindT (fun _ _ _ => trivial) rfl hl.1 rfl (Nat.le_of_ble_eq_true rfl) dX1_gapOf_133 (Nat.zero_le _) (Nat.zero_le _) (fun r hr => ?_)
            refine lv_iadd G.1 G.2.1 dX1_gapOf_136 ?_
            rw [show nI (sp_pass S ch x1 (sp_vop (x2 / 64))) + r = nI (sp_btw (fun k => sp_pass S ch x1 (sp_vop k)) 0 x2) from gp_btwR (w := (sp_vop ((x2 / 64) + 1)) - (sp_vop (x2 / 64))) (sp_btw_in (g := (fun k => sp_pass S ch x1 (sp_vop k))) hk4 hlo hh2) rfl hr hzt.1 (by omega) (by omega) (by omega) hC hD9]
            refine lv_istore (lv' := [(10, .int (nI (sp_btw (fun k => sp_pass S ch x1 (sp_vop k)) 0 x2))), (9, .int (nI (x2 - (sp_vop (x2 / 64))))), (8, .int (nI (sp_pass S ch x1 (sp_vop ((x2 / 64) + 1))))), (7, .int (nI (sp_pass S ch x1 (sp_vop (x2 / 64))))), (6, .int (nI (x2 / 64))), (5, .int (nI (sp_pass S ch x1 x2))), (0, .ref (q 0)), (1, .int (nI ch)), (2, .int (nI (sp_gapTo S ch (x1 * 256 + x2)))), (3, .int (nI x1)), (4, .int (nI x2))]) G.1 G.2.1 dX1_gapOf_137 hl (by decide) rfl (fun ls hl => ?_)
            refine lv_iload G.1 G.2.1 dX1_gapOf_139 (lv_at hl 5 rfl) ?_
            refine lv_iload G.1 G.2.1 dX1_gapOf_141 (lv_at hl 0 rfl) ?_
            refine gc_s (As := [.int (nI (sp_pass S ch x1 x2)), .int (nI (sp_btw (fun k => sp_pass S ch x1 (sp_vop k)) 0 x2))]) (rest := []) G.fix (mX1_apart l (sp_pass S ch x1 x2) (sp_btw (fun k => sp_pass S ch x1 (sp_vop k)) 0 x2) (by first | omega | assumption) (by first | omega | assumption)) (va_cwS 2 G.2.2.2.2.2.1 gX1_gapOf_X1_apart rfl rfl rfl (by decide +kernel) ⟨Nat.le_of_ble_eq_true rfl, Nat.le_of_ble_eq_true rfl⟩) gc_blindT (fun _ _ _ => trivial) rfl hl.1 rfl (Nat.le_of_ble_eq_true rfl) dX1_gapOf_143 (Nat.zero_le _) (Nat.zero_le _) (fun r hr => ?_)
            subst hr
            refine lv_iload_n G.1 G.2.1 dX1_gapOf_146 rfl (lv_at hl 8 rfl) ?_
            refine gn_le G (by first | omega | assumption) (by first | omega | assumption) (tgt := 160) dX1_gapOf_147 (by decide) (fun h_147 => ?_) (fun h_147 => ?_)
            · refine lv_iload_n G.1 G.2.1 dX1_gapOf_160 rfl (lv_at hl 8 rfl) ?_
              refine lv_istore_n (lv' := [(2, .int (nI (sp_gapTo S ch (x1 * 256 + x2)))), (10, .int (nI (sp_btw (fun k => sp_pass S ch x1 (sp_vop k)) 0 x2))), (9, .int (nI (x2 - (sp_vop (x2 / 64))))), (8, .int (nI (sp_pass S ch x1 (sp_vop ((x2 / 64) + 1))))), (7, .int (nI (sp_pass S ch x1 (sp_vop (x2 / 64))))), (6, .int (nI (x2 / 64))), (5, .int (nI (sp_pass S ch x1 x2))), (0, .ref (q 0)), (1, .int (nI ch)), (3, .int (nI x1)), (4, .int (nI x2))]) G.1 G.2.1 dX1_gapOf_161 rfl hl (by decide) rfl (fun ls hl => ?_)
              refine gn_iinc (lv' := [(4, .int (nI (x2 + 1))), (2, .int (nI (sp_gapTo S ch (x1 * 256 + x2)))), (10, .int (nI (sp_btw (fun k => sp_pass S ch x1 (sp_vop k)) 0 x2))), (9, .int (nI (x2 - (sp_vop (x2 / 64))))), (8, .int (nI (sp_pass S ch x1 (sp_vop ((x2 / 64) + 1))))), (7, .int (nI (sp_pass S ch x1 (sp_vop (x2 / 64))))), (6, .int (nI (x2 / 64))), (5, .int (nI (sp_pass S ch x1 x2))), (0, .ref (q 0)), (1, .int (nI ch)), (3, .int (nI x1))]) (n := 1) G dX1_gapOf_162 hl (k := 10) rfl (by decide) rfl (fun ls hl => ?_)
              refine lv_goto (tgt := 12) G.1 G.2.1 dX1_gapOf_165 (by decide) ?_
              exact ih2 (x2 + 1) (by omega) _ _ _ (mAt_cast (rfl) hX) hS _ (by rw [show sp_gapTo S ch (x1 * 256 + (x2 + 1)) = sp_gapTo S ch (x1 * 256 + x2) from by rw [sp_gapTo_m (by omega)]; omega]; exact lv_sub hl [8, 9, 1, 10, 0] rfl)
            · refine lv_iload G.1 G.2.1 dX1_gapOf_150 (lv_at hl 5 rfl) ?_
              refine lv_iload G.1 G.2.1 dX1_gapOf_152 (lv_at hl 0 rfl) ?_
              refine gc_s (As := [.int (nI (sp_pass S ch x1 x2)), .int (nI (sp_btw (fun k => sp_pass S ch x1 (sp_vop k)) 0 x2))]) (rest := []) G.fix (mX1_apart l (sp_pass S ch x1 x2) (sp_btw (fun k => sp_pass S ch x1 (sp_vop k)) 0 x2) (by first | omega | assumption) (by first | omega | assumption)) (va_cwS 2 G.2.2.2.2.2.1 gX1_gapOf_X1_apart rfl rfl rfl (by decide +kernel) ⟨Nat.le_of_ble_eq_true rfl, Nat.le_of_ble_eq_true rfl⟩) gc_blindT (fun _ _ _ => trivial) rfl hl.1 rfl (Nat.le_of_ble_eq_true rfl) dX1_gapOf_154 (Nat.zero_le _) (Nat.zero_le _) (fun r hr => ?_)
              subst hr
              refine lv_goto (tgt := 161) G.1 G.2.1 dX1_gapOf_157 (by decide) ?_
              refine lv_istore_n (lv' := [(2, .int (nI (sp_ap (sp_pass S ch x1 x2) (sp_btw (fun k => sp_pass S ch x1 (sp_vop k)) 0 x2)))), (10, .int (nI (sp_btw (fun k => sp_pass S ch x1 (sp_vop k)) 0 x2))), (9, .int (nI (x2 - (sp_vop (x2 / 64))))), (8, .int (nI (sp_pass S ch x1 (sp_vop ((x2 / 64) + 1))))), (7, .int (nI (sp_pass S ch x1 (sp_vop (x2 / 64))))), (6, .int (nI (x2 / 64))), (5, .int (nI (sp_pass S ch x1 x2))), (0, .ref (q 0)), (1, .int (nI ch)), (3, .int (nI x1)), (4, .int (nI x2))]) G.1 G.2.1 dX1_gapOf_161 rfl hl (by decide) rfl (fun ls hl => ?_)
              refine gn_iinc (lv' := [(4, .int (nI (x2 + 1))), (2, .int (nI (sp_ap (sp_pass S ch x1 x2) (sp_btw (fun k => sp_pass S ch x1 (sp_vop k)) 0 x2)))), (10, .int (nI (sp_btw (fun k => sp_pass S ch x1 (sp_vop k)) 0 x2))), (9, .int (nI (x2 - (sp_vop (x2 / 64))))), (8, .int (nI (sp_pass S ch x1 (sp_vop ((x2 / 64) + 1))))), (7, .int (nI (sp_pass S ch x1 (sp_vop (x2 / 64))))), (6, .int (nI (x2 / 64))), (5, .int (nI (sp_pass S ch x1 x2))), (0, .ref (q 0)), (1, .int (nI ch)), (3, .int (nI x1))]) (n := 1) G dX1_gapOf_162 hl (k := 10) rfl (by decide) rfl (fun ls hl => ?_)
              refine lv_goto (tgt := 12) G.1 G.2.1 dX1_gapOf_165 (by decide) ?_
              exact ih2 (x2 + 1) (by omega) _ _ _ (mAt_cast (rfl) hX) hS _ (by rw [show sp_gapTo S ch (x1 * 256 + (x2 + 1)) = sp_ap (sp_pass S ch x1 x2) (sp_btw (fun k => sp_pass S ch x1 (sp_vop k)) 0 x2) from by rw [sp_gapTo_m (by omega)]; omega]; exact lv_sub hl [8, 9, 1, 10, 0] rfl)
          · refine lv_iconst (v := nI 3) G.1 G.2.1 dX1_gapOf_38 (by decide) ?_
            refine lv_goto (tgt := 47) G.1 G.2.1 dX1_gapOf_39 (by decide) ?_
            have hpa := hpl x1 x2 (by omega)
            have hpb : sp_btw (fun k => sp_pass S ch x1 (sp_vop k)) 0 x2 ≤ 255 := sp_btw_le (fun j => hpl _ _ sp_vop_le) (by omega)
            have hgl := sp_gapTo_le hok (ch := ch) (x1 * 256 + x2)
            have hap := sp_ap_le hpa hpb
            refine lv_istore (lv' := [(6, .int (nI 3)), (5, .int (nI (sp_pass S ch x1 x2))), (0, .ref (q 0)), (1, .int (nI ch)), (2, .int (nI (sp_gapTo S ch (x1 * 256 + x2)))), (3, .int (nI x1)), (4, .int (nI x2))]) G.1 G.2.1 dX1_gapOf_47 hl (by decide) rfl (fun ls hl => ?_)
            refine lv_aload_n G.1 G.2.1 dX1_gapOf_49 rfl (lv_at hl 2 rfl) ?_
            refine lv_iload_n G.1 G.2.1 dX1_gapOf_50 rfl (lv_at hl 3 rfl) ?_
            refine lv_iload_n G.1 G.2.1 dX1_gapOf_51 rfl (lv_at hl 5 rfl) ?_
            refine lv_iload G.1 G.2.1 dX1_gapOf_52 (lv_at hl 0 rfl) ?_
            refine gc_s (As := [.int (nI 3)]) (rest := [.int (nI x1), .int (nI ch), .ref (q 0)]) G.fix (mX1_placeAt l 3 (by first | omega | assumption)) (va_cwS 1 G.2.2.2.2.2.1 gX1_gapOf_X1_placeAt rfl rfl rfl (by decide +kernel) ⟨Nat.le_of_ble_eq_true rfl, Nat.le_of_ble_eq_true rfl⟩) gc_blindT (fun _ _ _ => trivial) rfl hl.1 rfl (Nat.le_of_ble_eq_true rfl) dX1_gapOf_54 (Nat.zero_le _) (Nat.zero_le _) (fun r hr => ?_)
            subst hr
            refine gm_mut (N' := N) (S' := S) (th' := th) (r := (nI (sp_pass S ch x1 (sp_vop 3)))) (As := [.int (nI ch), .int (nI x1), .int (nI (sp_vop 3))]) (rest := []) G.fix (mX1_throughOf l D q cI cZ N S fv th A hok ch x1 (sp_vop 3) (by first | omega | assumption | exact ok6 _ | apply hq) (by first | omega | assumption | exact ok6 _ | apply hq) (by first | omega | assumption | exact ok6 _ | apply hq)) (cwV 3 G.2.2.2.2.2.1 gX1_gapOf_X1_throughOf rfl rfl rfl (by decide +kernel) ⟨Nat.le_of_ble_eq_true rfl, Nat.le_of_ble_eq_true rfl⟩) hX hS rfl hl.1 rfl (Nat.le_of_ble_eq_true rfl) dX1_gapOf_57 (Nat.zero_le _) (Nat.zero_le _) (fun fv H1 locs1 hX hS => ?_)
            refine lv_istore (lv' := [(7, .int (nI (sp_pass S ch x1 (sp_vop 3)))), (6, .int (nI 3)), (5, .int (nI (sp_pass S ch x1 x2))), (0, .ref (q 0)), (1, .int (nI ch)), (2, .int (nI (sp_gapTo S ch (x1 * 256 + x2)))), (3, .int (nI x1)), (4, .int (nI x2))]) G.1 G.2.1 dX1_gapOf_60 hl (by decide) rfl (fun ls hl => ?_)
            refine lv_aload_n G.1 G.2.1 dX1_gapOf_62 rfl (lv_at hl 3 rfl) ?_
            refine lv_iload_n G.1 G.2.1 dX1_gapOf_63 rfl (lv_at hl 4 rfl) ?_
            refine lv_iload_n G.1 G.2.1 dX1_gapOf_64 rfl (lv_at hl 6 rfl) ?_
            refine lv_iload G.1 G.2.1 dX1_gapOf_65 (lv_at hl 1 rfl) ?_
            refine lv_iconst (v := nI 1) G.1 G.2.1 dX1_gapOf_67 (by decide) ?_
            refine gn_iadd G dX1_gapOf_68 ?_
            refine gc_s (As := [.int (nI (3 + 1))]) (rest := [.int (nI x1), .int (nI ch), .ref (q 0)]) G.fix (mX1_placeAt l (3 + 1) (by first | omega | assumption)) (va_cwS 1 G.2.2.2.2.2.1 gX1_gapOf_X1_placeAt rfl rfl rfl (by decide +kernel) ⟨Nat.le_of_ble_eq_true rfl, Nat.le_of_ble_eq_true rfl⟩) gc_blindT (fun _ _ _ => trivial) rfl hl.1 rfl (Nat.le_of_ble_eq_true rfl) dX1_gapOf_69 (Nat.zero_le _) (Nat.zero_le _) (fun r hr => ?_)
            subst hr
            refine gm_mut (N' := N) (S' := S) (th' := th) (r := (nI (sp_pass S ch x1 (sp_vop (3 + 1))))) (As := [.int (nI ch), .int (nI x1), .int (nI (sp_vop (3 + 1)))]) (rest := []) G.fix (mX1_throughOf l D q cI cZ N S fv th A hok ch x1 (sp_vop (3 + 1)) (by first | omega | assumption | exact ok6 _ | apply hq) (by first | omega | assumption | exact ok6 _ | apply hq) (by first | omega | assumption | exact ok6 _ | apply hq)) (cwV 3 G.2.2.2.2.2.1 gX1_gapOf_X1_throughOf rfl rfl rfl (by decide +kernel) ⟨Nat.le_of_ble_eq_true rfl, Nat.le_of_ble_eq_true rfl⟩) hX hS rfl hl.1 rfl (Nat.le_of_ble_eq_true rfl) dX1_gapOf_72 (Nat.zero_le _) (Nat.zero_le _) (fun fv H1 locs1 hX hS => ?_)
            refine lv_istore (lv' := [(8, .int (nI (sp_pass S ch x1 (sp_vop (3 + 1))))), (7, .int (nI (sp_pass S ch x1 (sp_vop 3)))), (6, .int (nI 3)), (5, .int (nI (sp_pass S ch x1 x2))), (0, .ref (q 0)), (1, .int (nI ch)), (2, .int (nI (sp_gapTo S ch (x1 * 256 + x2)))), (3, .int (nI x1)), (4, .int (nI x2))]) G.1 G.2.1 dX1_gapOf_75 hl (by decide) rfl (fun ls hl => ?_)
            refine lv_iload G.1 G.2.1 dX1_gapOf_77 (lv_at hl 8 rfl) ?_
            refine lv_iload G.1 G.2.1 dX1_gapOf_79 (lv_at hl 2 rfl) ?_
            refine gc_s (As := [.int (nI 3)]) (rest := [.int (nI x2)]) G.fix (mX1_placeAt l 3 (by first | omega | assumption)) (va_cwS 1 G.2.2.2.2.2.1 gX1_gapOf_X1_placeAt rfl rfl rfl (by decide +kernel) ⟨Nat.le_of_ble_eq_true rfl, Nat.le_of_ble_eq_true rfl⟩) gc_blindT (fun _ _ _ => trivial) rfl hl.1 rfl (Nat.le_of_ble_eq_true rfl) dX1_gapOf_81 (Nat.zero_le _) (Nat.zero_le _) (fun r hr => ?_)
            subst hr
            refine gn_isub G dX1_gapOf_84 (by first | omega | (unfold sp_vop; omega)) ?_
            refine lv_istore (lv' := [(9, .int (nI (x2 - (sp_vop 3)))), (8, .int (nI (sp_pass S ch x1 (sp_vop (3 + 1))))), (7, .int (nI (sp_pass S ch x1 (sp_vop 3)))), (6, .int (nI 3)), (5, .int (nI (sp_pass S ch x1 x2))), (0, .ref (q 0)), (1, .int (nI ch)), (2, .int (nI (sp_gapTo S ch (x1 * 256 + x2)))), (3, .int (nI x1)), (4, .int (nI x2))]) G.1 G.2.1 dX1_gapOf_85 hl (by decide) rfl (fun ls hl => ?_)
            refine lv_iload G.1 G.2.1 dX1_gapOf_87 (lv_at hl 0 rfl) ?_
            refine lv_iload G.1 G.2.1 dX1_gapOf_89 (lv_at hl 3 rfl) ?_
            refine lv_iconst (v := nI 1) G.1 G.2.1 dX1_gapOf_91 (by decide) ?_
            refine gn_iadd G dX1_gapOf_92 ?_
            refine gc_s (As := [.int (nI (3 + 1))]) (rest := [.int (nI (x2 - (sp_vop 3)))]) G.fix (mX1_placeAt l (3 + 1) (by first | omega | assumption)) (va_cwS 1 G.2.2.2.2.2.1 gX1_gapOf_X1_placeAt rfl rfl rfl (by decide +kernel) ⟨Nat.le_of_ble_eq_true rfl, Nat.le_of_ble_eq_true rfl⟩) gc_blindT (fun _ _ _ => trivial) rfl hl.1 rfl (Nat.le_of_ble_eq_true rfl) dX1_gapOf_93 (Nat.zero_le _) (Nat.zero_le _) (fun r hr => ?_)
            subst hr
            refine lv_iload G.1 G.2.1 dX1_gapOf_96 (lv_at hl 3 rfl) ?_
            refine gc_s (As := [.int (nI 3)]) (rest := [.int (nI (sp_vop (3 + 1))), .int (nI (x2 - (sp_vop 3)))]) G.fix (mX1_placeAt l 3 (by first | omega | assumption)) (va_cwS 1 G.2.2.2.2.2.1 gX1_gapOf_X1_placeAt rfl rfl rfl (by decide +kernel) ⟨Nat.le_of_ble_eq_true rfl, Nat.le_of_ble_eq_true rfl⟩) gc_blindT (fun _ _ _ => trivial) rfl hl.1 rfl (Nat.le_of_ble_eq_true rfl) dX1_gapOf_98 (Nat.zero_le _) (Nat.zero_le _) (fun r hr => ?_)
            subst hr
            refine gn_isub G dX1_gapOf_101 (by first | omega | (unfold sp_vop; omega)) ?_
            refine gn_ne G (by first | omega | (unfold sp_vop; omega)) (by first | omega | (unfold sp_vop; omega)) (tgt := 110) dX1_gapOf_102 (by decide) (fun h_102 => absurd (by unfold sp_vop; omega) h_102) (fun h_102 => ?_)
            refine lv_iload G.1 G.2.1 dX1_gapOf_105 (lv_at hl 1 rfl) ?_
            rw [show sp_pass S ch x1 (sp_vop (3 + 1)) = sp_btw (fun k => sp_pass S ch x1 (sp_vop k)) 0 x2 from (sp_btw_pl (g := (fun k => sp_pass S ch x1 (sp_vop k))) (k := 4) (by decide) (by rw [h_35]; rfl)).symm]
            refine lv_goto (tgt := 137) G.1 G.2.1 dX1_gapOf_107 (by decide) ?_
            refine lv_istore (lv' := [(10, .int (nI (sp_btw (fun k => sp_pass S ch x1 (sp_vop k)) 0 x2))), (9, .int (nI (x2 - (sp_vop 3)))), (8, .int (nI (sp_pass S ch x1 (sp_vop (3 + 1))))), (7, .int (nI (sp_pass S ch x1 (sp_vop 3)))), (6, .int (nI 3)), (5, .int (nI (sp_pass S ch x1 x2))), (0, .ref (q 0)), (1, .int (nI ch)), (2, .int (nI (sp_gapTo S ch (x1 * 256 + x2)))), (3, .int (nI x1)), (4, .int (nI x2))]) G.1 G.2.1 dX1_gapOf_137 hl (by decide) rfl (fun ls hl => ?_)
            refine lv_iload G.1 G.2.1 dX1_gapOf_139 (lv_at hl 5 rfl) ?_
            refine lv_iload G.1 G.2.1 dX1_gapOf_141 (lv_at hl 0 rfl) ?_
            refine gc_s (As := [.int (nI (sp_pass S ch x1 x2)), .int (nI (sp_btw (fun k => sp_pass S ch x1 (sp_vop k)) 0 x2))]) (rest := []) G.fix (mX1_apart l (sp_pass S ch x1 x2) (sp_btw (fun k => sp_pass S ch x1 (sp_vop k)) 0 x2) (by first | omega | assumption) (by first | omega | assumption)) (va_cwS 2 G.2.2.2.2.2.1 gX1_gapOf_X1_apart rfl rfl rfl (by decide +kernel) ⟨Nat.le_of_ble_eq_true rfl, Nat.le_of_ble_eq_true rfl⟩) gc_blindT (fun _ _ _ => trivial) rfl hl.1 rfl (Nat.le_of_ble_eq_true rfl) dX1_gapOf_143 (Nat.zero_le _) (Nat.zero_le _) (fun r hr => ?_)
            subst hr
            refine lv_iload_n G.1 G.2.1 dX1_gapOf_146 rfl (lv_at hl 8 rfl) ?_
            refine gn_le G (by first | omega | assumption) (by first | omega | assumption) (tgt := 160) dX1_gapOf_147 (by decide) (fun h_147 => ?_) (fun h_147 => ?_)
            · refine lv_iload_n G.1 G.2.1 dX1_gapOf_160 rfl (lv_at hl 8 rfl) ?_
              refine lv_istore_n (lv' := [(2, .int (nI (sp_gapTo S ch (x1 * 256 + x2)))), (10, .int (nI (sp_btw (fun k => sp_pass S ch x1 (sp_vop k)) 0 x2))), (9, .int (nI (x2 - (sp_vop 3)))), (8, .int (nI (sp_pass S ch x1 (sp_vop (3 + 1))))), (7, .int (nI (sp_pass S ch x1 (sp_vop 3)))), (6, .int (nI 3)), (5, .int (nI (sp_pass S ch x1 x2))), (0, .ref (q 0)), (1, .int (nI ch)), (3, .int (nI x1)), (4, .int (nI x2))]) G.1 G.2.1 dX1_gapOf_161 rfl hl (by decide) rfl (fun ls hl => ?_)
              refine gn_iinc (lv' := [(4, .int (nI (x2 + 1))), (2, .int (nI (sp_gapTo S ch (x1 * 256 + x2)))), (10, .int (nI (sp_btw (fun k => sp_pass S ch x1 (sp_vop k)) 0 x2))), (9, .int (nI (x2 - (sp_vop 3)))), (8, .int (nI (sp_pass S ch x1 (sp_vop (3 + 1))))), (7, .int (nI (sp_pass S ch x1 (sp_vop 3)))), (6, .int (nI 3)), (5, .int (nI (sp_pass S ch x1 x2))), (0, .ref (q 0)), (1, .int (nI ch)), (3, .int (nI x1))]) (n := 1) G dX1_gapOf_162 hl (k := 10) rfl (by decide) rfl (fun ls hl => ?_)
              refine lv_goto (tgt := 12) G.1 G.2.1 dX1_gapOf_165 (by decide) ?_
              exact ih2 (x2 + 1) (by omega) _ _ _ (mAt_cast (rfl) hX) hS _ (by rw [show sp_gapTo S ch (x1 * 256 + (x2 + 1)) = sp_gapTo S ch (x1 * 256 + x2) from by rw [sp_gapTo_m (by omega)]; omega]; exact lv_sub hl [8, 9, 1, 10, 0] rfl)
            · refine lv_iload G.1 G.2.1 dX1_gapOf_150 (lv_at hl 5 rfl) ?_
              refine lv_iload G.1 G.2.1 dX1_gapOf_152 (lv_at hl 0 rfl) ?_
              refine gc_s (As := [.int (nI (sp_pass S ch x1 x2)), .int (nI (sp_btw (fun k => sp_pass S ch x1 (sp_vop k)) 0 x2))]) (rest := []) G.fix (mX1_apart l (sp_pass S ch x1 x2) (sp_btw (fun k => sp_pass S ch x1 (sp_vop k)) 0 x2) (by first | omega | assumption) (by first | omega | assumption)) (va_cwS 2 G.2.2.2.2.2.1 gX1_gapOf_X1_apart rfl rfl rfl (by decide +kernel) ⟨Nat.le_of_ble_eq_true rfl, Nat.le_of_ble_eq_true rfl⟩) gc_blindT (fun _ _ _ => trivial) rfl hl.1 rfl (Nat.le_of_ble_eq_true rfl) dX1_gapOf_154 (Nat.zero_le _) (Nat.zero_le _) (fun r hr => ?_)
              subst hr
              refine lv_goto (tgt := 161) G.1 G.2.1 dX1_gapOf_157 (by decide) ?_
              refine lv_istore_n (lv' := [(2, .int (nI (sp_ap (sp_pass S ch x1 x2) (sp_btw (fun k => sp_pass S ch x1 (sp_vop k)) 0 x2)))), (10, .int (nI (sp_btw (fun k => sp_pass S ch x1 (sp_vop k)) 0 x2))), (9, .int (nI (x2 - (sp_vop 3)))), (8, .int (nI (sp_pass S ch x1 (sp_vop (3 + 1))))), (7, .int (nI (sp_pass S ch x1 (sp_vop 3)))), (6, .int (nI 3)), (5, .int (nI (sp_pass S ch x1 x2))), (0, .ref (q 0)), (1, .int (nI ch)), (3, .int (nI x1)), (4, .int (nI x2))]) G.1 G.2.1 dX1_gapOf_161 rfl hl (by decide) rfl (fun ls hl => ?_)
              refine gn_iinc (lv' := [(4, .int (nI (x2 + 1))), (2, .int (nI (sp_ap (sp_pass S ch x1 x2) (sp_btw (fun k => sp_pass S ch x1 (sp_vop k)) 0 x2)))), (10, .int (nI (sp_btw (fun k => sp_pass S ch x1 (sp_vop k)) 0 x2))), (9, .int (nI (x2 - (sp_vop 3)))), (8, .int (nI (sp_pass S ch x1 (sp_vop (3 + 1))))), (7, .int (nI (sp_pass S ch x1 (sp_vop 3)))), (6, .int (nI 3)), (5, .int (nI (sp_pass S ch x1 x2))), (0, .ref (q 0)), (1, .int (nI ch)), (3, .int (nI x1))]) (n := 1) G dX1_gapOf_162 hl (k := 10) rfl (by decide) rfl (fun ls hl => ?_)
              refine lv_goto (tgt := 12) G.1 G.2.1 dX1_gapOf_165 (by decide) ?_
              exact ih2 (x2 + 1) (by omega) _ _ _ (mAt_cast (rfl) hX) hS _ (by rw [show sp_gapTo S ch (x1 * 256 + (x2 + 1)) = sp_ap (sp_pass S ch x1 x2) (sp_btw (fun k => sp_pass S ch x1 (sp_vop k)) 0 x2) from by rw [sp_gapTo_m (by omega)]; omega]; exact lv_sub hl [8, 9, 1, 10, 0] rfl)
      exact loop2 256 0 (by omega) _ _ _ (mAt_cast (rfl) hX) hS _ (lv_sub hl [1, 2, 3, 4, 0] rfl)
  exact loop1 3 0 (by omega) _ _ _ (mAt_cast (rfl) hX) hS _ (lv_sub hl [2, 3, 1, 0] rfl)
