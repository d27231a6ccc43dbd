/-! the reference's public calls */ -/
section GN3
variable {p : Program} {l : Launch} {e : Env} {R : Room} {s : State} {m : MethodId} {args : Array Value} {below : List Frame} {meth : Method} {c : Code} {H : Heap} {locs : List Loc} {cells slots : Nat} {Q : State → Prop}
variable {cc : ByteArray} {nL pc index : Nat} {ret : Option FieldType} {ws : List Cond} {own : String} {rest : List Value} {ls : Array Slot} {a b : Nat}
theorem gn_irem (G : gF p s m args meth c cc ret nL own ws) (d : decode cc pc = .ok (.irem, 1)) (ha : a < 2 ^ 31) (h0 : 0 < b) (hb : b < 2 ^ 31) (k : W p l e R s m args below meth c H locs cells slots Q (F0 m (pc + 1) ls (.int (nI (a % b)) :: rest))) : W p l e R s m args below meth c H locs cells slots Q (F0 m pc ls (.int (nI b) :: .int (nI a) :: rest)) :=
  lv_irem G.1 G.2.1 d (nI_ne0 h0 hb) (by rw [pk_rem ha h0 hb]; exact k)
theorem gn_ishr (G : gF p s m args meth c cc ret nL own ws) (d : decode cc pc = .ok (.ishr, 1)) (ha : a < 2 ^ 31) (hb : b < 32) (k : W p l e R s m args below meth c H locs cells slots Q (F0 m (pc + 1) ls (.int (nI (a / 2 ^ b)) :: rest))) : W p l e R s m args below meth c H locs cells slots Q (F0 m pc ls (.int (nI b) :: .int (nI a) :: rest)) :=
  lv_ishr G.1 G.2.1 d (by rw [pk_shrN ha _ b (s_l b hb)]; exact k)
theorem gn_iand1 (G : gF p s m args meth c cc ret nL own ws) (d : decode cc pc = .ok (.iand, 1)) (k : W p l e R s m args below meth c H locs cells slots Q (F0 m (pc + 1) ls (.int (nI (sp_bit a b)) :: rest))) : W p l e R s m args below meth c H locs cells slots Q (F0 m pc ls (.int (nI 1) :: .int (nI (a / 2 ^ b)) :: rest)) :=
  lv_iand G.1 G.2.1 d (by rw [show nI 1 = nI (2 ^ 1 - 1) from rfl, fa_mask]; exact k)
theorem gn_lez (G : gF p s m args meth c cc ret nL own ws) (ha : a < 2 ^ 31) {off : Int} {tgt : Nat} (d : decode cc pc = .ok (.ifCond .le off, 3)) (ht : (pc : Int) + off = (tgt : Int))
    (kt : a = 0 → W p l e R s m args below meth c H locs cells slots Q (F0 m tgt ls rest)) (kf : 0 < a → W p l e R s m args below meth c H locs cells slots Q (F0 m (pc + 3) ls rest)) : W p l e R s m args below meth c H locs cells slots Q (F0 m pc ls (.int (nI a) :: rest)) :=
  lv_if_le G.1 G.2.1 d ht (fun h => kt (by have h2 := (nI_leI (b := 0) ha (by decide)).mp h; omega)) (fun h => kf (Nat.pos_of_ne_zero (fun z => h (by rw [z]; decide))))
end GN3
theorem sp_hin_eq {S : Nat → Nat → Nat} {pf c a : Nat} (ha : a < 2) : ∀ k, sp_hin S pf c a k = if a ≠ 0 ∨ (S 10 c ≠ 0 ∧ (sp_ofTo S c k).testBit pf = true) then 1 else 0
  | 0 => by
    show a = _
    rcases (by omega : a = 0 ∨ a = 1) with h | h <;> subst h
    · rw [if_neg]
      rintro (z | ⟨_, z⟩)
      · exact z rfl
      · unfold sp_ofTo at z
        simp at z
    · rw [if_pos (Or.inl (by decide))]
  | k + 1 => by
    show (if sp_hin S pf c a k ≠ 0 then 1 else if S 10 c ≠ 0 ∧ S 6 (c * 6 + k) = pf then 1 else 0) = _
    have e : (sp_ofTo S c (k + 1)).testBit pf = ((sp_ofTo S c k).testBit pf || decide (S 6 (c * 6 + k) = pf)) := by
      show (sp_ofTo S c k ||| 2 ^ (S 6 (c * 6 + k))).testBit pf = _
      rw [Nat.testBit_or, Nat.testBit_two_pow]
    rw [e, sp_hin_eq ha k]
    by_cases h1 : a ≠ 0
    · rw [if_pos (Or.inl h1), if_pos (by decide), if_pos (Or.inl h1)]
    by_cases h2 : S 10 c ≠ 0
    · cases h3 : (sp_ofTo S c k).testBit pf with
      | true => simp [h1, h2, h3]
      | false =>
        by_cases h4 : S 6 (c * 6 + k) = pf <;> simp [h1, h2, h3, h4]
    · simp [h1, h2]
theorem sp_hout_to {N : Nat → Nat} {S : Nat → Nat → Nat} {pf : Nat} (hok : sp_ok N S) (hinv : sp_inv N S) : ∀ n, n ≤ N 5 → sp_hout S pf n = sp_bit (sp_heldTo N S n) pf
  | 0, _ => by
    rw [sp_bit_test]
    show 0 = if (0 : Nat).testBit pf = true then 1 else 0
    simp
  | n + 1, hn => by
    have h5 := hok.1.2
    have hs := (hinv.2.2.2.2.2.1 n (by omega)).2
    have hb := sp_bit_lt (N 10) n
    show sp_hin S pf n (sp_hout S pf n) (S 7 n) = _
    rw [sp_hin_eq (sp_hout_lt S pf n), sp_hout_to hok hinv n (by omega), hs, sp_bit_test, sp_bit_test (sp_heldTo N S (n + 1))]
    show _ = if Nat.testBit (if sp_bit (N 10) n = 1 then sp_heldTo N S n ||| sp_of S n else sp_heldTo N S n) pf = true then 1 else 0
    by_cases h1 : sp_bit (N 10) n = 1
    · rw [if_pos h1, Nat.testBit_or]
      have h2 : sp_bit (N 10) n ≠ 0 := by omega
      unfold sp_of
      cases (sp_heldTo N S n).testBit pf <;> cases (sp_ofTo S n (S 7 n)).testBit pf <;> simp [h2]
    · have h2 : sp_bit (N 10) n = 0 := by omega
      rw [if_neg h1]
      cases (sp_heldTo N S n).testBit pf <;> simp [h2]
theorem sp_held_end {N : Nat → Nat} {S : Nat → Nat → Nat} (hinv : sp_inv N S) : ∀ k, sp_heldTo N S (N 5 + k) = sp_heldTo N S (N 5)
  | 0 => rfl
  | k + 1 => by
    rw [← Nat.add_assoc, sp_held_n (by rw [(hinv.2.2.2.2.1 (N 5 + k) (by omega)).2]; decide)]
    exact sp_held_end hinv k
theorem sp_hout_eq {N : Nat → Nat} {S : Nat → Nat → Nat} {pf : Nat} (hok : sp_ok N S) (hinv : sp_inv N S) (_ : pf < 8) : sp_hout S pf (N 5) = sp_bit (sp_held N S) pf := by
  have h5 := hok.1.2
  rw [sp_hout_to hok hinv _ (Nat.le_refl _)]
  unfold sp_held
  rw [show 6 = N 5 + (6 - N 5) from by omega, sp_held_end hinv]
theorem sp_stale_end {N : Nat → Nat} {S : Nat → Nat → Nat} (hinv : sp_inv N S) : ∀ k, sp_staleTo N S (N 5 + k) = sp_staleTo N S (N 5)
  | 0 => rfl
  | k + 1 => by
    rw [← Nat.add_assoc, sp_stale_n (by rw [(hinv.2.2.2.2.1 (N 5 + k) (by omega)).1]; exact fun z => absurd z.1 (by decide))]
    exact sp_stale_end hinv k
theorem sp_stale_all {N : Nat → Nat} {S : Nat → Nat → Nat} (hok : sp_ok N S) (hinv : sp_inv N S) : sp_staleTo N S (N 5) = sp_stale N S := by
  have h5 := hok.1.2
  unfold sp_stale
  rw [show 6 = N 5 + (6 - N 5) from by omega, sp_stale_end hinv]
/-- a set, bit by bit -/
def sp_mh (x : Nat) : Nat → Nat
  | 0 => 0
  | k + 1 => if sp_bit x k = 0 then sp_mh x k else sp_mh x k ||| 2 ^ k
theorem sp_mh_test (x : Nat) : ∀ n i, (sp_mh x n).testBit i = (decide (i < n) && x.testBit i)
  | 0, i => by
    show (0 : Nat).testBit i = _
    simp
  | n + 1, i => by
    have hb := sp_bit_test x n
    show Nat.testBit (if sp_bit x n = 0 then sp_mh x n else sp_mh x n ||| 2 ^ n) i = _
    by_cases h : x.testBit n = true
    · rw [if_pos h] at hb
      rw [if_neg (by omega), Nat.testBit_or, Nat.testBit_two_pow, sp_mh_test x n i]
      by_cases e : n = i
      · subst e; simp [h]
      · have : (i < n + 1) ↔ (i < n) := by omega
        simp [e, this]
    · rw [if_neg h] at hb
      rw [if_pos hb, sp_mh_test x n i]
      by_cases e : n = i
      · subst e; simp [h]
      · have : (i < n + 1) ↔ (i < n) := by omega
        simp [this]
theorem sp_mh_all {x n : Nat} (h : x < 2 ^ n) : sp_mh x n = x := by
  apply Nat.eq_of_testBit_eq
  intro i
  rw [sp_mh_test]
  by_cases e : i < n
  · simp [e]
  · have : x.testBit i = false := Nat.testBit_lt_two_pow (Nat.lt_of_lt_of_le h (Nat.pow_le_pow_right (by decide) (by omega)))
    simp [this]
theorem sp_mh_y {x k : Nat} (h : sp_bit x k = 0) : sp_mh x (k + 1) = sp_mh x k := if_pos h
theorem sp_mh_n {x k : Nat} (h : sp_bit x k ≠ 0) : sp_mh x (k + 1) = sp_mh x k ||| 2 ^ k := if_neg h
theorem sp_ofTo_N {N : Nat → Nat} {S : Nat → Nat → Nat} {c : Nat} (hinv : sp_inv N S) (hc : c < 6) : ∀ k, k ≤ S 7 c → sp_ofTo S c k < 2 ^ (N 0)
  | 0, _ => Nat.two_pow_pos _
  | k + 1, hk => sp_or_lt (sp_ofTo_N hinv hc k (by omega)) (Nat.pow_lt_pow_right (by decide) (hinv.2.2.2.2.2.2 c k hc (by omega)))
theorem sp_heldTo_N {N : Nat → Nat} {S : Nat → Nat → Nat} (hinv : sp_inv N S) : ∀ k, k ≤ 6 → sp_heldTo N S k < 2 ^ (N 0)
  | 0, _ => Nat.two_pow_pos _
  | k + 1, hk => by
    unfold sp_heldTo
    split
    · exact sp_or_lt (sp_heldTo_N hinv k (by omega)) (sp_ofTo_N hinv (by omega) _ (Nat.le_refl _))
    · exact sp_heldTo_N hinv k (by omega)
theorem sp_mh_held {N : Nat → Nat} {S : Nat → Nat → Nat} (hinv : sp_inv N S) : sp_mh (sp_held N S) (N 0) = sp_held N S := sp_mh_all (sp_heldTo_N hinv 6 (Nat.le_refl _))
theorem sp_mh_lt (x : Nat) : ∀ k, k ≤ 8 → sp_mh x k < 2 ^ 8
  | 0, _ => Nat.two_pow_pos _
  | k + 1, hk => by
    unfold sp_mh
    split
    · exact sp_mh_lt x k (by omega)
    · exact sp_or_lt (sp_mh_lt x k (by omega)) (Nat.pow_lt_pow_right (by decide) (by omega))
theorem sp_difm_a {S : Nat → Nat → Nat} {ch k : Nat} (h : sp_difTo S ch k ≠ 0) : sp_difTo S ch (k + 1) = 1 := by
  have := sp_difTo_lt S ch k
  exact if_pos (by omega)
theorem sp_difm_b {S : Nat → Nat → Nat} {ch k : Nat} (h : sp_difTo S ch k = 0) (h2 : S 8 (ch * 15 + k) = sp_pass S ch (k / 5) (sp_vop (k % 5))) : sp_difTo S ch (k + 1) = 0 := by
  show (if sp_difTo S ch k = 1 then 1 else if sp_pass S ch (k / 5) (sp_vop (k % 5)) = S 8 (ch * 15 + k) then 0 else 1) = 0
  rw [if_neg (by omega), if_pos h2.symm]
theorem sp_difm_c {S : Nat → Nat → Nat} {ch k : Nat} (h : sp_difTo S ch k = 0) (h2 : S 8 (ch * 15 + k) ≠ sp_pass S ch (k / 5) (sp_vop (k % 5))) : sp_difTo S ch (k + 1) = 1 := by
  show (if sp_difTo S ch k = 1 then 1 else if sp_pass S ch (k / 5) (sp_vop (k % 5)) = S 8 (ch * 15 + k) then 0 else 1) = 1
  rw [if_neg (by omega), if_neg (fun z => h2 z.symm)]
theorem sp_ap_mm (a b : Nat) : sp_ap a b = max a b - min a b := by unfold sp_ap; split <;> omega
theorem sp_grey_s {S : Nat → Nat → Nat} {ch v : Nat} : sp_greyTo S ch (v + 1) = max (sp_greyTo S ch v) (max (max (max 0 (sp_pass S ch 0 v)) (sp_pass S ch 1 v)) (sp_pass S ch 2 v) - min (min (min 255 (sp_pass S ch 0 v)) (sp_pass S ch 1 v)) (sp_pass S ch 2 v)) := rfl
theorem gp_join_y {g : Nat} {x : Int32} (hg : g ≤ 255) (h : ¬ x < nI g) : sp_m3 1 (gbn (gb x 256)) 1 = gk true (gb x 256) (decide (g ≤ gn x)) := by
  cases hb : gb x 256 with
  | false => rfl
  | true =>
    obtain ⟨j, hj, rfl⟩ := gb_of (by decide) hb
    have h2 : ¬ j < g := fun z => h ((nI_ltI (by omega) (by omega)).mpr z)
    rw [gn_nI (by omega), decide_eq_true (by omega)]
    rfl
theorem gp_join_n {g : Nat} {x : Int32} (hg : g ≤ 255) (h : x < nI g) : sp_m3 1 (gbn (gb x 256)) 0 = gk true (gb x 256) (decide (g ≤ gn x)) := by
  cases hb : gb x 256 with
  | false => rfl
  | true =>
    obtain ⟨j, hj, rfl⟩ := gb_of (by decide) hb
    have h2 : j < g := (nI_ltI (by omega) (by omega)).mp h
    rw [gn_nI (by omega), decide_eq_false (by omega)]
    rfl
theorem gin_b {x : Int32} {lo : Nat} (hl : lo < 256) (h : gin x (nI lo) (nI 255) = true) : ∃ j : Nat, j < 256 ∧ lo ≤ j ∧ x = nI j := by
  unfold gin at h
  rw [decide_eq_true_eq, nI_toInt (by omega), nI_toInt (by decide)] at h
  refine ⟨x.toInt.toNat, by omega, by omega, ?_⟩
  exact gp_nat (by omega) (by omega)
theorem gin_bf {x : Int32} {lo : Nat} (hl : lo < 256) (h : gin x (nI lo) (nI 255) = false) : (gb x 256 && decide (lo ≤ gn x)) = false := by
  unfold gin at h
  rw [decide_eq_false_iff_not, nI_toInt (by omega), nI_toInt (by decide)] at h
  cases hb : gb x 256 with
  | false => rfl
  | true =>
    obtain ⟨j, hj, rfl⟩ := gb_of (by decide) hb
    rw [nI_toInt (by omega)] at h
    rw [gn_nI (by omega), decide_eq_false (by omega)]
    rfl
theorem sp_kp_m {S : Nat → Nat → Nat} {ch x1 x2 : Nat} (h : x2 < 5) : gu (sp_kpTo S ch (x1 * 5 + x2)) (ch * 15 + (x1 * 5 + x2)) (sp_pass S ch x1 (sp_vop x2)) = sp_kpTo S ch (x1 * 5 + (x2 + 1)) := by
  show _ = gu (sp_kpTo S ch (x1 * 5 + x2)) (ch * 15 + (x1 * 5 + x2)) (sp_pass S ch ((x1 * 5 + x2) / 5) (sp_vop ((x1 * 5 + x2) % 5)))
  rw [show (x1 * 5 + x2) / 5 = x1 from by omega, show (x1 * 5 + x2) % 5 = x2 from by omega]
theorem sp_tk_8 {S : Nat → Nat → Nat} {F : Nat → Nat} {p b v : Nat} : sp_tk (gs S 8 F) p b v = sp_tk S p b v := rfl
theorem sp_passTo_8 {S : Nat → Nat → Nat} {F : Nat → Nat} {ch b v : Nat} : ∀ k, sp_passTo (gs S 8 F) ch b v k = sp_passTo S ch b v k
  | 0 => rfl
  | k + 1 => by
    show sp_tk (gs S 8 F) (S 6 (ch * 6 + k)) b (sp_passTo (gs S 8 F) ch b v k) = sp_tk S (S 6 (ch * 6 + k)) b (sp_passTo S ch b v k)
    rw [sp_passTo_8 k, sp_tk_8]
theorem sp_pass_8 {S : Nat → Nat → Nat} {F : Nat → Nat} {ch b v : Nat} : sp_pass (gs S 8 F) ch b v = sp_pass S ch b v := sp_passTo_8 _
theorem sp_kpTo_le {N : Nat → Nat} {S : Nat → Nat → Nat} {ch : Nat} (h : sp_ok N S) : ∀ k j, sp_kpTo S ch k j ≤ 255
  | 0, j => h.2.2.2.2.2.2.2.1 j
  | k + 1, j => by
    show gu (sp_kpTo S ch k) (ch * 15 + k) _ j ≤ 255
    by_cases e : j = ch * 15 + k
    · rw [e, gu_same]
      exact sp_pass_le h sp_vop_le
    · rw [gu_other _ _ e]
      exact sp_kpTo_le h k j
theorem sp_ok_kp {N : Nat → Nat} {S : Nat → Nat → Nat} {ch k : Nat} (h : sp_ok N S) : sp_ok N (gs S 8 (sp_kpTo S ch k)) := by
  obtain ⟨h0, h1, h2, h3, h4, h6, h7, h8, h12, h13, h14⟩ := h
  exact ⟨h0, h1, h2, h3, h4, h6, h7, sp_kpTo_le ⟨h0, h1, h2, h3, h4, h6, h7, h8, h12, h13, h14⟩ k, h12, h13, h14⟩
def sk_profile (N : Nat → Nat) (S : Nat → Nat → Nat) : Nat := gk (sC_profile N S) true true
def sk_bend (N : Nat → Nat) (S : Nat → Nat → Nat) (i1 i2 i3 i4 : Int32) : Nat := gk (sA_bend N S i1 i2 i3 i4) (sB_bend N S i1 i2 i3 i4) (sC_bend N S i1 i2 i3 i4)
def sk_reach (N : Nat → Nat) (S : Nat → Nat → Nat) (i1 i2 i3 i4 : Int32) : Nat := gk (sA_reach N S i1 i2 i3 i4) (sB_reach N S i1 i2 i3 i4) (sC_reach N S i1 i2 i3 i4)
def sk_way (N : Nat → Nat) (S : Nat → Nat → Nat) (i1 i2 : Int32) : Nat := gk (sA_way N S i1 i2) (sB_way N S i1 i2) (sC_way N S i1 i2)
def sk_curve (N : Nat → Nat) (S : Nat → Nat → Nat) (i1 i2 i3 : Int32) : Nat := gk (sA_curve N S i1 i2 i3) (sB_curve N S i1 i2 i3) true
def sk_taken (N : Nat → Nat) (S : Nat → Nat → Nat) (i1 i2 i3 : Int32) : Nat := gk (sA_taken N S i1 i2 i3) (sB_taken N S i1 i2 i3) true
def sk_chain (N : Nat → Nat) (S : Nat → Nat → Nat) : Nat := gk (sC_chain N S) true true
def sk_add (N : Nat → Nat) (S : Nat → Nat → Nat) (i1 i2 : Int32) : Nat := gk (sA_add N S i1 i2) (sC_add N S i1 i2) true
def sk_drop (N : Nat → Nat) (S : Nat → Nat → Nat) (i1 : Int32) : Nat := gk (sA_drop N S i1) (sC_drop N S i1) true
def sk_through (N : Nat → Nat) (S : Nat → Nat → Nat) (i1 i2 i3 : Int32) : Nat := gk (sA_through N S i1 i2 i3) (sB_through N S i1 i2 i3) true
def sk_gap (N : Nat → Nat) (S : Nat → Nat → Nat) (i1 : Int32) : Nat := gk (sA_gap N S i1) true true
def sk_greyGap (N : Nat → Nat) (S : Nat → Nat → Nat) (i1 : Int32) : Nat := gk (sA_greyGap N S i1) true true
def sk_join (N : Nat → Nat) (S : Nat → Nat → Nat) (i1 i2 : Int32) : Nat := gk (sA_join N S i1 i2) (sB_join N S i1 i2) (sC_join N S i1 i2)
def sk_joined (N : Nat → Nat) (S : Nat → Nat → Nat) (i1 i2 i3 : Int32) : Nat := gk (sA_joined N S i1 i2 i3) (sB_joined N S i1 i2 i3) (sC_joined N S i1 i2 i3)
def sk_sign (N : Nat → Nat) (S : Nat → Nat → Nat) (i1 : Int32) : Nat := gk (sA_sign N S i1) true true
def sk_paint (N : Nat → Nat) (S : Nat → Nat → Nat) (i1 i2 i3 : Int32) : Nat := gk (sA_paint N S i1 i2 i3) (sB_paint N S i1 i2 i3) true
def sk_spot (N : Nat → Nat) (S : Nat → Nat → Nat) (i1 i2 i3 : Int32) : Nat := gk (sA_spot N S i1 i2 i3) (sB_spot N S i1 i2 i3) true
def sk_mix (N : Nat → Nat) (S : Nat → Nat → Nat) (i1 i2 i3 : Int32) : Nat := gk (sA_mix N S i1 i2 i3) (sB_mix N S i1 i2 i3) true
def sk_shown (N : Nat → Nat) (S : Nat → Nat → Nat) (i1 i2 i3 i4 : Int32) : Nat := gk (sA_shown N S i1 i2 i3 i4) (sB_shown N S i1 i2 i3 i4) true
set_option maxRecDepth 100000 in
set_option maxHeartbeats 4000000 in
/-- profile -/
theorem mX1_profile (l : Launch) (D : va_G) (q : Nat → Nat) (cI cZ : ClassId) (N : Nat → Nat) (S : Nat → Nat → Nat) (fv : Nat → Nat) (th : Nat) (A : Nat → Prop) (hok : sp_ok N S) (hinv : sp_inv N S) : Met l yX1_profile wsX1_profile { frames := 1, cells := 0, slots := 0, locals := 21 } (va_Pc [.ref (q 0)] (fun U => mAt D q cI cZ N S fv th A U U.heap)) (gQm D q cI cZ (fun r N2 S2 th2 => th2 = sk_profile N S ∧ (sk_profile N S = 0 → r = nI (sR_profile N S)) ∧ N2 = (if sk_profile N S = 0 then sN_profile N S else N) ∧ S2 = (if sk_profile N S = 0 then sS_profile N S else S)) A) 0 0 A := by
  refine gc_met [.ref (q 0)] (by decide) rfl (Nat.le_of_ble_eq_true rfl) rfl ?_
  intro p e s m below meth c ls G hl hX
  have hS : va_S A s.heap s.heap [] := va_S.rf
  have hok9 := hok
  obtain ⟨⟨ok0, ok5⟩, ok1, ok2, ok3, ok4, ok6, ok7, ok8, ok12, ok13, ok14⟩ := hok9
  refine lv_aload_n G.1 G.2.1 dX1_profile_0 rfl (lv_at hl 0 rfl) ?_
  refine lv_aload_n G.1 G.2.1 dX1_profile_1 rfl (lv_at hl 0 rfl) ?_
  refine gm_get G hX (by decide +kernel) 0 (by decide) (by decide +kernel) rfl rfl rfl dX1_profile_2 ?_
  refine lv_bipush (v := nI 8) G.1 G.2.1 dX1_profile_5 (by decide) ?_
  refine gn_ge G (by first | omega | assumption) (by first | omega | assumption) (tgt := 14) dX1_profile_7 (by decide) (fun h_7 => ?_) (fun h_7 => ?_)
  · refine lv_iconst (v := nI 0) G.1 G.2.1 dX1_profile_14 (by decide) ?_
    refine gm_mut (N' := N) (S' := S) (th' := (sp_m3 0 1 1)) (r := (nI (sp_z (sp_m3 0 1 1)))) (As := [.int (nI 0)]) (rest := []) G.fix (mX1_may l D q cI cZ N S fv th A 0 (by first | decide | exact gbn_le _)) (cwV 1 G.2.2.2.2.2.1 gX1_profile_X1_may rfl rfl rfl (by decide +kernel) ⟨Nat.le_of_ble_eq_true rfl, Nat.le_of_ble_eq_true rfl⟩) hX hS rfl hl.1 rfl (Nat.le_of_ble_eq_true rfl) dX1_profile_15 (Nat.zero_le _) (Nat.zero_le _) (fun fv H1 locs1 hX hS => ?_)
    refine gn_nez G (by exact sp_z_lt _) (tgt := 23) dX1_profile_18 (by decide) (fun h_18 => ?_) (fun h_18 => ?_)
    · exact absurd (sp_z_t h_18) (fun z => sp_m3_a z rfl)
    · have hZ : sp_m3 0 1 1 ≠ 0 := sp_z_f h_18
      refine lv_iconst (v := nI 0) G.1 G.2.1 dX1_profile_21 (by decide) ?_
      have hth : sp_m3 0 1 1 = sk_profile N S := by
        unfold sk_profile
        rw [show sC_profile N S = false from by simp [sC_profile, h_7] <;> omega]
        rfl
      exact W.iret G.1 G.2.1 G.2.2.1 (fun t ht hW => gQm_of hX hS ht ⟨hth, fun h => absurd (hth.trans h) hZ, (if_neg (fun h => hZ (hth.trans h))).symm, (if_neg (fun h => hZ (hth.trans h))).symm⟩) hS.2.2 dX1_profile_22 G.2.2.2.2.2.2
  · refine lv_iconst (v := nI 1) G.1 G.2.1 dX1_profile_10 (by decide) ?_
    refine lv_goto (tgt := 15) G.1 G.2.1 dX1_profile_11 (by decide) ?_
    refine gm_mut (N' := N) (S' := S) (th' := (sp_m3 1 1 1)) (r := (nI (sp_z (sp_m3 1 1 1)))) (As := [.int (nI 1)]) (rest := []) G.fix (mX1_may l D q cI cZ N S fv th A 1 (by first | decide | exact gbn_le _)) (cwV 1 G.2.2.2.2.2.1 gX1_profile_X1_may rfl rfl rfl (by decide +kernel) ⟨Nat.le_of_ble_eq_true rfl, Nat.le_of_ble_eq_true rfl⟩) hX hS rfl hl.1 rfl (Nat.le_of_ble_eq_true rfl) dX1_profile_15 (Nat.zero_le _) (Nat.zero_le _) (fun fv H1 locs1 hX hS => ?_)
    refine gn_nez G (by exact sp_z_lt _) (tgt := 23) dX1_profile_18 (by decide) (fun h_18 => ?_) (fun h_18 => ?_)
    · have hZ : sp_m3 1 1 1 = 0 := sp_z_t h_18
      refine lv_iconst (v := nI 0) G.1 G.2.1 dX1_profile_23 (by decide) ?_
      refine lv_istore_n (lv' := [(1, .int (nI 0)), (0, .ref (q 0))]) G.1 G.2.1 dX1_profile_24 rfl hl (by decide) rfl (fun ls hl => ?_)
      have loop1 : ∀ (d1 x1 : Nat), x1 + d1 = 3 → ∀ (fv : Nat → Nat) (H9 : Heap) (locs9 : List Loc), mAt D q cI cZ N ((sp_newTo N S (x1 * 5) (x1))) fv (sp_m3 1 1 1) A s H9 → va_S A s.heap H9 locs9 → ∀ ls : Array Slot, lv_has ls 3 [(0, .ref (q 0)), (1, .int (nI x1))] → W p l e { frames := 1, cells := 0, slots := 0, locals := 21 } s m ([.ref (q 0)] : List Value).toArray below meth c H9 locs9 0 0 (MQ below (gQm D q cI cZ (fun r N2 S2 th2 => th2 = sk_profile N S ∧ (sk_profile N S = 0 → r = nI (sR_profile N S)) ∧ N2 = (if sk_profile N S = 0 then sN_profile N S else N) ∧ S2 = (if sk_profile N S = 0 then sS_profile N S else S)) A) ([.ref (q 0)] : List Value).toArray s 0 0 A) (F0 m 25 ls []) := by
        intro d1
        induction d1 with
        | zero =>
          intro x1 hd1 fv H9 locs9 hX hS ls hl
          refine lv_iload_n G.1 G.2.1 dX1_profile_25 rfl (lv_at hl 1 rfl) ?_
          refine lv_iconst (v := nI 3) G.1 G.2.1 dX1_profile_26 (by decide) ?_
          refine gn_ge G (by first | omega | assumption) (by first | omega | assumption) (tgt := 87) dX1_profile_27 (by decide) (fun h_27 => ?_) (fun h_27 => absurd h_27 (by omega))
          refine lv_aload_n G.1 G.2.1 dX1_profile_87 rfl (lv_at hl 0 rfl) ?_
          refine lv_dup G.1 G.2.1 dX1_profile_88 rfl ?_
          refine gm_get G hX (by decide +kernel) 0 (by decide) (by decide +kernel) rfl rfl rfl dX1_profile_89 ?_
          refine lv_iconst (v := nI 1) G.1 G.2.1 dX1_profile_92 (by decide) ?_
          refine gn_iadd G dX1_profile_93 ?_
          refine gm_put (k := 0) (v := (N 0) + 1) (N' := (gu N 0 ((N 0) + 1))) (th' := (sp_m3 1 1 1)) G hX hS (by decide +kernel) (by decide) (by decide +kernel) rfl rfl (by decide +kernel) rfl (Nat.le_of_ble_eq_true rfl) rfl dX1_profile_94 (fun H1 locs1 hX hS => ?_)
          refine lv_aload_n G.1 G.2.1 dX1_profile_97 rfl (lv_at hl 0 rfl) ?_
          refine gm_get G hX (by decide +kernel) 0 (by decide) (by decide +kernel) rfl rfl rfl dX1_profile_98 ?_
          rw [gu_same]
          refine lv_iconst (v := nI 1) G.1 G.2.1 dX1_profile_101 (by decide) ?_
          refine gn_isub G dX1_profile_102 (by first | omega | assumption) ?_
          have hth : sp_m3 1 1 1 = sk_profile N S := by
            unfold sk_profile
            rw [show sC_profile N S = true from by simp [sC_profile, h_7] <;> omega]
            exact sp_m3_gk (true) (true) (true)
          have hsk : sk_profile N S = 0 := hth.symm.trans hZ
          exact W.iret G.1 G.2.1 G.2.2.1 (fun t ht hW => gQm_of hX hS ht ⟨hth, fun _ => (by show nI _ = nI _; simp only [sR_profile, Nat.add_sub_cancel]), (by rw [if_pos hsk]; simp only [sN_profile]), (by rw [if_pos hsk, show x1 = 3 from by omega]; rfl)⟩) hS.2.2 dX1_profile_103 G.2.2.2.2.2.2
        | succ d1 ih1 =>
          intro x1 hd1 fv H9 locs9 hX hS ls hl
          refine lv_iload_n G.1 G.2.1 dX1_profile_25 rfl (lv_at hl 1 rfl) ?_
          refine lv_iconst (v := nI 3) G.1 G.2.1 dX1_profile_26 (by decide) ?_
          refine gn_ge G (by first | omega | assumption) (by first | omega | assumption) (tgt := 87) dX1_profile_27 (by decide) (fun h_27 => absurd h_27 (by omega)) (fun h_27 => ?_)
          refine lv_iconst (v := nI 0) G.1 G.2.1 dX1_profile_30 (by decide) ?_
          refine lv_istore_n (lv' := [(2, .int (nI 0)), (0, .ref (q 0)), (1, .int (nI x1))]) G.1 G.2.1 dX1_profile_31 rfl hl (by decide) rfl (fun ls hl => ?_)
          have loop2 : ∀ (d2 x2 : Nat), x2 + d2 = 5 → ∀ (fv : Nat → Nat) (H9 : Heap) (locs9 : List Loc), mAt D q cI cZ N ((sp_newTo N S (x1 * 5 + x2) (x1))) fv (sp_m3 1 1 1) A s H9 → va_S A s.heap H9 locs9 → ∀ ls : Array Slot, lv_has ls 3 [(0, .ref (q 0)), (1, .int (nI x1)), (2, .int (nI x2))] → W p l e { frames := 1, cells := 0, slots := 0, locals := 21 } s m ([.ref (q 0)] : List Value).toArray below meth c H9 locs9 0 0 (MQ below (gQm D q cI cZ (fun r N2 S2 th2 => th2 = sk_profile N S ∧ (sk_profile N S = 0 → r = nI (sR_profile N S)) ∧ N2 = (if sk_profile N S = 0 then sN_profile N S else N) ∧ S2 = (if sk_profile N S = 0 then sS_profile N S else S)) A) ([.ref (q 0)] : List Value).toArray s 0 0 A) (F0 m 32 ls []) := by
            intro d2
            induction d2 with
            | zero =>
              intro x2 hd2 fv H9 locs9 hX hS ls hl
              refine lv_iload_n G.1 G.2.1 dX1_profile_32 rfl (lv_at hl 2 rfl) ?_
              refine lv_iconst (v := nI 5) G.1 G.2.1 dX1_profile_33 (by decide) ?_
              refine gn_ge G (by first | omega | assumption) (by first | omega | assumption) (tgt := 65) dX1_profile_34 (by decide) (fun h_34 => ?_) (fun h_34 => absurd h_34 (by omega))
              refine lv_aload_n G.1 G.2.1 dX1_profile_65 rfl (lv_at hl 0 rfl) ?_
              refine gm_get G hX (by decide +kernel) 3 (by decide) (by decide +kernel) rfl rfl rfl dX1_profile_66 ?_
              refine lv_iconst (v := nI 3) G.1 G.2.1 dX1_profile_69 (by decide) ?_
              refine lv_aload_n G.1 G.2.1 dX1_profile_70 rfl (lv_at hl 0 rfl) ?_
              refine gm_get G hX (by decide +kernel) 0 (by decide) (by decide +kernel) rfl rfl rfl dX1_profile_71 ?_
              refine gn_imul G dX1_profile_74 ?_
              refine lv_iload_n G.1 G.2.1 dX1_profile_75 rfl (lv_at hl 1 rfl) ?_
              refine gn_iadd G dX1_profile_76 ?_
              refine lv_sipush (v := nI 255) G.1 G.2.1 dX1_profile_77 (by decide) ?_
              refine gm_ast (k := 3) (kp := 3) (len := 24) (F := (sp_fill2 (S 3) (N 0 * 3) (x1))) (i := (3 * (N 0)) + x1) (v := 255) (S' := (sp_newTo N S (x1 * 5 + x2) (x1 + 1))) (fv' := fv) G hX hS rfl (by rw [show (3 * (N 0)) + x1 = N 0 * 3 + x1 from by omega]; rfl) (by first | omega | assumption) (by decide) dX1_profile_80 (fun H1 locs1 hX hS => ?_)
              refine gn_iinc (lv' := [(1, .int (nI (x1 + 1))), (0, .ref (q 0)), (2, .int (nI x2))]) (n := 1) G dX1_profile_81 hl (k := 1) rfl (by decide) rfl (fun ls hl => ?_)
              refine lv_goto (tgt := 25) G.1 G.2.1 dX1_profile_84 (by decide) ?_
              exact ih1 (x1 + 1) (by omega) _ _ _ (mAt_cast (by rw [show (x1 + 1) * 5 = x1 * 5 + x2 from by omega]) hX) hS _ (lv_sub hl [1, 0] rfl)
            | succ d2 ih2 =>
              intro x2 hd2 fv H9 locs9 hX hS ls hl
              refine lv_iload_n G.1 G.2.1 dX1_profile_32 rfl (lv_at hl 2 rfl) ?_
              refine lv_iconst (v := nI 5) G.1 G.2.1 dX1_profile_33 (by decide) ?_
              refine gn_ge G (by first | omega | assumption) (by first | omega | assumption) (tgt := 65) dX1_profile_34 (by decide) (fun h_34 => absurd h_34 (by omega)) (fun h_34 => ?_)
              refine lv_aload_n G.1 G.2.1 dX1_profile_37 rfl (lv_at hl 0 rfl) ?_
              refine gm_get G hX (by decide +kernel) 1 (by decide) (by decide +kernel) rfl rfl rfl dX1_profile_38 ?_
              refine lv_bipush (v := nI 15) G.1 G.2.1 dX1_profile_41 (by decide) ?_
              refine lv_aload_n G.1 G.2.1 dX1_profile_43 rfl (lv_at hl 0 rfl) ?_
              refine gm_get G hX (by decide +kernel) 0 (by decide) (by decide +kernel) rfl rfl rfl dX1_profile_44 ?_
              refine gn_imul G dX1_profile_47 ?_
              refine lv_iconst (v := nI 5) G.1 G.2.1 dX1_profile_48 (by decide) ?_
              refine lv_iload_n G.1 G.2.1 dX1_profile_49 rfl (lv_at hl 1 rfl) ?_
              refine gn_imul G dX1_profile_50 ?_
              refine gn_iadd G dX1_profile_51 ?_
              refine lv_iload_n G.1 G.2.1 dX1_profile_52 rfl (lv_at hl 2 rfl) ?_
              refine gn_iadd G dX1_profile_53 ?_
              refine lv_iload_n G.1 G.2.1 dX1_profile_54 rfl (lv_at hl 2 rfl) ?_
              refine gc_s (As := [.int (nI x2)]) (rest := [.int (nI (((15 * (N 0)) + (5 * x1)) + x2)), .ref (q 1)]) G.fix (mX1_placeAt l x2 (by first | omega | assumption)) (va_cwS 1 G.2.2.2.2.2.1 gX1_profile_X1_placeAt rfl rfl rfl (by decide +kernel) ⟨Nat.le_of_ble_eq_true rfl, Nat.le_of_ble_eq_true rfl⟩) gc_blindT (fun _ _ _ => trivial) rfl hl.1 rfl (Nat.le_of_ble_eq_true rfl) dX1_profile_55 (Nat.zero_le _) (Nat.zero_le _) (fun r hr => ?_)
              subst hr
              refine gm_ast (k := 1) (kp := 1) (len := 120) (F := (sp_fill (S 1) (N 0 * 15) (x1 * 5 + x2))) (i := ((15 * (N 0)) + (5 * x1)) + x2) (v := sp_vop x2) (S' := (sp_newTo N S (x1 * 5 + (x2 + 1)) x1)) (fv' := fv) G hX hS rfl (by rw [show ((15 * (N 0)) + (5 * x1)) + x2 = (N 0 * 3 + x1) * 5 + x2 from by omega, sp_fill_s (by omega)]; rfl) (by first | omega | assumption) (by decide) dX1_profile_58 (fun H1 locs1 hX hS => ?_)
              refine gn_iinc (lv' := [(2, .int (nI (x2 + 1))), (0, .ref (q 0)), (1, .int (nI x1))]) (n := 1) G dX1_profile_59 hl (k := 2) rfl (by decide) rfl (fun ls hl => ?_)
              refine lv_goto (tgt := 32) G.1 G.2.1 dX1_profile_62 (by decide) ?_
              exact ih2 (x2 + 1) (by omega) _ _ _ (mAt_cast (rfl) hX) hS _ (lv_sub hl [1, 2, 0] rfl)
          exact loop2 5 0 (by omega) _ _ _ (mAt_cast (rfl) hX) hS _ (lv_sub hl [1, 2, 0] rfl)
      exact loop1 3 0 (by omega) _ _ _ (mAt_cast (rfl) hX) hS _ (lv_sub hl [1, 0] rfl)
    · have hZ : sp_m3 1 1 1 ≠ 0 := sp_z_f h_18
      refine lv_iconst (v := nI 0) G.1 G.2.1 dX1_profile_21 (by decide) ?_
      have hth : sp_m3 1 1 1 = sk_profile N S := by
        unfold sk_profile
        rw [show sC_profile N S = true from by simp [sC_profile, h_7] <;> omega]
        exact sp_m3_gk (true) (true) (true)
      exact W.iret G.1 G.2.1 G.2.2.1 (fun t ht hW => gQm_of hX hS ht ⟨hth, fun h => absurd (hth.trans h) hZ, (if_neg (fun h => hZ (hth.trans h))).symm, (if_neg (fun h => hZ (hth.trans h))).symm⟩) hS.2.2 dX1_profile_22 G.2.2.2.2.2.2
set_option maxRecDepth 100000 in
set_option maxHeartbeats 4000000 in
/-- bend -/
theorem mX1_bend (l : Launch) (D : va_G) (q : Nat → Nat) (cI cZ : ClassId) (N : Nat → Nat) (S : Nat → Nat → Nat) (fv : Nat → Nat) (th : Nat) (A : Nat → Prop) (hok : sp_ok N S) (hinv : sp_inv N S) (i1 i2 i3 i4 : Int32) : Met l yX1_bend wsX1_bend { frames := 2, cells := 0, slots := 0, locals := 43 } (va_Pc [.ref (q 0), .int i1, .int i2, .int i3, .int i4] (fun U => mAt D q cI cZ N S fv th A U U.heap)) (gQm D q cI cZ (fun r N2 S2 th2 => th2 = sk_bend N S i1 i2 i3 i4 ∧ (sk_bend N S i1 i2 i3 i4 = 0 → r = nI (sR_bend N S i1 i2 i3 i4)) ∧ N2 = (if sk_bend N S i1 i2 i3 i4 = 0 then sN_bend N S i1 i2 i3 i4 else N) ∧ S2 = (if sk_bend N S i1 i2 i3 i4 = 0 then sS_bend N S i1 i2 i3 i4 else S)) A) 0 0 A := by
  refine gc_met [.ref (q 0), .int i1, .int i2, .int i3, .int i4] (by decide) rfl (Nat.le_of_ble_eq_true rfl) rfl ?_
  intro p e s m below meth c ls G hl hX
  have hS : va_S A s.heap s.heap [] := va_S.rf
  have hok9 := hok
  obtain ⟨⟨ok0, ok5⟩, ok1, ok2, ok3, ok4, ok6, ok7, ok8, ok12, ok13, ok14⟩ := hok9
  refine lv_aload_n G.1 G.2.1 dX1_bend_0 rfl (lv_at hl 0 rfl) ?_
  refine lv_iload_n G.1 G.2.1 dX1_bend_1 rfl (lv_at hl 1 rfl) ?_
  refine gc_v (As := [.int i1]) (rest := []) G.fix (mX1_isProfile l D q cI cZ N S fv th A hok i1) (cwV 1 G.2.2.2.2.2.1 gX1_bend_X1_isProfile rfl rfl rfl (by decide +kernel) ⟨Nat.le_of_ble_eq_true rfl, Nat.le_of_ble_eq_true rfl⟩) mAt_blind (va_recv hX.2.1 hX.1 (ci := 1) (q0 := 0) rfl rfl) (fun U hU hW => by rw [hU]; exact hX.moved hW) rfl hl.1 rfl (Nat.le_of_ble_eq_true rfl) dX1_bend_2 (Nat.zero_le _) (Nat.zero_le _) (fun r hr => ?_)
  subst hr
  refine gn_eqz G (by exact gbn_lt _) (tgt := 28) dX1_bend_5 (by decide) (fun h_5 => ?_) (fun h_5 => ?_)
  · have hF_5 : gb i1 (N 0) = false := gbn_f h_5
    refine lv_iconst (v := nI 0) G.1 G.2.1 dX1_bend_28 (by decide) ?_
    refine lv_istore (lv' := [(5, .int (nI 0)), (0, .ref (q 0)), (1, .int i1), (2, .int i2), (3, .int i3), (4, .int i4)]) G.1 G.2.1 dX1_bend_29 hl (by decide) rfl (fun ls hl => ?_)
    refine lv_aload_n G.1 G.2.1 dX1_bend_31 rfl (lv_at hl 1 rfl) ?_
    refine lv_iload G.1 G.2.1 dX1_bend_32 (lv_at hl 0 rfl) ?_
    refine lv_iload G.1 G.2.1 dX1_bend_34 (lv_at hl 5 rfl) ?_
    refine gc_s (As := [.int i4]) (rest := [.int (nI 0), .ref (q 0)]) G.fix (mX1_isByte l i4) (va_cwS 1 G.2.2.2.2.2.1 gX1_bend_X1_isByte rfl rfl rfl (by decide +kernel) ⟨Nat.le_of_ble_eq_true rfl, Nat.le_of_ble_eq_true rfl⟩) gc_blindT (fun _ _ _ => trivial) rfl hl.1 rfl (Nat.le_of_ble_eq_true rfl) dX1_bend_36 (Nat.zero_le _) (Nat.zero_le _) (fun r hr => ?_)
    subst hr
    refine lv_iload G.1 G.2.1 dX1_bend_39 (lv_at hl 0 rfl) ?_
    refine gn_eqz G (by decide) (tgt := 56) dX1_bend_41 (by decide) (fun h_41 => ?_) (fun h_41 => absurd h_41 (by decide))
    refine lv_iconst (v := nI 0) G.1 G.2.1 dX1_bend_56 (by decide) ?_
    refine gm_mut (N' := N) (S' := S) (th' := (sp_m3 0 (gbn (gb i4 256)) 0)) (r := (nI (sp_z (sp_m3 0 (gbn (gb i4 256)) 0)))) (As := [.int (nI 0), .int (nI (gbn (gb i4 256))), .int (nI 0)]) (rest := []) G.fix (mX1_mayAll l D q cI cZ N S fv th A 0 (gbn (gb i4 256)) 0 (by first | decide | exact gbn_lt _) (by first | decide | exact gbn_lt _) (by first | decide | exact gbn_lt _)) (cwV 3 G.2.2.2.2.2.1 gX1_bend_X1_mayAll rfl rfl rfl (by decide +kernel) ⟨Nat.le_of_ble_eq_true rfl, Nat.le_of_ble_eq_true rfl⟩) hX hS rfl hl.1 rfl (Nat.le_of_ble_eq_true rfl) dX1_bend_57 (Nat.zero_le _) (Nat.zero_le _) (fun fv H1 locs1 hX hS => ?_)
    refine gn_nez G (by exact sp_z_lt _) (tgt := 65) dX1_bend_60 (by decide) (fun h_60 => ?_) (fun h_60 => ?_)
    · exact absurd (sp_z_t h_60) (fun z => sp_m3_c z rfl)
    · have hZ : sp_m3 0 (gbn (gb i4 256)) 0 ≠ 0 := sp_z_f h_60
      refine lv_iconst (v := nI 0) G.1 G.2.1 dX1_bend_63 (by decide) ?_
      have hth : sp_m3 0 (gbn (gb i4 256)) 0 = sk_bend N S i1 i2 i3 i4 := by
        unfold sk_bend
        rw [show sA_bend N S i1 i2 i3 i4 = false from by simp [sA_bend, hF_5] <;> omega]
        rfl
      exact W.iret G.1 G.2.1 G.2.2.1 (fun t ht hW => gQm_of hX hS ht ⟨hth, fun h => absurd (hth.trans h) hZ, (if_neg (fun h => hZ (hth.trans h))).symm, (if_neg (fun h => hZ (hth.trans h))).symm⟩) hS.2.2 dX1_bend_64 G.2.2.2.2.2.2
  · have hT_5 : gb i1 (N 0) = true := gbn_t h_5
    obtain ⟨j1, hj1, rfl⟩ := gb_of (by omega) hT_5
    have hg1 := gn_nI (show j1 < 2 ^ 31 by omega)
    refine lv_iload_n G.1 G.2.1 dX1_bend_8 rfl (lv_at hl 2 rfl) ?_
    refine gc_s (As := [.int i2]) (rest := []) G.fix (mX1_isThird l i2) (va_cwS 1 G.2.2.2.2.2.1 gX1_bend_X1_isThird rfl rfl rfl (by decide +kernel) ⟨Nat.le_of_ble_eq_true rfl, Nat.le_of_ble_eq_true rfl⟩) gc_blindT (fun _ _ _ => trivial) rfl hl.1 rfl (Nat.le_of_ble_eq_true rfl) dX1_bend_9 (Nat.zero_le _) (Nat.zero_le _) (fun r hr => ?_)
    subst hr
    refine gn_eqz G (by exact gbn_lt _) (tgt := 28) dX1_bend_12 (by decide) (fun h_12 => ?_) (fun h_12 => ?_)
    · have hF_12 : gb i2 3 = false := gbn_f h_12
      refine lv_iconst (v := nI 0) G.1 G.2.1 dX1_bend_28 (by decide) ?_
      refine lv_istore (lv' := [(5, .int (nI 0)), (0, .ref (q 0)), (1, .int (nI j1)), (2, .int i2), (3, .int i3), (4, .int i4)]) G.1 G.2.1 dX1_bend_29 hl (by decide) rfl (fun ls hl => ?_)
      refine lv_aload_n G.1 G.2.1 dX1_bend_31 rfl (lv_at hl 1 rfl) ?_
      refine lv_iload G.1 G.2.1 dX1_bend_32 (lv_at hl 0 rfl) ?_
      refine lv_iload G.1 G.2.1 dX1_bend_34 (lv_at hl 5 rfl) ?_
      refine gc_s (As := [.int i4]) (rest := [.int (nI 0), .ref (q 0)]) G.fix (mX1_isByte l i4) (va_cwS 1 G.2.2.2.2.2.1 gX1_bend_X1_isByte rfl rfl rfl (by decide +kernel) ⟨Nat.le_of_ble_eq_true rfl, Nat.le_of_ble_eq_true rfl⟩) gc_blindT (fun _ _ _ => trivial) rfl hl.1 rfl (Nat.le_of_ble_eq_true rfl) dX1_bend_36 (Nat.zero_le _) (Nat.zero_le _) (fun r hr => ?_)
      subst hr
      refine lv_iload G.1 G.2.1 dX1_bend_39 (lv_at hl 0 rfl) ?_
      refine gn_eqz G (by decide) (tgt := 56) dX1_bend_41 (by decide) (fun h_41 => ?_) (fun h_41 => absurd h_41 (by decide))
      refine lv_iconst (v := nI 0) G.1 G.2.1 dX1_bend_56 (by decide) ?_
      refine gm_mut (N' := N) (S' := S) (th' := (sp_m3 0 (gbn (gb i4 256)) 0)) (r := (nI (sp_z (sp_m3 0 (gbn (gb i4 256)) 0)))) (As := [.int (nI 0), .int (nI (gbn (gb i4 256))), .int (nI 0)]) (rest := []) G.fix (mX1_mayAll l D q cI cZ N S fv th A 0 (gbn (gb i4 256)) 0 (by first | decide | exact gbn_lt _) (by first | decide | exact gbn_lt _) (by first | decide | exact gbn_lt _)) (cwV 3 G.2.2.2.2.2.1 gX1_bend_X1_mayAll rfl rfl rfl (by decide +kernel) ⟨Nat.le_of_ble_eq_true rfl, Nat.le_of_ble_eq_true rfl⟩) hX hS rfl hl.1 rfl (Nat.le_of_ble_eq_true rfl) dX1_bend_57 (Nat.zero_le _) (Nat.zero_le _) (fun fv H1 locs1 hX hS => ?_)
      refine gn_nez G (by exact sp_z_lt _) (tgt := 65) dX1_bend_60 (by decide) (fun h_60 => ?_) (fun h_60 => ?_)
      · exact absurd (sp_z_t h_60) (fun z => sp_m3_c z rfl)
      · have hZ : sp_m3 0 (gbn (gb i4 256)) 0 ≠ 0 := sp_z_f h_60
        refine lv_iconst (v := nI 0) G.1 G.2.1 dX1_bend_63 (by decide) ?_
        have hth : sp_m3 0 (gbn (gb i4 256)) 0 = sk_bend N S (nI j1) i2 i3 i4 := by
          unfold sk_bend
          rw [show sA_bend N S (nI j1) i2 i3 i4 = false from by simp [sA_bend, hT_5, hF_12, hg1] <;> omega]
          rfl
        exact W.iret G.1 G.2.1 G.2.2.1 (fun t ht hW => gQm_of hX hS ht ⟨hth, fun h => absurd (hth.trans h) hZ, (if_neg (fun h => hZ (hth.trans h))).symm, (if_neg (fun h => hZ (hth.trans h))).symm⟩) hS.2.2 dX1_bend_64 G.2.2.2.2.2.2
    · have hT_12 : gb i2 3 = true := gbn_t h_12
      obtain ⟨j2, hj2, rfl⟩ := gb_of (by omega) hT_12
      have hg2 := gn_nI (show j2 < 2 ^ 31 by omega)
      refine lv_iload_n G.1 G.2.1 dX1_bend_15 rfl (lv_at hl 3 rfl) ?_
      refine lv_iconst (v := nI 0) G.1 G.2.1 dX1_bend_16 (by decide) ?_
      refine lv_iconst (v := nI 4) G.1 G.2.1 dX1_bend_17 (by decide) ?_
      refine gc_s (As := [.int i3, .int (nI 0), .int (nI 4)]) (rest := []) G.fix (mX1_isIn l i3 (nI 0) (nI 4)) (va_cwS 3 G.2.2.2.2.2.1 gX1_bend_X1_isIn rfl rfl rfl (by decide +kernel) ⟨Nat.le_of_ble_eq_true rfl, Nat.le_of_ble_eq_true rfl⟩) gc_blindT (fun _ _ _ => trivial) rfl hl.1 rfl (Nat.le_of_ble_eq_true rfl) dX1_bend_18 (Nat.zero_le _) (Nat.zero_le _) (fun r hr => ?_)
      subst hr
      rw [gin_k (by decide)]
      refine gn_eqz G (by exact gbn_lt _) (tgt := 28) dX1_bend_21 (by decide) (fun h_21 => ?_) (fun h_21 => ?_)
      · have hF_21 : gb i3 5 = false := gbn_f h_21
        refine lv_iconst (v := nI 0) G.1 G.2.1 dX1_bend_28 (by decide) ?_
        refine lv_istore (lv' := [(5, .int (nI 0)), (0, .ref (q 0)), (1, .int (nI j1)), (2, .int (nI j2)), (3, .int i3), (4, .int i4)]) G.1 G.2.1 dX1_bend_29 hl (by decide) rfl (fun ls hl => ?_)
        refine lv_aload_n G.1 G.2.1 dX1_bend_31 rfl (lv_at hl 1 rfl) ?_
        refine lv_iload G.1 G.2.1 dX1_bend_32 (lv_at hl 0 rfl) ?_
        refine lv_iload G.1 G.2.1 dX1_bend_34 (lv_at hl 5 rfl) ?_
        refine gc_s (As := [.int i4]) (rest := [.int (nI 0), .ref (q 0)]) G.fix (mX1_isByte l i4) (va_cwS 1 G.2.2.2.2.2.1 gX1_bend_X1_isByte rfl rfl rfl (by decide +kernel) ⟨Nat.le_of_ble_eq_true rfl, Nat.le_of_ble_eq_true rfl⟩) gc_blindT (fun _ _ _ => trivial) rfl hl.1 rfl (Nat.le_of_ble_eq_true rfl) dX1_bend_36 (Nat.zero_le _) (Nat.zero_le _) (fun r hr => ?_)
        subst hr
        refine lv_iload G.1 G.2.1 dX1_bend_39 (lv_at hl 0 rfl) ?_
        refine gn_eqz G (by decide) (tgt := 56) dX1_bend_41 (by decide) (fun h_41 => ?_) (fun h_41 => absurd h_41 (by decide))
        refine lv_iconst (v := nI 0) G.1 G.2.1 dX1_bend_56 (by decide) ?_
        refine gm_mut (N' := N) (S' := S) (th' := (sp_m3 0 (gbn (gb i4 256)) 0)) (r := (nI (sp_z (sp_m3 0 (gbn (gb i4 256)) 0)))) (As := [.int (nI 0), .int (nI (gbn (gb i4 256))), .int (nI 0)]) (rest := []) G.fix (mX1_mayAll l D q cI cZ N S fv th A 0 (gbn (gb i4 256)) 0 (by first | decide | exact gbn_lt _) (by first | decide | exact gbn_lt _) (by first | decide | exact gbn_lt _)) (cwV 3 G.2.2.2.2.2.1 gX1_bend_X1_mayAll rfl rfl rfl (by decide +kernel) ⟨Nat.le_of_ble_eq_true rfl, Nat.le_of_ble_eq_true rfl⟩) hX hS rfl hl.1 rfl (Nat.le_of_ble_eq_true rfl) dX1_bend_57 (Nat.zero_le _) (Nat.zero_le _) (fun fv H1 locs1 hX hS => ?_)
        refine gn_nez G (by exact sp_z_lt _) (tgt := 65) dX1_bend_60 (by decide) (fun h_60 => ?_) (fun h_60 => ?_)
        · exact absurd (sp_z_t h_60) (fun z => sp_m3_c z rfl)
        · have hZ : sp_m3 0 (gbn (gb i4 256)) 0 ≠ 0 := sp_z_f h_60
          refine lv_iconst (v := nI 0) G.1 G.2.1 dX1_bend_63 (by decide) ?_
          have hth : sp_m3 0 (gbn (gb i4 256)) 0 = sk_bend N S (nI j1) (nI j2) i3 i4 := by
            unfold sk_bend
            rw [show sA_bend N S (nI j1) (nI j2) i3 i4 = false from by simp [sA_bend, hT_5, hT_12, hF_21, hg1, hg2] <;> omega]
            rfl
          exact W.iret G.1 G.2.1 G.2.2.1 (fun t ht hW => gQm_of hX hS ht ⟨hth, fun h => absurd (hth.trans h) hZ, (if_neg (fun h => hZ (hth.trans h))).symm, (if_neg (fun h => hZ (hth.trans h))).symm⟩) hS.2.2 dX1_bend_64 G.2.2.2.2.2.2
      · have hT_21 : gb i3 5 = true := gbn_t h_21
        obtain ⟨j3, hj3, rfl⟩ := gb_of (by omega) hT_21
        have hg3 := gn_nI (show j3 < 2 ^ 31 by omega)
        refine lv_iconst (v := nI 1) G.1 G.2.1 dX1_bend_24 (by decide) ?_
        refine lv_goto (tgt := 29) G.1 G.2.1 dX1_bend_25 (by decide) ?_
        refine lv_istore (lv' := [(5, .int (nI 1)), (0, .ref (q 0)), (1, .int (nI j1)), (2, .int (nI j2)), (3, .int (nI j3)), (4, .int i4)]) G.1 G.2.1 dX1_bend_29 hl (by decide) rfl (fun ls hl => ?_)
        refine lv_aload_n G.1 G.2.1 dX1_bend_31 rfl (lv_at hl 1 rfl) ?_
        refine lv_iload G.1 G.2.1 dX1_bend_32 (lv_at hl 0 rfl) ?_
        refine lv_iload G.1 G.2.1 dX1_bend_34 (lv_at hl 5 rfl) ?_
        refine gc_s (As := [.int i4]) (rest := [.int (nI 1), .ref (q 0)]) G.fix (mX1_isByte l i4) (va_cwS 1 G.2.2.2.2.2.1 gX1_bend_X1_isByte rfl rfl rfl (by decide +kernel) ⟨Nat.le_of_ble_eq_true rfl, Nat.le_of_ble_eq_true rfl⟩) gc_blindT (fun _ _ _ => trivial) rfl hl.1 rfl (Nat.le_of_ble_eq_true rfl) dX1_bend_36 (Nat.zero_le _) (Nat.zero_le _) (fun r hr => ?_)
        subst hr
        refine lv_iload G.1 G.2.1 dX1_bend_39 (lv_at hl 0 rfl) ?_
        refine gn_eqz G (by decide) (tgt := 56) dX1_bend_41 (by decide) (fun h_41 => absurd h_41 (by decide)) (fun h_41 => ?_)
        refine lv_aload_n G.1 G.2.1 dX1_bend_44 rfl (lv_at hl 1 rfl) ?_
        refine lv_iload_n G.1 G.2.1 dX1_bend_45 rfl (lv_at hl 2 rfl) ?_
        refine gc_v (As := [.int (nI j1)]) (rest := [.int (nI (gbn (gb i4 256))), .int (nI 1), .ref (q 0)]) G.fix (mX1_isHeld l D q cI cZ N S fv th A hok hinv j1 (by omega)) (cwV 1 G.2.2.2.2.2.1 gX1_bend_X1_isHeld rfl rfl rfl (by decide +kernel) ⟨Nat.le_of_ble_eq_true rfl, Nat.le_of_ble_eq_true rfl⟩) mAt_blind (va_recv hX.2.1 hX.1 (ci := 1) (q0 := 0) rfl rfl) (fun U hU hW => by rw [hU]; exact hX.moved hW) rfl hl.1 rfl (Nat.le_of_ble_eq_true rfl) dX1_bend_46 (Nat.zero_le _) (Nat.zero_le _) (fun r hr => ?_)
        subst hr
        rw [sp_hout_eq hok hinv (by omega)]
        refine gn_nez G (by exact sp_b31 _ _) (tgt := 56) dX1_bend_49 (by decide) (fun h_49 => ?_) (fun h_49 => ?_)
        · have hu_49 := h_49
          refine lv_iconst (v := nI 0) G.1 G.2.1 dX1_bend_56 (by decide) ?_
          refine gm_mut (N' := N) (S' := S) (th' := (sp_m3 1 (gbn (gb i4 256)) 0)) (r := (nI (sp_z (sp_m3 1 (gbn (gb i4 256)) 0)))) (As := [.int (nI 1), .int (nI (gbn (gb i4 256))), .int (nI 0)]) (rest := []) G.fix (mX1_mayAll l D q cI cZ N S fv th A 1 (gbn (gb i4 256)) 0 (by first | decide | exact gbn_lt _) (by first | decide | exact gbn_lt _) (by first | decide | exact gbn_lt _)) (cwV 3 G.2.2.2.2.2.1 gX1_bend_X1_mayAll rfl rfl rfl (by decide +kernel) ⟨Nat.le_of_ble_eq_true rfl, Nat.le_of_ble_eq_true rfl⟩) hX hS rfl hl.1 rfl (Nat.le_of_ble_eq_true rfl) dX1_bend_57 (Nat.zero_le _) (Nat.zero_le _) (fun fv H1 locs1 hX hS => ?_)
          refine gn_nez G (by exact sp_z_lt _) (tgt := 65) dX1_bend_60 (by decide) (fun h_60 => ?_) (fun h_60 => ?_)
          · exact absurd (sp_z_t h_60) (fun z => sp_m3_c z rfl)
          · have hZ : sp_m3 1 (gbn (gb i4 256)) 0 ≠ 0 := sp_z_f h_60
            refine lv_iconst (v := nI 0) G.1 G.2.1 dX1_bend_63 (by decide) ?_
            have hth : sp_m3 1 (gbn (gb i4 256)) 0 = sk_bend N S (nI j1) (nI j2) (nI j3) i4 := by
              unfold sk_bend
              rw [show sA_bend N S (nI j1) (nI j2) (nI j3) i4 = true from by simp [sA_bend, hT_5, hT_12, hT_21, h_49, hg1, hg2, hg3] <;> omega]
              rw [show sC_bend N S (nI j1) (nI j2) (nI j3) i4 = false from by simp [sC_bend, hT_5, hT_12, hT_21, h_49, hg1, hg2, hg3] <;> omega]
              exact sp_m3_gk (true) (gb i4 256) (false)
            exact W.iret G.1 G.2.1 G.2.2.1 (fun t ht hW => gQm_of hX hS ht ⟨hth, fun h => absurd (hth.trans h) hZ, (if_neg (fun h => hZ (hth.trans h))).symm, (if_neg (fun h => hZ (hth.trans h))).symm⟩) hS.2.2 dX1_bend_64 G.2.2.2.2.2.2
        · have hu_49 := h_49
          refine lv_iconst (v := nI 1) G.1 G.2.1 dX1_bend_52 (by decide) ?_
          refine lv_goto (tgt := 57) G.1 G.2.1 dX1_bend_53 (by decide) ?_
          refine gm_mut (N' := N) (S' := S) (th' := (sp_m3 1 (gbn (gb i4 256)) 1)) (r := (nI (sp_z (sp_m3 1 (gbn (gb i4 256)) 1)))) (As := [.int (nI 1), .int (nI (gbn (gb i4 256))), .int (nI 1)]) (rest := []) G.fix (mX1_mayAll l D q cI cZ N S fv th A 1 (gbn (gb i4 256)) 1 (by first | decide | exact gbn_lt _) (by first | decide | exact gbn_lt _) (by first | decide | exact gbn_lt _)) (cwV 3 G.2.2.2.2.2.1 gX1_bend_X1_mayAll rfl rfl rfl (by decide +kernel) ⟨Nat.le_of_ble_eq_true rfl, Nat.le_of_ble_eq_true rfl⟩) hX hS rfl hl.1 rfl (Nat.le_of_ble_eq_true rfl) dX1_bend_57 (Nat.zero_le _) (Nat.zero_le _) (fun fv H1 locs1 hX hS => ?_)
          refine gn_nez G (by exact sp_z_lt _) (tgt := 65) dX1_bend_60 (by decide) (fun h_60 => ?_) (fun h_60 => ?_)
          · have hZ : sp_m3 1 (gbn (gb i4 256)) 1 = 0 := sp_z_t h_60
            have hTb_60 : gb i4 256 = true := gbn_t (sp_m3_b hZ)
            obtain ⟨j4, hj4, rfl⟩ := gb_of (by omega) hTb_60
            have hg4 := gn_nI (show j4 < 2 ^ 31 by omega)
            refine lv_aload_n G.1 G.2.1 dX1_bend_65 rfl (lv_at hl 1 rfl) ?_
            refine gm_get G hX (by decide +kernel) 1 (by decide) (by decide +kernel) rfl rfl rfl dX1_bend_66 ?_
            refine lv_bipush (v := nI 15) G.1 G.2.1 dX1_bend_69 (by decide) ?_
            refine lv_iload_n G.1 G.2.1 dX1_bend_71 rfl (lv_at hl 2 rfl) ?_
            refine gn_imul G dX1_bend_72 ?_
            refine lv_iconst (v := nI 5) G.1 G.2.1 dX1_bend_73 (by decide) ?_
            refine lv_iload_n G.1 G.2.1 dX1_bend_74 rfl (lv_at hl 3 rfl) ?_
            refine gn_imul G dX1_bend_75 ?_
            refine gn_iadd G dX1_bend_76 ?_
            refine lv_iload_n G.1 G.2.1 dX1_bend_77 rfl (lv_at hl 4 rfl) ?_
            refine gn_iadd G dX1_bend_78 ?_
            refine gm_ald (k := 1) (kp := 1) (len := 120) (F := S 1) G hX rfl (by first | omega | assumption) (by decide) dX1_bend_79 ?_
            rw [show ((15 * j1) + (5 * j2)) + j3 = ((j1 * 3) + j2) * 5 + j3 from by omega]
            refine lv_istore (lv' := [(6, .int (nI (S 1 (((j1 * 3) + j2) * 5 + j3)))), (5, .int (nI 1)), (0, .ref (q 0)), (1, .int (nI j1)), (2, .int (nI j2)), (3, .int (nI j3)), (4, .int (nI j4))]) G.1 G.2.1 dX1_bend_80 hl (by decide) rfl (fun ls hl => ?_)
            refine lv_aload_n G.1 G.2.1 dX1_bend_82 rfl (lv_at hl 2 rfl) ?_
            refine gm_get G hX (by decide +kernel) 1 (by decide) (by decide +kernel) rfl rfl rfl dX1_bend_83 ?_
            refine lv_bipush (v := nI 15) G.1 G.2.1 dX1_bend_86 (by decide) ?_
            refine lv_iload_n G.1 G.2.1 dX1_bend_88 rfl (lv_at hl 3 rfl) ?_
            refine gn_imul G dX1_bend_89 ?_
            refine lv_iconst (v := nI 5) G.1 G.2.1 dX1_bend_90 (by decide) ?_
            refine lv_iload_n G.1 G.2.1 dX1_bend_91 rfl (lv_at hl 4 rfl) ?_
            refine gn_imul G dX1_bend_92 ?_
            refine gn_iadd G dX1_bend_93 ?_
            refine lv_iload_n G.1 G.2.1 dX1_bend_94 rfl (lv_at hl 5 rfl) ?_
            refine gn_iadd G dX1_bend_95 ?_
            refine lv_iload G.1 G.2.1 dX1_bend_96 (lv_at hl 6 rfl) ?_
            refine gm_ast (k := 1) (kp := 1) (len := 120) (F := S 1) (i := ((15 * j1) + (5 * j2)) + j3) (v := j4) (S' := (gs S 1 (gu (S 1) (((j1 * 3) + j2) * 5 + j3) j4))) (fv' := fv) G hX hS rfl (by rw [show ((15 * j1) + (5 * j2)) + j3 = ((j1 * 3) + j2) * 5 + j3 from by omega]; rfl) (by first | omega | assumption) (by decide) dX1_bend_98 (fun H1 locs1 hX hS => ?_)
            refine lv_iload G.1 G.2.1 dX1_bend_99 (lv_at hl 0 rfl) ?_
            have hth : sp_m3 1 (gbn (gb (nI j4) 256)) 1 = sk_bend N S (nI j1) (nI j2) (nI j3) (nI j4) := by
              unfold sk_bend
              rw [show sA_bend N S (nI j1) (nI j2) (nI j3) (nI j4) = true from by simp [sA_bend, hT_5, hT_12, hT_21, h_49, hTb_60, hg1, hg2, hg3, hg4] <;> omega]
              rw [show sC_bend N S (nI j1) (nI j2) (nI j3) (nI j4) = true from by simp [sC_bend, hT_5, hT_12, hT_21, h_49, hTb_60, hg1, hg2, hg3, hg4] <;> omega]
              exact sp_m3_gk (true) (gb (nI j4) 256) (true)
            have hsk : sk_bend N S (nI j1) (nI j2) (nI j3) (nI j4) = 0 := hth.symm.trans hZ
            exact W.iret G.1 G.2.1 G.2.2.1 (fun t ht hW => gQm_of hX hS ht ⟨hth, fun _ => (by show nI _ = nI _; simp only [sR_bend, hg1, hg2, hg3, hg4]), (by rw [if_pos hsk]; simp only [sN_bend, hg1, hg2, hg3, hg4]), (by rw [if_pos hsk]; simp only [sS_bend, hg1, hg2, hg3, hg4])⟩) hS.2.2 dX1_bend_101 G.2.2.2.2.2.2
          · have hZ : sp_m3 1 (gbn (gb i4 256)) 1 ≠ 0 := sp_z_f h_60
            refine lv_iconst (v := nI 0) G.1 G.2.1 dX1_bend_63 (by decide) ?_
            have hth : sp_m3 1 (gbn (gb i4 256)) 1 = sk_bend N S (nI j1) (nI j2) (nI j3) i4 := by
              unfold sk_bend
              rw [show sA_bend N S (nI j1) (nI j2) (nI j3) i4 = true from by simp [sA_bend, hT_5, hT_12, hT_21, h_49, hg1, hg2, hg3] <;> omega]
              rw [show sC_bend N S (nI j1) (nI j2) (nI j3) i4 = true from by simp [sC_bend, hT_5, hT_12, hT_21, h_49, hg1, hg2, hg3] <;> omega]
              exact sp_m3_gk (true) (gb i4 256) (true)
            exact W.iret G.1 G.2.1 G.2.2.1 (fun t ht hW => gQm_of hX hS ht ⟨hth, fun h => absurd (hth.trans h) hZ, (if_neg (fun h => hZ (hth.trans h))).symm, (if_neg (fun h => hZ (hth.trans h))).symm⟩) hS.2.2 dX1_bend_64 G.2.2.2.2.2.2
set_option maxRecDepth 100000 in
set_option maxHeartbeats 4000000 in
/-- reach -/
theorem mX1_reach (l : Launch) (D : va_G) (q : Nat → Nat) (cI cZ : ClassId) (N : Nat → Nat) (S : Nat → Nat → Nat) (fv : Nat → Nat) (th : Nat) (A : Nat → Prop) (hok : sp_ok N S) (hinv : sp_inv N S) (i1 i2 i3 i4 : Int32) : Met l yX1_reach wsX1_reach { frames := 2, cells := 0, slots := 0, locals := 43 } (va_Pc [.ref (q 0), .int i1, .int i2, .int i3, .int i4] (fun U => mAt D q cI cZ N S fv th A U U.heap)) (gQm D q cI cZ (fun r N2 S2 th2 => th2 = sk_reach N S i1 i2 i3 i4 ∧ (sk_reach N S i1 i2 i3 i4 = 0 → r = nI (sR_reach N S i1 i2 i3 i4)) ∧ N2 = (if sk_reach N S i1 i2 i3 i4 = 0 then sN_reach N S i1 i2 i3 i4 else N) ∧ S2 = (if sk_reach N S i1 i2 i3 i4 = 0 then sS_reach N S i1 i2 i3 i4 else S)) A) 0 0 A := by
  refine gc_met [.ref (q 0), .int i1, .int i2, .int i3, .int i4] (by decide) rfl (Nat.le_of_ble_eq_true rfl) rfl ?_
  intro p e s m below meth c ls G hl hX
  have hS : va_S A s.heap s.heap [] := va_S.rf
  have hok9 := hok
  obtain ⟨⟨ok0, ok5⟩, ok1, ok2, ok3, ok4, ok6, ok7, ok8, ok12, ok13, ok14⟩ := hok9
  refine lv_aload_n G.1 G.2.1 dX1_reach_0 rfl (lv_at hl 0 rfl) ?_
  refine lv_iload_n G.1 G.2.1 dX1_reach_1 rfl (lv_at hl 1 rfl) ?_
  refine gc_v (As := [.int i1]) (rest := []) G.fix (mX1_isProfile l D q cI cZ N S fv th A hok i1) (cwV 1 G.2.2.2.2.2.1 gX1_reach_X1_isProfile rfl rfl rfl (by decide +kernel) ⟨Nat.le_of_ble_eq_true rfl, Nat.le_of_ble_eq_true rfl⟩) mAt_blind (va_recv hX.2.1 hX.1 (ci := 1) (q0 := 0) rfl rfl) (fun U hU hW => by rw [hU]; exact hX.moved hW) rfl hl.1 rfl (Nat.le_of_ble_eq_true rfl) dX1_reach_2 (Nat.zero_le _) (Nat.zero_le _) (fun r hr => ?_)
  subst hr
  refine gn_eqz G (by exact gbn_lt _) (tgt := 19) dX1_reach_5 (by decide) (fun h_5 => ?_) (fun h_5 => ?_)
  · have hF_5 : gb i1 (N 0) = false := gbn_f h_5
    refine lv_iconst (v := nI 0) G.1 G.2.1 dX1_reach_19 (by decide) ?_
    refine lv_istore (lv' := [(5, .int (nI 0)), (0, .ref (q 0)), (1, .int i1), (2, .int i2), (3, .int i3), (4, .int i4)]) G.1 G.2.1 dX1_reach_20 hl (by decide) rfl (fun ls hl => ?_)
    refine lv_aload_n G.1 G.2.1 dX1_reach_22 rfl (lv_at hl 1 rfl) ?_
    refine lv_iload G.1 G.2.1 dX1_reach_23 (lv_at hl 0 rfl) ?_
    refine lv_iload_n G.1 G.2.1 dX1_reach_25 rfl (lv_at hl 4 rfl) ?_
    refine gc_s (As := [.int i3]) (rest := [.int (nI 0), .ref (q 0)]) G.fix (mX1_isByte l i3) (va_cwS 1 G.2.2.2.2.2.1 gX1_reach_X1_isByte rfl rfl rfl (by decide +kernel) ⟨Nat.le_of_ble_eq_true rfl, Nat.le_of_ble_eq_true rfl⟩) gc_blindT (fun _ _ _ => trivial) rfl hl.1 rfl (Nat.le_of_ble_eq_true rfl) dX1_reach_26 (Nat.zero_le _) (Nat.zero_le _) (fun r hr => ?_)
    subst hr
    refine gn_eqz G (by exact gbn_lt _) (tgt := 48) dX1_reach_29 (by decide) (fun h_29 => ?_) (fun h_29 => ?_)
    · have hF_29 : gb i3 256 = false := gbn_f h_29
      refine lv_iconst (v := nI 0) G.1 G.2.1 dX1_reach_48 (by decide) ?_
      refine lv_iload G.1 G.2.1 dX1_reach_49 (lv_at hl 0 rfl) ?_
      refine gn_eqz G (by decide) (tgt := 66) dX1_reach_51 (by decide) (fun h_51 => ?_) (fun h_51 => absurd h_51 (by decide))
      refine lv_iconst (v := nI 0) G.1 G.2.1 dX1_reach_66 (by decide) ?_
      refine gm_mut (N' := N) (S' := S) (th' := (sp_m3 0 0 0)) (r := (nI (sp_z (sp_m3 0 0 0)))) (As := [.int (nI 0), .int (nI 0), .int (nI 0)]) (rest := []) G.fix (mX1_mayAll l D q cI cZ N S fv th A 0 0 0 (by first | decide | exact gbn_lt _) (by first | decide | exact gbn_lt _) (by first | decide | exact gbn_lt _)) (cwV 3 G.2.2.2.2.2.1 gX1_reach_X1_mayAll rfl rfl rfl (by decide +kernel) ⟨Nat.le_of_ble_eq_true rfl, Nat.le_of_ble_eq_true rfl⟩) hX hS rfl hl.1 rfl (Nat.le_of_ble_eq_true rfl) dX1_reach_67 (Nat.zero_le _) (Nat.zero_le _) (fun fv H1 locs1 hX hS => ?_)
      refine gn_nez G (by exact sp_z_lt _) (tgt := 75) dX1_reach_70 (by decide) (fun h_70 => ?_) (fun h_70 => ?_)
      · exact absurd (sp_z_t h_70) (fun z => sp_m3_c z rfl)
      · have hZ : sp_m3 0 0 0 ≠ 0 := sp_z_f h_70
        refine lv_iconst (v := nI 0) G.1 G.2.1 dX1_reach_73 (by decide) ?_
        have hth : sp_m3 0 0 0 = sk_reach N S i1 i2 i3 i4 := by
          unfold sk_reach
          rw [show sA_reach N S i1 i2 i3 i4 = false from by simp [sA_reach, hF_5, hF_29] <;> omega]
          rfl
        exact W.iret G.1 G.2.1 G.2.2.1 (fun t ht hW => gQm_of hX hS ht ⟨hth, fun h => absurd (hth.trans h) hZ, (if_neg (fun h => hZ (hth.trans h))).symm, (if_neg (fun h => hZ (hth.trans h))).symm⟩) hS.2.2 dX1_reach_74 G.2.2.2.2.2.2
    · have hT_29 : gb i3 256 = true := gbn_t h_29
      obtain ⟨j3, hj3, rfl⟩ := gb_of (by omega) hT_29
      have hg3 := gn_nI (show j3 < 2 ^ 31 by omega)
      refine lv_iload G.1 G.2.1 dX1_reach_32 (lv_at hl 5 rfl) ?_
      refine lv_iload_n G.1 G.2.1 dX1_reach_34 rfl (lv_at hl 4 rfl) ?_
      refine lv_sipush (v := nI 255) G.1 G.2.1 dX1_reach_35 (by decide) ?_
      refine gc_s (As := [.int i4, .int (nI j3), .int (nI 255)]) (rest := [.int (nI 0), .ref (q 0)]) G.fix (mX1_isIn l i4 (nI j3) (nI 255)) (va_cwS 3 G.2.2.2.2.2.1 gX1_reach_X1_isIn rfl rfl rfl (by decide +kernel) ⟨Nat.le_of_ble_eq_true rfl, Nat.le_of_ble_eq_true rfl⟩) gc_blindT (fun _ _ _ => trivial) rfl hl.1 rfl (Nat.le_of_ble_eq_true rfl) dX1_reach_38 (Nat.zero_le _) (Nat.zero_le _) (fun r hr => ?_)
      subst hr
      refine gn_eqz G (by exact gbn_lt _) (tgt := 48) dX1_reach_41 (by decide) (fun h_41 => ?_) (fun h_41 => ?_)
      · have hB4 : (gb i4 256 && decide (j3 ≤ gn i4)) = false := gin_bf (by omega) (gbn_f h_41)
        refine lv_iconst (v := nI 0) G.1 G.2.1 dX1_reach_48 (by decide) ?_
        refine lv_iload G.1 G.2.1 dX1_reach_49 (lv_at hl 0 rfl) ?_
        refine gn_eqz G (by decide) (tgt := 66) dX1_reach_51 (by decide) (fun h_51 => ?_) (fun h_51 => absurd h_51 (by decide))
        refine lv_iconst (v := nI 0) G.1 G.2.1 dX1_reach_66 (by decide) ?_
        refine gm_mut (N' := N) (S' := S) (th' := (sp_m3 0 0 0)) (r := (nI (sp_z (sp_m3 0 0 0)))) (As := [.int (nI 0), .int (nI 0), .int (nI 0)]) (rest := []) G.fix (mX1_mayAll l D q cI cZ N S fv th A 0 0 0 (by first | decide | exact gbn_lt _) (by first | decide | exact gbn_lt _) (by first | decide | exact gbn_lt _)) (cwV 3 G.2.2.2.2.2.1 gX1_reach_X1_mayAll rfl rfl rfl (by decide +kernel) ⟨Nat.le_of_ble_eq_true rfl, Nat.le_of_ble_eq_true rfl⟩) hX hS rfl hl.1 rfl (Nat.le_of_ble_eq_true rfl) dX1_reach_67 (Nat.zero_le _) (Nat.zero_le _) (fun fv H1 locs1 hX hS => ?_)
        refine gn_nez G (by exact sp_z_lt _) (tgt := 75) dX1_reach_70 (by decide) (fun h_70 => ?_) (fun h_70 => ?_)
        · exact absurd (sp_z_t h_70) (fun z => sp_m3_c z rfl)
        · have hZ : sp_m3 0 0 0 ≠ 0 := sp_z_f h_70
          refine lv_iconst (v := nI 0) G.1 G.2.1 dX1_reach_73 (by decide) ?_
          have hth : sp_m3 0 0 0 = sk_reach N S i1 i2 (nI j3) i4 := by
            unfold sk_reach
            rw [show sA_reach N S i1 i2 (nI j3) i4 = false from by simp [sA_reach, hF_5, hT_29, hB4, hg3] <;> omega]
            rfl
          exact W.iret G.1 G.2.1 G.2.2.1 (fun t ht hW => gQm_of hX hS ht ⟨hth, fun h => absurd (hth.trans h) hZ, (if_neg (fun h => hZ (hth.trans h))).symm, (if_neg (fun h => hZ (hth.trans h))).symm⟩) hS.2.2 dX1_reach_74 G.2.2.2.2.2.2
      · obtain ⟨j4, hj4, hle, rfl⟩ := gin_b (by omega) (gbn_t h_41)
        have hg4 := gn_nI (show j4 < 2 ^ 31 by omega)
        have hB4 : gb (nI j4) 256 = true := by rw [gb_nI (by omega)]; exact decide_eq_true hj4
        refine lv_iconst (v := nI 1) G.1 G.2.1 dX1_reach_44 (by decide) ?_
        refine lv_goto (tgt := 49) G.1 G.2.1 dX1_reach_45 (by decide) ?_
        refine lv_iload G.1 G.2.1 dX1_reach_49 (lv_at hl 0 rfl) ?_
        refine gn_eqz G (by decide) (tgt := 66) dX1_reach_51 (by decide) (fun h_51 => ?_) (fun h_51 => absurd h_51 (by decide))
        refine lv_iconst (v := nI 0) G.1 G.2.1 dX1_reach_66 (by decide) ?_
        refine gm_mut (N' := N) (S' := S) (th' := (sp_m3 0 1 0)) (r := (nI (sp_z (sp_m3 0 1 0)))) (As := [.int (nI 0), .int (nI 1), .int (nI 0)]) (rest := []) G.fix (mX1_mayAll l D q cI cZ N S fv th A 0 1 0 (by first | decide | exact gbn_lt _) (by first | decide | exact gbn_lt _) (by first | decide | exact gbn_lt _)) (cwV 3 G.2.2.2.2.2.1 gX1_reach_X1_mayAll rfl rfl rfl (by decide +kernel) ⟨Nat.le_of_ble_eq_true rfl, Nat.le_of_ble_eq_true rfl⟩) hX hS rfl hl.1 rfl (Nat.le_of_ble_eq_true rfl) dX1_reach_67 (Nat.zero_le _) (Nat.zero_le _) (fun fv H1 locs1 hX hS => ?_)
        refine gn_nez G (by exact sp_z_lt _) (tgt := 75) dX1_reach_70 (by decide) (fun h_70 => ?_) (fun h_70 => ?_)
        · exact absurd (sp_z_t h_70) (fun z => sp_m3_c z rfl)
        · have hZ : sp_m3 0 1 0 ≠ 0 := sp_z_f h_70
          refine lv_iconst (v := nI 0) G.1 G.2.1 dX1_reach_73 (by decide) ?_
          have hth : sp_m3 0 1 0 = sk_reach N S i1 i2 (nI j3) (nI j4) := by
            unfold sk_reach
            rw [show sA_reach N S i1 i2 (nI j3) (nI j4) = false from by simp [sA_reach, hF_5, hT_29, hle, hB4, hg3, hg4] <;> omega]
            rfl
          exact W.iret G.1 G.2.1 G.2.2.1 (fun t ht hW => gQm_of hX hS ht ⟨hth, fun h => absurd (hth.trans h) hZ, (if_neg (fun h => hZ (hth.trans h))).symm, (if_neg (fun h => hZ (hth.trans h))).symm⟩) hS.2.2 dX1_reach_74 G.2.2.2.2.2.2
  · have hT_5 : gb i1 (N 0) = true := gbn_t h_5
    obtain ⟨j1, hj1, rfl⟩ := gb_of (by omega) hT_5
    have hg1 := gn_nI (show j1 < 2 ^ 31 by omega)
    refine lv_iload_n G.1 G.2.1 dX1_reach_8 rfl (lv_at hl 2 rfl) ?_
    refine gc_s (As := [.int i2]) (rest := []) G.fix (mX1_isThird l i2) (va_cwS 1 G.2.2.2.2.2.1 gX1_reach_X1_isThird rfl rfl rfl (by decide +kernel) ⟨Nat.le_of_ble_eq_true rfl, Nat.le_of_ble_eq_true rfl⟩) gc_blindT (fun _ _ _ => trivial) rfl hl.1 rfl (Nat.le_of_ble_eq_true rfl) dX1_reach_9 (Nat.zero_le _) (Nat.zero_le _) (fun r hr => ?_)
    subst hr
    refine gn_eqz G (by exact gbn_lt _) (tgt := 19) dX1_reach_12 (by decide) (fun h_12 => ?_) (fun h_12 => ?_)
    · have hF_12 : gb i2 3 = false := gbn_f h_12
      refine lv_iconst (v := nI 0) G.1 G.2.1 dX1_reach_19 (by decide) ?_
      refine lv_istore (lv' := [(5, .int (nI 0)), (0, .ref (q 0)), (1, .int (nI j1)), (2, .int i2), (3, .int i3), (4, .int i4)]) G.1 G.2.1 dX1_reach_20 hl (by decide) rfl (fun ls hl => ?_)
      refine lv_aload_n G.1 G.2.1 dX1_reach_22 rfl (lv_at hl 1 rfl) ?_
      refine lv_iload G.1 G.2.1 dX1_reach_23 (lv_at hl 0 rfl) ?_
      refine lv_iload_n G.1 G.2.1 dX1_reach_25 rfl (lv_at hl 4 rfl) ?_
      refine gc_s (As := [.int i3]) (rest := [.int (nI 0), .ref (q 0)]) G.fix (mX1_isByte l i3) (va_cwS 1 G.2.2.2.2.2.1 gX1_reach_X1_isByte rfl rfl rfl (by decide +kernel) ⟨Nat.le_of_ble_eq_true rfl, Nat.le_of_ble_eq_true rfl⟩) gc_blindT (fun _ _ _ => trivial) rfl hl.1 rfl (Nat.le_of_ble_eq_true rfl) dX1_reach_26 (Nat.zero_le _) (Nat.zero_le _) (fun r hr => ?_)
      subst hr
      refine gn_eqz G (by exact gbn_lt _) (tgt := 48) dX1_reach_29 (by decide) (fun h_29 => ?_) (fun h_29 => ?_)
      · have hF_29 : gb i3 256 = false := gbn_f h_29
        refine lv_iconst (v := nI 0) G.1 G.2.1 dX1_reach_48 (by decide) ?_
        refine lv_iload G.1 G.2.1 dX1_reach_49 (lv_at hl 0 rfl) ?_
        refine gn_eqz G (by decide) (tgt := 66) dX1_reach_51 (by decide) (fun h_51 => ?_) (fun h_51 => absurd h_51 (by decide))
        refine lv_iconst (v := nI 0) G.1 G.2.1 dX1_reach_66 (by decide) ?_
        refine gm_mut (N' := N) (S' := S) (th' := (sp_m3 0 0 0)) (r := (nI (sp_z (sp_m3 0 0 0)))) (As := [.int (nI 0), .int (nI 0), .int (nI 0)]) (rest := []) G.fix (mX1_mayAll l D q cI cZ N S fv th A 0 0 0 (by first | decide | exact gbn_lt _) (by first | decide | exact gbn_lt _) (by first | decide | exact gbn_lt _)) (cwV 3 G.2.2.2.2.2.1 gX1_reach_X1_mayAll rfl rfl rfl (by decide +kernel) ⟨Nat.le_of_ble_eq_true rfl, Nat.le_of_ble_eq_true rfl⟩) hX hS rfl hl.1 rfl (Nat.le_of_ble_eq_true rfl) dX1_reach_67 (Nat.zero_le _) (Nat.zero_le _) (fun fv H1 locs1 hX hS => ?_)
        refine gn_nez G (by exact sp_z_lt _) (tgt := 75) dX1_reach_70 (by decide) (fun h_70 => ?_) (fun h_70 => ?_)
        · exact absurd (sp_z_t h_70) (fun z => sp_m3_c z rfl)
        · have hZ : sp_m3 0 0 0 ≠ 0 := sp_z_f h_70
          refine lv_iconst (v := nI 0) G.1 G.2.1 dX1_reach_73 (by decide) ?_
          have hth : sp_m3 0 0 0 = sk_reach N S (nI j1) i2 i3 i4 := by
            unfold sk_reach
            rw [show sA_reach N S (nI j1) i2 i3 i4 = false from by simp [sA_reach, hT_5, hF_12, hF_29, hg1] <;> omega]
            rfl
          exact W.iret G.1 G.2.1 G.2.2.1 (fun t ht hW => gQm_of hX hS ht ⟨hth, fun h => absurd (hth.trans h) hZ, (if_neg (fun h => hZ (hth.trans h))).symm, (if_neg (fun h => hZ (hth.trans h))).symm⟩) hS.2.2 dX1_reach_74 G.2.2.2.2.2.2
      · have hT_29 : gb i3 256 = true := gbn_t h_29
        obtain ⟨j3, hj3, rfl⟩ := gb_of (by omega) hT_29
        have hg3 := gn_nI (show j3 < 2 ^ 31 by omega)
        refine lv_iload G.1 G.2.1 dX1_reach_32 (lv_at hl 5 rfl) ?_
        refine lv_iload_n G.1 G.2.1 dX1_reach_34 rfl (lv_at hl 4 rfl) ?_
        refine lv_sipush (v := nI 255) G.1 G.2.1 dX1_reach_35 (by decide) ?_
        refine gc_s (As := [.int i4, .int (nI j3), .int (nI 255)]) (rest := [.int (nI 0), .ref (q 0)]) G.fix (mX1_isIn l i4 (nI j3) (nI 255)) (va_cwS 3 G.2.2.2.2.2.1 gX1_reach_X1_isIn rfl rfl rfl (by decide +kernel) ⟨Nat.le_of_ble_eq_true rfl, Nat.le_of_ble_eq_true rfl⟩) gc_blindT (fun _ _ _ => trivial) rfl hl.1 rfl (Nat.le_of_ble_eq_true rfl) dX1_reach_38 (Nat.zero_le _) (Nat.zero_le _) (fun r hr => ?_)
        subst hr
        refine gn_eqz G (by exact gbn_lt _) (tgt := 48) dX1_reach_41 (by decide) (fun h_41 => ?_) (fun h_41 => ?_)
        · have hB4 : (gb i4 256 && decide (j3 ≤ gn i4)) = false := gin_bf (by omega) (gbn_f h_41)
          refine lv_iconst (v := nI 0) G.1 G.2.1 dX1_reach_48 (by decide) ?_
          refine lv_iload G.1 G.2.1 dX1_reach_49 (lv_at hl 0 rfl) ?_
          refine gn_eqz G (by decide) (tgt := 66) dX1_reach_51 (by decide) (fun h_51 => ?_) (fun h_51 => absurd h_51 (by decide))
          refine lv_iconst (v := nI 0) G.1 G.2.1 dX1_reach_66 (by decide) ?_
          refine gm_mut (N' := N) (S' := S) (th' := (sp_m3 0 0 0)) (r := (nI (sp_z (sp_m3 0 0 0)))) (As := [.int (nI 0), .int (nI 0), .int (nI 0)]) (rest := []) G.fix (mX1_mayAll l D q cI cZ N S fv th A 0 0 0 (by first | decide | exact gbn_lt _) (by first | decide | exact gbn_lt _) (by first | decide | exact gbn_lt _)) (cwV 3 G.2.2.2.2.2.1 gX1_reach_X1_mayAll rfl rfl rfl (by decide +kernel) ⟨Nat.le_of_ble_eq_true rfl, Nat.le_of_ble_eq_true rfl⟩) hX hS rfl hl.1 rfl (Nat.le_of_ble_eq_true rfl) dX1_reach_67 (Nat.zero_le _) (Nat.zero_le _) (fun fv H1 locs1 hX hS => ?_)
          refine gn_nez G (by exact sp_z_lt _) (tgt := 75) dX1_reach_70 (by decide) (fun h_70 => ?_) (fun h_70 => ?_)
          · exact absurd (sp_z_t h_70) (fun z => sp_m3_c z rfl)
          · have hZ : sp_m3 0 0 0 ≠ 0 := sp_z_f h_70
            refine lv_iconst (v := nI 0) G.1 G.2.1 dX1_reach_73 (by decide) ?_
            have hth : sp_m3 0 0 0 = sk_reach N S (nI j1) i2 (nI j3) i4 := by
              unfold sk_reach
              rw [show sA_reach N S (nI j1) i2 (nI j3) i4 = false from by simp [sA_reach, hT_5, hF_12, hT_29, hB4, hg1, hg3] <;> omega]
              rfl
            exact W.iret G.1 G.2.1 G.2.2.1 (fun t ht hW => gQm_of hX hS ht ⟨hth, fun h => absurd (hth.trans h) hZ, (if_neg (fun h => hZ (hth.trans h))).symm, (if_neg (fun h => hZ (hth.trans h))).symm⟩) hS.2.2 dX1_reach_74 G.2.2.2.2.2.2
        · obtain ⟨j4, hj4, hle, rfl⟩ := gin_b (by omega) (gbn_t h_41)
          have hg4 := gn_nI (show j4 < 2 ^ 31 by omega)
          have hB4 : gb (nI j4) 256 = true := by rw [gb_nI (by omega)]; exact decide_eq_true hj4
          refine lv_iconst (v := nI 1) G.1 G.2.1 dX1_reach_44 (by decide) ?_
          refine lv_goto (tgt := 49) G.1 G.2.1 dX1_reach_45 (by decide) ?_
          refine lv_iload G.1 G.2.1 dX1_reach_49 (lv_at hl 0 rfl) ?_
          refine gn_eqz G (by decide) (tgt := 66) dX1_reach_51 (by decide) (fun h_51 => ?_) (fun h_51 => absurd h_51 (by decide))
          refine lv_iconst (v := nI 0) G.1 G.2.1 dX1_reach_66 (by decide) ?_
          refine gm_mut (N' := N) (S' := S) (th' := (sp_m3 0 1 0)) (r := (nI (sp_z (sp_m3 0 1 0)))) (As := [.int (nI 0), .int (nI 1), .int (nI 0)]) (rest := []) G.fix (mX1_mayAll l D q cI cZ N S fv th A 0 1 0 (by first | decide | exact gbn_lt _) (by first | decide | exact gbn_lt _) (by first | decide | exact gbn_lt _)) (cwV 3 G.2.2.2.2.2.1 gX1_reach_X1_mayAll rfl rfl rfl (by decide +kernel) ⟨Nat.le_of_ble_eq_true rfl, Nat.le_of_ble_eq_true rfl⟩) hX hS rfl hl.1 rfl (Nat.le_of_ble_eq_true rfl) dX1_reach_67 (Nat.zero_le _) (Nat.zero_le _) (fun fv H1 locs1 hX hS => ?_)
          refine gn_nez G (by exact sp_z_lt _) (tgt := 75) dX1_reach_70 (by decide) (fun h_70 => ?_) (fun h_70 => ?_)
          · exact absurd (sp_z_t h_70) (fun z => sp_m3_c z rfl)
          · have hZ : sp_m3 0 1 0 ≠ 0 := sp_z_f h_70
            refine lv_iconst (v := nI 0) G.1 G.2.1 dX1_reach_73 (by decide) ?_
            have hth : sp_m3 0 1 0 = sk_reach N S (nI j1) i2 (nI j3) (nI j4) := by
              unfold sk_reach
              rw [show sA_reach N S (nI j1) i2 (nI j3) (nI j4) = false from by simp [sA_reach, hT_5, hF_12, hT_29, hle, hB4, hg1, hg3, hg4] <;> omega]
              rfl
            exact W.iret G.1 G.2.1 G.2.2.1 (fun t ht hW => gQm_of hX hS ht ⟨hth, fun h => absurd (hth.trans h) hZ, (if_neg (fun h => hZ (hth.trans h))).symm, (if_neg (fun h => hZ (hth.trans h))).symm⟩) hS.2.2 dX1_reach_74 G.2.2.2.2.2.2
    · have hT_12 : gb i2 3 = true := gbn_t h_12
      obtain ⟨j2, hj2, rfl⟩ := gb_of (by omega) hT_12
      have hg2 := gn_nI (show j2 < 2 ^ 31 by omega)
      refine lv_iconst (v := nI 1) G.1 G.2.1 dX1_reach_15 (by decide) ?_
      refine lv_goto (tgt := 20) G.1 G.2.1 dX1_reach_16 (by decide) ?_
      refine lv_istore (lv' := [(5, .int (nI 1)), (0, .ref (q 0)), (1, .int (nI j1)), (2, .int (nI j2)), (3, .int i3), (4, .int i4)]) G.1 G.2.1 dX1_reach_20 hl (by decide) rfl (fun ls hl => ?_)
      refine lv_aload_n G.1 G.2.1 dX1_reach_22 rfl (lv_at hl 1 rfl) ?_
      refine lv_iload G.1 G.2.1 dX1_reach_23 (lv_at hl 0 rfl) ?_
      refine lv_iload_n G.1 G.2.1 dX1_reach_25 rfl (lv_at hl 4 rfl) ?_
      refine gc_s (As := [.int i3]) (rest := [.int (nI 1), .ref (q 0)]) G.fix (mX1_isByte l i3) (va_cwS 1 G.2.2.2.2.2.1 gX1_reach_X1_isByte rfl rfl rfl (by decide +kernel) ⟨Nat.le_of_ble_eq_true rfl, Nat.le_of_ble_eq_true rfl⟩) gc_blindT (fun _ _ _ => trivial) rfl hl.1 rfl (Nat.le_of_ble_eq_true rfl) dX1_reach_26 (Nat.zero_le _) (Nat.zero_le _) (fun r hr => ?_)
      subst hr
      refine gn_eqz G (by exact gbn_lt _) (tgt := 48) dX1_reach_29 (by decide) (fun h_29 => ?_) (fun h_29 => ?_)
      · have hF_29 : gb i3 256 = false := gbn_f h_29
        refine lv_iconst (v := nI 0) G.1 G.2.1 dX1_reach_48 (by decide) ?_
        refine lv_iload G.1 G.2.1 dX1_reach_49 (lv_at hl 0 rfl) ?_
        refine gn_eqz G (by decide) (tgt := 66) dX1_reach_51 (by decide) (fun h_51 => absurd h_51 (by decide)) (fun h_51 => ?_)
        refine lv_aload_n G.1 G.2.1 dX1_reach_54 rfl (lv_at hl 1 rfl) ?_
        refine lv_iload_n G.1 G.2.1 dX1_reach_55 rfl (lv_at hl 2 rfl) ?_
        refine gc_v (As := [.int (nI j1)]) (rest := [.int (nI 0), .int (nI 1), .ref (q 0)]) G.fix (mX1_isHeld l D q cI cZ N S fv th A hok hinv j1 (by omega)) (cwV 1 G.2.2.2.2.2.1 gX1_reach_X1_isHeld rfl rfl rfl (by decide +kernel) ⟨Nat.le_of_ble_eq_true rfl, Nat.le_of_ble_eq_true rfl⟩) mAt_blind (va_recv hX.2.1 hX.1 (ci := 1) (q0 := 0) rfl rfl) (fun U hU hW => by rw [hU]; exact hX.moved hW) rfl hl.1 rfl (Nat.le_of_ble_eq_true rfl) dX1_reach_56 (Nat.zero_le _) (Nat.zero_le _) (fun r hr => ?_)
        subst hr
        rw [sp_hout_eq hok hinv (by omega)]
        refine gn_nez G (by exact sp_b31 _ _) (tgt := 66) dX1_reach_59 (by decide) (fun h_59 => ?_) (fun h_59 => ?_)
        · have hu_59 := h_59
          refine lv_iconst (v := nI 0) G.1 G.2.1 dX1_reach_66 (by decide) ?_
          refine gm_mut (N' := N) (S' := S) (th' := (sp_m3 1 0 0)) (r := (nI (sp_z (sp_m3 1 0 0)))) (As := [.int (nI 1), .int (nI 0), .int (nI 0)]) (rest := []) G.fix (mX1_mayAll l D q cI cZ N S fv th A 1 0 0 (by first | decide | exact gbn_lt _) (by first | decide | exact gbn_lt _) (by first | decide | exact gbn_lt _)) (cwV 3 G.2.2.2.2.2.1 gX1_reach_X1_mayAll rfl rfl rfl (by decide +kernel) ⟨Nat.le_of_ble_eq_true rfl, Nat.le_of_ble_eq_true rfl⟩) hX hS rfl hl.1 rfl (Nat.le_of_ble_eq_true rfl) dX1_reach_67 (Nat.zero_le _) (Nat.zero_le _) (fun fv H1 locs1 hX hS => ?_)
          refine gn_nez G (by exact sp_z_lt _) (tgt := 75) dX1_reach_70 (by decide) (fun h_70 => ?_) (fun h_70 => ?_)
          · exact absurd (sp_z_t h_70) (fun z => sp_m3_c z rfl)
          · have hZ : sp_m3 1 0 0 ≠ 0 := sp_z_f h_70
            refine lv_iconst (v := nI 0) G.1 G.2.1 dX1_reach_73 (by decide) ?_
            have hth : sp_m3 1 0 0 = sk_reach N S (nI j1) (nI j2) i3 i4 := by
              unfold sk_reach
              rw [show sA_reach N S (nI j1) (nI j2) i3 i4 = true from by simp [sA_reach, hT_5, hT_12, hF_29, h_59, hg1, hg2] <;> omega]
              rw [show sB_reach N S (nI j1) (nI j2) i3 i4 = false from by simp [sB_reach, hT_5, hT_12, hF_29, h_59, hg1, hg2] <;> omega]
              rfl
            exact W.iret G.1 G.2.1 G.2.2.1 (fun t ht hW => gQm_of hX hS ht ⟨hth, fun h => absurd (hth.trans h) hZ, (if_neg (fun h => hZ (hth.trans h))).symm, (if_neg (fun h => hZ (hth.trans h))).symm⟩) hS.2.2 dX1_reach_74 G.2.2.2.2.2.2
        · have hu_59 := h_59
          refine lv_iconst (v := nI 1) G.1 G.2.1 dX1_reach_62 (by decide) ?_
          refine lv_goto (tgt := 67) G.1 G.2.1 dX1_reach_63 (by decide) ?_
          refine gm_mut (N' := N) (S' := S) (th' := (sp_m3 1 0 1)) (r := (nI (sp_z (sp_m3 1 0 1)))) (As := [.int (nI 1), .int (nI 0), .int (nI 1)]) (rest := []) G.fix (mX1_mayAll l D q cI cZ N S fv th A 1 0 1 (by first | decide | exact gbn_lt _) (by first | decide | exact gbn_lt _) (by first | decide | exact gbn_lt _)) (cwV 3 G.2.2.2.2.2.1 gX1_reach_X1_mayAll rfl rfl rfl (by decide +kernel) ⟨Nat.le_of_ble_eq_true rfl, Nat.le_of_ble_eq_true rfl⟩) hX hS rfl hl.1 rfl (Nat.le_of_ble_eq_true rfl) dX1_reach_67 (Nat.zero_le _) (Nat.zero_le _) (fun fv H1 locs1 hX hS => ?_)
          refine gn_nez G (by exact sp_z_lt _) (tgt := 75) dX1_reach_70 (by decide) (fun h_70 => ?_) (fun h_70 => ?_)
          · exact absurd (sp_z_t h_70) (fun z => sp_m3_b z rfl)
          · have hZ : sp_m3 1 0 1 ≠ 0 := sp_z_f h_70
            refine lv_iconst (v := nI 0) G.1 G.2.1 dX1_reach_73 (by decide) ?_
            have hth : sp_m3 1 0 1 = sk_reach N S (nI j1) (nI j2) i3 i4 := by
              unfold sk_reach
              rw [show sA_reach N S (nI j1) (nI j2) i3 i4 = true from by simp [sA_reach, hT_5, hT_12, hF_29, h_59, hg1, hg2] <;> omega]
              rw [show sB_reach N S (nI j1) (nI j2) i3 i4 = false from by simp [sB_reach, hT_5, hT_12, hF_29, h_59, hg1, hg2] <;> omega]
              rfl
            exact W.iret G.1 G.2.1 G.2.2.1 (fun t ht hW => gQm_of hX hS ht ⟨hth, fun h => absurd (hth.trans h) hZ, (if_neg (fun h => hZ (hth.trans h))).symm, (if_neg (fun h => hZ (hth.trans h))).symm⟩) hS.2.2 dX1_reach_74 G.2.2.2.2.2.2
      · have hT_29 : gb i3 256 = true := gbn_t h_29
        obtain ⟨j3, hj3, rfl⟩ := gb_of (by omega) hT_29
        have hg3 := gn_nI (show j3 < 2 ^ 31 by omega)
        refine lv_iload G.1 G.2.1 dX1_reach_32 (lv_at hl 5 rfl) ?_
        refine lv_iload_n G.1 G.2.1 dX1_reach_34 rfl (lv_at hl 4 rfl) ?_
        refine lv_sipush (v := nI 255) G.1 G.2.1 dX1_reach_35 (by decide) ?_
        refine gc_s (As := [.int i4, .int (nI j3), .int (nI 255)]) (rest := [.int (nI 1), .ref (q 0)]) G.fix (mX1_isIn l i4 (nI j3) (nI 255)) (va_cwS 3 G.2.2.2.2.2.1 gX1_reach_X1_isIn rfl rfl rfl (by decide +kernel) ⟨Nat.le_of_ble_eq_true rfl, Nat.le_of_ble_eq_true rfl⟩) gc_blindT (fun _ _ _ => trivial) rfl hl.1 rfl (Nat.le_of_ble_eq_true rfl) dX1_reach_38 (Nat.zero_le _) (Nat.zero_le _) (fun r hr => ?_)
        subst hr
        refine gn_eqz G (by exact gbn_lt _) (tgt := 48) dX1_reach_41 (by decide) (fun h_41 => ?_) (fun h_41 => ?_)
        · have hB4 : (gb i4 256 && decide (j3 ≤ gn i4)) = false := gin_bf (by omega) (gbn_f h_41)
          refine lv_iconst (v := nI 0) G.1 G.2.1 dX1_reach_48 (by decide) ?_
          refine lv_iload G.1 G.2.1 dX1_reach_49 (lv_at hl 0 rfl) ?_
          refine gn_eqz G (by decide) (tgt := 66) dX1_reach_51 (by decide) (fun h_51 => absurd h_51 (by decide)) (fun h_51 => ?_)
          refine lv_aload_n G.1 G.2.1 dX1_reach_54 rfl (lv_at hl 1 rfl) ?_
          refine lv_iload_n G.1 G.2.1 dX1_reach_55 rfl (lv_at hl 2 rfl) ?_
          refine gc_v (As := [.int (nI j1)]) (rest := [.int (nI 0), .int (nI 1), .ref (q 0)]) G.fix (mX1_isHeld l D q cI cZ N S fv th A hok hinv j1 (by omega)) (cwV 1 G.2.2.2.2.2.1 gX1_reach_X1_isHeld rfl rfl rfl (by decide +kernel) ⟨Nat.le_of_ble_eq_true rfl, Nat.le_of_ble_eq_true rfl⟩) mAt_blind (va_recv hX.2.1 hX.1 (ci := 1) (q0 := 0) rfl rfl) (fun U hU hW => by rw [hU]; exact hX.moved hW) rfl hl.1 rfl (Nat.le_of_ble_eq_true rfl) dX1_reach_56 (Nat.zero_le _) (Nat.zero_le _) (fun r hr => ?_)
          subst hr
          rw [sp_hout_eq hok hinv (by omega)]
          refine gn_nez G (by exact sp_b31 _ _) (tgt := 66) dX1_reach_59 (by decide) (fun h_59 => ?_) (fun h_59 => ?_)
          · have hu_59 := h_59
            refine lv_iconst (v := nI 0) G.1 G.2.1 dX1_reach_66 (by decide) ?_
            refine gm_mut (N' := N) (S' := S) (th' := (sp_m3 1 0 0)) (r := (nI (sp_z (sp_m3 1 0 0)))) (As := [.int (nI 1), .int (nI 0), .int (nI 0)]) (rest := []) G.fix (mX1_mayAll l D q cI cZ N S fv th A 1 0 0 (by first | decide | exact gbn_lt _) (by first | decide | exact gbn_lt _) (by first | decide | exact gbn_lt _)) (cwV 3 G.2.2.2.2.2.1 gX1_reach_X1_mayAll rfl rfl rfl (by decide +kernel) ⟨Nat.le_of_ble_eq_true rfl, Nat.le_of_ble_eq_true rfl⟩) hX hS rfl hl.1 rfl (Nat.le_of_ble_eq_true rfl) dX1_reach_67 (Nat.zero_le _) (Nat.zero_le _) (fun fv H1 locs1 hX hS => ?_)
            refine gn_nez G (by exact sp_z_lt _) (tgt := 75) dX1_reach_70 (by decide) (fun h_70 => ?_) (fun h_70 => ?_)
            · exact absurd (sp_z_t h_70) (fun z => sp_m3_c z rfl)
            · have hZ : sp_m3 1 0 0 ≠ 0 := sp_z_f h_70
              refine lv_iconst (v := nI 0) G.1 G.2.1 dX1_reach_73 (by decide) ?_
              have hth : sp_m3 1 0 0 = sk_reach N S (nI j1) (nI j2) (nI j3) i4 := by
                unfold sk_reach
                rw [show sA_reach N S (nI j1) (nI j2) (nI j3) i4 = true from by simp [sA_reach, hT_5, hT_12, hT_29, hB4, h_59, hg1, hg2, hg3] <;> omega]
                rw [show sB_reach N S (nI j1) (nI j2) (nI j3) i4 = false from by simp [sB_reach, hT_5, hT_12, hT_29, hB4, h_59, hg1, hg2, hg3] <;> omega]
                rfl
              exact W.iret G.1 G.2.1 G.2.2.1 (fun t ht hW => gQm_of hX hS ht ⟨hth, fun h => absurd (hth.trans h) hZ, (if_neg (fun h => hZ (hth.trans h))).symm, (if_neg (fun h => hZ (hth.trans h))).symm⟩) hS.2.2 dX1_reach_74 G.2.2.2.2.2.2
          · have hu_59 := h_59
            refine lv_iconst (v := nI 1) G.1 G.2.1 dX1_reach_62 (by decide) ?_
            refine lv_goto (tgt := 67) G.1 G.2.1 dX1_reach_63 (by decide) ?_
            refine gm_mut (N' := N) (S' := S) (th' := (sp_m3 1 0 1)) (r := (nI (sp_z (sp_m3 1 0 1)))) (As := [.int (nI 1), .int (nI 0), .int (nI 1)]) (rest := []) G.fix (mX1_mayAll l D q cI cZ N S fv th A 1 0 1 (by first | decide | exact gbn_lt _) (by first | decide | exact gbn_lt _) (by first | decide | exact gbn_lt _)) (cwV 3 G.2.2.2.2.2.1 gX1_reach_X1_mayAll rfl rfl rfl (by decide +kernel) ⟨Nat.le_of_ble_eq_true rfl, Nat.le_of_ble_eq_true rfl⟩) hX hS rfl hl.1 rfl (Nat.le_of_ble_eq_true rfl) dX1_reach_67 (Nat.zero_le _) (Nat.zero_le _) (fun fv H1 locs1 hX hS => ?_)
            refine gn_nez G (by exact sp_z_lt _) (tgt := 75) dX1_reach_70 (by decide) (fun h_70 => ?_) (fun h_70 => ?_)
            · exact absurd (sp_z_t h_70) (fun z => sp_m3_b z rfl)
            · have hZ : sp_m3 1 0 1 ≠ 0 := sp_z_f h_70
              refine lv_iconst (v := nI 0) G.1 G.2.1 dX1_reach_73 (by decide) ?_
              have hth : sp_m3 1 0 1 = sk_reach N S (nI j1) (nI j2) (nI j3) i4 := by
                unfold sk_reach
                rw [show sA_reach N S (nI j1) (nI j2) (nI j3) i4 = true from by simp [sA_reach, hT_5, hT_12, hT_29, hB4, h_59, hg1, hg2, hg3] <;> omega]
                rw [show sB_reach N S (nI j1) (nI j2) (nI j3) i4 = false from by simp [sB_reach, hT_5, hT_12, hT_29, hB4, h_59, hg1, hg2, hg3] <;> omega]
                rfl
              exact W.iret G.1 G.2.1 G.2.2.1 (fun t ht hW => gQm_of hX hS ht ⟨hth, fun h => absurd (hth.trans h) hZ, (if_neg (fun h => hZ (hth.trans h))).symm, (if_neg (fun h => hZ (hth.trans h))).symm⟩) hS.2.2 dX1_reach_74 G.2.2.2.2.2.2
        · obtain ⟨j4, hj4, hle, rfl⟩ := gin_b (by omega) (gbn_t h_41)
          have hg4 := gn_nI (show j4 < 2 ^ 31 by omega)
          have hB4 : gb (nI j4) 256 = true := by rw [gb_nI (by omega)]; exact decide_eq_true hj4
          refine lv_iconst (v := nI 1) G.1 G.2.1 dX1_reach_44 (by decide) ?_
          refine lv_goto (tgt := 49) G.1 G.2.1 dX1_reach_45 (by decide) ?_
          refine lv_iload G.1 G.2.1 dX1_reach_49 (lv_at hl 0 rfl) ?_
          refine gn_eqz G (by decide) (tgt := 66) dX1_reach_51 (by decide) (fun h_51 => absurd h_51 (by decide)) (fun h_51 => ?_)
          refine lv_aload_n G.1 G.2.1 dX1_reach_54 rfl (lv_at hl 1 rfl) ?_
          refine lv_iload_n G.1 G.2.1 dX1_reach_55 rfl (lv_at hl 2 rfl) ?_
          refine gc_v (As := [.int (nI j1)]) (rest := [.int (nI 1), .int (nI 1), .ref (q 0)]) G.fix (mX1_isHeld l D q cI cZ N S fv th A hok hinv j1 (by omega)) (cwV 1 G.2.2.2.2.2.1 gX1_reach_X1_isHeld rfl rfl rfl (by decide +kernel) ⟨Nat.le_of_ble_eq_true rfl, Nat.le_of_ble_eq_true rfl⟩) mAt_blind (va_recv hX.2.1 hX.1 (ci := 1) (q0 := 0) rfl rfl) (fun U hU hW => by rw [hU]; exact hX.moved hW) rfl hl.1 rfl (Nat.le_of_ble_eq_true rfl) dX1_reach_56 (Nat.zero_le _) (Nat.zero_le _) (fun r hr => ?_)
          subst hr
          rw [sp_hout_eq hok hinv (by omega)]
          refine gn_nez G (by exact sp_b31 _ _) (tgt := 66) dX1_reach_59 (by decide) (fun h_59 => ?_) (fun h_59 => ?_)
          · have hu_59 := h_59
            refine lv_iconst (v := nI 0) G.1 G.2.1 dX1_reach_66 (by decide) ?_
            refine gm_mut (N' := N) (S' := S) (th' := (sp_m3 1 1 0)) (r := (nI (sp_z (sp_m3 1 1 0)))) (As := [.int (nI 1), .int (nI 1), .int (nI 0)]) (rest := []) G.fix (mX1_mayAll l D q cI cZ N S fv th A 1 1 0 (by first | decide | exact gbn_lt _) (by first | decide | exact gbn_lt _) (by first | decide | exact gbn_lt _)) (cwV 3 G.2.2.2.2.2.1 gX1_reach_X1_mayAll rfl rfl rfl (by decide +kernel) ⟨Nat.le_of_ble_eq_true rfl, Nat.le_of_ble_eq_true rfl⟩) hX hS rfl hl.1 rfl (Nat.le_of_ble_eq_true rfl) dX1_reach_67 (Nat.zero_le _) (Nat.zero_le _) (fun fv H1 locs1 hX hS => ?_)
            refine gn_nez G (by exact sp_z_lt _) (tgt := 75) dX1_reach_70 (by decide) (fun h_70 => ?_) (fun h_70 => ?_)
            · exact absurd (sp_z_t h_70) (fun z => sp_m3_c z rfl)
            · have hZ : sp_m3 1 1 0 ≠ 0 := sp_z_f h_70
              refine lv_iconst (v := nI 0) G.1 G.2.1 dX1_reach_73 (by decide) ?_
              have hth : sp_m3 1 1 0 = sk_reach N S (nI j1) (nI j2) (nI j3) (nI j4) := by
                unfold sk_reach
                rw [show sA_reach N S (nI j1) (nI j2) (nI j3) (nI j4) = true from by simp [sA_reach, hT_5, hT_12, hT_29, hle, hB4, h_59, hg1, hg2, hg3, hg4] <;> omega]
                rw [show sB_reach N S (nI j1) (nI j2) (nI j3) (nI j4) = true from by simp [sB_reach, hT_5, hT_12, hT_29, hle, hB4, h_59, hg1, hg2, hg3, hg4] <;> omega]
                rw [show sC_reach N S (nI j1) (nI j2) (nI j3) (nI j4) = false from by simp [sC_reach, hT_5, hT_12, hT_29, hle, hB4, h_59, hg1, hg2, hg3, hg4] <;> omega]
                rfl
              exact W.iret G.1 G.2.1 G.2.2.1 (fun t ht hW => gQm_of hX hS ht ⟨hth, fun h => absurd (hth.trans h) hZ, (if_neg (fun h => hZ (hth.trans h))).symm, (if_neg (fun h => hZ (hth.trans h))).symm⟩) hS.2.2 dX1_reach_74 G.2.2.2.2.2.2
          · have hu_59 := h_59
            refine lv_iconst (v := nI 1) G.1 G.2.1 dX1_reach_62 (by decide) ?_
            refine lv_goto (tgt := 67) G.1 G.2.1 dX1_reach_63 (by decide) ?_
            refine gm_mut (N' := N) (S' := S) (th' := (sp_m3 1 1 1)) (r := (nI (sp_z (sp_m3 1 1 1)))) (As := [.int (nI 1), .int (nI 1), .int (nI 1)]) (rest := []) G.fix (mX1_mayAll l D q cI cZ N S fv th A 1 1 1 (by first | decide | exact gbn_lt _) (by first | decide | exact gbn_lt _) (by first | decide | exact gbn_lt _)) (cwV 3 G.2.2.2.2.2.1 gX1_reach_X1_mayAll rfl rfl rfl (by decide +kernel) ⟨Nat.le_of_ble_eq_true rfl, Nat.le_of_ble_eq_true rfl⟩) hX hS rfl hl.1 rfl (Nat.le_of_ble_eq_true rfl) dX1_reach_67 (Nat.zero_le _) (Nat.zero_le _) (fun fv H1 locs1 hX hS => ?_)
            refine gn_nez G (by exact sp_z_lt _) (tgt := 75) dX1_reach_70 (by decide) (fun h_70 => ?_) (fun h_70 => ?_)
            · have hZ : sp_m3 1 1 1 = 0 := sp_z_t h_70
              have hlt := ok2 (j1 * 3 + j2)
              refine lv_aload_n G.1 G.2.1 dX1_reach_75 rfl (lv_at hl 1 rfl) ?_
              refine gm_get G hX (by decide +kernel) 3 (by decide) (by decide +kernel) rfl rfl rfl dX1_reach_76 ?_
              refine lv_iconst (v := nI 3) G.1 G.2.1 dX1_reach_79 (by decide) ?_
              refine lv_iload_n G.1 G.2.1 dX1_reach_80 rfl (lv_at hl 2 rfl) ?_
              refine gn_imul G dX1_reach_81 ?_
              refine lv_iload_n G.1 G.2.1 dX1_reach_82 rfl (lv_at hl 3 rfl) ?_
              refine gn_iadd G dX1_reach_83 ?_
              refine gm_ald (k := 3) (kp := 3) (len := 24) (F := S 3) G hX rfl (by first | omega | assumption) (by decide) dX1_reach_84 ?_
              rw [show (3 * j1) + j2 = (j1 * 3) + j2 from by omega]
              refine lv_aload_n G.1 G.2.1 dX1_reach_85 rfl (lv_at hl 1 rfl) ?_
              refine gm_get G hX (by decide +kernel) 2 (by decide) (by decide +kernel) rfl rfl rfl dX1_reach_86 ?_
              refine lv_iconst (v := nI 3) G.1 G.2.1 dX1_reach_89 (by decide) ?_
              refine lv_iload_n G.1 G.2.1 dX1_reach_90 rfl (lv_at hl 2 rfl) ?_
              refine gn_imul G dX1_reach_91 ?_
              refine lv_iload_n G.1 G.2.1 dX1_reach_92 rfl (lv_at hl 3 rfl) ?_
              refine gn_iadd G dX1_reach_93 ?_
              refine gm_ald (k := 2) (kp := 2) (len := 24) (F := S 2) G hX rfl (by first | omega | assumption) (by decide) dX1_reach_94 ?_
              rw [show (3 * j1) + j2 = (j1 * 3) + j2 from by omega]
              refine gn_isub G dX1_reach_95 (by first | omega | assumption) ?_
              refine lv_iconst (v := nI 1) G.1 G.2.1 dX1_reach_96 (by decide) ?_
              refine gn_iadd G dX1_reach_97 ?_
              refine lv_istore (lv' := [(6, .int (nI (((S 3 ((j1 * 3) + j2)) - (S 2 ((j1 * 3) + j2))) + 1))), (5, .int (nI 1)), (0, .ref (q 0)), (1, .int (nI j1)), (2, .int (nI j2)), (3, .int (nI j3)), (4, .int (nI j4))]) G.1 G.2.1 dX1_reach_98 hl (by decide) rfl (fun ls hl => ?_)
              refine lv_aload_n G.1 G.2.1 dX1_reach_100 rfl (lv_at hl 2 rfl) ?_
              refine gm_get G hX (by decide +kernel) 2 (by decide) (by decide +kernel) rfl rfl rfl dX1_reach_101 ?_
              refine lv_iconst (v := nI 3) G.1 G.2.1 dX1_reach_104 (by decide) ?_
              refine lv_iload_n G.1 G.2.1 dX1_reach_105 rfl (lv_at hl 3 rfl) ?_
              refine gn_imul G dX1_reach_106 ?_
              refine lv_iload_n G.1 G.2.1 dX1_reach_107 rfl (lv_at hl 4 rfl) ?_
              refine gn_iadd G dX1_reach_108 ?_
              refine lv_iload_n G.1 G.2.1 dX1_reach_109 rfl (lv_at hl 5 rfl) ?_
              refine gm_ast (k := 2) (kp := 2) (len := 24) (F := S 2) (i := (3 * j1) + j2) (v := j3) (S' := (gs S 2 (gu (S 2) ((j1 * 3) + j2) j3))) (fv' := fv) G hX hS rfl (by rw [show (3 * j1) + j2 = (j1 * 3) + j2 from by omega]; rfl) (by first | omega | assumption) (by decide) dX1_reach_110 (fun H1 locs1 hX hS => ?_)
              refine lv_aload_n G.1 G.2.1 dX1_reach_111 rfl (lv_at hl 2 rfl) ?_
              refine gm_get G hX (by decide +kernel) 3 (by decide) (by decide +kernel) rfl rfl rfl dX1_reach_112 ?_
              refine lv_iconst (v := nI 3) G.1 G.2.1 dX1_reach_115 (by decide) ?_
              refine lv_iload_n G.1 G.2.1 dX1_reach_116 rfl (lv_at hl 3 rfl) ?_
              refine gn_imul G dX1_reach_117 ?_
              refine lv_iload_n G.1 G.2.1 dX1_reach_118 rfl (lv_at hl 4 rfl) ?_
              refine gn_iadd G dX1_reach_119 ?_
              refine lv_iload G.1 G.2.1 dX1_reach_120 (lv_at hl 6 rfl) ?_
              refine gm_ast (k := 3) (kp := 3) (len := 24) (F := S 3) (i := (3 * j1) + j2) (v := j4) (S' := (gs (gs S 2 (gu (S 2) ((j1 * 3) + j2) j3)) 3 (gu (S 3) ((j1 * 3) + j2) j4))) (fv' := fv) G hX hS rfl (by rw [show (3 * j1) + j2 = (j1 * 3) + j2 from by omega]; rfl) (by first | omega | assumption) (by decide) dX1_reach_122 (fun H1 locs1 hX hS => ?_)
              refine lv_iload G.1 G.2.1 dX1_reach_123 (lv_at hl 0 rfl) ?_
              have hth : sp_m3 1 1 1 = sk_reach N S (nI j1) (nI j2) (nI j3) (nI j4) := by
                unfold sk_reach
                rw [show sA_reach N S (nI j1) (nI j2) (nI j3) (nI j4) = true from by simp [sA_reach, hT_5, hT_12, hT_29, hle, hB4, h_59, hg1, hg2, hg3, hg4] <;> omega]
                rw [show sB_reach N S (nI j1) (nI j2) (nI j3) (nI j4) = true from by simp [sB_reach, hT_5, hT_12, hT_29, hle, hB4, h_59, hg1, hg2, hg3, hg4] <;> omega]
                rw [show sC_reach N S (nI j1) (nI j2) (nI j3) (nI j4) = true from by simp [sC_reach, hT_5, hT_12, hT_29, hle, hB4, h_59, hg1, hg2, hg3, hg4] <;> omega]
                exact sp_m3_gk (true) (true) (true)
              have hsk : sk_reach N S (nI j1) (nI j2) (nI j3) (nI j4) = 0 := hth.symm.trans hZ
              exact W.iret G.1 G.2.1 G.2.2.1 (fun t ht hW => gQm_of hX hS ht ⟨hth, fun _ => (by show nI _ = nI _; simp only [sR_reach, hg1, hg2, hg3, hg4]), (by rw [if_pos hsk]; simp only [sN_reach, hg1, hg2, hg3, hg4]), (by rw [if_pos hsk]; simp only [sS_reach, hg1, hg2, hg3, hg4])⟩) hS.2.2 dX1_reach_125 G.2.2.2.2.2.2
            · have hZ : sp_m3 1 1 1 ≠ 0 := sp_z_f h_70
              refine lv_iconst (v := nI 0) G.1 G.2.1 dX1_reach_73 (by decide) ?_
              have hth : sp_m3 1 1 1 = sk_reach N S (nI j1) (nI j2) (nI j3) (nI j4) := by
                unfold sk_reach
                rw [show sA_reach N S (nI j1) (nI j2) (nI j3) (nI j4) = true from by simp [sA_reach, hT_5, hT_12, hT_29, hle, hB4, h_59, hg1, hg2, hg3, hg4] <;> omega]
                rw [show sB_reach N S (nI j1) (nI j2) (nI j3) (nI j4) = true from by simp [sB_reach, hT_5, hT_12, hT_29, hle, hB4, h_59, hg1, hg2, hg3, hg4] <;> omega]
                rw [show sC_reach N S (nI j1) (nI j2) (nI j3) (nI j4) = true from by simp [sC_reach, hT_5, hT_12, hT_29, hle, hB4, h_59, hg1, hg2, hg3, hg4] <;> omega]
                exact sp_m3_gk (true) (true) (true)
              exact W.iret G.1 G.2.1 G.2.2.1 (fun t ht hW => gQm_of hX hS ht ⟨hth, fun h => absurd (hth.trans h) hZ, (if_neg (fun h => hZ (hth.trans h))).symm, (if_neg (fun h => hZ (hth.trans h))).symm⟩) hS.2.2 dX1_reach_74 G.2.2.2.2.2.2
set_option maxRecDepth 100000 in
set_option maxHeartbeats 4000000 in
/-- way -/
theorem mX1_way (l : Launch) (D : va_G) (q : Nat → Nat) (cI cZ : ClassId) (N : Nat → Nat) (S : Nat → Nat → Nat) (fv : Nat → Nat) (th : Nat) (A : Nat → Prop) (hok : sp_ok N S) (hinv : sp_inv N S) (i1 i2 : Int32) : Met l yX1_way wsX1_way { frames := 2, cells := 0, slots := 0, locals := 43 } (va_Pc [.ref (q 0), .int i1, .int i2] (fun U => mAt D q cI cZ N S fv th A U U.heap)) (gQm D q cI cZ (fun r N2 S2 th2 => th2 = sk_way N S i1 i2 ∧ (sk_way N S i1 i2 = 0 → r = nI (sR_way N S i1 i2)) ∧ N2 = (if sk_way N S i1 i2 = 0 then sN_way N S i1 i2 else N) ∧ S2 = (if sk_way N S i1 i2 = 0 then sS_way N S i1 i2 else S)) A) 0 0 A := by
  refine gc_met [.ref (q 0), .int i1, .int i2] (by decide) rfl (Nat.le_of_ble_eq_true rfl) rfl ?_
  intro p e s m below meth c ls G hl hX
  have hS : va_S A s.heap s.heap [] := va_S.rf
  have hok9 := hok
  obtain ⟨⟨ok0, ok5⟩, ok1, ok2, ok3, ok4, ok6, ok7, ok8, ok12, ok13, ok14⟩ := hok9
  refine lv_aload_n G.1 G.2.1 dX1_way_0 rfl (lv_at hl 0 rfl) ?_
  refine lv_iload_n G.1 G.2.1 dX1_way_1 rfl (lv_at hl 1 rfl) ?_
  refine gc_v (As := [.int i1]) (rest := []) G.fix (mX1_isProfile l D q cI cZ N S fv th A hok i1) (cwV 1 G.2.2.2.2.2.1 gX1_way_X1_isProfile rfl rfl rfl (by decide +kernel) ⟨Nat.le_of_ble_eq_true rfl, Nat.le_of_ble_eq_true rfl⟩) mAt_blind (va_recv hX.2.1 hX.1 (ci := 1) (q0 := 0) rfl rfl) (fun U hU hW => by rw [hU]; exact hX.moved hW) rfl hl.1 rfl (Nat.le_of_ble_eq_true rfl) dX1_way_2 (Nat.zero_le _) (Nat.zero_le _) (fun r hr => ?_)
  subst hr
  refine lv_istore_n (lv' := [(3, .int (nI (gbn (gb i1 (N 0))))), (0, .ref (q 0)), (1, .int i1), (2, .int i2)]) G.1 G.2.1 dX1_way_5 rfl hl (by decide) rfl (fun ls hl => ?_)
  refine lv_aload_n G.1 G.2.1 dX1_way_6 rfl (lv_at hl 1 rfl) ?_
  refine lv_iload_n G.1 G.2.1 dX1_way_7 rfl (lv_at hl 0 rfl) ?_
  refine lv_iload_n G.1 G.2.1 dX1_way_8 rfl (lv_at hl 3 rfl) ?_
  refine lv_iconst (v := nI 0) G.1 G.2.1 dX1_way_9 (by decide) ?_
  refine lv_iconst (v := nI 2) G.1 G.2.1 dX1_way_10 (by decide) ?_
  refine gc_s (As := [.int i2, .int (nI 0), .int (nI 2)]) (rest := [.int (nI (gbn (gb i1 (N 0)))), .ref (q 0)]) G.fix (mX1_isIn l i2 (nI 0) (nI 2)) (va_cwS 3 G.2.2.2.2.2.1 gX1_way_X1_isIn rfl rfl rfl (by decide +kernel) ⟨Nat.le_of_ble_eq_true rfl, Nat.le_of_ble_eq_true rfl⟩) gc_blindT (fun _ _ _ => trivial) rfl hl.1 rfl (Nat.le_of_ble_eq_true rfl) dX1_way_11 (Nat.zero_le _) (Nat.zero_le _) (fun r hr => ?_)
  subst hr
  rw [gin_k (by decide)]
  refine lv_iload_n G.1 G.2.1 dX1_way_14 rfl (lv_at hl 0 rfl) ?_
  refine gn_eqz G (by exact gbn_lt _) (tgt := 30) dX1_way_15 (by decide) (fun h_15 => ?_) (fun h_15 => ?_)
  · have hF_15 : gb i1 (N 0) = false := gbn_f h_15
    refine lv_iconst (v := nI 0) G.1 G.2.1 dX1_way_30 (by decide) ?_
    refine gm_mut (N' := N) (S' := S) (th' := (sp_m3 (gbn (gb i1 (N 0))) (gbn (gb i2 3)) 0)) (r := (nI (sp_z (sp_m3 (gbn (gb i1 (N 0))) (gbn (gb i2 3)) 0)))) (As := [.int (nI (gbn (gb i1 (N 0)))), .int (nI (gbn (gb i2 3))), .int (nI 0)]) (rest := []) G.fix (mX1_mayAll l D q cI cZ N S fv th A (gbn (gb i1 (N 0))) (gbn (gb i2 3)) 0 (by first | decide | exact gbn_lt _) (by first | decide | exact gbn_lt _) (by first | decide | exact gbn_lt _)) (cwV 3 G.2.2.2.2.2.1 gX1_way_X1_mayAll rfl rfl rfl (by decide +kernel) ⟨Nat.le_of_ble_eq_true rfl, Nat.le_of_ble_eq_true rfl⟩) hX hS rfl hl.1 rfl (Nat.le_of_ble_eq_true rfl) dX1_way_31 (Nat.zero_le _) (Nat.zero_le _) (fun fv H1 locs1 hX hS => ?_)
    refine gn_nez G (by exact sp_z_lt _) (tgt := 39) dX1_way_34 (by decide) (fun h_34 => ?_) (fun h_34 => ?_)
    · exact absurd (sp_z_t h_34) (fun z => sp_m3_c z rfl)
    · have hZ : sp_m3 (gbn (gb i1 (N 0))) (gbn (gb i2 3)) 0 ≠ 0 := sp_z_f h_34
      refine lv_iconst (v := nI 0) G.1 G.2.1 dX1_way_37 (by decide) ?_
      have hth : sp_m3 (gbn (gb i1 (N 0))) (gbn (gb i2 3)) 0 = sk_way N S i1 i2 := by
        unfold sk_way
        rw [hF_15]
        rw [show sA_way N S i1 i2 = false from by simp [sA_way, hF_15] <;> omega]
        rfl
      exact W.iret G.1 G.2.1 G.2.2.1 (fun t ht hW => gQm_of hX hS ht ⟨hth, fun h => absurd (hth.trans h) hZ, (if_neg (fun h => hZ (hth.trans h))).symm, (if_neg (fun h => hZ (hth.trans h))).symm⟩) hS.2.2 dX1_way_38 G.2.2.2.2.2.2
  · have hT_15 : gb i1 (N 0) = true := gbn_t h_15
    obtain ⟨j1, hj1, rfl⟩ := gb_of (by omega) hT_15
    have hg1 := gn_nI (show j1 < 2 ^ 31 by omega)
    refine lv_aload_n G.1 G.2.1 dX1_way_18 rfl (lv_at hl 1 rfl) ?_
    refine lv_iload_n G.1 G.2.1 dX1_way_19 rfl (lv_at hl 2 rfl) ?_
    refine gc_v (As := [.int (nI j1)]) (rest := [.int (nI (gbn (gb i2 3))), .int (nI (gbn (gb (nI j1) (N 0)))), .ref (q 0)]) G.fix (mX1_isHeld l D q cI cZ N S fv th A hok hinv j1 (by omega)) (cwV 1 G.2.2.2.2.2.1 gX1_way_X1_isHeld rfl rfl rfl (by decide +kernel) ⟨Nat.le_of_ble_eq_true rfl, Nat.le_of_ble_eq_true rfl⟩) mAt_blind (va_recv hX.2.1 hX.1 (ci := 1) (q0 := 0) rfl rfl) (fun U hU hW => by rw [hU]; exact hX.moved hW) rfl hl.1 rfl (Nat.le_of_ble_eq_true rfl) dX1_way_20 (Nat.zero_le _) (Nat.zero_le _) (fun r hr => ?_)
    subst hr
    rw [sp_hout_eq hok hinv (by omega)]
    refine gn_nez G (by exact sp_b31 _ _) (tgt := 30) dX1_way_23 (by decide) (fun h_23 => ?_) (fun h_23 => ?_)
    · have hu_23 := h_23
      refine lv_iconst (v := nI 0) G.1 G.2.1 dX1_way_30 (by decide) ?_
      refine gm_mut (N' := N) (S' := S) (th' := (sp_m3 (gbn (gb (nI j1) (N 0))) (gbn (gb i2 3)) 0)) (r := (nI (sp_z (sp_m3 (gbn (gb (nI j1) (N 0))) (gbn (gb i2 3)) 0)))) (As := [.int (nI (gbn (gb (nI j1) (N 0)))), .int (nI (gbn (gb i2 3))), .int (nI 0)]) (rest := []) G.fix (mX1_mayAll l D q cI cZ N S fv th A (gbn (gb (nI j1) (N 0))) (gbn (gb i2 3)) 0 (by first | decide | exact gbn_lt _) (by first | decide | exact gbn_lt _) (by first | decide | exact gbn_lt _)) (cwV 3 G.2.2.2.2.2.1 gX1_way_X1_mayAll rfl rfl rfl (by decide +kernel) ⟨Nat.le_of_ble_eq_true rfl, Nat.le_of_ble_eq_true rfl⟩) hX hS rfl hl.1 rfl (Nat.le_of_ble_eq_true rfl) dX1_way_31 (Nat.zero_le _) (Nat.zero_le _) (fun fv H1 locs1 hX hS => ?_)
      refine gn_nez G (by exact sp_z_lt _) (tgt := 39) dX1_way_34 (by decide) (fun h_34 => ?_) (fun h_34 => ?_)
      · exact absurd (sp_z_t h_34) (fun z => sp_m3_c z rfl)
      · have hZ : sp_m3 (gbn (gb (nI j1) (N 0))) (gbn (gb i2 3)) 0 ≠ 0 := sp_z_f h_34
        refine lv_iconst (v := nI 0) G.1 G.2.1 dX1_way_37 (by decide) ?_
        have hth : sp_m3 (gbn (gb (nI j1) (N 0))) (gbn (gb i2 3)) 0 = sk_way N S (nI j1) i2 := by
          unfold sk_way
          rw [hT_15]
          rw [show sA_way N S (nI j1) i2 = true from by simp [sA_way, hT_15, h_23, hg1] <;> omega]
          rw [show sC_way N S (nI j1) i2 = false from by simp [sC_way, hT_15, h_23, hg1] <;> omega]
          exact sp_m3_gk (true) (gb i2 3) (false)
        exact W.iret G.1 G.2.1 G.2.2.1 (fun t ht hW => gQm_of hX hS ht ⟨hth, fun h => absurd (hth.trans h) hZ, (if_neg (fun h => hZ (hth.trans h))).symm, (if_neg (fun h => hZ (hth.trans h))).symm⟩) hS.2.2 dX1_way_38 G.2.2.2.2.2.2
    · have hu_23 := h_23
      refine lv_iconst (v := nI 1) G.1 G.2.1 dX1_way_26 (by decide) ?_
      refine lv_goto (tgt := 31) G.1 G.2.1 dX1_way_27 (by decide) ?_
      refine gm_mut (N' := N) (S' := S) (th' := (sp_m3 (gbn (gb (nI j1) (N 0))) (gbn (gb i2 3)) 1)) (r := (nI (sp_z (sp_m3 (gbn (gb (nI j1) (N 0))) (gbn (gb i2 3)) 1)))) (As := [.int (nI (gbn (gb (nI j1) (N 0)))), .int (nI (gbn (gb i2 3))), .int (nI 1)]) (rest := []) G.fix (mX1_mayAll l D q cI cZ N S fv th A (gbn (gb (nI j1) (N 0))) (gbn (gb i2 3)) 1 (by first | decide | exact gbn_lt _) (by first | decide | exact gbn_lt _) (by first | decide | exact gbn_lt _)) (cwV 3 G.2.2.2.2.2.1 gX1_way_X1_mayAll rfl rfl rfl (by decide +kernel) ⟨Nat.le_of_ble_eq_true rfl, Nat.le_of_ble_eq_true rfl⟩) hX hS rfl hl.1 rfl (Nat.le_of_ble_eq_true rfl) dX1_way_31 (Nat.zero_le _) (Nat.zero_le _) (fun fv H1 locs1 hX hS => ?_)
      refine gn_nez G (by exact sp_z_lt _) (tgt := 39) dX1_way_34 (by decide) (fun h_34 => ?_) (fun h_34 => ?_)
      · have hZ : sp_m3 (gbn (gb (nI j1) (N 0))) (gbn (gb i2 3)) 1 = 0 := sp_z_t h_34
        have hTb_34 : gb i2 3 = true := gbn_t (sp_m3_b hZ)
        obtain ⟨j2, hj2, rfl⟩ := gb_of (by omega) hTb_34
        have hg2 := gn_nI (show j2 < 2 ^ 31 by omega)
        refine lv_aload_n G.1 G.2.1 dX1_way_39 rfl (lv_at hl 1 rfl) ?_
        refine gm_get G hX (by decide +kernel) 4 (by decide) (by decide +kernel) rfl rfl rfl dX1_way_40 ?_
        refine lv_iload_n G.1 G.2.1 dX1_way_43 rfl (lv_at hl 2 rfl) ?_
        refine gm_ald (k := 4) (kp := 4) (len := 8) (F := S 4) G hX rfl (by first | omega | assumption) (by decide) dX1_way_44 ?_
        refine lv_istore (lv' := [(4, .int (nI (S 4 j1))), (3, .int (nI (gbn (gb (nI j1) (N 0))))), (0, .ref (q 0)), (1, .int (nI j1)), (2, .int (nI j2))]) G.1 G.2.1 dX1_way_45 hl (by decide) rfl (fun ls hl => ?_)
        refine lv_aload_n G.1 G.2.1 dX1_way_47 rfl (lv_at hl 2 rfl) ?_
        refine gm_get G hX (by decide +kernel) 4 (by decide) (by decide +kernel) rfl rfl rfl dX1_way_48 ?_
        refine lv_iload_n G.1 G.2.1 dX1_way_51 rfl (lv_at hl 3 rfl) ?_
        refine lv_iload_n G.1 G.2.1 dX1_way_52 rfl (lv_at hl 4 rfl) ?_
        refine gm_ast (k := 4) (kp := 4) (len := 8) (F := S 4) (i := j1) (v := j2) (S' := (gs S 4 (gu (S 4) j1 j2))) (fv' := fv) G hX hS rfl (rfl) (by first | omega | assumption) (by decide) dX1_way_53 (fun H1 locs1 hX hS => ?_)
        refine lv_iload G.1 G.2.1 dX1_way_54 (lv_at hl 0 rfl) ?_
        have hth : sp_m3 (gbn (gb (nI j1) (N 0))) (gbn (gb (nI j2) 3)) 1 = sk_way N S (nI j1) (nI j2) := by
          unfold sk_way
          rw [hT_15]
          rw [show sA_way N S (nI j1) (nI j2) = true from by simp [sA_way, hT_15, h_23, hTb_34, hg1, hg2] <;> omega]
          rw [show sC_way N S (nI j1) (nI j2) = true from by simp [sC_way, hT_15, h_23, hTb_34, hg1, hg2] <;> omega]
          exact sp_m3_gk (true) (gb (nI j2) 3) (true)
        have hsk : sk_way N S (nI j1) (nI j2) = 0 := hth.symm.trans hZ
        exact W.iret G.1 G.2.1 G.2.2.1 (fun t ht hW => gQm_of hX hS ht ⟨hth, fun _ => (by show nI _ = nI _; simp only [sR_way, hg1, hg2]), (by rw [if_pos hsk]; simp only [sN_way, hg1, hg2]), (by rw [if_pos hsk]; simp only [sS_way, hg1, hg2])⟩) hS.2.2 dX1_way_56 G.2.2.2.2.2.2
      · have hZ : sp_m3 (gbn (gb (nI j1) (N 0))) (gbn (gb i2 3)) 1 ≠ 0 := sp_z_f h_34
        refine lv_iconst (v := nI 0) G.1 G.2.1 dX1_way_37 (by decide) ?_
        have hth : sp_m3 (gbn (gb (nI j1) (N 0))) (gbn (gb i2 3)) 1 = sk_way N S (nI j1) i2 := by
          unfold sk_way
          rw [hT_15]
          rw [show sA_way N S (nI j1) i2 = true from by simp [sA_way, hT_15, h_23, hg1] <;> omega]
          rw [show sC_way N S (nI j1) i2 = true from by simp [sC_way, hT_15, h_23, hg1] <;> omega]
          exact sp_m3_gk (true) (gb i2 3) (true)
        exact W.iret G.1 G.2.1 G.2.2.1 (fun t ht hW => gQm_of hX hS ht ⟨hth, fun h => absurd (hth.trans h) hZ, (if_neg (fun h => hZ (hth.trans h))).symm, (if_neg (fun h => hZ (hth.trans h))).symm⟩) hS.2.2 dX1_way_38 G.2.2.2.2.2.2
set_option maxRecDepth 100000 in
set_option maxHeartbeats 4000000 in
/-- curve -/
theorem mX1_curve (l : Launch) (D : va_G) (q : Nat → Nat) (cI cZ : ClassId) (N : Nat → Nat) (S : Nat → Nat → Nat) (fv : Nat → Nat) (th : Nat) (A : Nat → Prop) (hok : sp_ok N S) (hinv : sp_inv N S) (i1 i2 i3 : Int32) : Met l yX1_curve wsX1_curve { frames := 3, cells := 0, slots := 0, locals := 68 } (va_Pc [.ref (q 0), .int i1, .int i2, .int i3] (fun U => mAt D q cI cZ N S fv th A U U.heap)) (gQm D q cI cZ (fun r N2 S2 th2 => th2 = sk_curve N S i1 i2 i3 ∧ (sk_curve N S i1 i2 i3 = 0 → r = nI (sR_curve N S i1 i2 i3)) ∧ N2 = (if sk_curve N S i1 i2 i3 = 0 then sN_curve N S i1 i2 i3 else N) ∧ S2 = (if sk_curve N S i1 i2 i3 = 0 then sS_curve N S i1 i2 i3 else S)) A) 0 0 A := by
  refine gc_met [.ref (q 0), .int i1, .int i2, .int i3] (by decide) rfl (Nat.le_of_ble_eq_true rfl) rfl ?_
  intro p e s m below meth c ls G hl hX
  have hS : va_S A s.heap s.heap [] := va_S.rf
  have hok9 := hok
  obtain ⟨⟨ok0, ok5⟩, ok1, ok2, ok3, ok4, ok6, ok7, ok8, ok12, ok13, ok14⟩ := hok9
  refine lv_aload_n G.1 G.2.1 dX1_curve_0 rfl (lv_at hl 0 rfl) ?_
  refine lv_aload_n G.1 G.2.1 dX1_curve_1 rfl (lv_at hl 0 rfl) ?_
  refine lv_iload_n G.1 G.2.1 dX1_curve_2 rfl (lv_at hl 1 rfl) ?_
  refine gc_v (As := [.int i1]) (rest := [.ref (q 0)]) G.fix (mX1_isProfile l D q cI cZ N S fv th A hok i1) (cwV 1 G.2.2.2.2.2.1 gX1_curve_X1_isProfile rfl rfl rfl (by decide +kernel) ⟨Nat.le_of_ble_eq_true rfl, Nat.le_of_ble_eq_true rfl⟩) mAt_blind (va_recv hX.2.1 hX.1 (ci := 1) (q0 := 0) rfl rfl) (fun U hU hW => by rw [hU]; exact hX.moved hW) rfl hl.1 rfl (Nat.le_of_ble_eq_true rfl) dX1_curve_3 (Nat.zero_le _) (Nat.zero_le _) (fun r hr => ?_)
  subst hr
  refine gn_eqz G (by exact gbn_lt _) (tgt := 20) dX1_curve_6 (by decide) (fun h_6 => ?_) (fun h_6 => ?_)
  · have hF_6 : gb i1 (N 0) = false := gbn_f h_6
    refine lv_iconst (v := nI 0) G.1 G.2.1 dX1_curve_20 (by decide) ?_
    refine lv_iload_n G.1 G.2.1 dX1_curve_21 rfl (lv_at hl 3 rfl) ?_
    refine gc_s (As := [.int i3]) (rest := [.int (nI 0), .ref (q 0)]) G.fix (mX1_isByte l i3) (va_cwS 1 G.2.2.2.2.2.1 gX1_curve_X1_isByte rfl rfl rfl (by decide +kernel) ⟨Nat.le_of_ble_eq_true rfl, Nat.le_of_ble_eq_true rfl⟩) gc_blindT (fun _ _ _ => trivial) rfl hl.1 rfl (Nat.le_of_ble_eq_true rfl) dX1_curve_22 (Nat.zero_le _) (Nat.zero_le _) (fun r hr => ?_)
    subst hr
    refine gm_mut (N' := N) (S' := S) (th' := (sp_m3 0 (gbn (gb i3 256)) 1)) (r := (nI (sp_z (sp_m3 0 (gbn (gb i3 256)) 1)))) (As := [.int (nI 0), .int (nI (gbn (gb i3 256)))]) (rest := []) G.fix (mX1_mayBoth l D q cI cZ N S fv th A 0 (gbn (gb i3 256)) (by first | decide | exact gbn_lt _) (by first | decide | exact gbn_lt _)) (cwV 2 G.2.2.2.2.2.1 gX1_curve_X1_mayBoth rfl rfl rfl (by decide +kernel) ⟨Nat.le_of_ble_eq_true rfl, Nat.le_of_ble_eq_true rfl⟩) hX hS rfl hl.1 rfl (Nat.le_of_ble_eq_true rfl) dX1_curve_25 (Nat.zero_le _) (Nat.zero_le _) (fun fv H1 locs1 hX hS => ?_)
    refine gn_eqz G (by exact sp_z_lt _) (tgt := 41) dX1_curve_28 (by decide) (fun h_28 => ?_) (fun h_28 => ?_)
    · have hZ : sp_m3 0 (gbn (gb i3 256)) 1 ≠ 0 := sp_z_f h_28
      refine lv_iconst (v := nI 0) G.1 G.2.1 dX1_curve_41 (by decide) ?_
      have hth : sp_m3 0 (gbn (gb i3 256)) 1 = sk_curve N S i1 i2 i3 := by
        unfold sk_curve
        rw [show sA_curve N S i1 i2 i3 = false from by simp [sA_curve, hF_6] <;> omega]
        rfl
      exact W.iret G.1 G.2.1 G.2.2.1 (fun t ht hW => gQm_of hX hS ht ⟨hth, fun h => absurd (hth.trans h) hZ, (if_neg (fun h => hZ (hth.trans h))).symm, (if_neg (fun h => hZ (hth.trans h))).symm⟩) hS.2.2 dX1_curve_42 G.2.2.2.2.2.2
    · exact absurd (sp_z_t h_28) (fun z => sp_m3_a z rfl)
  · have hT_6 : gb i1 (N 0) = true := gbn_t h_6
    obtain ⟨j1, hj1, rfl⟩ := gb_of (by omega) hT_6
    have hg1 := gn_nI (show j1 < 2 ^ 31 by omega)
    refine lv_iload_n G.1 G.2.1 dX1_curve_9 rfl (lv_at hl 2 rfl) ?_
    refine gc_s (As := [.int i2]) (rest := [.ref (q 0)]) G.fix (mX1_isThird l i2) (va_cwS 1 G.2.2.2.2.2.1 gX1_curve_X1_isThird rfl rfl rfl (by decide +kernel) ⟨Nat.le_of_ble_eq_true rfl, Nat.le_of_ble_eq_true rfl⟩) gc_blindT (fun _ _ _ => trivial) rfl hl.1 rfl (Nat.le_of_ble_eq_true rfl) dX1_curve_10 (Nat.zero_le _) (Nat.zero_le _) (fun r hr => ?_)
    subst hr
    refine gn_eqz G (by exact gbn_lt _) (tgt := 20) dX1_curve_13 (by decide) (fun h_13 => ?_) (fun h_13 => ?_)
    · have hF_13 : gb i2 3 = false := gbn_f h_13
      refine lv_iconst (v := nI 0) G.1 G.2.1 dX1_curve_20 (by decide) ?_
      refine lv_iload_n G.1 G.2.1 dX1_curve_21 rfl (lv_at hl 3 rfl) ?_
      refine gc_s (As := [.int i3]) (rest := [.int (nI 0), .ref (q 0)]) G.fix (mX1_isByte l i3) (va_cwS 1 G.2.2.2.2.2.1 gX1_curve_X1_isByte rfl rfl rfl (by decide +kernel) ⟨Nat.le_of_ble_eq_true rfl, Nat.le_of_ble_eq_true rfl⟩) gc_blindT (fun _ _ _ => trivial) rfl hl.1 rfl (Nat.le_of_ble_eq_true rfl) dX1_curve_22 (Nat.zero_le _) (Nat.zero_le _) (fun r hr => ?_)
      subst hr
      refine gm_mut (N' := N) (S' := S) (th' := (sp_m3 0 (gbn (gb i3 256)) 1)) (r := (nI (sp_z (sp_m3 0 (gbn (gb i3 256)) 1)))) (As := [.int (nI 0), .int (nI (gbn (gb i3 256)))]) (rest := []) G.fix (mX1_mayBoth l D q cI cZ N S fv th A 0 (gbn (gb i3 256)) (by first | decide | exact gbn_lt _) (by first | decide | exact gbn_lt _)) (cwV 2 G.2.2.2.2.2.1 gX1_curve_X1_mayBoth rfl rfl rfl (by decide +kernel) ⟨Nat.le_of_ble_eq_true rfl, Nat.le_of_ble_eq_true rfl⟩) hX hS rfl hl.1 rfl (Nat.le_of_ble_eq_true rfl) dX1_curve_25 (Nat.zero_le _) (Nat.zero_le _) (fun fv H1 locs1 hX hS => ?_)
      refine gn_eqz G (by exact sp_z_lt _) (tgt := 41) dX1_curve_28 (by decide) (fun h_28 => ?_) (fun h_28 => ?_)
      · have hZ : sp_m3 0 (gbn (gb i3 256)) 1 ≠ 0 := sp_z_f h_28
        refine lv_iconst (v := nI 0) G.1 G.2.1 dX1_curve_41 (by decide) ?_
        have hth : sp_m3 0 (gbn (gb i3 256)) 1 = sk_curve N S (nI j1) i2 i3 := by
          unfold sk_curve
          rw [show sA_curve N S (nI j1) i2 i3 = false from by simp [sA_curve, hT_6, hF_13, hg1] <;> omega]
          rfl
        exact W.iret G.1 G.2.1 G.2.2.1 (fun t ht hW => gQm_of hX hS ht ⟨hth, fun h => absurd (hth.trans h) hZ, (if_neg (fun h => hZ (hth.trans h))).symm, (if_neg (fun h => hZ (hth.trans h))).symm⟩) hS.2.2 dX1_curve_42 G.2.2.2.2.2.2
      · exact absurd (sp_z_t h_28) (fun z => sp_m3_a z rfl)
    · have hT_13 : gb i2 3 = true := gbn_t h_13
      obtain ⟨j2, hj2, rfl⟩ := gb_of (by omega) hT_13
      have hg2 := gn_nI (show j2 < 2 ^ 31 by omega)
      refine lv_iconst (v := nI 1) G.1 G.2.1 dX1_curve_16 (by decide) ?_
      refine lv_goto (tgt := 21) G.1 G.2.1 dX1_curve_17 (by decide) ?_
      refine lv_iload_n G.1 G.2.1 dX1_curve_21 rfl (lv_at hl 3 rfl) ?_
      refine gc_s (As := [.int i3]) (rest := [.int (nI 1), .ref (q 0)]) G.fix (mX1_isByte l i3) (va_cwS 1 G.2.2.2.2.2.1 gX1_curve_X1_isByte rfl rfl rfl (by decide +kernel) ⟨Nat.le_of_ble_eq_true rfl, Nat.le_of_ble_eq_true rfl⟩) gc_blindT (fun _ _ _ => trivial) rfl hl.1 rfl (Nat.le_of_ble_eq_true rfl) dX1_curve_22 (Nat.zero_le _) (Nat.zero_le _) (fun r hr => ?_)
      subst hr
      refine gm_mut (N' := N) (S' := S) (th' := (sp_m3 1 (gbn (gb i3 256)) 1)) (r := (nI (sp_z (sp_m3 1 (gbn (gb i3 256)) 1)))) (As := [.int (nI 1), .int (nI (gbn (gb i3 256)))]) (rest := []) G.fix (mX1_mayBoth l D q cI cZ N S fv th A 1 (gbn (gb i3 256)) (by first | decide | exact gbn_lt _) (by first | decide | exact gbn_lt _)) (cwV 2 G.2.2.2.2.2.1 gX1_curve_X1_mayBoth rfl rfl rfl (by decide +kernel) ⟨Nat.le_of_ble_eq_true rfl, Nat.le_of_ble_eq_true rfl⟩) hX hS rfl hl.1 rfl (Nat.le_of_ble_eq_true rfl) dX1_curve_25 (Nat.zero_le _) (Nat.zero_le _) (fun fv H1 locs1 hX hS => ?_)
      refine gn_eqz G (by exact sp_z_lt _) (tgt := 41) dX1_curve_28 (by decide) (fun h_28 => ?_) (fun h_28 => ?_)
      · have hZ : sp_m3 1 (gbn (gb i3 256)) 1 ≠ 0 := sp_z_f h_28
        refine lv_iconst (v := nI 0) G.1 G.2.1 dX1_curve_41 (by decide) ?_
        have hth : sp_m3 1 (gbn (gb i3 256)) 1 = sk_curve N S (nI j1) (nI j2) i3 := by
          unfold sk_curve
          rw [show sA_curve N S (nI j1) (nI j2) i3 = true from by simp [sA_curve, hT_6, hT_13, hg1, hg2] <;> omega]
          exact sp_m3_gk (true) (gb i3 256) (true)
        exact W.iret G.1 G.2.1 G.2.2.1 (fun t ht hW => gQm_of hX hS ht ⟨hth, fun h => absurd (hth.trans h) hZ, (if_neg (fun h => hZ (hth.trans h))).symm, (if_neg (fun h => hZ (hth.trans h))).symm⟩) hS.2.2 dX1_curve_42 G.2.2.2.2.2.2
      · have hZ : sp_m3 1 (gbn (gb i3 256)) 1 = 0 := sp_z_t h_28
        have hTb_28 : gb i3 256 = true := gbn_t (sp_m3_b hZ)
        obtain ⟨j3, hj3, rfl⟩ := gb_of (by omega) hTb_28
        have hg3 := gn_nI (show j3 < 2 ^ 31 by omega)
        refine lv_aload_n G.1 G.2.1 dX1_curve_31 rfl (lv_at hl 0 rfl) ?_
        refine lv_iload_n G.1 G.2.1 dX1_curve_32 rfl (lv_at hl 1 rfl) ?_
        refine lv_iload_n G.1 G.2.1 dX1_curve_33 rfl (lv_at hl 2 rfl) ?_
        refine lv_iload_n G.1 G.2.1 dX1_curve_34 rfl (lv_at hl 3 rfl) ?_
        refine gm_mut (N' := N) (S' := S) (th' := (sp_m3 1 (gbn (gb (nI j3) 256)) 1)) (r := (nI (sp_curve S j1 j2 j3))) (As := [.int (nI j1), .int (nI j2), .int (nI j3)]) (rest := []) G.fix (mX1_curveOf l D q cI cZ N S fv (sp_m3 1 (gbn (gb (nI j3) 256)) 1) A hok j1 j2 j3 (by first | omega | assumption | exact ok6 _ | apply hq) (by first | omega | assumption | exact ok6 _ | apply hq) (by first | omega | assumption | exact ok6 _ | apply hq)) (cwV 3 G.2.2.2.2.2.1 gX1_curve_X1_curveOf rfl rfl rfl (by decide +kernel) ⟨Nat.le_of_ble_eq_true rfl, Nat.le_of_ble_eq_true rfl⟩) hX hS rfl hl.1 rfl (Nat.le_of_ble_eq_true rfl) dX1_curve_35 (Nat.zero_le _) (Nat.zero_le _) (fun fv H1 locs1 hX hS => ?_)
        refine lv_goto (tgt := 42) G.1 G.2.1 dX1_curve_38 (by decide) ?_
        have hth : sp_m3 1 (gbn (gb (nI j3) 256)) 1 = sk_curve N S (nI j1) (nI j2) (nI j3) := by
          unfold sk_curve
          rw [show sA_curve N S (nI j1) (nI j2) (nI j3) = true from by simp [sA_curve, hT_6, hT_13, hTb_28, hg1, hg2, hg3] <;> omega]
          exact sp_m3_gk (true) (gb (nI j3) 256) (true)
        have hsk : sk_curve N S (nI j1) (nI j2) (nI j3) = 0 := hth.symm.trans hZ
        exact W.iret G.1 G.2.1 G.2.2.1 (fun t ht hW => gQm_of hX hS ht ⟨hth, fun _ => (by show nI _ = nI _; simp only [sR_curve, hg1, hg2, hg3]), (by rw [if_pos hsk]; simp only [sN_curve, hg1, hg2, hg3]), (by rw [if_pos hsk]; simp only [sS_curve, hg1, hg2, hg3])⟩) hS.2.2 dX1_curve_42 G.2.2.2.2.2.2
set_option maxRecDepth 100000 in
set_option maxHeartbeats 4000000 in
/-- taken -/
theorem mX1_taken (l : Launch) (D : va_G) (q : Nat → Nat) (cI cZ : ClassId) (N : Nat → Nat) (S : Nat → Nat → Nat) (fv : Nat → Nat) (th : Nat) (A : Nat → Prop) (hok : sp_ok N S) (hinv : sp_inv N S) (i1 i2 i3 : Int32) : Met l yX1_taken wsX1_taken { frames := 4, cells := 0, slots := 0, locals := 94 } (va_Pc [.ref (q 0), .int i1, .int i2, .int i3] (fun U => mAt D q cI cZ N S fv th A U U.heap)) (gQm D q cI cZ (fun r N2 S2 th2 => th2 = sk_taken N S i1 i2 i3 ∧ (sk_taken N S i1 i2 i3 = 0 → r = nI (sR_taken N S i1 i2 i3)) ∧ N2 = (if sk_taken N S i1 i2 i3 = 0 then sN_taken N S i1 i2 i3 else N) ∧ S2 = (if sk_taken N S i1 i2 i3 = 0 then sS_taken N S i1 i2 i3 else S)) A) 0 0 A := by
  refine gc_met [.ref (q 0), .int i1, .int i2, .int i3] (by decide) rfl (Nat.le_of_ble_eq_true rfl) rfl ?_
  intro p e s m below meth c ls G hl hX
  have hS : va_S A s.heap s.heap [] := va_S.rf
  have hok9 := hok
  obtain ⟨⟨ok0, ok5⟩, ok1, ok2, ok3, ok4, ok6, ok7, ok8, ok12, ok13, ok14⟩ := hok9
  refine lv_aload_n G.1 G.2.1 dX1_taken_0 rfl (lv_at hl 0 rfl) ?_
  refine lv_aload_n G.1 G.2.1 dX1_taken_1 rfl (lv_at hl 0 rfl) ?_
  refine lv_iload_n G.1 G.2.1 dX1_taken_2 rfl (lv_at hl 1 rfl) ?_
  refine gc_v (As := [.int i1]) (rest := [.ref (q 0)]) G.fix (mX1_isProfile l D q cI cZ N S fv th A hok i1) (cwV 1 G.2.2.2.2.2.1 gX1_taken_X1_isProfile rfl rfl rfl (by decide +kernel) ⟨Nat.le_of_ble_eq_true rfl, Nat.le_of_ble_eq_true rfl⟩) mAt_blind (va_recv hX.2.1 hX.1 (ci := 1) (q0 := 0) rfl rfl) (fun U hU hW => by rw [hU]; exact hX.moved hW) rfl hl.1 rfl (Nat.le_of_ble_eq_true rfl) dX1_taken_3 (Nat.zero_le _) (Nat.zero_le _) (fun r hr => ?_)
  subst hr
  refine gn_eqz G (by exact gbn_lt _) (tgt := 20) dX1_taken_6 (by decide) (fun h_6 => ?_) (fun h_6 => ?_)
  · have hF_6 : gb i1 (N 0) = false := gbn_f h_6
    refine lv_iconst (v := nI 0) G.1 G.2.1 dX1_taken_20 (by decide) ?_
    refine lv_iload_n G.1 G.2.1 dX1_taken_21 rfl (lv_at hl 3 rfl) ?_
    refine gc_s (As := [.int i3]) (rest := [.int (nI 0), .ref (q 0)]) G.fix (mX1_isByte l i3) (va_cwS 1 G.2.2.2.2.2.1 gX1_taken_X1_isByte rfl rfl rfl (by decide +kernel) ⟨Nat.le_of_ble_eq_true rfl, Nat.le_of_ble_eq_true rfl⟩) gc_blindT (fun _ _ _ => trivial) rfl hl.1 rfl (Nat.le_of_ble_eq_true rfl) dX1_taken_22 (Nat.zero_le _) (Nat.zero_le _) (fun r hr => ?_)
    subst hr
    refine gm_mut (N' := N) (S' := S) (th' := (sp_m3 0 (gbn (gb i3 256)) 1)) (r := (nI (sp_z (sp_m3 0 (gbn (gb i3 256)) 1)))) (As := [.int (nI 0), .int (nI (gbn (gb i3 256)))]) (rest := []) G.fix (mX1_mayBoth l D q cI cZ N S fv th A 0 (gbn (gb i3 256)) (by first | decide | exact gbn_lt _) (by first | decide | exact gbn_lt _)) (cwV 2 G.2.2.2.2.2.1 gX1_taken_X1_mayBoth rfl rfl rfl (by decide +kernel) ⟨Nat.le_of_ble_eq_true rfl, Nat.le_of_ble_eq_true rfl⟩) hX hS rfl hl.1 rfl (Nat.le_of_ble_eq_true rfl) dX1_taken_25 (Nat.zero_le _) (Nat.zero_le _) (fun fv H1 locs1 hX hS => ?_)
    refine gn_eqz G (by exact sp_z_lt _) (tgt := 41) dX1_taken_28 (by decide) (fun h_28 => ?_) (fun h_28 => ?_)
    · have hZ : sp_m3 0 (gbn (gb i3 256)) 1 ≠ 0 := sp_z_f h_28
      refine lv_iconst (v := nI 0) G.1 G.2.1 dX1_taken_41 (by decide) ?_
      have hth : sp_m3 0 (gbn (gb i3 256)) 1 = sk_taken N S i1 i2 i3 := by
        unfold sk_taken
        rw [show sA_taken N S i1 i2 i3 = false from by simp [sA_taken, hF_6] <;> omega]
        rfl
      exact W.iret G.1 G.2.1 G.2.2.1 (fun t ht hW => gQm_of hX hS ht ⟨hth, fun h => absurd (hth.trans h) hZ, (if_neg (fun h => hZ (hth.trans h))).symm, (if_neg (fun h => hZ (hth.trans h))).symm⟩) hS.2.2 dX1_taken_42 G.2.2.2.2.2.2
    · exact absurd (sp_z_t h_28) (fun z => sp_m3_a z rfl)
  · have hT_6 : gb i1 (N 0) = true := gbn_t h_6
    obtain ⟨j1, hj1, rfl⟩ := gb_of (by omega) hT_6
    have hg1 := gn_nI (show j1 < 2 ^ 31 by omega)
    refine lv_iload_n G.1 G.2.1 dX1_taken_9 rfl (lv_at hl 2 rfl) ?_
    refine gc_s (As := [.int i2]) (rest := [.ref (q 0)]) G.fix (mX1_isThird l i2) (va_cwS 1 G.2.2.2.2.2.1 gX1_taken_X1_isThird rfl rfl rfl (by decide +kernel) ⟨Nat.le_of_ble_eq_true rfl, Nat.le_of_ble_eq_true rfl⟩) gc_blindT (fun _ _ _ => trivial) rfl hl.1 rfl (Nat.le_of_ble_eq_true rfl) dX1_taken_10 (Nat.zero_le _) (Nat.zero_le _) (fun r hr => ?_)
    subst hr
    refine gn_eqz G (by exact gbn_lt _) (tgt := 20) dX1_taken_13 (by decide) (fun h_13 => ?_) (fun h_13 => ?_)
    · have hF_13 : gb i2 3 = false := gbn_f h_13
      refine lv_iconst (v := nI 0) G.1 G.2.1 dX1_taken_20 (by decide) ?_
      refine lv_iload_n G.1 G.2.1 dX1_taken_21 rfl (lv_at hl 3 rfl) ?_
      refine gc_s (As := [.int i3]) (rest := [.int (nI 0), .ref (q 0)]) G.fix (mX1_isByte l i3) (va_cwS 1 G.2.2.2.2.2.1 gX1_taken_X1_isByte rfl rfl rfl (by decide +kernel) ⟨Nat.le_of_ble_eq_true rfl, Nat.le_of_ble_eq_true rfl⟩) gc_blindT (fun _ _ _ => trivial) rfl hl.1 rfl (Nat.le_of_ble_eq_true rfl) dX1_taken_22 (Nat.zero_le _) (Nat.zero_le _) (fun r hr => ?_)
      subst hr
      refine gm_mut (N' := N) (S' := S) (th' := (sp_m3 0 (gbn (gb i3 256)) 1)) (r := (nI (sp_z (sp_m3 0 (gbn (gb i3 256)) 1)))) (As := [.int (nI 0), .int (nI (gbn (gb i3 256)))]) (rest := []) G.fix (mX1_mayBoth l D q cI cZ N S fv th A 0 (gbn (gb i3 256)) (by first | decide | exact gbn_lt _) (by first | decide | exact gbn_lt _)) (cwV 2 G.2.2.2.2.2.1 gX1_taken_X1_mayBoth rfl rfl rfl (by decide +kernel) ⟨Nat.le_of_ble_eq_true rfl, Nat.le_of_ble_eq_true rfl⟩) hX hS rfl hl.1 rfl (Nat.le_of_ble_eq_true rfl) dX1_taken_25 (Nat.zero_le _) (Nat.zero_le _) (fun fv H1 locs1 hX hS => ?_)
      refine gn_eqz G (by exact sp_z_lt _) (tgt := 41) dX1_taken_28 (by decide) (fun h_28 => ?_) (fun h_28 => ?_)
      · have hZ : sp_m3 0 (gbn (gb i3 256)) 1 ≠ 0 := sp_z_f h_28
        refine lv_iconst (v := nI 0) G.1 G.2.1 dX1_taken_41 (by decide) ?_
        have hth : sp_m3 0 (gbn (gb i3 256)) 1 = sk_taken N S (nI j1) i2 i3 := by
          unfold sk_taken
          rw [show sA_taken N S (nI j1) i2 i3 = false from by simp [sA_taken, hT_6, hF_13, hg1] <;> omega]
          rfl
        exact W.iret G.1 G.2.1 G.2.2.1 (fun t ht hW => gQm_of hX hS ht ⟨hth, fun h => absurd (hth.trans h) hZ, (if_neg (fun h => hZ (hth.trans h))).symm, (if_neg (fun h => hZ (hth.trans h))).symm⟩) hS.2.2 dX1_taken_42 G.2.2.2.2.2.2
      · exact absurd (sp_z_t h_28) (fun z => sp_m3_a z rfl)
    · have hT_13 : gb i2 3 = true := gbn_t h_13
      obtain ⟨j2, hj2, rfl⟩ := gb_of (by omega) hT_13
      have hg2 := gn_nI (show j2 < 2 ^ 31 by omega)
      refine lv_iconst (v := nI 1) G.1 G.2.1 dX1_taken_16 (by decide) ?_
      refine lv_goto (tgt := 21) G.1 G.2.1 dX1_taken_17 (by decide) ?_
      refine lv_iload_n G.1 G.2.1 dX1_taken_21 rfl (lv_at hl 3 rfl) ?_
      refine gc_s (As := [.int i3]) (rest := [.int (nI 1), .ref (q 0)]) G.fix (mX1_isByte l i3) (va_cwS 1 G.2.2.2.2.2.1 gX1_taken_X1_isByte rfl rfl rfl (by decide +kernel) ⟨Nat.le_of_ble_eq_true rfl, Nat.le_of_ble_eq_true rfl⟩) gc_blindT (fun _ _ _ => trivial) rfl hl.1 rfl (Nat.le_of_ble_eq_true rfl) dX1_taken_22 (Nat.zero_le _) (Nat.zero_le _) (fun r hr => ?_)
      subst hr
      refine gm_mut (N' := N) (S' := S) (th' := (sp_m3 1 (gbn (gb i3 256)) 1)) (r := (nI (sp_z (sp_m3 1 (gbn (gb i3 256)) 1)))) (As := [.int (nI 1), .int (nI (gbn (gb i3 256)))]) (rest := []) G.fix (mX1_mayBoth l D q cI cZ N S fv th A 1 (gbn (gb i3 256)) (by first | decide | exact gbn_lt _) (by first | decide | exact gbn_lt _)) (cwV 2 G.2.2.2.2.2.1 gX1_taken_X1_mayBoth rfl rfl rfl (by decide +kernel) ⟨Nat.le_of_ble_eq_true rfl, Nat.le_of_ble_eq_true rfl⟩) hX hS rfl hl.1 rfl (Nat.le_of_ble_eq_true rfl) dX1_taken_25 (Nat.zero_le _) (Nat.zero_le _) (fun fv H1 locs1 hX hS => ?_)
      refine gn_eqz G (by exact sp_z_lt _) (tgt := 41) dX1_taken_28 (by decide) (fun h_28 => ?_) (fun h_28 => ?_)
      · have hZ : sp_m3 1 (gbn (gb i3 256)) 1 ≠ 0 := sp_z_f h_28
        refine lv_iconst (v := nI 0) G.1 G.2.1 dX1_taken_41 (by decide) ?_
        have hth : sp_m3 1 (gbn (gb i3 256)) 1 = sk_taken N S (nI j1) (nI j2) i3 := by
          unfold sk_taken
          rw [show sA_taken N S (nI j1) (nI j2) i3 = true from by simp [sA_taken, hT_6, hT_13, hg1, hg2] <;> omega]
          exact sp_m3_gk (true) (gb i3 256) (true)
        exact W.iret G.1 G.2.1 G.2.2.1 (fun t ht hW => gQm_of hX hS ht ⟨hth, fun h => absurd (hth.trans h) hZ, (if_neg (fun h => hZ (hth.trans h))).symm, (if_neg (fun h => hZ (hth.trans h))).symm⟩) hS.2.2 dX1_taken_42 G.2.2.2.2.2.2
      · have hZ : sp_m3 1 (gbn (gb i3 256)) 1 = 0 := sp_z_t h_28
        have hTb_28 : gb i3 256 = true := gbn_t (sp_m3_b hZ)
        obtain ⟨j3, hj3, rfl⟩ := gb_of (by omega) hTb_28
        have hg3 := gn_nI (show j3 < 2 ^ 31 by omega)
        refine lv_aload_n G.1 G.2.1 dX1_taken_31 rfl (lv_at hl 0 rfl) ?_
        refine lv_iload_n G.1 G.2.1 dX1_taken_32 rfl (lv_at hl 1 rfl) ?_
        refine lv_iload_n G.1 G.2.1 dX1_taken_33 rfl (lv_at hl 2 rfl) ?_
        refine lv_iload_n G.1 G.2.1 dX1_taken_34 rfl (lv_at hl 3 rfl) ?_
        refine gm_mut (N' := N) (S' := S) (th' := (sp_m3 1 (gbn (gb (nI j3) 256)) 1)) (r := (nI (sp_tk S j1 j2 j3))) (As := [.int (nI j1), .int (nI j2), .int (nI j3)]) (rest := []) G.fix (mX1_takenBy l D q cI cZ N S fv (sp_m3 1 (gbn (gb (nI j3) 256)) 1) A hok j1 j2 j3 (by first | omega | assumption | exact ok6 _ | apply hq) (by first | omega | assumption | exact ok6 _ | apply hq) (by first | omega | assumption | exact ok6 _ | apply hq)) (cwV 3 G.2.2.2.2.2.1 gX1_taken_X1_takenBy rfl rfl rfl (by decide +kernel) ⟨Nat.le_of_ble_eq_true rfl, Nat.le_of_ble_eq_true rfl⟩) hX hS rfl hl.1 rfl (Nat.le_of_ble_eq_true rfl) dX1_taken_35 (Nat.zero_le _) (Nat.zero_le _) (fun fv H1 locs1 hX hS => ?_)
        refine lv_goto (tgt := 42) G.1 G.2.1 dX1_taken_38 (by decide) ?_
        have hth : sp_m3 1 (gbn (gb (nI j3) 256)) 1 = sk_taken N S (nI j1) (nI j2) (nI j3) := by
          unfold sk_taken
          rw [show sA_taken N S (nI j1) (nI j2) (nI j3) = true from by simp [sA_taken, hT_6, hT_13, hTb_28, hg1, hg2, hg3] <;> omega]
          exact sp_m3_gk (true) (gb (nI j3) 256) (true)
        have hsk : sk_taken N S (nI j1) (nI j2) (nI j3) = 0 := hth.symm.trans hZ
        exact W.iret G.1 G.2.1 G.2.2.1 (fun t ht hW => gQm_of hX hS ht ⟨hth, fun _ => (by show nI _ = nI _; simp only [sR_taken, hg1, hg2, hg3]), (by rw [if_pos hsk]; simp only [sN_taken, hg1, hg2, hg3]), (by rw [if_pos hsk]; simp only [sS_taken, hg1, hg2, hg3])⟩) hS.2.2 dX1_taken_42 G.2.2.2.2.2.2
set_option maxRecDepth 100000 in
set_option maxHeartbeats 4000000 in
/-- chain -/
theorem mX1_chain (l : Launch) (D : va_G) (q : Nat → Nat) (cI cZ : ClassId) (N : Nat → Nat) (S : Nat → Nat → Nat) (fv : Nat → Nat) (th : Nat) (A : Nat → Prop) (hok : sp_ok N S) (hinv : sp_inv N S) : Met l yX1_chain wsX1_chain { frames := 1, cells := 0, slots := 0, locals := 21 } (va_Pc [.ref (q 0)] (fun U => mAt D q cI cZ N S fv th A U U.heap)) (gQm D q cI cZ (fun r N2 S2 th2 => th2 = sk_chain N S ∧ (sk_chain N S = 0 → r = nI (sR_chain N S)) ∧ N2 = (if sk_chain N S = 0 then sN_chain N S else N) ∧ S2 = (if sk_chain N S = 0 then sS_chain N S else S)) A) 0 0 A := by
  refine gc_met [.ref (q 0)] (by decide) rfl (Nat.le_of_ble_eq_true rfl) rfl ?_
  intro p e s m below meth c ls G hl hX
  have hS : va_S A s.heap s.heap [] := va_S.rf
  have hok9 := hok
  obtain ⟨⟨ok0, ok5⟩, ok1, ok2, ok3, ok4, ok6, ok7, ok8, ok12, ok13, ok14⟩ := hok9
  refine lv_aload_n G.1 G.2.1 dX1_chain_0 rfl (lv_at hl 0 rfl) ?_
  refine lv_aload_n G.1 G.2.1 dX1_chain_1 rfl (lv_at hl 0 rfl) ?_
  refine gm_get G hX (by decide +kernel) 5 (by decide) (by decide +kernel) rfl rfl rfl dX1_chain_2 ?_
  refine lv_bipush (v := nI 6) G.1 G.2.1 dX1_chain_5 (by decide) ?_
  refine gn_ge G (by first | omega | assumption) (by first | omega | assumption) (tgt := 14) dX1_chain_7 (by decide) (fun h_7 => ?_) (fun h_7 => ?_)
  · refine lv_iconst (v := nI 0) G.1 G.2.1 dX1_chain_14 (by decide) ?_
    refine gm_mut (N' := N) (S' := S) (th' := (sp_m3 0 1 1)) (r := (nI (sp_z (sp_m3 0 1 1)))) (As := [.int (nI 0)]) (rest := []) G.fix (mX1_may l D q cI cZ N S fv th A 0 (by first | decide | exact gbn_le _)) (cwV 1 G.2.2.2.2.2.1 gX1_chain_X1_may rfl rfl rfl (by decide +kernel) ⟨Nat.le_of_ble_eq_true rfl, Nat.le_of_ble_eq_true rfl⟩) hX hS rfl hl.1 rfl (Nat.le_of_ble_eq_true rfl) dX1_chain_15 (Nat.zero_le _) (Nat.zero_le _) (fun fv H1 locs1 hX hS => ?_)
    refine gn_nez G (by exact sp_z_lt _) (tgt := 23) dX1_chain_18 (by decide) (fun h_18 => ?_) (fun h_18 => ?_)
    · exact absurd (sp_z_t h_18) (fun z => sp_m3_a z rfl)
    · have hZ : sp_m3 0 1 1 ≠ 0 := sp_z_f h_18
      refine lv_iconst (v := nI 0) G.1 G.2.1 dX1_chain_21 (by decide) ?_
      have hth : sp_m3 0 1 1 = sk_chain N S := by
        unfold sk_chain
        rw [show sC_chain N S = false from by simp [sC_chain, h_7] <;> omega]
        rfl
      exact W.iret G.1 G.2.1 G.2.2.1 (fun t ht hW => gQm_of hX hS ht ⟨hth, fun h => absurd (hth.trans h) hZ, (if_neg (fun h => hZ (hth.trans h))).symm, (if_neg (fun h => hZ (hth.trans h))).symm⟩) hS.2.2 dX1_chain_22 G.2.2.2.2.2.2
  · refine lv_iconst (v := nI 1) G.1 G.2.1 dX1_chain_10 (by decide) ?_
    refine lv_goto (tgt := 15) G.1 G.2.1 dX1_chain_11 (by decide) ?_
    refine gm_mut (N' := N) (S' := S) (th' := (sp_m3 1 1 1)) (r := (nI (sp_z (sp_m3 1 1 1)))) (As := [.int (nI 1)]) (rest := []) G.fix (mX1_may l D q cI cZ N S fv th A 1 (by first | decide | exact gbn_le _)) (cwV 1 G.2.2.2.2.2.1 gX1_chain_X1_may rfl rfl rfl (by decide +kernel) ⟨Nat.le_of_ble_eq_true rfl, Nat.le_of_ble_eq_true rfl⟩) hX hS rfl hl.1 rfl (Nat.le_of_ble_eq_true rfl) dX1_chain_15 (Nat.zero_le _) (Nat.zero_le _) (fun fv H1 locs1 hX hS => ?_)
    refine gn_nez G (by exact sp_z_lt _) (tgt := 23) dX1_chain_18 (by decide) (fun h_18 => ?_) (fun h_18 => ?_)
    · have hZ : sp_m3 1 1 1 = 0 := sp_z_t h_18
      refine lv_aload_n G.1 G.2.1 dX1_chain_23 rfl (lv_at hl 0 rfl) ?_
      refine lv_dup G.1 G.2.1 dX1_chain_24 rfl ?_
      refine gm_get G hX (by decide +kernel) 5 (by decide) (by decide +kernel) rfl rfl rfl dX1_chain_25 ?_
      refine lv_iconst (v := nI 1) G.1 G.2.1 dX1_chain_28 (by decide) ?_
      refine gn_iadd G dX1_chain_29 ?_
      refine gm_put (k := 5) (v := (N 5) + 1) (N' := (gu N 5 ((N 5) + 1))) (th' := (sp_m3 1 1 1)) G hX hS (by decide +kernel) (by decide) (by decide +kernel) rfl rfl (by decide +kernel) rfl (Nat.le_of_ble_eq_true rfl) rfl dX1_chain_30 (fun H1 locs1 hX hS => ?_)
      refine lv_aload_n G.1 G.2.1 dX1_chain_33 rfl (lv_at hl 0 rfl) ?_
      refine gm_get G hX (by decide +kernel) 5 (by decide) (by decide +kernel) rfl rfl rfl dX1_chain_34 ?_
      rw [gu_same]
      refine lv_iconst (v := nI 1) G.1 G.2.1 dX1_chain_37 (by decide) ?_
      refine gn_isub G dX1_chain_38 (by first | omega | assumption) ?_
      have hth : sp_m3 1 1 1 = sk_chain N S := by
        unfold sk_chain
        rw [show sC_chain N S = true from by simp [sC_chain, h_7] <;> omega]
        exact sp_m3_gk (true) (true) (true)
      have hsk : sk_chain N S = 0 := hth.symm.trans hZ
      exact W.iret G.1 G.2.1 G.2.2.1 (fun t ht hW => gQm_of hX hS ht ⟨hth, fun _ => (by show nI _ = nI _; simp only [sR_chain, Nat.add_sub_cancel]), (by rw [if_pos hsk]; simp only [sN_chain]), (by rw [if_pos hsk]; simp only [sS_chain])⟩) hS.2.2 dX1_chain_39 G.2.2.2.2.2.2
    · have hZ : sp_m3 1 1 1 ≠ 0 := sp_z_f h_18
      refine lv_iconst (v := nI 0) G.1 G.2.1 dX1_chain_21 (by decide) ?_
      have hth : sp_m3 1 1 1 = sk_chain N S := by
        unfold sk_chain
        rw [show sC_chain N S = true from by simp [sC_chain, h_7] <;> omega]
        exact sp_m3_gk (true) (true) (true)
      exact W.iret G.1 G.2.1 G.2.2.1 (fun t ht hW => gQm_of hX hS ht ⟨hth, fun h => absurd (hth.trans h) hZ, (if_neg (fun h => hZ (hth.trans h))).symm, (if_neg (fun h => hZ (hth.trans h))).symm⟩) hS.2.2 dX1_chain_22 G.2.2.2.2.2.2
set_option maxRecDepth 100000 in
set_option maxHeartbeats 4000000 in
/-- add -/
theorem mX1_add (l : Launch) (D : va_G) (q : Nat → Nat) (cI cZ : ClassId) (N : Nat → Nat) (S : Nat → Nat → Nat) (fv : Nat → Nat) (th : Nat) (A : Nat → Prop) (hok : sp_ok N S) (hinv : sp_inv N S) (i1 i2 : Int32) : Met l yX1_add wsX1_add { frames := 2, cells := 0, slots := 0, locals := 43 } (va_Pc [.ref (q 0), .int i1, .int i2] (fun U => mAt D q cI cZ N S fv th A U U.heap)) (gQm D q cI cZ (fun r N2 S2 th2 => th2 = sk_add N S i1 i2 ∧ (sk_add N S i1 i2 = 0 → r = nI (sR_add N S i1 i2)) ∧ N2 = (if sk_add N S i1 i2 = 0 then sN_add N S i1 i2 else N) ∧ S2 = (if sk_add N S i1 i2 = 0 then sS_add N S i1 i2 else S)) A) 0 0 A := by
  refine gc_met [.ref (q 0), .int i1, .int i2] (by decide) rfl (Nat.le_of_ble_eq_true rfl) rfl ?_
  intro p e s m below meth c ls G hl hX
  have hS : va_S A s.heap s.heap [] := va_S.rf
  have hok9 := hok
  obtain ⟨⟨ok0, ok5⟩, ok1, ok2, ok3, ok4, ok6, ok7, ok8, ok12, ok13, ok14⟩ := hok9
  refine lv_aload_n G.1 G.2.1 dX1_add_0 rfl (lv_at hl 0 rfl) ?_
  refine lv_iload_n G.1 G.2.1 dX1_add_1 rfl (lv_at hl 1 rfl) ?_
  refine gc_v (As := [.int i1]) (rest := []) G.fix (mX1_isChain l D q cI cZ N S fv th A hok i1) (cwV 1 G.2.2.2.2.2.1 gX1_add_X1_isChain rfl rfl rfl (by decide +kernel) ⟨Nat.le_of_ble_eq_true rfl, Nat.le_of_ble_eq_true rfl⟩) mAt_blind (va_recv hX.2.1 hX.1 (ci := 1) (q0 := 0) rfl rfl) (fun U hU hW => by rw [hU]; exact hX.moved hW) rfl hl.1 rfl (Nat.le_of_ble_eq_true rfl) dX1_add_2 (Nat.zero_le _) (Nat.zero_le _) (fun r hr => ?_)
  subst hr
  refine gn_eqz G (by exact gbn_lt _) (tgt := 20) dX1_add_5 (by decide) (fun h_5 => ?_) (fun h_5 => ?_)
  · have hF_5 : gb i1 (N 5) = false := gbn_f h_5
    refine lv_iconst (v := nI 0) G.1 G.2.1 dX1_add_20 (by decide) ?_
    refine lv_istore_n (lv' := [(3, .int (nI 0)), (0, .ref (q 0)), (1, .int i1), (2, .int i2)]) G.1 G.2.1 dX1_add_21 rfl hl (by decide) rfl (fun ls hl => ?_)
    refine lv_aload_n G.1 G.2.1 dX1_add_22 rfl (lv_at hl 1 rfl) ?_
    refine lv_iload_n G.1 G.2.1 dX1_add_23 rfl (lv_at hl 0 rfl) ?_
    refine lv_iload_n G.1 G.2.1 dX1_add_24 rfl (lv_at hl 0 rfl) ?_
    refine gn_eqz G (by decide) (tgt := 52) dX1_add_25 (by decide) (fun h_25 => ?_) (fun h_25 => absurd h_25 (by decide))
    refine lv_iconst (v := nI 0) G.1 G.2.1 dX1_add_52 (by decide) ?_
    refine gm_mut (N' := N) (S' := S) (th' := (sp_m3 0 0 1)) (r := (nI (sp_z (sp_m3 0 0 1)))) (As := [.int (nI 0), .int (nI 0)]) (rest := []) G.fix (mX1_mayBoth l D q cI cZ N S fv th A 0 0 (by first | decide | exact gbn_lt _) (by first | decide | exact gbn_lt _)) (cwV 2 G.2.2.2.2.2.1 gX1_add_X1_mayBoth rfl rfl rfl (by decide +kernel) ⟨Nat.le_of_ble_eq_true rfl, Nat.le_of_ble_eq_true rfl⟩) hX hS rfl hl.1 rfl (Nat.le_of_ble_eq_true rfl) dX1_add_53 (Nat.zero_le _) (Nat.zero_le _) (fun fv H1 locs1 hX hS => ?_)
    refine gn_nez G (by exact sp_z_lt _) (tgt := 61) dX1_add_56 (by decide) (fun h_56 => ?_) (fun h_56 => ?_)
    · exact absurd (sp_z_t h_56) (fun z => sp_m3_b z rfl)
    · have hZ : sp_m3 0 0 1 ≠ 0 := sp_z_f h_56
      refine lv_iconst (v := nI 0) G.1 G.2.1 dX1_add_59 (by decide) ?_
      have hth : sp_m3 0 0 1 = sk_add N S i1 i2 := by
        unfold sk_add
        rw [show sA_add N S i1 i2 = false from by simp [sA_add, hF_5] <;> omega]
        rfl
      exact W.iret G.1 G.2.1 G.2.2.1 (fun t ht hW => gQm_of hX hS ht ⟨hth, fun h => absurd (hth.trans h) hZ, (if_neg (fun h => hZ (hth.trans h))).symm, (if_neg (fun h => hZ (hth.trans h))).symm⟩) hS.2.2 dX1_add_60 G.2.2.2.2.2.2
  · have hT_5 : gb i1 (N 5) = true := gbn_t h_5
    obtain ⟨j1, hj1, rfl⟩ := gb_of (by omega) hT_5
    have hg1 := gn_nI (show j1 < 2 ^ 31 by omega)
    refine lv_aload_n G.1 G.2.1 dX1_add_8 rfl (lv_at hl 0 rfl) ?_
    refine lv_iload_n G.1 G.2.1 dX1_add_9 rfl (lv_at hl 2 rfl) ?_
    refine gc_v (As := [.int i2]) (rest := []) G.fix (mX1_isProfile l D q cI cZ N S fv th A hok i2) (cwV 1 G.2.2.2.2.2.1 gX1_add_X1_isProfile rfl rfl rfl (by decide +kernel) ⟨Nat.le_of_ble_eq_true rfl, Nat.le_of_ble_eq_true rfl⟩) mAt_blind (va_recv hX.2.1 hX.1 (ci := 1) (q0 := 0) rfl rfl) (fun U hU hW => by rw [hU]; exact hX.moved hW) rfl hl.1 rfl (Nat.le_of_ble_eq_true rfl) dX1_add_10 (Nat.zero_le _) (Nat.zero_le _) (fun r hr => ?_)
    subst hr
    refine gn_eqz G (by exact gbn_lt _) (tgt := 20) dX1_add_13 (by decide) (fun h_13 => ?_) (fun h_13 => ?_)
    · have hF_13 : gb i2 (N 0) = false := gbn_f h_13
      refine lv_iconst (v := nI 0) G.1 G.2.1 dX1_add_20 (by decide) ?_
      refine lv_istore_n (lv' := [(3, .int (nI 0)), (0, .ref (q 0)), (1, .int (nI j1)), (2, .int i2)]) G.1 G.2.1 dX1_add_21 rfl hl (by decide) rfl (fun ls hl => ?_)
      refine lv_aload_n G.1 G.2.1 dX1_add_22 rfl (lv_at hl 1 rfl) ?_
      refine lv_iload_n G.1 G.2.1 dX1_add_23 rfl (lv_at hl 0 rfl) ?_
      refine lv_iload_n G.1 G.2.1 dX1_add_24 rfl (lv_at hl 0 rfl) ?_
      refine gn_eqz G (by decide) (tgt := 52) dX1_add_25 (by decide) (fun h_25 => ?_) (fun h_25 => absurd h_25 (by decide))
      refine lv_iconst (v := nI 0) G.1 G.2.1 dX1_add_52 (by decide) ?_
      refine gm_mut (N' := N) (S' := S) (th' := (sp_m3 0 0 1)) (r := (nI (sp_z (sp_m3 0 0 1)))) (As := [.int (nI 0), .int (nI 0)]) (rest := []) G.fix (mX1_mayBoth l D q cI cZ N S fv th A 0 0 (by first | decide | exact gbn_lt _) (by first | decide | exact gbn_lt _)) (cwV 2 G.2.2.2.2.2.1 gX1_add_X1_mayBoth rfl rfl rfl (by decide +kernel) ⟨Nat.le_of_ble_eq_true rfl, Nat.le_of_ble_eq_true rfl⟩) hX hS rfl hl.1 rfl (Nat.le_of_ble_eq_true rfl) dX1_add_53 (Nat.zero_le _) (Nat.zero_le _) (fun fv H1 locs1 hX hS => ?_)
      refine gn_nez G (by exact sp_z_lt _) (tgt := 61) dX1_add_56 (by decide) (fun h_56 => ?_) (fun h_56 => ?_)
      · exact absurd (sp_z_t h_56) (fun z => sp_m3_b z rfl)
      · have hZ : sp_m3 0 0 1 ≠ 0 := sp_z_f h_56
        refine lv_iconst (v := nI 0) G.1 G.2.1 dX1_add_59 (by decide) ?_
        have hth : sp_m3 0 0 1 = sk_add N S (nI j1) i2 := by
          unfold sk_add
          rw [show sA_add N S (nI j1) i2 = false from by simp [sA_add, hT_5, hF_13, hg1] <;> omega]
          rfl
        exact W.iret G.1 G.2.1 G.2.2.1 (fun t ht hW => gQm_of hX hS ht ⟨hth, fun h => absurd (hth.trans h) hZ, (if_neg (fun h => hZ (hth.trans h))).symm, (if_neg (fun h => hZ (hth.trans h))).symm⟩) hS.2.2 dX1_add_60 G.2.2.2.2.2.2
    · have hT_13 : gb i2 (N 0) = true := gbn_t h_13
      obtain ⟨j2, hj2, rfl⟩ := gb_of (by omega) hT_13
      have hg2 := gn_nI (show j2 < 2 ^ 31 by omega)
      refine lv_iconst (v := nI 1) G.1 G.2.1 dX1_add_16 (by decide) ?_
      refine lv_goto (tgt := 21) G.1 G.2.1 dX1_add_17 (by decide) ?_
      refine lv_istore_n (lv' := [(3, .int (nI 1)), (0, .ref (q 0)), (1, .int (nI j1)), (2, .int (nI j2))]) G.1 G.2.1 dX1_add_21 rfl hl (by decide) rfl (fun ls hl => ?_)
      refine lv_aload_n G.1 G.2.1 dX1_add_22 rfl (lv_at hl 1 rfl) ?_
      refine lv_iload_n G.1 G.2.1 dX1_add_23 rfl (lv_at hl 0 rfl) ?_
      refine lv_iload_n G.1 G.2.1 dX1_add_24 rfl (lv_at hl 0 rfl) ?_
      refine gn_eqz G (by decide) (tgt := 52) dX1_add_25 (by decide) (fun h_25 => absurd h_25 (by decide)) (fun h_25 => ?_)
      refine lv_aload_n G.1 G.2.1 dX1_add_28 rfl (lv_at hl 1 rfl) ?_
      refine gm_get G hX (by decide +kernel) 9 (by decide) (by decide +kernel) rfl rfl rfl dX1_add_29 ?_
      refine lv_iload_n G.1 G.2.1 dX1_add_32 rfl (lv_at hl 2 rfl) ?_
      refine gm_zld (k := 9) (kp := 8) (len := 6) (F := S 10) G hX rfl (by first | omega | assumption) (by decide) dX1_add_33 ?_
      rw [show S 10 j1 = sp_bit (N 10) j1 from (hinv.2.2.2.2.2.1 _ (by omega)).2]
      refine gn_nez G (by exact sp_b31 _ _) (tgt := 52) dX1_add_34 (by decide) (fun h_34 => ?_) (fun h_34 => ?_)
      · have hu_34 := h_34
        refine lv_iconst (v := nI 0) G.1 G.2.1 dX1_add_52 (by decide) ?_
        refine gm_mut (N' := N) (S' := S) (th' := (sp_m3 1 0 1)) (r := (nI (sp_z (sp_m3 1 0 1)))) (As := [.int (nI 1), .int (nI 0)]) (rest := []) G.fix (mX1_mayBoth l D q cI cZ N S fv th A 1 0 (by first | decide | exact gbn_lt _) (by first | decide | exact gbn_lt _)) (cwV 2 G.2.2.2.2.2.1 gX1_add_X1_mayBoth rfl rfl rfl (by decide +kernel) ⟨Nat.le_of_ble_eq_true rfl, Nat.le_of_ble_eq_true rfl⟩) hX hS rfl hl.1 rfl (Nat.le_of_ble_eq_true rfl) dX1_add_53 (Nat.zero_le _) (Nat.zero_le _) (fun fv H1 locs1 hX hS => ?_)
        refine gn_nez G (by exact sp_z_lt _) (tgt := 61) dX1_add_56 (by decide) (fun h_56 => ?_) (fun h_56 => ?_)
        · exact absurd (sp_z_t h_56) (fun z => sp_m3_b z rfl)
        · have hZ : sp_m3 1 0 1 ≠ 0 := sp_z_f h_56
          refine lv_iconst (v := nI 0) G.1 G.2.1 dX1_add_59 (by decide) ?_
          have hth : sp_m3 1 0 1 = sk_add N S (nI j1) (nI j2) := by
            unfold sk_add
            rw [show sA_add N S (nI j1) (nI j2) = true from by simp [sA_add, hT_5, hT_13, h_34, hg1, hg2] <;> omega]
            rw [show sC_add N S (nI j1) (nI j2) = false from by simp [sC_add, hT_5, hT_13, h_34, hg1, hg2] <;> omega]
            rfl
          exact W.iret G.1 G.2.1 G.2.2.1 (fun t ht hW => gQm_of hX hS ht ⟨hth, fun h => absurd (hth.trans h) hZ, (if_neg (fun h => hZ (hth.trans h))).symm, (if_neg (fun h => hZ (hth.trans h))).symm⟩) hS.2.2 dX1_add_60 G.2.2.2.2.2.2
      · have hu_34 := h_34
        have hl6 := ok7 j1
        refine lv_aload_n G.1 G.2.1 dX1_add_37 rfl (lv_at hl 1 rfl) ?_
        refine gm_get G hX (by decide +kernel) 6 (by decide) (by decide +kernel) rfl rfl rfl dX1_add_38 ?_
        refine lv_iload_n G.1 G.2.1 dX1_add_41 rfl (lv_at hl 2 rfl) ?_
        refine gm_ald (k := 6) (kp := 5) (len := 6) (F := S 7) G hX rfl (by first | omega | assumption) (by decide) dX1_add_42 ?_
        refine lv_bipush (v := nI 6) G.1 G.2.1 dX1_add_43 (by decide) ?_
        refine gn_ge G (by first | omega | assumption) (by first | omega | assumption) (tgt := 52) dX1_add_45 (by decide) (fun h_45 => ?_) (fun h_45 => ?_)
        · refine lv_iconst (v := nI 0) G.1 G.2.1 dX1_add_52 (by decide) ?_
          refine gm_mut (N' := N) (S' := S) (th' := (sp_m3 1 0 1)) (r := (nI (sp_z (sp_m3 1 0 1)))) (As := [.int (nI 1), .int (nI 0)]) (rest := []) G.fix (mX1_mayBoth l D q cI cZ N S fv th A 1 0 (by first | decide | exact gbn_lt _) (by first | decide | exact gbn_lt _)) (cwV 2 G.2.2.2.2.2.1 gX1_add_X1_mayBoth rfl rfl rfl (by decide +kernel) ⟨Nat.le_of_ble_eq_true rfl, Nat.le_of_ble_eq_true rfl⟩) hX hS rfl hl.1 rfl (Nat.le_of_ble_eq_true rfl) dX1_add_53 (Nat.zero_le _) (Nat.zero_le _) (fun fv H1 locs1 hX hS => ?_)
          refine gn_nez G (by exact sp_z_lt _) (tgt := 61) dX1_add_56 (by decide) (fun h_56 => ?_) (fun h_56 => ?_)
          · exact absurd (sp_z_t h_56) (fun z => sp_m3_b z rfl)
          · have hZ : sp_m3 1 0 1 ≠ 0 := sp_z_f h_56
            refine lv_iconst (v := nI 0) G.1 G.2.1 dX1_add_59 (by decide) ?_
            have hth : sp_m3 1 0 1 = sk_add N S (nI j1) (nI j2) := by
              unfold sk_add
              rw [show sA_add N S (nI j1) (nI j2) = true from by simp [sA_add, hT_5, hT_13, h_34, h_45, hg1, hg2] <;> omega]
              rw [show sC_add N S (nI j1) (nI j2) = false from by simp [sC_add, hT_5, hT_13, h_34, h_45, hg1, hg2] <;> omega]
              rfl
            exact W.iret G.1 G.2.1 G.2.2.1 (fun t ht hW => gQm_of hX hS ht ⟨hth, fun h => absurd (hth.trans h) hZ, (if_neg (fun h => hZ (hth.trans h))).symm, (if_neg (fun h => hZ (hth.trans h))).symm⟩) hS.2.2 dX1_add_60 G.2.2.2.2.2.2
        · refine lv_iconst (v := nI 1) G.1 G.2.1 dX1_add_48 (by decide) ?_
          refine lv_goto (tgt := 53) G.1 G.2.1 dX1_add_49 (by decide) ?_
          refine gm_mut (N' := N) (S' := S) (th' := (sp_m3 1 1 1)) (r := (nI (sp_z (sp_m3 1 1 1)))) (As := [.int (nI 1), .int (nI 1)]) (rest := []) G.fix (mX1_mayBoth l D q cI cZ N S fv th A 1 1 (by first | decide | exact gbn_lt _) (by first | decide | exact gbn_lt _)) (cwV 2 G.2.2.2.2.2.1 gX1_add_X1_mayBoth rfl rfl rfl (by decide +kernel) ⟨Nat.le_of_ble_eq_true rfl, Nat.le_of_ble_eq_true rfl⟩) hX hS rfl hl.1 rfl (Nat.le_of_ble_eq_true rfl) dX1_add_53 (Nat.zero_le _) (Nat.zero_le _) (fun fv H1 locs1 hX hS => ?_)
          refine gn_nez G (by exact sp_z_lt _) (tgt := 61) dX1_add_56 (by decide) (fun h_56 => ?_) (fun h_56 => ?_)
          · have hZ : sp_m3 1 1 1 = 0 := sp_z_t h_56
            refine lv_aload_n G.1 G.2.1 dX1_add_61 rfl (lv_at hl 1 rfl) ?_
            refine gm_get G hX (by decide +kernel) 7 (by decide) (by decide +kernel) rfl rfl rfl dX1_add_62 ?_
            refine lv_bipush (v := nI 6) G.1 G.2.1 dX1_add_65 (by decide) ?_
            refine lv_iload_n G.1 G.2.1 dX1_add_67 rfl (lv_at hl 2 rfl) ?_
            refine gn_imul G dX1_add_68 ?_
            refine lv_aload_n G.1 G.2.1 dX1_add_69 rfl (lv_at hl 1 rfl) ?_
            refine gm_get G hX (by decide +kernel) 6 (by decide) (by decide +kernel) rfl rfl rfl dX1_add_70 ?_
            refine lv_iload_n G.1 G.2.1 dX1_add_73 rfl (lv_at hl 2 rfl) ?_
            refine gm_ald (k := 6) (kp := 5) (len := 6) (F := S 7) G hX rfl (by first | omega | assumption) (by decide) dX1_add_74 ?_
            refine gn_iadd G dX1_add_75 ?_
            refine lv_iload_n G.1 G.2.1 dX1_add_76 rfl (lv_at hl 3 rfl) ?_
            refine gm_ast (k := 7) (kp := 6) (len := 36) (F := S 6) (i := (6 * j1) + (S 7 j1)) (v := j2) (S' := (gs S 6 (gu (S 6) ((j1 * 6) + (S 7 j1)) j2))) (fv' := fv) G hX hS rfl (by rw [show (6 * j1) + (S 7 j1) = (j1 * 6) + (S 7 j1) from by omega]; rfl) (by first | omega | assumption) (by decide) dX1_add_77 (fun H1 locs1 hX hS => ?_)
            refine lv_aload_n G.1 G.2.1 dX1_add_78 rfl (lv_at hl 1 rfl) ?_
            refine gm_get G hX (by decide +kernel) 6 (by decide) (by decide +kernel) rfl rfl rfl dX1_add_79 ?_
            refine lv_iload_n G.1 G.2.1 dX1_add_82 rfl (lv_at hl 2 rfl) ?_
            refine lv_dup2_11 G.1 G.2.1 dX1_add_83 rfl rfl ?_
            refine gm_ald (k := 6) (kp := 5) (len := 6) (F := S 7) G hX rfl (by first | omega | assumption) (by decide) dX1_add_84 ?_
            refine lv_iconst (v := nI 1) G.1 G.2.1 dX1_add_85 (by decide) ?_
            refine gn_iadd G dX1_add_86 ?_
            refine gm_ast (k := 6) (kp := 5) (len := 6) (F := S 7) (i := j1) (v := (S 7 j1) + 1) (S' := (gs (gs S 6 (gu (S 6) ((j1 * 6) + (S 7 j1)) j2)) 7 (gu (S 7) j1 ((S 7 j1) + 1)))) (fv' := fv) G hX hS rfl (rfl) (by first | omega | assumption) (by decide) dX1_add_87 (fun H1 locs1 hX hS => ?_)
            refine lv_aload_n G.1 G.2.1 dX1_add_88 rfl (lv_at hl 1 rfl) ?_
            refine gm_get G hX (by decide +kernel) 6 (by decide) (by decide +kernel) rfl rfl rfl dX1_add_89 ?_
            refine lv_iload_n G.1 G.2.1 dX1_add_92 rfl (lv_at hl 2 rfl) ?_
            refine gm_ald (k := 6) (kp := 5) (len := 6) (F := (gu (S 7) j1 ((S 7 j1) + 1))) G hX rfl (by first | omega | assumption) (by decide) dX1_add_93 ?_
            rw [gu_same]
            have hth : sp_m3 1 1 1 = sk_add N S (nI j1) (nI j2) := by
              unfold sk_add
              rw [show sA_add N S (nI j1) (nI j2) = true from by simp [sA_add, hT_5, hT_13, h_34, h_45, hg1, hg2] <;> omega]
              rw [show sC_add N S (nI j1) (nI j2) = true from by simp [sC_add, hT_5, hT_13, h_34, h_45, hg1, hg2] <;> omega]
              exact sp_m3_gk (true) (true) (true)
            have hsk : sk_add N S (nI j1) (nI j2) = 0 := hth.symm.trans hZ
            exact W.iret G.1 G.2.1 G.2.2.1 (fun t ht hW => gQm_of hX hS ht ⟨hth, fun _ => (by show nI _ = nI _; simp only [sR_add, hg1, hg2]), (by rw [if_pos hsk]; simp only [sN_add, hg1, hg2]), (by rw [if_pos hsk]; simp only [sS_add, hg1, hg2])⟩) hS.2.2 dX1_add_94 G.2.2.2.2.2.2
          · have hZ : sp_m3 1 1 1 ≠ 0 := sp_z_f h_56
            refine lv_iconst (v := nI 0) G.1 G.2.1 dX1_add_59 (by decide) ?_
            have hth : sp_m3 1 1 1 = sk_add N S (nI j1) (nI j2) := by
              unfold sk_add
              rw [show sA_add N S (nI j1) (nI j2) = true from by simp [sA_add, hT_5, hT_13, h_34, h_45, hg1, hg2] <;> omega]
              rw [show sC_add N S (nI j1) (nI j2) = true from by simp [sC_add, hT_5, hT_13, h_34, h_45, hg1, hg2] <;> omega]
              exact sp_m3_gk (true) (true) (true)
            exact W.iret G.1 G.2.1 G.2.2.1 (fun t ht hW => gQm_of hX hS ht ⟨hth, fun h => absurd (hth.trans h) hZ, (if_neg (fun h => hZ (hth.trans h))).symm, (if_neg (fun h => hZ (hth.trans h))).symm⟩) hS.2.2 dX1_add_60 G.2.2.2.2.2.2
set_option maxRecDepth 100000 in
set_option maxHeartbeats 4000000 in
/-- drop -/
theorem mX1_drop (l : Launch) (D : va_G) (q : Nat → Nat) (cI cZ : ClassId) (N : Nat → Nat) (S : Nat → Nat → Nat) (fv : Nat → Nat) (th : Nat) (A : Nat → Prop) (hok : sp_ok N S) (hinv : sp_inv N S) (i1 : Int32) : Met l yX1_drop wsX1_drop { frames := 2, cells := 0, slots := 0, locals := 43 } (va_Pc [.ref (q 0), .int i1] (fun U => mAt D q cI cZ N S fv th A U U.heap)) (gQm D q cI cZ (fun r N2 S2 th2 => th2 = sk_drop N S i1 ∧ (sk_drop N S i1 = 0 → r = nI (sR_drop N S i1)) ∧ N2 = (if sk_drop N S i1 = 0 then sN_drop N S i1 else N) ∧ S2 = (if sk_drop N S i1 = 0 then sS_drop N S i1 else S)) A) 0 0 A := by
  refine gc_met [.ref (q 0), .int i1] (by decide) rfl (Nat.le_of_ble_eq_true rfl) rfl ?_
  intro p e s m below meth c ls G hl hX
  have hS : va_S A s.heap s.heap [] := va_S.rf
  have hok9 := hok
  obtain ⟨⟨ok0, ok5⟩, ok1, ok2, ok3, ok4, ok6, ok7, ok8, ok12, ok13, ok14⟩ := hok9
  refine lv_aload_n G.1 G.2.1 dX1_drop_0 rfl (lv_at hl 0 rfl) ?_
  refine lv_iload_n G.1 G.2.1 dX1_drop_1 rfl (lv_at hl 1 rfl) ?_
  refine gc_v (As := [.int i1]) (rest := []) G.fix (mX1_isChain l D q cI cZ N S fv th A hok i1) (cwV 1 G.2.2.2.2.2.1 gX1_drop_X1_isChain rfl rfl rfl (by decide +kernel) ⟨Nat.le_of_ble_eq_true rfl, Nat.le_of_ble_eq_true rfl⟩) mAt_blind (va_recv hX.2.1 hX.1 (ci := 1) (q0 := 0) rfl rfl) (fun U hU hW => by rw [hU]; exact hX.moved hW) rfl hl.1 rfl (Nat.le_of_ble_eq_true rfl) dX1_drop_2 (Nat.zero_le _) (Nat.zero_le _) (fun r hr => ?_)
  subst hr
  refine lv_istore_n (lv' := [(2, .int (nI (gbn (gb i1 (N 5))))), (0, .ref (q 0)), (1, .int i1)]) G.1 G.2.1 dX1_drop_5 rfl hl (by decide) rfl (fun ls hl => ?_)
  refine lv_aload_n G.1 G.2.1 dX1_drop_6 rfl (lv_at hl 1 rfl) ?_
  refine lv_iload_n G.1 G.2.1 dX1_drop_7 rfl (lv_at hl 0 rfl) ?_
  refine lv_iload_n G.1 G.2.1 dX1_drop_8 rfl (lv_at hl 0 rfl) ?_
  refine gn_eqz G (by exact gbn_lt _) (tgt := 34) dX1_drop_9 (by decide) (fun h_9 => ?_) (fun h_9 => ?_)
  · have hF_9 : gb i1 (N 5) = false := gbn_f h_9
    refine lv_iconst (v := nI 0) G.1 G.2.1 dX1_drop_34 (by decide) ?_
    refine gm_mut (N' := N) (S' := S) (th' := (sp_m3 (gbn (gb i1 (N 5))) 0 1)) (r := (nI (sp_z (sp_m3 (gbn (gb i1 (N 5))) 0 1)))) (As := [.int (nI (gbn (gb i1 (N 5)))), .int (nI 0)]) (rest := []) G.fix (mX1_mayBoth l D q cI cZ N S fv th A (gbn (gb i1 (N 5))) 0 (by first | decide | exact gbn_lt _) (by first | decide | exact gbn_lt _)) (cwV 2 G.2.2.2.2.2.1 gX1_drop_X1_mayBoth rfl rfl rfl (by decide +kernel) ⟨Nat.le_of_ble_eq_true rfl, Nat.le_of_ble_eq_true rfl⟩) hX hS rfl hl.1 rfl (Nat.le_of_ble_eq_true rfl) dX1_drop_35 (Nat.zero_le _) (Nat.zero_le _) (fun fv H1 locs1 hX hS => ?_)
    refine gn_nez G (by exact sp_z_lt _) (tgt := 43) dX1_drop_38 (by decide) (fun h_38 => ?_) (fun h_38 => ?_)
    · exact absurd (sp_z_t h_38) (fun z => sp_m3_b z rfl)
    · have hZ : sp_m3 (gbn (gb i1 (N 5))) 0 1 ≠ 0 := sp_z_f h_38
      refine lv_iconst (v := nI 0) G.1 G.2.1 dX1_drop_41 (by decide) ?_
      have hth : sp_m3 (gbn (gb i1 (N 5))) 0 1 = sk_drop N S i1 := by
        unfold sk_drop
        rw [hF_9]
        rw [show sA_drop N S i1 = false from by simp [sA_drop, hF_9] <;> omega]
        rfl
      exact W.iret G.1 G.2.1 G.2.2.1 (fun t ht hW => gQm_of hX hS ht ⟨hth, fun h => absurd (hth.trans h) hZ, (if_neg (fun h => hZ (hth.trans h))).symm, (if_neg (fun h => hZ (hth.trans h))).symm⟩) hS.2.2 dX1_drop_42 G.2.2.2.2.2.2
  · have hT_9 : gb i1 (N 5) = true := gbn_t h_9
    obtain ⟨j1, hj1, rfl⟩ := gb_of (by omega) hT_9
    have hg1 := gn_nI (show j1 < 2 ^ 31 by omega)
    refine lv_aload_n G.1 G.2.1 dX1_drop_12 rfl (lv_at hl 1 rfl) ?_
    refine gm_get G hX (by decide +kernel) 9 (by decide) (by decide +kernel) rfl rfl rfl dX1_drop_13 ?_
    refine lv_iload_n G.1 G.2.1 dX1_drop_16 rfl (lv_at hl 2 rfl) ?_
    refine gm_zld (k := 9) (kp := 8) (len := 6) (F := S 10) G hX rfl (by first | omega | assumption) (by decide) dX1_drop_17 ?_
    rw [show S 10 j1 = sp_bit (N 10) j1 from (hinv.2.2.2.2.2.1 _ (by omega)).2]
    refine gn_nez G (by exact sp_b31 _ _) (tgt := 34) dX1_drop_18 (by decide) (fun h_18 => ?_) (fun h_18 => ?_)
    · have hu_18 := h_18
      refine lv_iconst (v := nI 0) G.1 G.2.1 dX1_drop_34 (by decide) ?_
      refine gm_mut (N' := N) (S' := S) (th' := (sp_m3 (gbn (gb (nI j1) (N 5))) 0 1)) (r := (nI (sp_z (sp_m3 (gbn (gb (nI j1) (N 5))) 0 1)))) (As := [.int (nI (gbn (gb (nI j1) (N 5)))), .int (nI 0)]) (rest := []) G.fix (mX1_mayBoth l D q cI cZ N S fv th A (gbn (gb (nI j1) (N 5))) 0 (by first | decide | exact gbn_lt _) (by first | decide | exact gbn_lt _)) (cwV 2 G.2.2.2.2.2.1 gX1_drop_X1_mayBoth rfl rfl rfl (by decide +kernel) ⟨Nat.le_of_ble_eq_true rfl, Nat.le_of_ble_eq_true rfl⟩) hX hS rfl hl.1 rfl (Nat.le_of_ble_eq_true rfl) dX1_drop_35 (Nat.zero_le _) (Nat.zero_le _) (fun fv H1 locs1 hX hS => ?_)
      refine gn_nez G (by exact sp_z_lt _) (tgt := 43) dX1_drop_38 (by decide) (fun h_38 => ?_) (fun h_38 => ?_)
      · exact absurd (sp_z_t h_38) (fun z => sp_m3_b z rfl)
      · have hZ : sp_m3 (gbn (gb (nI j1) (N 5))) 0 1 ≠ 0 := sp_z_f h_38
        refine lv_iconst (v := nI 0) G.1 G.2.1 dX1_drop_41 (by decide) ?_
        have hth : sp_m3 (gbn (gb (nI j1) (N 5))) 0 1 = sk_drop N S (nI j1) := by
          unfold sk_drop
          rw [hT_9]
          rw [show sA_drop N S (nI j1) = true from by simp [sA_drop, hT_9, h_18, hg1] <;> omega]
          rw [show sC_drop N S (nI j1) = false from by simp [sC_drop, hT_9, h_18, hg1] <;> omega]
          rfl
        exact W.iret G.1 G.2.1 G.2.2.1 (fun t ht hW => gQm_of hX hS ht ⟨hth, fun h => absurd (hth.trans h) hZ, (if_neg (fun h => hZ (hth.trans h))).symm, (if_neg (fun h => hZ (hth.trans h))).symm⟩) hS.2.2 dX1_drop_42 G.2.2.2.2.2.2
    · have hu_18 := h_18
      have hl6 := ok7 j1
      refine lv_aload_n G.1 G.2.1 dX1_drop_21 rfl (lv_at hl 1 rfl) ?_
      refine gm_get G hX (by decide +kernel) 6 (by decide) (by decide +kernel) rfl rfl rfl dX1_drop_22 ?_
      refine lv_iload_n G.1 G.2.1 dX1_drop_25 rfl (lv_at hl 2 rfl) ?_
      refine gm_ald (k := 6) (kp := 5) (len := 6) (F := S 7) G hX rfl (by first | omega | assumption) (by decide) dX1_drop_26 ?_
      refine gn_lez G (by omega) (tgt := 34) dX1_drop_27 (by decide) (fun h_27 => ?_) (fun h_27 => ?_)
      · refine lv_iconst (v := nI 0) G.1 G.2.1 dX1_drop_34 (by decide) ?_
        refine gm_mut (N' := N) (S' := S) (th' := (sp_m3 (gbn (gb (nI j1) (N 5))) 0 1)) (r := (nI (sp_z (sp_m3 (gbn (gb (nI j1) (N 5))) 0 1)))) (As := [.int (nI (gbn (gb (nI j1) (N 5)))), .int (nI 0)]) (rest := []) G.fix (mX1_mayBoth l D q cI cZ N S fv th A (gbn (gb (nI j1) (N 5))) 0 (by first | decide | exact gbn_lt _) (by first | decide | exact gbn_lt _)) (cwV 2 G.2.2.2.2.2.1 gX1_drop_X1_mayBoth rfl rfl rfl (by decide +kernel) ⟨Nat.le_of_ble_eq_true rfl, Nat.le_of_ble_eq_true rfl⟩) hX hS rfl hl.1 rfl (Nat.le_of_ble_eq_true rfl) dX1_drop_35 (Nat.zero_le _) (Nat.zero_le _) (fun fv H1 locs1 hX hS => ?_)
        refine gn_nez G (by exact sp_z_lt _) (tgt := 43) dX1_drop_38 (by decide) (fun h_38 => ?_) (fun h_38 => ?_)
        · exact absurd (sp_z_t h_38) (fun z => sp_m3_b z rfl)
        · have hZ : sp_m3 (gbn (gb (nI j1) (N 5))) 0 1 ≠ 0 := sp_z_f h_38
          refine lv_iconst (v := nI 0) G.1 G.2.1 dX1_drop_41 (by decide) ?_
          have hth : sp_m3 (gbn (gb (nI j1) (N 5))) 0 1 = sk_drop N S (nI j1) := by
            unfold sk_drop
            rw [hT_9]
            rw [show sA_drop N S (nI j1) = true from by simp [sA_drop, hT_9, h_18, h_27, hg1] <;> omega]
            rw [show sC_drop N S (nI j1) = false from by simp [sC_drop, hT_9, h_18, h_27, hg1] <;> omega]
            rfl
          exact W.iret G.1 G.2.1 G.2.2.1 (fun t ht hW => gQm_of hX hS ht ⟨hth, fun h => absurd (hth.trans h) hZ, (if_neg (fun h => hZ (hth.trans h))).symm, (if_neg (fun h => hZ (hth.trans h))).symm⟩) hS.2.2 dX1_drop_42 G.2.2.2.2.2.2
      · refine lv_iconst (v := nI 1) G.1 G.2.1 dX1_drop_30 (by decide) ?_
        refine lv_goto (tgt := 35) G.1 G.2.1 dX1_drop_31 (by decide) ?_
        refine gm_mut (N' := N) (S' := S) (th' := (sp_m3 (gbn (gb (nI j1) (N 5))) 1 1)) (r := (nI (sp_z (sp_m3 (gbn (gb (nI j1) (N 5))) 1 1)))) (As := [.int (nI (gbn (gb (nI j1) (N 5)))), .int (nI 1)]) (rest := []) G.fix (mX1_mayBoth l D q cI cZ N S fv th A (gbn (gb (nI j1) (N 5))) 1 (by first | decide | exact gbn_lt _) (by first | decide | exact gbn_lt _)) (cwV 2 G.2.2.2.2.2.1 gX1_drop_X1_mayBoth rfl rfl rfl (by decide +kernel) ⟨Nat.le_of_ble_eq_true rfl, Nat.le_of_ble_eq_true rfl⟩) hX hS rfl hl.1 rfl (Nat.le_of_ble_eq_true rfl) dX1_drop_35 (Nat.zero_le _) (Nat.zero_le _) (fun fv H1 locs1 hX hS => ?_)
        refine gn_nez G (by exact sp_z_lt _) (tgt := 43) dX1_drop_38 (by decide) (fun h_38 => ?_) (fun h_38 => ?_)
        · have hZ : sp_m3 (gbn (gb (nI j1) (N 5))) 1 1 = 0 := sp_z_t h_38
          refine lv_aload_n G.1 G.2.1 dX1_drop_43 rfl (lv_at hl 1 rfl) ?_
          refine gm_get G hX (by decide +kernel) 6 (by decide) (by decide +kernel) rfl rfl rfl dX1_drop_44 ?_
          refine lv_iload_n G.1 G.2.1 dX1_drop_47 rfl (lv_at hl 2 rfl) ?_
          refine lv_dup2_11 G.1 G.2.1 dX1_drop_48 rfl rfl ?_
          refine gm_ald (k := 6) (kp := 5) (len := 6) (F := S 7) G hX rfl (by first | omega | assumption) (by decide) dX1_drop_49 ?_
          refine lv_iconst (v := nI 1) G.1 G.2.1 dX1_drop_50 (by decide) ?_
          refine gn_isub G dX1_drop_51 (by first | omega | assumption) ?_
          refine gm_ast (k := 6) (kp := 5) (len := 6) (F := S 7) (i := j1) (v := (S 7 j1) - 1) (S' := (gs S 7 (gu (S 7) j1 ((S 7 j1) - 1)))) (fv' := fv) G hX hS rfl (rfl) (by first | omega | assumption) (by decide) dX1_drop_52 (fun H1 locs1 hX hS => ?_)
          refine lv_aload_n G.1 G.2.1 dX1_drop_53 rfl (lv_at hl 1 rfl) ?_
          refine gm_get G hX (by decide +kernel) 7 (by decide) (by decide +kernel) rfl rfl rfl dX1_drop_54 ?_
          refine lv_bipush (v := nI 6) G.1 G.2.1 dX1_drop_57 (by decide) ?_
          refine lv_iload_n G.1 G.2.1 dX1_drop_59 rfl (lv_at hl 2 rfl) ?_
          refine gn_imul G dX1_drop_60 ?_
          refine lv_aload_n G.1 G.2.1 dX1_drop_61 rfl (lv_at hl 1 rfl) ?_
          refine gm_get G hX (by decide +kernel) 6 (by decide) (by decide +kernel) rfl rfl rfl dX1_drop_62 ?_
          refine lv_iload_n G.1 G.2.1 dX1_drop_65 rfl (lv_at hl 2 rfl) ?_
          refine gm_ald (k := 6) (kp := 5) (len := 6) (F := (gu (S 7) j1 ((S 7 j1) - 1))) G hX rfl (by first | omega | assumption) (by decide) dX1_drop_66 ?_
          rw [gu_same]
          refine gn_iadd G dX1_drop_67 ?_
          refine gm_ald (k := 7) (kp := 6) (len := 36) (F := S 6) G hX rfl (by first | omega | assumption) (by decide) dX1_drop_68 ?_
          rw [show (6 * j1) + ((S 7 j1) - 1) = (j1 * 6) + ((S 7 j1) - 1) from by omega]
          have hth : sp_m3 (gbn (gb (nI j1) (N 5))) 1 1 = sk_drop N S (nI j1) := by
            unfold sk_drop
            rw [hT_9]
            rw [show sA_drop N S (nI j1) = true from by simp [sA_drop, hT_9, h_18, h_27, hg1] <;> omega]
            rw [show sC_drop N S (nI j1) = true from by simp [sC_drop, hT_9, h_18, h_27, hg1] <;> omega]
            exact sp_m3_gk (true) (true) (true)
          have hsk : sk_drop N S (nI j1) = 0 := hth.symm.trans hZ
          exact W.iret G.1 G.2.1 G.2.2.1 (fun t ht hW => gQm_of hX hS ht ⟨hth, fun _ => (by show nI _ = nI _; simp only [sR_drop, hg1]; rw [show j1 * 6 + (S 7 j1 - 1) = j1 * 6 + S 7 j1 - 1 from by omega]), (by rw [if_pos hsk]; simp only [sN_drop, hg1]), (by rw [if_pos hsk]; simp only [sS_drop, hg1])⟩) hS.2.2 dX1_drop_69 G.2.2.2.2.2.2
        · have hZ : sp_m3 (gbn (gb (nI j1) (N 5))) 1 1 ≠ 0 := sp_z_f h_38
          refine lv_iconst (v := nI 0) G.1 G.2.1 dX1_drop_41 (by decide) ?_
          have hth : sp_m3 (gbn (gb (nI j1) (N 5))) 1 1 = sk_drop N S (nI j1) := by
            unfold sk_drop
            rw [hT_9]
            rw [show sA_drop N S (nI j1) = true from by simp [sA_drop, hT_9, h_18, h_27, hg1] <;> omega]
            rw [show sC_drop N S (nI j1) = true from by simp [sC_drop, hT_9, h_18, h_27, hg1] <;> omega]
            exact sp_m3_gk (true) (true) (true)
          exact W.iret G.1 G.2.1 G.2.2.1 (fun t ht hW => gQm_of hX hS ht ⟨hth, fun h => absurd (hth.trans h) hZ, (if_neg (fun h => hZ (hth.trans h))).symm, (if_neg (fun h => hZ (hth.trans h))).symm⟩) hS.2.2 dX1_drop_42 G.2.2.2.2.2.2
set_option maxRecDepth 100000 in
set_option maxHeartbeats 4000000 in
/-- through -/
theorem mX1_through (l : Launch) (D : va_G) (q : Nat → Nat) (cI cZ : ClassId) (N : Nat → Nat) (S : Nat → Nat → Nat) (fv : Nat → Nat) (th : Nat) (A : Nat → Prop) (hok : sp_ok N S) (hinv : sp_inv N S) (i1 i2 i3 : Int32) : Met l yX1_through wsX1_through { frames := 5, cells := 0, slots := 0, locals := 119 } (va_Pc [.ref (q 0), .int i1, .int i2, .int i3] (fun U => mAt D q cI cZ N S fv th A U U.heap)) (gQm D q cI cZ (fun r N2 S2 th2 => th2 = sk_through N S i1 i2 i3 ∧ (sk_through N S i1 i2 i3 = 0 → r = nI (sR_through N S i1 i2 i3)) ∧ N2 = (if sk_through N S i1 i2 i3 = 0 then sN_through N S i1 i2 i3 else N) ∧ S2 = (if sk_through N S i1 i2 i3 = 0 then sS_through N S i1 i2 i3 else S)) A) 0 0 A := by
  refine gc_met [.ref (q 0), .int i1, .int i2, .int i3] (by decide) rfl (Nat.le_of_ble_eq_true rfl) rfl ?_
  intro p e s m below meth c ls G hl hX
  have hS : va_S A s.heap s.heap [] := va_S.rf
  have hok9 := hok
  obtain ⟨⟨ok0, ok5⟩, ok1, ok2, ok3, ok4, ok6, ok7, ok8, ok12, ok13, ok14⟩ := hok9
  refine lv_aload_n G.1 G.2.1 dX1_through_0 rfl (lv_at hl 0 rfl) ?_
  refine lv_aload_n G.1 G.2.1 dX1_through_1 rfl (lv_at hl 0 rfl) ?_
  refine lv_iload_n G.1 G.2.1 dX1_through_2 rfl (lv_at hl 1 rfl) ?_
  refine gc_v (As := [.int i1]) (rest := [.ref (q 0)]) G.fix (mX1_isChain l D q cI cZ N S fv th A hok i1) (cwV 1 G.2.2.2.2.2.1 gX1_through_X1_isChain rfl rfl rfl (by decide +kernel) ⟨Nat.le_of_ble_eq_true rfl, Nat.le_of_ble_eq_true rfl⟩) mAt_blind (va_recv hX.2.1 hX.1 (ci := 1) (q0 := 0) rfl rfl) (fun U hU hW => by rw [hU]; exact hX.moved hW) rfl hl.1 rfl (Nat.le_of_ble_eq_true rfl) dX1_through_3 (Nat.zero_le _) (Nat.zero_le _) (fun r hr => ?_)
  subst hr
  refine gn_eqz G (by exact gbn_lt _) (tgt := 20) dX1_through_6 (by decide) (fun h_6 => ?_) (fun h_6 => ?_)
  · have hF_6 : gb i1 (N 5) = false := gbn_f h_6
    refine lv_iconst (v := nI 0) G.1 G.2.1 dX1_through_20 (by decide) ?_
    refine lv_iload_n G.1 G.2.1 dX1_through_21 rfl (lv_at hl 3 rfl) ?_
    refine gc_s (As := [.int i3]) (rest := [.int (nI 0), .ref (q 0)]) G.fix (mX1_isByte l i3) (va_cwS 1 G.2.2.2.2.2.1 gX1_through_X1_isByte rfl rfl rfl (by decide +kernel) ⟨Nat.le_of_ble_eq_true rfl, Nat.le_of_ble_eq_true rfl⟩) gc_blindT (fun _ _ _ => trivial) rfl hl.1 rfl (Nat.le_of_ble_eq_true rfl) dX1_through_22 (Nat.zero_le _) (Nat.zero_le _) (fun r hr => ?_)
    subst hr
    refine gm_mut (N' := N) (S' := S) (th' := (sp_m3 0 (gbn (gb i3 256)) 1)) (r := (nI (sp_z (sp_m3 0 (gbn (gb i3 256)) 1)))) (As := [.int (nI 0), .int (nI (gbn (gb i3 256)))]) (rest := []) G.fix (mX1_mayBoth l D q cI cZ N S fv th A 0 (gbn (gb i3 256)) (by first | decide | exact gbn_lt _) (by first | decide | exact gbn_lt _)) (cwV 2 G.2.2.2.2.2.1 gX1_through_X1_mayBoth rfl rfl rfl (by decide +kernel) ⟨Nat.le_of_ble_eq_true rfl, Nat.le_of_ble_eq_true rfl⟩) hX hS rfl hl.1 rfl (Nat.le_of_ble_eq_true rfl) dX1_through_25 (Nat.zero_le _) (Nat.zero_le _) (fun fv H1 locs1 hX hS => ?_)
    refine gn_eqz G (by exact sp_z_lt _) (tgt := 41) dX1_through_28 (by decide) (fun h_28 => ?_) (fun h_28 => ?_)
    · have hZ : sp_m3 0 (gbn (gb i3 256)) 1 ≠ 0 := sp_z_f h_28
      refine lv_iconst (v := nI 0) G.1 G.2.1 dX1_through_41 (by decide) ?_
      have hth : sp_m3 0 (gbn (gb i3 256)) 1 = sk_through N S i1 i2 i3 := by
        unfold sk_through
        rw [show sA_through N S i1 i2 i3 = false from by simp [sA_through, hF_6] <;> omega]
        rfl
      exact W.iret G.1 G.2.1 G.2.2.1 (fun t ht hW => gQm_of hX hS ht ⟨hth, fun h => absurd (hth.trans h) hZ, (if_neg (fun h => hZ (hth.trans h))).symm, (if_neg (fun h => hZ (hth.trans h))).symm⟩) hS.2.2 dX1_through_42 G.2.2.2.2.2.2
    · exact absurd (sp_z_t h_28) (fun z => sp_m3_a z rfl)
  · have hT_6 : gb i1 (N 5) = true := gbn_t h_6
    obtain ⟨j1, hj1, rfl⟩ := gb_of (by omega) hT_6
    have hg1 := gn_nI (show j1 < 2 ^ 31 by omega)
    refine lv_iload_n G.1 G.2.1 dX1_through_9 rfl (lv_at hl 2 rfl) ?_
    refine gc_s (As := [.int i2]) (rest := [.ref (q 0)]) G.fix (mX1_isThird l i2) (va_cwS 1 G.2.2.2.2.2.1 gX1_through_X1_isThird rfl rfl rfl (by decide +kernel) ⟨Nat.le_of_ble_eq_true rfl, Nat.le_of_ble_eq_true rfl⟩) gc_blindT (fun _ _ _ => trivial) rfl hl.1 rfl (Nat.le_of_ble_eq_true rfl) dX1_through_10 (Nat.zero_le _) (Nat.zero_le _) (fun r hr => ?_)
    subst hr
    refine gn_eqz G (by exact gbn_lt _) (tgt := 20) dX1_through_13 (by decide) (fun h_13 => ?_) (fun h_13 => ?_)
    · have hF_13 : gb i2 3 = false := gbn_f h_13
      refine lv_iconst (v := nI 0) G.1 G.2.1 dX1_through_20 (by decide) ?_
      refine lv_iload_n G.1 G.2.1 dX1_through_21 rfl (lv_at hl 3 rfl) ?_
      refine gc_s (As := [.int i3]) (rest := [.int (nI 0), .ref (q 0)]) G.fix (mX1_isByte l i3) (va_cwS 1 G.2.2.2.2.2.1 gX1_through_X1_isByte rfl rfl rfl (by decide +kernel) ⟨Nat.le_of_ble_eq_true rfl, Nat.le_of_ble_eq_true rfl⟩) gc_blindT (fun _ _ _ => trivial) rfl hl.1 rfl (Nat.le_of_ble_eq_true rfl) dX1_through_22 (Nat.zero_le _) (Nat.zero_le _) (fun r hr => ?_)
      subst hr
      refine gm_mut (N' := N) (S' := S) (th' := (sp_m3 0 (gbn (gb i3 256)) 1)) (r := (nI (sp_z (sp_m3 0 (gbn (gb i3 256)) 1)))) (As := [.int (nI 0), .int (nI (gbn (gb i3 256)))]) (rest := []) G.fix (mX1_mayBoth l D q cI cZ N S fv th A 0 (gbn (gb i3 256)) (by first | decide | exact gbn_lt _) (by first | decide | exact gbn_lt _)) (cwV 2 G.2.2.2.2.2.1 gX1_through_X1_mayBoth rfl rfl rfl (by decide +kernel) ⟨Nat.le_of_ble_eq_true rfl, Nat.le_of_ble_eq_true rfl⟩) hX hS rfl hl.1 rfl (Nat.le_of_ble_eq_true rfl) dX1_through_25 (Nat.zero_le _) (Nat.zero_le _) (fun fv H1 locs1 hX hS => ?_)
      refine gn_eqz G (by exact sp_z_lt _) (tgt := 41) dX1_through_28 (by decide) (fun h_28 => ?_) (fun h_28 => ?_)
      · have hZ : sp_m3 0 (gbn (gb i3 256)) 1 ≠ 0 := sp_z_f h_28
        refine lv_iconst (v := nI 0) G.1 G.2.1 dX1_through_41 (by decide) ?_
        have hth : sp_m3 0 (gbn (gb i3 256)) 1 = sk_through N S (nI j1) i2 i3 := by
          unfold sk_through
          rw [show sA_through N S (nI j1) i2 i3 = false from by simp [sA_through, hT_6, hF_13, hg1] <;> omega]
          rfl
        exact W.iret G.1 G.2.1 G.2.2.1 (fun t ht hW => gQm_of hX hS ht ⟨hth, fun h => absurd (hth.trans h) hZ, (if_neg (fun h => hZ (hth.trans h))).symm, (if_neg (fun h => hZ (hth.trans h))).symm⟩) hS.2.2 dX1_through_42 G.2.2.2.2.2.2
      · exact absurd (sp_z_t h_28) (fun z => sp_m3_a z rfl)
    · have hT_13 : gb i2 3 = true := gbn_t h_13
      obtain ⟨j2, hj2, rfl⟩ := gb_of (by omega) hT_13
      have hg2 := gn_nI (show j2 < 2 ^ 31 by omega)
      refine lv_iconst (v := nI 1) G.1 G.2.1 dX1_through_16 (by decide) ?_
      refine lv_goto (tgt := 21) G.1 G.2.1 dX1_through_17 (by decide) ?_
      refine lv_iload_n G.1 G.2.1 dX1_through_21 rfl (lv_at hl 3 rfl) ?_
      refine gc_s (As := [.int i3]) (rest := [.int (nI 1), .ref (q 0)]) G.fix (mX1_isByte l i3) (va_cwS 1 G.2.2.2.2.2.1 gX1_through_X1_isByte rfl rfl rfl (by decide +kernel) ⟨Nat.le_of_ble_eq_true rfl, Nat.le_of_ble_eq_true rfl⟩) gc_blindT (fun _ _ _ => trivial) rfl hl.1 rfl (Nat.le_of_ble_eq_true rfl) dX1_through_22 (Nat.zero_le _) (Nat.zero_le _) (fun r hr => ?_)
      subst hr
      refine gm_mut (N' := N) (S' := S) (th' := (sp_m3 1 (gbn (gb i3 256)) 1)) (r := (nI (sp_z (sp_m3 1 (gbn (gb i3 256)) 1)))) (As := [.int (nI 1), .int (nI (gbn (gb i3 256)))]) (rest := []) G.fix (mX1_mayBoth l D q cI cZ N S fv th A 1 (gbn (gb i3 256)) (by first | decide | exact gbn_lt _) (by first | decide | exact gbn_lt _)) (cwV 2 G.2.2.2.2.2.1 gX1_through_X1_mayBoth rfl rfl rfl (by decide +kernel) ⟨Nat.le_of_ble_eq_true rfl, Nat.le_of_ble_eq_true rfl⟩) hX hS rfl hl.1 rfl (Nat.le_of_ble_eq_true rfl) dX1_through_25 (Nat.zero_le _) (Nat.zero_le _) (fun fv H1 locs1 hX hS => ?_)
      refine gn_eqz G (by exact sp_z_lt _) (tgt := 41) dX1_through_28 (by decide) (fun h_28 => ?_) (fun h_28 => ?_)
      · have hZ : sp_m3 1 (gbn (gb i3 256)) 1 ≠ 0 := sp_z_f h_28
        refine lv_iconst (v := nI 0) G.1 G.2.1 dX1_through_41 (by decide) ?_
        have hth : sp_m3 1 (gbn (gb i3 256)) 1 = sk_through N S (nI j1) (nI j2) i3 := by
          unfold sk_through
          rw [show sA_through N S (nI j1) (nI j2) i3 = true from by simp [sA_through, hT_6, hT_13, hg1, hg2] <;> omega]
          exact sp_m3_gk (true) (gb i3 256) (true)
        exact W.iret G.1 G.2.1 G.2.2.1 (fun t ht hW => gQm_of hX hS ht ⟨hth, fun h => absurd (hth.trans h) hZ, (if_neg (fun h => hZ (hth.trans h))).symm, (if_neg (fun h => hZ (hth.trans h))).symm⟩) hS.2.2 dX1_through_42 G.2.2.2.2.2.2
      · have hZ : sp_m3 1 (gbn (gb i3 256)) 1 = 0 := sp_z_t h_28
        have hTb_28 : gb i3 256 = true := gbn_t (sp_m3_b hZ)
        obtain ⟨j3, hj3, rfl⟩ := gb_of (by omega) hTb_28
        have hg3 := gn_nI (show j3 < 2 ^ 31 by omega)
        refine lv_aload_n G.1 G.2.1 dX1_through_31 rfl (lv_at hl 0 rfl) ?_
        refine lv_iload_n G.1 G.2.1 dX1_through_32 rfl (lv_at hl 1 rfl) ?_
        refine lv_iload_n G.1 G.2.1 dX1_through_33 rfl (lv_at hl 2 rfl) ?_
        refine lv_iload_n G.1 G.2.1 dX1_through_34 rfl (lv_at hl 3 rfl) ?_
        refine gm_mut (N' := N) (S' := S) (th' := (sp_m3 1 (gbn (gb (nI j3) 256)) 1)) (r := (nI (sp_pass S j1 j2 j3))) (As := [.int (nI j1), .int (nI j2), .int (nI j3)]) (rest := []) G.fix (mX1_throughOf l D q cI cZ N S fv (sp_m3 1 (gbn (gb (nI j3) 256)) 1) A hok j1 j2 j3 (by first | omega | assumption | exact ok6 _ | apply hq) (by first | omega | assumption | exact ok6 _ | apply hq) (by first | omega | assumption | exact ok6 _ | apply hq)) (cwV 3 G.2.2.2.2.2.1 gX1_through_X1_throughOf rfl rfl rfl (by decide +kernel) ⟨Nat.le_of_ble_eq_true rfl, Nat.le_of_ble_eq_true rfl⟩) hX hS rfl hl.1 rfl (Nat.le_of_ble_eq_true rfl) dX1_through_35 (Nat.zero_le _) (Nat.zero_le _) (fun fv H1 locs1 hX hS => ?_)
        refine lv_goto (tgt := 42) G.1 G.2.1 dX1_through_38 (by decide) ?_
        have hth : sp_m3 1 (gbn (gb (nI j3) 256)) 1 = sk_through N S (nI j1) (nI j2) (nI j3) := by
          unfold sk_through
          rw [show sA_through N S (nI j1) (nI j2) (nI j3) = true from by simp [sA_through, hT_6, hT_13, hTb_28, hg1, hg2, hg3] <;> omega]
          exact sp_m3_gk (true) (gb (nI j3) 256) (true)
        have hsk : sk_through N S (nI j1) (nI j2) (nI j3) = 0 := hth.symm.trans hZ
        exact W.iret G.1 G.2.1 G.2.2.1 (fun t ht hW => gQm_of hX hS ht ⟨hth, fun _ => (by show nI _ = nI _; simp only [sR_through, hg1, hg2, hg3]), (by rw [if_pos hsk]; simp only [sN_through, hg1, hg2, hg3]), (by rw [if_pos hsk]; simp only [sS_through, hg1, hg2, hg3])⟩) hS.2.2 dX1_through_42 G.2.2.2.2.2.2
set_option maxRecDepth 100000 in
set_option maxHeartbeats 4000000 in
/-- gap -/
theorem mX1_gap (l : Launch) (D : va_G) (q : Nat → Nat) (cI cZ : ClassId) (N : Nat → Nat) (S : Nat → Nat → Nat) (fv : Nat → Nat) (th : Nat) (A : Nat → Prop) (hok : sp_ok N S) (hinv : sp_inv N S) (i1 : Int32) : Met l yX1_gap wsX1_gap { frames := 6, cells := 0, slots := 0, locals := 149 } (va_Pc [.ref (q 0), .int i1] (fun U => mAt D q cI cZ N S fv th A U U.heap)) (gQm D q cI cZ (fun r N2 S2 th2 => th2 = sk_gap N S i1 ∧ (sk_gap N S i1 = 0 → r = nI (sR_gap N S i1)) ∧ N2 = (if sk_gap N S i1 = 0 then sN_gap N S i1 else N) ∧ S2 = (if sk_gap N S i1 = 0 then sS_gap N S i1 else S)) A) 0 0 A := by
  refine gc_met [.ref (q 0), .int i1] (by decide) rfl (Nat.le_of_ble_eq_true rfl) rfl ?_
  intro p e s m below meth c ls G hl hX
  have hS : va_S A s.heap s.heap [] := va_S.rf
  have hok9 := hok
  obtain ⟨⟨ok0, ok5⟩, ok1, ok2, ok3, ok4, ok6, ok7, ok8, ok12, ok13, ok14⟩ := hok9
  refine lv_aload_n G.1 G.2.1 dX1_gap_0 rfl (lv_at hl 0 rfl) ?_
  refine lv_aload_n G.1 G.2.1 dX1_gap_1 rfl (lv_at hl 0 rfl) ?_
  refine lv_iload_n G.1 G.2.1 dX1_gap_2 rfl (lv_at hl 1 rfl) ?_
  refine gc_v (As := [.int i1]) (rest := [.ref (q 0)]) G.fix (mX1_isChain l D q cI cZ N S fv th A hok i1) (cwV 1 G.2.2.2.2.2.1 gX1_gap_X1_isChain rfl rfl rfl (by decide +kernel) ⟨Nat.le_of_ble_eq_true rfl, Nat.le_of_ble_eq_true rfl⟩) mAt_blind (va_recv hX.2.1 hX.1 (ci := 1) (q0 := 0) rfl rfl) (fun U hU hW => by rw [hU]; exact hX.moved hW) rfl hl.1 rfl (Nat.le_of_ble_eq_true rfl) dX1_gap_3 (Nat.zero_le _) (Nat.zero_le _) (fun r hr => ?_)
  subst hr
  refine gm_mut (N' := N) (S' := S) (th' := (sp_m3 (gbn (gb i1 (N 5))) 1 1)) (r := (nI (sp_z (sp_m3 (gbn (gb i1 (N 5))) 1 1)))) (As := [.int (nI (gbn (gb i1 (N 5))))]) (rest := []) G.fix (mX1_may l D q cI cZ N S fv th A (gbn (gb i1 (N 5))) (by first | decide | exact gbn_le _)) (cwV 1 G.2.2.2.2.2.1 gX1_gap_X1_may rfl rfl rfl (by decide +kernel) ⟨Nat.le_of_ble_eq_true rfl, Nat.le_of_ble_eq_true rfl⟩) hX hS rfl hl.1 rfl (Nat.le_of_ble_eq_true rfl) dX1_gap_6 (Nat.zero_le _) (Nat.zero_le _) (fun fv H1 locs1 hX hS => ?_)
  refine gn_eqz G (by exact sp_z_lt _) (tgt := 20) dX1_gap_9 (by decide) (fun h_9 => ?_) (fun h_9 => ?_)
  · have hZ : sp_m3 (gbn (gb i1 (N 5))) 1 1 ≠ 0 := sp_z_f h_9
    refine lv_iconst (v := nI 0) G.1 G.2.1 dX1_gap_20 (by decide) ?_
    have hth : sp_m3 (gbn (gb i1 (N 5))) 1 1 = sk_gap N S i1 := by
      unfold sk_gap
      exact sp_m3_gk (gb i1 (N 5)) (true) (true)
    exact W.iret G.1 G.2.1 G.2.2.1 (fun t ht hW => gQm_of hX hS ht ⟨hth, fun h => absurd (hth.trans h) hZ, (if_neg (fun h => hZ (hth.trans h))).symm, (if_neg (fun h => hZ (hth.trans h))).symm⟩) hS.2.2 dX1_gap_21 G.2.2.2.2.2.2
  · have hZ : sp_m3 (gbn (gb i1 (N 5))) 1 1 = 0 := sp_z_t h_9
    have hTa_9 : gb i1 (N 5) = true := gbn_t (sp_m3_a hZ)
    obtain ⟨j1, hj1, rfl⟩ := gb_of (by omega) hTa_9
    have hg1 := gn_nI (show j1 < 2 ^ 31 by omega)
    refine lv_aload_n G.1 G.2.1 dX1_gap_12 rfl (lv_at hl 0 rfl) ?_
    refine lv_iload_n G.1 G.2.1 dX1_gap_13 rfl (lv_at hl 1 rfl) ?_
    refine gm_mut (N' := N) (S' := S) (th' := (sp_m3 (gbn (gb (nI j1) (N 5))) 1 1)) (r := (nI (sp_gap S j1))) (As := [.int (nI j1)]) (rest := []) G.fix (mX1_gapOf l D q cI cZ N S fv (sp_m3 (gbn (gb (nI j1) (N 5))) 1 1) A hok j1 (by first | omega | assumption | exact ok6 _ | apply hq)) (cwV 1 G.2.2.2.2.2.1 gX1_gap_X1_gapOf rfl rfl rfl (by decide +kernel) ⟨Nat.le_of_ble_eq_true rfl, Nat.le_of_ble_eq_true rfl⟩) hX hS rfl hl.1 rfl (Nat.le_of_ble_eq_true rfl) dX1_gap_14 (Nat.zero_le _) (Nat.zero_le _) (fun fv H1 locs1 hX hS => ?_)
    refine lv_goto (tgt := 21) G.1 G.2.1 dX1_gap_17 (by decide) ?_
    have hth : sp_m3 (gbn (gb (nI j1) (N 5))) 1 1 = sk_gap N S (nI j1) := by
      unfold sk_gap
      exact sp_m3_gk (gb (nI j1) (N 5)) (true) (true)
    have hsk : sk_gap N S (nI j1) = 0 := hth.symm.trans hZ
    exact W.iret G.1 G.2.1 G.2.2.1 (fun t ht hW => gQm_of hX hS ht ⟨hth, fun _ => (by show nI _ = nI _; simp only [sR_gap, hg1]), (by rw [if_pos hsk]; simp only [sN_gap, hg1]), (by rw [if_pos hsk]; simp only [sS_gap, hg1])⟩) hS.2.2 dX1_gap_21 G.2.2.2.2.2.2
set_option maxRecDepth 100000 in
set_option maxHeartbeats 4000000 in
/-- greyGap -/
theorem mX1_greyGap (l : Launch) (D : va_G) (q : Nat → Nat) (cI cZ : ClassId) (N : Nat → Nat) (S : Nat → Nat → Nat) (fv : Nat → Nat) (th : Nat) (A : Nat → Prop) (hok : sp_ok N S) (hinv : sp_inv N S) (i1 : Int32) : Met l yX1_greyGap wsX1_greyGap { frames := 5, cells := 0, slots := 0, locals := 119 } (va_Pc [.ref (q 0), .int i1] (fun U => mAt D q cI cZ N S fv th A U U.heap)) (gQm D q cI cZ (fun r N2 S2 th2 => th2 = sk_greyGap N S i1 ∧ (sk_greyGap N S i1 = 0 → r = nI (sR_greyGap N S i1)) ∧ N2 = (if sk_greyGap N S i1 = 0 then sN_greyGap N S i1 else N) ∧ S2 = (if sk_greyGap N S i1 = 0 then sS_greyGap N S i1 else S)) A) 0 0 A := by
  refine gc_met [.ref (q 0), .int i1] (by decide) rfl (Nat.le_of_ble_eq_true rfl) rfl ?_
  intro p e s m below meth c ls G hl hX
  have hS : va_S A s.heap s.heap [] := va_S.rf
  have hok9 := hok
  obtain ⟨⟨ok0, ok5⟩, ok1, ok2, ok3, ok4, ok6, ok7, ok8, ok12, ok13, ok14⟩ := hok9
  refine lv_aload_n G.1 G.2.1 dX1_greyGap_0 rfl (lv_at hl 0 rfl) ?_
  refine lv_aload_n G.1 G.2.1 dX1_greyGap_1 rfl (lv_at hl 0 rfl) ?_
  refine lv_iload_n G.1 G.2.1 dX1_greyGap_2 rfl (lv_at hl 1 rfl) ?_
  refine gc_v (As := [.int i1]) (rest := [.ref (q 0)]) G.fix (mX1_isChain l D q cI cZ N S fv th A hok i1) (cwV 1 G.2.2.2.2.2.1 gX1_greyGap_X1_isChain rfl rfl rfl (by decide +kernel) ⟨Nat.le_of_ble_eq_true rfl, Nat.le_of_ble_eq_true rfl⟩) mAt_blind (va_recv hX.2.1 hX.1 (ci := 1) (q0 := 0) rfl rfl) (fun U hU hW => by rw [hU]; exact hX.moved hW) rfl hl.1 rfl (Nat.le_of_ble_eq_true rfl) dX1_greyGap_3 (Nat.zero_le _) (Nat.zero_le _) (fun r hr => ?_)
  subst hr
  refine gm_mut (N' := N) (S' := S) (th' := (sp_m3 (gbn (gb i1 (N 5))) 1 1)) (r := (nI (sp_z (sp_m3 (gbn (gb i1 (N 5))) 1 1)))) (As := [.int (nI (gbn (gb i1 (N 5))))]) (rest := []) G.fix (mX1_may l D q cI cZ N S fv th A (gbn (gb i1 (N 5))) (by first | decide | exact gbn_le _)) (cwV 1 G.2.2.2.2.2.1 gX1_greyGap_X1_may rfl rfl rfl (by decide +kernel) ⟨Nat.le_of_ble_eq_true rfl, Nat.le_of_ble_eq_true rfl⟩) hX hS rfl hl.1 rfl (Nat.le_of_ble_eq_true rfl) dX1_greyGap_6 (Nat.zero_le _) (Nat.zero_le _) (fun fv H1 locs1 hX hS => ?_)
  refine gn_nez G (by exact sp_z_lt _) (tgt := 14) dX1_greyGap_9 (by decide) (fun h_9 => ?_) (fun h_9 => ?_)
  · have hZ : sp_m3 (gbn (gb i1 (N 5))) 1 1 = 0 := sp_z_t h_9
    have hTa_9 : gb i1 (N 5) = true := gbn_t (sp_m3_a hZ)
    obtain ⟨j1, hj1, rfl⟩ := gb_of (by omega) hTa_9
    have hg1 := gn_nI (show j1 < 2 ^ 31 by omega)
    have hpl := fun b v (hv : v ≤ 255) => sp_pass_le (ch := j1) (b := b) hok hv
    refine lv_iconst (v := nI 0) G.1 G.2.1 dX1_greyGap_14 (by decide) ?_
    refine lv_istore_n (lv' := [(2, .int (nI 0)), (0, .ref (q 0)), (1, .int (nI j1))]) G.1 G.2.1 dX1_greyGap_15 rfl hl (by decide) rfl (fun ls hl => ?_)
    refine lv_iconst (v := nI 0) G.1 G.2.1 dX1_greyGap_16 (by decide) ?_
    refine lv_istore_n (lv' := [(3, .int (nI 0)), (2, .int (nI 0)), (0, .ref (q 0)), (1, .int (nI j1))]) G.1 G.2.1 dX1_greyGap_17 rfl hl (by decide) rfl (fun ls hl => ?_)
    have loop1 : ∀ (d1 x1 : Nat), x1 + d1 = 256 → ∀ (fv : Nat → Nat) (H9 : Heap) (locs9 : List Loc), mAt D q cI cZ N S fv (sp_m3 (gbn (gb (nI j1) (N 5))) 1 1) A s H9 → va_S A s.heap H9 locs9 → ∀ ls : Array Slot, lv_has ls 7 [(0, .ref (q 0)), (1, .int (nI j1)), (2, .int (nI (sp_greyTo S j1 x1))), (3, .int (nI x1))] → W p l e { frames := 5, cells := 0, slots := 0, locals := 119 } s m ([.ref (q 0), .int (nI j1)] : List Value).toArray below meth c H9 locs9 0 0 (MQ below (gQm D q cI cZ (fun r N2 S2 th2 => th2 = sk_greyGap N S (nI j1) ∧ (sk_greyGap N S (nI j1) = 0 → r = nI (sR_greyGap N S (nI j1))) ∧ N2 = (if sk_greyGap N S (nI j1) = 0 then sN_greyGap N S (nI j1) else N) ∧ S2 = (if sk_greyGap N S (nI j1) = 0 then sS_greyGap N S (nI j1) else S)) A) ([.ref (q 0), .int (nI j1)] : List Value).toArray s 0 0 A) (F0 m 18 ls []) := by
      intro d1
      induction d1 with
      | zero =>
        intro x1 hd1 fv H9 locs9 hX hS ls hl
        refine lv_iload_n G.1 G.2.1 dX1_greyGap_18 rfl (lv_at hl 3 rfl) ?_
        refine lv_sipush (v := nI 256) G.1 G.2.1 dX1_greyGap_19 (by decide) ?_
        refine gn_ge G (by first | omega | assumption) (by first | omega | assumption) (tgt := 127) dX1_greyGap_22 (by decide) (fun h_22 => ?_) (fun h_22 => absurd h_22 (by omega))
        refine lv_iload_n G.1 G.2.1 dX1_greyGap_127 rfl (lv_at hl 2 rfl) ?_
        have hth : sp_m3 (gbn (gb (nI j1) (N 5))) 1 1 = sk_greyGap N S (nI j1) := by
          unfold sk_greyGap
          exact sp_m3_gk (gb (nI j1) (N 5)) (true) (true)
        have hsk : sk_greyGap N S (nI j1) = 0 := hth.symm.trans hZ
        exact W.iret G.1 G.2.1 G.2.2.1 (fun t ht hW => gQm_of hX hS ht ⟨hth, fun _ => (by show nI _ = nI _; simp only [sR_greyGap, hg1]; unfold sp_grey; rw [show x1 = 256 from by omega]), (by rw [if_pos hsk]; simp only [sN_greyGap, hg1]), (by rw [if_pos hsk]; simp only [sS_greyGap, hg1])⟩) hS.2.2 dX1_greyGap_128 G.2.2.2.2.2.2
      | succ d1 ih1 =>
        intro x1 hd1 fv H9 locs9 hX hS ls hl
        refine lv_iload_n G.1 G.2.1 dX1_greyGap_18 rfl (lv_at hl 3 rfl) ?_
        refine lv_sipush (v := nI 256) G.1 G.2.1 dX1_greyGap_19 (by decide) ?_
        refine gn_ge G (by first | omega | assumption) (by first | omega | assumption) (tgt := 127) dX1_greyGap_22 (by decide) (fun h_22 => absurd h_22 (by omega)) (fun h_22 => ?_)
        have hp0 := hpl 0 x1 (by omega)
        have hp1 := hpl 1 x1 (by omega)
        have hp2 := hpl 2 x1 (by omega)
        have hgy := sp_greyTo_le hok (ch := j1) x1 (by omega)
        have ha1 := sp_ap_le hp0 hp1
        have ha2 := sp_ap_le hp0 hp2
        have ha3 := sp_ap_le hp1 hp2
        refine lv_aload_n G.1 G.2.1 dX1_greyGap_25 rfl (lv_at hl 0 rfl) ?_
        refine lv_iload_n G.1 G.2.1 dX1_greyGap_26 rfl (lv_at hl 1 rfl) ?_
        refine lv_iconst (v := nI 0) G.1 G.2.1 dX1_greyGap_27 (by decide) ?_
        refine lv_iload_n G.1 G.2.1 dX1_greyGap_28 rfl (lv_at hl 3 rfl) ?_
        refine gm_mut (N' := N) (S' := S) (th' := (sp_m3 (gbn (gb (nI j1) (N 5))) 1 1)) (r := (nI (sp_pass S j1 0 x1))) (As := [.int (nI j1), .int (nI 0), .int (nI x1)]) (rest := []) G.fix (mX1_throughOf l D q cI cZ N S fv (sp_m3 (gbn (gb (nI j1) (N 5))) 1 1) A hok j1 0 x1 (by first | omega | assumption | exact ok6 _ | apply hq) (by first | omega | assumption | exact ok6 _ | apply hq) (by first | omega | assumption | exact ok6 _ | apply hq)) (cwV 3 G.2.2.2.2.2.1 gX1_greyGap_X1_throughOf rfl rfl rfl (by decide +kernel) ⟨Nat.le_of_ble_eq_true rfl, Nat.le_of_ble_eq_true rfl⟩) hX hS rfl hl.1 rfl (Nat.le_of_ble_eq_true rfl) dX1_greyGap_29 (Nat.zero_le _) (Nat.zero_le _) (fun fv H1 locs1 hX hS => ?_)
        refine lv_istore (lv' := [(4, .int (nI (sp_pass S j1 0 x1))), (0, .ref (q 0)), (1, .int (nI j1)), (2, .int (nI (sp_greyTo S j1 x1))), (3, .int (nI x1))]) G.1 G.2.1 dX1_greyGap_32 hl (by decide) rfl (fun ls hl => ?_)
        refine lv_aload_n G.1 G.2.1 dX1_greyGap_34 rfl (lv_at hl 1 rfl) ?_
        refine lv_iload_n G.1 G.2.1 dX1_greyGap_35 rfl (lv_at hl 2 rfl) ?_
        refine lv_iconst (v := nI 1) G.1 G.2.1 dX1_greyGap_36 (by decide) ?_
        refine lv_iload_n G.1 G.2.1 dX1_greyGap_37 rfl (lv_at hl 4 rfl) ?_
        refine gm_mut (N' := N) (S' := S) (th' := (sp_m3 (gbn (gb (nI j1) (N 5))) 1 1)) (r := (nI (sp_pass S j1 1 x1))) (As := [.int (nI j1), .int (nI 1), .int (nI x1)]) (rest := []) G.fix (mX1_throughOf l D q cI cZ N S fv (sp_m3 (gbn (gb (nI j1) (N 5))) 1 1) A hok j1 1 x1 (by first | omega | assumption | exact ok6 _ | apply hq) (by first | omega | assumption | exact ok6 _ | apply hq) (by first | omega | assumption | exact ok6 _ | apply hq)) (cwV 3 G.2.2.2.2.2.1 gX1_greyGap_X1_throughOf rfl rfl rfl (by decide +kernel) ⟨Nat.le_of_ble_eq_true rfl, Nat.le_of_ble_eq_true rfl⟩) hX hS rfl hl.1 rfl (Nat.le_of_ble_eq_true rfl) dX1_greyGap_38 (Nat.zero_le _) (Nat.zero_le _) (fun fv H1 locs1 hX hS => ?_)
        refine lv_istore (lv' := [(5, .int (nI (sp_pass S j1 1 x1))), (4, .int (nI (sp_pass S j1 0 x1))), (0, .ref (q 0)), (1, .int (nI j1)), (2, .int (nI (sp_greyTo S j1 x1))), (3, .int (nI x1))]) G.1 G.2.1 dX1_greyGap_41 hl (by decide) rfl (fun ls hl => ?_)
        refine lv_aload_n G.1 G.2.1 dX1_greyGap_43 rfl (lv_at hl 2 rfl) ?_
        refine lv_iload_n G.1 G.2.1 dX1_greyGap_44 rfl (lv_at hl 3 rfl) ?_
        refine lv_iconst (v := nI 2) G.1 G.2.1 dX1_greyGap_45 (by decide) ?_
        refine lv_iload_n G.1 G.2.1 dX1_greyGap_46 rfl (lv_at hl 5 rfl) ?_
        refine gm_mut (N' := N) (S' := S) (th' := (sp_m3 (gbn (gb (nI j1) (N 5))) 1 1)) (r := (nI (sp_pass S j1 2 x1))) (As := [.int (nI j1), .int (nI 2), .int (nI x1)]) (rest := []) G.fix (mX1_throughOf l D q cI cZ N S fv (sp_m3 (gbn (gb (nI j1) (N 5))) 1 1) A hok j1 2 x1 (by first | omega | assumption | exact ok6 _ | apply hq) (by first | omega | assumption | exact ok6 _ | apply hq) (by first | omega | assumption | exact ok6 _ | apply hq)) (cwV 3 G.2.2.2.2.2.1 gX1_greyGap_X1_throughOf rfl rfl rfl (by decide +kernel) ⟨Nat.le_of_ble_eq_true rfl, Nat.le_of_ble_eq_true rfl⟩) hX hS rfl hl.1 rfl (Nat.le_of_ble_eq_true rfl) dX1_greyGap_47 (Nat.zero_le _) (Nat.zero_le _) (fun fv H1 locs1 hX hS => ?_)
        refine lv_istore (lv' := [(6, .int (nI (sp_pass S j1 2 x1))), (5, .int (nI (sp_pass S j1 1 x1))), (4, .int (nI (sp_pass S j1 0 x1))), (0, .ref (q 0)), (1, .int (nI j1)), (2, .int (nI (sp_greyTo S j1 x1))), (3, .int (nI x1))]) G.1 G.2.1 dX1_greyGap_50 hl (by decide) rfl (fun ls hl => ?_)
        refine lv_iload G.1 G.2.1 dX1_greyGap_52 (lv_at hl 2 rfl) ?_
        refine lv_iload G.1 G.2.1 dX1_greyGap_54 (lv_at hl 1 rfl) ?_
        refine gc_s (As := [.int (nI (sp_pass S j1 0 x1)), .int (nI (sp_pass S j1 1 x1))]) (rest := []) G.fix (mX1_apart l (sp_pass S j1 0 x1) (sp_pass S j1 1 x1) (by first | omega | assumption) (by first | omega | assumption)) (va_cwS 2 G.2.2.2.2.2.1 gX1_greyGap_X1_apart rfl rfl rfl (by decide +kernel) ⟨Nat.le_of_ble_eq_true rfl, Nat.le_of_ble_eq_true rfl⟩) gc_blindT (fun _ _ _ => trivial) rfl hl.1 rfl (Nat.le_of_ble_eq_true rfl) dX1_greyGap_56 (Nat.zero_le _) (Nat.zero_le _) (fun r hr => ?_)
        subst hr
        refine lv_iload_n G.1 G.2.1 dX1_greyGap_59 rfl (lv_at hl 5 rfl) ?_
        refine gn_le G (by first | omega | assumption) (by first | omega | assumption) (tgt := 73) dX1_greyGap_60 (by decide) (fun h_60 => ?_) (fun h_60 => ?_)
        · refine lv_iload_n G.1 G.2.1 dX1_greyGap_73 rfl (lv_at hl 5 rfl) ?_
          refine lv_istore_n (lv' := [(2, .int (nI (sp_greyTo S j1 x1))), (6, .int (nI (sp_pass S j1 2 x1))), (5, .int (nI (sp_pass S j1 1 x1))), (4, .int (nI (sp_pass S j1 0 x1))), (0, .ref (q 0)), (1, .int (nI j1)), (3, .int (nI x1))]) G.1 G.2.1 dX1_greyGap_74 rfl hl (by decide) rfl (fun ls hl => ?_)
          refine lv_iload G.1 G.2.1 dX1_greyGap_75 (lv_at hl 3 rfl) ?_
          refine lv_iload G.1 G.2.1 dX1_greyGap_77 (lv_at hl 1 rfl) ?_
          refine gc_s (As := [.int (nI (sp_pass S j1 0 x1)), .int (nI (sp_pass S j1 2 x1))]) (rest := []) G.fix (mX1_apart l (sp_pass S j1 0 x1) (sp_pass S j1 2 x1) (by first | omega | assumption) (by first | omega | assumption)) (va_cwS 2 G.2.2.2.2.2.1 gX1_greyGap_X1_apart rfl rfl rfl (by decide +kernel) ⟨Nat.le_of_ble_eq_true rfl, Nat.le_of_ble_eq_true rfl⟩) gc_blindT (fun _ _ _ => trivial) rfl hl.1 rfl (Nat.le_of_ble_eq_true rfl) dX1_greyGap_79 (Nat.zero_le _) (Nat.zero_le _) (fun r hr => ?_)
          subst hr
          refine lv_iload_n G.1 G.2.1 dX1_greyGap_82 rfl (lv_at hl 0 rfl) ?_
          refine gn_le G (by first | omega | assumption) (by first | omega | assumption) (tgt := 96) dX1_greyGap_83 (by decide) (fun h_83 => ?_) (fun h_83 => ?_)
          · refine lv_iload_n G.1 G.2.1 dX1_greyGap_96 rfl (lv_at hl 0 rfl) ?_
            refine lv_istore_n (lv' := [(2, .int (nI (sp_greyTo S j1 x1))), (6, .int (nI (sp_pass S j1 2 x1))), (5, .int (nI (sp_pass S j1 1 x1))), (4, .int (nI (sp_pass S j1 0 x1))), (0, .ref (q 0)), (1, .int (nI j1)), (3, .int (nI x1))]) G.1 G.2.1 dX1_greyGap_97 rfl hl (by decide) rfl (fun ls hl => ?_)
            refine lv_iload G.1 G.2.1 dX1_greyGap_98 (lv_at hl 2 rfl) ?_
            refine lv_iload G.1 G.2.1 dX1_greyGap_100 (lv_at hl 1 rfl) ?_
            refine gc_s (As := [.int (nI (sp_pass S j1 1 x1)), .int (nI (sp_pass S j1 2 x1))]) (rest := []) G.fix (mX1_apart l (sp_pass S j1 1 x1) (sp_pass S j1 2 x1) (by first | omega | assumption) (by first | omega | assumption)) (va_cwS 2 G.2.2.2.2.2.1 gX1_greyGap_X1_apart rfl rfl rfl (by decide +kernel) ⟨Nat.le_of_ble_eq_true rfl, Nat.le_of_ble_eq_true rfl⟩) gc_blindT (fun _ _ _ => trivial) rfl hl.1 rfl (Nat.le_of_ble_eq_true rfl) dX1_greyGap_102 (Nat.zero_le _) (Nat.zero_le _) (fun r hr => ?_)
            subst hr
            refine lv_iload_n G.1 G.2.1 dX1_greyGap_105 rfl (lv_at hl 0 rfl) ?_
            refine gn_le G (by first | omega | assumption) (by first | omega | assumption) (tgt := 119) dX1_greyGap_106 (by decide) (fun h_106 => ?_) (fun h_106 => ?_)
            · refine lv_iload_n G.1 G.2.1 dX1_greyGap_119 rfl (lv_at hl 0 rfl) ?_
              refine lv_istore_n (lv' := [(2, .int (nI (sp_greyTo S j1 x1))), (6, .int (nI (sp_pass S j1 2 x1))), (5, .int (nI (sp_pass S j1 1 x1))), (4, .int (nI (sp_pass S j1 0 x1))), (0, .ref (q 0)), (1, .int (nI j1)), (3, .int (nI x1))]) G.1 G.2.1 dX1_greyGap_120 rfl hl (by decide) rfl (fun ls hl => ?_)
              refine gn_iinc (lv' := [(3, .int (nI (x1 + 1))), (2, .int (nI (sp_greyTo S j1 x1))), (6, .int (nI (sp_pass S j1 2 x1))), (5, .int (nI (sp_pass S j1 1 x1))), (4, .int (nI (sp_pass S j1 0 x1))), (0, .ref (q 0)), (1, .int (nI j1))]) (n := 1) G dX1_greyGap_121 hl (k := 6) rfl (by decide) rfl (fun ls hl => ?_)
              refine lv_goto (tgt := 18) G.1 G.2.1 dX1_greyGap_124 (by decide) ?_
              exact ih1 (x1 + 1) (by omega) _ _ _ (mAt_cast (rfl) hX) hS _ (by have e9 : sp_greyTo S j1 (x1 + 1) = sp_greyTo S j1 x1 := (by rw [sp_grey_s]; (try simp only [sp_ap_mm] at h_60); (try simp only [sp_ap_mm] at h_83); (try simp only [sp_ap_mm] at h_106); (try simp only [sp_ap_mm]); omega); rw [e9]; exact lv_sub hl [5, 6, 1, 0] rfl)
            · refine lv_iload G.1 G.2.1 dX1_greyGap_109 (lv_at hl 2 rfl) ?_
              refine lv_iload G.1 G.2.1 dX1_greyGap_111 (lv_at hl 1 rfl) ?_
              refine gc_s (As := [.int (nI (sp_pass S j1 1 x1)), .int (nI (sp_pass S j1 2 x1))]) (rest := []) G.fix (mX1_apart l (sp_pass S j1 1 x1) (sp_pass S j1 2 x1) (by first | omega | assumption) (by first | omega | assumption)) (va_cwS 2 G.2.2.2.2.2.1 gX1_greyGap_X1_apart rfl rfl rfl (by decide +kernel) ⟨Nat.le_of_ble_eq_true rfl, Nat.le_of_ble_eq_true rfl⟩) gc_blindT (fun _ _ _ => trivial) rfl hl.1 rfl (Nat.le_of_ble_eq_true rfl) dX1_greyGap_113 (Nat.zero_le _) (Nat.zero_le _) (fun r hr => ?_)
              subst hr
              refine lv_goto (tgt := 120) G.1 G.2.1 dX1_greyGap_116 (by decide) ?_
              refine lv_istore_n (lv' := [(2, .int (nI (sp_ap (sp_pass S j1 1 x1) (sp_pass S j1 2 x1)))), (6, .int (nI (sp_pass S j1 2 x1))), (5, .int (nI (sp_pass S j1 1 x1))), (4, .int (nI (sp_pass S j1 0 x1))), (0, .ref (q 0)), (1, .int (nI j1)), (3, .int (nI x1))]) G.1 G.2.1 dX1_greyGap_120 rfl hl (by decide) rfl (fun ls hl => ?_)
              refine gn_iinc (lv' := [(3, .int (nI (x1 + 1))), (2, .int (nI (sp_ap (sp_pass S j1 1 x1) (sp_pass S j1 2 x1)))), (6, .int (nI (sp_pass S j1 2 x1))), (5, .int (nI (sp_pass S j1 1 x1))), (4, .int (nI (sp_pass S j1 0 x1))), (0, .ref (q 0)), (1, .int (nI j1))]) (n := 1) G dX1_greyGap_121 hl (k := 6) rfl (by decide) rfl (fun ls hl => ?_)
              refine lv_goto (tgt := 18) G.1 G.2.1 dX1_greyGap_124 (by decide) ?_
              exact ih1 (x1 + 1) (by omega) _ _ _ (mAt_cast (rfl) hX) hS _ (by have e9 : sp_greyTo S j1 (x1 + 1) = sp_ap (sp_pass S j1 1 x1) (sp_pass S j1 2 x1) := (by rw [sp_grey_s]; (try simp only [sp_ap_mm] at h_60); (try simp only [sp_ap_mm] at h_83); (try simp only [sp_ap_mm] at h_106); (try simp only [sp_ap_mm]); omega); rw [e9]; exact lv_sub hl [5, 6, 1, 0] rfl)
          · refine lv_iload G.1 G.2.1 dX1_greyGap_86 (lv_at hl 3 rfl) ?_
            refine lv_iload G.1 G.2.1 dX1_greyGap_88 (lv_at hl 1 rfl) ?_
            refine gc_s (As := [.int (nI (sp_pass S j1 0 x1)), .int (nI (sp_pass S j1 2 x1))]) (rest := []) G.fix (mX1_apart l (sp_pass S j1 0 x1) (sp_pass S j1 2 x1) (by first | omega | assumption) (by first | omega | assumption)) (va_cwS 2 G.2.2.2.2.2.1 gX1_greyGap_X1_apart rfl rfl rfl (by decide +kernel) ⟨Nat.le_of_ble_eq_true rfl, Nat.le_of_ble_eq_true rfl⟩) gc_blindT (fun _ _ _ => trivial) rfl hl.1 rfl (Nat.le_of_ble_eq_true rfl) dX1_greyGap_90 (Nat.zero_le _) (Nat.zero_le _) (fun r hr => ?_)
            subst hr
            refine lv_goto (tgt := 97) G.1 G.2.1 dX1_greyGap_93 (by decide) ?_
            refine lv_istore_n (lv' := [(2, .int (nI (sp_ap (sp_pass S j1 0 x1) (sp_pass S j1 2 x1)))), (6, .int (nI (sp_pass S j1 2 x1))), (5, .int (nI (sp_pass S j1 1 x1))), (4, .int (nI (sp_pass S j1 0 x1))), (0, .ref (q 0)), (1, .int (nI j1)), (3, .int (nI x1))]) G.1 G.2.1 dX1_greyGap_97 rfl hl (by decide) rfl (fun ls hl => ?_)
            refine lv_iload G.1 G.2.1 dX1_greyGap_98 (lv_at hl 2 rfl) ?_
            refine lv_iload G.1 G.2.1 dX1_greyGap_100 (lv_at hl 1 rfl) ?_
            refine gc_s (As := [.int (nI (sp_pass S j1 1 x1)), .int (nI (sp_pass S j1 2 x1))]) (rest := []) G.fix (mX1_apart l (sp_pass S j1 1 x1) (sp_pass S j1 2 x1) (by first | omega | assumption) (by first | omega | assumption)) (va_cwS 2 G.2.2.2.2.2.1 gX1_greyGap_X1_apart rfl rfl rfl (by decide +kernel) ⟨Nat.le_of_ble_eq_true rfl, Nat.le_of_ble_eq_true rfl⟩) gc_blindT (fun _ _ _ => trivial) rfl hl.1 rfl (Nat.le_of_ble_eq_true rfl) dX1_greyGap_102 (Nat.zero_le _) (Nat.zero_le _) (fun r hr => ?_)
            subst hr
            refine lv_iload_n G.1 G.2.1 dX1_greyGap_105 rfl (lv_at hl 0 rfl) ?_
            refine gn_le G (by first | omega | assumption) (by first | omega | assumption) (tgt := 119) dX1_greyGap_106 (by decide) (fun h_106 => ?_) (fun h_106 => ?_)
            · refine lv_iload_n G.1 G.2.1 dX1_greyGap_119 rfl (lv_at hl 0 rfl) ?_
              refine lv_istore_n (lv' := [(2, .int (nI (sp_ap (sp_pass S j1 0 x1) (sp_pass S j1 2 x1)))), (6, .int (nI (sp_pass S j1 2 x1))), (5, .int (nI (sp_pass S j1 1 x1))), (4, .int (nI (sp_pass S j1 0 x1))), (0, .ref (q 0)), (1, .int (nI j1)), (3, .int (nI x1))]) G.1 G.2.1 dX1_greyGap_120 rfl hl (by decide) rfl (fun ls hl => ?_)
              refine gn_iinc (lv' := [(3, .int (nI (x1 + 1))), (2, .int (nI (sp_ap (sp_pass S j1 0 x1) (sp_pass S j1 2 x1)))), (6, .int (nI (sp_pass S j1 2 x1))), (5, .int (nI (sp_pass S j1 1 x1))), (4, .int (nI (sp_pass S j1 0 x1))), (0, .ref (q 0)), (1, .int (nI j1))]) (n := 1) G dX1_greyGap_121 hl (k := 6) rfl (by decide) rfl (fun ls hl => ?_)
              refine lv_goto (tgt := 18) G.1 G.2.1 dX1_greyGap_124 (by decide) ?_
              exact ih1 (x1 + 1) (by omega) _ _ _ (mAt_cast (rfl) hX) hS _ (by have e9 : sp_greyTo S j1 (x1 + 1) = sp_ap (sp_pass S j1 0 x1) (sp_pass S j1 2 x1) := (by rw [sp_grey_s]; (try simp only [sp_ap_mm] at h_60); (try simp only [sp_ap_mm] at h_83); (try simp only [sp_ap_mm] at h_106); (try simp only [sp_ap_mm]); omega); rw [e9]; exact lv_sub hl [5, 6, 1, 0] rfl)
            · refine lv_iload G.1 G.2.1 dX1_greyGap_109 (lv_at hl 2 rfl) ?_
              refine lv_iload G.1 G.2.1 dX1_greyGap_111 (lv_at hl 1 rfl) ?_
              refine gc_s (As := [.int (nI (sp_pass S j1 1 x1)), .int (nI (sp_pass S j1 2 x1))]) (rest := []) G.fix (mX1_apart l (sp_pass S j1 1 x1) (sp_pass S j1 2 x1) (by first | omega | assumption) (by first | omega | assumption)) (va_cwS 2 G.2.2.2.2.2.1 gX1_greyGap_X1_apart rfl rfl rfl (by decide +kernel) ⟨Nat.le_of_ble_eq_true rfl, Nat.le_of_ble_eq_true rfl⟩) gc_blindT (fun _ _ _ => trivial) rfl hl.1 rfl (Nat.le_of_ble_eq_true rfl) dX1_greyGap_113 (Nat.zero_le _) (Nat.zero_le _) (fun r hr => ?_)
              subst hr
              refine lv_goto (tgt := 120) G.1 G.2.1 dX1_greyGap_116 (by decide) ?_
              refine lv_istore_n (lv' := [(2, .int (nI (sp_ap (sp_pass S j1 1 x1) (sp_pass S j1 2 x1)))), (6, .int (nI (sp_pass S j1 2 x1))), (5, .int (nI (sp_pass S j1 1 x1))), (4, .int (nI (sp_pass S j1 0 x1))), (0, .ref (q 0)), (1, .int (nI j1)), (3, .int (nI x1))]) G.1 G.2.1 dX1_greyGap_120 rfl hl (by decide) rfl (fun ls hl => ?_)
              refine gn_iinc (lv' := [(3, .int (nI (x1 + 1))), (2, .int (nI (sp_ap (sp_pass S j1 1 x1) (sp_pass S j1 2 x1)))), (6, .int (nI (sp_pass S j1 2 x1))), (5, .int (nI (sp_pass S j1 1 x1))), (4, .int (nI (sp_pass S j1 0 x1))), (0, .ref (q 0)), (1, .int (nI j1))]) (n := 1) G dX1_greyGap_121 hl (k := 6) rfl (by decide) rfl (fun ls hl => ?_)
              refine lv_goto (tgt := 18) G.1 G.2.1 dX1_greyGap_124 (by decide) ?_
              exact ih1 (x1 + 1) (by omega) _ _ _ (mAt_cast (rfl) hX) hS _ (by have e9 : sp_greyTo S j1 (x1 + 1) = sp_ap (sp_pass S j1 1 x1) (sp_pass S j1 2 x1) := (by rw [sp_grey_s]; (try simp only [sp_ap_mm] at h_60); (try simp only [sp_ap_mm] at h_83); (try simp only [sp_ap_mm] at h_106); (try simp only [sp_ap_mm]); omega); rw [e9]; exact lv_sub hl [5, 6, 1, 0] rfl)
        · refine lv_iload G.1 G.2.1 dX1_greyGap_63 (lv_at hl 2 rfl) ?_
          refine lv_iload G.1 G.2.1 dX1_greyGap_65 (lv_at hl 1 rfl) ?_
          refine gc_s (As := [.int (nI (sp_pass S j1 0 x1)), .int (nI (sp_pass S j1 1 x1))]) (rest := []) G.fix (mX1_apart l (sp_pass S j1 0 x1) (sp_pass S j1 1 x1) (by first | omega | assumption) (by first | omega | assumption)) (va_cwS 2 G.2.2.2.2.2.1 gX1_greyGap_X1_apart rfl rfl rfl (by decide +kernel) ⟨Nat.le_of_ble_eq_true rfl, Nat.le_of_ble_eq_true rfl⟩) gc_blindT (fun _ _ _ => trivial) rfl hl.1 rfl (Nat.le_of_ble_eq_true rfl) dX1_greyGap_67 (Nat.zero_le _) (Nat.zero_le _) (fun r hr => ?_)
          subst hr
          refine lv_goto (tgt := 74) G.1 G.2.1 dX1_greyGap_70 (by decide) ?_
          refine lv_istore_n (lv' := [(2, .int (nI (sp_ap (sp_pass S j1 0 x1) (sp_pass S j1 1 x1)))), (6, .int (nI (sp_pass S j1 2 x1))), (5, .int (nI (sp_pass S j1 1 x1))), (4, .int (nI (sp_pass S j1 0 x1))), (0, .ref (q 0)), (1, .int (nI j1)), (3, .int (nI x1))]) G.1 G.2.1 dX1_greyGap_74 rfl hl (by decide) rfl (fun ls hl => ?_)
          refine lv_iload G.1 G.2.1 dX1_greyGap_75 (lv_at hl 3 rfl) ?_
          refine lv_iload G.1 G.2.1 dX1_greyGap_77 (lv_at hl 1 rfl) ?_
          refine gc_s (As := [.int (nI (sp_pass S j1 0 x1)), .int (nI (sp_pass S j1 2 x1))]) (rest := []) G.fix (mX1_apart l (sp_pass S j1 0 x1) (sp_pass S j1 2 x1) (by first | omega | assumption) (by first | omega | assumption)) (va_cwS 2 G.2.2.2.2.2.1 gX1_greyGap_X1_apart rfl rfl rfl (by decide +kernel) ⟨Nat.le_of_ble_eq_true rfl, Nat.le_of_ble_eq_true rfl⟩) gc_blindT (fun _ _ _ => trivial) rfl hl.1 rfl (Nat.le_of_ble_eq_true rfl) dX1_greyGap_79 (Nat.zero_le _) (Nat.zero_le _) (fun r hr => ?_)
          subst hr
          refine lv_iload_n G.1 G.2.1 dX1_greyGap_82 rfl (lv_at hl 0 rfl) ?_
          refine gn_le G (by first | omega | assumption) (by first | omega | assumption) (tgt := 96) dX1_greyGap_83 (by decide) (fun h_83 => ?_) (fun h_83 => ?_)
          · refine lv_iload_n G.1 G.2.1 dX1_greyGap_96 rfl (lv_at hl 0 rfl) ?_
            refine lv_istore_n (lv' := [(2, .int (nI (sp_ap (sp_pass S j1 0 x1) (sp_pass S j1 1 x1)))), (6, .int (nI (sp_pass S j1 2 x1))), (5, .int (nI (sp_pass S j1 1 x1))), (4, .int (nI (sp_pass S j1 0 x1))), (0, .ref (q 0)), (1, .int (nI j1)), (3, .int (nI x1))]) G.1 G.2.1 dX1_greyGap_97 rfl hl (by decide) rfl (fun ls hl => ?_)
            refine lv_iload G.1 G.2.1 dX1_greyGap_98 (lv_at hl 2 rfl) ?_
            refine lv_iload G.1 G.2.1 dX1_greyGap_100 (lv_at hl 1 rfl) ?_
            refine gc_s (As := [.int (nI (sp_pass S j1 1 x1)), .int (nI (sp_pass S j1 2 x1))]) (rest := []) G.fix (mX1_apart l (sp_pass S j1 1 x1) (sp_pass S j1 2 x1) (by first | omega | assumption) (by first | omega | assumption)) (va_cwS 2 G.2.2.2.2.2.1 gX1_greyGap_X1_apart rfl rfl rfl (by decide +kernel) ⟨Nat.le_of_ble_eq_true rfl, Nat.le_of_ble_eq_true rfl⟩) gc_blindT (fun _ _ _ => trivial) rfl hl.1 rfl (Nat.le_of_ble_eq_true rfl) dX1_greyGap_102 (Nat.zero_le _) (Nat.zero_le _) (fun r hr => ?_)
            subst hr
            refine lv_iload_n G.1 G.2.1 dX1_greyGap_105 rfl (lv_at hl 0 rfl) ?_
            refine gn_le G (by first | omega | assumption) (by first | omega | assumption) (tgt := 119) dX1_greyGap_106 (by decide) (fun h_106 => ?_) (fun h_106 => ?_)
            · refine lv_iload_n G.1 G.2.1 dX1_greyGap_119 rfl (lv_at hl 0 rfl) ?_
              refine lv_istore_n (lv' := [(2, .int (nI (sp_ap (sp_pass S j1 0 x1) (sp_pass S j1 1 x1)))), (6, .int (nI (sp_pass S j1 2 x1))), (5, .int (nI (sp_pass S j1 1 x1))), (4, .int (nI (sp_pass S j1 0 x1))), (0, .ref (q 0)), (1, .int (nI j1)), (3, .int (nI x1))]) G.1 G.2.1 dX1_greyGap_120 rfl hl (by decide) rfl (fun ls hl => ?_)
              refine gn_iinc (lv' := [(3, .int (nI (x1 + 1))), (2, .int (nI (sp_ap (sp_pass S j1 0 x1) (sp_pass S j1 1 x1)))), (6, .int (nI (sp_pass S j1 2 x1))), (5, .int (nI (sp_pass S j1 1 x1))), (4, .int (nI (sp_pass S j1 0 x1))), (0, .ref (q 0)), (1, .int (nI j1))]) (n := 1) G dX1_greyGap_121 hl (k := 6) rfl (by decide) rfl (fun ls hl => ?_)
              refine lv_goto (tgt := 18) G.1 G.2.1 dX1_greyGap_124 (by decide) ?_
              exact ih1 (x1 + 1) (by omega) _ _ _ (mAt_cast (rfl) hX) hS _ (by have e9 : sp_greyTo S j1 (x1 + 1) = sp_ap (sp_pass S j1 0 x1) (sp_pass S j1 1 x1) := (by rw [sp_grey_s]; (try simp only [sp_ap_mm] at h_60); (try simp only [sp_ap_mm] at h_83); (try simp only [sp_ap_mm] at h_106); (try simp only [sp_ap_mm]); omega); rw [e9]; exact lv_sub hl [5, 6, 1, 0] rfl)
            · refine lv_iload G.1 G.2.1 dX1_greyGap_109 (lv_at hl 2 rfl) ?_
              refine lv_iload G.1 G.2.1 dX1_greyGap_111 (lv_at hl 1 rfl) ?_
              refine gc_s (As := [.int (nI (sp_pass S j1 1 x1)), .int (nI (sp_pass S j1 2 x1))]) (rest := []) G.fix (mX1_apart l (sp_pass S j1 1 x1) (sp_pass S j1 2 x1) (by first | omega | assumption) (by first | omega | assumption)) (va_cwS 2 G.2.2.2.2.2.1 gX1_greyGap_X1_apart rfl rfl rfl (by decide +kernel) ⟨Nat.le_of_ble_eq_true rfl, Nat.le_of_ble_eq_true rfl⟩) gc_blindT (fun _ _ _ => trivial) rfl hl.1 rfl (Nat.le_of_ble_eq_true rfl) dX1_greyGap_113 (Nat.zero_le _) (Nat.zero_le _) (fun r hr => ?_)
              subst hr
              refine lv_goto (tgt := 120) G.1 G.2.1 dX1_greyGap_116 (by decide) ?_
              refine lv_istore_n (lv' := [(2, .int (nI (sp_ap (sp_pass S j1 1 x1) (sp_pass S j1 2 x1)))), (6, .int (nI (sp_pass S j1 2 x1))), (5, .int (nI (sp_pass S j1 1 x1))), (4, .int (nI (sp_pass S j1 0 x1))), (0, .ref (q 0)), (1, .int (nI j1)), (3, .int (nI x1))]) G.1 G.2.1 dX1_greyGap_120 rfl hl (by decide) rfl (fun ls hl => ?_)
              refine gn_iinc (lv' := [(3, .int (nI (x1 + 1))), (2, .int (nI (sp_ap (sp_pass S j1 1 x1) (sp_pass S j1 2 x1)))), (6, .int (nI (sp_pass S j1 2 x1))), (5, .int (nI (sp_pass S j1 1 x1))), (4, .int (nI (sp_pass S j1 0 x1))), (0, .ref (q 0)), (1, .int (nI j1))]) (n := 1) G dX1_greyGap_121 hl (k := 6) rfl (by decide) rfl (fun ls hl => ?_)
              refine lv_goto (tgt := 18) G.1 G.2.1 dX1_greyGap_124 (by decide) ?_
              exact ih1 (x1 + 1) (by omega) _ _ _ (mAt_cast (rfl) hX) hS _ (by have e9 : sp_greyTo S j1 (x1 + 1) = sp_ap (sp_pass S j1 1 x1) (sp_pass S j1 2 x1) := (by rw [sp_grey_s]; (try simp only [sp_ap_mm] at h_60); (try simp only [sp_ap_mm] at h_83); (try simp only [sp_ap_mm] at h_106); (try simp only [sp_ap_mm]); omega); rw [e9]; exact lv_sub hl [5, 6, 1, 0] rfl)
          · refine lv_iload G.1 G.2.1 dX1_greyGap_86 (lv_at hl 3 rfl) ?_
            refine lv_iload G.1 G.2.1 dX1_greyGap_88 (lv_at hl 1 rfl) ?_
            refine gc_s (As := [.int (nI (sp_pass S j1 0 x1)), .int (nI (sp_pass S j1 2 x1))]) (rest := []) G.fix (mX1_apart l (sp_pass S j1 0 x1) (sp_pass S j1 2 x1) (by first | omega | assumption) (by first | omega | assumption)) (va_cwS 2 G.2.2.2.2.2.1 gX1_greyGap_X1_apart rfl rfl rfl (by decide +kernel) ⟨Nat.le_of_ble_eq_true rfl, Nat.le_of_ble_eq_true rfl⟩) gc_blindT (fun _ _ _ => trivial) rfl hl.1 rfl (Nat.le_of_ble_eq_true rfl) dX1_greyGap_90 (Nat.zero_le _) (Nat.zero_le _) (fun r hr => ?_)
            subst hr
            refine lv_goto (tgt := 97) G.1 G.2.1 dX1_greyGap_93 (by decide) ?_
            refine lv_istore_n (lv' := [(2, .int (nI (sp_ap (sp_pass S j1 0 x1) (sp_pass S j1 2 x1)))), (6, .int (nI (sp_pass S j1 2 x1))), (5, .int (nI (sp_pass S j1 1 x1))), (4, .int (nI (sp_pass S j1 0 x1))), (0, .ref (q 0)), (1, .int (nI j1)), (3, .int (nI x1))]) G.1 G.2.1 dX1_greyGap_97 rfl hl (by decide) rfl (fun ls hl => ?_)
            refine lv_iload G.1 G.2.1 dX1_greyGap_98 (lv_at hl 2 rfl) ?_
            refine lv_iload G.1 G.2.1 dX1_greyGap_100 (lv_at hl 1 rfl) ?_
            refine gc_s (As := [.int (nI (sp_pass S j1 1 x1)), .int (nI (sp_pass S j1 2 x1))]) (rest := []) G.fix (mX1_apart l (sp_pass S j1 1 x1) (sp_pass S j1 2 x1) (by first | omega | assumption) (by first | omega | assumption)) (va_cwS 2 G.2.2.2.2.2.1 gX1_greyGap_X1_apart rfl rfl rfl (by decide +kernel) ⟨Nat.le_of_ble_eq_true rfl, Nat.le_of_ble_eq_true rfl⟩) gc_blindT (fun _ _ _ => trivial) rfl hl.1 rfl (Nat.le_of_ble_eq_true rfl) dX1_greyGap_102 (Nat.zero_le _) (Nat.zero_le _) (fun r hr => ?_)
            subst hr
            refine lv_iload_n G.1 G.2.1 dX1_greyGap_105 rfl (lv_at hl 0 rfl) ?_
            refine gn_le G (by first | omega | assumption) (by first | omega | assumption) (tgt := 119) dX1_greyGap_106 (by decide) (fun h_106 => ?_) (fun h_106 => ?_)
            · refine lv_iload_n G.1 G.2.1 dX1_greyGap_119 rfl (lv_at hl 0 rfl) ?_
              refine lv_istore_n (lv' := [(2, .int (nI (sp_ap (sp_pass S j1 0 x1) (sp_pass S j1 2 x1)))), (6, .int (nI (sp_pass S j1 2 x1))), (5, .int (nI (sp_pass S j1 1 x1))), (4, .int (nI (sp_pass S j1 0 x1))), (0, .ref (q 0)), (1, .int (nI j1)), (3, .int (nI x1))]) G.1 G.2.1 dX1_greyGap_120 rfl hl (by decide) rfl (fun ls hl => ?_)
              refine gn_iinc (lv' := [(3, .int (nI (x1 + 1))), (2, .int (nI (sp_ap (sp_pass S j1 0 x1) (sp_pass S j1 2 x1)))), (6, .int (nI (sp_pass S j1 2 x1))), (5, .int (nI (sp_pass S j1 1 x1))), (4, .int (nI (sp_pass S j1 0 x1))), (0, .ref (q 0)), (1, .int (nI j1))]) (n := 1) G dX1_greyGap_121 hl (k := 6) rfl (by decide) rfl (fun ls hl => ?_)
              refine lv_goto (tgt := 18) G.1 G.2.1 dX1_greyGap_124 (by decide) ?_
              exact ih1 (x1 + 1) (by omega) _ _ _ (mAt_cast (rfl) hX) hS _ (by have e9 : sp_greyTo S j1 (x1 + 1) = sp_ap (sp_pass S j1 0 x1) (sp_pass S j1 2 x1) := (by rw [sp_grey_s]; (try simp only [sp_ap_mm] at h_60); (try simp only [sp_ap_mm] at h_83); (try simp only [sp_ap_mm] at h_106); (try simp only [sp_ap_mm]); omega); rw [e9]; exact lv_sub hl [5, 6, 1, 0] rfl)
            · refine lv_iload G.1 G.2.1 dX1_greyGap_109 (lv_at hl 2 rfl) ?_
              refine lv_iload G.1 G.2.1 dX1_greyGap_111 (lv_at hl 1 rfl) ?_
              refine gc_s (As := [.int (nI (sp_pass S j1 1 x1)), .int (nI (sp_pass S j1 2 x1))]) (rest := []) G.fix (mX1_apart l (sp_pass S j1 1 x1) (sp_pass S j1 2 x1) (by first | omega | assumption) (by first | omega | assumption)) (va_cwS 2 G.2.2.2.2.2.1 gX1_greyGap_X1_apart rfl rfl rfl (by decide +kernel) ⟨Nat.le_of_ble_eq_true rfl, Nat.le_of_ble_eq_true rfl⟩) gc_blindT (fun _ _ _ => trivial) rfl hl.1 rfl (Nat.le_of_ble_eq_true rfl) dX1_greyGap_113 (Nat.zero_le _) (Nat.zero_le _) (fun r hr => ?_)
              subst hr
              refine lv_goto (tgt := 120) G.1 G.2.1 dX1_greyGap_116 (by decide) ?_
              refine lv_istore_n (lv' := [(2, .int (nI (sp_ap (sp_pass S j1 1 x1) (sp_pass S j1 2 x1)))), (6, .int (nI (sp_pass S j1 2 x1))), (5, .int (nI (sp_pass S j1 1 x1))), (4, .int (nI (sp_pass S j1 0 x1))), (0, .ref (q 0)), (1, .int (nI j1)), (3, .int (nI x1))]) G.1 G.2.1 dX1_greyGap_120 rfl hl (by decide) rfl (fun ls hl => ?_)
              refine gn_iinc (lv' := [(3, .int (nI (x1 + 1))), (2, .int (nI (sp_ap (sp_pass S j1 1 x1) (sp_pass S j1 2 x1)))), (6, .int (nI (sp_pass S j1 2 x1))), (5, .int (nI (sp_pass S j1 1 x1))), (4, .int (nI (sp_pass S j1 0 x1))), (0, .ref (q 0)), (1, .int (nI j1))]) (n := 1) G dX1_greyGap_121 hl (k := 6) rfl (by decide) rfl (fun ls hl => ?_)
              refine lv_goto (tgt := 18) G.1 G.2.1 dX1_greyGap_124 (by decide) ?_
              exact ih1 (x1 + 1) (by omega) _ _ _ (mAt_cast (rfl) hX) hS _ (by have e9 : sp_greyTo S j1 (x1 + 1) = sp_ap (sp_pass S j1 1 x1) (sp_pass S j1 2 x1) := (by rw [sp_grey_s]; (try simp only [sp_ap_mm] at h_60); (try simp only [sp_ap_mm] at h_83); (try simp only [sp_ap_mm] at h_106); (try simp only [sp_ap_mm]); omega); rw [e9]; exact lv_sub hl [5, 6, 1, 0] rfl)
    exact loop1 256 0 (by omega) _ _ _ (mAt_cast (rfl) hX) hS _ (lv_sub hl [2, 3, 1, 0] rfl)
  · have hZ : sp_m3 (gbn (gb i1 (N 5))) 1 1 ≠ 0 := sp_z_f h_9
    refine lv_iconst (v := nI 0) G.1 G.2.1 dX1_greyGap_12 (by decide) ?_
    have hth : sp_m3 (gbn (gb i1 (N 5))) 1 1 = sk_greyGap N S i1 := by
      unfold sk_greyGap
      exact sp_m3_gk (gb i1 (N 5)) (true) (true)
    exact W.iret G.1 G.2.1 G.2.2.1 (fun t ht hW => gQm_of hX hS ht ⟨hth, fun h => absurd (hth.trans h) hZ, (if_neg (fun h => hZ (hth.trans h))).symm, (if_neg (fun h => hZ (hth.trans h))).symm⟩) hS.2.2 dX1_greyGap_13 G.2.2.2.2.2.2
set_option maxRecDepth 100000 in
set_option maxHeartbeats 4000000 in
/-- join -/
theorem mX1_join (l : Launch) (D : va_G) (q : Nat → Nat) (cI cZ : ClassId) (N : Nat → Nat) (S : Nat → Nat → Nat) (fv : Nat → Nat) (th : Nat) (A : Nat → Prop) (hok : sp_ok N S) (hinv : sp_inv N S) (i1 i2 : Int32) : Met l yX1_join wsX1_join { frames := 6, cells := 0, slots := 0, locals := 149 } (va_Pc [.ref (q 0), .int i1, .int i2] (fun U => mAt D q cI cZ N S fv th A U U.heap)) (gQm D q cI cZ (fun r N2 S2 th2 => th2 = sk_join N S i1 i2 ∧ (sk_join N S i1 i2 = 0 → r = nI (sR_join N S i1 i2)) ∧ N2 = (if sk_join N S i1 i2 = 0 then sN_join N S i1 i2 else N) ∧ S2 = (if sk_join N S i1 i2 = 0 then sS_join N S i1 i2 else S)) A) 0 0 A := by
  refine gc_met [.ref (q 0), .int i1, .int i2] (by decide) rfl (Nat.le_of_ble_eq_true rfl) rfl ?_
  intro p e s m below meth c ls G hl hX
  have hS : va_S A s.heap s.heap [] := va_S.rf
  have hok9 := hok
  obtain ⟨⟨ok0, ok5⟩, ok1, ok2, ok3, ok4, ok6, ok7, ok8, ok12, ok13, ok14⟩ := hok9
  refine lv_aload_n G.1 G.2.1 dX1_join_0 rfl (lv_at hl 0 rfl) ?_
  refine lv_iload_n G.1 G.2.1 dX1_join_1 rfl (lv_at hl 1 rfl) ?_
  refine gc_v (As := [.int i1]) (rest := []) G.fix (mX1_isChain l D q cI cZ N S fv th A hok i1) (cwV 1 G.2.2.2.2.2.1 gX1_join_X1_isChain rfl rfl rfl (by decide +kernel) ⟨Nat.le_of_ble_eq_true rfl, Nat.le_of_ble_eq_true rfl⟩) mAt_blind (va_recv hX.2.1 hX.1 (ci := 1) (q0 := 0) rfl rfl) (fun U hU hW => by rw [hU]; exact hX.moved hW) rfl hl.1 rfl (Nat.le_of_ble_eq_true rfl) dX1_join_2 (Nat.zero_le _) (Nat.zero_le _) (fun r hr => ?_)
  subst hr
  refine lv_istore_n (lv' := [(3, .int (nI (gbn (gb i1 (N 5))))), (0, .ref (q 0)), (1, .int i1), (2, .int i2)]) G.1 G.2.1 dX1_join_5 rfl hl (by decide) rfl (fun ls hl => ?_)
  refine lv_iload_n G.1 G.2.1 dX1_join_6 rfl (lv_at hl 0 rfl) ?_
  refine gn_eqz G (by exact gbn_lt _) (tgt := 18) dX1_join_7 (by decide) (fun h_7 => ?_) (fun h_7 => ?_)
  · have hF_7 : gb i1 (N 5) = false := gbn_f h_7
    refine lv_iconst (v := nI 0) G.1 G.2.1 dX1_join_18 (by decide) ?_
    refine lv_istore (lv' := [(4, .int (nI 0)), (3, .int (nI (gbn (gb i1 (N 5))))), (0, .ref (q 0)), (1, .int i1), (2, .int i2)]) G.1 G.2.1 dX1_join_19 hl (by decide) rfl (fun ls hl => ?_)
    refine lv_aload_n G.1 G.2.1 dX1_join_21 rfl (lv_at hl 2 rfl) ?_
    refine lv_iload_n G.1 G.2.1 dX1_join_22 rfl (lv_at hl 1 rfl) ?_
    refine lv_iload_n G.1 G.2.1 dX1_join_23 rfl (lv_at hl 4 rfl) ?_
    refine gc_s (As := [.int i2]) (rest := [.int (nI (gbn (gb i1 (N 5)))), .ref (q 0)]) G.fix (mX1_isByte l i2) (va_cwS 1 G.2.2.2.2.2.1 gX1_join_X1_isByte rfl rfl rfl (by decide +kernel) ⟨Nat.le_of_ble_eq_true rfl, Nat.le_of_ble_eq_true rfl⟩) gc_blindT (fun _ _ _ => trivial) rfl hl.1 rfl (Nat.le_of_ble_eq_true rfl) dX1_join_24 (Nat.zero_le _) (Nat.zero_le _) (fun r hr => ?_)
    subst hr
    refine lv_iload G.1 G.2.1 dX1_join_27 (lv_at hl 0 rfl) ?_
    refine lv_iload_n G.1 G.2.1 dX1_join_29 rfl (lv_at hl 4 rfl) ?_
    refine lv_icmp_gt (tgt := 37) G.1 G.2.1 dX1_join_30 (by decide) (fun h_30 => ?_) (fun h_30 => ?_)
    · refine lv_iconst (v := nI 0) G.1 G.2.1 dX1_join_37 (by decide) ?_
      refine gm_mut (N' := N) (S' := S) (th' := (sp_m3 (gbn (gb i1 (N 5))) (gbn (gb i2 256)) 0)) (r := (nI (sp_z (sp_m3 (gbn (gb i1 (N 5))) (gbn (gb i2 256)) 0)))) (As := [.int (nI (gbn (gb i1 (N 5)))), .int (nI (gbn (gb i2 256))), .int (nI 0)]) (rest := []) G.fix (mX1_mayAll l D q cI cZ N S fv th A (gbn (gb i1 (N 5))) (gbn (gb i2 256)) 0 (by first | decide | exact gbn_lt _) (by first | decide | exact gbn_lt _) (by first | decide | exact gbn_lt _)) (cwV 3 G.2.2.2.2.2.1 gX1_join_X1_mayAll rfl rfl rfl (by decide +kernel) ⟨Nat.le_of_ble_eq_true rfl, Nat.le_of_ble_eq_true rfl⟩) hX hS rfl hl.1 rfl (Nat.le_of_ble_eq_true rfl) dX1_join_38 (Nat.zero_le _) (Nat.zero_le _) (fun fv H1 locs1 hX hS => ?_)
      refine gn_nez G (by exact sp_z_lt _) (tgt := 46) dX1_join_41 (by decide) (fun h_41 => ?_) (fun h_41 => ?_)
      · exact absurd (sp_z_t h_41) (fun z => sp_m3_c z rfl)
      · have hZ : sp_m3 (gbn (gb i1 (N 5))) (gbn (gb i2 256)) 0 ≠ 0 := sp_z_f h_41
        refine lv_iconst (v := nI 0) G.1 G.2.1 dX1_join_44 (by decide) ?_
        have hth : sp_m3 (gbn (gb i1 (N 5))) (gbn (gb i2 256)) 0 = sk_join N S i1 i2 := by
          unfold sk_join
          rw [hF_7]
          rw [show sA_join N S i1 i2 = false from by simp [sA_join, hF_7]]
          rfl
        exact W.iret G.1 G.2.1 G.2.2.1 (fun t ht hW => gQm_of hX hS ht ⟨hth, fun h => absurd (hth.trans h) hZ, (if_neg (fun h => hZ (hth.trans h))).symm, (if_neg (fun h => hZ (hth.trans h))).symm⟩) hS.2.2 dX1_join_45 G.2.2.2.2.2.2
    · refine lv_iconst (v := nI 1) G.1 G.2.1 dX1_join_33 (by decide) ?_
      refine lv_goto (tgt := 38) G.1 G.2.1 dX1_join_34 (by decide) ?_
      refine gm_mut (N' := N) (S' := S) (th' := (sp_m3 (gbn (gb i1 (N 5))) (gbn (gb i2 256)) 1)) (r := (nI (sp_z (sp_m3 (gbn (gb i1 (N 5))) (gbn (gb i2 256)) 1)))) (As := [.int (nI (gbn (gb i1 (N 5)))), .int (nI (gbn (gb i2 256))), .int (nI 1)]) (rest := []) G.fix (mX1_mayAll l D q cI cZ N S fv th A (gbn (gb i1 (N 5))) (gbn (gb i2 256)) 1 (by first | decide | exact gbn_lt _) (by first | decide | exact gbn_lt _) (by first | decide | exact gbn_lt _)) (cwV 3 G.2.2.2.2.2.1 gX1_join_X1_mayAll rfl rfl rfl (by decide +kernel) ⟨Nat.le_of_ble_eq_true rfl, Nat.le_of_ble_eq_true rfl⟩) hX hS rfl hl.1 rfl (Nat.le_of_ble_eq_true rfl) dX1_join_38 (Nat.zero_le _) (Nat.zero_le _) (fun fv H1 locs1 hX hS => ?_)
      refine gn_nez G (by exact sp_z_lt _) (tgt := 46) dX1_join_41 (by decide) (fun h_41 => ?_) (fun h_41 => ?_)
      · exact absurd (sp_z_t h_41) (fun z => sp_m3_a z (by rw [hF_7]; rfl))
      · have hZ : sp_m3 (gbn (gb i1 (N 5))) (gbn (gb i2 256)) 1 ≠ 0 := sp_z_f h_41
        refine lv_iconst (v := nI 0) G.1 G.2.1 dX1_join_44 (by decide) ?_
        have hth : sp_m3 (gbn (gb i1 (N 5))) (gbn (gb i2 256)) 1 = sk_join N S i1 i2 := by
          unfold sk_join
          rw [hF_7]
          rw [show sA_join N S i1 i2 = false from by simp [sA_join, hF_7]]
          rfl
        exact W.iret G.1 G.2.1 G.2.2.1 (fun t ht hW => gQm_of hX hS ht ⟨hth, fun h => absurd (hth.trans h) hZ, (if_neg (fun h => hZ (hth.trans h))).symm, (if_neg (fun h => hZ (hth.trans h))).symm⟩) hS.2.2 dX1_join_45 G.2.2.2.2.2.2
  · have hT_7 : gb i1 (N 5) = true := gbn_t h_7
    obtain ⟨j1, hj1, rfl⟩ := gb_of (by omega) hT_7
    have hg1 := gn_nI (show j1 < 2 ^ 31 by omega)
    refine lv_aload_n G.1 G.2.1 dX1_join_10 rfl (lv_at hl 1 rfl) ?_
    refine lv_iload_n G.1 G.2.1 dX1_join_11 rfl (lv_at hl 2 rfl) ?_
    refine gm_mut (N' := N) (S' := S) (th' := th) (r := (nI (sp_gap S j1))) (As := [.int (nI j1)]) (rest := []) G.fix (mX1_gapOf l D q cI cZ N S fv th A hok j1 (by first | omega | assumption | exact ok6 _ | apply hq)) (cwV 1 G.2.2.2.2.2.1 gX1_join_X1_gapOf rfl rfl rfl (by decide +kernel) ⟨Nat.le_of_ble_eq_true rfl, Nat.le_of_ble_eq_true rfl⟩) hX hS rfl hl.1 rfl (Nat.le_of_ble_eq_true rfl) dX1_join_12 (Nat.zero_le _) (Nat.zero_le _) (fun fv H1 locs1 hX hS => ?_)
    refine lv_goto (tgt := 19) G.1 G.2.1 dX1_join_15 (by decide) ?_
    have hgl : sp_gap S j1 ≤ 255 := sp_gapTo_le hok _
    refine lv_istore (lv' := [(4, .int (nI (sp_gap S j1))), (3, .int (nI (gbn (gb (nI j1) (N 5))))), (0, .ref (q 0)), (1, .int (nI j1)), (2, .int i2)]) G.1 G.2.1 dX1_join_19 hl (by decide) rfl (fun ls hl => ?_)
    refine lv_aload_n G.1 G.2.1 dX1_join_21 rfl (lv_at hl 2 rfl) ?_
    refine lv_iload_n G.1 G.2.1 dX1_join_22 rfl (lv_at hl 1 rfl) ?_
    refine lv_iload_n G.1 G.2.1 dX1_join_23 rfl (lv_at hl 4 rfl) ?_
    refine gc_s (As := [.int i2]) (rest := [.int (nI (gbn (gb (nI j1) (N 5)))), .ref (q 0)]) G.fix (mX1_isByte l i2) (va_cwS 1 G.2.2.2.2.2.1 gX1_join_X1_isByte rfl rfl rfl (by decide +kernel) ⟨Nat.le_of_ble_eq_true rfl, Nat.le_of_ble_eq_true rfl⟩) gc_blindT (fun _ _ _ => trivial) rfl hl.1 rfl (Nat.le_of_ble_eq_true rfl) dX1_join_24 (Nat.zero_le _) (Nat.zero_le _) (fun r hr => ?_)
    subst hr
    refine lv_iload G.1 G.2.1 dX1_join_27 (lv_at hl 0 rfl) ?_
    refine lv_iload_n G.1 G.2.1 dX1_join_29 rfl (lv_at hl 4 rfl) ?_
    refine lv_icmp_gt (tgt := 37) G.1 G.2.1 dX1_join_30 (by decide) (fun h_30 => ?_) (fun h_30 => ?_)
    · refine lv_iconst (v := nI 0) G.1 G.2.1 dX1_join_37 (by decide) ?_
      refine gm_mut (N' := N) (S' := S) (th' := (sp_m3 (gbn (gb (nI j1) (N 5))) (gbn (gb i2 256)) 0)) (r := (nI (sp_z (sp_m3 (gbn (gb (nI j1) (N 5))) (gbn (gb i2 256)) 0)))) (As := [.int (nI (gbn (gb (nI j1) (N 5)))), .int (nI (gbn (gb i2 256))), .int (nI 0)]) (rest := []) G.fix (mX1_mayAll l D q cI cZ N S fv th A (gbn (gb (nI j1) (N 5))) (gbn (gb i2 256)) 0 (by first | decide | exact gbn_lt _) (by first | decide | exact gbn_lt _) (by first | decide | exact gbn_lt _)) (cwV 3 G.2.2.2.2.2.1 gX1_join_X1_mayAll rfl rfl rfl (by decide +kernel) ⟨Nat.le_of_ble_eq_true rfl, Nat.le_of_ble_eq_true rfl⟩) hX hS rfl hl.1 rfl (Nat.le_of_ble_eq_true rfl) dX1_join_38 (Nat.zero_le _) (Nat.zero_le _) (fun fv H1 locs1 hX hS => ?_)
      refine gn_nez G (by exact sp_z_lt _) (tgt := 46) dX1_join_41 (by decide) (fun h_41 => ?_) (fun h_41 => ?_)
      · exact absurd (sp_z_t h_41) (fun z => sp_m3_c z rfl)
      · have hZ : sp_m3 (gbn (gb (nI j1) (N 5))) (gbn (gb i2 256)) 0 ≠ 0 := sp_z_f h_41
        refine lv_iconst (v := nI 0) G.1 G.2.1 dX1_join_44 (by decide) ?_
        have hth : sp_m3 (gbn (gb (nI j1) (N 5))) (gbn (gb i2 256)) 0 = sk_join N S (nI j1) i2 := by
          unfold sk_join
          rw [hT_7]
          rw [show sA_join N S (nI j1) i2 = true from by simp [sA_join, hT_7, hg1]]
          have e9 := gp_join_n hgl h_30
          rw [← hg1] at e9
          exact e9
        exact W.iret G.1 G.2.1 G.2.2.1 (fun t ht hW => gQm_of hX hS ht ⟨hth, fun h => absurd (hth.trans h) hZ, (if_neg (fun h => hZ (hth.trans h))).symm, (if_neg (fun h => hZ (hth.trans h))).symm⟩) hS.2.2 dX1_join_45 G.2.2.2.2.2.2
    · refine lv_iconst (v := nI 1) G.1 G.2.1 dX1_join_33 (by decide) ?_
      refine lv_goto (tgt := 38) G.1 G.2.1 dX1_join_34 (by decide) ?_
      refine gm_mut (N' := N) (S' := S) (th' := (sp_m3 (gbn (gb (nI j1) (N 5))) (gbn (gb i2 256)) 1)) (r := (nI (sp_z (sp_m3 (gbn (gb (nI j1) (N 5))) (gbn (gb i2 256)) 1)))) (As := [.int (nI (gbn (gb (nI j1) (N 5)))), .int (nI (gbn (gb i2 256))), .int (nI 1)]) (rest := []) G.fix (mX1_mayAll l D q cI cZ N S fv th A (gbn (gb (nI j1) (N 5))) (gbn (gb i2 256)) 1 (by first | decide | exact gbn_lt _) (by first | decide | exact gbn_lt _) (by first | decide | exact gbn_lt _)) (cwV 3 G.2.2.2.2.2.1 gX1_join_X1_mayAll rfl rfl rfl (by decide +kernel) ⟨Nat.le_of_ble_eq_true rfl, Nat.le_of_ble_eq_true rfl⟩) hX hS rfl hl.1 rfl (Nat.le_of_ble_eq_true rfl) dX1_join_38 (Nat.zero_le _) (Nat.zero_le _) (fun fv H1 locs1 hX hS => ?_)
      refine gn_nez G (by exact sp_z_lt _) (tgt := 46) dX1_join_41 (by decide) (fun h_41 => ?_) (fun h_41 => ?_)
      · have hZ : sp_m3 (gbn (gb (nI j1) (N 5))) (gbn (gb i2 256)) 1 = 0 := sp_z_t h_41
        have hTb_41 : gb i2 256 = true := gbn_t (sp_m3_b hZ)
        obtain ⟨j2, hj2, rfl⟩ := gb_of (by omega) hTb_41
        have hg2 := gn_nI (show j2 < 2 ^ 31 by omega)
        refine lv_iconst (v := nI 0) G.1 G.2.1 dX1_join_46 (by decide) ?_
        refine lv_istore (lv' := [(5, .int (nI 0)), (4, .int (nI (sp_gap S j1))), (3, .int (nI (gbn (gb (nI j1) (N 5))))), (0, .ref (q 0)), (1, .int (nI j1)), (2, .int (nI j2))]) G.1 G.2.1 dX1_join_47 hl (by decide) rfl (fun ls hl => ?_)
        have loop1 : ∀ (d1 x1 : Nat), x1 + d1 = 3 → ∀ (fv : Nat → Nat) (H9 : Heap) (locs9 : List Loc), mAt D q cI cZ N ((gs S 8 (sp_kpTo S j1 (x1 * 5)))) fv (sp_m3 (gbn (gb (nI j1) (N 5))) (gbn (gb (nI j2) 256)) 1) A s H9 → va_S A s.heap H9 locs9 → ∀ ls : Array Slot, lv_has ls 7 [(0, .ref (q 0)), (1, .int (nI j1)), (4, .int (nI (sp_gap S j1))), (5, .int (nI x1))] → W p l e { frames := 6, cells := 0, slots := 0, locals := 149 } s m ([.ref (q 0), .int (nI j1), .int (nI j2)] : List Value).toArray below meth c H9 locs9 0 0 (MQ below (gQm D q cI cZ (fun r N2 S2 th2 => th2 = sk_join N S (nI j1) (nI j2) ∧ (sk_join N S (nI j1) (nI j2) = 0 → r = nI (sR_join N S (nI j1) (nI j2))) ∧ N2 = (if sk_join N S (nI j1) (nI j2) = 0 then sN_join N S (nI j1) (nI j2) else N) ∧ S2 = (if sk_join N S (nI j1) (nI j2) = 0 then sS_join N S (nI j1) (nI j2) else S)) A) ([.ref (q 0), .int (nI j1), .int (nI j2)] : List Value).toArray s 0 0 A) (F0 m 49 ls []) := by
          intro d1
          induction d1 with
          | zero =>
            intro x1 hd1 fv H9 locs9 hX hS ls hl
            refine lv_iload G.1 G.2.1 dX1_join_49 (lv_at hl 3 rfl) ?_
            refine lv_iconst (v := nI 3) G.1 G.2.1 dX1_join_51 (by decide) ?_
            refine gn_ge G (by first | omega | assumption) (by first | omega | assumption) (tgt := 105) dX1_join_52 (by decide) (fun h_52 => ?_) (fun h_52 => absurd h_52 (by omega))
            refine lv_aload_n G.1 G.2.1 dX1_join_105 rfl (lv_at hl 0 rfl) ?_
            refine gm_get G hX (by decide +kernel) 8 (by decide) (by decide +kernel) rfl rfl rfl dX1_join_106 ?_
            refine lv_iload_n G.1 G.2.1 dX1_join_109 rfl (lv_at hl 1 rfl) ?_
            refine lv_iconst (v := nI 1) G.1 G.2.1 dX1_join_110 (by decide) ?_
            refine gm_zst (k := 8) (kp := 7) (len := 6) (F := S 9) (i := j1) (v := 1) (S' := (gs (gs S 8 (sp_kpTo S j1 (x1 * 5))) 9 (gu (S 9) j1 1))) (fv' := fv) G hX hS rfl (rfl) (by first | exact Or.inl rfl | exact Or.inr rfl) (by first | omega | assumption) (by decide) dX1_join_111 (fun H1 locs1 hX hS => ?_)
            have hX := mAt_cast (N' := gu N 9 (N 9 ||| 2 ^ j1)) (S' := (gs (gs S 8 (sp_kpTo S j1 (x1 * 5))) 9 (gu (S 9) j1 1))) (fv' := fv) (th' := (sp_m3 (gbn (gb (nI j1) (N 5))) (gbn (gb (nI j2) 256)) 1)) rfl hX
            refine lv_iload G.1 G.2.1 dX1_join_112 (lv_at hl 2 rfl) ?_
            have hth : sp_m3 (gbn (gb (nI j1) (N 5))) (gbn (gb (nI j2) 256)) 1 = sk_join N S (nI j1) (nI j2) := by
              unfold sk_join
              rw [hT_7]
              rw [show sA_join N S (nI j1) (nI j2) = true from by simp [sA_join, hT_7, hTb_41, hg1, hg2]]
              have e9 := gp_join_y hgl h_30
              rw [← hg1] at e9
              exact e9
            have hsk : sk_join N S (nI j1) (nI j2) = 0 := hth.symm.trans hZ
            exact W.iret G.1 G.2.1 G.2.2.1 (fun t ht hW => gQm_of hX hS ht ⟨hth, fun _ => (by show nI _ = nI _; simp only [sR_join, hg1, hg2]), (by rw [if_pos hsk]; simp only [sN_join, hg1, hg2]), (by rw [if_pos hsk]; simp only [sS_join, hg1]; rw [show x1 = 3 from by omega])⟩) hS.2.2 dX1_join_114 G.2.2.2.2.2.2
          | succ d1 ih1 =>
            intro x1 hd1 fv H9 locs9 hX hS ls hl
            refine lv_iload G.1 G.2.1 dX1_join_49 (lv_at hl 3 rfl) ?_
            refine lv_iconst (v := nI 3) G.1 G.2.1 dX1_join_51 (by decide) ?_
            refine gn_ge G (by first | omega | assumption) (by first | omega | assumption) (tgt := 105) dX1_join_52 (by decide) (fun h_52 => absurd h_52 (by omega)) (fun h_52 => ?_)
            refine lv_iconst (v := nI 0) G.1 G.2.1 dX1_join_55 (by decide) ?_
            refine lv_istore (lv' := [(6, .int (nI 0)), (0, .ref (q 0)), (1, .int (nI j1)), (4, .int (nI (sp_gap S j1))), (5, .int (nI x1))]) G.1 G.2.1 dX1_join_56 hl (by decide) rfl (fun ls hl => ?_)
            have loop2 : ∀ (d2 x2 : Nat), x2 + d2 = 5 → ∀ (fv : Nat → Nat) (H9 : Heap) (locs9 : List Loc), mAt D q cI cZ N ((gs S 8 (sp_kpTo S j1 (x1 * 5 + x2)))) fv (sp_m3 (gbn (gb (nI j1) (N 5))) (gbn (gb (nI j2) 256)) 1) A s H9 → va_S A s.heap H9 locs9 → ∀ ls : Array Slot, lv_has ls 7 [(0, .ref (q 0)), (1, .int (nI j1)), (4, .int (nI (sp_gap S j1))), (5, .int (nI x1)), (6, .int (nI x2))] → W p l e { frames := 6, cells := 0, slots := 0, locals := 149 } s m ([.ref (q 0), .int (nI j1), .int (nI j2)] : List Value).toArray below meth c H9 locs9 0 0 (MQ below (gQm D q cI cZ (fun r N2 S2 th2 => th2 = sk_join N S (nI j1) (nI j2) ∧ (sk_join N S (nI j1) (nI j2) = 0 → r = nI (sR_join N S (nI j1) (nI j2))) ∧ N2 = (if sk_join N S (nI j1) (nI j2) = 0 then sN_join N S (nI j1) (nI j2) else N) ∧ S2 = (if sk_join N S (nI j1) (nI j2) = 0 then sS_join N S (nI j1) (nI j2) else S)) A) ([.ref (q 0), .int (nI j1), .int (nI j2)] : List Value).toArray s 0 0 A) (F0 m 58 ls []) := by
              intro d2
              induction d2 with
              | zero =>
                intro x2 hd2 fv H9 locs9 hX hS ls hl
                refine lv_iload G.1 G.2.1 dX1_join_58 (lv_at hl 4 rfl) ?_
                refine lv_iconst (v := nI 5) G.1 G.2.1 dX1_join_60 (by decide) ?_
                refine gn_ge G (by first | omega | assumption) (by first | omega | assumption) (tgt := 99) dX1_join_61 (by decide) (fun h_61 => ?_) (fun h_61 => absurd h_61 (by omega))
                refine gn_iinc (lv' := [(5, .int (nI (x1 + 1))), (0, .ref (q 0)), (1, .int (nI j1)), (4, .int (nI (sp_gap S j1))), (6, .int (nI x2))]) (n := 1) G dX1_join_99 hl (k := 3) rfl (by decide) rfl (fun ls hl => ?_)
                refine lv_goto (tgt := 49) G.1 G.2.1 dX1_join_102 (by decide) ?_
                exact ih1 (x1 + 1) (by omega) _ _ _ (mAt_cast (by rw [show (x1 + 1) * 5 = x1 * 5 + x2 from by omega]) hX) hS _ (lv_sub hl [1, 2, 3, 0] rfl)
              | succ d2 ih2 =>
                intro x2 hd2 fv H9 locs9 hX hS ls hl
                refine lv_iload G.1 G.2.1 dX1_join_58 (lv_at hl 4 rfl) ?_
                refine lv_iconst (v := nI 5) G.1 G.2.1 dX1_join_60 (by decide) ?_
                refine gn_ge G (by first | omega | assumption) (by first | omega | assumption) (tgt := 99) dX1_join_61 (by decide) (fun h_61 => absurd h_61 (by omega)) (fun h_61 => ?_)
                refine lv_aload_n G.1 G.2.1 dX1_join_64 rfl (lv_at hl 0 rfl) ?_
                refine gm_get G hX (by decide +kernel) 10 (by decide) (by decide +kernel) rfl rfl rfl dX1_join_65 ?_
                refine lv_bipush (v := nI 15) G.1 G.2.1 dX1_join_68 (by decide) ?_
                refine lv_iload_n G.1 G.2.1 dX1_join_70 rfl (lv_at hl 1 rfl) ?_
                refine gn_imul G dX1_join_71 ?_
                refine lv_iconst (v := nI 5) G.1 G.2.1 dX1_join_72 (by decide) ?_
                refine lv_iload G.1 G.2.1 dX1_join_73 (lv_at hl 3 rfl) ?_
                refine gn_imul G dX1_join_75 ?_
                refine gn_iadd G dX1_join_76 ?_
                refine lv_iload G.1 G.2.1 dX1_join_77 (lv_at hl 4 rfl) ?_
                refine gn_iadd G dX1_join_79 ?_
                refine lv_aload_n G.1 G.2.1 dX1_join_80 rfl (lv_at hl 0 rfl) ?_
                refine lv_iload_n G.1 G.2.1 dX1_join_81 rfl (lv_at hl 1 rfl) ?_
                refine lv_iload G.1 G.2.1 dX1_join_82 (lv_at hl 3 rfl) ?_
                refine lv_iload G.1 G.2.1 dX1_join_84 (lv_at hl 4 rfl) ?_
                refine gc_s (As := [.int (nI x2)]) (rest := [.int (nI x1), .int (nI j1), .ref (q 0), .int (nI (((15 * j1) + (5 * x1)) + x2)), .ref (q 10)]) G.fix (mX1_placeAt l x2 (by first | omega | assumption)) (va_cwS 1 G.2.2.2.2.2.1 gX1_join_X1_placeAt rfl rfl rfl (by decide +kernel) ⟨Nat.le_of_ble_eq_true rfl, Nat.le_of_ble_eq_true rfl⟩) gc_blindT (fun _ _ _ => trivial) rfl hl.1 rfl (Nat.le_of_ble_eq_true rfl) dX1_join_86 (Nat.zero_le _) (Nat.zero_le _) (fun r hr => ?_)
                subst hr
                have hok2 := sp_ok_kp (ch := j1) (k := x1 * 5 + x2) hok
                refine gm_mut (N' := N) (S' := (gs S 8 (sp_kpTo S j1 (x1 * 5 + x2)))) (th' := (sp_m3 (gbn (gb (nI j1) (N 5))) (gbn (gb (nI j2) 256)) 1)) (r := nI (sp_pass (gs S 8 (sp_kpTo S j1 (x1 * 5 + x2))) j1 x1 (sp_vop x2))) (As := [.int (nI j1), .int (nI x1), .int (nI (sp_vop x2))]) (rest := [.int (nI (((15 * j1) + (5 * x1)) + x2)), .ref (q 10)]) G.fix (mX1_throughOf l D q cI cZ N ((gs S 8 (sp_kpTo S j1 (x1 * 5 + x2)))) fv (sp_m3 (gbn (gb (nI j1) (N 5))) (gbn (gb (nI j2) 256)) 1) A hok2 j1 x1 (sp_vop x2) (by omega) (by omega) sp_vop_le) (cwV 3 G.2.2.2.2.2.1 gX1_join_X1_throughOf rfl rfl rfl (by decide +kernel) ⟨Nat.le_of_ble_eq_true rfl, Nat.le_of_ble_eq_true rfl⟩) hX hS rfl hl.1 rfl (Nat.le_of_ble_eq_true rfl) dX1_join_89 (Nat.zero_le _) (Nat.zero_le _) (fun fv H1 locs1 hX hS => ?_)
                rw [sp_pass_8]
                refine gm_ast (k := 10) (kp := 9) (len := 90) (F := (sp_kpTo S j1 (x1 * 5 + x2))) (i := ((15 * j1) + (5 * x1)) + x2) (v := sp_pass S j1 x1 (sp_vop x2)) (S' := (gs S 8 (sp_kpTo S j1 (x1 * 5 + (x2 + 1))))) (fv' := fv) G hX hS rfl (by rw [show ((15 * j1) + (5 * x1)) + x2 = j1 * 15 + (x1 * 5 + x2) from by omega, sp_kp_m (by omega)]; rfl) (by first | omega | assumption) (by decide) dX1_join_92 (fun H1 locs1 hX hS => ?_)
                refine gn_iinc (lv' := [(6, .int (nI (x2 + 1))), (0, .ref (q 0)), (1, .int (nI j1)), (4, .int (nI (sp_gap S j1))), (5, .int (nI x1))]) (n := 1) G dX1_join_93 hl (k := 4) rfl (by decide) rfl (fun ls hl => ?_)
                refine lv_goto (tgt := 58) G.1 G.2.1 dX1_join_96 (by decide) ?_
                exact ih2 (x2 + 1) (by omega) _ _ _ (mAt_cast (rfl) hX) hS _ (lv_sub hl [1, 2, 3, 4, 0] rfl)
            exact loop2 5 0 (by omega) _ _ _ (mAt_cast (rfl) hX) hS _ (lv_sub hl [1, 2, 3, 4, 0] rfl)
        exact loop1 3 0 (by omega) _ _ _ (mAt_cast (rfl) hX) hS _ (lv_sub hl [3, 4, 1, 0] rfl)
      · have hZ : sp_m3 (gbn (gb (nI j1) (N 5))) (gbn (gb i2 256)) 1 ≠ 0 := sp_z_f h_41
        refine lv_iconst (v := nI 0) G.1 G.2.1 dX1_join_44 (by decide) ?_
        have hth : sp_m3 (gbn (gb (nI j1) (N 5))) (gbn (gb i2 256)) 1 = sk_join N S (nI j1) i2 := by
          unfold sk_join
          rw [hT_7]
          rw [show sA_join N S (nI j1) i2 = true from by simp [sA_join, hT_7, hg1]]
          have e9 := gp_join_y hgl h_30
          rw [← hg1] at e9
          exact e9
        exact W.iret G.1 G.2.1 G.2.2.1 (fun t ht hW => gQm_of hX hS ht ⟨hth, fun h => absurd (hth.trans h) hZ, (if_neg (fun h => hZ (hth.trans h))).symm, (if_neg (fun h => hZ (hth.trans h))).symm⟩) hS.2.2 dX1_join_45 G.2.2.2.2.2.2
set_option maxRecDepth 100000 in
set_option maxHeartbeats 4000000 in
/-- joined -/
theorem mX1_joined (l : Launch) (D : va_G) (q : Nat → Nat) (cI cZ : ClassId) (N : Nat → Nat) (S : Nat → Nat → Nat) (fv : Nat → Nat) (th : Nat) (A : Nat → Prop) (hok : sp_ok N S) (hinv : sp_inv N S) (i1 i2 i3 : Int32) : Met l yX1_joined wsX1_joined { frames := 2, cells := 0, slots := 0, locals := 44 } (va_Pc [.ref (q 0), .int i1, .int i2, .int i3] (fun U => mAt D q cI cZ N S fv th A U U.heap)) (gQm D q cI cZ (fun r N2 S2 th2 => th2 = sk_joined N S i1 i2 i3 ∧ (sk_joined N S i1 i2 i3 = 0 → r = nI (sR_joined N S i1 i2 i3)) ∧ N2 = (if sk_joined N S i1 i2 i3 = 0 then sN_joined N S i1 i2 i3 else N) ∧ S2 = (if sk_joined N S i1 i2 i3 = 0 then sS_joined N S i1 i2 i3 else S)) A) 0 0 A := by
  refine gc_met [.ref (q 0), .int i1, .int i2, .int i3] (by decide) rfl (Nat.le_of_ble_eq_true rfl) rfl ?_
  intro p e s m below meth c ls G hl hX
  have hS : va_S A s.heap s.heap [] := va_S.rf
  have hok9 := hok
  obtain ⟨⟨ok0, ok5⟩, ok1, ok2, ok3, ok4, ok6, ok7, ok8, ok12, ok13, ok14⟩ := hok9
  refine lv_aload_n G.1 G.2.1 dX1_joined_0 rfl (lv_at hl 0 rfl) ?_
  refine lv_iload_n G.1 G.2.1 dX1_joined_1 rfl (lv_at hl 1 rfl) ?_
  refine gc_v (As := [.int i1]) (rest := []) G.fix (mX1_isChain l D q cI cZ N S fv th A hok i1) (cwV 1 G.2.2.2.2.2.1 gX1_joined_X1_isChain rfl rfl rfl (by decide +kernel) ⟨Nat.le_of_ble_eq_true rfl, Nat.le_of_ble_eq_true rfl⟩) mAt_blind (va_recv hX.2.1 hX.1 (ci := 1) (q0 := 0) rfl rfl) (fun U hU hW => by rw [hU]; exact hX.moved hW) rfl hl.1 rfl (Nat.le_of_ble_eq_true rfl) dX1_joined_2 (Nat.zero_le _) (Nat.zero_le _) (fun r hr => ?_)
  subst hr
  refine gn_eqz G (by exact gbn_lt _) (tgt := 19) dX1_joined_5 (by decide) (fun h_5 => ?_) (fun h_5 => ?_)
  · have hF_5 : gb i1 (N 5) = false := gbn_f h_5
    refine lv_iconst (v := nI 0) G.1 G.2.1 dX1_joined_19 (by decide) ?_
    refine lv_istore (lv' := [(4, .int (nI 0)), (0, .ref (q 0)), (1, .int i1), (2, .int i2), (3, .int i3)]) G.1 G.2.1 dX1_joined_20 hl (by decide) rfl (fun ls hl => ?_)
    refine lv_aload_n G.1 G.2.1 dX1_joined_22 rfl (lv_at hl 1 rfl) ?_
    refine lv_iload G.1 G.2.1 dX1_joined_23 (lv_at hl 0 rfl) ?_
    refine lv_iload_n G.1 G.2.1 dX1_joined_25 rfl (lv_at hl 4 rfl) ?_
    refine gc_s (As := [.int i3]) (rest := [.int (nI 0), .ref (q 0)]) G.fix (mX1_isByte l i3) (va_cwS 1 G.2.2.2.2.2.1 gX1_joined_X1_isByte rfl rfl rfl (by decide +kernel) ⟨Nat.le_of_ble_eq_true rfl, Nat.le_of_ble_eq_true rfl⟩) gc_blindT (fun _ _ _ => trivial) rfl hl.1 rfl (Nat.le_of_ble_eq_true rfl) dX1_joined_26 (Nat.zero_le _) (Nat.zero_le _) (fun r hr => ?_)
    subst hr
    refine lv_iload G.1 G.2.1 dX1_joined_29 (lv_at hl 0 rfl) ?_
    refine gn_eqz G (by decide) (tgt := 47) dX1_joined_31 (by decide) (fun h_31 => ?_) (fun h_31 => absurd h_31 (by decide))
    refine lv_iconst (v := nI 0) G.1 G.2.1 dX1_joined_47 (by decide) ?_
    refine gm_mut (N' := N) (S' := S) (th' := (sp_m3 0 (gbn (gb i3 256)) 0)) (r := (nI (sp_z (sp_m3 0 (gbn (gb i3 256)) 0)))) (As := [.int (nI 0), .int (nI (gbn (gb i3 256))), .int (nI 0)]) (rest := []) G.fix (mX1_mayAll l D q cI cZ N S fv th A 0 (gbn (gb i3 256)) 0 (by first | decide | exact gbn_lt _) (by first | decide | exact gbn_lt _) (by first | decide | exact gbn_lt _)) (cwV 3 G.2.2.2.2.2.1 gX1_joined_X1_mayAll rfl rfl rfl (by decide +kernel) ⟨Nat.le_of_ble_eq_true rfl, Nat.le_of_ble_eq_true rfl⟩) hX hS rfl hl.1 rfl (Nat.le_of_ble_eq_true rfl) dX1_joined_48 (Nat.zero_le _) (Nat.zero_le _) (fun fv H1 locs1 hX hS => ?_)
    refine gn_nez G (by exact sp_z_lt _) (tgt := 56) dX1_joined_51 (by decide) (fun h_51 => ?_) (fun h_51 => ?_)
    · exact absurd (sp_z_t h_51) (fun z => sp_m3_c z rfl)
    · have hZ : sp_m3 0 (gbn (gb i3 256)) 0 ≠ 0 := sp_z_f h_51
      refine lv_iconst (v := nI 0) G.1 G.2.1 dX1_joined_54 (by decide) ?_
      have hth : sp_m3 0 (gbn (gb i3 256)) 0 = sk_joined N S i1 i2 i3 := by
        unfold sk_joined
        rw [show sA_joined N S i1 i2 i3 = false from by simp [sA_joined, hF_5] <;> omega]
        rfl
      exact W.iret G.1 G.2.1 G.2.2.1 (fun t ht hW => gQm_of hX hS ht ⟨hth, fun h => absurd (hth.trans h) hZ, (if_neg (fun h => hZ (hth.trans h))).symm, (if_neg (fun h => hZ (hth.trans h))).symm⟩) hS.2.2 dX1_joined_55 G.2.2.2.2.2.2
  · have hT_5 : gb i1 (N 5) = true := gbn_t h_5
    obtain ⟨j1, hj1, rfl⟩ := gb_of (by omega) hT_5
    have hg1 := gn_nI (show j1 < 2 ^ 31 by omega)
    refine lv_iload_n G.1 G.2.1 dX1_joined_8 rfl (lv_at hl 2 rfl) ?_
    refine gc_s (As := [.int i2]) (rest := []) G.fix (mX1_isThird l i2) (va_cwS 1 G.2.2.2.2.2.1 gX1_joined_X1_isThird rfl rfl rfl (by decide +kernel) ⟨Nat.le_of_ble_eq_true rfl, Nat.le_of_ble_eq_true rfl⟩) gc_blindT (fun _ _ _ => trivial) rfl hl.1 rfl (Nat.le_of_ble_eq_true rfl) dX1_joined_9 (Nat.zero_le _) (Nat.zero_le _) (fun r hr => ?_)
    subst hr
    refine gn_eqz G (by exact gbn_lt _) (tgt := 19) dX1_joined_12 (by decide) (fun h_12 => ?_) (fun h_12 => ?_)
    · have hF_12 : gb i2 3 = false := gbn_f h_12
      refine lv_iconst (v := nI 0) G.1 G.2.1 dX1_joined_19 (by decide) ?_
      refine lv_istore (lv' := [(4, .int (nI 0)), (0, .ref (q 0)), (1, .int (nI j1)), (2, .int i2), (3, .int i3)]) G.1 G.2.1 dX1_joined_20 hl (by decide) rfl (fun ls hl => ?_)
      refine lv_aload_n G.1 G.2.1 dX1_joined_22 rfl (lv_at hl 1 rfl) ?_
      refine lv_iload G.1 G.2.1 dX1_joined_23 (lv_at hl 0 rfl) ?_
      refine lv_iload_n G.1 G.2.1 dX1_joined_25 rfl (lv_at hl 4 rfl) ?_
      refine gc_s (As := [.int i3]) (rest := [.int (nI 0), .ref (q 0)]) G.fix (mX1_isByte l i3) (va_cwS 1 G.2.2.2.2.2.1 gX1_joined_X1_isByte rfl rfl rfl (by decide +kernel) ⟨Nat.le_of_ble_eq_true rfl, Nat.le_of_ble_eq_true rfl⟩) gc_blindT (fun _ _ _ => trivial) rfl hl.1 rfl (Nat.le_of_ble_eq_true rfl) dX1_joined_26 (Nat.zero_le _) (Nat.zero_le _) (fun r hr => ?_)
      subst hr
      refine lv_iload G.1 G.2.1 dX1_joined_29 (lv_at hl 0 rfl) ?_
      refine gn_eqz G (by decide) (tgt := 47) dX1_joined_31 (by decide) (fun h_31 => ?_) (fun h_31 => absurd h_31 (by decide))
      refine lv_iconst (v := nI 0) G.1 G.2.1 dX1_joined_47 (by decide) ?_
      refine gm_mut (N' := N) (S' := S) (th' := (sp_m3 0 (gbn (gb i3 256)) 0)) (r := (nI (sp_z (sp_m3 0 (gbn (gb i3 256)) 0)))) (As := [.int (nI 0), .int (nI (gbn (gb i3 256))), .int (nI 0)]) (rest := []) G.fix (mX1_mayAll l D q cI cZ N S fv th A 0 (gbn (gb i3 256)) 0 (by first | decide | exact gbn_lt _) (by first | decide | exact gbn_lt _) (by first | decide | exact gbn_lt _)) (cwV 3 G.2.2.2.2.2.1 gX1_joined_X1_mayAll rfl rfl rfl (by decide +kernel) ⟨Nat.le_of_ble_eq_true rfl, Nat.le_of_ble_eq_true rfl⟩) hX hS rfl hl.1 rfl (Nat.le_of_ble_eq_true rfl) dX1_joined_48 (Nat.zero_le _) (Nat.zero_le _) (fun fv H1 locs1 hX hS => ?_)
      refine gn_nez G (by exact sp_z_lt _) (tgt := 56) dX1_joined_51 (by decide) (fun h_51 => ?_) (fun h_51 => ?_)
      · exact absurd (sp_z_t h_51) (fun z => sp_m3_c z rfl)
      · have hZ : sp_m3 0 (gbn (gb i3 256)) 0 ≠ 0 := sp_z_f h_51
        refine lv_iconst (v := nI 0) G.1 G.2.1 dX1_joined_54 (by decide) ?_
        have hth : sp_m3 0 (gbn (gb i3 256)) 0 = sk_joined N S (nI j1) i2 i3 := by
          unfold sk_joined
          rw [show sA_joined N S (nI j1) i2 i3 = false from by simp [sA_joined, hT_5, hF_12, hg1] <;> omega]
          rfl
        exact W.iret G.1 G.2.1 G.2.2.1 (fun t ht hW => gQm_of hX hS ht ⟨hth, fun h => absurd (hth.trans h) hZ, (if_neg (fun h => hZ (hth.trans h))).symm, (if_neg (fun h => hZ (hth.trans h))).symm⟩) hS.2.2 dX1_joined_55 G.2.2.2.2.2.2
    · have hT_12 : gb i2 3 = true := gbn_t h_12
      obtain ⟨j2, hj2, rfl⟩ := gb_of (by omega) hT_12
      have hg2 := gn_nI (show j2 < 2 ^ 31 by omega)
      refine lv_iconst (v := nI 1) G.1 G.2.1 dX1_joined_15 (by decide) ?_
      refine lv_goto (tgt := 20) G.1 G.2.1 dX1_joined_16 (by decide) ?_
      refine lv_istore (lv' := [(4, .int (nI 1)), (0, .ref (q 0)), (1, .int (nI j1)), (2, .int (nI j2)), (3, .int i3)]) G.1 G.2.1 dX1_joined_20 hl (by decide) rfl (fun ls hl => ?_)
      refine lv_aload_n G.1 G.2.1 dX1_joined_22 rfl (lv_at hl 1 rfl) ?_
      refine lv_iload G.1 G.2.1 dX1_joined_23 (lv_at hl 0 rfl) ?_
      refine lv_iload_n G.1 G.2.1 dX1_joined_25 rfl (lv_at hl 4 rfl) ?_
      refine gc_s (As := [.int i3]) (rest := [.int (nI 1), .ref (q 0)]) G.fix (mX1_isByte l i3) (va_cwS 1 G.2.2.2.2.2.1 gX1_joined_X1_isByte rfl rfl rfl (by decide +kernel) ⟨Nat.le_of_ble_eq_true rfl, Nat.le_of_ble_eq_true rfl⟩) gc_blindT (fun _ _ _ => trivial) rfl hl.1 rfl (Nat.le_of_ble_eq_true rfl) dX1_joined_26 (Nat.zero_le _) (Nat.zero_le _) (fun r hr => ?_)
      subst hr
      refine lv_iload G.1 G.2.1 dX1_joined_29 (lv_at hl 0 rfl) ?_
      refine gn_eqz G (by decide) (tgt := 47) dX1_joined_31 (by decide) (fun h_31 => absurd h_31 (by decide)) (fun h_31 => ?_)
      refine lv_aload_n G.1 G.2.1 dX1_joined_34 rfl (lv_at hl 1 rfl) ?_
      refine gm_get G hX (by decide +kernel) 8 (by decide) (by decide +kernel) rfl rfl rfl dX1_joined_35 ?_
      refine lv_iload_n G.1 G.2.1 dX1_joined_38 rfl (lv_at hl 2 rfl) ?_
      refine gm_zld (k := 8) (kp := 7) (len := 6) (F := S 9) G hX rfl (by first | omega | assumption) (by decide) dX1_joined_39 ?_
      rw [show S 9 j1 = sp_bit (N 9) j1 from (hinv.2.2.2.2.2.1 _ (by omega)).1]
      refine gn_eqz G (by exact sp_b31 _ _) (tgt := 47) dX1_joined_40 (by decide) (fun h_40 => ?_) (fun h_40 => ?_)
      · have hu_40 := h_40
        refine lv_iconst (v := nI 0) G.1 G.2.1 dX1_joined_47 (by decide) ?_
        refine gm_mut (N' := N) (S' := S) (th' := (sp_m3 1 (gbn (gb i3 256)) 0)) (r := (nI (sp_z (sp_m3 1 (gbn (gb i3 256)) 0)))) (As := [.int (nI 1), .int (nI (gbn (gb i3 256))), .int (nI 0)]) (rest := []) G.fix (mX1_mayAll l D q cI cZ N S fv th A 1 (gbn (gb i3 256)) 0 (by first | decide | exact gbn_lt _) (by first | decide | exact gbn_lt _) (by first | decide | exact gbn_lt _)) (cwV 3 G.2.2.2.2.2.1 gX1_joined_X1_mayAll rfl rfl rfl (by decide +kernel) ⟨Nat.le_of_ble_eq_true rfl, Nat.le_of_ble_eq_true rfl⟩) hX hS rfl hl.1 rfl (Nat.le_of_ble_eq_true rfl) dX1_joined_48 (Nat.zero_le _) (Nat.zero_le _) (fun fv H1 locs1 hX hS => ?_)
        refine gn_nez G (by exact sp_z_lt _) (tgt := 56) dX1_joined_51 (by decide) (fun h_51 => ?_) (fun h_51 => ?_)
        · exact absurd (sp_z_t h_51) (fun z => sp_m3_c z rfl)
        · have hZ : sp_m3 1 (gbn (gb i3 256)) 0 ≠ 0 := sp_z_f h_51
          refine lv_iconst (v := nI 0) G.1 G.2.1 dX1_joined_54 (by decide) ?_
          have hth : sp_m3 1 (gbn (gb i3 256)) 0 = sk_joined N S (nI j1) (nI j2) i3 := by
            unfold sk_joined
            rw [show sA_joined N S (nI j1) (nI j2) i3 = true from by simp [sA_joined, hT_5, hT_12, h_40, hg1, hg2] <;> omega]
            rw [show sC_joined N S (nI j1) (nI j2) i3 = false from by simp [sC_joined, hT_5, hT_12, h_40, hg1, hg2] <;> omega]
            exact sp_m3_gk (true) (gb i3 256) (false)
          exact W.iret G.1 G.2.1 G.2.2.1 (fun t ht hW => gQm_of hX hS ht ⟨hth, fun h => absurd (hth.trans h) hZ, (if_neg (fun h => hZ (hth.trans h))).symm, (if_neg (fun h => hZ (hth.trans h))).symm⟩) hS.2.2 dX1_joined_55 G.2.2.2.2.2.2
      · have hu_40 := h_40
        have hb8 := sp_bit_lt (N 9) j1
        have hC1 : sp_bit (N 9) j1 = 1 := by omega
        refine lv_iconst (v := nI 1) G.1 G.2.1 dX1_joined_43 (by decide) ?_
        refine lv_goto (tgt := 48) G.1 G.2.1 dX1_joined_44 (by decide) ?_
        refine gm_mut (N' := N) (S' := S) (th' := (sp_m3 1 (gbn (gb i3 256)) 1)) (r := (nI (sp_z (sp_m3 1 (gbn (gb i3 256)) 1)))) (As := [.int (nI 1), .int (nI (gbn (gb i3 256))), .int (nI 1)]) (rest := []) G.fix (mX1_mayAll l D q cI cZ N S fv th A 1 (gbn (gb i3 256)) 1 (by first | decide | exact gbn_lt _) (by first | decide | exact gbn_lt _) (by first | decide | exact gbn_lt _)) (cwV 3 G.2.2.2.2.2.1 gX1_joined_X1_mayAll rfl rfl rfl (by decide +kernel) ⟨Nat.le_of_ble_eq_true rfl, Nat.le_of_ble_eq_true rfl⟩) hX hS rfl hl.1 rfl (Nat.le_of_ble_eq_true rfl) dX1_joined_48 (Nat.zero_le _) (Nat.zero_le _) (fun fv H1 locs1 hX hS => ?_)
        refine gn_nez G (by exact sp_z_lt _) (tgt := 56) dX1_joined_51 (by decide) (fun h_51 => ?_) (fun h_51 => ?_)
        · have hZ : sp_m3 1 (gbn (gb i3 256)) 1 = 0 := sp_z_t h_51
          have hTb_51 : gb i3 256 = true := gbn_t (sp_m3_b hZ)
          obtain ⟨j3, hj3, rfl⟩ := gb_of (by omega) hTb_51
          have hg3 := gn_nI (show j3 < 2 ^ 31 by omega)
          refine lv_iconst (v := nI 0) G.1 G.2.1 dX1_joined_56 (by decide) ?_
          refine lv_istore (lv' := [(5, .int (nI 0)), (4, .int (nI 1)), (0, .ref (q 0)), (1, .int (nI j1)), (2, .int (nI j2)), (3, .int (nI j3))]) G.1 G.2.1 dX1_joined_57 hl (by decide) rfl (fun ls hl => ?_)
          have loop1 : ∀ (d1 x1 : Nat), x1 + d1 = 5 → ∀ (H9 : Heap) (locs9 : List Loc), mAt D q cI cZ N S ((sp_rowTo (S 8) ((j1 * 3 + j2) * 5) fv x1)) (sp_m3 1 (gbn (gb (nI j3) 256)) 1) A s H9 → va_S A s.heap H9 locs9 → ∀ ls : Array Slot, lv_has ls 6 [(0, .ref (q 0)), (1, .int (nI j1)), (2, .int (nI j2)), (3, .int (nI j3)), (5, .int (nI x1))] → W p l e { frames := 2, cells := 0, slots := 0, locals := 44 } s m ([.ref (q 0), .int (nI j1), .int (nI j2), .int (nI j3)] : List Value).toArray below meth c H9 locs9 0 0 (MQ below (gQm D q cI cZ (fun r N2 S2 th2 => th2 = sk_joined N S (nI j1) (nI j2) (nI j3) ∧ (sk_joined N S (nI j1) (nI j2) (nI j3) = 0 → r = nI (sR_joined N S (nI j1) (nI j2) (nI j3))) ∧ N2 = (if sk_joined N S (nI j1) (nI j2) (nI j3) = 0 then sN_joined N S (nI j1) (nI j2) (nI j3) else N) ∧ S2 = (if sk_joined N S (nI j1) (nI j2) (nI j3) = 0 then sS_joined N S (nI j1) (nI j2) (nI j3) else S)) A) ([.ref (q 0), .int (nI j1), .int (nI j2), .int (nI j3)] : List Value).toArray s 0 0 A) (F0 m 59 ls []) := by
            intro d1
            induction d1 with
            | zero =>
              intro x1 hd1 H9 locs9 hX hS ls hl
              refine lv_iload G.1 G.2.1 dX1_joined_59 (lv_at hl 4 rfl) ?_
              refine lv_iconst (v := nI 5) G.1 G.2.1 dX1_joined_61 (by decide) ?_
              refine gn_ge G (by first | omega | assumption) (by first | omega | assumption) (tgt := 94) dX1_joined_62 (by decide) (fun h_62 => ?_) (fun h_62 => absurd h_62 (by omega))
              refine lv_aload_n G.1 G.2.1 dX1_joined_94 rfl (lv_at hl 0 rfl) ?_
              refine lv_iload_n G.1 G.2.1 dX1_joined_95 rfl (lv_at hl 3 rfl) ?_
              obtain rfl : x1 = 5 := by omega
              refine gc_v (As := [.int (nI j3)]) (rest := []) G.fix (mX1_between l D q cI cZ N S ((sp_rowTo (S 8) ((j1 * 3 + j2) * 5) fv 5)) (sp_m3 1 (gbn (gb (nI j3) 256)) 1) A j3 (by omega) (sp_rowTo_le ok8)) (cwV 1 G.2.2.2.2.2.1 gX1_joined_X1_between rfl rfl rfl (by decide +kernel) ⟨Nat.le_of_ble_eq_true rfl, Nat.le_of_ble_eq_true rfl⟩) mAt_blind (va_recv hX.2.1 hX.1 (ci := 1) (q0 := 0) rfl rfl) (fun U hU hW => by rw [hU]; exact hX.moved hW) rfl hl.1 rfl (Nat.le_of_ble_eq_true rfl) dX1_joined_96 (Nat.zero_le _) (Nat.zero_le _) (fun r hr => ?_)
              subst hr
              rw [sp_btw_row (by omega)]
              have hth : sp_m3 1 (gbn (gb (nI j3) 256)) 1 = sk_joined N S (nI j1) (nI j2) (nI j3) := by
                unfold sk_joined
                rw [show sA_joined N S (nI j1) (nI j2) (nI j3) = true from by simp [sA_joined, hT_5, hT_12, h_40, hC1, hTb_51, hg1, hg2, hg3] <;> omega]
                rw [show sC_joined N S (nI j1) (nI j2) (nI j3) = true from by simp [sC_joined, hT_5, hT_12, h_40, hC1, hTb_51, hg1, hg2, hg3] <;> omega]
                exact sp_m3_gk (true) (gb (nI j3) 256) (true)
              have hsk : sk_joined N S (nI j1) (nI j2) (nI j3) = 0 := hth.symm.trans hZ
              exact W.iret G.1 G.2.1 G.2.2.1 (fun t ht hW => gQm_of hX hS ht ⟨hth, fun _ => (by show nI _ = nI _; simp only [sR_joined, hg1, hg2, hg3]), (by rw [if_pos hsk]; simp only [sN_joined, hg1, hg2, hg3]), (by rw [if_pos hsk]; simp only [sS_joined, hg1, hg2, hg3])⟩) hS.2.2 dX1_joined_99 G.2.2.2.2.2.2
            | succ d1 ih1 =>
              intro x1 hd1 H9 locs9 hX hS ls hl
              refine lv_iload G.1 G.2.1 dX1_joined_59 (lv_at hl 4 rfl) ?_
              refine lv_iconst (v := nI 5) G.1 G.2.1 dX1_joined_61 (by decide) ?_
              refine gn_ge G (by first | omega | assumption) (by first | omega | assumption) (tgt := 94) dX1_joined_62 (by decide) (fun h_62 => absurd h_62 (by omega)) (fun h_62 => ?_)
              refine lv_aload_n G.1 G.2.1 dX1_joined_65 rfl (lv_at hl 0 rfl) ?_
              refine gm_get G hX (by decide +kernel) 14 (by decide) (by decide +kernel) rfl rfl rfl dX1_joined_66 ?_
              refine lv_iload G.1 G.2.1 dX1_joined_69 (lv_at hl 4 rfl) ?_
              refine lv_aload_n G.1 G.2.1 dX1_joined_71 rfl (lv_at hl 0 rfl) ?_
              refine gm_get G hX (by decide +kernel) 10 (by decide) (by decide +kernel) rfl rfl rfl dX1_joined_72 ?_
              refine lv_bipush (v := nI 15) G.1 G.2.1 dX1_joined_75 (by decide) ?_
              refine lv_iload_n G.1 G.2.1 dX1_joined_77 rfl (lv_at hl 1 rfl) ?_
              refine gn_imul G dX1_joined_78 ?_
              refine lv_iconst (v := nI 5) G.1 G.2.1 dX1_joined_79 (by decide) ?_
              refine lv_iload_n G.1 G.2.1 dX1_joined_80 rfl (lv_at hl 2 rfl) ?_
              refine gn_imul G dX1_joined_81 ?_
              refine gn_iadd G dX1_joined_82 ?_
              refine lv_iload G.1 G.2.1 dX1_joined_83 (lv_at hl 4 rfl) ?_
              refine gn_iadd G dX1_joined_85 ?_
              refine gm_ald (k := 10) (kp := 9) (len := 90) (F := S 8) G hX rfl (by first | omega | assumption) (by decide) dX1_joined_86 ?_
              rw [show ((15 * j1) + (5 * j2)) + x1 = ((j1 * 3) + j2) * 5 + x1 from by omega]
              refine gm_ast (k := 14) (kp := 13) (len := 5) (F := (sp_rowTo (S 8) ((j1 * 3 + j2) * 5) fv x1)) (i := x1) (v := S 8 (((j1 * 3) + j2) * 5 + x1)) (S' := S) (fv' := (sp_rowTo (S 8) ((j1 * 3 + j2) * 5) fv (x1 + 1))) G hX hS rfl (rfl) (by first | omega | assumption) (by decide) dX1_joined_87 (fun H1 locs1 hX hS => ?_)
              refine gn_iinc (lv' := [(5, .int (nI (x1 + 1))), (0, .ref (q 0)), (1, .int (nI j1)), (2, .int (nI j2)), (3, .int (nI j3))]) (n := 1) G dX1_joined_88 hl (k := 4) rfl (by decide) rfl (fun ls hl => ?_)
              refine lv_goto (tgt := 59) G.1 G.2.1 dX1_joined_91 (by decide) ?_
              exact ih1 (x1 + 1) (by omega) _ _ (mAt_cast (rfl) hX) hS _ (lv_sub hl [1, 2, 3, 4, 0] rfl)
          exact loop1 5 0 (by omega) _ _ (mAt_cast (rfl) hX) hS _ (lv_sub hl [2, 3, 4, 5, 0] rfl)
        · have hZ : sp_m3 1 (gbn (gb i3 256)) 1 ≠ 0 := sp_z_f h_51
          refine lv_iconst (v := nI 0) G.1 G.2.1 dX1_joined_54 (by decide) ?_
          have hth : sp_m3 1 (gbn (gb i3 256)) 1 = sk_joined N S (nI j1) (nI j2) i3 := by
            unfold sk_joined
            rw [show sA_joined N S (nI j1) (nI j2) i3 = true from by simp [sA_joined, hT_5, hT_12, h_40, hC1, hg1, hg2] <;> omega]
            rw [show sC_joined N S (nI j1) (nI j2) i3 = true from by simp [sC_joined, hT_5, hT_12, h_40, hC1, hg1, hg2] <;> omega]
            exact sp_m3_gk (true) (gb i3 256) (true)
          exact W.iret G.1 G.2.1 G.2.2.1 (fun t ht hW => gQm_of hX hS ht ⟨hth, fun h => absurd (hth.trans h) hZ, (if_neg (fun h => hZ (hth.trans h))).symm, (if_neg (fun h => hZ (hth.trans h))).symm⟩) hS.2.2 dX1_joined_55 G.2.2.2.2.2.2
set_option maxRecDepth 100000 in
set_option maxHeartbeats 4000000 in
/-- the stale chains -/
theorem mX1_stale (l : Launch) (D : va_G) (q : Nat → Nat) (cI cZ : ClassId) (N : Nat → Nat) (S : Nat → Nat → Nat) (fv : Nat → Nat) (th : Nat) (A : Nat → Prop) (hok : sp_ok N S) (hinv : sp_inv N S) : Met l yX1_stale wsX1_stale { frames := 5, cells := 0, slots := 0, locals := 119 } (va_Pc [.ref (q 0)] (fun U => mAt D q cI cZ N S fv th A U U.heap)) (gQd D q cI cZ N S 0 (nI (sp_stale N S)) A) 0 0 A := by
  refine gc_met [.ref (q 0)] (by decide) rfl (Nat.le_of_ble_eq_true rfl) rfl ?_
  intro p e s m below meth c ls G hl hX
  have hS : va_S A s.heap s.heap [] := va_S.rf
  have hok9 := hok
  obtain ⟨⟨ok0, ok5⟩, ok1, ok2, ok3, ok4, ok6, ok7, ok8, ok12, ok13, ok14⟩ := hok9
  have hq := fun k => @sp_vop_le k
  refine lv_aload_n G.1 G.2.1 dX1_stale_0 rfl (lv_at hl 0 rfl) ?_
  refine lv_iconst (v := nI 0) G.1 G.2.1 dX1_stale_1 (by decide) ?_
  refine gm_put (k := 15) (v := 0) (N' := N) (th' := 0) G hX hS (by decide +kernel) (by decide) (by decide +kernel) rfl rfl (by decide +kernel) rfl (Nat.le_of_ble_eq_true rfl) rfl dX1_stale_2 (fun H1 locs1 hX hS => ?_)
  refine lv_iconst (v := nI 0) G.1 G.2.1 dX1_stale_5 (by decide) ?_
  refine lv_istore_n (lv' := [(1, .int (nI 0)), (0, .ref (q 0))]) G.1 G.2.1 dX1_stale_6 rfl hl (by decide) rfl (fun ls hl => ?_)
  refine lv_iconst (v := nI 0) G.1 G.2.1 dX1_stale_7 (by decide) ?_
  refine lv_istore_n (lv' := [(2, .int (nI 0)), (1, .int (nI 0)), (0, .ref (q 0))]) G.1 G.2.1 dX1_stale_8 rfl hl (by decide) rfl (fun ls hl => ?_)
  have loop1 : ∀ (d1 x1 : Nat), x1 + d1 = N 5 → ∀ (fv : Nat → Nat) (H9 : Heap) (locs9 : List Loc), mAt D q cI cZ N S fv 0 A s H9 → va_S A s.heap H9 locs9 → ∀ ls : Array Slot, lv_has ls 5 [(0, .ref (q 0)), (1, .int (nI (sp_staleTo N S x1))), (2, .int (nI x1))] → W p l e { frames := 5, cells := 0, slots := 0, locals := 119 } s m ([.ref (q 0)] : List Value).toArray below meth c H9 locs9 0 0 (MQ below (gQd D q cI cZ N S 0 (nI (sp_stale N S)) A) ([.ref (q 0)] : List Value).toArray s 0 0 A) (F0 m 9 ls []) := by
    intro d1
    induction d1 with
    | zero =>
      intro x1 hd1 fv H9 locs9 hX hS ls hl
      refine lv_iload_n G.1 G.2.1 dX1_stale_9 rfl (lv_at hl 2 rfl) ?_
      refine lv_aload_n G.1 G.2.1 dX1_stale_10 rfl (lv_at hl 0 rfl) ?_
      refine gm_get G hX (by decide +kernel) 5 (by decide) (by decide +kernel) rfl rfl rfl dX1_stale_11 ?_
      refine gn_ge G (by first | omega | assumption) (by first | omega | assumption) (tgt := 105) dX1_stale_14 (by decide) (fun h_14 => ?_) (fun h_14 => absurd h_14 (by omega))
      refine lv_iload_n G.1 G.2.1 dX1_stale_105 rfl (lv_at hl 1 rfl) ?_
      rw [show sp_staleTo N S x1 = sp_stale N S from by rw [show x1 = N 5 from by omega]; exact sp_stale_all hok hinv]
      exact W.iret G.1 G.2.1 G.2.2.1 (fun t ht hW => gQd_of hX hS ht) hS.2.2 dX1_stale_106 G.2.2.2.2.2.2
    | succ d1 ih1 =>
      intro x1 hd1 fv H9 locs9 hX hS ls hl
      refine lv_iload_n G.1 G.2.1 dX1_stale_9 rfl (lv_at hl 2 rfl) ?_
      refine lv_aload_n G.1 G.2.1 dX1_stale_10 rfl (lv_at hl 0 rfl) ?_
      refine gm_get G hX (by decide +kernel) 5 (by decide) (by decide +kernel) rfl rfl rfl dX1_stale_11 ?_
      refine gn_ge G (by first | omega | assumption) (by first | omega | assumption) (tgt := 105) dX1_stale_14 (by decide) (fun h_14 => absurd h_14 (by omega)) (fun h_14 => ?_)
      refine lv_iconst (v := nI 0) G.1 G.2.1 dX1_stale_17 (by decide) ?_
      refine lv_istore_n (lv' := [(3, .int (nI 0)), (0, .ref (q 0)), (1, .int (nI (sp_staleTo N S x1))), (2, .int (nI x1))]) G.1 G.2.1 dX1_stale_18 rfl hl (by decide) rfl (fun ls hl => ?_)
      refine lv_iconst (v := nI 0) G.1 G.2.1 dX1_stale_19 (by decide) ?_
      refine lv_istore (lv' := [(4, .int (nI 0)), (3, .int (nI 0)), (0, .ref (q 0)), (1, .int (nI (sp_staleTo N S x1))), (2, .int (nI x1))]) G.1 G.2.1 dX1_stale_20 hl (by decide) rfl (fun ls hl => ?_)
      have loop2 : ∀ (d2 x2 : Nat), x2 + d2 = 15 → ∀ (fv : Nat → Nat) (H9 : Heap) (locs9 : List Loc), mAt D q cI cZ N S fv 0 A s H9 → va_S A s.heap H9 locs9 → ∀ ls : Array Slot, lv_has ls 5 [(0, .ref (q 0)), (1, .int (nI (sp_staleTo N S x1))), (2, .int (nI x1)), (3, .int (nI (sp_difTo S x1 x2))), (4, .int (nI x2))] → W p l e { frames := 5, cells := 0, slots := 0, locals := 119 } s m ([.ref (q 0)] : List Value).toArray below meth c H9 locs9 0 0 (MQ below (gQd D q cI cZ N S 0 (nI (sp_stale N S)) A) ([.ref (q 0)] : List Value).toArray s 0 0 A) (F0 m 22 ls []) := by
        intro d2
        induction d2 with
        | zero =>
          intro x2 hd2 fv H9 locs9 hX hS ls hl
          refine lv_iload G.1 G.2.1 dX1_stale_22 (lv_at hl 4 rfl) ?_
          refine lv_bipush (v := nI 15) G.1 G.2.1 dX1_stale_24 (by decide) ?_
          refine gn_ge G (by first | omega | assumption) (by first | omega | assumption) (tgt := 76) dX1_stale_26 (by decide) (fun h_26 => ?_) (fun h_26 => absurd h_26 (by omega))
          refine lv_iload_n G.1 G.2.1 dX1_stale_76 rfl (lv_at hl 1 rfl) ?_
          refine lv_aload_n G.1 G.2.1 dX1_stale_77 rfl (lv_at hl 0 rfl) ?_
          refine gm_get G hX (by decide +kernel) 8 (by decide) (by decide +kernel) rfl rfl rfl dX1_stale_78 ?_
          refine lv_iload_n G.1 G.2.1 dX1_stale_81 rfl (lv_at hl 2 rfl) ?_
          refine gm_zld (k := 8) (kp := 7) (len := 6) (F := S 9) G hX rfl (by first | omega | assumption) (by decide) dX1_stale_82 ?_
          rw [show S 9 x1 = sp_bit (N 9) x1 from (hinv.2.2.2.2.2.1 _ (by omega)).1]
          refine gn_eqz G (by exact sp_b31 _ _) (tgt := 96) dX1_stale_83 (by decide) (fun h_83 => ?_) (fun h_83 => ?_)
          · refine lv_iconst (v := nI 0) G.1 G.2.1 dX1_stale_96 (by decide) ?_
            refine gn_ior G dX1_stale_97 ?_
            refine lv_istore_n (lv' := [(1, .int (nI ((sp_staleTo N S x1) ||| 0))), (0, .ref (q 0)), (2, .int (nI x1)), (3, .int (nI (sp_difTo S x1 x2))), (4, .int (nI x2))]) G.1 G.2.1 dX1_stale_98 rfl hl (by decide) rfl (fun ls hl => ?_)
            refine gn_iinc (lv' := [(2, .int (nI (x1 + 1))), (1, .int (nI ((sp_staleTo N S x1) ||| 0))), (0, .ref (q 0)), (3, .int (nI (sp_difTo S x1 x2))), (4, .int (nI x2))]) (n := 1) G dX1_stale_99 hl (k := 2) rfl (by decide) rfl (fun ls hl => ?_)
            refine lv_goto (tgt := 9) G.1 G.2.1 dX1_stale_102 (by decide) ?_
            exact ih1 (x1 + 1) (by omega) _ _ _ (mAt_cast (rfl) hX) hS _ (by have hb9 := sp_bit_lt (N 9) x1; have hd9 := sp_dif_lt S x1; have e0 : sp_difTo S x1 x2 = sp_dif S x1 := (by rw [show x2 = 15 from by omega]; rfl); (try rw [e0] at h_87); rw [show sp_staleTo N S (x1 + 1) = (sp_staleTo N S x1) ||| 0 from by rw [Nat.or_zero]; exact sp_stale_n (by omega)]; exact lv_sub hl [2, 1, 0] rfl)
          · refine lv_iload_n G.1 G.2.1 dX1_stale_86 rfl (lv_at hl 3 rfl) ?_
            refine gn_eqz G (by exact Nat.lt_trans (sp_difTo_lt _ _ _) (by decide)) (tgt := 96) dX1_stale_87 (by decide) (fun h_87 => ?_) (fun h_87 => ?_)
            · refine lv_iconst (v := nI 0) G.1 G.2.1 dX1_stale_96 (by decide) ?_
              refine gn_ior G dX1_stale_97 ?_
              refine lv_istore_n (lv' := [(1, .int (nI ((sp_staleTo N S x1) ||| 0))), (0, .ref (q 0)), (2, .int (nI x1)), (3, .int (nI (sp_difTo S x1 x2))), (4, .int (nI x2))]) G.1 G.2.1 dX1_stale_98 rfl hl (by decide) rfl (fun ls hl => ?_)
              refine gn_iinc (lv' := [(2, .int (nI (x1 + 1))), (1, .int (nI ((sp_staleTo N S x1) ||| 0))), (0, .ref (q 0)), (3, .int (nI (sp_difTo S x1 x2))), (4, .int (nI x2))]) (n := 1) G dX1_stale_99 hl (k := 2) rfl (by decide) rfl (fun ls hl => ?_)
              refine lv_goto (tgt := 9) G.1 G.2.1 dX1_stale_102 (by decide) ?_
              exact ih1 (x1 + 1) (by omega) _ _ _ (mAt_cast (rfl) hX) hS _ (by have hb9 := sp_bit_lt (N 9) x1; have hd9 := sp_dif_lt S x1; have e0 : sp_difTo S x1 x2 = sp_dif S x1 := (by rw [show x2 = 15 from by omega]; rfl); (try rw [e0] at h_87); rw [show sp_staleTo N S (x1 + 1) = (sp_staleTo N S x1) ||| 0 from by rw [Nat.or_zero]; exact sp_stale_n (by omega)]; exact lv_sub hl [2, 1, 0] rfl)
            · refine lv_iconst (v := nI 1) G.1 G.2.1 dX1_stale_90 (by decide) ?_
              refine lv_iload_n G.1 G.2.1 dX1_stale_91 rfl (lv_at hl 2 rfl) ?_
              refine gn_ishl G dX1_stale_92 (by omega) ?_
              refine lv_goto (tgt := 97) G.1 G.2.1 dX1_stale_93 (by decide) ?_
              refine gn_ior G dX1_stale_97 ?_
              refine lv_istore_n (lv' := [(1, .int (nI ((sp_staleTo N S x1) ||| (2 ^ x1)))), (0, .ref (q 0)), (2, .int (nI x1)), (3, .int (nI (sp_difTo S x1 x2))), (4, .int (nI x2))]) G.1 G.2.1 dX1_stale_98 rfl hl (by decide) rfl (fun ls hl => ?_)
              refine gn_iinc (lv' := [(2, .int (nI (x1 + 1))), (1, .int (nI ((sp_staleTo N S x1) ||| (2 ^ x1)))), (0, .ref (q 0)), (3, .int (nI (sp_difTo S x1 x2))), (4, .int (nI x2))]) (n := 1) G dX1_stale_99 hl (k := 2) rfl (by decide) rfl (fun ls hl => ?_)
              refine lv_goto (tgt := 9) G.1 G.2.1 dX1_stale_102 (by decide) ?_
              exact ih1 (x1 + 1) (by omega) _ _ _ (mAt_cast (rfl) hX) hS _ (by have hb9 := sp_bit_lt (N 9) x1; have hd9 := sp_dif_lt S x1; have e0 : sp_difTo S x1 x2 = sp_dif S x1 := (by rw [show x2 = 15 from by omega]; rfl); (try rw [e0] at h_87); rw [show sp_staleTo N S (x1 + 1) = (sp_staleTo N S x1) ||| (2 ^ x1) from sp_stale_y (by omega)]; exact lv_sub hl [2, 1, 0] rfl)
        | succ d2 ih2 =>
          intro x2 hd2 fv H9 locs9 hX hS ls hl
          refine lv_iload G.1 G.2.1 dX1_stale_22 (lv_at hl 4 rfl) ?_
          refine lv_bipush (v := nI 15) G.1 G.2.1 dX1_stale_24 (by decide) ?_
          refine gn_ge G (by first | omega | assumption) (by first | omega | assumption) (tgt := 76) dX1_stale_26 (by decide) (fun h_26 => absurd h_26 (by omega)) (fun h_26 => ?_)
          refine lv_iload_n G.1 G.2.1 dX1_stale_29 rfl (lv_at hl 3 rfl) ?_
          refine gn_nez G (by exact Nat.lt_trans (sp_difTo_lt _ _ _) (by decide)) (tgt := 64) dX1_stale_30 (by decide) (fun h_30 => ?_) (fun h_30 => ?_)
          · refine lv_iconst (v := nI 1) G.1 G.2.1 dX1_stale_64 (by decide) ?_
            refine lv_goto (tgt := 69) G.1 G.2.1 dX1_stale_65 (by decide) ?_
            refine lv_istore_n (lv' := [(3, .int (nI 1)), (0, .ref (q 0)), (1, .int (nI (sp_staleTo N S x1))), (2, .int (nI x1)), (4, .int (nI x2))]) G.1 G.2.1 dX1_stale_69 rfl hl (by decide) rfl (fun ls hl => ?_)
            refine gn_iinc (lv' := [(4, .int (nI (x2 + 1))), (3, .int (nI 1)), (0, .ref (q 0)), (1, .int (nI (sp_staleTo N S x1))), (2, .int (nI x1))]) (n := 1) G dX1_stale_70 hl (k := 4) rfl (by decide) rfl (fun ls hl => ?_)
            refine lv_goto (tgt := 22) G.1 G.2.1 dX1_stale_73 (by decide) ?_
            exact ih2 (x2 + 1) (by omega) _ _ _ (mAt_cast (rfl) hX) hS _ (by rw [show sp_difTo S x1 (x2 + 1) = 1 from by first | exact sp_difm_a h_30 | exact sp_difm_b h_30 h_61 | exact sp_difm_c h_30 h_61]; exact lv_sub hl [2, 3, 4, 1, 0] rfl)
          · refine lv_aload_n G.1 G.2.1 dX1_stale_33 rfl (lv_at hl 0 rfl) ?_
            refine gm_get G hX (by decide +kernel) 10 (by decide) (by decide +kernel) rfl rfl rfl dX1_stale_34 ?_
            refine lv_bipush (v := nI 15) G.1 G.2.1 dX1_stale_37 (by decide) ?_
            refine lv_iload_n G.1 G.2.1 dX1_stale_39 rfl (lv_at hl 2 rfl) ?_
            refine gn_imul G dX1_stale_40 ?_
            refine lv_iload G.1 G.2.1 dX1_stale_41 (lv_at hl 4 rfl) ?_
            refine gn_iadd G dX1_stale_43 ?_
            refine gm_ald (k := 10) (kp := 9) (len := 90) (F := S 8) G hX rfl (by first | omega | assumption) (by decide) dX1_stale_44 ?_
            rw [show (15 * x1) + x2 = (x1 * 15) + x2 from by omega]
            refine lv_aload_n G.1 G.2.1 dX1_stale_45 rfl (lv_at hl 0 rfl) ?_
            refine lv_iload_n G.1 G.2.1 dX1_stale_46 rfl (lv_at hl 2 rfl) ?_
            refine lv_iload G.1 G.2.1 dX1_stale_47 (lv_at hl 4 rfl) ?_
            refine lv_iconst (v := nI 5) G.1 G.2.1 dX1_stale_49 (by decide) ?_
            refine gn_idiv G dX1_stale_50 (by first | omega | assumption) (by decide) (by decide) ?_
            refine lv_iload G.1 G.2.1 dX1_stale_51 (lv_at hl 4 rfl) ?_
            refine lv_iconst (v := nI 5) G.1 G.2.1 dX1_stale_53 (by decide) ?_
            refine gn_irem G dX1_stale_54 (by omega) (by decide) (by decide) ?_
            refine gc_s (As := [.int (nI (x2 % 5))]) (rest := [.int (nI (x2 / 5)), .int (nI x1), .ref (q 0), .int (nI (S 8 ((x1 * 15) + x2)))]) G.fix (mX1_placeAt l (x2 % 5) (by first | omega | assumption)) (va_cwS 1 G.2.2.2.2.2.1 gX1_stale_X1_placeAt rfl rfl rfl (by decide +kernel) ⟨Nat.le_of_ble_eq_true rfl, Nat.le_of_ble_eq_true rfl⟩) gc_blindT (fun _ _ _ => trivial) rfl hl.1 rfl (Nat.le_of_ble_eq_true rfl) dX1_stale_55 (Nat.zero_le _) (Nat.zero_le _) (fun r hr => ?_)
            subst hr
            refine gm_mut (N' := N) (S' := S) (th' := 0) (r := (nI (sp_pass S x1 (x2 / 5) (sp_vop (x2 % 5))))) (As := [.int (nI x1), .int (nI (x2 / 5)), .int (nI (sp_vop (x2 % 5)))]) (rest := [.int (nI (S 8 ((x1 * 15) + x2)))]) G.fix (mX1_throughOf l D q cI cZ N S fv 0 A hok x1 (x2 / 5) (sp_vop (x2 % 5)) (by first | omega | assumption | exact ok6 _ | apply hq) (by first | omega | assumption | exact ok6 _ | apply hq) (by first | omega | assumption | exact ok6 _ | apply hq)) (cwV 3 G.2.2.2.2.2.1 gX1_stale_X1_throughOf rfl rfl rfl (by decide +kernel) ⟨Nat.le_of_ble_eq_true rfl, Nat.le_of_ble_eq_true rfl⟩) hX hS rfl hl.1 rfl (Nat.le_of_ble_eq_true rfl) dX1_stale_58 (Nat.zero_le _) (Nat.zero_le _) (fun fv H1 locs1 hX hS => ?_)
            refine gn_eq G (by first | omega | exact Nat.lt_of_le_of_lt (ok8 _) (by decide) | exact Nat.lt_of_le_of_lt (sp_pass_le hok sp_vop_le) (by decide)) (by first | omega | exact Nat.lt_of_le_of_lt (ok8 _) (by decide) | exact Nat.lt_of_le_of_lt (sp_pass_le hok sp_vop_le) (by decide)) (tgt := 68) dX1_stale_61 (by decide) (fun h_61 => ?_) (fun h_61 => ?_)
            · refine lv_iconst (v := nI 0) G.1 G.2.1 dX1_stale_68 (by decide) ?_
              refine lv_istore_n (lv' := [(3, .int (nI 0)), (0, .ref (q 0)), (1, .int (nI (sp_staleTo N S x1))), (2, .int (nI x1)), (4, .int (nI x2))]) G.1 G.2.1 dX1_stale_69 rfl hl (by decide) rfl (fun ls hl => ?_)
              refine gn_iinc (lv' := [(4, .int (nI (x2 + 1))), (3, .int (nI 0)), (0, .ref (q 0)), (1, .int (nI (sp_staleTo N S x1))), (2, .int (nI x1))]) (n := 1) G dX1_stale_70 hl (k := 4) rfl (by decide) rfl (fun ls hl => ?_)
              refine lv_goto (tgt := 22) G.1 G.2.1 dX1_stale_73 (by decide) ?_
              exact ih2 (x2 + 1) (by omega) _ _ _ (mAt_cast (rfl) hX) hS _ (by rw [show sp_difTo S x1 (x2 + 1) = 0 from by first | exact sp_difm_a h_30 | exact sp_difm_b h_30 h_61 | exact sp_difm_c h_30 h_61]; exact lv_sub hl [2, 3, 4, 1, 0] rfl)
            · refine lv_iconst (v := nI 1) G.1 G.2.1 dX1_stale_64 (by decide) ?_
              refine lv_goto (tgt := 69) G.1 G.2.1 dX1_stale_65 (by decide) ?_
              refine lv_istore_n (lv' := [(3, .int (nI 1)), (0, .ref (q 0)), (1, .int (nI (sp_staleTo N S x1))), (2, .int (nI x1)), (4, .int (nI x2))]) G.1 G.2.1 dX1_stale_69 rfl hl (by decide) rfl (fun ls hl => ?_)
              refine gn_iinc (lv' := [(4, .int (nI (x2 + 1))), (3, .int (nI 1)), (0, .ref (q 0)), (1, .int (nI (sp_staleTo N S x1))), (2, .int (nI x1))]) (n := 1) G dX1_stale_70 hl (k := 4) rfl (by decide) rfl (fun ls hl => ?_)
              refine lv_goto (tgt := 22) G.1 G.2.1 dX1_stale_73 (by decide) ?_
              exact ih2 (x2 + 1) (by omega) _ _ _ (mAt_cast (rfl) hX) hS _ (by rw [show sp_difTo S x1 (x2 + 1) = 1 from by first | exact sp_difm_a h_30 | exact sp_difm_b h_30 h_61 | exact sp_difm_c h_30 h_61]; exact lv_sub hl [2, 3, 4, 1, 0] rfl)
      exact loop2 15 0 (by omega) _ _ _ (mAt_cast (rfl) hX) hS _ (lv_sub hl [2, 3, 4, 1, 0] rfl)
  exact loop1 (N 5) 0 (by omega) _ _ _ (mAt_cast (rfl) hX) hS _ (lv_sub hl [2, 1, 0] rfl)
set_option maxRecDepth 100000 in
set_option maxHeartbeats 4000000 in
/-- sign -/
theorem mX1_sign (l : Launch) (D : va_G) (q : Nat → Nat) (cI cZ : ClassId) (N : Nat → Nat) (S : Nat → Nat → Nat) (fv : Nat → Nat) (th : Nat) (A : Nat → Prop) (hok : sp_ok N S) (hinv : sp_inv N S) (i1 : Int32) : Met l yX1_sign wsX1_sign { frames := 2, cells := 0, slots := 0, locals := 43 } (va_Pc [.ref (q 0), .int i1] (fun U => mAt D q cI cZ N S fv th A U U.heap)) (gQm D q cI cZ (fun r N2 S2 th2 => th2 = sk_sign N S i1 ∧ (sk_sign N S i1 = 0 → r = nI (sR_sign N S i1)) ∧ N2 = (if sk_sign N S i1 = 0 then sN_sign N S i1 else N) ∧ S2 = (if sk_sign N S i1 = 0 then sS_sign N S i1 else S)) A) 0 0 A := by
  refine gc_met [.ref (q 0), .int i1] (by decide) rfl (Nat.le_of_ble_eq_true rfl) rfl ?_
  intro p e s m below meth c ls G hl hX
  have hS : va_S A s.heap s.heap [] := va_S.rf
  have hok9 := hok
  obtain ⟨⟨ok0, ok5⟩, ok1, ok2, ok3, ok4, ok6, ok7, ok8, ok12, ok13, ok14⟩ := hok9
  refine lv_aload_n G.1 G.2.1 dX1_sign_0 rfl (lv_at hl 0 rfl) ?_
  refine lv_aload_n G.1 G.2.1 dX1_sign_1 rfl (lv_at hl 0 rfl) ?_
  refine lv_iload_n G.1 G.2.1 dX1_sign_2 rfl (lv_at hl 1 rfl) ?_
  refine gc_v (As := [.int i1]) (rest := [.ref (q 0)]) G.fix (mX1_isChain l D q cI cZ N S fv th A hok i1) (cwV 1 G.2.2.2.2.2.1 gX1_sign_X1_isChain rfl rfl rfl (by decide +kernel) ⟨Nat.le_of_ble_eq_true rfl, Nat.le_of_ble_eq_true rfl⟩) mAt_blind (va_recv hX.2.1 hX.1 (ci := 1) (q0 := 0) rfl rfl) (fun U hU hW => by rw [hU]; exact hX.moved hW) rfl hl.1 rfl (Nat.le_of_ble_eq_true rfl) dX1_sign_3 (Nat.zero_le _) (Nat.zero_le _) (fun r hr => ?_)
  subst hr
  refine gm_mut (N' := N) (S' := S) (th' := (sp_m3 (gbn (gb i1 (N 5))) 1 1)) (r := (nI (sp_z (sp_m3 (gbn (gb i1 (N 5))) 1 1)))) (As := [.int (nI (gbn (gb i1 (N 5))))]) (rest := []) G.fix (mX1_may l D q cI cZ N S fv th A (gbn (gb i1 (N 5))) (by first | decide | exact gbn_le _)) (cwV 1 G.2.2.2.2.2.1 gX1_sign_X1_may rfl rfl rfl (by decide +kernel) ⟨Nat.le_of_ble_eq_true rfl, Nat.le_of_ble_eq_true rfl⟩) hX hS rfl hl.1 rfl (Nat.le_of_ble_eq_true rfl) dX1_sign_6 (Nat.zero_le _) (Nat.zero_le _) (fun fv H1 locs1 hX hS => ?_)
  refine gn_nez G (by exact sp_z_lt _) (tgt := 14) dX1_sign_9 (by decide) (fun h_9 => ?_) (fun h_9 => ?_)
  · have hZ : sp_m3 (gbn (gb i1 (N 5))) 1 1 = 0 := sp_z_t h_9
    have hTa_9 : gb i1 (N 5) = true := gbn_t (sp_m3_a hZ)
    obtain ⟨j1, hj1, rfl⟩ := gb_of (by omega) hTa_9
    have hg1 := gn_nI (show j1 < 2 ^ 31 by omega)
    have hs10 := (hinv.2.2.2.2.2.1 j1 (by omega)).2
    have hb10 := sp_bit_lt (N 10) j1
    refine lv_aload_n G.1 G.2.1 dX1_sign_14 rfl (lv_at hl 0 rfl) ?_
    refine gm_get G hX (by decide +kernel) 9 (by decide) (by decide +kernel) rfl rfl rfl dX1_sign_15 ?_
    refine lv_iload_n G.1 G.2.1 dX1_sign_18 rfl (lv_at hl 1 rfl) ?_
    refine lv_aload_n G.1 G.2.1 dX1_sign_19 rfl (lv_at hl 0 rfl) ?_
    refine gm_get G hX (by decide +kernel) 9 (by decide) (by decide +kernel) rfl rfl rfl dX1_sign_20 ?_
    refine lv_iload_n G.1 G.2.1 dX1_sign_23 rfl (lv_at hl 1 rfl) ?_
    refine gm_zld (k := 9) (kp := 8) (len := 6) (F := S 10) G hX rfl (by first | omega | assumption) (by decide) dX1_sign_24 ?_
    refine gn_nez G (by omega) (tgt := 32) dX1_sign_25 (by decide) (fun h_25 => ?_) (fun h_25 => ?_)
    · refine lv_iconst (v := nI 0) G.1 G.2.1 dX1_sign_32 (by decide) ?_
      refine gm_zst (k := 9) (kp := 8) (len := 6) (F := S 10) (i := j1) (v := 0) (S' := (gs S 10 (gu (S 10) j1 0))) (fv' := fv) G hX hS rfl (rfl) (by first | exact Or.inl rfl | exact Or.inr rfl) (by first | omega | assumption) (by decide) dX1_sign_33 (fun H1 locs1 hX hS => ?_)
      refine lv_aload_n G.1 G.2.1 dX1_sign_34 rfl (lv_at hl 0 rfl) ?_
      refine gm_get G hX (by decide +kernel) 9 (by decide) (by decide +kernel) rfl rfl rfl dX1_sign_35 ?_
      refine lv_iload_n G.1 G.2.1 dX1_sign_38 rfl (lv_at hl 1 rfl) ?_
      refine gm_zld (k := 9) (kp := 8) (len := 6) (F := (gu (S 10) j1 0)) G hX rfl (by first | omega | assumption) (by decide) dX1_sign_39 ?_
      rw [gu_same]
      have hX := mAt_cast (N' := gu N 10 (N 10 ^^^ 2 ^ j1)) (S' := (gs S 10 (gu (S 10) j1 0))) (fv' := fv) (th' := (sp_m3 (gbn (gb (nI j1) (N 5))) 1 1)) rfl hX
      have hth : sp_m3 (gbn (gb (nI j1) (N 5))) 1 1 = sk_sign N S (nI j1) := by
        unfold sk_sign
        exact sp_m3_gk (gb (nI j1) (N 5)) (true) (true)
      have hsk : sk_sign N S (nI j1) = 0 := hth.symm.trans hZ
      exact W.zret G.1 G.2.1 G.2.2.1 (gp_nz (by first | exact Or.inl rfl | exact Or.inr rfl)) (fun t ht hW => gQm_of hX hS ht ⟨hth, fun _ => (by show nI _ = nI _; simp only [sR_sign, hg1]; congr 1; omega), (by rw [if_pos hsk]; simp only [sN_sign, hg1]), (by rw [if_pos hsk]; simp only [sS_sign, hg1]; congr 2; omega)⟩) hS.2.2 dX1_sign_40 G.2.2.2.2.2.2
    · refine lv_iconst (v := nI 1) G.1 G.2.1 dX1_sign_28 (by decide) ?_
      refine lv_goto (tgt := 33) G.1 G.2.1 dX1_sign_29 (by decide) ?_
      refine gm_zst (k := 9) (kp := 8) (len := 6) (F := S 10) (i := j1) (v := 1) (S' := (gs S 10 (gu (S 10) j1 1))) (fv' := fv) G hX hS rfl (rfl) (by first | exact Or.inl rfl | exact Or.inr rfl) (by first | omega | assumption) (by decide) dX1_sign_33 (fun H1 locs1 hX hS => ?_)
      refine lv_aload_n G.1 G.2.1 dX1_sign_34 rfl (lv_at hl 0 rfl) ?_
      refine gm_get G hX (by decide +kernel) 9 (by decide) (by decide +kernel) rfl rfl rfl dX1_sign_35 ?_
      refine lv_iload_n G.1 G.2.1 dX1_sign_38 rfl (lv_at hl 1 rfl) ?_
      refine gm_zld (k := 9) (kp := 8) (len := 6) (F := (gu (S 10) j1 1)) G hX rfl (by first | omega | assumption) (by decide) dX1_sign_39 ?_
      rw [gu_same]
      have hX := mAt_cast (N' := gu N 10 (N 10 ^^^ 2 ^ j1)) (S' := (gs S 10 (gu (S 10) j1 1))) (fv' := fv) (th' := (sp_m3 (gbn (gb (nI j1) (N 5))) 1 1)) rfl hX
      have hth : sp_m3 (gbn (gb (nI j1) (N 5))) 1 1 = sk_sign N S (nI j1) := by
        unfold sk_sign
        exact sp_m3_gk (gb (nI j1) (N 5)) (true) (true)
      have hsk : sk_sign N S (nI j1) = 0 := hth.symm.trans hZ
      exact W.zret G.1 G.2.1 G.2.2.1 (gp_nz (by first | exact Or.inl rfl | exact Or.inr rfl)) (fun t ht hW => gQm_of hX hS ht ⟨hth, fun _ => (by show nI _ = nI _; simp only [sR_sign, hg1]; congr 1; omega), (by rw [if_pos hsk]; simp only [sN_sign, hg1]), (by rw [if_pos hsk]; simp only [sS_sign, hg1]; congr 2; omega)⟩) hS.2.2 dX1_sign_40 G.2.2.2.2.2.2
  · have hZ : sp_m3 (gbn (gb i1 (N 5))) 1 1 ≠ 0 := sp_z_f h_9
    refine lv_iconst (v := nI 0) G.1 G.2.1 dX1_sign_12 (by decide) ?_
    have hth : sp_m3 (gbn (gb i1 (N 5))) 1 1 = sk_sign N S i1 := by
      unfold sk_sign
      exact sp_m3_gk (gb i1 (N 5)) (true) (true)
    exact W.zret G.1 G.2.1 G.2.2.1 (gp_nz (by first | exact Or.inl rfl | exact Or.inr rfl)) (fun t ht hW => gQm_of hX hS ht ⟨hth, fun h => absurd (hth.trans h) hZ, (if_neg (fun h => hZ (hth.trans h))).symm, (if_neg (fun h => hZ (hth.trans h))).symm⟩) hS.2.2 dX1_sign_13 G.2.2.2.2.2.2
set_option maxRecDepth 100000 in
set_option maxHeartbeats 4000000 in
/-- the held profiles -/
theorem mX1_held (l : Launch) (D : va_G) (q : Nat → Nat) (cI cZ : ClassId) (N : Nat → Nat) (S : Nat → Nat → Nat) (fv : Nat → Nat) (th : Nat) (A : Nat → Prop) (hok : sp_ok N S) (hinv : sp_inv N S) : Met l yX1_held wsX1_held { frames := 1, cells := 0, slots := 0, locals := 24 } (va_Pc [.ref (q 0)] (fun U => mAt D q cI cZ N S fv th A U U.heap)) (gQd D q cI cZ N S 0 (nI (sp_held N S)) A) 0 0 A := by
  refine gc_met [.ref (q 0)] (by decide) rfl (Nat.le_of_ble_eq_true rfl) rfl ?_
  intro p e s m below meth c ls G hl hX
  have hS : va_S A s.heap s.heap [] := va_S.rf
  have hok9 := hok
  obtain ⟨⟨ok0, ok5⟩, ok1, ok2, ok3, ok4, ok6, ok7, ok8, ok12, ok13, ok14⟩ := hok9
  refine lv_aload_n G.1 G.2.1 dX1_held_0 rfl (lv_at hl 0 rfl) ?_
  refine lv_iconst (v := nI 0) G.1 G.2.1 dX1_held_1 (by decide) ?_
  refine gm_put (k := 15) (v := 0) (N' := N) (th' := 0) G hX hS (by decide +kernel) (by decide) (by decide +kernel) rfl rfl (by decide +kernel) rfl (Nat.le_of_ble_eq_true rfl) rfl dX1_held_2 (fun H1 locs1 hX hS => ?_)
  refine lv_iconst (v := nI 0) G.1 G.2.1 dX1_held_5 (by decide) ?_
  refine lv_istore_n (lv' := [(1, .int (nI 0)), (0, .ref (q 0))]) G.1 G.2.1 dX1_held_6 rfl hl (by decide) rfl (fun ls hl => ?_)
  refine lv_iconst (v := nI 0) G.1 G.2.1 dX1_held_7 (by decide) ?_
  refine lv_istore_n (lv' := [(2, .int (nI 0)), (1, .int (nI 0)), (0, .ref (q 0))]) G.1 G.2.1 dX1_held_8 rfl hl (by decide) rfl (fun ls hl => ?_)
  have loop1 : ∀ (d1 x1 : Nat), x1 + d1 = N 0 → ∀ (fv : Nat → Nat) (H9 : Heap) (locs9 : List Loc), mAt D q cI cZ N S fv 0 A s H9 → va_S A s.heap H9 locs9 → ∀ ls : Array Slot, lv_has ls 3 [(0, .ref (q 0)), (1, .int (nI (sp_mh (sp_held N S) x1))), (2, .int (nI x1))] → W p l e { frames := 1, cells := 0, slots := 0, locals := 24 } s m ([.ref (q 0)] : List Value).toArray below meth c H9 locs9 0 0 (MQ below (gQd D q cI cZ N S 0 (nI (sp_held N S)) A) ([.ref (q 0)] : List Value).toArray s 0 0 A) (F0 m 9 ls []) := by
    intro d1
    induction d1 with
    | zero =>
      intro x1 hd1 fv H9 locs9 hX hS ls hl
      refine lv_iload_n G.1 G.2.1 dX1_held_9 rfl (lv_at hl 2 rfl) ?_
      refine lv_aload_n G.1 G.2.1 dX1_held_10 rfl (lv_at hl 0 rfl) ?_
      refine gm_get G hX (by decide +kernel) 0 (by decide) (by decide +kernel) rfl rfl rfl dX1_held_11 ?_
      refine gn_ge G (by first | omega | assumption) (by first | omega | assumption) (tgt := 41) dX1_held_14 (by decide) (fun h_14 => ?_) (fun h_14 => absurd h_14 (by omega))
      refine lv_iload_n G.1 G.2.1 dX1_held_41 rfl (lv_at hl 1 rfl) ?_
      rw [show sp_mh (sp_held N S) x1 = sp_held N S from by rw [show x1 = N 0 from by omega]; exact sp_mh_held hinv]
      exact W.iret G.1 G.2.1 G.2.2.1 (fun t ht hW => gQd_of hX hS ht) hS.2.2 dX1_held_42 G.2.2.2.2.2.2
    | succ d1 ih1 =>
      intro x1 hd1 fv H9 locs9 hX hS ls hl
      refine lv_iload_n G.1 G.2.1 dX1_held_9 rfl (lv_at hl 2 rfl) ?_
      refine lv_aload_n G.1 G.2.1 dX1_held_10 rfl (lv_at hl 0 rfl) ?_
      refine gm_get G hX (by decide +kernel) 0 (by decide) (by decide +kernel) rfl rfl rfl dX1_held_11 ?_
      refine gn_ge G (by first | omega | assumption) (by first | omega | assumption) (tgt := 41) dX1_held_14 (by decide) (fun h_14 => absurd h_14 (by omega)) (fun h_14 => ?_)
      refine lv_iload_n G.1 G.2.1 dX1_held_17 rfl (lv_at hl 1 rfl) ?_
      refine lv_aload_n G.1 G.2.1 dX1_held_18 rfl (lv_at hl 0 rfl) ?_
      refine lv_iload_n G.1 G.2.1 dX1_held_19 rfl (lv_at hl 2 rfl) ?_
      refine gc_v (As := [.int (nI x1)]) (rest := [.int (nI (sp_mh (sp_held N S) x1))]) G.fix (mX1_isHeld l D q cI cZ N S fv 0 A hok hinv x1 (by omega)) (cwV 1 G.2.2.2.2.2.1 gX1_held_X1_isHeld rfl rfl rfl (by decide +kernel) ⟨Nat.le_of_ble_eq_true rfl, Nat.le_of_ble_eq_true rfl⟩) mAt_blind (va_recv hX.2.1 hX.1 (ci := 1) (q0 := 0) rfl rfl) (fun U hU hW => by rw [hU]; exact hX.moved hW) rfl hl.1 rfl (Nat.le_of_ble_eq_true rfl) dX1_held_20 (Nat.zero_le _) (Nat.zero_le _) (fun r hr => ?_)
      subst hr
      rw [sp_hout_eq hok hinv (by omega)]
      refine gn_eqz G (by exact sp_b31 _ _) (tgt := 32) dX1_held_23 (by decide) (fun h_23 => ?_) (fun h_23 => ?_)
      · have hu_23 := h_23
        refine lv_iconst (v := nI 0) G.1 G.2.1 dX1_held_32 (by decide) ?_
        refine gn_ior G dX1_held_33 ?_
        refine lv_istore_n (lv' := [(1, .int (nI ((sp_mh (sp_held N S) x1) ||| 0))), (0, .ref (q 0)), (2, .int (nI x1))]) G.1 G.2.1 dX1_held_34 rfl hl (by decide) rfl (fun ls hl => ?_)
        refine gn_iinc (lv' := [(2, .int (nI (x1 + 1))), (1, .int (nI ((sp_mh (sp_held N S) x1) ||| 0))), (0, .ref (q 0))]) (n := 1) G dX1_held_35 hl (k := 2) rfl (by decide) rfl (fun ls hl => ?_)
        refine lv_goto (tgt := 9) G.1 G.2.1 dX1_held_38 (by decide) ?_
        exact ih1 (x1 + 1) (by omega) _ _ _ (mAt_cast (rfl) hX) hS _ (by rw [show sp_mh (sp_held N S) (x1 + 1) = (sp_mh (sp_held N S) x1) ||| 0 from by rw [Nat.or_zero]; exact sp_mh_y h_23]; exact lv_sub hl [2, 1, 0] rfl)
      · have hu_23 := h_23
        refine lv_iconst (v := nI 1) G.1 G.2.1 dX1_held_26 (by decide) ?_
        refine lv_iload_n G.1 G.2.1 dX1_held_27 rfl (lv_at hl 2 rfl) ?_
        refine gn_ishl G dX1_held_28 (by first | omega | assumption) ?_
        refine lv_goto (tgt := 33) G.1 G.2.1 dX1_held_29 (by decide) ?_
        refine gn_ior G dX1_held_33 ?_
        refine lv_istore_n (lv' := [(1, .int (nI ((sp_mh (sp_held N S) x1) ||| (2 ^ x1)))), (0, .ref (q 0)), (2, .int (nI x1))]) G.1 G.2.1 dX1_held_34 rfl hl (by decide) rfl (fun ls hl => ?_)
        refine gn_iinc (lv' := [(2, .int (nI (x1 + 1))), (1, .int (nI ((sp_mh (sp_held N S) x1) ||| (2 ^ x1)))), (0, .ref (q 0))]) (n := 1) G dX1_held_35 hl (k := 2) rfl (by decide) rfl (fun ls hl => ?_)
        refine lv_goto (tgt := 9) G.1 G.2.1 dX1_held_38 (by decide) ?_
        exact ih1 (x1 + 1) (by omega) _ _ _ (mAt_cast (rfl) hX) hS _ (by rw [show sp_mh (sp_held N S) (x1 + 1) = (sp_mh (sp_held N S) x1) ||| (2 ^ x1) from sp_mh_n h_23]; exact lv_sub hl [2, 1, 0] rfl)
  exact loop1 (N 0) 0 (by omega) _ _ _ (mAt_cast (rfl) hX) hS _ (lv_sub hl [2, 1, 0] rfl)
set_option maxRecDepth 100000 in
set_option maxHeartbeats 4000000 in
/-- paint -/
theorem mX1_paint (l : Launch) (D : va_G) (q : Nat → Nat) (cI cZ : ClassId) (N : Nat → Nat) (S : Nat → Nat → Nat) (fv : Nat → Nat) (th : Nat) (A : Nat → Prop) (hok : sp_ok N S) (hinv : sp_inv N S) (i1 i2 i3 : Int32) : Met l yX1_paint wsX1_paint { frames := 2, cells := 0, slots := 0, locals := 42 } (va_Pc [.ref (q 0), .int i1, .int i2, .int i3] (fun U => mAt D q cI cZ N S fv th A U U.heap)) (gQm D q cI cZ (fun r N2 S2 th2 => th2 = sk_paint N S i1 i2 i3 ∧ (sk_paint N S i1 i2 i3 = 0 → r = nI (sR_paint N S i1 i2 i3)) ∧ N2 = (if sk_paint N S i1 i2 i3 = 0 then sN_paint N S i1 i2 i3 else N) ∧ S2 = (if sk_paint N S i1 i2 i3 = 0 then sS_paint N S i1 i2 i3 else S)) A) 0 0 A := by
  refine gc_met [.ref (q 0), .int i1, .int i2, .int i3] (by decide) rfl (Nat.le_of_ble_eq_true rfl) rfl ?_
  intro p e s m below meth c ls G hl hX
  have hS : va_S A s.heap s.heap [] := va_S.rf
  have hok9 := hok
  obtain ⟨⟨ok0, ok5⟩, ok1, ok2, ok3, ok4, ok6, ok7, ok8, ok12, ok13, ok14⟩ := hok9
  refine lv_aload_n G.1 G.2.1 dX1_paint_0 rfl (lv_at hl 0 rfl) ?_
  refine lv_iload_n G.1 G.2.1 dX1_paint_1 rfl (lv_at hl 1 rfl) ?_
  refine gc_s (As := [.int i1]) (rest := [.ref (q 0)]) G.fix (mX1_isPixel l i1) (va_cwS 1 G.2.2.2.2.2.1 gX1_paint_X1_isPixel rfl rfl rfl (by decide +kernel) ⟨Nat.le_of_ble_eq_true rfl, Nat.le_of_ble_eq_true rfl⟩) gc_blindT (fun _ _ _ => trivial) rfl hl.1 rfl (Nat.le_of_ble_eq_true rfl) dX1_paint_2 (Nat.zero_le _) (Nat.zero_le _) (fun r hr => ?_)
  subst hr
  refine gn_eqz G (by exact gbn_lt _) (tgt := 19) dX1_paint_5 (by decide) (fun h_5 => ?_) (fun h_5 => ?_)
  · have hF_5 : gb i1 6 = false := gbn_f h_5
    refine lv_iconst (v := nI 0) G.1 G.2.1 dX1_paint_19 (by decide) ?_
    refine lv_iload_n G.1 G.2.1 dX1_paint_20 rfl (lv_at hl 3 rfl) ?_
    refine gc_s (As := [.int i3]) (rest := [.int (nI 0), .ref (q 0)]) G.fix (mX1_isByte l i3) (va_cwS 1 G.2.2.2.2.2.1 gX1_paint_X1_isByte rfl rfl rfl (by decide +kernel) ⟨Nat.le_of_ble_eq_true rfl, Nat.le_of_ble_eq_true rfl⟩) gc_blindT (fun _ _ _ => trivial) rfl hl.1 rfl (Nat.le_of_ble_eq_true rfl) dX1_paint_21 (Nat.zero_le _) (Nat.zero_le _) (fun r hr => ?_)
    subst hr
    refine gm_mut (N' := N) (S' := S) (th' := (sp_m3 0 (gbn (gb i3 256)) 1)) (r := (nI (sp_z (sp_m3 0 (gbn (gb i3 256)) 1)))) (As := [.int (nI 0), .int (nI (gbn (gb i3 256)))]) (rest := []) G.fix (mX1_mayBoth l D q cI cZ N S fv th A 0 (gbn (gb i3 256)) (by first | decide | exact gbn_lt _) (by first | decide | exact gbn_lt _)) (cwV 2 G.2.2.2.2.2.1 gX1_paint_X1_mayBoth rfl rfl rfl (by decide +kernel) ⟨Nat.le_of_ble_eq_true rfl, Nat.le_of_ble_eq_true rfl⟩) hX hS rfl hl.1 rfl (Nat.le_of_ble_eq_true rfl) dX1_paint_24 (Nat.zero_le _) (Nat.zero_le _) (fun fv H1 locs1 hX hS => ?_)
    refine gn_nez G (by exact sp_z_lt _) (tgt := 32) dX1_paint_27 (by decide) (fun h_27 => ?_) (fun h_27 => ?_)
    · exact absurd (sp_z_t h_27) (fun z => sp_m3_a z rfl)
    · have hZ : sp_m3 0 (gbn (gb i3 256)) 1 ≠ 0 := sp_z_f h_27
      refine lv_iconst (v := nI 0) G.1 G.2.1 dX1_paint_30 (by decide) ?_
      have hth : sp_m3 0 (gbn (gb i3 256)) 1 = sk_paint N S i1 i2 i3 := by
        unfold sk_paint
        rw [show sA_paint N S i1 i2 i3 = false from by simp [sA_paint, hF_5] <;> omega]
        rfl
      exact W.iret G.1 G.2.1 G.2.2.1 (fun t ht hW => gQm_of hX hS ht ⟨hth, fun h => absurd (hth.trans h) hZ, (if_neg (fun h => hZ (hth.trans h))).symm, (if_neg (fun h => hZ (hth.trans h))).symm⟩) hS.2.2 dX1_paint_31 G.2.2.2.2.2.2
  · have hT_5 : gb i1 6 = true := gbn_t h_5
    obtain ⟨j1, hj1, rfl⟩ := gb_of (by omega) hT_5
    have hg1 := gn_nI (show j1 < 2 ^ 31 by omega)
    refine lv_iload_n G.1 G.2.1 dX1_paint_8 rfl (lv_at hl 2 rfl) ?_
    refine gc_s (As := [.int i2]) (rest := [.ref (q 0)]) G.fix (mX1_isThird l i2) (va_cwS 1 G.2.2.2.2.2.1 gX1_paint_X1_isThird rfl rfl rfl (by decide +kernel) ⟨Nat.le_of_ble_eq_true rfl, Nat.le_of_ble_eq_true rfl⟩) gc_blindT (fun _ _ _ => trivial) rfl hl.1 rfl (Nat.le_of_ble_eq_true rfl) dX1_paint_9 (Nat.zero_le _) (Nat.zero_le _) (fun r hr => ?_)
    subst hr
    refine gn_eqz G (by exact gbn_lt _) (tgt := 19) dX1_paint_12 (by decide) (fun h_12 => ?_) (fun h_12 => ?_)
    · have hF_12 : gb i2 3 = false := gbn_f h_12
      refine lv_iconst (v := nI 0) G.1 G.2.1 dX1_paint_19 (by decide) ?_
      refine lv_iload_n G.1 G.2.1 dX1_paint_20 rfl (lv_at hl 3 rfl) ?_
      refine gc_s (As := [.int i3]) (rest := [.int (nI 0), .ref (q 0)]) G.fix (mX1_isByte l i3) (va_cwS 1 G.2.2.2.2.2.1 gX1_paint_X1_isByte rfl rfl rfl (by decide +kernel) ⟨Nat.le_of_ble_eq_true rfl, Nat.le_of_ble_eq_true rfl⟩) gc_blindT (fun _ _ _ => trivial) rfl hl.1 rfl (Nat.le_of_ble_eq_true rfl) dX1_paint_21 (Nat.zero_le _) (Nat.zero_le _) (fun r hr => ?_)
      subst hr
      refine gm_mut (N' := N) (S' := S) (th' := (sp_m3 0 (gbn (gb i3 256)) 1)) (r := (nI (sp_z (sp_m3 0 (gbn (gb i3 256)) 1)))) (As := [.int (nI 0), .int (nI (gbn (gb i3 256)))]) (rest := []) G.fix (mX1_mayBoth l D q cI cZ N S fv th A 0 (gbn (gb i3 256)) (by first | decide | exact gbn_lt _) (by first | decide | exact gbn_lt _)) (cwV 2 G.2.2.2.2.2.1 gX1_paint_X1_mayBoth rfl rfl rfl (by decide +kernel) ⟨Nat.le_of_ble_eq_true rfl, Nat.le_of_ble_eq_true rfl⟩) hX hS rfl hl.1 rfl (Nat.le_of_ble_eq_true rfl) dX1_paint_24 (Nat.zero_le _) (Nat.zero_le _) (fun fv H1 locs1 hX hS => ?_)
      refine gn_nez G (by exact sp_z_lt _) (tgt := 32) dX1_paint_27 (by decide) (fun h_27 => ?_) (fun h_27 => ?_)
      · exact absurd (sp_z_t h_27) (fun z => sp_m3_a z rfl)
      · have hZ : sp_m3 0 (gbn (gb i3 256)) 1 ≠ 0 := sp_z_f h_27
        refine lv_iconst (v := nI 0) G.1 G.2.1 dX1_paint_30 (by decide) ?_
        have hth : sp_m3 0 (gbn (gb i3 256)) 1 = sk_paint N S (nI j1) i2 i3 := by
          unfold sk_paint
          rw [show sA_paint N S (nI j1) i2 i3 = false from by simp [sA_paint, hT_5, hF_12, hg1] <;> omega]
          rfl
        exact W.iret G.1 G.2.1 G.2.2.1 (fun t ht hW => gQm_of hX hS ht ⟨hth, fun h => absurd (hth.trans h) hZ, (if_neg (fun h => hZ (hth.trans h))).symm, (if_neg (fun h => hZ (hth.trans h))).symm⟩) hS.2.2 dX1_paint_31 G.2.2.2.2.2.2
    · have hT_12 : gb i2 3 = true := gbn_t h_12
      obtain ⟨j2, hj2, rfl⟩ := gb_of (by omega) hT_12
      have hg2 := gn_nI (show j2 < 2 ^ 31 by omega)
      refine lv_iconst (v := nI 1) G.1 G.2.1 dX1_paint_15 (by decide) ?_
      refine lv_goto (tgt := 20) G.1 G.2.1 dX1_paint_16 (by decide) ?_
      refine lv_iload_n G.1 G.2.1 dX1_paint_20 rfl (lv_at hl 3 rfl) ?_
      refine gc_s (As := [.int i3]) (rest := [.int (nI 1), .ref (q 0)]) G.fix (mX1_isByte l i3) (va_cwS 1 G.2.2.2.2.2.1 gX1_paint_X1_isByte rfl rfl rfl (by decide +kernel) ⟨Nat.le_of_ble_eq_true rfl, Nat.le_of_ble_eq_true rfl⟩) gc_blindT (fun _ _ _ => trivial) rfl hl.1 rfl (Nat.le_of_ble_eq_true rfl) dX1_paint_21 (Nat.zero_le _) (Nat.zero_le _) (fun r hr => ?_)
      subst hr
      refine gm_mut (N' := N) (S' := S) (th' := (sp_m3 1 (gbn (gb i3 256)) 1)) (r := (nI (sp_z (sp_m3 1 (gbn (gb i3 256)) 1)))) (As := [.int (nI 1), .int (nI (gbn (gb i3 256)))]) (rest := []) G.fix (mX1_mayBoth l D q cI cZ N S fv th A 1 (gbn (gb i3 256)) (by first | decide | exact gbn_lt _) (by first | decide | exact gbn_lt _)) (cwV 2 G.2.2.2.2.2.1 gX1_paint_X1_mayBoth rfl rfl rfl (by decide +kernel) ⟨Nat.le_of_ble_eq_true rfl, Nat.le_of_ble_eq_true rfl⟩) hX hS rfl hl.1 rfl (Nat.le_of_ble_eq_true rfl) dX1_paint_24 (Nat.zero_le _) (Nat.zero_le _) (fun fv H1 locs1 hX hS => ?_)
      refine gn_nez G (by exact sp_z_lt _) (tgt := 32) dX1_paint_27 (by decide) (fun h_27 => ?_) (fun h_27 => ?_)
      · have hZ : sp_m3 1 (gbn (gb i3 256)) 1 = 0 := sp_z_t h_27
        have hTb_27 : gb i3 256 = true := gbn_t (sp_m3_b hZ)
        obtain ⟨j3, hj3, rfl⟩ := gb_of (by omega) hTb_27
        have hg3 := gn_nI (show j3 < 2 ^ 31 by omega)
        refine lv_aload_n G.1 G.2.1 dX1_paint_32 rfl (lv_at hl 0 rfl) ?_
        refine gm_get G hX (by decide +kernel) 11 (by decide) (by decide +kernel) rfl rfl rfl dX1_paint_33 ?_
        refine lv_iconst (v := nI 3) G.1 G.2.1 dX1_paint_36 (by decide) ?_
        refine lv_iload_n G.1 G.2.1 dX1_paint_37 rfl (lv_at hl 1 rfl) ?_
        refine gn_imul G dX1_paint_38 ?_
        refine lv_iload_n G.1 G.2.1 dX1_paint_39 rfl (lv_at hl 2 rfl) ?_
        refine gn_iadd G dX1_paint_40 ?_
        refine gm_ald (k := 11) (kp := 10) (len := 18) (F := S 12) G hX rfl (by first | omega | assumption) (by decide) dX1_paint_41 ?_
        rw [show (3 * j1) + j2 = (j1 * 3) + j2 from by omega]
        refine lv_istore (lv' := [(4, .int (nI (S 12 ((j1 * 3) + j2)))), (0, .ref (q 0)), (1, .int (nI j1)), (2, .int (nI j2)), (3, .int (nI j3))]) G.1 G.2.1 dX1_paint_42 hl (by decide) rfl (fun ls hl => ?_)
        refine lv_aload_n G.1 G.2.1 dX1_paint_44 rfl (lv_at hl 1 rfl) ?_
        refine gm_get G hX (by decide +kernel) 11 (by decide) (by decide +kernel) rfl rfl rfl dX1_paint_45 ?_
        refine lv_iconst (v := nI 3) G.1 G.2.1 dX1_paint_48 (by decide) ?_
        refine lv_iload_n G.1 G.2.1 dX1_paint_49 rfl (lv_at hl 2 rfl) ?_
        refine gn_imul G dX1_paint_50 ?_
        refine lv_iload_n G.1 G.2.1 dX1_paint_51 rfl (lv_at hl 3 rfl) ?_
        refine gn_iadd G dX1_paint_52 ?_
        refine lv_iload_n G.1 G.2.1 dX1_paint_53 rfl (lv_at hl 4 rfl) ?_
        refine gm_ast (k := 11) (kp := 10) (len := 18) (F := S 12) (i := (3 * j1) + j2) (v := j3) (S' := (gs S 12 (gu (S 12) ((j1 * 3) + j2) j3))) (fv' := fv) G hX hS rfl (by rw [show (3 * j1) + j2 = (j1 * 3) + j2 from by omega]; rfl) (by first | omega | assumption) (by decide) dX1_paint_54 (fun H1 locs1 hX hS => ?_)
        refine lv_iload G.1 G.2.1 dX1_paint_55 (lv_at hl 0 rfl) ?_
        have hth : sp_m3 1 (gbn (gb (nI j3) 256)) 1 = sk_paint N S (nI j1) (nI j2) (nI j3) := by
          unfold sk_paint
          rw [show sA_paint N S (nI j1) (nI j2) (nI j3) = true from by simp [sA_paint, hT_5, hT_12, hTb_27, hg1, hg2, hg3] <;> omega]
          exact sp_m3_gk (true) (gb (nI j3) 256) (true)
        have hsk : sk_paint N S (nI j1) (nI j2) (nI j3) = 0 := hth.symm.trans hZ
        exact W.iret G.1 G.2.1 G.2.2.1 (fun t ht hW => gQm_of hX hS ht ⟨hth, fun _ => (by show nI _ = nI _; simp only [sR_paint, hg1, hg2, hg3]), (by rw [if_pos hsk]; simp only [sN_paint, hg1, hg2, hg3]), (by rw [if_pos hsk]; simp only [sS_paint, hg1, hg2, hg3])⟩) hS.2.2 dX1_paint_57 G.2.2.2.2.2.2
      · have hZ : sp_m3 1 (gbn (gb i3 256)) 1 ≠ 0 := sp_z_f h_27
        refine lv_iconst (v := nI 0) G.1 G.2.1 dX1_paint_30 (by decide) ?_
        have hth : sp_m3 1 (gbn (gb i3 256)) 1 = sk_paint N S (nI j1) (nI j2) i3 := by
          unfold sk_paint
          rw [show sA_paint N S (nI j1) (nI j2) i3 = true from by simp [sA_paint, hT_5, hT_12, hg1, hg2] <;> omega]
          exact sp_m3_gk (true) (gb i3 256) (true)
        exact W.iret G.1 G.2.1 G.2.2.1 (fun t ht hW => gQm_of hX hS ht ⟨hth, fun h => absurd (hth.trans h) hZ, (if_neg (fun h => hZ (hth.trans h))).symm, (if_neg (fun h => hZ (hth.trans h))).symm⟩) hS.2.2 dX1_paint_31 G.2.2.2.2.2.2
set_option maxRecDepth 100000 in
set_option maxHeartbeats 4000000 in
/-- spot -/
theorem mX1_spot (l : Launch) (D : va_G) (q : Nat → Nat) (cI cZ : ClassId) (N : Nat → Nat) (S : Nat → Nat → Nat) (fv : Nat → Nat) (th : Nat) (A : Nat → Prop) (hok : sp_ok N S) (hinv : sp_inv N S) (i1 i2 i3 : Int32) : Met l yX1_spot wsX1_spot { frames := 2, cells := 0, slots := 0, locals := 42 } (va_Pc [.ref (q 0), .int i1, .int i2, .int i3] (fun U => mAt D q cI cZ N S fv th A U U.heap)) (gQm D q cI cZ (fun r N2 S2 th2 => th2 = sk_spot N S i1 i2 i3 ∧ (sk_spot N S i1 i2 i3 = 0 → r = nI (sR_spot N S i1 i2 i3)) ∧ N2 = (if sk_spot N S i1 i2 i3 = 0 then sN_spot N S i1 i2 i3 else N) ∧ S2 = (if sk_spot N S i1 i2 i3 = 0 then sS_spot N S i1 i2 i3 else S)) A) 0 0 A := by
  refine gc_met [.ref (q 0), .int i1, .int i2, .int i3] (by decide) rfl (Nat.le_of_ble_eq_true rfl) rfl ?_
  intro p e s m below meth c ls G hl hX
  have hS : va_S A s.heap s.heap [] := va_S.rf
  have hok9 := hok
  obtain ⟨⟨ok0, ok5⟩, ok1, ok2, ok3, ok4, ok6, ok7, ok8, ok12, ok13, ok14⟩ := hok9
  refine lv_aload_n G.1 G.2.1 dX1_spot_0 rfl (lv_at hl 0 rfl) ?_
  refine lv_iload_n G.1 G.2.1 dX1_spot_1 rfl (lv_at hl 1 rfl) ?_
  refine gc_s (As := [.int i1]) (rest := [.ref (q 0)]) G.fix (mX1_isPixel l i1) (va_cwS 1 G.2.2.2.2.2.1 gX1_spot_X1_isPixel rfl rfl rfl (by decide +kernel) ⟨Nat.le_of_ble_eq_true rfl, Nat.le_of_ble_eq_true rfl⟩) gc_blindT (fun _ _ _ => trivial) rfl hl.1 rfl (Nat.le_of_ble_eq_true rfl) dX1_spot_2 (Nat.zero_le _) (Nat.zero_le _) (fun r hr => ?_)
  subst hr
  refine gn_eqz G (by exact gbn_lt _) (tgt := 19) dX1_spot_5 (by decide) (fun h_5 => ?_) (fun h_5 => ?_)
  · have hF_5 : gb i1 6 = false := gbn_f h_5
    refine lv_iconst (v := nI 0) G.1 G.2.1 dX1_spot_19 (by decide) ?_
    refine lv_iload_n G.1 G.2.1 dX1_spot_20 rfl (lv_at hl 3 rfl) ?_
    refine gc_s (As := [.int i3]) (rest := [.int (nI 0), .ref (q 0)]) G.fix (mX1_isByte l i3) (va_cwS 1 G.2.2.2.2.2.1 gX1_spot_X1_isByte rfl rfl rfl (by decide +kernel) ⟨Nat.le_of_ble_eq_true rfl, Nat.le_of_ble_eq_true rfl⟩) gc_blindT (fun _ _ _ => trivial) rfl hl.1 rfl (Nat.le_of_ble_eq_true rfl) dX1_spot_21 (Nat.zero_le _) (Nat.zero_le _) (fun r hr => ?_)
    subst hr
    refine gm_mut (N' := N) (S' := S) (th' := (sp_m3 0 (gbn (gb i3 256)) 1)) (r := (nI (sp_z (sp_m3 0 (gbn (gb i3 256)) 1)))) (As := [.int (nI 0), .int (nI (gbn (gb i3 256)))]) (rest := []) G.fix (mX1_mayBoth l D q cI cZ N S fv th A 0 (gbn (gb i3 256)) (by first | decide | exact gbn_lt _) (by first | decide | exact gbn_lt _)) (cwV 2 G.2.2.2.2.2.1 gX1_spot_X1_mayBoth rfl rfl rfl (by decide +kernel) ⟨Nat.le_of_ble_eq_true rfl, Nat.le_of_ble_eq_true rfl⟩) hX hS rfl hl.1 rfl (Nat.le_of_ble_eq_true rfl) dX1_spot_24 (Nat.zero_le _) (Nat.zero_le _) (fun fv H1 locs1 hX hS => ?_)
    refine gn_nez G (by exact sp_z_lt _) (tgt := 32) dX1_spot_27 (by decide) (fun h_27 => ?_) (fun h_27 => ?_)
    · exact absurd (sp_z_t h_27) (fun z => sp_m3_a z rfl)
    · have hZ : sp_m3 0 (gbn (gb i3 256)) 1 ≠ 0 := sp_z_f h_27
      refine lv_iconst (v := nI 0) G.1 G.2.1 dX1_spot_30 (by decide) ?_
      have hth : sp_m3 0 (gbn (gb i3 256)) 1 = sk_spot N S i1 i2 i3 := by
        unfold sk_spot
        rw [show sA_spot N S i1 i2 i3 = false from by simp [sA_spot, hF_5] <;> omega]
        rfl
      exact W.iret G.1 G.2.1 G.2.2.1 (fun t ht hW => gQm_of hX hS ht ⟨hth, fun h => absurd (hth.trans h) hZ, (if_neg (fun h => hZ (hth.trans h))).symm, (if_neg (fun h => hZ (hth.trans h))).symm⟩) hS.2.2 dX1_spot_31 G.2.2.2.2.2.2
  · have hT_5 : gb i1 6 = true := gbn_t h_5
    obtain ⟨j1, hj1, rfl⟩ := gb_of (by omega) hT_5
    have hg1 := gn_nI (show j1 < 2 ^ 31 by omega)
    refine lv_iload_n G.1 G.2.1 dX1_spot_8 rfl (lv_at hl 2 rfl) ?_
    refine gc_s (As := [.int i2]) (rest := [.ref (q 0)]) G.fix (mX1_isThird l i2) (va_cwS 1 G.2.2.2.2.2.1 gX1_spot_X1_isThird rfl rfl rfl (by decide +kernel) ⟨Nat.le_of_ble_eq_true rfl, Nat.le_of_ble_eq_true rfl⟩) gc_blindT (fun _ _ _ => trivial) rfl hl.1 rfl (Nat.le_of_ble_eq_true rfl) dX1_spot_9 (Nat.zero_le _) (Nat.zero_le _) (fun r hr => ?_)
    subst hr
    refine gn_eqz G (by exact gbn_lt _) (tgt := 19) dX1_spot_12 (by decide) (fun h_12 => ?_) (fun h_12 => ?_)
    · have hF_12 : gb i2 3 = false := gbn_f h_12
      refine lv_iconst (v := nI 0) G.1 G.2.1 dX1_spot_19 (by decide) ?_
      refine lv_iload_n G.1 G.2.1 dX1_spot_20 rfl (lv_at hl 3 rfl) ?_
      refine gc_s (As := [.int i3]) (rest := [.int (nI 0), .ref (q 0)]) G.fix (mX1_isByte l i3) (va_cwS 1 G.2.2.2.2.2.1 gX1_spot_X1_isByte rfl rfl rfl (by decide +kernel) ⟨Nat.le_of_ble_eq_true rfl, Nat.le_of_ble_eq_true rfl⟩) gc_blindT (fun _ _ _ => trivial) rfl hl.1 rfl (Nat.le_of_ble_eq_true rfl) dX1_spot_21 (Nat.zero_le _) (Nat.zero_le _) (fun r hr => ?_)
      subst hr
      refine gm_mut (N' := N) (S' := S) (th' := (sp_m3 0 (gbn (gb i3 256)) 1)) (r := (nI (sp_z (sp_m3 0 (gbn (gb i3 256)) 1)))) (As := [.int (nI 0), .int (nI (gbn (gb i3 256)))]) (rest := []) G.fix (mX1_mayBoth l D q cI cZ N S fv th A 0 (gbn (gb i3 256)) (by first | decide | exact gbn_lt _) (by first | decide | exact gbn_lt _)) (cwV 2 G.2.2.2.2.2.1 gX1_spot_X1_mayBoth rfl rfl rfl (by decide +kernel) ⟨Nat.le_of_ble_eq_true rfl, Nat.le_of_ble_eq_true rfl⟩) hX hS rfl hl.1 rfl (Nat.le_of_ble_eq_true rfl) dX1_spot_24 (Nat.zero_le _) (Nat.zero_le _) (fun fv H1 locs1 hX hS => ?_)
      refine gn_nez G (by exact sp_z_lt _) (tgt := 32) dX1_spot_27 (by decide) (fun h_27 => ?_) (fun h_27 => ?_)
      · exact absurd (sp_z_t h_27) (fun z => sp_m3_a z rfl)
      · have hZ : sp_m3 0 (gbn (gb i3 256)) 1 ≠ 0 := sp_z_f h_27
        refine lv_iconst (v := nI 0) G.1 G.2.1 dX1_spot_30 (by decide) ?_
        have hth : sp_m3 0 (gbn (gb i3 256)) 1 = sk_spot N S (nI j1) i2 i3 := by
          unfold sk_spot
          rw [show sA_spot N S (nI j1) i2 i3 = false from by simp [sA_spot, hT_5, hF_12, hg1] <;> omega]
          rfl
        exact W.iret G.1 G.2.1 G.2.2.1 (fun t ht hW => gQm_of hX hS ht ⟨hth, fun h => absurd (hth.trans h) hZ, (if_neg (fun h => hZ (hth.trans h))).symm, (if_neg (fun h => hZ (hth.trans h))).symm⟩) hS.2.2 dX1_spot_31 G.2.2.2.2.2.2
    · have hT_12 : gb i2 3 = true := gbn_t h_12
      obtain ⟨j2, hj2, rfl⟩ := gb_of (by omega) hT_12
      have hg2 := gn_nI (show j2 < 2 ^ 31 by omega)
      refine lv_iconst (v := nI 1) G.1 G.2.1 dX1_spot_15 (by decide) ?_
      refine lv_goto (tgt := 20) G.1 G.2.1 dX1_spot_16 (by decide) ?_
      refine lv_iload_n G.1 G.2.1 dX1_spot_20 rfl (lv_at hl 3 rfl) ?_
      refine gc_s (As := [.int i3]) (rest := [.int (nI 1), .ref (q 0)]) G.fix (mX1_isByte l i3) (va_cwS 1 G.2.2.2.2.2.1 gX1_spot_X1_isByte rfl rfl rfl (by decide +kernel) ⟨Nat.le_of_ble_eq_true rfl, Nat.le_of_ble_eq_true rfl⟩) gc_blindT (fun _ _ _ => trivial) rfl hl.1 rfl (Nat.le_of_ble_eq_true rfl) dX1_spot_21 (Nat.zero_le _) (Nat.zero_le _) (fun r hr => ?_)
      subst hr
      refine gm_mut (N' := N) (S' := S) (th' := (sp_m3 1 (gbn (gb i3 256)) 1)) (r := (nI (sp_z (sp_m3 1 (gbn (gb i3 256)) 1)))) (As := [.int (nI 1), .int (nI (gbn (gb i3 256)))]) (rest := []) G.fix (mX1_mayBoth l D q cI cZ N S fv th A 1 (gbn (gb i3 256)) (by first | decide | exact gbn_lt _) (by first | decide | exact gbn_lt _)) (cwV 2 G.2.2.2.2.2.1 gX1_spot_X1_mayBoth rfl rfl rfl (by decide +kernel) ⟨Nat.le_of_ble_eq_true rfl, Nat.le_of_ble_eq_true rfl⟩) hX hS rfl hl.1 rfl (Nat.le_of_ble_eq_true rfl) dX1_spot_24 (Nat.zero_le _) (Nat.zero_le _) (fun fv H1 locs1 hX hS => ?_)
      refine gn_nez G (by exact sp_z_lt _) (tgt := 32) dX1_spot_27 (by decide) (fun h_27 => ?_) (fun h_27 => ?_)
      · have hZ : sp_m3 1 (gbn (gb i3 256)) 1 = 0 := sp_z_t h_27
        have hTb_27 : gb i3 256 = true := gbn_t (sp_m3_b hZ)
        obtain ⟨j3, hj3, rfl⟩ := gb_of (by omega) hTb_27
        have hg3 := gn_nI (show j3 < 2 ^ 31 by omega)
        refine lv_aload_n G.1 G.2.1 dX1_spot_32 rfl (lv_at hl 0 rfl) ?_
        refine gm_get G hX (by decide +kernel) 12 (by decide) (by decide +kernel) rfl rfl rfl dX1_spot_33 ?_
        refine lv_iconst (v := nI 3) G.1 G.2.1 dX1_spot_36 (by decide) ?_
        refine lv_iload_n G.1 G.2.1 dX1_spot_37 rfl (lv_at hl 1 rfl) ?_
        refine gn_imul G dX1_spot_38 ?_
        refine lv_iload_n G.1 G.2.1 dX1_spot_39 rfl (lv_at hl 2 rfl) ?_
        refine gn_iadd G dX1_spot_40 ?_
        refine gm_ald (k := 12) (kp := 11) (len := 18) (F := S 13) G hX rfl (by first | omega | assumption) (by decide) dX1_spot_41 ?_
        rw [show (3 * j1) + j2 = (j1 * 3) + j2 from by omega]
        refine lv_istore (lv' := [(4, .int (nI (S 13 ((j1 * 3) + j2)))), (0, .ref (q 0)), (1, .int (nI j1)), (2, .int (nI j2)), (3, .int (nI j3))]) G.1 G.2.1 dX1_spot_42 hl (by decide) rfl (fun ls hl => ?_)
        refine lv_aload_n G.1 G.2.1 dX1_spot_44 rfl (lv_at hl 1 rfl) ?_
        refine gm_get G hX (by decide +kernel) 12 (by decide) (by decide +kernel) rfl rfl rfl dX1_spot_45 ?_
        refine lv_iconst (v := nI 3) G.1 G.2.1 dX1_spot_48 (by decide) ?_
        refine lv_iload_n G.1 G.2.1 dX1_spot_49 rfl (lv_at hl 2 rfl) ?_
        refine gn_imul G dX1_spot_50 ?_
        refine lv_iload_n G.1 G.2.1 dX1_spot_51 rfl (lv_at hl 3 rfl) ?_
        refine gn_iadd G dX1_spot_52 ?_
        refine lv_iload_n G.1 G.2.1 dX1_spot_53 rfl (lv_at hl 4 rfl) ?_
        refine gm_ast (k := 12) (kp := 11) (len := 18) (F := S 13) (i := (3 * j1) + j2) (v := j3) (S' := (gs S 13 (gu (S 13) ((j1 * 3) + j2) j3))) (fv' := fv) G hX hS rfl (by rw [show (3 * j1) + j2 = (j1 * 3) + j2 from by omega]; rfl) (by first | omega | assumption) (by decide) dX1_spot_54 (fun H1 locs1 hX hS => ?_)
        refine lv_iload G.1 G.2.1 dX1_spot_55 (lv_at hl 0 rfl) ?_
        have hth : sp_m3 1 (gbn (gb (nI j3) 256)) 1 = sk_spot N S (nI j1) (nI j2) (nI j3) := by
          unfold sk_spot
          rw [show sA_spot N S (nI j1) (nI j2) (nI j3) = true from by simp [sA_spot, hT_5, hT_12, hTb_27, hg1, hg2, hg3] <;> omega]
          exact sp_m3_gk (true) (gb (nI j3) 256) (true)
        have hsk : sk_spot N S (nI j1) (nI j2) (nI j3) = 0 := hth.symm.trans hZ
        exact W.iret G.1 G.2.1 G.2.2.1 (fun t ht hW => gQm_of hX hS ht ⟨hth, fun _ => (by show nI _ = nI _; simp only [sR_spot, hg1, hg2, hg3]), (by rw [if_pos hsk]; simp only [sN_spot, hg1, hg2, hg3]), (by rw [if_pos hsk]; simp only [sS_spot, hg1, hg2, hg3])⟩) hS.2.2 dX1_spot_57 G.2.2.2.2.2.2
      · have hZ : sp_m3 1 (gbn (gb i3 256)) 1 ≠ 0 := sp_z_f h_27
        refine lv_iconst (v := nI 0) G.1 G.2.1 dX1_spot_30 (by decide) ?_
        have hth : sp_m3 1 (gbn (gb i3 256)) 1 = sk_spot N S (nI j1) (nI j2) i3 := by
          unfold sk_spot
          rw [show sA_spot N S (nI j1) (nI j2) i3 = true from by simp [sA_spot, hT_5, hT_12, hg1, hg2] <;> omega]
          exact sp_m3_gk (true) (gb i3 256) (true)
        exact W.iret G.1 G.2.1 G.2.2.1 (fun t ht hW => gQm_of hX hS ht ⟨hth, fun h => absurd (hth.trans h) hZ, (if_neg (fun h => hZ (hth.trans h))).symm, (if_neg (fun h => hZ (hth.trans h))).symm⟩) hS.2.2 dX1_spot_31 G.2.2.2.2.2.2
set_option maxRecDepth 100000 in
set_option maxHeartbeats 4000000 in
/-- mix -/
theorem mX1_mix (l : Launch) (D : va_G) (q : Nat → Nat) (cI cZ : ClassId) (N : Nat → Nat) (S : Nat → Nat → Nat) (fv : Nat → Nat) (th : Nat) (A : Nat → Prop) (hok : sp_ok N S) (hinv : sp_inv N S) (i1 i2 i3 : Int32) : Met l yX1_mix wsX1_mix { frames := 2, cells := 0, slots := 0, locals := 42 } (va_Pc [.ref (q 0), .int i1, .int i2, .int i3] (fun U => mAt D q cI cZ N S fv th A U U.heap)) (gQm D q cI cZ (fun r N2 S2 th2 => th2 = sk_mix N S i1 i2 i3 ∧ (sk_mix N S i1 i2 i3 = 0 → r = nI (sR_mix N S i1 i2 i3)) ∧ N2 = (if sk_mix N S i1 i2 i3 = 0 then sN_mix N S i1 i2 i3 else N) ∧ S2 = (if sk_mix N S i1 i2 i3 = 0 then sS_mix N S i1 i2 i3 else S)) A) 0 0 A := by
  refine gc_met [.ref (q 0), .int i1, .int i2, .int i3] (by decide) rfl (Nat.le_of_ble_eq_true rfl) rfl ?_
  intro p e s m below meth c ls G hl hX
  have hS : va_S A s.heap s.heap [] := va_S.rf
  have hok9 := hok
  obtain ⟨⟨ok0, ok5⟩, ok1, ok2, ok3, ok4, ok6, ok7, ok8, ok12, ok13, ok14⟩ := hok9
  refine lv_aload_n G.1 G.2.1 dX1_mix_0 rfl (lv_at hl 0 rfl) ?_
  refine lv_iload_n G.1 G.2.1 dX1_mix_1 rfl (lv_at hl 1 rfl) ?_
  refine gc_s (As := [.int i1]) (rest := [.ref (q 0)]) G.fix (mX1_isThird l i1) (va_cwS 1 G.2.2.2.2.2.1 gX1_mix_X1_isThird rfl rfl rfl (by decide +kernel) ⟨Nat.le_of_ble_eq_true rfl, Nat.le_of_ble_eq_true rfl⟩) gc_blindT (fun _ _ _ => trivial) rfl hl.1 rfl (Nat.le_of_ble_eq_true rfl) dX1_mix_2 (Nat.zero_le _) (Nat.zero_le _) (fun r hr => ?_)
  subst hr
  refine gn_eqz G (by exact gbn_lt _) (tgt := 19) dX1_mix_5 (by decide) (fun h_5 => ?_) (fun h_5 => ?_)
  · have hF_5 : gb i1 3 = false := gbn_f h_5
    refine lv_iconst (v := nI 0) G.1 G.2.1 dX1_mix_19 (by decide) ?_
    refine lv_iload_n G.1 G.2.1 dX1_mix_20 rfl (lv_at hl 3 rfl) ?_
    refine gc_s (As := [.int i3]) (rest := [.int (nI 0), .ref (q 0)]) G.fix (mX1_isByte l i3) (va_cwS 1 G.2.2.2.2.2.1 gX1_mix_X1_isByte rfl rfl rfl (by decide +kernel) ⟨Nat.le_of_ble_eq_true rfl, Nat.le_of_ble_eq_true rfl⟩) gc_blindT (fun _ _ _ => trivial) rfl hl.1 rfl (Nat.le_of_ble_eq_true rfl) dX1_mix_21 (Nat.zero_le _) (Nat.zero_le _) (fun r hr => ?_)
    subst hr
    refine gm_mut (N' := N) (S' := S) (th' := (sp_m3 0 (gbn (gb i3 256)) 1)) (r := (nI (sp_z (sp_m3 0 (gbn (gb i3 256)) 1)))) (As := [.int (nI 0), .int (nI (gbn (gb i3 256)))]) (rest := []) G.fix (mX1_mayBoth l D q cI cZ N S fv th A 0 (gbn (gb i3 256)) (by first | decide | exact gbn_lt _) (by first | decide | exact gbn_lt _)) (cwV 2 G.2.2.2.2.2.1 gX1_mix_X1_mayBoth rfl rfl rfl (by decide +kernel) ⟨Nat.le_of_ble_eq_true rfl, Nat.le_of_ble_eq_true rfl⟩) hX hS rfl hl.1 rfl (Nat.le_of_ble_eq_true rfl) dX1_mix_24 (Nat.zero_le _) (Nat.zero_le _) (fun fv H1 locs1 hX hS => ?_)
    refine gn_nez G (by exact sp_z_lt _) (tgt := 32) dX1_mix_27 (by decide) (fun h_27 => ?_) (fun h_27 => ?_)
    · exact absurd (sp_z_t h_27) (fun z => sp_m3_a z rfl)
    · have hZ : sp_m3 0 (gbn (gb i3 256)) 1 ≠ 0 := sp_z_f h_27
      refine lv_iconst (v := nI 0) G.1 G.2.1 dX1_mix_30 (by decide) ?_
      have hth : sp_m3 0 (gbn (gb i3 256)) 1 = sk_mix N S i1 i2 i3 := by
        unfold sk_mix
        rw [show sA_mix N S i1 i2 i3 = false from by simp [sA_mix, hF_5] <;> omega]
        rfl
      exact W.iret G.1 G.2.1 G.2.2.1 (fun t ht hW => gQm_of hX hS ht ⟨hth, fun h => absurd (hth.trans h) hZ, (if_neg (fun h => hZ (hth.trans h))).symm, (if_neg (fun h => hZ (hth.trans h))).symm⟩) hS.2.2 dX1_mix_31 G.2.2.2.2.2.2
  · have hT_5 : gb i1 3 = true := gbn_t h_5
    obtain ⟨j1, hj1, rfl⟩ := gb_of (by omega) hT_5
    have hg1 := gn_nI (show j1 < 2 ^ 31 by omega)
    refine lv_iload_n G.1 G.2.1 dX1_mix_8 rfl (lv_at hl 2 rfl) ?_
    refine gc_s (As := [.int i2]) (rest := [.ref (q 0)]) G.fix (mX1_isThird l i2) (va_cwS 1 G.2.2.2.2.2.1 gX1_mix_X1_isThird rfl rfl rfl (by decide +kernel) ⟨Nat.le_of_ble_eq_true rfl, Nat.le_of_ble_eq_true rfl⟩) gc_blindT (fun _ _ _ => trivial) rfl hl.1 rfl (Nat.le_of_ble_eq_true rfl) dX1_mix_9 (Nat.zero_le _) (Nat.zero_le _) (fun r hr => ?_)
    subst hr
    refine gn_eqz G (by exact gbn_lt _) (tgt := 19) dX1_mix_12 (by decide) (fun h_12 => ?_) (fun h_12 => ?_)
    · have hF_12 : gb i2 3 = false := gbn_f h_12
      refine lv_iconst (v := nI 0) G.1 G.2.1 dX1_mix_19 (by decide) ?_
      refine lv_iload_n G.1 G.2.1 dX1_mix_20 rfl (lv_at hl 3 rfl) ?_
      refine gc_s (As := [.int i3]) (rest := [.int (nI 0), .ref (q 0)]) G.fix (mX1_isByte l i3) (va_cwS 1 G.2.2.2.2.2.1 gX1_mix_X1_isByte rfl rfl rfl (by decide +kernel) ⟨Nat.le_of_ble_eq_true rfl, Nat.le_of_ble_eq_true rfl⟩) gc_blindT (fun _ _ _ => trivial) rfl hl.1 rfl (Nat.le_of_ble_eq_true rfl) dX1_mix_21 (Nat.zero_le _) (Nat.zero_le _) (fun r hr => ?_)
      subst hr
      refine gm_mut (N' := N) (S' := S) (th' := (sp_m3 0 (gbn (gb i3 256)) 1)) (r := (nI (sp_z (sp_m3 0 (gbn (gb i3 256)) 1)))) (As := [.int (nI 0), .int (nI (gbn (gb i3 256)))]) (rest := []) G.fix (mX1_mayBoth l D q cI cZ N S fv th A 0 (gbn (gb i3 256)) (by first | decide | exact gbn_lt _) (by first | decide | exact gbn_lt _)) (cwV 2 G.2.2.2.2.2.1 gX1_mix_X1_mayBoth rfl rfl rfl (by decide +kernel) ⟨Nat.le_of_ble_eq_true rfl, Nat.le_of_ble_eq_true rfl⟩) hX hS rfl hl.1 rfl (Nat.le_of_ble_eq_true rfl) dX1_mix_24 (Nat.zero_le _) (Nat.zero_le _) (fun fv H1 locs1 hX hS => ?_)
      refine gn_nez G (by exact sp_z_lt _) (tgt := 32) dX1_mix_27 (by decide) (fun h_27 => ?_) (fun h_27 => ?_)
      · exact absurd (sp_z_t h_27) (fun z => sp_m3_a z rfl)
      · have hZ : sp_m3 0 (gbn (gb i3 256)) 1 ≠ 0 := sp_z_f h_27
        refine lv_iconst (v := nI 0) G.1 G.2.1 dX1_mix_30 (by decide) ?_
        have hth : sp_m3 0 (gbn (gb i3 256)) 1 = sk_mix N S (nI j1) i2 i3 := by
          unfold sk_mix
          rw [show sA_mix N S (nI j1) i2 i3 = false from by simp [sA_mix, hT_5, hF_12, hg1] <;> omega]
          rfl
        exact W.iret G.1 G.2.1 G.2.2.1 (fun t ht hW => gQm_of hX hS ht ⟨hth, fun h => absurd (hth.trans h) hZ, (if_neg (fun h => hZ (hth.trans h))).symm, (if_neg (fun h => hZ (hth.trans h))).symm⟩) hS.2.2 dX1_mix_31 G.2.2.2.2.2.2
    · have hT_12 : gb i2 3 = true := gbn_t h_12
      obtain ⟨j2, hj2, rfl⟩ := gb_of (by omega) hT_12
      have hg2 := gn_nI (show j2 < 2 ^ 31 by omega)
      refine lv_iconst (v := nI 1) G.1 G.2.1 dX1_mix_15 (by decide) ?_
      refine lv_goto (tgt := 20) G.1 G.2.1 dX1_mix_16 (by decide) ?_
      refine lv_iload_n G.1 G.2.1 dX1_mix_20 rfl (lv_at hl 3 rfl) ?_
      refine gc_s (As := [.int i3]) (rest := [.int (nI 1), .ref (q 0)]) G.fix (mX1_isByte l i3) (va_cwS 1 G.2.2.2.2.2.1 gX1_mix_X1_isByte rfl rfl rfl (by decide +kernel) ⟨Nat.le_of_ble_eq_true rfl, Nat.le_of_ble_eq_true rfl⟩) gc_blindT (fun _ _ _ => trivial) rfl hl.1 rfl (Nat.le_of_ble_eq_true rfl) dX1_mix_21 (Nat.zero_le _) (Nat.zero_le _) (fun r hr => ?_)
      subst hr
      refine gm_mut (N' := N) (S' := S) (th' := (sp_m3 1 (gbn (gb i3 256)) 1)) (r := (nI (sp_z (sp_m3 1 (gbn (gb i3 256)) 1)))) (As := [.int (nI 1), .int (nI (gbn (gb i3 256)))]) (rest := []) G.fix (mX1_mayBoth l D q cI cZ N S fv th A 1 (gbn (gb i3 256)) (by first | decide | exact gbn_lt _) (by first | decide | exact gbn_lt _)) (cwV 2 G.2.2.2.2.2.1 gX1_mix_X1_mayBoth rfl rfl rfl (by decide +kernel) ⟨Nat.le_of_ble_eq_true rfl, Nat.le_of_ble_eq_true rfl⟩) hX hS rfl hl.1 rfl (Nat.le_of_ble_eq_true rfl) dX1_mix_24 (Nat.zero_le _) (Nat.zero_le _) (fun fv H1 locs1 hX hS => ?_)
      refine gn_nez G (by exact sp_z_lt _) (tgt := 32) dX1_mix_27 (by decide) (fun h_27 => ?_) (fun h_27 => ?_)
      · have hZ : sp_m3 1 (gbn (gb i3 256)) 1 = 0 := sp_z_t h_27
        have hTb_27 : gb i3 256 = true := gbn_t (sp_m3_b hZ)
        obtain ⟨j3, hj3, rfl⟩ := gb_of (by omega) hTb_27
        have hg3 := gn_nI (show j3 < 2 ^ 31 by omega)
        refine lv_aload_n G.1 G.2.1 dX1_mix_32 rfl (lv_at hl 0 rfl) ?_
        refine gm_get G hX (by decide +kernel) 13 (by decide) (by decide +kernel) rfl rfl rfl dX1_mix_33 ?_
        refine lv_iconst (v := nI 3) G.1 G.2.1 dX1_mix_36 (by decide) ?_
        refine lv_iload_n G.1 G.2.1 dX1_mix_37 rfl (lv_at hl 1 rfl) ?_
        refine gn_imul G dX1_mix_38 ?_
        refine lv_iload_n G.1 G.2.1 dX1_mix_39 rfl (lv_at hl 2 rfl) ?_
        refine gn_iadd G dX1_mix_40 ?_
        refine gm_ald (k := 13) (kp := 12) (len := 9) (F := S 14) G hX rfl (by first | omega | assumption) (by decide) dX1_mix_41 ?_
        rw [show (3 * j1) + j2 = (j1 * 3) + j2 from by omega]
        refine lv_istore (lv' := [(4, .int (nI (S 14 ((j1 * 3) + j2)))), (0, .ref (q 0)), (1, .int (nI j1)), (2, .int (nI j2)), (3, .int (nI j3))]) G.1 G.2.1 dX1_mix_42 hl (by decide) rfl (fun ls hl => ?_)
        refine lv_aload_n G.1 G.2.1 dX1_mix_44 rfl (lv_at hl 1 rfl) ?_
        refine gm_get G hX (by decide +kernel) 13 (by decide) (by decide +kernel) rfl rfl rfl dX1_mix_45 ?_
        refine lv_iconst (v := nI 3) G.1 G.2.1 dX1_mix_48 (by decide) ?_
        refine lv_iload_n G.1 G.2.1 dX1_mix_49 rfl (lv_at hl 2 rfl) ?_
        refine gn_imul G dX1_mix_50 ?_
        refine lv_iload_n G.1 G.2.1 dX1_mix_51 rfl (lv_at hl 3 rfl) ?_
        refine gn_iadd G dX1_mix_52 ?_
        refine lv_iload_n G.1 G.2.1 dX1_mix_53 rfl (lv_at hl 4 rfl) ?_
        refine gm_ast (k := 13) (kp := 12) (len := 9) (F := S 14) (i := (3 * j1) + j2) (v := j3) (S' := (gs S 14 (gu (S 14) ((j1 * 3) + j2) j3))) (fv' := fv) G hX hS rfl (by rw [show (3 * j1) + j2 = (j1 * 3) + j2 from by omega]; rfl) (by first | omega | assumption) (by decide) dX1_mix_54 (fun H1 locs1 hX hS => ?_)
        refine lv_iload G.1 G.2.1 dX1_mix_55 (lv_at hl 0 rfl) ?_
        have hth : sp_m3 1 (gbn (gb (nI j3) 256)) 1 = sk_mix N S (nI j1) (nI j2) (nI j3) := by
          unfold sk_mix
          rw [show sA_mix N S (nI j1) (nI j2) (nI j3) = true from by simp [sA_mix, hT_5, hT_12, hTb_27, hg1, hg2, hg3] <;> omega]
          exact sp_m3_gk (true) (gb (nI j3) 256) (true)
        have hsk : sk_mix N S (nI j1) (nI j2) (nI j3) = 0 := hth.symm.trans hZ
        exact W.iret G.1 G.2.1 G.2.2.1 (fun t ht hW => gQm_of hX hS ht ⟨hth, fun _ => (by show nI _ = nI _; simp only [sR_mix, hg1, hg2, hg3]), (by rw [if_pos hsk]; simp only [sN_mix, hg1, hg2, hg3]), (by rw [if_pos hsk]; simp only [sS_mix, hg1, hg2, hg3])⟩) hS.2.2 dX1_mix_57 G.2.2.2.2.2.2
      · have hZ : sp_m3 1 (gbn (gb i3 256)) 1 ≠ 0 := sp_z_f h_27
        refine lv_iconst (v := nI 0) G.1 G.2.1 dX1_mix_30 (by decide) ?_
        have hth : sp_m3 1 (gbn (gb i3 256)) 1 = sk_mix N S (nI j1) (nI j2) i3 := by
          unfold sk_mix
          rw [show sA_mix N S (nI j1) (nI j2) i3 = true from by simp [sA_mix, hT_5, hT_12, hg1, hg2] <;> omega]
          exact sp_m3_gk (true) (gb i3 256) (true)
        exact W.iret G.1 G.2.1 G.2.2.1 (fun t ht hW => gQm_of hX hS ht ⟨hth, fun h => absurd (hth.trans h) hZ, (if_neg (fun h => hZ (hth.trans h))).symm, (if_neg (fun h => hZ (hth.trans h))).symm⟩) hS.2.2 dX1_mix_31 G.2.2.2.2.2.2
set_option maxRecDepth 100000 in
set_option maxHeartbeats 4000000 in
/-- shown -/
theorem mX1_shown (l : Launch) (D : va_G) (q : Nat → Nat) (cI cZ : ClassId) (N : Nat → Nat) (S : Nat → Nat → Nat) (fv : Nat → Nat) (th : Nat) (A : Nat → Prop) (hok : sp_ok N S) (hinv : sp_inv N S) (i1 i2 i3 i4 : Int32) : Met l yX1_shown wsX1_shown { frames := 5, cells := 0, slots := 0, locals := 119 } (va_Pc [.ref (q 0), .int i1, .int i2, .int i3, .int i4] (fun U => mAt D q cI cZ N S fv th A U U.heap)) (gQm D q cI cZ (fun r N2 S2 th2 => th2 = sk_shown N S i1 i2 i3 i4 ∧ (sk_shown N S i1 i2 i3 i4 = 0 → r = nI (sR_shown N S i1 i2 i3 i4)) ∧ N2 = (if sk_shown N S i1 i2 i3 i4 = 0 then sN_shown N S i1 i2 i3 i4 else N) ∧ S2 = (if sk_shown N S i1 i2 i3 i4 = 0 then sS_shown N S i1 i2 i3 i4 else S)) A) 0 0 A := by
  refine gc_met [.ref (q 0), .int i1, .int i2, .int i3, .int i4] (by decide) rfl (Nat.le_of_ble_eq_true rfl) rfl ?_
  intro p e s m below meth c ls G hl hX
  have hS : va_S A s.heap s.heap [] := va_S.rf
  have hok9 := hok
  obtain ⟨⟨ok0, ok5⟩, ok1, ok2, ok3, ok4, ok6, ok7, ok8, ok12, ok13, ok14⟩ := hok9
  refine lv_aload_n G.1 G.2.1 dX1_shown_0 rfl (lv_at hl 0 rfl) ?_
  refine lv_aload_n G.1 G.2.1 dX1_shown_1 rfl (lv_at hl 0 rfl) ?_
  refine lv_iload_n G.1 G.2.1 dX1_shown_2 rfl (lv_at hl 1 rfl) ?_
  refine gc_v (As := [.int i1]) (rest := [.ref (q 0)]) G.fix (mX1_isChain l D q cI cZ N S fv th A hok i1) (cwV 1 G.2.2.2.2.2.1 gX1_shown_X1_isChain rfl rfl rfl (by decide +kernel) ⟨Nat.le_of_ble_eq_true rfl, Nat.le_of_ble_eq_true rfl⟩) mAt_blind (va_recv hX.2.1 hX.1 (ci := 1) (q0 := 0) rfl rfl) (fun U hU hW => by rw [hU]; exact hX.moved hW) rfl hl.1 rfl (Nat.le_of_ble_eq_true rfl) dX1_shown_3 (Nat.zero_le _) (Nat.zero_le _) (fun r hr => ?_)
  subst hr
  refine gn_eqz G (by exact gbn_lt _) (tgt := 27) dX1_shown_6 (by decide) (fun h_6 => ?_) (fun h_6 => ?_)
  · have hF_6 : gb i1 (N 5) = false := gbn_f h_6
    refine lv_iconst (v := nI 0) G.1 G.2.1 dX1_shown_27 (by decide) ?_
    refine lv_iload G.1 G.2.1 dX1_shown_28 (lv_at hl 4 rfl) ?_
    refine lv_iconst (v := nI 0) G.1 G.2.1 dX1_shown_30 (by decide) ?_
    refine lv_bipush (v := nI 7) G.1 G.2.1 dX1_shown_31 (by decide) ?_
    refine gc_s (As := [.int i4, .int (nI 0), .int (nI 7)]) (rest := [.int (nI 0), .ref (q 0)]) G.fix (mX1_isIn l i4 (nI 0) (nI 7)) (va_cwS 3 G.2.2.2.2.2.1 gX1_shown_X1_isIn rfl rfl rfl (by decide +kernel) ⟨Nat.le_of_ble_eq_true rfl, Nat.le_of_ble_eq_true rfl⟩) gc_blindT (fun _ _ _ => trivial) rfl hl.1 rfl (Nat.le_of_ble_eq_true rfl) dX1_shown_33 (Nat.zero_le _) (Nat.zero_le _) (fun r hr => ?_)
    subst hr
    rw [gin_k (by decide)]
    refine gm_mut (N' := N) (S' := S) (th' := (sp_m3 0 (gbn (gb i4 8)) 1)) (r := (nI (sp_z (sp_m3 0 (gbn (gb i4 8)) 1)))) (As := [.int (nI 0), .int (nI (gbn (gb i4 8)))]) (rest := []) G.fix (mX1_mayBoth l D q cI cZ N S fv th A 0 (gbn (gb i4 8)) (by first | decide | exact gbn_lt _) (by first | decide | exact gbn_lt _)) (cwV 2 G.2.2.2.2.2.1 gX1_shown_X1_mayBoth rfl rfl rfl (by decide +kernel) ⟨Nat.le_of_ble_eq_true rfl, Nat.le_of_ble_eq_true rfl⟩) hX hS rfl hl.1 rfl (Nat.le_of_ble_eq_true rfl) dX1_shown_36 (Nat.zero_le _) (Nat.zero_le _) (fun fv H1 locs1 hX hS => ?_)
    refine gn_nez G (by exact sp_z_lt _) (tgt := 44) dX1_shown_39 (by decide) (fun h_39 => ?_) (fun h_39 => ?_)
    · exact absurd (sp_z_t h_39) (fun z => sp_m3_a z rfl)
    · have hZ : sp_m3 0 (gbn (gb i4 8)) 1 ≠ 0 := sp_z_f h_39
      refine lv_iconst (v := nI 0) G.1 G.2.1 dX1_shown_42 (by decide) ?_
      have hth : sp_m3 0 (gbn (gb i4 8)) 1 = sk_shown N S i1 i2 i3 i4 := by
        unfold sk_shown
        rw [show sA_shown N S i1 i2 i3 i4 = false from by simp [sA_shown, hF_6] <;> omega]
        rfl
      exact W.iret G.1 G.2.1 G.2.2.1 (fun t ht hW => gQm_of hX hS ht ⟨hth, fun h => absurd (hth.trans h) hZ, (if_neg (fun h => hZ (hth.trans h))).symm, (if_neg (fun h => hZ (hth.trans h))).symm⟩) hS.2.2 dX1_shown_43 G.2.2.2.2.2.2
  · have hT_6 : gb i1 (N 5) = true := gbn_t h_6
    obtain ⟨j1, hj1, rfl⟩ := gb_of (by omega) hT_6
    have hg1 := gn_nI (show j1 < 2 ^ 31 by omega)
    refine lv_iload_n G.1 G.2.1 dX1_shown_9 rfl (lv_at hl 2 rfl) ?_
    refine gc_s (As := [.int i2]) (rest := [.ref (q 0)]) G.fix (mX1_isPixel l i2) (va_cwS 1 G.2.2.2.2.2.1 gX1_shown_X1_isPixel rfl rfl rfl (by decide +kernel) ⟨Nat.le_of_ble_eq_true rfl, Nat.le_of_ble_eq_true rfl⟩) gc_blindT (fun _ _ _ => trivial) rfl hl.1 rfl (Nat.le_of_ble_eq_true rfl) dX1_shown_10 (Nat.zero_le _) (Nat.zero_le _) (fun r hr => ?_)
    subst hr
    refine gn_eqz G (by exact gbn_lt _) (tgt := 27) dX1_shown_13 (by decide) (fun h_13 => ?_) (fun h_13 => ?_)
    · have hF_13 : gb i2 6 = false := gbn_f h_13
      refine lv_iconst (v := nI 0) G.1 G.2.1 dX1_shown_27 (by decide) ?_
      refine lv_iload G.1 G.2.1 dX1_shown_28 (lv_at hl 4 rfl) ?_
      refine lv_iconst (v := nI 0) G.1 G.2.1 dX1_shown_30 (by decide) ?_
      refine lv_bipush (v := nI 7) G.1 G.2.1 dX1_shown_31 (by decide) ?_
      refine gc_s (As := [.int i4, .int (nI 0), .int (nI 7)]) (rest := [.int (nI 0), .ref (q 0)]) G.fix (mX1_isIn l i4 (nI 0) (nI 7)) (va_cwS 3 G.2.2.2.2.2.1 gX1_shown_X1_isIn rfl rfl rfl (by decide +kernel) ⟨Nat.le_of_ble_eq_true rfl, Nat.le_of_ble_eq_true rfl⟩) gc_blindT (fun _ _ _ => trivial) rfl hl.1 rfl (Nat.le_of_ble_eq_true rfl) dX1_shown_33 (Nat.zero_le _) (Nat.zero_le _) (fun r hr => ?_)
      subst hr
      rw [gin_k (by decide)]
      refine gm_mut (N' := N) (S' := S) (th' := (sp_m3 0 (gbn (gb i4 8)) 1)) (r := (nI (sp_z (sp_m3 0 (gbn (gb i4 8)) 1)))) (As := [.int (nI 0), .int (nI (gbn (gb i4 8)))]) (rest := []) G.fix (mX1_mayBoth l D q cI cZ N S fv th A 0 (gbn (gb i4 8)) (by first | decide | exact gbn_lt _) (by first | decide | exact gbn_lt _)) (cwV 2 G.2.2.2.2.2.1 gX1_shown_X1_mayBoth rfl rfl rfl (by decide +kernel) ⟨Nat.le_of_ble_eq_true rfl, Nat.le_of_ble_eq_true rfl⟩) hX hS rfl hl.1 rfl (Nat.le_of_ble_eq_true rfl) dX1_shown_36 (Nat.zero_le _) (Nat.zero_le _) (fun fv H1 locs1 hX hS => ?_)
      refine gn_nez G (by exact sp_z_lt _) (tgt := 44) dX1_shown_39 (by decide) (fun h_39 => ?_) (fun h_39 => ?_)
      · exact absurd (sp_z_t h_39) (fun z => sp_m3_a z rfl)
      · have hZ : sp_m3 0 (gbn (gb i4 8)) 1 ≠ 0 := sp_z_f h_39
        refine lv_iconst (v := nI 0) G.1 G.2.1 dX1_shown_42 (by decide) ?_
        have hth : sp_m3 0 (gbn (gb i4 8)) 1 = sk_shown N S (nI j1) i2 i3 i4 := by
          unfold sk_shown
          rw [show sA_shown N S (nI j1) i2 i3 i4 = false from by simp [sA_shown, hT_6, hF_13, hg1] <;> omega]
          rfl
        exact W.iret G.1 G.2.1 G.2.2.1 (fun t ht hW => gQm_of hX hS ht ⟨hth, fun h => absurd (hth.trans h) hZ, (if_neg (fun h => hZ (hth.trans h))).symm, (if_neg (fun h => hZ (hth.trans h))).symm⟩) hS.2.2 dX1_shown_43 G.2.2.2.2.2.2
    · have hT_13 : gb i2 6 = true := gbn_t h_13
      obtain ⟨j2, hj2, rfl⟩ := gb_of (by omega) hT_13
      have hg2 := gn_nI (show j2 < 2 ^ 31 by omega)
      refine lv_iload_n G.1 G.2.1 dX1_shown_16 rfl (lv_at hl 3 rfl) ?_
      refine gc_s (As := [.int i3]) (rest := [.ref (q 0)]) G.fix (mX1_isThird l i3) (va_cwS 1 G.2.2.2.2.2.1 gX1_shown_X1_isThird rfl rfl rfl (by decide +kernel) ⟨Nat.le_of_ble_eq_true rfl, Nat.le_of_ble_eq_true rfl⟩) gc_blindT (fun _ _ _ => trivial) rfl hl.1 rfl (Nat.le_of_ble_eq_true rfl) dX1_shown_17 (Nat.zero_le _) (Nat.zero_le _) (fun r hr => ?_)
      subst hr
      refine gn_eqz G (by exact gbn_lt _) (tgt := 27) dX1_shown_20 (by decide) (fun h_20 => ?_) (fun h_20 => ?_)
      · have hF_20 : gb i3 3 = false := gbn_f h_20
        refine lv_iconst (v := nI 0) G.1 G.2.1 dX1_shown_27 (by decide) ?_
        refine lv_iload G.1 G.2.1 dX1_shown_28 (lv_at hl 4 rfl) ?_
        refine lv_iconst (v := nI 0) G.1 G.2.1 dX1_shown_30 (by decide) ?_
        refine lv_bipush (v := nI 7) G.1 G.2.1 dX1_shown_31 (by decide) ?_
        refine gc_s (As := [.int i4, .int (nI 0), .int (nI 7)]) (rest := [.int (nI 0), .ref (q 0)]) G.fix (mX1_isIn l i4 (nI 0) (nI 7)) (va_cwS 3 G.2.2.2.2.2.1 gX1_shown_X1_isIn rfl rfl rfl (by decide +kernel) ⟨Nat.le_of_ble_eq_true rfl, Nat.le_of_ble_eq_true rfl⟩) gc_blindT (fun _ _ _ => trivial) rfl hl.1 rfl (Nat.le_of_ble_eq_true rfl) dX1_shown_33 (Nat.zero_le _) (Nat.zero_le _) (fun r hr => ?_)
        subst hr
        rw [gin_k (by decide)]
        refine gm_mut (N' := N) (S' := S) (th' := (sp_m3 0 (gbn (gb i4 8)) 1)) (r := (nI (sp_z (sp_m3 0 (gbn (gb i4 8)) 1)))) (As := [.int (nI 0), .int (nI (gbn (gb i4 8)))]) (rest := []) G.fix (mX1_mayBoth l D q cI cZ N S fv th A 0 (gbn (gb i4 8)) (by first | decide | exact gbn_lt _) (by first | decide | exact gbn_lt _)) (cwV 2 G.2.2.2.2.2.1 gX1_shown_X1_mayBoth rfl rfl rfl (by decide +kernel) ⟨Nat.le_of_ble_eq_true rfl, Nat.le_of_ble_eq_true rfl⟩) hX hS rfl hl.1 rfl (Nat.le_of_ble_eq_true rfl) dX1_shown_36 (Nat.zero_le _) (Nat.zero_le _) (fun fv H1 locs1 hX hS => ?_)
        refine gn_nez G (by exact sp_z_lt _) (tgt := 44) dX1_shown_39 (by decide) (fun h_39 => ?_) (fun h_39 => ?_)
        · exact absurd (sp_z_t h_39) (fun z => sp_m3_a z rfl)
        · have hZ : sp_m3 0 (gbn (gb i4 8)) 1 ≠ 0 := sp_z_f h_39
          refine lv_iconst (v := nI 0) G.1 G.2.1 dX1_shown_42 (by decide) ?_
          have hth : sp_m3 0 (gbn (gb i4 8)) 1 = sk_shown N S (nI j1) (nI j2) i3 i4 := by
            unfold sk_shown
            rw [show sA_shown N S (nI j1) (nI j2) i3 i4 = false from by simp [sA_shown, hT_6, hT_13, hF_20, hg1, hg2] <;> omega]
            rfl
          exact W.iret G.1 G.2.1 G.2.2.1 (fun t ht hW => gQm_of hX hS ht ⟨hth, fun h => absurd (hth.trans h) hZ, (if_neg (fun h => hZ (hth.trans h))).symm, (if_neg (fun h => hZ (hth.trans h))).symm⟩) hS.2.2 dX1_shown_43 G.2.2.2.2.2.2
      · have hT_20 : gb i3 3 = true := gbn_t h_20
        obtain ⟨j3, hj3, rfl⟩ := gb_of (by omega) hT_20
        have hg3 := gn_nI (show j3 < 2 ^ 31 by omega)
        refine lv_iconst (v := nI 1) G.1 G.2.1 dX1_shown_23 (by decide) ?_
        refine lv_goto (tgt := 28) G.1 G.2.1 dX1_shown_24 (by decide) ?_
        refine lv_iload G.1 G.2.1 dX1_shown_28 (lv_at hl 4 rfl) ?_
        refine lv_iconst (v := nI 0) G.1 G.2.1 dX1_shown_30 (by decide) ?_
        refine lv_bipush (v := nI 7) G.1 G.2.1 dX1_shown_31 (by decide) ?_
        refine gc_s (As := [.int i4, .int (nI 0), .int (nI 7)]) (rest := [.int (nI 1), .ref (q 0)]) G.fix (mX1_isIn l i4 (nI 0) (nI 7)) (va_cwS 3 G.2.2.2.2.2.1 gX1_shown_X1_isIn rfl rfl rfl (by decide +kernel) ⟨Nat.le_of_ble_eq_true rfl, Nat.le_of_ble_eq_true rfl⟩) gc_blindT (fun _ _ _ => trivial) rfl hl.1 rfl (Nat.le_of_ble_eq_true rfl) dX1_shown_33 (Nat.zero_le _) (Nat.zero_le _) (fun r hr => ?_)
        subst hr
        rw [gin_k (by decide)]
        refine gm_mut (N' := N) (S' := S) (th' := (sp_m3 1 (gbn (gb i4 8)) 1)) (r := (nI (sp_z (sp_m3 1 (gbn (gb i4 8)) 1)))) (As := [.int (nI 1), .int (nI (gbn (gb i4 8)))]) (rest := []) G.fix (mX1_mayBoth l D q cI cZ N S fv th A 1 (gbn (gb i4 8)) (by first | decide | exact gbn_lt _) (by first | decide | exact gbn_lt _)) (cwV 2 G.2.2.2.2.2.1 gX1_shown_X1_mayBoth rfl rfl rfl (by decide +kernel) ⟨Nat.le_of_ble_eq_true rfl, Nat.le_of_ble_eq_true rfl⟩) hX hS rfl hl.1 rfl (Nat.le_of_ble_eq_true rfl) dX1_shown_36 (Nat.zero_le _) (Nat.zero_le _) (fun fv H1 locs1 hX hS => ?_)
        refine gn_nez G (by exact sp_z_lt _) (tgt := 44) dX1_shown_39 (by decide) (fun h_39 => ?_) (fun h_39 => ?_)
        · have hZ : sp_m3 1 (gbn (gb i4 8)) 1 = 0 := sp_z_t h_39
          have hTb_39 : gb i4 8 = true := gbn_t (sp_m3_b hZ)
          obtain ⟨j4, hj4, rfl⟩ := gb_of (by omega) hTb_39
          have hg4 := gn_nI (show j4 < 2 ^ 31 by omega)
          have hm := fun i j => Nat.mul_le_mul (ok14 i) (ok13 j)
          have hi := fun k => sp_inkTo_le (px := j2) (bd := j3) (ks := j4) hok k
          refine lv_aload_n G.1 G.2.1 dX1_shown_44 rfl (lv_at hl 0 rfl) ?_
          refine gm_get G hX (by decide +kernel) 11 (by decide) (by decide +kernel) rfl rfl rfl dX1_shown_45 ?_
          refine lv_iconst (v := nI 3) G.1 G.2.1 dX1_shown_48 (by decide) ?_
          refine lv_iload_n G.1 G.2.1 dX1_shown_49 rfl (lv_at hl 2 rfl) ?_
          refine gn_imul G dX1_shown_50 ?_
          refine lv_iload_n G.1 G.2.1 dX1_shown_51 rfl (lv_at hl 3 rfl) ?_
          refine gn_iadd G dX1_shown_52 ?_
          refine gm_ald (k := 11) (kp := 10) (len := 18) (F := S 12) G hX rfl (by first | omega | assumption) (by decide) dX1_shown_53 ?_
          rw [show (3 * j2) + j3 = (j2 * 3) + j3 from by omega]
          refine lv_istore (lv' := [(5, .int (nI (S 12 ((j2 * 3) + j3)))), (0, .ref (q 0)), (1, .int (nI j1)), (2, .int (nI j2)), (3, .int (nI j3)), (4, .int (nI j4))]) G.1 G.2.1 dX1_shown_54 hl (by decide) rfl (fun ls hl => ?_)
          refine lv_iconst (v := nI 0) G.1 G.2.1 dX1_shown_56 (by decide) ?_
          refine lv_istore (lv' := [(6, .int (nI 0)), (5, .int (nI (S 12 ((j2 * 3) + j3)))), (0, .ref (q 0)), (1, .int (nI j1)), (2, .int (nI j2)), (3, .int (nI j3)), (4, .int (nI j4))]) G.1 G.2.1 dX1_shown_57 hl (by decide) rfl (fun ls hl => ?_)
          have loop1 : ∀ (d1 x1 : Nat), x1 + d1 = 3 → ∀ (fv : Nat → Nat) (H9 : Heap) (locs9 : List Loc), mAt D q cI cZ N S fv (sp_m3 1 (gbn (gb (nI j4) 8)) 1) A s H9 → va_S A s.heap H9 locs9 → ∀ ls : Array Slot, lv_has ls 7 [(0, .ref (q 0)), (1, .int (nI j1)), (2, .int (nI j2)), (3, .int (nI j3)), (4, .int (nI j4)), (5, .int (nI (sp_inkTo S j2 j3 j4 x1))), (6, .int (nI x1))] → W p l e { frames := 5, cells := 0, slots := 0, locals := 119 } s m ([.ref (q 0), .int (nI j1), .int (nI j2), .int (nI j3), .int (nI j4)] : List Value).toArray below meth c H9 locs9 0 0 (MQ below (gQm D q cI cZ (fun r N2 S2 th2 => th2 = sk_shown N S (nI j1) (nI j2) (nI j3) (nI j4) ∧ (sk_shown N S (nI j1) (nI j2) (nI j3) (nI j4) = 0 → r = nI (sR_shown N S (nI j1) (nI j2) (nI j3) (nI j4))) ∧ N2 = (if sk_shown N S (nI j1) (nI j2) (nI j3) (nI j4) = 0 then sN_shown N S (nI j1) (nI j2) (nI j3) (nI j4) else N) ∧ S2 = (if sk_shown N S (nI j1) (nI j2) (nI j3) (nI j4) = 0 then sS_shown N S (nI j1) (nI j2) (nI j3) (nI j4) else S)) A) ([.ref (q 0), .int (nI j1), .int (nI j2), .int (nI j3), .int (nI j4)] : List Value).toArray s 0 0 A) (F0 m 59 ls []) := by
            intro d1
            induction d1 with
            | zero =>
              intro x1 hd1 fv H9 locs9 hX hS ls hl
              refine lv_iload G.1 G.2.1 dX1_shown_59 (lv_at hl 6 rfl) ?_
              refine lv_iconst (v := nI 3) G.1 G.2.1 dX1_shown_61 (by decide) ?_
              refine gn_ge G (by first | omega | assumption) (by first | omega | assumption) (tgt := 131) dX1_shown_62 (by decide) (fun h_62 => ?_) (fun h_62 => absurd h_62 (by omega))
              have hq : sp_inkTo S j2 j3 j4 x1 ≤ 255 := hi x1
              refine lv_aload_n G.1 G.2.1 dX1_shown_131 rfl (lv_at hl 0 rfl) ?_
              refine lv_iload_n G.1 G.2.1 dX1_shown_132 rfl (lv_at hl 1 rfl) ?_
              refine lv_iload_n G.1 G.2.1 dX1_shown_133 rfl (lv_at hl 3 rfl) ?_
              refine lv_iload G.1 G.2.1 dX1_shown_134 (lv_at hl 5 rfl) ?_
              refine gm_mut (N' := N) (S' := S) (th' := (sp_m3 1 (gbn (gb (nI j4) 8)) 1)) (r := (nI (sp_pass S j1 j3 (sp_inkTo S j2 j3 j4 x1)))) (As := [.int (nI j1), .int (nI j3), .int (nI (sp_inkTo S j2 j3 j4 x1))]) (rest := []) G.fix (mX1_throughOf l D q cI cZ N S fv (sp_m3 1 (gbn (gb (nI j4) 8)) 1) A hok j1 j3 (sp_inkTo S j2 j3 j4 x1) (by first | omega | assumption | exact ok6 _ | apply hq) (by first | omega | assumption | exact ok6 _ | apply hq) (by first | omega | assumption | exact ok6 _ | apply hq)) (cwV 3 G.2.2.2.2.2.1 gX1_shown_X1_throughOf rfl rfl rfl (by decide +kernel) ⟨Nat.le_of_ble_eq_true rfl, Nat.le_of_ble_eq_true rfl⟩) hX hS rfl hl.1 rfl (Nat.le_of_ble_eq_true rfl) dX1_shown_136 (Nat.zero_le _) (Nat.zero_le _) (fun fv H1 locs1 hX hS => ?_)
              have hth : sp_m3 1 (gbn (gb (nI j4) 8)) 1 = sk_shown N S (nI j1) (nI j2) (nI j3) (nI j4) := by
                unfold sk_shown
                rw [show sA_shown N S (nI j1) (nI j2) (nI j3) (nI j4) = true from by simp [sA_shown, hT_6, hT_13, hT_20, hTb_39, hg1, hg2, hg3, hg4] <;> omega]
                exact sp_m3_gk (true) (gb (nI j4) 8) (true)
              have hsk : sk_shown N S (nI j1) (nI j2) (nI j3) (nI j4) = 0 := hth.symm.trans hZ
              exact W.iret G.1 G.2.1 G.2.2.1 (fun t ht hW => gQm_of hX hS ht ⟨hth, fun _ => (by show nI _ = nI _; simp only [sR_shown, hg1, hg2, hg3, hg4]; unfold sp_ink; rw [show x1 = 3 from by omega]), (by rw [if_pos hsk]; simp only [sN_shown, hg1, hg2, hg3, hg4]), (by rw [if_pos hsk]; simp only [sS_shown, hg1, hg2, hg3, hg4])⟩) hS.2.2 dX1_shown_139 G.2.2.2.2.2.2
            | succ d1 ih1 =>
              intro x1 hd1 fv H9 locs9 hX hS ls hl
              refine lv_iload G.1 G.2.1 dX1_shown_59 (lv_at hl 6 rfl) ?_
              refine lv_iconst (v := nI 3) G.1 G.2.1 dX1_shown_61 (by decide) ?_
              refine gn_ge G (by first | omega | assumption) (by first | omega | assumption) (tgt := 131) dX1_shown_62 (by decide) (fun h_62 => absurd h_62 (by omega)) (fun h_62 => ?_)
              refine lv_iload G.1 G.2.1 dX1_shown_65 (lv_at hl 4 rfl) ?_
              refine lv_iload G.1 G.2.1 dX1_shown_67 (lv_at hl 6 rfl) ?_
              refine gn_ishr G dX1_shown_69 (by omega) (by omega) ?_
              refine lv_iconst (v := nI 1) G.1 G.2.1 dX1_shown_70 (by decide) ?_
              refine gn_iand1 G dX1_shown_71 ?_
              refine gn_nez G (by exact sp_b31 _ _) (tgt := 125) dX1_shown_72 (by decide) (fun h_72 => ?_) (fun h_72 => ?_)
              · have hu_72 := h_72
                refine gn_iinc (lv' := [(6, .int (nI (x1 + 1))), (0, .ref (q 0)), (1, .int (nI j1)), (2, .int (nI j2)), (3, .int (nI j3)), (4, .int (nI j4)), (5, .int (nI (sp_inkTo S j2 j3 j4 x1)))]) (n := 1) G dX1_shown_125 hl (k := 6) rfl (by decide) rfl (fun ls hl => ?_)
                refine lv_goto (tgt := 59) G.1 G.2.1 dX1_shown_128 (by decide) ?_
                exact ih1 (x1 + 1) (by omega) _ _ _ (mAt_cast (rfl) hX) hS _ (by have hb9 := sp_bit_lt j4 x1; rw [show sp_inkTo S j2 j3 j4 (x1 + 1) = sp_inkTo S j2 j3 j4 x1 from sp_ink_y (by omega)]; exact lv_sub hl [1, 2, 3, 4, 5, 6, 0] rfl)
              · have hu_72 := h_72
                have h91 := hm (x1 * 3 + j3) (j2 * 3 + x1)
                have h92 := hi x1
                have h93 := Nat.div_le_self (S 14 (x1 * 3 + j3) * S 13 (j2 * 3 + x1)) 255
                refine lv_iload G.1 G.2.1 dX1_shown_75 (lv_at hl 5 rfl) ?_
                refine lv_aload_n G.1 G.2.1 dX1_shown_77 rfl (lv_at hl 0 rfl) ?_
                refine gm_get G hX (by decide +kernel) 13 (by decide) (by decide +kernel) rfl rfl rfl dX1_shown_78 ?_
                refine lv_iconst (v := nI 3) G.1 G.2.1 dX1_shown_81 (by decide) ?_
                refine lv_iload G.1 G.2.1 dX1_shown_82 (lv_at hl 6 rfl) ?_
                refine gn_imul G dX1_shown_84 ?_
                refine lv_iload_n G.1 G.2.1 dX1_shown_85 rfl (lv_at hl 3 rfl) ?_
                refine gn_iadd G dX1_shown_86 ?_
                refine gm_ald (k := 13) (kp := 12) (len := 9) (F := S 14) G hX rfl (by first | omega | assumption) (by decide) dX1_shown_87 ?_
                rw [show (3 * x1) + j3 = (x1 * 3) + j3 from by omega]
                refine lv_aload_n G.1 G.2.1 dX1_shown_88 rfl (lv_at hl 0 rfl) ?_
                refine gm_get G hX (by decide +kernel) 12 (by decide) (by decide +kernel) rfl rfl rfl dX1_shown_89 ?_
                refine lv_iconst (v := nI 3) G.1 G.2.1 dX1_shown_92 (by decide) ?_
                refine lv_iload_n G.1 G.2.1 dX1_shown_93 rfl (lv_at hl 2 rfl) ?_
                refine gn_imul G dX1_shown_94 ?_
                refine lv_iload G.1 G.2.1 dX1_shown_95 (lv_at hl 6 rfl) ?_
                refine gn_iadd G dX1_shown_97 ?_
                refine gm_ald (k := 12) (kp := 11) (len := 18) (F := S 13) G hX rfl (by first | omega | assumption) (by decide) dX1_shown_98 ?_
                rw [show (3 * j2) + x1 = (j2 * 3) + x1 from by omega]
                refine gn_imul G dX1_shown_99 ?_
                refine lv_sipush (v := nI 255) G.1 G.2.1 dX1_shown_100 (by decide) ?_
                refine gn_idiv G dX1_shown_103 (by first | omega | assumption) (by decide) (by decide) ?_
                refine gn_iadd G dX1_shown_104 ?_
                refine lv_istore (lv' := [(5, .int (nI ((sp_inkTo S j2 j3 j4 x1) + (((S 14 ((x1 * 3) + j3)) * (S 13 ((j2 * 3) + x1))) / 255)))), (0, .ref (q 0)), (1, .int (nI j1)), (2, .int (nI j2)), (3, .int (nI j3)), (4, .int (nI j4)), (6, .int (nI x1))]) G.1 G.2.1 dX1_shown_105 hl (by decide) rfl (fun ls hl => ?_)
                refine lv_iload G.1 G.2.1 dX1_shown_107 (lv_at hl 0 rfl) ?_
                refine lv_sipush (v := nI 255) G.1 G.2.1 dX1_shown_109 (by decide) ?_
                refine gn_le G (by first | omega | assumption) (by first | omega | assumption) (tgt := 121) dX1_shown_112 (by decide) (fun h_112 => ?_) (fun h_112 => ?_)
                · refine lv_iload G.1 G.2.1 dX1_shown_121 (lv_at hl 0 rfl) ?_
                  refine lv_istore (lv' := [(5, .int (nI ((sp_inkTo S j2 j3 j4 x1) + (((S 14 ((x1 * 3) + j3)) * (S 13 ((j2 * 3) + x1))) / 255)))), (0, .ref (q 0)), (1, .int (nI j1)), (2, .int (nI j2)), (3, .int (nI j3)), (4, .int (nI j4)), (6, .int (nI x1))]) G.1 G.2.1 dX1_shown_123 hl (by decide) rfl (fun ls hl => ?_)
                  refine gn_iinc (lv' := [(6, .int (nI (x1 + 1))), (5, .int (nI ((sp_inkTo S j2 j3 j4 x1) + (((S 14 ((x1 * 3) + j3)) * (S 13 ((j2 * 3) + x1))) / 255)))), (0, .ref (q 0)), (1, .int (nI j1)), (2, .int (nI j2)), (3, .int (nI j3)), (4, .int (nI j4))]) (n := 1) G dX1_shown_125 hl (k := 6) rfl (by decide) rfl (fun ls hl => ?_)
                  refine lv_goto (tgt := 59) G.1 G.2.1 dX1_shown_128 (by decide) ?_
                  exact ih1 (x1 + 1) (by omega) _ _ _ (mAt_cast (rfl) hX) hS _ (by have hb9 := sp_bit_lt j4 x1; rw [show sp_inkTo S j2 j3 j4 (x1 + 1) = (sp_inkTo S j2 j3 j4 x1) + (((S 14 ((x1 * 3) + j3)) * (S 13 ((j2 * 3) + x1))) / 255) from by rw [sp_ink_n (by omega)]; omega]; exact lv_sub hl [2, 3, 4, 5, 6, 1, 0] rfl)
                · refine lv_sipush (v := nI 255) G.1 G.2.1 dX1_shown_115 (by decide) ?_
                  refine lv_goto (tgt := 123) G.1 G.2.1 dX1_shown_118 (by decide) ?_
                  refine lv_istore (lv' := [(5, .int (nI 255)), (0, .ref (q 0)), (1, .int (nI j1)), (2, .int (nI j2)), (3, .int (nI j3)), (4, .int (nI j4)), (6, .int (nI x1))]) G.1 G.2.1 dX1_shown_123 hl (by decide) rfl (fun ls hl => ?_)
                  refine gn_iinc (lv' := [(6, .int (nI (x1 + 1))), (5, .int (nI 255)), (0, .ref (q 0)), (1, .int (nI j1)), (2, .int (nI j2)), (3, .int (nI j3)), (4, .int (nI j4))]) (n := 1) G dX1_shown_125 hl (k := 6) rfl (by decide) rfl (fun ls hl => ?_)
                  refine lv_goto (tgt := 59) G.1 G.2.1 dX1_shown_128 (by decide) ?_
                  exact ih1 (x1 + 1) (by omega) _ _ _ (mAt_cast (rfl) hX) hS _ (by have hb9 := sp_bit_lt j4 x1; rw [show sp_inkTo S j2 j3 j4 (x1 + 1) = 255 from by rw [sp_ink_n (by omega)]; omega]; exact lv_sub hl [2, 3, 4, 5, 6, 1, 0] rfl)
          exact loop1 3 0 (by omega) _ _ _ (mAt_cast (rfl) hX) hS _ (lv_sub hl [2, 3, 4, 5, 6, 1, 0] rfl)
        · have hZ : sp_m3 1 (gbn (gb i4 8)) 1 ≠ 0 := sp_z_f h_39
          refine lv_iconst (v := nI 0) G.1 G.2.1 dX1_shown_42 (by decide) ?_
          have hth : sp_m3 1 (gbn (gb i4 8)) 1 = sk_shown N S (nI j1) (nI j2) (nI j3) i4 := by
            unfold sk_shown
            rw [show sA_shown N S (nI j1) (nI j2) (nI j3) i4 = true from by simp [sA_shown, hT_6, hT_13, hT_20, hg1, hg2, hg3] <;> omega]
            exact sp_m3_gk (true) (gb i4 8) (true)
          exact W.iret G.1 G.2.1 G.2.2.1 (fun t ht hW => gQm_of hX hS ht ⟨hth, fun h => absurd (hth.trans h) hZ, (if_neg (fun h => hZ (hth.trans h))).symm, (if_neg (fun h => hZ (hth.trans h))).symm⟩) hS.2.2 dX1_shown_43 G.2.2.2.2.2.2
