/-! numbers and sets that the law's methods need (out of the rows of whole) -/
/-- a truth as a number, and back -/
def gbn (b : Bool) : Nat := if b then 1 else 0
theorem gbn_t {b : Bool} (h : gbn b ≠ 0) : b = true := by cases b; exact absurd rfl h; rfl
theorem gbn_f {b : Bool} (h : gbn b = 0) : b = false := by cases b; rfl; exact absurd h (by decide)
theorem gbn_lt (b : Bool) : gbn b < 2 ^ 31 := by cases b <;> decide
theorem gbn_le (b : Bool) : gbn b ≤ 1 := by cases b <;> decide
def gin (x lo hi : Int32) : Bool := decide (lo.toInt ≤ x.toInt ∧ x.toInt ≤ hi.toInt)
theorem gin_k {x : Int32} {k : Nat} (hk : k < 1000) : gin x (nI 0) (nI k) = gb x (k + 1) := by
  unfold gin gb
  rw [nI_toInt (by decide), nI_toInt (by omega)]
  apply decide_eq_decide.mpr
  omega
theorem gin_n {x : Int32} {n : Nat} (hn : n < 1000) : gin x (nI 0) (nI n - nI 1) = gb x n := by
  unfold gin gb
  rw [nI_toInt (by decide), pk_sub_toInt (by omega) (by decide)]
  apply decide_eq_decide.mpr
  omega
/-- the number of the exception by three numbers that are truths -/
def sp_m3 (a b c : Nat) : Nat := if a = 0 then 1 else if b = 0 then 2 else if c = 0 then 3 else 0
def sp_z (t : Nat) : Nat := if t = 0 then 1 else 0
theorem sp_z_t {t : Nat} (h : sp_z t ≠ 0) : t = 0 := by
  unfold sp_z at h
  split at h
  · assumption
  · exact absurd rfl h
theorem sp_z_f {t : Nat} (h : sp_z t = 0) : t ≠ 0 := by
  unfold sp_z at h
  split at h
  · exact absurd h (by decide)
  · assumption
theorem sp_z_lt (t : Nat) : sp_z t < 2 ^ 31 := by unfold sp_z; split <;> decide
theorem sp_z_bit (t : Nat) : sp_z t = 0 ∨ sp_z t = 1 := by unfold sp_z; split <;> simp
theorem sp_m3_a {a b c : Nat} (h : sp_m3 a b c = 0) : a ≠ 0 := by
  unfold sp_m3 at h
  intro z
  rw [if_pos z] at h
  exact absurd h (by decide)
theorem sp_m3_b {a b c : Nat} (h : sp_m3 a b c = 0) : b ≠ 0 := by
  have ha := sp_m3_a h
  unfold sp_m3 at h
  intro z
  rw [if_neg ha, if_pos z] at h
  exact absurd h (by decide)
theorem sp_m3_c {a b c : Nat} (h : sp_m3 a b c = 0) : c ≠ 0 := by
  have ha := sp_m3_a h
  have hb := sp_m3_b h
  unfold sp_m3 at h
  intro z
  rw [if_neg ha, if_neg hb, if_pos z] at h
  exact absurd h (by decide)
theorem sp_m3_gk (a b c : Bool) : sp_m3 (gbn a) (gbn b) (gbn c) = gk a b c := by cases a <;> cases b <;> cases c <;> rfl
theorem gp_nz {v : Nat} (h : v = 0 ∨ v = 1) : narrow .boolean (.int (nI v)) = .int (nI v) := by rcases h with e | e <;> rw [e] <;> rfl
theorem gbn_bit (b : Bool) : gbn b = 0 ∨ gbn b = 1 := by cases b <;> simp [gbn]
/-! the reference's curves, chains and gaps -/
/-- five places of a row, laid into the row 'five' -/
def sp_rowTo (F : Nat → Nat) (o : Nat) (fv : Nat → Nat) : Nat → Nat → Nat
  | 0 => fv
  | k + 1 => gu (sp_rowTo F o fv k) k (F (o + k))
theorem sp_rowTo_at {F : Nat → Nat} {o : Nat} {fv : Nat → Nat} : ∀ {n j : Nat}, j < n → sp_rowTo F o fv n j = F (o + j)
  | 0, j, h => absurd h (Nat.not_lt_zero j)
  | n + 1, j, h => by
    show gu (sp_rowTo F o fv n) n _ j = _
    by_cases e : j = n
    · rw [e, gu_same]
    · rw [gu_other _ _ e]
      exact sp_rowTo_at (by omega)
theorem sp_rowTo_le {F : Nat → Nat} {o : Nat} {fv : Nat → Nat} (hF : ∀ j, F j ≤ 255) : ∀ j, j < 5 → sp_rowTo F o fv 5 j ≤ 255 := fun j h => by rw [sp_rowTo_at h]; exact hF _
theorem sp_btw_row {F : Nat → Nat} {o v : Nat} {fv : Nat → Nat} (hv : v ≤ 255) : sp_btw (sp_rowTo F o fv 5) 0 v = sp_btw F o v := by
  unfold sp_btw
  rw [sp_rowTo_at (by omega), sp_rowTo_at (by omega), show o + (0 + v / 64) = o + v / 64 from by omega, show o + (0 + v / 64 + 1) = o + v / 64 + 1 from by omega]
theorem sp_btw_pl {g : Nat → Nat} {k v : Nat} (hk : k ≤ 4) (e : sp_vop k = v) : sp_btw g 0 v = g k := by
  unfold sp_vop at e
  rcases (by omega : k = 4 ∨ k < 4) with h | h
  · subst h
    obtain rfl : v = 255 := by omega
    show (g (0 + 255 / 64) * (63 - (255 - 255 / 64 * 64)) + g (0 + 255 / 64 + 1) * (255 - 255 / 64 * 64)) / 63 = g 4
    show (g 3 * 0 + g 4 * 63) / 63 = g 4
    rw [Nat.mul_zero, Nat.zero_add, Nat.mul_div_cancel _ (by decide)]
  · obtain rfl : v = k * 64 := by omega
    unfold sp_btw
    rw [show k * 64 / 64 = k from by omega, Nat.sub_self, Nat.mul_zero, Nat.add_zero, Nat.sub_zero, Nat.zero_add, Nat.mul_div_cancel _ (sp_w_pos k)]
theorem sp_vop_w {k : Nat} (hk : k < 4) : sp_vop (k + 1) - sp_vop k = sp_w k := by
  rcases (by omega : k = 0 ∨ k = 1 ∨ k = 2 ∨ k = 3) with h | h | h | h <;> subst h <;> rfl
theorem sp_btw_in {g : Nat → Nat} {k v : Nat} (hk : k < 4) (h1 : sp_vop k ≤ v) (h2 : v < sp_vop (k + 1)) : sp_btw g 0 v = (g k * (sp_vop (k + 1) - sp_vop k - (v - sp_vop k)) + g (k + 1) * (v - sp_vop k)) / (sp_vop (k + 1) - sp_vop k) := by
  have hw := sp_vop_w hk
  have e1 : sp_vop k = k * 64 := by unfold sp_vop; omega
  have e2 : v / 64 = k := by unfold sp_vop at h2; omega
  rw [hw]
  unfold sp_btw
  rw [e2, e1, Nat.zero_add]
/-- whether a profile is in a signed chain, as the reference goes through them -/
def sp_hin (S : Nat → Nat → Nat) (pf c a : Nat) : Nat → Nat
  | 0 => a
  | k + 1 => if sp_hin S pf c a k ≠ 0 then 1 else if S 10 c ≠ 0 ∧ S 6 (c * 6 + k) = pf then 1 else 0
def sp_hout (S : Nat → Nat → Nat) (pf : Nat) : Nat → Nat
  | 0 => 0
  | c + 1 => sp_hin S pf c (sp_hout S pf c) (S 7 c)
theorem sp_hin_a {S : Nat → Nat → Nat} {pf c a k : Nat} (h : sp_hin S pf c a k ≠ 0) : sp_hin S pf c a (k + 1) = 1 := if_pos h
theorem sp_hin_b {S : Nat → Nat → Nat} {pf c a k : Nat} (h : sp_hin S pf c a k = 0) (h1 : S 10 c ≠ 0) (h2 : S 6 (c * 6 + k) = pf) : sp_hin S pf c a (k + 1) = 1 := by
  show (if sp_hin S pf c a k ≠ 0 then 1 else if S 10 c ≠ 0 ∧ S 6 (c * 6 + k) = pf then 1 else 0) = 1
  rw [if_neg (fun z => z h), if_pos ⟨h1, h2⟩]
theorem sp_hin_c {S : Nat → Nat → Nat} {pf c a k : Nat} (h : sp_hin S pf c a k = 0) (h1 : ¬ (S 10 c ≠ 0 ∧ S 6 (c * 6 + k) = pf)) : sp_hin S pf c a (k + 1) = 0 := by
  show (if sp_hin S pf c a k ≠ 0 then 1 else if S 10 c ≠ 0 ∧ S 6 (c * 6 + k) = pf then 1 else 0) = 0
  rw [if_neg (fun z => z h), if_neg h1]
theorem sp_hin_lt {S : Nat → Nat → Nat} {pf c a : Nat} (ha : a < 2) : ∀ k, sp_hin S pf c a k < 2
  | 0 => ha
  | k + 1 => by
    unfold sp_hin
    split
    · decide
    · split <;> decide
theorem sp_hout_lt (S : Nat → Nat → Nat) (pf : Nat) : ∀ n, sp_hout S pf n < 2
  | 0 => Nat.le_of_ble_eq_true rfl
  | c + 1 => sp_hin_lt (sp_hout_lt S pf c) _
theorem sp_gapTo_m {S : Nat → Nat → Nat} {ch x1 x3 : Nat} (h : x3 < 256) : sp_gapTo S ch (x1 * 256 + (x3 + 1)) = max (sp_gapTo S ch (x1 * 256 + x3)) (sp_ap (sp_pass S ch x1 x3) (sp_btw (fun k => sp_pass S ch x1 (sp_vop k)) 0 x3)) := by
  show max (sp_gapTo S ch (x1 * 256 + x3)) (sp_gapAt S ch ((x1 * 256 + x3) / 256) ((x1 * 256 + x3) % 256)) = _
  rw [show (x1 * 256 + x3) / 256 = x1 from by omega, show (x1 * 256 + x3) % 256 = x3 from by omega]
  rfl
theorem gp_f1 {l g f : Nat} {z : Int32} (hl : l ≤ g) (hg : g ≤ 255) (hf : f ≤ 255) (h : g < f) (hz : z.toInt = 2 * (g : Int) - f) : ((¬ nI l ≤ z) → nI l = nI (sp_take l g 2 f)) ∧ (nI l ≤ z → z ≤ nI g → z = nI (sp_take l g 2 f)) ∧ (nI l ≤ z → ¬ z ≤ nI g → nI g = nI (sp_take l g 2 f)) := by
  have tl : (nI l).toInt = (l : Int) := nI_toInt (by omega)
  have tg : (nI g).toInt = (g : Int) := nI_toInt (by omega)
  have e : sp_take l g 2 f = max l (min g (2 * g - f)) := by
    unfold sp_take
    rw [if_neg (by decide), if_pos rfl, if_pos h]
  rw [e]
  refine ⟨fun h1 => ?_, fun h1 h2 => ?_, fun h1 h2 => ?_⟩
  · have a1 : ¬ (nI l).toInt ≤ z.toInt := fun q => h1 (Int32.le_iff_toInt_le.mpr q)
    congr 1
    omega
  · have a1 := Int32.le_iff_toInt_le.mp h1
    have a2 := Int32.le_iff_toInt_le.mp h2
    exact gp_nat (by omega) (by omega)
  · have a2 : ¬ z.toInt ≤ (nI g).toInt := fun q => h2 (Int32.le_iff_toInt_le.mpr q)
    omega
/-! the reference's public calls */ -/
section GN3
variable {p : Program} {l : Launch} {e : Env} {R : Room} {s : State} {m : MethodId} {args : Array Value} {below : List Frame} {meth : Method} {c : Code} {H : Heap} {locs : List Loc} {cells slots : Nat} {Q : State → Prop}
variable {cc : ByteArray} {nL pc index : Nat} {ret : Option FieldType} {ws : List Cond} {own : String} {rest : List Value} {ls : Array Slot} {a b : Nat}
theorem gn_irem (G : gF p s m args meth c cc ret nL own ws) (d : decode cc pc = .ok (.irem, 1)) (ha : a < 2 ^ 31) (h0 : 0 < b) (hb : b < 2 ^ 31) (k : W p l e R s m args below meth c H locs cells slots Q (F0 m (pc + 1) ls (.int (nI (a % b)) :: rest))) : W p l e R s m args below meth c H locs cells slots Q (F0 m pc ls (.int (nI b) :: .int (nI a) :: rest)) :=
  lv_irem G.1 G.2.1 d (nI_ne0 h0 hb) (by rw [pk_rem ha h0 hb]; exact k)
theorem gn_ishr (G : gF p s m args meth c cc ret nL own ws) (d : decode cc pc = .ok (.ishr, 1)) (ha : a < 2 ^ 31) (hb : b < 32) (k : W p l e R s m args below meth c H locs cells slots Q (F0 m (pc + 1) ls (.int (nI (a / 2 ^ b)) :: rest))) : W p l e R s m args below meth c H locs cells slots Q (F0 m pc ls (.int (nI b) :: .int (nI a) :: rest)) :=
  lv_ishr G.1 G.2.1 d (by rw [pk_shrN ha _ b (s_l b hb)]; exact k)
theorem gn_iand1 (G : gF p s m args meth c cc ret nL own ws) (d : decode cc pc = .ok (.iand, 1)) (k : W p l e R s m args below meth c H locs cells slots Q (F0 m (pc + 1) ls (.int (nI (sp_bit a b)) :: rest))) : W p l e R s m args below meth c H locs cells slots Q (F0 m pc ls (.int (nI 1) :: .int (nI (a / 2 ^ b)) :: rest)) :=
  lv_iand G.1 G.2.1 d (by rw [show nI 1 = nI (2 ^ 1 - 1) from rfl, fa_mask]; exact k)
theorem gn_lez (G : gF p s m args meth c cc ret nL own ws) (ha : a < 2 ^ 31) {off : Int} {tgt : Nat} (d : decode cc pc = .ok (.ifCond .le off, 3)) (ht : (pc : Int) + off = (tgt : Int))
    (kt : a = 0 → W p l e R s m args below meth c H locs cells slots Q (F0 m tgt ls rest)) (kf : 0 < a → W p l e R s m args below meth c H locs cells slots Q (F0 m (pc + 3) ls rest)) : W p l e R s m args below meth c H locs cells slots Q (F0 m pc ls (.int (nI a) :: rest)) :=
  lv_if_le G.1 G.2.1 d ht (fun h => kt (by have h2 := (nI_leI (b := 0) ha (by decide)).mp h; omega)) (fun h => kf (Nat.pos_of_ne_zero (fun z => h (by rw [z]; decide))))
end GN3
theorem sp_hin_eq {S : Nat → Nat → Nat} {pf c a : Nat} (ha : a < 2) : ∀ k, sp_hin S pf c a k = if a ≠ 0 ∨ (S 10 c ≠ 0 ∧ (sp_ofTo S c k).testBit pf = true) then 1 else 0
  | 0 => by
    show a = _
    rcases (by omega : a = 0 ∨ a = 1) with h | h <;> subst h
    · rw [if_neg]
      rintro (z | ⟨_, z⟩)
      · exact z rfl
      · unfold sp_ofTo at z
        simp at z
    · rw [if_pos (Or.inl (by decide))]
  | k + 1 => by
    show (if sp_hin S pf c a k ≠ 0 then 1 else if S 10 c ≠ 0 ∧ S 6 (c * 6 + k) = pf then 1 else 0) = _
    have e : (sp_ofTo S c (k + 1)).testBit pf = ((sp_ofTo S c k).testBit pf || decide (S 6 (c * 6 + k) = pf)) := by
      show (sp_ofTo S c k ||| 2 ^ (S 6 (c * 6 + k))).testBit pf = _
      rw [Nat.testBit_or, Nat.testBit_two_pow]
    rw [e, sp_hin_eq ha k]
    by_cases h1 : a ≠ 0
    · rw [if_pos (Or.inl h1), if_pos (by decide), if_pos (Or.inl h1)]
    by_cases h2 : S 10 c ≠ 0
    · cases h3 : (sp_ofTo S c k).testBit pf with
      | true => simp [h1, h2, h3]
      | false =>
        by_cases h4 : S 6 (c * 6 + k) = pf <;> simp [h1, h2, h3, h4]
    · simp [h1, h2]
theorem sp_hout_to {N : Nat → Nat} {S : Nat → Nat → Nat} {pf : Nat} (hok : sp_ok N S) (hinv : sp_inv N S) : ∀ n, n ≤ N 5 → sp_hout S pf n = sp_bit (sp_heldTo N S n) pf
  | 0, _ => by
    rw [sp_bit_test]
    show 0 = if (0 : Nat).testBit pf = true then 1 else 0
    simp
  | n + 1, hn => by
    have h5 := hok.1.2
    have hs := (hinv.2.2.2.2.2.1 n (by omega)).2
    have hb := sp_bit_lt (N 10) n
    show sp_hin S pf n (sp_hout S pf n) (S 7 n) = _
    rw [sp_hin_eq (sp_hout_lt S pf n), sp_hout_to hok hinv n (by omega), hs, sp_bit_test, sp_bit_test (sp_heldTo N S (n + 1))]
    show _ = if Nat.testBit (if sp_bit (N 10) n = 1 then sp_heldTo N S n ||| sp_of S n else sp_heldTo N S n) pf = true then 1 else 0
    by_cases h1 : sp_bit (N 10) n = 1
    · rw [if_pos h1, Nat.testBit_or]
      have h2 : sp_bit (N 10) n ≠ 0 := by omega
      unfold sp_of
      cases (sp_heldTo N S n).testBit pf <;> cases (sp_ofTo S n (S 7 n)).testBit pf <;> simp [h2]
    · have h2 : sp_bit (N 10) n = 0 := by omega
      rw [if_neg h1]
      cases (sp_heldTo N S n).testBit pf <;> simp [h2]
theorem sp_held_end {N : Nat → Nat} {S : Nat → Nat → Nat} (hinv : sp_inv N S) : ∀ k, sp_heldTo N S (N 5 + k) = sp_heldTo N S (N 5)
  | 0 => rfl
  | k + 1 => by
    rw [← Nat.add_assoc, sp_held_n (by rw [(hinv.2.2.2.2.1 (N 5 + k) (by omega)).2]; decide)]
    exact sp_held_end hinv k
theorem sp_hout_eq {N : Nat → Nat} {S : Nat → Nat → Nat} {pf : Nat} (hok : sp_ok N S) (hinv : sp_inv N S) (_ : pf < 8) : sp_hout S pf (N 5) = sp_bit (sp_held N S) pf := by
  have h5 := hok.1.2
  rw [sp_hout_to hok hinv _ (Nat.le_refl _)]
  unfold sp_held
  rw [show 6 = N 5 + (6 - N 5) from by omega, sp_held_end hinv]
theorem sp_stale_end {N : Nat → Nat} {S : Nat → Nat → Nat} (hinv : sp_inv N S) : ∀ k, sp_staleTo N S (N 5 + k) = sp_staleTo N S (N 5)
  | 0 => rfl
  | k + 1 => by
    rw [← Nat.add_assoc, sp_stale_n (by rw [(hinv.2.2.2.2.1 (N 5 + k) (by omega)).1]; exact fun z => absurd z.1 (by decide))]
    exact sp_stale_end hinv k
theorem sp_stale_all {N : Nat → Nat} {S : Nat → Nat → Nat} (hok : sp_ok N S) (hinv : sp_inv N S) : sp_staleTo N S (N 5) = sp_stale N S := by
  have h5 := hok.1.2
  unfold sp_stale
  rw [show 6 = N 5 + (6 - N 5) from by omega, sp_stale_end hinv]
/-- a set, bit by bit -/
def sp_mh (x : Nat) : Nat → Nat
  | 0 => 0
  | k + 1 => if sp_bit x k = 0 then sp_mh x k else sp_mh x k ||| 2 ^ k
theorem sp_mh_test (x : Nat) : ∀ n i, (sp_mh x n).testBit i = (decide (i < n) && x.testBit i)
  | 0, i => by
    show (0 : Nat).testBit i = _
    simp
  | n + 1, i => by
    have hb := sp_bit_test x n
    show Nat.testBit (if sp_bit x n = 0 then sp_mh x n else sp_mh x n ||| 2 ^ n) i = _
    by_cases h : x.testBit n = true
    · rw [if_pos h] at hb
      rw [if_neg (by omega), Nat.testBit_or, Nat.testBit_two_pow, sp_mh_test x n i]
      by_cases e : n = i
      · subst e; simp [h]
      · have : (i < n + 1) ↔ (i < n) := by omega
        simp [e, this]
    · rw [if_neg h] at hb
      rw [if_pos hb, sp_mh_test x n i]
      by_cases e : n = i
      · subst e; simp [h]
      · have : (i < n + 1) ↔ (i < n) := by omega
        simp [this]
theorem sp_mh_all {x n : Nat} (h : x < 2 ^ n) : sp_mh x n = x := by
  apply Nat.eq_of_testBit_eq
  intro i
  rw [sp_mh_test]
  by_cases e : i < n
  · simp [e]
  · have : x.testBit i = false := Nat.testBit_lt_two_pow (Nat.lt_of_lt_of_le h (Nat.pow_le_pow_right (by decide) (by omega)))
    simp [this]
theorem sp_mh_y {x k : Nat} (h : sp_bit x k = 0) : sp_mh x (k + 1) = sp_mh x k := if_pos h
theorem sp_mh_n {x k : Nat} (h : sp_bit x k ≠ 0) : sp_mh x (k + 1) = sp_mh x k ||| 2 ^ k := if_neg h
theorem sp_ofTo_N {N : Nat → Nat} {S : Nat → Nat → Nat} {c : Nat} (hinv : sp_inv N S) (hc : c < 6) : ∀ k, k ≤ S 7 c → sp_ofTo S c k < 2 ^ (N 0)
  | 0, _ => Nat.two_pow_pos _
  | k + 1, hk => sp_or_lt (sp_ofTo_N hinv hc k (by omega)) (Nat.pow_lt_pow_right (by decide) (hinv.2.2.2.2.2.2 c k hc (by omega)))
theorem sp_heldTo_N {N : Nat → Nat} {S : Nat → Nat → Nat} (hinv : sp_inv N S) : ∀ k, k ≤ 6 → sp_heldTo N S k < 2 ^ (N 0)
  | 0, _ => Nat.two_pow_pos _
  | k + 1, hk => by
    unfold sp_heldTo
    split
    · exact sp_or_lt (sp_heldTo_N hinv k (by omega)) (sp_ofTo_N hinv (by omega) _ (Nat.le_refl _))
    · exact sp_heldTo_N hinv k (by omega)
theorem sp_mh_held {N : Nat → Nat} {S : Nat → Nat → Nat} (hinv : sp_inv N S) : sp_mh (sp_held N S) (N 0) = sp_held N S := sp_mh_all (sp_heldTo_N hinv 6 (Nat.le_refl _))
theorem sp_mh_lt (x : Nat) : ∀ k, k ≤ 8 → sp_mh x k < 2 ^ 8
  | 0, _ => Nat.two_pow_pos _
  | k + 1, hk => by
    unfold sp_mh
    split
    · exact sp_mh_lt x k (by omega)
    · exact sp_or_lt (sp_mh_lt x k (by omega)) (Nat.pow_lt_pow_right (by decide) (by omega))
theorem sp_difm_a {S : Nat → Nat → Nat} {ch k : Nat} (h : sp_difTo S ch k ≠ 0) : sp_difTo S ch (k + 1) = 1 := by
  have := sp_difTo_lt S ch k
  exact if_pos (by omega)
theorem sp_difm_b {S : Nat → Nat → Nat} {ch k : Nat} (h : sp_difTo S ch k = 0) (h2 : S 8 (ch * 15 + k) = sp_pass S ch (k / 5) (sp_vop (k % 5))) : sp_difTo S ch (k + 1) = 0 := by
  show (if sp_difTo S ch k = 1 then 1 else if sp_pass S ch (k / 5) (sp_vop (k % 5)) = S 8 (ch * 15 + k) then 0 else 1) = 0
  rw [if_neg (by omega), if_pos h2.symm]
theorem sp_difm_c {S : Nat → Nat → Nat} {ch k : Nat} (h : sp_difTo S ch k = 0) (h2 : S 8 (ch * 15 + k) ≠ sp_pass S ch (k / 5) (sp_vop (k % 5))) : sp_difTo S ch (k + 1) = 1 := by
  show (if sp_difTo S ch k = 1 then 1 else if sp_pass S ch (k / 5) (sp_vop (k % 5)) = S 8 (ch * 15 + k) then 0 else 1) = 1
  rw [if_neg (by omega), if_neg (fun z => h2 z.symm)]
theorem sp_ap_mm (a b : Nat) : sp_ap a b = max a b - min a b := by unfold sp_ap; split <;> omega
theorem sp_grey_s {S : Nat → Nat → Nat} {ch v : Nat} : sp_greyTo S ch (v + 1) = max (sp_greyTo S ch v) (max (max (max 0 (sp_pass S ch 0 v)) (sp_pass S ch 1 v)) (sp_pass S ch 2 v) - min (min (min 255 (sp_pass S ch 0 v)) (sp_pass S ch 1 v)) (sp_pass S ch 2 v)) := rfl
theorem gp_join_y {g : Nat} {x : Int32} (hg : g ≤ 255) (h : ¬ x < nI g) : sp_m3 1 (gbn (gb x 256)) 1 = gk true (gb x 256) (decide (g ≤ gn x)) := by
  cases hb : gb x 256 with
  | false => rfl
  | true =>
    obtain ⟨j, hj, rfl⟩ := gb_of (by decide) hb
    have h2 : ¬ j < g := fun z => h ((nI_ltI (by omega) (by omega)).mpr z)
    rw [gn_nI (by omega), decide_eq_true (by omega)]
    rfl
theorem gp_join_n {g : Nat} {x : Int32} (hg : g ≤ 255) (h : x < nI g) : sp_m3 1 (gbn (gb x 256)) 0 = gk true (gb x 256) (decide (g ≤ gn x)) := by
  cases hb : gb x 256 with
  | false => rfl
  | true =>
    obtain ⟨j, hj, rfl⟩ := gb_of (by decide) hb
    have h2 : j < g := (nI_ltI (by omega) (by omega)).mp h
    rw [gn_nI (by omega), decide_eq_false (by omega)]
    rfl
theorem sp_kp_m {S : Nat → Nat → Nat} {ch x1 x2 : Nat} (h : x2 < 5) : gu (sp_kpTo S ch (x1 * 5 + x2)) (ch * 15 + (x1 * 5 + x2)) (sp_pass S ch x1 (sp_vop x2)) = sp_kpTo S ch (x1 * 5 + (x2 + 1)) := by
  show _ = gu (sp_kpTo S ch (x1 * 5 + x2)) (ch * 15 + (x1 * 5 + x2)) (sp_pass S ch ((x1 * 5 + x2) / 5) (sp_vop ((x1 * 5 + x2) % 5)))
  rw [show (x1 * 5 + x2) / 5 = x1 from by omega, show (x1 * 5 + x2) % 5 = x2 from by omega]
theorem sp_tk_8 {S : Nat → Nat → Nat} {F : Nat → Nat} {p b v : Nat} : sp_tk (gs S 8 F) p b v = sp_tk S p b v := rfl
theorem sp_passTo_8 {S : Nat → Nat → Nat} {F : Nat → Nat} {ch b v : Nat} : ∀ k, sp_passTo (gs S 8 F) ch b v k = sp_passTo S ch b v k
  | 0 => rfl
  | k + 1 => by
    show sp_tk (gs S 8 F) (S 6 (ch * 6 + k)) b (sp_passTo (gs S 8 F) ch b v k) = sp_tk S (S 6 (ch * 6 + k)) b (sp_passTo S ch b v k)
    rw [sp_passTo_8 k, sp_tk_8]
theorem sp_pass_8 {S : Nat → Nat → Nat} {F : Nat → Nat} {ch b v : Nat} : sp_pass (gs S 8 F) ch b v = sp_pass S ch b v := sp_passTo_8 _
theorem sp_kpTo_le {N : Nat → Nat} {S : Nat → Nat → Nat} {ch : Nat} (h : sp_ok N S) : ∀ k j, sp_kpTo S ch k j ≤ 255
  | 0, j => h.2.2.2.2.2.2.2.1 j
  | k + 1, j => by
    show gu (sp_kpTo S ch k) (ch * 15 + k) _ j ≤ 255
    by_cases e : j = ch * 15 + k
    · rw [e, gu_same]
      exact sp_pass_le h sp_vop_le
    · rw [gu_other _ _ e]
      exact sp_kpTo_le h k j
theorem sp_ok_kp {N : Nat → Nat} {S : Nat → Nat → Nat} {ch k : Nat} (h : sp_ok N S) : sp_ok N (gs S 8 (sp_kpTo S ch k)) := by
  obtain ⟨h0, h1, h2, h3, h4, h6, h7, h8, h12, h13, h14⟩ := h
  exact ⟨h0, h1, h2, h3, h4, h6, h7, sp_kpTo_le ⟨h0, h1, h2, h3, h4, h6, h7, h8, h12, h13, h14⟩ k, h12, h13, h14⟩
def sk_profile (N : Nat → Nat) (S : Nat → Nat → Nat) : Nat := gk (sC_profile N S) true true
def sk_bend (N : Nat → Nat) (S : Nat → Nat → Nat) (i1 i2 i3 i4 : Int32) : Nat := gk (sA_bend N S i1 i2 i3 i4) (sB_bend N S i1 i2 i3 i4) (sC_bend N S i1 i2 i3 i4)
def sk_reach (N : Nat → Nat) (S : Nat → Nat → Nat) (i1 i2 i3 i4 : Int32) : Nat := gk (sA_reach N S i1 i2 i3 i4) (sB_reach N S i1 i2 i3 i4) (sC_reach N S i1 i2 i3 i4)
def sk_way (N : Nat → Nat) (S : Nat → Nat → Nat) (i1 i2 : Int32) : Nat := gk (sA_way N S i1 i2) (sB_way N S i1 i2) (sC_way N S i1 i2)
def sk_curve (N : Nat → Nat) (S : Nat → Nat → Nat) (i1 i2 i3 : Int32) : Nat := gk (sA_curve N S i1 i2 i3) (sB_curve N S i1 i2 i3) true
def sk_taken (N : Nat → Nat) (S : Nat → Nat → Nat) (i1 i2 i3 : Int32) : Nat := gk (sA_taken N S i1 i2 i3) (sB_taken N S i1 i2 i3) true
def sk_chain (N : Nat → Nat) (S : Nat → Nat → Nat) : Nat := gk (sC_chain N S) true true
def sk_add (N : Nat → Nat) (S : Nat → Nat → Nat) (i1 i2 : Int32) : Nat := gk (sA_add N S i1 i2) (sC_add N S i1 i2) true
def sk_drop (N : Nat → Nat) (S : Nat → Nat → Nat) (i1 : Int32) : Nat := gk (sA_drop N S i1) (sC_drop N S i1) true
def sk_through (N : Nat → Nat) (S : Nat → Nat → Nat) (i1 i2 i3 : Int32) : Nat := gk (sA_through N S i1 i2 i3) (sB_through N S i1 i2 i3) true
def sk_gap (N : Nat → Nat) (S : Nat → Nat → Nat) (i1 : Int32) : Nat := gk (sA_gap N S i1) true true
def sk_greyGap (N : Nat → Nat) (S : Nat → Nat → Nat) (i1 : Int32) : Nat := gk (sA_greyGap N S i1) true true
def sk_join (N : Nat → Nat) (S : Nat → Nat → Nat) (i1 i2 : Int32) : Nat := gk (sA_join N S i1 i2) (sB_join N S i1 i2) (sC_join N S i1 i2)
def sk_joined (N : Nat → Nat) (S : Nat → Nat → Nat) (i1 i2 i3 : Int32) : Nat := gk (sA_joined N S i1 i2 i3) (sB_joined N S i1 i2 i3) (sC_joined N S i1 i2 i3)
def sk_sign (N : Nat → Nat) (S : Nat → Nat → Nat) (i1 : Int32) : Nat := gk (sA_sign N S i1) true true
def sk_paint (N : Nat → Nat) (S : Nat → Nat → Nat) (i1 i2 i3 : Int32) : Nat := gk (sA_paint N S i1 i2 i3) (sB_paint N S i1 i2 i3) true
def sk_spot (N : Nat → Nat) (S : Nat → Nat → Nat) (i1 i2 i3 : Int32) : Nat := gk (sA_spot N S i1 i2 i3) (sB_spot N S i1 i2 i3) true
def sk_mix (N : Nat → Nat) (S : Nat → Nat → Nat) (i1 i2 i3 : Int32) : Nat := gk (sA_mix N S i1 i2 i3) (sB_mix N S i1 i2 i3) true
def sk_shown (N : Nat → Nat) (S : Nat → Nat → Nat) (i1 i2 i3 i4 : Int32) : Nat := gk (sA_shown N S i1 i2 i3 i4) (sB_shown N S i1 i2 i3 i4) true
