/-! NUMBERS: what the class and the reference compute, as naturals -/
theorem fb_bmod {z : Int} (h1 : -2147483648 ≤ z) (h2 : z < 2147483648) : z.bmod (2 ^ 32) = z := by
  rw [Int.bmod_eq_of_le (by omega) (by omega)]
theorem fb_addI {x y : Int32} (h1 : -2147483648 ≤ x.toInt + y.toInt) (h2 : x.toInt + y.toInt < 2147483648) : (x + y).toInt = x.toInt + y.toInt := by
  rw [Int32.toInt_add, fb_bmod h1 h2]
theorem fb_subI {x y : Int32} (h1 : -2147483648 ≤ x.toInt - y.toInt) (h2 : x.toInt - y.toInt < 2147483648) : (x - y).toInt = x.toInt - y.toInt := by
  rw [Int32.toInt_sub, fb_bmod h1 h2]
theorem fb_mulI {x y : Int32} (h1 : -2147483648 ≤ x.toInt * y.toInt) (h2 : x.toInt * y.toInt < 2147483648) : (x * y).toInt = x.toInt * y.toInt := by
  rw [Int32.toInt_mul, fb_bmod h1 h2]
theorem fa_and (a b : Nat) : nI a &&& nI b = nI (a &&& b) := by
  apply Int32.toBitVec_inj.1
  show BitVec.ofNat 32 a &&& BitVec.ofNat 32 b = BitVec.ofNat 32 (a &&& b)
  apply BitVec.eq_of_getLsbD_eq
  intro i hi
  simp [hi]
theorem fa_or (a b : Nat) : nI a ||| nI b = nI (a ||| b) := by
  apply Int32.toBitVec_inj.1
  show BitVec.ofNat 32 a ||| BitVec.ofNat 32 b = BitVec.ofNat 32 (a ||| b)
  apply BitVec.eq_of_getLsbD_eq
  intro i hi
  simp [hi]
theorem fa_mask (n k : Nat) : nI n &&& nI (2 ^ k - 1) = nI (n % 2 ^ k) := by rw [fa_and, Nat.and_two_pow_sub_one_eq_mod]
theorem fb_xorI (a b : Nat) : nI a ^^^ nI b = nI (a ^^^ b) := by
  apply Int32.toBitVec_inj.1
  show BitVec.ofNat 32 a ^^^ BitVec.ofNat 32 b = BitVec.ofNat 32 (a ^^^ b)
  apply BitVec.eq_of_getLsbD_eq
  intro i hi
  simp [hi]
/-- an int that is a natural -/
theorem gp_nat {x : Int32} {n : Nat} (hn : n < 2 ^ 31) (h : x.toInt = (n : Int)) : x = nI n := Int32.toInt_inj.mp (by rw [h, nI_toInt hn])
def sp_vop (k : Nat) : Nat := min (k * 64) 255
def sp_w (k : Nat) : Nat := if k = 3 then 63 else 64
theorem sp_w_pos (k : Nat) : 0 < sp_w k := by unfold sp_w; split <;> decide
theorem sp_w_le (k : Nat) : sp_w k ≤ 64 := by unfold sp_w; split <;> decide
/-- the value between two places -/
def sp_btw (g : Nat → Nat) (o v : Nat) : Nat := (g (o + v / 64) * (sp_w (v / 64) - (v - v / 64 * 64)) + g (o + v / 64 + 1) * (v - v / 64 * 64)) / sp_w (v / 64)
theorem sp_far {v : Nat} (hv : v ≤ 255) : v - v / 64 * 64 ≤ sp_w (v / 64) := by
  unfold sp_w
  split <;> omega
theorem sp_mix_le {C D t w : Nat} (hC : C ≤ 255) (hD : D ≤ 255) (ht : t ≤ w) (hw : 0 < w) : (C * (w - t) + D * t) / w ≤ 255 := by
  have h1 : C * (w - t) ≤ 255 * (w - t) := Nat.mul_le_mul_right _ hC
  have h2 : D * t ≤ 255 * t := Nat.mul_le_mul_right _ hD
  have h3 : C * (w - t) + D * t ≤ w * 255 := by omega
  exact Nat.div_le_of_le_mul h3
theorem sp_btw_le {g : Nat → Nat} {o v : Nat} (hg : ∀ j, g j ≤ 255) (hv : v ≤ 255) : sp_btw g o v ≤ 255 := sp_mix_le (hg _) (hg _) (sp_far hv) (sp_w_pos _)
theorem gp_mix {C D t w : Nat} (hw : 0 < w) (ht : t ≤ w) : (C : Int) + (((D : Int) - C) * t) / w = ((C * (w - t) + D * t) / w : Nat) := by
  have e : ((C * (w - t) + D * t : Nat) : Int) = ((D : Int) - C) * t + (C : Int) * w := by
    have h1 : ((w - t : Nat) : Int) = (w : Int) - t := Int.ofNat_sub ht
    rw [Int.natCast_add, Int.natCast_mul, Int.natCast_mul, h1, Int.mul_sub, Int.sub_mul]
    omega
  rw [Int.natCast_ediv, e, Int.add_mul_ediv_right _ _ (by omega)]
  omega
theorem gp_tdivN (n b : Nat) (hb : 0 < b) : (-(n : Int)).tdiv b = -((n / b : Nat) : Int) := by
  rw [Int.neg_tdiv, Int.tdiv_eq_ediv_of_nonneg (by omega), Int.natCast_ediv]
theorem gp_edivN (n b : Nat) (hb : 0 < b) : (-(n : Int)) / b = if n % b = 0 then -((n / b : Nat) : Int) else -((n / b : Nat) : Int) - 1 := by
  have h1 : b * (n / b) + n % b = n := Nat.div_add_mod n b
  have h2 : n % b < b := Nat.mod_lt n hb
  have h3 : (n : Int) = (b : Int) * ((n / b : Nat) : Int) + ((n % b : Nat) : Int) := by rw [← Int.natCast_mul, ← Int.natCast_add, h1]
  split
  · rename_i h
    refine ((Int.ediv_emod_unique (r := 0) (by omega)).mpr ⟨?_, by omega, by omega⟩).1
    rw [h3, h, Int.mul_neg]
    omega
  · rename_i h
    refine ((Int.ediv_emod_unique (r := (b : Int) - ((n % b : Nat) : Int)) (by omega)).mpr ⟨?_, by omega, by omega⟩).1
    rw [h3, Int.mul_sub, Int.mul_neg]
    omega
/-- the quotient rounded to zero, mended -/
theorem gp_floor {a b : Int} (hb : 0 < b) : (0 ≤ a → a.tdiv b = a / b ∧ ¬ a < a.tdiv b * b) ∧ (a < 0 → a.tdiv b * b = a → a.tdiv b = a / b) ∧ (a < 0 → a.tdiv b * b ≠ a → a.tdiv b - 1 = a / b ∧ a < a.tdiv b * b) := by
  obtain ⟨b, rfl⟩ : ∃ k : Nat, b = k := ⟨b.toNat, by omega⟩
  refine ⟨fun h => ⟨Int.tdiv_eq_ediv_of_nonneg h, ?_⟩, fun h h2 => ?_, fun h h2 => ?_⟩
  · rw [Int.tdiv_eq_ediv_of_nonneg h]
    have := Int.ediv_mul_le a (b := (b : Int)) (by omega)
    omega
  all_goals
    obtain ⟨n, rfl⟩ : ∃ k : Nat, a = -(k : Int) := ⟨(-a).toNat, by omega⟩
    have hb' : 0 < b := by omega
    have h1 : b * (n / b) + n % b = n := Nat.div_add_mod n b
    have h3 : (n : Int) = ((n / b : Nat) : Int) * (b : Int) + ((n % b : Nat) : Int) := by rw [← Int.natCast_mul, ← Int.natCast_add, Nat.mul_comm, h1]
    rw [gp_tdivN n b hb', Int.neg_mul] at h2
    rw [gp_tdivN n b hb', gp_edivN n b hb']
  · rw [if_pos (by omega)]
  · rw [if_neg (by omega), Int.neg_mul]
    omega
theorem gp_xneg (x y : Int32) (hy : 0 ≤ y.toInt) : (x ^^^ y) < 0 ↔ x.toInt < 0 := by
  rw [Int32.lt_iff_toInt_lt]
  show (x ^^^ y).toBitVec.toInt < (0 : Int32).toInt ↔ x.toBitVec.toInt < 0
  have h0 : (0 : Int32).toInt = 0 := rfl
  have hy' : y.toBitVec.msb = false := by rw [BitVec.msb_eq_toInt]; simpa using hy
  have e : (x ^^^ y).toBitVec.msb = x.toBitVec.msb := by
    show (x.toBitVec ^^^ y.toBitVec).msb = _
    rw [BitVec.msb_xor, hy', Bool.xor_false]
  rw [BitVec.msb_eq_toInt, BitVec.msb_eq_toInt] at e
  rw [h0]
  exact decide_eq_decide.mp e
theorem gp_divT {x y : Int32} (hx : -1073741824 ≤ x.toInt ∧ x.toInt < 1073741824) (hy : 0 < y.toInt) : (x / y).toInt = x.toInt.tdiv y.toInt ∧ -1073741824 ≤ x.toInt.tdiv y.toInt ∧ x.toInt.tdiv y.toInt < 1073741824 := by
  have hb : -1073741824 ≤ x.toInt.tdiv y.toInt ∧ x.toInt.tdiv y.toInt < 1073741824 := by
    obtain ⟨b, hbe⟩ : ∃ k : Nat, y.toInt = k := ⟨y.toInt.toNat, by omega⟩
    rw [hbe] at hy ⊢
    rcases (by omega : x.toInt < 0 ∨ 0 ≤ x.toInt) with h | h
    · obtain ⟨n, hn⟩ : ∃ k : Nat, x.toInt = -(k : Int) := ⟨(-x.toInt).toNat, by omega⟩
      rw [hn, gp_tdivN n b (by omega)]
      have h9 := Nat.div_le_self n b
      generalize n / b = k at h9 ⊢
      omega
    · obtain ⟨n, hn⟩ : ∃ k : Nat, x.toInt = (k : Int) := ⟨x.toInt.toNat, by omega⟩
      rw [hn, Int.tdiv_eq_ediv_of_nonneg (by omega), ← Int.natCast_ediv]
      have h9 := Nat.div_le_self n b
      generalize n / b = k at h9 ⊢
      omega
  refine ⟨?_, hb⟩
  rw [Int32.toInt_div, fb_bmod (by omega) (by omega)]
/-- what a profile's way makes of a value of its curve -/
def sp_take (l g w f : Nat) : Nat := if w = 1 then l + f * (g - l) / 255 else max l (min g (if w = 2 then (if g < f then 2 * g - f else if f < l then 2 * l - f else f) else f))
theorem sp_take_le {l g w f : Nat} (hl : l ≤ g) (hg : g ≤ 255) (hf : f ≤ 255) : sp_take l g w f ≤ 255 := by
  unfold sp_take
  split
  · have h1 : f * (g - l) ≤ 255 * (g - l) := Nat.mul_le_mul_right _ hf
    have h2 : f * (g - l) / 255 ≤ g - l := Nat.div_le_of_le_mul h1
    omega
  · omega
def sp_curve (S : Nat → Nat → Nat) (p b v : Nat) : Nat := sp_btw (S 1) ((p * 3 + b) * 5) v
def sp_tk (S : Nat → Nat → Nat) (p b v : Nat) : Nat := sp_take (S 2 (p * 3 + b)) (S 3 (p * 3 + b)) (S 4 p) (sp_curve S p b v)
def sp_passTo (S : Nat → Nat → Nat) (ch b v : Nat) : Nat → Nat
  | 0 => v
  | k + 1 => sp_tk S (S 6 (ch * 6 + k)) b (sp_passTo S ch b v k)
def sp_pass (S : Nat → Nat → Nat) (ch b v : Nat) : Nat := sp_passTo S ch b v (S 7 ch)
/-- what holds of the rows at any time -/
def sp_ok (N : Nat → Nat) (S : Nat → Nat → Nat) : Prop := (N 0 ≤ 8 ∧ N 5 ≤ 6) ∧ (∀ j, S 1 j ≤ 255) ∧ (∀ j, S 2 j ≤ S 3 j) ∧ (∀ j, S 3 j ≤ 255) ∧ (∀ j, S 4 j ≤ 2) ∧ (∀ j, S 6 j < 8) ∧ (∀ j, S 7 j ≤ 6) ∧ (∀ j, S 8 j ≤ 255) ∧ (∀ j, S 12 j ≤ 255) ∧ (∀ j, S 13 j ≤ 255) ∧ (∀ j, S 14 j ≤ 255)
theorem sp_curve_le {N : Nat → Nat} {S : Nat → Nat → Nat} {p b v : Nat} (h : sp_ok N S) (hv : v ≤ 255) : sp_curve S p b v ≤ 255 := sp_btw_le h.2.1 hv
theorem sp_tk_le {N : Nat → Nat} {S : Nat → Nat → Nat} {p b v : Nat} (h : sp_ok N S) (hv : v ≤ 255) : sp_tk S p b v ≤ 255 := sp_take_le (h.2.2.1 _) (h.2.2.2.1 _) (sp_curve_le h hv)
theorem sp_passTo_le {N : Nat → Nat} {S : Nat → Nat → Nat} {ch b v : Nat} (h : sp_ok N S) (hv : v ≤ 255) : ∀ k, sp_passTo S ch b v k ≤ 255
  | 0 => hv
  | k + 1 => sp_tk_le h (sp_passTo_le h hv k)
theorem sp_pass_le {N : Nat → Nat} {S : Nat → Nat → Nat} {ch b v : Nat} (h : sp_ok N S) (hv : v ≤ 255) : sp_pass S ch b v ≤ 255 := sp_passTo_le h hv _
/-- the bit b of a set -/
def sp_bit (x b : Nat) : Nat := x / 2 ^ b % 2
theorem s_l : ∀ n, n < 32 → ((nI n &&& 31).toBitVec.smod 32).toNat = n := by decide +kernel
theorem gp_mulback (a b : Int) (ha : -1073741824 ≤ a ∧ a < 1073741824) (hb : 0 < b) : -1073741824 ≤ a.tdiv b * b ∧ a.tdiv b * b < 1073741824 := by
  obtain ⟨b, rfl⟩ : ∃ k : Nat, b = k := ⟨b.toNat, by omega⟩
  rcases (by omega : a < 0 ∨ 0 ≤ a) with h | h
  · obtain ⟨n, rfl⟩ : ∃ k : Nat, a = -(k : Int) := ⟨(-a).toNat, by omega⟩
    rw [gp_tdivN n b (by omega), Int.neg_mul, ← Int.natCast_mul]
    have h9 := Nat.div_mul_le_self n b
    generalize n / b * b = k at h9 ⊢
    omega
  · obtain ⟨n, rfl⟩ : ∃ k : Nat, a = (k : Int) := ⟨a.toNat, by omega⟩
    rw [Int.tdiv_eq_ediv_of_nonneg (by omega), ← Int.natCast_ediv, ← Int.natCast_mul]
    have h9 := Nat.div_mul_le_self n b
    generalize n / b * b = k at h9 ⊢
    omega
/-- the profiles of a chain, and those of the signed chains, as sets -/
def sp_ofTo (S : Nat → Nat → Nat) (ch : Nat) : Nat → Nat
  | 0 => 0
  | k + 1 => sp_ofTo S ch k ||| 2 ^ (S 6 (ch * 6 + k))
def sp_of (S : Nat → Nat → Nat) (ch : Nat) : Nat := sp_ofTo S ch (S 7 ch)
def sp_heldTo (N : Nat → Nat) (S : Nat → Nat → Nat) : Nat → Nat
  | 0 => 0
  | c + 1 => if sp_bit (N 10) c = 1 then sp_heldTo N S c ||| sp_of S c else sp_heldTo N S c
def sp_held (N : Nat → Nat) (S : Nat → Nat → Nat) : Nat := sp_heldTo N S 6
/-- a pixel's band with the inks that the device has not -/
def sp_inkTo (S : Nat → Nat → Nat) (px bd ks : Nat) : Nat → Nat
  | 0 => S 12 (px * 3 + bd)
  | k + 1 => if sp_bit ks k = 1 then sp_inkTo S px bd ks k else min 255 (sp_inkTo S px bd ks k + S 14 (k * 3 + bd) * S 13 (px * 3 + k) / 255)
def sp_ink (S : Nat → Nat → Nat) (px bd ks : Nat) : Nat := sp_inkTo S px bd ks 3
/-- whether a chain differs from what is kept of it, at the first k of its fifteen places -/
def sp_difTo (S : Nat → Nat → Nat) (ch : Nat) : Nat → Nat
  | 0 => 0
  | k + 1 => if sp_difTo S ch k = 1 then 1 else if sp_pass S ch (k / 5) (sp_vop (k % 5)) = S 8 (ch * 15 + k) then 0 else 1
def sp_dif (S : Nat → Nat → Nat) (ch : Nat) : Nat := sp_difTo S ch 15
def sp_staleTo (N : Nat → Nat) (S : Nat → Nat → Nat) : Nat → Nat
  | 0 => 0
  | c + 1 => if sp_bit (N 9) c = 1 ∧ sp_dif S c = 1 then sp_staleTo N S c ||| 2 ^ c else sp_staleTo N S c
def sp_stale (N : Nat → Nat) (S : Nat → Nat → Nat) : Nat := sp_staleTo N S 6
theorem sp_bit_lt (x b : Nat) : sp_bit x b < 2 := Nat.mod_lt _ (by decide)
theorem sp_or_lt {a b k : Nat} (ha : a < 2 ^ k) (hb : b < 2 ^ k) : a ||| b < 2 ^ k := Nat.or_lt_two_pow ha hb
theorem sp_ofTo_lt {N : Nat → Nat} {S : Nat → Nat → Nat} {ch : Nat} (h : sp_ok N S) : ∀ k, sp_ofTo S ch k < 2 ^ 8
  | 0 => Nat.le_of_ble_eq_true rfl
  | k + 1 => sp_or_lt (sp_ofTo_lt h k) (Nat.pow_lt_pow_right (by decide) (h.2.2.2.2.2.1 _))
theorem sp_of_lt {N : Nat → Nat} {S : Nat → Nat → Nat} {ch : Nat} (h : sp_ok N S) : sp_of S ch < 2 ^ 8 := sp_ofTo_lt h _
theorem sp_heldTo_lt {N : Nat → Nat} {S : Nat → Nat → Nat} (h : sp_ok N S) : ∀ k, sp_heldTo N S k < 2 ^ 8
  | 0 => Nat.le_of_ble_eq_true rfl
  | k + 1 => by
    unfold sp_heldTo
    split
    · exact sp_or_lt (sp_heldTo_lt h k) (sp_of_lt h)
    · exact sp_heldTo_lt h k
theorem sp_held_lt {N : Nat → Nat} {S : Nat → Nat → Nat} (h : sp_ok N S) : sp_held N S < 2 ^ 8 := sp_heldTo_lt h _
theorem sp_inkTo_le {N : Nat → Nat} {S : Nat → Nat → Nat} {px bd ks : Nat} (h : sp_ok N S) : ∀ k, sp_inkTo S px bd ks k ≤ 255
  | 0 => h.2.2.2.2.2.2.2.2.1 _
  | k + 1 => by
    unfold sp_inkTo
    split
    · exact sp_inkTo_le h k
    · omega
theorem sp_ink_le {N : Nat → Nat} {S : Nat → Nat → Nat} {px bd ks : Nat} (h : sp_ok N S) : sp_ink S px bd ks ≤ 255 := sp_inkTo_le h _
theorem sp_difTo_lt (S : Nat → Nat → Nat) (ch : Nat) : ∀ k, sp_difTo S ch k < 2
  | 0 => Nat.le_of_ble_eq_true rfl
  | k + 1 => by
    unfold sp_difTo
    split
    · decide
    · split <;> decide
theorem sp_difTo_up {S : Nat → Nat → Nat} {ch : Nat} : ∀ {k n : Nat}, k ≤ n → sp_difTo S ch k = 1 → sp_difTo S ch n = 1
  | k, n, hk, h => by
    induction hk with
    | refl => exact h
    | step _ ih => unfold sp_difTo; rw [if_pos ih]
theorem sp_staleTo_lt (N : Nat → Nat) (S : Nat → Nat → Nat) : ∀ k, k ≤ 6 → sp_staleTo N S k < 2 ^ 6
  | 0, _ => by show (0 : Nat) < 2 ^ 6; decide
  | k + 1, hk => by
    unfold sp_staleTo
    split
    · exact sp_or_lt (sp_staleTo_lt N S k (by omega)) (Nat.pow_lt_pow_right (by decide) (by omega))
    · exact sp_staleTo_lt N S k (by omega)
theorem gp_prod {C D t : Nat} (hC : C ≤ 255) (hD : D ≤ 255) (ht : t ≤ 64) : ((nI D - nI C) * nI t).toInt = ((D : Int) - C) * (t : Int) ∧ -16320 ≤ ((nI D - nI C) * nI t).toInt ∧ ((nI D - nI C) * nI t).toInt ≤ 16320 := by
  have h1 : (nI D - nI C).toInt = (D : Int) - C := pk_sub_toInt (by omega) (by omega)
  have h2 : (nI t).toInt = (t : Int) := nI_toInt (by omega)
  have hb : -16320 ≤ ((D : Int) - C) * (t : Int) ∧ ((D : Int) - C) * (t : Int) ≤ 16320 := by
    rcases Nat.le_total C D with h | h
    · have e : ((D : Int) - C) * (t : Int) = (((D - C) * t : Nat) : Int) := by rw [Int.natCast_mul, Int.ofNat_sub h]
      have h3 : (D - C) * t ≤ 255 * 64 := Nat.mul_le_mul (by omega) ht
      rw [e]
      omega
    · have e : ((D : Int) - C) * (t : Int) = -(((C - D) * t : Nat) : Int) := by
        rw [Int.natCast_mul, Int.ofNat_sub h, ← Int.neg_mul]
        congr 1
        omega
      have h3 : (C - D) * t ≤ 255 * 64 := Nat.mul_le_mul (by omega) ht
      rw [e]
      omega
  have e : ((nI D - nI C) * nI t).toInt = ((D : Int) - C) * (t : Int) := by
    rw [fb_mulI (by rw [h1, h2]; omega) (by rw [h1, h2]; omega), h1, h2]
  exact ⟨e, by rw [e]; exact hb.1, by rw [e]; exact hb.2⟩
theorem gp_btwR {C D t w sw X : Nat} {r z : Int32} (hS : X = (C * (sw - t) + D * t) / sw) (hw : w = sw) (hr : r.toInt = z.toInt / (nI w).toInt) (hz : z.toInt = ((D : Int) - C) * (t : Int)) (h0 : 0 < sw) (h1 : sw ≤ 64) (ht : t ≤ sw) (hC : C ≤ 255) (hD : D ≤ 255) : nI C + r = nI X := by
  have hX := sp_mix_le hC hD ht h0
  rw [← hS] at hX
  have e1 : (C : Int) + r.toInt = (X : Int) := by
    rw [hr, hz, hw, nI_toInt (by omega), gp_mix h0 ht, hS]
  have hc : (nI C).toInt = (C : Int) := nI_toInt (by omega)
  refine gp_nat (by omega) ?_
  rw [fb_addI (by rw [hc]; omega) (by rw [hc]; omega), hc, e1]
theorem gp_clamp {l g f : Nat} {y z : Int32} (hl : l ≤ g) (hg : g ≤ 255) (hf : f ≤ 255) (hz : z.toInt = if g < f then 2 * (g : Int) - f else if f < l then 2 * (l : Int) - f else f) (ey : y = if z < nI g then z else nI g) :
    (if nI l < y then y else nI l) = nI (max l (min g (if g < f then 2 * g - f else if f < l then 2 * l - f else f))) := by
  have tl : (nI l).toInt = (l : Int) := nI_toInt (by omega)
  have tg : (nI g).toInt = (g : Int) := nI_toInt (by omega)
  have hy : y.toInt = min z.toInt (g : Int) := by
    rw [ey]
    by_cases h : z < nI g
    · rw [if_pos h]
      have h2 := Int32.lt_iff_toInt_lt.mp h
      omega
    · rw [if_neg h, tg]
      have h2 : ¬ z.toInt < (nI g).toInt := fun q => h (Int32.lt_iff_toInt_lt.mpr q)
      omega
  refine gp_nat ?_ ?_
  · split <;> first | omega | (split <;> omega)
  by_cases h : nI l < y
  · rw [if_pos h]
    have h2 := Int32.lt_iff_toInt_lt.mp h
    rw [hy] at h2 ⊢
    rw [tl] at h2
    rw [hz] at h2 ⊢
    by_cases c1 : g < f
    · rw [if_pos c1] at h2 ⊢
      rw [if_pos c1]
      omega
    · rw [if_neg c1] at h2 ⊢
      rw [if_neg c1]
      by_cases c2 : f < l
      · rw [if_pos c2] at h2 ⊢
        rw [if_pos c2]
        omega
      · rw [if_neg c2] at h2 ⊢
        rw [if_neg c2]
        omega
  · rw [if_neg h, tl]
    have h2 : ¬ (nI l).toInt < y.toInt := fun q => h (Int32.lt_iff_toInt_lt.mpr q)
    rw [hy, tl, hz] at h2
    by_cases c1 : g < f
    · rw [if_pos c1] at h2
      rw [if_pos c1]
      omega
    · rw [if_neg c1] at h2
      rw [if_neg c1]
      by_cases c2 : f < l
      · rw [if_pos c2] at h2
        rw [if_pos c2]
        omega
      · rw [if_neg c2] at h2
        rw [if_neg c2]
        omega
theorem sp_b31 (x b : Nat) : sp_bit x b < 2 ^ 31 := Nat.lt_trans (sp_bit_lt x b) (by decide)
theorem sp_dif_lt (S : Nat → Nat → Nat) (ch : Nat) : sp_dif S ch < 2 := sp_difTo_lt S ch 15
theorem sp_d31 (S : Nat → Nat → Nat) (ch : Nat) : sp_dif S ch < 2 ^ 31 := Nat.lt_trans (sp_dif_lt S ch) (by decide)
theorem sp_stale_y {N : Nat → Nat} {S : Nat → Nat → Nat} {c : Nat} (h : sp_bit (N 9) c = 1 ∧ sp_dif S c = 1) : sp_staleTo N S (c + 1) = sp_staleTo N S c ||| 2 ^ c := if_pos h
theorem sp_stale_n {N : Nat → Nat} {S : Nat → Nat → Nat} {c : Nat} (h : ¬ (sp_bit (N 9) c = 1 ∧ sp_dif S c = 1)) : sp_staleTo N S (c + 1) = sp_staleTo N S c := if_neg h
theorem sp_held_y {N : Nat → Nat} {S : Nat → Nat → Nat} {c : Nat} (h : sp_bit (N 10) c = 1) : sp_heldTo N S (c + 1) = sp_heldTo N S c ||| sp_of S c := if_pos h
theorem sp_held_n {N : Nat → Nat} {S : Nat → Nat → Nat} {c : Nat} (h : ¬ sp_bit (N 10) c = 1) : sp_heldTo N S (c + 1) = sp_heldTo N S c := if_neg h
theorem sp_ink_y {S : Nat → Nat → Nat} {px bd ks k : Nat} (h : sp_bit ks k = 1) : sp_inkTo S px bd ks (k + 1) = sp_inkTo S px bd ks k := if_pos h
theorem sp_ink_n {S : Nat → Nat → Nat} {px bd ks k : Nat} (h : ¬ sp_bit ks k = 1) : sp_inkTo S px bd ks (k + 1) = min 255 (sp_inkTo S px bd ks k + S 14 (k * 3 + bd) * S 13 (px * 3 + k) / 255) := if_neg h
theorem sp_dif_e {S : Nat → Nat → Nat} {ch b k : Nat} (h : sp_difTo S ch (b * 5 + k) = 0) (hk : k < 5) (he : sp_pass S ch b (sp_vop k) = S 8 ((ch * 3 + b) * 5 + k)) : sp_difTo S ch (b * 5 + (k + 1)) = 0 := by
  show (if sp_difTo S ch (b * 5 + k) = 1 then 1 else if sp_pass S ch ((b * 5 + k) / 5) (sp_vop ((b * 5 + k) % 5)) = S 8 (ch * 15 + (b * 5 + k)) then 0 else 1) = 0
  rw [if_neg (by omega), show (b * 5 + k) / 5 = b from by omega, show (b * 5 + k) % 5 = k from by omega, show ch * 15 + (b * 5 + k) = (ch * 3 + b) * 5 + k from by omega, if_pos he]
theorem sp_dif_d {S : Nat → Nat → Nat} {ch b k : Nat} (h : sp_difTo S ch (b * 5 + k) = 0) (hk : k < 5) (hb : b < 3) (he : sp_pass S ch b (sp_vop k) ≠ S 8 ((ch * 3 + b) * 5 + k)) : sp_dif S ch = 1 := by
  refine sp_difTo_up (k := b * 5 + k + 1) (by omega) ?_
  show (if sp_difTo S ch (b * 5 + k) = 1 then 1 else if sp_pass S ch ((b * 5 + k) / 5) (sp_vop ((b * 5 + k) % 5)) = S 8 (ch * 15 + (b * 5 + k)) then 0 else 1) = 1
  rw [if_neg (by omega), show (b * 5 + k) / 5 = b from by omega, show (b * 5 + k) % 5 = k from by omega, show ch * 15 + (b * 5 + k) = (ch * 3 + b) * 5 + k from by omega, if_neg he]
theorem sp_vop_le {k : Nat} : sp_vop k ≤ 255 := Nat.min_le_right _ _
section GN2
variable {p : Program} {l : Launch} {e : Env} {R : Room} {s : State} {m : MethodId} {args : Array Value} {below : List Frame} {meth : Method} {c : Code} {H : Heap} {locs : List Loc} {cells slots : Nat} {Q : State → Prop}
variable {cc : ByteArray} {nL pc index : Nat} {ret : Option FieldType} {ws : List Cond} {own : String} {rest : List Value} {ls : Array Slot} {a b : Nat}
theorem gn_ior (G : gF p s m args meth c cc ret nL own ws) (d : decode cc pc = .ok (.ior, 1)) (k : W p l e R s m args below meth c H locs cells slots Q (F0 m (pc + 1) ls (.int (nI (a ||| b)) :: rest))) : W p l e R s m args below meth c H locs cells slots Q (F0 m pc ls (.int (nI b) :: .int (nI a) :: rest)) :=
  lv_ior G.1 G.2.1 d (by rw [fa_or]; exact k)
theorem gn_ixor (G : gF p s m args meth c cc ret nL own ws) (d : decode cc pc = .ok (.ixor, 1)) (k : W p l e R s m args below meth c H locs cells slots Q (F0 m (pc + 1) ls (.int (nI (a ^^^ b)) :: rest))) : W p l e R s m args below meth c H locs cells slots Q (F0 m pc ls (.int (nI b) :: .int (nI a) :: rest)) :=
  lv_ixor G.1 G.2.1 d (by rw [fb_xorI]; exact k)
theorem gn_ishl (G : gF p s m args meth c cc ret nL own ws) (d : decode cc pc = .ok (.ishl, 1)) (hb : b < 31) (k : W p l e R s m args below meth c H locs cells slots Q (F0 m (pc + 1) ls (.int (nI (2 ^ b)) :: rest))) : W p l e R s m args below meth c H locs cells slots Q (F0 m pc ls (.int (nI b) :: .int (nI 1) :: rest)) :=
  lv_ishl G.1 G.2.1 d (by
    rw [pk_shlN _ b (s_l b (by omega)) (by rw [Nat.one_mul]; exact Nat.pow_lt_pow_right (by decide) (by omega)), Nat.one_mul]
    exact k)
end GN2
