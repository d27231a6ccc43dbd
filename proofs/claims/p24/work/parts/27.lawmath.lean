/-! NUMBERS of the law's own methods -/
theorem lg_ushr2 (x : Int32) : ∃ u : Nat, u < 2 ^ 30 ∧ (x.toUInt32 >>> ((nI 2).toUInt32 &&& Int32.toUInt32 31)).toInt32 = nI u := by
  have h := pk_ushr x (nI 2) 2 (by decide)
  have h2 := x.toBitVec.isLt
  refine ⟨x.toBitVec.toNat / 2 ^ 2, by omega, ?_⟩
  apply Int32.toBitVec_inj.1
  apply BitVec.eq_of_toNat_eq
  rw [h]
  show _ = (BitVec.ofNat 32 _).toNat
  rw [BitVec.toNat_ofNat, Nat.mod_eq_of_lt (by omega)]
theorem sp_vop_lo {k : Nat} (h : k ≤ 3) : sp_vop k = k * 64 := by unfold sp_vop; omega
theorem sp_btw_255 (F : Nat → Nat) (o : Nat) : sp_btw F o 255 = F (o + 4) := by
  show (F (o + 3) * 0 + F (o + 4) * 63) / 63 = F (o + 4)
  rw [Nat.mul_zero, Nat.zero_add, Nat.mul_div_cancel _ (by decide)]
theorem sp_btw_pt {F : Nat → Nat} {o v : Nat} (h : v - v / 64 * 64 = 0) : sp_btw F o v = F (o + v / 64) := by
  unfold sp_btw
  rw [h, Nat.mul_zero, Nat.add_zero, Nat.sub_zero, Nat.mul_div_cancel _ (sp_w_pos _)]
theorem lg_up {C D t w : Nat} (hC : C ≤ 255) (hD : D ≤ 255) (ht : t ≤ w) (hw : w ≤ 64) : (nI D - nI C) * nI t + nI (256 * w) = nI (C * (w - t) + D * t + (256 - C) * w) := by
  obtain ⟨h1, h2, h3⟩ := gp_prod hC hD (show t ≤ 64 by omega)
  have h4 : (nI (256 * w)).toInt = ((256 * w : Nat) : Int) := nI_toInt (by omega)
  have b1 : C * (w - t) ≤ 255 * 64 := Nat.mul_le_mul hC (by omega)
  have b2 : D * t ≤ 255 * 64 := Nat.mul_le_mul hD (by omega)
  have b3 : (256 - C) * w ≤ 256 * 64 := Nat.mul_le_mul (by omega) hw
  refine gp_nat (by omega) ?_
  rw [fb_addI (by rw [h4]; omega) (by rw [h4]; omega), h4, h1]
  have e1 : ((C * (w - t) : Nat) : Int) = (C : Int) * w - C * t := by
    rw [Int.natCast_mul, Int.ofNat_sub ht, Int.mul_sub]
  have e2 : (((256 - C) * w : Nat) : Int) = 256 * (w : Int) - C * w := by
    rw [Int.natCast_mul, Int.ofNat_sub (by omega), Int.sub_mul]
    first | done | rfl | omega
  rw [Int.natCast_add, Int.natCast_add, e1, e2, Int.natCast_mul D t, Int.sub_mul, Int.natCast_mul 256 w]
  omega
theorem lg_fin {C X w : Nat} (hC : C ≤ 255) (h0 : 0 < w) : C + (X + (256 - C) * w - (X + (256 - C) * w) % w) / w = X / w + 256 := by
  have e1 : (X + (256 - C) * w) % w = X % w := Nat.add_mul_mod_self_right _ _ _
  have e2 : X + (256 - C) * w - X % w = (X / w + (256 - C)) * w := by
    have h := Nat.div_add_mod X w
    rw [Nat.add_mul, Nat.mul_comm (X / w) w]
    omega
  rw [e1, e2, Nat.mul_div_cancel _ h0]
  omega
theorem lg_div (X w : Nat) (h0 : 0 < w) : (X - X % w) / w = X / w := by
  have h := Nat.div_add_mod X w
  rw [show X - X % w = X / w * w from by rw [Nat.mul_comm]; omega, Nat.mul_div_cancel _ h0]
/-- a value folded, as the law does it -/
def lg_fold (l g w f : Nat) : Int := if w = 0 then f else if g < f then (g : Int) - ((f : Int) - g) else if f < l then (l : Int) + ((l : Int) - f) else f
theorem lg_clamp {l g w f : Nat} {z : Int32} (hl : l ≤ g) (hg : g ≤ 255) (hf : f ≤ 255) (hw : w ≤ 2) (h1 : w ≠ 1) (hz : z.toInt = lg_fold l g w f) : (¬ nI l ≤ z → nI l = nI (sp_take l g w f)) ∧ (nI l ≤ z → ¬ z ≤ nI g → nI g = nI (sp_take l g w f)) ∧ (nI l ≤ z → z ≤ nI g → z = nI (sp_take l g w f)) := by
  have el : (nI l).toInt = (l : Int) := nI_toInt (by omega)
  have eg : (nI g).toInt = (g : Int) := nI_toInt (by omega)
  have hw2 : w = 0 ∨ w = 2 := by omega
  have e : sp_take l g w f = max l (min g (if w = 2 then (if g < f then 2 * g - f else if f < l then 2 * l - f else f) else f)) := by
    unfold sp_take
    rw [if_neg h1]
  rw [Int32.le_iff_toInt_le, Int32.le_iff_toInt_le, el, eg, hz, e]
  unfold lg_fold
  rcases hw2 with rfl | rfl
  · rw [if_pos rfl, if_neg (by decide)]
    refine ⟨fun h => ?_, fun h h3 => ?_, fun h h3 => ?_⟩
    · rw [show max l (min g f) = l from by omega]
    · rw [show max l (min g f) = g from by omega]
    · rw [show max l (min g f) = f from by omega]
      refine gp_nat (by omega) ?_
      rw [hz]; rfl
  · rw [if_neg (by decide), if_pos rfl]
    unfold lg_fold at hz
    rw [if_neg (by decide)] at hz
    by_cases c1 : g < f
    · rw [if_pos c1] at hz
      rw [if_pos c1, if_pos c1]
      refine ⟨fun h => ?_, fun h h3 => ?_, fun h h3 => ?_⟩
      · rw [show max l (min g (2 * g - f)) = l from by omega]
      · omega
      · exact gp_nat (by omega) (by rw [hz]; omega)
    · rw [if_neg c1] at hz
      rw [if_neg c1, if_neg c1]
      by_cases c2 : f < l
      · rw [if_pos c2] at hz
        rw [if_pos c2, if_pos c2]
        refine ⟨fun h => ?_, fun h h3 => ?_, fun h h3 => ?_⟩
        · omega
        · rw [show max l (min g (2 * l - f)) = g from by omega]
        · exact gp_nat (by omega) (by rw [hz]; omega)
      · rw [if_neg c2] at hz
        rw [if_neg c2, if_neg c2]
        refine ⟨fun h => ?_, fun h h3 => ?_, fun h h3 => ?_⟩
        · omega
        · omega
        · exact gp_nat (by omega) (by rw [hz]; omega)
/-- the profiles of the signed chains, as the law collects them -/
def lg_hTo (S : Nat → Nat → Nat) : Nat → Nat
  | 0 => 0
  | k + 1 => lg_hTo S k ||| (if S 10 (k / 6) = 1 ∧ k % 6 < S 7 (k / 6) then 2 ^ (S 6 k) else 0)
theorem lg_hTo_lt {S : Nat → Nat → Nat} (h : ∀ j, S 6 j ≤ 7) : ∀ k, lg_hTo S k < 2 ^ 8
  | 0 => Nat.le_of_ble_eq_true rfl
  | k + 1 => by
    unfold lg_hTo
    refine sp_or_lt (lg_hTo_lt h k) ?_
    split
    · exact Nat.pow_lt_pow_right (by decide) (Nat.lt_of_le_of_lt (h k) (by decide))
    · decide
theorem lg_hTo_in {S : Nat → Nat → Nat} {c : Nat} (h7 : S 7 c ≤ 6) (H : Nat) (hH : lg_hTo S (6 * c) = H) : ∀ j, j ≤ 6 → lg_hTo S (6 * c + j) = if S 10 c = 1 then H ||| sp_ofTo S c (min j (S 7 c)) else H
  | 0, _ => by
    rw [Nat.add_zero, hH, Nat.zero_min]
    split
    · show H = H ||| 0
      rw [Nat.or_zero]
    · rfl
  | j + 1, hj => by
    show lg_hTo S (6 * c + j) ||| (if S 10 ((6 * c + j) / 6) = 1 ∧ (6 * c + j) % 6 < S 7 ((6 * c + j) / 6) then 2 ^ (S 6 (6 * c + j)) else 0) = _
    rw [lg_hTo_in h7 H hH j (by omega), show (6 * c + j) / 6 = c from by omega, show (6 * c + j) % 6 = j from by omega]
    by_cases e : S 10 c = 1
    · rw [if_pos e, if_pos e]
      by_cases e2 : j < S 7 c
      · rw [if_pos ⟨e, e2⟩, show min j (S 7 c) = j from by omega, show min (j + 1) (S 7 c) = j + 1 from by omega]
        show _ = H ||| (sp_ofTo S c j ||| 2 ^ (S 6 (c * 6 + j)))
        rw [Nat.or_assoc, Nat.mul_comm c 6]
      · rw [if_neg (fun z => e2 z.2), show min j (S 7 c) = S 7 c from by omega, show min (j + 1) (S 7 c) = S 7 c from by omega, Nat.or_zero]
    · rw [if_neg e, if_neg e, if_neg (fun z => e z.1), Nat.or_zero]
theorem lg_hTo_all {N : Nat → Nat} {S : Nat → Nat → Nat} (hok : sp_ok N S) (hinv : sp_inv N S) : ∀ c, c ≤ 6 → lg_hTo S (6 * c) = sp_heldTo N S c
  | 0, _ => rfl
  | c + 1, hc => by
    have h7 : S 7 c ≤ 6 := hok.2.2.2.2.2.2.1 c
    have e := lg_hTo_in h7 _ (lg_hTo_all hok hinv c (by omega)) 6 (Nat.le_refl _)
    have e10 : S 10 c = sp_bit (N 10) c := (hinv.2.2.2.2.2.1 c (by omega)).2
    rw [show 6 * (c + 1) = 6 * c + 6 from by omega, e, e10, show min 6 (S 7 c) = S 7 c from by omega]
    rfl
theorem lg_held {N : Nat → Nat} {S : Nat → Nat → Nat} (hok : sp_ok N S) (hinv : sp_inv N S) (h5 : N 5 ≤ 2) : lg_hTo S 12 = sp_held N S := by
  have e := lg_hTo_all hok hinv 2 (by decide)
  have e1 := sp_held_end hinv (2 - N 5)
  have e2 := sp_held_end hinv (6 - N 5)
  rw [show N 5 + (2 - N 5) = 2 from by omega] at e1
  rw [show N 5 + (6 - N 5) = 6 from by omega] at e2
  show lg_hTo S (6 * 2) = sp_heldTo N S 6
  rw [e, e1, e2]
/-- the chains that are stale, as the law collects them -/
def lg_sTo (S : Nat → Nat → Nat) : Nat → Nat
  | 0 => 0
  | k + 1 => lg_sTo S k ||| (if S 9 (k / 15) = 1 ∧ S 8 k ≠ sp_pass S (k / 15) (k % 15 / 5) (sp_vop (k % 5)) then 2 ^ (k / 15) else 0)
theorem lg_sTo_in {S : Nat → Nat → Nat} {c : Nat} (H : Nat) (hH : lg_sTo S (15 * c) = H) : ∀ j, j ≤ 15 → lg_sTo S (15 * c + j) = if S 9 c = 1 ∧ sp_difTo S c j = 1 then H ||| 2 ^ c else H
  | 0, _ => by
    rw [Nat.add_zero, hH, if_neg (fun z => absurd z.2 (by show ¬ (0 = 1); decide))]
  | j + 1, hj => by
    show lg_sTo S (15 * c + j) ||| (if S 9 ((15 * c + j) / 15) = 1 ∧ S 8 (15 * c + j) ≠ sp_pass S ((15 * c + j) / 15) ((15 * c + j) % 15 / 5) (sp_vop ((15 * c + j) % 5)) then 2 ^ ((15 * c + j) / 15) else 0) = _
    rw [lg_sTo_in H hH j (by omega), show (15 * c + j) / 15 = c from by omega, show (15 * c + j) % 15 = j from by omega, show (15 * c + j) % 5 = j % 5 from by omega, Nat.mul_comm 15 c]
    have ed : sp_difTo S c (j + 1) = if sp_difTo S c j = 1 then 1 else if sp_pass S c (j / 5) (sp_vop (j % 5)) = S 8 (c * 15 + j) then 0 else 1 := rfl
    rw [ed]
    by_cases e : S 9 c = 1
    · by_cases e2 : sp_difTo S c j = 1
      · rw [if_pos ⟨e, e2⟩, if_pos e2]
        have er : (if S 9 c = 1 ∧ 1 = 1 then H ||| 2 ^ c else H) = H ||| 2 ^ c := if_pos ⟨e, rfl⟩
        rw [er]
        split
        · rw [Nat.or_assoc, Nat.or_self]
        · rw [Nat.or_zero]
      · rw [if_neg (fun z => e2 z.2), if_neg e2]
        by_cases e3 : sp_pass S c (j / 5) (sp_vop (j % 5)) = S 8 (c * 15 + j)
        · rw [if_pos e3, if_neg (fun z => z.2 e3.symm), if_neg (fun z => absurd z.2 (by decide)), Nat.or_zero]
        · rw [if_neg e3, if_pos ⟨e, fun z => e3 z.symm⟩, if_pos ⟨e, rfl⟩]
    · rw [if_neg (fun z => e z.1), if_neg (fun z => e z.1), if_neg (fun z => e z.1), Nat.or_zero]
theorem lg_sTo_all {N : Nat → Nat} {S : Nat → Nat → Nat} (hinv : sp_inv N S) : ∀ c, c ≤ 6 → lg_sTo S (15 * c) = sp_staleTo N S c
  | 0, _ => rfl
  | c + 1, hc => by
    have e := lg_sTo_in _ (lg_sTo_all hinv c (by omega)) 15 (Nat.le_refl _)
    have e9 : S 9 c = sp_bit (N 9) c := (hinv.2.2.2.2.2.1 c (by omega)).1
    rw [show 15 * (c + 1) = 15 * c + 15 from by omega, e, e9]
    rfl
theorem lg_stale {N : Nat → Nat} {S : Nat → Nat → Nat} (hok : sp_ok N S) (hinv : sp_inv N S) : lg_sTo S (15 * N 5) = sp_stale N S := by
  rw [lg_sTo_all hinv (N 5) hok.1.2]
  exact sp_stale_all hok hinv
theorem lg_sTo_lt (S : Nat → Nat → Nat) : ∀ k, k ≤ 90 → lg_sTo S k < 2 ^ 6
  | 0, _ => by show (0 : Nat) < 2 ^ 6; decide
  | k + 1, hk => by
    unfold lg_sTo
    refine sp_or_lt (lg_sTo_lt S k (by omega)) ?_
    split
    · exact Nat.pow_lt_pow_right (by decide) (by omega)
    · decide
/-- what stays true through the law -/
def li (N : Nat → Nat) (S : Nat → Nat → Nat) : Prop := sp_ok N S ∧ sp_inv N S ∧ N 0 ≤ 3 ∧ N 5 ≤ 2 ∧ ∀ j, S 6 j ≤ 2
