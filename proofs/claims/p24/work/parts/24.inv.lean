/-! WHAT STAYS TRUE OF NUMBERS AND ROWS THROUGH EVERY CALL -/
theorem gk_0 {a b c : Bool} (h : gk a b c = 0) : a = true ∧ b = true ∧ c = true := by
  cases a <;> cases b <;> cases c <;> first | exact ⟨rfl, rfl, rfl⟩ | exact absurd h (by decide)
theorem gk_lt (a b c : Bool) : gk a b c < 2 ^ 31 := by cases a <;> cases b <;> cases c <;> decide
theorem gu_le {F : Nat → Nat} {i v B : Nat} (h : ∀ j, F j ≤ B) (hv : v ≤ B) : ∀ j, gu F i v j ≤ B := fun j => by
  unfold gu
  split
  · exact hv
  · exact h j
theorem gb_n {x : Int32} {n : Nat} (hn : n ≤ 2 ^ 31) (h : gb x n = true) : gn x < n := by
  obtain ⟨j, hj, rfl⟩ := gb_of hn h
  rw [gn_nI (by omega)]
  exact hj
theorem sp_bit_or (x b c : Nat) : sp_bit (x ||| 2 ^ b) c = if c = b then 1 else sp_bit x c := by
  rw [sp_bit_test, sp_bit_test, Nat.testBit_or, Nat.testBit_two_pow]
  by_cases h : c = b
  · subst h; simp
  · have : ¬ b = c := fun z => h z.symm
    simp [h, this]
theorem sp_bit_xor (x b c : Nat) : sp_bit (x ^^^ 2 ^ b) c = if c = b then 1 - sp_bit x c else sp_bit x c := by
  by_cases h : c = b
  · subst h
    rw [if_pos rfl, sp_xor_bit]
  · rw [if_neg h, sp_bit_test, sp_bit_test, Nat.testBit_xor, Nat.testBit_two_pow]
    have : ¬ b = c := fun z => h z.symm
    simp [this]
theorem sp_fill_le {F : Nat → Nat} {o : Nat} (h : ∀ j, F j ≤ 255) : ∀ k j, sp_fill F o k j ≤ 255
  | 0, j => h j
  | k + 1, j => gu_le (sp_fill_le h k) sp_vop_le j
theorem sp_fill2_le {F : Nat → Nat} {o : Nat} (h : ∀ j, F j ≤ 255) : ∀ k j, sp_fill2 F o k j ≤ 255
  | 0, j => h j
  | k + 1, j => gu_le (sp_fill2_le h k) (Nat.le_refl _) j
theorem sp_fill2_ge {F G : Nat → Nat} {o : Nat} (h : ∀ j, G j ≤ F j) (hF : ∀ j, F j ≤ 255) : ∀ k j, G j ≤ sp_fill2 F o k j
  | 0, j => h j
  | k + 1, j => by
    show G j ≤ gu (sp_fill2 F o k) (o + k) 255 j
    unfold gu
    split
    · exact Nat.le_trans (h j) (hF j)
    · exact sp_fill2_ge h hF k j
theorem inv_profile {N : Nat → Nat} {S : Nat → Nat → Nat} (hok : sp_ok N S) (hinv : sp_inv N S) (h : sk_profile N S = 0) : sp_ok (sN_profile N S) (sS_profile N S) ∧ sp_inv (sN_profile N S) (sS_profile N S) := by
  obtain ⟨h1, -, -⟩ := gk_0 h
  have h8 : N 0 < 8 := of_decide_eq_true h1
  obtain ⟨⟨ok0, ok5⟩, ok1, ok2, ok3, ok4, ok6, ok7, ok8, ok12, ok13, ok14⟩ := hok
  obtain ⟨i1, i2, i3, i4, i5, i6, i7⟩ := hinv
  refine ⟨⟨⟨?_, ok5⟩, sp_fill_le ok1 15, sp_fill2_ge ok2 ok3 3, sp_fill2_le ok3 3, ok4, ok6, ok7, ok8, ok12, ok13, ok14⟩, fun j hj => ?_, fun j hj => ?_, i3, i4, i5, i6, fun c k hc hk => ?_⟩
  · show N 0 + 1 ≤ 8
    omega
  · have hj2 : 3 * (N 0 + 1) ≤ j := hj
    exact i1 j (by omega)
  · have hj2 : N 0 + 1 ≤ j := hj
    exact i2 j (by omega)
  · have h9 := i7 c k hc hk
    show S 6 (c * 6 + k) < N 0 + 1
    omega
theorem inv_bend {N : Nat → Nat} {S : Nat → Nat → Nat} {i1 i2 i3 i4 : Int32} (hok : sp_ok N S) (hinv : sp_inv N S) (h : sk_bend N S i1 i2 i3 i4 = 0) : sp_ok (sN_bend N S i1 i2 i3 i4) (sS_bend N S i1 i2 i3 i4) ∧ sp_inv (sN_bend N S i1 i2 i3 i4) (sS_bend N S i1 i2 i3 i4) := by
  obtain ⟨-, h2, -⟩ := gk_0 h
  have hv := gb_n (by decide) (show gb i4 256 = true from h2)
  obtain ⟨ok0, ok1, ok2, ok3, ok4, ok6, ok7, ok8, ok12, ok13, ok14⟩ := hok
  exact ⟨⟨ok0, gu_le ok1 (by omega), ok2, ok3, ok4, ok6, ok7, ok8, ok12, ok13, ok14⟩, hinv⟩
theorem inv_reach {N : Nat → Nat} {S : Nat → Nat → Nat} {i1 i2 i3 i4 : Int32} (hok : sp_ok N S) (hinv : sp_inv N S) (h : sk_reach N S i1 i2 i3 i4 = 0) : sp_ok (sN_reach N S i1 i2 i3 i4) (sS_reach N S i1 i2 i3 i4) ∧ sp_inv (sN_reach N S i1 i2 i3 i4) (sS_reach N S i1 i2 i3 i4) := by
  obtain ⟨h1, h2, -⟩ := gk_0 h
  obtain ⟨ok0, ok1, ok2, ok3, ok4, ok6, ok7, ok8, ok12, ok13, ok14⟩ := hok
  obtain ⟨j1, j2, j3, j4, j5, j6, j7⟩ := hinv
  have h1' : (gb i1 (N 0) && gb i2 3) = true := h1
  have h2' : ((gb i3 256 && gb i4 256) && decide (gn i3 ≤ gn i4)) = true := h2
  rw [Bool.and_eq_true] at h1'
  rw [Bool.and_eq_true, Bool.and_eq_true] at h2'
  have a1 := gb_n (by omega) h1'.1
  have a2 := gb_n (by decide) h1'.2
  have a3 := gb_n (by decide) h2'.1.1
  have a4 := gb_n (by decide) h2'.1.2
  have a5 : gn i3 ≤ gn i4 := of_decide_eq_true h2'.2
  refine ⟨⟨ok0, ok1, fun j => ?_, gu_le ok3 (by omega), ok4, ok6, ok7, ok8, ok12, ok13, ok14⟩, fun j hj => ?_, j2, j3, j4, j5, j6, j7⟩
  · show gu (S 2) (gn i1 * 3 + gn i2) (gn i3) j ≤ gu (S 3) (gn i1 * 3 + gn i2) (gn i4) j
    unfold gu
    split
    · exact a5
    · exact ok2 j
  · have hj2 : 3 * N 0 ≤ j := hj
    show gu (S 2) (gn i1 * 3 + gn i2) (gn i3) j = 0
    rw [gu_other _ _ (by omega)]
    exact j1 j hj
theorem inv_way {N : Nat → Nat} {S : Nat → Nat → Nat} {i1 i2 : Int32} (hok : sp_ok N S) (hinv : sp_inv N S) (h : sk_way N S i1 i2 = 0) : sp_ok (sN_way N S i1 i2) (sS_way N S i1 i2) ∧ sp_inv (sN_way N S i1 i2) (sS_way N S i1 i2) := by
  obtain ⟨h1, h2, -⟩ := gk_0 h
  obtain ⟨ok0, ok1, ok2, ok3, ok4, ok6, ok7, ok8, ok12, ok13, ok14⟩ := hok
  obtain ⟨j1, j2, j3, j4, j5, j6, j7⟩ := hinv
  have a1 := gb_n (by omega) (show gb i1 (N 0) = true from h1)
  have a2 := gb_n (by decide) (show gb i2 3 = true from h2)
  refine ⟨⟨ok0, ok1, ok2, ok3, gu_le ok4 (by omega), ok6, ok7, ok8, ok12, ok13, ok14⟩, j1, fun j hj => ?_, j3, j4, j5, j6, j7⟩
  have hj2 : N 0 ≤ j := hj
  show gu (S 4) (gn i1) (gn i2) j = 0
  rw [gu_other _ _ (by omega)]
  exact j2 j hj
theorem inv_chain {N : Nat → Nat} {S : Nat → Nat → Nat} (hok : sp_ok N S) (hinv : sp_inv N S) (h : sk_chain N S = 0) : sp_ok (sN_chain N S) (sS_chain N S) ∧ sp_inv (sN_chain N S) (sS_chain N S) := by
  obtain ⟨h1, -, -⟩ := gk_0 h
  have h8 : N 5 < 6 := of_decide_eq_true h1
  obtain ⟨⟨ok0, ok5⟩, ok1, ok2, ok3, ok4, ok6, ok7, ok8, ok12, ok13, ok14⟩ := hok
  obtain ⟨i1, i2, i3, i4, i5, i6, i7⟩ := hinv
  refine ⟨⟨⟨ok0, ?_⟩, ok1, ok2, ok3, ok4, ok6, ok7, ok8, ok12, ok13, ok14⟩, i1, i2, i3, i4, fun c hc => ?_, i6, i7⟩
  · show N 5 + 1 ≤ 6
    omega
  · have hc2 : N 5 + 1 ≤ c := hc
    exact i5 c (by omega)
theorem inv_add {N : Nat → Nat} {S : Nat → Nat → Nat} {i1 i2 : Int32} (hok : sp_ok N S) (hinv : sp_inv N S) (h : sk_add N S i1 i2 = 0) : sp_ok (sN_add N S i1 i2) (sS_add N S i1 i2) ∧ sp_inv (sN_add N S i1 i2) (sS_add N S i1 i2) := by
  obtain ⟨h1, h2, -⟩ := gk_0 h
  obtain ⟨⟨ok0, ok5⟩, ok1, ok2, ok3, ok4, ok6, ok7, ok8, ok12, ok13, ok14⟩ := hok
  obtain ⟨j1, j2, j3, j4, j5, j6, j7⟩ := hinv
  have h1' : (gb i1 (N 5) && gb i2 (N 0)) = true := h1
  have h2' : (decide (sp_bit (N 10) (gn i1) = 0) && decide (S 7 (gn i1) < 6)) = true := h2
  rw [Bool.and_eq_true] at h1' h2'
  have a1 := gb_n (by omega) h1'.1
  have a2 := gb_n (by omega) h1'.2
  have a3 : S 7 (gn i1) < 6 := of_decide_eq_true h2'.2
  refine ⟨⟨⟨ok0, ok5⟩, ok1, ok2, ok3, ok4, fun j => ?_, fun j => ?_, ok8, ok12, ok13, ok14⟩, j1, j2, j3, j4, j5, j6, fun c' k hc hk => ?_⟩
  · show gu (S 6) _ _ j < 8
    unfold gu
    split
    · show gn i2 < 8
      have := gb_n (n := N 0) (by omega) h1'.2
      omega
    · exact ok6 j
  · show gu (S 7) _ _ j ≤ 6
    unfold gu
    split
    · show S 7 (gn i1) + 1 ≤ 6
      have h9 : S 7 (gn i1) < 6 := of_decide_eq_true h2'.2
      omega
    · exact ok7 j
  · have hk2 : k < gu (S 7) (gn i1) (S 7 (gn i1) + 1) c' := hk
    show gu (S 6) (gn i1 * 6 + S 7 (gn i1)) (gn i2) (c' * 6 + k) < N 0
    have b2 := gb_n (n := N 0) (by omega) h1'.2
    have b3 : S 7 (gn i1) < 6 := of_decide_eq_true h2'.2
    have b4 := ok7 c'
    by_cases e : c' = gn i1
    · subst e
      rw [gu_same] at hk2
      by_cases e2 : k = S 7 (gn i1)
      · rw [e2, gu_same]
        exact b2
      · rw [gu_other _ _ (by omega)]
        exact j7 _ k hc (by omega)
    · rw [gu_other _ _ e] at hk2
      rw [gu_other _ _ (by omega)]
      exact j7 _ k hc hk2
theorem inv_drop {N : Nat → Nat} {S : Nat → Nat → Nat} {i1 : Int32} (hok : sp_ok N S) (hinv : sp_inv N S) (h : sk_drop N S i1 = 0) : sp_ok (sN_drop N S i1) (sS_drop N S i1) ∧ sp_inv (sN_drop N S i1) (sS_drop N S i1) := by
  obtain ⟨ok0, ok1, ok2, ok3, ok4, ok6, ok7, ok8, ok12, ok13, ok14⟩ := hok
  obtain ⟨j1, j2, j3, j4, j5, j6, j7⟩ := hinv
  refine ⟨⟨ok0, ok1, ok2, ok3, ok4, ok6, gu_le ok7 (Nat.le_trans (Nat.sub_le _ _) (ok7 _)), ok8, ok12, ok13, ok14⟩, j1, j2, j3, j4, j5, j6, fun c' k hc hk => ?_⟩
  have hk2 : k < gu (S 7) (gn i1) (S 7 (gn i1) - 1) c' := hk
  refine j7 c' k hc ?_
  by_cases e : c' = gn i1
  · subst e
    rw [gu_same] at hk2
    omega
  · rw [gu_other _ _ e] at hk2
    exact hk2
theorem inv_join {N : Nat → Nat} {S : Nat → Nat → Nat} {i1 i2 : Int32} (hok : sp_ok N S) (hinv : sp_inv N S) (h : sk_join N S i1 i2 = 0) : sp_ok (sN_join N S i1 i2) (sS_join N S i1 i2) ∧ sp_inv (sN_join N S i1 i2) (sS_join N S i1 i2) := by
  obtain ⟨h1, -, -⟩ := gk_0 h
  have hok2 := hok
  obtain ⟨⟨ok0, ok5⟩, ok1, ok2, ok3, ok4, ok6, ok7, ok8, ok12, ok13, ok14⟩ := hok2
  obtain ⟨j1, j2, j3, j4, j5, j6, j7⟩ := hinv
  have a1 := gb_n (by omega) (show gb i1 (N 5) = true from h1)
  refine ⟨⟨⟨ok0, ok5⟩, ok1, ok2, ok3, ok4, ok6, ok7, sp_kpTo_le hok 15, ok12, ok13, ok14⟩, j1, j2, ?_, j4, fun c hc => ?_, fun c hc => ?_, j7⟩
  · show N 9 ||| 2 ^ gn i1 < 2 ^ 6
    exact sp_or_lt j3 (Nat.pow_lt_pow_right (by decide) (by omega))
  · have hc2 : N 5 ≤ c := hc
    refine ⟨?_, (j5 c hc).2⟩
    show sp_bit (N 9 ||| 2 ^ gn i1) c = 0
    rw [sp_bit_or, if_neg (by omega)]
    exact (j5 c hc).1
  · refine ⟨?_, (j6 c hc).2⟩
    show gu (S 9) (gn i1) 1 c = sp_bit (N 9 ||| 2 ^ gn i1) c
    rw [sp_bit_or]
    unfold gu
    split
    · rfl
    · exact (j6 c hc).1
theorem inv_sign {N : Nat → Nat} {S : Nat → Nat → Nat} {i1 : Int32} (hok : sp_ok N S) (hinv : sp_inv N S) (h : sk_sign N S i1 = 0) : sp_ok (sN_sign N S i1) (sS_sign N S i1) ∧ sp_inv (sN_sign N S i1) (sS_sign N S i1) := by
  obtain ⟨h1, -, -⟩ := gk_0 h
  have hok2 := hok
  obtain ⟨⟨ok0, ok5⟩, ok1, ok2, ok3, ok4, ok6, ok7, ok8, ok12, ok13, ok14⟩ := hok2
  obtain ⟨j1, j2, j3, j4, j5, j6, j7⟩ := hinv
  have a1 := gb_n (by omega) (show gb i1 (N 5) = true from h1)
  refine ⟨⟨⟨ok0, ok5⟩, ok1, ok2, ok3, ok4, ok6, ok7, ok8, ok12, ok13, ok14⟩, j1, j2, j3, ?_, fun c hc => ?_, fun c hc => ?_, j7⟩
  · show N 10 ^^^ 2 ^ gn i1 < 2 ^ 6
    exact Nat.xor_lt_two_pow j4 (Nat.pow_lt_pow_right (by decide) (by omega))
  · have hc2 : N 5 ≤ c := hc
    refine ⟨(j5 c hc).1, ?_⟩
    show sp_bit (N 10 ^^^ 2 ^ gn i1) c = 0
    rw [sp_bit_xor, if_neg (by omega)]
    exact (j5 c hc).2
  · refine ⟨(j6 c hc).1, ?_⟩
    show gu (S 10) (gn i1) (1 - S 10 (gn i1)) c = sp_bit (N 10 ^^^ 2 ^ gn i1) c
    rw [sp_bit_xor]
    unfold gu
    split
    · rename_i e
      rw [← e, (j6 c hc).2]
    · exact (j6 c hc).2
theorem inv_paint {N : Nat → Nat} {S : Nat → Nat → Nat} {i1 i2 i3 : Int32} (hok : sp_ok N S) (hinv : sp_inv N S) (h : sk_paint N S i1 i2 i3 = 0) : sp_ok (sN_paint N S i1 i2 i3) (sS_paint N S i1 i2 i3) ∧ sp_inv (sN_paint N S i1 i2 i3) (sS_paint N S i1 i2 i3) := by
  obtain ⟨-, h2, -⟩ := gk_0 h
  have hv := gb_n (by decide) (show gb i3 256 = true from h2)
  obtain ⟨ok0, ok1, ok2, ok3, ok4, ok6, ok7, ok8, ok12, ok13, ok14⟩ := hok
  exact ⟨⟨ok0, ok1, ok2, ok3, ok4, ok6, ok7, ok8, gu_le ok12 (by omega), ok13, ok14⟩, hinv⟩
theorem inv_spot {N : Nat → Nat} {S : Nat → Nat → Nat} {i1 i2 i3 : Int32} (hok : sp_ok N S) (hinv : sp_inv N S) (h : sk_spot N S i1 i2 i3 = 0) : sp_ok (sN_spot N S i1 i2 i3) (sS_spot N S i1 i2 i3) ∧ sp_inv (sN_spot N S i1 i2 i3) (sS_spot N S i1 i2 i3) := by
  obtain ⟨-, h2, -⟩ := gk_0 h
  have hv := gb_n (by decide) (show gb i3 256 = true from h2)
  obtain ⟨ok0, ok1, ok2, ok3, ok4, ok6, ok7, ok8, ok12, ok13, ok14⟩ := hok
  exact ⟨⟨ok0, ok1, ok2, ok3, ok4, ok6, ok7, ok8, ok12, gu_le ok13 (by omega), ok14⟩, hinv⟩
theorem inv_mix {N : Nat → Nat} {S : Nat → Nat → Nat} {i1 i2 i3 : Int32} (hok : sp_ok N S) (hinv : sp_inv N S) (h : sk_mix N S i1 i2 i3 = 0) : sp_ok (sN_mix N S i1 i2 i3) (sS_mix N S i1 i2 i3) ∧ sp_inv (sN_mix N S i1 i2 i3) (sS_mix N S i1 i2 i3) := by
  obtain ⟨-, h2, -⟩ := gk_0 h
  have hv := gb_n (by decide) (show gb i3 256 = true from h2)
  obtain ⟨ok0, ok1, ok2, ok3, ok4, ok6, ok7, ok8, ok12, ok13, ok14⟩ := hok
  exact ⟨⟨ok0, ok1, ok2, ok3, ok4, ok6, ok7, ok8, ok12, ok13, gu_le ok14 (by omega)⟩, hinv⟩
theorem inv_if {k : Nat} {N N' : Nat → Nat} {S S' : Nat → Nat → Nat} (hok : sp_ok N S) (hinv : sp_inv N S) (h : k = 0 → sp_ok N' S' ∧ sp_inv N' S') : sp_ok (if k = 0 then N' else N) (if k = 0 then S' else S) ∧ sp_inv (if k = 0 then N' else N) (if k = 0 then S' else S) := by
  by_cases e : k = 0
  · rw [if_pos e, if_pos e]
    exact h e
  · rw [if_neg e, if_neg e]
    exact ⟨hok, hinv⟩
