/-! WHAT STAYS TRUE through the law's calls of the class -/
theorem li_bend {N : Nat → Nat} {S : Nat → Nat → Nat} {i1 i2 i3 i4 : Int32} (h : li N S) (hk : sj_bend N S i1 i2 i3 i4 = 0) : li (sN_bend N S i1 i2 i3 i4) (sS_bend N S i1 i2 i3 i4) := by
  obtain ⟨hok, hinv, h0, h5, h6⟩ := h
  obtain ⟨a, b, c⟩ := gk_0 hk
  have hk2 : sk_bend N S i1 i2 i3 i4 = 0 := gk_ttt a b c
  have e := inv_bend hok hinv hk2
  refine ⟨e.1, e.2, h0, h5, h6⟩
theorem li_reach {N : Nat → Nat} {S : Nat → Nat → Nat} {i1 i2 i3 i4 : Int32} (h : li N S) (hk : sj_reach N S i1 i2 i3 i4 = 0) : li (sN_reach N S i1 i2 i3 i4) (sS_reach N S i1 i2 i3 i4) := by
  obtain ⟨hok, hinv, h0, h5, h6⟩ := h
  obtain ⟨a, b, c⟩ := gk_0 hk
  have hk2 : sk_reach N S i1 i2 i3 i4 = 0 := gk_ttt a b c
  have e := inv_reach hok hinv hk2
  refine ⟨e.1, e.2, h0, h5, h6⟩
theorem li_way {N : Nat → Nat} {S : Nat → Nat → Nat} {i1 i2 : Int32} (h : li N S) (hk : sj_way N S i1 i2 = 0) : li (sN_way N S i1 i2) (sS_way N S i1 i2) := by
  obtain ⟨hok, hinv, h0, h5, h6⟩ := h
  obtain ⟨a, b, c⟩ := gk_0 hk
  have hk2 : sk_way N S i1 i2 = 0 := gk_ttt a b c
  have e := inv_way hok hinv hk2
  refine ⟨e.1, e.2, h0, h5, h6⟩
theorem li_add {N : Nat → Nat} {S : Nat → Nat → Nat} {i1 i2 : Int32} (h : li N S) (hk : sj_add N S i1 i2 = 0) : li (sN_add N S i1 i2) (sS_add N S i1 i2) := by
  obtain ⟨hok, hinv, h0, h5, h6⟩ := h
  obtain ⟨a, b, c⟩ := gk_0 hk
  have hk2 : sk_add N S i1 i2 = 0 := gk_ttt a c rfl
  have e := inv_add hok hinv hk2
  refine ⟨e.1, e.2, h0, h5, fun j => ?_⟩
  have h1 : (gb i1 (N 5) && gb i2 (N 0)) = true := a
  rw [Bool.and_eq_true] at h1
  have h2 := gb_n (n := N 0) (by omega) h1.2
  show gu (S 6) (gn i1 * 6 + S 7 (gn i1)) (gn i2) j ≤ 2
  unfold gu
  split
  · omega
  · exact h6 j
theorem li_drop {N : Nat → Nat} {S : Nat → Nat → Nat} {i1 : Int32} (h : li N S) (hk : sj_drop N S i1 = 0) : li (sN_drop N S i1) (sS_drop N S i1) := by
  obtain ⟨hok, hinv, h0, h5, h6⟩ := h
  obtain ⟨a, b, c⟩ := gk_0 hk
  have hk2 : sk_drop N S i1 = 0 := gk_ttt a c rfl
  have e := inv_drop hok hinv hk2
  refine ⟨e.1, e.2, h0, h5, h6⟩
theorem li_join {N : Nat → Nat} {S : Nat → Nat → Nat} {i1 i2 : Int32} (h : li N S) (hk : sj_join N S i1 i2 = 0) : li (sN_join N S i1 i2) (sS_join N S i1 i2) := by
  obtain ⟨hok, hinv, h0, h5, h6⟩ := h
  obtain ⟨a, b, c⟩ := gk_0 hk
  have hk2 : sk_join N S i1 i2 = 0 := gk_ttt a b c
  have e := inv_join hok hinv hk2
  refine ⟨e.1, e.2, h0, h5, h6⟩
theorem li_sign {N : Nat → Nat} {S : Nat → Nat → Nat} {i1 : Int32} (h : li N S) (hk : sj_sign N S i1 = 0) : li (sN_sign N S i1) (sS_sign N S i1) := by
  obtain ⟨hok, hinv, h0, h5, h6⟩ := h
  obtain ⟨a, b, c⟩ := gk_0 hk
  have hk2 : sk_sign N S i1 = 0 := gk_ttt a rfl rfl
  have e := inv_sign hok hinv hk2
  refine ⟨e.1, e.2, h0, h5, h6⟩
theorem li_paint {N : Nat → Nat} {S : Nat → Nat → Nat} {i1 i2 i3 : Int32} (h : li N S) (hk : sj_paint N S i1 i2 i3 = 0) : li (sN_paint N S i1 i2 i3) (sS_paint N S i1 i2 i3) := by
  obtain ⟨hok, hinv, h0, h5, h6⟩ := h
  obtain ⟨a, b, c⟩ := gk_0 hk
  have hk2 : sk_paint N S i1 i2 i3 = 0 := gk_ttt a b rfl
  have e := inv_paint hok hinv hk2
  refine ⟨e.1, e.2, h0, h5, h6⟩
theorem li_spot {N : Nat → Nat} {S : Nat → Nat → Nat} {i1 i2 i3 : Int32} (h : li N S) (hk : sj_spot N S i1 i2 i3 = 0) : li (sN_spot N S i1 i2 i3) (sS_spot N S i1 i2 i3) := by
  obtain ⟨hok, hinv, h0, h5, h6⟩ := h
  obtain ⟨a, b, c⟩ := gk_0 hk
  have hk2 : sk_spot N S i1 i2 i3 = 0 := gk_ttt a b rfl
  have e := inv_spot hok hinv hk2
  refine ⟨e.1, e.2, h0, h5, h6⟩
theorem li_mix {N : Nat → Nat} {S : Nat → Nat → Nat} {i1 i2 i3 : Int32} (h : li N S) (hk : sj_mix N S i1 i2 i3 = 0) : li (sN_mix N S i1 i2 i3) (sS_mix N S i1 i2 i3) := by
  obtain ⟨hok, hinv, h0, h5, h6⟩ := h
  obtain ⟨a, b, c⟩ := gk_0 hk
  have hk2 : sk_mix N S i1 i2 i3 = 0 := gk_ttt a b rfl
  have e := inv_mix hok hinv hk2
  refine ⟨e.1, e.2, h0, h5, h6⟩
theorem lg_outhi {y : Int32} {low : Nat} (hf : gb y 256 = false) (h : ¬ y < nI low) (hl : low ≤ 255) : ¬ y ≤ nI 255 := fun z => by
  have h1 := Int32.le_iff_toInt_le.mp z
  rw [nI_toInt (by decide)] at h1
  have h2 : ¬ y.toInt < (nI low).toInt := fun q => h (Int32.lt_iff_toInt_lt.mpr q)
  rw [nI_toInt (by omega)] at h2
  unfold gb at hf
  have h3 := of_decide_eq_false hf
  omega
theorem lg_gbf {y : Int32} {n : Nat} (h : ¬ gb y n = true) : gb y n = false := by
  cases e : gb y n with
  | false => rfl
  | true => exact absurd e h
theorem lg_gein {y : Int32} {n : Nat} (hn : n < 2 ^ 31) (h0 : ¬ y < 0) (h : ¬ nI n ≤ y) (hf : gb y n = false) : False := by
  have h2 : y < nI n := by
    rw [Int32.lt_iff_toInt_lt]
    have h3 : ¬ (nI n).toInt ≤ y.toInt := fun z => h (Int32.le_iff_toInt_le.mpr z)
    omega
  rw [gb_in hn h0 h2] at hf
  exact absurd hf (by decide)
theorem lg_gein0 {y : Int32} {n : Nat} (hn : n < 2 ^ 31) (h0 : ¬ y < 0) (h : y ≤ nI n) (hf : gb y (n + 1) = false) : False := by
  have h1 : ¬ y.toInt < (0 : Int32).toInt := fun z => h0 (Int32.lt_iff_toInt_lt.mpr z)
  have h2 := Int32.le_iff_toInt_le.mp h
  rw [nI_toInt hn] at h2
  have h9 : (0 : Int32).toInt = 0 := by decide
  rw [h9] at h1
  unfold gb at hf
  have h3 := of_decide_eq_false hf
  omega
