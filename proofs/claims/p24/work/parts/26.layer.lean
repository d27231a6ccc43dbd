/-! THE LAW's ROWS: six rows that show the class's numbers and rows again; the world of both -/
/-- the row c: how many profiles and chains; for each chain its length, whether it is joined, whether it is signed; for each profile its way -/
def fC (N : Nat → Nat) (S : Nat → Nat → Nat) : Nat → Nat := fun j => if j = 0 then N 0 else if j = 1 then N 5 else if j < 4 then S 7 (j - 2) else if j < 6 then S 9 (j - 4) else if j < 8 then S 10 (j - 6) else S 4 (j - 8)
/-- the row r: nine least values, nine greatest -/
def fR (S : Nat → Nat → Nat) : Nat → Nat := fun j => if j < 9 then S 2 j else S 3 (j - 9)
/-- the row p: six bands, six amounts, nine mixes -/
def fP (S : Nat → Nat → Nat) : Nat → Nat := fun j => if j < 6 then S 12 j else if j < 12 then S 13 (j - 6) else S 14 (j - 12)
theorem fC_0 (N : Nat → Nat) (S : Nat → Nat → Nat) : fC N S 0 = N 0 := rfl
theorem fC_1 (N : Nat → Nat) (S : Nat → Nat → Nat) : fC N S 1 = N 5 := rfl
theorem fC_7 {N : Nat → Nat} {S : Nat → Nat → Nat} {x : Nat} (h : x < 2) : fC N S (2 + x) = S 7 x := by
  unfold fC
  rw [if_neg (by omega), if_neg (by omega), if_pos (by omega), Nat.add_sub_cancel_left]
theorem fC_9 {N : Nat → Nat} {S : Nat → Nat → Nat} {x : Nat} (h : x < 2) : fC N S (4 + x) = S 9 x := by
  unfold fC
  rw [if_neg (by omega), if_neg (by omega), if_neg (by omega), if_pos (by omega), Nat.add_sub_cancel_left]
theorem fC_10 {N : Nat → Nat} {S : Nat → Nat → Nat} {x : Nat} (h : x < 2) : fC N S (6 + x) = S 10 x := by
  unfold fC
  rw [if_neg (by omega), if_neg (by omega), if_neg (by omega), if_neg (by omega), if_pos (by omega), Nat.add_sub_cancel_left]
theorem fC_4 {N : Nat → Nat} {S : Nat → Nat → Nat} {x : Nat} : fC N S (8 + x) = S 4 x := by
  unfold fC
  rw [if_neg (by omega), if_neg (by omega), if_neg (by omega), if_neg (by omega), if_neg (by omega), Nat.add_sub_cancel_left]
theorem fR_2 {S : Nat → Nat → Nat} {p b : Nat} (h : p * 3 + b < 9) : fR S (3 * p + b) = S 2 (p * 3 + b) := by
  unfold fR
  rw [if_pos (by omega), Nat.mul_comm 3 p]
theorem fR_3 {S : Nat → Nat → Nat} {p b : Nat} : fR S (9 + 3 * p + b) = S 3 (p * 3 + b) := by
  unfold fR
  rw [if_neg (by omega), show 9 + 3 * p + b - 9 = p * 3 + b from by omega]
theorem fP_12 {S : Nat → Nat → Nat} {j : Nat} (h : j < 6) : fP S j = S 12 j := by
  unfold fP
  rw [if_pos h]
theorem fP_13 {S : Nat → Nat → Nat} {j : Nat} (h : j < 6) : fP S (6 + j) = S 13 j := by
  unfold fP
  rw [if_neg (by omega), if_pos (by omega), Nat.add_sub_cancel_left]
theorem fP_14 {S : Nat → Nat → Nat} {j : Nat} : fP S (12 + j) = S 14 j := by
  unfold fP
  rw [if_neg (by omega), if_neg (by omega), Nat.add_sub_cancel_left]
theorem gu_ite {F : Nat → Nat} {k v j : Nat} : gu F k v j = if j = k then v else F j := rfl
theorem gs_ite {S : Nat → Nat → Nat} {k : Nat} {F : Nat → Nat} {i j : Nat} : gs S k F i j = if i = k then F j else S i j := by
  unfold gs
  split <;> rfl
theorem fC_u0 {N : Nat → Nat} {S : Nat → Nat → Nat} {v : Nat} : gu (fC N S) 0 v = fC (gu N 0 v) S := by
  funext j
  by_cases h : j = 0
  · subst h
    exact gu_same _ _ _
  · rw [gu_other _ _ h]
    unfold fC
    rw [if_neg h, if_neg h]
    rfl
theorem fC_u1 {N : Nat → Nat} {S : Nat → Nat → Nat} {v : Nat} : gu (fC N S) 1 v = fC (gu N 5 v) S := by
  funext j
  by_cases h : j = 1
  · subst h
    exact gu_same _ _ _
  · rw [gu_other _ _ h]
    by_cases h0 : j = 0
    · subst h0
      rfl
    · unfold fC
      rw [if_neg h0, if_neg h, if_neg h0, if_neg h]
theorem fC_u7 {N : Nat → Nat} {S : Nat → Nat → Nat} {x v : Nat} (h : x < 2) : gu (fC N S) (2 + x) v = fC N (gs S 7 (gu (S 7) x v)) := by
  funext j
  by_cases h9 : j = 2 + x
  · subst h9
    rw [gu_same, fC_7 h, gs_same, gu_same]
  · rw [gu_other _ _ h9]
    rcases (by omega : j = 0 ∨ j = 1 ∨ (2 ≤ j ∧ j < 4) ∨ 4 ≤ j) with rfl | rfl | h2 | h2
    · rfl
    · rfl
    · unfold fC
      rw [if_neg (by omega), if_neg (by omega), if_pos h2.2, if_neg (by omega), if_neg (by omega), if_pos h2.2, gs_same, gu_other _ _ (by omega)]
    · unfold fC
      rw [if_neg (show ¬ j = 0 by omega), if_neg (show ¬ j = 1 by omega), if_neg (show ¬ j < 4 by omega), if_neg (show ¬ j = 0 by omega), if_neg (show ¬ j = 1 by omega), if_neg (show ¬ j < 4 by omega)]
      rfl
theorem fC_u9 {N : Nat → Nat} {S : Nat → Nat → Nat} {x v : Nat} (h : x < 2) : gu (fC N S) (4 + x) v = fC N (gs S 9 (gu (S 9) x v)) := by
  funext j
  by_cases h9 : j = 4 + x
  · subst h9
    rw [gu_same, fC_9 h, gs_same, gu_same]
  · rw [gu_other _ _ h9]
    rcases (by omega : j = 0 ∨ j = 1 ∨ j = 2 ∨ j = 3 ∨ (4 ≤ j ∧ j < 6) ∨ 6 ≤ j) with rfl | rfl | rfl | rfl | h2 | h2
    · rfl
    · rfl
    · rfl
    · rfl
    · unfold fC
      rw [if_neg (by omega), if_neg (by omega), if_neg (by omega), if_pos h2.2, if_neg (by omega), if_neg (by omega), if_neg (by omega), if_pos h2.2, gs_same, gu_other _ _ (by omega)]
    · unfold fC
      rw [if_neg (show ¬ j = 0 by omega), if_neg (show ¬ j = 1 by omega), if_neg (show ¬ j < 4 by omega), if_neg (show ¬ j < 6 by omega), if_neg (show ¬ j = 0 by omega), if_neg (show ¬ j = 1 by omega), if_neg (show ¬ j < 4 by omega), if_neg (show ¬ j < 6 by omega)]
      rfl
theorem fC_u10 {N : Nat → Nat} {S : Nat → Nat → Nat} {x v : Nat} (h : x < 2) : gu (fC N S) (6 + x) v = fC N (gs S 10 (gu (S 10) x v)) := by
  funext j
  by_cases h9 : j = 6 + x
  · subst h9
    rw [gu_same, fC_10 h, gs_same, gu_same]
  · rw [gu_other _ _ h9]
    rcases (by omega : j = 0 ∨ j = 1 ∨ j = 2 ∨ j = 3 ∨ j = 4 ∨ j = 5 ∨ (6 ≤ j ∧ j < 8) ∨ 8 ≤ j) with rfl | rfl | rfl | rfl | rfl | rfl | h2 | h2
    · rfl
    · rfl
    · rfl
    · rfl
    · rfl
    · rfl
    · unfold fC
      rw [if_neg (by omega), if_neg (by omega), if_neg (by omega), if_neg (by omega), if_pos h2.2, if_neg (by omega), if_neg (by omega), if_neg (by omega), if_neg (by omega), if_pos h2.2, gs_same, gu_other _ _ (by omega)]
    · unfold fC
      rw [if_neg (show ¬ j = 0 by omega), if_neg (show ¬ j = 1 by omega), if_neg (show ¬ j < 4 by omega), if_neg (show ¬ j < 6 by omega), if_neg (show ¬ j < 8 by omega), if_neg (show ¬ j = 0 by omega), if_neg (show ¬ j = 1 by omega), if_neg (show ¬ j < 4 by omega), if_neg (show ¬ j < 6 by omega), if_neg (show ¬ j < 8 by omega)]
      rfl
theorem fC_u4 {N : Nat → Nat} {S : Nat → Nat → Nat} {x v : Nat} : gu (fC N S) (8 + x) v = fC N (gs S 4 (gu (S 4) x v)) := by
  funext j
  by_cases h9 : j = 8 + x
  · subst h9
    rw [gu_same, fC_4, gs_same, gu_same]
  · rw [gu_other _ _ h9]
    rcases (by omega : j = 0 ∨ j = 1 ∨ j = 2 ∨ j = 3 ∨ j = 4 ∨ j = 5 ∨ j = 6 ∨ j = 7 ∨ 8 ≤ j) with rfl | rfl | rfl | rfl | rfl | rfl | rfl | rfl | h2
    · rfl
    · rfl
    · rfl
    · rfl
    · rfl
    · rfl
    · rfl
    · rfl
    · unfold fC
      rw [if_neg (by omega), if_neg (by omega), if_neg (by omega), if_neg (by omega), if_neg (by omega), if_neg (by omega), if_neg (by omega), if_neg (by omega), if_neg (by omega), if_neg (by omega), gs_same, gu_other _ _ (by omega)]
theorem fR_u2 {S : Nat → Nat → Nat} {p b v : Nat} (h : p * 3 + b < 9) : gu (fR S) (3 * p + b) v = fR (gs S 2 (gu (S 2) (p * 3 + b) v)) := by
  funext j
  by_cases h9 : j = 3 * p + b
  · subst h9
    rw [gu_same, fR_2 h, gs_same, gu_same]
  · rw [gu_other _ _ h9]
    unfold fR
    by_cases h2 : j < 9
    · rw [if_pos h2, if_pos h2, gs_same, gu_other _ _ (by omega)]
    · rw [if_neg h2, if_neg h2]
      rfl
theorem fR_u3 {S : Nat → Nat → Nat} {p b v : Nat} : gu (fR S) (9 + 3 * p + b) v = fR (gs S 3 (gu (S 3) (p * 3 + b) v)) := by
  funext j
  by_cases h9 : j = 9 + 3 * p + b
  · subst h9
    rw [gu_same, fR_3, gs_same, gu_same]
  · rw [gu_other _ _ h9]
    unfold fR
    by_cases h2 : j < 9
    · rw [if_pos h2, if_pos h2]
      rfl
    · rw [if_neg h2, if_neg h2, gs_same, gu_other _ _ (by omega)]
theorem fP_u12 {S : Nat → Nat → Nat} {x v : Nat} (h : x < 6) : gu (fP S) x v = fP (gs S 12 (gu (S 12) x v)) := by
  funext j
  by_cases h9 : j = x
  · subst h9
    rw [gu_same, fP_12 h, gs_same, gu_same]
  · rw [gu_other _ _ h9]
    unfold fP
    by_cases h2 : j < 6
    · rw [if_pos h2, if_pos h2, gs_same, gu_other _ _ h9]
    · rw [if_neg h2, if_neg h2]
      rfl
theorem fP_u13 {S : Nat → Nat → Nat} {x v : Nat} (h : x < 6) : gu (fP S) (6 + x) v = fP (gs S 13 (gu (S 13) x v)) := by
  funext j
  by_cases h9 : j = 6 + x
  · subst h9
    rw [gu_same, fP_13 h, gs_same, gu_same]
  · rw [gu_other _ _ h9]
    unfold fP
    by_cases h2 : j < 6
    · rw [if_pos h2, if_pos h2]
      rfl
    · by_cases h3 : j < 12
      · rw [if_neg h2, if_pos h3, if_neg h2, if_pos h3, gs_same, gu_other _ _ (by omega)]
      · rw [if_neg h2, if_neg h3, if_neg h2, if_neg h3]
        rfl
theorem fP_u14 {S : Nat → Nat → Nat} {x v : Nat} : gu (fP S) (12 + x) v = fP (gs S 14 (gu (S 14) x v)) := by
  funext j
  by_cases h9 : j = 12 + x
  · subst h9
    rw [gu_same, fP_14, gs_same, gu_same]
  · rw [gu_other _ _ h9]
    unfold fP
    by_cases h2 : j < 6
    · rw [if_pos h2, if_pos h2]
      rfl
    · by_cases h3 : j < 12
      · rw [if_neg h2, if_pos h3, if_neg h2, if_pos h3]
        rfl
      · rw [if_neg h2, if_neg h3, if_neg h2, if_neg h3, gs_same, gu_other _ _ (by omega)]
/-- the law's six rows -/
def lrw (a : Nat → Nat) (cI : ClassId) (N : Nat → Nat) (S : Nat → Nat → Nat) : va_W := [(a 0, .inl (cI, 11, .inl (gr (fC N S)))), (a 1, .inl (cI, 45, .inl (gr (S 1)))), (a 2, .inl (cI, 18, .inl (gr (fR S)))), (a 3, .inl (cI, 12, .inl (gr (S 6)))), (a 4, .inl (cI, 30, .inl (gr (S 8)))), (a 5, .inl (cI, 21, .inl (gr (fP S))))]
def lrAt (D : va_G) (a : Nat → Nat) (cI : ClassId) (N : Nat → Nat) (S : Nat → Nat → Nat) (U : State) (H : Heap) : Prop := va_P D vwCl (lrw a cI N S) H ∧ va_K D vwCl [(cI, .int)] U
theorem lrAt.moved {D : va_G} {a : Nat → Nat} {cI : ClassId} {N : Nat → Nat} {S : Nat → Nat → Nat} {s U : State} {H : Heap} (hW : s.WarmedH U.vm) (h : lrAt D a cI N S s H) : lrAt D a cI N S U H := ⟨h.1, h.2.moved hW.alike⟩
theorem lrAt_blind {D : va_G} {a : Nat → Nat} {cI : ClassId} {N : Nat → Nat} {S : Nat → Nat → Nat} {av : List Value} : FrameBlind (va_Pc av (fun U => lrAt D a cI N S U U.heap)) := fun a U g mk hq => ⟨hq.1, hq.2.1, va_K.moved (u := U) (U := U.calling g mk a) (Vm.Alike.refl U.vm) hq.2.2⟩
theorem lrAt.row {D : va_G} {a : Nat → Nat} {cI : ClassId} {N : Nat → Nat} {S : Nat → Nat → Nat} {s : State} {H : Heap} (h : lrAt D a cI N S s H) (k : Nat) {b n : Nat} {F : Nat → Nat} (hk : (lrw a cI N S)[k]? = some (b, .inl (cI, n, .inl (gr F)))) : rAt D b cI n F s H := ⟨h.1.sub [k] (by simp [hk]), h.2⟩
/-- the world of the law's rows and of the class -/
def zw (q a : Nat → Nat) (cI : ClassId) (N : Nat → Nat) (S : Nat → Nat → Nat) (tr : Nat → Nat) (N2 : Nat → Nat) (S2 : Nat → Nat → Nat) : va_W := lrw a cI N2 S2 ++ xw q cI N S tr
theorem zw_fst (q a : Nat → Nat) (cI : ClassId) (N : Nat → Nat) (S : Nat → Nat → Nat) (tr : Nat → Nat) (N2 : Nat → Nat) (S2 : Nat → Nat → Nat) (N' : Nat → Nat) (S' : Nat → Nat → Nat) (tr' : Nat → Nat) (N2' : Nat → Nat) (S2' : Nat → Nat → Nat) : (zw q a cI N S tr N2 S2).map (fun x => x.1) = (zw q a cI N' S' tr' N2' S2').map (fun x => x.1) := by
  have hx : (xw q cI N S tr).map (fun x => x.1) = (xw q cI N' S' tr').map (fun x => x.1) := rfl
  have hm : (lrw a cI N2 S2).map (fun x => x.1) = (lrw a cI N2' S2').map (fun x => x.1) := rfl
  unfold zw
  rw [List.map_append, List.map_append, hx, hm]
def zAt (D : va_G) (q a : Nat → Nat) (cI : ClassId) (N : Nat → Nat) (S : Nat → Nat → Nat) (tr : Nat → Nat) (N2 : Nat → Nat) (S2 : Nat → Nat → Nat) (A : Nat → Prop) (s : State) (H : Heap) : Prop :=
  va_P D vwCl (zw q a cI N S tr N2 S2) H ∧ va_K D vwCl [(cI, .int)] s ∧ va_D A (zw q a cI N S tr N2 S2) ∧ gZ A s H
/-- .. at the entry of a method: all that is made later may be written -/
def zBt (D : va_G) (q a : Nat → Nat) (cI : ClassId) (N : Nat → Nat) (S : Nat → Nat → Nat) (tr : Nat → Nat) (A : Nat → Prop) (U : State) : Prop := zAt D q a cI N S tr N S A U U.heap ∧ ∀ z : Nat, U.heap.size ≤ z → A z
theorem zAt.moved {D : va_G} {q a : Nat → Nat} {cI : ClassId} {N : Nat → Nat} {S : Nat → Nat → Nat} {tr : Nat → Nat} {N2 : Nat → Nat} {S2 : Nat → Nat → Nat} {A : Nat → Prop} {s U : State} {H : Heap} (hW : s.WarmedH U.vm) (h : zAt D q a cI N S tr N2 S2 A s H) : zAt D q a cI N S tr N2 S2 A U H := ⟨h.1, h.2.1.moved hW.alike, h.2.2.1, h.2.2.2.moved hW⟩
theorem zBt_blind {D : va_G} {q a : Nat → Nat} {cI : ClassId} {N : Nat → Nat} {S : Nat → Nat → Nat} {tr : Nat → Nat} {A : Nat → Prop} {av : List Value} : FrameBlind (va_Pc av (fun U => zBt D q a cI N S tr A U)) := fun a U g mk hq => ⟨hq.1, ⟨hq.2.1.1, va_K.moved (u := U) (U := U.calling g mk a) (Vm.Alike.refl U.vm) hq.2.1.2.1, hq.2.1.2.2.1, gZ.call hq.2.1.2.2.2⟩, hq.2.2⟩
/-- the law's rows, one written -/
theorem ls_b {a : Nat → Nat} {cI : ClassId} {N : Nat → Nat} {S : Nat → Nat → Nat} {i v : Nat} : (lrw a cI N S).set 1 (a 1, .inl (cI, 45, .inl (gr (gu (S 1) i v)))) = lrw a cI N (gs S 1 (gu (S 1) i v)) := rfl
theorem ls_l {a : Nat → Nat} {cI : ClassId} {N : Nat → Nat} {S : Nat → Nat → Nat} {i v : Nat} : (lrw a cI N S).set 3 (a 3, .inl (cI, 12, .inl (gr (gu (S 6) i v)))) = lrw a cI N (gs S 6 (gu (S 6) i v)) := rfl
theorem ls_k {a : Nat → Nat} {cI : ClassId} {N : Nat → Nat} {S : Nat → Nat → Nat} {i v : Nat} : (lrw a cI N S).set 4 (a 4, .inl (cI, 30, .inl (gr (gu (S 8) i v)))) = lrw a cI N (gs S 8 (gu (S 8) i v)) := rfl
theorem ls_c0 {a : Nat → Nat} {cI : ClassId} {N : Nat → Nat} {S : Nat → Nat → Nat} {v : Nat} : (lrw a cI N S).set 0 (a 0, .inl (cI, 11, .inl (gr (gu (fC N S) 0 v)))) = lrw a cI (gu N 0 v) S := by
  rw [fC_u0]; rfl
theorem ls_c1 {a : Nat → Nat} {cI : ClassId} {N : Nat → Nat} {S : Nat → Nat → Nat} {v : Nat} : (lrw a cI N S).set 0 (a 0, .inl (cI, 11, .inl (gr (gu (fC N S) 1 v)))) = lrw a cI (gu N 5 v) S := by
  rw [fC_u1]; rfl
theorem ls_c7 {a : Nat → Nat} {cI : ClassId} {N : Nat → Nat} {S : Nat → Nat → Nat} {x v : Nat} (h : x < 2) : (lrw a cI N S).set 0 (a 0, .inl (cI, 11, .inl (gr (gu (fC N S) (2 + x) v)))) = lrw a cI N (gs S 7 (gu (S 7) x v)) := by
  rw [fC_u7 h]; rfl
theorem ls_c9 {a : Nat → Nat} {cI : ClassId} {N : Nat → Nat} {S : Nat → Nat → Nat} {x v : Nat} (h : x < 2) : (lrw a cI N S).set 0 (a 0, .inl (cI, 11, .inl (gr (gu (fC N S) (4 + x) v)))) = lrw a cI N (gs S 9 (gu (S 9) x v)) := by
  rw [fC_u9 h]; rfl
theorem ls_c10 {a : Nat → Nat} {cI : ClassId} {N : Nat → Nat} {S : Nat → Nat → Nat} {x v : Nat} (h : x < 2) : (lrw a cI N S).set 0 (a 0, .inl (cI, 11, .inl (gr (gu (fC N S) (6 + x) v)))) = lrw a cI N (gs S 10 (gu (S 10) x v)) := by
  rw [fC_u10 h]; rfl
theorem ls_c4 {a : Nat → Nat} {cI : ClassId} {N : Nat → Nat} {S : Nat → Nat → Nat} {x v : Nat} : (lrw a cI N S).set 0 (a 0, .inl (cI, 11, .inl (gr (gu (fC N S) (8 + x) v)))) = lrw a cI N (gs S 4 (gu (S 4) x v)) := by
  rw [fC_u4]; rfl
theorem ls_r2 {a : Nat → Nat} {cI : ClassId} {N : Nat → Nat} {S : Nat → Nat → Nat} {p b v : Nat} (h : p * 3 + b < 9) : (lrw a cI N S).set 2 (a 2, .inl (cI, 18, .inl (gr (gu (fR S) (3 * p + b) v)))) = lrw a cI N (gs S 2 (gu (S 2) (p * 3 + b) v)) := by
  rw [fR_u2 h]; rfl
theorem ls_r3 {a : Nat → Nat} {cI : ClassId} {N : Nat → Nat} {S : Nat → Nat → Nat} {p b v : Nat} : (lrw a cI N S).set 2 (a 2, .inl (cI, 18, .inl (gr (gu (fR S) (9 + 3 * p + b) v)))) = lrw a cI N (gs S 3 (gu (S 3) (p * 3 + b) v)) := by
  rw [fR_u3]; rfl
theorem ls_p12 {a : Nat → Nat} {cI : ClassId} {N : Nat → Nat} {S : Nat → Nat → Nat} {x v : Nat} (h : x < 6) : (lrw a cI N S).set 5 (a 5, .inl (cI, 21, .inl (gr (gu (fP S) x v)))) = lrw a cI N (gs S 12 (gu (S 12) x v)) := by
  rw [fP_u12 h]; rfl
theorem ls_p13 {a : Nat → Nat} {cI : ClassId} {N : Nat → Nat} {S : Nat → Nat → Nat} {x v : Nat} (h : x < 6) : (lrw a cI N S).set 5 (a 5, .inl (cI, 21, .inl (gr (gu (fP S) (6 + x) v)))) = lrw a cI N (gs S 13 (gu (S 13) x v)) := by
  rw [fP_u13 h]; rfl
theorem ls_p14 {a : Nat → Nat} {cI : ClassId} {N : Nat → Nat} {S : Nat → Nat → Nat} {x v : Nat} : (lrw a cI N S).set 5 (a 5, .inl (cI, 21, .inl (gr (gu (fP S) (12 + x) v)))) = lrw a cI N (gs S 14 (gu (S 14) x v)) := by
  rw [fP_u14]; rfl
/-- a call of the law's that writes both worlds -/
def gQz (D : va_G) (q a : Nat → Nat) (cI : ClassId) (post : Int32 → (Nat → Nat) → (Nat → Nat → Nat) → Prop) (A : Nat → Prop) : Array Value → State → Outcome → State → Prop := fun _ st oc t =>
  ∃ (r : Int32) (N' : Nat → Nat) (S' : Nat → Nat → Nat) (tr' : Nat → Nat), oc = .returned (some (.int r)) ∧ post r N' S' ∧ va_P D vwCl (zw q a cI N' S' tr' N' S') t.heap ∧ va_F A st t
/-- a call that makes cells and changes none that was there -/
def gQn (post : Int32 → Prop) : Array Value → State → Outcome → State → Prop := fun _ st oc t => ∃ r : Int32, oc = .returned (some (.int r)) ∧ post r ∧ va_F (fun _ => False) st t
section LR
variable {p : Program} {l : Launch} {e : Env} {R : Room} {s : State} {m : MethodId} {args : Array Value} {below : List Frame} {meth : Method} {c : Code} {H : Heap} {locs : List Loc} {cells slots : Nat} {Q : State → Prop}
variable {y : MethodName} {bytes cc : ByteArray} {maxL nL mc ms n index pc : Nat} {ret : Option FieldType} {ws ws' Ts : List Cond} {rm : Room} {hh : List (Nat × Nat × Nat × Nat)} {own : String} {As rest st0 : List Value} {ls : Array Slot}
variable {D : va_G} {q a : Nat → Nat} {cI : ClassId} {N N2 N3 : Nat → Nat} {S S2 S3 : Nat → Nat → Nat} {tr : Nat → Nat} {A : Nat → Prop}
theorem zAt.r (h : zAt D q a cI N S tr N2 S2 A s H) : lrAt D a cI N2 S2 s H := ⟨gp_l h.1, h.2.1⟩
theorem zAt.x (h : zAt D q a cI N S tr N2 S2 A s H) : xAt D q cI N S tr A s H := ⟨gp_r h.1, h.2.1, gd_r h.2.2.1, h.2.2.2⟩
theorem zAt.x9 (h : zAt D q a cI N S tr N2 S2 A s H) (hA : ∀ z : Nat, s.heap.size ≤ z → A z) (hS : s.heap.size ≤ H.size) : xAt D q cI N S tr (va_A (xw q cI N S tr) H.size) s H := ⟨gp_r h.1, h.2.1, (gd_r h.2.2.1).self, h.2.2.2.narrow (fun z hz => by
  rcases hz with ⟨k, e, hk⟩ | h1
  · exact (gd_r h.2.2.1).2 k _ hk
  · exact hA z (Nat.le_trans hS h1))⟩
theorem zAt.ax (h : zAt D q a cI N S tr N2 S2 A s H) (hA : ∀ z : Nat, s.heap.size ≤ z → A z) (hS : s.heap.size ≤ H.size) {z : Nat} (hz : va_A (xw q cI N S tr) H.size z) : A z := by
  rcases hz with ⟨k, e, hk⟩ | h1
  · exact (gd_r h.2.2.1).2 k _ hk
  · exact hA z (Nat.le_trans hS h1)
/-- what a call of the class leaves of the world -/
theorem zAt.newx {N' : Nat → Nat} {S' : Nat → Nat → Nat} {tr' : Nat → Nat} {H1 : Heap} {L : List Loc} (h : zAt D q a cI N S tr N2 S2 A s H) (hA : ∀ z : Nat, s.heap.size ≤ z → A z) (hS : va_S A s.heap H locs) (hP : va_P D vwCl (xw q cI N' S' tr') H1) (hz : H.size ≤ H1.size)
    (hk : ∀ z : Nat, z < H.size → ¬ va_A (xw q cI N S tr) H.size z → H1[z]? = H[z]?) (hL : ∀ z ∈ L, va_A (xw q cI N S tr) H.size z.base) : zAt D q a cI N' S' tr' N2 S2 A s H1 ∧ va_S A s.heap H1 (locs ++ L) := by
  have hPr : va_P D vwCl (lrw a cI N2 S2) H := gp_l h.1
  refine ⟨⟨va_P.app (hPr.kept (fun k x hx => hk _ (hPr k x hx).lt ?_)) hP, h.2.1, va_D_fst (zw_fst _ _ _ _ _ _ _ _ _ _ _ _ _) h.2.2.1, h.2.2.2.kept (fun z h1 h2 => hk z h1 (fun hz => h2 (h.ax hA hS.1 hz)))⟩, Nat.le_trans hS.1 hz, fun z h1 h2 => ?_, fun z hz2 => ?_⟩
  · rintro (⟨k', e, hk'⟩ | h1)
    · exact gd_x h.2.2.1 hx hk' rfl
    · exact absurd (hPr k x hx).lt (Nat.not_lt.mpr h1)
  · rw [hk z (Nat.lt_of_lt_of_le h1 hS.1) (fun hz => h2 (h.ax hA hS.1 hz))]
    exact hS.2.1 z h1 h2
  · rcases List.mem_append.mp hz2 with h1 | h1
    · exact hS.2.2 z h1
    · exact h.ax hA hS.1 (hL z h1)
/-- cells that are made and no more -/
theorem zAt.grow {H1 : Heap} (h : zAt D q a cI N S tr N2 S2 A s H) (hk : ∀ z : Nat, z < H.size → H1[z]? = H[z]?) : zAt D q a cI N S tr N2 S2 A s H1 := ⟨h.1.kept (fun k x hx => hk _ (h.1 k x hx).lt), h.2.1, h.2.2.1, h.2.2.2.kept (fun z h1 _ => hk z h1)⟩
theorem gl_ald {k len i b : Nat} {F : Nat → Nat} (G : gF p s m args meth c cc ret nL own ws) (hR : lrAt D a cI N S s H) (hkp : (lrw a cI N S)[k]? = some (b, .inl (cI, len, .inl (gr F)))) (hi : i < len) (hlen : len < 2 ^ 31) (hdg : decode cc pc = .ok (.iaload, 1))
    (kk : W p l e R s m args below meth c H locs cells slots Q (F0 m (pc + 1) ls (.int (nI (F i)) :: rest))) : W p l e R s m args below meth c H locs cells slots Q (F0 m pc ls (.int (nI i) :: .ref b :: rest)) := by
  refine va_iald (D := D) G.1 G.2.1 hR.2 hR.1 k 0 (f := gr F) hkp rfl (vp_in_nI hi hlen) hdg ?_
  rw [nI_clamp (by omega)]
  exact kk
theorem gl_ald1 {len i b : Nat} {F : Nat → Nat} (G : gF p s m args meth c cc ret nL own ws) (hR : rAt D b cI len F s H) (hi : i < len) (hlen : len < 2 ^ 31) (hdg : decode cc pc = .ok (.iaload, 1))
    (kk : W p l e R s m args below meth c H locs cells slots Q (F0 m (pc + 1) ls (.int (nI (F i)) :: rest))) : W p l e R s m args below meth c H locs cells slots Q (F0 m pc ls (.int (nI i) :: .ref b :: rest)) := by
  refine va_iald (D := D) G.1 G.2.1 hR.2 hR.1 0 0 (f := gr F) rfl rfl (vp_in_nI hi hlen) hdg ?_
  rw [nI_clamp (by omega)]
  exact kk
theorem gz_ast {k len i b v : Nat} {F : Nat → Nat} (G : gF p s m args meth c cc ret nL own ws) (hZ0 : gZ A s s.heap) (hZ : zAt D q a cI N S tr N2 S2 A s H) (hS : va_S A s.heap H locs) (hkp : (lrw a cI N2 S2)[k]? = some (b, .inl (cI, len, .inl (gr F)))) (hnew : (lrw a cI N2 S2).set k (b, .inl (cI, len, .inl (gr (gu F i v)))) = lrw a cI N3 S3) (hi : i < len) (hlen : len < 2 ^ 31) (hdg : decode cc pc = .ok (.iastore, 1))
    (kk : ∀ (H1 : Heap) (locs1 : List Loc), zAt D q a cI N S tr N3 S3 A s H1 → va_S A s.heap H1 locs1 → W p l e R s m args below meth c H1 locs1 cells slots Q (F0 m (pc + 1) ls rest)) : W p l e R s m args below meth c H locs cells slots Q (F0 m pc ls (.int (nI v) :: .int (nI i) :: .ref b :: rest)) := by
  refine va_iast (D := D) (A := A) (H0 := s.heap) G.1 G.2.1 hZ.2.1 hZ.1 hZ.2.2.1 hS k 0 (f := gr F) (gl9 hkp) rfl (vp_in_nI hi hlen) hdg (fun H1 locs1 hP hD hS1 => ?_)
  have e : (zw q a cI N S tr N2 S2).set k (b, .inl (cI, len, .inl (gr (gu F i v)))) = zw q a cI N S tr N3 S3 := by
    unfold zw
    rw [List.set_append_left _ _ (List.getElem?_eq_some_iff.mp hkp).1, hnew]
  rw [nI_clamp (by omega), gr_upd, e] at hP hD
  exact kk H1 locs1 ⟨hP, hZ.2.1, hD, hZ0.kept (fun z h1 h2 => hS1.2.1 z h1 h2)⟩ hS1
/-- the law calls one of its own methods, which calls the class -/
theorem gz_wrap {post : Int32 → (Nat → Nat) → (Nat → Nat → Nat) → Prop} (G : CallFix p m c cc nL s args Ts own)
    (hM : Met l y ws rm (va_Pc As (fun U => xAt D q cI N S tr (va_A (xw q cI N S tr) H.size) U U.heap)) (gQx D q cI post (va_A (xw q cI N S tr) H.size)) 1 6 (va_A (xw q cI N S tr) H.size)) (cw : vx_CSW R s args own index y bytes maxL ret hh ws rm 1 6 n)
    (hZ : zAt D q a cI N S tr N2 S2 A s H) (hA : ∀ z : Nat, s.heap.size ≤ z → A z) (hS : va_S A s.heap H locs) (hn : As.length = n) (hsz : ls.size = nL) (hst : st0 = As.reverse ++ rest) (hW : (rest.map fun v => v.category).sum ≤ 8) (hdg : decode cc pc = .ok (.invokestatic index, 3)) (hc : cells + 1 ≤ R.cells) (hs : slots + 6 ≤ R.slots)
    (kk : ∀ (r : Int32) (N' : Nat → Nat) (S' : Nat → Nat → Nat) (tr' : Nat → Nat) (H1 : Heap) (locs1 : List Loc), post r N' S' → zAt D q a cI N' S' tr' N2 S2 A s H1 → va_S A s.heap H1 locs1 → W p l e R s m args below meth c H1 locs1 (cells + 1) (slots + 6) Q (F0 m (pc + 3) ls (.int r :: rest))) : W p l e R s m args below meth c H locs cells slots Q (F0 m pc ls st0) := by
  intro T hT X
  have hx := hZ.x9 hA hS.1
  obtain ⟨v9, st₀, t, T', L, h0, X', hL, e1, e2, ⟨r, N9, S9, tr9, hv, hp, hP, hz, hk⟩, st⟩ := vx_runSW (As := As) (rest := rest) (g := F0 m pc ls st0) G hM cw ⟨xAt_blind, fun U hU hW => ⟨rfl, by show xAt _ _ _ _ _ _ _ U U.heap; rw [hU]; exact hx.moved hW⟩⟩ rfl hn hsz hst (lv_room hW) hdg ⟨hc, hs⟩ T hT X
  cases hv
  rw [h0] at hz hk
  obtain ⟨hX1, hS1⟩ := hZ.newx hA hS hP hz hk hL
  obtain ⟨t2, a1, b1⟩ := kk r N9 S9 tr9 t.heap _ hp hX1 hS1 T' e1 X'
  exact ⟨t2, st t2 a1, b1⟩
/-- the law calls one of its own that reads its rows and makes cells -/
theorem gz_grow {post : Int32 → Prop} (G : CallFix p m c cc nL s args Ts own) (hM : Met l y ws rm (va_Pc As (fun U => lrAt D a cI N2 S2 U U.heap)) (gQn post) mc ms (fun _ => False)) (cw : CallB R s args own index y bytes maxL ret ws rm mc ms n ∧ (Cond.static y).before args s = true)
    (hZ : zAt D q a cI N S tr N2 S2 A s H) (hS : va_S A s.heap H locs) (hn : As.length = n) (hsz : ls.size = nL) (hst : st0 = As.reverse ++ rest) (hW : (rest.map fun v => v.category).sum ≤ 8) (hdg : decode cc pc = .ok (.invokestatic index, 3)) (hc : cells + mc ≤ R.cells) (hs : slots + ms ≤ R.slots)
    (kk : ∀ (r : Int32) (H1 : Heap) (locs1 : List Loc), post r → zAt D q a cI N S tr N2 S2 A s H1 → va_S A s.heap H1 locs1 → W p l e R s m args below meth c H1 locs1 (cells + mc) (slots + ms) Q (F0 m (pc + 3) ls (.int r :: rest))) : W p l e R s m args below meth c H locs cells slots Q (F0 m pc ls st0) := by
  intro T hT X
  have hR := hZ.r
  obtain ⟨v9, st₀, t, T', L, h0, X', hL, e1, ⟨r, hv, hp, hz, hk⟩, st⟩ := W.runS (As := As) (rest := rest) (g := F0 m pc ls st0) G hM cw ⟨lrAt_blind, fun U hU hW => ⟨rfl, by show lrAt _ _ _ _ _ U U.heap; rw [hU]; exact hR.moved hW⟩⟩ rfl hn hsz hst (lv_room hW) hdg ⟨hc, hs⟩ T hT X
  cases hv
  rw [h0] at hz hk
  have hk2 : ∀ z : Nat, z < H.size → t.heap[z]? = H[z]? := fun z h => hk z h (fun f => f)
  have hS1 : va_S A s.heap t.heap (locs ++ L) := ⟨Nat.le_trans hS.1 hz, fun z h1 h2 => by rw [hk2 z (Nat.lt_of_lt_of_le h1 hS.1)]; exact hS.2.1 z h1 h2, fun z hz2 => by
    rcases List.mem_append.mp hz2 with h | h
    · exact hS.2.2 z h
    · exact (hL z h).elim⟩
  obtain ⟨t2, a1, b1⟩ := kk r t.heap _ hp (hZ.grow hk2) hS1 T' e1 X'
  exact ⟨t2, st t2 a1, b1⟩
/-- the law calls one of its own that writes both worlds -/
theorem gz_mut {post : Int32 → (Nat → Nat) → (Nat → Nat → Nat) → Prop} (G : CallFix p m c cc nL s args Ts own) (hM : Met l y ws rm (va_Pc As (fun U => zBt D q a cI N S tr A U)) (gQz D q a cI post A) mc ms A) (cw : CallB R s args own index y bytes maxL ret ws rm mc ms n ∧ (Cond.static y).before args s = true)
    (hZ : zAt D q a cI N S tr N S A s H) (hA : ∀ z : Nat, s.heap.size ≤ z → A z) (hS : va_S A s.heap H locs) (hn : As.length = n) (hsz : ls.size = nL) (hst : st0 = As.reverse ++ rest) (hW : (rest.map fun v => v.category).sum ≤ 8) (hdg : decode cc pc = .ok (.invokestatic index, 3)) (hc : cells + mc ≤ R.cells) (hs : slots + ms ≤ R.slots)
    (kk : ∀ (r : Int32) (N' : Nat → Nat) (S' : Nat → Nat → Nat) (tr' : Nat → Nat) (H1 : Heap) (locs1 : List Loc), post r N' S' → zAt D q a cI N' S' tr' N' S' A s H1 → va_S A s.heap H1 locs1 → W p l e R s m args below meth c H1 locs1 (cells + mc) (slots + ms) Q (F0 m (pc + 3) ls (.int r :: rest))) : W p l e R s m args below meth c H locs cells slots Q (F0 m pc ls st0) := by
  intro T hT X
  obtain ⟨v9, st₀, t, T', L, h0, X', hL, e1, ⟨r, N9, S9, tr9, hv, hp, hP, hz, hk⟩, st⟩ := W.runS (As := As) (rest := rest) (g := F0 m pc ls st0) G hM cw ⟨zBt_blind, fun U hU hW => ⟨rfl, by show zAt _ _ _ _ _ _ _ _ _ _ U U.heap; rw [hU]; exact hZ.moved hW, fun z hz => hA z (Nat.le_trans hS.1 (by rw [← hU]; exact hz))⟩⟩ rfl hn hsz hst (lv_room hW) hdg ⟨hc, hs⟩ T hT X
  cases hv
  rw [h0] at hz hk
  have hS1 : va_S A s.heap t.heap (locs ++ L) := ⟨Nat.le_trans hS.1 hz, fun z h1 h2 => by rw [hk z (Nat.lt_of_lt_of_le h1 hS.1) h2]; exact hS.2.1 z h1 h2, fun z hz2 => by
    rcases List.mem_append.mp hz2 with h | h
    · exact hS.2.2 z h
    · exact hL z h⟩
  obtain ⟨t2, a1, b1⟩ := kk r N9 S9 tr9 t.heap _ hp ⟨hP, hZ.2.1, va_D_fst (zw_fst _ _ _ _ _ _ _ _ _ _ _ _ _) hZ.2.2.1, hZ.2.2.2.kept (fun z h1 h2 => hk z h1 h2)⟩ hS1 T' e1 X'
  exact ⟨t2, st t2 a1, b1⟩
end LR
