/-! THE LAW's OWN SMALL METHODS: each makes one call of the class, and answers what it answers, or the exception's number -/
def sj_profile (N : Nat → Nat) (S : Nat → Nat → Nat) : Nat := gk (sA_profile N S) (sB_profile N S) (sC_profile N S)
def sj_bend (N : Nat → Nat) (S : Nat → Nat → Nat) (i1 i2 i3 i4 : Int32) : Nat := gk (sA_bend N S i1 i2 i3 i4) (sB_bend N S i1 i2 i3 i4) (sC_bend N S i1 i2 i3 i4)
def sj_reach (N : Nat → Nat) (S : Nat → Nat → Nat) (i1 i2 i3 i4 : Int32) : Nat := gk (sA_reach N S i1 i2 i3 i4) (sB_reach N S i1 i2 i3 i4) (sC_reach N S i1 i2 i3 i4)
def sj_way (N : Nat → Nat) (S : Nat → Nat → Nat) (i1 i2 : Int32) : Nat := gk (sA_way N S i1 i2) (sB_way N S i1 i2) (sC_way N S i1 i2)
def sj_curve (N : Nat → Nat) (S : Nat → Nat → Nat) (i1 i2 i3 : Int32) : Nat := gk (sA_curve N S i1 i2 i3) (sB_curve N S i1 i2 i3) (sC_curve N S i1 i2 i3)
def sj_taken (N : Nat → Nat) (S : Nat → Nat → Nat) (i1 i2 i3 : Int32) : Nat := gk (sA_taken N S i1 i2 i3) (sB_taken N S i1 i2 i3) (sC_taken N S i1 i2 i3)
def sj_chain (N : Nat → Nat) (S : Nat → Nat → Nat) : Nat := gk (sA_chain N S) (sB_chain N S) (sC_chain N S)
def sj_add (N : Nat → Nat) (S : Nat → Nat → Nat) (i1 i2 : Int32) : Nat := gk (sA_add N S i1 i2) (sB_add N S i1 i2) (sC_add N S i1 i2)
def sj_drop (N : Nat → Nat) (S : Nat → Nat → Nat) (i1 : Int32) : Nat := gk (sA_drop N S i1) (sB_drop N S i1) (sC_drop N S i1)
def sj_through (N : Nat → Nat) (S : Nat → Nat → Nat) (i1 i2 i3 : Int32) : Nat := gk (sA_through N S i1 i2 i3) (sB_through N S i1 i2 i3) (sC_through N S i1 i2 i3)
def sj_gap (N : Nat → Nat) (S : Nat → Nat → Nat) (i1 : Int32) : Nat := gk (sA_gap N S i1) (sB_gap N S i1) (sC_gap N S i1)
def sj_greyGap (N : Nat → Nat) (S : Nat → Nat → Nat) (i1 : Int32) : Nat := gk (sA_greyGap N S i1) (sB_greyGap N S i1) (sC_greyGap N S i1)
def sj_join (N : Nat → Nat) (S : Nat → Nat → Nat) (i1 i2 : Int32) : Nat := gk (sA_join N S i1 i2) (sB_join N S i1 i2) (sC_join N S i1 i2)
def sj_joined (N : Nat → Nat) (S : Nat → Nat → Nat) (i1 i2 i3 : Int32) : Nat := gk (sA_joined N S i1 i2 i3) (sB_joined N S i1 i2 i3) (sC_joined N S i1 i2 i3)
def sj_sign (N : Nat → Nat) (S : Nat → Nat → Nat) (i1 : Int32) : Nat := gk (sA_sign N S i1) (sB_sign N S i1) (sC_sign N S i1)
def sj_paint (N : Nat → Nat) (S : Nat → Nat → Nat) (i1 i2 i3 : Int32) : Nat := gk (sA_paint N S i1 i2 i3) (sB_paint N S i1 i2 i3) (sC_paint N S i1 i2 i3)
def sj_spot (N : Nat → Nat) (S : Nat → Nat → Nat) (i1 i2 i3 : Int32) : Nat := gk (sA_spot N S i1 i2 i3) (sB_spot N S i1 i2 i3) (sC_spot N S i1 i2 i3)
def sj_mix (N : Nat → Nat) (S : Nat → Nat → Nat) (i1 i2 i3 : Int32) : Nat := gk (sA_mix N S i1 i2 i3) (sB_mix N S i1 i2 i3) (sC_mix N S i1 i2 i3)
def sj_shown (N : Nat → Nat) (S : Nat → Nat → Nat) (i1 i2 i3 i4 : Int32) : Nat := gk (sA_shown N S i1 i2 i3 i4) (sB_shown N S i1 i2 i3 i4) (sC_shown N S i1 i2 i3 i4)
set_option maxRecDepth 100000 in
set_option maxHeartbeats 800000 in
/-- the law calls bend -/
theorem mL_bends (l : Launch) (hst : l.stackTraces = false) (D : va_G) (q : Nat → Nat) (cI : ClassId) (N : Nat → Nat) (S : Nat → Nat → Nat) (tr : Nat → Nat) (A : Nat → Prop) (hok : sp_ok N S) (hinv : sp_inv N S) (i1 i2 i3 i4 : Int32) : Met l yL_bends wsL_bends { frames := 8, cells := 1, slots := 6, locals := 127 } (va_Pc [.ref (q 0), .int i1, .int i2, .int i3, .int i4] (fun U => xAt D q cI N S tr A U U.heap)) (gQx D q cI (fun r N2 S2 => r = gRes (sj_bend N S i1 i2 i3 i4) (sR_bend N S i1 i2 i3 i4) ∧ N2 = (if sj_bend N S i1 i2 i3 i4 = 0 then sN_bend N S i1 i2 i3 i4 else N) ∧ S2 = (if sj_bend N S i1 i2 i3 i4 = 0 then sS_bend N S i1 i2 i3 i4 else S)) A) 1 6 A := by
  refine gc_metW [.ref (q 0), .int i1, .int i2, .int i3, .int i4] (by decide) rfl (Nat.le_of_ble_eq_true rfl) rfl ?_
  intro p e s m below meth c ls G hT hl hx
  obtain ⟨z1, z2, z3, z4, z5, z6, z7⟩ := hx.2.2.2
  refine lv_aload_n G.1 G.2.1 dL_bends_0 rfl (lv_at hl 0 rfl) ?_
  refine lv_iload_n G.1 G.2.1 dL_bends_1 rfl (lv_at hl 1 rfl) ?_
  refine lv_iload_n G.1 G.2.1 dL_bends_2 rfl (lv_at hl 2 rfl) ?_
  refine lv_iload_n G.1 G.2.1 dL_bends_3 rfl (lv_at hl 3 rfl) ?_
  refine lv_iload G.1 G.2.1 dL_bends_4 (lv_at hl 4 rfl) ?_
  refine gl_call (rest := []) (vx_runV (As := [.int i1, .int i2, .int i3, .int i4]) (rest := []) G.fix (mX0_bend l hst D q cI N S tr A hok hinv i1 i2 i3 i4) (cwV 4 G.2.2.2.2.2.1 gL_bends_X0_bend rfl rfl rfl (by decide +kernel) ⟨Nat.le_of_ble_eq_true rfl, Nat.le_of_ble_eq_true rfl⟩) ⟨xAt_blind, va_recv hx.2.1 hx.1 (ci := 0) (q0 := 0) rfl rfl, fun U hU hW => ⟨rfl, by show xAt _ _ _ _ _ _ _ U U.heap; rw [hU]; exact hx.moved hW⟩⟩ rfl rfl hl.1 rfl (lv_room (Nat.le_of_ble_eq_true rfl)) dL_bends_6 ⟨Nat.le_of_ble_eq_true rfl, Nat.le_of_ble_eq_true rfl⟩) (fun E ce q9 tr2 H1 L hE hP hz hk hL hce hcv hcl => ?_) (fun r N2 S2 tr2 H1 L hp hP hz hk hL => ?_)
  · have hS2 : va_S A s.heap H1 ([] ++ L) := ⟨hz, hk, hL⟩
    rcases hE with ⟨rfl, h1⟩ | ⟨rfl, h1, h2⟩ | ⟨rfl, h1, h2, h3⟩
    · have hk9 : sj_bend N S i1 i2 i3 i4 = 1 := gk_f h1
      refine vx_catch (own := RL) (name := gIO) G.2.2.2.2.1 [] ⟨0, 9, 10, 37⟩ [⟨0, 9, 15, 39⟩, ⟨0, 9, 20, 41⟩] (hT.trans rfl) (fun _ h => nomatch h) (by decide) (by decide) (G.2.2.2.2.2.1 (.classLink RL 37 gIO) (by decide +kernel)) (va_Nw.use rfl (z3 (.castable gIO gIO) (by decide +kernel))) hce hcv hcl ?_
      refine lv_astore (lv' := [(5, .ref q9), (0, .ref (q 0)), (1, .int i1), (2, .int i2), (3, .int i3), (4, .int i4)]) G.1 G.2.1 dL_bends_10 hl (by decide) rfl (fun ls hl => ?_)
      refine lv_bipush (v := -101) G.1 G.2.1 dL_bends_12 (by decide) ?_
      exact W.iret G.1 G.2.1 G.2.2.1 (fun t ht hW => ⟨-101, N, S, tr2, rfl, ⟨by rw [hk9]; rfl, by rw [hk9]; rfl, by rw [hk9]; rfl⟩, by rw [ht]; exact hP, hS2.F ht⟩) hS2.2.2 dL_bends_14 G.2.2.2.2.2.2
    · have hk9 : sj_bend N S i1 i2 i3 i4 = 2 := gk_tf h1 h2
      refine vx_catch (own := RL) (name := gIA) G.2.2.2.2.1 [⟨0, 9, 10, 37⟩] ⟨0, 9, 15, 39⟩ [⟨0, 9, 20, 41⟩] (hT.trans rfl) (List.forall_mem_cons.mpr ⟨Or.inr ⟨by decide, gIO, G.2.2.2.2.2.1 (.classLink RL 37 gIO) (by decide +kernel), z5⟩, fun _ h => nomatch h⟩) (by decide) (by decide) (G.2.2.2.2.2.1 (.classLink RL 39 gIA) (by decide +kernel)) (va_Nw.use rfl (z3 (.castable gIA gIA) (by decide +kernel))) hce hcv hcl ?_
      refine lv_astore (lv' := [(5, .ref q9), (0, .ref (q 0)), (1, .int i1), (2, .int i2), (3, .int i3), (4, .int i4)]) G.1 G.2.1 dL_bends_15 hl (by decide) rfl (fun ls hl => ?_)
      refine lv_bipush (v := -102) G.1 G.2.1 dL_bends_17 (by decide) ?_
      exact W.iret G.1 G.2.1 G.2.2.1 (fun t ht hW => ⟨-102, N, S, tr2, rfl, ⟨by rw [hk9]; rfl, by rw [hk9]; rfl, by rw [hk9]; rfl⟩, by rw [ht]; exact hP, hS2.F ht⟩) hS2.2.2 dL_bends_19 G.2.2.2.2.2.2
    · have hk9 : sj_bend N S i1 i2 i3 i4 = 3 := gk_ttf h1 h2 h3
      refine vx_catch (own := RL) (name := gIS) G.2.2.2.2.1 [⟨0, 9, 10, 37⟩, ⟨0, 9, 15, 39⟩] ⟨0, 9, 20, 41⟩ [] (hT.trans rfl) (List.forall_mem_cons.mpr ⟨Or.inr ⟨by decide, gIO, G.2.2.2.2.2.1 (.classLink RL 37 gIO) (by decide +kernel), z6⟩, List.forall_mem_cons.mpr ⟨Or.inr ⟨by decide, gIA, G.2.2.2.2.2.1 (.classLink RL 39 gIA) (by decide +kernel), z7⟩, fun _ h => nomatch h⟩⟩) (by decide) (by decide) (G.2.2.2.2.2.1 (.classLink RL 41 gIS) (by decide +kernel)) (va_Nw.use rfl (z3 (.castable gIS gIS) (by decide +kernel))) hce hcv hcl ?_
      refine lv_astore (lv' := [(5, .ref q9), (0, .ref (q 0)), (1, .int i1), (2, .int i2), (3, .int i3), (4, .int i4)]) G.1 G.2.1 dL_bends_20 hl (by decide) rfl (fun ls hl => ?_)
      refine lv_bipush (v := -103) G.1 G.2.1 dL_bends_22 (by decide) ?_
      exact W.iret G.1 G.2.1 G.2.2.1 (fun t ht hW => ⟨-103, N, S, tr2, rfl, ⟨by rw [hk9]; rfl, by rw [hk9]; rfl, by rw [hk9]; rfl⟩, by rw [ht]; exact hP, hS2.F ht⟩) hS2.2.2 dL_bends_24 G.2.2.2.2.2.2
  · obtain ⟨hA, hB, hC, rfl, e2, e3⟩ := hp
    rw [e2, e3] at hP
    have hS2 : va_S A s.heap H1 ([] ++ L) := ⟨hz, hk, hL⟩
    have hk9 : sj_bend N S i1 i2 i3 i4 = 0 := gk_ttt hA hB hC
    exact W.iret G.1 G.2.1 G.2.2.1 (fun t ht hW => ⟨nI (sR_bend N S i1 i2 i3 i4), _, _, tr2, rfl, ⟨by rw [hk9]; rfl, by rw [if_pos hk9], by rw [if_pos hk9]⟩, by rw [ht]; exact hP, hS2.F ht⟩) hS2.2.2 dL_bends_9 G.2.2.2.2.2.2
set_option maxRecDepth 100000 in
set_option maxHeartbeats 800000 in
/-- the law calls reach -/
theorem mL_reaches (l : Launch) (hst : l.stackTraces = false) (D : va_G) (q : Nat → Nat) (cI : ClassId) (N : Nat → Nat) (S : Nat → Nat → Nat) (tr : Nat → Nat) (A : Nat → Prop) (hok : sp_ok N S) (hinv : sp_inv N S) (i1 i2 i3 i4 : Int32) : Met l yL_reaches wsL_reaches { frames := 8, cells := 1, slots := 6, locals := 130 } (va_Pc [.ref (q 0), .int i1, .int i2, .int i3, .int i4] (fun U => xAt D q cI N S tr A U U.heap)) (gQx D q cI (fun r N2 S2 => r = gRes (sj_reach N S i1 i2 i3 i4) (sR_reach N S i1 i2 i3 i4) ∧ N2 = (if sj_reach N S i1 i2 i3 i4 = 0 then sN_reach N S i1 i2 i3 i4 else N) ∧ S2 = (if sj_reach N S i1 i2 i3 i4 = 0 then sS_reach N S i1 i2 i3 i4 else S)) A) 1 6 A := by
  refine gc_metW [.ref (q 0), .int i1, .int i2, .int i3, .int i4] (by decide) rfl (Nat.le_of_ble_eq_true rfl) rfl ?_
  intro p e s m below meth c ls G hT hl hx
  obtain ⟨z1, z2, z3, z4, z5, z6, z7⟩ := hx.2.2.2
  refine lv_aload_n G.1 G.2.1 dL_reaches_0 rfl (lv_at hl 0 rfl) ?_
  refine lv_iload_n G.1 G.2.1 dL_reaches_1 rfl (lv_at hl 1 rfl) ?_
  refine lv_iload_n G.1 G.2.1 dL_reaches_2 rfl (lv_at hl 2 rfl) ?_
  refine lv_iload_n G.1 G.2.1 dL_reaches_3 rfl (lv_at hl 3 rfl) ?_
  refine lv_iload G.1 G.2.1 dL_reaches_4 (lv_at hl 4 rfl) ?_
  refine gl_call (rest := []) (vx_runV (As := [.int i1, .int i2, .int i3, .int i4]) (rest := []) G.fix (mX0_reach l hst D q cI N S tr A hok hinv i1 i2 i3 i4) (cwV 4 G.2.2.2.2.2.1 gL_reaches_X0_reach rfl rfl rfl (by decide +kernel) ⟨Nat.le_of_ble_eq_true rfl, Nat.le_of_ble_eq_true rfl⟩) ⟨xAt_blind, va_recv hx.2.1 hx.1 (ci := 0) (q0 := 0) rfl rfl, fun U hU hW => ⟨rfl, by show xAt _ _ _ _ _ _ _ U U.heap; rw [hU]; exact hx.moved hW⟩⟩ rfl rfl hl.1 rfl (lv_room (Nat.le_of_ble_eq_true rfl)) dL_reaches_6 ⟨Nat.le_of_ble_eq_true rfl, Nat.le_of_ble_eq_true rfl⟩) (fun E ce q9 tr2 H1 L hE hP hz hk hL hce hcv hcl => ?_) (fun r N2 S2 tr2 H1 L hp hP hz hk hL => ?_)
  · have hS2 : va_S A s.heap H1 ([] ++ L) := ⟨hz, hk, hL⟩
    rcases hE with ⟨rfl, h1⟩ | ⟨rfl, h1, h2⟩ | ⟨rfl, h1, h2, h3⟩
    · have hk9 : sj_reach N S i1 i2 i3 i4 = 1 := gk_f h1
      refine vx_catch (own := RL) (name := gIO) G.2.2.2.2.1 [] ⟨0, 9, 10, 37⟩ [⟨0, 9, 15, 39⟩, ⟨0, 9, 20, 41⟩] (hT.trans rfl) (fun _ h => nomatch h) (by decide) (by decide) (G.2.2.2.2.2.1 (.classLink RL 37 gIO) (by decide +kernel)) (va_Nw.use rfl (z3 (.castable gIO gIO) (by decide +kernel))) hce hcv hcl ?_
      refine lv_astore (lv' := [(5, .ref q9), (0, .ref (q 0)), (1, .int i1), (2, .int i2), (3, .int i3), (4, .int i4)]) G.1 G.2.1 dL_reaches_10 hl (by decide) rfl (fun ls hl => ?_)
      refine lv_bipush (v := -101) G.1 G.2.1 dL_reaches_12 (by decide) ?_
      exact W.iret G.1 G.2.1 G.2.2.1 (fun t ht hW => ⟨-101, N, S, tr2, rfl, ⟨by rw [hk9]; rfl, by rw [hk9]; rfl, by rw [hk9]; rfl⟩, by rw [ht]; exact hP, hS2.F ht⟩) hS2.2.2 dL_reaches_14 G.2.2.2.2.2.2
    · have hk9 : sj_reach N S i1 i2 i3 i4 = 2 := gk_tf h1 h2
      refine vx_catch (own := RL) (name := gIA) G.2.2.2.2.1 [⟨0, 9, 10, 37⟩] ⟨0, 9, 15, 39⟩ [⟨0, 9, 20, 41⟩] (hT.trans rfl) (List.forall_mem_cons.mpr ⟨Or.inr ⟨by decide, gIO, G.2.2.2.2.2.1 (.classLink RL 37 gIO) (by decide +kernel), z5⟩, fun _ h => nomatch h⟩) (by decide) (by decide) (G.2.2.2.2.2.1 (.classLink RL 39 gIA) (by decide +kernel)) (va_Nw.use rfl (z3 (.castable gIA gIA) (by decide +kernel))) hce hcv hcl ?_
      refine lv_astore (lv' := [(5, .ref q9), (0, .ref (q 0)), (1, .int i1), (2, .int i2), (3, .int i3), (4, .int i4)]) G.1 G.2.1 dL_reaches_15 hl (by decide) rfl (fun ls hl => ?_)
      refine lv_bipush (v := -102) G.1 G.2.1 dL_reaches_17 (by decide) ?_
      exact W.iret G.1 G.2.1 G.2.2.1 (fun t ht hW => ⟨-102, N, S, tr2, rfl, ⟨by rw [hk9]; rfl, by rw [hk9]; rfl, by rw [hk9]; rfl⟩, by rw [ht]; exact hP, hS2.F ht⟩) hS2.2.2 dL_reaches_19 G.2.2.2.2.2.2
    · have hk9 : sj_reach N S i1 i2 i3 i4 = 3 := gk_ttf h1 h2 h3
      refine vx_catch (own := RL) (name := gIS) G.2.2.2.2.1 [⟨0, 9, 10, 37⟩, ⟨0, 9, 15, 39⟩] ⟨0, 9, 20, 41⟩ [] (hT.trans rfl) (List.forall_mem_cons.mpr ⟨Or.inr ⟨by decide, gIO, G.2.2.2.2.2.1 (.classLink RL 37 gIO) (by decide +kernel), z6⟩, List.forall_mem_cons.mpr ⟨Or.inr ⟨by decide, gIA, G.2.2.2.2.2.1 (.classLink RL 39 gIA) (by decide +kernel), z7⟩, fun _ h => nomatch h⟩⟩) (by decide) (by decide) (G.2.2.2.2.2.1 (.classLink RL 41 gIS) (by decide +kernel)) (va_Nw.use rfl (z3 (.castable gIS gIS) (by decide +kernel))) hce hcv hcl ?_
      refine lv_astore (lv' := [(5, .ref q9), (0, .ref (q 0)), (1, .int i1), (2, .int i2), (3, .int i3), (4, .int i4)]) G.1 G.2.1 dL_reaches_20 hl (by decide) rfl (fun ls hl => ?_)
      refine lv_bipush (v := -103) G.1 G.2.1 dL_reaches_22 (by decide) ?_
      exact W.iret G.1 G.2.1 G.2.2.1 (fun t ht hW => ⟨-103, N, S, tr2, rfl, ⟨by rw [hk9]; rfl, by rw [hk9]; rfl, by rw [hk9]; rfl⟩, by rw [ht]; exact hP, hS2.F ht⟩) hS2.2.2 dL_reaches_24 G.2.2.2.2.2.2
  · obtain ⟨hA, hB, hC, rfl, e2, e3⟩ := hp
    rw [e2, e3] at hP
    have hS2 : va_S A s.heap H1 ([] ++ L) := ⟨hz, hk, hL⟩
    have hk9 : sj_reach N S i1 i2 i3 i4 = 0 := gk_ttt hA hB hC
    exact W.iret G.1 G.2.1 G.2.2.1 (fun t ht hW => ⟨nI (sR_reach N S i1 i2 i3 i4), _, _, tr2, rfl, ⟨by rw [hk9]; rfl, by rw [if_pos hk9], by rw [if_pos hk9]⟩, by rw [ht]; exact hP, hS2.F ht⟩) hS2.2.2 dL_reaches_9 G.2.2.2.2.2.2
set_option maxRecDepth 100000 in
set_option maxHeartbeats 800000 in
/-- the law calls way -/
theorem mL_sets_way (l : Launch) (hst : l.stackTraces = false) (D : va_G) (q : Nat → Nat) (cI : ClassId) (N : Nat → Nat) (S : Nat → Nat → Nat) (tr : Nat → Nat) (A : Nat → Prop) (hok : sp_ok N S) (hinv : sp_inv N S) (i1 i2 : Int32) : Met l yL_sets wsL_sets { frames := 8, cells := 1, slots := 6, locals := 173 } (va_Pc [.ref (q 0), .int (nI 0), .int i1, .int i2] (fun U => xAt D q cI N S tr A U U.heap)) (gQx D q cI (fun r N2 S2 => r = gRes (sj_way N S i1 i2) (sR_way N S i1 i2) ∧ N2 = (if sj_way N S i1 i2 = 0 then sN_way N S i1 i2 else N) ∧ S2 = (if sj_way N S i1 i2 = 0 then sS_way N S i1 i2 else S)) A) 1 6 A := by
  refine gc_metW [.ref (q 0), .int (nI 0), .int i1, .int i2] (by decide) rfl (Nat.le_of_ble_eq_true rfl) rfl ?_
  intro p e s m below meth c ls G hT hl hx
  obtain ⟨z1, z2, z3, z4, z5, z6, z7⟩ := hx.2.2.2
  refine lv_iload_n G.1 G.2.1 dL_sets_0 rfl (lv_at hl 1 rfl) ?_
  refine gn_nez G (by decide) (tgt := 13) dL_sets_1 (by decide) (fun h => absurd rfl h) (fun _ => ?_)
  refine lv_aload_n G.1 G.2.1 dL_sets_4 rfl (lv_at hl 0 rfl) ?_
  refine lv_iload_n G.1 G.2.1 dL_sets_5 rfl (lv_at hl 2 rfl) ?_
  refine lv_iload_n G.1 G.2.1 dL_sets_6 rfl (lv_at hl 3 rfl) ?_
  refine gl_call (rest := []) (vx_runV (As := [.int i1, .int i2]) (rest := []) G.fix (mX0_way l hst D q cI N S tr A hok hinv i1 i2) (cwV 2 G.2.2.2.2.2.1 gL_sets_X0_way rfl rfl rfl (by decide +kernel) ⟨Nat.le_of_ble_eq_true rfl, Nat.le_of_ble_eq_true rfl⟩) ⟨xAt_blind, va_recv hx.2.1 hx.1 (ci := 0) (q0 := 0) rfl rfl, fun U hU hW => ⟨rfl, by show xAt _ _ _ _ _ _ _ U U.heap; rw [hU]; exact hx.moved hW⟩⟩ rfl rfl hl.1 rfl (lv_room (Nat.le_of_ble_eq_true rfl)) dL_sets_7 ⟨Nat.le_of_ble_eq_true rfl, Nat.le_of_ble_eq_true rfl⟩) (fun E ce q9 tr2 H1 L hE hP hz hk hL hce hcv hcl => ?_) (fun r N2 S2 tr2 H1 L hp hP hz hk hL => ?_)
  · have hS2 : va_S A s.heap H1 ([] ++ L) := ⟨hz, hk, hL⟩
    rcases hE with ⟨rfl, h1⟩ | ⟨rfl, h1, h2⟩ | ⟨rfl, h1, h2, h3⟩
    · have hk9 : sj_way N S i1 i2 = 1 := gk_f h1
      refine vx_catch (own := RL) (name := gIO) G.2.2.2.2.1 [] ⟨0, 33, 34, 37⟩ [⟨0, 33, 39, 39⟩, ⟨0, 33, 44, 41⟩] (hT.trans rfl) (fun _ h => nomatch h) (by decide) (by decide) (G.2.2.2.2.2.1 (.classLink RL 37 gIO) (by decide +kernel)) (va_Nw.use rfl (z3 (.castable gIO gIO) (by decide +kernel))) hce hcv hcl ?_
      refine lv_astore (lv' := [(4, .ref q9), (0, .ref (q 0)), (1, .int (nI 0)), (2, .int i1), (3, .int i2)]) G.1 G.2.1 dL_sets_34 hl (by decide) rfl (fun ls hl => ?_)
      refine lv_bipush (v := -101) G.1 G.2.1 dL_sets_36 (by decide) ?_
      exact W.iret G.1 G.2.1 G.2.2.1 (fun t ht hW => ⟨-101, N, S, tr2, rfl, ⟨by rw [hk9]; rfl, by rw [hk9]; rfl, by rw [hk9]; rfl⟩, by rw [ht]; exact hP, hS2.F ht⟩) hS2.2.2 dL_sets_38 G.2.2.2.2.2.2
    · have hk9 : sj_way N S i1 i2 = 2 := gk_tf h1 h2
      refine vx_catch (own := RL) (name := gIA) G.2.2.2.2.1 [⟨0, 33, 34, 37⟩] ⟨0, 33, 39, 39⟩ [⟨0, 33, 44, 41⟩] (hT.trans rfl) (List.forall_mem_cons.mpr ⟨Or.inr ⟨by decide, gIO, G.2.2.2.2.2.1 (.classLink RL 37 gIO) (by decide +kernel), z5⟩, fun _ h => nomatch h⟩) (by decide) (by decide) (G.2.2.2.2.2.1 (.classLink RL 39 gIA) (by decide +kernel)) (va_Nw.use rfl (z3 (.castable gIA gIA) (by decide +kernel))) hce hcv hcl ?_
      refine lv_astore (lv' := [(4, .ref q9), (0, .ref (q 0)), (1, .int (nI 0)), (2, .int i1), (3, .int i2)]) G.1 G.2.1 dL_sets_39 hl (by decide) rfl (fun ls hl => ?_)
      refine lv_bipush (v := -102) G.1 G.2.1 dL_sets_41 (by decide) ?_
      exact W.iret G.1 G.2.1 G.2.2.1 (fun t ht hW => ⟨-102, N, S, tr2, rfl, ⟨by rw [hk9]; rfl, by rw [hk9]; rfl, by rw [hk9]; rfl⟩, by rw [ht]; exact hP, hS2.F ht⟩) hS2.2.2 dL_sets_43 G.2.2.2.2.2.2
    · have hk9 : sj_way N S i1 i2 = 3 := gk_ttf h1 h2 h3
      refine vx_catch (own := RL) (name := gIS) G.2.2.2.2.1 [⟨0, 33, 34, 37⟩, ⟨0, 33, 39, 39⟩] ⟨0, 33, 44, 41⟩ [] (hT.trans rfl) (List.forall_mem_cons.mpr ⟨Or.inr ⟨by decide, gIO, G.2.2.2.2.2.1 (.classLink RL 37 gIO) (by decide +kernel), z6⟩, List.forall_mem_cons.mpr ⟨Or.inr ⟨by decide, gIA, G.2.2.2.2.2.1 (.classLink RL 39 gIA) (by decide +kernel), z7⟩, fun _ h => nomatch h⟩⟩) (by decide) (by decide) (G.2.2.2.2.2.1 (.classLink RL 41 gIS) (by decide +kernel)) (va_Nw.use rfl (z3 (.castable gIS gIS) (by decide +kernel))) hce hcv hcl ?_
      refine lv_astore (lv' := [(4, .ref q9), (0, .ref (q 0)), (1, .int (nI 0)), (2, .int i1), (3, .int i2)]) G.1 G.2.1 dL_sets_44 hl (by decide) rfl (fun ls hl => ?_)
      refine lv_bipush (v := -103) G.1 G.2.1 dL_sets_46 (by decide) ?_
      exact W.iret G.1 G.2.1 G.2.2.1 (fun t ht hW => ⟨-103, N, S, tr2, rfl, ⟨by rw [hk9]; rfl, by rw [hk9]; rfl, by rw [hk9]; rfl⟩, by rw [ht]; exact hP, hS2.F ht⟩) hS2.2.2 dL_sets_48 G.2.2.2.2.2.2
  · obtain ⟨hA, hB, hC, rfl, e2, e3⟩ := hp
    rw [e2, e3] at hP
    have hS2 : va_S A s.heap H1 ([] ++ L) := ⟨hz, hk, hL⟩
    have hk9 : sj_way N S i1 i2 = 0 := gk_ttt hA hB hC
    refine lv_goto (tgt := 33) G.1 G.2.1 dL_sets_10 (by decide) ?_
    exact W.iret G.1 G.2.1 G.2.2.1 (fun t ht hW => ⟨nI (sR_way N S i1 i2), _, _, tr2, rfl, ⟨by rw [hk9]; rfl, by rw [if_pos hk9], by rw [if_pos hk9]⟩, by rw [ht]; exact hP, hS2.F ht⟩) hS2.2.2 dL_sets_33 G.2.2.2.2.2.2
set_option maxRecDepth 100000 in
set_option maxHeartbeats 800000 in
/-- the law calls add -/
theorem mL_sets_add (l : Launch) (hst : l.stackTraces = false) (D : va_G) (q : Nat → Nat) (cI : ClassId) (N : Nat → Nat) (S : Nat → Nat → Nat) (tr : Nat → Nat) (A : Nat → Prop) (hok : sp_ok N S) (hinv : sp_inv N S) (i1 i2 : Int32) : Met l yL_sets wsL_sets { frames := 8, cells := 1, slots := 6, locals := 173 } (va_Pc [.ref (q 0), .int (nI 1), .int i1, .int i2] (fun U => xAt D q cI N S tr A U U.heap)) (gQx D q cI (fun r N2 S2 => r = gRes (sj_add N S i1 i2) (sR_add N S i1 i2) ∧ N2 = (if sj_add N S i1 i2 = 0 then sN_add N S i1 i2 else N) ∧ S2 = (if sj_add N S i1 i2 = 0 then sS_add N S i1 i2 else S)) A) 1 6 A := by
  refine gc_metW [.ref (q 0), .int (nI 1), .int i1, .int i2] (by decide) rfl (Nat.le_of_ble_eq_true rfl) rfl ?_
  intro p e s m below meth c ls G hT hl hx
  obtain ⟨z1, z2, z3, z4, z5, z6, z7⟩ := hx.2.2.2
  refine lv_iload_n G.1 G.2.1 dL_sets_0 rfl (lv_at hl 1 rfl) ?_
  refine gn_nez G (by decide) (tgt := 13) dL_sets_1 (by decide) (fun _ => ?_) (fun h => absurd h (by decide))
  refine lv_iload_n G.1 G.2.1 dL_sets_13 rfl (lv_at hl 1 rfl) ?_
  refine lv_iconst (v := nI 1) G.1 G.2.1 dL_sets_14 (by decide) ?_
  refine gn_ne G (by decide) (by decide) (tgt := 27) dL_sets_15 (by decide) (fun h => absurd rfl h) (fun _ => ?_)
  refine lv_aload_n G.1 G.2.1 dL_sets_18 rfl (lv_at hl 0 rfl) ?_
  refine lv_iload_n G.1 G.2.1 dL_sets_19 rfl (lv_at hl 2 rfl) ?_
  refine lv_iload_n G.1 G.2.1 dL_sets_20 rfl (lv_at hl 3 rfl) ?_
  refine gl_call (rest := []) (vx_runV (As := [.int i1, .int i2]) (rest := []) G.fix (mX0_add l hst D q cI N S tr A hok hinv i1 i2) (cwV 2 G.2.2.2.2.2.1 gL_sets_X0_add rfl rfl rfl (by decide +kernel) ⟨Nat.le_of_ble_eq_true rfl, Nat.le_of_ble_eq_true rfl⟩) ⟨xAt_blind, va_recv hx.2.1 hx.1 (ci := 0) (q0 := 0) rfl rfl, fun U hU hW => ⟨rfl, by show xAt _ _ _ _ _ _ _ U U.heap; rw [hU]; exact hx.moved hW⟩⟩ rfl rfl hl.1 rfl (lv_room (Nat.le_of_ble_eq_true rfl)) dL_sets_21 ⟨Nat.le_of_ble_eq_true rfl, Nat.le_of_ble_eq_true rfl⟩) (fun E ce q9 tr2 H1 L hE hP hz hk hL hce hcv hcl => ?_) (fun r N2 S2 tr2 H1 L hp hP hz hk hL => ?_)
  · have hS2 : va_S A s.heap H1 ([] ++ L) := ⟨hz, hk, hL⟩
    rcases hE with ⟨rfl, h1⟩ | ⟨rfl, h1, h2⟩ | ⟨rfl, h1, h2, h3⟩
    · have hk9 : sj_add N S i1 i2 = 1 := gk_f h1
      refine vx_catch (own := RL) (name := gIO) G.2.2.2.2.1 [] ⟨0, 33, 34, 37⟩ [⟨0, 33, 39, 39⟩, ⟨0, 33, 44, 41⟩] (hT.trans rfl) (fun _ h => nomatch h) (by decide) (by decide) (G.2.2.2.2.2.1 (.classLink RL 37 gIO) (by decide +kernel)) (va_Nw.use rfl (z3 (.castable gIO gIO) (by decide +kernel))) hce hcv hcl ?_
      refine lv_astore (lv' := [(4, .ref q9), (0, .ref (q 0)), (1, .int (nI 1)), (2, .int i1), (3, .int i2)]) G.1 G.2.1 dL_sets_34 hl (by decide) rfl (fun ls hl => ?_)
      refine lv_bipush (v := -101) G.1 G.2.1 dL_sets_36 (by decide) ?_
      exact W.iret G.1 G.2.1 G.2.2.1 (fun t ht hW => ⟨-101, N, S, tr2, rfl, ⟨by rw [hk9]; rfl, by rw [hk9]; rfl, by rw [hk9]; rfl⟩, by rw [ht]; exact hP, hS2.F ht⟩) hS2.2.2 dL_sets_38 G.2.2.2.2.2.2
    · exact absurd h2 (by show ¬ (true = false); decide)
    · have hk9 : sj_add N S i1 i2 = 3 := gk_ttf h1 h2 h3
      refine vx_catch (own := RL) (name := gIS) G.2.2.2.2.1 [⟨0, 33, 34, 37⟩, ⟨0, 33, 39, 39⟩] ⟨0, 33, 44, 41⟩ [] (hT.trans rfl) (List.forall_mem_cons.mpr ⟨Or.inr ⟨by decide, gIO, G.2.2.2.2.2.1 (.classLink RL 37 gIO) (by decide +kernel), z6⟩, List.forall_mem_cons.mpr ⟨Or.inr ⟨by decide, gIA, G.2.2.2.2.2.1 (.classLink RL 39 gIA) (by decide +kernel), z7⟩, fun _ h => nomatch h⟩⟩) (by decide) (by decide) (G.2.2.2.2.2.1 (.classLink RL 41 gIS) (by decide +kernel)) (va_Nw.use rfl (z3 (.castable gIS gIS) (by decide +kernel))) hce hcv hcl ?_
      refine lv_astore (lv' := [(4, .ref q9), (0, .ref (q 0)), (1, .int (nI 1)), (2, .int i1), (3, .int i2)]) G.1 G.2.1 dL_sets_44 hl (by decide) rfl (fun ls hl => ?_)
      refine lv_bipush (v := -103) G.1 G.2.1 dL_sets_46 (by decide) ?_
      exact W.iret G.1 G.2.1 G.2.2.1 (fun t ht hW => ⟨-103, N, S, tr2, rfl, ⟨by rw [hk9]; rfl, by rw [hk9]; rfl, by rw [hk9]; rfl⟩, by rw [ht]; exact hP, hS2.F ht⟩) hS2.2.2 dL_sets_48 G.2.2.2.2.2.2
  · obtain ⟨hA, hB, hC, rfl, e2, e3⟩ := hp
    rw [e2, e3] at hP
    have hS2 : va_S A s.heap H1 ([] ++ L) := ⟨hz, hk, hL⟩
    have hk9 : sj_add N S i1 i2 = 0 := gk_ttt hA hB hC
    refine lv_goto (tgt := 33) G.1 G.2.1 dL_sets_24 (by decide) ?_
    exact W.iret G.1 G.2.1 G.2.2.1 (fun t ht hW => ⟨nI (sR_add N S i1 i2), _, _, tr2, rfl, ⟨by rw [hk9]; rfl, by rw [if_pos hk9], by rw [if_pos hk9]⟩, by rw [ht]; exact hP, hS2.F ht⟩) hS2.2.2 dL_sets_33 G.2.2.2.2.2.2
set_option maxRecDepth 100000 in
set_option maxHeartbeats 800000 in
/-- the law calls join -/
theorem mL_sets_join (l : Launch) (hst : l.stackTraces = false) (D : va_G) (q : Nat → Nat) (cI : ClassId) (N : Nat → Nat) (S : Nat → Nat → Nat) (tr : Nat → Nat) (A : Nat → Prop) (hok : sp_ok N S) (hinv : sp_inv N S) (i1 i2 : Int32) : Met l yL_sets wsL_sets { frames := 8, cells := 1, slots := 6, locals := 173 } (va_Pc [.ref (q 0), .int (nI 2), .int i1, .int i2] (fun U => xAt D q cI N S tr A U U.heap)) (gQx D q cI (fun r N2 S2 => r = gRes (sj_join N S i1 i2) (sR_join N S i1 i2) ∧ N2 = (if sj_join N S i1 i2 = 0 then sN_join N S i1 i2 else N) ∧ S2 = (if sj_join N S i1 i2 = 0 then sS_join N S i1 i2 else S)) A) 1 6 A := by
  refine gc_metW [.ref (q 0), .int (nI 2), .int i1, .int i2] (by decide) rfl (Nat.le_of_ble_eq_true rfl) rfl ?_
  intro p e s m below meth c ls G hT hl hx
  obtain ⟨z1, z2, z3, z4, z5, z6, z7⟩ := hx.2.2.2
  refine lv_iload_n G.1 G.2.1 dL_sets_0 rfl (lv_at hl 1 rfl) ?_
  refine gn_nez G (by decide) (tgt := 13) dL_sets_1 (by decide) (fun _ => ?_) (fun h => absurd h (by decide))
  refine lv_iload_n G.1 G.2.1 dL_sets_13 rfl (lv_at hl 1 rfl) ?_
  refine lv_iconst (v := nI 1) G.1 G.2.1 dL_sets_14 (by decide) ?_
  refine gn_ne G (by decide) (by decide) (tgt := 27) dL_sets_15 (by decide) (fun _ => ?_) (fun h => absurd h (by decide))
  refine lv_aload_n G.1 G.2.1 dL_sets_27 rfl (lv_at hl 0 rfl) ?_
  refine lv_iload_n G.1 G.2.1 dL_sets_28 rfl (lv_at hl 2 rfl) ?_
  refine lv_iload_n G.1 G.2.1 dL_sets_29 rfl (lv_at hl 3 rfl) ?_
  refine gl_call (rest := []) (vx_runV (As := [.int i1, .int i2]) (rest := []) G.fix (mX0_join l hst D q cI N S tr A hok hinv i1 i2) (cwV 2 G.2.2.2.2.2.1 gL_sets_X0_join rfl rfl rfl (by decide +kernel) ⟨Nat.le_of_ble_eq_true rfl, Nat.le_of_ble_eq_true rfl⟩) ⟨xAt_blind, va_recv hx.2.1 hx.1 (ci := 0) (q0 := 0) rfl rfl, fun U hU hW => ⟨rfl, by show xAt _ _ _ _ _ _ _ U U.heap; rw [hU]; exact hx.moved hW⟩⟩ rfl rfl hl.1 rfl (lv_room (Nat.le_of_ble_eq_true rfl)) dL_sets_30 ⟨Nat.le_of_ble_eq_true rfl, Nat.le_of_ble_eq_true rfl⟩) (fun E ce q9 tr2 H1 L hE hP hz hk hL hce hcv hcl => ?_) (fun r N2 S2 tr2 H1 L hp hP hz hk hL => ?_)
  · have hS2 : va_S A s.heap H1 ([] ++ L) := ⟨hz, hk, hL⟩
    rcases hE with ⟨rfl, h1⟩ | ⟨rfl, h1, h2⟩ | ⟨rfl, h1, h2, h3⟩
    · have hk9 : sj_join N S i1 i2 = 1 := gk_f h1
      refine vx_catch (own := RL) (name := gIO) G.2.2.2.2.1 [] ⟨0, 33, 34, 37⟩ [⟨0, 33, 39, 39⟩, ⟨0, 33, 44, 41⟩] (hT.trans rfl) (fun _ h => nomatch h) (by decide) (by decide) (G.2.2.2.2.2.1 (.classLink RL 37 gIO) (by decide +kernel)) (va_Nw.use rfl (z3 (.castable gIO gIO) (by decide +kernel))) hce hcv hcl ?_
      refine lv_astore (lv' := [(4, .ref q9), (0, .ref (q 0)), (1, .int (nI 2)), (2, .int i1), (3, .int i2)]) G.1 G.2.1 dL_sets_34 hl (by decide) rfl (fun ls hl => ?_)
      refine lv_bipush (v := -101) G.1 G.2.1 dL_sets_36 (by decide) ?_
      exact W.iret G.1 G.2.1 G.2.2.1 (fun t ht hW => ⟨-101, N, S, tr2, rfl, ⟨by rw [hk9]; rfl, by rw [hk9]; rfl, by rw [hk9]; rfl⟩, by rw [ht]; exact hP, hS2.F ht⟩) hS2.2.2 dL_sets_38 G.2.2.2.2.2.2
    · have hk9 : sj_join N S i1 i2 = 2 := gk_tf h1 h2
      refine vx_catch (own := RL) (name := gIA) G.2.2.2.2.1 [⟨0, 33, 34, 37⟩] ⟨0, 33, 39, 39⟩ [⟨0, 33, 44, 41⟩] (hT.trans rfl) (List.forall_mem_cons.mpr ⟨Or.inr ⟨by decide, gIO, G.2.2.2.2.2.1 (.classLink RL 37 gIO) (by decide +kernel), z5⟩, fun _ h => nomatch h⟩) (by decide) (by decide) (G.2.2.2.2.2.1 (.classLink RL 39 gIA) (by decide +kernel)) (va_Nw.use rfl (z3 (.castable gIA gIA) (by decide +kernel))) hce hcv hcl ?_
      refine lv_astore (lv' := [(4, .ref q9), (0, .ref (q 0)), (1, .int (nI 2)), (2, .int i1), (3, .int i2)]) G.1 G.2.1 dL_sets_39 hl (by decide) rfl (fun ls hl => ?_)
      refine lv_bipush (v := -102) G.1 G.2.1 dL_sets_41 (by decide) ?_
      exact W.iret G.1 G.2.1 G.2.2.1 (fun t ht hW => ⟨-102, N, S, tr2, rfl, ⟨by rw [hk9]; rfl, by rw [hk9]; rfl, by rw [hk9]; rfl⟩, by rw [ht]; exact hP, hS2.F ht⟩) hS2.2.2 dL_sets_43 G.2.2.2.2.2.2
    · have hk9 : sj_join N S i1 i2 = 3 := gk_ttf h1 h2 h3
      refine vx_catch (own := RL) (name := gIS) G.2.2.2.2.1 [⟨0, 33, 34, 37⟩, ⟨0, 33, 39, 39⟩] ⟨0, 33, 44, 41⟩ [] (hT.trans rfl) (List.forall_mem_cons.mpr ⟨Or.inr ⟨by decide, gIO, G.2.2.2.2.2.1 (.classLink RL 37 gIO) (by decide +kernel), z6⟩, List.forall_mem_cons.mpr ⟨Or.inr ⟨by decide, gIA, G.2.2.2.2.2.1 (.classLink RL 39 gIA) (by decide +kernel), z7⟩, fun _ h => nomatch h⟩⟩) (by decide) (by decide) (G.2.2.2.2.2.1 (.classLink RL 41 gIS) (by decide +kernel)) (va_Nw.use rfl (z3 (.castable gIS gIS) (by decide +kernel))) hce hcv hcl ?_
      refine lv_astore (lv' := [(4, .ref q9), (0, .ref (q 0)), (1, .int (nI 2)), (2, .int i1), (3, .int i2)]) G.1 G.2.1 dL_sets_44 hl (by decide) rfl (fun ls hl => ?_)
      refine lv_bipush (v := -103) G.1 G.2.1 dL_sets_46 (by decide) ?_
      exact W.iret G.1 G.2.1 G.2.2.1 (fun t ht hW => ⟨-103, N, S, tr2, rfl, ⟨by rw [hk9]; rfl, by rw [hk9]; rfl, by rw [hk9]; rfl⟩, by rw [ht]; exact hP, hS2.F ht⟩) hS2.2.2 dL_sets_48 G.2.2.2.2.2.2
  · obtain ⟨hA, hB, hC, rfl, e2, e3⟩ := hp
    rw [e2, e3] at hP
    have hS2 : va_S A s.heap H1 ([] ++ L) := ⟨hz, hk, hL⟩
    have hk9 : sj_join N S i1 i2 = 0 := gk_ttt hA hB hC
    exact W.iret G.1 G.2.1 G.2.2.1 (fun t ht hW => ⟨nI (sR_join N S i1 i2), _, _, tr2, rfl, ⟨by rw [hk9]; rfl, by rw [if_pos hk9], by rw [if_pos hk9]⟩, by rw [ht]; exact hP, hS2.F ht⟩) hS2.2.2 dL_sets_33 G.2.2.2.2.2.2
set_option maxRecDepth 100000 in
set_option maxHeartbeats 800000 in
/-- the law calls drop -/
theorem mL_chains_drop (l : Launch) (hst : l.stackTraces = false) (D : va_G) (q : Nat → Nat) (cI : ClassId) (N : Nat → Nat) (S : Nat → Nat → Nat) (tr : Nat → Nat) (A : Nat → Prop) (hok : sp_ok N S) (hinv : sp_inv N S) (i1 : Int32) : Met l yL_chains wsL_chains { frames := 8, cells := 1, slots := 6, locals := 170 } (va_Pc [.ref (q 0), .int (nI 0), .int i1] (fun U => xAt D q cI N S tr A U U.heap)) (gQx D q cI (fun r N2 S2 => r = gRes (sj_drop N S i1) (sR_drop N S i1) ∧ N2 = (if sj_drop N S i1 = 0 then sN_drop N S i1 else N) ∧ S2 = (if sj_drop N S i1 = 0 then sS_drop N S i1 else S)) A) 1 6 A := by
  refine gc_metW [.ref (q 0), .int (nI 0), .int i1] (by decide) rfl (Nat.le_of_ble_eq_true rfl) rfl ?_
  intro p e s m below meth c ls G hT hl hx
  obtain ⟨z1, z2, z3, z4, z5, z6, z7⟩ := hx.2.2.2
  refine lv_iload_n G.1 G.2.1 dL_chains_0 rfl (lv_at hl 1 rfl) ?_
  refine gn_nez G (by decide) (tgt := 12) dL_chains_1 (by decide) (fun h => absurd rfl h) (fun _ => ?_)
  refine lv_aload_n G.1 G.2.1 dL_chains_4 rfl (lv_at hl 0 rfl) ?_
  refine lv_iload_n G.1 G.2.1 dL_chains_5 rfl (lv_at hl 2 rfl) ?_
  refine gl_call (rest := []) (vx_runV (As := [.int i1]) (rest := []) G.fix (mX0_drop l hst D q cI N S tr A hok hinv i1) (cwV 1 G.2.2.2.2.2.1 gL_chains_X0_drop rfl rfl rfl (by decide +kernel) ⟨Nat.le_of_ble_eq_true rfl, Nat.le_of_ble_eq_true rfl⟩) ⟨xAt_blind, va_recv hx.2.1 hx.1 (ci := 0) (q0 := 0) rfl rfl, fun U hU hW => ⟨rfl, by show xAt _ _ _ _ _ _ _ U U.heap; rw [hU]; exact hx.moved hW⟩⟩ rfl rfl hl.1 rfl (lv_room (Nat.le_of_ble_eq_true rfl)) dL_chains_6 ⟨Nat.le_of_ble_eq_true rfl, Nat.le_of_ble_eq_true rfl⟩) (fun E ce q9 tr2 H1 L hE hP hz hk hL hce hcv hcl => ?_) (fun r N2 S2 tr2 H1 L hp hP hz hk hL => ?_)
  · have hS2 : va_S A s.heap H1 ([] ++ L) := ⟨hz, hk, hL⟩
    rcases hE with ⟨rfl, h1⟩ | ⟨rfl, h1, h2⟩ | ⟨rfl, h1, h2, h3⟩
    · have hk9 : sj_drop N S i1 = 1 := gk_f h1
      refine vx_catch (own := RL) (name := gIO) G.2.2.2.2.1 [] ⟨0, 51, 52, 37⟩ [⟨0, 51, 56, 41⟩] (hT.trans rfl) (fun _ h => nomatch h) (by decide) (by decide) (G.2.2.2.2.2.1 (.classLink RL 37 gIO) (by decide +kernel)) (va_Nw.use rfl (z3 (.castable gIO gIO) (by decide +kernel))) hce hcv hcl ?_
      refine lv_astore_n (lv' := [(3, .ref q9), (0, .ref (q 0)), (1, .int (nI 0)), (2, .int i1)]) G.1 G.2.1 dL_chains_52 rfl hl (by decide) rfl (fun ls hl => ?_)
      refine lv_bipush (v := -101) G.1 G.2.1 dL_chains_53 (by decide) ?_
      exact W.iret G.1 G.2.1 G.2.2.1 (fun t ht hW => ⟨-101, N, S, tr2, rfl, ⟨by rw [hk9]; rfl, by rw [hk9]; rfl, by rw [hk9]; rfl⟩, by rw [ht]; exact hP, hS2.F ht⟩) hS2.2.2 dL_chains_55 G.2.2.2.2.2.2
    · exact absurd h2 (by show ¬ (true = false); decide)
    · have hk9 : sj_drop N S i1 = 3 := gk_ttf h1 h2 h3
      refine vx_catch (own := RL) (name := gIS) G.2.2.2.2.1 [⟨0, 51, 52, 37⟩] ⟨0, 51, 56, 41⟩ [] (hT.trans rfl) (List.forall_mem_cons.mpr ⟨Or.inr ⟨by decide, gIO, G.2.2.2.2.2.1 (.classLink RL 37 gIO) (by decide +kernel), z6⟩, fun _ h => nomatch h⟩) (by decide) (by decide) (G.2.2.2.2.2.1 (.classLink RL 41 gIS) (by decide +kernel)) (va_Nw.use rfl (z3 (.castable gIS gIS) (by decide +kernel))) hce hcv hcl ?_
      refine lv_astore_n (lv' := [(3, .ref q9), (0, .ref (q 0)), (1, .int (nI 0)), (2, .int i1)]) G.1 G.2.1 dL_chains_56 rfl hl (by decide) rfl (fun ls hl => ?_)
      refine lv_bipush (v := -103) G.1 G.2.1 dL_chains_57 (by decide) ?_
      exact W.iret G.1 G.2.1 G.2.2.1 (fun t ht hW => ⟨-103, N, S, tr2, rfl, ⟨by rw [hk9]; rfl, by rw [hk9]; rfl, by rw [hk9]; rfl⟩, by rw [ht]; exact hP, hS2.F ht⟩) hS2.2.2 dL_chains_59 G.2.2.2.2.2.2
  · obtain ⟨hA, hB, hC, rfl, e2, e3⟩ := hp
    rw [e2, e3] at hP
    have hS2 : va_S A s.heap H1 ([] ++ L) := ⟨hz, hk, hL⟩
    have hk9 : sj_drop N S i1 = 0 := gk_ttt hA hB hC
    refine lv_goto (tgt := 51) G.1 G.2.1 dL_chains_9 (by decide) ?_
    exact W.iret G.1 G.2.1 G.2.2.1 (fun t ht hW => ⟨nI (sR_drop N S i1), _, _, tr2, rfl, ⟨by rw [hk9]; rfl, by rw [if_pos hk9], by rw [if_pos hk9]⟩, by rw [ht]; exact hP, hS2.F ht⟩) hS2.2.2 dL_chains_51 G.2.2.2.2.2.2
set_option maxRecDepth 100000 in
set_option maxHeartbeats 800000 in
/-- the law calls sign -/
theorem mL_chains_sign (l : Launch) (hst : l.stackTraces = false) (D : va_G) (q : Nat → Nat) (cI : ClassId) (N : Nat → Nat) (S : Nat → Nat → Nat) (tr : Nat → Nat) (A : Nat → Prop) (hok : sp_ok N S) (hinv : sp_inv N S) (i1 : Int32) : Met l yL_chains wsL_chains { frames := 8, cells := 1, slots := 6, locals := 170 } (va_Pc [.ref (q 0), .int (nI 1), .int i1] (fun U => xAt D q cI N S tr A U U.heap)) (gQx D q cI (fun r N2 S2 => r = gRes (sj_sign N S i1) (sR_sign N S i1) ∧ N2 = (if sj_sign N S i1 = 0 then sN_sign N S i1 else N) ∧ S2 = (if sj_sign N S i1 = 0 then sS_sign N S i1 else S)) A) 1 6 A := by
  refine gc_metW [.ref (q 0), .int (nI 1), .int i1] (by decide) rfl (Nat.le_of_ble_eq_true rfl) rfl ?_
  intro p e s m below meth c ls G hT hl hx
  obtain ⟨z1, z2, z3, z4, z5, z6, z7⟩ := hx.2.2.2
  refine lv_iload_n G.1 G.2.1 dL_chains_0 rfl (lv_at hl 1 rfl) ?_
  refine gn_nez G (by decide) (tgt := 12) dL_chains_1 (by decide) (fun _ => ?_) (fun h => absurd h (by decide))
  refine lv_iload_n G.1 G.2.1 dL_chains_12 rfl (lv_at hl 1 rfl) ?_
  refine lv_iconst (v := nI 1) G.1 G.2.1 dL_chains_13 (by decide) ?_
  refine gn_ne G (by decide) (by decide) (tgt := 33) dL_chains_14 (by decide) (fun h => absurd rfl h) (fun _ => ?_)
  refine lv_aload_n G.1 G.2.1 dL_chains_17 rfl (lv_at hl 0 rfl) ?_
  refine lv_iload_n G.1 G.2.1 dL_chains_18 rfl (lv_at hl 2 rfl) ?_
  refine gl_call (rest := []) (vx_runV (As := [.int i1]) (rest := []) G.fix (mX0_sign l hst D q cI N S tr A hok hinv i1) (cwV 1 G.2.2.2.2.2.1 gL_chains_X0_sign rfl rfl rfl (by decide +kernel) ⟨Nat.le_of_ble_eq_true rfl, Nat.le_of_ble_eq_true rfl⟩) ⟨xAt_blind, va_recv hx.2.1 hx.1 (ci := 0) (q0 := 0) rfl rfl, fun U hU hW => ⟨rfl, by show xAt _ _ _ _ _ _ _ U U.heap; rw [hU]; exact hx.moved hW⟩⟩ rfl rfl hl.1 rfl (lv_room (Nat.le_of_ble_eq_true rfl)) dL_chains_19 ⟨Nat.le_of_ble_eq_true rfl, Nat.le_of_ble_eq_true rfl⟩) (fun E ce q9 tr2 H1 L hE hP hz hk hL hce hcv hcl => ?_) (fun r N2 S2 tr2 H1 L hp hP hz hk hL => ?_)
  · have hS2 : va_S A s.heap H1 ([] ++ L) := ⟨hz, hk, hL⟩
    rcases hE with ⟨rfl, h1⟩ | ⟨rfl, h1, h2⟩ | ⟨rfl, h1, h2, h3⟩
    · have hk9 : sj_sign N S i1 = 1 := gk_f h1
      refine vx_catch (own := RL) (name := gIO) G.2.2.2.2.1 [] ⟨0, 51, 52, 37⟩ [⟨0, 51, 56, 41⟩] (hT.trans rfl) (fun _ h => nomatch h) (by decide) (by decide) (G.2.2.2.2.2.1 (.classLink RL 37 gIO) (by decide +kernel)) (va_Nw.use rfl (z3 (.castable gIO gIO) (by decide +kernel))) hce hcv hcl ?_
      refine lv_astore_n (lv' := [(3, .ref q9), (0, .ref (q 0)), (1, .int (nI 1)), (2, .int i1)]) G.1 G.2.1 dL_chains_52 rfl hl (by decide) rfl (fun ls hl => ?_)
      refine lv_bipush (v := -101) G.1 G.2.1 dL_chains_53 (by decide) ?_
      exact W.iret G.1 G.2.1 G.2.2.1 (fun t ht hW => ⟨-101, N, S, tr2, rfl, ⟨by rw [hk9]; rfl, by rw [hk9]; rfl, by rw [hk9]; rfl⟩, by rw [ht]; exact hP, hS2.F ht⟩) hS2.2.2 dL_chains_55 G.2.2.2.2.2.2
    · exact absurd h2 (by show ¬ (true = false); decide)
    · exact absurd h3 (by show ¬ (true = false); decide)
  · obtain ⟨hA, hB, hC, rfl, e2, e3⟩ := hp
    rw [e2, e3] at hP
    have hS2 : va_S A s.heap H1 ([] ++ L) := ⟨hz, hk, hL⟩
    have hk9 : sj_sign N S i1 = 0 := gk_ttt hA hB hC
    have hb9 := sp_bit_lt (N 10) (gn i1)
    have hR9 : sR_sign N S i1 = 1 - sp_bit (N 10) (gn i1) := rfl
    refine gn_eqz G (by omega) (tgt := 29) dL_chains_22 (by decide) (fun h => ?_) (fun h => ?_)
    · have hR : sR_sign N S i1 = 0 := h
      refine lv_iconst (v := nI 0) G.1 G.2.1 dL_chains_29 (by decide) ?_
      refine lv_goto (tgt := 51) G.1 G.2.1 dL_chains_30 (by decide) ?_
      exact W.iret G.1 G.2.1 G.2.2.1 (fun t ht hW => ⟨nI 0, _, _, tr2, rfl, ⟨by rw [hk9]; rw [hR]; rfl, by rw [if_pos hk9], by rw [if_pos hk9]⟩, by rw [ht]; exact hP, hS2.F ht⟩) hS2.2.2 dL_chains_51 G.2.2.2.2.2.2
    · have hR : sR_sign N S i1 = 1 := by omega
      refine lv_iconst (v := nI 1) G.1 G.2.1 dL_chains_25 (by decide) ?_
      refine lv_goto (tgt := 51) G.1 G.2.1 dL_chains_26 (by decide) ?_
      exact W.iret G.1 G.2.1 G.2.2.1 (fun t ht hW => ⟨nI 1, _, _, tr2, rfl, ⟨by rw [hk9]; rw [hR]; rfl, by rw [if_pos hk9], by rw [if_pos hk9]⟩, by rw [ht]; exact hP, hS2.F ht⟩) hS2.2.2 dL_chains_51 G.2.2.2.2.2.2
set_option maxRecDepth 100000 in
set_option maxHeartbeats 800000 in
/-- the law calls gap -/
theorem mL_chains_gap (l : Launch) (hst : l.stackTraces = false) (D : va_G) (q : Nat → Nat) (cI : ClassId) (N : Nat → Nat) (S : Nat → Nat → Nat) (tr : Nat → Nat) (A : Nat → Prop) (hok : sp_ok N S) (hinv : sp_inv N S) (i1 : Int32) : Met l yL_chains wsL_chains { frames := 8, cells := 1, slots := 6, locals := 170 } (va_Pc [.ref (q 0), .int (nI 2), .int i1] (fun U => xAt D q cI N S tr A U U.heap)) (gQx D q cI (fun r N2 S2 => r = gRes (sj_gap N S i1) (sR_gap N S i1) ∧ N2 = (if sj_gap N S i1 = 0 then sN_gap N S i1 else N) ∧ S2 = (if sj_gap N S i1 = 0 then sS_gap N S i1 else S)) A) 1 6 A := by
  refine gc_metW [.ref (q 0), .int (nI 2), .int i1] (by decide) rfl (Nat.le_of_ble_eq_true rfl) rfl ?_
  intro p e s m below meth c ls G hT hl hx
  obtain ⟨z1, z2, z3, z4, z5, z6, z7⟩ := hx.2.2.2
  refine lv_iload_n G.1 G.2.1 dL_chains_0 rfl (lv_at hl 1 rfl) ?_
  refine gn_nez G (by decide) (tgt := 12) dL_chains_1 (by decide) (fun _ => ?_) (fun h => absurd h (by decide))
  refine lv_iload_n G.1 G.2.1 dL_chains_12 rfl (lv_at hl 1 rfl) ?_
  refine lv_iconst (v := nI 1) G.1 G.2.1 dL_chains_13 (by decide) ?_
  refine gn_ne G (by decide) (by decide) (tgt := 33) dL_chains_14 (by decide) (fun _ => ?_) (fun h => absurd h (by decide))
  refine lv_iload_n G.1 G.2.1 dL_chains_33 rfl (lv_at hl 1 rfl) ?_
  refine lv_iconst (v := nI 2) G.1 G.2.1 dL_chains_34 (by decide) ?_
  refine gn_ne G (by decide) (by decide) (tgt := 46) dL_chains_35 (by decide) (fun h => absurd rfl h) (fun _ => ?_)
  refine lv_aload_n G.1 G.2.1 dL_chains_38 rfl (lv_at hl 0 rfl) ?_
  refine lv_iload_n G.1 G.2.1 dL_chains_39 rfl (lv_at hl 2 rfl) ?_
  refine gl_call (rest := []) (vx_runV (As := [.int i1]) (rest := []) G.fix (mX0_gap l hst D q cI N S tr A hok hinv i1) (cwV 1 G.2.2.2.2.2.1 gL_chains_X0_gap rfl rfl rfl (by decide +kernel) ⟨Nat.le_of_ble_eq_true rfl, Nat.le_of_ble_eq_true rfl⟩) ⟨xAt_blind, va_recv hx.2.1 hx.1 (ci := 0) (q0 := 0) rfl rfl, fun U hU hW => ⟨rfl, by show xAt _ _ _ _ _ _ _ U U.heap; rw [hU]; exact hx.moved hW⟩⟩ rfl rfl hl.1 rfl (lv_room (Nat.le_of_ble_eq_true rfl)) dL_chains_40 ⟨Nat.le_of_ble_eq_true rfl, Nat.le_of_ble_eq_true rfl⟩) (fun E ce q9 tr2 H1 L hE hP hz hk hL hce hcv hcl => ?_) (fun r N2 S2 tr2 H1 L hp hP hz hk hL => ?_)
  · have hS2 : va_S A s.heap H1 ([] ++ L) := ⟨hz, hk, hL⟩
    rcases hE with ⟨rfl, h1⟩ | ⟨rfl, h1, h2⟩ | ⟨rfl, h1, h2, h3⟩
    · have hk9 : sj_gap N S i1 = 1 := gk_f h1
      refine vx_catch (own := RL) (name := gIO) G.2.2.2.2.1 [] ⟨0, 51, 52, 37⟩ [⟨0, 51, 56, 41⟩] (hT.trans rfl) (fun _ h => nomatch h) (by decide) (by decide) (G.2.2.2.2.2.1 (.classLink RL 37 gIO) (by decide +kernel)) (va_Nw.use rfl (z3 (.castable gIO gIO) (by decide +kernel))) hce hcv hcl ?_
      refine lv_astore_n (lv' := [(3, .ref q9), (0, .ref (q 0)), (1, .int (nI 2)), (2, .int i1)]) G.1 G.2.1 dL_chains_52 rfl hl (by decide) rfl (fun ls hl => ?_)
      refine lv_bipush (v := -101) G.1 G.2.1 dL_chains_53 (by decide) ?_
      exact W.iret G.1 G.2.1 G.2.2.1 (fun t ht hW => ⟨-101, N, S, tr2, rfl, ⟨by rw [hk9]; rfl, by rw [hk9]; rfl, by rw [hk9]; rfl⟩, by rw [ht]; exact hP, hS2.F ht⟩) hS2.2.2 dL_chains_55 G.2.2.2.2.2.2
    · exact absurd h2 (by show ¬ (true = false); decide)
    · exact absurd h3 (by show ¬ (true = false); decide)
  · obtain ⟨hA, hB, hC, rfl, e2, e3⟩ := hp
    rw [e2, e3] at hP
    have hS2 : va_S A s.heap H1 ([] ++ L) := ⟨hz, hk, hL⟩
    have hk9 : sj_gap N S i1 = 0 := gk_ttt hA hB hC
    refine lv_goto (tgt := 51) G.1 G.2.1 dL_chains_43 (by decide) ?_
    exact W.iret G.1 G.2.1 G.2.2.1 (fun t ht hW => ⟨nI (sR_gap N S i1), _, _, tr2, rfl, ⟨by rw [hk9]; rfl, by rw [if_pos hk9], by rw [if_pos hk9]⟩, by rw [ht]; exact hP, hS2.F ht⟩) hS2.2.2 dL_chains_51 G.2.2.2.2.2.2
set_option maxRecDepth 100000 in
set_option maxHeartbeats 800000 in
/-- the law calls greyGap -/
theorem mL_chains_greyGap (l : Launch) (hst : l.stackTraces = false) (D : va_G) (q : Nat → Nat) (cI : ClassId) (N : Nat → Nat) (S : Nat → Nat → Nat) (tr : Nat → Nat) (A : Nat → Prop) (hok : sp_ok N S) (hinv : sp_inv N S) (i1 : Int32) : Met l yL_chains wsL_chains { frames := 8, cells := 1, slots := 6, locals := 170 } (va_Pc [.ref (q 0), .int (nI 3), .int i1] (fun U => xAt D q cI N S tr A U U.heap)) (gQx D q cI (fun r N2 S2 => r = gRes (sj_greyGap N S i1) (sR_greyGap N S i1) ∧ N2 = (if sj_greyGap N S i1 = 0 then sN_greyGap N S i1 else N) ∧ S2 = (if sj_greyGap N S i1 = 0 then sS_greyGap N S i1 else S)) A) 1 6 A := by
  refine gc_metW [.ref (q 0), .int (nI 3), .int i1] (by decide) rfl (Nat.le_of_ble_eq_true rfl) rfl ?_
  intro p e s m below meth c ls G hT hl hx
  obtain ⟨z1, z2, z3, z4, z5, z6, z7⟩ := hx.2.2.2
  refine lv_iload_n G.1 G.2.1 dL_chains_0 rfl (lv_at hl 1 rfl) ?_
  refine gn_nez G (by decide) (tgt := 12) dL_chains_1 (by decide) (fun _ => ?_) (fun h => absurd h (by decide))
  refine lv_iload_n G.1 G.2.1 dL_chains_12 rfl (lv_at hl 1 rfl) ?_
  refine lv_iconst (v := nI 1) G.1 G.2.1 dL_chains_13 (by decide) ?_
  refine gn_ne G (by decide) (by decide) (tgt := 33) dL_chains_14 (by decide) (fun _ => ?_) (fun h => absurd h (by decide))
  refine lv_iload_n G.1 G.2.1 dL_chains_33 rfl (lv_at hl 1 rfl) ?_
  refine lv_iconst (v := nI 2) G.1 G.2.1 dL_chains_34 (by decide) ?_
  refine gn_ne G (by decide) (by decide) (tgt := 46) dL_chains_35 (by decide) (fun _ => ?_) (fun h => absurd h (by decide))
  refine lv_aload_n G.1 G.2.1 dL_chains_46 rfl (lv_at hl 0 rfl) ?_
  refine lv_iload_n G.1 G.2.1 dL_chains_47 rfl (lv_at hl 2 rfl) ?_
  refine gl_call (rest := []) (vx_runV (As := [.int i1]) (rest := []) G.fix (mX0_greyGap l hst D q cI N S tr A hok hinv i1) (cwV 1 G.2.2.2.2.2.1 gL_chains_X0_greyGap rfl rfl rfl (by decide +kernel) ⟨Nat.le_of_ble_eq_true rfl, Nat.le_of_ble_eq_true rfl⟩) ⟨xAt_blind, va_recv hx.2.1 hx.1 (ci := 0) (q0 := 0) rfl rfl, fun U hU hW => ⟨rfl, by show xAt _ _ _ _ _ _ _ U U.heap; rw [hU]; exact hx.moved hW⟩⟩ rfl rfl hl.1 rfl (lv_room (Nat.le_of_ble_eq_true rfl)) dL_chains_48 ⟨Nat.le_of_ble_eq_true rfl, Nat.le_of_ble_eq_true rfl⟩) (fun E ce q9 tr2 H1 L hE hP hz hk hL hce hcv hcl => ?_) (fun r N2 S2 tr2 H1 L hp hP hz hk hL => ?_)
  · have hS2 : va_S A s.heap H1 ([] ++ L) := ⟨hz, hk, hL⟩
    rcases hE with ⟨rfl, h1⟩ | ⟨rfl, h1, h2⟩ | ⟨rfl, h1, h2, h3⟩
    · have hk9 : sj_greyGap N S i1 = 1 := gk_f h1
      refine vx_catch (own := RL) (name := gIO) G.2.2.2.2.1 [] ⟨0, 51, 52, 37⟩ [⟨0, 51, 56, 41⟩] (hT.trans rfl) (fun _ h => nomatch h) (by decide) (by decide) (G.2.2.2.2.2.1 (.classLink RL 37 gIO) (by decide +kernel)) (va_Nw.use rfl (z3 (.castable gIO gIO) (by decide +kernel))) hce hcv hcl ?_
      refine lv_astore_n (lv' := [(3, .ref q9), (0, .ref (q 0)), (1, .int (nI 3)), (2, .int i1)]) G.1 G.2.1 dL_chains_52 rfl hl (by decide) rfl (fun ls hl => ?_)
      refine lv_bipush (v := -101) G.1 G.2.1 dL_chains_53 (by decide) ?_
      exact W.iret G.1 G.2.1 G.2.2.1 (fun t ht hW => ⟨-101, N, S, tr2, rfl, ⟨by rw [hk9]; rfl, by rw [hk9]; rfl, by rw [hk9]; rfl⟩, by rw [ht]; exact hP, hS2.F ht⟩) hS2.2.2 dL_chains_55 G.2.2.2.2.2.2
    · exact absurd h2 (by show ¬ (true = false); decide)
    · exact absurd h3 (by show ¬ (true = false); decide)
  · obtain ⟨hA, hB, hC, rfl, e2, e3⟩ := hp
    rw [e2, e3] at hP
    have hS2 : va_S A s.heap H1 ([] ++ L) := ⟨hz, hk, hL⟩
    have hk9 : sj_greyGap N S i1 = 0 := gk_ttt hA hB hC
    exact W.iret G.1 G.2.1 G.2.2.1 (fun t ht hW => ⟨nI (sR_greyGap N S i1), _, _, tr2, rfl, ⟨by rw [hk9]; rfl, by rw [if_pos hk9], by rw [if_pos hk9]⟩, by rw [ht]; exact hP, hS2.F ht⟩) hS2.2.2 dL_chains_51 G.2.2.2.2.2.2
set_option maxRecDepth 100000 in
set_option maxHeartbeats 800000 in
/-- the law calls curve -/
theorem mL_of_curve (l : Launch) (hst : l.stackTraces = false) (D : va_G) (q : Nat → Nat) (cI : ClassId) (N : Nat → Nat) (S : Nat → Nat → Nat) (tr : Nat → Nat) (A : Nat → Prop) (hok : sp_ok N S) (hinv : sp_inv N S) (i1 i2 i3 : Int32) : Met l yL_of wsL_of { frames := 8, cells := 1, slots := 6, locals := 147 } (va_Pc [.ref (q 0), .int (nI 0), .int i1, .int i2, .int i3] (fun U => xAt D q cI N S tr A U U.heap)) (gQx D q cI (fun r N2 S2 => r = gRes (sj_curve N S i1 i2 i3) (sR_curve N S i1 i2 i3) ∧ N2 = (if sj_curve N S i1 i2 i3 = 0 then sN_curve N S i1 i2 i3 else N) ∧ S2 = (if sj_curve N S i1 i2 i3 = 0 then sS_curve N S i1 i2 i3 else S)) A) 1 6 A := by
  refine gc_metW [.ref (q 0), .int (nI 0), .int i1, .int i2, .int i3] (by decide) rfl (Nat.le_of_ble_eq_true rfl) rfl ?_
  intro p e s m below meth c ls G hT hl hx
  obtain ⟨z1, z2, z3, z4, z5, z6, z7⟩ := hx.2.2.2
  refine lv_iload_n G.1 G.2.1 dL_of_0 rfl (lv_at hl 1 rfl) ?_
  refine gn_nez G (by decide) (tgt := 15) dL_of_1 (by decide) (fun h => absurd rfl h) (fun _ => ?_)
  refine lv_aload_n G.1 G.2.1 dL_of_4 rfl (lv_at hl 0 rfl) ?_
  refine lv_iload_n G.1 G.2.1 dL_of_5 rfl (lv_at hl 2 rfl) ?_
  refine lv_iload_n G.1 G.2.1 dL_of_6 rfl (lv_at hl 3 rfl) ?_
  refine lv_iload G.1 G.2.1 dL_of_7 (lv_at hl 4 rfl) ?_
  refine gl_call (rest := []) (vx_runV (As := [.int i1, .int i2, .int i3]) (rest := []) G.fix (mX0_curve l hst D q cI N S tr A hok hinv i1 i2 i3) (cwV 3 G.2.2.2.2.2.1 gL_of_X0_curve rfl rfl rfl (by decide +kernel) ⟨Nat.le_of_ble_eq_true rfl, Nat.le_of_ble_eq_true rfl⟩) ⟨xAt_blind, va_recv hx.2.1 hx.1 (ci := 0) (q0 := 0) rfl rfl, fun U hU hW => ⟨rfl, by show xAt _ _ _ _ _ _ _ U U.heap; rw [hU]; exact hx.moved hW⟩⟩ rfl rfl hl.1 rfl (lv_room (Nat.le_of_ble_eq_true rfl)) dL_of_9 ⟨Nat.le_of_ble_eq_true rfl, Nat.le_of_ble_eq_true rfl⟩) (fun E ce q9 tr2 H1 L hE hP hz hk hL hce hcv hcl => ?_) (fun r N2 S2 tr2 H1 L hp hP hz hk hL => ?_)
  · have hS2 : va_S A s.heap H1 ([] ++ L) := ⟨hz, hk, hL⟩
    rcases hE with ⟨rfl, h1⟩ | ⟨rfl, h1, h2⟩ | ⟨rfl, h1, h2, h3⟩
    · have hk9 : sj_curve N S i1 i2 i3 = 1 := gk_f h1
      refine vx_catch (own := RL) (name := gIO) G.2.2.2.2.1 [] ⟨0, 55, 56, 37⟩ [⟨0, 55, 61, 39⟩, ⟨0, 55, 66, 41⟩] (hT.trans rfl) (fun _ h => nomatch h) (by decide) (by decide) (G.2.2.2.2.2.1 (.classLink RL 37 gIO) (by decide +kernel)) (va_Nw.use rfl (z3 (.castable gIO gIO) (by decide +kernel))) hce hcv hcl ?_
      refine lv_astore (lv' := [(5, .ref q9), (0, .ref (q 0)), (1, .int (nI 0)), (2, .int i1), (3, .int i2), (4, .int i3)]) G.1 G.2.1 dL_of_56 hl (by decide) rfl (fun ls hl => ?_)
      refine lv_bipush (v := -101) G.1 G.2.1 dL_of_58 (by decide) ?_
      exact W.iret G.1 G.2.1 G.2.2.1 (fun t ht hW => ⟨-101, N, S, tr2, rfl, ⟨by rw [hk9]; rfl, by rw [hk9]; rfl, by rw [hk9]; rfl⟩, by rw [ht]; exact hP, hS2.F ht⟩) hS2.2.2 dL_of_60 G.2.2.2.2.2.2
    · have hk9 : sj_curve N S i1 i2 i3 = 2 := gk_tf h1 h2
      refine vx_catch (own := RL) (name := gIA) G.2.2.2.2.1 [⟨0, 55, 56, 37⟩] ⟨0, 55, 61, 39⟩ [⟨0, 55, 66, 41⟩] (hT.trans rfl) (List.forall_mem_cons.mpr ⟨Or.inr ⟨by decide, gIO, G.2.2.2.2.2.1 (.classLink RL 37 gIO) (by decide +kernel), z5⟩, fun _ h => nomatch h⟩) (by decide) (by decide) (G.2.2.2.2.2.1 (.classLink RL 39 gIA) (by decide +kernel)) (va_Nw.use rfl (z3 (.castable gIA gIA) (by decide +kernel))) hce hcv hcl ?_
      refine lv_astore (lv' := [(5, .ref q9), (0, .ref (q 0)), (1, .int (nI 0)), (2, .int i1), (3, .int i2), (4, .int i3)]) G.1 G.2.1 dL_of_61 hl (by decide) rfl (fun ls hl => ?_)
      refine lv_bipush (v := -102) G.1 G.2.1 dL_of_63 (by decide) ?_
      exact W.iret G.1 G.2.1 G.2.2.1 (fun t ht hW => ⟨-102, N, S, tr2, rfl, ⟨by rw [hk9]; rfl, by rw [hk9]; rfl, by rw [hk9]; rfl⟩, by rw [ht]; exact hP, hS2.F ht⟩) hS2.2.2 dL_of_65 G.2.2.2.2.2.2
    · exact absurd h3 (by show ¬ (true = false); decide)
  · obtain ⟨hA, hB, hC, rfl, e2, e3⟩ := hp
    rw [e2, e3] at hP
    have hS2 : va_S A s.heap H1 ([] ++ L) := ⟨hz, hk, hL⟩
    have hk9 : sj_curve N S i1 i2 i3 = 0 := gk_ttt hA hB hC
    refine lv_goto (tgt := 55) G.1 G.2.1 dL_of_12 (by decide) ?_
    exact W.iret G.1 G.2.1 G.2.2.1 (fun t ht hW => ⟨nI (sR_curve N S i1 i2 i3), _, _, tr2, rfl, ⟨by rw [hk9]; rfl, by rw [if_pos hk9], by rw [if_pos hk9]⟩, by rw [ht]; exact hP, hS2.F ht⟩) hS2.2.2 dL_of_55 G.2.2.2.2.2.2
set_option maxRecDepth 100000 in
set_option maxHeartbeats 800000 in
/-- the law calls taken -/
theorem mL_of_taken (l : Launch) (hst : l.stackTraces = false) (D : va_G) (q : Nat → Nat) (cI : ClassId) (N : Nat → Nat) (S : Nat → Nat → Nat) (tr : Nat → Nat) (A : Nat → Prop) (hok : sp_ok N S) (hinv : sp_inv N S) (i1 i2 i3 : Int32) : Met l yL_of wsL_of { frames := 8, cells := 1, slots := 6, locals := 147 } (va_Pc [.ref (q 0), .int (nI 1), .int i1, .int i2, .int i3] (fun U => xAt D q cI N S tr A U U.heap)) (gQx D q cI (fun r N2 S2 => r = gRes (sj_taken N S i1 i2 i3) (sR_taken N S i1 i2 i3) ∧ N2 = (if sj_taken N S i1 i2 i3 = 0 then sN_taken N S i1 i2 i3 else N) ∧ S2 = (if sj_taken N S i1 i2 i3 = 0 then sS_taken N S i1 i2 i3 else S)) A) 1 6 A := by
  refine gc_metW [.ref (q 0), .int (nI 1), .int i1, .int i2, .int i3] (by decide) rfl (Nat.le_of_ble_eq_true rfl) rfl ?_
  intro p e s m below meth c ls G hT hl hx
  obtain ⟨z1, z2, z3, z4, z5, z6, z7⟩ := hx.2.2.2
  refine lv_iload_n G.1 G.2.1 dL_of_0 rfl (lv_at hl 1 rfl) ?_
  refine gn_nez G (by decide) (tgt := 15) dL_of_1 (by decide) (fun _ => ?_) (fun h => absurd h (by decide))
  refine lv_iload_n G.1 G.2.1 dL_of_15 rfl (lv_at hl 1 rfl) ?_
  refine lv_iconst (v := nI 1) G.1 G.2.1 dL_of_16 (by decide) ?_
  refine gn_ne G (by decide) (by decide) (tgt := 31) dL_of_17 (by decide) (fun h => absurd rfl h) (fun _ => ?_)
  refine lv_aload_n G.1 G.2.1 dL_of_20 rfl (lv_at hl 0 rfl) ?_
  refine lv_iload_n G.1 G.2.1 dL_of_21 rfl (lv_at hl 2 rfl) ?_
  refine lv_iload_n G.1 G.2.1 dL_of_22 rfl (lv_at hl 3 rfl) ?_
  refine lv_iload G.1 G.2.1 dL_of_23 (lv_at hl 4 rfl) ?_
  refine gl_call (rest := []) (vx_runV (As := [.int i1, .int i2, .int i3]) (rest := []) G.fix (mX0_taken l hst D q cI N S tr A hok hinv i1 i2 i3) (cwV 3 G.2.2.2.2.2.1 gL_of_X0_taken rfl rfl rfl (by decide +kernel) ⟨Nat.le_of_ble_eq_true rfl, Nat.le_of_ble_eq_true rfl⟩) ⟨xAt_blind, va_recv hx.2.1 hx.1 (ci := 0) (q0 := 0) rfl rfl, fun U hU hW => ⟨rfl, by show xAt _ _ _ _ _ _ _ U U.heap; rw [hU]; exact hx.moved hW⟩⟩ rfl rfl hl.1 rfl (lv_room (Nat.le_of_ble_eq_true rfl)) dL_of_25 ⟨Nat.le_of_ble_eq_true rfl, Nat.le_of_ble_eq_true rfl⟩) (fun E ce q9 tr2 H1 L hE hP hz hk hL hce hcv hcl => ?_) (fun r N2 S2 tr2 H1 L hp hP hz hk hL => ?_)
  · have hS2 : va_S A s.heap H1 ([] ++ L) := ⟨hz, hk, hL⟩
    rcases hE with ⟨rfl, h1⟩ | ⟨rfl, h1, h2⟩ | ⟨rfl, h1, h2, h3⟩
    · have hk9 : sj_taken N S i1 i2 i3 = 1 := gk_f h1
      refine vx_catch (own := RL) (name := gIO) G.2.2.2.2.1 [] ⟨0, 55, 56, 37⟩ [⟨0, 55, 61, 39⟩, ⟨0, 55, 66, 41⟩] (hT.trans rfl) (fun _ h => nomatch h) (by decide) (by decide) (G.2.2.2.2.2.1 (.classLink RL 37 gIO) (by decide +kernel)) (va_Nw.use rfl (z3 (.castable gIO gIO) (by decide +kernel))) hce hcv hcl ?_
      refine lv_astore (lv' := [(5, .ref q9), (0, .ref (q 0)), (1, .int (nI 1)), (2, .int i1), (3, .int i2), (4, .int i3)]) G.1 G.2.1 dL_of_56 hl (by decide) rfl (fun ls hl => ?_)
      refine lv_bipush (v := -101) G.1 G.2.1 dL_of_58 (by decide) ?_
      exact W.iret G.1 G.2.1 G.2.2.1 (fun t ht hW => ⟨-101, N, S, tr2, rfl, ⟨by rw [hk9]; rfl, by rw [hk9]; rfl, by rw [hk9]; rfl⟩, by rw [ht]; exact hP, hS2.F ht⟩) hS2.2.2 dL_of_60 G.2.2.2.2.2.2
    · have hk9 : sj_taken N S i1 i2 i3 = 2 := gk_tf h1 h2
      refine vx_catch (own := RL) (name := gIA) G.2.2.2.2.1 [⟨0, 55, 56, 37⟩] ⟨0, 55, 61, 39⟩ [⟨0, 55, 66, 41⟩] (hT.trans rfl) (List.forall_mem_cons.mpr ⟨Or.inr ⟨by decide, gIO, G.2.2.2.2.2.1 (.classLink RL 37 gIO) (by decide +kernel), z5⟩, fun _ h => nomatch h⟩) (by decide) (by decide) (G.2.2.2.2.2.1 (.classLink RL 39 gIA) (by decide +kernel)) (va_Nw.use rfl (z3 (.castable gIA gIA) (by decide +kernel))) hce hcv hcl ?_
      refine lv_astore (lv' := [(5, .ref q9), (0, .ref (q 0)), (1, .int (nI 1)), (2, .int i1), (3, .int i2), (4, .int i3)]) G.1 G.2.1 dL_of_61 hl (by decide) rfl (fun ls hl => ?_)
      refine lv_bipush (v := -102) G.1 G.2.1 dL_of_63 (by decide) ?_
      exact W.iret G.1 G.2.1 G.2.2.1 (fun t ht hW => ⟨-102, N, S, tr2, rfl, ⟨by rw [hk9]; rfl, by rw [hk9]; rfl, by rw [hk9]; rfl⟩, by rw [ht]; exact hP, hS2.F ht⟩) hS2.2.2 dL_of_65 G.2.2.2.2.2.2
    · exact absurd h3 (by show ¬ (true = false); decide)
  · obtain ⟨hA, hB, hC, rfl, e2, e3⟩ := hp
    rw [e2, e3] at hP
    have hS2 : va_S A s.heap H1 ([] ++ L) := ⟨hz, hk, hL⟩
    have hk9 : sj_taken N S i1 i2 i3 = 0 := gk_ttt hA hB hC
    refine lv_goto (tgt := 55) G.1 G.2.1 dL_of_28 (by decide) ?_
    exact W.iret G.1 G.2.1 G.2.2.1 (fun t ht hW => ⟨nI (sR_taken N S i1 i2 i3), _, _, tr2, rfl, ⟨by rw [hk9]; rfl, by rw [if_pos hk9], by rw [if_pos hk9]⟩, by rw [ht]; exact hP, hS2.F ht⟩) hS2.2.2 dL_of_55 G.2.2.2.2.2.2
set_option maxRecDepth 100000 in
set_option maxHeartbeats 800000 in
/-- the law calls through -/
theorem mL_of_through (l : Launch) (hst : l.stackTraces = false) (D : va_G) (q : Nat → Nat) (cI : ClassId) (N : Nat → Nat) (S : Nat → Nat → Nat) (tr : Nat → Nat) (A : Nat → Prop) (hok : sp_ok N S) (hinv : sp_inv N S) (i1 i2 i3 : Int32) : Met l yL_of wsL_of { frames := 8, cells := 1, slots := 6, locals := 147 } (va_Pc [.ref (q 0), .int (nI 2), .int i1, .int i2, .int i3] (fun U => xAt D q cI N S tr A U U.heap)) (gQx D q cI (fun r N2 S2 => r = gRes (sj_through N S i1 i2 i3) (sR_through N S i1 i2 i3) ∧ N2 = (if sj_through N S i1 i2 i3 = 0 then sN_through N S i1 i2 i3 else N) ∧ S2 = (if sj_through N S i1 i2 i3 = 0 then sS_through N S i1 i2 i3 else S)) A) 1 6 A := by
  refine gc_metW [.ref (q 0), .int (nI 2), .int i1, .int i2, .int i3] (by decide) rfl (Nat.le_of_ble_eq_true rfl) rfl ?_
  intro p e s m below meth c ls G hT hl hx
  obtain ⟨z1, z2, z3, z4, z5, z6, z7⟩ := hx.2.2.2
  refine lv_iload_n G.1 G.2.1 dL_of_0 rfl (lv_at hl 1 rfl) ?_
  refine gn_nez G (by decide) (tgt := 15) dL_of_1 (by decide) (fun _ => ?_) (fun h => absurd h (by decide))
  refine lv_iload_n G.1 G.2.1 dL_of_15 rfl (lv_at hl 1 rfl) ?_
  refine lv_iconst (v := nI 1) G.1 G.2.1 dL_of_16 (by decide) ?_
  refine gn_ne G (by decide) (by decide) (tgt := 31) dL_of_17 (by decide) (fun _ => ?_) (fun h => absurd h (by decide))
  refine lv_iload_n G.1 G.2.1 dL_of_31 rfl (lv_at hl 1 rfl) ?_
  refine lv_iconst (v := nI 2) G.1 G.2.1 dL_of_32 (by decide) ?_
  refine gn_ne G (by decide) (by decide) (tgt := 47) dL_of_33 (by decide) (fun h => absurd rfl h) (fun _ => ?_)
  refine lv_aload_n G.1 G.2.1 dL_of_36 rfl (lv_at hl 0 rfl) ?_
  refine lv_iload_n G.1 G.2.1 dL_of_37 rfl (lv_at hl 2 rfl) ?_
  refine lv_iload_n G.1 G.2.1 dL_of_38 rfl (lv_at hl 3 rfl) ?_
  refine lv_iload G.1 G.2.1 dL_of_39 (lv_at hl 4 rfl) ?_
  refine gl_call (rest := []) (vx_runV (As := [.int i1, .int i2, .int i3]) (rest := []) G.fix (mX0_through l hst D q cI N S tr A hok hinv i1 i2 i3) (cwV 3 G.2.2.2.2.2.1 gL_of_X0_through rfl rfl rfl (by decide +kernel) ⟨Nat.le_of_ble_eq_true rfl, Nat.le_of_ble_eq_true rfl⟩) ⟨xAt_blind, va_recv hx.2.1 hx.1 (ci := 0) (q0 := 0) rfl rfl, fun U hU hW => ⟨rfl, by show xAt _ _ _ _ _ _ _ U U.heap; rw [hU]; exact hx.moved hW⟩⟩ rfl rfl hl.1 rfl (lv_room (Nat.le_of_ble_eq_true rfl)) dL_of_41 ⟨Nat.le_of_ble_eq_true rfl, Nat.le_of_ble_eq_true rfl⟩) (fun E ce q9 tr2 H1 L hE hP hz hk hL hce hcv hcl => ?_) (fun r N2 S2 tr2 H1 L hp hP hz hk hL => ?_)
  · have hS2 : va_S A s.heap H1 ([] ++ L) := ⟨hz, hk, hL⟩
    rcases hE with ⟨rfl, h1⟩ | ⟨rfl, h1, h2⟩ | ⟨rfl, h1, h2, h3⟩
    · have hk9 : sj_through N S i1 i2 i3 = 1 := gk_f h1
      refine vx_catch (own := RL) (name := gIO) G.2.2.2.2.1 [] ⟨0, 55, 56, 37⟩ [⟨0, 55, 61, 39⟩, ⟨0, 55, 66, 41⟩] (hT.trans rfl) (fun _ h => nomatch h) (by decide) (by decide) (G.2.2.2.2.2.1 (.classLink RL 37 gIO) (by decide +kernel)) (va_Nw.use rfl (z3 (.castable gIO gIO) (by decide +kernel))) hce hcv hcl ?_
      refine lv_astore (lv' := [(5, .ref q9), (0, .ref (q 0)), (1, .int (nI 2)), (2, .int i1), (3, .int i2), (4, .int i3)]) G.1 G.2.1 dL_of_56 hl (by decide) rfl (fun ls hl => ?_)
      refine lv_bipush (v := -101) G.1 G.2.1 dL_of_58 (by decide) ?_
      exact W.iret G.1 G.2.1 G.2.2.1 (fun t ht hW => ⟨-101, N, S, tr2, rfl, ⟨by rw [hk9]; rfl, by rw [hk9]; rfl, by rw [hk9]; rfl⟩, by rw [ht]; exact hP, hS2.F ht⟩) hS2.2.2 dL_of_60 G.2.2.2.2.2.2
    · have hk9 : sj_through N S i1 i2 i3 = 2 := gk_tf h1 h2
      refine vx_catch (own := RL) (name := gIA) G.2.2.2.2.1 [⟨0, 55, 56, 37⟩] ⟨0, 55, 61, 39⟩ [⟨0, 55, 66, 41⟩] (hT.trans rfl) (List.forall_mem_cons.mpr ⟨Or.inr ⟨by decide, gIO, G.2.2.2.2.2.1 (.classLink RL 37 gIO) (by decide +kernel), z5⟩, fun _ h => nomatch h⟩) (by decide) (by decide) (G.2.2.2.2.2.1 (.classLink RL 39 gIA) (by decide +kernel)) (va_Nw.use rfl (z3 (.castable gIA gIA) (by decide +kernel))) hce hcv hcl ?_
      refine lv_astore (lv' := [(5, .ref q9), (0, .ref (q 0)), (1, .int (nI 2)), (2, .int i1), (3, .int i2), (4, .int i3)]) G.1 G.2.1 dL_of_61 hl (by decide) rfl (fun ls hl => ?_)
      refine lv_bipush (v := -102) G.1 G.2.1 dL_of_63 (by decide) ?_
      exact W.iret G.1 G.2.1 G.2.2.1 (fun t ht hW => ⟨-102, N, S, tr2, rfl, ⟨by rw [hk9]; rfl, by rw [hk9]; rfl, by rw [hk9]; rfl⟩, by rw [ht]; exact hP, hS2.F ht⟩) hS2.2.2 dL_of_65 G.2.2.2.2.2.2
    · exact absurd h3 (by show ¬ (true = false); decide)
  · obtain ⟨hA, hB, hC, rfl, e2, e3⟩ := hp
    rw [e2, e3] at hP
    have hS2 : va_S A s.heap H1 ([] ++ L) := ⟨hz, hk, hL⟩
    have hk9 : sj_through N S i1 i2 i3 = 0 := gk_ttt hA hB hC
    refine lv_goto (tgt := 55) G.1 G.2.1 dL_of_44 (by decide) ?_
    exact W.iret G.1 G.2.1 G.2.2.1 (fun t ht hW => ⟨nI (sR_through N S i1 i2 i3), _, _, tr2, rfl, ⟨by rw [hk9]; rfl, by rw [if_pos hk9], by rw [if_pos hk9]⟩, by rw [ht]; exact hP, hS2.F ht⟩) hS2.2.2 dL_of_55 G.2.2.2.2.2.2
set_option maxRecDepth 100000 in
set_option maxHeartbeats 800000 in
/-- the law calls joined -/
theorem mL_of_joined (l : Launch) (hst : l.stackTraces = false) (D : va_G) (q : Nat → Nat) (cI : ClassId) (N : Nat → Nat) (S : Nat → Nat → Nat) (tr : Nat → Nat) (A : Nat → Prop) (hok : sp_ok N S) (hinv : sp_inv N S) (i1 i2 i3 : Int32) : Met l yL_of wsL_of { frames := 8, cells := 1, slots := 6, locals := 147 } (va_Pc [.ref (q 0), .int (nI 3), .int i1, .int i2, .int i3] (fun U => xAt D q cI N S tr A U U.heap)) (gQx D q cI (fun r N2 S2 => r = gRes (sj_joined N S i1 i2 i3) (sR_joined N S i1 i2 i3) ∧ N2 = (if sj_joined N S i1 i2 i3 = 0 then sN_joined N S i1 i2 i3 else N) ∧ S2 = (if sj_joined N S i1 i2 i3 = 0 then sS_joined N S i1 i2 i3 else S)) A) 1 6 A := by
  refine gc_metW [.ref (q 0), .int (nI 3), .int i1, .int i2, .int i3] (by decide) rfl (Nat.le_of_ble_eq_true rfl) rfl ?_
  intro p e s m below meth c ls G hT hl hx
  obtain ⟨z1, z2, z3, z4, z5, z6, z7⟩ := hx.2.2.2
  refine lv_iload_n G.1 G.2.1 dL_of_0 rfl (lv_at hl 1 rfl) ?_
  refine gn_nez G (by decide) (tgt := 15) dL_of_1 (by decide) (fun _ => ?_) (fun h => absurd h (by decide))
  refine lv_iload_n G.1 G.2.1 dL_of_15 rfl (lv_at hl 1 rfl) ?_
  refine lv_iconst (v := nI 1) G.1 G.2.1 dL_of_16 (by decide) ?_
  refine gn_ne G (by decide) (by decide) (tgt := 31) dL_of_17 (by decide) (fun _ => ?_) (fun h => absurd h (by decide))
  refine lv_iload_n G.1 G.2.1 dL_of_31 rfl (lv_at hl 1 rfl) ?_
  refine lv_iconst (v := nI 2) G.1 G.2.1 dL_of_32 (by decide) ?_
  refine gn_ne G (by decide) (by decide) (tgt := 47) dL_of_33 (by decide) (fun _ => ?_) (fun h => absurd h (by decide))
  refine lv_aload_n G.1 G.2.1 dL_of_47 rfl (lv_at hl 0 rfl) ?_
  refine lv_iload_n G.1 G.2.1 dL_of_48 rfl (lv_at hl 2 rfl) ?_
  refine lv_iload_n G.1 G.2.1 dL_of_49 rfl (lv_at hl 3 rfl) ?_
  refine lv_iload G.1 G.2.1 dL_of_50 (lv_at hl 4 rfl) ?_
  refine gl_call (rest := []) (vx_runV (As := [.int i1, .int i2, .int i3]) (rest := []) G.fix (mX0_joined l hst D q cI N S tr A hok hinv i1 i2 i3) (cwV 3 G.2.2.2.2.2.1 gL_of_X0_joined rfl rfl rfl (by decide +kernel) ⟨Nat.le_of_ble_eq_true rfl, Nat.le_of_ble_eq_true rfl⟩) ⟨xAt_blind, va_recv hx.2.1 hx.1 (ci := 0) (q0 := 0) rfl rfl, fun U hU hW => ⟨rfl, by show xAt _ _ _ _ _ _ _ U U.heap; rw [hU]; exact hx.moved hW⟩⟩ rfl rfl hl.1 rfl (lv_room (Nat.le_of_ble_eq_true rfl)) dL_of_52 ⟨Nat.le_of_ble_eq_true rfl, Nat.le_of_ble_eq_true rfl⟩) (fun E ce q9 tr2 H1 L hE hP hz hk hL hce hcv hcl => ?_) (fun r N2 S2 tr2 H1 L hp hP hz hk hL => ?_)
  · have hS2 : va_S A s.heap H1 ([] ++ L) := ⟨hz, hk, hL⟩
    rcases hE with ⟨rfl, h1⟩ | ⟨rfl, h1, h2⟩ | ⟨rfl, h1, h2, h3⟩
    · have hk9 : sj_joined N S i1 i2 i3 = 1 := gk_f h1
      refine vx_catch (own := RL) (name := gIO) G.2.2.2.2.1 [] ⟨0, 55, 56, 37⟩ [⟨0, 55, 61, 39⟩, ⟨0, 55, 66, 41⟩] (hT.trans rfl) (fun _ h => nomatch h) (by decide) (by decide) (G.2.2.2.2.2.1 (.classLink RL 37 gIO) (by decide +kernel)) (va_Nw.use rfl (z3 (.castable gIO gIO) (by decide +kernel))) hce hcv hcl ?_
      refine lv_astore (lv' := [(5, .ref q9), (0, .ref (q 0)), (1, .int (nI 3)), (2, .int i1), (3, .int i2), (4, .int i3)]) G.1 G.2.1 dL_of_56 hl (by decide) rfl (fun ls hl => ?_)
      refine lv_bipush (v := -101) G.1 G.2.1 dL_of_58 (by decide) ?_
      exact W.iret G.1 G.2.1 G.2.2.1 (fun t ht hW => ⟨-101, N, S, tr2, rfl, ⟨by rw [hk9]; rfl, by rw [hk9]; rfl, by rw [hk9]; rfl⟩, by rw [ht]; exact hP, hS2.F ht⟩) hS2.2.2 dL_of_60 G.2.2.2.2.2.2
    · have hk9 : sj_joined N S i1 i2 i3 = 2 := gk_tf h1 h2
      refine vx_catch (own := RL) (name := gIA) G.2.2.2.2.1 [⟨0, 55, 56, 37⟩] ⟨0, 55, 61, 39⟩ [⟨0, 55, 66, 41⟩] (hT.trans rfl) (List.forall_mem_cons.mpr ⟨Or.inr ⟨by decide, gIO, G.2.2.2.2.2.1 (.classLink RL 37 gIO) (by decide +kernel), z5⟩, fun _ h => nomatch h⟩) (by decide) (by decide) (G.2.2.2.2.2.1 (.classLink RL 39 gIA) (by decide +kernel)) (va_Nw.use rfl (z3 (.castable gIA gIA) (by decide +kernel))) hce hcv hcl ?_
      refine lv_astore (lv' := [(5, .ref q9), (0, .ref (q 0)), (1, .int (nI 3)), (2, .int i1), (3, .int i2), (4, .int i3)]) G.1 G.2.1 dL_of_61 hl (by decide) rfl (fun ls hl => ?_)
      refine lv_bipush (v := -102) G.1 G.2.1 dL_of_63 (by decide) ?_
      exact W.iret G.1 G.2.1 G.2.2.1 (fun t ht hW => ⟨-102, N, S, tr2, rfl, ⟨by rw [hk9]; rfl, by rw [hk9]; rfl, by rw [hk9]; rfl⟩, by rw [ht]; exact hP, hS2.F ht⟩) hS2.2.2 dL_of_65 G.2.2.2.2.2.2
    · have hk9 : sj_joined N S i1 i2 i3 = 3 := gk_ttf h1 h2 h3
      refine vx_catch (own := RL) (name := gIS) G.2.2.2.2.1 [⟨0, 55, 56, 37⟩, ⟨0, 55, 61, 39⟩] ⟨0, 55, 66, 41⟩ [] (hT.trans rfl) (List.forall_mem_cons.mpr ⟨Or.inr ⟨by decide, gIO, G.2.2.2.2.2.1 (.classLink RL 37 gIO) (by decide +kernel), z6⟩, List.forall_mem_cons.mpr ⟨Or.inr ⟨by decide, gIA, G.2.2.2.2.2.1 (.classLink RL 39 gIA) (by decide +kernel), z7⟩, fun _ h => nomatch h⟩⟩) (by decide) (by decide) (G.2.2.2.2.2.1 (.classLink RL 41 gIS) (by decide +kernel)) (va_Nw.use rfl (z3 (.castable gIS gIS) (by decide +kernel))) hce hcv hcl ?_
      refine lv_astore (lv' := [(5, .ref q9), (0, .ref (q 0)), (1, .int (nI 3)), (2, .int i1), (3, .int i2), (4, .int i3)]) G.1 G.2.1 dL_of_66 hl (by decide) rfl (fun ls hl => ?_)
      refine lv_bipush (v := -103) G.1 G.2.1 dL_of_68 (by decide) ?_
      exact W.iret G.1 G.2.1 G.2.2.1 (fun t ht hW => ⟨-103, N, S, tr2, rfl, ⟨by rw [hk9]; rfl, by rw [hk9]; rfl, by rw [hk9]; rfl⟩, by rw [ht]; exact hP, hS2.F ht⟩) hS2.2.2 dL_of_70 G.2.2.2.2.2.2
  · obtain ⟨hA, hB, hC, rfl, e2, e3⟩ := hp
    rw [e2, e3] at hP
    have hS2 : va_S A s.heap H1 ([] ++ L) := ⟨hz, hk, hL⟩
    have hk9 : sj_joined N S i1 i2 i3 = 0 := gk_ttt hA hB hC
    exact W.iret G.1 G.2.1 G.2.2.1 (fun t ht hW => ⟨nI (sR_joined N S i1 i2 i3), _, _, tr2, rfl, ⟨by rw [hk9]; rfl, by rw [if_pos hk9], by rw [if_pos hk9]⟩, by rw [ht]; exact hP, hS2.F ht⟩) hS2.2.2 dL_of_55 G.2.2.2.2.2.2
set_option maxRecDepth 100000 in
set_option maxHeartbeats 800000 in
/-- the law calls paint -/
theorem mL_paints_paint (l : Launch) (hst : l.stackTraces = false) (D : va_G) (q : Nat → Nat) (cI : ClassId) (N : Nat → Nat) (S : Nat → Nat → Nat) (tr : Nat → Nat) (A : Nat → Prop) (hok : sp_ok N S) (hinv : sp_inv N S) (i1 i2 i3 : Int32) : Met l yL_paints wsL_paints { frames := 8, cells := 1, slots := 6, locals := 125 } (va_Pc [.ref (q 0), .int (nI 0), .int i1, .int i2, .int i3] (fun U => xAt D q cI N S tr A U U.heap)) (gQx D q cI (fun r N2 S2 => r = gRes (sj_paint N S i1 i2 i3) (sR_paint N S i1 i2 i3) ∧ N2 = (if sj_paint N S i1 i2 i3 = 0 then sN_paint N S i1 i2 i3 else N) ∧ S2 = (if sj_paint N S i1 i2 i3 = 0 then sS_paint N S i1 i2 i3 else S)) A) 1 6 A := by
  refine gc_metW [.ref (q 0), .int (nI 0), .int i1, .int i2, .int i3] (by decide) rfl (Nat.le_of_ble_eq_true rfl) rfl ?_
  intro p e s m below meth c ls G hT hl hx
  obtain ⟨z1, z2, z3, z4, z5, z6, z7⟩ := hx.2.2.2
  refine lv_iload_n G.1 G.2.1 dL_paints_0 rfl (lv_at hl 1 rfl) ?_
  refine gn_nez G (by decide) (tgt := 15) dL_paints_1 (by decide) (fun h => absurd rfl h) (fun _ => ?_)
  refine lv_aload_n G.1 G.2.1 dL_paints_4 rfl (lv_at hl 0 rfl) ?_
  refine lv_iload_n G.1 G.2.1 dL_paints_5 rfl (lv_at hl 2 rfl) ?_
  refine lv_iload_n G.1 G.2.1 dL_paints_6 rfl (lv_at hl 3 rfl) ?_
  refine lv_iload G.1 G.2.1 dL_paints_7 (lv_at hl 4 rfl) ?_
  refine gl_call (rest := []) (vx_runV (As := [.int i1, .int i2, .int i3]) (rest := []) G.fix (mX0_paint l hst D q cI N S tr A hok hinv i1 i2 i3) (cwV 3 G.2.2.2.2.2.1 gL_paints_X0_paint rfl rfl rfl (by decide +kernel) ⟨Nat.le_of_ble_eq_true rfl, Nat.le_of_ble_eq_true rfl⟩) ⟨xAt_blind, va_recv hx.2.1 hx.1 (ci := 0) (q0 := 0) rfl rfl, fun U hU hW => ⟨rfl, by show xAt _ _ _ _ _ _ _ U U.heap; rw [hU]; exact hx.moved hW⟩⟩ rfl rfl hl.1 rfl (lv_room (Nat.le_of_ble_eq_true rfl)) dL_paints_9 ⟨Nat.le_of_ble_eq_true rfl, Nat.le_of_ble_eq_true rfl⟩) (fun E ce q9 tr2 H1 L hE hP hz hk hL hce hcv hcl => ?_) (fun r N2 S2 tr2 H1 L hp hP hz hk hL => ?_)
  · have hS2 : va_S A s.heap H1 ([] ++ L) := ⟨hz, hk, hL⟩
    rcases hE with ⟨rfl, h1⟩ | ⟨rfl, h1, h2⟩ | ⟨rfl, h1, h2, h3⟩
    · have hk9 : sj_paint N S i1 i2 i3 = 1 := gk_f h1
      refine vx_catch (own := RL) (name := gIO) G.2.2.2.2.1 [] ⟨0, 39, 40, 37⟩ [⟨0, 39, 45, 39⟩] (hT.trans rfl) (fun _ h => nomatch h) (by decide) (by decide) (G.2.2.2.2.2.1 (.classLink RL 37 gIO) (by decide +kernel)) (va_Nw.use rfl (z3 (.castable gIO gIO) (by decide +kernel))) hce hcv hcl ?_
      refine lv_astore (lv' := [(5, .ref q9), (0, .ref (q 0)), (1, .int (nI 0)), (2, .int i1), (3, .int i2), (4, .int i3)]) G.1 G.2.1 dL_paints_40 hl (by decide) rfl (fun ls hl => ?_)
      refine lv_bipush (v := -101) G.1 G.2.1 dL_paints_42 (by decide) ?_
      exact W.iret G.1 G.2.1 G.2.2.1 (fun t ht hW => ⟨-101, N, S, tr2, rfl, ⟨by rw [hk9]; rfl, by rw [hk9]; rfl, by rw [hk9]; rfl⟩, by rw [ht]; exact hP, hS2.F ht⟩) hS2.2.2 dL_paints_44 G.2.2.2.2.2.2
    · have hk9 : sj_paint N S i1 i2 i3 = 2 := gk_tf h1 h2
      refine vx_catch (own := RL) (name := gIA) G.2.2.2.2.1 [⟨0, 39, 40, 37⟩] ⟨0, 39, 45, 39⟩ [] (hT.trans rfl) (List.forall_mem_cons.mpr ⟨Or.inr ⟨by decide, gIO, G.2.2.2.2.2.1 (.classLink RL 37 gIO) (by decide +kernel), z5⟩, fun _ h => nomatch h⟩) (by decide) (by decide) (G.2.2.2.2.2.1 (.classLink RL 39 gIA) (by decide +kernel)) (va_Nw.use rfl (z3 (.castable gIA gIA) (by decide +kernel))) hce hcv hcl ?_
      refine lv_astore (lv' := [(5, .ref q9), (0, .ref (q 0)), (1, .int (nI 0)), (2, .int i1), (3, .int i2), (4, .int i3)]) G.1 G.2.1 dL_paints_45 hl (by decide) rfl (fun ls hl => ?_)
      refine lv_bipush (v := -102) G.1 G.2.1 dL_paints_47 (by decide) ?_
      exact W.iret G.1 G.2.1 G.2.2.1 (fun t ht hW => ⟨-102, N, S, tr2, rfl, ⟨by rw [hk9]; rfl, by rw [hk9]; rfl, by rw [hk9]; rfl⟩, by rw [ht]; exact hP, hS2.F ht⟩) hS2.2.2 dL_paints_49 G.2.2.2.2.2.2
    · exact absurd h3 (by show ¬ (true = false); decide)
  · obtain ⟨hA, hB, hC, rfl, e2, e3⟩ := hp
    rw [e2, e3] at hP
    have hS2 : va_S A s.heap H1 ([] ++ L) := ⟨hz, hk, hL⟩
    have hk9 : sj_paint N S i1 i2 i3 = 0 := gk_ttt hA hB hC
    refine lv_goto (tgt := 39) G.1 G.2.1 dL_paints_12 (by decide) ?_
    exact W.iret G.1 G.2.1 G.2.2.1 (fun t ht hW => ⟨nI (sR_paint N S i1 i2 i3), _, _, tr2, rfl, ⟨by rw [hk9]; rfl, by rw [if_pos hk9], by rw [if_pos hk9]⟩, by rw [ht]; exact hP, hS2.F ht⟩) hS2.2.2 dL_paints_39 G.2.2.2.2.2.2
set_option maxRecDepth 100000 in
set_option maxHeartbeats 800000 in
/-- the law calls spot -/
theorem mL_paints_spot (l : Launch) (hst : l.stackTraces = false) (D : va_G) (q : Nat → Nat) (cI : ClassId) (N : Nat → Nat) (S : Nat → Nat → Nat) (tr : Nat → Nat) (A : Nat → Prop) (hok : sp_ok N S) (hinv : sp_inv N S) (i1 i2 i3 : Int32) : Met l yL_paints wsL_paints { frames := 8, cells := 1, slots := 6, locals := 125 } (va_Pc [.ref (q 0), .int (nI 1), .int i1, .int i2, .int i3] (fun U => xAt D q cI N S tr A U U.heap)) (gQx D q cI (fun r N2 S2 => r = gRes (sj_spot N S i1 i2 i3) (sR_spot N S i1 i2 i3) ∧ N2 = (if sj_spot N S i1 i2 i3 = 0 then sN_spot N S i1 i2 i3 else N) ∧ S2 = (if sj_spot N S i1 i2 i3 = 0 then sS_spot N S i1 i2 i3 else S)) A) 1 6 A := by
  refine gc_metW [.ref (q 0), .int (nI 1), .int i1, .int i2, .int i3] (by decide) rfl (Nat.le_of_ble_eq_true rfl) rfl ?_
  intro p e s m below meth c ls G hT hl hx
  obtain ⟨z1, z2, z3, z4, z5, z6, z7⟩ := hx.2.2.2
  refine lv_iload_n G.1 G.2.1 dL_paints_0 rfl (lv_at hl 1 rfl) ?_
  refine gn_nez G (by decide) (tgt := 15) dL_paints_1 (by decide) (fun _ => ?_) (fun h => absurd h (by decide))
  refine lv_iload_n G.1 G.2.1 dL_paints_15 rfl (lv_at hl 1 rfl) ?_
  refine lv_iconst (v := nI 1) G.1 G.2.1 dL_paints_16 (by decide) ?_
  refine gn_ne G (by decide) (by decide) (tgt := 31) dL_paints_17 (by decide) (fun h => absurd rfl h) (fun _ => ?_)
  refine lv_aload_n G.1 G.2.1 dL_paints_20 rfl (lv_at hl 0 rfl) ?_
  refine lv_iload_n G.1 G.2.1 dL_paints_21 rfl (lv_at hl 2 rfl) ?_
  refine lv_iload_n G.1 G.2.1 dL_paints_22 rfl (lv_at hl 3 rfl) ?_
  refine lv_iload G.1 G.2.1 dL_paints_23 (lv_at hl 4 rfl) ?_
  refine gl_call (rest := []) (vx_runV (As := [.int i1, .int i2, .int i3]) (rest := []) G.fix (mX0_spot l hst D q cI N S tr A hok hinv i1 i2 i3) (cwV 3 G.2.2.2.2.2.1 gL_paints_X0_spot rfl rfl rfl (by decide +kernel) ⟨Nat.le_of_ble_eq_true rfl, Nat.le_of_ble_eq_true rfl⟩) ⟨xAt_blind, va_recv hx.2.1 hx.1 (ci := 0) (q0 := 0) rfl rfl, fun U hU hW => ⟨rfl, by show xAt _ _ _ _ _ _ _ U U.heap; rw [hU]; exact hx.moved hW⟩⟩ rfl rfl hl.1 rfl (lv_room (Nat.le_of_ble_eq_true rfl)) dL_paints_25 ⟨Nat.le_of_ble_eq_true rfl, Nat.le_of_ble_eq_true rfl⟩) (fun E ce q9 tr2 H1 L hE hP hz hk hL hce hcv hcl => ?_) (fun r N2 S2 tr2 H1 L hp hP hz hk hL => ?_)
  · have hS2 : va_S A s.heap H1 ([] ++ L) := ⟨hz, hk, hL⟩
    rcases hE with ⟨rfl, h1⟩ | ⟨rfl, h1, h2⟩ | ⟨rfl, h1, h2, h3⟩
    · have hk9 : sj_spot N S i1 i2 i3 = 1 := gk_f h1
      refine vx_catch (own := RL) (name := gIO) G.2.2.2.2.1 [] ⟨0, 39, 40, 37⟩ [⟨0, 39, 45, 39⟩] (hT.trans rfl) (fun _ h => nomatch h) (by decide) (by decide) (G.2.2.2.2.2.1 (.classLink RL 37 gIO) (by decide +kernel)) (va_Nw.use rfl (z3 (.castable gIO gIO) (by decide +kernel))) hce hcv hcl ?_
      refine lv_astore (lv' := [(5, .ref q9), (0, .ref (q 0)), (1, .int (nI 1)), (2, .int i1), (3, .int i2), (4, .int i3)]) G.1 G.2.1 dL_paints_40 hl (by decide) rfl (fun ls hl => ?_)
      refine lv_bipush (v := -101) G.1 G.2.1 dL_paints_42 (by decide) ?_
      exact W.iret G.1 G.2.1 G.2.2.1 (fun t ht hW => ⟨-101, N, S, tr2, rfl, ⟨by rw [hk9]; rfl, by rw [hk9]; rfl, by rw [hk9]; rfl⟩, by rw [ht]; exact hP, hS2.F ht⟩) hS2.2.2 dL_paints_44 G.2.2.2.2.2.2
    · have hk9 : sj_spot N S i1 i2 i3 = 2 := gk_tf h1 h2
      refine vx_catch (own := RL) (name := gIA) G.2.2.2.2.1 [⟨0, 39, 40, 37⟩] ⟨0, 39, 45, 39⟩ [] (hT.trans rfl) (List.forall_mem_cons.mpr ⟨Or.inr ⟨by decide, gIO, G.2.2.2.2.2.1 (.classLink RL 37 gIO) (by decide +kernel), z5⟩, fun _ h => nomatch h⟩) (by decide) (by decide) (G.2.2.2.2.2.1 (.classLink RL 39 gIA) (by decide +kernel)) (va_Nw.use rfl (z3 (.castable gIA gIA) (by decide +kernel))) hce hcv hcl ?_
      refine lv_astore (lv' := [(5, .ref q9), (0, .ref (q 0)), (1, .int (nI 1)), (2, .int i1), (3, .int i2), (4, .int i3)]) G.1 G.2.1 dL_paints_45 hl (by decide) rfl (fun ls hl => ?_)
      refine lv_bipush (v := -102) G.1 G.2.1 dL_paints_47 (by decide) ?_
      exact W.iret G.1 G.2.1 G.2.2.1 (fun t ht hW => ⟨-102, N, S, tr2, rfl, ⟨by rw [hk9]; rfl, by rw [hk9]; rfl, by rw [hk9]; rfl⟩, by rw [ht]; exact hP, hS2.F ht⟩) hS2.2.2 dL_paints_49 G.2.2.2.2.2.2
    · exact absurd h3 (by show ¬ (true = false); decide)
  · obtain ⟨hA, hB, hC, rfl, e2, e3⟩ := hp
    rw [e2, e3] at hP
    have hS2 : va_S A s.heap H1 ([] ++ L) := ⟨hz, hk, hL⟩
    have hk9 : sj_spot N S i1 i2 i3 = 0 := gk_ttt hA hB hC
    refine lv_goto (tgt := 39) G.1 G.2.1 dL_paints_28 (by decide) ?_
    exact W.iret G.1 G.2.1 G.2.2.1 (fun t ht hW => ⟨nI (sR_spot N S i1 i2 i3), _, _, tr2, rfl, ⟨by rw [hk9]; rfl, by rw [if_pos hk9], by rw [if_pos hk9]⟩, by rw [ht]; exact hP, hS2.F ht⟩) hS2.2.2 dL_paints_39 G.2.2.2.2.2.2
set_option maxRecDepth 100000 in
set_option maxHeartbeats 800000 in
/-- the law calls mix -/
theorem mL_paints_mix (l : Launch) (hst : l.stackTraces = false) (D : va_G) (q : Nat → Nat) (cI : ClassId) (N : Nat → Nat) (S : Nat → Nat → Nat) (tr : Nat → Nat) (A : Nat → Prop) (hok : sp_ok N S) (hinv : sp_inv N S) (i1 i2 i3 : Int32) : Met l yL_paints wsL_paints { frames := 8, cells := 1, slots := 6, locals := 125 } (va_Pc [.ref (q 0), .int (nI 2), .int i1, .int i2, .int i3] (fun U => xAt D q cI N S tr A U U.heap)) (gQx D q cI (fun r N2 S2 => r = gRes (sj_mix N S i1 i2 i3) (sR_mix N S i1 i2 i3) ∧ N2 = (if sj_mix N S i1 i2 i3 = 0 then sN_mix N S i1 i2 i3 else N) ∧ S2 = (if sj_mix N S i1 i2 i3 = 0 then sS_mix N S i1 i2 i3 else S)) A) 1 6 A := by
  refine gc_metW [.ref (q 0), .int (nI 2), .int i1, .int i2, .int i3] (by decide) rfl (Nat.le_of_ble_eq_true rfl) rfl ?_
  intro p e s m below meth c ls G hT hl hx
  obtain ⟨z1, z2, z3, z4, z5, z6, z7⟩ := hx.2.2.2
  refine lv_iload_n G.1 G.2.1 dL_paints_0 rfl (lv_at hl 1 rfl) ?_
  refine gn_nez G (by decide) (tgt := 15) dL_paints_1 (by decide) (fun _ => ?_) (fun h => absurd h (by decide))
  refine lv_iload_n G.1 G.2.1 dL_paints_15 rfl (lv_at hl 1 rfl) ?_
  refine lv_iconst (v := nI 1) G.1 G.2.1 dL_paints_16 (by decide) ?_
  refine gn_ne G (by decide) (by decide) (tgt := 31) dL_paints_17 (by decide) (fun _ => ?_) (fun h => absurd h (by decide))
  refine lv_aload_n G.1 G.2.1 dL_paints_31 rfl (lv_at hl 0 rfl) ?_
  refine lv_iload_n G.1 G.2.1 dL_paints_32 rfl (lv_at hl 2 rfl) ?_
  refine lv_iload_n G.1 G.2.1 dL_paints_33 rfl (lv_at hl 3 rfl) ?_
  refine lv_iload G.1 G.2.1 dL_paints_34 (lv_at hl 4 rfl) ?_
  refine gl_call (rest := []) (vx_runV (As := [.int i1, .int i2, .int i3]) (rest := []) G.fix (mX0_mix l hst D q cI N S tr A hok hinv i1 i2 i3) (cwV 3 G.2.2.2.2.2.1 gL_paints_X0_mix rfl rfl rfl (by decide +kernel) ⟨Nat.le_of_ble_eq_true rfl, Nat.le_of_ble_eq_true rfl⟩) ⟨xAt_blind, va_recv hx.2.1 hx.1 (ci := 0) (q0 := 0) rfl rfl, fun U hU hW => ⟨rfl, by show xAt _ _ _ _ _ _ _ U U.heap; rw [hU]; exact hx.moved hW⟩⟩ rfl rfl hl.1 rfl (lv_room (Nat.le_of_ble_eq_true rfl)) dL_paints_36 ⟨Nat.le_of_ble_eq_true rfl, Nat.le_of_ble_eq_true rfl⟩) (fun E ce q9 tr2 H1 L hE hP hz hk hL hce hcv hcl => ?_) (fun r N2 S2 tr2 H1 L hp hP hz hk hL => ?_)
  · have hS2 : va_S A s.heap H1 ([] ++ L) := ⟨hz, hk, hL⟩
    rcases hE with ⟨rfl, h1⟩ | ⟨rfl, h1, h2⟩ | ⟨rfl, h1, h2, h3⟩
    · have hk9 : sj_mix N S i1 i2 i3 = 1 := gk_f h1
      refine vx_catch (own := RL) (name := gIO) G.2.2.2.2.1 [] ⟨0, 39, 40, 37⟩ [⟨0, 39, 45, 39⟩] (hT.trans rfl) (fun _ h => nomatch h) (by decide) (by decide) (G.2.2.2.2.2.1 (.classLink RL 37 gIO) (by decide +kernel)) (va_Nw.use rfl (z3 (.castable gIO gIO) (by decide +kernel))) hce hcv hcl ?_
      refine lv_astore (lv' := [(5, .ref q9), (0, .ref (q 0)), (1, .int (nI 2)), (2, .int i1), (3, .int i2), (4, .int i3)]) G.1 G.2.1 dL_paints_40 hl (by decide) rfl (fun ls hl => ?_)
      refine lv_bipush (v := -101) G.1 G.2.1 dL_paints_42 (by decide) ?_
      exact W.iret G.1 G.2.1 G.2.2.1 (fun t ht hW => ⟨-101, N, S, tr2, rfl, ⟨by rw [hk9]; rfl, by rw [hk9]; rfl, by rw [hk9]; rfl⟩, by rw [ht]; exact hP, hS2.F ht⟩) hS2.2.2 dL_paints_44 G.2.2.2.2.2.2
    · have hk9 : sj_mix N S i1 i2 i3 = 2 := gk_tf h1 h2
      refine vx_catch (own := RL) (name := gIA) G.2.2.2.2.1 [⟨0, 39, 40, 37⟩] ⟨0, 39, 45, 39⟩ [] (hT.trans rfl) (List.forall_mem_cons.mpr ⟨Or.inr ⟨by decide, gIO, G.2.2.2.2.2.1 (.classLink RL 37 gIO) (by decide +kernel), z5⟩, fun _ h => nomatch h⟩) (by decide) (by decide) (G.2.2.2.2.2.1 (.classLink RL 39 gIA) (by decide +kernel)) (va_Nw.use rfl (z3 (.castable gIA gIA) (by decide +kernel))) hce hcv hcl ?_
      refine lv_astore (lv' := [(5, .ref q9), (0, .ref (q 0)), (1, .int (nI 2)), (2, .int i1), (3, .int i2), (4, .int i3)]) G.1 G.2.1 dL_paints_45 hl (by decide) rfl (fun ls hl => ?_)
      refine lv_bipush (v := -102) G.1 G.2.1 dL_paints_47 (by decide) ?_
      exact W.iret G.1 G.2.1 G.2.2.1 (fun t ht hW => ⟨-102, N, S, tr2, rfl, ⟨by rw [hk9]; rfl, by rw [hk9]; rfl, by rw [hk9]; rfl⟩, by rw [ht]; exact hP, hS2.F ht⟩) hS2.2.2 dL_paints_49 G.2.2.2.2.2.2
    · exact absurd h3 (by show ¬ (true = false); decide)
  · obtain ⟨hA, hB, hC, rfl, e2, e3⟩ := hp
    rw [e2, e3] at hP
    have hS2 : va_S A s.heap H1 ([] ++ L) := ⟨hz, hk, hL⟩
    have hk9 : sj_mix N S i1 i2 i3 = 0 := gk_ttt hA hB hC
    exact W.iret G.1 G.2.1 G.2.2.1 (fun t ht hW => ⟨nI (sR_mix N S i1 i2 i3), _, _, tr2, rfl, ⟨by rw [hk9]; rfl, by rw [if_pos hk9], by rw [if_pos hk9]⟩, by rw [ht]; exact hP, hS2.F ht⟩) hS2.2.2 dL_paints_39 G.2.2.2.2.2.2
set_option maxRecDepth 100000 in
set_option maxHeartbeats 800000 in
/-- the law calls shown -/
theorem mL_shows (l : Launch) (hst : l.stackTraces = false) (D : va_G) (q : Nat → Nat) (cI : ClassId) (N : Nat → Nat) (S : Nat → Nat → Nat) (tr : Nat → Nat) (A : Nat → Prop) (hok : sp_ok N S) (hinv : sp_inv N S) (i1 i2 i3 i4 : Int32) : Met l yL_shows wsL_shows { frames := 8, cells := 1, slots := 6, locals := 148 } (va_Pc [.ref (q 0), .int i1, .int i2, .int i3, .int i4] (fun U => xAt D q cI N S tr A U U.heap)) (gQx D q cI (fun r N2 S2 => r = gRes (sj_shown N S i1 i2 i3 i4) (sR_shown N S i1 i2 i3 i4) ∧ N2 = (if sj_shown N S i1 i2 i3 i4 = 0 then sN_shown N S i1 i2 i3 i4 else N) ∧ S2 = (if sj_shown N S i1 i2 i3 i4 = 0 then sS_shown N S i1 i2 i3 i4 else S)) A) 1 6 A := by
  refine gc_metW [.ref (q 0), .int i1, .int i2, .int i3, .int i4] (by decide) rfl (Nat.le_of_ble_eq_true rfl) rfl ?_
  intro p e s m below meth c ls G hT hl hx
  obtain ⟨z1, z2, z3, z4, z5, z6, z7⟩ := hx.2.2.2
  refine lv_aload_n G.1 G.2.1 dL_shows_0 rfl (lv_at hl 0 rfl) ?_
  refine lv_iload_n G.1 G.2.1 dL_shows_1 rfl (lv_at hl 1 rfl) ?_
  refine lv_iload_n G.1 G.2.1 dL_shows_2 rfl (lv_at hl 2 rfl) ?_
  refine lv_iload_n G.1 G.2.1 dL_shows_3 rfl (lv_at hl 3 rfl) ?_
  refine lv_iload G.1 G.2.1 dL_shows_4 (lv_at hl 4 rfl) ?_
  refine gl_call (rest := []) (vx_runV (As := [.int i1, .int i2, .int i3, .int i4]) (rest := []) G.fix (mX0_shown l hst D q cI N S tr A hok hinv i1 i2 i3 i4) (cwV 4 G.2.2.2.2.2.1 gL_shows_X0_shown rfl rfl rfl (by decide +kernel) ⟨Nat.le_of_ble_eq_true rfl, Nat.le_of_ble_eq_true rfl⟩) ⟨xAt_blind, va_recv hx.2.1 hx.1 (ci := 0) (q0 := 0) rfl rfl, fun U hU hW => ⟨rfl, by show xAt _ _ _ _ _ _ _ U U.heap; rw [hU]; exact hx.moved hW⟩⟩ rfl rfl hl.1 rfl (lv_room (Nat.le_of_ble_eq_true rfl)) dL_shows_6 ⟨Nat.le_of_ble_eq_true rfl, Nat.le_of_ble_eq_true rfl⟩) (fun E ce q9 tr2 H1 L hE hP hz hk hL hce hcv hcl => ?_) (fun r N2 S2 tr2 H1 L hp hP hz hk hL => ?_)
  · have hS2 : va_S A s.heap H1 ([] ++ L) := ⟨hz, hk, hL⟩
    rcases hE with ⟨rfl, h1⟩ | ⟨rfl, h1, h2⟩ | ⟨rfl, h1, h2, h3⟩
    · have hk9 : sj_shown N S i1 i2 i3 i4 = 1 := gk_f h1
      refine vx_catch (own := RL) (name := gIO) G.2.2.2.2.1 [] ⟨0, 9, 10, 37⟩ [⟨0, 9, 15, 39⟩] (hT.trans rfl) (fun _ h => nomatch h) (by decide) (by decide) (G.2.2.2.2.2.1 (.classLink RL 37 gIO) (by decide +kernel)) (va_Nw.use rfl (z3 (.castable gIO gIO) (by decide +kernel))) hce hcv hcl ?_
      refine lv_astore (lv' := [(5, .ref q9), (0, .ref (q 0)), (1, .int i1), (2, .int i2), (3, .int i3), (4, .int i4)]) G.1 G.2.1 dL_shows_10 hl (by decide) rfl (fun ls hl => ?_)
      refine lv_bipush (v := -101) G.1 G.2.1 dL_shows_12 (by decide) ?_
      exact W.iret G.1 G.2.1 G.2.2.1 (fun t ht hW => ⟨-101, N, S, tr2, rfl, ⟨by rw [hk9]; rfl, by rw [hk9]; rfl, by rw [hk9]; rfl⟩, by rw [ht]; exact hP, hS2.F ht⟩) hS2.2.2 dL_shows_14 G.2.2.2.2.2.2
    · have hk9 : sj_shown N S i1 i2 i3 i4 = 2 := gk_tf h1 h2
      refine vx_catch (own := RL) (name := gIA) G.2.2.2.2.1 [⟨0, 9, 10, 37⟩] ⟨0, 9, 15, 39⟩ [] (hT.trans rfl) (List.forall_mem_cons.mpr ⟨Or.inr ⟨by decide, gIO, G.2.2.2.2.2.1 (.classLink RL 37 gIO) (by decide +kernel), z5⟩, fun _ h => nomatch h⟩) (by decide) (by decide) (G.2.2.2.2.2.1 (.classLink RL 39 gIA) (by decide +kernel)) (va_Nw.use rfl (z3 (.castable gIA gIA) (by decide +kernel))) hce hcv hcl ?_
      refine lv_astore (lv' := [(5, .ref q9), (0, .ref (q 0)), (1, .int i1), (2, .int i2), (3, .int i3), (4, .int i4)]) G.1 G.2.1 dL_shows_15 hl (by decide) rfl (fun ls hl => ?_)
      refine lv_bipush (v := -102) G.1 G.2.1 dL_shows_17 (by decide) ?_
      exact W.iret G.1 G.2.1 G.2.2.1 (fun t ht hW => ⟨-102, N, S, tr2, rfl, ⟨by rw [hk9]; rfl, by rw [hk9]; rfl, by rw [hk9]; rfl⟩, by rw [ht]; exact hP, hS2.F ht⟩) hS2.2.2 dL_shows_19 G.2.2.2.2.2.2
    · exact absurd h3 (by show ¬ (true = false); decide)
  · obtain ⟨hA, hB, hC, rfl, e2, e3⟩ := hp
    rw [e2, e3] at hP
    have hS2 : va_S A s.heap H1 ([] ++ L) := ⟨hz, hk, hL⟩
    have hk9 : sj_shown N S i1 i2 i3 i4 = 0 := gk_ttt hA hB hC
    exact W.iret G.1 G.2.1 G.2.2.1 (fun t ht hW => ⟨nI (sR_shown N S i1 i2 i3 i4), _, _, tr2, rfl, ⟨by rw [hk9]; rfl, by rw [if_pos hk9], by rw [if_pos hk9]⟩, by rw [ht]; exact hP, hS2.F ht⟩) hS2.2.2 dL_shows_9 G.2.2.2.2.2.2
