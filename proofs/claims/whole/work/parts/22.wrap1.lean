set_option maxRecDepth 100000 in
set_option maxHeartbeats 800000 in
/-- the law calls profile -/
theorem mL_profile (l : Launch) (hst : l.stackTraces = false) (D : va_G) (q : Nat → Nat) (cI : ClassId) (o : Nat) (cL : ClassId) (N : Nat → Nat) (S : Nat → Nat → Nat) (tr : Nat → Nat) (g : Nat → Int64) (A : Nat → Prop) (hok : sp_ok N S) (hinv : sp_inv N S) : Met l yL_profile wsL_profile { frames := 7, cells := 1, slots := 6, locals := 106 } (va_Pc [.ref (q 0), .ref o] (fun U => wAt D q cI o cL N S tr g A U U.heap)) (gQw D q cI o cL (fun k N2 S2 v => k = sk_profile N S ∧ N2 = (if sk_profile N S = 0 then sN_profile N S else N) ∧ S2 = (if sk_profile N S = 0 then sS_profile N S else S) ∧ (sk_profile N S = 0 → v = (nI (sR_profile N S)).toInt64)) A) 1 6 (fun z => A z ∨ z = o) := by
  refine gc_metW [.ref (q 0), .ref o] (by decide) rfl (Nat.le_of_ble_eq_true rfl) rfl ?_
  intro p e s m below meth c ls G hT hl hX
  obtain ⟨z1, z2, z3, z4, z5, z6, z7⟩ := hX.2.2.2.2.2
  have hx := hX.x
  refine lv_aload_n G.1 G.2.1 dL_profile_0 rfl (lv_at hl 1 rfl) ?_
  refine lv_iconst (v := nI 0) G.1 G.2.1 dL_profile_1 (by decide) ?_
  refine lv_aload_n G.1 G.2.1 dL_profile_2 rfl (lv_at hl 0 rfl) ?_
  refine gl_call (rest := [.int (nI 0), .ref o]) (vx_runV (As := []) (rest := [.int (nI 0), .ref o]) G.fix (mX0_profile l hst D q cI N S tr A hok hinv) (cwV 0 G.2.2.2.2.2.1 gL_profile_X0_profile rfl rfl rfl (by decide +kernel) ⟨Nat.le_of_ble_eq_true rfl, Nat.le_of_ble_eq_true rfl⟩) ⟨xAt_blind, va_recv hx.2.1 hx.1 (ci := 0) (q0 := 0) rfl rfl, fun U hU hW => ⟨rfl, by show xAt _ _ _ _ _ _ _ U U.heap; rw [hU]; exact hx.moved hW⟩⟩ rfl rfl hl.1 rfl (lv_room (Nat.le_of_ble_eq_true rfl)) dL_profile_3 ⟨Nat.le_of_ble_eq_true rfl, Nat.le_of_ble_eq_true rfl⟩) (fun E ce q9 tr2 H1 L hE hP hz hk hL hce hcv hcl => ?_) (fun r N2 S2 tr2 H1 L hp hP hz hk hL => ?_)
  · obtain ⟨hP2, hD2, hS2⟩ := gl_join hX hP hz hk rfl hL
    rcases hE with ⟨rfl, h1⟩ | ⟨rfl, h1, h2⟩ | ⟨rfl, h1, h2, h3⟩
    · exact absurd h1 (by show ¬ (true = false); decide)
    · exact absurd h2 (by show ¬ (true = false); decide)
    · have hk9 : sk_profile N S = 1 := gk_f h3
      refine vx_catch (own := RL) (name := gIS) G.2.2.2.2.1 [] ⟨0, 8, 11, 13⟩ [] (hT.trans rfl) (fun _ h => nomatch h) (by decide) (by decide) (G.2.2.2.2.2.1 (.classLink RL 13 gIS) (by decide +kernel)) (va_Nw.use rfl (z3 (.castable gIS gIS) (by decide +kernel))) hce hcv hcl ?_
      refine lv_astore_n (lv' := [(2, .ref q9), (0, .ref (q 0)), (1, .ref o)]) G.1 G.2.1 dL_profile_11 rfl hl (by decide) rfl (fun ls hl => ?_)
      refine lv_iconst (v := nI 1) G.1 G.2.1 dL_profile_12 (by decide) ?_
      exact W.iret G.1 G.2.1 G.2.2.1 (fun t ht hW => ⟨1, N, S, tr2, g, rfl, ⟨hk9.symm, by rw [hk9]; rfl, by rw [hk9]; rfl, fun h => absurd (hk9.symm.trans h) (by decide)⟩, by rw [ht]; exact hP2, hS2.F ht⟩) hS2.2.2 dL_profile_13 G.2.2.2.2.2.2
  · obtain ⟨hA, hB, hC, rfl, e2, e3⟩ := hp
    rw [e2, e3] at hP
    obtain ⟨hP2, hD2, hS2⟩ := gl_join hX hP hz hk rfl hL
    have hk9 : sk_profile N S = 0 := gk_ttt hC rfl rfl
    refine lv_i2l (v := (nI (sR_profile N S)).toInt64) G.1 G.2.1 dL_profile_6 rfl ?_
    refine va_last (D := D) (A := fun z => A z ∨ z = o) (H0 := s.heap) G.1 G.2.1 hX.2.1 hP2 hD2 hS2 0 1 (f := g) rfl rfl (by unfold vp_in; decide) dL_profile_7 (fun H3 locs3 hP3 hD3 hS3 => ?_)
    have hP3 : va_P D vwCl (oe o cL (vp_updL g (0 : Int32).toNatClampNeg (nI (sR_profile N S)).toInt64) :: xw q cI _ _ tr2) H3 := hP3
    refine lv_goto (tgt := 14) G.1 G.2.1 dL_profile_8 (by decide) ?_
    refine lv_iconst (v := nI 0) G.1 G.2.1 dL_profile_14 (by decide) ?_
    exact W.iret G.1 G.2.1 G.2.2.1 (fun t ht hW => ⟨0, _, _, tr2, vp_updL g (0 : Int32).toNatClampNeg (nI (sR_profile N S)).toInt64, rfl, ⟨hk9.symm, by rw [if_pos hk9], by rw [if_pos hk9], fun _ => gl_u _ _⟩, by rw [ht]; exact hP3, hS3.F ht⟩) hS3.2.2 dL_profile_15 G.2.2.2.2.2.2
set_option maxRecDepth 100000 in
set_option maxHeartbeats 800000 in
/-- the law calls bend -/
theorem mL_bend (l : Launch) (hst : l.stackTraces = false) (D : va_G) (q : Nat → Nat) (cI : ClassId) (o : Nat) (cL : ClassId) (N : Nat → Nat) (S : Nat → Nat → Nat) (tr : Nat → Nat) (g : Nat → Int64) (A : Nat → Prop) (hok : sp_ok N S) (hinv : sp_inv N S) (i1 i2 i3 i4 : Int32) : Met l yL_bend wsL_bend { frames := 8, cells := 1, slots := 6, locals := 127 } (va_Pc [.ref (q 0), .int i1, .int i2, .int i3, .int i4, .ref o] (fun U => wAt D q cI o cL N S tr g A U U.heap)) (gQw D q cI o cL (fun k N2 S2 v => k = sk_bend N S i1 i2 i3 i4 ∧ N2 = (if sk_bend N S i1 i2 i3 i4 = 0 then sN_bend N S i1 i2 i3 i4 else N) ∧ S2 = (if sk_bend N S i1 i2 i3 i4 = 0 then sS_bend N S i1 i2 i3 i4 else S) ∧ (sk_bend N S i1 i2 i3 i4 = 0 → v = (nI (sR_bend N S i1 i2 i3 i4)).toInt64)) A) 1 6 (fun z => A z ∨ z = o) := by
  refine gc_metW [.ref (q 0), .int i1, .int i2, .int i3, .int i4, .ref o] (by decide) rfl (Nat.le_of_ble_eq_true rfl) rfl ?_
  intro p e s m below meth c ls G hT hl hX
  obtain ⟨z1, z2, z3, z4, z5, z6, z7⟩ := hX.2.2.2.2.2
  have hx := hX.x
  refine lv_aload G.1 G.2.1 dL_bend_0 (lv_at hl 5 rfl) ?_
  refine lv_iconst (v := nI 0) G.1 G.2.1 dL_bend_2 (by decide) ?_
  refine lv_aload_n G.1 G.2.1 dL_bend_3 rfl (lv_at hl 0 rfl) ?_
  refine lv_iload_n G.1 G.2.1 dL_bend_4 rfl (lv_at hl 1 rfl) ?_
  refine lv_iload_n G.1 G.2.1 dL_bend_5 rfl (lv_at hl 2 rfl) ?_
  refine lv_iload_n G.1 G.2.1 dL_bend_6 rfl (lv_at hl 3 rfl) ?_
  refine lv_iload G.1 G.2.1 dL_bend_7 (lv_at hl 4 rfl) ?_
  refine gl_call (rest := [.int (nI 0), .ref o]) (vx_runV (As := [.int i1, .int i2, .int i3, .int i4]) (rest := [.int (nI 0), .ref o]) G.fix (mX0_bend l hst D q cI N S tr A hok hinv i1 i2 i3 i4) (cwV 4 G.2.2.2.2.2.1 gL_bend_X0_bend rfl rfl rfl (by decide +kernel) ⟨Nat.le_of_ble_eq_true rfl, Nat.le_of_ble_eq_true rfl⟩) ⟨xAt_blind, va_recv hx.2.1 hx.1 (ci := 0) (q0 := 0) rfl rfl, fun U hU hW => ⟨rfl, by show xAt _ _ _ _ _ _ _ U U.heap; rw [hU]; exact hx.moved hW⟩⟩ rfl rfl hl.1 rfl (lv_room (Nat.le_of_ble_eq_true rfl)) dL_bend_9 ⟨Nat.le_of_ble_eq_true rfl, Nat.le_of_ble_eq_true rfl⟩) (fun E ce q9 tr2 H1 L hE hP hz hk hL hce hcv hcl => ?_) (fun r N2 S2 tr2 H1 L hp hP hz hk hL => ?_)
  · obtain ⟨hP2, hD2, hS2⟩ := gl_join hX hP hz hk rfl hL
    rcases hE with ⟨rfl, h1⟩ | ⟨rfl, h1, h2⟩ | ⟨rfl, h1, h2, h3⟩
    · have hk9 : sk_bend N S i1 i2 i3 i4 = 1 := gk_f h1
      refine vx_catch (own := RL) (name := gIO) G.2.2.2.2.1 [] ⟨0, 14, 17, 19⟩ [⟨0, 14, 21, 21⟩, ⟨0, 14, 25, 13⟩] (hT.trans rfl) (fun _ h => nomatch h) (by decide) (by decide) (G.2.2.2.2.2.1 (.classLink RL 19 gIO) (by decide +kernel)) (va_Nw.use rfl (z3 (.castable gIO gIO) (by decide +kernel))) hce hcv hcl ?_
      refine lv_astore (lv' := [(6, .ref q9), (0, .ref (q 0)), (1, .int i1), (2, .int i2), (3, .int i3), (4, .int i4), (5, .ref o)]) G.1 G.2.1 dL_bend_17 hl (by decide) rfl (fun ls hl => ?_)
      refine lv_iconst (v := nI 1) G.1 G.2.1 dL_bend_19 (by decide) ?_
      exact W.iret G.1 G.2.1 G.2.2.1 (fun t ht hW => ⟨1, N, S, tr2, g, rfl, ⟨hk9.symm, by rw [hk9]; rfl, by rw [hk9]; rfl, fun h => absurd (hk9.symm.trans h) (by decide)⟩, by rw [ht]; exact hP2, hS2.F ht⟩) hS2.2.2 dL_bend_20 G.2.2.2.2.2.2
    · have hk9 : sk_bend N S i1 i2 i3 i4 = 2 := gk_tf h1 h2
      refine vx_catch (own := RL) (name := gIA) G.2.2.2.2.1 [⟨0, 14, 17, 19⟩] ⟨0, 14, 21, 21⟩ [⟨0, 14, 25, 13⟩] (hT.trans rfl) (List.forall_mem_cons.mpr ⟨Or.inr ⟨by decide, gIO, G.2.2.2.2.2.1 (.classLink RL 19 gIO) (by decide +kernel), z5⟩, fun _ h => nomatch h⟩) (by decide) (by decide) (G.2.2.2.2.2.1 (.classLink RL 21 gIA) (by decide +kernel)) (va_Nw.use rfl (z3 (.castable gIA gIA) (by decide +kernel))) hce hcv hcl ?_
      refine lv_astore (lv' := [(6, .ref q9), (0, .ref (q 0)), (1, .int i1), (2, .int i2), (3, .int i3), (4, .int i4), (5, .ref o)]) G.1 G.2.1 dL_bend_21 hl (by decide) rfl (fun ls hl => ?_)
      refine lv_iconst (v := nI 2) G.1 G.2.1 dL_bend_23 (by decide) ?_
      exact W.iret G.1 G.2.1 G.2.2.1 (fun t ht hW => ⟨2, N, S, tr2, g, rfl, ⟨hk9.symm, by rw [hk9]; rfl, by rw [hk9]; rfl, fun h => absurd (hk9.symm.trans h) (by decide)⟩, by rw [ht]; exact hP2, hS2.F ht⟩) hS2.2.2 dL_bend_24 G.2.2.2.2.2.2
    · have hk9 : sk_bend N S i1 i2 i3 i4 = 3 := gk_ttf h1 h2 h3
      refine vx_catch (own := RL) (name := gIS) G.2.2.2.2.1 [⟨0, 14, 17, 19⟩, ⟨0, 14, 21, 21⟩] ⟨0, 14, 25, 13⟩ [] (hT.trans rfl) (List.forall_mem_cons.mpr ⟨Or.inr ⟨by decide, gIO, G.2.2.2.2.2.1 (.classLink RL 19 gIO) (by decide +kernel), z6⟩, List.forall_mem_cons.mpr ⟨Or.inr ⟨by decide, gIA, G.2.2.2.2.2.1 (.classLink RL 21 gIA) (by decide +kernel), z7⟩, fun _ h => nomatch h⟩⟩) (by decide) (by decide) (G.2.2.2.2.2.1 (.classLink RL 13 gIS) (by decide +kernel)) (va_Nw.use rfl (z3 (.castable gIS gIS) (by decide +kernel))) hce hcv hcl ?_
      refine lv_astore (lv' := [(6, .ref q9), (0, .ref (q 0)), (1, .int i1), (2, .int i2), (3, .int i3), (4, .int i4), (5, .ref o)]) G.1 G.2.1 dL_bend_25 hl (by decide) rfl (fun ls hl => ?_)
      refine lv_iconst (v := nI 3) G.1 G.2.1 dL_bend_27 (by decide) ?_
      exact W.iret G.1 G.2.1 G.2.2.1 (fun t ht hW => ⟨3, N, S, tr2, g, rfl, ⟨hk9.symm, by rw [hk9]; rfl, by rw [hk9]; rfl, fun h => absurd (hk9.symm.trans h) (by decide)⟩, by rw [ht]; exact hP2, hS2.F ht⟩) hS2.2.2 dL_bend_28 G.2.2.2.2.2.2
  · obtain ⟨hA, hB, hC, rfl, e2, e3⟩ := hp
    rw [e2, e3] at hP
    obtain ⟨hP2, hD2, hS2⟩ := gl_join hX hP hz hk rfl hL
    have hk9 : sk_bend N S i1 i2 i3 i4 = 0 := gk_ttt hA hB hC
    refine lv_i2l (v := (nI (sR_bend N S i1 i2 i3 i4)).toInt64) G.1 G.2.1 dL_bend_12 rfl ?_
    refine va_last (D := D) (A := fun z => A z ∨ z = o) (H0 := s.heap) G.1 G.2.1 hX.2.1 hP2 hD2 hS2 0 1 (f := g) rfl rfl (by unfold vp_in; decide) dL_bend_13 (fun H3 locs3 hP3 hD3 hS3 => ?_)
    have hP3 : va_P D vwCl (oe o cL (vp_updL g (0 : Int32).toNatClampNeg (nI (sR_bend N S i1 i2 i3 i4)).toInt64) :: xw q cI _ _ tr2) H3 := hP3
    refine lv_goto (tgt := 29) G.1 G.2.1 dL_bend_14 (by decide) ?_
    refine lv_iconst (v := nI 0) G.1 G.2.1 dL_bend_29 (by decide) ?_
    exact W.iret G.1 G.2.1 G.2.2.1 (fun t ht hW => ⟨0, _, _, tr2, vp_updL g (0 : Int32).toNatClampNeg (nI (sR_bend N S i1 i2 i3 i4)).toInt64, rfl, ⟨hk9.symm, by rw [if_pos hk9], by rw [if_pos hk9], fun _ => gl_u _ _⟩, by rw [ht]; exact hP3, hS3.F ht⟩) hS3.2.2 dL_bend_30 G.2.2.2.2.2.2
set_option maxRecDepth 100000 in
set_option maxHeartbeats 800000 in
/-- the law calls reach -/
theorem mL_reach (l : Launch) (hst : l.stackTraces = false) (D : va_G) (q : Nat → Nat) (cI : ClassId) (o : Nat) (cL : ClassId) (N : Nat → Nat) (S : Nat → Nat → Nat) (tr : Nat → Nat) (g : Nat → Int64) (A : Nat → Prop) (hok : sp_ok N S) (hinv : sp_inv N S) (i1 i2 i3 i4 : Int32) : Met l yL_reach wsL_reach { frames := 8, cells := 1, slots := 6, locals := 130 } (va_Pc [.ref (q 0), .int i1, .int i2, .int i3, .int i4, .ref o] (fun U => wAt D q cI o cL N S tr g A U U.heap)) (gQw D q cI o cL (fun k N2 S2 v => k = sk_reach N S i1 i2 i3 i4 ∧ N2 = (if sk_reach N S i1 i2 i3 i4 = 0 then sN_reach N S i1 i2 i3 i4 else N) ∧ S2 = (if sk_reach N S i1 i2 i3 i4 = 0 then sS_reach N S i1 i2 i3 i4 else S) ∧ (sk_reach N S i1 i2 i3 i4 = 0 → v = (nI (sR_reach N S i1 i2 i3 i4)).toInt64)) A) 1 6 (fun z => A z ∨ z = o) := by
  refine gc_metW [.ref (q 0), .int i1, .int i2, .int i3, .int i4, .ref o] (by decide) rfl (Nat.le_of_ble_eq_true rfl) rfl ?_
  intro p e s m below meth c ls G hT hl hX
  obtain ⟨z1, z2, z3, z4, z5, z6, z7⟩ := hX.2.2.2.2.2
  have hx := hX.x
  refine lv_aload G.1 G.2.1 dL_reach_0 (lv_at hl 5 rfl) ?_
  refine lv_iconst (v := nI 0) G.1 G.2.1 dL_reach_2 (by decide) ?_
  refine lv_aload_n G.1 G.2.1 dL_reach_3 rfl (lv_at hl 0 rfl) ?_
  refine lv_iload_n G.1 G.2.1 dL_reach_4 rfl (lv_at hl 1 rfl) ?_
  refine lv_iload_n G.1 G.2.1 dL_reach_5 rfl (lv_at hl 2 rfl) ?_
  refine lv_iload_n G.1 G.2.1 dL_reach_6 rfl (lv_at hl 3 rfl) ?_
  refine lv_iload G.1 G.2.1 dL_reach_7 (lv_at hl 4 rfl) ?_
  refine gl_call (rest := [.int (nI 0), .ref o]) (vx_runV (As := [.int i1, .int i2, .int i3, .int i4]) (rest := [.int (nI 0), .ref o]) G.fix (mX0_reach l hst D q cI N S tr A hok hinv i1 i2 i3 i4) (cwV 4 G.2.2.2.2.2.1 gL_reach_X0_reach rfl rfl rfl (by decide +kernel) ⟨Nat.le_of_ble_eq_true rfl, Nat.le_of_ble_eq_true rfl⟩) ⟨xAt_blind, va_recv hx.2.1 hx.1 (ci := 0) (q0 := 0) rfl rfl, fun U hU hW => ⟨rfl, by show xAt _ _ _ _ _ _ _ U U.heap; rw [hU]; exact hx.moved hW⟩⟩ rfl rfl hl.1 rfl (lv_room (Nat.le_of_ble_eq_true rfl)) dL_reach_9 ⟨Nat.le_of_ble_eq_true rfl, Nat.le_of_ble_eq_true rfl⟩) (fun E ce q9 tr2 H1 L hE hP hz hk hL hce hcv hcl => ?_) (fun r N2 S2 tr2 H1 L hp hP hz hk hL => ?_)
  · obtain ⟨hP2, hD2, hS2⟩ := gl_join hX hP hz hk rfl hL
    rcases hE with ⟨rfl, h1⟩ | ⟨rfl, h1, h2⟩ | ⟨rfl, h1, h2, h3⟩
    · have hk9 : sk_reach N S i1 i2 i3 i4 = 1 := gk_f h1
      refine vx_catch (own := RL) (name := gIO) G.2.2.2.2.1 [] ⟨0, 14, 17, 19⟩ [⟨0, 14, 21, 21⟩, ⟨0, 14, 25, 13⟩] (hT.trans rfl) (fun _ h => nomatch h) (by decide) (by decide) (G.2.2.2.2.2.1 (.classLink RL 19 gIO) (by decide +kernel)) (va_Nw.use rfl (z3 (.castable gIO gIO) (by decide +kernel))) hce hcv hcl ?_
      refine lv_astore (lv' := [(6, .ref q9), (0, .ref (q 0)), (1, .int i1), (2, .int i2), (3, .int i3), (4, .int i4), (5, .ref o)]) G.1 G.2.1 dL_reach_17 hl (by decide) rfl (fun ls hl => ?_)
      refine lv_iconst (v := nI 1) G.1 G.2.1 dL_reach_19 (by decide) ?_
      exact W.iret G.1 G.2.1 G.2.2.1 (fun t ht hW => ⟨1, N, S, tr2, g, rfl, ⟨hk9.symm, by rw [hk9]; rfl, by rw [hk9]; rfl, fun h => absurd (hk9.symm.trans h) (by decide)⟩, by rw [ht]; exact hP2, hS2.F ht⟩) hS2.2.2 dL_reach_20 G.2.2.2.2.2.2
    · have hk9 : sk_reach N S i1 i2 i3 i4 = 2 := gk_tf h1 h2
      refine vx_catch (own := RL) (name := gIA) G.2.2.2.2.1 [⟨0, 14, 17, 19⟩] ⟨0, 14, 21, 21⟩ [⟨0, 14, 25, 13⟩] (hT.trans rfl) (List.forall_mem_cons.mpr ⟨Or.inr ⟨by decide, gIO, G.2.2.2.2.2.1 (.classLink RL 19 gIO) (by decide +kernel), z5⟩, fun _ h => nomatch h⟩) (by decide) (by decide) (G.2.2.2.2.2.1 (.classLink RL 21 gIA) (by decide +kernel)) (va_Nw.use rfl (z3 (.castable gIA gIA) (by decide +kernel))) hce hcv hcl ?_
      refine lv_astore (lv' := [(6, .ref q9), (0, .ref (q 0)), (1, .int i1), (2, .int i2), (3, .int i3), (4, .int i4), (5, .ref o)]) G.1 G.2.1 dL_reach_21 hl (by decide) rfl (fun ls hl => ?_)
      refine lv_iconst (v := nI 2) G.1 G.2.1 dL_reach_23 (by decide) ?_
      exact W.iret G.1 G.2.1 G.2.2.1 (fun t ht hW => ⟨2, N, S, tr2, g, rfl, ⟨hk9.symm, by rw [hk9]; rfl, by rw [hk9]; rfl, fun h => absurd (hk9.symm.trans h) (by decide)⟩, by rw [ht]; exact hP2, hS2.F ht⟩) hS2.2.2 dL_reach_24 G.2.2.2.2.2.2
    · have hk9 : sk_reach N S i1 i2 i3 i4 = 3 := gk_ttf h1 h2 h3
      refine vx_catch (own := RL) (name := gIS) G.2.2.2.2.1 [⟨0, 14, 17, 19⟩, ⟨0, 14, 21, 21⟩] ⟨0, 14, 25, 13⟩ [] (hT.trans rfl) (List.forall_mem_cons.mpr ⟨Or.inr ⟨by decide, gIO, G.2.2.2.2.2.1 (.classLink RL 19 gIO) (by decide +kernel), z6⟩, List.forall_mem_cons.mpr ⟨Or.inr ⟨by decide, gIA, G.2.2.2.2.2.1 (.classLink RL 21 gIA) (by decide +kernel), z7⟩, fun _ h => nomatch h⟩⟩) (by decide) (by decide) (G.2.2.2.2.2.1 (.classLink RL 13 gIS) (by decide +kernel)) (va_Nw.use rfl (z3 (.castable gIS gIS) (by decide +kernel))) hce hcv hcl ?_
      refine lv_astore (lv' := [(6, .ref q9), (0, .ref (q 0)), (1, .int i1), (2, .int i2), (3, .int i3), (4, .int i4), (5, .ref o)]) G.1 G.2.1 dL_reach_25 hl (by decide) rfl (fun ls hl => ?_)
      refine lv_iconst (v := nI 3) G.1 G.2.1 dL_reach_27 (by decide) ?_
      exact W.iret G.1 G.2.1 G.2.2.1 (fun t ht hW => ⟨3, N, S, tr2, g, rfl, ⟨hk9.symm, by rw [hk9]; rfl, by rw [hk9]; rfl, fun h => absurd (hk9.symm.trans h) (by decide)⟩, by rw [ht]; exact hP2, hS2.F ht⟩) hS2.2.2 dL_reach_28 G.2.2.2.2.2.2
  · obtain ⟨hA, hB, hC, rfl, e2, e3⟩ := hp
    rw [e2, e3] at hP
    obtain ⟨hP2, hD2, hS2⟩ := gl_join hX hP hz hk rfl hL
    have hk9 : sk_reach N S i1 i2 i3 i4 = 0 := gk_ttt hA hB hC
    refine lv_i2l (v := (nI (sR_reach N S i1 i2 i3 i4)).toInt64) G.1 G.2.1 dL_reach_12 rfl ?_
    refine va_last (D := D) (A := fun z => A z ∨ z = o) (H0 := s.heap) G.1 G.2.1 hX.2.1 hP2 hD2 hS2 0 1 (f := g) rfl rfl (by unfold vp_in; decide) dL_reach_13 (fun H3 locs3 hP3 hD3 hS3 => ?_)
    have hP3 : va_P D vwCl (oe o cL (vp_updL g (0 : Int32).toNatClampNeg (nI (sR_reach N S i1 i2 i3 i4)).toInt64) :: xw q cI _ _ tr2) H3 := hP3
    refine lv_goto (tgt := 29) G.1 G.2.1 dL_reach_14 (by decide) ?_
    refine lv_iconst (v := nI 0) G.1 G.2.1 dL_reach_29 (by decide) ?_
    exact W.iret G.1 G.2.1 G.2.2.1 (fun t ht hW => ⟨0, _, _, tr2, vp_updL g (0 : Int32).toNatClampNeg (nI (sR_reach N S i1 i2 i3 i4)).toInt64, rfl, ⟨hk9.symm, by rw [if_pos hk9], by rw [if_pos hk9], fun _ => gl_u _ _⟩, by rw [ht]; exact hP3, hS3.F ht⟩) hS3.2.2 dL_reach_30 G.2.2.2.2.2.2
set_option maxRecDepth 100000 in
set_option maxHeartbeats 800000 in
/-- the law calls way -/
theorem mL_way (l : Launch) (hst : l.stackTraces = false) (D : va_G) (q : Nat → Nat) (cI : ClassId) (o : Nat) (cL : ClassId) (N : Nat → Nat) (S : Nat → Nat → Nat) (tr : Nat → Nat) (g : Nat → Int64) (A : Nat → Prop) (hok : sp_ok N S) (hinv : sp_inv N S) (i1 i2 : Int32) : Met l yL_way wsL_way { frames := 8, cells := 1, slots := 6, locals := 125 } (va_Pc [.ref (q 0), .int i1, .int i2, .ref o] (fun U => wAt D q cI o cL N S tr g A U U.heap)) (gQw D q cI o cL (fun k N2 S2 v => k = sk_way N S i1 i2 ∧ N2 = (if sk_way N S i1 i2 = 0 then sN_way N S i1 i2 else N) ∧ S2 = (if sk_way N S i1 i2 = 0 then sS_way N S i1 i2 else S) ∧ (sk_way N S i1 i2 = 0 → v = (nI (sR_way N S i1 i2)).toInt64)) A) 1 6 (fun z => A z ∨ z = o) := by
  refine gc_metW [.ref (q 0), .int i1, .int i2, .ref o] (by decide) rfl (Nat.le_of_ble_eq_true rfl) rfl ?_
  intro p e s m below meth c ls G hT hl hX
  obtain ⟨z1, z2, z3, z4, z5, z6, z7⟩ := hX.2.2.2.2.2
  have hx := hX.x
  refine lv_aload_n G.1 G.2.1 dL_way_0 rfl (lv_at hl 3 rfl) ?_
  refine lv_iconst (v := nI 0) G.1 G.2.1 dL_way_1 (by decide) ?_
  refine lv_aload_n G.1 G.2.1 dL_way_2 rfl (lv_at hl 0 rfl) ?_
  refine lv_iload_n G.1 G.2.1 dL_way_3 rfl (lv_at hl 1 rfl) ?_
  refine lv_iload_n G.1 G.2.1 dL_way_4 rfl (lv_at hl 2 rfl) ?_
  refine gl_call (rest := [.int (nI 0), .ref o]) (vx_runV (As := [.int i1, .int i2]) (rest := [.int (nI 0), .ref o]) G.fix (mX0_way l hst D q cI N S tr A hok hinv i1 i2) (cwV 2 G.2.2.2.2.2.1 gL_way_X0_way rfl rfl rfl (by decide +kernel) ⟨Nat.le_of_ble_eq_true rfl, Nat.le_of_ble_eq_true rfl⟩) ⟨xAt_blind, va_recv hx.2.1 hx.1 (ci := 0) (q0 := 0) rfl rfl, fun U hU hW => ⟨rfl, by show xAt _ _ _ _ _ _ _ U U.heap; rw [hU]; exact hx.moved hW⟩⟩ rfl rfl hl.1 rfl (lv_room (Nat.le_of_ble_eq_true rfl)) dL_way_5 ⟨Nat.le_of_ble_eq_true rfl, Nat.le_of_ble_eq_true rfl⟩) (fun E ce q9 tr2 H1 L hE hP hz hk hL hce hcv hcl => ?_) (fun r N2 S2 tr2 H1 L hp hP hz hk hL => ?_)
  · obtain ⟨hP2, hD2, hS2⟩ := gl_join hX hP hz hk rfl hL
    rcases hE with ⟨rfl, h1⟩ | ⟨rfl, h1, h2⟩ | ⟨rfl, h1, h2, h3⟩
    · have hk9 : sk_way N S i1 i2 = 1 := gk_f h1
      refine vx_catch (own := RL) (name := gIO) G.2.2.2.2.1 [] ⟨0, 10, 13, 19⟩ [⟨0, 10, 17, 21⟩, ⟨0, 10, 21, 13⟩] (hT.trans rfl) (fun _ h => nomatch h) (by decide) (by decide) (G.2.2.2.2.2.1 (.classLink RL 19 gIO) (by decide +kernel)) (va_Nw.use rfl (z3 (.castable gIO gIO) (by decide +kernel))) hce hcv hcl ?_
      refine lv_astore (lv' := [(4, .ref q9), (0, .ref (q 0)), (1, .int i1), (2, .int i2), (3, .ref o)]) G.1 G.2.1 dL_way_13 hl (by decide) rfl (fun ls hl => ?_)
      refine lv_iconst (v := nI 1) G.1 G.2.1 dL_way_15 (by decide) ?_
      exact W.iret G.1 G.2.1 G.2.2.1 (fun t ht hW => ⟨1, N, S, tr2, g, rfl, ⟨hk9.symm, by rw [hk9]; rfl, by rw [hk9]; rfl, fun h => absurd (hk9.symm.trans h) (by decide)⟩, by rw [ht]; exact hP2, hS2.F ht⟩) hS2.2.2 dL_way_16 G.2.2.2.2.2.2
    · have hk9 : sk_way N S i1 i2 = 2 := gk_tf h1 h2
      refine vx_catch (own := RL) (name := gIA) G.2.2.2.2.1 [⟨0, 10, 13, 19⟩] ⟨0, 10, 17, 21⟩ [⟨0, 10, 21, 13⟩] (hT.trans rfl) (List.forall_mem_cons.mpr ⟨Or.inr ⟨by decide, gIO, G.2.2.2.2.2.1 (.classLink RL 19 gIO) (by decide +kernel), z5⟩, fun _ h => nomatch h⟩) (by decide) (by decide) (G.2.2.2.2.2.1 (.classLink RL 21 gIA) (by decide +kernel)) (va_Nw.use rfl (z3 (.castable gIA gIA) (by decide +kernel))) hce hcv hcl ?_
      refine lv_astore (lv' := [(4, .ref q9), (0, .ref (q 0)), (1, .int i1), (2, .int i2), (3, .ref o)]) G.1 G.2.1 dL_way_17 hl (by decide) rfl (fun ls hl => ?_)
      refine lv_iconst (v := nI 2) G.1 G.2.1 dL_way_19 (by decide) ?_
      exact W.iret G.1 G.2.1 G.2.2.1 (fun t ht hW => ⟨2, N, S, tr2, g, rfl, ⟨hk9.symm, by rw [hk9]; rfl, by rw [hk9]; rfl, fun h => absurd (hk9.symm.trans h) (by decide)⟩, by rw [ht]; exact hP2, hS2.F ht⟩) hS2.2.2 dL_way_20 G.2.2.2.2.2.2
    · have hk9 : sk_way N S i1 i2 = 3 := gk_ttf h1 h2 h3
      refine vx_catch (own := RL) (name := gIS) G.2.2.2.2.1 [⟨0, 10, 13, 19⟩, ⟨0, 10, 17, 21⟩] ⟨0, 10, 21, 13⟩ [] (hT.trans rfl) (List.forall_mem_cons.mpr ⟨Or.inr ⟨by decide, gIO, G.2.2.2.2.2.1 (.classLink RL 19 gIO) (by decide +kernel), z6⟩, List.forall_mem_cons.mpr ⟨Or.inr ⟨by decide, gIA, G.2.2.2.2.2.1 (.classLink RL 21 gIA) (by decide +kernel), z7⟩, fun _ h => nomatch h⟩⟩) (by decide) (by decide) (G.2.2.2.2.2.1 (.classLink RL 13 gIS) (by decide +kernel)) (va_Nw.use rfl (z3 (.castable gIS gIS) (by decide +kernel))) hce hcv hcl ?_
      refine lv_astore (lv' := [(4, .ref q9), (0, .ref (q 0)), (1, .int i1), (2, .int i2), (3, .ref o)]) G.1 G.2.1 dL_way_21 hl (by decide) rfl (fun ls hl => ?_)
      refine lv_iconst (v := nI 3) G.1 G.2.1 dL_way_23 (by decide) ?_
      exact W.iret G.1 G.2.1 G.2.2.1 (fun t ht hW => ⟨3, N, S, tr2, g, rfl, ⟨hk9.symm, by rw [hk9]; rfl, by rw [hk9]; rfl, fun h => absurd (hk9.symm.trans h) (by decide)⟩, by rw [ht]; exact hP2, hS2.F ht⟩) hS2.2.2 dL_way_24 G.2.2.2.2.2.2
  · obtain ⟨hA, hB, hC, rfl, e2, e3⟩ := hp
    rw [e2, e3] at hP
    obtain ⟨hP2, hD2, hS2⟩ := gl_join hX hP hz hk rfl hL
    have hk9 : sk_way N S i1 i2 = 0 := gk_ttt hA hB hC
    refine lv_i2l (v := (nI (sR_way N S i1 i2)).toInt64) G.1 G.2.1 dL_way_8 rfl ?_
    refine va_last (D := D) (A := fun z => A z ∨ z = o) (H0 := s.heap) G.1 G.2.1 hX.2.1 hP2 hD2 hS2 0 1 (f := g) rfl rfl (by unfold vp_in; decide) dL_way_9 (fun H3 locs3 hP3 hD3 hS3 => ?_)
    have hP3 : va_P D vwCl (oe o cL (vp_updL g (0 : Int32).toNatClampNeg (nI (sR_way N S i1 i2)).toInt64) :: xw q cI _ _ tr2) H3 := hP3
    refine lv_goto (tgt := 25) G.1 G.2.1 dL_way_10 (by decide) ?_
    refine lv_iconst (v := nI 0) G.1 G.2.1 dL_way_25 (by decide) ?_
    exact W.iret G.1 G.2.1 G.2.2.1 (fun t ht hW => ⟨0, _, _, tr2, vp_updL g (0 : Int32).toNatClampNeg (nI (sR_way N S i1 i2)).toInt64, rfl, ⟨hk9.symm, by rw [if_pos hk9], by rw [if_pos hk9], fun _ => gl_u _ _⟩, by rw [ht]; exact hP3, hS3.F ht⟩) hS3.2.2 dL_way_26 G.2.2.2.2.2.2
set_option maxRecDepth 100000 in
set_option maxHeartbeats 800000 in
/-- the law calls curve -/
theorem mL_curve (l : Launch) (hst : l.stackTraces = false) (D : va_G) (q : Nat → Nat) (cI : ClassId) (o : Nat) (cL : ClassId) (N : Nat → Nat) (S : Nat → Nat → Nat) (tr : Nat → Nat) (g : Nat → Int64) (A : Nat → Prop) (hok : sp_ok N S) (hinv : sp_inv N S) (i1 i2 i3 : Int32) : Met l yL_curve wsL_curve { frames := 8, cells := 1, slots := 6, locals := 126 } (va_Pc [.ref (q 0), .int i1, .int i2, .int i3, .ref o] (fun U => wAt D q cI o cL N S tr g A U U.heap)) (gQw D q cI o cL (fun k N2 S2 v => k = sk_curve N S i1 i2 i3 ∧ N2 = (if sk_curve N S i1 i2 i3 = 0 then sN_curve N S i1 i2 i3 else N) ∧ S2 = (if sk_curve N S i1 i2 i3 = 0 then sS_curve N S i1 i2 i3 else S) ∧ (sk_curve N S i1 i2 i3 = 0 → v = (nI (sR_curve N S i1 i2 i3)).toInt64)) A) 1 6 (fun z => A z ∨ z = o) := by
  refine gc_metW [.ref (q 0), .int i1, .int i2, .int i3, .ref o] (by decide) rfl (Nat.le_of_ble_eq_true rfl) rfl ?_
  intro p e s m below meth c ls G hT hl hX
  obtain ⟨z1, z2, z3, z4, z5, z6, z7⟩ := hX.2.2.2.2.2
  have hx := hX.x
  refine lv_aload G.1 G.2.1 dL_curve_0 (lv_at hl 4 rfl) ?_
  refine lv_iconst (v := nI 0) G.1 G.2.1 dL_curve_2 (by decide) ?_
  refine lv_aload_n G.1 G.2.1 dL_curve_3 rfl (lv_at hl 0 rfl) ?_
  refine lv_iload_n G.1 G.2.1 dL_curve_4 rfl (lv_at hl 1 rfl) ?_
  refine lv_iload_n G.1 G.2.1 dL_curve_5 rfl (lv_at hl 2 rfl) ?_
  refine lv_iload_n G.1 G.2.1 dL_curve_6 rfl (lv_at hl 3 rfl) ?_
  refine gl_call (rest := [.int (nI 0), .ref o]) (vx_runV (As := [.int i1, .int i2, .int i3]) (rest := [.int (nI 0), .ref o]) G.fix (mX0_curve l hst D q cI N S tr A hok hinv i1 i2 i3) (cwV 3 G.2.2.2.2.2.1 gL_curve_X0_curve rfl rfl rfl (by decide +kernel) ⟨Nat.le_of_ble_eq_true rfl, Nat.le_of_ble_eq_true rfl⟩) ⟨xAt_blind, va_recv hx.2.1 hx.1 (ci := 0) (q0 := 0) rfl rfl, fun U hU hW => ⟨rfl, by show xAt _ _ _ _ _ _ _ U U.heap; rw [hU]; exact hx.moved hW⟩⟩ rfl rfl hl.1 rfl (lv_room (Nat.le_of_ble_eq_true rfl)) dL_curve_7 ⟨Nat.le_of_ble_eq_true rfl, Nat.le_of_ble_eq_true rfl⟩) (fun E ce q9 tr2 H1 L hE hP hz hk hL hce hcv hcl => ?_) (fun r N2 S2 tr2 H1 L hp hP hz hk hL => ?_)
  · obtain ⟨hP2, hD2, hS2⟩ := gl_join hX hP hz hk rfl hL
    rcases hE with ⟨rfl, h1⟩ | ⟨rfl, h1, h2⟩ | ⟨rfl, h1, h2, h3⟩
    · have hk9 : sk_curve N S i1 i2 i3 = 1 := gk_f h1
      refine vx_catch (own := RL) (name := gIO) G.2.2.2.2.1 [] ⟨0, 12, 15, 19⟩ [⟨0, 12, 19, 21⟩] (hT.trans rfl) (fun _ h => nomatch h) (by decide) (by decide) (G.2.2.2.2.2.1 (.classLink RL 19 gIO) (by decide +kernel)) (va_Nw.use rfl (z3 (.castable gIO gIO) (by decide +kernel))) hce hcv hcl ?_
      refine lv_astore (lv' := [(5, .ref q9), (0, .ref (q 0)), (1, .int i1), (2, .int i2), (3, .int i3), (4, .ref o)]) G.1 G.2.1 dL_curve_15 hl (by decide) rfl (fun ls hl => ?_)
      refine lv_iconst (v := nI 1) G.1 G.2.1 dL_curve_17 (by decide) ?_
      exact W.iret G.1 G.2.1 G.2.2.1 (fun t ht hW => ⟨1, N, S, tr2, g, rfl, ⟨hk9.symm, by rw [hk9]; rfl, by rw [hk9]; rfl, fun h => absurd (hk9.symm.trans h) (by decide)⟩, by rw [ht]; exact hP2, hS2.F ht⟩) hS2.2.2 dL_curve_18 G.2.2.2.2.2.2
    · have hk9 : sk_curve N S i1 i2 i3 = 2 := gk_tf h1 h2
      refine vx_catch (own := RL) (name := gIA) G.2.2.2.2.1 [⟨0, 12, 15, 19⟩] ⟨0, 12, 19, 21⟩ [] (hT.trans rfl) (List.forall_mem_cons.mpr ⟨Or.inr ⟨by decide, gIO, G.2.2.2.2.2.1 (.classLink RL 19 gIO) (by decide +kernel), z5⟩, fun _ h => nomatch h⟩) (by decide) (by decide) (G.2.2.2.2.2.1 (.classLink RL 21 gIA) (by decide +kernel)) (va_Nw.use rfl (z3 (.castable gIA gIA) (by decide +kernel))) hce hcv hcl ?_
      refine lv_astore (lv' := [(5, .ref q9), (0, .ref (q 0)), (1, .int i1), (2, .int i2), (3, .int i3), (4, .ref o)]) G.1 G.2.1 dL_curve_19 hl (by decide) rfl (fun ls hl => ?_)
      refine lv_iconst (v := nI 2) G.1 G.2.1 dL_curve_21 (by decide) ?_
      exact W.iret G.1 G.2.1 G.2.2.1 (fun t ht hW => ⟨2, N, S, tr2, g, rfl, ⟨hk9.symm, by rw [hk9]; rfl, by rw [hk9]; rfl, fun h => absurd (hk9.symm.trans h) (by decide)⟩, by rw [ht]; exact hP2, hS2.F ht⟩) hS2.2.2 dL_curve_22 G.2.2.2.2.2.2
    · exact absurd h3 (by show ¬ (true = false); decide)
  · obtain ⟨hA, hB, hC, rfl, e2, e3⟩ := hp
    rw [e2, e3] at hP
    obtain ⟨hP2, hD2, hS2⟩ := gl_join hX hP hz hk rfl hL
    have hk9 : sk_curve N S i1 i2 i3 = 0 := gk_ttt hA hB rfl
    refine lv_i2l (v := (nI (sR_curve N S i1 i2 i3)).toInt64) G.1 G.2.1 dL_curve_10 rfl ?_
    refine va_last (D := D) (A := fun z => A z ∨ z = o) (H0 := s.heap) G.1 G.2.1 hX.2.1 hP2 hD2 hS2 0 1 (f := g) rfl rfl (by unfold vp_in; decide) dL_curve_11 (fun H3 locs3 hP3 hD3 hS3 => ?_)
    have hP3 : va_P D vwCl (oe o cL (vp_updL g (0 : Int32).toNatClampNeg (nI (sR_curve N S i1 i2 i3)).toInt64) :: xw q cI _ _ tr2) H3 := hP3
    refine lv_goto (tgt := 23) G.1 G.2.1 dL_curve_12 (by decide) ?_
    refine lv_iconst (v := nI 0) G.1 G.2.1 dL_curve_23 (by decide) ?_
    exact W.iret G.1 G.2.1 G.2.2.1 (fun t ht hW => ⟨0, _, _, tr2, vp_updL g (0 : Int32).toNatClampNeg (nI (sR_curve N S i1 i2 i3)).toInt64, rfl, ⟨hk9.symm, by rw [if_pos hk9], by rw [if_pos hk9], fun _ => gl_u _ _⟩, by rw [ht]; exact hP3, hS3.F ht⟩) hS3.2.2 dL_curve_24 G.2.2.2.2.2.2
set_option maxRecDepth 100000 in
set_option maxHeartbeats 800000 in
/-- the law calls taken -/
theorem mL_taken (l : Launch) (hst : l.stackTraces = false) (D : va_G) (q : Nat → Nat) (cI : ClassId) (o : Nat) (cL : ClassId) (N : Nat → Nat) (S : Nat → Nat → Nat) (tr : Nat → Nat) (g : Nat → Int64) (A : Nat → Prop) (hok : sp_ok N S) (hinv : sp_inv N S) (i1 i2 i3 : Int32) : Met l yL_taken wsL_taken { frames := 8, cells := 1, slots := 6, locals := 126 } (va_Pc [.ref (q 0), .int i1, .int i2, .int i3, .ref o] (fun U => wAt D q cI o cL N S tr g A U U.heap)) (gQw D q cI o cL (fun k N2 S2 v => k = sk_taken N S i1 i2 i3 ∧ N2 = (if sk_taken N S i1 i2 i3 = 0 then sN_taken N S i1 i2 i3 else N) ∧ S2 = (if sk_taken N S i1 i2 i3 = 0 then sS_taken N S i1 i2 i3 else S) ∧ (sk_taken N S i1 i2 i3 = 0 → v = (nI (sR_taken N S i1 i2 i3)).toInt64)) A) 1 6 (fun z => A z ∨ z = o) := by
  refine gc_metW [.ref (q 0), .int i1, .int i2, .int i3, .ref o] (by decide) rfl (Nat.le_of_ble_eq_true rfl) rfl ?_
  intro p e s m below meth c ls G hT hl hX
  obtain ⟨z1, z2, z3, z4, z5, z6, z7⟩ := hX.2.2.2.2.2
  have hx := hX.x
  refine lv_aload G.1 G.2.1 dL_taken_0 (lv_at hl 4 rfl) ?_
  refine lv_iconst (v := nI 0) G.1 G.2.1 dL_taken_2 (by decide) ?_
  refine lv_aload_n G.1 G.2.1 dL_taken_3 rfl (lv_at hl 0 rfl) ?_
  refine lv_iload_n G.1 G.2.1 dL_taken_4 rfl (lv_at hl 1 rfl) ?_
  refine lv_iload_n G.1 G.2.1 dL_taken_5 rfl (lv_at hl 2 rfl) ?_
  refine lv_iload_n G.1 G.2.1 dL_taken_6 rfl (lv_at hl 3 rfl) ?_
  refine gl_call (rest := [.int (nI 0), .ref o]) (vx_runV (As := [.int i1, .int i2, .int i3]) (rest := [.int (nI 0), .ref o]) G.fix (mX0_taken l hst D q cI N S tr A hok hinv i1 i2 i3) (cwV 3 G.2.2.2.2.2.1 gL_taken_X0_taken rfl rfl rfl (by decide +kernel) ⟨Nat.le_of_ble_eq_true rfl, Nat.le_of_ble_eq_true rfl⟩) ⟨xAt_blind, va_recv hx.2.1 hx.1 (ci := 0) (q0 := 0) rfl rfl, fun U hU hW => ⟨rfl, by show xAt _ _ _ _ _ _ _ U U.heap; rw [hU]; exact hx.moved hW⟩⟩ rfl rfl hl.1 rfl (lv_room (Nat.le_of_ble_eq_true rfl)) dL_taken_7 ⟨Nat.le_of_ble_eq_true rfl, Nat.le_of_ble_eq_true rfl⟩) (fun E ce q9 tr2 H1 L hE hP hz hk hL hce hcv hcl => ?_) (fun r N2 S2 tr2 H1 L hp hP hz hk hL => ?_)
  · obtain ⟨hP2, hD2, hS2⟩ := gl_join hX hP hz hk rfl hL
    rcases hE with ⟨rfl, h1⟩ | ⟨rfl, h1, h2⟩ | ⟨rfl, h1, h2, h3⟩
    · have hk9 : sk_taken N S i1 i2 i3 = 1 := gk_f h1
      refine vx_catch (own := RL) (name := gIO) G.2.2.2.2.1 [] ⟨0, 12, 15, 19⟩ [⟨0, 12, 19, 21⟩] (hT.trans rfl) (fun _ h => nomatch h) (by decide) (by decide) (G.2.2.2.2.2.1 (.classLink RL 19 gIO) (by decide +kernel)) (va_Nw.use rfl (z3 (.castable gIO gIO) (by decide +kernel))) hce hcv hcl ?_
      refine lv_astore (lv' := [(5, .ref q9), (0, .ref (q 0)), (1, .int i1), (2, .int i2), (3, .int i3), (4, .ref o)]) G.1 G.2.1 dL_taken_15 hl (by decide) rfl (fun ls hl => ?_)
      refine lv_iconst (v := nI 1) G.1 G.2.1 dL_taken_17 (by decide) ?_
      exact W.iret G.1 G.2.1 G.2.2.1 (fun t ht hW => ⟨1, N, S, tr2, g, rfl, ⟨hk9.symm, by rw [hk9]; rfl, by rw [hk9]; rfl, fun h => absurd (hk9.symm.trans h) (by decide)⟩, by rw [ht]; exact hP2, hS2.F ht⟩) hS2.2.2 dL_taken_18 G.2.2.2.2.2.2
    · have hk9 : sk_taken N S i1 i2 i3 = 2 := gk_tf h1 h2
      refine vx_catch (own := RL) (name := gIA) G.2.2.2.2.1 [⟨0, 12, 15, 19⟩] ⟨0, 12, 19, 21⟩ [] (hT.trans rfl) (List.forall_mem_cons.mpr ⟨Or.inr ⟨by decide, gIO, G.2.2.2.2.2.1 (.classLink RL 19 gIO) (by decide +kernel), z5⟩, fun _ h => nomatch h⟩) (by decide) (by decide) (G.2.2.2.2.2.1 (.classLink RL 21 gIA) (by decide +kernel)) (va_Nw.use rfl (z3 (.castable gIA gIA) (by decide +kernel))) hce hcv hcl ?_
      refine lv_astore (lv' := [(5, .ref q9), (0, .ref (q 0)), (1, .int i1), (2, .int i2), (3, .int i3), (4, .ref o)]) G.1 G.2.1 dL_taken_19 hl (by decide) rfl (fun ls hl => ?_)
      refine lv_iconst (v := nI 2) G.1 G.2.1 dL_taken_21 (by decide) ?_
      exact W.iret G.1 G.2.1 G.2.2.1 (fun t ht hW => ⟨2, N, S, tr2, g, rfl, ⟨hk9.symm, by rw [hk9]; rfl, by rw [hk9]; rfl, fun h => absurd (hk9.symm.trans h) (by decide)⟩, by rw [ht]; exact hP2, hS2.F ht⟩) hS2.2.2 dL_taken_22 G.2.2.2.2.2.2
    · exact absurd h3 (by show ¬ (true = false); decide)
  · obtain ⟨hA, hB, hC, rfl, e2, e3⟩ := hp
    rw [e2, e3] at hP
    obtain ⟨hP2, hD2, hS2⟩ := gl_join hX hP hz hk rfl hL
    have hk9 : sk_taken N S i1 i2 i3 = 0 := gk_ttt hA hB rfl
    refine lv_i2l (v := (nI (sR_taken N S i1 i2 i3)).toInt64) G.1 G.2.1 dL_taken_10 rfl ?_
    refine va_last (D := D) (A := fun z => A z ∨ z = o) (H0 := s.heap) G.1 G.2.1 hX.2.1 hP2 hD2 hS2 0 1 (f := g) rfl rfl (by unfold vp_in; decide) dL_taken_11 (fun H3 locs3 hP3 hD3 hS3 => ?_)
    have hP3 : va_P D vwCl (oe o cL (vp_updL g (0 : Int32).toNatClampNeg (nI (sR_taken N S i1 i2 i3)).toInt64) :: xw q cI _ _ tr2) H3 := hP3
    refine lv_goto (tgt := 23) G.1 G.2.1 dL_taken_12 (by decide) ?_
    refine lv_iconst (v := nI 0) G.1 G.2.1 dL_taken_23 (by decide) ?_
    exact W.iret G.1 G.2.1 G.2.2.1 (fun t ht hW => ⟨0, _, _, tr2, vp_updL g (0 : Int32).toNatClampNeg (nI (sR_taken N S i1 i2 i3)).toInt64, rfl, ⟨hk9.symm, by rw [if_pos hk9], by rw [if_pos hk9], fun _ => gl_u _ _⟩, by rw [ht]; exact hP3, hS3.F ht⟩) hS3.2.2 dL_taken_24 G.2.2.2.2.2.2
set_option maxRecDepth 100000 in
set_option maxHeartbeats 800000 in
/-- the law calls chain -/
theorem mL_chain (l : Launch) (hst : l.stackTraces = false) (D : va_G) (q : Nat → Nat) (cI : ClassId) (o : Nat) (cL : ClassId) (N : Nat → Nat) (S : Nat → Nat → Nat) (tr : Nat → Nat) (g : Nat → Int64) (A : Nat → Prop) (hok : sp_ok N S) (hinv : sp_inv N S) : Met l yL_chain wsL_chain { frames := 7, cells := 1, slots := 6, locals := 103 } (va_Pc [.ref (q 0), .ref o] (fun U => wAt D q cI o cL N S tr g A U U.heap)) (gQw D q cI o cL (fun k N2 S2 v => k = sk_chain N S ∧ N2 = (if sk_chain N S = 0 then sN_chain N S else N) ∧ S2 = (if sk_chain N S = 0 then sS_chain N S else S) ∧ (sk_chain N S = 0 → v = (nI (sR_chain N S)).toInt64)) A) 1 6 (fun z => A z ∨ z = o) := by
  refine gc_metW [.ref (q 0), .ref o] (by decide) rfl (Nat.le_of_ble_eq_true rfl) rfl ?_
  intro p e s m below meth c ls G hT hl hX
  obtain ⟨z1, z2, z3, z4, z5, z6, z7⟩ := hX.2.2.2.2.2
  have hx := hX.x
  refine lv_aload_n G.1 G.2.1 dL_chain_0 rfl (lv_at hl 1 rfl) ?_
  refine lv_iconst (v := nI 0) G.1 G.2.1 dL_chain_1 (by decide) ?_
  refine lv_aload_n G.1 G.2.1 dL_chain_2 rfl (lv_at hl 0 rfl) ?_
  refine gl_call (rest := [.int (nI 0), .ref o]) (vx_runV (As := []) (rest := [.int (nI 0), .ref o]) G.fix (mX0_chain l hst D q cI N S tr A hok hinv) (cwV 0 G.2.2.2.2.2.1 gL_chain_X0_chain rfl rfl rfl (by decide +kernel) ⟨Nat.le_of_ble_eq_true rfl, Nat.le_of_ble_eq_true rfl⟩) ⟨xAt_blind, va_recv hx.2.1 hx.1 (ci := 0) (q0 := 0) rfl rfl, fun U hU hW => ⟨rfl, by show xAt _ _ _ _ _ _ _ U U.heap; rw [hU]; exact hx.moved hW⟩⟩ rfl rfl hl.1 rfl (lv_room (Nat.le_of_ble_eq_true rfl)) dL_chain_3 ⟨Nat.le_of_ble_eq_true rfl, Nat.le_of_ble_eq_true rfl⟩) (fun E ce q9 tr2 H1 L hE hP hz hk hL hce hcv hcl => ?_) (fun r N2 S2 tr2 H1 L hp hP hz hk hL => ?_)
  · obtain ⟨hP2, hD2, hS2⟩ := gl_join hX hP hz hk rfl hL
    rcases hE with ⟨rfl, h1⟩ | ⟨rfl, h1, h2⟩ | ⟨rfl, h1, h2, h3⟩
    · exact absurd h1 (by show ¬ (true = false); decide)
    · exact absurd h2 (by show ¬ (true = false); decide)
    · have hk9 : sk_chain N S = 1 := gk_f h3
      refine vx_catch (own := RL) (name := gIS) G.2.2.2.2.1 [] ⟨0, 8, 11, 13⟩ [] (hT.trans rfl) (fun _ h => nomatch h) (by decide) (by decide) (G.2.2.2.2.2.1 (.classLink RL 13 gIS) (by decide +kernel)) (va_Nw.use rfl (z3 (.castable gIS gIS) (by decide +kernel))) hce hcv hcl ?_
      refine lv_astore_n (lv' := [(2, .ref q9), (0, .ref (q 0)), (1, .ref o)]) G.1 G.2.1 dL_chain_11 rfl hl (by decide) rfl (fun ls hl => ?_)
      refine lv_iconst (v := nI 1) G.1 G.2.1 dL_chain_12 (by decide) ?_
      exact W.iret G.1 G.2.1 G.2.2.1 (fun t ht hW => ⟨1, N, S, tr2, g, rfl, ⟨hk9.symm, by rw [hk9]; rfl, by rw [hk9]; rfl, fun h => absurd (hk9.symm.trans h) (by decide)⟩, by rw [ht]; exact hP2, hS2.F ht⟩) hS2.2.2 dL_chain_13 G.2.2.2.2.2.2
  · obtain ⟨hA, hB, hC, rfl, e2, e3⟩ := hp
    rw [e2, e3] at hP
    obtain ⟨hP2, hD2, hS2⟩ := gl_join hX hP hz hk rfl hL
    have hk9 : sk_chain N S = 0 := gk_ttt hC rfl rfl
    refine lv_i2l (v := (nI (sR_chain N S)).toInt64) G.1 G.2.1 dL_chain_6 rfl ?_
    refine va_last (D := D) (A := fun z => A z ∨ z = o) (H0 := s.heap) G.1 G.2.1 hX.2.1 hP2 hD2 hS2 0 1 (f := g) rfl rfl (by unfold vp_in; decide) dL_chain_7 (fun H3 locs3 hP3 hD3 hS3 => ?_)
    have hP3 : va_P D vwCl (oe o cL (vp_updL g (0 : Int32).toNatClampNeg (nI (sR_chain N S)).toInt64) :: xw q cI _ _ tr2) H3 := hP3
    refine lv_goto (tgt := 14) G.1 G.2.1 dL_chain_8 (by decide) ?_
    refine lv_iconst (v := nI 0) G.1 G.2.1 dL_chain_14 (by decide) ?_
    exact W.iret G.1 G.2.1 G.2.2.1 (fun t ht hW => ⟨0, _, _, tr2, vp_updL g (0 : Int32).toNatClampNeg (nI (sR_chain N S)).toInt64, rfl, ⟨hk9.symm, by rw [if_pos hk9], by rw [if_pos hk9], fun _ => gl_u _ _⟩, by rw [ht]; exact hP3, hS3.F ht⟩) hS3.2.2 dL_chain_15 G.2.2.2.2.2.2
set_option maxRecDepth 100000 in
set_option maxHeartbeats 800000 in
/-- the law calls add -/
theorem mL_add (l : Launch) (hst : l.stackTraces = false) (D : va_G) (q : Nat → Nat) (cI : ClassId) (o : Nat) (cL : ClassId) (N : Nat → Nat) (S : Nat → Nat → Nat) (tr : Nat → Nat) (g : Nat → Int64) (A : Nat → Prop) (hok : sp_ok N S) (hinv : sp_inv N S) (i1 i2 : Int32) : Met l yL_add wsL_add { frames := 8, cells := 1, slots := 6, locals := 126 } (va_Pc [.ref (q 0), .int i1, .int i2, .ref o] (fun U => wAt D q cI o cL N S tr g A U U.heap)) (gQw D q cI o cL (fun k N2 S2 v => k = sk_add N S i1 i2 ∧ N2 = (if sk_add N S i1 i2 = 0 then sN_add N S i1 i2 else N) ∧ S2 = (if sk_add N S i1 i2 = 0 then sS_add N S i1 i2 else S) ∧ (sk_add N S i1 i2 = 0 → v = (nI (sR_add N S i1 i2)).toInt64)) A) 1 6 (fun z => A z ∨ z = o) := by
  refine gc_metW [.ref (q 0), .int i1, .int i2, .ref o] (by decide) rfl (Nat.le_of_ble_eq_true rfl) rfl ?_
  intro p e s m below meth c ls G hT hl hX
  obtain ⟨z1, z2, z3, z4, z5, z6, z7⟩ := hX.2.2.2.2.2
  have hx := hX.x
  refine lv_aload_n G.1 G.2.1 dL_add_0 rfl (lv_at hl 3 rfl) ?_
  refine lv_iconst (v := nI 0) G.1 G.2.1 dL_add_1 (by decide) ?_
  refine lv_aload_n G.1 G.2.1 dL_add_2 rfl (lv_at hl 0 rfl) ?_
  refine lv_iload_n G.1 G.2.1 dL_add_3 rfl (lv_at hl 1 rfl) ?_
  refine lv_iload_n G.1 G.2.1 dL_add_4 rfl (lv_at hl 2 rfl) ?_
  refine gl_call (rest := [.int (nI 0), .ref o]) (vx_runV (As := [.int i1, .int i2]) (rest := [.int (nI 0), .ref o]) G.fix (mX0_add l hst D q cI N S tr A hok hinv i1 i2) (cwV 2 G.2.2.2.2.2.1 gL_add_X0_add rfl rfl rfl (by decide +kernel) ⟨Nat.le_of_ble_eq_true rfl, Nat.le_of_ble_eq_true rfl⟩) ⟨xAt_blind, va_recv hx.2.1 hx.1 (ci := 0) (q0 := 0) rfl rfl, fun U hU hW => ⟨rfl, by show xAt _ _ _ _ _ _ _ U U.heap; rw [hU]; exact hx.moved hW⟩⟩ rfl rfl hl.1 rfl (lv_room (Nat.le_of_ble_eq_true rfl)) dL_add_5 ⟨Nat.le_of_ble_eq_true rfl, Nat.le_of_ble_eq_true rfl⟩) (fun E ce q9 tr2 H1 L hE hP hz hk hL hce hcv hcl => ?_) (fun r N2 S2 tr2 H1 L hp hP hz hk hL => ?_)
  · obtain ⟨hP2, hD2, hS2⟩ := gl_join hX hP hz hk rfl hL
    rcases hE with ⟨rfl, h1⟩ | ⟨rfl, h1, h2⟩ | ⟨rfl, h1, h2, h3⟩
    · have hk9 : sk_add N S i1 i2 = 1 := gk_f h1
      refine vx_catch (own := RL) (name := gIO) G.2.2.2.2.1 [] ⟨0, 10, 13, 19⟩ [⟨0, 10, 17, 13⟩] (hT.trans rfl) (fun _ h => nomatch h) (by decide) (by decide) (G.2.2.2.2.2.1 (.classLink RL 19 gIO) (by decide +kernel)) (va_Nw.use rfl (z3 (.castable gIO gIO) (by decide +kernel))) hce hcv hcl ?_
      refine lv_astore (lv' := [(4, .ref q9), (0, .ref (q 0)), (1, .int i1), (2, .int i2), (3, .ref o)]) G.1 G.2.1 dL_add_13 hl (by decide) rfl (fun ls hl => ?_)
      refine lv_iconst (v := nI 1) G.1 G.2.1 dL_add_15 (by decide) ?_
      exact W.iret G.1 G.2.1 G.2.2.1 (fun t ht hW => ⟨1, N, S, tr2, g, rfl, ⟨hk9.symm, by rw [hk9]; rfl, by rw [hk9]; rfl, fun h => absurd (hk9.symm.trans h) (by decide)⟩, by rw [ht]; exact hP2, hS2.F ht⟩) hS2.2.2 dL_add_16 G.2.2.2.2.2.2
    · exact absurd h2 (by show ¬ (true = false); decide)
    · have hk9 : sk_add N S i1 i2 = 2 := gk_tf h1 h3
      refine vx_catch (own := RL) (name := gIS) G.2.2.2.2.1 [⟨0, 10, 13, 19⟩] ⟨0, 10, 17, 13⟩ [] (hT.trans rfl) (List.forall_mem_cons.mpr ⟨Or.inr ⟨by decide, gIO, G.2.2.2.2.2.1 (.classLink RL 19 gIO) (by decide +kernel), z6⟩, fun _ h => nomatch h⟩) (by decide) (by decide) (G.2.2.2.2.2.1 (.classLink RL 13 gIS) (by decide +kernel)) (va_Nw.use rfl (z3 (.castable gIS gIS) (by decide +kernel))) hce hcv hcl ?_
      refine lv_astore (lv' := [(4, .ref q9), (0, .ref (q 0)), (1, .int i1), (2, .int i2), (3, .ref o)]) G.1 G.2.1 dL_add_17 hl (by decide) rfl (fun ls hl => ?_)
      refine lv_iconst (v := nI 2) G.1 G.2.1 dL_add_19 (by decide) ?_
      exact W.iret G.1 G.2.1 G.2.2.1 (fun t ht hW => ⟨2, N, S, tr2, g, rfl, ⟨hk9.symm, by rw [hk9]; rfl, by rw [hk9]; rfl, fun h => absurd (hk9.symm.trans h) (by decide)⟩, by rw [ht]; exact hP2, hS2.F ht⟩) hS2.2.2 dL_add_20 G.2.2.2.2.2.2
  · obtain ⟨hA, hB, hC, rfl, e2, e3⟩ := hp
    rw [e2, e3] at hP
    obtain ⟨hP2, hD2, hS2⟩ := gl_join hX hP hz hk rfl hL
    have hk9 : sk_add N S i1 i2 = 0 := gk_ttt hA hC rfl
    refine lv_i2l (v := (nI (sR_add N S i1 i2)).toInt64) G.1 G.2.1 dL_add_8 rfl ?_
    refine va_last (D := D) (A := fun z => A z ∨ z = o) (H0 := s.heap) G.1 G.2.1 hX.2.1 hP2 hD2 hS2 0 1 (f := g) rfl rfl (by unfold vp_in; decide) dL_add_9 (fun H3 locs3 hP3 hD3 hS3 => ?_)
    have hP3 : va_P D vwCl (oe o cL (vp_updL g (0 : Int32).toNatClampNeg (nI (sR_add N S i1 i2)).toInt64) :: xw q cI _ _ tr2) H3 := hP3
    refine lv_goto (tgt := 21) G.1 G.2.1 dL_add_10 (by decide) ?_
    refine lv_iconst (v := nI 0) G.1 G.2.1 dL_add_21 (by decide) ?_
    exact W.iret G.1 G.2.1 G.2.2.1 (fun t ht hW => ⟨0, _, _, tr2, vp_updL g (0 : Int32).toNatClampNeg (nI (sR_add N S i1 i2)).toInt64, rfl, ⟨hk9.symm, by rw [if_pos hk9], by rw [if_pos hk9], fun _ => gl_u _ _⟩, by rw [ht]; exact hP3, hS3.F ht⟩) hS3.2.2 dL_add_22 G.2.2.2.2.2.2
set_option maxRecDepth 100000 in
set_option maxHeartbeats 800000 in
/-- the law calls drop -/
theorem mL_drop (l : Launch) (hst : l.stackTraces = false) (D : va_G) (q : Nat → Nat) (cI : ClassId) (o : Nat) (cL : ClassId) (N : Nat → Nat) (S : Nat → Nat → Nat) (tr : Nat → Nat) (g : Nat → Int64) (A : Nat → Prop) (hok : sp_ok N S) (hinv : sp_inv N S) (i1 : Int32) : Met l yL_drop wsL_drop { frames := 8, cells := 1, slots := 6, locals := 125 } (va_Pc [.ref (q 0), .int i1, .ref o] (fun U => wAt D q cI o cL N S tr g A U U.heap)) (gQw D q cI o cL (fun k N2 S2 v => k = sk_drop N S i1 ∧ N2 = (if sk_drop N S i1 = 0 then sN_drop N S i1 else N) ∧ S2 = (if sk_drop N S i1 = 0 then sS_drop N S i1 else S) ∧ (sk_drop N S i1 = 0 → v = (nI (sR_drop N S i1)).toInt64)) A) 1 6 (fun z => A z ∨ z = o) := by
  refine gc_metW [.ref (q 0), .int i1, .ref o] (by decide) rfl (Nat.le_of_ble_eq_true rfl) rfl ?_
  intro p e s m below meth c ls G hT hl hX
  obtain ⟨z1, z2, z3, z4, z5, z6, z7⟩ := hX.2.2.2.2.2
  have hx := hX.x
  refine lv_aload_n G.1 G.2.1 dL_drop_0 rfl (lv_at hl 2 rfl) ?_
  refine lv_iconst (v := nI 0) G.1 G.2.1 dL_drop_1 (by decide) ?_
  refine lv_aload_n G.1 G.2.1 dL_drop_2 rfl (lv_at hl 0 rfl) ?_
  refine lv_iload_n G.1 G.2.1 dL_drop_3 rfl (lv_at hl 1 rfl) ?_
  refine gl_call (rest := [.int (nI 0), .ref o]) (vx_runV (As := [.int i1]) (rest := [.int (nI 0), .ref o]) G.fix (mX0_drop l hst D q cI N S tr A hok hinv i1) (cwV 1 G.2.2.2.2.2.1 gL_drop_X0_drop rfl rfl rfl (by decide +kernel) ⟨Nat.le_of_ble_eq_true rfl, Nat.le_of_ble_eq_true rfl⟩) ⟨xAt_blind, va_recv hx.2.1 hx.1 (ci := 0) (q0 := 0) rfl rfl, fun U hU hW => ⟨rfl, by show xAt _ _ _ _ _ _ _ U U.heap; rw [hU]; exact hx.moved hW⟩⟩ rfl rfl hl.1 rfl (lv_room (Nat.le_of_ble_eq_true rfl)) dL_drop_4 ⟨Nat.le_of_ble_eq_true rfl, Nat.le_of_ble_eq_true rfl⟩) (fun E ce q9 tr2 H1 L hE hP hz hk hL hce hcv hcl => ?_) (fun r N2 S2 tr2 H1 L hp hP hz hk hL => ?_)
  · obtain ⟨hP2, hD2, hS2⟩ := gl_join hX hP hz hk rfl hL
    rcases hE with ⟨rfl, h1⟩ | ⟨rfl, h1, h2⟩ | ⟨rfl, h1, h2, h3⟩
    · have hk9 : sk_drop N S i1 = 1 := gk_f h1
      refine vx_catch (own := RL) (name := gIO) G.2.2.2.2.1 [] ⟨0, 9, 12, 19⟩ [⟨0, 9, 15, 13⟩] (hT.trans rfl) (fun _ h => nomatch h) (by decide) (by decide) (G.2.2.2.2.2.1 (.classLink RL 19 gIO) (by decide +kernel)) (va_Nw.use rfl (z3 (.castable gIO gIO) (by decide +kernel))) hce hcv hcl ?_
      refine lv_astore_n (lv' := [(3, .ref q9), (0, .ref (q 0)), (1, .int i1), (2, .ref o)]) G.1 G.2.1 dL_drop_12 rfl hl (by decide) rfl (fun ls hl => ?_)
      refine lv_iconst (v := nI 1) G.1 G.2.1 dL_drop_13 (by decide) ?_
      exact W.iret G.1 G.2.1 G.2.2.1 (fun t ht hW => ⟨1, N, S, tr2, g, rfl, ⟨hk9.symm, by rw [hk9]; rfl, by rw [hk9]; rfl, fun h => absurd (hk9.symm.trans h) (by decide)⟩, by rw [ht]; exact hP2, hS2.F ht⟩) hS2.2.2 dL_drop_14 G.2.2.2.2.2.2
    · exact absurd h2 (by show ¬ (true = false); decide)
    · have hk9 : sk_drop N S i1 = 2 := gk_tf h1 h3
      refine vx_catch (own := RL) (name := gIS) G.2.2.2.2.1 [⟨0, 9, 12, 19⟩] ⟨0, 9, 15, 13⟩ [] (hT.trans rfl) (List.forall_mem_cons.mpr ⟨Or.inr ⟨by decide, gIO, G.2.2.2.2.2.1 (.classLink RL 19 gIO) (by decide +kernel), z6⟩, fun _ h => nomatch h⟩) (by decide) (by decide) (G.2.2.2.2.2.1 (.classLink RL 13 gIS) (by decide +kernel)) (va_Nw.use rfl (z3 (.castable gIS gIS) (by decide +kernel))) hce hcv hcl ?_
      refine lv_astore_n (lv' := [(3, .ref q9), (0, .ref (q 0)), (1, .int i1), (2, .ref o)]) G.1 G.2.1 dL_drop_15 rfl hl (by decide) rfl (fun ls hl => ?_)
      refine lv_iconst (v := nI 2) G.1 G.2.1 dL_drop_16 (by decide) ?_
      exact W.iret G.1 G.2.1 G.2.2.1 (fun t ht hW => ⟨2, N, S, tr2, g, rfl, ⟨hk9.symm, by rw [hk9]; rfl, by rw [hk9]; rfl, fun h => absurd (hk9.symm.trans h) (by decide)⟩, by rw [ht]; exact hP2, hS2.F ht⟩) hS2.2.2 dL_drop_17 G.2.2.2.2.2.2
  · obtain ⟨hA, hB, hC, rfl, e2, e3⟩ := hp
    rw [e2, e3] at hP
    obtain ⟨hP2, hD2, hS2⟩ := gl_join hX hP hz hk rfl hL
    have hk9 : sk_drop N S i1 = 0 := gk_ttt hA hC rfl
    refine lv_i2l (v := (nI (sR_drop N S i1)).toInt64) G.1 G.2.1 dL_drop_7 rfl ?_
    refine va_last (D := D) (A := fun z => A z ∨ z = o) (H0 := s.heap) G.1 G.2.1 hX.2.1 hP2 hD2 hS2 0 1 (f := g) rfl rfl (by unfold vp_in; decide) dL_drop_8 (fun H3 locs3 hP3 hD3 hS3 => ?_)
    have hP3 : va_P D vwCl (oe o cL (vp_updL g (0 : Int32).toNatClampNeg (nI (sR_drop N S i1)).toInt64) :: xw q cI _ _ tr2) H3 := hP3
    refine lv_goto (tgt := 18) G.1 G.2.1 dL_drop_9 (by decide) ?_
    refine lv_iconst (v := nI 0) G.1 G.2.1 dL_drop_18 (by decide) ?_
    exact W.iret G.1 G.2.1 G.2.2.1 (fun t ht hW => ⟨0, _, _, tr2, vp_updL g (0 : Int32).toNatClampNeg (nI (sR_drop N S i1)).toInt64, rfl, ⟨hk9.symm, by rw [if_pos hk9], by rw [if_pos hk9], fun _ => gl_u _ _⟩, by rw [ht]; exact hP3, hS3.F ht⟩) hS3.2.2 dL_drop_19 G.2.2.2.2.2.2
set_option maxRecDepth 100000 in
set_option maxHeartbeats 800000 in
/-- the law calls through -/
theorem mL_through (l : Launch) (hst : l.stackTraces = false) (D : va_G) (q : Nat → Nat) (cI : ClassId) (o : Nat) (cL : ClassId) (N : Nat → Nat) (S : Nat → Nat → Nat) (tr : Nat → Nat) (g : Nat → Int64) (A : Nat → Prop) (hok : sp_ok N S) (hinv : sp_inv N S) (i1 i2 i3 : Int32) : Met l yL_through wsL_through { frames := 8, cells := 1, slots := 6, locals := 147 } (va_Pc [.ref (q 0), .int i1, .int i2, .int i3, .ref o] (fun U => wAt D q cI o cL N S tr g A U U.heap)) (gQw D q cI o cL (fun k N2 S2 v => k = sk_through N S i1 i2 i3 ∧ N2 = (if sk_through N S i1 i2 i3 = 0 then sN_through N S i1 i2 i3 else N) ∧ S2 = (if sk_through N S i1 i2 i3 = 0 then sS_through N S i1 i2 i3 else S) ∧ (sk_through N S i1 i2 i3 = 0 → v = (nI (sR_through N S i1 i2 i3)).toInt64)) A) 1 6 (fun z => A z ∨ z = o) := by
  refine gc_metW [.ref (q 0), .int i1, .int i2, .int i3, .ref o] (by decide) rfl (Nat.le_of_ble_eq_true rfl) rfl ?_
  intro p e s m below meth c ls G hT hl hX
  obtain ⟨z1, z2, z3, z4, z5, z6, z7⟩ := hX.2.2.2.2.2
  have hx := hX.x
  refine lv_aload G.1 G.2.1 dL_through_0 (lv_at hl 4 rfl) ?_
  refine lv_iconst (v := nI 0) G.1 G.2.1 dL_through_2 (by decide) ?_
  refine lv_aload_n G.1 G.2.1 dL_through_3 rfl (lv_at hl 0 rfl) ?_
  refine lv_iload_n G.1 G.2.1 dL_through_4 rfl (lv_at hl 1 rfl) ?_
  refine lv_iload_n G.1 G.2.1 dL_through_5 rfl (lv_at hl 2 rfl) ?_
  refine lv_iload_n G.1 G.2.1 dL_through_6 rfl (lv_at hl 3 rfl) ?_
  refine gl_call (rest := [.int (nI 0), .ref o]) (vx_runV (As := [.int i1, .int i2, .int i3]) (rest := [.int (nI 0), .ref o]) G.fix (mX0_through l hst D q cI N S tr A hok hinv i1 i2 i3) (cwV 3 G.2.2.2.2.2.1 gL_through_X0_through rfl rfl rfl (by decide +kernel) ⟨Nat.le_of_ble_eq_true rfl, Nat.le_of_ble_eq_true rfl⟩) ⟨xAt_blind, va_recv hx.2.1 hx.1 (ci := 0) (q0 := 0) rfl rfl, fun U hU hW => ⟨rfl, by show xAt _ _ _ _ _ _ _ U U.heap; rw [hU]; exact hx.moved hW⟩⟩ rfl rfl hl.1 rfl (lv_room (Nat.le_of_ble_eq_true rfl)) dL_through_7 ⟨Nat.le_of_ble_eq_true rfl, Nat.le_of_ble_eq_true rfl⟩) (fun E ce q9 tr2 H1 L hE hP hz hk hL hce hcv hcl => ?_) (fun r N2 S2 tr2 H1 L hp hP hz hk hL => ?_)
  · obtain ⟨hP2, hD2, hS2⟩ := gl_join hX hP hz hk rfl hL
    rcases hE with ⟨rfl, h1⟩ | ⟨rfl, h1, h2⟩ | ⟨rfl, h1, h2, h3⟩
    · have hk9 : sk_through N S i1 i2 i3 = 1 := gk_f h1
      refine vx_catch (own := RL) (name := gIO) G.2.2.2.2.1 [] ⟨0, 12, 15, 19⟩ [⟨0, 12, 19, 21⟩] (hT.trans rfl) (fun _ h => nomatch h) (by decide) (by decide) (G.2.2.2.2.2.1 (.classLink RL 19 gIO) (by decide +kernel)) (va_Nw.use rfl (z3 (.castable gIO gIO) (by decide +kernel))) hce hcv hcl ?_
      refine lv_astore (lv' := [(5, .ref q9), (0, .ref (q 0)), (1, .int i1), (2, .int i2), (3, .int i3), (4, .ref o)]) G.1 G.2.1 dL_through_15 hl (by decide) rfl (fun ls hl => ?_)
      refine lv_iconst (v := nI 1) G.1 G.2.1 dL_through_17 (by decide) ?_
      exact W.iret G.1 G.2.1 G.2.2.1 (fun t ht hW => ⟨1, N, S, tr2, g, rfl, ⟨hk9.symm, by rw [hk9]; rfl, by rw [hk9]; rfl, fun h => absurd (hk9.symm.trans h) (by decide)⟩, by rw [ht]; exact hP2, hS2.F ht⟩) hS2.2.2 dL_through_18 G.2.2.2.2.2.2
    · have hk9 : sk_through N S i1 i2 i3 = 2 := gk_tf h1 h2
      refine vx_catch (own := RL) (name := gIA) G.2.2.2.2.1 [⟨0, 12, 15, 19⟩] ⟨0, 12, 19, 21⟩ [] (hT.trans rfl) (List.forall_mem_cons.mpr ⟨Or.inr ⟨by decide, gIO, G.2.2.2.2.2.1 (.classLink RL 19 gIO) (by decide +kernel), z5⟩, fun _ h => nomatch h⟩) (by decide) (by decide) (G.2.2.2.2.2.1 (.classLink RL 21 gIA) (by decide +kernel)) (va_Nw.use rfl (z3 (.castable gIA gIA) (by decide +kernel))) hce hcv hcl ?_
      refine lv_astore (lv' := [(5, .ref q9), (0, .ref (q 0)), (1, .int i1), (2, .int i2), (3, .int i3), (4, .ref o)]) G.1 G.2.1 dL_through_19 hl (by decide) rfl (fun ls hl => ?_)
      refine lv_iconst (v := nI 2) G.1 G.2.1 dL_through_21 (by decide) ?_
      exact W.iret G.1 G.2.1 G.2.2.1 (fun t ht hW => ⟨2, N, S, tr2, g, rfl, ⟨hk9.symm, by rw [hk9]; rfl, by rw [hk9]; rfl, fun h => absurd (hk9.symm.trans h) (by decide)⟩, by rw [ht]; exact hP2, hS2.F ht⟩) hS2.2.2 dL_through_22 G.2.2.2.2.2.2
    · exact absurd h3 (by show ¬ (true = false); decide)
  · obtain ⟨hA, hB, hC, rfl, e2, e3⟩ := hp
    rw [e2, e3] at hP
    obtain ⟨hP2, hD2, hS2⟩ := gl_join hX hP hz hk rfl hL
    have hk9 : sk_through N S i1 i2 i3 = 0 := gk_ttt hA hB rfl
    refine lv_i2l (v := (nI (sR_through N S i1 i2 i3)).toInt64) G.1 G.2.1 dL_through_10 rfl ?_
    refine va_last (D := D) (A := fun z => A z ∨ z = o) (H0 := s.heap) G.1 G.2.1 hX.2.1 hP2 hD2 hS2 0 1 (f := g) rfl rfl (by unfold vp_in; decide) dL_through_11 (fun H3 locs3 hP3 hD3 hS3 => ?_)
    have hP3 : va_P D vwCl (oe o cL (vp_updL g (0 : Int32).toNatClampNeg (nI (sR_through N S i1 i2 i3)).toInt64) :: xw q cI _ _ tr2) H3 := hP3
    refine lv_goto (tgt := 23) G.1 G.2.1 dL_through_12 (by decide) ?_
    refine lv_iconst (v := nI 0) G.1 G.2.1 dL_through_23 (by decide) ?_
    exact W.iret G.1 G.2.1 G.2.2.1 (fun t ht hW => ⟨0, _, _, tr2, vp_updL g (0 : Int32).toNatClampNeg (nI (sR_through N S i1 i2 i3)).toInt64, rfl, ⟨hk9.symm, by rw [if_pos hk9], by rw [if_pos hk9], fun _ => gl_u _ _⟩, by rw [ht]; exact hP3, hS3.F ht⟩) hS3.2.2 dL_through_24 G.2.2.2.2.2.2
set_option maxRecDepth 100000 in
set_option maxHeartbeats 800000 in
/-- the law calls gap -/
theorem mL_gap (l : Launch) (hst : l.stackTraces = false) (D : va_G) (q : Nat → Nat) (cI : ClassId) (o : Nat) (cL : ClassId) (N : Nat → Nat) (S : Nat → Nat → Nat) (tr : Nat → Nat) (g : Nat → Int64) (A : Nat → Prop) (hok : sp_ok N S) (hinv : sp_inv N S) (i1 : Int32) : Met l yL_gap wsL_gap { frames := 8, cells := 1, slots := 6, locals := 170 } (va_Pc [.ref (q 0), .int i1, .ref o] (fun U => wAt D q cI o cL N S tr g A U U.heap)) (gQw D q cI o cL (fun k N2 S2 v => k = sk_gap N S i1 ∧ N2 = (if sk_gap N S i1 = 0 then sN_gap N S i1 else N) ∧ S2 = (if sk_gap N S i1 = 0 then sS_gap N S i1 else S) ∧ (sk_gap N S i1 = 0 → v = (nI (sR_gap N S i1)).toInt64)) A) 1 6 (fun z => A z ∨ z = o) := by
  refine gc_metW [.ref (q 0), .int i1, .ref o] (by decide) rfl (Nat.le_of_ble_eq_true rfl) rfl ?_
  intro p e s m below meth c ls G hT hl hX
  obtain ⟨z1, z2, z3, z4, z5, z6, z7⟩ := hX.2.2.2.2.2
  have hx := hX.x
  refine lv_aload_n G.1 G.2.1 dL_gap_0 rfl (lv_at hl 2 rfl) ?_
  refine lv_iconst (v := nI 0) G.1 G.2.1 dL_gap_1 (by decide) ?_
  refine lv_aload_n G.1 G.2.1 dL_gap_2 rfl (lv_at hl 0 rfl) ?_
  refine lv_iload_n G.1 G.2.1 dL_gap_3 rfl (lv_at hl 1 rfl) ?_
  refine gl_call (rest := [.int (nI 0), .ref o]) (vx_runV (As := [.int i1]) (rest := [.int (nI 0), .ref o]) G.fix (mX0_gap l hst D q cI N S tr A hok hinv i1) (cwV 1 G.2.2.2.2.2.1 gL_gap_X0_gap rfl rfl rfl (by decide +kernel) ⟨Nat.le_of_ble_eq_true rfl, Nat.le_of_ble_eq_true rfl⟩) ⟨xAt_blind, va_recv hx.2.1 hx.1 (ci := 0) (q0 := 0) rfl rfl, fun U hU hW => ⟨rfl, by show xAt _ _ _ _ _ _ _ U U.heap; rw [hU]; exact hx.moved hW⟩⟩ rfl rfl hl.1 rfl (lv_room (Nat.le_of_ble_eq_true rfl)) dL_gap_4 ⟨Nat.le_of_ble_eq_true rfl, Nat.le_of_ble_eq_true rfl⟩) (fun E ce q9 tr2 H1 L hE hP hz hk hL hce hcv hcl => ?_) (fun r N2 S2 tr2 H1 L hp hP hz hk hL => ?_)
  · obtain ⟨hP2, hD2, hS2⟩ := gl_join hX hP hz hk rfl hL
    rcases hE with ⟨rfl, h1⟩ | ⟨rfl, h1, h2⟩ | ⟨rfl, h1, h2, h3⟩
    · have hk9 : sk_gap N S i1 = 1 := gk_f h1
      refine vx_catch (own := RL) (name := gIO) G.2.2.2.2.1 [] ⟨0, 9, 12, 19⟩ [] (hT.trans rfl) (fun _ h => nomatch h) (by decide) (by decide) (G.2.2.2.2.2.1 (.classLink RL 19 gIO) (by decide +kernel)) (va_Nw.use rfl (z3 (.castable gIO gIO) (by decide +kernel))) hce hcv hcl ?_
      refine lv_astore_n (lv' := [(3, .ref q9), (0, .ref (q 0)), (1, .int i1), (2, .ref o)]) G.1 G.2.1 dL_gap_12 rfl hl (by decide) rfl (fun ls hl => ?_)
      refine lv_iconst (v := nI 1) G.1 G.2.1 dL_gap_13 (by decide) ?_
      exact W.iret G.1 G.2.1 G.2.2.1 (fun t ht hW => ⟨1, N, S, tr2, g, rfl, ⟨hk9.symm, by rw [hk9]; rfl, by rw [hk9]; rfl, fun h => absurd (hk9.symm.trans h) (by decide)⟩, by rw [ht]; exact hP2, hS2.F ht⟩) hS2.2.2 dL_gap_14 G.2.2.2.2.2.2
    · exact absurd h2 (by show ¬ (true = false); decide)
    · exact absurd h3 (by show ¬ (true = false); decide)
  · obtain ⟨hA, hB, hC, rfl, e2, e3⟩ := hp
    rw [e2, e3] at hP
    obtain ⟨hP2, hD2, hS2⟩ := gl_join hX hP hz hk rfl hL
    have hk9 : sk_gap N S i1 = 0 := gk_ttt hA rfl rfl
    refine lv_i2l (v := (nI (sR_gap N S i1)).toInt64) G.1 G.2.1 dL_gap_7 rfl ?_
    refine va_last (D := D) (A := fun z => A z ∨ z = o) (H0 := s.heap) G.1 G.2.1 hX.2.1 hP2 hD2 hS2 0 1 (f := g) rfl rfl (by unfold vp_in; decide) dL_gap_8 (fun H3 locs3 hP3 hD3 hS3 => ?_)
    have hP3 : va_P D vwCl (oe o cL (vp_updL g (0 : Int32).toNatClampNeg (nI (sR_gap N S i1)).toInt64) :: xw q cI _ _ tr2) H3 := hP3
    refine lv_goto (tgt := 15) G.1 G.2.1 dL_gap_9 (by decide) ?_
    refine lv_iconst (v := nI 0) G.1 G.2.1 dL_gap_15 (by decide) ?_
    exact W.iret G.1 G.2.1 G.2.2.1 (fun t ht hW => ⟨0, _, _, tr2, vp_updL g (0 : Int32).toNatClampNeg (nI (sR_gap N S i1)).toInt64, rfl, ⟨hk9.symm, by rw [if_pos hk9], by rw [if_pos hk9], fun _ => gl_u _ _⟩, by rw [ht]; exact hP3, hS3.F ht⟩) hS3.2.2 dL_gap_16 G.2.2.2.2.2.2
set_option maxRecDepth 100000 in
set_option maxHeartbeats 800000 in
/-- the law calls greyGap -/
theorem mL_greyGap (l : Launch) (hst : l.stackTraces = false) (D : va_G) (q : Nat → Nat) (cI : ClassId) (o : Nat) (cL : ClassId) (N : Nat → Nat) (S : Nat → Nat → Nat) (tr : Nat → Nat) (g : Nat → Int64) (A : Nat → Prop) (hok : sp_ok N S) (hinv : sp_inv N S) (i1 : Int32) : Met l yL_greyGap wsL_greyGap { frames := 8, cells := 1, slots := 6, locals := 151 } (va_Pc [.ref (q 0), .int i1, .ref o] (fun U => wAt D q cI o cL N S tr g A U U.heap)) (gQw D q cI o cL (fun k N2 S2 v => k = sk_greyGap N S i1 ∧ N2 = (if sk_greyGap N S i1 = 0 then sN_greyGap N S i1 else N) ∧ S2 = (if sk_greyGap N S i1 = 0 then sS_greyGap N S i1 else S) ∧ (sk_greyGap N S i1 = 0 → v = (nI (sR_greyGap N S i1)).toInt64)) A) 1 6 (fun z => A z ∨ z = o) := by
  refine gc_metW [.ref (q 0), .int i1, .ref o] (by decide) rfl (Nat.le_of_ble_eq_true rfl) rfl ?_
  intro p e s m below meth c ls G hT hl hX
  obtain ⟨z1, z2, z3, z4, z5, z6, z7⟩ := hX.2.2.2.2.2
  have hx := hX.x
  refine lv_aload_n G.1 G.2.1 dL_greyGap_0 rfl (lv_at hl 2 rfl) ?_
  refine lv_iconst (v := nI 0) G.1 G.2.1 dL_greyGap_1 (by decide) ?_
  refine lv_aload_n G.1 G.2.1 dL_greyGap_2 rfl (lv_at hl 0 rfl) ?_
  refine lv_iload_n G.1 G.2.1 dL_greyGap_3 rfl (lv_at hl 1 rfl) ?_
  refine gl_call (rest := [.int (nI 0), .ref o]) (vx_runV (As := [.int i1]) (rest := [.int (nI 0), .ref o]) G.fix (mX0_greyGap l hst D q cI N S tr A hok hinv i1) (cwV 1 G.2.2.2.2.2.1 gL_greyGap_X0_greyGap rfl rfl rfl (by decide +kernel) ⟨Nat.le_of_ble_eq_true rfl, Nat.le_of_ble_eq_true rfl⟩) ⟨xAt_blind, va_recv hx.2.1 hx.1 (ci := 0) (q0 := 0) rfl rfl, fun U hU hW => ⟨rfl, by show xAt _ _ _ _ _ _ _ U U.heap; rw [hU]; exact hx.moved hW⟩⟩ rfl rfl hl.1 rfl (lv_room (Nat.le_of_ble_eq_true rfl)) dL_greyGap_4 ⟨Nat.le_of_ble_eq_true rfl, Nat.le_of_ble_eq_true rfl⟩) (fun E ce q9 tr2 H1 L hE hP hz hk hL hce hcv hcl => ?_) (fun r N2 S2 tr2 H1 L hp hP hz hk hL => ?_)
  · obtain ⟨hP2, hD2, hS2⟩ := gl_join hX hP hz hk rfl hL
    rcases hE with ⟨rfl, h1⟩ | ⟨rfl, h1, h2⟩ | ⟨rfl, h1, h2, h3⟩
    · have hk9 : sk_greyGap N S i1 = 1 := gk_f h1
      refine vx_catch (own := RL) (name := gIO) G.2.2.2.2.1 [] ⟨0, 9, 12, 19⟩ [] (hT.trans rfl) (fun _ h => nomatch h) (by decide) (by decide) (G.2.2.2.2.2.1 (.classLink RL 19 gIO) (by decide +kernel)) (va_Nw.use rfl (z3 (.castable gIO gIO) (by decide +kernel))) hce hcv hcl ?_
      refine lv_astore_n (lv' := [(3, .ref q9), (0, .ref (q 0)), (1, .int i1), (2, .ref o)]) G.1 G.2.1 dL_greyGap_12 rfl hl (by decide) rfl (fun ls hl => ?_)
      refine lv_iconst (v := nI 1) G.1 G.2.1 dL_greyGap_13 (by decide) ?_
      exact W.iret G.1 G.2.1 G.2.2.1 (fun t ht hW => ⟨1, N, S, tr2, g, rfl, ⟨hk9.symm, by rw [hk9]; rfl, by rw [hk9]; rfl, fun h => absurd (hk9.symm.trans h) (by decide)⟩, by rw [ht]; exact hP2, hS2.F ht⟩) hS2.2.2 dL_greyGap_14 G.2.2.2.2.2.2
    · exact absurd h2 (by show ¬ (true = false); decide)
    · exact absurd h3 (by show ¬ (true = false); decide)
  · obtain ⟨hA, hB, hC, rfl, e2, e3⟩ := hp
    rw [e2, e3] at hP
    obtain ⟨hP2, hD2, hS2⟩ := gl_join hX hP hz hk rfl hL
    have hk9 : sk_greyGap N S i1 = 0 := gk_ttt hA rfl rfl
    refine lv_i2l (v := (nI (sR_greyGap N S i1)).toInt64) G.1 G.2.1 dL_greyGap_7 rfl ?_
    refine va_last (D := D) (A := fun z => A z ∨ z = o) (H0 := s.heap) G.1 G.2.1 hX.2.1 hP2 hD2 hS2 0 1 (f := g) rfl rfl (by unfold vp_in; decide) dL_greyGap_8 (fun H3 locs3 hP3 hD3 hS3 => ?_)
    have hP3 : va_P D vwCl (oe o cL (vp_updL g (0 : Int32).toNatClampNeg (nI (sR_greyGap N S i1)).toInt64) :: xw q cI _ _ tr2) H3 := hP3
    refine lv_goto (tgt := 15) G.1 G.2.1 dL_greyGap_9 (by decide) ?_
    refine lv_iconst (v := nI 0) G.1 G.2.1 dL_greyGap_15 (by decide) ?_
    exact W.iret G.1 G.2.1 G.2.2.1 (fun t ht hW => ⟨0, _, _, tr2, vp_updL g (0 : Int32).toNatClampNeg (nI (sR_greyGap N S i1)).toInt64, rfl, ⟨hk9.symm, by rw [if_pos hk9], by rw [if_pos hk9], fun _ => gl_u _ _⟩, by rw [ht]; exact hP3, hS3.F ht⟩) hS3.2.2 dL_greyGap_16 G.2.2.2.2.2.2
set_option maxRecDepth 100000 in
set_option maxHeartbeats 800000 in
/-- the law calls join -/
theorem mL_join (l : Launch) (hst : l.stackTraces = false) (D : va_G) (q : Nat → Nat) (cI : ClassId) (o : Nat) (cL : ClassId) (N : Nat → Nat) (S : Nat → Nat → Nat) (tr : Nat → Nat) (g : Nat → Int64) (A : Nat → Prop) (hok : sp_ok N S) (hinv : sp_inv N S) (i1 i2 : Int32) : Met l yL_join wsL_join { frames := 8, cells := 1, slots := 6, locals := 173 } (va_Pc [.ref (q 0), .int i1, .int i2, .ref o] (fun U => wAt D q cI o cL N S tr g A U U.heap)) (gQw D q cI o cL (fun k N2 S2 v => k = sk_join N S i1 i2 ∧ N2 = (if sk_join N S i1 i2 = 0 then sN_join N S i1 i2 else N) ∧ S2 = (if sk_join N S i1 i2 = 0 then sS_join N S i1 i2 else S) ∧ (sk_join N S i1 i2 = 0 → v = (nI (sR_join N S i1 i2)).toInt64)) A) 1 6 (fun z => A z ∨ z = o) := by
  refine gc_metW [.ref (q 0), .int i1, .int i2, .ref o] (by decide) rfl (Nat.le_of_ble_eq_true rfl) rfl ?_
  intro p e s m below meth c ls G hT hl hX
  obtain ⟨z1, z2, z3, z4, z5, z6, z7⟩ := hX.2.2.2.2.2
  have hx := hX.x
  refine lv_aload_n G.1 G.2.1 dL_join_0 rfl (lv_at hl 3 rfl) ?_
  refine lv_iconst (v := nI 0) G.1 G.2.1 dL_join_1 (by decide) ?_
  refine lv_aload_n G.1 G.2.1 dL_join_2 rfl (lv_at hl 0 rfl) ?_
  refine lv_iload_n G.1 G.2.1 dL_join_3 rfl (lv_at hl 1 rfl) ?_
  refine lv_iload_n G.1 G.2.1 dL_join_4 rfl (lv_at hl 2 rfl) ?_
  refine gl_call (rest := [.int (nI 0), .ref o]) (vx_runV (As := [.int i1, .int i2]) (rest := [.int (nI 0), .ref o]) G.fix (mX0_join l hst D q cI N S tr A hok hinv i1 i2) (cwV 2 G.2.2.2.2.2.1 gL_join_X0_join rfl rfl rfl (by decide +kernel) ⟨Nat.le_of_ble_eq_true rfl, Nat.le_of_ble_eq_true rfl⟩) ⟨xAt_blind, va_recv hx.2.1 hx.1 (ci := 0) (q0 := 0) rfl rfl, fun U hU hW => ⟨rfl, by show xAt _ _ _ _ _ _ _ U U.heap; rw [hU]; exact hx.moved hW⟩⟩ rfl rfl hl.1 rfl (lv_room (Nat.le_of_ble_eq_true rfl)) dL_join_5 ⟨Nat.le_of_ble_eq_true rfl, Nat.le_of_ble_eq_true rfl⟩) (fun E ce q9 tr2 H1 L hE hP hz hk hL hce hcv hcl => ?_) (fun r N2 S2 tr2 H1 L hp hP hz hk hL => ?_)
  · obtain ⟨hP2, hD2, hS2⟩ := gl_join hX hP hz hk rfl hL
    rcases hE with ⟨rfl, h1⟩ | ⟨rfl, h1, h2⟩ | ⟨rfl, h1, h2, h3⟩
    · have hk9 : sk_join N S i1 i2 = 1 := gk_f h1
      refine vx_catch (own := RL) (name := gIO) G.2.2.2.2.1 [] ⟨0, 10, 13, 19⟩ [⟨0, 10, 17, 21⟩, ⟨0, 10, 21, 13⟩] (hT.trans rfl) (fun _ h => nomatch h) (by decide) (by decide) (G.2.2.2.2.2.1 (.classLink RL 19 gIO) (by decide +kernel)) (va_Nw.use rfl (z3 (.castable gIO gIO) (by decide +kernel))) hce hcv hcl ?_
      refine lv_astore (lv' := [(4, .ref q9), (0, .ref (q 0)), (1, .int i1), (2, .int i2), (3, .ref o)]) G.1 G.2.1 dL_join_13 hl (by decide) rfl (fun ls hl => ?_)
      refine lv_iconst (v := nI 1) G.1 G.2.1 dL_join_15 (by decide) ?_
      exact W.iret G.1 G.2.1 G.2.2.1 (fun t ht hW => ⟨1, N, S, tr2, g, rfl, ⟨hk9.symm, by rw [hk9]; rfl, by rw [hk9]; rfl, fun h => absurd (hk9.symm.trans h) (by decide)⟩, by rw [ht]; exact hP2, hS2.F ht⟩) hS2.2.2 dL_join_16 G.2.2.2.2.2.2
    · have hk9 : sk_join N S i1 i2 = 2 := gk_tf h1 h2
      refine vx_catch (own := RL) (name := gIA) G.2.2.2.2.1 [⟨0, 10, 13, 19⟩] ⟨0, 10, 17, 21⟩ [⟨0, 10, 21, 13⟩] (hT.trans rfl) (List.forall_mem_cons.mpr ⟨Or.inr ⟨by decide, gIO, G.2.2.2.2.2.1 (.classLink RL 19 gIO) (by decide +kernel), z5⟩, fun _ h => nomatch h⟩) (by decide) (by decide) (G.2.2.2.2.2.1 (.classLink RL 21 gIA) (by decide +kernel)) (va_Nw.use rfl (z3 (.castable gIA gIA) (by decide +kernel))) hce hcv hcl ?_
      refine lv_astore (lv' := [(4, .ref q9), (0, .ref (q 0)), (1, .int i1), (2, .int i2), (3, .ref o)]) G.1 G.2.1 dL_join_17 hl (by decide) rfl (fun ls hl => ?_)
      refine lv_iconst (v := nI 2) G.1 G.2.1 dL_join_19 (by decide) ?_
      exact W.iret G.1 G.2.1 G.2.2.1 (fun t ht hW => ⟨2, N, S, tr2, g, rfl, ⟨hk9.symm, by rw [hk9]; rfl, by rw [hk9]; rfl, fun h => absurd (hk9.symm.trans h) (by decide)⟩, by rw [ht]; exact hP2, hS2.F ht⟩) hS2.2.2 dL_join_20 G.2.2.2.2.2.2
    · have hk9 : sk_join N S i1 i2 = 3 := gk_ttf h1 h2 h3
      refine vx_catch (own := RL) (name := gIS) G.2.2.2.2.1 [⟨0, 10, 13, 19⟩, ⟨0, 10, 17, 21⟩] ⟨0, 10, 21, 13⟩ [] (hT.trans rfl) (List.forall_mem_cons.mpr ⟨Or.inr ⟨by decide, gIO, G.2.2.2.2.2.1 (.classLink RL 19 gIO) (by decide +kernel), z6⟩, List.forall_mem_cons.mpr ⟨Or.inr ⟨by decide, gIA, G.2.2.2.2.2.1 (.classLink RL 21 gIA) (by decide +kernel), z7⟩, fun _ h => nomatch h⟩⟩) (by decide) (by decide) (G.2.2.2.2.2.1 (.classLink RL 13 gIS) (by decide +kernel)) (va_Nw.use rfl (z3 (.castable gIS gIS) (by decide +kernel))) hce hcv hcl ?_
      refine lv_astore (lv' := [(4, .ref q9), (0, .ref (q 0)), (1, .int i1), (2, .int i2), (3, .ref o)]) G.1 G.2.1 dL_join_21 hl (by decide) rfl (fun ls hl => ?_)
      refine lv_iconst (v := nI 3) G.1 G.2.1 dL_join_23 (by decide) ?_
      exact W.iret G.1 G.2.1 G.2.2.1 (fun t ht hW => ⟨3, N, S, tr2, g, rfl, ⟨hk9.symm, by rw [hk9]; rfl, by rw [hk9]; rfl, fun h => absurd (hk9.symm.trans h) (by decide)⟩, by rw [ht]; exact hP2, hS2.F ht⟩) hS2.2.2 dL_join_24 G.2.2.2.2.2.2
  · obtain ⟨hA, hB, hC, rfl, e2, e3⟩ := hp
    rw [e2, e3] at hP
    obtain ⟨hP2, hD2, hS2⟩ := gl_join hX hP hz hk rfl hL
    have hk9 : sk_join N S i1 i2 = 0 := gk_ttt hA hB hC
    refine lv_i2l (v := (nI (sR_join N S i1 i2)).toInt64) G.1 G.2.1 dL_join_8 rfl ?_
    refine va_last (D := D) (A := fun z => A z ∨ z = o) (H0 := s.heap) G.1 G.2.1 hX.2.1 hP2 hD2 hS2 0 1 (f := g) rfl rfl (by unfold vp_in; decide) dL_join_9 (fun H3 locs3 hP3 hD3 hS3 => ?_)
    have hP3 : va_P D vwCl (oe o cL (vp_updL g (0 : Int32).toNatClampNeg (nI (sR_join N S i1 i2)).toInt64) :: xw q cI _ _ tr2) H3 := hP3
    refine lv_goto (tgt := 25) G.1 G.2.1 dL_join_10 (by decide) ?_
    refine lv_iconst (v := nI 0) G.1 G.2.1 dL_join_25 (by decide) ?_
    exact W.iret G.1 G.2.1 G.2.2.1 (fun t ht hW => ⟨0, _, _, tr2, vp_updL g (0 : Int32).toNatClampNeg (nI (sR_join N S i1 i2)).toInt64, rfl, ⟨hk9.symm, by rw [if_pos hk9], by rw [if_pos hk9], fun _ => gl_u _ _⟩, by rw [ht]; exact hP3, hS3.F ht⟩) hS3.2.2 dL_join_26 G.2.2.2.2.2.2
set_option maxRecDepth 100000 in
set_option maxHeartbeats 800000 in
/-- the law calls joined -/
theorem mL_joined (l : Launch) (hst : l.stackTraces = false) (D : va_G) (q : Nat → Nat) (cI : ClassId) (o : Nat) (cL : ClassId) (N : Nat → Nat) (S : Nat → Nat → Nat) (tr : Nat → Nat) (g : Nat → Int64) (A : Nat → Prop) (hok : sp_ok N S) (hinv : sp_inv N S) (i1 i2 i3 : Int32) : Met l yL_joined wsL_joined { frames := 8, cells := 1, slots := 6, locals := 126 } (va_Pc [.ref (q 0), .int i1, .int i2, .int i3, .ref o] (fun U => wAt D q cI o cL N S tr g A U U.heap)) (gQw D q cI o cL (fun k N2 S2 v => k = sk_joined N S i1 i2 i3 ∧ N2 = (if sk_joined N S i1 i2 i3 = 0 then sN_joined N S i1 i2 i3 else N) ∧ S2 = (if sk_joined N S i1 i2 i3 = 0 then sS_joined N S i1 i2 i3 else S) ∧ (sk_joined N S i1 i2 i3 = 0 → v = (nI (sR_joined N S i1 i2 i3)).toInt64)) A) 1 6 (fun z => A z ∨ z = o) := by
  refine gc_metW [.ref (q 0), .int i1, .int i2, .int i3, .ref o] (by decide) rfl (Nat.le_of_ble_eq_true rfl) rfl ?_
  intro p e s m below meth c ls G hT hl hX
  obtain ⟨z1, z2, z3, z4, z5, z6, z7⟩ := hX.2.2.2.2.2
  have hx := hX.x
  refine lv_aload G.1 G.2.1 dL_joined_0 (lv_at hl 4 rfl) ?_
  refine lv_iconst (v := nI 0) G.1 G.2.1 dL_joined_2 (by decide) ?_
  refine lv_aload_n G.1 G.2.1 dL_joined_3 rfl (lv_at hl 0 rfl) ?_
  refine lv_iload_n G.1 G.2.1 dL_joined_4 rfl (lv_at hl 1 rfl) ?_
  refine lv_iload_n G.1 G.2.1 dL_joined_5 rfl (lv_at hl 2 rfl) ?_
  refine lv_iload_n G.1 G.2.1 dL_joined_6 rfl (lv_at hl 3 rfl) ?_
  refine gl_call (rest := [.int (nI 0), .ref o]) (vx_runV (As := [.int i1, .int i2, .int i3]) (rest := [.int (nI 0), .ref o]) G.fix (mX0_joined l hst D q cI N S tr A hok hinv i1 i2 i3) (cwV 3 G.2.2.2.2.2.1 gL_joined_X0_joined rfl rfl rfl (by decide +kernel) ⟨Nat.le_of_ble_eq_true rfl, Nat.le_of_ble_eq_true rfl⟩) ⟨xAt_blind, va_recv hx.2.1 hx.1 (ci := 0) (q0 := 0) rfl rfl, fun U hU hW => ⟨rfl, by show xAt _ _ _ _ _ _ _ U U.heap; rw [hU]; exact hx.moved hW⟩⟩ rfl rfl hl.1 rfl (lv_room (Nat.le_of_ble_eq_true rfl)) dL_joined_7 ⟨Nat.le_of_ble_eq_true rfl, Nat.le_of_ble_eq_true rfl⟩) (fun E ce q9 tr2 H1 L hE hP hz hk hL hce hcv hcl => ?_) (fun r N2 S2 tr2 H1 L hp hP hz hk hL => ?_)
  · obtain ⟨hP2, hD2, hS2⟩ := gl_join hX hP hz hk rfl hL
    rcases hE with ⟨rfl, h1⟩ | ⟨rfl, h1, h2⟩ | ⟨rfl, h1, h2, h3⟩
    · have hk9 : sk_joined N S i1 i2 i3 = 1 := gk_f h1
      refine vx_catch (own := RL) (name := gIO) G.2.2.2.2.1 [] ⟨0, 12, 15, 19⟩ [⟨0, 12, 19, 21⟩, ⟨0, 12, 23, 13⟩] (hT.trans rfl) (fun _ h => nomatch h) (by decide) (by decide) (G.2.2.2.2.2.1 (.classLink RL 19 gIO) (by decide +kernel)) (va_Nw.use rfl (z3 (.castable gIO gIO) (by decide +kernel))) hce hcv hcl ?_
      refine lv_astore (lv' := [(5, .ref q9), (0, .ref (q 0)), (1, .int i1), (2, .int i2), (3, .int i3), (4, .ref o)]) G.1 G.2.1 dL_joined_15 hl (by decide) rfl (fun ls hl => ?_)
      refine lv_iconst (v := nI 1) G.1 G.2.1 dL_joined_17 (by decide) ?_
      exact W.iret G.1 G.2.1 G.2.2.1 (fun t ht hW => ⟨1, N, S, tr2, g, rfl, ⟨hk9.symm, by rw [hk9]; rfl, by rw [hk9]; rfl, fun h => absurd (hk9.symm.trans h) (by decide)⟩, by rw [ht]; exact hP2, hS2.F ht⟩) hS2.2.2 dL_joined_18 G.2.2.2.2.2.2
    · have hk9 : sk_joined N S i1 i2 i3 = 2 := gk_tf h1 h2
      refine vx_catch (own := RL) (name := gIA) G.2.2.2.2.1 [⟨0, 12, 15, 19⟩] ⟨0, 12, 19, 21⟩ [⟨0, 12, 23, 13⟩] (hT.trans rfl) (List.forall_mem_cons.mpr ⟨Or.inr ⟨by decide, gIO, G.2.2.2.2.2.1 (.classLink RL 19 gIO) (by decide +kernel), z5⟩, fun _ h => nomatch h⟩) (by decide) (by decide) (G.2.2.2.2.2.1 (.classLink RL 21 gIA) (by decide +kernel)) (va_Nw.use rfl (z3 (.castable gIA gIA) (by decide +kernel))) hce hcv hcl ?_
      refine lv_astore (lv' := [(5, .ref q9), (0, .ref (q 0)), (1, .int i1), (2, .int i2), (3, .int i3), (4, .ref o)]) G.1 G.2.1 dL_joined_19 hl (by decide) rfl (fun ls hl => ?_)
      refine lv_iconst (v := nI 2) G.1 G.2.1 dL_joined_21 (by decide) ?_
      exact W.iret G.1 G.2.1 G.2.2.1 (fun t ht hW => ⟨2, N, S, tr2, g, rfl, ⟨hk9.symm, by rw [hk9]; rfl, by rw [hk9]; rfl, fun h => absurd (hk9.symm.trans h) (by decide)⟩, by rw [ht]; exact hP2, hS2.F ht⟩) hS2.2.2 dL_joined_22 G.2.2.2.2.2.2
    · have hk9 : sk_joined N S i1 i2 i3 = 3 := gk_ttf h1 h2 h3
      refine vx_catch (own := RL) (name := gIS) G.2.2.2.2.1 [⟨0, 12, 15, 19⟩, ⟨0, 12, 19, 21⟩] ⟨0, 12, 23, 13⟩ [] (hT.trans rfl) (List.forall_mem_cons.mpr ⟨Or.inr ⟨by decide, gIO, G.2.2.2.2.2.1 (.classLink RL 19 gIO) (by decide +kernel), z6⟩, List.forall_mem_cons.mpr ⟨Or.inr ⟨by decide, gIA, G.2.2.2.2.2.1 (.classLink RL 21 gIA) (by decide +kernel), z7⟩, fun _ h => nomatch h⟩⟩) (by decide) (by decide) (G.2.2.2.2.2.1 (.classLink RL 13 gIS) (by decide +kernel)) (va_Nw.use rfl (z3 (.castable gIS gIS) (by decide +kernel))) hce hcv hcl ?_
      refine lv_astore (lv' := [(5, .ref q9), (0, .ref (q 0)), (1, .int i1), (2, .int i2), (3, .int i3), (4, .ref o)]) G.1 G.2.1 dL_joined_23 hl (by decide) rfl (fun ls hl => ?_)
      refine lv_iconst (v := nI 3) G.1 G.2.1 dL_joined_25 (by decide) ?_
      exact W.iret G.1 G.2.1 G.2.2.1 (fun t ht hW => ⟨3, N, S, tr2, g, rfl, ⟨hk9.symm, by rw [hk9]; rfl, by rw [hk9]; rfl, fun h => absurd (hk9.symm.trans h) (by decide)⟩, by rw [ht]; exact hP2, hS2.F ht⟩) hS2.2.2 dL_joined_26 G.2.2.2.2.2.2
  · obtain ⟨hA, hB, hC, rfl, e2, e3⟩ := hp
    rw [e2, e3] at hP
    obtain ⟨hP2, hD2, hS2⟩ := gl_join hX hP hz hk rfl hL
    have hk9 : sk_joined N S i1 i2 i3 = 0 := gk_ttt hA hB hC
    refine lv_i2l (v := (nI (sR_joined N S i1 i2 i3)).toInt64) G.1 G.2.1 dL_joined_10 rfl ?_
    refine va_last (D := D) (A := fun z => A z ∨ z = o) (H0 := s.heap) G.1 G.2.1 hX.2.1 hP2 hD2 hS2 0 1 (f := g) rfl rfl (by unfold vp_in; decide) dL_joined_11 (fun H3 locs3 hP3 hD3 hS3 => ?_)
    have hP3 : va_P D vwCl (oe o cL (vp_updL g (0 : Int32).toNatClampNeg (nI (sR_joined N S i1 i2 i3)).toInt64) :: xw q cI _ _ tr2) H3 := hP3
    refine lv_goto (tgt := 27) G.1 G.2.1 dL_joined_12 (by decide) ?_
    refine lv_iconst (v := nI 0) G.1 G.2.1 dL_joined_27 (by decide) ?_
    exact W.iret G.1 G.2.1 G.2.2.1 (fun t ht hW => ⟨0, _, _, tr2, vp_updL g (0 : Int32).toNatClampNeg (nI (sR_joined N S i1 i2 i3)).toInt64, rfl, ⟨hk9.symm, by rw [if_pos hk9], by rw [if_pos hk9], fun _ => gl_u _ _⟩, by rw [ht]; exact hP3, hS3.F ht⟩) hS3.2.2 dL_joined_28 G.2.2.2.2.2.2
set_option maxRecDepth 100000 in
set_option maxHeartbeats 800000 in
/-- the law calls sign -/
theorem mL_sign (l : Launch) (hst : l.stackTraces = false) (D : va_G) (q : Nat → Nat) (cI : ClassId) (o : Nat) (cL : ClassId) (N : Nat → Nat) (S : Nat → Nat → Nat) (tr : Nat → Nat) (g : Nat → Int64) (A : Nat → Prop) (hok : sp_ok N S) (hinv : sp_inv N S) (i1 : Int32) : Met l yL_sign wsL_sign { frames := 8, cells := 1, slots := 6, locals := 124 } (va_Pc [.ref (q 0), .int i1, .ref o] (fun U => wAt D q cI o cL N S tr g A U U.heap)) (gQw D q cI o cL (fun k N2 S2 v => k = sk_sign N S i1 ∧ N2 = (if sk_sign N S i1 = 0 then sN_sign N S i1 else N) ∧ S2 = (if sk_sign N S i1 = 0 then sS_sign N S i1 else S) ∧ (sk_sign N S i1 = 0 → v = (nI (sR_sign N S i1)).toInt64)) A) 1 6 (fun z => A z ∨ z = o) := by
  refine gc_metW [.ref (q 0), .int i1, .ref o] (by decide) rfl (Nat.le_of_ble_eq_true rfl) rfl ?_
  intro p e s m below meth c ls G hT hl hX
  obtain ⟨z1, z2, z3, z4, z5, z6, z7⟩ := hX.2.2.2.2.2
  have hx := hX.x
  refine lv_aload_n G.1 G.2.1 dL_sign_0 rfl (lv_at hl 2 rfl) ?_
  refine lv_iconst (v := nI 0) G.1 G.2.1 dL_sign_1 (by decide) ?_
  refine lv_aload_n G.1 G.2.1 dL_sign_2 rfl (lv_at hl 0 rfl) ?_
  refine lv_iload_n G.1 G.2.1 dL_sign_3 rfl (lv_at hl 1 rfl) ?_
  refine gl_call (rest := [.int (nI 0), .ref o]) (vx_runV (As := [.int i1]) (rest := [.int (nI 0), .ref o]) G.fix (mX0_sign l hst D q cI N S tr A hok hinv i1) (cwV 1 G.2.2.2.2.2.1 gL_sign_X0_sign rfl rfl rfl (by decide +kernel) ⟨Nat.le_of_ble_eq_true rfl, Nat.le_of_ble_eq_true rfl⟩) ⟨xAt_blind, va_recv hx.2.1 hx.1 (ci := 0) (q0 := 0) rfl rfl, fun U hU hW => ⟨rfl, by show xAt _ _ _ _ _ _ _ U U.heap; rw [hU]; exact hx.moved hW⟩⟩ rfl rfl hl.1 rfl (lv_room (Nat.le_of_ble_eq_true rfl)) dL_sign_4 ⟨Nat.le_of_ble_eq_true rfl, Nat.le_of_ble_eq_true rfl⟩) (fun E ce q9 tr2 H1 L hE hP hz hk hL hce hcv hcl => ?_) (fun r N2 S2 tr2 H1 L hp hP hz hk hL => ?_)
  · obtain ⟨hP2, hD2, hS2⟩ := gl_join hX hP hz hk rfl hL
    rcases hE with ⟨rfl, h1⟩ | ⟨rfl, h1, h2⟩ | ⟨rfl, h1, h2, h3⟩
    · have hk9 : sk_sign N S i1 = 1 := gk_f h1
      refine vx_catch (own := RL) (name := gIO) G.2.2.2.2.1 [] ⟨0, 16, 19, 19⟩ [] (hT.trans rfl) (fun _ h => nomatch h) (by decide) (by decide) (G.2.2.2.2.2.1 (.classLink RL 19 gIO) (by decide +kernel)) (va_Nw.use rfl (z3 (.castable gIO gIO) (by decide +kernel))) hce hcv hcl ?_
      refine lv_astore_n (lv' := [(3, .ref q9), (0, .ref (q 0)), (1, .int i1), (2, .ref o)]) G.1 G.2.1 dL_sign_19 rfl hl (by decide) rfl (fun ls hl => ?_)
      refine lv_iconst (v := nI 1) G.1 G.2.1 dL_sign_20 (by decide) ?_
      exact W.iret G.1 G.2.1 G.2.2.1 (fun t ht hW => ⟨1, N, S, tr2, g, rfl, ⟨hk9.symm, by rw [hk9]; rfl, by rw [hk9]; rfl, fun h => absurd (hk9.symm.trans h) (by decide)⟩, by rw [ht]; exact hP2, hS2.F ht⟩) hS2.2.2 dL_sign_21 G.2.2.2.2.2.2
    · exact absurd h2 (by show ¬ (true = false); decide)
    · exact absurd h3 (by show ¬ (true = false); decide)
  · obtain ⟨hA, hB, hC, rfl, e2, e3⟩ := hp
    rw [e2, e3] at hP
    obtain ⟨hP2, hD2, hS2⟩ := gl_join hX hP hz hk rfl hL
    have hk9 : sk_sign N S i1 = 0 := gk_ttt hA rfl rfl
    have hb9 := sp_bit_lt (N 10) (gn i1)
    have hR9 : sR_sign N S i1 = 1 - sp_bit (N 10) (gn i1) := rfl
    refine gn_eqz G (by omega) (tgt := 14) dL_sign_7 (by decide) (fun h => ?_) (fun h => ?_)
    · have hR := h
      refine lv_lconst (v := 0) G.1 G.2.1 dL_sign_14 (by decide) ?_
      refine va_last (D := D) (A := fun z => A z ∨ z = o) (H0 := s.heap) G.1 G.2.1 hX.2.1 hP2 hD2 hS2 0 1 (f := g) rfl rfl (by unfold vp_in; decide) dL_sign_15 (fun H3 locs3 hP3 hD3 hS3 => ?_)
      have hP3 : va_P D vwCl (oe o cL (vp_updL g (0 : Int32).toNatClampNeg 0) :: xw q cI _ _ tr2) H3 := hP3
      refine lv_goto (tgt := 22) G.1 G.2.1 dL_sign_16 (by decide) ?_
      refine lv_iconst (v := nI 0) G.1 G.2.1 dL_sign_22 (by decide) ?_
      exact W.iret G.1 G.2.1 G.2.2.1 (fun t ht hW => ⟨0, _, _, tr2, vp_updL g (0 : Int32).toNatClampNeg 0, rfl, ⟨hk9.symm, by rw [if_pos hk9], by rw [if_pos hk9], fun _ => by rw [gl_u, hR]; decide⟩, by rw [ht]; exact hP3, hS3.F ht⟩) hS3.2.2 dL_sign_23 G.2.2.2.2.2.2
    · have hR : sR_sign N S i1 = 1 := by omega
      refine lv_lconst (v := 1) G.1 G.2.1 dL_sign_10 (by decide) ?_
      refine lv_goto (tgt := 15) G.1 G.2.1 dL_sign_11 (by decide) ?_
      refine va_last (D := D) (A := fun z => A z ∨ z = o) (H0 := s.heap) G.1 G.2.1 hX.2.1 hP2 hD2 hS2 0 1 (f := g) rfl rfl (by unfold vp_in; decide) dL_sign_15 (fun H3 locs3 hP3 hD3 hS3 => ?_)
      have hP3 : va_P D vwCl (oe o cL (vp_updL g (0 : Int32).toNatClampNeg 1) :: xw q cI _ _ tr2) H3 := hP3
      refine lv_goto (tgt := 22) G.1 G.2.1 dL_sign_16 (by decide) ?_
      refine lv_iconst (v := nI 0) G.1 G.2.1 dL_sign_22 (by decide) ?_
      exact W.iret G.1 G.2.1 G.2.2.1 (fun t ht hW => ⟨0, _, _, tr2, vp_updL g (0 : Int32).toNatClampNeg 1, rfl, ⟨hk9.symm, by rw [if_pos hk9], by rw [if_pos hk9], fun _ => by rw [gl_u, hR]; decide⟩, by rw [ht]; exact hP3, hS3.F ht⟩) hS3.2.2 dL_sign_23 G.2.2.2.2.2.2
set_option maxRecDepth 100000 in
set_option maxHeartbeats 800000 in
/-- the law calls paint -/
theorem mL_paint (l : Launch) (hst : l.stackTraces = false) (D : va_G) (q : Nat → Nat) (cI : ClassId) (o : Nat) (cL : ClassId) (N : Nat → Nat) (S : Nat → Nat → Nat) (tr : Nat → Nat) (g : Nat → Int64) (A : Nat → Prop) (hok : sp_ok N S) (hinv : sp_inv N S) (i1 i2 i3 : Int32) : Met l yL_paint wsL_paint { frames := 8, cells := 1, slots := 6, locals := 125 } (va_Pc [.ref (q 0), .int i1, .int i2, .int i3, .ref o] (fun U => wAt D q cI o cL N S tr g A U U.heap)) (gQw D q cI o cL (fun k N2 S2 v => k = sk_paint N S i1 i2 i3 ∧ N2 = (if sk_paint N S i1 i2 i3 = 0 then sN_paint N S i1 i2 i3 else N) ∧ S2 = (if sk_paint N S i1 i2 i3 = 0 then sS_paint N S i1 i2 i3 else S) ∧ (sk_paint N S i1 i2 i3 = 0 → v = (nI (sR_paint N S i1 i2 i3)).toInt64)) A) 1 6 (fun z => A z ∨ z = o) := by
  refine gc_metW [.ref (q 0), .int i1, .int i2, .int i3, .ref o] (by decide) rfl (Nat.le_of_ble_eq_true rfl) rfl ?_
  intro p e s m below meth c ls G hT hl hX
  obtain ⟨z1, z2, z3, z4, z5, z6, z7⟩ := hX.2.2.2.2.2
  have hx := hX.x
  refine lv_aload G.1 G.2.1 dL_paint_0 (lv_at hl 4 rfl) ?_
  refine lv_iconst (v := nI 0) G.1 G.2.1 dL_paint_2 (by decide) ?_
  refine lv_aload_n G.1 G.2.1 dL_paint_3 rfl (lv_at hl 0 rfl) ?_
  refine lv_iload_n G.1 G.2.1 dL_paint_4 rfl (lv_at hl 1 rfl) ?_
  refine lv_iload_n G.1 G.2.1 dL_paint_5 rfl (lv_at hl 2 rfl) ?_
  refine lv_iload_n G.1 G.2.1 dL_paint_6 rfl (lv_at hl 3 rfl) ?_
  refine gl_call (rest := [.int (nI 0), .ref o]) (vx_runV (As := [.int i1, .int i2, .int i3]) (rest := [.int (nI 0), .ref o]) G.fix (mX0_paint l hst D q cI N S tr A hok hinv i1 i2 i3) (cwV 3 G.2.2.2.2.2.1 gL_paint_X0_paint rfl rfl rfl (by decide +kernel) ⟨Nat.le_of_ble_eq_true rfl, Nat.le_of_ble_eq_true rfl⟩) ⟨xAt_blind, va_recv hx.2.1 hx.1 (ci := 0) (q0 := 0) rfl rfl, fun U hU hW => ⟨rfl, by show xAt _ _ _ _ _ _ _ U U.heap; rw [hU]; exact hx.moved hW⟩⟩ rfl rfl hl.1 rfl (lv_room (Nat.le_of_ble_eq_true rfl)) dL_paint_7 ⟨Nat.le_of_ble_eq_true rfl, Nat.le_of_ble_eq_true rfl⟩) (fun E ce q9 tr2 H1 L hE hP hz hk hL hce hcv hcl => ?_) (fun r N2 S2 tr2 H1 L hp hP hz hk hL => ?_)
  · obtain ⟨hP2, hD2, hS2⟩ := gl_join hX hP hz hk rfl hL
    rcases hE with ⟨rfl, h1⟩ | ⟨rfl, h1, h2⟩ | ⟨rfl, h1, h2, h3⟩
    · have hk9 : sk_paint N S i1 i2 i3 = 1 := gk_f h1
      refine vx_catch (own := RL) (name := gIO) G.2.2.2.2.1 [] ⟨0, 12, 15, 19⟩ [⟨0, 12, 19, 21⟩] (hT.trans rfl) (fun _ h => nomatch h) (by decide) (by decide) (G.2.2.2.2.2.1 (.classLink RL 19 gIO) (by decide +kernel)) (va_Nw.use rfl (z3 (.castable gIO gIO) (by decide +kernel))) hce hcv hcl ?_
      refine lv_astore (lv' := [(5, .ref q9), (0, .ref (q 0)), (1, .int i1), (2, .int i2), (3, .int i3), (4, .ref o)]) G.1 G.2.1 dL_paint_15 hl (by decide) rfl (fun ls hl => ?_)
      refine lv_iconst (v := nI 1) G.1 G.2.1 dL_paint_17 (by decide) ?_
      exact W.iret G.1 G.2.1 G.2.2.1 (fun t ht hW => ⟨1, N, S, tr2, g, rfl, ⟨hk9.symm, by rw [hk9]; rfl, by rw [hk9]; rfl, fun h => absurd (hk9.symm.trans h) (by decide)⟩, by rw [ht]; exact hP2, hS2.F ht⟩) hS2.2.2 dL_paint_18 G.2.2.2.2.2.2
    · have hk9 : sk_paint N S i1 i2 i3 = 2 := gk_tf h1 h2
      refine vx_catch (own := RL) (name := gIA) G.2.2.2.2.1 [⟨0, 12, 15, 19⟩] ⟨0, 12, 19, 21⟩ [] (hT.trans rfl) (List.forall_mem_cons.mpr ⟨Or.inr ⟨by decide, gIO, G.2.2.2.2.2.1 (.classLink RL 19 gIO) (by decide +kernel), z5⟩, fun _ h => nomatch h⟩) (by decide) (by decide) (G.2.2.2.2.2.1 (.classLink RL 21 gIA) (by decide +kernel)) (va_Nw.use rfl (z3 (.castable gIA gIA) (by decide +kernel))) hce hcv hcl ?_
      refine lv_astore (lv' := [(5, .ref q9), (0, .ref (q 0)), (1, .int i1), (2, .int i2), (3, .int i3), (4, .ref o)]) G.1 G.2.1 dL_paint_19 hl (by decide) rfl (fun ls hl => ?_)
      refine lv_iconst (v := nI 2) G.1 G.2.1 dL_paint_21 (by decide) ?_
      exact W.iret G.1 G.2.1 G.2.2.1 (fun t ht hW => ⟨2, N, S, tr2, g, rfl, ⟨hk9.symm, by rw [hk9]; rfl, by rw [hk9]; rfl, fun h => absurd (hk9.symm.trans h) (by decide)⟩, by rw [ht]; exact hP2, hS2.F ht⟩) hS2.2.2 dL_paint_22 G.2.2.2.2.2.2
    · exact absurd h3 (by show ¬ (true = false); decide)
  · obtain ⟨hA, hB, hC, rfl, e2, e3⟩ := hp
    rw [e2, e3] at hP
    obtain ⟨hP2, hD2, hS2⟩ := gl_join hX hP hz hk rfl hL
    have hk9 : sk_paint N S i1 i2 i3 = 0 := gk_ttt hA hB rfl
    refine lv_i2l (v := (nI (sR_paint N S i1 i2 i3)).toInt64) G.1 G.2.1 dL_paint_10 rfl ?_
    refine va_last (D := D) (A := fun z => A z ∨ z = o) (H0 := s.heap) G.1 G.2.1 hX.2.1 hP2 hD2 hS2 0 1 (f := g) rfl rfl (by unfold vp_in; decide) dL_paint_11 (fun H3 locs3 hP3 hD3 hS3 => ?_)
    have hP3 : va_P D vwCl (oe o cL (vp_updL g (0 : Int32).toNatClampNeg (nI (sR_paint N S i1 i2 i3)).toInt64) :: xw q cI _ _ tr2) H3 := hP3
    refine lv_goto (tgt := 23) G.1 G.2.1 dL_paint_12 (by decide) ?_
    refine lv_iconst (v := nI 0) G.1 G.2.1 dL_paint_23 (by decide) ?_
    exact W.iret G.1 G.2.1 G.2.2.1 (fun t ht hW => ⟨0, _, _, tr2, vp_updL g (0 : Int32).toNatClampNeg (nI (sR_paint N S i1 i2 i3)).toInt64, rfl, ⟨hk9.symm, by rw [if_pos hk9], by rw [if_pos hk9], fun _ => gl_u _ _⟩, by rw [ht]; exact hP3, hS3.F ht⟩) hS3.2.2 dL_paint_24 G.2.2.2.2.2.2
set_option maxRecDepth 100000 in
set_option maxHeartbeats 800000 in
/-- the law calls spot -/
theorem mL_spot (l : Launch) (hst : l.stackTraces = false) (D : va_G) (q : Nat → Nat) (cI : ClassId) (o : Nat) (cL : ClassId) (N : Nat → Nat) (S : Nat → Nat → Nat) (tr : Nat → Nat) (g : Nat → Int64) (A : Nat → Prop) (hok : sp_ok N S) (hinv : sp_inv N S) (i1 i2 i3 : Int32) : Met l yL_spot wsL_spot { frames := 8, cells := 1, slots := 6, locals := 125 } (va_Pc [.ref (q 0), .int i1, .int i2, .int i3, .ref o] (fun U => wAt D q cI o cL N S tr g A U U.heap)) (gQw D q cI o cL (fun k N2 S2 v => k = sk_spot N S i1 i2 i3 ∧ N2 = (if sk_spot N S i1 i2 i3 = 0 then sN_spot N S i1 i2 i3 else N) ∧ S2 = (if sk_spot N S i1 i2 i3 = 0 then sS_spot N S i1 i2 i3 else S) ∧ (sk_spot N S i1 i2 i3 = 0 → v = (nI (sR_spot N S i1 i2 i3)).toInt64)) A) 1 6 (fun z => A z ∨ z = o) := by
  refine gc_metW [.ref (q 0), .int i1, .int i2, .int i3, .ref o] (by decide) rfl (Nat.le_of_ble_eq_true rfl) rfl ?_
  intro p e s m below meth c ls G hT hl hX
  obtain ⟨z1, z2, z3, z4, z5, z6, z7⟩ := hX.2.2.2.2.2
  have hx := hX.x
  refine lv_aload G.1 G.2.1 dL_spot_0 (lv_at hl 4 rfl) ?_
  refine lv_iconst (v := nI 0) G.1 G.2.1 dL_spot_2 (by decide) ?_
  refine lv_aload_n G.1 G.2.1 dL_spot_3 rfl (lv_at hl 0 rfl) ?_
  refine lv_iload_n G.1 G.2.1 dL_spot_4 rfl (lv_at hl 1 rfl) ?_
  refine lv_iload_n G.1 G.2.1 dL_spot_5 rfl (lv_at hl 2 rfl) ?_
  refine lv_iload_n G.1 G.2.1 dL_spot_6 rfl (lv_at hl 3 rfl) ?_
  refine gl_call (rest := [.int (nI 0), .ref o]) (vx_runV (As := [.int i1, .int i2, .int i3]) (rest := [.int (nI 0), .ref o]) G.fix (mX0_spot l hst D q cI N S tr A hok hinv i1 i2 i3) (cwV 3 G.2.2.2.2.2.1 gL_spot_X0_spot rfl rfl rfl (by decide +kernel) ⟨Nat.le_of_ble_eq_true rfl, Nat.le_of_ble_eq_true rfl⟩) ⟨xAt_blind, va_recv hx.2.1 hx.1 (ci := 0) (q0 := 0) rfl rfl, fun U hU hW => ⟨rfl, by show xAt _ _ _ _ _ _ _ U U.heap; rw [hU]; exact hx.moved hW⟩⟩ rfl rfl hl.1 rfl (lv_room (Nat.le_of_ble_eq_true rfl)) dL_spot_7 ⟨Nat.le_of_ble_eq_true rfl, Nat.le_of_ble_eq_true rfl⟩) (fun E ce q9 tr2 H1 L hE hP hz hk hL hce hcv hcl => ?_) (fun r N2 S2 tr2 H1 L hp hP hz hk hL => ?_)
  · obtain ⟨hP2, hD2, hS2⟩ := gl_join hX hP hz hk rfl hL
    rcases hE with ⟨rfl, h1⟩ | ⟨rfl, h1, h2⟩ | ⟨rfl, h1, h2, h3⟩
    · have hk9 : sk_spot N S i1 i2 i3 = 1 := gk_f h1
      refine vx_catch (own := RL) (name := gIO) G.2.2.2.2.1 [] ⟨0, 12, 15, 19⟩ [⟨0, 12, 19, 21⟩] (hT.trans rfl) (fun _ h => nomatch h) (by decide) (by decide) (G.2.2.2.2.2.1 (.classLink RL 19 gIO) (by decide +kernel)) (va_Nw.use rfl (z3 (.castable gIO gIO) (by decide +kernel))) hce hcv hcl ?_
      refine lv_astore (lv' := [(5, .ref q9), (0, .ref (q 0)), (1, .int i1), (2, .int i2), (3, .int i3), (4, .ref o)]) G.1 G.2.1 dL_spot_15 hl (by decide) rfl (fun ls hl => ?_)
      refine lv_iconst (v := nI 1) G.1 G.2.1 dL_spot_17 (by decide) ?_
      exact W.iret G.1 G.2.1 G.2.2.1 (fun t ht hW => ⟨1, N, S, tr2, g, rfl, ⟨hk9.symm, by rw [hk9]; rfl, by rw [hk9]; rfl, fun h => absurd (hk9.symm.trans h) (by decide)⟩, by rw [ht]; exact hP2, hS2.F ht⟩) hS2.2.2 dL_spot_18 G.2.2.2.2.2.2
    · have hk9 : sk_spot N S i1 i2 i3 = 2 := gk_tf h1 h2
      refine vx_catch (own := RL) (name := gIA) G.2.2.2.2.1 [⟨0, 12, 15, 19⟩] ⟨0, 12, 19, 21⟩ [] (hT.trans rfl) (List.forall_mem_cons.mpr ⟨Or.inr ⟨by decide, gIO, G.2.2.2.2.2.1 (.classLink RL 19 gIO) (by decide +kernel), z5⟩, fun _ h => nomatch h⟩) (by decide) (by decide) (G.2.2.2.2.2.1 (.classLink RL 21 gIA) (by decide +kernel)) (va_Nw.use rfl (z3 (.castable gIA gIA) (by decide +kernel))) hce hcv hcl ?_
      refine lv_astore (lv' := [(5, .ref q9), (0, .ref (q 0)), (1, .int i1), (2, .int i2), (3, .int i3), (4, .ref o)]) G.1 G.2.1 dL_spot_19 hl (by decide) rfl (fun ls hl => ?_)
      refine lv_iconst (v := nI 2) G.1 G.2.1 dL_spot_21 (by decide) ?_
      exact W.iret G.1 G.2.1 G.2.2.1 (fun t ht hW => ⟨2, N, S, tr2, g, rfl, ⟨hk9.symm, by rw [hk9]; rfl, by rw [hk9]; rfl, fun h => absurd (hk9.symm.trans h) (by decide)⟩, by rw [ht]; exact hP2, hS2.F ht⟩) hS2.2.2 dL_spot_22 G.2.2.2.2.2.2
    · exact absurd h3 (by show ¬ (true = false); decide)
  · obtain ⟨hA, hB, hC, rfl, e2, e3⟩ := hp
    rw [e2, e3] at hP
    obtain ⟨hP2, hD2, hS2⟩ := gl_join hX hP hz hk rfl hL
    have hk9 : sk_spot N S i1 i2 i3 = 0 := gk_ttt hA hB rfl
    refine lv_i2l (v := (nI (sR_spot N S i1 i2 i3)).toInt64) G.1 G.2.1 dL_spot_10 rfl ?_
    refine va_last (D := D) (A := fun z => A z ∨ z = o) (H0 := s.heap) G.1 G.2.1 hX.2.1 hP2 hD2 hS2 0 1 (f := g) rfl rfl (by unfold vp_in; decide) dL_spot_11 (fun H3 locs3 hP3 hD3 hS3 => ?_)
    have hP3 : va_P D vwCl (oe o cL (vp_updL g (0 : Int32).toNatClampNeg (nI (sR_spot N S i1 i2 i3)).toInt64) :: xw q cI _ _ tr2) H3 := hP3
    refine lv_goto (tgt := 23) G.1 G.2.1 dL_spot_12 (by decide) ?_
    refine lv_iconst (v := nI 0) G.1 G.2.1 dL_spot_23 (by decide) ?_
    exact W.iret G.1 G.2.1 G.2.2.1 (fun t ht hW => ⟨0, _, _, tr2, vp_updL g (0 : Int32).toNatClampNeg (nI (sR_spot N S i1 i2 i3)).toInt64, rfl, ⟨hk9.symm, by rw [if_pos hk9], by rw [if_pos hk9], fun _ => gl_u _ _⟩, by rw [ht]; exact hP3, hS3.F ht⟩) hS3.2.2 dL_spot_24 G.2.2.2.2.2.2
set_option maxRecDepth 100000 in
set_option maxHeartbeats 800000 in
/-- the law calls mix -/
theorem mL_mix (l : Launch) (hst : l.stackTraces = false) (D : va_G) (q : Nat → Nat) (cI : ClassId) (o : Nat) (cL : ClassId) (N : Nat → Nat) (S : Nat → Nat → Nat) (tr : Nat → Nat) (g : Nat → Int64) (A : Nat → Prop) (hok : sp_ok N S) (hinv : sp_inv N S) (i1 i2 i3 : Int32) : Met l yL_mix wsL_mix { frames := 8, cells := 1, slots := 6, locals := 125 } (va_Pc [.ref (q 0), .int i1, .int i2, .int i3, .ref o] (fun U => wAt D q cI o cL N S tr g A U U.heap)) (gQw D q cI o cL (fun k N2 S2 v => k = sk_mix N S i1 i2 i3 ∧ N2 = (if sk_mix N S i1 i2 i3 = 0 then sN_mix N S i1 i2 i3 else N) ∧ S2 = (if sk_mix N S i1 i2 i3 = 0 then sS_mix N S i1 i2 i3 else S) ∧ (sk_mix N S i1 i2 i3 = 0 → v = (nI (sR_mix N S i1 i2 i3)).toInt64)) A) 1 6 (fun z => A z ∨ z = o) := by
  refine gc_metW [.ref (q 0), .int i1, .int i2, .int i3, .ref o] (by decide) rfl (Nat.le_of_ble_eq_true rfl) rfl ?_
  intro p e s m below meth c ls G hT hl hX
  obtain ⟨z1, z2, z3, z4, z5, z6, z7⟩ := hX.2.2.2.2.2
  have hx := hX.x
  refine lv_aload G.1 G.2.1 dL_mix_0 (lv_at hl 4 rfl) ?_
  refine lv_iconst (v := nI 0) G.1 G.2.1 dL_mix_2 (by decide) ?_
  refine lv_aload_n G.1 G.2.1 dL_mix_3 rfl (lv_at hl 0 rfl) ?_
  refine lv_iload_n G.1 G.2.1 dL_mix_4 rfl (lv_at hl 1 rfl) ?_
  refine lv_iload_n G.1 G.2.1 dL_mix_5 rfl (lv_at hl 2 rfl) ?_
  refine lv_iload_n G.1 G.2.1 dL_mix_6 rfl (lv_at hl 3 rfl) ?_
  refine gl_call (rest := [.int (nI 0), .ref o]) (vx_runV (As := [.int i1, .int i2, .int i3]) (rest := [.int (nI 0), .ref o]) G.fix (mX0_mix l hst D q cI N S tr A hok hinv i1 i2 i3) (cwV 3 G.2.2.2.2.2.1 gL_mix_X0_mix rfl rfl rfl (by decide +kernel) ⟨Nat.le_of_ble_eq_true rfl, Nat.le_of_ble_eq_true rfl⟩) ⟨xAt_blind, va_recv hx.2.1 hx.1 (ci := 0) (q0 := 0) rfl rfl, fun U hU hW => ⟨rfl, by show xAt _ _ _ _ _ _ _ U U.heap; rw [hU]; exact hx.moved hW⟩⟩ rfl rfl hl.1 rfl (lv_room (Nat.le_of_ble_eq_true rfl)) dL_mix_7 ⟨Nat.le_of_ble_eq_true rfl, Nat.le_of_ble_eq_true rfl⟩) (fun E ce q9 tr2 H1 L hE hP hz hk hL hce hcv hcl => ?_) (fun r N2 S2 tr2 H1 L hp hP hz hk hL => ?_)
  · obtain ⟨hP2, hD2, hS2⟩ := gl_join hX hP hz hk rfl hL
    rcases hE with ⟨rfl, h1⟩ | ⟨rfl, h1, h2⟩ | ⟨rfl, h1, h2, h3⟩
    · have hk9 : sk_mix N S i1 i2 i3 = 1 := gk_f h1
      refine vx_catch (own := RL) (name := gIO) G.2.2.2.2.1 [] ⟨0, 12, 15, 19⟩ [⟨0, 12, 19, 21⟩] (hT.trans rfl) (fun _ h => nomatch h) (by decide) (by decide) (G.2.2.2.2.2.1 (.classLink RL 19 gIO) (by decide +kernel)) (va_Nw.use rfl (z3 (.castable gIO gIO) (by decide +kernel))) hce hcv hcl ?_
      refine lv_astore (lv' := [(5, .ref q9), (0, .ref (q 0)), (1, .int i1), (2, .int i2), (3, .int i3), (4, .ref o)]) G.1 G.2.1 dL_mix_15 hl (by decide) rfl (fun ls hl => ?_)
      refine lv_iconst (v := nI 1) G.1 G.2.1 dL_mix_17 (by decide) ?_
      exact W.iret G.1 G.2.1 G.2.2.1 (fun t ht hW => ⟨1, N, S, tr2, g, rfl, ⟨hk9.symm, by rw [hk9]; rfl, by rw [hk9]; rfl, fun h => absurd (hk9.symm.trans h) (by decide)⟩, by rw [ht]; exact hP2, hS2.F ht⟩) hS2.2.2 dL_mix_18 G.2.2.2.2.2.2
    · have hk9 : sk_mix N S i1 i2 i3 = 2 := gk_tf h1 h2
      refine vx_catch (own := RL) (name := gIA) G.2.2.2.2.1 [⟨0, 12, 15, 19⟩] ⟨0, 12, 19, 21⟩ [] (hT.trans rfl) (List.forall_mem_cons.mpr ⟨Or.inr ⟨by decide, gIO, G.2.2.2.2.2.1 (.classLink RL 19 gIO) (by decide +kernel), z5⟩, fun _ h => nomatch h⟩) (by decide) (by decide) (G.2.2.2.2.2.1 (.classLink RL 21 gIA) (by decide +kernel)) (va_Nw.use rfl (z3 (.castable gIA gIA) (by decide +kernel))) hce hcv hcl ?_
      refine lv_astore (lv' := [(5, .ref q9), (0, .ref (q 0)), (1, .int i1), (2, .int i2), (3, .int i3), (4, .ref o)]) G.1 G.2.1 dL_mix_19 hl (by decide) rfl (fun ls hl => ?_)
      refine lv_iconst (v := nI 2) G.1 G.2.1 dL_mix_21 (by decide) ?_
      exact W.iret G.1 G.2.1 G.2.2.1 (fun t ht hW => ⟨2, N, S, tr2, g, rfl, ⟨hk9.symm, by rw [hk9]; rfl, by rw [hk9]; rfl, fun h => absurd (hk9.symm.trans h) (by decide)⟩, by rw [ht]; exact hP2, hS2.F ht⟩) hS2.2.2 dL_mix_22 G.2.2.2.2.2.2
    · exact absurd h3 (by show ¬ (true = false); decide)
  · obtain ⟨hA, hB, hC, rfl, e2, e3⟩ := hp
    rw [e2, e3] at hP
    obtain ⟨hP2, hD2, hS2⟩ := gl_join hX hP hz hk rfl hL
    have hk9 : sk_mix N S i1 i2 i3 = 0 := gk_ttt hA hB rfl
    refine lv_i2l (v := (nI (sR_mix N S i1 i2 i3)).toInt64) G.1 G.2.1 dL_mix_10 rfl ?_
    refine va_last (D := D) (A := fun z => A z ∨ z = o) (H0 := s.heap) G.1 G.2.1 hX.2.1 hP2 hD2 hS2 0 1 (f := g) rfl rfl (by unfold vp_in; decide) dL_mix_11 (fun H3 locs3 hP3 hD3 hS3 => ?_)
    have hP3 : va_P D vwCl (oe o cL (vp_updL g (0 : Int32).toNatClampNeg (nI (sR_mix N S i1 i2 i3)).toInt64) :: xw q cI _ _ tr2) H3 := hP3
    refine lv_goto (tgt := 23) G.1 G.2.1 dL_mix_12 (by decide) ?_
    refine lv_iconst (v := nI 0) G.1 G.2.1 dL_mix_23 (by decide) ?_
    exact W.iret G.1 G.2.1 G.2.2.1 (fun t ht hW => ⟨0, _, _, tr2, vp_updL g (0 : Int32).toNatClampNeg (nI (sR_mix N S i1 i2 i3)).toInt64, rfl, ⟨hk9.symm, by rw [if_pos hk9], by rw [if_pos hk9], fun _ => gl_u _ _⟩, by rw [ht]; exact hP3, hS3.F ht⟩) hS3.2.2 dL_mix_24 G.2.2.2.2.2.2
set_option maxRecDepth 100000 in
set_option maxHeartbeats 800000 in
/-- the law calls shown -/
theorem mL_shown (l : Launch) (hst : l.stackTraces = false) (D : va_G) (q : Nat → Nat) (cI : ClassId) (o : Nat) (cL : ClassId) (N : Nat → Nat) (S : Nat → Nat → Nat) (tr : Nat → Nat) (g : Nat → Int64) (A : Nat → Prop) (hok : sp_ok N S) (hinv : sp_inv N S) (i1 i2 i3 i4 : Int32) : Met l yL_shown wsL_shown { frames := 8, cells := 1, slots := 6, locals := 148 } (va_Pc [.ref (q 0), .int i1, .int i2, .int i3, .int i4, .ref o] (fun U => wAt D q cI o cL N S tr g A U U.heap)) (gQw D q cI o cL (fun k N2 S2 v => k = sk_shown N S i1 i2 i3 i4 ∧ N2 = (if sk_shown N S i1 i2 i3 i4 = 0 then sN_shown N S i1 i2 i3 i4 else N) ∧ S2 = (if sk_shown N S i1 i2 i3 i4 = 0 then sS_shown N S i1 i2 i3 i4 else S) ∧ (sk_shown N S i1 i2 i3 i4 = 0 → v = (nI (sR_shown N S i1 i2 i3 i4)).toInt64)) A) 1 6 (fun z => A z ∨ z = o) := by
  refine gc_metW [.ref (q 0), .int i1, .int i2, .int i3, .int i4, .ref o] (by decide) rfl (Nat.le_of_ble_eq_true rfl) rfl ?_
  intro p e s m below meth c ls G hT hl hX
  obtain ⟨z1, z2, z3, z4, z5, z6, z7⟩ := hX.2.2.2.2.2
  have hx := hX.x
  refine lv_aload G.1 G.2.1 dL_shown_0 (lv_at hl 5 rfl) ?_
  refine lv_iconst (v := nI 0) G.1 G.2.1 dL_shown_2 (by decide) ?_
  refine lv_aload_n G.1 G.2.1 dL_shown_3 rfl (lv_at hl 0 rfl) ?_
  refine lv_iload_n G.1 G.2.1 dL_shown_4 rfl (lv_at hl 1 rfl) ?_
  refine lv_iload_n G.1 G.2.1 dL_shown_5 rfl (lv_at hl 2 rfl) ?_
  refine lv_iload_n G.1 G.2.1 dL_shown_6 rfl (lv_at hl 3 rfl) ?_
  refine lv_iload G.1 G.2.1 dL_shown_7 (lv_at hl 4 rfl) ?_
  refine gl_call (rest := [.int (nI 0), .ref o]) (vx_runV (As := [.int i1, .int i2, .int i3, .int i4]) (rest := [.int (nI 0), .ref o]) G.fix (mX0_shown l hst D q cI N S tr A hok hinv i1 i2 i3 i4) (cwV 4 G.2.2.2.2.2.1 gL_shown_X0_shown rfl rfl rfl (by decide +kernel) ⟨Nat.le_of_ble_eq_true rfl, Nat.le_of_ble_eq_true rfl⟩) ⟨xAt_blind, va_recv hx.2.1 hx.1 (ci := 0) (q0 := 0) rfl rfl, fun U hU hW => ⟨rfl, by show xAt _ _ _ _ _ _ _ U U.heap; rw [hU]; exact hx.moved hW⟩⟩ rfl rfl hl.1 rfl (lv_room (Nat.le_of_ble_eq_true rfl)) dL_shown_9 ⟨Nat.le_of_ble_eq_true rfl, Nat.le_of_ble_eq_true rfl⟩) (fun E ce q9 tr2 H1 L hE hP hz hk hL hce hcv hcl => ?_) (fun r N2 S2 tr2 H1 L hp hP hz hk hL => ?_)
  · obtain ⟨hP2, hD2, hS2⟩ := gl_join hX hP hz hk rfl hL
    rcases hE with ⟨rfl, h1⟩ | ⟨rfl, h1, h2⟩ | ⟨rfl, h1, h2, h3⟩
    · have hk9 : sk_shown N S i1 i2 i3 i4 = 1 := gk_f h1
      refine vx_catch (own := RL) (name := gIO) G.2.2.2.2.1 [] ⟨0, 14, 17, 19⟩ [⟨0, 14, 21, 21⟩] (hT.trans rfl) (fun _ h => nomatch h) (by decide) (by decide) (G.2.2.2.2.2.1 (.classLink RL 19 gIO) (by decide +kernel)) (va_Nw.use rfl (z3 (.castable gIO gIO) (by decide +kernel))) hce hcv hcl ?_
      refine lv_astore (lv' := [(6, .ref q9), (0, .ref (q 0)), (1, .int i1), (2, .int i2), (3, .int i3), (4, .int i4), (5, .ref o)]) G.1 G.2.1 dL_shown_17 hl (by decide) rfl (fun ls hl => ?_)
      refine lv_iconst (v := nI 1) G.1 G.2.1 dL_shown_19 (by decide) ?_
      exact W.iret G.1 G.2.1 G.2.2.1 (fun t ht hW => ⟨1, N, S, tr2, g, rfl, ⟨hk9.symm, by rw [hk9]; rfl, by rw [hk9]; rfl, fun h => absurd (hk9.symm.trans h) (by decide)⟩, by rw [ht]; exact hP2, hS2.F ht⟩) hS2.2.2 dL_shown_20 G.2.2.2.2.2.2
    · have hk9 : sk_shown N S i1 i2 i3 i4 = 2 := gk_tf h1 h2
      refine vx_catch (own := RL) (name := gIA) G.2.2.2.2.1 [⟨0, 14, 17, 19⟩] ⟨0, 14, 21, 21⟩ [] (hT.trans rfl) (List.forall_mem_cons.mpr ⟨Or.inr ⟨by decide, gIO, G.2.2.2.2.2.1 (.classLink RL 19 gIO) (by decide +kernel), z5⟩, fun _ h => nomatch h⟩) (by decide) (by decide) (G.2.2.2.2.2.1 (.classLink RL 21 gIA) (by decide +kernel)) (va_Nw.use rfl (z3 (.castable gIA gIA) (by decide +kernel))) hce hcv hcl ?_
      refine lv_astore (lv' := [(6, .ref q9), (0, .ref (q 0)), (1, .int i1), (2, .int i2), (3, .int i3), (4, .int i4), (5, .ref o)]) G.1 G.2.1 dL_shown_21 hl (by decide) rfl (fun ls hl => ?_)
      refine lv_iconst (v := nI 2) G.1 G.2.1 dL_shown_23 (by decide) ?_
      exact W.iret G.1 G.2.1 G.2.2.1 (fun t ht hW => ⟨2, N, S, tr2, g, rfl, ⟨hk9.symm, by rw [hk9]; rfl, by rw [hk9]; rfl, fun h => absurd (hk9.symm.trans h) (by decide)⟩, by rw [ht]; exact hP2, hS2.F ht⟩) hS2.2.2 dL_shown_24 G.2.2.2.2.2.2
    · exact absurd h3 (by show ¬ (true = false); decide)
  · obtain ⟨hA, hB, hC, rfl, e2, e3⟩ := hp
    rw [e2, e3] at hP
    obtain ⟨hP2, hD2, hS2⟩ := gl_join hX hP hz hk rfl hL
    have hk9 : sk_shown N S i1 i2 i3 i4 = 0 := gk_ttt hA hB rfl
    refine lv_i2l (v := (nI (sR_shown N S i1 i2 i3 i4)).toInt64) G.1 G.2.1 dL_shown_12 rfl ?_
    refine va_last (D := D) (A := fun z => A z ∨ z = o) (H0 := s.heap) G.1 G.2.1 hX.2.1 hP2 hD2 hS2 0 1 (f := g) rfl rfl (by unfold vp_in; decide) dL_shown_13 (fun H3 locs3 hP3 hD3 hS3 => ?_)
    have hP3 : va_P D vwCl (oe o cL (vp_updL g (0 : Int32).toNatClampNeg (nI (sR_shown N S i1 i2 i3 i4)).toInt64) :: xw q cI _ _ tr2) H3 := hP3
    refine lv_goto (tgt := 25) G.1 G.2.1 dL_shown_14 (by decide) ?_
    refine lv_iconst (v := nI 0) G.1 G.2.1 dL_shown_25 (by decide) ?_
    exact W.iret G.1 G.2.1 G.2.2.1 (fun t ht hW => ⟨0, _, _, tr2, vp_updL g (0 : Int32).toNatClampNeg (nI (sR_shown N S i1 i2 i3 i4)).toInt64, rfl, ⟨hk9.symm, by rw [if_pos hk9], by rw [if_pos hk9], fun _ => gl_u _ _⟩, by rw [ht]; exact hP3, hS3.F ht⟩) hS3.2.2 dL_shown_26 G.2.2.2.2.2.2
