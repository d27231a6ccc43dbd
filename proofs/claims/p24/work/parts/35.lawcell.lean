/-! THE LAW's CELLS of the script, and what its first choices stand on -/
def cB (b L : Nat) (xs : Nat → Int32) (U : State) : Prop := va_X b L xs U U.heap ∧ b < U.heap.size
theorem cB_blind {b L : Nat} {xs : Nat → Int32} {av : List Value} : FrameBlind (va_Pc av (fun U => cB b L xs U)) := fun a U g mk hq => ⟨hq.1, va_X.moved (u := U) (U := U.calling g mk a) (Vm.Alike.refl U.vm) hq.2.1, hq.2.2⟩
set_option maxRecDepth 100000 in
set_option maxHeartbeats 1000000 in
theorem mL_cell (l : Launch) (b L : Nat) (xs : Nat → Int32) (k : Nat) (hk : k < 2 ^ 31) (hL : L ≤ 260) : Met l yL_cell wsL_cell { frames := 0, cells := 0, slots := 0, locals := 0 } (va_Pc [.ref b, .int (nI k)] (fun U => cB b L xs U)) (vp_Si (fun _ => True)) 0 0 (fun _ => False) := by
  refine gc_met [.ref b, .int (nI k)] (by decide) rfl (Nat.le_of_ble_eq_true rfl) rfl ?_
  intro p e s m below meth c ls G hl hX
  obtain ⟨hx, hb⟩ := hX
  have hS : va_S (fun _ => False) s.heap s.heap [] := va_S.rf
  refine lv_iload_n G.1 G.2.1 dL_cell_0 rfl (lv_at hl 1 rfl) ?_
  refine lv_aload_n G.1 G.2.1 dL_cell_1 rfl (lv_at hl 0 rfl) ?_
  refine va_slen G.1 G.2.1 hx hb (fun h => h) hS dL_cell_2 ?_
  refine gn_ge G (a := k) (b := L) (by omega) (by omega) (tgt := 12) dL_cell_3 (by decide) (fun h_3 => ?_) (fun h_3 => ?_)
  · refine lv_ldc2 G.1 G.2.1 G.2.2.2.2.1 (G.2.2.2.2.2.1 (.constantLong RL 7 (3266489917)) (by decide +kernel)) dL_cell_12 ?_
    refine lv_iload_n G.1 G.2.1 dL_cell_15 rfl (lv_at hl 1 rfl) ?_
    refine lv_bipush (v := nI 103) G.1 G.2.1 dL_cell_16 (by decide) ?_
    refine gn_iadd G dL_cell_18 ?_
    refine lv_i2l G.1 G.2.1 dL_cell_19 rfl ?_
    refine lv_lmul G.1 G.2.1 dL_cell_20 ?_
    refine lv_iconst (v := nI 4) G.1 G.2.1 dL_cell_21 (by decide) ?_
    refine lv_lushr G.1 G.2.1 dL_cell_22 rfl ?_
    refine lv_l2i G.1 G.2.1 dL_cell_23 rfl ?_
    exact W.iret G.1 G.2.1 G.2.2.1 (fun t ht hW => ⟨_, rfl, trivial, ht⟩) (fun q h => nomatch h) dL_cell_24 G.2.2.2.2.2.2
  · refine lv_aload_n G.1 G.2.1 dL_cell_6 rfl (lv_at hl 0 rfl) ?_
    refine lv_iload_n G.1 G.2.1 dL_cell_7 rfl (lv_at hl 1 rfl) ?_
    refine va_sld G.1 G.2.1 hx hb (fun h => h) hS (vp_in_nI h_3 (by omega)) dL_cell_8 ?_
    refine lv_goto (tgt := 24) G.1 G.2.1 dL_cell_9 (by decide) ?_
    exact W.iret G.1 G.2.1 G.2.2.1 (fun t ht hW => ⟨_, rfl, trivial, ht⟩) (fun q h => nomatch h) dL_cell_24 G.2.2.2.2.2.2
theorem lp_b {a : Nat → Nat} {cI : ClassId} {N : Nat → Nat} {S : Nat → Nat → Nat} {n j : Nat} : (lrw a cI N (gs S 1 (sp_fill (S 1) n j))).set 1 (a 1, .inl (cI, 45, .inl (gr (gu ((gs S 1 (sp_fill (S 1) n j)) 1) (n + j) (sp_vop (j % 5)))))) = lrw a cI N (gs S 1 (sp_fill (S 1) n (j + 1))) := rfl
theorem lp_0 {a : Nat → Nat} {cI : ClassId} {N : Nat → Nat} {S : Nat → Nat → Nat} {n : Nat} : lrw a cI N S = lrw a cI N (gs S 1 (sp_fill (S 1) n 0)) := rfl
theorem lp_1 {a : Nat → Nat} {cI : ClassId} {N : Nat → Nat} {S : Nat → Nat → Nat} {X : Nat → Nat} {n : Nat} : lrw a cI N (gs S 1 X) = lrw a cI N (gs (gs S 1 X) 3 (sp_fill2 (S 3) n 0)) := rfl
theorem lp_r {a : Nat → Nat} {cI : ClassId} {N : Nat → Nat} {S : Nat → Nat → Nat} {X : Nat → Nat} {n j : Nat} : (lrw a cI N (gs (gs S 1 X) 3 (sp_fill2 (S 3) (n * 3) j))).set 2 (a 2, .inl (cI, 18, .inl (gr (gu (fR (gs (gs S 1 X) 3 (sp_fill2 (S 3) (n * 3) j))) (9 + 3 * n + j) 255)))) = lrw a cI N (gs (gs S 1 X) 3 (sp_fill2 (S 3) (n * 3) (j + 1))) := by
  rw [ls_r3]
  rfl
theorem li_profile {N : Nat → Nat} {S : Nat → Nat → Nat} (h : li N S) (h3 : N 0 < 3) : li (sN_profile N S) (sS_profile N S) := by
  obtain ⟨hok, hinv, h0, h5, h6⟩ := h
  have hk : sk_profile N S = 0 := gk_ttt (decide_eq_true (show N 0 < 8 by omega)) rfl rfl
  have e := inv_profile hok hinv hk
  refine ⟨e.1, e.2, ?_, h5, h6⟩
  show N 0 + 1 ≤ 3
  omega
theorem li_chain {N : Nat → Nat} {S : Nat → Nat → Nat} (h : li N S) (h2 : N 5 < 2) : li (sN_chain N S) (sS_chain N S) := by
  obtain ⟨hok, hinv, h0, h5, h6⟩ := h
  have hk : sk_chain N S = 0 := gk_ttt (decide_eq_true (show N 5 < 6 by omega)) rfl rfl
  have e := inv_chain hok hinv hk
  refine ⟨e.1, e.2, h0, ?_, h6⟩
  show N 5 + 1 ≤ 2
  omega
theorem gE3_no {a b c : Bool} (ha : a = true) (hb : b = true) (hc : c = true) (E : String) : ¬ gE3 a b c E := by
  subst ha hb hc
  rintro (⟨_, h⟩ | ⟨_, _, h⟩ | ⟨_, _, _, h⟩) <;> exact absurd h (by decide)
section GV
variable {p : Program} {l : Launch} {e : Env} {R : Room} {s : State} {m : MethodId} {args : Array Value} {below : List Frame} {meth : Method} {c : Code} {H : Heap} {locs : List Loc} {cells slots : Nat} {Q : State → Prop}
variable {pc : Nat} {rest st0 : List Value} {ls : Array Slot} {a9 : Array Value} {D : va_G} {q a : Nat → Nat} {cI : ClassId} {N N2 : Nat → Nat} {S S2 : Nat → Nat → Nat} {tr : Nat → Nat} {A : Nat → Prop}
/-- the law calls the class itself, and it doesn't throw -/
theorem gz_vx {post : Int32 → (Nat → Nat) → (Nat → Nat → Nat) → Prop} {P : String → Prop} (hr : vx_Run p l e R s m args below meth c H locs cells slots 1 6 (F0 m pc ls st0) rest (gQx D q cI post (va_A (xw q cI N S tr) H.size) a9) (gXx D q cI N S (va_A (xw q cI N S tr) H.size) P) (va_A (xw q cI N S tr) H.size)) (hno : ∀ E, ¬ P E)
    (hZ : zAt D q a cI N S tr N2 S2 A s H) (hA : ∀ z : Nat, s.heap.size ≤ z → A z) (hS : va_S A s.heap H locs)
    (kk : ∀ (r : Int32) (N' : Nat → Nat) (S' : Nat → Nat → Nat) (tr' : Nat → Nat) (H1 : Heap) (locs1 : List Loc), post r N' S' → zAt D q a cI N' S' tr' N2 S2 A s H1 → va_S A s.heap H1 locs1 → W p l e R s m args below meth c H1 locs1 (cells + 1) (slots + 6) Q (F0 m (pc + 3) ls (.int r :: rest))) : W p l e R s m args below meth c H locs cells slots Q (F0 m pc ls st0) :=
  gl_call hr (fun E ce q9 tr' H1 L hE _ _ _ _ _ _ _ => (hno E hE).elim) (fun r N' S' tr' H1 L hp hP hz hk hL => by
    obtain ⟨hX1, hS1⟩ := hZ.newx hA hS hP hz hk hL
    exact kk r N' S' tr' H1 _ hp hX1 hS1)
end GV
