/-! THE LAW from its entry -/
set_option maxRecDepth 20000 in
theorem gB_in : ∀ w ∈ gB, w ∈ lw_tbl := by decide +kernel
set_option maxRecDepth 20000 in
theorem gTx_in : ∀ x ∈ gTx, Cond.stringRef RX0 x.1 x.2 ∈ lw_tbl := by decide +kernel
set_option maxRecDepth 20000 in
theorem gTx_ex : ∀ x ∈ gTx, Cond.exactly (.string RX0 x.1) "java/lang/String" ∈ flatC (Jvm.Cond.and given_1 narrow_1) := by decide +kernel
theorem gZ_start {s : State} {b : Nat} (hts : ∀ w ∈ lw_tbl, w.before #[Value.ref b] s = true) (hgv : (Jvm.Cond.and given_1 narrow_1).before #[Value.ref b] s = true) : gZ (gA s) s s.heap := by
  have hf := flat_of_before _ hgv
  have hA : ∀ a : Nat, a < s.heap.size → ¬ gA s a := fun a h1 h2 => absurd h1 (Nat.not_lt.mpr h2)
  refine ⟨vx_Zqof (hts (.laysStatic Bundle.tN "UNASSIGNED_STACK" Bundle.steD) (by decide +kernel)) (hts (.initialized Bundle.tN) (by decide +kernel)) (hf (.isRef (.static Bundle.tN "UNASSIGNED_STACK" Bundle.steD)) (by decide +kernel)) hA, vx_Zqof (hts (.laysStatic Bundle.tN "SUPPRESSED_SENTINEL" Bundle.listD) (by decide +kernel)) (hts (.initialized Bundle.tN) (by decide +kernel)) (hf (.isRef (.static Bundle.tN "SUPPRESSED_SENTINEL" Bundle.listD)) (by decide +kernel)) hA, fun w hw => va_Nw.of (gB_tab w hw) (hts w (gB_in w hw)), fun x hx => ?_, va_Nc.of (hf (.not (.castable gIA gIO)) (by decide +kernel)), va_Nc.of (hf (.not (.castable gIS gIO)) (by decide +kernel)), va_Nc.of (hf (.not (.castable gIS gIA)) (by decide +kernel))⟩
  obtain ⟨a, c, cell, k, q1, -⟩ := Cond.exactly_spec (args := #[Value.ref b]) (first := s) (o := none) (s := s) (idx := []) (hf _ (gTx_ex x hx))
  exact ⟨a, vk_R.of (hts _ (gTx_in x hx)) q1⟩
theorem sp_ok0 : sp_ok (fun _ => 0) (fun _ _ => 0) := ⟨⟨Nat.zero_le _, Nat.zero_le _⟩, fun _ => Nat.zero_le _, fun _ => Nat.zero_le _, fun _ => Nat.zero_le _, fun _ => Nat.zero_le _, fun _ => Nat.zero_lt_succ _, fun _ => Nat.zero_le _, fun _ => Nat.zero_le _, fun _ => Nat.zero_le _, fun _ => Nat.zero_le _, fun _ => Nat.zero_le _⟩
theorem sp_bit0 (c : Nat) : sp_bit 0 c = 0 := by simp [sp_bit]
theorem sp_inv0 : sp_inv (fun _ => 0) (fun _ _ => 0) := ⟨fun _ _ => rfl, fun _ _ => rfl, Nat.zero_lt_succ _, Nat.zero_lt_succ _, fun c _ => ⟨sp_bit0 c, sp_bit0 c⟩, fun c _ => ⟨(sp_bit0 c).symm, (sp_bit0 c).symm⟩, fun c k _ hk => absurd hk (Nat.not_lt_zero k)⟩
abbrev fsX : List Value := [.int 0, .null, .null, .null, .null, .int 0, .null, .null, .null, .int 0, .int 0, .null, .null, .null, .null]
theorem va_Dswap {A : Nat → Prop} {w1 w2 : va_W} (h : va_D A (w1 ++ w2)) : va_D A (w2 ++ w1) := va_D.app (gd_r h) (gd_l h) (fun i j x y hi hj e => gd_x h hj hi e.symm)
theorem fC_z : fC (fun _ => 0) (fun _ _ => 0) = fun _ => 0 := by
  funext j
  unfold fC
  repeat' split
  all_goals rfl
theorem fR_z : fR (fun _ _ => 0) = fun _ => 0 := by
  funext j
  unfold fR
  split <;> rfl
theorem fP_z : fP (fun _ _ => 0) = fun _ => 0 := by
  funext j
  unfold fP
  repeat' split
  all_goals rfl
def lrz (a : Nat → Nat) (cI : ClassId) : va_W := [(a 0, .inl (cI, 11, .inl (gr (fun _ => 0)))), (a 1, .inl (cI, 45, .inl (gr (fun _ => 0)))), (a 2, .inl (cI, 18, .inl (gr (fun _ => 0)))), (a 3, .inl (cI, 12, .inl (gr (fun _ => 0)))), (a 4, .inl (cI, 30, .inl (gr (fun _ => 0)))), (a 5, .inl (cI, 21, .inl (gr (fun _ => 0))))]
theorem lrw_z {a : Nat → Nat} {cI : ClassId} : lrw a cI (fun _ => 0) (fun _ _ => 0) = lrz a cI := by
  unfold lrw lrz
  rw [fC_z, fR_z, fP_z]
theorem li0 : li (fun _ => 0) (fun _ _ => 0) := ⟨sp_ok0, sp_inv0, Nat.zero_le _, Nat.zero_le _, fun _ => Nat.zero_le _⟩
theorem lw_end {l : Launch} {p : Program} {e : Env} {s : State} {m : MethodId} {b : Nat} {below : List Frame} {meth : Method} {c : Code} {H : Heap} {locs : List Loc} {cells slots : Nat} {ls : Array Slot} (G : gF p s m #[Value.ref b] meth c cL_law ret 14 RL wsL_law) (hS : va_S (gA s) s.heap H locs) (hc : cells ≤ 953113) (hs : slots ≤ 6242284) : W p l e room_1 s m #[Value.ref b] below meth c H locs cells slots (lw_Z below #[Value.ref b] s) (F0 m 401 ls []) := by
  refine lv_iconst (v := 1) G.1 G.2.1 dL_law_401 (by decide) ?_
  refine W.widen hc hs ?_
  refine va_forget (fun z hz => hS.2.2 z hz) ?_
  exact lw_ret G.1 G.2.1 G.2.2.1 G.2.2.2.2.2.2 dL_law_402
set_option maxRecDepth 100000 in
set_option maxHeartbeats 1000000 in
theorem whole_start {p : Program} {e : Env} {s : State} {m : MethodId} {below : List Frame} {meth : Method} {c : Code} (l : Launch) (hflags : l.flags = flags0) {b L : Nat} {xs : Nat → Int32} (hL : L ≤ 260) (C0 : lw_At p s m meth c b L xs) : W p l e room_1 s m #[Value.ref b] below meth c s.heap [] 0 0 (lw_Z below #[Value.ref b] s) (entryFrame m ([Value.ref b] : List Value).toArray 14) := by
  obtain ⟨hx, hb, hr, hml, hown, hts, hX, hbl, hlocks, hgv⟩ := id C0
  have hst : l.stackTraces = false := by
    unfold Launch.stackTraces
    rw [hflags]
    decide +kernel
  have G : gF p s m #[Value.ref b] meth c cL_law ret 14 RL wsL_law := ⟨hx, hb, hr, hml, hown, fun w hw => hts w (wsL_law_in w hw), hlocks⟩
  have hA : ∀ q : Nat, s.heap.size ≤ q → gA s q := fun _ h => h
  have hZ0 := gZ_start hts hgv
  obtain ⟨c0, iS0, hKn0⟩ := u_known (C := RX0) (T := TX0) (N := 15) (n := 15) hts inX0 (hts (.instantiable RX0 15) (by decide +kernel))
  obtain ⟨D, hKc⟩ : ∃ D : va_G, ∀ (k : Nat) (q : vw_C), vwCl[k]? = some q → u_Kn s q.1 q.2.1 q.2.2 (D.1 k) (D.2 k) := by
    refine ⟨(fun _ => c0, fun _ => iS0), ?_⟩
    intro k q hq
    match k, hq with
    | 0, hq => cases hq; exact hKn0
    | k + 1, hq => simp [vwCl] at hq
  have hS : va_S (gA s) s.heap s.heap [] := va_S.rf
  have hK : va_K D vwCl [] s := ⟨hKc, fun k q h => by simp at h⟩
  have hP : va_P D vwCl [] s.heap := fun k q h => by simp at h
  have hD : va_D (gA s) [] := ⟨fun i j p q h => by simp at h, fun k q h => by simp at h⟩
  have hl := lv_entry ([.ref b]) (n := 14) (Nat.le_of_ble_eq_true rfl)
  rw [lg_entry_eq]
  generalize (lg_sl ([.ref b]) ++ List.replicate (14 - (lg_sl ([.ref b])).length) Slot.unset).toArray = ls at hl ⊢
  have hl : lv_has ls 14 [(0, .ref b)] := hl
  refine va_new (cc := cL_law) (ci := 0) (fs := fsX) (C := RX0) (T := TX0) (N := 15) (own := RL) hx hb hts inX0 tyX0 tyX0_ok hown (hts (.classLink RL 32 RX0) (by decide +kernel)) (hts (.instantiable RX0 15) (by decide +kernel)) (hts (.initialized RX0) (by decide +kernel)) hK hP hD hS hA rfl (fun j hj => by rcases (show j = 0 ∨ j = 1 ∨ j = 2 ∨ j = 3 ∨ j = 4 ∨ j = 5 ∨ j = 6 ∨ j = 7 ∨ j = 8 ∨ j = 9 ∨ j = 10 ∨ j = 11 ∨ j = 12 ∨ j = 13 ∨ j = 14 by omega) with rfl | rfl | rfl | rfl | rfl | rfl | rfl | rfl | rfl | rfl | rfl | rfl | rfl | rfl | rfl <;> rfl) (Nat.le_of_ble_eq_true rfl) (Nat.le_of_ble_eq_true rfl) dL_law_0 (fun h0 H hP hD hS => ?_)
  have hP : va_P D vwCl [(h0, .inr (0, fsX))] H := hP
  have hD : va_D (gA s) [(h0, .inr (0, fsX))] := hD
  refine W.widen (k := 1) (n := 15) (Nat.le_of_ble_eq_true rfl) (Nat.le_of_ble_eq_true rfl) ?_
  refine lv_dup hx hb dL_law_3 rfl ?_
  have hF : ∀ z : Nat, va_A [(h0, .inr (0, fsX))] H.size z → gA s z := fun z hz => by
    rcases hz with ⟨k, e, hk⟩ | h1
    · exact hD.2 k _ hk
    · exact Nat.le_trans hS.1 h1
  refine va_callv (va_runI (As := []) (rest := [.ref h0]) G.fix (mX0_init l D h0 H.size) (cwI 0 G.2.2.2.2.2.1 gL_law_X0_init rfl rfl rfl (hts (.initialized RX0) (by decide +kernel)) (hts (.methodLink RL 137 yX0_init) (by decide +kernel)) (hts (.instanceMethod yX0_init) (by decide +kernel)) rfl (by decide +kernel) ⟨Nat.le_of_ble_eq_true rfl, Nat.le_of_ble_eq_true rfl⟩) ⟨fun a U g mk q => by obtain ⟨q0, q1, qP, qK, qD⟩ := q; exact ⟨q0, q1, qP, va_K.moved (u := U) (U := U.calling g mk a) (Vm.Alike.refl U.vm) qK, qD⟩, fun U hU hW => ⟨rfl, by rw [hU], by rw [hU]; exact hP, va_K.moved hW.alike hK, hD.weaken (fun _ _ _ _ => trivial)⟩⟩ rfl rfl hl.1 rfl (lv_room (Nat.le_of_ble_eq_true rfl)) dL_law_4 ⟨Nat.le_of_ble_eq_true rfl, Nat.le_of_ble_eq_true rfl⟩) hS (fun q _ h => hF q h) hF (fun u t H1 locs ht hvm hw hB hz1 hk1 hS => ?_)
  obtain ⟨q, cI⟩ := u
  obtain ⟨hP1a, hK1a, hD1a⟩ := hB
  rw [ht] at hP1a
  have hw : q 0 = h0 := hw
  have hD9 : va_D (gA s) (xw q cI (fun _ => 0) (fun _ _ => 0) (fun _ => 0) ++ []) := by rw [List.append_nil]; exact hD1a.weaken (fun _ _ _ h => hF _ h)
  have hP9 : va_P D vwCl (xw q cI (fun _ => 0) (fun _ _ => 0) (fun _ => 0) ++ []) H1 := by rw [List.append_nil]; exact hP1a
  have hK1 : va_K D vwCl [(cI, .int)] s := va_K.moved hvm.symm hK1a
  clear hk1 hz1 ht hF hP1a hK1a hD1a hP hD
  subst hw
  have hP := hP9
  have hD := hD9
  refine W.widen (k := 12) (n := 383) (Nat.le_of_ble_eq_true rfl) (Nat.le_of_ble_eq_true rfl) ?_
  refine lv_astore_n (lv' := [(1, .ref (q 0)), (0, .ref b)]) hx hb dL_law_7 rfl hl (by decide) rfl (fun ls hl => ?_)
  refine lv_bipush (v := nI 11) hx hb dL_law_8 (by decide) ?_
  refine va_newa (D := D) (atype := .int) (ty := .int) (N' := 11) (a0 := (11, .inl (gr (fun _ => 0)))) hx hb (hts (.arrayClass .int) (by decide +kernel)) rfl hK1 hP hD hS hA (fun _ => rfl) (by decide) (by decide) (by decide) (Nat.le_of_ble_eq_true rfl) (Nat.le_of_ble_eq_true rfl) dL_law_10 (fun a0 cX H hK hP2 hD2 hS => ?_)
  refine W.widen (k := 13) (n := 394) (Nat.le_of_ble_eq_true rfl) (Nat.le_of_ble_eq_true rfl) ?_
  obtain rfl : cI = cX := Option.some.inj ((show _ = some cI from (hK.2 0 _ rfl).2).symm.trans (show _ = some cX from (hK.2 1 _ rfl).2))
  have hP : va_P D vwCl (xw q cI (fun _ => 0) (fun _ _ => 0) (fun _ => 0) ++ [(a0, .inl (cI, 11, .inl (gr (fun _ => 0))))]) H := by rw [List.append_assoc] at hP2; exact hP2
  have hD : va_D (gA s) (xw q cI (fun _ => 0) (fun _ _ => 0) (fun _ => 0) ++ [(a0, .inl (cI, 11, .inl (gr (fun _ => 0))))]) := by rw [List.append_assoc] at hD2; exact hD2
  clear hP2 hD2 hK
  refine lv_astore_n (lv' := [(2, .ref a0), (1, .ref (q 0)), (0, .ref b)]) hx hb dL_law_12 rfl hl (by decide) rfl (fun ls hl => ?_)
  refine lv_bipush (v := nI 45) hx hb dL_law_13 (by decide) ?_
  refine va_newa (D := D) (atype := .int) (ty := .int) (N' := 45) (a0 := (45, .inl (gr (fun _ => 0)))) hx hb (hts (.arrayClass .int) (by decide +kernel)) rfl hK1 hP hD hS hA (fun _ => rfl) (by decide) (by decide) (by decide) (Nat.le_of_ble_eq_true rfl) (Nat.le_of_ble_eq_true rfl) dL_law_15 (fun a1 cX H hK hP2 hD2 hS => ?_)
  refine W.widen (k := 14) (n := 439) (Nat.le_of_ble_eq_true rfl) (Nat.le_of_ble_eq_true rfl) ?_
  obtain rfl : cI = cX := Option.some.inj ((show _ = some cI from (hK.2 0 _ rfl).2).symm.trans (show _ = some cX from (hK.2 1 _ rfl).2))
  have hP : va_P D vwCl (xw q cI (fun _ => 0) (fun _ _ => 0) (fun _ => 0) ++ [(a0, .inl (cI, 11, .inl (gr (fun _ => 0)))), (a1, .inl (cI, 45, .inl (gr (fun _ => 0))))]) H := by rw [List.append_assoc] at hP2; exact hP2
  have hD : va_D (gA s) (xw q cI (fun _ => 0) (fun _ _ => 0) (fun _ => 0) ++ [(a0, .inl (cI, 11, .inl (gr (fun _ => 0)))), (a1, .inl (cI, 45, .inl (gr (fun _ => 0))))]) := by rw [List.append_assoc] at hD2; exact hD2
  clear hP2 hD2 hK
  refine lv_astore_n (lv' := [(3, .ref a1), (2, .ref a0), (1, .ref (q 0)), (0, .ref b)]) hx hb dL_law_17 rfl hl (by decide) rfl (fun ls hl => ?_)
  refine lv_bipush (v := nI 18) hx hb dL_law_18 (by decide) ?_
  refine va_newa (D := D) (atype := .int) (ty := .int) (N' := 18) (a0 := (18, .inl (gr (fun _ => 0)))) hx hb (hts (.arrayClass .int) (by decide +kernel)) rfl hK1 hP hD hS hA (fun _ => rfl) (by decide) (by decide) (by decide) (Nat.le_of_ble_eq_true rfl) (Nat.le_of_ble_eq_true rfl) dL_law_20 (fun a2 cX H hK hP2 hD2 hS => ?_)
  refine W.widen (k := 15) (n := 457) (Nat.le_of_ble_eq_true rfl) (Nat.le_of_ble_eq_true rfl) ?_
  obtain rfl : cI = cX := Option.some.inj ((show _ = some cI from (hK.2 0 _ rfl).2).symm.trans (show _ = some cX from (hK.2 1 _ rfl).2))
  have hP : va_P D vwCl (xw q cI (fun _ => 0) (fun _ _ => 0) (fun _ => 0) ++ [(a0, .inl (cI, 11, .inl (gr (fun _ => 0)))), (a1, .inl (cI, 45, .inl (gr (fun _ => 0)))), (a2, .inl (cI, 18, .inl (gr (fun _ => 0))))]) H := by rw [List.append_assoc] at hP2; exact hP2
  have hD : va_D (gA s) (xw q cI (fun _ => 0) (fun _ _ => 0) (fun _ => 0) ++ [(a0, .inl (cI, 11, .inl (gr (fun _ => 0)))), (a1, .inl (cI, 45, .inl (gr (fun _ => 0)))), (a2, .inl (cI, 18, .inl (gr (fun _ => 0))))]) := by rw [List.append_assoc] at hD2; exact hD2
  clear hP2 hD2 hK
  refine lv_astore (lv' := [(4, .ref a2), (3, .ref a1), (2, .ref a0), (1, .ref (q 0)), (0, .ref b)]) hx hb dL_law_22 hl (by decide) rfl (fun ls hl => ?_)
  refine lv_bipush (v := nI 12) hx hb dL_law_24 (by decide) ?_
  refine va_newa (D := D) (atype := .int) (ty := .int) (N' := 12) (a0 := (12, .inl (gr (fun _ => 0)))) hx hb (hts (.arrayClass .int) (by decide +kernel)) rfl hK1 hP hD hS hA (fun _ => rfl) (by decide) (by decide) (by decide) (Nat.le_of_ble_eq_true rfl) (Nat.le_of_ble_eq_true rfl) dL_law_26 (fun a3 cX H hK hP2 hD2 hS => ?_)
  refine W.widen (k := 16) (n := 469) (Nat.le_of_ble_eq_true rfl) (Nat.le_of_ble_eq_true rfl) ?_
  obtain rfl : cI = cX := Option.some.inj ((show _ = some cI from (hK.2 0 _ rfl).2).symm.trans (show _ = some cX from (hK.2 1 _ rfl).2))
  have hP : va_P D vwCl (xw q cI (fun _ => 0) (fun _ _ => 0) (fun _ => 0) ++ [(a0, .inl (cI, 11, .inl (gr (fun _ => 0)))), (a1, .inl (cI, 45, .inl (gr (fun _ => 0)))), (a2, .inl (cI, 18, .inl (gr (fun _ => 0)))), (a3, .inl (cI, 12, .inl (gr (fun _ => 0))))]) H := by rw [List.append_assoc] at hP2; exact hP2
  have hD : va_D (gA s) (xw q cI (fun _ => 0) (fun _ _ => 0) (fun _ => 0) ++ [(a0, .inl (cI, 11, .inl (gr (fun _ => 0)))), (a1, .inl (cI, 45, .inl (gr (fun _ => 0)))), (a2, .inl (cI, 18, .inl (gr (fun _ => 0)))), (a3, .inl (cI, 12, .inl (gr (fun _ => 0))))]) := by rw [List.append_assoc] at hD2; exact hD2
  clear hP2 hD2 hK
  refine lv_astore (lv' := [(5, .ref a3), (4, .ref a2), (3, .ref a1), (2, .ref a0), (1, .ref (q 0)), (0, .ref b)]) hx hb dL_law_28 hl (by decide) rfl (fun ls hl => ?_)
  refine lv_bipush (v := nI 30) hx hb dL_law_30 (by decide) ?_
  refine va_newa (D := D) (atype := .int) (ty := .int) (N' := 30) (a0 := (30, .inl (gr (fun _ => 0)))) hx hb (hts (.arrayClass .int) (by decide +kernel)) rfl hK1 hP hD hS hA (fun _ => rfl) (by decide) (by decide) (by decide) (Nat.le_of_ble_eq_true rfl) (Nat.le_of_ble_eq_true rfl) dL_law_32 (fun a4 cX H hK hP2 hD2 hS => ?_)
  refine W.widen (k := 17) (n := 499) (Nat.le_of_ble_eq_true rfl) (Nat.le_of_ble_eq_true rfl) ?_
  obtain rfl : cI = cX := Option.some.inj ((show _ = some cI from (hK.2 0 _ rfl).2).symm.trans (show _ = some cX from (hK.2 1 _ rfl).2))
  have hP : va_P D vwCl (xw q cI (fun _ => 0) (fun _ _ => 0) (fun _ => 0) ++ [(a0, .inl (cI, 11, .inl (gr (fun _ => 0)))), (a1, .inl (cI, 45, .inl (gr (fun _ => 0)))), (a2, .inl (cI, 18, .inl (gr (fun _ => 0)))), (a3, .inl (cI, 12, .inl (gr (fun _ => 0)))), (a4, .inl (cI, 30, .inl (gr (fun _ => 0))))]) H := by rw [List.append_assoc] at hP2; exact hP2
  have hD : va_D (gA s) (xw q cI (fun _ => 0) (fun _ _ => 0) (fun _ => 0) ++ [(a0, .inl (cI, 11, .inl (gr (fun _ => 0)))), (a1, .inl (cI, 45, .inl (gr (fun _ => 0)))), (a2, .inl (cI, 18, .inl (gr (fun _ => 0)))), (a3, .inl (cI, 12, .inl (gr (fun _ => 0)))), (a4, .inl (cI, 30, .inl (gr (fun _ => 0))))]) := by rw [List.append_assoc] at hD2; exact hD2
  clear hP2 hD2 hK
  refine lv_astore (lv' := [(6, .ref a4), (5, .ref a3), (4, .ref a2), (3, .ref a1), (2, .ref a0), (1, .ref (q 0)), (0, .ref b)]) hx hb dL_law_34 hl (by decide) rfl (fun ls hl => ?_)
  refine lv_bipush (v := nI 21) hx hb dL_law_36 (by decide) ?_
  refine va_newa (D := D) (atype := .int) (ty := .int) (N' := 21) (a0 := (21, .inl (gr (fun _ => 0)))) hx hb (hts (.arrayClass .int) (by decide +kernel)) rfl hK1 hP hD hS hA (fun _ => rfl) (by decide) (by decide) (by decide) (Nat.le_of_ble_eq_true rfl) (Nat.le_of_ble_eq_true rfl) dL_law_38 (fun a5 cX H hK hP2 hD2 hS => ?_)
  refine W.widen (k := 18) (n := 520) (Nat.le_of_ble_eq_true rfl) (Nat.le_of_ble_eq_true rfl) ?_
  obtain rfl : cI = cX := Option.some.inj ((show _ = some cI from (hK.2 0 _ rfl).2).symm.trans (show _ = some cX from (hK.2 1 _ rfl).2))
  have hP : va_P D vwCl (xw q cI (fun _ => 0) (fun _ _ => 0) (fun _ => 0) ++ [(a0, .inl (cI, 11, .inl (gr (fun _ => 0)))), (a1, .inl (cI, 45, .inl (gr (fun _ => 0)))), (a2, .inl (cI, 18, .inl (gr (fun _ => 0)))), (a3, .inl (cI, 12, .inl (gr (fun _ => 0)))), (a4, .inl (cI, 30, .inl (gr (fun _ => 0)))), (a5, .inl (cI, 21, .inl (gr (fun _ => 0))))]) H := by rw [List.append_assoc] at hP2; exact hP2
  have hD : va_D (gA s) (xw q cI (fun _ => 0) (fun _ _ => 0) (fun _ => 0) ++ [(a0, .inl (cI, 11, .inl (gr (fun _ => 0)))), (a1, .inl (cI, 45, .inl (gr (fun _ => 0)))), (a2, .inl (cI, 18, .inl (gr (fun _ => 0)))), (a3, .inl (cI, 12, .inl (gr (fun _ => 0)))), (a4, .inl (cI, 30, .inl (gr (fun _ => 0)))), (a5, .inl (cI, 21, .inl (gr (fun _ => 0))))]) := by rw [List.append_assoc] at hD2; exact hD2
  clear hP2 hD2 hK
  refine lv_astore (lv' := [(7, .ref a5), (6, .ref a4), (5, .ref a3), (4, .ref a2), (3, .ref a1), (2, .ref a0), (1, .ref (q 0)), (0, .ref b)]) hx hb dL_law_40 hl (by decide) rfl (fun ls hl => ?_)
  refine lv_iconst (v := nI 0) hx hb dL_law_42 (by decide) ?_
  refine lv_istore (lv' := [(8, .int (nI 0)), (7, .ref a5), (6, .ref a4), (5, .ref a3), (4, .ref a2), (3, .ref a1), (2, .ref a0), (1, .ref (q 0)), (0, .ref b)]) hx hb dL_law_43 hl (by decide) rfl (fun ls hl => ?_)
  have hPz : va_P D vwCl (lrz (gq [a0, a1, a2, a3, a4, a5]) cI ++ xw q cI (fun _ => 0) (fun _ _ => 0) (fun _ => 0)) H := va_P.app (gp_r hP) (gp_l hP)
  have hDz : va_D (gA s) (lrz (gq [a0, a1, a2, a3, a4, a5]) cI ++ xw q cI (fun _ => 0) (fun _ _ => 0) (fun _ => 0)) := va_Dswap hD
  rw [← lrw_z] at hPz hDz
  have hZ : zAt D q (gq [a0, a1, a2, a3, a4, a5]) cI (fun _ => 0) (fun _ _ => 0) (fun _ => 0) (fun _ => 0) (fun _ _ => 0) (gA s) s H := ⟨hPz, hK1, hDz, hZ0.kept (fun z h1 h2 => hS.2.1 z h1 h2)⟩
  exact lw_loop l hst G hX hbl (Nat.not_le.mpr hbl) hL hA hZ0 li0 rfl rfl hZ hS (lv_sub hl [0, 8, 7, 6, 5, 4, 3, 2, 1] rfl) (fun H locs ls hS => lw_end G hS (by decide) (by decide))
