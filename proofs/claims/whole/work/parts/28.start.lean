/-! THE LAW from its entry -/
theorem gd_rot {A : Nat → Prop} {a : Nat × va_E} {w : va_W} (h : va_D A (w ++ [a])) : va_D A (a :: w) := by
  have h1 := gd_l h
  refine ⟨fun i j p q hi hj e => ?_, fun k q hk => ?_⟩
  · match i, j, hi, hj with
    | 0, 0, _, _ => rfl
    | 0, j + 1, hi, hj => cases hi; exact absurd e.symm (gd_x h (show w[j]? = some q from hj) (show [a][0]? = some a from rfl))
    | i + 1, 0, hi, hj => cases hj; exact absurd e (gd_x h (show w[i]? = some p from hi) (show [a][0]? = some a from rfl))
    | i + 1, j + 1, hi, hj => exact congrArg (· + 1) (h1.1 i j p q hi hj e)
  · match k, hk with
    | 0, hk => cases hk; exact (gd_r h).2 0 _ rfl
    | k + 1, hk => exact h1.2 k q hk
set_option maxRecDepth 20000 in
theorem gB_in : ∀ w ∈ gB, w ∈ lw_tbl := by decide +kernel
set_option maxRecDepth 20000 in
theorem gTx_in : ∀ x ∈ gTx, Cond.stringRef RX0 x.1 x.2 ∈ lw_tbl := by decide +kernel
set_option maxRecDepth 20000 in
theorem gTx_ex : ∀ x ∈ gTx, Cond.exactly (.string RX0 x.1) "java/lang/String" ∈ flatC (Jvm.Cond.and given_1 narrow_1) := by decide +kernel
theorem gZ_start {s : State} {b : Nat} (hts : ∀ w ∈ lw_tbl, w.before #[Value.ref b] s = true) (hgv : (Jvm.Cond.and given_1 narrow_1).before #[Value.ref b] s = true) : gZ (gA s) s s.heap := by
  have hf := flat_of_before _ hgv
  have hA : ∀ a : Nat, a < s.heap.size → ¬ gA s a := fun a h1 h2 => absurd h1 (Nat.not_lt.mpr h2)
  refine ⟨vx_Zqof (hts (.laysStatic Bundle.tN "UNASSIGNED_STACK" Bundle.steD) (by decide +kernel)) (hts (.initialized Bundle.tN) (by decide +kernel)) (hf (.isRef (.static Bundle.tN "UNASSIGNED_STACK" Bundle.steD)) (by decide +kernel)) hA, vx_Zqof (hts (.laysStatic Bundle.tN "SUPPRESSED_SENTINEL" Bundle.listD) (by decide +kernel)) (hts (.initialized Bundle.tN) (by decide +kernel)) (hf (.isRef (.static Bundle.tN "SUPPRESSED_SENTINEL" Bundle.listD)) (by decide +kernel)) hA, fun w hw => va_Nw.of (gB_tab w hw) (hts w (gB_in w hw)), fun x hx => ?_, va_Nc.of (hf (.not (.castable gIA gIO)) (by decide +kernel)), va_Nc.of (hf (.not (.castable gIS gIO)) (by decide +kernel)), va_Nc.of (hf (.not (.castable gIS gIA)) (by decide +kernel))⟩
  obtain ⟨a, c, cell, k, q1, -⟩ := Cond.exactly_spec (args := #[Value.ref b]) (first := s) (o := none) (s := s) (idx := []) (hf _ (gTx_ex x hx))
  exact ⟨a, vk_R.of (hts _ (gTx_in x hx)) q1⟩
theorem sp_ok0 : sp_ok (fun _ => 0) (fun _ _ => 0) := ⟨⟨Nat.zero_le _, Nat.zero_le _⟩, fun _ => Nat.zero_le _, fun _ => Nat.zero_le _, fun _ => Nat.zero_le _, fun _ => Nat.zero_le _, fun _ => Nat.zero_lt_succ _, fun _ => Nat.zero_le _, fun _ => Nat.zero_le _, fun _ => Nat.zero_le _, fun _ => Nat.zero_le _, fun _ => Nat.zero_le _⟩
theorem sp_bit0 (c : Nat) : sp_bit 0 c = 0 := by simp [sp_bit]
theorem sp_inv0 : sp_inv (fun _ => 0) (fun _ _ => 0) := ⟨fun _ _ => rfl, fun _ _ => rfl, Nat.zero_lt_succ _, Nat.zero_lt_succ _, fun c _ => ⟨sp_bit0 c, sp_bit0 c⟩, fun c _ => ⟨(sp_bit0 c).symm, (sp_bit0 c).symm⟩, fun c k _ hk => absurd hk (Nat.not_lt_zero k)⟩
abbrev fsX : List Value := [.int 0, .null, .null, .null, .null, .int 0, .null, .null, .null, .int 0, .int 0, .null, .null, .null, .null]
abbrev fsM : List Value := [.int 0, .null, .null, .null, .null, .int 0, .null, .null, .null, .null, .null, .null, .null, .null, .null, .int 0]
set_option maxRecDepth 100000 in
set_option maxHeartbeats 1000000 in
theorem whole_start {p : Program} {e : Env} {s : State} {m : MethodId} {below : List Frame} {meth : Method} {c : Code} (l : Launch) (hflags : l.flags = flags0) {b L : Nat} {xs : Nat → Int32} (hL : L ≤ 2560) (C0 : lw_At p s m meth c b L xs) : W p l e room_1 s m #[Value.ref b] below meth c s.heap [] 0 0 (lw_Z below #[Value.ref b] s) (entryFrame m ([Value.ref b] : List Value).toArray 7) := by
  obtain ⟨hx, hb, hr, hml, hown, hts, hX, hbl, hlocks, hgv⟩ := id C0
  have hst : l.stackTraces = false := by
    unfold Launch.stackTraces
    rw [hflags]
    decide +kernel
  have G : gF p s m #[Value.ref b] meth c cL_law ret 7 RL wsL_law := ⟨hx, hb, hr, hml, hown, fun w hw => hts w (wsL_law_in w hw), hlocks⟩
  have hA : ∀ q : Nat, s.heap.size ≤ q → gA s q := fun _ h => h
  have hZ0 := gZ_start hts hgv
  obtain ⟨c0, iS0, hKn0⟩ := u_known (C := RX0) (T := TX0) (N := 15) (n := 15) hts inX0 (hts (.instantiable RX0 15) (by decide +kernel))
  obtain ⟨c1, iS1, hKn1⟩ := u_known (C := RX1) (T := TX1) (N := 16) (n := 16) hts inX1 (hts (.instantiable RX1 16) (by decide +kernel))
  obtain ⟨D, hKc⟩ : ∃ D : va_G, ∀ (k : Nat) (q : vw_C), vwCl[k]? = some q → u_Kn s q.1 q.2.1 q.2.2 (D.1 k) (D.2 k) := by
    refine ⟨(fun k => if k = 0 then c0 else c1, fun k => if k = 0 then iS0 else iS1), ?_⟩
    intro k q hq
    match k, hq with
    | 0, hq => cases hq; exact hKn0
    | 1, hq => cases hq; exact hKn1
    | k + 2, hq => simp [vwCl] at hq
  have hS : va_S (gA s) s.heap s.heap [] := va_S.rf
  have hK : va_K D vwCl [] s := ⟨hKc, fun k q h => by simp at h⟩
  have hP : va_P D vwCl [] s.heap := fun k q h => by simp at h
  have hD : va_D (gA s) [] := ⟨fun i j p q h => by simp at h, fun k q h => by simp at h⟩
  have hl := lv_entry ([.ref b]) (n := 7) (Nat.le_of_ble_eq_true rfl)
  rw [lg_entry_eq]
  generalize (lg_sl ([.ref b]) ++ List.replicate (7 - (lg_sl ([.ref b])).length) Slot.unset).toArray = ls at hl ⊢
  have hl : lv_has ls 7 [(0, .ref b)] := hl
  refine va_new (cc := cL_law) (ci := 0) (fs := fsX) (C := RX0) (T := TX0) (N := 15) (own := RL) hx hb hts inX0 tyX0 tyX0_ok hown (hts (.classLink RL 8 RX0) (by decide +kernel)) (hts (.instantiable RX0 15) (by decide +kernel)) (hts (.initialized RX0) (by decide +kernel)) hK hP hD hS hA rfl (fun j hj => by rcases (show j = 0 ∨ j = 1 ∨ j = 2 ∨ j = 3 ∨ j = 4 ∨ j = 5 ∨ j = 6 ∨ j = 7 ∨ j = 8 ∨ j = 9 ∨ j = 10 ∨ j = 11 ∨ j = 12 ∨ j = 13 ∨ j = 14 by omega) with rfl | rfl | rfl | rfl | rfl | rfl | rfl | rfl | rfl | rfl | rfl | rfl | rfl | rfl | rfl <;> rfl) (Nat.le_of_ble_eq_true rfl) (Nat.le_of_ble_eq_true rfl) dL_law_0 (fun h0 H hP hD hS => ?_)
  have hP : va_P D vwCl [(h0, .inr (0, fsX))] H := hP
  have hD : va_D (gA s) [(h0, .inr (0, fsX))] := hD
  refine W.widen (k := 1) (n := 15) (Nat.le_of_ble_eq_true rfl) (Nat.le_of_ble_eq_true rfl) ?_
  refine lv_dup hx hb dL_law_3 rfl ?_
  have hF : ∀ z : Nat, va_A [(h0, .inr (0, fsX))] H.size z → gA s z := fun z hz => by
    rcases hz with ⟨k, e, hk⟩ | h1
    · exact hD.2 k _ hk
    · exact Nat.le_trans hS.1 h1
  refine va_callv (va_runI (As := []) (rest := [.ref h0]) G.fix (mX0_init l D h0 H.size) (cwI 0 G.2.2.2.2.2.1 gL_law_X0_init rfl rfl rfl (hts (.initialized RX0) (by decide +kernel)) (hts (.methodLink RL 78 yX0_init) (by decide +kernel)) (hts (.instanceMethod yX0_init) (by decide +kernel)) rfl (by decide +kernel) ⟨Nat.le_of_ble_eq_true rfl, Nat.le_of_ble_eq_true rfl⟩) ⟨fun a U g mk q => by obtain ⟨q0, q1, qP, qK, qD⟩ := q; exact ⟨q0, q1, qP, va_K.moved (u := U) (U := U.calling g mk a) (Vm.Alike.refl U.vm) qK, qD⟩, fun U hU hW => ⟨rfl, by rw [hU], by rw [hU]; exact hP, va_K.moved hW.alike hK, hD.weaken (fun _ _ _ _ => trivial)⟩⟩ rfl rfl hl.1 rfl (lv_room (Nat.le_of_ble_eq_true rfl)) dL_law_4 ⟨Nat.le_of_ble_eq_true rfl, Nat.le_of_ble_eq_true rfl⟩) hS (fun q _ h => hF q h) hF (fun u t H1 locs ht hvm hw hB hz1 hk1 hS => ?_)
  obtain ⟨q, cI⟩ := u
  obtain ⟨hP1a, hK1a, hD1a⟩ := hB
  rw [ht] at hP1a
  have hw : q 0 = h0 := hw
  have hD1 : va_D (gA s) (xw q cI (fun _ => 0) (fun _ _ => 0) (fun _ => 0)) := hD1a.weaken (fun _ _ _ h => hF _ h)
  have hP1 : va_P D vwCl (xw q cI (fun _ => 0) (fun _ _ => 0) (fun _ => 0)) H1 := hP1a
  have hK1 : va_K D vwCl [(cI, .int)] s := va_K.moved hvm.symm hK1a
  clear hk1 hz1 ht hP hD hF hP1a hK1a hD1a
  subst hw
  refine W.widen (k := 12) (n := 383) (Nat.le_of_ble_eq_true rfl) (Nat.le_of_ble_eq_true rfl) ?_
  refine lv_astore_n (lv' := [(1, .ref (q 0)), (0, .ref b)]) hx hb dL_law_7 rfl hl (by decide) rfl (fun ls hl => ?_)
  refine va_new (cc := cL_law) (ci := 1) (fs := fsM) (C := RX1) (T := TX1) (N := 16) (own := RL) hx hb hts inX1 tyX1 tyX1_ok hown (hts (.classLink RL 79 RX1) (by decide +kernel)) (hts (.instantiable RX1 16) (by decide +kernel)) (hts (.initialized RX1) (by decide +kernel)) hK1 hP1 hD1 hS hA rfl (fun j hj => by rcases (show j = 0 ∨ j = 1 ∨ j = 2 ∨ j = 3 ∨ j = 4 ∨ j = 5 ∨ j = 6 ∨ j = 7 ∨ j = 8 ∨ j = 9 ∨ j = 10 ∨ j = 11 ∨ j = 12 ∨ j = 13 ∨ j = 14 ∨ j = 15 by omega) with rfl | rfl | rfl | rfl | rfl | rfl | rfl | rfl | rfl | rfl | rfl | rfl | rfl | rfl | rfl | rfl <;> rfl) (Nat.le_of_ble_eq_true rfl) (Nat.le_of_ble_eq_true rfl) dL_law_8 (fun hm H hP hD hS => ?_)
  refine W.widen (k := 13) (n := 399) (Nat.le_of_ble_eq_true rfl) (Nat.le_of_ble_eq_true rfl) ?_
  refine lv_dup hx hb dL_law_11 rfl ?_
  have hPc : va_P D vwCl [(hm, .inr (1, fsM))] H := gp_r hP
  have hDc : va_D (gA s) [(hm, .inr (1, fsM))] := gd_r hD
  have hPx := gp_l hP
  have hF : ∀ z : Nat, va_A [(hm, .inr (1, fsM))] H.size z → gA s z := fun z hz => by
    rcases hz with ⟨k, e, hk⟩ | h1
    · exact hDc.2 k _ hk
    · exact Nat.le_trans hS.1 h1
  refine va_callv (va_runI (As := []) (rest := [.ref hm]) G.fix (mX1_init l D hm H.size) (cwI 0 G.2.2.2.2.2.1 gL_law_X1_init rfl rfl rfl (hts (.initialized RX1) (by decide +kernel)) (hts (.methodLink RL 81 yX1_init) (by decide +kernel)) (hts (.instanceMethod yX1_init) (by decide +kernel)) rfl (by decide +kernel) ⟨Nat.le_of_ble_eq_true rfl, Nat.le_of_ble_eq_true rfl⟩) ⟨fun a U g mk q => by obtain ⟨q0, q1, qP, qK, qD⟩ := q; exact ⟨q0, q1, qP, va_K.moved (u := U) (U := U.calling g mk a) (Vm.Alike.refl U.vm) qK, qD⟩, fun U hU hW => ⟨rfl, by rw [hU], by rw [hU]; exact hPc, va_K.moved hW.alike hK, hDc.weaken (fun _ _ _ _ => trivial)⟩⟩ rfl rfl hl.1 rfl (lv_room (Nat.le_of_ble_eq_true rfl)) dL_law_12 ⟨Nat.le_of_ble_eq_true rfl, Nat.le_of_ble_eq_true rfl⟩) hS (fun q _ h => hF q h) hF (fun u t H1 locs ht hvm hw hB hz1 hk1 hS => ?_)
  obtain ⟨q2, cI2, cZ⟩ := u
  obtain ⟨hP2a, hK2a, hD2a⟩ := hB
  rw [ht] at hP2a
  have hw : q2 0 = hm := hw
  have hK2 : va_K D vwCl [(cI2, .int), (cZ, .boolean)] s := va_K.moved hvm.symm hK2a
  obtain rfl : cI = cI2 := Option.some.inj ((show _ = some cI from (hK1.2 0 _ rfl).2).symm.trans (show _ = some cI2 from (hK2.2 0 _ rfl).2))
  have hP2 : va_P D vwCl (mw q2 cI cZ (fun _ => 0) (fun _ _ => 0) (fun _ => 0) 0) H1 := hP2a
  have hD2 : va_D (va_A [(hm, .inr (1, fsM))] H.size) (mw q2 cI cZ (fun _ => 0) (fun _ _ => 0) (fun _ => 0) 0) := hD2a
  have hPx1 : va_P D vwCl (xw q cI (fun _ => 0) (fun _ _ => 0) (fun _ => 0)) H1 := hPx.kept (fun k x hx => hk1 _ (hPx k x hx).lt (by
    rintro (⟨k', e', hk'⟩ | h1)
    · exact gd_x hD hx hk' rfl
    · exact absurd (hPx k x hx).lt (Nat.not_lt.mpr h1)))
  have hDxm : va_D (gA s) (xw q cI (fun _ => 0) (fun _ _ => 0) (fun _ => 0) ++ mw q2 cI cZ (fun _ => 0) (fun _ _ => 0) (fun _ => 0) 0) := va_D.app hD1 (hD2.weaken (fun _ _ _ h => hF _ h)) (fun i j x y hi hj e => by
    rcases hD2.2 j y hj with ⟨k', e', hk'⟩ | h1
    · exact gd_x hD hi hk' e
    · have h2 := (hPx i x hi).lt
      rw [e] at h2
      exact absurd h2 (Nat.not_lt.mpr h1))
  have hPxm := va_P.app hPx1 hP2
  subst hw
  refine W.widen (k := 26) (n := 769) (Nat.le_of_ble_eq_true rfl) (Nat.le_of_ble_eq_true rfl) ?_
  refine lv_astore_n (lv' := [(2, .ref (q2 0)), (1, .ref (q 0)), (0, .ref b)]) hx hb dL_law_15 rfl hl (by decide) rfl (fun ls hl => ?_)
  refine lv_iconst (v := nI 1) hx hb dL_law_16 (by decide) ?_
  refine va_newa (D := D) (atype := .long) (ty := .long) (N' := 1) (a0 := (1, .inr (.inl (fun _ => 0)))) hx hb (hts (.arrayClass .long) (by decide +kernel)) rfl hK2 hPxm hDxm hS hA (fun _ => rfl) (by decide) (by decide) (by decide) (Nat.le_of_ble_eq_true rfl) (Nat.le_of_ble_eq_true rfl) dL_law_17 (fun o cL H hK hP hD hS => ?_)
  refine lv_astore_n (lv' := [(3, .ref o), (2, .ref (q2 0)), (1, .ref (q 0)), (0, .ref b)]) hx hb dL_law_19 rfl hl (by decide) rfl (fun ls hl => ?_)
  refine lv_iconst (v := nI (5 * 0)) hx hb dL_law_20 (by decide) ?_
  refine lv_istore (lv' := [(4, .int (nI (5 * 0))), (3, .ref o), (2, .ref (q2 0)), (1, .ref (q 0)), (0, .ref b)]) hx hb dL_law_21 hl (by decide) rfl (fun ls hl => ?_)
  have hLX : lAt D q q2 cI cZ cL o (fun _ => 0) (fun _ _ => 0) (fun _ => 0) (fun _ => 0) (fun _ _ => 0) (fun _ => 0) 0 (fun _ => 0) s H := ⟨gp_c ((gp_r hP) 0 _ rfl) (gp_l hP), hK, gd_rot hD, hZ0.kept (fun z h1 h2 => hS.2.1 z h1 h2)⟩
  exact lw_loop l hst G hX hbl hL L 0 (fun _ => 0) (fun _ _ => 0) (fun _ => 0) (fun _ => 0) 0 (fun _ => 0) H _ ls (by omega) (Nat.zero_le _) sp_ok0 sp_inv0 hLX hS (lv_sub hl [0, 4, 3, 2, 1] rfl)
