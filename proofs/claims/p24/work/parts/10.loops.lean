/-! the class's calls with loops of their own -/
theorem xAt_cast {D : va_G} {q : Nat → Nat} {cI : ClassId} {N N' : Nat → Nat} {S S' : Nat → Nat → Nat} {tr tr' : Nat → Nat} {A : Nat → Prop} {s : State} {H : Heap} (e : xw q cI N S tr = xw q cI N' S' tr') (h : xAt D q cI N S tr A s H) : xAt D q cI N' S' tr' A s H := by
  unfold xAt at h ⊢
  rw [← e]
  exact h
theorem va_D_fst {A : Nat → Prop} {ws ws' : va_W} (e : ws.map (fun x => x.1) = ws'.map (fun x => x.1)) (h : va_D A ws) : va_D A ws' := by
  have at' : ∀ (i : Nat) (p : Nat × va_E), ws'[i]? = some p → ∃ p0, ws[i]? = some p0 ∧ p0.1 = p.1 := by
    intro i p hp
    have h1 : (ws.map (fun x => x.1))[i]? = some p.1 := by rw [e, List.getElem?_map, hp]; rfl
    rw [List.getElem?_map] at h1
    cases hi : ws[i]? with
    | none => rw [hi] at h1; cases h1
    | some p0 => rw [hi] at h1; exact ⟨p0, rfl, Option.some.inj h1⟩
  refine ⟨fun i j p q hi hj hpq => ?_, fun k q hk => ?_⟩
  · obtain ⟨p0, h1, e1⟩ := at' i p hi
    obtain ⟨q0, h2, e2⟩ := at' j q hj
    exact h.1 i j p0 q0 h1 h2 (by rw [e1, e2, hpq])
  · obtain ⟨q0, h1, e1⟩ := at' k q hk
    rw [← e1]
    exact h.2 k q0 h1
/-- what a call does that writes and doesn't throw -/
def gQt (D : va_G) (q : Nat → Nat) (cI : ClassId) (N : Nat → Nat) (S : Nat → Nat → Nat) (tr : Nat → Nat) (r : Int32) (A : Nat → Prop) : Array Value → State → Outcome → State → Prop := fun _ st oc t =>
  oc = .returned (some (.int r)) ∧ va_P D vwCl (xw q cI N S tr) t.heap ∧ va_F A st t
section GM
variable {p : Program} {l : Launch} {e : Env} {R : Room} {s : State} {m : MethodId} {args : Array Value} {below : List Frame} {meth : Method} {c : Code} {H : Heap} {locs : List Loc} {cells slots : Nat} {Q : State → Prop}
variable {y : MethodName} {bytes cc : ByteArray} {maxL nL n index pc : Nat} {ret : Option FieldType} {ws ws' : List Cond} {rm : Room} {Ts : List Cond} {own C : String} {As rest st0 : List Value} {ls : Array Slot} {a b : Nat}
variable {D : va_G} {q : Nat → Nat} {cI : ClassId} {N N' : Nat → Nat} {S S' : Nat → Nat → Nat} {tr tr' : Nat → Nat} {A : Nat → Prop} {r : Int32}
theorem gx_mut (G : CallFix p m c cc nL s args Ts own) (hM : Met l y ws rm (va_Pc (.ref (q 0) :: As) (fun U => xAt D q cI N S tr A U U.heap)) (gQt D q cI N' S' tr' r A) 0 0 A) (cw : CallW R s args own RX0 index y bytes maxL ret ws rm 0 0 n)
    (hZ0 : gZ A s s.heap) (hX : xAt D q cI N S tr A s H) (hS : va_S A s.heap H locs) (hn : As.length = n) (hsz : ls.size = nL) (hst : st0 = As.reverse ++ .ref (q 0) :: rest) (hW : (rest.map fun v => v.category).sum ≤ 8) (hdg : decode cc pc = .ok (.invokevirtual index, 3)) (hc : cells ≤ R.cells) (hs : slots ≤ R.slots)
    (kk : ∀ (H1 : Heap) (locs1 : List Loc), xAt D q cI N' S' tr' A s H1 → va_S A s.heap H1 locs1 → W p l e R s m args below meth c H1 locs1 cells slots Q (F0 m (pc + 3) ls (.int r :: rest))) : W p l e R s m args below meth c H locs cells slots Q (F0 m pc ls st0) := by
  intro T hT X
  obtain ⟨v9, st₀, t, T', L, h0, X', hL, e1, ⟨hv, hP1, hz, hk⟩, st⟩ := W.runV (As := As) (rest := rest) (g := F0 m pc ls st0) G hM cw ⟨xAt_blind, va_recv hX.2.1 hX.1 (ci := 0) (q0 := 0) rfl rfl, fun U hU hW => ⟨rfl, by show xAt _ _ _ _ _ _ _ U U.heap; rw [hU]; exact hX.moved hW⟩⟩ rfl hn hsz hst (lv_room hW) hdg ⟨hc, hs⟩ T hT X
  cases hv
  rw [h0] at hz hk
  have hS2 : va_S A s.heap t.heap (locs ++ L) := ⟨Nat.le_trans hS.1 hz, fun z h1 h2 => by rw [hk z (Nat.lt_of_lt_of_le h1 hS.1) h2]; exact hS.2.1 z h1 h2, fun z hz2 => by
    rcases List.mem_append.mp hz2 with h | h
    · exact hS.2.2 z h
    · exact hL z h⟩
  obtain ⟨t2, a1, b1⟩ := kk t.heap _ ⟨hP1, hX.2.1, va_D_fst (ws := xw q cI N S tr) rfl hX.2.2.1, hZ0.kept (fun z h1 h2 => hS2.2.1 z h1 h2)⟩ hS2 T' e1 X'
  exact ⟨t2, st t2 a1, b1⟩
theorem gr_absd (G : gF p s m args meth c cc ret nL RX0 ws) (hsz : ls.size = nL) {ix : Nat} (hlink : Cond.methodLink RX0 ix Lib.Math.abs.name ∈ ws) (hstat : Cond.static Lib.Math.abs.name ∈ ws) (hini : Cond.initialized "java/lang/Math" ∈ ws) (hcode : Cond.code Lib.Math.abs.name Lib.Math.abs.code 1 (some .int) ∈ ws)
    (hframes : 1 ≤ R.frames) (hlocals : (rest.map fun v => v.category).sum + 13 ≤ R.locals) (hc : cells ≤ R.cells) (hs : slots ≤ R.slots) (ha : a ≤ 255) (hb : b ≤ 255) (hdg : decode cc pc = .ok (.invokestatic ix, 3))
    (kk : W p l e R s m args below meth c H locs cells slots Q (F0 m (pc + 3) ls (.int (nI (sp_ap a b)) :: rest))) : W p l e R s m args below meth c H locs cells slots Q (F0 m pc ls (.int (nI a - nI b) :: rest)) :=
  va_mabs G.1 G.2.1 (G.2.2.2.1.trans hsz.symm) G.2.2.2.2.1 (G.2.2.2.2.2.1 _ hlink) (G.2.2.2.2.2.1 _ hstat) (G.2.2.2.2.2.1 _ hini) (G.2.2.2.2.2.1 _ hcode) hframes hlocals hc hs hdg (by
    have hd : (nI a - nI b).toInt = (a : Int) - b := pk_sub_toInt (by omega) (by omega)
    have e : (if 0 ≤ nI a - nI b then nI a - nI b else 0 - (nI a - nI b)) = nI (sp_ap a b) := by
      unfold sp_ap
      by_cases h : 0 ≤ nI a - nI b
      · have h2 := Int32.le_iff_toInt_le.mp h
        have h3 : (0 : Int32).toInt = 0 := rfl
        rw [if_pos h, if_neg (by omega), pk_sub (by omega)]
      · have h2 : ¬ (0 : Int32).toInt ≤ (nI a - nI b).toInt := fun z => h (Int32.le_iff_toInt_le.mpr z)
        have h3 : (0 : Int32).toInt = 0 := rfl
        rw [if_neg h, if_pos (by omega)]
        refine gp_nat (by omega) ?_
        rw [fb_subI (by omega) (by omega), hd]
        omega
    rw [e]; exact kk)
end GM
def sp_newTo (N : Nat → Nat) (S : Nat → Nat → Nat) (a b : Nat) : Nat → Nat → Nat := gs (gs S 1 (sp_fill (S 1) (N 0 * 15) a)) 3 (sp_fill2 (S 3) (N 0 * 3) b)
theorem sp_fill_s {F : Nat → Nat} {n x1 x2 : Nat} (h : x2 < 5) : gu (sp_fill F (n * 15) (x1 * 5 + x2)) ((n * 3 + x1) * 5 + x2) (sp_vop x2) = sp_fill F (n * 15) (x1 * 5 + (x2 + 1)) := by
  show _ = gu (sp_fill F (n * 15) (x1 * 5 + x2)) (n * 15 + (x1 * 5 + x2)) (sp_vop ((x1 * 5 + x2) % 5))
  rw [show n * 15 + (x1 * 5 + x2) = (n * 3 + x1) * 5 + x2 from by omega, show (x1 * 5 + x2) % 5 = x2 from by omega]
theorem sp_trTo_s {S : Nat → Nat → Nat} {ch x1 x2 : Nat} {tr : Nat → Nat} (h : x2 < 5) : gu (sp_trTo S ch tr (x1 * 5 + x2)) (x1 * 5 + x2) (sp_pass S ch x1 (sp_vop x2)) = sp_trTo S ch tr (x1 * 5 + (x2 + 1)) := by
  show _ = gu (sp_trTo S ch tr (x1 * 5 + x2)) (x1 * 5 + x2) (sp_pass S ch ((x1 * 5 + x2) / 5) (sp_vop ((x1 * 5 + x2) % 5)))
  rw [show (x1 * 5 + x2) / 5 = x1 from by omega, show (x1 * 5 + x2) % 5 = x2 from by omega]
theorem sp_trTo_at {S : Nat → Nat → Nat} {ch : Nat} {tr : Nat → Nat} : ∀ {n j : Nat}, j < n → sp_trTo S ch tr n j = sp_pass S ch (j / 5) (sp_vop (j % 5))
  | 0, j, h => absurd h (Nat.not_lt_zero j)
  | n + 1, j, h => by
    show gu (sp_trTo S ch tr n) n _ j = _
    by_cases e : j = n
    · rw [e, gu_same]
    · rw [gu_other _ _ e]
      exact sp_trTo_at (by omega)
theorem sp_btw_tr {S : Nat → Nat → Nat} {ch x1 v : Nat} {tr : Nat → Nat} (hv : v ≤ 255) : sp_btw (sp_trTo S ch tr (x1 * 5 + 5)) (x1 * 5) v = sp_btw (fun k => sp_pass S ch x1 (sp_vop k)) 0 v := by
  unfold sp_btw
  rw [sp_trTo_at (by omega), sp_trTo_at (by omega), show (x1 * 5 + v / 64) / 5 = x1 from by omega, show (x1 * 5 + v / 64) % 5 = 0 + v / 64 from by omega, show (x1 * 5 + v / 64 + 1) / 5 = x1 from by omega, show (x1 * 5 + v / 64 + 1) % 5 = 0 + v / 64 + 1 from by omega]
theorem sp_gapTo_s {S : Nat → Nat → Nat} {ch x1 x3 : Nat} {tr : Nat → Nat} (h : x3 < 256) : sp_gapTo S ch (x1 * 256 + (x3 + 1)) = max (sp_gapTo S ch (x1 * 256 + x3)) (sp_ap (sp_pass S ch x1 x3) (sp_btw (sp_trTo S ch tr (x1 * 5 + 5)) (x1 * 5) x3)) := by
  show max (sp_gapTo S ch (x1 * 256 + x3)) (sp_gapAt S ch ((x1 * 256 + x3) / 256) ((x1 * 256 + x3) % 256)) = _
  rw [show (x1 * 256 + x3) / 256 = x1 from by omega, show (x1 * 256 + x3) % 256 = x3 from by omega, sp_btw_tr (by omega)]
  rfl
theorem sp_ap_le {a b : Nat} (ha : a ≤ 255) (hb : b ≤ 255) : sp_ap a b ≤ 255 := by unfold sp_ap; split <;> omega
theorem sp_gapTo_le {N : Nat → Nat} {S : Nat → Nat → Nat} {ch : Nat} (h : sp_ok N S) : ∀ n, sp_gapTo S ch n ≤ 255
  | 0 => Nat.zero_le _
  | n + 1 => by
    have h1 := sp_gapTo_le (ch := ch) h n
    have h2 : sp_gapAt S ch (n / 256) (n % 256) ≤ 255 := sp_ap_le (sp_pass_le h (by omega)) (sp_btw_le (fun j => sp_pass_le h sp_vop_le) (by omega))
    exact Nat.max_le.mpr ⟨h1, h2⟩
theorem sp_mn_le (S : Nat → Nat → Nat) (ch v : Nat) : ∀ k, sp_mn S ch v k ≤ 255
  | 0 => Nat.le_refl _
  | k + 1 => Nat.le_trans (Nat.min_le_left _ _) (sp_mn_le S ch v k)
theorem sp_mx_le {N : Nat → Nat} {S : Nat → Nat → Nat} {ch v : Nat} (h : sp_ok N S) (hv : v ≤ 255) : ∀ k, sp_mx S ch v k ≤ 255
  | 0 => Nat.zero_le _
  | k + 1 => Nat.max_le.mpr ⟨sp_mx_le h hv k, sp_pass_le h hv⟩
theorem sp_mn_mx {N : Nat → Nat} {S : Nat → Nat → Nat} {ch v : Nat} (h : sp_ok N S) (hv : v ≤ 255) : ∀ {k : Nat}, 0 < k → sp_mn S ch v k ≤ sp_mx S ch v k
  | 0, h0 => absurd h0 (Nat.lt_irrefl 0)
  | k + 1, _ => Nat.le_trans (Nat.min_le_right _ _) (Nat.le_max_right _ _)
theorem sp_greyTo_le {N : Nat → Nat} {S : Nat → Nat → Nat} {ch : Nat} (h : sp_ok N S) : ∀ n, n ≤ 256 → sp_greyTo S ch n ≤ 255
  | 0, _ => Nat.zero_le _
  | n + 1, hn => Nat.max_le.mpr ⟨sp_greyTo_le h n (by omega), Nat.le_trans (Nat.sub_le _ _) (sp_mx_le h (by omega) 3)⟩
theorem sp_kp_s {S : Nat → Nat → Nat} {ch x1 : Nat} {tr : Nat → Nat} (h : x1 < 15) : gu (sp_kpTo S ch x1) (ch * 3 * 5 + x1) (sp_trTo S ch tr 15 x1) = sp_kpTo S ch (x1 + 1) := by
  show _ = gu (sp_kpTo S ch x1) (ch * 15 + x1) (sp_pass S ch (x1 / 5) (sp_vop (x1 % 5)))
  rw [sp_trTo_at h, show ch * 3 * 5 + x1 = ch * 15 + x1 from by omega]
set_option maxRecDepth 100000 in
set_option maxHeartbeats 4000000 in
/-- profile -/
theorem mX0_profile (l : Launch) (hst : l.stackTraces = false) (D : va_G) (q : Nat → Nat) (cI : ClassId) (N : Nat → Nat) (S : Nat → Nat → Nat) (tr : Nat → Nat) (A : Nat → Prop) (hok : sp_ok N S) (hinv : sp_inv N S) : vx_Met l yX0_profile wsX0_profile { frames := 6, cells := 1, slots := 6, locals := 82 } (va_Pc [.ref (q 0)] (fun U => xAt D q cI N S tr A U U.heap)) (gQx D q cI (fun r N2 S2 => sA_profile N S = true ∧ sB_profile N S = true ∧ sC_profile N S = true ∧ r = nI (sR_profile N S) ∧ N2 = sN_profile N S ∧ S2 = sS_profile N S) A) (gXx D q cI N S A (gE3 (sA_profile N S) (sB_profile N S) (sC_profile N S))) 1 6 A := by
  refine gc_vxmet [.ref (q 0)] (by decide) rfl (Nat.le_of_ble_eq_true rfl) rfl ?_
  intro p e s m below meth c ls G hx0 hl hX
  have hZ0 := hX.2.2.2
  have hS : va_S A s.heap s.heap [] := va_S.rf
  have hok9 := hok
  obtain ⟨⟨ok0, ok5⟩, ok1, ok2, ok3, ok4, ok6, ok7, ok8, ok12, ok13, ok14⟩ := hok9
  have hN := hinv.2.2.2.1
  have hN9 := hinv.2.2.1
  refine lv_aload_n G.1 G.2.1 dX0_profile_0 rfl (lv_at hl 0 rfl) ?_
  refine gx_get G hX (by decide +kernel) 0 (by decide) (by decide +kernel) rfl rfl rfl dX0_profile_1 ?_
  refine lv_bipush (v := nI 8) G.1 G.2.1 dX0_profile_4 (by decide) ?_
  refine gn_lt G (by omega) (by omega) (tgt := 19) dX0_profile_6 (by decide) (fun h_6 => ?_) (fun h_6 => ?_)
  · refine lv_aload_n G.1 G.2.1 dX0_profile_19 rfl (lv_at hl 0 rfl) ?_
    refine gx_get G hX (by decide +kernel) 0 (by decide) (by decide +kernel) rfl rfl rfl dX0_profile_20 ?_
    refine lv_istore_n (lv' := [(1, .int (nI (N 0))), (0, .ref (q 0))]) G.1 G.2.1 dX0_profile_23 rfl hl (by decide) rfl (fun ls hl => ?_)
    refine lv_iconst (v := nI 0) G.1 G.2.1 dX0_profile_24 (by decide) ?_
    refine lv_istore_n (lv' := [(2, .int (nI 0)), (1, .int (nI (N 0))), (0, .ref (q 0))]) G.1 G.2.1 dX0_profile_25 rfl hl (by decide) rfl (fun ls hl => ?_)
    have loop1 : ∀ (d1 x1 : Nat), x1 + d1 = 3 → ∀ (H9 : Heap) (locs9 : List Loc), xAt D q cI N ((sp_newTo N S (x1 * 5) (x1))) tr A s H9 → va_S A s.heap H9 locs9 → ∀ ls : Array Slot, lv_has ls 5 [(0, .ref (q 0)), (1, .int (nI (N 0))), (2, .int (nI x1))] → W p l e { frames := 6, cells := 1, slots := 6, locals := 82 } s m ([.ref (q 0)] : List Value).toArray below meth c H9 locs9 0 0 (vx_MQ below (gQx D q cI (fun r N2 S2 => sA_profile N S = true ∧ sB_profile N S = true ∧ sC_profile N S = true ∧ r = nI (sR_profile N S) ∧ N2 = sN_profile N S ∧ S2 = sS_profile N S) A) (gXx D q cI N S A (gE3 (sA_profile N S) (sB_profile N S) (sC_profile N S))) ([.ref (q 0)] : List Value).toArray s 1 6 A) (F0 m 26 ls []) := by
      intro d1
      induction d1 with
      | zero =>
        intro x1 hd1 H9 locs9 hX hS ls hl
        refine lv_iload_n G.1 G.2.1 dX0_profile_26 rfl (lv_at hl 2 rfl) ?_
        refine lv_iconst (v := nI 3) G.1 G.2.1 dX0_profile_27 (by decide) ?_
        refine gn_ge G (by omega) (by omega) (tgt := 99) dX0_profile_28 (by decide) (fun h_28 => ?_) (fun h_28 => absurd h_28 (by omega))
        refine lv_aload_n G.1 G.2.1 dX0_profile_99 rfl (lv_at hl 0 rfl) ?_
        refine gx_get G hX (by decide +kernel) 4 (by decide) (by decide +kernel) rfl rfl rfl dX0_profile_100 ?_
        refine lv_iload_n G.1 G.2.1 dX0_profile_103 rfl (lv_at hl 1 rfl) ?_
        refine lv_iconst (v := nI 0) G.1 G.2.1 dX0_profile_104 (by decide) ?_
        refine gx_swap (k := 4) (kp := 4) (len := 8) (F := S 4) (i := N 0) (v := 0) (S' := (sp_newTo N S (x1 * 5) (x1))) (tr' := tr) (rest := []) G.fix (mX0_swap l D (q 4) cI 8 (S 4) (N 0) 0 (by first | omega | assumption)) (va_cwS 3 G.2.2.2.2.2.1 gX0_profile_X0_swap rfl rfl rfl (by decide +kernel) ⟨Nat.le_of_ble_eq_true rfl, Nat.le_of_ble_eq_true rfl⟩) hX hS rfl (by rw [gu_id (hinv.2.1 _ (Nat.le_refl _))]; rfl) hl.1 rfl (Nat.le_of_ble_eq_true rfl) dX0_profile_105 (Nat.zero_le _) (Nat.zero_le _) (fun H1 locs1 hX hS => ?_)
        refine lv_pop G.1 G.2.1 dX0_profile_108 rfl ?_
        refine lv_aload_n G.1 G.2.1 dX0_profile_109 rfl (lv_at hl 0 rfl) ?_
        refine lv_dup G.1 G.2.1 dX0_profile_110 rfl ?_
        refine gx_get G hX (by decide +kernel) 0 (by decide) (by decide +kernel) rfl rfl rfl dX0_profile_111 ?_
        refine lv_iconst (v := nI 1) G.1 G.2.1 dX0_profile_114 (by decide) ?_
        refine gn_iadd G dX0_profile_115 ?_
        refine gx_put (k := 0) (N' := (gu N 0 ((N 0) + 1))) G hZ0 hX hS (by decide +kernel) (by decide) (by decide +kernel) rfl rfl (by decide +kernel) rfl (Nat.le_of_ble_eq_true rfl) rfl dX0_profile_116 (fun H1 locs1 hX hS => ?_)
        refine lv_iload_n G.1 G.2.1 dX0_profile_119 rfl (lv_at hl 1 rfl) ?_
        exact vx_ret (W.widen (k := 1) (n := 6) (Nat.zero_le _) (Nat.zero_le _) (W.iret G.1 G.2.1 G.2.2.1 (fun t ht hW => gQx_of hX hS ht ⟨rfl, rfl, (by simp [sC_profile, h_6]), (by show nI _ = nI _; simp only [sR_profile]), (by simp only [sN_profile]), (by rw [show x1 = 3 from by omega]; rfl)⟩) hS.2.2 dX0_profile_120 G.2.2.2.2.2.2))
      | succ d1 ih1 =>
        intro x1 hd1 H9 locs9 hX hS ls hl
        refine lv_iload_n G.1 G.2.1 dX0_profile_26 rfl (lv_at hl 2 rfl) ?_
        refine lv_iconst (v := nI 3) G.1 G.2.1 dX0_profile_27 (by decide) ?_
        refine gn_ge G (by omega) (by omega) (tgt := 99) dX0_profile_28 (by decide) (fun h_28 => absurd h_28 (by omega)) (fun h_28 => ?_)
        refine lv_iload_n G.1 G.2.1 dX0_profile_31 rfl (lv_at hl 1 rfl) ?_
        refine lv_iconst (v := nI 3) G.1 G.2.1 dX0_profile_32 (by decide) ?_
        refine gn_imul G dX0_profile_33 ?_
        refine lv_iload_n G.1 G.2.1 dX0_profile_34 rfl (lv_at hl 2 rfl) ?_
        refine gn_iadd G dX0_profile_35 ?_
        refine lv_istore_n (lv' := [(3, .int (nI (((N 0) * 3) + x1))), (0, .ref (q 0)), (1, .int (nI (N 0))), (2, .int (nI x1))]) G.1 G.2.1 dX0_profile_36 rfl hl (by decide) rfl (fun ls hl => ?_)
        refine lv_iconst (v := nI 0) G.1 G.2.1 dX0_profile_37 (by decide) ?_
        refine lv_istore (lv' := [(4, .int (nI 0)), (3, .int (nI (((N 0) * 3) + x1))), (0, .ref (q 0)), (1, .int (nI (N 0))), (2, .int (nI x1))]) G.1 G.2.1 dX0_profile_38 hl (by decide) rfl (fun ls hl => ?_)
        have loop2 : ∀ (d2 x2 : Nat), x2 + d2 = 5 → ∀ (H9 : Heap) (locs9 : List Loc), xAt D q cI N ((sp_newTo N S (x1 * 5 + x2) (x1))) tr A s H9 → va_S A s.heap H9 locs9 → ∀ ls : Array Slot, lv_has ls 5 [(0, .ref (q 0)), (1, .int (nI (N 0))), (2, .int (nI x1)), (3, .int (nI ((N 0) * 3 + x1))), (4, .int (nI x2))] → W p l e { frames := 6, cells := 1, slots := 6, locals := 82 } s m ([.ref (q 0)] : List Value).toArray below meth c H9 locs9 0 0 (vx_MQ below (gQx D q cI (fun r N2 S2 => sA_profile N S = true ∧ sB_profile N S = true ∧ sC_profile N S = true ∧ r = nI (sR_profile N S) ∧ N2 = sN_profile N S ∧ S2 = sS_profile N S) A) (gXx D q cI N S A (gE3 (sA_profile N S) (sB_profile N S) (sC_profile N S))) ([.ref (q 0)] : List Value).toArray s 1 6 A) (F0 m 40 ls []) := by
          intro d2
          induction d2 with
          | zero =>
            intro x2 hd2 H9 locs9 hX hS ls hl
            refine lv_iload G.1 G.2.1 dX0_profile_40 (lv_at hl 4 rfl) ?_
            refine lv_iconst (v := nI 5) G.1 G.2.1 dX0_profile_42 (by decide) ?_
            refine gn_ge G (by omega) (by omega) (tgt := 71) dX0_profile_43 (by decide) (fun h_43 => ?_) (fun h_43 => absurd h_43 (by omega))
            refine lv_aload_n G.1 G.2.1 dX0_profile_71 rfl (lv_at hl 0 rfl) ?_
            refine gx_get G hX (by decide +kernel) 2 (by decide) (by decide +kernel) rfl rfl rfl dX0_profile_72 ?_
            refine lv_iload_n G.1 G.2.1 dX0_profile_75 rfl (lv_at hl 3 rfl) ?_
            refine lv_iconst (v := nI 0) G.1 G.2.1 dX0_profile_76 (by decide) ?_
            refine gx_swap (k := 2) (kp := 2) (len := 24) (F := S 2) (i := (N 0) * 3 + x1) (v := 0) (S' := (sp_newTo N S (x1 * 5 + x2) (x1))) (tr' := tr) (rest := []) G.fix (mX0_swap l D (q 2) cI 24 (S 2) ((N 0) * 3 + x1) 0 (by first | omega | assumption)) (va_cwS 3 G.2.2.2.2.2.1 gX0_profile_X0_swap rfl rfl rfl (by decide +kernel) ⟨Nat.le_of_ble_eq_true rfl, Nat.le_of_ble_eq_true rfl⟩) hX hS rfl (by rw [gu_id (hinv.1 _ (by omega))]; rfl) hl.1 rfl (Nat.le_of_ble_eq_true rfl) dX0_profile_77 (Nat.zero_le _) (Nat.zero_le _) (fun H1 locs1 hX hS => ?_)
            refine lv_pop G.1 G.2.1 dX0_profile_80 rfl ?_
            refine lv_aload_n G.1 G.2.1 dX0_profile_81 rfl (lv_at hl 0 rfl) ?_
            refine gx_get G hX (by decide +kernel) 3 (by decide) (by decide +kernel) rfl rfl rfl dX0_profile_82 ?_
            refine lv_iload_n G.1 G.2.1 dX0_profile_85 rfl (lv_at hl 3 rfl) ?_
            refine lv_sipush (v := nI 255) G.1 G.2.1 dX0_profile_86 (by decide) ?_
            refine gx_swap (k := 3) (kp := 3) (len := 24) (F := (sp_fill2 (S 3) (N 0 * 3) (x1))) (i := (N 0) * 3 + x1) (v := 255) (S' := (sp_newTo N S (x1 * 5 + x2) (x1 + 1))) (tr' := tr) (rest := []) G.fix (mX0_swap l D (q 3) cI 24 ((sp_fill2 (S 3) (N 0 * 3) (x1))) ((N 0) * 3 + x1) 255 (by first | omega | assumption)) (va_cwS 3 G.2.2.2.2.2.1 gX0_profile_X0_swap rfl rfl rfl (by decide +kernel) ⟨Nat.le_of_ble_eq_true rfl, Nat.le_of_ble_eq_true rfl⟩) hX hS rfl (rfl) hl.1 rfl (Nat.le_of_ble_eq_true rfl) dX0_profile_89 (Nat.zero_le _) (Nat.zero_le _) (fun H1 locs1 hX hS => ?_)
            refine lv_pop G.1 G.2.1 dX0_profile_92 rfl ?_
            refine gn_iinc (lv' := [(2, .int (nI (x1 + 1))), (0, .ref (q 0)), (1, .int (nI (N 0))), (3, .int (nI ((N 0) * 3 + x1))), (4, .int (nI x2))]) (n := 1) G dX0_profile_93 hl (k := 2) rfl (by decide) rfl (fun ls hl => ?_)
            refine lv_goto (tgt := 26) G.1 G.2.1 dX0_profile_96 (by decide) ?_
            exact ih1 (x1 + 1) (by omega) _ _ (xAt_cast (by rw [show (x1 + 1) * 5 = x1 * 5 + x2 from by omega]) hX) hS _ (lv_sub hl [1, 2, 0] rfl)
          | succ d2 ih2 =>
            intro x2 hd2 H9 locs9 hX hS ls hl
            refine lv_iload G.1 G.2.1 dX0_profile_40 (lv_at hl 4 rfl) ?_
            refine lv_iconst (v := nI 5) G.1 G.2.1 dX0_profile_42 (by decide) ?_
            refine gn_ge G (by omega) (by omega) (tgt := 71) dX0_profile_43 (by decide) (fun h_43 => absurd h_43 (by omega)) (fun h_43 => ?_)
            refine lv_aload_n G.1 G.2.1 dX0_profile_46 rfl (lv_at hl 0 rfl) ?_
            refine gx_get G hX (by decide +kernel) 1 (by decide) (by decide +kernel) rfl rfl rfl dX0_profile_47 ?_
            refine lv_iload_n G.1 G.2.1 dX0_profile_50 rfl (lv_at hl 3 rfl) ?_
            refine lv_iconst (v := nI 5) G.1 G.2.1 dX0_profile_51 (by decide) ?_
            refine gn_imul G dX0_profile_52 ?_
            refine lv_iload G.1 G.2.1 dX0_profile_53 (lv_at hl 4 rfl) ?_
            refine gn_iadd G dX0_profile_55 ?_
            refine lv_iload G.1 G.2.1 dX0_profile_56 (lv_at hl 4 rfl) ?_
            refine gc_s (As := [.int (nI x2)]) (rest := [.int (nI ((((N 0) * 3 + x1) * 5) + x2)), .ref (q 1)]) G.fix (mX0_valueOfPlace l x2 (by omega)) (va_cwS 1 G.2.2.2.2.2.1 gX0_profile_X0_valueOfPlace rfl rfl rfl (by decide +kernel) ⟨Nat.le_of_ble_eq_true rfl, Nat.le_of_ble_eq_true rfl⟩) gc_blindT (fun _ _ _ => trivial) rfl hl.1 rfl (Nat.le_of_ble_eq_true rfl) dX0_profile_58 (Nat.zero_le _) (Nat.zero_le _) (fun r hr => ?_)
            subst hr
            refine gx_swap (k := 1) (kp := 1) (len := 120) (F := (sp_fill (S 1) (N 0 * 15) (x1 * 5 + x2))) (i := (((N 0) * 3 + x1) * 5) + x2) (v := sp_vop x2) (S' := (sp_newTo N S (x1 * 5 + (x2 + 1)) x1)) (tr' := tr) (rest := []) G.fix (mX0_swap l D (q 1) cI 120 ((sp_fill (S 1) (N 0 * 15) (x1 * 5 + x2))) ((((N 0) * 3 + x1) * 5) + x2) (sp_vop x2) (by first | omega | assumption)) (va_cwS 3 G.2.2.2.2.2.1 gX0_profile_X0_swap rfl rfl rfl (by decide +kernel) ⟨Nat.le_of_ble_eq_true rfl, Nat.le_of_ble_eq_true rfl⟩) hX hS rfl (by rw [sp_fill_s (by omega)]; rfl) hl.1 rfl (Nat.le_of_ble_eq_true rfl) dX0_profile_61 (Nat.zero_le _) (Nat.zero_le _) (fun H1 locs1 hX hS => ?_)
            refine lv_pop G.1 G.2.1 dX0_profile_64 rfl ?_
            refine gn_iinc (lv' := [(4, .int (nI (x2 + 1))), (0, .ref (q 0)), (1, .int (nI (N 0))), (2, .int (nI x1)), (3, .int (nI ((N 0) * 3 + x1)))]) (n := 1) G dX0_profile_65 hl (k := 4) rfl (by decide) rfl (fun ls hl => ?_)
            refine lv_goto (tgt := 40) G.1 G.2.1 dX0_profile_68 (by decide) ?_
            exact ih2 (x2 + 1) (by omega) _ _ (xAt_cast (rfl) hX) hS _ (lv_sub hl [1, 2, 3, 4, 0] rfl)
        exact loop2 5 0 (by omega) _ _ (xAt_cast (rfl) hX) hS _ (lv_sub hl [2, 3, 4, 1, 0] rfl)
    exact loop1 3 0 (by omega) _ _ (xAt_cast (rfl) hX) hS _ (lv_sub hl [2, 1, 0] rfl)
  · exact gx_throw (text := "there are 8 profiles") G hx0 hst (by decide +kernel) (by decide +kernel) (by decide +kernel) (by decide +kernel) gx_not_IS gx_good_IS (by decide +kernel) hZ0 hS hl.1 dX0_profile_9 dX0_profile_12 dX0_profile_13 dX0_profile_15 dX0_profile_18 (Nat.le_of_ble_eq_true rfl) (Nat.le_of_ble_eq_true rfl) (Nat.le_of_ble_eq_true rfl) (Nat.le_of_ble_eq_true rfl) (fun t _ hz hk => ⟨Or.inr (Or.inr ⟨rfl, rfl, rfl, (by simp [sC_profile, h_6] <;> omega)⟩), gXx_of hX hS hz hk⟩) hS.2.2 (by decide) (by decide)
set_option maxRecDepth 100000 in
set_option maxHeartbeats 4000000 in
/-- the gap, with the curves that would be kept in the trial row -/
theorem mX0_tryJoining (l : Launch) (D : va_G) (q : Nat → Nat) (cI : ClassId) (N : Nat → Nat) (S : Nat → Nat → Nat) (tr : Nat → Nat) (A : Nat → Prop) (hok : sp_ok N S) (ch : Nat) (hch : ch < 6) : Met l yX0_tryJoining wsX0_tryJoining { frames := 5, cells := 0, slots := 0, locals := 124 } (va_Pc [.ref (q 0), .int (nI ch)] (fun U => xAt D q cI N S tr A U U.heap)) (gQt D q cI N S (sp_trTo S ch tr 15) (nI (sp_gap S ch)) A) 0 0 A := by
  refine gc_met [.ref (q 0), .int (nI ch)] (by decide) rfl (Nat.le_of_ble_eq_true rfl) rfl ?_
  intro p e s m below meth c ls G hl hX
  have hZ0 := hX.2.2.2
  have hS : va_S A s.heap s.heap [] := va_S.rf
  have hq := fun k => @sp_vop_le k
  have hpl := fun b v (hv : v ≤ 255) => sp_pass_le (ch := ch) (b := b) hok hv
  refine lv_iconst (v := nI 0) G.1 G.2.1 dX0_tryJoining_0 (by decide) ?_
  refine lv_istore_n (lv' := [(2, .int (nI 0)), (0, .ref (q 0)), (1, .int (nI ch))]) G.1 G.2.1 dX0_tryJoining_1 rfl hl (by decide) rfl (fun ls hl => ?_)
  refine lv_iconst (v := nI 0) G.1 G.2.1 dX0_tryJoining_2 (by decide) ?_
  refine lv_istore_n (lv' := [(3, .int (nI 0)), (2, .int (nI 0)), (0, .ref (q 0)), (1, .int (nI ch))]) G.1 G.2.1 dX0_tryJoining_3 rfl hl (by decide) rfl (fun ls hl => ?_)
  have loop1 : ∀ (d1 x1 : Nat), x1 + d1 = 3 → ∀ (H9 : Heap) (locs9 : List Loc), xAt D q cI N S ((sp_trTo S ch tr (x1 * 5))) A s H9 → va_S A s.heap H9 locs9 → ∀ ls : Array Slot, lv_has ls 6 [(0, .ref (q 0)), (1, .int (nI ch)), (2, .int (nI (sp_gapTo S ch (x1 * 256)))), (3, .int (nI x1))] → W p l e { frames := 5, cells := 0, slots := 0, locals := 124 } s m ([.ref (q 0), .int (nI ch)] : List Value).toArray below meth c H9 locs9 0 0 (MQ below (gQt D q cI N S (sp_trTo S ch tr 15) (nI (sp_gap S ch)) A) ([.ref (q 0), .int (nI ch)] : List Value).toArray s 0 0 A) (F0 m 4 ls []) := by
    intro d1
    induction d1 with
    | zero =>
      intro x1 hd1 H9 locs9 hX hS ls hl
      refine lv_iload_n G.1 G.2.1 dX0_tryJoining_4 rfl (lv_at hl 3 rfl) ?_
      refine lv_iconst (v := nI 3) G.1 G.2.1 dX0_tryJoining_5 (by decide) ?_
      refine gn_ge G (by omega) (by omega) (tgt := 105) dX0_tryJoining_6 (by decide) (fun h_6 => ?_) (fun h_6 => absurd h_6 (by omega))
      refine lv_iload_n G.1 G.2.1 dX0_tryJoining_105 rfl (lv_at hl 2 rfl) ?_
      exact W.iret G.1 G.2.1 G.2.2.1 (fun t ht hW => ⟨by rw [show x1 = 3 from by omega]; rfl, by rw [ht]; have h9 := hX.1; rw [show x1 = 3 from by omega] at h9; exact h9, hS.F ht⟩) hS.2.2 dX0_tryJoining_106 G.2.2.2.2.2.2
    | succ d1 ih1 =>
      intro x1 hd1 H9 locs9 hX hS ls hl
      refine lv_iload_n G.1 G.2.1 dX0_tryJoining_4 rfl (lv_at hl 3 rfl) ?_
      refine lv_iconst (v := nI 3) G.1 G.2.1 dX0_tryJoining_5 (by decide) ?_
      refine gn_ge G (by omega) (by omega) (tgt := 105) dX0_tryJoining_6 (by decide) (fun h_6 => absurd h_6 (by omega)) (fun h_6 => ?_)
      refine lv_iconst (v := nI 0) G.1 G.2.1 dX0_tryJoining_9 (by decide) ?_
      refine lv_istore (lv' := [(4, .int (nI 0)), (0, .ref (q 0)), (1, .int (nI ch)), (2, .int (nI (sp_gapTo S ch (x1 * 256)))), (3, .int (nI x1))]) G.1 G.2.1 dX0_tryJoining_10 hl (by decide) rfl (fun ls hl => ?_)
      have loop2 : ∀ (d2 x2 : Nat), x2 + d2 = 5 → ∀ (H9 : Heap) (locs9 : List Loc), xAt D q cI N S ((sp_trTo S ch tr (x1 * 5 + x2))) A s H9 → va_S A s.heap H9 locs9 → ∀ ls : Array Slot, lv_has ls 6 [(0, .ref (q 0)), (1, .int (nI ch)), (2, .int (nI (sp_gapTo S ch (x1 * 256)))), (3, .int (nI x1)), (4, .int (nI x2))] → W p l e { frames := 5, cells := 0, slots := 0, locals := 124 } s m ([.ref (q 0), .int (nI ch)] : List Value).toArray below meth c H9 locs9 0 0 (MQ below (gQt D q cI N S (sp_trTo S ch tr 15) (nI (sp_gap S ch)) A) ([.ref (q 0), .int (nI ch)] : List Value).toArray s 0 0 A) (F0 m 12 ls []) := by
        intro d2
        induction d2 with
        | zero =>
          intro x2 hd2 H9 locs9 hX hS ls hl
          refine lv_iload G.1 G.2.1 dX0_tryJoining_12 (lv_at hl 4 rfl) ?_
          refine lv_iconst (v := nI 5) G.1 G.2.1 dX0_tryJoining_14 (by decide) ?_
          refine gn_ge G (by omega) (by omega) (tgt := 49) dX0_tryJoining_15 (by decide) (fun h_15 => ?_) (fun h_15 => absurd h_15 (by omega))
          refine lv_iconst (v := nI 0) G.1 G.2.1 dX0_tryJoining_49 (by decide) ?_
          refine lv_istore (lv' := [(4, .int (nI 0)), (0, .ref (q 0)), (1, .int (nI ch)), (2, .int (nI (sp_gapTo S ch (x1 * 256)))), (3, .int (nI x1))]) G.1 G.2.1 dX0_tryJoining_50 hl (by decide) rfl (fun ls hl => ?_)
          have loop3 : ∀ (d3 x3 : Nat), x3 + d3 = 256 → ∀ (H9 : Heap) (locs9 : List Loc), xAt D q cI N S ((sp_trTo S ch tr (x1 * 5 + 5))) A s H9 → va_S A s.heap H9 locs9 → ∀ ls : Array Slot, lv_has ls 6 [(0, .ref (q 0)), (1, .int (nI ch)), (2, .int (nI (sp_gapTo S ch (x1 * 256 + x3)))), (3, .int (nI x1)), (4, .int (nI x3))] → W p l e { frames := 5, cells := 0, slots := 0, locals := 124 } s m ([.ref (q 0), .int (nI ch)] : List Value).toArray below meth c H9 locs9 0 0 (MQ below (gQt D q cI N S (sp_trTo S ch tr 15) (nI (sp_gap S ch)) A) ([.ref (q 0), .int (nI ch)] : List Value).toArray s 0 0 A) (F0 m 52 ls []) := by
            intro d3
            induction d3 with
            | zero =>
              intro x3 hd3 H9 locs9 hX hS ls hl
              refine lv_iload G.1 G.2.1 dX0_tryJoining_52 (lv_at hl 4 rfl) ?_
              refine lv_sipush (v := nI 255) G.1 G.2.1 dX0_tryJoining_54 (by decide) ?_
              refine gn_gt G (by omega) (by omega) (tgt := 99) dX0_tryJoining_57 (by decide) (fun h_57 => ?_) (fun h_57 => absurd h_57 (by omega))
              refine gn_iinc (lv' := [(3, .int (nI (x1 + 1))), (0, .ref (q 0)), (1, .int (nI ch)), (2, .int (nI (sp_gapTo S ch (x1 * 256 + x3)))), (4, .int (nI x3))]) (n := 1) G dX0_tryJoining_99 hl (k := 3) rfl (by decide) rfl (fun ls hl => ?_)
              refine lv_goto (tgt := 4) G.1 G.2.1 dX0_tryJoining_102 (by decide) ?_
              exact ih1 (x1 + 1) (by omega) _ _ (xAt_cast (by rw [show (x1 + 1) * 5 = x1 * 5 + 5 from by omega]) hX) hS _ (by rw [show (x1 + 1) * 256 = x1 * 256 + x3 from by omega]; exact lv_sub hl [1, 2, 3, 0] rfl)
            | succ d3 ih3 =>
              intro x3 hd3 H9 locs9 hX hS ls hl
              refine lv_iload G.1 G.2.1 dX0_tryJoining_52 (lv_at hl 4 rfl) ?_
              refine lv_sipush (v := nI 255) G.1 G.2.1 dX0_tryJoining_54 (by decide) ?_
              refine gn_gt G (by omega) (by omega) (tgt := 99) dX0_tryJoining_57 (by decide) (fun h_57 => absurd h_57 (by omega)) (fun h_57 => ?_)
              have hta : sp_trTo S ch tr (x1 * 5 + 5) (x1 * 5 + x3 / 64) ≤ 255 := by rw [sp_trTo_at (by omega)]; exact hpl _ _ sp_vop_le
              have htb : sp_trTo S ch tr (x1 * 5 + 5) (x1 * 5 + x3 / 64 + 1) ≤ 255 := by rw [sp_trTo_at (by omega)]; exact hpl _ _ sp_vop_le
              have hb2 : sp_trTo S ch tr (x1 * 5 + 5) (x1 * 5 + x3 / 64) ≤ 255 ∧ sp_trTo S ch tr (x1 * 5 + 5) (x1 * 5 + x3 / 64 + 1) ≤ 255 := ⟨hta, htb⟩
              have hpa := hpl x1 x3 (by omega)
              have hpb : sp_btw (sp_trTo S ch tr (x1 * 5 + 5)) (x1 * 5) x3 ≤ 255 := sp_mix_le hta htb (sp_far (by omega)) (sp_w_pos _)
              have hgl := sp_gapTo_le hok (ch := ch) (x1 * 256 + x3)
              have hap := sp_ap_le hpa hpb
              refine lv_aload_n G.1 G.2.1 dX0_tryJoining_60 rfl (lv_at hl 0 rfl) ?_
              refine lv_iload_n G.1 G.2.1 dX0_tryJoining_61 rfl (lv_at hl 1 rfl) ?_
              refine lv_iload_n G.1 G.2.1 dX0_tryJoining_62 rfl (lv_at hl 3 rfl) ?_
              refine lv_iload G.1 G.2.1 dX0_tryJoining_63 (lv_at hl 4 rfl) ?_
              refine gc_v (As := [.int (nI ch), .int (nI x1), .int (nI x3)]) (rest := []) G.fix (mX0_pass l D q cI N S ((sp_trTo S ch tr (x1 * 5 + 5))) A ch x1 x3 hok (by first | omega | assumption | exact ok6 _ | apply hq) (by first | omega | assumption | exact ok6 _ | apply hq) (by first | omega | assumption | exact ok6 _ | apply hq)) (cwV 3 G.2.2.2.2.2.1 gX0_tryJoining_X0_pass rfl rfl rfl (by decide +kernel) ⟨Nat.le_of_ble_eq_true rfl, Nat.le_of_ble_eq_true rfl⟩) xAt_blind (va_recv hX.2.1 hX.1 (ci := 0) (q0 := 0) rfl rfl) (fun U hU hW => by rw [hU]; exact hX.moved hW) rfl hl.1 rfl (Nat.le_of_ble_eq_true rfl) dX0_tryJoining_65 (Nat.zero_le _) (Nat.zero_le _) (fun r hr => ?_)
              subst hr
              refine lv_aload_n G.1 G.2.1 dX0_tryJoining_68 rfl (lv_at hl 0 rfl) ?_
              refine gx_get G hX (by decide +kernel) 11 (by decide) (by decide +kernel) rfl rfl rfl dX0_tryJoining_69 ?_
              refine lv_iload_n G.1 G.2.1 dX0_tryJoining_72 rfl (lv_at hl 3 rfl) ?_
              refine lv_iconst (v := nI 5) G.1 G.2.1 dX0_tryJoining_73 (by decide) ?_
              refine gn_imul G dX0_tryJoining_74 ?_
              refine lv_iload G.1 G.2.1 dX0_tryJoining_75 (lv_at hl 4 rfl) ?_
              refine gc_s (As := [.ref (q 11), .int (nI (x1 * 5)), .int (nI x3)]) (rest := [.int (nI (sp_pass S ch x1 x3))]) G.fix (mX0_between l D (q 11) cI 15 ((sp_trTo S ch tr (x1 * 5 + 5))) (x1 * 5) x3 (by first | omega | assumption | exact ok6 _ | apply hq) (by first | omega | assumption | exact ok6 _ | apply hq) (by first | assumption | (intro j; omega))) (va_cwS 3 G.2.2.2.2.2.1 gX0_tryJoining_X0_between rfl rfl rfl (by decide +kernel) ⟨Nat.le_of_ble_eq_true rfl, Nat.le_of_ble_eq_true rfl⟩) rAt_blind (fun U hU hW => by rw [hU]; exact (hX.row 8 rfl).moved hW) rfl hl.1 rfl (Nat.le_of_ble_eq_true rfl) dX0_tryJoining_77 (Nat.zero_le _) (Nat.zero_le _) (fun r hr => ?_)
              subst hr
              refine lv_isub G.1 G.2.1 dX0_tryJoining_80 ?_
              refine lv_istore (lv' := [(5, .int (nI (sp_pass S ch x1 x3) - nI (sp_btw ((sp_trTo S ch tr (x1 * 5 + 5))) (x1 * 5) x3))), (0, .ref (q 0)), (1, .int (nI ch)), (2, .int (nI (sp_gapTo S ch (x1 * 256 + x3)))), (3, .int (nI x1)), (4, .int (nI x3))]) G.1 G.2.1 dX0_tryJoining_81 hl (by decide) rfl (fun ls hl => ?_)
              refine lv_iload_n G.1 G.2.1 dX0_tryJoining_83 rfl (lv_at hl 3 rfl) ?_
              refine lv_iload G.1 G.2.1 dX0_tryJoining_84 (lv_at hl 0 rfl) ?_
              refine gr_absd G hl.1 (ix := 189) (by decide +kernel) (by decide +kernel) (by decide +kernel) (by decide +kernel) (Nat.le_of_ble_eq_true rfl) (Nat.le_of_ble_eq_true rfl) (Nat.zero_le _) (Nat.zero_le _) hpa hpb dX0_tryJoining_86 ?_
              refine gr_max G hl.1 (ix := 125) (by decide +kernel) (by decide +kernel) (by decide +kernel) (by decide +kernel) (Nat.le_of_ble_eq_true rfl) (Nat.le_of_ble_eq_true rfl) (Nat.zero_le _) (Nat.zero_le _) (by omega) (by omega) dX0_tryJoining_89 ?_
              refine lv_istore_n (lv' := [(2, .int (nI (max (sp_gapTo S ch (x1 * 256 + x3)) (sp_ap (sp_pass S ch x1 x3) (sp_btw ((sp_trTo S ch tr (x1 * 5 + 5))) (x1 * 5) x3))))), (5, .int (nI (sp_pass S ch x1 x3) - nI (sp_btw ((sp_trTo S ch tr (x1 * 5 + 5))) (x1 * 5) x3))), (0, .ref (q 0)), (1, .int (nI ch)), (3, .int (nI x1)), (4, .int (nI x3))]) G.1 G.2.1 dX0_tryJoining_92 rfl hl (by decide) rfl (fun ls hl => ?_)
              refine gn_iinc (lv' := [(4, .int (nI (x3 + 1))), (2, .int (nI (max (sp_gapTo S ch (x1 * 256 + x3)) (sp_ap (sp_pass S ch x1 x3) (sp_btw ((sp_trTo S ch tr (x1 * 5 + 5))) (x1 * 5) x3))))), (5, .int (nI (sp_pass S ch x1 x3) - nI (sp_btw ((sp_trTo S ch tr (x1 * 5 + 5))) (x1 * 5) x3))), (0, .ref (q 0)), (1, .int (nI ch)), (3, .int (nI x1))]) (n := 1) G dX0_tryJoining_93 hl (k := 5) rfl (by decide) rfl (fun ls hl => ?_)
              refine lv_goto (tgt := 52) G.1 G.2.1 dX0_tryJoining_96 (by decide) ?_
              exact ih3 (x3 + 1) (by omega) _ _ (xAt_cast (rfl) hX) hS _ (by rw [sp_gapTo_s (tr := tr) (by omega)]; exact lv_sub hl [3, 4, 1, 5, 0] rfl)
          exact loop3 256 0 (by omega) _ _ (xAt_cast (by rw [show x2 = 5 from by omega]) hX) hS _ (lv_sub hl [1, 2, 3, 4, 0] rfl)
        | succ d2 ih2 =>
          intro x2 hd2 H9 locs9 hX hS ls hl
          refine lv_iload G.1 G.2.1 dX0_tryJoining_12 (lv_at hl 4 rfl) ?_
          refine lv_iconst (v := nI 5) G.1 G.2.1 dX0_tryJoining_14 (by decide) ?_
          refine gn_ge G (by omega) (by omega) (tgt := 49) dX0_tryJoining_15 (by decide) (fun h_15 => absurd h_15 (by omega)) (fun h_15 => ?_)
          refine lv_aload_n G.1 G.2.1 dX0_tryJoining_18 rfl (lv_at hl 0 rfl) ?_
          refine gx_get G hX (by decide +kernel) 11 (by decide) (by decide +kernel) rfl rfl rfl dX0_tryJoining_19 ?_
          refine lv_iload_n G.1 G.2.1 dX0_tryJoining_22 rfl (lv_at hl 3 rfl) ?_
          refine lv_iconst (v := nI 5) G.1 G.2.1 dX0_tryJoining_23 (by decide) ?_
          refine gn_imul G dX0_tryJoining_24 ?_
          refine lv_iload G.1 G.2.1 dX0_tryJoining_25 (lv_at hl 4 rfl) ?_
          refine gn_iadd G dX0_tryJoining_27 ?_
          refine lv_aload_n G.1 G.2.1 dX0_tryJoining_28 rfl (lv_at hl 0 rfl) ?_
          refine lv_iload_n G.1 G.2.1 dX0_tryJoining_29 rfl (lv_at hl 1 rfl) ?_
          refine lv_iload_n G.1 G.2.1 dX0_tryJoining_30 rfl (lv_at hl 3 rfl) ?_
          refine lv_iload G.1 G.2.1 dX0_tryJoining_31 (lv_at hl 4 rfl) ?_
          refine gc_s (As := [.int (nI x2)]) (rest := [.int (nI x1), .int (nI ch), .ref (q 0), .int (nI ((x1 * 5) + x2)), .ref (q 11)]) G.fix (mX0_valueOfPlace l x2 (by omega)) (va_cwS 1 G.2.2.2.2.2.1 gX0_tryJoining_X0_valueOfPlace rfl rfl rfl (by decide +kernel) ⟨Nat.le_of_ble_eq_true rfl, Nat.le_of_ble_eq_true rfl⟩) gc_blindT (fun _ _ _ => trivial) rfl hl.1 rfl (Nat.le_of_ble_eq_true rfl) dX0_tryJoining_33 (Nat.zero_le _) (Nat.zero_le _) (fun r hr => ?_)
          subst hr
          refine gc_v (As := [.int (nI ch), .int (nI x1), .int (nI (sp_vop x2))]) (rest := [.int (nI ((x1 * 5) + x2)), .ref (q 11)]) G.fix (mX0_pass l D q cI N S ((sp_trTo S ch tr (x1 * 5 + x2))) A ch x1 (sp_vop x2) hok (by first | omega | assumption | exact ok6 _ | apply hq) (by first | omega | assumption | exact ok6 _ | apply hq) (by first | omega | assumption | exact ok6 _ | apply hq)) (cwV 3 G.2.2.2.2.2.1 gX0_tryJoining_X0_pass rfl rfl rfl (by decide +kernel) ⟨Nat.le_of_ble_eq_true rfl, Nat.le_of_ble_eq_true rfl⟩) xAt_blind (va_recv hX.2.1 hX.1 (ci := 0) (q0 := 0) rfl rfl) (fun U hU hW => by rw [hU]; exact hX.moved hW) rfl hl.1 rfl (Nat.le_of_ble_eq_true rfl) dX0_tryJoining_36 (Nat.zero_le _) (Nat.zero_le _) (fun r hr => ?_)
          subst hr
          refine gx_swap (k := 11) (kp := 8) (len := 15) (F := (sp_trTo S ch tr (x1 * 5 + x2))) (i := (x1 * 5) + x2) (v := sp_pass S ch x1 (sp_vop x2)) (S' := S) (tr' := (sp_trTo S ch tr (x1 * 5 + (x2 + 1)))) (rest := []) G.fix (mX0_swap l D (q 11) cI 15 ((sp_trTo S ch tr (x1 * 5 + x2))) ((x1 * 5) + x2) (sp_pass S ch x1 (sp_vop x2)) (by first | omega | assumption)) (va_cwS 3 G.2.2.2.2.2.1 gX0_tryJoining_X0_swap rfl rfl rfl (by decide +kernel) ⟨Nat.le_of_ble_eq_true rfl, Nat.le_of_ble_eq_true rfl⟩) hX hS rfl (by rw [sp_trTo_s (by omega)]; rfl) hl.1 rfl (Nat.le_of_ble_eq_true rfl) dX0_tryJoining_39 (Nat.zero_le _) (Nat.zero_le _) (fun H1 locs1 hX hS => ?_)
          refine lv_pop G.1 G.2.1 dX0_tryJoining_42 rfl ?_
          refine gn_iinc (lv' := [(4, .int (nI (x2 + 1))), (0, .ref (q 0)), (1, .int (nI ch)), (2, .int (nI (sp_gapTo S ch (x1 * 256)))), (3, .int (nI x1))]) (n := 1) G dX0_tryJoining_43 hl (k := 4) rfl (by decide) rfl (fun ls hl => ?_)
          refine lv_goto (tgt := 12) G.1 G.2.1 dX0_tryJoining_46 (by decide) ?_
          exact ih2 (x2 + 1) (by omega) _ _ (xAt_cast (rfl) hX) hS _ (lv_sub hl [1, 2, 3, 4, 0] rfl)
      exact loop2 5 0 (by omega) _ _ (xAt_cast (rfl) hX) hS _ (lv_sub hl [1, 2, 3, 4, 0] rfl)
  exact loop1 3 0 (by omega) _ _ (xAt_cast (rfl) hX) hS _ (lv_sub hl [2, 3, 1, 0] rfl)
set_option maxRecDepth 100000 in
set_option maxHeartbeats 4000000 in
/-- gap -/
theorem mX0_gap (l : Launch) (hst : l.stackTraces = false) (D : va_G) (q : Nat → Nat) (cI : ClassId) (N : Nat → Nat) (S : Nat → Nat → Nat) (tr : Nat → Nat) (A : Nat → Prop) (hok : sp_ok N S) (hinv : sp_inv N S) (i1 : Int32) : vx_Met l yX0_gap wsX0_gap { frames := 7, cells := 1, slots := 6, locals := 149 } (va_Pc [.ref (q 0), .int i1] (fun U => xAt D q cI N S tr A U U.heap)) (gQx D q cI (fun r N2 S2 => sA_gap N S i1 = true ∧ sB_gap N S i1 = true ∧ sC_gap N S i1 = true ∧ r = nI (sR_gap N S i1) ∧ N2 = sN_gap N S i1 ∧ S2 = sS_gap N S i1) A) (gXx D q cI N S A (gE3 (sA_gap N S i1) (sB_gap N S i1) (sC_gap N S i1))) 1 6 A := by
  refine gc_vxmet [.ref (q 0), .int i1] (by decide) rfl (Nat.le_of_ble_eq_true rfl) rfl ?_
  intro p e s m below meth c ls G hx0 hl hX
  have hZ0 := hX.2.2.2
  have hS : va_S A s.heap s.heap [] := va_S.rf
  have hok9 := hok
  obtain ⟨⟨ok0, ok5⟩, ok1, ok2, ok3, ok4, ok6, ok7, ok8, ok12, ok13, ok14⟩ := hok9
  have hN := hinv.2.2.2.1
  have hN9 := hinv.2.2.1
  refine lv_aload_n G.1 G.2.1 dX0_gap_0 rfl (lv_at hl 0 rfl) ?_
  refine lv_iload_n G.1 G.2.1 dX0_gap_1 rfl (lv_at hl 1 rfl) ?_
  refine gc_needT (vx_runV (As := [.int i1]) (rest := []) G.fix (mX0_needChain l hst D q cI N S tr A hok i1) (cwV 1 G.2.2.2.2.2.1 gX0_gap_X0_needChain rfl rfl rfl (by decide +kernel) ⟨Nat.le_of_ble_eq_true rfl, Nat.le_of_ble_eq_true rfl⟩) ⟨xAt_blind, va_recv hX.2.1 hX.1 (ci := 0) (q0 := 0) rfl rfl, fun U hU hW => ⟨rfl, by show xAt _ _ _ _ _ _ _ U U.heap; rw [hU]; exact hX.moved hW⟩⟩ rfl rfl hl.1 rfl (lv_room (Nat.le_of_ble_eq_true rfl)) dX0_gap_2 ⟨Nat.le_of_ble_eq_true rfl, Nat.le_of_ble_eq_true rfl⟩) hx0 G.2.2.2.2.2.2 (fun E t hE hz hk _ => ⟨Or.inl ⟨hE.1, (by simp [sA_gap, hE.2] <;> omega)⟩, gXx_of hX hS hz hk⟩) hS.2.2 (by decide) (by decide) (fun hA1 => ?_)
  obtain ⟨j1, hj1, rfl⟩ := gb_of (by omega) hA1
  have hg1 := gn_nI (show j1 < 2 ^ 31 by omega)
  refine lv_aload_n G.1 G.2.1 dX0_gap_5 rfl (lv_at hl 0 rfl) ?_
  refine lv_iload_n G.1 G.2.1 dX0_gap_6 rfl (lv_at hl 1 rfl) ?_
  refine gx_mut (N' := N) (S' := S) (tr' := (sp_trTo S j1 tr 15)) (r := (nI (sp_gap S j1))) (As := [.int (nI j1)]) (rest := []) G.fix (mX0_tryJoining l D q cI N S tr A hok j1 (by omega)) (cwV 1 G.2.2.2.2.2.1 gX0_gap_X0_tryJoining rfl rfl rfl (by decide +kernel) ⟨Nat.le_of_ble_eq_true rfl, Nat.le_of_ble_eq_true rfl⟩) hZ0 hX hS rfl hl.1 rfl (Nat.le_of_ble_eq_true rfl) dX0_gap_7 (Nat.zero_le _) (Nat.zero_le _) (fun H1 locs1 hX hS => ?_)
  exact vx_ret (W.widen (k := 1) (n := 6) (Nat.zero_le _) (Nat.zero_le _) (W.iret G.1 G.2.1 G.2.2.1 (fun t ht hW => gQx_of hX hS ht ⟨(by simp [sA_gap, hA1, hg1]), rfl, rfl, (by show nI _ = nI _; simp only [sR_gap, hg1]), (by simp only [sN_gap, hg1]), (by simp only [sS_gap, hg1])⟩) hS.2.2 dX0_gap_10 G.2.2.2.2.2.2))
set_option maxRecDepth 100000 in
set_option maxHeartbeats 4000000 in
/-- greyGap -/
theorem mX0_greyGap (l : Launch) (hst : l.stackTraces = false) (D : va_G) (q : Nat → Nat) (cI : ClassId) (N : Nat → Nat) (S : Nat → Nat → Nat) (tr : Nat → Nat) (A : Nat → Prop) (hok : sp_ok N S) (hinv : sp_inv N S) (i1 : Int32) : vx_Met l yX0_greyGap wsX0_greyGap { frames := 7, cells := 1, slots := 6, locals := 124 } (va_Pc [.ref (q 0), .int i1] (fun U => xAt D q cI N S tr A U U.heap)) (gQx D q cI (fun r N2 S2 => sA_greyGap N S i1 = true ∧ sB_greyGap N S i1 = true ∧ sC_greyGap N S i1 = true ∧ r = nI (sR_greyGap N S i1) ∧ N2 = sN_greyGap N S i1 ∧ S2 = sS_greyGap N S i1) A) (gXx D q cI N S A (gE3 (sA_greyGap N S i1) (sB_greyGap N S i1) (sC_greyGap N S i1))) 1 6 A := by
  refine gc_vxmet [.ref (q 0), .int i1] (by decide) rfl (Nat.le_of_ble_eq_true rfl) rfl ?_
  intro p e s m below meth c ls G hx0 hl hX
  have hZ0 := hX.2.2.2
  have hS : va_S A s.heap s.heap [] := va_S.rf
  have hok9 := hok
  obtain ⟨⟨ok0, ok5⟩, ok1, ok2, ok3, ok4, ok6, ok7, ok8, ok12, ok13, ok14⟩ := hok9
  have hN := hinv.2.2.2.1
  have hN9 := hinv.2.2.1
  refine lv_aload_n G.1 G.2.1 dX0_greyGap_0 rfl (lv_at hl 0 rfl) ?_
  refine lv_iload_n G.1 G.2.1 dX0_greyGap_1 rfl (lv_at hl 1 rfl) ?_
  refine gc_needT (vx_runV (As := [.int i1]) (rest := []) G.fix (mX0_needChain l hst D q cI N S tr A hok i1) (cwV 1 G.2.2.2.2.2.1 gX0_greyGap_X0_needChain rfl rfl rfl (by decide +kernel) ⟨Nat.le_of_ble_eq_true rfl, Nat.le_of_ble_eq_true rfl⟩) ⟨xAt_blind, va_recv hX.2.1 hX.1 (ci := 0) (q0 := 0) rfl rfl, fun U hU hW => ⟨rfl, by show xAt _ _ _ _ _ _ _ U U.heap; rw [hU]; exact hX.moved hW⟩⟩ rfl rfl hl.1 rfl (lv_room (Nat.le_of_ble_eq_true rfl)) dX0_greyGap_2 ⟨Nat.le_of_ble_eq_true rfl, Nat.le_of_ble_eq_true rfl⟩) hx0 G.2.2.2.2.2.2 (fun E t hE hz hk _ => ⟨Or.inl ⟨hE.1, (by simp [sA_greyGap, hE.2] <;> omega)⟩, gXx_of hX hS hz hk⟩) hS.2.2 (by decide) (by decide) (fun hA1 => ?_)
  obtain ⟨j1, hj1, rfl⟩ := gb_of (by omega) hA1
  have hg1 := gn_nI (show j1 < 2 ^ 31 by omega)
  have hpl := fun b v (hv : v ≤ 255) => sp_pass_le (ch := j1) (b := b) hok hv
  refine lv_iconst (v := nI 0) G.1 G.2.1 dX0_greyGap_5 (by decide) ?_
  refine lv_istore_n (lv' := [(2, .int (nI 0)), (0, .ref (q 0)), (1, .int (nI j1))]) G.1 G.2.1 dX0_greyGap_6 rfl hl (by decide) rfl (fun ls hl => ?_)
  refine lv_iconst (v := nI 0) G.1 G.2.1 dX0_greyGap_7 (by decide) ?_
  refine lv_istore_n (lv' := [(3, .int (nI 0)), (2, .int (nI 0)), (0, .ref (q 0)), (1, .int (nI j1))]) G.1 G.2.1 dX0_greyGap_8 rfl hl (by decide) rfl (fun ls hl => ?_)
  have loop1 : ∀ (d1 x1 : Nat), x1 + d1 = 256 → ∀ (H9 : Heap) (locs9 : List Loc), xAt D q cI N S tr A s H9 → va_S A s.heap H9 locs9 → ∀ ls : Array Slot, lv_has ls 8 [(0, .ref (q 0)), (1, .int (nI j1)), (2, .int (nI (sp_greyTo S j1 x1))), (3, .int (nI x1))] → W p l e { frames := 7, cells := 1, slots := 6, locals := 124 } s m ([.ref (q 0), .int (nI j1)] : List Value).toArray below meth c H9 locs9 0 0 (vx_MQ below (gQx D q cI (fun r N2 S2 => sA_greyGap N S (nI j1) = true ∧ sB_greyGap N S (nI j1) = true ∧ sC_greyGap N S (nI j1) = true ∧ r = nI (sR_greyGap N S (nI j1)) ∧ N2 = sN_greyGap N S (nI j1) ∧ S2 = sS_greyGap N S (nI j1)) A) (gXx D q cI N S A (gE3 (sA_greyGap N S (nI j1)) (sB_greyGap N S (nI j1)) (sC_greyGap N S (nI j1)))) ([.ref (q 0), .int (nI j1)] : List Value).toArray s 1 6 A) (F0 m 9 ls []) := by
    intro d1
    induction d1 with
    | zero =>
      intro x1 hd1 H9 locs9 hX hS ls hl
      refine lv_iload_n G.1 G.2.1 dX0_greyGap_9 rfl (lv_at hl 3 rfl) ?_
      refine lv_sipush (v := nI 255) G.1 G.2.1 dX0_greyGap_10 (by decide) ?_
      refine gn_gt G (by omega) (by omega) (tgt := 83) dX0_greyGap_13 (by decide) (fun h_13 => ?_) (fun h_13 => absurd h_13 (by omega))
      refine lv_iload_n G.1 G.2.1 dX0_greyGap_83 rfl (lv_at hl 2 rfl) ?_
      exact vx_ret (W.widen (k := 1) (n := 6) (Nat.zero_le _) (Nat.zero_le _) (W.iret G.1 G.2.1 G.2.2.1 (fun t ht hW => gQx_of hX hS ht ⟨(by simp [sA_greyGap, hA1, hg1]), rfl, rfl, (by show nI _ = nI _; simp only [sR_greyGap, hg1]; unfold sp_grey; rw [show x1 = 256 from by omega]), (by simp only [sN_greyGap, hg1]), (by simp only [sS_greyGap, hg1])⟩) hS.2.2 dX0_greyGap_84 G.2.2.2.2.2.2))
    | succ d1 ih1 =>
      intro x1 hd1 H9 locs9 hX hS ls hl
      refine lv_iload_n G.1 G.2.1 dX0_greyGap_9 rfl (lv_at hl 3 rfl) ?_
      refine lv_sipush (v := nI 255) G.1 G.2.1 dX0_greyGap_10 (by decide) ?_
      refine gn_gt G (by omega) (by omega) (tgt := 83) dX0_greyGap_13 (by decide) (fun h_13 => absurd h_13 (by omega)) (fun h_13 => ?_)
      refine lv_sipush (v := nI 255) G.1 G.2.1 dX0_greyGap_16 (by decide) ?_
      refine lv_istore (lv' := [(4, .int (nI 255)), (0, .ref (q 0)), (1, .int (nI j1)), (2, .int (nI (sp_greyTo S j1 x1))), (3, .int (nI x1))]) G.1 G.2.1 dX0_greyGap_19 hl (by decide) rfl (fun ls hl => ?_)
      refine lv_iconst (v := nI 0) G.1 G.2.1 dX0_greyGap_21 (by decide) ?_
      refine lv_istore (lv' := [(5, .int (nI 0)), (4, .int (nI 255)), (0, .ref (q 0)), (1, .int (nI j1)), (2, .int (nI (sp_greyTo S j1 x1))), (3, .int (nI x1))]) G.1 G.2.1 dX0_greyGap_22 hl (by decide) rfl (fun ls hl => ?_)
      refine lv_iconst (v := nI 0) G.1 G.2.1 dX0_greyGap_24 (by decide) ?_
      refine lv_istore (lv' := [(6, .int (nI 0)), (5, .int (nI 0)), (4, .int (nI 255)), (0, .ref (q 0)), (1, .int (nI j1)), (2, .int (nI (sp_greyTo S j1 x1))), (3, .int (nI x1))]) G.1 G.2.1 dX0_greyGap_25 hl (by decide) rfl (fun ls hl => ?_)
      have loop2 : ∀ (d2 x2 : Nat), x2 + d2 = 3 → ∀ (H9 : Heap) (locs9 : List Loc), xAt D q cI N S tr A s H9 → va_S A s.heap H9 locs9 → ∀ ls : Array Slot, lv_has ls 8 [(0, .ref (q 0)), (1, .int (nI j1)), (2, .int (nI (sp_greyTo S j1 x1))), (3, .int (nI x1)), (4, .int (nI (sp_mn S j1 x1 x2))), (5, .int (nI (sp_mx S j1 x1 x2))), (6, .int (nI x2))] → W p l e { frames := 7, cells := 1, slots := 6, locals := 124 } s m ([.ref (q 0), .int (nI j1)] : List Value).toArray below meth c H9 locs9 0 0 (vx_MQ below (gQx D q cI (fun r N2 S2 => sA_greyGap N S (nI j1) = true ∧ sB_greyGap N S (nI j1) = true ∧ sC_greyGap N S (nI j1) = true ∧ r = nI (sR_greyGap N S (nI j1)) ∧ N2 = sN_greyGap N S (nI j1) ∧ S2 = sS_greyGap N S (nI j1)) A) (gXx D q cI N S A (gE3 (sA_greyGap N S (nI j1)) (sB_greyGap N S (nI j1)) (sC_greyGap N S (nI j1)))) ([.ref (q 0), .int (nI j1)] : List Value).toArray s 1 6 A) (F0 m 27 ls []) := by
        intro d2
        induction d2 with
        | zero =>
          intro x2 hd2 H9 locs9 hX hS ls hl
          refine lv_iload G.1 G.2.1 dX0_greyGap_27 (lv_at hl 6 rfl) ?_
          refine lv_iconst (v := nI 3) G.1 G.2.1 dX0_greyGap_29 (by decide) ?_
          refine gn_ge G (by omega) (by omega) (tgt := 67) dX0_greyGap_30 (by decide) (fun h_30 => ?_) (fun h_30 => absurd h_30 (by omega))
          have hm2 := sp_mx_le hok (ch := j1) (v := x1) (by omega) x2
          have hm3 := sp_mn_mx hok (ch := j1) (v := x1) (k := x2) (by omega) (by omega)
          have hgy := sp_greyTo_le hok (ch := j1) x1 (by omega)
          refine lv_iload_n G.1 G.2.1 dX0_greyGap_67 rfl (lv_at hl 2 rfl) ?_
          refine lv_iload G.1 G.2.1 dX0_greyGap_68 (lv_at hl 5 rfl) ?_
          refine lv_iload G.1 G.2.1 dX0_greyGap_70 (lv_at hl 4 rfl) ?_
          refine gn_isub G dX0_greyGap_72 (by omega) ?_
          refine gr_max G hl.1 (ix := 125) (by decide +kernel) (by decide +kernel) (by decide +kernel) (by decide +kernel) (Nat.le_of_ble_eq_true rfl) (Nat.le_of_ble_eq_true rfl) (Nat.zero_le _) (Nat.zero_le _) (by omega) (by omega) dX0_greyGap_73 ?_
          refine lv_istore_n (lv' := [(2, .int (nI (max (sp_greyTo S j1 x1) ((sp_mx S j1 x1 x2) - (sp_mn S j1 x1 x2))))), (0, .ref (q 0)), (1, .int (nI j1)), (3, .int (nI x1)), (4, .int (nI (sp_mn S j1 x1 x2))), (5, .int (nI (sp_mx S j1 x1 x2))), (6, .int (nI x2))]) G.1 G.2.1 dX0_greyGap_76 rfl hl (by decide) rfl (fun ls hl => ?_)
          refine gn_iinc (lv' := [(3, .int (nI (x1 + 1))), (2, .int (nI (max (sp_greyTo S j1 x1) ((sp_mx S j1 x1 x2) - (sp_mn S j1 x1 x2))))), (0, .ref (q 0)), (1, .int (nI j1)), (4, .int (nI (sp_mn S j1 x1 x2))), (5, .int (nI (sp_mx S j1 x1 x2))), (6, .int (nI x2))]) (n := 1) G dX0_greyGap_77 hl (k := 3) rfl (by decide) rfl (fun ls hl => ?_)
          refine lv_goto (tgt := 9) G.1 G.2.1 dX0_greyGap_80 (by decide) ?_
          exact ih1 (x1 + 1) (by omega) _ _ (xAt_cast (rfl) hX) hS _ (by rw [show sp_greyTo S j1 (x1 + 1) = max (sp_greyTo S j1 x1) (sp_mx S j1 x1 x2 - sp_mn S j1 x1 x2) from by rw [show x2 = 3 from by omega]; rfl]; exact lv_sub hl [2, 3, 1, 0] rfl)
        | succ d2 ih2 =>
          intro x2 hd2 H9 locs9 hX hS ls hl
          refine lv_iload G.1 G.2.1 dX0_greyGap_27 (lv_at hl 6 rfl) ?_
          refine lv_iconst (v := nI 3) G.1 G.2.1 dX0_greyGap_29 (by decide) ?_
          refine gn_ge G (by omega) (by omega) (tgt := 67) dX0_greyGap_30 (by decide) (fun h_30 => absurd h_30 (by omega)) (fun h_30 => ?_)
          have hp9 := hpl x2 x1 (by omega)
          have hm1 := sp_mn_le S j1 x1 x2
          have hm2 := sp_mx_le hok (ch := j1) (v := x1) (by omega) x2
          refine lv_aload_n G.1 G.2.1 dX0_greyGap_33 rfl (lv_at hl 0 rfl) ?_
          refine lv_iload_n G.1 G.2.1 dX0_greyGap_34 rfl (lv_at hl 1 rfl) ?_
          refine lv_iload G.1 G.2.1 dX0_greyGap_35 (lv_at hl 6 rfl) ?_
          refine lv_iload_n G.1 G.2.1 dX0_greyGap_37 rfl (lv_at hl 3 rfl) ?_
          refine gc_v (As := [.int (nI j1), .int (nI x2), .int (nI x1)]) (rest := []) G.fix (mX0_pass l D q cI N S tr A j1 x2 x1 hok (by first | omega | assumption | exact ok6 _ | apply hq) (by first | omega | assumption | exact ok6 _ | apply hq) (by first | omega | assumption | exact ok6 _ | apply hq)) (cwV 3 G.2.2.2.2.2.1 gX0_greyGap_X0_pass rfl rfl rfl (by decide +kernel) ⟨Nat.le_of_ble_eq_true rfl, Nat.le_of_ble_eq_true rfl⟩) xAt_blind (va_recv hX.2.1 hX.1 (ci := 0) (q0 := 0) rfl rfl) (fun U hU hW => by rw [hU]; exact hX.moved hW) rfl hl.1 rfl (Nat.le_of_ble_eq_true rfl) dX0_greyGap_38 (Nat.zero_le _) (Nat.zero_le _) (fun r hr => ?_)
          subst hr
          refine lv_istore (lv' := [(7, .int (nI (sp_pass S j1 x2 x1))), (0, .ref (q 0)), (1, .int (nI j1)), (2, .int (nI (sp_greyTo S j1 x1))), (3, .int (nI x1)), (4, .int (nI (sp_mn S j1 x1 x2))), (5, .int (nI (sp_mx S j1 x1 x2))), (6, .int (nI x2))]) G.1 G.2.1 dX0_greyGap_41 hl (by decide) rfl (fun ls hl => ?_)
          refine lv_iload G.1 G.2.1 dX0_greyGap_43 (lv_at hl 5 rfl) ?_
          refine lv_iload G.1 G.2.1 dX0_greyGap_45 (lv_at hl 0 rfl) ?_
          refine gr_min G hl.1 (ix := 119) (by decide +kernel) (by decide +kernel) (by decide +kernel) (by decide +kernel) (Nat.le_of_ble_eq_true rfl) (Nat.le_of_ble_eq_true rfl) (Nat.zero_le _) (Nat.zero_le _) (by omega) (by omega) dX0_greyGap_47 ?_
          refine lv_istore (lv' := [(4, .int (nI (min (sp_mn S j1 x1 x2) (sp_pass S j1 x2 x1)))), (7, .int (nI (sp_pass S j1 x2 x1))), (0, .ref (q 0)), (1, .int (nI j1)), (2, .int (nI (sp_greyTo S j1 x1))), (3, .int (nI x1)), (5, .int (nI (sp_mx S j1 x1 x2))), (6, .int (nI x2))]) G.1 G.2.1 dX0_greyGap_50 hl (by decide) rfl (fun ls hl => ?_)
          refine lv_iload G.1 G.2.1 dX0_greyGap_52 (lv_at hl 6 rfl) ?_
          refine lv_iload G.1 G.2.1 dX0_greyGap_54 (lv_at hl 1 rfl) ?_
          refine gr_max G hl.1 (ix := 125) (by decide +kernel) (by decide +kernel) (by decide +kernel) (by decide +kernel) (Nat.le_of_ble_eq_true rfl) (Nat.le_of_ble_eq_true rfl) (Nat.zero_le _) (Nat.zero_le _) (by omega) (by omega) dX0_greyGap_56 ?_
          refine lv_istore (lv' := [(5, .int (nI (max (sp_mx S j1 x1 x2) (sp_pass S j1 x2 x1)))), (4, .int (nI (min (sp_mn S j1 x1 x2) (sp_pass S j1 x2 x1)))), (7, .int (nI (sp_pass S j1 x2 x1))), (0, .ref (q 0)), (1, .int (nI j1)), (2, .int (nI (sp_greyTo S j1 x1))), (3, .int (nI x1)), (6, .int (nI x2))]) G.1 G.2.1 dX0_greyGap_59 hl (by decide) rfl (fun ls hl => ?_)
          refine gn_iinc (lv' := [(6, .int (nI (x2 + 1))), (5, .int (nI (max (sp_mx S j1 x1 x2) (sp_pass S j1 x2 x1)))), (4, .int (nI (min (sp_mn S j1 x1 x2) (sp_pass S j1 x2 x1)))), (7, .int (nI (sp_pass S j1 x2 x1))), (0, .ref (q 0)), (1, .int (nI j1)), (2, .int (nI (sp_greyTo S j1 x1))), (3, .int (nI x1))]) (n := 1) G dX0_greyGap_61 hl (k := 7) rfl (by decide) rfl (fun ls hl => ?_)
          refine lv_goto (tgt := 27) G.1 G.2.1 dX0_greyGap_64 (by decide) ?_
          exact ih2 (x2 + 1) (by omega) _ _ (xAt_cast (rfl) hX) hS _ (lv_sub hl [4, 5, 6, 7, 2, 1, 0] rfl)
      exact loop2 3 0 (by omega) _ _ (xAt_cast (rfl) hX) hS _ (lv_sub hl [3, 4, 5, 6, 2, 1, 0] rfl)
  exact loop1 256 0 (by omega) _ _ (xAt_cast (rfl) hX) hS _ (lv_sub hl [2, 3, 1, 0] rfl)
set_option maxRecDepth 100000 in
set_option maxHeartbeats 4000000 in
/-- join -/
theorem mX0_join (l : Launch) (hst : l.stackTraces = false) (D : va_G) (q : Nat → Nat) (cI : ClassId) (N : Nat → Nat) (S : Nat → Nat → Nat) (tr : Nat → Nat) (A : Nat → Prop) (hok : sp_ok N S) (hinv : sp_inv N S) (i1 i2 : Int32) : vx_Met l yX0_join wsX0_join { frames := 7, cells := 1, slots := 6, locals := 149 } (va_Pc [.ref (q 0), .int i1, .int i2] (fun U => xAt D q cI N S tr A U U.heap)) (gQx D q cI (fun r N2 S2 => sA_join N S i1 i2 = true ∧ sB_join N S i1 i2 = true ∧ sC_join N S i1 i2 = true ∧ r = nI (sR_join N S i1 i2) ∧ N2 = sN_join N S i1 i2 ∧ S2 = sS_join N S i1 i2) A) (gXx D q cI N S A (gE3 (sA_join N S i1 i2) (sB_join N S i1 i2) (sC_join N S i1 i2))) 1 6 A := by
  refine gc_vxmet [.ref (q 0), .int i1, .int i2] (by decide) rfl (Nat.le_of_ble_eq_true rfl) rfl ?_
  intro p e s m below meth c ls G hx0 hl hX
  have hZ0 := hX.2.2.2
  have hS : va_S A s.heap s.heap [] := va_S.rf
  have hok9 := hok
  obtain ⟨⟨ok0, ok5⟩, ok1, ok2, ok3, ok4, ok6, ok7, ok8, ok12, ok13, ok14⟩ := hok9
  have hN := hinv.2.2.2.1
  have hN9 := hinv.2.2.1
  refine lv_aload_n G.1 G.2.1 dX0_join_0 rfl (lv_at hl 0 rfl) ?_
  refine lv_iload_n G.1 G.2.1 dX0_join_1 rfl (lv_at hl 1 rfl) ?_
  refine gc_needT (vx_runV (As := [.int i1]) (rest := []) G.fix (mX0_needChain l hst D q cI N S tr A hok i1) (cwV 1 G.2.2.2.2.2.1 gX0_join_X0_needChain rfl rfl rfl (by decide +kernel) ⟨Nat.le_of_ble_eq_true rfl, Nat.le_of_ble_eq_true rfl⟩) ⟨xAt_blind, va_recv hX.2.1 hX.1 (ci := 0) (q0 := 0) rfl rfl, fun U hU hW => ⟨rfl, by show xAt _ _ _ _ _ _ _ U U.heap; rw [hU]; exact hX.moved hW⟩⟩ rfl rfl hl.1 rfl (lv_room (Nat.le_of_ble_eq_true rfl)) dX0_join_2 ⟨Nat.le_of_ble_eq_true rfl, Nat.le_of_ble_eq_true rfl⟩) hx0 G.2.2.2.2.2.2 (fun E t hE hz hk _ => ⟨Or.inl ⟨hE.1, (by simp [sA_join, hE.2] <;> omega)⟩, gXx_of hX hS hz hk⟩) hS.2.2 (by decide) (by decide) (fun hA1 => ?_)
  obtain ⟨j1, hj1, rfl⟩ := gb_of (by omega) hA1
  have hg1 := gn_nI (show j1 < 2 ^ 31 by omega)
  refine lv_iload_n G.1 G.2.1 dX0_join_5 rfl (lv_at hl 2 rfl) ?_
  refine gc_needT (vx_runS (As := [.int i2]) (rest := []) G.fix (mX0_needValue l hst i2) (va_cwS 1 G.2.2.2.2.2.1 gX0_join_X0_needValue rfl rfl rfl (by decide +kernel) ⟨Nat.le_of_ble_eq_true rfl, Nat.le_of_ble_eq_true rfl⟩) ⟨gZ_blind, fun U hU hW => ⟨rfl, by show gZ _ U U.heap; rw [hU]; exact hX.2.2.2.none.moved hW⟩⟩ rfl rfl hl.1 rfl (lv_room (Nat.le_of_ble_eq_true rfl)) dX0_join_6 ⟨Nat.le_of_ble_eq_true rfl, Nat.le_of_ble_eq_true rfl⟩) hx0 G.2.2.2.2.2.2 (fun E t hE hz hk _ => ⟨Or.inr (Or.inl ⟨hE.1, (by simp [sA_join, hA1, hg1]), (by simp [sB_join, hg1, hE.2] <;> omega)⟩), gXx_of hX hS hz hk⟩) hS.2.2 (by decide) (by decide) (fun hB2 => ?_)
  obtain ⟨j2, hj2, rfl⟩ := gb_of (by omega) hB2
  have hg2 := gn_nI (show j2 < 2 ^ 31 by omega)
  refine lv_aload_n G.1 G.2.1 dX0_join_9 rfl (lv_at hl 0 rfl) ?_
  refine lv_iload_n G.1 G.2.1 dX0_join_10 rfl (lv_at hl 1 rfl) ?_
  refine gx_mut (N' := N) (S' := S) (tr' := (sp_trTo S j1 tr 15)) (r := (nI (sp_gap S j1))) (As := [.int (nI j1)]) (rest := []) G.fix (mX0_tryJoining l D q cI N S tr A hok j1 (by omega)) (cwV 1 G.2.2.2.2.2.1 gX0_join_X0_tryJoining rfl rfl rfl (by decide +kernel) ⟨Nat.le_of_ble_eq_true rfl, Nat.le_of_ble_eq_true rfl⟩) hZ0 hX hS rfl hl.1 rfl (Nat.le_of_ble_eq_true rfl) dX0_join_11 (Nat.zero_le _) (Nat.zero_le _) (fun H1 locs1 hX hS => ?_)
  refine lv_istore_n (lv' := [(3, .int (nI (sp_gap S j1))), (0, .ref (q 0)), (1, .int (nI j1)), (2, .int (nI j2))]) G.1 G.2.1 dX0_join_14 rfl hl (by decide) rfl (fun ls hl => ?_)
  have hgl : sp_gap S j1 ≤ 255 := sp_gapTo_le hok _
  refine lv_iload_n G.1 G.2.1 dX0_join_15 rfl (lv_at hl 0 rfl) ?_
  refine lv_iload_n G.1 G.2.1 dX0_join_16 rfl (lv_at hl 3 rfl) ?_
  refine gn_le G (by omega) (by omega) (tgt := 30) dX0_join_17 (by decide) (fun h_17 => ?_) (fun h_17 => ?_)
  · refine lv_iconst (v := nI 0) G.1 G.2.1 dX0_join_30 (by decide) ?_
    refine lv_istore (lv' := [(4, .int (nI 0)), (3, .int (nI (sp_gap S j1))), (0, .ref (q 0)), (1, .int (nI j1)), (2, .int (nI j2))]) G.1 G.2.1 dX0_join_31 hl (by decide) rfl (fun ls hl => ?_)
    have loop1 : ∀ (d1 x1 : Nat), x1 + d1 = 15 → ∀ (H9 : Heap) (locs9 : List Loc), xAt D q cI N ((gs S 8 (sp_kpTo S j1 x1))) ((sp_trTo S j1 tr 15)) A s H9 → va_S A s.heap H9 locs9 → ∀ ls : Array Slot, lv_has ls 5 [(0, .ref (q 0)), (1, .int (nI j1)), (3, .int (nI (sp_gap S j1))), (4, .int (nI x1))] → W p l e { frames := 7, cells := 1, slots := 6, locals := 149 } s m ([.ref (q 0), .int (nI j1), .int (nI j2)] : List Value).toArray below meth c H9 locs9 0 0 (vx_MQ below (gQx D q cI (fun r N2 S2 => sA_join N S (nI j1) (nI j2) = true ∧ sB_join N S (nI j1) (nI j2) = true ∧ sC_join N S (nI j1) (nI j2) = true ∧ r = nI (sR_join N S (nI j1) (nI j2)) ∧ N2 = sN_join N S (nI j1) (nI j2) ∧ S2 = sS_join N S (nI j1) (nI j2)) A) (gXx D q cI N S A (gE3 (sA_join N S (nI j1) (nI j2)) (sB_join N S (nI j1) (nI j2)) (sC_join N S (nI j1) (nI j2)))) ([.ref (q 0), .int (nI j1), .int (nI j2)] : List Value).toArray s 1 6 A) (F0 m 33 ls []) := by
      intro d1
      induction d1 with
      | zero =>
        intro x1 hd1 H9 locs9 hX hS ls hl
        refine lv_iload G.1 G.2.1 dX0_join_33 (lv_at hl 3 rfl) ?_
        refine lv_bipush (v := nI 15) G.1 G.2.1 dX0_join_35 (by decide) ?_
        refine gn_ge G (by omega) (by omega) (tgt := 71) dX0_join_37 (by decide) (fun h_37 => ?_) (fun h_37 => absurd h_37 (by omega))
        have hxl : N 9 ||| 2 ^ j1 < 2 ^ 31 := Nat.lt_trans (Nat.or_lt_two_pow (n := 6) hN9 (Nat.pow_lt_pow_right (by decide) (by omega))) (by decide)
        refine lv_aload_n G.1 G.2.1 dX0_join_71 rfl (lv_at hl 0 rfl) ?_
        refine lv_aload_n G.1 G.2.1 dX0_join_72 rfl (lv_at hl 0 rfl) ?_
        refine gx_get G hX (by decide +kernel) 9 (by decide) (by decide +kernel) rfl rfl rfl dX0_join_73 ?_
        refine lv_iconst (v := nI 1) G.1 G.2.1 dX0_join_76 (by decide) ?_
        refine lv_iload_n G.1 G.2.1 dX0_join_77 rfl (lv_at hl 1 rfl) ?_
        refine gn_ishl G dX0_join_78 (by omega) ?_
        refine gn_ior G dX0_join_79 ?_
        refine gx_put (k := 9) (N' := (gu N 9 ((N 9) ||| (2 ^ j1)))) G hZ0 hX hS (by decide +kernel) (by decide) (by decide +kernel) rfl rfl (by decide +kernel) rfl (Nat.le_of_ble_eq_true rfl) rfl dX0_join_80 (fun H1 locs1 hX hS => ?_)
        refine lv_iload_n G.1 G.2.1 dX0_join_83 rfl (lv_at hl 2 rfl) ?_
        have hX := xAt_free9 (F := gu (S 9) j1 1) hX
        exact vx_ret (W.widen (k := 1) (n := 6) (Nat.zero_le _) (Nat.zero_le _) (W.iret G.1 G.2.1 G.2.2.1 (fun t ht hW => gQx_of hX hS ht ⟨(by simp [sA_join, hA1, hg1, hg2]), (by simp [sB_join, hB2, hg1, hg2]), (by simp [sC_join, h_17, hg1, hg2]), (by show nI _ = nI _; simp only [sR_join, hg1, hg2]), (by simp only [sN_join, hg1, hg2]), (by simp only [sS_join, hg1]; rw [show x1 = 15 from by omega])⟩) hS.2.2 dX0_join_84 G.2.2.2.2.2.2))
      | succ d1 ih1 =>
        intro x1 hd1 H9 locs9 hX hS ls hl
        refine lv_iload G.1 G.2.1 dX0_join_33 (lv_at hl 3 rfl) ?_
        refine lv_bipush (v := nI 15) G.1 G.2.1 dX0_join_35 (by decide) ?_
        refine gn_ge G (by omega) (by omega) (tgt := 71) dX0_join_37 (by decide) (fun h_37 => absurd h_37 (by omega)) (fun h_37 => ?_)
        refine lv_aload_n G.1 G.2.1 dX0_join_40 rfl (lv_at hl 0 rfl) ?_
        refine gx_get G hX (by decide +kernel) 8 (by decide) (by decide +kernel) rfl rfl rfl dX0_join_41 ?_
        refine lv_iload_n G.1 G.2.1 dX0_join_44 rfl (lv_at hl 1 rfl) ?_
        refine lv_iconst (v := nI 3) G.1 G.2.1 dX0_join_45 (by decide) ?_
        refine gn_imul G dX0_join_46 ?_
        refine lv_iconst (v := nI 5) G.1 G.2.1 dX0_join_47 (by decide) ?_
        refine gn_imul G dX0_join_48 ?_
        refine lv_iload G.1 G.2.1 dX0_join_49 (lv_at hl 3 rfl) ?_
        refine gn_iadd G dX0_join_51 ?_
        refine lv_aload_n G.1 G.2.1 dX0_join_52 rfl (lv_at hl 0 rfl) ?_
        refine gx_get G hX (by decide +kernel) 11 (by decide) (by decide +kernel) rfl rfl rfl dX0_join_53 ?_
        refine lv_iload G.1 G.2.1 dX0_join_56 (lv_at hl 3 rfl) ?_
        refine gc_s (As := [.ref (q 11), .int (nI x1)]) (rest := [.int (nI (((j1 * 3) * 5) + x1)), .ref (q 8)]) G.fix (mX0_read l D (q 11) cI 15 ((sp_trTo S j1 tr 15)) (x1) (by first | omega | assumption | exact ok6 _ | apply hq)) (va_cwS 2 G.2.2.2.2.2.1 gX0_join_X0_read rfl rfl rfl (by decide +kernel) ⟨Nat.le_of_ble_eq_true rfl, Nat.le_of_ble_eq_true rfl⟩) rAt_blind (fun U hU hW => by rw [hU]; exact (hX.row 8 rfl).moved hW) rfl hl.1 rfl (Nat.le_of_ble_eq_true rfl) dX0_join_58 (Nat.zero_le _) (Nat.zero_le _) (fun r hr => ?_)
        subst hr
        refine gx_swap (k := 8) (kp := 7) (len := 90) (F := (sp_kpTo S j1 x1)) (i := ((j1 * 3) * 5) + x1) (v := ((sp_trTo S j1 tr 15)) x1) (S' := (gs S 8 (sp_kpTo S j1 (x1 + 1)))) (tr' := (sp_trTo S j1 tr 15)) (rest := []) G.fix (mX0_swap l D (q 8) cI 90 ((sp_kpTo S j1 x1)) (((j1 * 3) * 5) + x1) (((sp_trTo S j1 tr 15)) x1) (by first | omega | assumption)) (va_cwS 3 G.2.2.2.2.2.1 gX0_join_X0_swap rfl rfl rfl (by decide +kernel) ⟨Nat.le_of_ble_eq_true rfl, Nat.le_of_ble_eq_true rfl⟩) hX hS rfl (by rw [sp_kp_s (by omega)]; rfl) hl.1 rfl (Nat.le_of_ble_eq_true rfl) dX0_join_61 (Nat.zero_le _) (Nat.zero_le _) (fun H1 locs1 hX hS => ?_)
        refine lv_pop G.1 G.2.1 dX0_join_64 rfl ?_
        refine gn_iinc (lv' := [(4, .int (nI (x1 + 1))), (0, .ref (q 0)), (1, .int (nI j1)), (3, .int (nI (sp_gap S j1)))]) (n := 1) G dX0_join_65 hl (k := 3) rfl (by decide) rfl (fun ls hl => ?_)
        refine lv_goto (tgt := 33) G.1 G.2.1 dX0_join_68 (by decide) ?_
        exact ih1 (x1 + 1) (by omega) _ _ (xAt_cast (rfl) hX) hS _ (lv_sub hl [1, 2, 3, 0] rfl)
    exact loop1 15 0 (by omega) _ _ (xAt_cast (rfl) hX) hS _ (lv_sub hl [2, 3, 1, 0] rfl)
  · exact gx_throw (text := "the gap is too great") G hx0 hst (by decide +kernel) (by decide +kernel) (by decide +kernel) (by decide +kernel) gx_not_IS gx_good_IS (by decide +kernel) hZ0 hS hl.1 dX0_join_20 dX0_join_23 dX0_join_24 dX0_join_26 dX0_join_29 (Nat.le_of_ble_eq_true rfl) (Nat.le_of_ble_eq_true rfl) (Nat.le_of_ble_eq_true rfl) (Nat.le_of_ble_eq_true rfl) (fun t _ hz hk => ⟨Or.inr (Or.inr ⟨rfl, (by simp [sA_join, hA1, hg1, hg2]), (by simp [sB_join, hB2, hg1, hg2]), (by simp [sC_join, hg1, hg2, h_17] <;> omega)⟩), gXx_of hX hS hz hk⟩) hS.2.2 (by decide) (by decide)
