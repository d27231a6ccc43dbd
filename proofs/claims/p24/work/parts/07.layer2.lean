/-! THE LAYER, SECOND PART: writes of rows and fields, throws, what a public call's exceptions mean -/
abbrev gIO : String := "java/lang/IndexOutOfBoundsException"
abbrev gIA : String := "java/lang/IllegalArgumentException"
abbrev gIS : String := "java/lang/IllegalStateException"
abbrev gNm : List String := ["java/lang/RuntimeException", "java/lang/Exception"]
def gn (x : Int32) : Nat := x.toInt.toNat
theorem gn_nI {j : Nat} (h : j < 2 ^ 31) : gn (nI j) = j := by unfold gn; rw [nI_toInt h]; omega
theorem gb_nlt {x : Int32} {n : Nat} (hn : n < 2 ^ 31) (h : ¬ x < nI n) : gb x n = false := gb_big hn (by
  rw [Int32.le_iff_toInt_le]
  have h2 : ¬ x.toInt < (nI n).toInt := fun q => h (Int32.lt_iff_toInt_lt.mpr q)
  omega)
/-- which exception, by three tests in their order -/
def gE3 (a b c : Bool) (E : String) : Prop := (E = gIO ∧ a = false) ∨ (E = gIA ∧ a = true ∧ b = false) ∨ (E = gIS ∧ a = true ∧ b = true ∧ c = false)
/-- the number of a call's exception, by three tests in their order -/
def gk (a b c : Bool) : Nat := if a then (if b then (if c then 0 else 3) else 2) else 1
theorem gx_good_IS : ∀ w ∈ Cond.classLink RX0 47 gIS :: Cond.initialized gIS :: vx_atS RX0 51 gIS gNm, vx_ot w = true := by decide +kernel
theorem gx_good_IO : ∀ w ∈ Cond.classLink RX0 69 gIO :: Cond.initialized gIO :: vx_atS RX0 73 gIO gNm, vx_ot w = true := by decide +kernel
theorem gx_good_IA : ∀ w ∈ Cond.classLink RX0 80 gIA :: Cond.initialized gIA :: vx_atS RX0 84 gIA gNm, vx_ot w = true := by decide +kernel
theorem gx_not_IS : ∀ w ∈ (vx_atS RX0 51 gIS gNm).filter (fun w => !goodWord w), w ∈ gB := by decide +kernel
theorem gx_not_IO : ∀ w ∈ (vx_atS RX0 73 gIO gNm).filter (fun w => !goodWord w), w ∈ gB := by decide +kernel
theorem gx_not_IA : ∀ w ∈ (vx_atS RX0 84 gIA gNm).filter (fun w => !goodWord w), w ∈ gB := by decide +kernel
theorem gB_tab : ∀ w ∈ gB, w.onTables = true := by decide +kernel
theorem gb_in0 {D : va_G} {cl : List vw_C} {q : Nat × va_E} {H : Heap} (h : va_at D cl q H) : q.1 < H.size := h.lt
theorem gp_setP {D : va_G} {cl : List vw_C} {A : Nat → Prop} {kp : Nat} {ws : va_W} {a : Nat} {e0 e1 : va_E} {H H1 : Heap} (hP : va_P D cl ws H) (hD : va_D A ws) (hk : ws[kp]? = some (a, e0)) (hP1 : va_P D cl [(a, e1)] H1) (oq : ∀ z : Nat, z < H.size → z ≠ a → H1[z]? = H[z]?) : va_P D cl (ws.set kp (a, e1)) H1 := by
  intro k x hx
  rw [List.getElem?_set] at hx
  split at hx
  · split at hx
    · obtain rfl := Option.some.inj hx
      exact hP1 0 _ rfl
    · cases hx
  · rename_i hne
    have h1 := hP k x hx
    refine h1.kept (oq _ h1.lt (fun z => hne ?_))
    exact hD.1 kp k _ _ hk hx z.symm
theorem gp_setS {A : Nat → Prop} {H0 H H1 : Heap} {locs L : List Loc} {a : Nat} (hS : va_S A H0 H locs) (hz : H.size ≤ H1.size) (oq : ∀ z : Nat, z < H.size → z ≠ a → H1[z]? = H[z]?) (ha : A a) (hL : ∀ z ∈ L, z.base = a) : va_S A H0 H1 (locs ++ L) := by
  refine ⟨Nat.le_trans hS.1 hz, fun z h1 h2 => ?_, fun z hz => ?_⟩
  · rw [oq z (Nat.lt_of_lt_of_le h1 hS.1) (fun q => h2 (q ▸ ha))]
    exact hS.2.1 z h1 h2
  · rcases List.mem_append.mp hz with h | h
    · exact hS.2.2 z h
    · rw [hL z h]; exact ha
/-- what swap does -/
def gQs (D : va_G) (a : Nat) (cI : ClassId) (n : Nat) (F : Nat → Nat) (i v : Nat) : Array Value → State → Outcome → State → Prop := fun _ st oc t =>
  oc = .returned (some (.int (nI (F i)))) ∧ va_P D vwCl [(a, .inl (cI, n, .inl (gr (gu F i v))))] t.heap ∧ st.heap.size ≤ t.heap.size ∧ ∀ z : Nat, z < st.heap.size → z ≠ a → t.heap[z]? = st.heap[z]?
section GW
variable {p : Program} {l : Launch} {e : Env} {R : Room} {s : State} {m : MethodId} {args : Array Value} {below : List Frame} {meth : Method} {c : Code} {H : Heap} {locs : List Loc} {cells slots : Nat} {Q : State → Prop}
variable {y : MethodName} {bytes cc : ByteArray} {maxL nL mc ms n index pc : Nat} {ret : Option FieldType} {ws ws' : List Cond} {rm : Room} {Qc : Array Value → State → Outcome → State → Prop} {XC : String → State → State → Prop} {free : Addr → Prop} {Ts : List Cond} {own : String} {As rest st0 : List Value} {ls : Array Slot} {Bp : State → Prop} {b : Nat}
variable {D : va_G} {q : Nat → Nat} {cI : ClassId} {N N' : Nat → Nat} {S S' : Nat → Nat → Nat} {tr tr' : Nat → Nat} {A : Nat → Prop}
/-- a row of the object's is written by swap -/
theorem gx_swap {F : Nat → Nat} {i v k len kp : Nat} (G : CallFix p m c cc nL s args Ts own) (hM : Met l y ws rm (va_Pc [.ref (q k), .int (nI i), .int (nI v)] (fun U => rAt D (q k) cI len F U U.heap)) (gQs D (q k) cI len F i v) 0 0 (fun z => z = q k)) (cw : CallB R s args own index y bytes maxL ret ws rm 0 0 3 ∧ (Cond.static y).before args s = true)
    (hX : xAt D q cI N S tr A s H) (hS : va_S A s.heap H locs) (hkp : (xw q cI N S tr)[kp]? = some (q k, .inl (cI, len, .inl (gr F)))) (hnew : (xw q cI N S tr).set kp (q k, .inl (cI, len, .inl (gr (gu F i v)))) = xw q cI N S' tr')
    (hsz : ls.size = nL) (hst : st0 = [.int (nI v), .int (nI i), .ref (q k)] ++ rest) (hW : (rest.map fun v => v.category).sum ≤ 8) (hdg : decode cc pc = .ok (.invokestatic index, 3)) (hc : cells ≤ R.cells) (hs : slots ≤ R.slots)
    (kk : ∀ (H1 : Heap) (locs1 : List Loc), xAt D q cI N S' tr' A s H1 → va_S A s.heap H1 locs1 → W p l e R s m args below meth c H1 locs1 cells slots Q (F0 m (pc + 3) ls (.int (nI (F i)) :: rest))) : W p l e R s m args below meth c H locs cells slots Q (F0 m pc ls st0) := by
  intro T hT X
  obtain ⟨v9, st₀, t, T', L, h0, X', hL, e1, ⟨hv, hP1, hz, oq⟩, st⟩ := W.runS (As := [.ref (q k), .int (nI i), .int (nI v)]) (rest := rest) (g := F0 m pc ls st0) G hM cw ⟨rAt_blind, fun U hU hW => ⟨rfl, by show rAt _ _ _ _ _ U U.heap; rw [hU]; exact (hX.row kp hkp).moved hW⟩⟩ rfl rfl hsz hst (lv_room hW) hdg ⟨hc, hs⟩ T hT X
  cases hv
  rw [h0] at hz oq
  have hP2 := gp_setP hX.1 hX.2.2.1 hkp hP1 oq
  rw [hnew] at hP2
  have hD2 : va_D A (xw q cI N S' tr') := hnew ▸ (hX.2.2.1.set hkp)
  have ha : A (q k) := hX.2.2.1.2 kp _ hkp
  have hS2 := gp_setS hS hz oq ha hL
  obtain ⟨t2, a1, b1⟩ := kk t.heap _ ⟨hP2, hX.2.1, hD2, hX.2.2.2.kept (fun z h1 h2 => oq z h1 (fun q => h2 (q ▸ ha)))⟩ hS2 T' e1 X'
  exact ⟨t2, st t2 a1, b1⟩
/-- a number of the object's is written -/
theorem gx_put {k v : Nat} {fs : List Value} (G : gF p s m args meth c cc ret nL RX0 ws) (hZ0 : gZ A s s.heap) (hX : xAt D q cI N S tr A s H) (hS : va_S A s.heap H locs) (hin : ∀ w ∈ wsX00, w ∈ ws) (hk : k < 15)
    (hlink : Cond.fieldLink RX0 index "GamutChain" (TX0 k).2.1 (TX0 k).2.2.1 ∈ ws) (hsame : (TX0 k).1 = "GamutChain") (hfin : (TX0 k).2.2.2 = false) (hd : parseFieldDescriptor (TX0 k).2.2.1 = some .int) (hf : (xw q cI N S tr)[0]? = some (q 0, .inr (0, fs))) (hlen : k < fs.length)
    (hnew : (xw q cI N S tr).set 0 (q 0, .inr (0, fs.set k (.int (nI v)))) = xw q cI N' S tr) (hdg : decode cc pc = .ok (.putfield index, 3))
    (kk : ∀ (H1 : Heap) (locs1 : List Loc), xAt D q cI N' S tr A s H1 → va_S A s.heap H1 locs1 → W p l e R s m args below meth c H1 locs1 cells slots Q (F0 m (pc + 3) ls rest)) : W p l e R s m args below meth c H locs cells slots Q (F0 m pc ls (.int (nI v) :: .ref (q 0) :: rest)) := by
  refine va_put (D := D) (ci := 0) (v := .int (nI v)) (ty := .int) (C := RX0) (T := TX0) (N := 15) (A := A) (H0 := s.heap) G.1 G.2.1 G.2.2.2.2.2.1 hin tyX0 tyX0_ok nmX0 G.2.2.2.2.1 hX.2.1 hX.1 hX.2.2.1 hS 0 hf rfl k hk (G.2.2.2.2.2.1 _ hlink) (fun x h => by rw [hsame] at h; exact h) hfin hd rfl rfl hlen hdg (fun H1 locs1 hP hD hS1 => ?_)
  rw [hnew] at hP hD
  exact kk H1 locs1 ⟨hP, hX.2.1, hD, hZ0.kept (fun z h1 h2 => hS1.2.1 z h1 h2)⟩ hS1
/-- a written throw, in a method of the class without a table -/
theorem gx_throw {ik is ic : Nat} {cls text : String} (G : gF p s m args meth c cc ret nL RX0 ws) (hx0 : ∀ x ∈ c.exceptionTable.toList, False) (hl : l.stackTraces = false) (hcls : Bundle.fit cls = true) (hk : Cond.classLink RX0 ik cls ∈ ws) (hini : Cond.initialized cls ∈ ws)
    (hat : ∀ w ∈ (vx_atS RX0 ic cls gNm).filter goodWord, w ∈ ws) (hnot : ∀ w ∈ (vx_atS RX0 ic cls gNm).filter (fun w => !goodWord w), w ∈ gB) (hgood : ∀ w ∈ Cond.classLink RX0 ik cls :: Cond.initialized cls :: vx_atS RX0 ic cls gNm, vx_ot w = true)
    (htx : (is, text) ∈ gTx) (hZ : gZ A s s.heap) (hS : va_S A s.heap H locs) (hsz : ls.size = nL)
    (d0 : decode cc pc = .ok (.new ik, 3)) (d3 : decode cc (pc + 3) = .ok (.dup, 1)) (d4 : decode cc (pc + 4) = .ok (.ldc is, 2)) (d6 : decode cc (pc + 6) = .ok (.invokespecial ic, 3)) (d9 : decode cc (pc + 9) = .ok (.athrow, 1))
    (hRf : 5 < R.frames) (hRl : (rest.map fun v => v.category).sum + 82 ≤ R.locals) (hRc : cells + 1 ≤ R.cells) (hRs : slots + 6 ≤ R.slots)
    (hx : ∀ t : State, s.vm.Alike t.vm → H.size ≤ t.heap.size → (∀ q : Nat, q < H.size → t.heap[q]? = H[q]?) → XC cls s t) (hf : ∀ z ∈ locs, free z.base) (hc : cells + 1 ≤ mc) (hs : slots + 6 ≤ ms) :
    W p l e R s m args below meth c H locs cells slots (vx_MQ below Qc XC args s mc ms free) (F0 m pc ls rest) := by
  obtain ⟨sa, hsa⟩ := hZ.2.2.2.1 _ htx
  exact vx_throwS (names := gNm) (A := A) G.1 G.2.1 hl G.2.2.2.2.1 hcls (by decide +kernel) (G.2.2.2.2.2.1 _ hk) (G.2.2.2.2.2.1 _ hini) hsa (vx_hat (fun w h => G.2.2.2.2.2.1 w (hat w h)) hnot (fun w h => va_Nw.use (gB_tab w h) (hZ.2.2.1 w h))) hgood hZ.1 hZ.2.1 hS (hsz.trans G.2.2.2.1.symm) d0 d3 d4 d6 d9 (fun x hx => (hx0 x hx).elim) hRf hRl hRc hRs G.2.2.2.2.2.2 hx hf hc hs
end GW
section GS
/-- swap: a row is written, its value before is the answer -/
theorem mX0_swap (l : Launch) (D : va_G) (a : Nat) (cI : ClassId) (n : Nat) (F : Nat → Nat) (i v : Nat) (hi : i < n) (hn : n < 2 ^ 31 := by decide) : Met l yX0_swap wsX0_swap { frames := 0, cells := 0, slots := 0, locals := 0 } (va_Pc [.ref a, .int (nI i), .int (nI v)] (fun U => rAt D a cI n F U U.heap)) (gQs D a cI n F i v) 0 0 (fun z => z = a) := by
  refine gc_met [.ref a, .int (nI i), .int (nI v)] (by decide) rfl (Nat.le_of_ble_eq_true rfl) rfl ?_
  intro p e s m below meth c ls G hl hX
  have hD : va_D (fun z => z = a) [(a, .inl (cI, n, .inl (gr F)))] := ⟨fun i j p q hi hj _ => by
      have h1 := (List.getElem?_eq_some_iff.mp hi).1
      have h2 := (List.getElem?_eq_some_iff.mp hj).1
      simp only [List.length_singleton] at h1 h2
      omega, fun k q hk => by
      have h1 := (List.getElem?_eq_some_iff.mp hk).1
      simp only [List.length_singleton] at h1
      obtain rfl : k = 0 := by omega
      cases hk
      rfl⟩
  refine lv_aload_n G.1 G.2.1 dX0_swap_0 rfl (lv_at hl 0 rfl) ?_
  refine lv_ifnull G.1 G.2.1 dX0_swap_1 ?_
  refine lv_iload_n G.1 G.2.1 dX0_swap_4 rfl (lv_at hl 1 rfl) ?_
  refine gn_ltz G (by omega) (tgt := 14) dX0_swap_5 (by decide) ?_
  refine lv_iload_n G.1 G.2.1 dX0_swap_8 rfl (lv_at hl 1 rfl) ?_
  refine lv_aload_n G.1 G.2.1 dX0_swap_9 rfl (lv_at hl 0 rfl) ?_
  refine va_alen (D := D) G.1 G.2.1 hX.2 hX.1 0 0 rfl rfl (v := nI n) rfl dX0_swap_10 ?_
  refine gn_lt G (by omega) (by omega) (tgt := 16) dX0_swap_11 (by decide) (fun h_11 => ?_) (fun h_11 => absurd h_11 (by omega))
  refine lv_aload_n G.1 G.2.1 dX0_swap_16 rfl (lv_at hl 0 rfl) ?_
  refine lv_iload_n G.1 G.2.1 dX0_swap_17 rfl (lv_at hl 1 rfl) ?_
  refine va_iald (D := D) G.1 G.2.1 hX.2 hX.1 0 0 (f := gr F) rfl rfl (vp_in_nI hi hn) dX0_swap_18 ?_
  rw [nI_clamp (by omega)]
  refine lv_istore_n (lv' := [(3, .int (nI (F i))), (0, .ref a), (1, .int (nI i)), (2, .int (nI v))]) G.1 G.2.1 dX0_swap_19 rfl hl (by decide) rfl (fun ls hl => ?_)
  refine lv_aload_n G.1 G.2.1 dX0_swap_20 rfl (lv_at hl 1 rfl) ?_
  refine lv_iload_n G.1 G.2.1 dX0_swap_21 rfl (lv_at hl 2 rfl) ?_
  refine lv_iload_n G.1 G.2.1 dX0_swap_22 rfl (lv_at hl 3 rfl) ?_
  refine va_iast (D := D) (A := fun z => z = a) (H0 := s.heap) G.1 G.2.1 hX.2 hX.1 hD va_S.rf 0 0 (f := gr F) rfl rfl (vp_in_nI hi hn) dX0_swap_23 (fun H1 locs1 hP1 _ hS1 => ?_)
  rw [nI_clamp (by omega), gr_upd] at hP1
  refine lv_iload_n G.1 G.2.1 dX0_swap_24 rfl (lv_at hl 0 rfl) ?_
  exact W.iret G.1 G.2.1 G.2.2.1 (fun t ht hW => ⟨rfl, by rw [ht]; exact hP1, by rw [ht]; exact hS1.1, fun z h1 h2 => by rw [ht]; exact hS1.2.1 z h1 h2⟩) hS1.2.2 dX0_swap_25 G.2.2.2.2.2.2
end GS
/-- what a public call of the class does when it returns, and when it throws -/
def gQx (D : va_G) (q : Nat → Nat) (cI : ClassId) (post : Int32 → (Nat → Nat) → (Nat → Nat → Nat) → Prop) (A : Nat → Prop) : Array Value → State → Outcome → State → Prop := fun _ st oc t =>
  ∃ (r : Int32) (N' : Nat → Nat) (S' : Nat → Nat → Nat) (tr' : Nat → Nat), oc = .returned (some (.int r)) ∧ post r N' S' ∧ va_P D vwCl (xw q cI N' S' tr') t.heap ∧ va_F A st t
def gXx (D : va_G) (q : Nat → Nat) (cI : ClassId) (N : Nat → Nat) (S : Nat → Nat → Nat) (A : Nat → Prop) (P : String → Prop) : String → State → State → Prop := fun E st t =>
  P E ∧ (∃ tr' : Nat → Nat, va_P D vwCl (xw q cI N S tr') t.heap) ∧ va_F A st t
theorem gXx_of {D : va_G} {q : Nat → Nat} {cI : ClassId} {N : Nat → Nat} {S : Nat → Nat → Nat} {tr : Nat → Nat} {A : Nat → Prop} {s t : State} {H : Heap} {locs : List Loc} (hX : xAt D q cI N S tr A s H) (hS : va_S A s.heap H locs) (hz : H.size ≤ t.heap.size) (hk : ∀ z : Nat, z < H.size → t.heap[z]? = H[z]?) :
    (∃ tr' : Nat → Nat, va_P D vwCl (xw q cI N S tr') t.heap) ∧ va_F A s t :=
  ⟨⟨tr, fun k x hx => (hX.1 k x hx).kept (hk _ (hX.1 k x hx).lt)⟩, Nat.le_trans hS.1 hz, fun z h1 h2 => by rw [hk z (Nat.lt_of_lt_of_le h1 hS.1)]; exact hS.2.1 z h1 h2⟩
theorem gQx_of {D : va_G} {q : Nat → Nat} {cI : ClassId} {N' : Nat → Nat} {S' : Nat → Nat → Nat} {tr' : Nat → Nat} {A : Nat → Prop} {s t : State} {H : Heap} {locs : List Loc} {post : Int32 → (Nat → Nat) → (Nat → Nat → Nat) → Prop} {r : Int32} {a : Array Value} (hX : xAt D q cI N' S' tr' A s H) (hS : va_S A s.heap H locs) (ht : t.heap = H) (hp : post r N' S') : gQx D q cI post A a s (.returned (some (.int r))) t :=
  ⟨r, N', S', tr', rfl, hp, by rw [ht]; exact hX.1, hS.F ht⟩
