/-! THE LAYER: numbers as naturals, the worlds of the class and of the reference, calls that only read, calls that check and throw -/
/-- a row's contents as naturals -/
def gr (F : Nat → Nat) : Nat → Int32 := fun j => nI (F j)
def gu (F : Nat → Nat) (k v : Nat) : Nat → Nat := fun j => if j = k then v else F j
theorem gr_upd (F : Nat → Nat) (k v : Nat) : upd (gr F) k (nI v) = gr (gu F k v) := by
  funext j
  unfold upd gr gu
  split <;> rfl
theorem gu_same (F : Nat → Nat) (k v : Nat) : gu F k v k = v := by simp [gu]
theorem gu_other (F : Nat → Nat) {k j : Nat} (v : Nat) (h : j ≠ k) : gu F k v j = F j := by simp [gu, h]
def gs (S : Nat → Nat → Nat) (k : Nat) (F : Nat → Nat) : Nat → Nat → Nat := fun j => if j = k then F else S j
theorem gs_same (S : Nat → Nat → Nat) (k : Nat) (F : Nat → Nat) : gs S k F k = F := by simp [gs]
theorem gs_other (S : Nat → Nat → Nat) {k j : Nat} (F : Nat → Nat) (h : j ≠ k) : gs S k F j = S j := by simp [gs, h]
/-- an int in the range 0 to n - 1 -/
def gb (x : Int32) (n : Nat) : Bool := decide (0 ≤ x.toInt ∧ x.toInt < (n : Int))
theorem gb_neg {x : Int32} {n : Nat} (h : x < 0) : gb x n = false := by
  have h1 : x.toInt < 0 := by
    have h2 := Int32.lt_iff_toInt_lt.mp h
    simpa using h2
  simp only [gb, decide_eq_false_iff_not]
  omega
theorem gb_big {x : Int32} {n : Nat} (hn : n < 2 ^ 31) (h : nI n ≤ x) : gb x n = false := by
  have h1 := Int32.le_iff_toInt_le.mp h
  rw [nI_toInt hn] at h1
  simp only [gb, decide_eq_false_iff_not]
  omega
theorem gb_in {x : Int32} {n : Nat} (hn : n < 2 ^ 31) (h0 : ¬ x < 0) (h : x < nI n) : gb x n = true := by
  have h1 := Int32.lt_iff_toInt_lt.mp h
  rw [nI_toInt hn] at h1
  have h2 : ¬ x.toInt < 0 := fun z => h0 (Int32.lt_iff_toInt_lt.mpr (by simpa using z))
  simp only [gb, decide_eq_true_eq]
  omega
theorem gb_of {x : Int32} {n : Nat} (hn : n ≤ 2 ^ 31) (h : gb x n = true) : ∃ j : Nat, j < n ∧ x = nI j := by
  simp only [gb, decide_eq_true_eq] at h
  refine ⟨x.toInt.toNat, by omega, ?_⟩
  have h3 : (nI x.toInt.toNat).toInt = x.toInt := by
    rw [nI_toInt (by omega)]
    omega
  exact (Int32.toInt_inj.mp h3).symm
theorem gb_nI {j n : Nat} (hj : j < 2 ^ 31) : gb (nI j) n = decide (j < n) := by
  unfold gb
  rw [nI_toInt hj]
  apply decide_eq_decide.mpr
  omega
theorem gi_le {x : Int32} (h : ¬ x < 0) (h2 : x ≤ nI 255) : gb x 256 = true := by
  have h1 := Int32.le_iff_toInt_le.mp h2
  rw [nI_toInt (by decide)] at h1
  have h3 : ¬ x.toInt < 0 := fun z => h (Int32.lt_iff_toInt_lt.mpr (by simpa using z))
  simp only [gb, decide_eq_true_eq]
  omega
theorem gi_nle {x : Int32} (h2 : ¬ x ≤ nI 255) : gb x 256 = false := by
  have h1 : ¬ x.toInt ≤ (nI 255).toInt := fun z => h2 (Int32.le_iff_toInt_le.mpr z)
  rw [nI_toInt (by decide)] at h1
  simp only [gb, decide_eq_false_iff_not]
  omega
/-- the world of a GamutChain: its object and its eleven rows -/
def xw (q : Nat → Nat) (cI : ClassId) (N : Nat → Nat) (S : Nat → Nat → Nat) (tr : Nat → Nat) : va_W := [
  (q 0, .inr (0, [.int (nI (N 0)), .ref (q 1), .ref (q 2), .ref (q 3), .ref (q 4), .int (nI (N 5)), .ref (q 6), .ref (q 7), .ref (q 8), .int (nI (N 9)), .int (nI (N 10)), .ref (q 11), .ref (q 12), .ref (q 13), .ref (q 14)])),
  (q 1, .inl (cI, 120, .inl (gr (S 1)))), (q 2, .inl (cI, 24, .inl (gr (S 2)))), (q 3, .inl (cI, 24, .inl (gr (S 3)))), (q 4, .inl (cI, 8, .inl (gr (S 4)))),
  (q 6, .inl (cI, 36, .inl (gr (S 6)))), (q 7, .inl (cI, 6, .inl (gr (S 7)))), (q 8, .inl (cI, 90, .inl (gr (S 8)))), (q 11, .inl (cI, 15, .inl (gr tr))),
  (q 12, .inl (cI, 18, .inl (gr (S 12)))), (q 13, .inl (cI, 18, .inl (gr (S 13)))), (q 14, .inl (cI, 9, .inl (gr (S 14))))]
def gB : List Cond := [.declares (Bundle.initS "java/lang/RuntimeException"), .declares (Bundle.initS "java/lang/Exception"), .declares (Bundle.initS Bundle.tN), .castable "java/lang/IndexOutOfBoundsException" "java/lang/IndexOutOfBoundsException", .castable "java/lang/IllegalArgumentException" "java/lang/IllegalArgumentException", .castable "java/lang/IllegalStateException" "java/lang/IllegalStateException"]
def gTx : List (Nat × String) := [(49, "there are 8 profiles"), (163, "no such profile"), (167, "no such band"), (71, "no such place"), (173, "out of 0 to 255"), (179, "the profile is held"), (82, "the greatest is below the least"), (85, "no such way"), (97, "there are 6 chains"), (165, "no such chain"), (181, "the chain is held"), (109, "the chain has 6 profiles"), (111, "the chain has no profile"), (128, "the gap is too great"), (137, "the chain is not joined"), (169, "no such pixel"), (171, "no such ink"), (158, "no such set of inks")]
/-- what a throw needs of the start: two statics, six words, the texts, and which class isn't another -/
def gZ (A : Nat → Prop) (U : State) (H : Heap) : Prop := vx_Zq Bundle.tN "UNASSIGNED_STACK" Bundle.steD A U H ∧ vx_Zq Bundle.tN "SUPPRESSED_SENTINEL" Bundle.listD A U H ∧ (∀ w ∈ gB, va_Nw w U) ∧ (∀ x ∈ gTx, ∃ a, vk_R RX0 x.1 x.2 a U) ∧
  va_Nc "java/lang/IllegalArgumentException" "java/lang/IndexOutOfBoundsException" U ∧ va_Nc "java/lang/IllegalStateException" "java/lang/IndexOutOfBoundsException" U ∧ va_Nc "java/lang/IllegalStateException" "java/lang/IllegalArgumentException" U
theorem gZ.moved {A : Nat → Prop} {s U : State} {H : Heap} (hW : s.WarmedH U.vm) (h : gZ A s H) : gZ A U H := by
  obtain ⟨h1, h2, h3, h4, h5, h6, h7⟩ := h
  refine ⟨h1.moved hW.alike, h2.moved hW.alike, ?_, fun x hx => ?_, h5.moved hW.alike, h6.moved hW.alike, h7.moved hW.alike⟩
  · simp only [gB, List.forall_mem_cons] at h3 ⊢
    exact ⟨h3.1.warmD hW, h3.2.1.warmD hW, h3.2.2.1.warmD hW, h3.2.2.2.1.warmC hW, h3.2.2.2.2.1.warmC hW, h3.2.2.2.2.2.1.warmC hW, fun _ z => nomatch z⟩
  · obtain ⟨a, ha⟩ := h4 x hx
    exact ⟨a, ha.warm hW⟩
theorem gZ.kept {A : Nat → Prop} {U : State} {H H1 : Heap} (h : gZ A U H) (hq : ∀ a : Nat, a < H.size → ¬ A a → H1[a]? = H[a]?) : gZ A U H1 := ⟨h.1.kept hq, h.2.1.kept hq, h.2.2⟩
theorem gZ.narrow {A B : Nat → Prop} {U : State} {H : Heap} (h : gZ A U H) (hAB : ∀ q, B q → A q) : gZ B U H := ⟨h.1.narrow hAB, h.2.1.narrow hAB, h.2.2⟩
theorem gZ.none {A : Nat → Prop} {U : State} {H : Heap} (h : gZ A U H) : gZ (fun _ => False) U H := h.narrow (fun _ z => z.elim)
/-- a GamutChain in the heap -/
def xAt (D : va_G) (q : Nat → Nat) (cI : ClassId) (N : Nat → Nat) (S : Nat → Nat → Nat) (tr : Nat → Nat) (A : Nat → Prop) (U : State) (H : Heap) : Prop := va_P D vwCl (xw q cI N S tr) H ∧ va_K D vwCl [(cI, .int)] U ∧ va_D A (xw q cI N S tr) ∧ gZ A U H
theorem xAt.moved {D : va_G} {q : Nat → Nat} {cI : ClassId} {N : Nat → Nat} {S : Nat → Nat → Nat} {tr : Nat → Nat} {A : Nat → Prop} {s U : State} {H : Heap} (hW : s.WarmedH U.vm) (h : xAt D q cI N S tr A s H) : xAt D q cI N S tr A U H := ⟨h.1, h.2.1.moved hW.alike, h.2.2.1, h.2.2.2.moved hW⟩
/-- one row in the heap -/
def rAt (D : va_G) (a : Nat) (cI : ClassId) (n : Nat) (F : Nat → Nat) (U : State) (H : Heap) : Prop := va_P D vwCl [(a, .inl (cI, n, .inl (gr F)))] H ∧ va_K D vwCl [(cI, .int)] U
theorem rAt.moved {D : va_G} {a : Nat} {cI : ClassId} {n : Nat} {F : Nat → Nat} {s U : State} {H : Heap} (hW : s.WarmedH U.vm) (h : rAt D a cI n F s H) : rAt D a cI n F U H := ⟨h.1, h.2.moved hW.alike⟩
theorem xAt.row {D : va_G} {q : Nat → Nat} {cI : ClassId} {N : Nat → Nat} {S : Nat → Nat → Nat} {tr : Nat → Nat} {A : Nat → Prop} {s : State} {H : Heap} (h : xAt D q cI N S tr A s H) (k : Nat) {a n : Nat} {F : Nat → Nat} (hk : (xw q cI N S tr)[k]? = some (a, .inl (cI, n, .inl (gr F)))) : rAt D a cI n F s H := ⟨h.1.sub [k] (by simp [hk]), h.2.1⟩
/-- what a thrown exception leaves: all that was there -/
def gX (P : String → Prop) : String → State → State → Prop := fun E st t => P E ∧ st.heap.size ≤ t.heap.size ∧ ∀ q : Nat, q < st.heap.size → t.heap[q]? = st.heap[q]?
section GC
variable {p : Program} {l : Launch} {e : Env} {R : Room} {s : State} {m : MethodId} {args : Array Value} {below : List Frame} {meth : Method} {c : Code} {H : Heap} {locs : List Loc} {cells slots : Nat} {Q : State → Prop}
variable {y : MethodName} {bytes cc : ByteArray} {maxL nL mc ms n index pc : Nat} {ret : Option FieldType} {ws ws' : List Cond} {rm : Room} {Qc : Array Value → State → Outcome → State → Prop} {XC : String → State → State → Prop} {free : Addr → Prop} {Ts : List Cond} {own : String} {As rest st0 : List Value} {ls : Array Slot} {Bp : State → Prop} {b : Nat}
/-- what stands in a method: the machine, the bytes, the answer's type, the locals' number, the class, the words, no lock -/
def gF (p : Program) (s : State) (m : MethodId) (args : Array Value) (meth : Method) (c : Code) (cc : ByteArray) (ret : Option FieldType) (nL : Nat) (own : String) (ws : List Cond) : Prop :=
  p.tables.exec = Jvm.exec ∧ c.code = cc ∧ meth.sig.returnType = ret ∧ c.maxLocals = nL ∧ s.vm.findClass own = some m.cls ∧ (∀ w ∈ ws, w.before args s = true) ∧ meth.locks = false
theorem gF.fix (G : gF p s m args meth c cc ret nL own ws) : CallFix p m c cc nL s args ws own := ⟨G.1, G.2.1, G.2.2.2.1, G.2.2.2.2.1, G.2.2.2.2.2.1⟩
theorem gc_blind {av : List Value} (h : ∀ (U : State) (g : JFrame) (mk : MethodId) (a : Array Value), Bp U → Bp (U.calling g mk a)) : FrameBlind (va_Pc av Bp) := fun a U g mk hq => ⟨hq.1, h U g mk a hq.2⟩
theorem gc_met (av : List Value) (hy : plainName y.cls = true) (hw : ws = Cond.code y cc nL ret :: ws') (hlen : (lg_sl av).length ≤ nL) {lv0 : List (Nat × Value)} (hlv : lv_args 0 av = lv0)
    (body : ∀ (p : Program) (e : Env) (s : State) (m : MethodId) (below : List Frame) (meth : Method) (c : Code) (ls : Array Slot), gF p s m av.toArray meth c cc ret nL y.cls ws → lv_has ls nL lv0 → Bp s →
      W p l e rm s m av.toArray below meth c s.heap [] 0 0 (MQ below Qc av.toArray s mc ms free) (F0 m 0 ls [])) : Met l y ws rm (va_Pc av Bp) Qc mc ms free := by
  refine Met.ofW (cc := cc) (maxL := nL) (ret := ret) hy hw ?_
  intro p e s m args below meth c s₁ B hml hv
  obtain ⟨rfl, hX⟩ := hv
  have hl := lv_entry av (n := nL) hlen
  rw [lg_entry_eq]
  rw [hlv] at hl
  exact body p e s m below meth c _ ⟨B.exec, B.bytes, B.returns, hml, findClass_of_methodNamed B.named, atoms_spec (ws := ws) B.pre, B.notSynchronized⟩ hl hX
/-- the same for a method of a class that has natives of other names -/
theorem gc_metF (av : List Value) (hy : plainFor y = true) (hw : ws = Cond.code y cc nL ret :: ws') (hlen : (lg_sl av).length ≤ nL) {lv0 : List (Nat × Value)} (hlv : lv_args 0 av = lv0)
    (body : ∀ (p : Program) (e : Env) (s : State) (m : MethodId) (below : List Frame) (meth : Method) (c : Code) (ls : Array Slot), gF p s m av.toArray meth c cc ret nL y.cls ws → lv_has ls nL lv0 → Bp s →
      W p l e rm s m av.toArray below meth c s.heap [] 0 0 (MQ below Qc av.toArray s mc ms free) (F0 m 0 ls [])) : Met l y ws rm (va_Pc av Bp) Qc mc ms free := by
  refine MetFree.of_bodySF (code := cc) (maxLocals := nL) (ret := ret) hy ?_ ?_
  · intro args s m h hn
    obtain ⟨meth, c, h1, h2, h3, h4, h5, h6, -, -⟩ := Cond.code_spec hn (atoms_spec (ws := ws) h _ (by rw [hw]; exact List.mem_cons_self))
    exact ⟨meth, c, h1, h2, h3, h4, h5, h6⟩
  · intro p e s m args below meth c s₁ B hml hP _
    have hh0 : s₁.heap = s.heap := by rw [B.state]; rfl
    obtain ⟨rfl, hX⟩ := hP
    have hl := lv_entry av (n := nL) hlen
    rw [hlv] at hl
    have hb := body p e s m below meth c _ ⟨B.exec, B.bytes, B.returns, hml, findClass_of_methodNamed B.named, atoms_spec (ws := ws) B.pre, B.notSynchronized⟩ hl hX
    rw [← lg_entry_eq] at hb
    obtain ⟨t, a1, o, b1, b2, b3⟩ := hb s₁ hh0 (Stand.of_body B)
    exact ⟨t, o, a1, b1, b2, ⟨b3.1, b3.2⟩⟩
theorem gc_vxmet (av : List Value) (hy : plainName y.cls = true) (hw : ws = Cond.code y cc nL ret :: ws') (hlen : (lg_sl av).length ≤ nL) {lv0 : List (Nat × Value)} (hlv : lv_args 0 av = lv0)
    (body : ∀ (p : Program) (e : Env) (s : State) (m : MethodId) (below : List Frame) (meth : Method) (c : Code) (ls : Array Slot), gF p s m av.toArray meth c cc ret nL y.cls ws → (∀ x ∈ c.exceptionTable.toList, False) → lv_has ls nL lv0 → Bp s →
      W p l e rm s m av.toArray below meth c s.heap [] 0 0 (vx_MQ below Qc XC av.toArray s mc ms free) (F0 m 0 ls [])) : vx_Met l y ws rm (va_Pc av Bp) Qc XC mc ms free := by
  refine vx_ofW (cc := cc) (maxL := nL) (ret := ret) hy hw ?_
  intro p e s m args below meth c s₁ B hml hx0 hv
  obtain ⟨rfl, hX⟩ := hv
  have hl := lv_entry av (n := nL) hlen
  rw [lg_entry_eq]
  rw [hlv] at hl
  exact body p e s m below meth c _ ⟨B.exec, B.bytes, B.returns, hml, findClass_of_methodNamed B.named, atoms_spec (ws := ws) B.pre, B.notSynchronized⟩ hx0 hl hX
/-- a call of an object's own method that only reads -/
theorem gc_v {post : Int32 → Prop} {C : String} (G : CallFix p m c cc nL s args Ts own) (hM : Met l y ws rm (va_Pc (.ref b :: As) Bp) (vp_Si post) 0 0 (fun _ => False)) (cw : CallW R s args own C index y bytes maxL ret ws rm 0 0 n)
    (hbl : FrameBlind (va_Pc (.ref b :: As) Bp)) (hrc : ∃ cellB : Cell, H[b]? = some cellB ∧ cellB.vm.isStatics = false ∧ s.vm.findClass C = some cellB.cls) (hB : ∀ U : State, U.heap = H → s.WarmedH U.vm → Bp U)
    (hn : As.length = n) (hsz : ls.size = nL) (hst : st0 = As.reverse ++ .ref b :: rest) (hW : (rest.map fun v => v.category).sum ≤ 8) (hdg : decode cc pc = .ok (.invokevirtual index, 3)) (hc : cells ≤ R.cells) (hs : slots ≤ R.slots)
    (kk : ∀ r : Int32, post r → W p l e R s m args below meth c H locs cells slots Q (F0 m (pc + 3) ls (.int r :: rest))) : W p l e R s m args below meth c H locs cells slots Q (F0 m pc ls st0) :=
  vp_callSi (W.runV G hM cw ⟨hbl, hrc, fun U hU hW => ⟨rfl, hB U hU hW⟩⟩ rfl hn hsz hst (lv_room hW) hdg ⟨hc, hs⟩) kk
/-- a static call that only reads -/
theorem gc_s {post : Int32 → Prop} (G : CallFix p m c cc nL s args Ts own) (hM : Met l y ws rm (va_Pc As Bp) (vp_Si post) 0 0 (fun _ => False)) (cw : CallB R s args own index y bytes maxL ret ws rm 0 0 n ∧ (Cond.static y).before args s = true)
    (hbl : FrameBlind (va_Pc As Bp)) (hB : ∀ U : State, U.heap = H → s.WarmedH U.vm → Bp U)
    (hn : As.length = n) (hsz : ls.size = nL) (hst : st0 = As.reverse ++ rest) (hW : (rest.map fun v => v.category).sum ≤ 8) (hdg : decode cc pc = .ok (.invokestatic index, 3)) (hc : cells ≤ R.cells) (hs : slots ≤ R.slots)
    (kk : ∀ r : Int32, post r → W p l e R s m args below meth c H locs cells slots Q (F0 m (pc + 3) ls (.int r :: rest))) : W p l e R s m args below meth c H locs cells slots Q (F0 m pc ls st0) :=
  vp_callSi (W.runS G hM cw ⟨hbl, fun U hU hW => ⟨rfl, hB U hU hW⟩⟩ rfl hn hsz hst (lv_room hW) hdg ⟨hc, hs⟩) kk
theorem gc_tight {T T' : State} {k2 n2 : Nat} {locs2 : List Loc} (X : Stand p l e R s m args below meth c T locs2 cells slots) (X' : Stand p l e R s m args below meth c T' locs k2 n2) (h : T'.heap = T.heap) : Stand p l e R s m args below meth c T' locs cells slots := by
  have h1 := X.same
  have h2 := X'.same
  have e1 : (T'.setVm s.vm).heap = (T.setVm s.vm).heap := h
  obtain ⟨a1, a2, a3, a4, a5, a6⟩ := h1
  obtain ⟨b1, b2, b3, b4, b5, b6⟩ := h2
  exact { X' with same := ⟨b1, b2, by rw [e1]; exact a3, b4, by rw [e1]; exact a5, b6⟩ }
/-- a call that checks: it returns with nothing changed, or throws with one cell more -/
theorem gc_need {post : Unit → Prop} {PX : String → Prop} {a : Array Value} (hr : vx_Run p l e R s m args below meth c H locs cells slots 1 6 (F0 m pc ls st0) rest (va_Sv post a) (gX PX) (fun _ => False))
    (kx : ∀ (E : String) (ce : Cell) (q9 : Addr) (H1 : Heap), PX E → H.size ≤ H1.size → (∀ q : Nat, q < H.size → H1[q]? = H[q]?) → H1[q9]? = some ce → ce.vm = .none → s.vm.findClass E = some ce.cls → vx_W p l e R s m args below meth c H1 locs (cells + 1) (slots + 6) Q (F0 m pc ls rest) q9)
    (kk : post () → W p l e R s m args below meth c H locs cells slots Q (F0 m (pc + 3) ls rest)) : W p l e R s m args below meth c H locs cells slots Q (F0 m pc ls st0) := by
  intro T hT X
  rcases hr T hT X with ⟨v, st₀, t, T', L, h0, X', hL, e1, e2, ⟨hv, hp, hh⟩, st⟩ | ⟨q, st₀, t, T', L, E, ce, h0, X', hL, e1, e2, ⟨hp, hz, hk⟩, hce, hcv, hcl, st⟩
  · cases hv
    have e9 : T'.heap = H := by rw [e1, hh, h0]
    have X2 := Stand.forget (locs := locs) X' (fun q h => (hL q h).elim)
    obtain ⟨t2, a1, b1⟩ := kk hp T' e9 (gc_tight X X2 (by rw [e9, hT]))
    exact ⟨t2, st t2 a1, b1⟩
  · rw [h0] at hz hk
    have X2 := Stand.forget (locs := locs) X' (fun q h => (hL q h).elim)
    obtain ⟨t2, a1, b1⟩ := kx E ce q T'.heap hp (by rw [e1]; exact hz) (fun q h => by rw [e1]; exact hk q h) (by rw [e1]; exact hce) hcv hcl T' rfl X2
    exact ⟨t2, st.trans a1, b1⟩
/-- .. in a method without a table: what it throws goes on -/
theorem gc_needT {post : Unit → Prop} {PX : String → Prop} {a : Array Value} (hr : vx_Run p l e R s m args below meth c H locs cells slots 1 6 (F0 m pc ls st0) rest (va_Sv post a) (gX PX) (fun _ => False)) (hx0 : ∀ x ∈ c.exceptionTable.toList, False) (hlocks : meth.locks = false)
    (hXC : ∀ (E : String) (t : State), PX E → H.size ≤ t.heap.size → (∀ q : Nat, q < H.size → t.heap[q]? = H[q]?) → s.vm.Alike t.vm → XC E s t) (hf : ∀ z ∈ locs, free z.base) (hc : cells + 1 ≤ mc) (hs : slots + 6 ≤ ms)
    (kk : post () → W p l e R s m args below meth c H locs cells slots (vx_MQ below Qc XC args s mc ms free) (F0 m (pc + 3) ls rest)) : W p l e R s m args below meth c H locs cells slots (vx_MQ below Qc XC args s mc ms free) (F0 m pc ls st0) :=
  gc_need hr (fun E ce q9 H1 hp hz hk hce hcv hcl => vx_out (fun x hx => (hx0 x hx).elim) hlocks hce hcv hcl (fun t ht hal => hXC E t hp (by rw [ht]; exact hz) (fun q h => by rw [ht]; exact hk q h) hal) hf hc hs) kk
end GC
section GN
variable {p : Program} {l : Launch} {e : Env} {R : Room} {s : State} {m : MethodId} {args : Array Value} {below : List Frame} {meth : Method} {c : Code} {H : Heap} {locs : List Loc} {cells slots : Nat} {Q : State → Prop}
variable {cc : ByteArray} {nL pc index : Nat} {ret : Option FieldType} {ws : List Cond} {own : String} {rest : List Value} {ls : Array Slot} {a b : Nat}
theorem gn_iadd (G : gF p s m args meth c cc ret nL own ws) (d : decode cc pc = .ok (.iadd, 1)) (k : W p l e R s m args below meth c H locs cells slots Q (F0 m (pc + 1) ls (.int (nI (a + b)) :: rest))) : W p l e R s m args below meth c H locs cells slots Q (F0 m pc ls (.int (nI b) :: .int (nI a) :: rest)) :=
  lv_iadd G.1 G.2.1 d (by rw [nI_add]; exact k)
theorem gn_imul (G : gF p s m args meth c cc ret nL own ws) (d : decode cc pc = .ok (.imul, 1)) (k : W p l e R s m args below meth c H locs cells slots Q (F0 m (pc + 1) ls (.int (nI (a * b)) :: rest))) : W p l e R s m args below meth c H locs cells slots Q (F0 m pc ls (.int (nI b) :: .int (nI a) :: rest)) :=
  lv_imul G.1 G.2.1 d (by rw [pk_mul]; exact k)
theorem gn_isub (G : gF p s m args meth c cc ret nL own ws) (d : decode cc pc = .ok (.isub, 1)) (h : b ≤ a) (k : W p l e R s m args below meth c H locs cells slots Q (F0 m (pc + 1) ls (.int (nI (a - b)) :: rest))) : W p l e R s m args below meth c H locs cells slots Q (F0 m pc ls (.int (nI b) :: .int (nI a) :: rest)) :=
  lv_isub G.1 G.2.1 d (by rw [pk_sub h]; exact k)
theorem gn_idiv (G : gF p s m args meth c cc ret nL own ws) (d : decode cc pc = .ok (.idiv, 1)) (ha : a < 2 ^ 31) (h0 : 0 < b) (hb : b < 2 ^ 31) (k : W p l e R s m args below meth c H locs cells slots Q (F0 m (pc + 1) ls (.int (nI (a / b)) :: rest))) : W p l e R s m args below meth c H locs cells slots Q (F0 m pc ls (.int (nI b) :: .int (nI a) :: rest)) :=
  lv_idiv G.1 G.2.1 d (nI_ne0 h0 hb) (by rw [pk_div ha h0 hb]; exact k)
theorem gn_iinc (G : gF p s m args meth c cc ret nL own ws) {i k n : Nat} {lv lv' : List (Nat × Value)} (d : decode cc pc = .ok (.iinc i (n : Int), 3)) (h : lv_has ls nL lv) (hk : lv[k]? = some (i, .int (nI a))) (hn : i < nL) (hl : (i, Value.int (nI (a + n))) :: lv.filter (fun q => !(q.1 == i) && !(q.1 + 1 == i && q.2.category == 2)) = lv')
    (kk : ∀ ls' : Array Slot, lv_has ls' nL lv' → W p l e R s m args below meth c H locs cells slots Q (F0 m (pc + 3) ls' rest)) : W p l e R s m args below meth c H locs cells slots Q (F0 m pc ls rest) :=
  lv_iinc G.1 G.2.1 d h hk (by rw [show Int32.ofInt (n : Int) = nI n from rfl, nI_add]) hn hl kk
theorem gn_lt (G : gF p s m args meth c cc ret nL own ws) (ha : a < 2 ^ 31) (hb : b < 2 ^ 31) {off : Int} {tgt : Nat} (d : decode cc pc = .ok (.if_icmp .lt off, 3)) (ht : (pc : Int) + off = (tgt : Int))
    (kt : a < b → W p l e R s m args below meth c H locs cells slots Q (F0 m tgt ls rest)) (kf : b ≤ a → W p l e R s m args below meth c H locs cells slots Q (F0 m (pc + 3) ls rest)) : W p l e R s m args below meth c H locs cells slots Q (F0 m pc ls (.int (nI b) :: .int (nI a) :: rest)) :=
  lv_icmp_lt G.1 G.2.1 d ht (fun h => kt ((nI_ltI ha hb).mp h)) (fun h => kf (by have h2 : ¬ (a < b) := fun z => h ((nI_ltI ha hb).mpr z); omega))
theorem gn_ge (G : gF p s m args meth c cc ret nL own ws) (ha : a < 2 ^ 31) (hb : b < 2 ^ 31) {off : Int} {tgt : Nat} (d : decode cc pc = .ok (.if_icmp .ge off, 3)) (ht : (pc : Int) + off = (tgt : Int))
    (kt : b ≤ a → W p l e R s m args below meth c H locs cells slots Q (F0 m tgt ls rest)) (kf : a < b → W p l e R s m args below meth c H locs cells slots Q (F0 m (pc + 3) ls rest)) : W p l e R s m args below meth c H locs cells slots Q (F0 m pc ls (.int (nI b) :: .int (nI a) :: rest)) :=
  lv_icmp_ge G.1 G.2.1 d ht (fun h => kt ((nI_leI hb ha).mp h)) (fun h => kf (by have h2 : ¬ (b ≤ a) := fun z => h ((nI_leI hb ha).mpr z); omega))
theorem gn_le (G : gF p s m args meth c cc ret nL own ws) (ha : a < 2 ^ 31) (hb : b < 2 ^ 31) {off : Int} {tgt : Nat} (d : decode cc pc = .ok (.if_icmp .le off, 3)) (ht : (pc : Int) + off = (tgt : Int))
    (kt : a ≤ b → W p l e R s m args below meth c H locs cells slots Q (F0 m tgt ls rest)) (kf : b < a → W p l e R s m args below meth c H locs cells slots Q (F0 m (pc + 3) ls rest)) : W p l e R s m args below meth c H locs cells slots Q (F0 m pc ls (.int (nI b) :: .int (nI a) :: rest)) :=
  lv_icmp_le G.1 G.2.1 d ht (fun h => kt ((nI_leI ha hb).mp h)) (fun h => kf (by have h2 : ¬ (a ≤ b) := fun z => h ((nI_leI ha hb).mpr z); omega))
theorem gn_gt (G : gF p s m args meth c cc ret nL own ws) (ha : a < 2 ^ 31) (hb : b < 2 ^ 31) {off : Int} {tgt : Nat} (d : decode cc pc = .ok (.if_icmp .gt off, 3)) (ht : (pc : Int) + off = (tgt : Int))
    (kt : b < a → W p l e R s m args below meth c H locs cells slots Q (F0 m tgt ls rest)) (kf : a ≤ b → W p l e R s m args below meth c H locs cells slots Q (F0 m (pc + 3) ls rest)) : W p l e R s m args below meth c H locs cells slots Q (F0 m pc ls (.int (nI b) :: .int (nI a) :: rest)) :=
  lv_icmp_gt G.1 G.2.1 d ht (fun h => kt ((nI_ltI hb ha).mp h)) (fun h => kf (by have h2 : ¬ (b < a) := fun z => h ((nI_ltI hb ha).mpr z); omega))
theorem gn_eq (G : gF p s m args meth c cc ret nL own ws) (ha : a < 2 ^ 31) (hb : b < 2 ^ 31) {off : Int} {tgt : Nat} (d : decode cc pc = .ok (.if_icmp .eq off, 3)) (ht : (pc : Int) + off = (tgt : Int))
    (kt : a = b → W p l e R s m args below meth c H locs cells slots Q (F0 m tgt ls rest)) (kf : a ≠ b → W p l e R s m args below meth c H locs cells slots Q (F0 m (pc + 3) ls rest)) : W p l e R s m args below meth c H locs cells slots Q (F0 m pc ls (.int (nI b) :: .int (nI a) :: rest)) :=
  lv_icmp_eq G.1 G.2.1 d ht (fun h => kt ((nI_eq ha hb).mp h)) (fun h => kf (fun z => h ((nI_eq ha hb).mpr z)))
theorem gn_ne (G : gF p s m args meth c cc ret nL own ws) (ha : a < 2 ^ 31) (hb : b < 2 ^ 31) {off : Int} {tgt : Nat} (d : decode cc pc = .ok (.if_icmp .ne off, 3)) (ht : (pc : Int) + off = (tgt : Int))
    (kt : a ≠ b → W p l e R s m args below meth c H locs cells slots Q (F0 m tgt ls rest)) (kf : a = b → W p l e R s m args below meth c H locs cells slots Q (F0 m (pc + 3) ls rest)) : W p l e R s m args below meth c H locs cells slots Q (F0 m pc ls (.int (nI b) :: .int (nI a) :: rest)) :=
  lv_icmp_ne G.1 G.2.1 d ht (fun h => kt (fun z => h ((nI_eq ha hb).mpr z))) (fun h => kf ((nI_eq ha hb).mp h))
theorem gn_ltz (G : gF p s m args meth c cc ret nL own ws) (ha : a < 2 ^ 31) {off : Int} {tgt : Nat} (d : decode cc pc = .ok (.ifCond .lt off, 3)) (ht : (pc : Int) + off = (tgt : Int))
    (kf : W p l e R s m args below meth c H locs cells slots Q (F0 m (pc + 3) ls rest)) : W p l e R s m args below meth c H locs cells slots Q (F0 m pc ls (.int (nI a) :: rest)) :=
  lv_if_lt G.1 G.2.1 d ht (fun h => absurd h (nI_pos ha)) (fun _ => kf)
theorem gn_gtz (G : gF p s m args meth c cc ret nL own ws) (ha : a < 2 ^ 31) {off : Int} {tgt : Nat} (d : decode cc pc = .ok (.ifCond .gt off, 3)) (ht : (pc : Int) + off = (tgt : Int))
    (kt : 0 < a → W p l e R s m args below meth c H locs cells slots Q (F0 m tgt ls rest)) (kf : a = 0 → W p l e R s m args below meth c H locs cells slots Q (F0 m (pc + 3) ls rest)) : W p l e R s m args below meth c H locs cells slots Q (F0 m pc ls (.int (nI a) :: rest)) :=
  lv_if_gt G.1 G.2.1 d ht (fun h => kt (Nat.pos_of_ne_zero (fun z => by rw [z] at h; exact absurd h (by decide)))) (fun h => kf (Decidable.byContradiction (fun z => h ((nI_ltI (a := 0) (by decide) ha).mpr (Nat.pos_of_ne_zero z)))))
theorem gn_eqz (G : gF p s m args meth c cc ret nL own ws) (ha : a < 2 ^ 31) {off : Int} {tgt : Nat} (d : decode cc pc = .ok (.ifCond .eq off, 3)) (ht : (pc : Int) + off = (tgt : Int))
    (kt : a = 0 → W p l e R s m args below meth c H locs cells slots Q (F0 m tgt ls rest)) (kf : a ≠ 0 → W p l e R s m args below meth c H locs cells slots Q (F0 m (pc + 3) ls rest)) : W p l e R s m args below meth c H locs cells slots Q (F0 m pc ls (.int (nI a) :: rest)) :=
  lv_if_eq G.1 G.2.1 d ht (fun h => kt ((nI_eq ha (by decide)).mp (show nI a = nI 0 from h))) (fun h => kf (fun z => h (by rw [z]; rfl)))
theorem gn_nez (G : gF p s m args meth c cc ret nL own ws) (ha : a < 2 ^ 31) {off : Int} {tgt : Nat} (d : decode cc pc = .ok (.ifCond .ne off, 3)) (ht : (pc : Int) + off = (tgt : Int))
    (kt : a ≠ 0 → W p l e R s m args below meth c H locs cells slots Q (F0 m tgt ls rest)) (kf : a = 0 → W p l e R s m args below meth c H locs cells slots Q (F0 m (pc + 3) ls rest)) : W p l e R s m args below meth c H locs cells slots Q (F0 m pc ls (.int (nI a) :: rest)) :=
  lv_if_ne G.1 G.2.1 d ht (fun h => kt (fun z => h (by rw [z]; rfl))) (fun h => kf ((nI_eq ha (by decide)).mp (show nI a = nI 0 from h)))
/-- a field of the class's object -/
theorem gx_get {D : va_G} {q : Nat → Nat} {cI : ClassId} {N : Nat → Nat} {S : Nat → Nat → Nat} {tr : Nat → Nat} {A : Nat → Prop} (G : gF p s m args meth c cc ret nL RX0 ws) (hX : xAt D q cI N S tr A s H) (hin : ∀ w ∈ wsX00, w ∈ ws) (k : Nat) (hk : k < 15)
    (hlink : Cond.fieldLink RX0 index "GamutChain" (TX0 k).2.1 (TX0 k).2.2.1 ∈ ws) (hsame : (TX0 k).1 = "GamutChain") {v : Value} {fs : List Value} (hf : (xw q cI N S tr)[0]? = some (q 0, .inr (0, fs))) (hv : fs[k]? = some v) (hdg : decode cc pc = .ok (.getfield index, 3))
    (kk : W p l e R s m args below meth c H locs cells slots Q (F0 m (pc + 3) ls (v :: rest))) : W p l e R s m args below meth c H locs cells slots Q (F0 m pc ls (.ref (q 0) :: rest)) :=
  va_get (D := D) (ci := 0) (v := v) (C := RX0) (T := TX0) (N := 15) G.1 G.2.1 G.2.2.2.2.2.1 hin G.2.2.2.2.1 hX.2.1 hX.1 0 hf rfl k hk (G.2.2.2.2.2.1 _ hlink) (fun x h => by rw [hsame] at h; exact h) hv hdg kk
theorem gr_min (G : gF p s m args meth c cc ret nL RX0 ws) (hsz : ls.size = nL) {ix : Nat} (hlink : Cond.methodLink RX0 ix Lib.Math.min.name ∈ ws) (hstat : Cond.static Lib.Math.min.name ∈ ws) (hini : Cond.initialized "java/lang/Math" ∈ ws) (hcode : Cond.code Lib.Math.min.name Lib.Math.min.code 2 (some .int) ∈ ws)
    (hframes : 1 ≤ R.frames) (hlocals : (rest.map fun v => v.category).sum + 13 ≤ R.locals) (hc : cells ≤ R.cells) (hs : slots ≤ R.slots) (ha : a < 2 ^ 31) (hb : b < 2 ^ 31) (hdg : decode cc pc = .ok (.invokestatic ix, 3))
    (kk : W p l e R s m args below meth c H locs cells slots Q (F0 m (pc + 3) ls (.int (nI (min a b)) :: rest))) : W p l e R s m args below meth c H locs cells slots Q (F0 m pc ls (.int (nI b) :: .int (nI a) :: rest)) :=
  va_mmin G.1 G.2.1 (G.2.2.2.1.trans hsz.symm) G.2.2.2.2.1 (G.2.2.2.2.2.1 _ hlink) (G.2.2.2.2.2.1 _ hstat) (G.2.2.2.2.2.1 _ hini) (G.2.2.2.2.2.1 _ hcode) hframes hlocals hc hs hdg (by
    have e : (if nI b < nI a then nI b else nI a) = nI (min a b) := by
      rcases Nat.lt_or_ge b a with q | q
      · rw [if_pos ((nI_ltI hb ha).mpr q), Nat.min_eq_right (Nat.le_of_lt q)]
      · rw [if_neg (fun z => absurd ((nI_ltI hb ha).mp z) (Nat.not_lt.mpr q)), Nat.min_eq_left q]
    rw [e]; exact kk)
theorem gr_max (G : gF p s m args meth c cc ret nL RX0 ws) (hsz : ls.size = nL) {ix : Nat} (hlink : Cond.methodLink RX0 ix Lib.Math.max.name ∈ ws) (hstat : Cond.static Lib.Math.max.name ∈ ws) (hini : Cond.initialized "java/lang/Math" ∈ ws) (hcode : Cond.code Lib.Math.max.name Lib.Math.max.code 2 (some .int) ∈ ws)
    (hframes : 1 ≤ R.frames) (hlocals : (rest.map fun v => v.category).sum + 13 ≤ R.locals) (hc : cells ≤ R.cells) (hs : slots ≤ R.slots) (ha : a < 2 ^ 31) (hb : b < 2 ^ 31) (hdg : decode cc pc = .ok (.invokestatic ix, 3))
    (kk : W p l e R s m args below meth c H locs cells slots Q (F0 m (pc + 3) ls (.int (nI (max a b)) :: rest))) : W p l e R s m args below meth c H locs cells slots Q (F0 m pc ls (.int (nI b) :: .int (nI a) :: rest)) :=
  va_mmax G.1 G.2.1 (G.2.2.2.1.trans hsz.symm) G.2.2.2.2.1 (G.2.2.2.2.2.1 _ hlink) (G.2.2.2.2.2.1 _ hstat) (G.2.2.2.2.2.1 _ hini) (G.2.2.2.2.2.1 _ hcode) hframes hlocals hc hs hdg (by
    have e : (if nI a < nI b then nI b else nI a) = nI (max a b) := by
      rcases Nat.lt_or_ge a b with q | q
      · rw [if_pos ((nI_ltI ha hb).mpr q), Nat.max_eq_right (Nat.le_of_lt q)]
      · rw [if_neg (fun z => absurd ((nI_ltI ha hb).mp z) (Nat.not_lt.mpr q)), Nat.max_eq_left q]
    rw [e]; exact kk)
end GN
theorem gc_blindT {av : List Value} : FrameBlind (va_Pc av (fun _ => True)) := fun _ _ _ _ hq => ⟨hq.1, trivial⟩
theorem rAt_blind {D : va_G} {a : Nat} {cI : ClassId} {n : Nat} {F : Nat → Nat} {av : List Value} : FrameBlind (va_Pc av (fun U => rAt D a cI n F U U.heap)) := fun a U g mk hq => ⟨hq.1, hq.2.1, va_K.moved (u := U) (U := U.calling g mk a) (Vm.Alike.refl U.vm) hq.2.2⟩
theorem gZ.call {A : Nat → Prop} {U : State} {g : JFrame} {mk : MethodId} {a : Array Value} {H : Heap} (h : gZ A U H) : gZ A (U.calling g mk a) H := h.moved (State.WarmedH.refl U)
theorem xAt_blind {D : va_G} {q : Nat → Nat} {cI : ClassId} {N : Nat → Nat} {S : Nat → Nat → Nat} {tr : Nat → Nat} {A : Nat → Prop} {av : List Value} : FrameBlind (va_Pc av (fun U => xAt D q cI N S tr A U U.heap)) := fun a U g mk hq => ⟨hq.1, hq.2.1, va_K.moved (u := U) (U := U.calling g mk a) (Vm.Alike.refl U.vm) hq.2.2.1, hq.2.2.2.1, gZ.call hq.2.2.2.2⟩
theorem gZ_blind {A : Nat → Prop} {av : List Value} : FrameBlind (va_Pc av (fun U => gZ A U U.heap)) := fun a U g mk hq => ⟨hq.1, gZ.call hq.2⟩
