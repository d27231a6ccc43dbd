section
-- ===== PART A: goes FIRST, ahead of the names: the tables' words, and 'selects' of the private methods out of them =====
/-- a private method of a class that the tables say can be made, by its rows of tables_1 -/
def lw_okq (q : MethodName × Nat) : Prop := (q.1.cls ≠ "java/lang/invoke/MethodHandle" ∧ q.1.cls ≠ "java/lang/invoke/VarHandle") ∧ Cond.instantiable q.1.cls q.2 ∈ tables_1 ∧ Cond.privateMethod q.1 ∈ tables_1 ∧ Cond.instanceMethod q.1 ∈ tables_1
theorem lw_p0 : lw_okq (⟨"GamutChain", "differsFromKept", "(I)Z"⟩, 15) := ⟨⟨by decide +kernel, by decide +kernel⟩, List.mem_of_getElem? (i := 11) (by decide +kernel), List.mem_of_getElem? (i := 73) (by decide +kernel), List.mem_of_getElem? (i := 74) (by decide +kernel)⟩
theorem lw_p1 : lw_okq (⟨"GamutChain", "pass", "(III)I"⟩, 15) := ⟨⟨by decide +kernel, by decide +kernel⟩, List.mem_of_getElem? (i := 11) (by decide +kernel), List.mem_of_getElem? (i := 86) (by decide +kernel), List.mem_of_getElem? (i := 87) (by decide +kernel)⟩
theorem lw_p2 : lw_okq (⟨"GamutChain", "take", "(III)I"⟩, 15) := ⟨⟨by decide +kernel, by decide +kernel⟩, List.mem_of_getElem? (i := 11) (by decide +kernel), List.mem_of_getElem? (i := 90) (by decide +kernel), List.mem_of_getElem? (i := 91) (by decide +kernel)⟩
theorem lw_p3 : lw_okq (⟨"GamutChain", "bent", "(III)I"⟩, 15) := ⟨⟨by decide +kernel, by decide +kernel⟩, List.mem_of_getElem? (i := 11) (by decide +kernel), List.mem_of_getElem? (i := 94) (by decide +kernel), List.mem_of_getElem? (i := 95) (by decide +kernel)⟩
theorem lw_p4 : lw_okq (⟨"GamutChain", "profilesOf", "(I)I"⟩, 15) := ⟨⟨by decide +kernel, by decide +kernel⟩, List.mem_of_getElem? (i := 11) (by decide +kernel), List.mem_of_getElem? (i := 114) (by decide +kernel), List.mem_of_getElem? (i := 115) (by decide +kernel)⟩
theorem lw_p5 : lw_okq (⟨"java/lang/Throwable", "fillInStackTrace", "(I)Ljava/lang/Throwable;"⟩, 6) := ⟨⟨by decide +kernel, by decide +kernel⟩, List.mem_of_getElem? (i := 164) (by decide +kernel), List.mem_of_getElem? (i := 162) (by decide +kernel), List.mem_of_getElem? (i := 163) (by decide +kernel)⟩
theorem lw_p6 : lw_okq (⟨"GamutChain", "needProfile", "(I)V"⟩, 15) := ⟨⟨by decide +kernel, by decide +kernel⟩, List.mem_of_getElem? (i := 11) (by decide +kernel), List.mem_of_getElem? (i := 206) (by decide +kernel), List.mem_of_getElem? (i := 207) (by decide +kernel)⟩
theorem lw_p7 : lw_okq (⟨"GamutChain", "needFreeProfile", "(I)V"⟩, 15) := ⟨⟨by decide +kernel, by decide +kernel⟩, List.mem_of_getElem? (i := 11) (by decide +kernel), List.mem_of_getElem? (i := 250) (by decide +kernel), List.mem_of_getElem? (i := 251) (by decide +kernel)⟩
theorem lw_p8 : lw_okq (⟨"GamutChain", "needChain", "(I)V"⟩, 15) := ⟨⟨by decide +kernel, by decide +kernel⟩, List.mem_of_getElem? (i := 11) (by decide +kernel), List.mem_of_getElem? (i := 301) (by decide +kernel), List.mem_of_getElem? (i := 302) (by decide +kernel)⟩
theorem lw_p9 : lw_okq (⟨"GamutChain", "needFreeChain", "(I)V"⟩, 15) := ⟨⟨by decide +kernel, by decide +kernel⟩, List.mem_of_getElem? (i := 11) (by decide +kernel), List.mem_of_getElem? (i := 306) (by decide +kernel), List.mem_of_getElem? (i := 307) (by decide +kernel)⟩
theorem lw_p10 : lw_okq (⟨"GamutChain", "tryJoining", "(I)I"⟩, 15) := ⟨⟨by decide +kernel, by decide +kernel⟩, List.mem_of_getElem? (i := 11) (by decide +kernel), List.mem_of_getElem? (i := 334) (by decide +kernel), List.mem_of_getElem? (i := 335) (by decide +kernel)⟩
theorem lw_p11 : lw_okq (⟨"GamutChain", "inked", "(III)I"⟩, 15) := ⟨⟨by decide +kernel, by decide +kernel⟩, List.mem_of_getElem? (i := 11) (by decide +kernel), List.mem_of_getElem? (i := 408) (by decide +kernel), List.mem_of_getElem? (i := 409) (by decide +kernel)⟩
theorem lw_p12 : lw_okq (⟨"GamutChainModel", "may", "(Z)Z"⟩, 16) := ⟨⟨by decide +kernel, by decide +kernel⟩, List.mem_of_getElem? (i := 412) (by decide +kernel), List.mem_of_getElem? (i := 476) (by decide +kernel), List.mem_of_getElem? (i := 477) (by decide +kernel)⟩
theorem lw_p13 : lw_okq (⟨"GamutChainModel", "isProfile", "(I)Z"⟩, 16) := ⟨⟨by decide +kernel, by decide +kernel⟩, List.mem_of_getElem? (i := 412) (by decide +kernel), List.mem_of_getElem? (i := 487) (by decide +kernel), List.mem_of_getElem? (i := 488) (by decide +kernel)⟩
theorem lw_p14 : lw_okq (⟨"GamutChainModel", "isHeld", "(I)Z"⟩, 16) := ⟨⟨by decide +kernel, by decide +kernel⟩, List.mem_of_getElem? (i := 412) (by decide +kernel), List.mem_of_getElem? (i := 500) (by decide +kernel), List.mem_of_getElem? (i := 501) (by decide +kernel)⟩
theorem lw_p15 : lw_okq (⟨"GamutChainModel", "mayAll", "(ZZZ)Z"⟩, 16) := ⟨⟨by decide +kernel, by decide +kernel⟩, List.mem_of_getElem? (i := 412) (by decide +kernel), List.mem_of_getElem? (i := 504) (by decide +kernel), List.mem_of_getElem? (i := 505) (by decide +kernel)⟩
def lw_privs_1 : List (MethodName × Nat) := [(⟨"GamutChain", "differsFromKept", "(I)Z"⟩, 15), (⟨"GamutChain", "pass", "(III)I"⟩, 15), (⟨"GamutChain", "take", "(III)I"⟩, 15), (⟨"GamutChain", "bent", "(III)I"⟩, 15), (⟨"GamutChain", "profilesOf", "(I)I"⟩, 15), (⟨"java/lang/Throwable", "fillInStackTrace", "(I)Ljava/lang/Throwable;"⟩, 6), (⟨"GamutChain", "needProfile", "(I)V"⟩, 15), (⟨"GamutChain", "needFreeProfile", "(I)V"⟩, 15), (⟨"GamutChain", "needChain", "(I)V"⟩, 15), (⟨"GamutChain", "needFreeChain", "(I)V"⟩, 15), (⟨"GamutChain", "tryJoining", "(I)I"⟩, 15), (⟨"GamutChain", "inked", "(III)I"⟩, 15), (⟨"GamutChainModel", "may", "(Z)Z"⟩, 16), (⟨"GamutChainModel", "isProfile", "(I)Z"⟩, 16), (⟨"GamutChainModel", "isHeld", "(I)Z"⟩, 16), (⟨"GamutChainModel", "mayAll", "(ZZZ)Z"⟩, 16)]
theorem lw_r1 : ∀ q ∈ lw_privs_1, lw_okq q := List.forall_mem_cons.mpr ⟨lw_p0, List.forall_mem_cons.mpr ⟨lw_p1, List.forall_mem_cons.mpr ⟨lw_p2, List.forall_mem_cons.mpr ⟨lw_p3, List.forall_mem_cons.mpr ⟨lw_p4, List.forall_mem_cons.mpr ⟨lw_p5, List.forall_mem_cons.mpr ⟨lw_p6, List.forall_mem_cons.mpr ⟨lw_p7, List.forall_mem_cons.mpr ⟨lw_p8, List.forall_mem_cons.mpr ⟨lw_p9, List.forall_mem_cons.mpr ⟨lw_p10, List.forall_mem_cons.mpr ⟨lw_p11, List.forall_mem_cons.mpr ⟨lw_p12, List.forall_mem_cons.mpr ⟨lw_p13, List.forall_mem_cons.mpr ⟨lw_p14, List.forall_mem_cons.mpr ⟨lw_p15, fun _ h => absurd h List.not_mem_nil⟩⟩⟩⟩⟩⟩⟩⟩⟩⟩⟩⟩⟩⟩⟩⟩
theorem lw_p16 : lw_okq (⟨"GamutChainModel", "mayBoth", "(ZZ)Z"⟩, 16) := ⟨⟨by decide +kernel, by decide +kernel⟩, List.mem_of_getElem? (i := 412) (by decide +kernel), List.mem_of_getElem? (i := 520) (by decide +kernel), List.mem_of_getElem? (i := 521) (by decide +kernel)⟩
theorem lw_p17 : lw_okq (⟨"GamutChainModel", "curveOf", "(III)I"⟩, 16) := ⟨⟨by decide +kernel, by decide +kernel⟩, List.mem_of_getElem? (i := 412) (by decide +kernel), List.mem_of_getElem? (i := 524) (by decide +kernel), List.mem_of_getElem? (i := 525) (by decide +kernel)⟩
theorem lw_p18 : lw_okq (⟨"GamutChainModel", "between", "(I)I"⟩, 16) := ⟨⟨by decide +kernel, by decide +kernel⟩, List.mem_of_getElem? (i := 412) (by decide +kernel), List.mem_of_getElem? (i := 528) (by decide +kernel), List.mem_of_getElem? (i := 529) (by decide +kernel)⟩
theorem lw_p19 : lw_okq (⟨"GamutChainModel", "takenBy", "(III)I"⟩, 16) := ⟨⟨by decide +kernel, by decide +kernel⟩, List.mem_of_getElem? (i := 412) (by decide +kernel), List.mem_of_getElem? (i := 539) (by decide +kernel), List.mem_of_getElem? (i := 540) (by decide +kernel)⟩
theorem lw_p20 : lw_okq (⟨"GamutChainModel", "isChain", "(I)Z"⟩, 16) := ⟨⟨by decide +kernel, by decide +kernel⟩, List.mem_of_getElem? (i := 412) (by decide +kernel), List.mem_of_getElem? (i := 551) (by decide +kernel), List.mem_of_getElem? (i := 552) (by decide +kernel)⟩
theorem lw_p21 : lw_okq (⟨"GamutChainModel", "throughOf", "(III)I"⟩, 16) := ⟨⟨by decide +kernel, by decide +kernel⟩, List.mem_of_getElem? (i := 412) (by decide +kernel), List.mem_of_getElem? (i := 563) (by decide +kernel), List.mem_of_getElem? (i := 564) (by decide +kernel)⟩
theorem lw_p22 : lw_okq (⟨"GamutChainModel", "gapOf", "(I)I"⟩, 16) := ⟨⟨by decide +kernel, by decide +kernel⟩, List.mem_of_getElem? (i := 412) (by decide +kernel), List.mem_of_getElem? (i := 571) (by decide +kernel), List.mem_of_getElem? (i := 572) (by decide +kernel)⟩
def lw_privs_2 : List (MethodName × Nat) := [(⟨"GamutChainModel", "mayBoth", "(ZZ)Z"⟩, 16), (⟨"GamutChainModel", "curveOf", "(III)I"⟩, 16), (⟨"GamutChainModel", "between", "(I)I"⟩, 16), (⟨"GamutChainModel", "takenBy", "(III)I"⟩, 16), (⟨"GamutChainModel", "isChain", "(I)Z"⟩, 16), (⟨"GamutChainModel", "throughOf", "(III)I"⟩, 16), (⟨"GamutChainModel", "gapOf", "(I)I"⟩, 16)]
theorem lw_r2 : ∀ q ∈ lw_privs_2, lw_okq q := List.forall_mem_cons.mpr ⟨lw_p16, List.forall_mem_cons.mpr ⟨lw_p17, List.forall_mem_cons.mpr ⟨lw_p18, List.forall_mem_cons.mpr ⟨lw_p19, List.forall_mem_cons.mpr ⟨lw_p20, List.forall_mem_cons.mpr ⟨lw_p21, List.forall_mem_cons.mpr ⟨lw_p22, fun _ h => absurd h List.not_mem_nil⟩⟩⟩⟩⟩⟩⟩
def lw_privs : List (MethodName × Nat) := lw_privs_1 ++ (lw_privs_2)
def lw_tbl : List Cond := k2_sels lw_privs ++ tables_1
theorem lw_privs_ok : ∀ q ∈ lw_privs, lw_okq q := by
  show ∀ q ∈ lw_privs_1 ++ (lw_privs_2), lw_okq q
  exact List.forall_mem_append.mpr ⟨lw_r1, lw_r2⟩
-- ===== end of PART A; then your names; then what follows =====
end
section
/-! ===== BEGIN words of one list among another's, by their places ===== -/
theorem goodIn_r {big : List Cond} (ws : List Cond) (ps : List Nat) (hp : ws = ps.filterMap (fun i => big[i]?)) (h : ws.all goodWord = true) : GoodIn big ws := by
  intro w hw
  have h1 := List.all_eq_true.mp h w hw
  rw [hp] at hw
  obtain ⟨i, -, hi⟩ := List.mem_filterMap.mp hw
  have hm : w ∈ big := by first | exact List.mem_of_getElem? hi | exact List.getElem?_mem hi
  exact ⟨hm, good_of_word h1⟩
theorem goodIn_app {big a b : List Cond} (ha : GoodIn big a) (hb : GoodIn big b) : GoodIn big (a ++ b) := fun w h => (List.mem_append.mp h).elim (ha w) (hb w)
theorem goodIn_ca {big a b : List Cond} {c : Cond} (ha : GoodIn big (c :: a)) (hb : GoodIn big b) : GoodIn big (c :: (a ++ b)) := fun w h => (List.mem_cons.mp h).elim (fun e => ha w (List.mem_cons.mpr (Or.inl e))) (fun h => (List.mem_append.mp h).elim (fun h => ha w (List.mem_cons.mpr (Or.inr h))) (hb w))
theorem goodIn_sub {big ws : List Cond} (hm : ∀ w ∈ ws, w ∈ big) (h : ws.all goodWord = true) : GoodIn big ws := fun w hw => ⟨hm w hw, good_of_word (List.all_eq_true.mp h w hw)⟩
/-! ===== END ===== -/

/-! ===== BEGIN exceptions that leave a method, and their catching by the caller (launches without stack traces) ===== -/
section VXA
/-! The laws vx_back, vx_callV, vx_callS, vx_callSW, vx_throw0, vx_throwS follow proofs of the library, with one case more: JvmDerived/Free/Laws.lean (Back.of_free), Shelf42/LK1.lean (callV, callS), Shelf/KitTraced.lean (throwNew0V, throwNewS). -/
/-- where a method has thrown q: the class by its name, the cell, what was written, the world -/
def vx_T (XC : String → State → State → Prop) (st : State) (q : Addr) (t : State) (mc ms : Nat) (free : Addr → Prop) : Prop :=
  ∃ (E : String) (ce : Cell) (L : List Loc), XC E st t ∧ t.heap[q]? = some ce ∧ ce.vm = .none ∧ st.vm.findClass E = some ce.cls ∧ st.WarmedH t.vm ∧ st.sameButNew ({ t with vm := st.vm } : State) L mc ms ∧ ∀ z ∈ L, free z.base
def vx_Q (Qc : Array Value → State → Outcome → State → Prop) (XC : String → State → State → Prop) (mc ms : Nat) (free : Addr → Prop) : Array Value → State → Outcome → State → Prop := fun a st o t =>
  (Qc a st o t ∧ ∃ L, FrameEnd st o t L mc ms ∧ ∀ q ∈ L, free q.base) ∨ ∃ q, o = .threw q ∧ vx_T XC st q t mc ms free
/-- a callee that returns or throws -/
def vx_Met (l : Launch) (y : MethodName) (ws : List Cond) (rm : Room) (Pc : Array Value → State → Prop) (Qc : Array Value → State → Outcome → State → Prop) (XC : String → State → State → Prop) (mc ms : Nat) (free : Addr → Prop) : Prop :=
  MetFree l y (headSpec ws rm) Pc (fun _ _ _ _ _ => True) (vx_Q Qc XC mc ms free)
def vx_Post (XC : String → State → State → Prop) (mc ms : Nat) (free : Addr → Prop) : Pt → Array Value → Addr → Pt → Prop := fun A a q B =>
  ∃ (g : JFrame) (mk : MethodId) (t : State) (L : List Loc) (E : String) (ce : Cell), B.U.heap = t.heap ∧ B.U.vm = t.vm ∧ XC E (A.U.calling g mk a) t ∧ t.heap[q]? = some ce ∧ ce.vm = .none ∧ A.U.vm.findClass E = some ce.cls ∧ B.locs = A.locs ++ L ∧ (∀ z ∈ L, free z.base) ∧ B.cells = A.cells + mc ∧ B.slots = A.slots + ms
def vx_Back (l : Launch) (R : Room) (p : Program) (e : Env) (below : List Frame) (s : State) (sargs : Array Value) (y : MethodName) (len W9 : Nat)
    (Pre : Pt → Array Value → Prop) (Post : Pt → Array Value → Option Value → Pt → Prop) (PostX : Pt → Array Value → Addr → Pt → Prop) : Prop :=
  ∀ (m : MethodId) (meth : Method) (c : Code) (A : Pt) (g : JFrame) (ig : Instr) (mk : MethodId) (a : Array Value),
    Stand p l e R s m sargs below meth c A.U A.locs A.cells A.slots → g.method = m → g.locals.size = c.maxLocals → decode c.code g.pc = .ok (ig, len) →
    2 * g.monitorRoom + (g.stack.map fun v => v.category).sum ≤ W9 → A.U.methodNamed? y = some mk → Pre A a →
    (∃ (v : Option Value) (B : Pt), Stand p l e R s m sargs below meth c B.U B.locs B.cells B.slots ∧ Post A a v B ∧
      Steps p.tables e below (doInvoke e (A.U.setTop g) [] mk a).1 (B.U.setTop { g with pc := g.pc + len, stack := v.toList ++ g.stack })) ∨
    (∃ (q : Addr) (B : Pt), Stand p l e R s m sargs below meth c B.U B.locs B.cells B.slots ∧ PostX A a q B ∧
      Steps p.tables e below (doInvoke e (A.U.setTop g) [] mk a).1 ((B.U.setTop g).pushFrame (.throwing q)))
section Payer
variable {l : Launch} {R : Room} {p : Program} {e : Env} {below : List Frame} {s : State} {sargs : Array Value} {y : MethodName} {len W9 : Nat}
theorem vx_back {ws : List Cond} {rm : Room} {Pc : Array Value → State → Prop} {Qc : Array Value → State → Outcome → State → Prop} {XC : String → State → State → Prop} {mc ms : Nat} {free : Addr → Prop} {bytes : ByteArray} {maxL : Nat} {ret : Option FieldType}
    (hM : vx_Met l y ws rm Pc Qc XC mc ms free) (hblind : FrameBlind Pc) (hrc : rm.cells = mc) (hrs : rm.slots = ms)
    (hframes : rm.frames + 1 ≤ R.frames) (hlocals : W9 + (maxL + 11) + rm.locals ≤ R.locals)
    (hws : ∀ w ∈ ws, ∀ a' U, s.WarmedH U.vm → w.before a' U = true) (hcode : Cond.code y bytes maxL ret ∈ ws) (hinit : ∀ a' U, s.WarmedH U.vm → (Cond.initialized y.cls).before a' U = true) :
    vx_Back l R p e below s sargs y len W9 (PreOf R mc ms Pc) (PostOf Qc mc ms free) (vx_Post XC mc ms free) := by
  intro m meth c A g ig mk a X hg hsize hdg hW hn hp
  have h1 : (headSpec ws rm).pre.before a A.U = true := atoms_intro fun w hw => hws w hw _ _ X.warmed
  have h2 : (Cond.code y bytes maxL ret).before a A.U = true := hws _ hcode _ _ X.warmed
  have h3 : (Cond.initialized y.cls).before a A.U = true := hinit _ _ X.warmed
  have h4 : A.cells + (headSpec ws rm).room.cells ≤ R.cells := by rw [show (headSpec ws rm).room.cells = mc from hrc]; exact hp.1
  have h5 : A.slots + (headSpec ws rm).room.slots ≤ R.slots := by rw [show (headSpec ws rm).room.slots = ms from hrs]; exact hp.2.1
  have hPc : Pc a (A.U.calling g mk a) := hblind _ _ _ _ hp.2.2
  obtain ⟨U, Ls, c0, s0⟩ := A
  dsimp only [Pt.U, Pt.locs, Pt.cells, Pt.slots] at h1 h2 h3 h4 h5 X hn hPc ⊢
  obtain ⟨methY, cY, hmY, hcY, -, hlY, -, -, -, -⟩ := Cond.code_spec hn h2
  obtain ⟨kY, hkY, -⟩ := className_of_methodNamed hn
  have hinitY : kY.init = .initialized := Cond.initialized_spec (findClass_of_methodNamed hn) hkY h3
  have h : At U g.method c below := by rw [hg]; exact X.here
  have hlocals9 : W9 + (maxL + 11) + (headSpec ws rm).room.locals ≤ R.locals := hlocals
  have happ : (headSpec ws rm).appliesLoose y e.platform (U.calling g mk a) = true :=
    Spec.appliesLoose_calling (g := g) h hdg hn hkY hinitY
      (X.room_calling (g := g) (R' := (headSpec ws rm).room) hsize hmY hcY hframes (by rw [hlY]; omega) h4 h5) h1
  obtain ⟨mid, hmid⟩ := h.above
  have hfr : (U.setTop g).frames = (.java g :: mid) ++ below := by rw [State.frames_setTop' g h.top, hmid]; rfl
  obtain ⟨o, s₂, hsteps, -, hend, hq⟩ := Steps.callFree hM p X.admits X.cas X.clock (acts := []) hfr happ hPc trivial
  have hq' : vx_Q Qc XC mc ms free a (U.calling g mk a) o s₂ := hq
  rw [State.frames_setTop' g h.top] at hend
  obtain ⟨g₀, hg0⟩ := Option.isSome_iff_exists.mp h.top
  obtain ⟨r, hr⟩ := State.topJava?_eq_some.mp hg0
  have hr' : (({ U with heap := s₂.heap, slotsUsed := s₂.slotsUsed } : State).setVm s₂.vm).frames = .java g₀ :: r := hr
  rcases hq' with ⟨hqc, L, hfe, hL⟩ | ⟨q, rfl, E, ce, L, hx, hce, hcv, hcl, hW₂, hsm, hL⟩
  · obtain ⟨⟨v, rfl⟩, hW₂, e2, q2, q3, q4, q5, q6⟩ := id hfe
    have e3 : s₂ = ({ (U.calling g mk a).setFrames s₂.frames with heap := s₂.heap, slotsUsed := s₂.slotsUsed } : State).setVm s₂.vm := by
      have : s₂ = ({ s₂ with vm := (U.calling g mk a).vm } : State).setVm s₂.vm := rfl
      rw [e2] at this
      exact this
    obtain ⟨c₂, i₂, len₂, hc₂, hd₂, hf₂⟩ := hend
    have hW' : U.WarmedH s₂.vm := hW₂
    have hcc : c₂ = c := by
      have h1 : s₂.code? g.method = U.code? g.method := by
        rw [State.code?_eq, State.code?_eq, hW'.alike.method?]
      exact Option.some.inj (hc₂.symm.trans (h1.trans h.code))
    subst hcc
    have hlen : len₂ = len := by rw [hdg] at hd₂; cases hd₂; rfl
    subst hlen
    have hs₂ : s₂ = (({ U with heap := s₂.heap, slotsUsed := s₂.slotsUsed } : State).setVm s₂.vm).setTop { g with pc := g.pc + len₂, stack := v.toList ++ g.stack } := by
      refine e3.trans ?_
      rw [hf₂, State.calling_eq h.top, State.setFrames_setFrames, State.setTop_of_frames _ hr', hr]
      rfl
    have hsame : U.sameButNew ({ U with heap := s₂.heap, slotsUsed := s₂.slotsUsed } : State) L mc ms := by
      refine ⟨?_, q2, q3, q4, q5, q6⟩
      obtain ⟨t, ht, -⟩ := State.frames_cons hr
      show ({ U with heap := s₂.heap, slotsUsed := s₂.slotsUsed } : State) = { U.setFrames U.frames with heap := s₂.heap, slotsUsed := s₂.slotsUsed }
      rw [State.setFrames_self ht]
    subst hg
    refine Or.inl ⟨v, ⟨(({ U with heap := s₂.heap, slotsUsed := s₂.slotsUsed } : State).setVm s₂.vm), Ls ++ L, c0 + mc, s0 + ms⟩,
      ⟨X.admits, X.cas, X.clock, X.frames, X.room, X.hears, X.method, X.code, (X.here.setHeapUsed s₂.heap s₂.slotsUsed).setVm hW'.alike, X.tail, State.WarmedH.trans X.warmed hW', X.limits, X.bytes, X.same.trans (hsame.setVm s.vm)⟩,
      ⟨g, mk, s₂, L, rfl, rfl, hqc, rfl, hL, rfl, rfl⟩, ?_⟩
    show Steps p.tables e below _ ((({ U with heap := s₂.heap, slotsUsed := s₂.slotsUsed } : State).setVm s₂.vm).setTop { g with pc := g.pc + len₂, stack := v.toList ++ g.stack })
    rw [← hs₂]
    exact hsteps
  · obtain ⟨e2, q2, q3, q4, q5, q6⟩ := id hsm
    have e3 : s₂ = ({ (U.calling g mk a).setFrames s₂.frames with heap := s₂.heap, slotsUsed := s₂.slotsUsed } : State).setVm s₂.vm := by
      have : s₂ = ({ s₂ with vm := (U.calling g mk a).vm } : State).setVm s₂.vm := rfl
      rw [e2] at this
      exact this
    have hf₂ : s₂.frames = .throwing q :: .java g :: U.frames.tail := hend
    have hW' : U.WarmedH s₂.vm := hW₂
    have hs₂ : s₂ = ((({ U with heap := s₂.heap, slotsUsed := s₂.slotsUsed } : State).setVm s₂.vm).setTop g).pushFrame (.throwing q) := by
      refine e3.trans ?_
      rw [hf₂, State.calling_eq h.top, State.setFrames_setFrames, State.pushFrame, State.frames_setTop _ hr', State.setTop_of_frames _ hr', State.setFrames_setFrames, hr]
      rfl
    have hsame : U.sameButNew ({ U with heap := s₂.heap, slotsUsed := s₂.slotsUsed } : State) L mc ms := by
      refine ⟨?_, q2, q3, q4, q5, q6⟩
      obtain ⟨t, ht, -⟩ := State.frames_cons hr
      show ({ U with heap := s₂.heap, slotsUsed := s₂.slotsUsed } : State) = { U.setFrames U.frames with heap := s₂.heap, slotsUsed := s₂.slotsUsed }
      rw [State.setFrames_self ht]
    subst hg
    refine Or.inr ⟨q, ⟨(({ U with heap := s₂.heap, slotsUsed := s₂.slotsUsed } : State).setVm s₂.vm), Ls ++ L, c0 + mc, s0 + ms⟩,
      ⟨X.admits, X.cas, X.clock, X.frames, X.room, X.hears, X.method, X.code, (X.here.setHeapUsed s₂.heap s₂.slotsUsed).setVm hW'.alike, X.tail, State.WarmedH.trans X.warmed hW', X.limits, X.bytes, X.same.trans (hsame.setVm s.vm)⟩,
      ⟨g, mk, s₂, L, E, ce, rfl, rfl, hx, hce, hcv, hcl, rfl, hL, rfl, rfl⟩, ?_⟩
    show Steps p.tables e below _ (((({ U with heap := s₂.heap, slotsUsed := s₂.slotsUsed } : State).setVm s₂.vm).setTop g).pushFrame (.throwing q))
    rw [← hs₂]
    exact hsteps
end Payer
section Calls
variable {p : Program} {l : Launch} {e : Env} {R : Room} {s : State} {m : MethodId} {args : Array Value} {below : List Frame} {meth : Method} {c : Code} {T : State} {locs : List Loc} {cells slots : Nat}
theorem vx_callV (X : Stand p l e R s m args below meth c T locs cells slots) (hexec : p.tables.exec = Jvm.exec) {own C : String} {index : Nat} {y : MethodName} {bytes : ByteArray} {maxL : Nat} {ret : Option FieldType}
    (hown : s.vm.findClass own = some m.cls) (hlink : (Cond.methodLink own index y).before args s = true) (hinst : (Cond.instanceMethod y).before args s = true) (hsel : (Cond.selects C y y).before args s = true)
    (hcode : (Cond.code y bytes maxL ret).before args s = true) (hy : y.cls ≠ "java/lang/invoke/MethodHandle" ∧ y.cls ≠ "java/lang/invoke/VarHandle")
    {W9 : Nat} {Pre : Pt → Array Value → Prop} {Post : Pt → Array Value → Option Value → Pt → Prop} {PostX : Pt → Array Value → Addr → Pt → Prop} (hK : vx_Back l R p e below s args y 3 W9 Pre Post PostX)
    {b : Addr} {cellB : Cell} (hcell : T.heap[b]? = some cellB) (hobj : cellB.vm.isStatics = false) (hcls : s.vm.findClass C = some cellB.cls)
    {g : JFrame} (hg : g.method = m) (hsize : g.locals.size = c.maxLocals) {argsL rest : List Value} (hlen : ∀ sig, parseMethodDescriptor y.desc = some sig → argsL.length = sig.parameters.length)
    (hstack : g.stack = argsL.reverse ++ .ref b :: rest) (hW : 2 * g.monitorRoom + (rest.map fun v => v.category).sum ≤ W9) (hdg : decode c.code g.pc = .ok (.invokevirtual index, 3))
    (hpre : ∀ vm₁, s.WarmedH vm₁ → Pre ⟨T.setVm vm₁, locs, cells, slots⟩ (Value.ref b :: argsL).toArray) :
    (∃ (v : Option Value) (vm₁ : Vm) (B : Pt), s.WarmedH vm₁ ∧ Stand p l e R s m args below meth c B.U B.locs B.cells B.slots ∧ Post ⟨T.setVm vm₁, locs, cells, slots⟩ (Value.ref b :: argsL).toArray v B ∧
      ∀ target, Steps p.tables e below (B.U.setTop { g with pc := g.pc + 3, stack := v.toList ++ rest }) target → Steps p.tables e below (T.setTop g) target) ∨
    (∃ (q : Addr) (vm₁ : Vm) (B : Pt), s.WarmedH vm₁ ∧ Stand p l e R s m args below meth c B.U B.locs B.cells B.slots ∧ PostX ⟨T.setVm vm₁, locs, cells, slots⟩ (Value.ref b :: argsL).toArray q B ∧
      Steps p.tables e below (T.setTop g) ((B.U.setTop { g with stack := rest }).pushFrame (.throwing q))) := by
  obtain ⟨mk, methM, hnamed, hmethM, hstM, habM⟩ := Cond.instanceMethod_spec hinst
  obtain ⟨methM', cM, hmethM', -, -, -, -, -, -, hsigM⟩ := Cond.code_spec hnamed hcode
  cases hmethM.symm.trans hmethM'
  obtain ⟨c2, r2, m2, q1, q2, q3, q4, kP, hkP, hkPi⟩ := Cond.selects_spec hsel
  cases hcls.symm.trans q1
  cases (State.methodFound?_of_named hnamed hy).symm.trans q2
  cases hnamed.symm.trans q3
  have hselP : selectMethod e.platform s.vm cellB.cls mk = .method mk := by rw [Launch.admits_selectMethod X.admits]; exact q4
  obtain ⟨vm₁, X₁, hstep₁⟩ := X.invokevirtual hexec hown hlink hnamed hmethM hstM hkP hkPi hy (a := b) (cell := cellB) hcell
    (fun z h => by rw [h] at hobj; cases hobj) hselP hmethM habM hkP hkPi (g := g) hg (argsL := argsL) (rest := rest) (hlen _ hsigM) hstack hdg
  rcases hK m meth c ⟨T.setVm vm₁, locs, cells, slots⟩ { g with stack := rest } (.invokevirtual index) mk (Value.ref b :: argsL).toArray X₁ hg hsize hdg hW (X₁.named hnamed) (hpre vm₁ X₁.warmed) with ⟨v, B, X', hpost, hsteps⟩ | ⟨q, B, X', hpost, hsteps⟩
  · exact Or.inl ⟨v, vm₁, B, X₁.warmed, X', hpost, fun target h => hstep₁ _ fun acts => by rw [doInvoke_state]; exact hsteps.trans h⟩
  · exact Or.inr ⟨q, vm₁, B, X₁.warmed, X', hpost, hstep₁ _ fun acts => by rw [doInvoke_state]; exact hsteps⟩
theorem vx_callS (X : Stand p l e R s m args below meth c T locs cells slots) (hexec : p.tables.exec = Jvm.exec) {own : String} {index : Nat} {y : MethodName} {bytes : ByteArray} {maxL : Nat} {ret : Option FieldType}
    (hown : s.vm.findClass own = some m.cls) (hlink : (Cond.methodLink own index y).before args s = true) (hstat : (Cond.static y).before args s = true) (hinit : (Cond.initialized y.cls).before args s = true)
    (hcode : (Cond.code y bytes maxL ret).before args s = true) (hy : y.cls ≠ "java/lang/invoke/MethodHandle" ∧ y.cls ≠ "java/lang/invoke/VarHandle")
    {W9 : Nat} {Pre : Pt → Array Value → Prop} {Post : Pt → Array Value → Option Value → Pt → Prop} {PostX : Pt → Array Value → Addr → Pt → Prop} (hK : vx_Back l R p e below s args y 3 W9 Pre Post PostX)
    {g : JFrame} (hg : g.method = m) (hsize : g.locals.size = c.maxLocals) {argsL rest : List Value} (hlen : ∀ sig, parseMethodDescriptor y.desc = some sig → argsL.length = sig.parameters.length)
    (hstack : g.stack = argsL.reverse ++ rest) (hW : 2 * g.monitorRoom + (rest.map fun v => v.category).sum ≤ W9) (hdg : decode c.code g.pc = .ok (.invokestatic index, 3))
    (hpre : ∀ vm₁, s.WarmedH vm₁ → Pre ⟨T.setVm vm₁, locs, cells, slots⟩ argsL.toArray) :
    (∃ (v : Option Value) (vm₁ : Vm) (B : Pt), s.WarmedH vm₁ ∧ Stand p l e R s m args below meth c B.U B.locs B.cells B.slots ∧ Post ⟨T.setVm vm₁, locs, cells, slots⟩ argsL.toArray v B ∧
      ∀ target, Steps p.tables e below (B.U.setTop { g with pc := g.pc + 3, stack := v.toList ++ rest }) target → Steps p.tables e below (T.setTop g) target) ∨
    (∃ (q : Addr) (vm₁ : Vm) (B : Pt), s.WarmedH vm₁ ∧ Stand p l e R s m args below meth c B.U B.locs B.cells B.slots ∧ PostX ⟨T.setVm vm₁, locs, cells, slots⟩ argsL.toArray q B ∧
      Steps p.tables e below (T.setTop g) ((B.U.setTop { g with stack := rest }).pushFrame (.throwing q))) := by
  obtain ⟨mk, hnamed⟩ := Cond.code_named hcode
  obtain ⟨methM, cM, hmethM, -, -, -, -, -, -, hsigM⟩ := Cond.code_spec hnamed hcode
  have hstatic : methM.isStatic = true := Cond.static_spec hnamed hmethM hstat
  obtain ⟨kP, hkP, -⟩ := className_of_methodNamed hnamed
  have hinitP : kP.init = .initialized := Cond.initialized_spec (findClass_of_methodNamed hnamed) hkP hinit
  obtain ⟨vm₁, X₁, hstep₁⟩ := X.invokestatic hexec hown hlink hnamed hmethM hstatic hkP hinitP hy (g := g) hg (argsL := argsL) (rest := rest) (hlen _ hsigM) hstack hdg
  rcases hK m meth c ⟨T.setVm vm₁, locs, cells, slots⟩ { g with stack := rest } (.invokestatic index) mk argsL.toArray X₁ hg hsize hdg hW (X₁.named hnamed) (hpre vm₁ X₁.warmed) with ⟨v, B, X', hpost, hsteps⟩ | ⟨q, B, X', hpost, hsteps⟩
  · exact Or.inl ⟨v, vm₁, B, X₁.warmed, X', hpost, fun target h => hstep₁ _ fun acts => by rw [doInvoke_state]; exact hsteps.trans h⟩
  · exact Or.inr ⟨q, vm₁, B, X₁.warmed, X', hpost, hstep₁ _ fun acts => by rw [doInvoke_state]; exact hsteps⟩
end Calls
theorem vx_cls {s : State} {T : State} {vm₁ : Vm} {E : String} {k : ClassId} (hW : s.WarmedH vm₁) (h : (T.setVm vm₁).vm.findClass E = some k) : s.vm.findClass E = some k := by
  have h1 : vm₁.findClass E = some k := h
  rw [hW.alike.findClass] at h1
  exact h1
/-- the method's frame g, with q thrown over it -/
def vx_W (p : Program) (l : Launch) (e : Env) (R : Room) (s : State) (m : MethodId) (args : Array Value) (below : List Frame) (meth : Method) (c : Code) (H : Heap) (locs : List Loc) (cells slots : Nat) (Q : State → Prop) (g : JFrame) (q : Addr) : Prop :=
  ∀ T : State, T.heap = H → Stand p l e R s m args below meth c T locs cells slots → ∃ t, Steps p.tables e below ((T.setTop g).pushFrame (.throwing q)) t ∧ Q t
def vx_Run (p : Program) (l : Launch) (e : Env) (R : Room) (s : State) (m : MethodId) (args : Array Value) (below : List Frame) (meth : Method) (c : Code) (H : Heap) (locs : List Loc) (cells slots mc ms : Nat) (g : JFrame) (rest : List Value) (Qa : State → Outcome → State → Prop) (XC : String → State → State → Prop) (free : Addr → Prop) : Prop :=
  ∀ T : State, T.heap = H → Stand p l e R s m args below meth c T locs cells slots →
    (∃ (v : Option Value) (st₀ t T' : State) (L : List Loc), st₀.heap = H ∧ Stand p l e R s m args below meth c T' (locs ++ L) (cells + mc) (slots + ms) ∧ (∀ q ∈ L, free q.base) ∧ T'.heap = t.heap ∧ T'.vm = t.vm ∧ Qa st₀ (.returned v) t ∧
      Goes p e below T g T' { g with pc := g.pc + 3, stack := v.toList ++ rest }) ∨
    (∃ (q : Addr) (st₀ t T' : State) (L : List Loc) (E : String) (ce : Cell), st₀.heap = H ∧ Stand p l e R s m args below meth c T' (locs ++ L) (cells + mc) (slots + ms) ∧ (∀ z ∈ L, free z.base) ∧ T'.heap = t.heap ∧ T'.vm = t.vm ∧ XC E st₀ t ∧ t.heap[q]? = some ce ∧ ce.vm = .none ∧ s.vm.findClass E = some ce.cls ∧
      Steps p.tables e below (T.setTop g) ((T'.setTop { g with stack := rest }).pushFrame (.throwing q)))
def vx_X {S : Type} (px : S → Prop) (B : String → S → State → Prop) (A : Nat → Prop) : String → State → State → Prop := fun E st t => ∃ u : S, px u ∧ B E u t ∧ va_F A st t
section Runs
variable {p : Program} {l : Launch} {e : Env} {R : Room} {s : State} {m : MethodId} {args : Array Value} {below : List Frame} {meth : Method} {c : Code} {H : Heap} {locs : List Loc} {cells slots : Nat}
variable {y : MethodName} {bytes cc : ByteArray} {maxL nL mc ms n index : Nat} {ret : Option FieldType} {ws : List Cond} {rm : Room} {Pc : Array Value → State → Prop} {Qc : Array Value → State → Outcome → State → Prop} {XC : String → State → State → Prop} {free : Addr → Prop} {Ts : List Cond} {own C : String} {b : Addr} {As rest : List Value} {g : JFrame}
theorem vx_callBack (cb : CallB R s args own index y bytes maxL ret ws rm mc ms n) (hM : vx_Met l y ws rm Pc Qc XC mc ms free) (hbl : FrameBlind Pc) : vx_Back l R p e below s args y 3 8 (PreOf R mc ms Pc) (PostOf Qc mc ms free) (vx_Post XC mc ms free) := by
  obtain ⟨hrc, hrs, hfr, hlo, hws, hcw, -, hini, -⟩ := cb
  exact vx_back (bytes := bytes) (maxL := maxL) (ret := ret) hM hbl hrc hrs hfr hlo hws hcw (fun a' U hW => word_at hW (Or.inl (by first | rfl | simp [Cond.onTables, Cond.keeps, Cond.steady])) hini)
theorem vx_runV (S : CallFix p m c cc nL s args Ts own) (hM : vx_Met l y ws rm Pc Qc XC mc ms free) (cw : CallW R s args own C index y bytes maxL ret ws rm mc ms n) (hp : PreV s H C b Pc As)
    (hg : g.method = m) (hn : As.length = n) (hsize : g.locals.size = nL) (hstack : g.stack = As.reverse ++ .ref b :: rest) (hW : 2 * g.monitorRoom + (rest.map fun v => v.category).sum ≤ 8) (hdg : decode cc g.pc = .ok (.invokevirtual index, 3)) (hf : cells + mc ≤ R.cells ∧ slots + ms ≤ R.slots) :
    vx_Run p l e R s m args below meth c H locs cells slots mc ms g rest (Qc (Value.ref b :: As).toArray) XC free := by
  have hK : vx_Back l R p e below s args y 3 8 (PreOf R mc ms Pc) (PostOf Qc mc ms free) (vx_Post XC mc ms free) := vx_callBack cw.1 hM hp.1
  obtain ⟨⟨-, -, -, -, -, -, hcode, -, hy, hlen, hl⟩, hin, hse⟩ := cw
  obtain ⟨hx, hb, hml, ho, -⟩ := S
  obtain ⟨-, ⟨cellB, hcB, hoB, hclB⟩, hPc⟩ := hp
  intro T hT X
  rcases vx_callV X hx (C := C) (bytes := bytes) (maxL := maxL) (ret := ret) ho hl hin hse hcode hy hK (by rw [hT]; exact hcB) hoB hclB hg (hsize.trans hml.symm) (argsL := As) (rest := rest) (fun sig h => hn.trans (hlen sig h)) hstack hW (by rw [hb]; exact hdg)
    (fun vm₁ hW₁ => ⟨hf.1, hf.2, hPc (T.setVm vm₁) hT hW₁⟩) with ⟨v, vm₁, ⟨U', l2, c2, s2⟩, hW₁, X', ⟨g', mk, t, L, e1, e2, hq, h1, hL, h2, h3⟩, st⟩ | ⟨q, vm₁, ⟨U', l2, c2, s2⟩, hW₁, X', ⟨g', mk, t, L, E, ce, e1, e2, hq, hce, hcv, hcl, h1, hL, h2, h3⟩, st⟩
  · dsimp only [Pt.U, Pt.locs, Pt.cells, Pt.slots] at X' e1 e2 h1 h2 h3 st
    subst h1; subst h2; subst h3
    exact Or.inl ⟨v, (T.setVm vm₁).calling g' mk (Value.ref b :: As).toArray, t, U', L, hT, X', hL, e1, e2, hq, st⟩
  · dsimp only [Pt.U, Pt.locs, Pt.cells, Pt.slots] at X' e1 e2 h1 h2 h3 st hcl
    subst h1; subst h2; subst h3
    exact Or.inr ⟨q, (T.setVm vm₁).calling g' mk (Value.ref b :: As).toArray, t, U', L, E, ce, hT, X', hL, e1, e2, hq, hce, hcv, vx_cls hW₁ hcl, st⟩
theorem vx_runS (S : CallFix p m c cc nL s args Ts own) (hM : vx_Met l y ws rm Pc Qc XC mc ms free) (cw : CallB R s args own index y bytes maxL ret ws rm mc ms n ∧ (Cond.static y).before args s = true) (hp : PreS s H Pc As)
    (hg : g.method = m) (hn : As.length = n) (hsize : g.locals.size = nL) (hstack : g.stack = As.reverse ++ rest) (hW : 2 * g.monitorRoom + (rest.map fun v => v.category).sum ≤ 8) (hdg : decode cc g.pc = .ok (.invokestatic index, 3)) (hf : cells + mc ≤ R.cells ∧ slots + ms ≤ R.slots) :
    vx_Run p l e R s m args below meth c H locs cells slots mc ms g rest (Qc As.toArray) XC free := by
  have hK : vx_Back l R p e below s args y 3 8 (PreOf R mc ms Pc) (PostOf Qc mc ms free) (vx_Post XC mc ms free) := vx_callBack cw.1 hM hp.1
  obtain ⟨⟨-, -, -, -, -, -, hcode, hini, hy, hlen, hl⟩, hstt⟩ := cw
  obtain ⟨hx, hb, hml, ho, -⟩ := S
  intro T hT X
  rcases vx_callS X hx (bytes := bytes) (maxL := maxL) (ret := ret) ho hl hstt hini hcode hy hK hg (hsize.trans hml.symm) (argsL := As) (rest := rest) (fun sig h => hn.trans (hlen sig h)) hstack hW (by rw [hb]; exact hdg)
    (fun vm₁ hW₁ => ⟨hf.1, hf.2, hp.2 (T.setVm vm₁) hT hW₁⟩) with ⟨v, vm₁, ⟨U', l2, c2, s2⟩, hW₁, X', ⟨g', mk, t, L, e1, e2, hq, h1, hL, h2, h3⟩, st⟩ | ⟨q, vm₁, ⟨U', l2, c2, s2⟩, hW₁, X', ⟨g', mk, t, L, E, ce, e1, e2, hq, hce, hcv, hcl, h1, hL, h2, h3⟩, st⟩
  · dsimp only [Pt.U, Pt.locs, Pt.cells, Pt.slots] at X' e1 e2 h1 h2 h3 st
    subst h1; subst h2; subst h3
    exact Or.inl ⟨v, (T.setVm vm₁).calling g' mk As.toArray, t, U', L, hT, X', hL, e1, e2, hq, st⟩
  · dsimp only [Pt.U, Pt.locs, Pt.cells, Pt.slots] at X' e1 e2 h1 h2 h3 st hcl
    subst h1; subst h2; subst h3
    exact Or.inr ⟨q, (T.setVm vm₁).calling g' mk As.toArray, t, U', L, E, ce, hT, X', hL, e1, e2, hq, hce, hcv, vx_cls hW₁ hcl, st⟩
end Runs
section Rows
variable {p : Program} {l : Launch} {e : Env} {R : Room} {s : State} {m : MethodId} {args : Array Value} {below : List Frame} {meth : Method} {c : Code} {H : Heap} {locs : List Loc} {cells slots : Nat} {Q : State → Prop}
variable {mc ms : Nat} {free : Addr → Prop} {A0 A1 : Nat → Prop} {H0 : Heap} {a : Array Value} {pc : Nat} {ls : Array Slot} {st0 rest : List Value}
theorem vx_keep {st₀ t T' : State} {L : List Loc} (h0 : st₀.heap = H) (e1 : T'.heap = t.heap) (hS : va_S A0 H0 H locs) (hA : ∀ q, q < H.size → A1 q → A0 q) (hf : ∀ q, free q → A0 q) (hL : ∀ q ∈ L, free q.base) (hF : va_F A1 st₀ t) :
    H.size ≤ T'.heap.size ∧ (∀ q : Nat, q < H.size → ¬ A1 q → T'.heap[q]? = H[q]?) ∧ va_S A0 H0 T'.heap (locs ++ L) := by
  obtain ⟨hz, hk⟩ := hF
  rw [h0] at hz hk
  exact ⟨by rw [e1]; exact hz, fun q h1 h2 => by rw [e1]; exact hk q h1 h2,
    ⟨Nat.le_trans hS.1 (by rw [e1]; exact hz), fun q h1 h2 => by rw [e1, hk q (Nat.lt_of_lt_of_le h1 hS.1) (fun z => h2 (hA q (Nat.lt_of_lt_of_le h1 hS.1) z))]; exact hS.2.1 q h1 h2, fun q hq => by
      rcases List.mem_append.mp hq with h | h
      · exact hS.2.2 q h
      · exact hf _ (hL q h)⟩⟩
theorem vx_calli {S SX : Type} {post : Int32 → S → Prop} {px : SX → Prop} {B : S → State → Prop} {BX : String → SX → State → Prop} {AX : Nat → Prop} (hr : vx_Run p l e R s m args below meth c H locs cells slots mc ms (F0 m pc ls st0) rest (va_Qi post B A1 a) (vx_X px BX AX) free) (hS : va_S A0 H0 H locs) (hA : ∀ q, q < H.size → A1 q → A0 q) (hf : ∀ q, free q → A0 q) (hAX : ∀ q, q < H.size → AX q → A0 q)
    (kx : ∀ (E : String) (ce : Cell) (q9 : Addr) (u : SX) (t : State) (H1 : Heap) (locs1 : List Loc), t.heap = H1 → s.vm.Alike t.vm → px u → BX E u t → H.size ≤ H1.size → (∀ q : Nat, q < H.size → ¬ AX q → H1[q]? = H[q]?) → va_S A0 H0 H1 locs1 → H1[q9]? = some ce → ce.vm = .none → s.vm.findClass E = some ce.cls → vx_W p l e R s m args below meth c H1 locs1 (cells + mc) (slots + ms) Q (F0 m pc ls rest) q9)
    (kk : ∀ (r : Int32) (u : S) (t : State) (H1 : Heap) (locs1 : List Loc), t.heap = H1 → s.vm.Alike t.vm → post r u → B u t → H.size ≤ H1.size → (∀ q : Nat, q < H.size → ¬ A1 q → H1[q]? = H[q]?) → va_S A0 H0 H1 locs1 → W p l e R s m args below meth c H1 locs1 (cells + mc) (slots + ms) Q (F0 m (pc + 3) ls (.int r :: rest))) : W p l e R s m args below meth c H locs cells slots Q (F0 m pc ls st0) := by
  intro T hT X
  rcases hr T hT X with ⟨v, st₀, t, T', L, h0, X', hL, e1, e2, ⟨⟨r, u, hv, hp, hb⟩, hF⟩, st⟩ | ⟨q, st₀, t, T', L, E, ce, h0, X', hL, e1, e2, ⟨u, hp, hb, hF⟩, hce, hcv, hcl, st⟩
  · cases hv
    obtain ⟨k1, k2, k3⟩ := vx_keep h0 e1 hS hA hf hL hF
    obtain ⟨t2, a1, b1⟩ := kk r u t T'.heap (locs ++ L) e1.symm (by rw [← e2]; exact X'.warmed.alike) hp hb k1 k2 k3 T' rfl X'
    exact ⟨t2, st t2 a1, b1⟩
  · obtain ⟨k1, k2, k3⟩ := vx_keep h0 e1 hS hAX hf hL hF
    obtain ⟨t2, a1, b1⟩ := kx E ce q u t T'.heap (locs ++ L) e1.symm (by rw [← e2]; exact X'.warmed.alike) hp hb k1 k2 k3 (by rw [e1]; exact hce) hcv hcl T' rfl X'
    exact ⟨t2, st.trans a1, b1⟩
theorem vx_calll {S SX : Type} {post : Int64 → S → Prop} {px : SX → Prop} {B : S → State → Prop} {BX : String → SX → State → Prop} {AX : Nat → Prop} (hr : vx_Run p l e R s m args below meth c H locs cells slots mc ms (F0 m pc ls st0) rest (va_Ql post B A1 a) (vx_X px BX AX) free) (hS : va_S A0 H0 H locs) (hA : ∀ q, q < H.size → A1 q → A0 q) (hf : ∀ q, free q → A0 q) (hAX : ∀ q, q < H.size → AX q → A0 q)
    (kx : ∀ (E : String) (ce : Cell) (q9 : Addr) (u : SX) (t : State) (H1 : Heap) (locs1 : List Loc), t.heap = H1 → s.vm.Alike t.vm → px u → BX E u t → H.size ≤ H1.size → (∀ q : Nat, q < H.size → ¬ AX q → H1[q]? = H[q]?) → va_S A0 H0 H1 locs1 → H1[q9]? = some ce → ce.vm = .none → s.vm.findClass E = some ce.cls → vx_W p l e R s m args below meth c H1 locs1 (cells + mc) (slots + ms) Q (F0 m pc ls rest) q9)
    (kk : ∀ (r : Int64) (u : S) (t : State) (H1 : Heap) (locs1 : List Loc), t.heap = H1 → s.vm.Alike t.vm → post r u → B u t → H.size ≤ H1.size → (∀ q : Nat, q < H.size → ¬ A1 q → H1[q]? = H[q]?) → va_S A0 H0 H1 locs1 → W p l e R s m args below meth c H1 locs1 (cells + mc) (slots + ms) Q (F0 m (pc + 3) ls (.long r :: rest))) : W p l e R s m args below meth c H locs cells slots Q (F0 m pc ls st0) := by
  intro T hT X
  rcases hr T hT X with ⟨v, st₀, t, T', L, h0, X', hL, e1, e2, ⟨⟨r, u, hv, hp, hb⟩, hF⟩, st⟩ | ⟨q, st₀, t, T', L, E, ce, h0, X', hL, e1, e2, ⟨u, hp, hb, hF⟩, hce, hcv, hcl, st⟩
  · cases hv
    obtain ⟨k1, k2, k3⟩ := vx_keep h0 e1 hS hA hf hL hF
    obtain ⟨t2, a1, b1⟩ := kk r u t T'.heap (locs ++ L) e1.symm (by rw [← e2]; exact X'.warmed.alike) hp hb k1 k2 k3 T' rfl X'
    exact ⟨t2, st t2 a1, b1⟩
  · obtain ⟨k1, k2, k3⟩ := vx_keep h0 e1 hS hAX hf hL hF
    obtain ⟨t2, a1, b1⟩ := kx E ce q u t T'.heap (locs ++ L) e1.symm (by rw [← e2]; exact X'.warmed.alike) hp hb k1 k2 k3 (by rw [e1]; exact hce) hcv hcl T' rfl X'
    exact ⟨t2, st.trans a1, b1⟩
theorem vx_callf {S SX : Type} {post : UInt32 → S → Prop} {px : SX → Prop} {B : S → State → Prop} {BX : String → SX → State → Prop} {AX : Nat → Prop} (hr : vx_Run p l e R s m args below meth c H locs cells slots mc ms (F0 m pc ls st0) rest (va_Qf post B A1 a) (vx_X px BX AX) free) (hS : va_S A0 H0 H locs) (hA : ∀ q, q < H.size → A1 q → A0 q) (hf : ∀ q, free q → A0 q) (hAX : ∀ q, q < H.size → AX q → A0 q)
    (kx : ∀ (E : String) (ce : Cell) (q9 : Addr) (u : SX) (t : State) (H1 : Heap) (locs1 : List Loc), t.heap = H1 → s.vm.Alike t.vm → px u → BX E u t → H.size ≤ H1.size → (∀ q : Nat, q < H.size → ¬ AX q → H1[q]? = H[q]?) → va_S A0 H0 H1 locs1 → H1[q9]? = some ce → ce.vm = .none → s.vm.findClass E = some ce.cls → vx_W p l e R s m args below meth c H1 locs1 (cells + mc) (slots + ms) Q (F0 m pc ls rest) q9)
    (kk : ∀ (r : UInt32) (u : S) (t : State) (H1 : Heap) (locs1 : List Loc), t.heap = H1 → s.vm.Alike t.vm → post r u → B u t → H.size ≤ H1.size → (∀ q : Nat, q < H.size → ¬ A1 q → H1[q]? = H[q]?) → va_S A0 H0 H1 locs1 → W p l e R s m args below meth c H1 locs1 (cells + mc) (slots + ms) Q (F0 m (pc + 3) ls (.float r :: rest))) : W p l e R s m args below meth c H locs cells slots Q (F0 m pc ls st0) := by
  intro T hT X
  rcases hr T hT X with ⟨v, st₀, t, T', L, h0, X', hL, e1, e2, ⟨⟨r, u, hv, hp, hb⟩, hF⟩, st⟩ | ⟨q, st₀, t, T', L, E, ce, h0, X', hL, e1, e2, ⟨u, hp, hb, hF⟩, hce, hcv, hcl, st⟩
  · cases hv
    obtain ⟨k1, k2, k3⟩ := vx_keep h0 e1 hS hA hf hL hF
    obtain ⟨t2, a1, b1⟩ := kk r u t T'.heap (locs ++ L) e1.symm (by rw [← e2]; exact X'.warmed.alike) hp hb k1 k2 k3 T' rfl X'
    exact ⟨t2, st t2 a1, b1⟩
  · obtain ⟨k1, k2, k3⟩ := vx_keep h0 e1 hS hAX hf hL hF
    obtain ⟨t2, a1, b1⟩ := kx E ce q u t T'.heap (locs ++ L) e1.symm (by rw [← e2]; exact X'.warmed.alike) hp hb k1 k2 k3 (by rw [e1]; exact hce) hcv hcl T' rfl X'
    exact ⟨t2, st.trans a1, b1⟩
theorem vx_calld {S SX : Type} {post : UInt64 → S → Prop} {px : SX → Prop} {B : S → State → Prop} {BX : String → SX → State → Prop} {AX : Nat → Prop} (hr : vx_Run p l e R s m args below meth c H locs cells slots mc ms (F0 m pc ls st0) rest (va_Qd post B A1 a) (vx_X px BX AX) free) (hS : va_S A0 H0 H locs) (hA : ∀ q, q < H.size → A1 q → A0 q) (hf : ∀ q, free q → A0 q) (hAX : ∀ q, q < H.size → AX q → A0 q)
    (kx : ∀ (E : String) (ce : Cell) (q9 : Addr) (u : SX) (t : State) (H1 : Heap) (locs1 : List Loc), t.heap = H1 → s.vm.Alike t.vm → px u → BX E u t → H.size ≤ H1.size → (∀ q : Nat, q < H.size → ¬ AX q → H1[q]? = H[q]?) → va_S A0 H0 H1 locs1 → H1[q9]? = some ce → ce.vm = .none → s.vm.findClass E = some ce.cls → vx_W p l e R s m args below meth c H1 locs1 (cells + mc) (slots + ms) Q (F0 m pc ls rest) q9)
    (kk : ∀ (r : UInt64) (u : S) (t : State) (H1 : Heap) (locs1 : List Loc), t.heap = H1 → s.vm.Alike t.vm → post r u → B u t → H.size ≤ H1.size → (∀ q : Nat, q < H.size → ¬ A1 q → H1[q]? = H[q]?) → va_S A0 H0 H1 locs1 → W p l e R s m args below meth c H1 locs1 (cells + mc) (slots + ms) Q (F0 m (pc + 3) ls (.double r :: rest))) : W p l e R s m args below meth c H locs cells slots Q (F0 m pc ls st0) := by
  intro T hT X
  rcases hr T hT X with ⟨v, st₀, t, T', L, h0, X', hL, e1, e2, ⟨⟨r, u, hv, hp, hb⟩, hF⟩, st⟩ | ⟨q, st₀, t, T', L, E, ce, h0, X', hL, e1, e2, ⟨u, hp, hb, hF⟩, hce, hcv, hcl, st⟩
  · cases hv
    obtain ⟨k1, k2, k3⟩ := vx_keep h0 e1 hS hA hf hL hF
    obtain ⟨t2, a1, b1⟩ := kk r u t T'.heap (locs ++ L) e1.symm (by rw [← e2]; exact X'.warmed.alike) hp hb k1 k2 k3 T' rfl X'
    exact ⟨t2, st t2 a1, b1⟩
  · obtain ⟨k1, k2, k3⟩ := vx_keep h0 e1 hS hAX hf hL hF
    obtain ⟨t2, a1, b1⟩ := kx E ce q u t T'.heap (locs ++ L) e1.symm (by rw [← e2]; exact X'.warmed.alike) hp hb k1 k2 k3 (by rw [e1]; exact hce) hcv hcl T' rfl X'
    exact ⟨t2, st.trans a1, b1⟩
theorem vx_callv {S SX : Type} {post : S → Prop} {px : SX → Prop} {B : S → State → Prop} {BX : String → SX → State → Prop} {AX : Nat → Prop} (hr : vx_Run p l e R s m args below meth c H locs cells slots mc ms (F0 m pc ls st0) rest (va_Qv post B A1 a) (vx_X px BX AX) free) (hS : va_S A0 H0 H locs) (hA : ∀ q, q < H.size → A1 q → A0 q) (hf : ∀ q, free q → A0 q) (hAX : ∀ q, q < H.size → AX q → A0 q)
    (kx : ∀ (E : String) (ce : Cell) (q9 : Addr) (u : SX) (t : State) (H1 : Heap) (locs1 : List Loc), t.heap = H1 → s.vm.Alike t.vm → px u → BX E u t → H.size ≤ H1.size → (∀ q : Nat, q < H.size → ¬ AX q → H1[q]? = H[q]?) → va_S A0 H0 H1 locs1 → H1[q9]? = some ce → ce.vm = .none → s.vm.findClass E = some ce.cls → vx_W p l e R s m args below meth c H1 locs1 (cells + mc) (slots + ms) Q (F0 m pc ls rest) q9)
    (kk : ∀ (u : S) (t : State) (H1 : Heap) (locs1 : List Loc), t.heap = H1 → s.vm.Alike t.vm → post u → B u t → H.size ≤ H1.size → (∀ q : Nat, q < H.size → ¬ A1 q → H1[q]? = H[q]?) → va_S A0 H0 H1 locs1 → W p l e R s m args below meth c H1 locs1 (cells + mc) (slots + ms) Q (F0 m (pc + 3) ls (rest))) : W p l e R s m args below meth c H locs cells slots Q (F0 m pc ls st0) := by
  intro T hT X
  rcases hr T hT X with ⟨v, st₀, t, T', L, h0, X', hL, e1, e2, ⟨⟨u, hv, hp, hb⟩, hF⟩, st⟩ | ⟨q, st₀, t, T', L, E, ce, h0, X', hL, e1, e2, ⟨u, hp, hb, hF⟩, hce, hcv, hcl, st⟩
  · cases hv
    obtain ⟨k1, k2, k3⟩ := vx_keep h0 e1 hS hA hf hL hF
    obtain ⟨t2, a1, b1⟩ := kk u t T'.heap (locs ++ L) e1.symm (by rw [← e2]; exact X'.warmed.alike) hp hb k1 k2 k3 T' rfl X'
    exact ⟨t2, st t2 a1, b1⟩
  · obtain ⟨k1, k2, k3⟩ := vx_keep h0 e1 hS hAX hf hL hF
    obtain ⟨t2, a1, b1⟩ := kx E ce q u t T'.heap (locs ++ L) e1.symm (by rw [← e2]; exact X'.warmed.alike) hp hb k1 k2 k3 (by rw [e1]; exact hce) hcv hcl T' rfl X'
    exact ⟨t2, st.trans a1, b1⟩
/-- caught by the row x of this method's table; the rows ahead don't take it -/
theorem vx_catch {own name : String} {E : String} {ce : Cell} {q : Addr} (hown : s.vm.findClass own = some m.cls) (pre : List ExceptionTableEntry) (x : ExceptionTableEntry) (suf : List ExceptionTableEntry) (hsplit : c.exceptionTable.toList = pre ++ x :: suf)
    (hpass : ∀ z ∈ pre, covers z pc = false ∨ (z.catchType ≠ 0 ∧ ∃ nm : String, (Cond.classLink own z.catchType nm).before args s = true ∧ va_Nc E nm s)) (hx : covers x pc = true) (h0 : x.catchType ≠ 0)
    (hlink : (Cond.classLink own x.catchType name).before args s = true) (hcast : (Cond.castable E name).before args s = true) (hcell : H[q]? = some ce) (hv : ce.vm = .none) (hcl : s.vm.findClass E = some ce.cls)
    (kk : W p l e R s m args below meth c H locs cells slots Q (F0 m x.handlerPc ls [.ref q])) : vx_W p l e R s m args below meth c H locs cells slots Q (F0 m pc ls rest) q := by
  intro T hT X
  have hpl : e.platform.magicAccessors = ({} : Platform).magicAccessors := by rw [X.admits.platform]
  obtain ⟨c3, c4, hc3, hc4, hasg⟩ := Cond.castable_spec hcast
  cases Option.some.inj (hc3.symm.trans hcl)
  obtain ⟨c5, hc5, hcl5⟩ := Cond.classLink_spec hown hlink e.platform hpl
  cases Option.some.inj (hc4.symm.trans hc5)
  obtain ⟨vm', X', st⟩ := X.thenCaughtThrough q (g := F0 m pc ls rest) rfl (Steps.refl _) (by rw [hT]; exact hcell) (by rw [hv]; rfl) (by obtain ⟨k9, h9, -⟩ := Vm.findClass_spec hcl; exact ⟨k9, h9⟩) pre x suf hsplit
    (fun z hz => by
      rcases hpass z hz with h | ⟨hz0, nm, hl1, hn1⟩
      · exact Or.inl h
      · obtain ⟨c6, hc6, hcl6⟩ := Cond.classLink_spec hown hl1 e.platform hpl
        obtain ⟨a8, b8, h1, h2, h3⟩ := hn1
        cases Option.some.inj (h1.symm.trans hcl)
        cases Option.some.inj (h2.symm.trans hc6)
        exact Or.inr ⟨hz0, _, hcl6, h3⟩) hx (Or.inr ⟨h0, c4, hcl5, hasg⟩)
  obtain ⟨t, a1, b1⟩ := kk (T.setVm vm') hT X'
  exact ⟨t, st.trans a1, b1⟩
end Rows
section Ends
variable {p : Program} {l : Launch} {e : Env} {R : Room} {s : State} {m : MethodId} {args : Array Value} {below : List Frame} {meth : Method} {c : Code} {H : Heap} {locs : List Loc} {cells slots : Nat} {Q : State → Prop}
variable {mc ms : Nat} {free : Addr → Prop} {A0 A1 : Nat → Prop} {H0 : Heap} {a : Array Value} {ls : Array Slot} {st0 rest : List Value}
variable {Qc : Array Value → State → Outcome → State → Prop} {XC : String → State → State → Prop}
/-- what a body that may throw owes at its end -/
def vx_MQ (below : List Frame) (Qc : Array Value → State → Outcome → State → Prop) (XC : String → State → State → Prop) (a : Array Value) (s : State) (mc ms : Nat) (free : Addr → Prop) : State → Prop := fun t =>
  ∃ o, t.status = .running ∧ Ended t below o ∧ vx_Q Qc XC mc ms free a s o t
theorem vx_ret {g : JFrame} {mc ms : Nat} (k : W p l e R s m args below meth c H locs cells slots (MQ below Qc args s mc ms free) g) : W p l e R s m args below meth c H locs cells slots (vx_MQ below Qc XC args s mc ms free) g := by
  intro T hT X
  obtain ⟨t, a1, o, b1, b2, b3, b4⟩ := k T hT X
  exact ⟨t, a1, o, b1, b2, Or.inl ⟨b3, b4⟩⟩
/-- not caught here: it goes on to the caller -/
theorem vx_widen {g : JFrame} {q : Addr} {k n : Nat} (h1 : cells ≤ k) (h2 : slots ≤ n) (kk : vx_W p l e R s m args below meth c H locs k n Q g q) : vx_W p l e R s m args below meth c H locs cells slots Q g q := fun T hT X => kk T hT (stand_widen X h1 h2)
theorem vx_out {pc : Nat} {E : String} {ce : Cell} {q : Addr} {mc ms : Nat} (hout : ∀ x ∈ c.exceptionTable.toList, covers x pc = false) (hlocks : meth.locks = false) (hcell : H[q]? = some ce) (hv : ce.vm = .none) (hcl : s.vm.findClass E = some ce.cls)
    (hx : ∀ t : State, t.heap = H → s.vm.Alike t.vm → XC E s t) (hf : ∀ z ∈ locs, free z.base) (hc : cells ≤ mc) (hs : slots ≤ ms) :
    vx_W p l e R s m args below meth c H locs cells slots (vx_MQ below Qc XC args s mc ms free) (F0 m pc ls rest) q := by
  intro T hT X
  obtain ⟨st1, hrun, hend, hW, hsm⟩ := X.leaveThrown q (g := F0 m pc ls rest) rfl rfl rfl hout hlocks
  have hcell9 : (T.setFrames (.throwing q :: below)).heap[q]? = some ce := by
    show T.heap[q]? = some ce
    rw [hT]; exact hcell
  exact ⟨_, st1, .threw q, hrun, hend, Or.inr ⟨q, rfl, E, ce, locs, hx _ hT hW.alike, hcell9, hv, hcl, hW, hsm.mono hc hs, hf⟩⟩
theorem vx_frame {U : State} {k n : Nat} (h : s.sameButNew ({ U with vm := s.vm } : State) locs k n) : s.heap.size ≤ U.heap.size ∧ ∀ q : Nat, q < s.heap.size → (∀ z ∈ locs, z.base ≠ q) → U.heap[q]? = s.heap[q]? := by
  obtain ⟨-, h2, -, -, -, h6⟩ := h
  refine ⟨h2, fun q hq hz => ?_⟩
  obtain ⟨c9, e1, e2, e3, e4⟩ := h6 q _ (Array.getElem?_eq_getElem hq)
  have hs : c9.slots = (s.heap[q]).slots := Array.ext_getElem? fun i => e4 i fun hm => hz _ hm rfl
  have h9 : c9 = s.heap[q] := by
    rw [hs] at e2
    exact e2
  have e5 : U.heap[q]? = some c9 := e1
  rw [e5, h9, Array.getElem?_eq_getElem hq]
/-- the words of a throw but the four that speak of the heap -/
def vx_no (w : Cond) : Bool := decide (w ≠ .isRef (.static Bundle.tN "UNASSIGNED_STACK" Bundle.steD)) && decide (w ≠ .isRef (.static Bundle.tN "SUPPRESSED_SENTINEL" Bundle.listD)) && decide (w ≠ .laysStatic Bundle.tN "UNASSIGNED_STACK" Bundle.steD) && decide (w ≠ .laysStatic Bundle.tN "SUPPRESSED_SENTINEL" Bundle.listD)
def vx_at0 (own : String) (ic : Nat) (X : String) (names : List String) : List Cond := (Bundle.ownAtoms0 own ic X names).filter vx_no
def vx_atS (own : String) (ic : Nat) (X : String) (names : List String) : List Cond := (Bundle.ownAtoms own ic X names).filter vx_no
/-- a word that the tables alone decide, or a good one -/
def vx_ot (w : Cond) : Bool := w.onTables || goodWord w
theorem vx_ot_at {args a' : Array Value} {s U : State} {w : Cond} (hW : s.WarmedH U.vm) (hvm : s.vm = U.vm) (hg : vx_ot w = true) (h : w.before args s = true) : w.before a' U = true := by
  simp only [vx_ot, Bool.or_eq_true] at hg
  rcases hg with hg | hg
  · exact va_tabs hg hvm h
  · exact word_at hW (good_of_word hg) h
/-- a list's words: the good ones out of the method's own list, the others by premises of their own -/
theorem vx_hat {args : Array Value} {s : State} {L B : List Cond} (h1 : ∀ w ∈ L.filter goodWord, w.before args s = true) (h2 : ∀ w ∈ L.filter (fun w => !goodWord w), w ∈ B) (h3 : ∀ w ∈ B, w.before args s = true) : ∀ w ∈ L, w.before args s = true := by
  intro w hw
  by_cases g : goodWord w = true
  · exact h1 w (List.mem_filter.mpr ⟨hw, g⟩)
  · refine h3 w (h2 w (List.mem_filter.mpr ⟨hw, ?_⟩))
    show (!goodWord w) = true
    cases hgw : goodWord w
    · rfl
    · exact absurd hgw g
theorem vx_c {args : Array Value} {s : State} {w : Cond} {B : List Cond} (h : w.before args s = true) (t : ∀ w ∈ B, w.before args s = true) : ∀ w' ∈ w :: B, w'.before args s = true := fun w' h' => (List.mem_cons.mp h').elim (fun e => by rw [e]; exact h) (t w')
theorem vx_n {args : Array Value} {s : State} : ∀ w ∈ ([] : List Cond), w.before args s = true := fun _ h => nomatch h
theorem vx_own {args : Array Value} {s : State} {L : List Cond} (h1 : ∀ w ∈ L.filter vx_no, w.before args s = true)
    (hU : (Cond.isRef (.static Bundle.tN "UNASSIGNED_STACK" Bundle.steD)).before args s = true) (hN : (Cond.isRef (.static Bundle.tN "SUPPRESSED_SENTINEL" Bundle.listD)).before args s = true)
    (lU : (Cond.laysStatic Bundle.tN "UNASSIGNED_STACK" Bundle.steD).before args s = true) (lN : (Cond.laysStatic Bundle.tN "SUPPRESSED_SENTINEL" Bundle.listD).before args s = true) : ∀ w ∈ L, w.before args s = true := by
  intro w hw
  by_cases e1 : w = .isRef (.static Bundle.tN "UNASSIGNED_STACK" Bundle.steD)
  · rw [e1]; exact hU
  · by_cases e2 : w = .isRef (.static Bundle.tN "SUPPRESSED_SENTINEL" Bundle.listD)
    · rw [e2]; exact hN
    · by_cases e3 : w = .laysStatic Bundle.tN "UNASSIGNED_STACK" Bundle.steD
      · rw [e3]; exact lU
      · by_cases e4 : w = .laysStatic Bundle.tN "SUPPRESSED_SENTINEL" Bundle.listD
        · rw [e4]; exact lN
        · exact h1 w (List.mem_filter.mpr ⟨hw, by unfold vx_no; rw [decide_eq_true e1, decide_eq_true e2, decide_eq_true e3, decide_eq_true e4]; rfl⟩)
/-- where a static field lies, its class's statics cell in H -/
def vx_L (C n d : String) (A : Nat → Prop) (U : State) (H : Heap) : Prop := ∃ (c : ClassId) (k : Class) (i : Nat) (f : Field) (a : Nat) (cell : Cell), U.vm.findClass C = some c ∧ U.fieldFound? C n d = some (c, k, i, f) ∧ f.isStatic = true ∧ k.statics = some a ∧ H[a]? = some cell ∧ cell.vm.isStatics = true ∧ cell.cls = c ∧ f.slot < cell.slots.size ∧ k.staticTypes[f.slot]? = some f.type ∧ ¬ A a
theorem vx_L.moved {C n d : String} {A : Nat → Prop} {u U : State} {H : Heap} (hvm : u.vm.Alike U.vm) (h : vx_L C n d A u H) : vx_L C n d A U H := by
  obtain ⟨c, k, i, f, a, cell, h1, h2, h3, h4, h5, h6, h7, h8, h9, h10⟩ := h
  obtain ⟨k', hi', he⟩ := State.fieldFound?_setVm hvm h2
  exact ⟨c, k', i, f, a, cell, by rw [hvm.findClass]; exact h1, hi', h3, by rw [he]; exact h4, h5, h6, h7, h8, by rw [he]; exact h9, h10⟩
theorem vx_L.kept {C n d : String} {A : Nat → Prop} {U : State} {H H1 : Heap} (h : vx_L C n d A U H) (hq : ∀ a : Nat, a < H.size → ¬ A a → H1[a]? = H[a]?) : vx_L C n d A U H1 := by
  obtain ⟨c, k, i, f, a, cell, h1, h2, h3, h4, h5, h6, h7, h8, h9, h10⟩ := h
  exact ⟨c, k, i, f, a, cell, h1, h2, h3, h4, by rw [hq a (Array.getElem?_eq_some_iff.mp h5).1 h10]; exact h5, h6, h7, h8, h9, h10⟩
theorem vx_L.narrow {C n d : String} {A B : Nat → Prop} {U : State} {H : Heap} (h : vx_L C n d A U H) (hAB : ∀ q, B q → A q) : vx_L C n d B U H := by
  obtain ⟨c, k, i, f, a, cell, h1, h2, h3, h4, h5, h6, h7, h8, h9, h10⟩ := h
  exact ⟨c, k, i, f, a, cell, h1, h2, h3, h4, h5, h6, h7, h8, h9, fun z => h10 (hAB _ z)⟩
theorem vx_L.word {C n d : String} {A : Nat → Prop} {s : State} {args : Array Value} (h : vx_L C n d A s s.heap) : (Cond.laysStatic C n d).before args s = true := by
  obtain ⟨c, k, i, f, a, cell, h1, h2, h3, h4, h5, h6, h7, h8, h9, -⟩ := h
  show (Cond.laysStatic C n d).holds args s none s [] = true
  exact Cond.laysStatic_of h1 h2 h3 h4 h5 h6 h7 h8 h9
/-- .. and what it holds: null or some reference -/
def vx_Zq (C n d : String) (A : Nat → Prop) (U : State) (H : Heap) : Prop := va_Zq C n d A U H ∧ vx_L C n d A U H
theorem vx_Zq.moved {C n d : String} {A : Nat → Prop} {u U : State} {H : Heap} (hvm : u.vm.Alike U.vm) (h : vx_Zq C n d A u H) : vx_Zq C n d A U H := ⟨va_Zq.moved hvm h.1, vx_L.moved hvm h.2⟩
theorem vx_Zq.kept {C n d : String} {A : Nat → Prop} {U : State} {H H1 : Heap} (h : vx_Zq C n d A U H) (hq : ∀ a : Nat, a < H.size → ¬ A a → H1[a]? = H[a]?) : vx_Zq C n d A U H1 := ⟨va_Zq.kept h.1 hq, vx_L.kept h.2 hq⟩
theorem vx_Zq.narrow {C n d : String} {A B : Nat → Prop} {U : State} {H : Heap} (h : vx_Zq C n d A U H) (hAB : ∀ q, B q → A q) : vx_Zq C n d B U H := ⟨va_Zq.narrow h.1 hAB, vx_L.narrow h.2 hAB⟩
theorem vx_Zqof {args : Array Value} {s : State} {C n d : String} {A : Nat → Prop} (hl : (Cond.laysStatic C n d).before args s = true) (hini : (Cond.initialized C).before args s = true) (h : (Cond.isRef (.static C n d)).before args s = true) (hA : ∀ a : Nat, a < s.heap.size → ¬ A a) : vx_Zq C n d A s s.heap := by
  refine ⟨va_Zqof hl hini h hA, ?_⟩
  obtain ⟨c, k, i, f, a, cell, h1, h2, h3, h4, h5, h6, h7, h8, h9⟩ := Cond.laysStatic_spec hl
  exact ⟨c, k, i, f, a, cell, h1, h2, h3, h4, h5, h6, h7, h8, h9, hA a (Array.getElem?_eq_some_iff.mp h5).1⟩
theorem vx_isRef {C n d : String} {v : Value} {A : Nat → Prop} {s : State} {args : Array Value} (h : va_Z C n d v A s s.heap) (hv : v.isRef = true) : (Cond.isRef (.static C n d)).before args s = true := by
  obtain ⟨cf, kf, fi, f, a, cell, h1, h2, h3, h4, h5, h6, h7, -⟩ := h
  have he : (Term.static C n d).eval args s none [] s = some v := by
    simp [Term.eval, State.fieldNamed?, h1, h2, h4, h5, h6, h7]
  simp only [Cond.before, Cond.holds, Cond.value, he]
  cases v <;> simp_all [Value.isRef]
theorem vx_isRefq {C n d : String} {A : Nat → Prop} {s : State} {args : Array Value} (h : va_Zq C n d A s s.heap) : (Cond.isRef (.static C n d)).before args s = true := by
  rcases h with h | ⟨t, h⟩
  · exact vx_isRef h rfl
  · exact vx_isRef h rfl
/-- the same frame, seen from here: as if the method were called anew in this heap -/
theorem vx_rebase {T : State} (X : Stand p l e R s m args below meth c T locs cells slots) {R' : Room} (hf : R'.frames ≤ R.frames) (hl : R'.locals ≤ R.locals) (hc : cells + R'.cells ≤ R.cells) (hs : slots + R'.slots ≤ R.slots) :
    Stand p l e R' ((T.setVm s.vm).setFrames (.invoking m args :: below)) m args below meth c T [] 0 0 := by
  have htop : (T.setVm s.vm).topJava?.isSome := X.here.top
  have hF : ((T.setVm s.vm).setFrames (.invoking m args :: below)).frames = .invoking m args :: below := State.frames_setFrames _ (State.cur_lt_of_top htop)
  obtain ⟨g₀, hg0⟩ := Option.isSome_iff_exists.mp htop
  obtain ⟨r, hr⟩ := State.topJava?_eq_some.mp hg0
  have hl9 : e.platform.stackLimits (T.setVm s.vm).me = e.platform.stackLimits s.me := X.limits
  have hb9 : (T.setVm s.vm).me.stackBytes = s.me.stackBytes := X.bytes
  refine ⟨X.admits, X.cas, X.clock, hF, ?_, X.hears, X.method, X.code, X.here, X.tail, X.warmed, ?_, ?_, ?_⟩
  · have h := X.room
    have hU : ((T.setVm s.vm).setFrames (.invoking m args :: below)).localsInUse = s.localsInUse := by
      rw [State.localsInUse_invoking hF (meth := meth) (c := c) X.method X.code, State.localsInUse_invoking X.frames X.method X.code]
    simp only [State.hasRoom, Bool.and_eq_true, decide_eq_true_eq] at h ⊢
    obtain ⟨⟨⟨⟨h1, h2, h3, h4, h5, h6⟩, h7⟩, h8⟩, h9⟩ := h
    rw [X.frames, List.length_cons] at h2 h3
    have q1 := X.heapSize
    have q2 := X.used
    simp only [hF, hU, List.length_cons, State.stackLimits_setFrames, State.stackBytes_setFrames, hl9, hb9]
    refine ⟨⟨⟨⟨by omega, by omega, by omega, by omega, by omega, h6⟩, ?_⟩, ?_⟩, X.book⟩
    · show T.heap.size + R'.cells ≤ e.platform.maxCells
      omega
    · show T.slotsUsed + R'.slots ≤ e.platform.maxSlots
      omega
  · rw [State.stackLimits_setFrames]; rfl
  · rw [State.stackBytes_setFrames]; rfl
  · refine ⟨?_, Nat.le_refl _, Nat.le_refl _, ?_, ?_, fun a c9 h9 => ⟨c9, h9, rfl, rfl, fun _ _ => rfl⟩⟩
    · obtain ⟨t, ht, -⟩ := State.frames_cons hr
      show T.setVm s.vm = { ((T.setVm s.vm).setFrames (.invoking m args :: below)).setFrames (T.setVm s.vm).frames with heap := T.heap, slotsUsed := T.slotsUsed }
      rw [State.setFrames_setFrames, State.setFrames_self ht]
      rfl
    · show T.slotsUsed = T.slotsUsed + ((T.heap.toList.drop T.heap.size).map (·.slots.size)).sum
      rw [List.drop_eq_nil_of_le (Nat.le_of_eq Array.length_toList)]
      rfl
    · show ((T.heap.toList.drop T.heap.size).map (·.slots.size)).sum ≤ 0
      rw [List.drop_eq_nil_of_le (Nat.le_of_eq Array.length_toList)]
      exact Nat.le_refl _
/-- 'throw new E()': new; dup; invokespecial; athrow -/
theorem vx_throw0 {cc : ByteArray} {pc : Nat} (hexec : p.tables.exec = Jvm.exec) (hb : c.code = cc) (hl : l.stackTraces = false) {own cls : String} {names : List String} {ik ic mc ms : Nat} {A : Nat → Prop}
    (hown : s.vm.findClass own = some m.cls) (hcls : Bundle.fit cls = true) (hnames : ∀ n ∈ names, Bundle.fit n = true)
    (hk : (Cond.classLink own ik cls).before args s = true) (hini : (Cond.initialized cls).before args s = true) (hat : ∀ w ∈ vx_at0 own ic cls names, w.before args s = true)
    (hgood : ∀ w ∈ Cond.classLink own ik cls :: Cond.initialized cls :: vx_at0 own ic cls names, vx_ot w = true)
    (hU : vx_Zq Bundle.tN "UNASSIGNED_STACK" Bundle.steD A s s.heap) (hN : vx_Zq Bundle.tN "SUPPRESSED_SENTINEL" Bundle.listD A s s.heap) (hS : va_S A s.heap H locs) (hsize : ls.size = c.maxLocals)
    (d0 : decode cc pc = .ok (.new ik, 3)) (d3 : decode cc (pc + 3) = .ok (.dup, 1)) (d4 : decode cc (pc + 4) = .ok (.invokespecial ic, 3)) (d7 : decode cc (pc + 7) = .ok (.athrow, 1))
    (hout : ∀ x ∈ c.exceptionTable.toList, covers x (pc + 7) = false)
    (hRframes : names.length + 3 < R.frames) (hRlocals : (rest.map fun v => v.category).sum + (13 * (names.length + 1) + 42) ≤ R.locals) (hRcells : cells + 1 ≤ R.cells) (hRslots : slots + 6 ≤ R.slots) (hlocks : meth.locks = false)
    (hx : ∀ t : State, s.vm.Alike t.vm → H.size ≤ t.heap.size → (∀ q : Nat, q < H.size → t.heap[q]? = H[q]?) → XC cls s t)
    (hf : ∀ z ∈ locs, free z.base) (hc : cells + 1 ≤ mc) (hs : slots + 6 ≤ ms) :
    W p l e R s m args below meth c H locs cells slots (vx_MQ below Qc XC args s mc ms free) (F0 m pc ls rest) := by
  intro T hT X
  have htr : e.platform.stackTraces = false := (show e.platform.stackTraces = l.stackTraces by rw [X.admits.platform]).trans hl
  have Y := vx_rebase X (R' := { frames := R.frames, locals := R.locals, cells := 1, slots := 6 }) (Nat.le_refl _) (Nat.le_refl _) hRcells hRslots
  obtain ⟨s', hA⟩ : ∃ z, z = (T.setVm s.vm).setFrames (.invoking m args :: below) := ⟨_, rfl⟩
  rw [← hA] at Y
  have hvm : s'.vm = s.vm := by rw [hA]; rfl
  have hhp : s'.heap = H := by rw [hA]; exact hT
  have hW0 : s.WarmedH s'.vm := by rw [hvm]; exact State.WarmedH.refl s
  have hat' : ∀ w ∈ vx_at0 own ic cls names, w.before args s' = true := fun w hw => vx_ot_at hW0 hvm.symm (hgood w (List.mem_cons_of_mem _ (List.mem_cons_of_mem _ hw))) (hat w hw)
  have hk' : (Cond.classLink own ik cls).before args s' = true := vx_ot_at hW0 hvm.symm (hgood _ List.mem_cons_self) hk
  have hini' : (Cond.initialized cls).before args s' = true := vx_ot_at hW0 hvm.symm (hgood _ (List.mem_cons_of_mem _ List.mem_cons_self)) hini
  have hU' : vx_Zq Bundle.tN "UNASSIGNED_STACK" Bundle.steD A s' s'.heap := by rw [hhp]; exact vx_Zq.moved hW0.alike (hU.kept hS.2.1)
  have hN' : vx_Zq Bundle.tN "SUPPRESSED_SENTINEL" Bundle.listD A s' s'.heap := by rw [hhp]; exact vx_Zq.moved hW0.alike (hN.kept hS.2.1)
  have h : ∀ w ∈ Bundle.ownAtoms0 own ic cls names, w.before args s' = true := vx_own hat' (vx_isRefq hU'.1) (vx_isRefq hN'.1) hU'.2.word hN'.2.word
  have hown' : s'.vm.findClass own = some m.cls := by rw [hvm]; exact hown
  have hins : (Cond.instantiable cls 6).before args s' = true := h _ (by simp [Bundle.ownAtoms0])
  obtain ⟨vm₁, cX, kX, hfX, hkX, -, -, X₁, st1⟩ := Y.newCold hexec (own := own) (C := cls) (index := ik) (n := 6) hown' hk' hins hini'
    (g := F0 m pc ls rest) rfl (by rw [hb]; exact d0) (Nat.le_refl _) (Nat.le_refl _)
  generalize hT1 : (T.setVm vm₁).pushCell { cls := cX, slots := kX.instanceTypes.map defaultValue, vm := .none } = T1 at X₁ st1
  have hcat : (Value.ref T.heap.size).category = 1 := rfl
  have hcellA : T1.heap[T.heap.size]? = some (freshCell cX kX) := by rw [← hT1]; exact State.heap_pushCell_size _ _
  have d3' : decode c.code (pc + 3) = .ok (.dup, 1) := by rw [hb]; exact d3
  obtain ⟨U, hsteps, hrun, hend, hW, hsame, ce, hce, hO⟩ := X₁.ctorThrow0 hexec htr (own := own) (cls := cls) (names := names) (ic := ic) hown' hcls hnames h (fun x hx => nomatch hx) hfX hkX hcellA (by rw [hhp, hT]; exact Nat.le_refl _)
    (g := { method := m, pc := pc + 4, locals := ls, stack := .ref T.heap.size :: .ref T.heap.size :: rest, locked := none }) rfl hsize rfl rfl (rest := rest) rfl
    (by rw [hb]; exact d4) (by rw [hb]; exact d7) hout hRframes (by simp only [List.map_cons, List.sum_cons, hcat]; omega) hlocks
  obtain ⟨f1, f2⟩ := vx_frame hsame
  rw [hhp] at f1 f2
  have hWs : s.WarmedH U.vm := State.WarmedH.trans hW0 hW
  have hcl : s.vm.findClass cls = some ce.cls := by
    have h9 := hO.cls
    rw [hvm] at h9
    exact h9
  have hall : s.sameButNew ({ U with vm := s.vm } : State) locs mc ms := by
    subst hA
    obtain ⟨e1, e2⟩ := hsame
    rw [State.setFrames_setFrames] at e1
    have h2 : (T.setVm s.vm).sameButNew ({ U with vm := s.vm } : State) [] (0 + 1) (0 + 6) := ⟨e1, e2⟩
    have h3 := X.same.trans h2
    rw [List.append_nil] at h3
    exact h3.mono hc hs
  refine ⟨U, ?_, .threw T.heap.size, hrun, hend, Or.inr ⟨T.heap.size, rfl, cls, ce, locs, hx U hWs.alike f1 (fun q hq => f2 q hq (fun z hz => nomatch hz)), hce, hO.vm, hcl, hWs, hall, hf⟩⟩
  refine st1 _ ?_
  show Steps p.tables e below (T1.setTop { method := m, pc := pc + 3, locals := ls, stack := .ref T.heap.size :: rest, locked := none }) _
  jvm_step X₁.here [X₁.here.top, hexec, d3', Value.category]
  exact hsteps
/-- 'throw new E("text")': new; dup; ldc; invokespecial; athrow -/
theorem vx_throwS {cc : ByteArray} {pc : Nat} (hexec : p.tables.exec = Jvm.exec) (hb : c.code = cc) (hl : l.stackTraces = false) {own cls text : String} {names : List String} {ik is ic mc ms sa : Nat} {A : Nat → Prop}
    (hown : s.vm.findClass own = some m.cls) (hcls : Bundle.fit cls = true) (hnames : ∀ n ∈ names, Bundle.fit n = true)
    (hk : (Cond.classLink own ik cls).before args s = true) (hini : (Cond.initialized cls).before args s = true) (hstr : vk_R own is text sa s) (hat : ∀ w ∈ vx_atS own ic cls names, w.before args s = true)
    (hgood : ∀ w ∈ Cond.classLink own ik cls :: Cond.initialized cls :: vx_atS own ic cls names, vx_ot w = true)
    (hU : vx_Zq Bundle.tN "UNASSIGNED_STACK" Bundle.steD A s s.heap) (hN : vx_Zq Bundle.tN "SUPPRESSED_SENTINEL" Bundle.listD A s s.heap) (hS : va_S A s.heap H locs) (hsize : ls.size = c.maxLocals)
    (d0 : decode cc pc = .ok (.new ik, 3)) (d3 : decode cc (pc + 3) = .ok (.dup, 1)) (d4 : decode cc (pc + 4) = .ok (.ldc is, 2)) (d6 : decode cc (pc + 6) = .ok (.invokespecial ic, 3)) (d9 : decode cc (pc + 9) = .ok (.athrow, 1))
    (hout : ∀ x ∈ c.exceptionTable.toList, covers x (pc + 9) = false)
    (hRframes : names.length + 3 < R.frames) (hRlocals : (rest.map fun v => v.category).sum + (13 * (names.length + 1) + 43) ≤ R.locals) (hRcells : cells + 1 ≤ R.cells) (hRslots : slots + 6 ≤ R.slots) (hlocks : meth.locks = false)
    (hx : ∀ t : State, s.vm.Alike t.vm → H.size ≤ t.heap.size → (∀ q : Nat, q < H.size → t.heap[q]? = H[q]?) → XC cls s t)
    (hf : ∀ z ∈ locs, free z.base) (hc : cells + 1 ≤ mc) (hs : slots + 6 ≤ ms) :
    W p l e R s m args below meth c H locs cells slots (vx_MQ below Qc XC args s mc ms free) (F0 m pc ls rest) := by
  intro T hT X
  have htr : e.platform.stackTraces = false := (show e.platform.stackTraces = l.stackTraces by rw [X.admits.platform]).trans hl
  have Y := vx_rebase X (R' := { frames := R.frames, locals := R.locals, cells := 1, slots := 6 }) (Nat.le_refl _) (Nat.le_refl _) hRcells hRslots
  obtain ⟨s', hA⟩ : ∃ z, z = (T.setVm s.vm).setFrames (.invoking m args :: below) := ⟨_, rfl⟩
  rw [← hA] at Y
  have hvm : s'.vm = s.vm := by rw [hA]; rfl
  have hhp : s'.heap = H := by rw [hA]; exact hT
  have hW0 : s.WarmedH s'.vm := by rw [hvm]; exact State.WarmedH.refl s
  have hat' : ∀ w ∈ vx_atS own ic cls names, w.before args s' = true := fun w hw => vx_ot_at hW0 hvm.symm (hgood w (List.mem_cons_of_mem _ (List.mem_cons_of_mem _ hw))) (hat w hw)
  have hk' : (Cond.classLink own ik cls).before args s' = true := vx_ot_at hW0 hvm.symm (hgood _ List.mem_cons_self) hk
  have hini' : (Cond.initialized cls).before args s' = true := vx_ot_at hW0 hvm.symm (hgood _ (List.mem_cons_of_mem _ List.mem_cons_self)) hini
  have hU' : vx_Zq Bundle.tN "UNASSIGNED_STACK" Bundle.steD A s' s'.heap := by rw [hhp]; exact vx_Zq.moved hW0.alike (hU.kept hS.2.1)
  have hN' : vx_Zq Bundle.tN "SUPPRESSED_SENTINEL" Bundle.listD A s' s'.heap := by rw [hhp]; exact vx_Zq.moved hW0.alike (hN.kept hS.2.1)
  have h : ∀ w ∈ Bundle.ownAtoms own ic cls names, w.before args s' = true := vx_own hat' (vx_isRefq hU'.1) (vx_isRefq hN'.1) hU'.2.word hN'.2.word
  have hown' : s'.vm.findClass own = some m.cls := by rw [hvm]; exact hown
  have hins : (Cond.instantiable cls 6).before args s' = true := h _ (by simp [Bundle.ownAtoms])
  obtain ⟨vm₁, cX, kX, hfX, hkX, -, -, X₁, st1⟩ := Y.newCold hexec (own := own) (C := cls) (index := ik) (n := 6) hown' hk' hins hini'
    (g := F0 m pc ls rest) rfl (by rw [hb]; exact d0) (Nat.le_refl _) (Nat.le_refl _)
  generalize hT1 : (T.setVm vm₁).pushCell { cls := cX, slots := kX.instanceTypes.map defaultValue, vm := .none } = T1 at X₁ st1
  have hcat : (Value.ref T.heap.size).category = 1 := rfl
  have hcellA : T1.heap[T.heap.size]? = some (freshCell cX kX) := by rw [← hT1]; exact State.heap_pushCell_size _ _
  have d3' : decode c.code (pc + 3) = .ok (.dup, 1) := by rw [hb]; exact d3
  have d4' : decode c.code (pc + 4) = .ok (.ldc is, 2) := by rw [hb]; exact d4
  have hstr' : vk_R own is text sa s' := vk_R.warm hW0 hstr
  obtain ⟨U, hsteps, hrun, hend, hW, hsame, ce, hce, hO⟩ := X₁.ctorThrowS hexec htr (own := own) (cls := cls) (names := names) (ic := ic) hown' hcls hnames h (fun x hx => nomatch hx) hfX hkX hcellA (by rw [hhp, hT]; exact Nat.le_refl _) (msg := .ref sa) rfl
    (g := { method := m, pc := pc + 6, locals := ls, stack := .ref sa :: .ref T.heap.size :: .ref T.heap.size :: rest, locked := none }) rfl hsize rfl rfl (rest := rest) rfl
    (by rw [hb]; exact d6) (by rw [hb]; exact d9) hout hRframes (by simp only [List.map_cons, List.sum_cons, hcat]; omega) hlocks
  obtain ⟨f1, f2⟩ := vx_frame hsame
  rw [hhp] at f1 f2
  have hWs : s.WarmedH U.vm := State.WarmedH.trans hW0 hW
  have hcl : s.vm.findClass cls = some ce.cls := by
    have h9 := hO.cls
    rw [hvm] at h9
    exact h9
  have hall : s.sameButNew ({ U with vm := s.vm } : State) locs mc ms := by
    subst hA
    obtain ⟨e1, e2⟩ := hsame
    rw [State.setFrames_setFrames] at e1
    have h2 : (T.setVm s.vm).sameButNew ({ U with vm := s.vm } : State) [] (0 + 1) (0 + 6) := ⟨e1, e2⟩
    have h3 := X.same.trans h2
    rw [List.append_nil] at h3
    exact h3.mono hc hs
  refine ⟨U, ?_, .threw T.heap.size, hrun, hend, Or.inr ⟨T.heap.size, rfl, cls, ce, locs, hx U hWs.alike f1 (fun q hq => f2 q hq (fun z hz => nomatch hz)), hce, hO.vm, hcl, hWs, hall, hf⟩⟩
  refine st1 _ ?_
  show Steps p.tables e below (T1.setTop { method := m, pc := pc + 3, locals := ls, stack := .ref T.heap.size :: rest, locked := none }) _
  jvm_step X₁.here [X₁.here.top, hexec, d3', Value.category]
  exact X₁.ldcString hexec (own := own) (text := text) (index := is) (a := sa) hown' hstr'.1 hstr'.2
    (g := { method := m, pc := pc + 4, locals := ls, stack := .ref T.heap.size :: .ref T.heap.size :: rest, locked := none }) rfl d4' _ hsteps
/-- 'throw new E("text")', the text by a wide index -/
theorem vx_throwSW {cc : ByteArray} {pc : Nat} (hexec : p.tables.exec = Jvm.exec) (hb : c.code = cc) (hl : l.stackTraces = false) {own cls text : String} {names : List String} {ik is ic mc ms sa : Nat} {A : Nat → Prop}
    (hown : s.vm.findClass own = some m.cls) (hcls : Bundle.fit cls = true) (hnames : ∀ n ∈ names, Bundle.fit n = true)
    (hk : (Cond.classLink own ik cls).before args s = true) (hini : (Cond.initialized cls).before args s = true) (hstr : vk_R own is text sa s) (hat : ∀ w ∈ vx_atS own ic cls names, w.before args s = true)
    (hgood : ∀ w ∈ Cond.classLink own ik cls :: Cond.initialized cls :: vx_atS own ic cls names, vx_ot w = true)
    (hU : vx_Zq Bundle.tN "UNASSIGNED_STACK" Bundle.steD A s s.heap) (hN : vx_Zq Bundle.tN "SUPPRESSED_SENTINEL" Bundle.listD A s s.heap) (hS : va_S A s.heap H locs) (hsize : ls.size = c.maxLocals)
    (d0 : decode cc pc = .ok (.new ik, 3)) (d3 : decode cc (pc + 3) = .ok (.dup, 1)) (d4 : decode cc (pc + 4) = .ok (.ldc_w is, 3)) (d7 : decode cc (pc + 7) = .ok (.invokespecial ic, 3)) (d10 : decode cc (pc + 10) = .ok (.athrow, 1))
    (hout : ∀ x ∈ c.exceptionTable.toList, covers x (pc + 10) = false)
    (hRframes : names.length + 3 < R.frames) (hRlocals : (rest.map fun v => v.category).sum + (13 * (names.length + 1) + 43) ≤ R.locals) (hRcells : cells + 1 ≤ R.cells) (hRslots : slots + 6 ≤ R.slots) (hlocks : meth.locks = false)
    (hx : ∀ t : State, s.vm.Alike t.vm → H.size ≤ t.heap.size → (∀ q : Nat, q < H.size → t.heap[q]? = H[q]?) → XC cls s t)
    (hf : ∀ z ∈ locs, free z.base) (hc : cells + 1 ≤ mc) (hs : slots + 6 ≤ ms) :
    W p l e R s m args below meth c H locs cells slots (vx_MQ below Qc XC args s mc ms free) (F0 m pc ls rest) := by
  intro T hT X
  have htr : e.platform.stackTraces = false := (show e.platform.stackTraces = l.stackTraces by rw [X.admits.platform]).trans hl
  have Y := vx_rebase X (R' := { frames := R.frames, locals := R.locals, cells := 1, slots := 6 }) (Nat.le_refl _) (Nat.le_refl _) hRcells hRslots
  obtain ⟨s', hA⟩ : ∃ z, z = (T.setVm s.vm).setFrames (.invoking m args :: below) := ⟨_, rfl⟩
  rw [← hA] at Y
  have hvm : s'.vm = s.vm := by rw [hA]; rfl
  have hhp : s'.heap = H := by rw [hA]; exact hT
  have hW0 : s.WarmedH s'.vm := by rw [hvm]; exact State.WarmedH.refl s
  have hat' : ∀ w ∈ vx_atS own ic cls names, w.before args s' = true := fun w hw => vx_ot_at hW0 hvm.symm (hgood w (List.mem_cons_of_mem _ (List.mem_cons_of_mem _ hw))) (hat w hw)
  have hk' : (Cond.classLink own ik cls).before args s' = true := vx_ot_at hW0 hvm.symm (hgood _ List.mem_cons_self) hk
  have hini' : (Cond.initialized cls).before args s' = true := vx_ot_at hW0 hvm.symm (hgood _ (List.mem_cons_of_mem _ List.mem_cons_self)) hini
  have hU' : vx_Zq Bundle.tN "UNASSIGNED_STACK" Bundle.steD A s' s'.heap := by rw [hhp]; exact vx_Zq.moved hW0.alike (hU.kept hS.2.1)
  have hN' : vx_Zq Bundle.tN "SUPPRESSED_SENTINEL" Bundle.listD A s' s'.heap := by rw [hhp]; exact vx_Zq.moved hW0.alike (hN.kept hS.2.1)
  have h : ∀ w ∈ Bundle.ownAtoms own ic cls names, w.before args s' = true := vx_own hat' (vx_isRefq hU'.1) (vx_isRefq hN'.1) hU'.2.word hN'.2.word
  have hown' : s'.vm.findClass own = some m.cls := by rw [hvm]; exact hown
  have hins : (Cond.instantiable cls 6).before args s' = true := h _ (by simp [Bundle.ownAtoms])
  obtain ⟨vm₁, cX, kX, hfX, hkX, -, -, X₁, st1⟩ := Y.newCold hexec (own := own) (C := cls) (index := ik) (n := 6) hown' hk' hins hini'
    (g := F0 m pc ls rest) rfl (by rw [hb]; exact d0) (Nat.le_refl _) (Nat.le_refl _)
  generalize hT1 : (T.setVm vm₁).pushCell { cls := cX, slots := kX.instanceTypes.map defaultValue, vm := .none } = T1 at X₁ st1
  have hcat : (Value.ref T.heap.size).category = 1 := rfl
  have hcellA : T1.heap[T.heap.size]? = some (freshCell cX kX) := by rw [← hT1]; exact State.heap_pushCell_size _ _
  have d3' : decode c.code (pc + 3) = .ok (.dup, 1) := by rw [hb]; exact d3
  have d4' : decode c.code (pc + 4) = .ok (.ldc_w is, 3) := by rw [hb]; exact d4
  have hstr' : vk_R own is text sa s' := vk_R.warm hW0 hstr
  obtain ⟨U, hsteps, hrun, hend, hW, hsame, ce, hce, hO⟩ := X₁.ctorThrowS hexec htr (own := own) (cls := cls) (names := names) (ic := ic) hown' hcls hnames h (fun x hx => nomatch hx) hfX hkX hcellA (by rw [hhp, hT]; exact Nat.le_refl _) (msg := .ref sa) rfl
    (g := { method := m, pc := pc + 7, locals := ls, stack := .ref sa :: .ref T.heap.size :: .ref T.heap.size :: rest, locked := none }) rfl hsize rfl rfl (rest := rest) rfl
    (by rw [hb]; exact d7) (by rw [hb]; exact d10) hout hRframes (by simp only [List.map_cons, List.sum_cons, hcat]; omega) hlocks
  obtain ⟨f1, f2⟩ := vx_frame hsame
  rw [hhp] at f1 f2
  have hWs : s.WarmedH U.vm := State.WarmedH.trans hW0 hW
  have hcl : s.vm.findClass cls = some ce.cls := by
    have h9 := hO.cls
    rw [hvm] at h9
    exact h9
  have hall : s.sameButNew ({ U with vm := s.vm } : State) locs mc ms := by
    subst hA
    obtain ⟨e1, e2⟩ := hsame
    rw [State.setFrames_setFrames] at e1
    have h2 : (T.setVm s.vm).sameButNew ({ U with vm := s.vm } : State) [] (0 + 1) (0 + 6) := ⟨e1, e2⟩
    have h3 := X.same.trans h2
    rw [List.append_nil] at h3
    exact h3.mono hc hs
  refine ⟨U, ?_, .threw T.heap.size, hrun, hend, Or.inr ⟨T.heap.size, rfl, cls, ce, locs, hx U hWs.alike f1 (fun q hq => f2 q hq (fun z hz => nomatch hz)), hce, hO.vm, hcl, hWs, hall, hf⟩⟩
  refine st1 _ ?_
  show Steps p.tables e below (T1.setTop { method := m, pc := pc + 3, locals := ls, stack := .ref T.heap.size :: rest, locked := none }) _
  jvm_step X₁.here [X₁.here.top, hexec, d3', Value.category]
  exact X₁.ldcStringW hexec (own := own) (text := text) (index := is) (a := sa) hown' hstr'.1 hstr'.2
    (g := { method := m, pc := pc + 4, locals := ls, stack := .ref T.heap.size :: .ref T.heap.size :: rest, locked := none }) rfl d4' _ hsteps
end Ends
section Bodies
variable {l : Launch}
theorem vx_ofW {y : MethodName} {ws ws' : List Cond} {rm : Room} {Pc : Array Value → State → Prop} {Qc : Array Value → State → Outcome → State → Prop} {XC : String → State → State → Prop} {mc ms : Nat} {free : Addr → Prop} {cc : ByteArray} {maxL : Nat} {ret : Option FieldType}
    (hy : plainName y.cls = true) (hw : ws = Cond.code y cc maxL ret :: ws')
    (body : ∀ p e s m args below meth c s₁, BodyLoose p l y (headSpec ws rm) cc maxL ret e s m args below meth c s₁ → c.maxLocals = maxL → (∀ x ∈ c.exceptionTable.toList, False) → Pc args s →
      W p l e (headSpec ws rm).room s m args below meth c s.heap [] 0 0 (vx_MQ below Qc XC args s mc ms free) (entryFrame m args maxL)) : vx_Met l y ws rm Pc Qc XC mc ms free := by
  refine MetFree.of_bodyS (code := cc) (maxLocals := maxL) (ret := ret) hy ?_ ?_
  · intro args s m h hn
    obtain ⟨meth, c, h1, h2, h3, h4, h5, h6, -, -⟩ := Cond.code_spec hn (atoms_spec (ws := ws) h _ (by rw [hw]; exact List.mem_cons_self))
    exact ⟨meth, c, h1, h2, h3, h4, h5, h6⟩
  · intro p e s m args below meth c s₁ B hml hP _
    have hh0 : s₁.heap = s.heap := by rw [B.state]; rfl
    have ht : ∀ x ∈ c.exceptionTable.toList, False := by
      obtain ⟨meth9, c9, h1, h2, -, -, -, -, h7, -⟩ := Cond.code_spec B.named (atoms_spec (ws := ws) B.pre _ (by rw [hw]; exact List.mem_cons_self))
      cases Option.some.inj (h1.symm.trans B.method)
      cases Option.some.inj (h2.symm.trans (Stand.of_body B).code)
      intro x hx
      rw [Array.isEmpty_iff.mp h7] at hx
      cases hx
    obtain ⟨t, a1, o, b1, b2, b3⟩ := body p e s m args below meth c s₁ B hml ht hP s₁ hh0 (Stand.of_body B)
    exact ⟨t, o, a1, b1, b2, b3⟩
/-- the table of a body with handlers -/
theorem vx_table {p : Program} {x y : MethodName} {S : Spec} {cc bytes : ByteArray} {maxL maxL' : Nat} {ret ret' : Option FieldType} {e : Env} {s s₁ : State} {m : MethodId} {args : Array Value} {below : List Frame} {meth : Method} {c : Code} {hh : List (Nat × Nat × Nat × Nat)}
    (B : BodyLoose p l y S cc maxL ret e s m args below meth c s₁) (h : (Cond.codeWith y bytes maxL' ret' hh).before args s = true) : c.exceptionTable.toList = tableOf hh := by
  obtain ⟨m9, meth9, c9, hn9, h1, h2, -, -, h6, -⟩ := Cond.codeWith_spec h
  cases Option.some.inj (hn9.symm.trans B.named)
  cases Option.some.inj (h1.symm.trans B.method)
  cases Option.some.inj (h2.symm.trans (Stand.of_body B).code)
  rw [← h6, table_eq]
end Bodies
end VXA
/-! ===== END ===== -/
/-! ===== BEGIN a static call of a method with an exception table ===== -/
section VXS
variable {p : Program} {l : Launch} {e : Env} {R : Room} {s : State} {m : MethodId} {args : Array Value} {below : List Frame} {meth : Method} {c : Code} {T : State} {H : Heap} {locs : List Loc} {cells slots : Nat}
abbrev vx_CSW (R : Room) (s : State) (args : Array Value) (own : String) (index : Nat) (y : MethodName) (bytes : ByteArray) (maxL : Nat) (ret : Option FieldType) (hh : List (Nat × Nat × Nat × Nat)) (ws : List Cond) (rm : Room) (mc ms n : Nat) : Prop :=
  (rm.cells = mc ∧ rm.slots = ms ∧ rm.frames + 1 ≤ R.frames ∧ 8 + (maxL + 11) + rm.locals ≤ R.locals ∧ (∀ w ∈ ws, ∀ (a' : Array Value) (U : State), s.WarmedH U.vm → w.before a' U = true) ∧ Cond.codeWith y bytes maxL ret hh ∈ ws) ∧
  (Cond.codeWith y bytes maxL ret hh).before args s = true ∧ (Cond.initialized y.cls).before args s = true ∧ (y.cls ≠ "java/lang/invoke/MethodHandle" ∧ y.cls ≠ "java/lang/invoke/VarHandle") ∧
  (∀ sig, parseMethodDescriptor y.desc = some sig → n = sig.parameters.length) ∧ (Cond.methodLink own index y).before args s = true ∧ (Cond.static y).before args s = true
theorem vx_cwSW {own : String} {index maxL mc ms : Nat} {y : MethodName} {bytes : ByteArray} {ret : Option FieldType} {hh : List (Nat × Nat × Nat × Nat)} {Ts ws ws' : List Cond} {rm : Room} (n : Nat) (ht : ∀ w ∈ Ts, w.before args s = true) (hT : GoodIn Ts (va_wsS own index y ws)) (hw : ws = Cond.codeWith y bytes maxL ret hh :: ws') (hrc : rm.cells = mc) (hrs : rm.slots = ms)
    (hd : y.cls ≠ "java/lang/invoke/MethodHandle" ∧ y.cls ≠ "java/lang/invoke/VarHandle" ∧ (parseMethodDescriptor y.desc).map (fun d => d.parameters.length) = some n) (hR : rm.frames + 1 ≤ R.frames ∧ 8 + (maxL + 11) + rm.locals ≤ R.locals) :
    vx_CSW R s args own index y bytes maxL ret hh ws rm mc ms n := by
  have ok : ∀ w ∈ va_wsS own index y ws, w.before args s = true := fun w h => ht w (hT w h).1
  have hG : GoodIn Ts ws := fun w h => hT w (by unfold va_wsS; exact List.mem_append_right _ h)
  have hc : Cond.codeWith y bytes maxL ret hh ∈ ws := by rw [hw]; exact List.mem_cons_self
  refine ⟨⟨hrc, hrs, hR.1, hR.2, pay_in ht hG, hc⟩, ht _ (hG _ hc).1, ok _ (by simp [va_wsS]), ⟨hd.1, hd.2.1⟩, fun sig h => ?_, ok _ (by simp [va_wsS]), ok _ (by simp [va_wsS])⟩
  have h2 := hd.2.2
  rw [h] at h2
  exact (Option.some.inj h2).symm
theorem vx_callSW (X : Stand p l e R s m args below meth c T locs cells slots) (hexec : p.tables.exec = Jvm.exec) {own : String} {index : Nat} {y : MethodName} {bytes : ByteArray} {maxL : Nat} {ret : Option FieldType} {hh : List (Nat × Nat × Nat × Nat)}
    (hown : s.vm.findClass own = some m.cls) (hlink : (Cond.methodLink own index y).before args s = true) (hstat : (Cond.static y).before args s = true) (hinit : (Cond.initialized y.cls).before args s = true)
    (hcode : (Cond.codeWith y bytes maxL ret hh).before args s = true) (hy : y.cls ≠ "java/lang/invoke/MethodHandle" ∧ y.cls ≠ "java/lang/invoke/VarHandle")
    {W9 : Nat} {Pre : Pt → Array Value → Prop} {Post : Pt → Array Value → Option Value → Pt → Prop} (hK : Back l R p e below s args y 3 W9 Pre Post)
    {g : JFrame} (hg : g.method = m) (hsize : g.locals.size = c.maxLocals) {argsL rest : List Value} (hlen : ∀ sig, parseMethodDescriptor y.desc = some sig → argsL.length = sig.parameters.length)
    (hstack : g.stack = argsL.reverse ++ rest) (hW : 2 * g.monitorRoom + (rest.map fun v => v.category).sum ≤ W9) (hdg : decode c.code g.pc = .ok (.invokestatic index, 3))
    (hpre : ∀ vm₁, s.WarmedH vm₁ → Pre ⟨T.setVm vm₁, locs, cells, slots⟩ argsL.toArray) :
    ∃ (v : Option Value) (vm₁ : Vm) (B : Pt), s.WarmedH vm₁ ∧ Stand p l e R s m args below meth c B.U B.locs B.cells B.slots ∧ Post ⟨T.setVm vm₁, locs, cells, slots⟩ argsL.toArray v B ∧
      ∀ target, Steps p.tables e below (B.U.setTop { g with pc := g.pc + 3, stack := v.toList ++ rest }) target → Steps p.tables e below (T.setTop g) target := by
  obtain ⟨mk, methM, cM, hnamed, hmethM, -, -, -, -, -, -, hsigM⟩ := Cond.codeWith_spec hcode
  have hstatic : methM.isStatic = true := Cond.static_spec hnamed hmethM hstat
  obtain ⟨kP, hkP, -⟩ := className_of_methodNamed hnamed
  have hinitP : kP.init = .initialized := Cond.initialized_spec (findClass_of_methodNamed hnamed) hkP hinit
  obtain ⟨vm₁, X₁, hstep₁⟩ := X.invokestatic hexec hown hlink hnamed hmethM hstatic hkP hinitP hy (g := g) hg (argsL := argsL) (rest := rest) (hlen _ hsigM) hstack hdg
  obtain ⟨v, B, X', hpost, hsteps⟩ := hK m meth c ⟨T.setVm vm₁, locs, cells, slots⟩ { g with stack := rest } (.invokestatic index) mk argsL.toArray X₁ hg hsize hdg hW (X₁.named hnamed) (hpre vm₁ X₁.warmed)
  exact ⟨v, vm₁, B, X₁.warmed, X', hpost, fun target h => hstep₁ _ fun acts => by rw [doInvoke_state]; exact hsteps.trans h⟩
theorem vx_runSW {y : MethodName} {bytes cc : ByteArray} {maxL nL mc ms n index : Nat} {ret : Option FieldType} {hh : List (Nat × Nat × Nat × Nat)} {ws : List Cond} {rm : Room} {Pc : Array Value → State → Prop} {Qc : Array Value → State → Outcome → State → Prop} {free : Addr → Prop} {Ts : List Cond} {own : String} {As rest : List Value} {g : JFrame}
    (S : CallFix p m c cc nL s args Ts own) (hM : Met l y ws rm Pc Qc mc ms free) (cw : vx_CSW R s args own index y bytes maxL ret hh ws rm mc ms n) (hp : PreS s H Pc As)
    (hg : g.method = m) (hn : As.length = n) (hsize : g.locals.size = nL) (hstack : g.stack = As.reverse ++ rest) (hW : 2 * g.monitorRoom + (rest.map fun v => v.category).sum ≤ 8) (hdg : decode cc g.pc = .ok (.invokestatic index, 3)) (hf : cells + mc ≤ R.cells ∧ slots + ms ≤ R.slots) :
    va_Run p l e R s m args below meth c H locs cells slots mc ms g rest (Qc As.toArray) (free) := by
  obtain ⟨⟨hrc, hrs, hfr, hlo, hws, hcw⟩, hcode, hini, hy, hlen, hl, hstt⟩ := cw
  have hK : Back l R p e below s args y 3 8 (PreOf R mc ms Pc) (PostOf Qc mc ms free) := va_backW (hh := hh) (bytes := bytes) (maxL := maxL) (ret := ret) hM hp.1 hrc hrs hfr hlo hws hcw (fun a' U hW => word_at hW (Or.inl (by first | rfl | simp [Cond.onTables, Cond.keeps, Cond.steady])) hini)
  obtain ⟨hx, hb, hml, ho, -⟩ := S
  intro T hT X
  obtain ⟨v, vm₁, ⟨U', l2, c2, s2⟩, hW₁, X', ⟨g', mk, t, L, e1, e2, hq, h1, hL, h2, h3⟩, st⟩ := vx_callSW X hx (hh := hh) (bytes := bytes) (maxL := maxL) (ret := ret) ho hl hstt hini hcode hy hK hg (hsize.trans hml.symm) (argsL := As) (rest := rest) (fun sig h => hn.trans (hlen sig h)) hstack hW (by rw [hb]; exact hdg)
    (fun vm₁ hW₁ => ⟨hf.1, hf.2, hp.2 (T.setVm vm₁) hT hW₁⟩)
  dsimp only [Pt.U, Pt.locs, Pt.cells, Pt.slots] at X' e1 e2 h1 h2 h3 st
  subst h1; subst h2; subst h3
  exact ⟨v, (T.setVm vm₁).calling g' mk As.toArray, t, U', L, hT, X', hL, e1, e2, hq, st⟩
/-- not caught here, past rows that name other classes: it goes on to the caller -/
theorem vx_outP {p : Program} {l : Launch} {e : Env} {R : Room} {s : State} {m : MethodId} {args : Array Value} {below : List Frame} {meth : Method} {c : Code} {H : Heap} {locs : List Loc} {cells slots : Nat} {free : Addr → Prop} {ls : Array Slot} {rest : List Value} {Qc : Array Value → State → Outcome → State → Prop} {XC : String → State → State → Prop}
    {pc : Nat} {own E : String} {ce : Cell} {q : Addr} {mc ms : Nat} (hown : s.vm.findClass own = some m.cls) (hlocks : meth.locks = false)
    (hpass : ∀ z ∈ c.exceptionTable.toList, covers z pc = false ∨ (z.catchType ≠ 0 ∧ ∃ nm : String, (Cond.classLink own z.catchType nm).before args s = true ∧ va_Nc E nm s)) (hcell : H[q]? = some ce) (hv : ce.vm = .none) (hcl : s.vm.findClass E = some ce.cls)
    (hx : ∀ t : State, t.heap = H → s.vm.Alike t.vm → XC E s t) (hf : ∀ z ∈ locs, free z.base) (hc : cells ≤ mc) (hs : slots ≤ ms) :
    vx_W p l e R s m args below meth c H locs cells slots (vx_MQ below Qc XC args s mc ms free) (F0 m pc ls rest) q := by
  intro T hT X
  have hpl : e.platform.magicAccessors = ({} : Platform).magicAccessors := by rw [X.admits.platform]
  obtain ⟨vm', hW', X', st⟩ := X.outThrough hlocks q (g := F0 m pc ls rest) rfl rfl rfl (cell := ce) (by rw [hT]; exact hcell) (by rw [hv]; rfl)
    (by obtain ⟨k9, h9, -⟩ := Vm.findClass_spec hcl; exact ⟨k9, h9⟩) (fun z hz => by
      rcases hpass z hz with h | ⟨hz0, nm, hl1, hn1⟩
      · exact Or.inl h
      · obtain ⟨c6, hc6, hcl6⟩ := Cond.classLink_spec hown hl1 e.platform hpl
        obtain ⟨a8, b8, h1, h2, h3⟩ := hn1
        cases Option.some.inj (h1.symm.trans hcl)
        cases Option.some.inj (h2.symm.trans hc6)
        exact Or.inr ⟨hz0, _, hcl6, h3⟩)
  obtain ⟨g₀, hfr⟩ := X'.frames_eq
  have hcell9 : ((T.setVm vm').setFrames (.throwing q :: below)).heap[q]? = some ce := by
    show T.heap[q]? = some ce
    rw [hT]; exact hcell
  have hend : Ended ((T.setVm vm').setFrames (.throwing q :: below)) below (.threw q) := State.frames_setFrames _ (State.cur_lt_of_frames hfr)
  refine ⟨(T.setVm vm').setFrames (.throwing q :: below), ?_, .threw q, X'.here.running, hend, Or.inr ⟨q, rfl, E, ce, locs, hx _ hT (X'.ends _).1.alike, hcell9, hv, hcl, (X'.ends _).1, (X'.ends _).2.mono hc hs, hf⟩⟩
  rw [X.pushThrowing_eq]
  exact st
/-- a thing of a world lies in the heap -/
theorem vx_lt {D : va_G} {cl : List vw_C} {ws : va_W} {H1 : Heap} (h : va_P D cl ws H1) {k : Nat} {q : Nat × va_E} (hk : ws[k]? = some q) : q.1 < H1.size := (h k q hk).lt
end VXS
/-! ===== END ===== -/
/-! ===== BEGIN methods with a table of their own: called by a name, returning or throwing ===== -/
section VXH
/-! vx_backW, vx_callVX, vx_callSX, vx_callVW, vx_runVW, vx_runVX, vx_runSX, vx_ofWH follow the same proofs as their sisters above (Free/Laws.lean, Shelf42/LK1.lean); vx_outP calls Shelf42/NT130.lean (outThrough). -/
section
variable {l : Launch} {R : Room} {p : Program} {e : Env} {below : List Frame} {s : State} {sargs : Array Value} {y : MethodName} {len W9 : Nat}
theorem vx_backW {ws : List Cond} {rm : Room} {Pc : Array Value → State → Prop} {Qc : Array Value → State → Outcome → State → Prop} {XC : String → State → State → Prop} {mc ms : Nat} {free : Addr → Prop} {bytes : ByteArray} {maxL : Nat} {ret : Option FieldType} {hh : List (Nat × Nat × Nat × Nat)}
    (hM : vx_Met l y ws rm Pc Qc XC mc ms free) (hblind : FrameBlind Pc) (hrc : rm.cells = mc) (hrs : rm.slots = ms)
    (hframes : rm.frames + 1 ≤ R.frames) (hlocals : W9 + (maxL + 11) + rm.locals ≤ R.locals)
    (hws : ∀ w ∈ ws, ∀ a' U, s.WarmedH U.vm → w.before a' U = true) (hcode : Cond.codeWith y bytes maxL ret hh ∈ ws) (hinit : ∀ a' U, s.WarmedH U.vm → (Cond.initialized y.cls).before a' U = true) :
    vx_Back l R p e below s sargs y len W9 (PreOf R mc ms Pc) (PostOf Qc mc ms free) (vx_Post XC mc ms free) := by
  intro m meth c A g ig mk a X hg hsize hdg hW hn hp
  have h1 : (headSpec ws rm).pre.before a A.U = true := atoms_intro fun w hw => hws w hw _ _ X.warmed
  have h2 : (Cond.codeWith y bytes maxL ret hh).before a A.U = true := hws _ hcode _ _ X.warmed
  have h3 : (Cond.initialized y.cls).before a A.U = true := hinit _ _ X.warmed
  have h4 : A.cells + (headSpec ws rm).room.cells ≤ R.cells := by rw [show (headSpec ws rm).room.cells = mc from hrc]; exact hp.1
  have h5 : A.slots + (headSpec ws rm).room.slots ≤ R.slots := by rw [show (headSpec ws rm).room.slots = ms from hrs]; exact hp.2.1
  have hPc : Pc a (A.U.calling g mk a) := hblind _ _ _ _ hp.2.2
  obtain ⟨U, Ls, c0, s0⟩ := A
  dsimp only [Pt.U, Pt.locs, Pt.cells, Pt.slots] at h1 h2 h3 h4 h5 X hn hPc ⊢
  obtain ⟨m9, methY, cY, hn9, hmY, hcY, -, hlY, -⟩ := Cond.codeWith_spec h2
  cases Option.some.inj (hn9.symm.trans hn)
  obtain ⟨kY, hkY, -⟩ := className_of_methodNamed hn
  have hinitY : kY.init = .initialized := Cond.initialized_spec (findClass_of_methodNamed hn) hkY h3
  have h : At U g.method c below := by rw [hg]; exact X.here
  have hlocals9 : W9 + (maxL + 11) + (headSpec ws rm).room.locals ≤ R.locals := hlocals
  have happ : (headSpec ws rm).appliesLoose y e.platform (U.calling g mk a) = true :=
    Spec.appliesLoose_calling (g := g) h hdg hn hkY hinitY
      (X.room_calling (g := g) (R' := (headSpec ws rm).room) hsize hmY hcY hframes (by rw [hlY]; omega) h4 h5) h1
  obtain ⟨mid, hmid⟩ := h.above
  have hfr : (U.setTop g).frames = (.java g :: mid) ++ below := by rw [State.frames_setTop' g h.top, hmid]; rfl
  obtain ⟨o, s₂, hsteps, -, hend, hq⟩ := Steps.callFree hM p X.admits X.cas X.clock (acts := []) hfr happ hPc trivial
  have hq' : vx_Q Qc XC mc ms free a (U.calling g mk a) o s₂ := hq
  rw [State.frames_setTop' g h.top] at hend
  obtain ⟨g₀, hg0⟩ := Option.isSome_iff_exists.mp h.top
  obtain ⟨r, hr⟩ := State.topJava?_eq_some.mp hg0
  have hr' : (({ U with heap := s₂.heap, slotsUsed := s₂.slotsUsed } : State).setVm s₂.vm).frames = .java g₀ :: r := hr
  rcases hq' with ⟨hqc, L, hfe, hL⟩ | ⟨q, rfl, E, ce, L, hx, hce, hcv, hcl, hW₂, hsm, hL⟩
  · obtain ⟨⟨v, rfl⟩, hW₂, e2, q2, q3, q4, q5, q6⟩ := id hfe
    have e3 : s₂ = ({ (U.calling g mk a).setFrames s₂.frames with heap := s₂.heap, slotsUsed := s₂.slotsUsed } : State).setVm s₂.vm := by
      have : s₂ = ({ s₂ with vm := (U.calling g mk a).vm } : State).setVm s₂.vm := rfl
      rw [e2] at this
      exact this
    obtain ⟨c₂, i₂, len₂, hc₂, hd₂, hf₂⟩ := hend
    have hW' : U.WarmedH s₂.vm := hW₂
    have hcc : c₂ = c := by
      have h1 : s₂.code? g.method = U.code? g.method := by
        rw [State.code?_eq, State.code?_eq, hW'.alike.method?]
      exact Option.some.inj (hc₂.symm.trans (h1.trans h.code))
    subst hcc
    have hlen : len₂ = len := by rw [hdg] at hd₂; cases hd₂; rfl
    subst hlen
    have hs₂ : s₂ = (({ U with heap := s₂.heap, slotsUsed := s₂.slotsUsed } : State).setVm s₂.vm).setTop { g with pc := g.pc + len₂, stack := v.toList ++ g.stack } := by
      refine e3.trans ?_
      rw [hf₂, State.calling_eq h.top, State.setFrames_setFrames, State.setTop_of_frames _ hr', hr]
      rfl
    have hsame : U.sameButNew ({ U with heap := s₂.heap, slotsUsed := s₂.slotsUsed } : State) L mc ms := by
      refine ⟨?_, q2, q3, q4, q5, q6⟩
      obtain ⟨t, ht, -⟩ := State.frames_cons hr
      show ({ U with heap := s₂.heap, slotsUsed := s₂.slotsUsed } : State) = { U.setFrames U.frames with heap := s₂.heap, slotsUsed := s₂.slotsUsed }
      rw [State.setFrames_self ht]
    subst hg
    refine Or.inl ⟨v, ⟨(({ U with heap := s₂.heap, slotsUsed := s₂.slotsUsed } : State).setVm s₂.vm), Ls ++ L, c0 + mc, s0 + ms⟩,
      ⟨X.admits, X.cas, X.clock, X.frames, X.room, X.hears, X.method, X.code, (X.here.setHeapUsed s₂.heap s₂.slotsUsed).setVm hW'.alike, X.tail, State.WarmedH.trans X.warmed hW', X.limits, X.bytes, X.same.trans (hsame.setVm s.vm)⟩,
      ⟨g, mk, s₂, L, rfl, rfl, hqc, rfl, hL, rfl, rfl⟩, ?_⟩
    show Steps p.tables e below _ ((({ U with heap := s₂.heap, slotsUsed := s₂.slotsUsed } : State).setVm s₂.vm).setTop { g with pc := g.pc + len₂, stack := v.toList ++ g.stack })
    rw [← hs₂]
    exact hsteps
  · obtain ⟨e2, q2, q3, q4, q5, q6⟩ := id hsm
    have e3 : s₂ = ({ (U.calling g mk a).setFrames s₂.frames with heap := s₂.heap, slotsUsed := s₂.slotsUsed } : State).setVm s₂.vm := by
      have : s₂ = ({ s₂ with vm := (U.calling g mk a).vm } : State).setVm s₂.vm := rfl
      rw [e2] at this
      exact this
    have hf₂ : s₂.frames = .throwing q :: .java g :: U.frames.tail := hend
    have hW' : U.WarmedH s₂.vm := hW₂
    have hs₂ : s₂ = ((({ U with heap := s₂.heap, slotsUsed := s₂.slotsUsed } : State).setVm s₂.vm).setTop g).pushFrame (.throwing q) := by
      refine e3.trans ?_
      rw [hf₂, State.calling_eq h.top, State.setFrames_setFrames, State.pushFrame, State.frames_setTop _ hr', State.setTop_of_frames _ hr', State.setFrames_setFrames, hr]
      rfl
    have hsame : U.sameButNew ({ U with heap := s₂.heap, slotsUsed := s₂.slotsUsed } : State) L mc ms := by
      refine ⟨?_, q2, q3, q4, q5, q6⟩
      obtain ⟨t, ht, -⟩ := State.frames_cons hr
      show ({ U with heap := s₂.heap, slotsUsed := s₂.slotsUsed } : State) = { U.setFrames U.frames with heap := s₂.heap, slotsUsed := s₂.slotsUsed }
      rw [State.setFrames_self ht]
    subst hg
    refine Or.inr ⟨q, ⟨(({ U with heap := s₂.heap, slotsUsed := s₂.slotsUsed } : State).setVm s₂.vm), Ls ++ L, c0 + mc, s0 + ms⟩,
      ⟨X.admits, X.cas, X.clock, X.frames, X.room, X.hears, X.method, X.code, (X.here.setHeapUsed s₂.heap s₂.slotsUsed).setVm hW'.alike, X.tail, State.WarmedH.trans X.warmed hW', X.limits, X.bytes, X.same.trans (hsame.setVm s.vm)⟩,
      ⟨g, mk, s₂, L, E, ce, rfl, rfl, hx, hce, hcv, hcl, rfl, hL, rfl, rfl⟩, ?_⟩
    show Steps p.tables e below _ (((({ U with heap := s₂.heap, slotsUsed := s₂.slotsUsed } : State).setVm s₂.vm).setTop g).pushFrame (.throwing q))
    rw [← hs₂]
    exact hsteps
end
variable {p : Program} {l : Launch} {e : Env} {R : Room} {s : State} {m : MethodId} {args : Array Value} {below : List Frame} {meth : Method} {c : Code} {T : State} {H : Heap} {locs : List Loc} {cells slots : Nat}
theorem vx_callVX (X : Stand p l e R s m args below meth c T locs cells slots) (hexec : p.tables.exec = Jvm.exec) {own C : String} {index : Nat} {y : MethodName} {bytes : ByteArray} {maxL : Nat} {ret : Option FieldType} {hh : List (Nat × Nat × Nat × Nat)}
    (hown : s.vm.findClass own = some m.cls) (hlink : (Cond.methodLink own index y).before args s = true) (hinst : (Cond.instanceMethod y).before args s = true) (hsel : (Cond.selects C y y).before args s = true)
    (hcode : (Cond.codeWith y bytes maxL ret hh).before args s = true) (hy : y.cls ≠ "java/lang/invoke/MethodHandle" ∧ y.cls ≠ "java/lang/invoke/VarHandle")
    {W9 : Nat} {Pre : Pt → Array Value → Prop} {Post : Pt → Array Value → Option Value → Pt → Prop} {PostX : Pt → Array Value → Addr → Pt → Prop} (hK : vx_Back l R p e below s args y 3 W9 Pre Post PostX)
    {b : Addr} {cellB : Cell} (hcell : T.heap[b]? = some cellB) (hobj : cellB.vm.isStatics = false) (hcls : s.vm.findClass C = some cellB.cls)
    {g : JFrame} (hg : g.method = m) (hsize : g.locals.size = c.maxLocals) {argsL rest : List Value} (hlen : ∀ sig, parseMethodDescriptor y.desc = some sig → argsL.length = sig.parameters.length)
    (hstack : g.stack = argsL.reverse ++ .ref b :: rest) (hW : 2 * g.monitorRoom + (rest.map fun v => v.category).sum ≤ W9) (hdg : decode c.code g.pc = .ok (.invokevirtual index, 3))
    (hpre : ∀ vm₁, s.WarmedH vm₁ → Pre ⟨T.setVm vm₁, locs, cells, slots⟩ (Value.ref b :: argsL).toArray) :
    (∃ (v : Option Value) (vm₁ : Vm) (B : Pt), s.WarmedH vm₁ ∧ Stand p l e R s m args below meth c B.U B.locs B.cells B.slots ∧ Post ⟨T.setVm vm₁, locs, cells, slots⟩ (Value.ref b :: argsL).toArray v B ∧
      ∀ target, Steps p.tables e below (B.U.setTop { g with pc := g.pc + 3, stack := v.toList ++ rest }) target → Steps p.tables e below (T.setTop g) target) ∨
    (∃ (q : Addr) (vm₁ : Vm) (B : Pt), s.WarmedH vm₁ ∧ Stand p l e R s m args below meth c B.U B.locs B.cells B.slots ∧ PostX ⟨T.setVm vm₁, locs, cells, slots⟩ (Value.ref b :: argsL).toArray q B ∧
      Steps p.tables e below (T.setTop g) ((B.U.setTop { g with stack := rest }).pushFrame (.throwing q))) := by
  obtain ⟨mk, methM, hnamed, hmethM, hstM, habM⟩ := Cond.instanceMethod_spec hinst
  obtain ⟨m8, methM', cM, hn8, hmethM', -, -, -, -, -, -, hsigM⟩ := Cond.codeWith_spec hcode
  cases Option.some.inj (hn8.symm.trans hnamed)
  cases hmethM.symm.trans hmethM'
  obtain ⟨c2, r2, m2, q1, q2, q3, q4, kP, hkP, hkPi⟩ := Cond.selects_spec hsel
  cases hcls.symm.trans q1
  cases (State.methodFound?_of_named hnamed hy).symm.trans q2
  cases hnamed.symm.trans q3
  have hselP : selectMethod e.platform s.vm cellB.cls mk = .method mk := by rw [Launch.admits_selectMethod X.admits]; exact q4
  obtain ⟨vm₁, X₁, hstep₁⟩ := X.invokevirtual hexec hown hlink hnamed hmethM hstM hkP hkPi hy (a := b) (cell := cellB) hcell
    (fun z h => by rw [h] at hobj; cases hobj) hselP hmethM habM hkP hkPi (g := g) hg (argsL := argsL) (rest := rest) (hlen _ hsigM) hstack hdg
  rcases hK m meth c ⟨T.setVm vm₁, locs, cells, slots⟩ { g with stack := rest } (.invokevirtual index) mk (Value.ref b :: argsL).toArray X₁ hg hsize hdg hW (X₁.named hnamed) (hpre vm₁ X₁.warmed) with ⟨v, B, X', hpost, hsteps⟩ | ⟨q, B, X', hpost, hsteps⟩
  · exact Or.inl ⟨v, vm₁, B, X₁.warmed, X', hpost, fun target h => hstep₁ _ fun acts => by rw [doInvoke_state]; exact hsteps.trans h⟩
  · exact Or.inr ⟨q, vm₁, B, X₁.warmed, X', hpost, hstep₁ _ fun acts => by rw [doInvoke_state]; exact hsteps⟩
theorem vx_callSX (X : Stand p l e R s m args below meth c T locs cells slots) (hexec : p.tables.exec = Jvm.exec) {own : String} {index : Nat} {y : MethodName} {bytes : ByteArray} {maxL : Nat} {ret : Option FieldType} {hh : List (Nat × Nat × Nat × Nat)}
    (hown : s.vm.findClass own = some m.cls) (hlink : (Cond.methodLink own index y).before args s = true) (hstat : (Cond.static y).before args s = true) (hinit : (Cond.initialized y.cls).before args s = true)
    (hcode : (Cond.codeWith y bytes maxL ret hh).before args s = true) (hy : y.cls ≠ "java/lang/invoke/MethodHandle" ∧ y.cls ≠ "java/lang/invoke/VarHandle")
    {W9 : Nat} {Pre : Pt → Array Value → Prop} {Post : Pt → Array Value → Option Value → Pt → Prop} {PostX : Pt → Array Value → Addr → Pt → Prop} (hK : vx_Back l R p e below s args y 3 W9 Pre Post PostX)
    {g : JFrame} (hg : g.method = m) (hsize : g.locals.size = c.maxLocals) {argsL rest : List Value} (hlen : ∀ sig, parseMethodDescriptor y.desc = some sig → argsL.length = sig.parameters.length)
    (hstack : g.stack = argsL.reverse ++ rest) (hW : 2 * g.monitorRoom + (rest.map fun v => v.category).sum ≤ W9) (hdg : decode c.code g.pc = .ok (.invokestatic index, 3))
    (hpre : ∀ vm₁, s.WarmedH vm₁ → Pre ⟨T.setVm vm₁, locs, cells, slots⟩ argsL.toArray) :
    (∃ (v : Option Value) (vm₁ : Vm) (B : Pt), s.WarmedH vm₁ ∧ Stand p l e R s m args below meth c B.U B.locs B.cells B.slots ∧ Post ⟨T.setVm vm₁, locs, cells, slots⟩ argsL.toArray v B ∧
      ∀ target, Steps p.tables e below (B.U.setTop { g with pc := g.pc + 3, stack := v.toList ++ rest }) target → Steps p.tables e below (T.setTop g) target) ∨
    (∃ (q : Addr) (vm₁ : Vm) (B : Pt), s.WarmedH vm₁ ∧ Stand p l e R s m args below meth c B.U B.locs B.cells B.slots ∧ PostX ⟨T.setVm vm₁, locs, cells, slots⟩ argsL.toArray q B ∧
      Steps p.tables e below (T.setTop g) ((B.U.setTop { g with stack := rest }).pushFrame (.throwing q))) := by
  obtain ⟨mk, methM, cM, hnamed, hmethM, -, -, -, -, -, -, hsigM⟩ := Cond.codeWith_spec hcode
  have hstatic : methM.isStatic = true := Cond.static_spec hnamed hmethM hstat
  obtain ⟨kP, hkP, -⟩ := className_of_methodNamed hnamed
  have hinitP : kP.init = .initialized := Cond.initialized_spec (findClass_of_methodNamed hnamed) hkP hinit
  obtain ⟨vm₁, X₁, hstep₁⟩ := X.invokestatic hexec hown hlink hnamed hmethM hstatic hkP hinitP hy (g := g) hg (argsL := argsL) (rest := rest) (hlen _ hsigM) hstack hdg
  rcases hK m meth c ⟨T.setVm vm₁, locs, cells, slots⟩ { g with stack := rest } (.invokestatic index) mk argsL.toArray X₁ hg hsize hdg hW (X₁.named hnamed) (hpre vm₁ X₁.warmed) with ⟨v, B, X', hpost, hsteps⟩ | ⟨q, B, X', hpost, hsteps⟩
  · exact Or.inl ⟨v, vm₁, B, X₁.warmed, X', hpost, fun target h => hstep₁ _ fun acts => by rw [doInvoke_state]; exact hsteps.trans h⟩
  · exact Or.inr ⟨q, vm₁, B, X₁.warmed, X', hpost, hstep₁ _ fun acts => by rw [doInvoke_state]; exact hsteps⟩
theorem vx_callVW (X : Stand p l e R s m args below meth c T locs cells slots) (hexec : p.tables.exec = Jvm.exec) {own C : String} {index : Nat} {y : MethodName} {bytes : ByteArray} {maxL : Nat} {ret : Option FieldType} {hh : List (Nat × Nat × Nat × Nat)}
    (hown : s.vm.findClass own = some m.cls) (hlink : (Cond.methodLink own index y).before args s = true) (hinst : (Cond.instanceMethod y).before args s = true) (hsel : (Cond.selects C y y).before args s = true)
    (hcode : (Cond.codeWith y bytes maxL ret hh).before args s = true) (hy : y.cls ≠ "java/lang/invoke/MethodHandle" ∧ y.cls ≠ "java/lang/invoke/VarHandle")
    {W9 : Nat} {Pre : Pt → Array Value → Prop} {Post : Pt → Array Value → Option Value → Pt → Prop} (hK : Back l R p e below s args y 3 W9 Pre Post)
    {b : Addr} {cellB : Cell} (hcell : T.heap[b]? = some cellB) (hobj : cellB.vm.isStatics = false) (hcls : s.vm.findClass C = some cellB.cls)
    {g : JFrame} (hg : g.method = m) (hsize : g.locals.size = c.maxLocals) {argsL rest : List Value} (hlen : ∀ sig, parseMethodDescriptor y.desc = some sig → argsL.length = sig.parameters.length)
    (hstack : g.stack = argsL.reverse ++ .ref b :: rest) (hW : 2 * g.monitorRoom + (rest.map fun v => v.category).sum ≤ W9) (hdg : decode c.code g.pc = .ok (.invokevirtual index, 3))
    (hpre : ∀ vm₁, s.WarmedH vm₁ → Pre ⟨T.setVm vm₁, locs, cells, slots⟩ (Value.ref b :: argsL).toArray) :
    ∃ (v : Option Value) (vm₁ : Vm) (B : Pt), s.WarmedH vm₁ ∧ Stand p l e R s m args below meth c B.U B.locs B.cells B.slots ∧ Post ⟨T.setVm vm₁, locs, cells, slots⟩ (Value.ref b :: argsL).toArray v B ∧
      ∀ target, Steps p.tables e below (B.U.setTop { g with pc := g.pc + 3, stack := v.toList ++ rest }) target → Steps p.tables e below (T.setTop g) target := by
  obtain ⟨mk, methM, hnamed, hmethM, hstM, habM⟩ := Cond.instanceMethod_spec hinst
  obtain ⟨m8, methM', cM, hn8, hmethM', -, -, -, -, -, -, hsigM⟩ := Cond.codeWith_spec hcode
  cases Option.some.inj (hn8.symm.trans hnamed)
  cases hmethM.symm.trans hmethM'
  obtain ⟨c2, r2, m2, q1, q2, q3, q4, kP, hkP, hkPi⟩ := Cond.selects_spec hsel
  cases hcls.symm.trans q1
  cases (State.methodFound?_of_named hnamed hy).symm.trans q2
  cases hnamed.symm.trans q3
  have hselP : selectMethod e.platform s.vm cellB.cls mk = .method mk := by rw [Launch.admits_selectMethod X.admits]; exact q4
  obtain ⟨vm₁, X₁, hstep₁⟩ := X.invokevirtual hexec hown hlink hnamed hmethM hstM hkP hkPi hy (a := b) (cell := cellB) hcell
    (fun z h => by rw [h] at hobj; cases hobj) hselP hmethM habM hkP hkPi (g := g) hg (argsL := argsL) (rest := rest) (hlen _ hsigM) hstack hdg
  obtain ⟨v, B, X', hpost, hsteps⟩ := hK m meth c ⟨T.setVm vm₁, locs, cells, slots⟩ { g with stack := rest } (.invokevirtual index) mk (Value.ref b :: argsL).toArray X₁ hg hsize hdg hW (X₁.named hnamed) (hpre vm₁ X₁.warmed)
  exact ⟨v, vm₁, B, X₁.warmed, X', hpost, fun target h => hstep₁ _ fun acts => by rw [doInvoke_state]; exact hsteps.trans h⟩
abbrev vx_CVW (R : Room) (s : State) (args : Array Value) (own C : String) (index : Nat) (y : MethodName) (bytes : ByteArray) (maxL : Nat) (ret : Option FieldType) (hh : List (Nat × Nat × Nat × Nat)) (ws : List Cond) (rm : Room) (mc ms n : Nat) : Prop :=
  (rm.cells = mc ∧ rm.slots = ms ∧ rm.frames + 1 ≤ R.frames ∧ 8 + (maxL + 11) + rm.locals ≤ R.locals ∧ (∀ w ∈ ws, ∀ (a' : Array Value) (U : State), s.WarmedH U.vm → w.before a' U = true) ∧ Cond.codeWith y bytes maxL ret hh ∈ ws) ∧
  (Cond.codeWith y bytes maxL ret hh).before args s = true ∧ (Cond.initialized y.cls).before args s = true ∧ (y.cls ≠ "java/lang/invoke/MethodHandle" ∧ y.cls ≠ "java/lang/invoke/VarHandle") ∧
  (∀ sig, parseMethodDescriptor y.desc = some sig → n = sig.parameters.length) ∧ (Cond.methodLink own index y).before args s = true ∧ (Cond.instanceMethod y).before args s = true ∧ (Cond.selects C y y).before args s = true
theorem vx_cwVW {own C : String} {index maxL mc ms : Nat} {y : MethodName} {bytes : ByteArray} {ret : Option FieldType} {hh : List (Nat × Nat × Nat × Nat)} {Ts ws ws' : List Cond} {rm : Room} (n : Nat) (ht : ∀ w ∈ Ts, w.before args s = true) (hT : GoodIn Ts (wsV own index C y ws)) (hw : ws = Cond.codeWith y bytes maxL ret hh :: ws') (hrc : rm.cells = mc) (hrs : rm.slots = ms)
    (hd : y.cls = C ∧ y.cls ≠ "java/lang/invoke/MethodHandle" ∧ y.cls ≠ "java/lang/invoke/VarHandle" ∧ (parseMethodDescriptor y.desc).map (fun d => d.parameters.length) = some n) (hR : rm.frames + 1 ≤ R.frames ∧ 8 + (maxL + 11) + rm.locals ≤ R.locals) :
    vx_CVW R s args own C index y bytes maxL ret hh ws rm mc ms n := by
  obtain ⟨hC, hd⟩ := hd
  subst hC
  have ok : ∀ w ∈ wsV own index y.cls y ws, w.before args s = true := fun w h => ht w (hT w h).1
  have hG : GoodIn Ts ws := fun w h => hT w (by unfold wsV; exact List.mem_append_right _ h)
  have hc : Cond.codeWith y bytes maxL ret hh ∈ ws := by rw [hw]; exact List.mem_cons_self
  refine ⟨⟨hrc, hrs, hR.1, hR.2, pay_in ht hG, hc⟩, ht _ (hG _ hc).1, ok _ (by simp [wsV]), ⟨hd.1, hd.2.1⟩, fun sig h => ?_, ok _ (by simp [wsV]), ok _ (by simp [wsV]), ok _ (by simp [wsV])⟩
  have h2 := hd.2.2
  rw [h] at h2
  exact (Option.some.inj h2).symm
theorem vx_runVW {y : MethodName} {bytes cc : ByteArray} {maxL nL mc ms n index : Nat} {ret : Option FieldType} {hh : List (Nat × Nat × Nat × Nat)} {ws : List Cond} {rm : Room} {Pc : Array Value → State → Prop} {Qc : Array Value → State → Outcome → State → Prop} {free : Addr → Prop} {Ts : List Cond} {own C : String} {b : Addr} {As rest : List Value} {g : JFrame}
    (S : CallFix p m c cc nL s args Ts own) (hM : Met l y ws rm Pc Qc mc ms free) (cw : vx_CVW R s args own C index y bytes maxL ret hh ws rm mc ms n) (hp : PreV s H C b Pc As)
    (hg : g.method = m) (hn : As.length = n) (hsize : g.locals.size = nL) (hstack : g.stack = As.reverse ++ .ref b :: rest) (hW : 2 * g.monitorRoom + (rest.map fun v => v.category).sum ≤ 8) (hdg : decode cc g.pc = .ok (.invokevirtual index, 3)) (hf : cells + mc ≤ R.cells ∧ slots + ms ≤ R.slots) :
    va_Run p l e R s m args below meth c H locs cells slots mc ms g rest (Qc (Value.ref b :: As).toArray) free := by
  obtain ⟨⟨hrc, hrs, hfr, hlo, hws, hcw⟩, hcode, hini, hy, hlen, hl, hin, hse⟩ := cw
  have hK : Back l R p e below s args y 3 8 (PreOf R mc ms Pc) (PostOf Qc mc ms free) := va_backW (hh := hh) (bytes := bytes) (maxL := maxL) (ret := ret) hM hp.1 hrc hrs hfr hlo hws hcw (fun a' U hW => word_at hW (Or.inl (by first | rfl | simp [Cond.onTables, Cond.keeps, Cond.steady])) hini)
  obtain ⟨hx, hb, hml, ho, -⟩ := S
  obtain ⟨-, ⟨cellB, hcB, hoB, hclB⟩, hPc⟩ := hp
  intro T hT X
  obtain ⟨v, vm₁, ⟨U', l2, c2, s2⟩, hW₁, X', ⟨g', mk, t, L, e1, e2, hq, h1, hL, h2, h3⟩, st⟩ := vx_callVW X hx (C := C) (hh := hh) (bytes := bytes) (maxL := maxL) (ret := ret) ho hl hin hse hcode hy hK (by rw [hT]; exact hcB) hoB hclB hg (hsize.trans hml.symm) (argsL := As) (rest := rest) (fun sig h => hn.trans (hlen sig h)) hstack hW (by rw [hb]; exact hdg)
    (fun vm₁ hW₁ => ⟨hf.1, hf.2, hPc (T.setVm vm₁) hT hW₁⟩)
  dsimp only [Pt.U, Pt.locs, Pt.cells, Pt.slots] at X' e1 e2 h1 h2 h3 st
  subst h1; subst h2; subst h3
  exact ⟨v, (T.setVm vm₁).calling g' mk (Value.ref b :: As).toArray, t, U', L, hT, X', hL, e1, e2, hq, st⟩
section
variable {y : MethodName} {bytes cc : ByteArray} {maxL nL mc ms n index : Nat} {ret : Option FieldType} {ws : List Cond} {rm : Room} {Pc : Array Value → State → Prop} {Qc : Array Value → State → Outcome → State → Prop} {XC : String → State → State → Prop} {free : Addr → Prop} {Ts : List Cond} {own C : String} {b : Addr} {As rest : List Value} {g : JFrame}
theorem vx_runVX {hh : List (Nat × Nat × Nat × Nat)} (S : CallFix p m c cc nL s args Ts own) (hM : vx_Met l y ws rm Pc Qc XC mc ms free) (cw : vx_CVW R s args own C index y bytes maxL ret hh ws rm mc ms n) (hp : PreV s H C b Pc As)
    (hg : g.method = m) (hn : As.length = n) (hsize : g.locals.size = nL) (hstack : g.stack = As.reverse ++ .ref b :: rest) (hW : 2 * g.monitorRoom + (rest.map fun v => v.category).sum ≤ 8) (hdg : decode cc g.pc = .ok (.invokevirtual index, 3)) (hf : cells + mc ≤ R.cells ∧ slots + ms ≤ R.slots) :
    vx_Run p l e R s m args below meth c H locs cells slots mc ms g rest (Qc (Value.ref b :: As).toArray) XC free := by
  obtain ⟨⟨hrc, hrs, hfr, hlo, hws, hcw⟩, hcode, hini, hy, hlen, hl, hin, hse⟩ := cw
  have hK : vx_Back l R p e below s args y 3 8 (PreOf R mc ms Pc) (PostOf Qc mc ms free) (vx_Post XC mc ms free) := vx_backW (hh := hh) (bytes := bytes) (maxL := maxL) (ret := ret) hM hp.1 hrc hrs hfr hlo hws hcw (fun a' U hW => word_at hW (Or.inl (by first | rfl | simp [Cond.onTables, Cond.keeps, Cond.steady])) hini)
  obtain ⟨hx, hb, hml, ho, -⟩ := S
  obtain ⟨-, ⟨cellB, hcB, hoB, hclB⟩, hPc⟩ := hp
  intro T hT X
  rcases vx_callVX X hx (C := C) (hh := hh) (bytes := bytes) (maxL := maxL) (ret := ret) ho hl hin hse hcode hy hK (by rw [hT]; exact hcB) hoB hclB hg (hsize.trans hml.symm) (argsL := As) (rest := rest) (fun sig h => hn.trans (hlen sig h)) hstack hW (by rw [hb]; exact hdg)
    (fun vm₁ hW₁ => ⟨hf.1, hf.2, hPc (T.setVm vm₁) hT hW₁⟩) with ⟨v, vm₁, ⟨U', l2, c2, s2⟩, hW₁, X', ⟨g', mk, t, L, e1, e2, hq, h1, hL, h2, h3⟩, st⟩ | ⟨q, vm₁, ⟨U', l2, c2, s2⟩, hW₁, X', ⟨g', mk, t, L, E, ce, e1, e2, hq, hce, hcv, hcl, h1, hL, h2, h3⟩, st⟩
  · dsimp only [Pt.U, Pt.locs, Pt.cells, Pt.slots] at X' e1 e2 h1 h2 h3 st
    subst h1; subst h2; subst h3
    exact Or.inl ⟨v, (T.setVm vm₁).calling g' mk (Value.ref b :: As).toArray, t, U', L, hT, X', hL, e1, e2, hq, st⟩
  · dsimp only [Pt.U, Pt.locs, Pt.cells, Pt.slots] at X' e1 e2 h1 h2 h3 st hcl
    subst h1; subst h2; subst h3
    exact Or.inr ⟨q, (T.setVm vm₁).calling g' mk (Value.ref b :: As).toArray, t, U', L, E, ce, hT, X', hL, e1, e2, hq, hce, hcv, vx_cls hW₁ hcl, st⟩
theorem vx_runSX {hh : List (Nat × Nat × Nat × Nat)} (S : CallFix p m c cc nL s args Ts own) (hM : vx_Met l y ws rm Pc Qc XC mc ms free) (cw : vx_CSW R s args own index y bytes maxL ret hh ws rm mc ms n) (hp : PreS s H Pc As)
    (hg : g.method = m) (hn : As.length = n) (hsize : g.locals.size = nL) (hstack : g.stack = As.reverse ++ rest) (hW : 2 * g.monitorRoom + (rest.map fun v => v.category).sum ≤ 8) (hdg : decode cc g.pc = .ok (.invokestatic index, 3)) (hf : cells + mc ≤ R.cells ∧ slots + ms ≤ R.slots) :
    vx_Run p l e R s m args below meth c H locs cells slots mc ms g rest (Qc As.toArray) XC free := by
  obtain ⟨⟨hrc, hrs, hfr, hlo, hws, hcw⟩, hcode, hini, hy, hlen, hl, hstt⟩ := cw
  have hK : vx_Back l R p e below s args y 3 8 (PreOf R mc ms Pc) (PostOf Qc mc ms free) (vx_Post XC mc ms free) := vx_backW (hh := hh) (bytes := bytes) (maxL := maxL) (ret := ret) hM hp.1 hrc hrs hfr hlo hws hcw (fun a' U hW => word_at hW (Or.inl (by first | rfl | simp [Cond.onTables, Cond.keeps, Cond.steady])) hini)
  obtain ⟨hx, hb, hml, ho, -⟩ := S
  intro T hT X
  rcases vx_callSX X hx (hh := hh) (bytes := bytes) (maxL := maxL) (ret := ret) ho hl hstt hini hcode hy hK hg (hsize.trans hml.symm) (argsL := As) (rest := rest) (fun sig h => hn.trans (hlen sig h)) hstack hW (by rw [hb]; exact hdg)
    (fun vm₁ hW₁ => ⟨hf.1, hf.2, hp.2 (T.setVm vm₁) hT hW₁⟩) with ⟨v, vm₁, ⟨U', l2, c2, s2⟩, hW₁, X', ⟨g', mk, t, L, e1, e2, hq, h1, hL, h2, h3⟩, st⟩ | ⟨q, vm₁, ⟨U', l2, c2, s2⟩, hW₁, X', ⟨g', mk, t, L, E, ce, e1, e2, hq, hce, hcv, hcl, h1, hL, h2, h3⟩, st⟩
  · dsimp only [Pt.U, Pt.locs, Pt.cells, Pt.slots] at X' e1 e2 h1 h2 h3 st
    subst h1; subst h2; subst h3
    exact Or.inl ⟨v, (T.setVm vm₁).calling g' mk As.toArray, t, U', L, hT, X', hL, e1, e2, hq, st⟩
  · dsimp only [Pt.U, Pt.locs, Pt.cells, Pt.slots] at X' e1 e2 h1 h2 h3 st hcl
    subst h1; subst h2; subst h3
    exact Or.inr ⟨q, (T.setVm vm₁).calling g' mk As.toArray, t, U', L, E, ce, hT, X', hL, e1, e2, hq, hce, hcv, vx_cls hW₁ hcl, st⟩
end
end VXH
theorem vx_ofWH {l : Launch} {y : MethodName} {ws ws' : List Cond} {rm : Room} {Pc : Array Value → State → Prop} {Qc : Array Value → State → Outcome → State → Prop} {XC : String → State → State → Prop} {mc ms : Nat} {free : Addr → Prop} {cc : ByteArray} {maxL : Nat} {ret : Option FieldType} {hh : List (Nat × Nat × Nat × Nat)}
    (hy : plainName y.cls = true) (hw : ws = Cond.codeWith y cc maxL ret hh :: ws')
    (body : ∀ p e s m args below meth c s₁, BodyLoose p l y (headSpec ws rm) cc maxL ret e s m args below meth c s₁ → c.maxLocals = maxL → Pc args s →
      W p l e (headSpec ws rm).room s m args below meth c s.heap [] 0 0 (vx_MQ below Qc XC args s mc ms free) (entryFrame m args maxL)) : vx_Met l y ws rm Pc Qc XC mc ms free := by
  refine MetFree.of_bodyS (code := cc) (maxLocals := maxL) (ret := ret) hy ?_ ?_
  · intro args s m h hn
    obtain ⟨m9, meth, c, hn9, h1, h2, h3, h4, -, h5, h6, -⟩ := Cond.codeWith_spec (atoms_spec (ws := ws) h _ (by rw [hw]; exact List.mem_cons_self))
    cases hn.symm.trans hn9
    exact ⟨meth, c, h1, h2, h3, h4, h5, h6⟩
  · intro p e s m args below meth c s₁ B hml hP _
    have hh0 : s₁.heap = s.heap := by rw [B.state]; rfl
    obtain ⟨t, a1, o, b1, b2, b3⟩ := body p e s m args below meth c s₁ B hml hP s₁ hh0 (Stand.of_body B)
    exact ⟨t, o, a1, b1, b2, b3⟩
/-! ===== END ===== -/

/-! ===== BEGIN printed: names, fields, word lists, decode rows ===== -/
def RX0 : String := "GamutChain"
def TX0 : u_T := fun k => match k with
  | 0 => ("GamutChain", "profiles", "I", false)
  | 1 => ("GamutChain", "bends", "[I", true)
  | 2 => ("GamutChain", "leasts", "[I", true)
  | 3 => ("GamutChain", "greatests", "[I", true)
  | 4 => ("GamutChain", "ways", "[I", true)
  | 5 => ("GamutChain", "chains", "I", false)
  | 6 => ("GamutChain", "links", "[I", true)
  | 7 => ("GamutChain", "lengths", "[I", true)
  | 8 => ("GamutChain", "kept", "[I", true)
  | 9 => ("GamutChain", "joinedChains", "I", false)
  | 10 => ("GamutChain", "signedChains", "I", false)
  | 11 => ("GamutChain", "trial", "[I", true)
  | 12 => ("GamutChain", "colours", "[I", true)
  | 13 => ("GamutChain", "amounts", "[I", true)
  | _ => ("GamutChain", "mixes", "[I", true)
def tyX0 : Nat → FieldType := fun k => match k with
  | 0 => .int
  | 1 => .array .int
  | 2 => .array .int
  | 3 => .array .int
  | 4 => .array .int
  | 5 => .int
  | 6 => .array .int
  | 7 => .array .int
  | 8 => .array .int
  | 9 => .int
  | 10 => .int
  | 11 => .array .int
  | 12 => .array .int
  | 13 => .array .int
  | _ => .array .int
abbrev wsX00 : List Cond := u_ws RX0 TX0 15
theorem nmX0 : ∀ a, a < 15 → ∀ b, b < 15 → a ≠ b → (TX0 a).2.1 ≠ (TX0 b).2.1 := by decide +kernel
theorem tyX0_ok : ∀ k, k < 15 → parseFieldDescriptor (TX0 k).2.2.1 = some (tyX0 k) := by decide +kernel
abbrev cX0_init : ByteArray := prog_1_method_1_code
def yX0_init : MethodName := ⟨RX0, "<init>", "()V"⟩
abbrev cX0_profile : ByteArray := prog_1_method_2_code
def yX0_profile : MethodName := ⟨RX0, "profile", "()I"⟩
abbrev cX0_bend : ByteArray := prog_1_method_3_code
def yX0_bend : MethodName := ⟨RX0, "bend", "(IIII)I"⟩
abbrev cX0_reach : ByteArray := prog_1_method_4_code
def yX0_reach : MethodName := ⟨RX0, "reach", "(IIII)I"⟩
abbrev cX0_way : ByteArray := prog_1_method_5_code
def yX0_way : MethodName := ⟨RX0, "way", "(II)I"⟩
abbrev cX0_curve : ByteArray := prog_1_method_6_code
def yX0_curve : MethodName := ⟨RX0, "curve", "(III)I"⟩
abbrev cX0_taken : ByteArray := prog_1_method_7_code
def yX0_taken : MethodName := ⟨RX0, "taken", "(III)I"⟩
abbrev cX0_chain : ByteArray := prog_1_method_8_code
def yX0_chain : MethodName := ⟨RX0, "chain", "()I"⟩
abbrev cX0_add : ByteArray := prog_1_method_9_code
def yX0_add : MethodName := ⟨RX0, "add", "(II)I"⟩
abbrev cX0_drop : ByteArray := prog_1_method_10_code
def yX0_drop : MethodName := ⟨RX0, "drop", "(I)I"⟩
abbrev cX0_through : ByteArray := prog_1_method_11_code
def yX0_through : MethodName := ⟨RX0, "through", "(III)I"⟩
abbrev cX0_gap : ByteArray := prog_1_method_12_code
def yX0_gap : MethodName := ⟨RX0, "gap", "(I)I"⟩
abbrev cX0_greyGap : ByteArray := prog_1_method_13_code
def yX0_greyGap : MethodName := ⟨RX0, "greyGap", "(I)I"⟩
abbrev cX0_join : ByteArray := prog_1_method_14_code
def yX0_join : MethodName := ⟨RX0, "join", "(II)I"⟩
abbrev cX0_joined : ByteArray := prog_1_method_15_code
def yX0_joined : MethodName := ⟨RX0, "joined", "(III)I"⟩
abbrev cX0_stale : ByteArray := prog_1_method_16_code
def yX0_stale : MethodName := ⟨RX0, "stale", "()I"⟩
abbrev cX0_sign : ByteArray := prog_1_method_17_code
def yX0_sign : MethodName := ⟨RX0, "sign", "(I)Z"⟩
abbrev cX0_held : ByteArray := prog_1_method_18_code
def yX0_held : MethodName := ⟨RX0, "held", "()I"⟩
abbrev cX0_paint : ByteArray := prog_1_method_19_code
def yX0_paint : MethodName := ⟨RX0, "paint", "(III)I"⟩
abbrev cX0_spot : ByteArray := prog_1_method_20_code
def yX0_spot : MethodName := ⟨RX0, "spot", "(III)I"⟩
abbrev cX0_mix : ByteArray := prog_1_method_21_code
def yX0_mix : MethodName := ⟨RX0, "mix", "(III)I"⟩
abbrev cX0_shown : ByteArray := prog_1_method_22_code
def yX0_shown : MethodName := ⟨RX0, "shown", "(IIII)I"⟩
abbrev cX0_needProfile : ByteArray := prog_1_method_23_code
def yX0_needProfile : MethodName := ⟨RX0, "needProfile", "(I)V"⟩
abbrev cX0_needChain : ByteArray := prog_1_method_24_code
def yX0_needChain : MethodName := ⟨RX0, "needChain", "(I)V"⟩
abbrev cX0_needBand : ByteArray := prog_1_method_25_code
def yX0_needBand : MethodName := ⟨RX0, "needBand", "(I)V"⟩
abbrev cX0_needPixel : ByteArray := prog_1_method_26_code
def yX0_needPixel : MethodName := ⟨RX0, "needPixel", "(I)V"⟩
abbrev cX0_needInk : ByteArray := prog_1_method_27_code
def yX0_needInk : MethodName := ⟨RX0, "needInk", "(I)V"⟩
abbrev cX0_needValue : ByteArray := prog_1_method_28_code
def yX0_needValue : MethodName := ⟨RX0, "needValue", "(I)V"⟩
abbrev cX0_needFreeProfile : ByteArray := prog_1_method_29_code
def yX0_needFreeProfile : MethodName := ⟨RX0, "needFreeProfile", "(I)V"⟩
abbrev cX0_needFreeChain : ByteArray := prog_1_method_30_code
def yX0_needFreeChain : MethodName := ⟨RX0, "needFreeChain", "(I)V"⟩
abbrev cX0_valueOfPlace : ByteArray := prog_1_method_31_code
def yX0_valueOfPlace : MethodName := ⟨RX0, "valueOfPlace", "(I)I"⟩
abbrev cX0_between : ByteArray := prog_1_method_32_code
def yX0_between : MethodName := ⟨RX0, "between", "([III)I"⟩
abbrev cX0_bent : ByteArray := prog_1_method_33_code
def yX0_bent : MethodName := ⟨RX0, "bent", "(III)I"⟩
abbrev cX0_take : ByteArray := prog_1_method_34_code
def yX0_take : MethodName := ⟨RX0, "take", "(III)I"⟩
abbrev cX0_fold : ByteArray := prog_1_method_35_code
def yX0_fold : MethodName := ⟨RX0, "fold", "(III)I"⟩
abbrev cX0_pass : ByteArray := prog_1_method_36_code
def yX0_pass : MethodName := ⟨RX0, "pass", "(III)I"⟩
abbrev cX0_tryJoining : ByteArray := prog_1_method_37_code
def yX0_tryJoining : MethodName := ⟨RX0, "tryJoining", "(I)I"⟩
abbrev cX0_differsFromKept : ByteArray := prog_1_method_38_code
def yX0_differsFromKept : MethodName := ⟨RX0, "differsFromKept", "(I)Z"⟩
abbrev cX0_profilesOf : ByteArray := prog_1_method_39_code
def yX0_profilesOf : MethodName := ⟨RX0, "profilesOf", "(I)I"⟩
abbrev cX0_inked : ByteArray := prog_1_method_40_code
def yX0_inked : MethodName := ⟨RX0, "inked", "(III)I"⟩
abbrev cX0_read : ByteArray := prog_1_method_41_code
def yX0_read : MethodName := ⟨RX0, "read", "([II)I"⟩
abbrev cX0_swap : ByteArray := prog_1_method_42_code
def yX0_swap : MethodName := ⟨RX0, "swap", "([III)I"⟩
abbrev cX0_hasBit : ByteArray := prog_1_method_43_code
def yX0_hasBit : MethodName := ⟨RX0, "hasBit", "(II)Z"⟩
def RX1 : String := "GamutChainModel"
def TX1 : u_T := fun k => match k with
  | 0 => ("GamutChainModel", "profiles", "I", false)
  | 1 => ("GamutChainModel", "bends", "[I", true)
  | 2 => ("GamutChainModel", "least", "[I", true)
  | 3 => ("GamutChainModel", "greatest", "[I", true)
  | 4 => ("GamutChainModel", "ways", "[I", true)
  | 5 => ("GamutChainModel", "chains", "I", false)
  | 6 => ("GamutChainModel", "many", "[I", true)
  | 7 => ("GamutChainModel", "links", "[I", true)
  | 8 => ("GamutChainModel", "isJoined", "[Z", true)
  | 9 => ("GamutChainModel", "isSigned", "[Z", true)
  | 10 => ("GamutChainModel", "kept", "[I", true)
  | 11 => ("GamutChainModel", "picture", "[I", true)
  | 12 => ("GamutChainModel", "amounts", "[I", true)
  | 13 => ("GamutChainModel", "mixes", "[I", true)
  | 14 => ("GamutChainModel", "five", "[I", true)
  | _ => ("GamutChainModel", "thrown", "I", false)
def tyX1 : Nat → FieldType := fun k => match k with
  | 0 => .int
  | 1 => .array .int
  | 2 => .array .int
  | 3 => .array .int
  | 4 => .array .int
  | 5 => .int
  | 6 => .array .int
  | 7 => .array .int
  | 8 => .array .boolean
  | 9 => .array .boolean
  | 10 => .array .int
  | 11 => .array .int
  | 12 => .array .int
  | 13 => .array .int
  | 14 => .array .int
  | _ => .int
abbrev wsX10 : List Cond := u_ws RX1 TX1 16
theorem nmX1 : ∀ a, a < 16 → ∀ b, b < 16 → a ≠ b → (TX1 a).2.1 ≠ (TX1 b).2.1 := by decide +kernel
theorem tyX1_ok : ∀ k, k < 16 → parseFieldDescriptor (TX1 k).2.2.1 = some (tyX1 k) := by decide +kernel
abbrev cX1_init : ByteArray := prog_3_method_1_code
def yX1_init : MethodName := ⟨RX1, "<init>", "()V"⟩
abbrev cX1_thrown : ByteArray := prog_3_method_2_code
def yX1_thrown : MethodName := ⟨RX1, "thrown", "()I"⟩
abbrev cX1_may : ByteArray := prog_3_method_3_code
def yX1_may : MethodName := ⟨RX1, "may", "(Z)Z"⟩
abbrev cX1_mayBoth : ByteArray := prog_3_method_4_code
def yX1_mayBoth : MethodName := ⟨RX1, "mayBoth", "(ZZ)Z"⟩
abbrev cX1_mayAll : ByteArray := prog_3_method_5_code
def yX1_mayAll : MethodName := ⟨RX1, "mayAll", "(ZZZ)Z"⟩
abbrev cX1_isIn : ByteArray := prog_3_method_6_code
def yX1_isIn : MethodName := ⟨RX1, "isIn", "(III)Z"⟩
abbrev cX1_isByte : ByteArray := prog_3_method_7_code
def yX1_isByte : MethodName := ⟨RX1, "isByte", "(I)Z"⟩
abbrev cX1_isThird : ByteArray := prog_3_method_8_code
def yX1_isThird : MethodName := ⟨RX1, "isThird", "(I)Z"⟩
abbrev cX1_isProfile : ByteArray := prog_3_method_9_code
def yX1_isProfile : MethodName := ⟨RX1, "isProfile", "(I)Z"⟩
abbrev cX1_isChain : ByteArray := prog_3_method_10_code
def yX1_isChain : MethodName := ⟨RX1, "isChain", "(I)Z"⟩
abbrev cX1_placeAt : ByteArray := prog_3_method_11_code
def yX1_placeAt : MethodName := ⟨RX1, "placeAt", "(I)I"⟩
abbrev cX1_quotient : ByteArray := prog_3_method_12_code
def yX1_quotient : MethodName := ⟨RX1, "quotient", "(II)I"⟩
abbrev cX1_between : ByteArray := prog_3_method_13_code
def yX1_between : MethodName := ⟨RX1, "between", "(I)I"⟩
abbrev cX1_curveOf : ByteArray := prog_3_method_14_code
def yX1_curveOf : MethodName := ⟨RX1, "curveOf", "(III)I"⟩
abbrev cX1_takenBy : ByteArray := prog_3_method_15_code
def yX1_takenBy : MethodName := ⟨RX1, "takenBy", "(III)I"⟩
abbrev cX1_throughOf : ByteArray := prog_3_method_16_code
def yX1_throughOf : MethodName := ⟨RX1, "throughOf", "(III)I"⟩
abbrev cX1_isHeld : ByteArray := prog_3_method_17_code
def yX1_isHeld : MethodName := ⟨RX1, "isHeld", "(I)Z"⟩
abbrev cX1_profile : ByteArray := prog_3_method_18_code
def yX1_profile : MethodName := ⟨RX1, "profile", "()I"⟩
abbrev cX1_bend : ByteArray := prog_3_method_19_code
def yX1_bend : MethodName := ⟨RX1, "bend", "(IIII)I"⟩
abbrev cX1_reach : ByteArray := prog_3_method_20_code
def yX1_reach : MethodName := ⟨RX1, "reach", "(IIII)I"⟩
abbrev cX1_way : ByteArray := prog_3_method_21_code
def yX1_way : MethodName := ⟨RX1, "way", "(II)I"⟩
abbrev cX1_curve : ByteArray := prog_3_method_22_code
def yX1_curve : MethodName := ⟨RX1, "curve", "(III)I"⟩
abbrev cX1_taken : ByteArray := prog_3_method_23_code
def yX1_taken : MethodName := ⟨RX1, "taken", "(III)I"⟩
abbrev cX1_chain : ByteArray := prog_3_method_24_code
def yX1_chain : MethodName := ⟨RX1, "chain", "()I"⟩
abbrev cX1_add : ByteArray := prog_3_method_25_code
def yX1_add : MethodName := ⟨RX1, "add", "(II)I"⟩
abbrev cX1_drop : ByteArray := prog_3_method_26_code
def yX1_drop : MethodName := ⟨RX1, "drop", "(I)I"⟩
abbrev cX1_through : ByteArray := prog_3_method_27_code
def yX1_through : MethodName := ⟨RX1, "through", "(III)I"⟩
abbrev cX1_apart : ByteArray := prog_3_method_28_code
def yX1_apart : MethodName := ⟨RX1, "apart", "(II)I"⟩
abbrev cX1_gapOf : ByteArray := prog_3_method_29_code
def yX1_gapOf : MethodName := ⟨RX1, "gapOf", "(I)I"⟩
abbrev cX1_gap : ByteArray := prog_3_method_30_code
def yX1_gap : MethodName := ⟨RX1, "gap", "(I)I"⟩
abbrev cX1_greyGap : ByteArray := prog_3_method_31_code
def yX1_greyGap : MethodName := ⟨RX1, "greyGap", "(I)I"⟩
abbrev cX1_join : ByteArray := prog_3_method_32_code
def yX1_join : MethodName := ⟨RX1, "join", "(II)I"⟩
abbrev cX1_joined : ByteArray := prog_3_method_33_code
def yX1_joined : MethodName := ⟨RX1, "joined", "(III)I"⟩
abbrev cX1_stale : ByteArray := prog_3_method_34_code
def yX1_stale : MethodName := ⟨RX1, "stale", "()I"⟩
abbrev cX1_sign : ByteArray := prog_3_method_35_code
def yX1_sign : MethodName := ⟨RX1, "sign", "(I)Z"⟩
abbrev cX1_held : ByteArray := prog_3_method_36_code
def yX1_held : MethodName := ⟨RX1, "held", "()I"⟩
abbrev cX1_isPixel : ByteArray := prog_3_method_37_code
def yX1_isPixel : MethodName := ⟨RX1, "isPixel", "(I)Z"⟩
abbrev cX1_paint : ByteArray := prog_3_method_38_code
def yX1_paint : MethodName := ⟨RX1, "paint", "(III)I"⟩
abbrev cX1_spot : ByteArray := prog_3_method_39_code
def yX1_spot : MethodName := ⟨RX1, "spot", "(III)I"⟩
abbrev cX1_mix : ByteArray := prog_3_method_40_code
def yX1_mix : MethodName := ⟨RX1, "mix", "(III)I"⟩
abbrev cX1_shown : ByteArray := prog_3_method_41_code
def yX1_shown : MethodName := ⟨RX1, "shown", "(IIII)I"⟩
def RJ9 : String := "java/lang/Math"
def TJ9 : u_T := fun k => match k with
  | _ => ("", "", "", false)
def tyJ9 : Nat → FieldType := fun k => match k with
  | _ => .int
abbrev wsJ90 : List Cond := u_ws RJ9 TJ9 0
theorem nmJ9 : ∀ a, a < 0 → ∀ b, b < 0 → a ≠ b → (TJ9 a).2.1 ≠ (TJ9 b).2.1 := by decide +kernel
theorem tyJ9_ok : ∀ k, k < 0 → parseFieldDescriptor (TJ9 k).2.2.1 = some (tyJ9 k) := by decide +kernel
abbrev cJ9_floorDiv_7cf53 : ByteArray := prog_8_method_47_code
def yJ9_floorDiv_7cf53 : MethodName := ⟨RJ9, "floorDiv", "(II)I"⟩
abbrev cJ9_abs_0f7a4 : ByteArray := prog_8_method_59_code
def yJ9_abs_0f7a4 : MethodName := ⟨RJ9, "abs", "(I)I"⟩
abbrev cJ9_max_7cf53 : ByteArray := prog_8_method_65_code
def yJ9_max_7cf53 : MethodName := ⟨RJ9, "max", "(II)I"⟩
abbrev cJ9_min_7cf53 : ByteArray := prog_8_method_69_code
def yJ9_min_7cf53 : MethodName := ⟨RJ9, "min", "(II)I"⟩
def RJ0 : String := "java/lang/String"
def TJ0 : u_T := fun k => match k with
  | _ => ("", "", "", false)
def tyJ0 : Nat → FieldType := fun k => match k with
  | _ => .int
abbrev wsJ00 : List Cond := u_ws RJ0 TJ0 0
theorem nmJ0 : ∀ a, a < 0 → ∀ b, b < 0 → a ≠ b → (TJ0 a).2.1 ≠ (TJ0 b).2.1 := by decide +kernel
theorem tyJ0_ok : ∀ k, k < 0 → parseFieldDescriptor (TJ0 k).2.2.1 = some (tyJ0 k) := by decide +kernel
def RL : String := "GamutChainLaw"
abbrev cL_profile : ByteArray := method_3_code
def yL_profile : MethodName := ⟨RL, "profile", "(LGamutChain;[J)I"⟩
abbrev cL_bend : ByteArray := method_4_code
def yL_bend : MethodName := ⟨RL, "bend", "(LGamutChain;IIII[J)I"⟩
abbrev cL_reach : ByteArray := method_5_code
def yL_reach : MethodName := ⟨RL, "reach", "(LGamutChain;IIII[J)I"⟩
abbrev cL_way : ByteArray := method_6_code
def yL_way : MethodName := ⟨RL, "way", "(LGamutChain;II[J)I"⟩
abbrev cL_curve : ByteArray := method_7_code
def yL_curve : MethodName := ⟨RL, "curve", "(LGamutChain;III[J)I"⟩
abbrev cL_taken : ByteArray := method_8_code
def yL_taken : MethodName := ⟨RL, "taken", "(LGamutChain;III[J)I"⟩
abbrev cL_chain : ByteArray := method_9_code
def yL_chain : MethodName := ⟨RL, "chain", "(LGamutChain;[J)I"⟩
abbrev cL_add : ByteArray := method_10_code
def yL_add : MethodName := ⟨RL, "add", "(LGamutChain;II[J)I"⟩
abbrev cL_drop : ByteArray := method_11_code
def yL_drop : MethodName := ⟨RL, "drop", "(LGamutChain;I[J)I"⟩
abbrev cL_through : ByteArray := method_12_code
def yL_through : MethodName := ⟨RL, "through", "(LGamutChain;III[J)I"⟩
abbrev cL_gap : ByteArray := method_13_code
def yL_gap : MethodName := ⟨RL, "gap", "(LGamutChain;I[J)I"⟩
abbrev cL_greyGap : ByteArray := method_14_code
def yL_greyGap : MethodName := ⟨RL, "greyGap", "(LGamutChain;I[J)I"⟩
abbrev cL_join : ByteArray := method_15_code
def yL_join : MethodName := ⟨RL, "join", "(LGamutChain;II[J)I"⟩
abbrev cL_joined : ByteArray := method_16_code
def yL_joined : MethodName := ⟨RL, "joined", "(LGamutChain;III[J)I"⟩
abbrev cL_sign : ByteArray := method_17_code
def yL_sign : MethodName := ⟨RL, "sign", "(LGamutChain;I[J)I"⟩
abbrev cL_paint : ByteArray := method_18_code
def yL_paint : MethodName := ⟨RL, "paint", "(LGamutChain;III[J)I"⟩
abbrev cL_spot : ByteArray := method_19_code
def yL_spot : MethodName := ⟨RL, "spot", "(LGamutChain;III[J)I"⟩
abbrev cL_mix : ByteArray := method_20_code
def yL_mix : MethodName := ⟨RL, "mix", "(LGamutChain;III[J)I"⟩
abbrev cL_shown : ByteArray := method_21_code
def yL_shown : MethodName := ⟨RL, "shown", "(LGamutChain;IIII[J)I"⟩
abbrev cL_law : ByteArray := code
def yL_law : MethodName := ⟨RL, "law", "([I)Z"⟩
def wsX0_init : List Cond := .code yX0_init cX0_init 1 none :: ([.methodLink RX0 1 objectInit, .instanceMethod objectInit, .code objectInit ⟨#[0xb1]⟩ 1 none, .arrayClass .int, .fieldLink RX0 9 "GamutChain" "bends" "[I", .fieldLink RX0 13 "GamutChain" "leasts" "[I", .fieldLink RX0 16 "GamutChain" "greatests" "[I", .fieldLink RX0 19 "GamutChain" "ways" "[I", .fieldLink RX0 22 "GamutChain" "links" "[I", .fieldLink RX0 25 "GamutChain" "lengths" "[I", .fieldLink RX0 28 "GamutChain" "kept" "[I", .fieldLink RX0 31 "GamutChain" "trial" "[I", .fieldLink RX0 34 "GamutChain" "colours" "[I", .fieldLink RX0 37 "GamutChain" "amounts" "[I", .fieldLink RX0 40 "GamutChain" "mixes" "[I"] ++ wsX00)
def wsX0_valueOfPlace : List Cond := .code yX0_valueOfPlace cX0_valueOfPlace 1 (some .int) :: ([.methodLink RX0 119 Lib.Math.min.name, .static Lib.Math.min.name, .initialized "java/lang/Math", .code Lib.Math.min.name Lib.Math.min.code 2 (some .int)])
def wsX0_swap : List Cond := .code yX0_swap cX0_swap 4 (some .int) :: ([])
def wsX0_profile : List Cond := .code yX0_profile cX0_profile 5 (some .int) :: ([.classLink RX0 47 "java/lang/IllegalStateException", .initialized "java/lang/IllegalStateException", .fieldLink RX0 43 "GamutChain" "profiles" "I", .fieldLink RX0 9 "GamutChain" "bends" "[I", .fieldLink RX0 13 "GamutChain" "leasts" "[I", .fieldLink RX0 16 "GamutChain" "greatests" "[I", .fieldLink RX0 19 "GamutChain" "ways" "[I", .methodLink RX0 54 yX0_valueOfPlace, .static yX0_valueOfPlace, .initialized RX0, .code yX0_valueOfPlace cX0_valueOfPlace 1 (some .int), .methodLink RX0 119 Lib.Math.min.name, .static Lib.Math.min.name, .initialized "java/lang/Math", .code Lib.Math.min.name Lib.Math.min.code 2 (some .int), .methodLink RX0 58 yX0_swap, .static yX0_swap, .code yX0_swap cX0_swap 4 (some .int)] ++ wsX00 ++ (vx_atS RX0 51 "java/lang/IllegalStateException" ["java/lang/RuntimeException", "java/lang/Exception"]).filter goodWord)
def wsX0_needProfile : List Cond := .code yX0_needProfile cX0_needProfile 2 none :: ([.classLink RX0 69 "java/lang/IndexOutOfBoundsException", .initialized "java/lang/IndexOutOfBoundsException", .fieldLink RX0 43 "GamutChain" "profiles" "I"] ++ wsX00 ++ (vx_atS RX0 73 "java/lang/IndexOutOfBoundsException" ["java/lang/RuntimeException", "java/lang/Exception"]).filter goodWord)
def wsX0_needBand : List Cond := .code yX0_needBand cX0_needBand 1 none :: ([.classLink RX0 69 "java/lang/IndexOutOfBoundsException", .initialized "java/lang/IndexOutOfBoundsException"] ++ (vx_atS RX0 73 "java/lang/IndexOutOfBoundsException" ["java/lang/RuntimeException", "java/lang/Exception"]).filter goodWord)
def wsX0_needValue : List Cond := .code yX0_needValue cX0_needValue 1 none :: ([.classLink RX0 80 "java/lang/IllegalArgumentException", .initialized "java/lang/IllegalArgumentException"] ++ (vx_atS RX0 84 "java/lang/IllegalArgumentException" ["java/lang/RuntimeException", "java/lang/Exception"]).filter goodWord)
def wsX0_hasBit : List Cond := .code yX0_hasBit cX0_hasBit 2 (some .boolean) :: ([])
def wsX0_read : List Cond := .code yX0_read cX0_read 2 (some .int) :: ([])
def wsX0_profilesOf : List Cond := .code yX0_profilesOf cX0_profilesOf 5 (some .int) :: ([.fieldLink RX0 25 "GamutChain" "lengths" "[I", .fieldLink RX0 22 "GamutChain" "links" "[I", .methodLink RX0 105 yX0_read, .static yX0_read, .initialized RX0, .code yX0_read cX0_read 2 (some .int)] ++ wsX00)
def wsX0_held : List Cond := .code yX0_held cX0_held 3 (some .int) :: ([.fieldLink RX0 146 "GamutChain" "signedChains" "I", .methodLink RX0 133 yX0_hasBit, .static yX0_hasBit, .initialized RX0, .code yX0_hasBit cX0_hasBit 2 (some .boolean), .methodLink RX0 149 yX0_profilesOf, .instanceMethod yX0_profilesOf, .selects RX0 yX0_profilesOf yX0_profilesOf, .code yX0_profilesOf cX0_profilesOf 5 (some .int), .fieldLink RX0 25 "GamutChain" "lengths" "[I", .fieldLink RX0 22 "GamutChain" "links" "[I", .methodLink RX0 105 yX0_read, .static yX0_read, .code yX0_read cX0_read 2 (some .int)] ++ wsX00)
def wsX0_needFreeProfile : List Cond := .code yX0_needFreeProfile cX0_needFreeProfile 2 none :: ([.classLink RX0 47 "java/lang/IllegalStateException", .initialized "java/lang/IllegalStateException", .methodLink RX0 175 yX0_held, .instanceMethod yX0_held, .selects RX0 yX0_held yX0_held, .initialized RX0, .code yX0_held cX0_held 3 (some .int), .fieldLink RX0 146 "GamutChain" "signedChains" "I", .methodLink RX0 133 yX0_hasBit, .static yX0_hasBit, .code yX0_hasBit cX0_hasBit 2 (some .boolean), .methodLink RX0 149 yX0_profilesOf, .instanceMethod yX0_profilesOf, .selects RX0 yX0_profilesOf yX0_profilesOf, .code yX0_profilesOf cX0_profilesOf 5 (some .int), .fieldLink RX0 25 "GamutChain" "lengths" "[I", .fieldLink RX0 22 "GamutChain" "links" "[I", .methodLink RX0 105 yX0_read, .static yX0_read, .code yX0_read cX0_read 2 (some .int)] ++ wsX00 ++ (vx_atS RX0 51 "java/lang/IllegalStateException" ["java/lang/RuntimeException", "java/lang/Exception"]).filter goodWord)
def wsX0_bend_r1 : List Cond := [Cond.classLink RX0 69 "java/lang/IndexOutOfBoundsException", Cond.initialized "java/lang/IndexOutOfBoundsException", Cond.fieldLink RX0 9 "GamutChain" "bends" "[I", Cond.methodLink RX0 62 yX0_needProfile, Cond.instanceMethod yX0_needProfile, Cond.selects RX0 yX0_needProfile yX0_needProfile, Cond.initialized RX0, Cond.code yX0_needProfile cX0_needProfile 2 none, Cond.fieldLink RX0 43 "GamutChain" "profiles" "I", Cond.methodLink RX0 66 yX0_needBand, Cond.static yX0_needBand, Cond.code yX0_needBand cX0_needBand 1 none, Cond.methodLink RX0 74 yX0_needValue, Cond.static yX0_needValue, Cond.code yX0_needValue cX0_needValue 1 none, Cond.classLink RX0 80 "java/lang/IllegalArgumentException", Cond.initialized "java/lang/IllegalArgumentException", Cond.methodLink RX0 77 yX0_needFreeProfile, Cond.instanceMethod yX0_needFreeProfile, Cond.selects RX0 yX0_needFreeProfile yX0_needFreeProfile, Cond.code yX0_needFreeProfile cX0_needFreeProfile 2 none, Cond.classLink RX0 47 "java/lang/IllegalStateException", Cond.initialized "java/lang/IllegalStateException", Cond.methodLink RX0 175 yX0_held]
def wsX0_bend_r2 : List Cond := [Cond.instanceMethod yX0_held, Cond.selects RX0 yX0_held yX0_held, Cond.code yX0_held cX0_held 3 (some .int), Cond.fieldLink RX0 146 "GamutChain" "signedChains" "I", Cond.methodLink RX0 133 yX0_hasBit, Cond.static yX0_hasBit, Cond.code yX0_hasBit cX0_hasBit 2 (some .boolean), Cond.methodLink RX0 149 yX0_profilesOf, Cond.instanceMethod yX0_profilesOf, Cond.selects RX0 yX0_profilesOf yX0_profilesOf, Cond.code yX0_profilesOf cX0_profilesOf 5 (some .int), Cond.fieldLink RX0 25 "GamutChain" "lengths" "[I", Cond.fieldLink RX0 22 "GamutChain" "links" "[I", Cond.methodLink RX0 105 yX0_read, Cond.static yX0_read, Cond.code yX0_read cX0_read 2 (some .int), Cond.methodLink RX0 58 yX0_swap, Cond.static yX0_swap, Cond.code yX0_swap cX0_swap 4 (some .int)]
def wsX0_bend : List Cond := .code yX0_bend cX0_bend 5 (some .int) :: ((wsX0_bend_r1 ++ wsX0_bend_r2) ++ wsX00 ++ (vx_atS RX0 73 "java/lang/IndexOutOfBoundsException" ["java/lang/RuntimeException", "java/lang/Exception"]).filter goodWord ++ (vx_atS RX0 84 "java/lang/IllegalArgumentException" ["java/lang/RuntimeException", "java/lang/Exception"]).filter goodWord ++ (vx_atS RX0 51 "java/lang/IllegalStateException" ["java/lang/RuntimeException", "java/lang/Exception"]).filter goodWord)
def wsX0_reach_r1 : List Cond := [Cond.classLink RX0 80 "java/lang/IllegalArgumentException", Cond.initialized "java/lang/IllegalArgumentException", Cond.fieldLink RX0 13 "GamutChain" "leasts" "[I", Cond.fieldLink RX0 16 "GamutChain" "greatests" "[I", Cond.methodLink RX0 62 yX0_needProfile, Cond.instanceMethod yX0_needProfile, Cond.selects RX0 yX0_needProfile yX0_needProfile, Cond.initialized RX0, Cond.code yX0_needProfile cX0_needProfile 2 none, Cond.classLink RX0 69 "java/lang/IndexOutOfBoundsException", Cond.initialized "java/lang/IndexOutOfBoundsException", Cond.fieldLink RX0 43 "GamutChain" "profiles" "I", Cond.methodLink RX0 66 yX0_needBand, Cond.static yX0_needBand, Cond.code yX0_needBand cX0_needBand 1 none, Cond.methodLink RX0 74 yX0_needValue, Cond.static yX0_needValue, Cond.code yX0_needValue cX0_needValue 1 none, Cond.methodLink RX0 77 yX0_needFreeProfile, Cond.instanceMethod yX0_needFreeProfile, Cond.selects RX0 yX0_needFreeProfile yX0_needFreeProfile, Cond.code yX0_needFreeProfile cX0_needFreeProfile 2 none, Cond.classLink RX0 47 "java/lang/IllegalStateException", Cond.initialized "java/lang/IllegalStateException"]
def wsX0_reach_r2 : List Cond := [Cond.methodLink RX0 175 yX0_held, Cond.instanceMethod yX0_held, Cond.selects RX0 yX0_held yX0_held, Cond.code yX0_held cX0_held 3 (some .int), Cond.fieldLink RX0 146 "GamutChain" "signedChains" "I", Cond.methodLink RX0 133 yX0_hasBit, Cond.static yX0_hasBit, Cond.code yX0_hasBit cX0_hasBit 2 (some .boolean), Cond.methodLink RX0 149 yX0_profilesOf, Cond.instanceMethod yX0_profilesOf, Cond.selects RX0 yX0_profilesOf yX0_profilesOf, Cond.code yX0_profilesOf cX0_profilesOf 5 (some .int), Cond.fieldLink RX0 25 "GamutChain" "lengths" "[I", Cond.fieldLink RX0 22 "GamutChain" "links" "[I", Cond.methodLink RX0 105 yX0_read, Cond.static yX0_read, Cond.code yX0_read cX0_read 2 (some .int), Cond.methodLink RX0 58 yX0_swap, Cond.static yX0_swap, Cond.code yX0_swap cX0_swap 4 (some .int)]
def wsX0_reach : List Cond := .code yX0_reach cX0_reach 8 (some .int) :: ((wsX0_reach_r1 ++ wsX0_reach_r2) ++ wsX00 ++ (vx_atS RX0 84 "java/lang/IllegalArgumentException" ["java/lang/RuntimeException", "java/lang/Exception"]).filter goodWord ++ (vx_atS RX0 73 "java/lang/IndexOutOfBoundsException" ["java/lang/RuntimeException", "java/lang/Exception"]).filter goodWord ++ (vx_atS RX0 51 "java/lang/IllegalStateException" ["java/lang/RuntimeException", "java/lang/Exception"]).filter goodWord)
def wsX0_way_r1 : List Cond := [Cond.classLink RX0 80 "java/lang/IllegalArgumentException", Cond.initialized "java/lang/IllegalArgumentException", Cond.fieldLink RX0 19 "GamutChain" "ways" "[I", Cond.methodLink RX0 62 yX0_needProfile, Cond.instanceMethod yX0_needProfile, Cond.selects RX0 yX0_needProfile yX0_needProfile, Cond.initialized RX0, Cond.code yX0_needProfile cX0_needProfile 2 none, Cond.classLink RX0 69 "java/lang/IndexOutOfBoundsException", Cond.initialized "java/lang/IndexOutOfBoundsException", Cond.fieldLink RX0 43 "GamutChain" "profiles" "I", Cond.methodLink RX0 77 yX0_needFreeProfile, Cond.instanceMethod yX0_needFreeProfile, Cond.selects RX0 yX0_needFreeProfile yX0_needFreeProfile, Cond.code yX0_needFreeProfile cX0_needFreeProfile 2 none, Cond.classLink RX0 47 "java/lang/IllegalStateException", Cond.initialized "java/lang/IllegalStateException", Cond.methodLink RX0 175 yX0_held, Cond.instanceMethod yX0_held, Cond.selects RX0 yX0_held yX0_held, Cond.code yX0_held cX0_held 3 (some .int), Cond.fieldLink RX0 146 "GamutChain" "signedChains" "I", Cond.methodLink RX0 133 yX0_hasBit, Cond.static yX0_hasBit]
def wsX0_way_r2 : List Cond := [Cond.code yX0_hasBit cX0_hasBit 2 (some .boolean), Cond.methodLink RX0 149 yX0_profilesOf, Cond.instanceMethod yX0_profilesOf, Cond.selects RX0 yX0_profilesOf yX0_profilesOf, Cond.code yX0_profilesOf cX0_profilesOf 5 (some .int), Cond.fieldLink RX0 25 "GamutChain" "lengths" "[I", Cond.fieldLink RX0 22 "GamutChain" "links" "[I", Cond.methodLink RX0 105 yX0_read, Cond.static yX0_read, Cond.code yX0_read cX0_read 2 (some .int), Cond.methodLink RX0 58 yX0_swap, Cond.static yX0_swap, Cond.code yX0_swap cX0_swap 4 (some .int)]
def wsX0_way : List Cond := .code yX0_way cX0_way 3 (some .int) :: ((wsX0_way_r1 ++ wsX0_way_r2) ++ wsX00 ++ (vx_atS RX0 84 "java/lang/IllegalArgumentException" ["java/lang/RuntimeException", "java/lang/Exception"]).filter goodWord ++ (vx_atS RX0 73 "java/lang/IndexOutOfBoundsException" ["java/lang/RuntimeException", "java/lang/Exception"]).filter goodWord ++ (vx_atS RX0 51 "java/lang/IllegalStateException" ["java/lang/RuntimeException", "java/lang/Exception"]).filter goodWord)
def wsJ9_floorDiv_7cf53 : List Cond := .code yJ9_floorDiv_7cf53 cJ9_floorDiv_7cf53 3 (some .int) :: ([])
def wsX0_between : List Cond := .code yX0_between cX0_between 7 (some .int) :: ([.methodLink RX0 105 yX0_read, .static yX0_read, .initialized RX0, .code yX0_read cX0_read 2 (some .int), .methodLink RX0 183 yJ9_floorDiv_7cf53, .static yJ9_floorDiv_7cf53, .initialized RJ9, .code yJ9_floorDiv_7cf53 cJ9_floorDiv_7cf53 3 (some .int)])
def wsX0_bent : List Cond := .code yX0_bent cX0_bent 4 (some .int) :: ([.fieldLink RX0 9 "GamutChain" "bends" "[I", .methodLink RX0 139 yX0_between, .static yX0_between, .initialized RX0, .code yX0_between cX0_between 7 (some .int), .methodLink RX0 105 yX0_read, .static yX0_read, .code yX0_read cX0_read 2 (some .int), .methodLink RX0 183 yJ9_floorDiv_7cf53, .static yJ9_floorDiv_7cf53, .initialized RJ9, .code yJ9_floorDiv_7cf53 cJ9_floorDiv_7cf53 3 (some .int)] ++ wsX00)
def wsX0_curve_r1 : List Cond := [Cond.methodLink RX0 62 yX0_needProfile, Cond.instanceMethod yX0_needProfile, Cond.selects RX0 yX0_needProfile yX0_needProfile, Cond.initialized RX0, Cond.code yX0_needProfile cX0_needProfile 2 none, Cond.classLink RX0 69 "java/lang/IndexOutOfBoundsException", Cond.initialized "java/lang/IndexOutOfBoundsException", Cond.fieldLink RX0 43 "GamutChain" "profiles" "I", Cond.methodLink RX0 66 yX0_needBand, Cond.static yX0_needBand, Cond.code yX0_needBand cX0_needBand 1 none, Cond.methodLink RX0 74 yX0_needValue, Cond.static yX0_needValue, Cond.code yX0_needValue cX0_needValue 1 none, Cond.classLink RX0 80 "java/lang/IllegalArgumentException", Cond.initialized "java/lang/IllegalArgumentException", Cond.methodLink RX0 87 yX0_bent, Cond.instanceMethod yX0_bent, Cond.selects RX0 yX0_bent yX0_bent, Cond.code yX0_bent cX0_bent 4 (some .int), Cond.fieldLink RX0 9 "GamutChain" "bends" "[I", Cond.methodLink RX0 139 yX0_between, Cond.static yX0_between, Cond.code yX0_between cX0_between 7 (some .int)]
def wsX0_curve_r2 : List Cond := [Cond.methodLink RX0 105 yX0_read, Cond.static yX0_read, Cond.code yX0_read cX0_read 2 (some .int), Cond.methodLink RX0 183 yJ9_floorDiv_7cf53, Cond.static yJ9_floorDiv_7cf53, Cond.initialized RJ9, Cond.code yJ9_floorDiv_7cf53 cJ9_floorDiv_7cf53 3 (some .int)]
def wsX0_curve : List Cond := .code yX0_curve cX0_curve 4 (some .int) :: ((wsX0_curve_r1 ++ wsX0_curve_r2) ++ wsX00 ++ (vx_atS RX0 73 "java/lang/IndexOutOfBoundsException" ["java/lang/RuntimeException", "java/lang/Exception"]).filter goodWord ++ (vx_atS RX0 84 "java/lang/IllegalArgumentException" ["java/lang/RuntimeException", "java/lang/Exception"]).filter goodWord)
def wsX0_fold : List Cond := .code yX0_fold cX0_fold 3 (some .int) :: ([])
def wsX0_take_r1 : List Cond := [Cond.fieldLink RX0 13 "GamutChain" "leasts" "[I", Cond.fieldLink RX0 16 "GamutChain" "greatests" "[I", Cond.fieldLink RX0 19 "GamutChain" "ways" "[I", Cond.methodLink RX0 119 Lib.Math.min.name, Cond.static Lib.Math.min.name, Cond.initialized "java/lang/Math", Cond.code Lib.Math.min.name Lib.Math.min.code 2 (some .int), Cond.methodLink RX0 125 Lib.Math.max.name, Cond.static Lib.Math.max.name, Cond.code Lib.Math.max.name Lib.Math.max.code 2 (some .int), Cond.methodLink RX0 105 yX0_read, Cond.static yX0_read, Cond.initialized RX0, Cond.code yX0_read cX0_read 2 (some .int), Cond.methodLink RX0 87 yX0_bent, Cond.instanceMethod yX0_bent, Cond.selects RX0 yX0_bent yX0_bent, Cond.code yX0_bent cX0_bent 4 (some .int), Cond.fieldLink RX0 9 "GamutChain" "bends" "[I", Cond.methodLink RX0 139 yX0_between, Cond.static yX0_between, Cond.code yX0_between cX0_between 7 (some .int), Cond.methodLink RX0 183 yJ9_floorDiv_7cf53, Cond.static yJ9_floorDiv_7cf53]
def wsX0_take_r2 : List Cond := [Cond.initialized RJ9, Cond.code yJ9_floorDiv_7cf53 cJ9_floorDiv_7cf53 3 (some .int), Cond.methodLink RX0 186 yX0_fold, Cond.static yX0_fold, Cond.code yX0_fold cX0_fold 3 (some .int)]
def wsX0_take : List Cond := .code yX0_take cX0_take 8 (some .int) :: ((wsX0_take_r1 ++ wsX0_take_r2) ++ wsX00)
def wsX0_taken_r1 : List Cond := [Cond.methodLink RX0 62 yX0_needProfile, Cond.instanceMethod yX0_needProfile, Cond.selects RX0 yX0_needProfile yX0_needProfile, Cond.initialized RX0, Cond.code yX0_needProfile cX0_needProfile 2 none, Cond.classLink RX0 69 "java/lang/IndexOutOfBoundsException", Cond.initialized "java/lang/IndexOutOfBoundsException", Cond.fieldLink RX0 43 "GamutChain" "profiles" "I", Cond.methodLink RX0 66 yX0_needBand, Cond.static yX0_needBand, Cond.code yX0_needBand cX0_needBand 1 none, Cond.methodLink RX0 74 yX0_needValue, Cond.static yX0_needValue, Cond.code yX0_needValue cX0_needValue 1 none, Cond.classLink RX0 80 "java/lang/IllegalArgumentException", Cond.initialized "java/lang/IllegalArgumentException", Cond.methodLink RX0 91 yX0_take, Cond.instanceMethod yX0_take, Cond.selects RX0 yX0_take yX0_take, Cond.code yX0_take cX0_take 8 (some .int), Cond.fieldLink RX0 13 "GamutChain" "leasts" "[I", Cond.fieldLink RX0 16 "GamutChain" "greatests" "[I", Cond.fieldLink RX0 19 "GamutChain" "ways" "[I", Cond.methodLink RX0 119 Lib.Math.min.name]
def wsX0_taken_r2 : List Cond := [Cond.static Lib.Math.min.name, Cond.initialized "java/lang/Math", Cond.code Lib.Math.min.name Lib.Math.min.code 2 (some .int), Cond.methodLink RX0 125 Lib.Math.max.name, Cond.static Lib.Math.max.name, Cond.code Lib.Math.max.name Lib.Math.max.code 2 (some .int), Cond.methodLink RX0 105 yX0_read, Cond.static yX0_read, Cond.code yX0_read cX0_read 2 (some .int), Cond.methodLink RX0 87 yX0_bent, Cond.instanceMethod yX0_bent, Cond.selects RX0 yX0_bent yX0_bent, Cond.code yX0_bent cX0_bent 4 (some .int), Cond.fieldLink RX0 9 "GamutChain" "bends" "[I", Cond.methodLink RX0 139 yX0_between, Cond.static yX0_between, Cond.code yX0_between cX0_between 7 (some .int), Cond.methodLink RX0 183 yJ9_floorDiv_7cf53, Cond.static yJ9_floorDiv_7cf53, Cond.initialized RJ9, Cond.code yJ9_floorDiv_7cf53 cJ9_floorDiv_7cf53 3 (some .int), Cond.methodLink RX0 186 yX0_fold, Cond.static yX0_fold, Cond.code yX0_fold cX0_fold 3 (some .int)]
def wsX0_taken : List Cond := .code yX0_taken cX0_taken 4 (some .int) :: ((wsX0_taken_r1 ++ wsX0_taken_r2) ++ wsX00 ++ (vx_atS RX0 73 "java/lang/IndexOutOfBoundsException" ["java/lang/RuntimeException", "java/lang/Exception"]).filter goodWord ++ (vx_atS RX0 84 "java/lang/IllegalArgumentException" ["java/lang/RuntimeException", "java/lang/Exception"]).filter goodWord)
def wsX0_chain : List Cond := .code yX0_chain cX0_chain 2 (some .int) :: ([.classLink RX0 47 "java/lang/IllegalStateException", .initialized "java/lang/IllegalStateException", .fieldLink RX0 94 "GamutChain" "chains" "I"] ++ wsX00 ++ (vx_atS RX0 51 "java/lang/IllegalStateException" ["java/lang/RuntimeException", "java/lang/Exception"]).filter goodWord)
def wsX0_needChain : List Cond := .code yX0_needChain cX0_needChain 2 none :: ([.classLink RX0 69 "java/lang/IndexOutOfBoundsException", .initialized "java/lang/IndexOutOfBoundsException", .fieldLink RX0 94 "GamutChain" "chains" "I"] ++ wsX00 ++ (vx_atS RX0 73 "java/lang/IndexOutOfBoundsException" ["java/lang/RuntimeException", "java/lang/Exception"]).filter goodWord)
def wsX0_needFreeChain : List Cond := .code yX0_needFreeChain cX0_needFreeChain 2 none :: ([.classLink RX0 47 "java/lang/IllegalStateException", .initialized "java/lang/IllegalStateException", .fieldLink RX0 146 "GamutChain" "signedChains" "I", .methodLink RX0 133 yX0_hasBit, .static yX0_hasBit, .initialized RX0, .code yX0_hasBit cX0_hasBit 2 (some .boolean)] ++ wsX00 ++ (vx_atS RX0 51 "java/lang/IllegalStateException" ["java/lang/RuntimeException", "java/lang/Exception"]).filter goodWord)
def wsX0_add_r1 : List Cond := [Cond.classLink RX0 47 "java/lang/IllegalStateException", Cond.initialized "java/lang/IllegalStateException", Cond.fieldLink RX0 25 "GamutChain" "lengths" "[I", Cond.fieldLink RX0 22 "GamutChain" "links" "[I", Cond.methodLink RX0 99 yX0_needChain, Cond.instanceMethod yX0_needChain, Cond.selects RX0 yX0_needChain yX0_needChain, Cond.initialized RX0, Cond.code yX0_needChain cX0_needChain 2 none, Cond.classLink RX0 69 "java/lang/IndexOutOfBoundsException", Cond.initialized "java/lang/IndexOutOfBoundsException", Cond.fieldLink RX0 94 "GamutChain" "chains" "I", Cond.methodLink RX0 62 yX0_needProfile, Cond.instanceMethod yX0_needProfile, Cond.selects RX0 yX0_needProfile yX0_needProfile, Cond.code yX0_needProfile cX0_needProfile 2 none, Cond.fieldLink RX0 43 "GamutChain" "profiles" "I", Cond.methodLink RX0 102 yX0_needFreeChain, Cond.instanceMethod yX0_needFreeChain, Cond.selects RX0 yX0_needFreeChain yX0_needFreeChain, Cond.code yX0_needFreeChain cX0_needFreeChain 2 none, Cond.fieldLink RX0 146 "GamutChain" "signedChains" "I", Cond.methodLink RX0 133 yX0_hasBit, Cond.static yX0_hasBit]
def wsX0_add_r2 : List Cond := [Cond.code yX0_hasBit cX0_hasBit 2 (some .boolean), Cond.methodLink RX0 105 yX0_read, Cond.static yX0_read, Cond.code yX0_read cX0_read 2 (some .int), Cond.methodLink RX0 58 yX0_swap, Cond.static yX0_swap, Cond.code yX0_swap cX0_swap 4 (some .int)]
def wsX0_add : List Cond := .code yX0_add cX0_add 4 (some .int) :: ((wsX0_add_r1 ++ wsX0_add_r2) ++ wsX00 ++ (vx_atS RX0 51 "java/lang/IllegalStateException" ["java/lang/RuntimeException", "java/lang/Exception"]).filter goodWord ++ (vx_atS RX0 73 "java/lang/IndexOutOfBoundsException" ["java/lang/RuntimeException", "java/lang/Exception"]).filter goodWord)
def wsX0_drop_r1 : List Cond := [Cond.classLink RX0 47 "java/lang/IllegalStateException", Cond.initialized "java/lang/IllegalStateException", Cond.fieldLink RX0 25 "GamutChain" "lengths" "[I", Cond.fieldLink RX0 22 "GamutChain" "links" "[I", Cond.methodLink RX0 99 yX0_needChain, Cond.instanceMethod yX0_needChain, Cond.selects RX0 yX0_needChain yX0_needChain, Cond.initialized RX0, Cond.code yX0_needChain cX0_needChain 2 none, Cond.classLink RX0 69 "java/lang/IndexOutOfBoundsException", Cond.initialized "java/lang/IndexOutOfBoundsException", Cond.fieldLink RX0 94 "GamutChain" "chains" "I", Cond.methodLink RX0 102 yX0_needFreeChain, Cond.instanceMethod yX0_needFreeChain, Cond.selects RX0 yX0_needFreeChain yX0_needFreeChain, Cond.code yX0_needFreeChain cX0_needFreeChain 2 none, Cond.fieldLink RX0 146 "GamutChain" "signedChains" "I", Cond.methodLink RX0 133 yX0_hasBit, Cond.static yX0_hasBit, Cond.code yX0_hasBit cX0_hasBit 2 (some .boolean), Cond.methodLink RX0 105 yX0_read, Cond.static yX0_read, Cond.code yX0_read cX0_read 2 (some .int), Cond.methodLink RX0 58 yX0_swap]
def wsX0_drop_r2 : List Cond := [Cond.static yX0_swap, Cond.code yX0_swap cX0_swap 4 (some .int)]
def wsX0_drop : List Cond := .code yX0_drop cX0_drop 3 (some .int) :: ((wsX0_drop_r1 ++ wsX0_drop_r2) ++ wsX00 ++ (vx_atS RX0 51 "java/lang/IllegalStateException" ["java/lang/RuntimeException", "java/lang/Exception"]).filter goodWord ++ (vx_atS RX0 73 "java/lang/IndexOutOfBoundsException" ["java/lang/RuntimeException", "java/lang/Exception"]).filter goodWord)
def wsX0_pass_r1 : List Cond := [Cond.fieldLink RX0 25 "GamutChain" "lengths" "[I", Cond.fieldLink RX0 22 "GamutChain" "links" "[I", Cond.methodLink RX0 105 yX0_read, Cond.static yX0_read, Cond.initialized RX0, Cond.code yX0_read cX0_read 2 (some .int), Cond.methodLink RX0 91 yX0_take, Cond.instanceMethod yX0_take, Cond.selects RX0 yX0_take yX0_take, Cond.code yX0_take cX0_take 8 (some .int), Cond.fieldLink RX0 13 "GamutChain" "leasts" "[I", Cond.fieldLink RX0 16 "GamutChain" "greatests" "[I", Cond.fieldLink RX0 19 "GamutChain" "ways" "[I", Cond.methodLink RX0 119 Lib.Math.min.name, Cond.static Lib.Math.min.name, Cond.initialized "java/lang/Math", Cond.code Lib.Math.min.name Lib.Math.min.code 2 (some .int), Cond.methodLink RX0 125 Lib.Math.max.name, Cond.static Lib.Math.max.name, Cond.code Lib.Math.max.name Lib.Math.max.code 2 (some .int), Cond.methodLink RX0 87 yX0_bent, Cond.instanceMethod yX0_bent, Cond.selects RX0 yX0_bent yX0_bent, Cond.code yX0_bent cX0_bent 4 (some .int)]
def wsX0_pass_r2 : List Cond := [Cond.fieldLink RX0 9 "GamutChain" "bends" "[I", Cond.methodLink RX0 139 yX0_between, Cond.static yX0_between, Cond.code yX0_between cX0_between 7 (some .int), Cond.methodLink RX0 183 yJ9_floorDiv_7cf53, Cond.static yJ9_floorDiv_7cf53, Cond.initialized RJ9, Cond.code yJ9_floorDiv_7cf53 cJ9_floorDiv_7cf53 3 (some .int), Cond.methodLink RX0 186 yX0_fold, Cond.static yX0_fold, Cond.code yX0_fold cX0_fold 3 (some .int)]
def wsX0_pass : List Cond := .code yX0_pass cX0_pass 7 (some .int) :: ((wsX0_pass_r1 ++ wsX0_pass_r2) ++ wsX00)
def wsX0_through_r1 : List Cond := [Cond.methodLink RX0 99 yX0_needChain, Cond.instanceMethod yX0_needChain, Cond.selects RX0 yX0_needChain yX0_needChain, Cond.initialized RX0, Cond.code yX0_needChain cX0_needChain 2 none, Cond.classLink RX0 69 "java/lang/IndexOutOfBoundsException", Cond.initialized "java/lang/IndexOutOfBoundsException", Cond.fieldLink RX0 94 "GamutChain" "chains" "I", Cond.methodLink RX0 66 yX0_needBand, Cond.static yX0_needBand, Cond.code yX0_needBand cX0_needBand 1 none, Cond.methodLink RX0 74 yX0_needValue, Cond.static yX0_needValue, Cond.code yX0_needValue cX0_needValue 1 none, Cond.classLink RX0 80 "java/lang/IllegalArgumentException", Cond.initialized "java/lang/IllegalArgumentException", Cond.methodLink RX0 113 yX0_pass, Cond.instanceMethod yX0_pass, Cond.selects RX0 yX0_pass yX0_pass, Cond.code yX0_pass cX0_pass 7 (some .int), Cond.fieldLink RX0 25 "GamutChain" "lengths" "[I", Cond.fieldLink RX0 22 "GamutChain" "links" "[I", Cond.methodLink RX0 105 yX0_read, Cond.static yX0_read]
def wsX0_through_r2 : List Cond := [Cond.code yX0_read cX0_read 2 (some .int), Cond.methodLink RX0 91 yX0_take, Cond.instanceMethod yX0_take, Cond.selects RX0 yX0_take yX0_take, Cond.code yX0_take cX0_take 8 (some .int), Cond.fieldLink RX0 13 "GamutChain" "leasts" "[I", Cond.fieldLink RX0 16 "GamutChain" "greatests" "[I", Cond.fieldLink RX0 19 "GamutChain" "ways" "[I", Cond.methodLink RX0 119 Lib.Math.min.name, Cond.static Lib.Math.min.name, Cond.initialized "java/lang/Math", Cond.code Lib.Math.min.name Lib.Math.min.code 2 (some .int), Cond.methodLink RX0 125 Lib.Math.max.name, Cond.static Lib.Math.max.name, Cond.code Lib.Math.max.name Lib.Math.max.code 2 (some .int), Cond.methodLink RX0 87 yX0_bent, Cond.instanceMethod yX0_bent, Cond.selects RX0 yX0_bent yX0_bent, Cond.code yX0_bent cX0_bent 4 (some .int), Cond.fieldLink RX0 9 "GamutChain" "bends" "[I", Cond.methodLink RX0 139 yX0_between, Cond.static yX0_between, Cond.code yX0_between cX0_between 7 (some .int), Cond.methodLink RX0 183 yJ9_floorDiv_7cf53]
def wsX0_through_r3 : List Cond := [Cond.static yJ9_floorDiv_7cf53, Cond.initialized RJ9, Cond.code yJ9_floorDiv_7cf53 cJ9_floorDiv_7cf53 3 (some .int), Cond.methodLink RX0 186 yX0_fold, Cond.static yX0_fold, Cond.code yX0_fold cX0_fold 3 (some .int)]
def wsX0_through : List Cond := .code yX0_through cX0_through 4 (some .int) :: ((wsX0_through_r1 ++ (wsX0_through_r2 ++ wsX0_through_r3)) ++ wsX00 ++ (vx_atS RX0 73 "java/lang/IndexOutOfBoundsException" ["java/lang/RuntimeException", "java/lang/Exception"]).filter goodWord ++ (vx_atS RX0 84 "java/lang/IllegalArgumentException" ["java/lang/RuntimeException", "java/lang/Exception"]).filter goodWord)
def wsX0_tryJoining_r1 : List Cond := [Cond.fieldLink RX0 31 "GamutChain" "trial" "[I", Cond.methodLink RX0 189 Lib.Math.abs.name, Cond.static Lib.Math.abs.name, Cond.initialized "java/lang/Math", Cond.code Lib.Math.abs.name Lib.Math.abs.code 1 (some .int), Cond.methodLink RX0 125 Lib.Math.max.name, Cond.static Lib.Math.max.name, Cond.code Lib.Math.max.name Lib.Math.max.code 2 (some .int), Cond.methodLink RX0 54 yX0_valueOfPlace, Cond.static yX0_valueOfPlace, Cond.initialized RX0, Cond.code yX0_valueOfPlace cX0_valueOfPlace 1 (some .int), Cond.methodLink RX0 119 Lib.Math.min.name, Cond.static Lib.Math.min.name, Cond.code Lib.Math.min.name Lib.Math.min.code 2 (some .int), Cond.methodLink RX0 113 yX0_pass, Cond.instanceMethod yX0_pass, Cond.selects RX0 yX0_pass yX0_pass, Cond.code yX0_pass cX0_pass 7 (some .int), Cond.fieldLink RX0 25 "GamutChain" "lengths" "[I", Cond.fieldLink RX0 22 "GamutChain" "links" "[I", Cond.methodLink RX0 105 yX0_read, Cond.static yX0_read, Cond.code yX0_read cX0_read 2 (some .int)]
def wsX0_tryJoining_r2 : List Cond := [Cond.methodLink RX0 91 yX0_take, Cond.instanceMethod yX0_take, Cond.selects RX0 yX0_take yX0_take, Cond.code yX0_take cX0_take 8 (some .int), Cond.fieldLink RX0 13 "GamutChain" "leasts" "[I", Cond.fieldLink RX0 16 "GamutChain" "greatests" "[I", Cond.fieldLink RX0 19 "GamutChain" "ways" "[I", Cond.methodLink RX0 87 yX0_bent, Cond.instanceMethod yX0_bent, Cond.selects RX0 yX0_bent yX0_bent, Cond.code yX0_bent cX0_bent 4 (some .int), Cond.fieldLink RX0 9 "GamutChain" "bends" "[I", Cond.methodLink RX0 139 yX0_between, Cond.static yX0_between, Cond.code yX0_between cX0_between 7 (some .int), Cond.methodLink RX0 183 yJ9_floorDiv_7cf53, Cond.static yJ9_floorDiv_7cf53, Cond.initialized RJ9, Cond.code yJ9_floorDiv_7cf53 cJ9_floorDiv_7cf53 3 (some .int), Cond.methodLink RX0 186 yX0_fold, Cond.static yX0_fold, Cond.code yX0_fold cX0_fold 3 (some .int), Cond.methodLink RX0 58 yX0_swap, Cond.static yX0_swap]
def wsX0_tryJoining_r3 : List Cond := [Cond.code yX0_swap cX0_swap 4 (some .int)]
def wsX0_tryJoining : List Cond := .code yX0_tryJoining cX0_tryJoining 6 (some .int) :: ((wsX0_tryJoining_r1 ++ (wsX0_tryJoining_r2 ++ wsX0_tryJoining_r3)) ++ wsX00)
def wsX0_gap_r1 : List Cond := [Cond.methodLink RX0 99 yX0_needChain, Cond.instanceMethod yX0_needChain, Cond.selects RX0 yX0_needChain yX0_needChain, Cond.initialized RX0, Cond.code yX0_needChain cX0_needChain 2 none, Cond.classLink RX0 69 "java/lang/IndexOutOfBoundsException", Cond.initialized "java/lang/IndexOutOfBoundsException", Cond.fieldLink RX0 94 "GamutChain" "chains" "I", Cond.methodLink RX0 116 yX0_tryJoining, Cond.instanceMethod yX0_tryJoining, Cond.selects RX0 yX0_tryJoining yX0_tryJoining, Cond.code yX0_tryJoining cX0_tryJoining 6 (some .int), Cond.fieldLink RX0 31 "GamutChain" "trial" "[I", Cond.methodLink RX0 189 Lib.Math.abs.name, Cond.static Lib.Math.abs.name, Cond.initialized "java/lang/Math", Cond.code Lib.Math.abs.name Lib.Math.abs.code 1 (some .int), Cond.methodLink RX0 125 Lib.Math.max.name, Cond.static Lib.Math.max.name, Cond.code Lib.Math.max.name Lib.Math.max.code 2 (some .int), Cond.methodLink RX0 54 yX0_valueOfPlace, Cond.static yX0_valueOfPlace, Cond.code yX0_valueOfPlace cX0_valueOfPlace 1 (some .int), Cond.methodLink RX0 119 Lib.Math.min.name]
def wsX0_gap_r2 : List Cond := [Cond.static Lib.Math.min.name, Cond.code Lib.Math.min.name Lib.Math.min.code 2 (some .int), Cond.methodLink RX0 113 yX0_pass, Cond.instanceMethod yX0_pass, Cond.selects RX0 yX0_pass yX0_pass, Cond.code yX0_pass cX0_pass 7 (some .int), Cond.fieldLink RX0 25 "GamutChain" "lengths" "[I", Cond.fieldLink RX0 22 "GamutChain" "links" "[I", Cond.methodLink RX0 105 yX0_read, Cond.static yX0_read, Cond.code yX0_read cX0_read 2 (some .int), Cond.methodLink RX0 91 yX0_take, Cond.instanceMethod yX0_take, Cond.selects RX0 yX0_take yX0_take, Cond.code yX0_take cX0_take 8 (some .int), Cond.fieldLink RX0 13 "GamutChain" "leasts" "[I", Cond.fieldLink RX0 16 "GamutChain" "greatests" "[I", Cond.fieldLink RX0 19 "GamutChain" "ways" "[I", Cond.methodLink RX0 87 yX0_bent, Cond.instanceMethod yX0_bent, Cond.selects RX0 yX0_bent yX0_bent, Cond.code yX0_bent cX0_bent 4 (some .int), Cond.fieldLink RX0 9 "GamutChain" "bends" "[I", Cond.methodLink RX0 139 yX0_between]
def wsX0_gap_r3 : List Cond := [Cond.static yX0_between, Cond.code yX0_between cX0_between 7 (some .int), Cond.methodLink RX0 183 yJ9_floorDiv_7cf53, Cond.static yJ9_floorDiv_7cf53, Cond.initialized RJ9, Cond.code yJ9_floorDiv_7cf53 cJ9_floorDiv_7cf53 3 (some .int), Cond.methodLink RX0 186 yX0_fold, Cond.static yX0_fold, Cond.code yX0_fold cX0_fold 3 (some .int), Cond.methodLink RX0 58 yX0_swap, Cond.static yX0_swap, Cond.code yX0_swap cX0_swap 4 (some .int)]
def wsX0_gap : List Cond := .code yX0_gap cX0_gap 2 (some .int) :: ((wsX0_gap_r1 ++ (wsX0_gap_r2 ++ wsX0_gap_r3)) ++ wsX00 ++ (vx_atS RX0 73 "java/lang/IndexOutOfBoundsException" ["java/lang/RuntimeException", "java/lang/Exception"]).filter goodWord)
def wsX0_greyGap_r1 : List Cond := [Cond.methodLink RX0 119 Lib.Math.min.name, Cond.static Lib.Math.min.name, Cond.initialized "java/lang/Math", Cond.code Lib.Math.min.name Lib.Math.min.code 2 (some .int), Cond.methodLink RX0 125 Lib.Math.max.name, Cond.static Lib.Math.max.name, Cond.code Lib.Math.max.name Lib.Math.max.code 2 (some .int), Cond.methodLink RX0 99 yX0_needChain, Cond.instanceMethod yX0_needChain, Cond.selects RX0 yX0_needChain yX0_needChain, Cond.initialized RX0, Cond.code yX0_needChain cX0_needChain 2 none, Cond.classLink RX0 69 "java/lang/IndexOutOfBoundsException", Cond.initialized "java/lang/IndexOutOfBoundsException", Cond.fieldLink RX0 94 "GamutChain" "chains" "I", Cond.methodLink RX0 113 yX0_pass, Cond.instanceMethod yX0_pass, Cond.selects RX0 yX0_pass yX0_pass, Cond.code yX0_pass cX0_pass 7 (some .int), Cond.fieldLink RX0 25 "GamutChain" "lengths" "[I", Cond.fieldLink RX0 22 "GamutChain" "links" "[I", Cond.methodLink RX0 105 yX0_read, Cond.static yX0_read, Cond.code yX0_read cX0_read 2 (some .int)]
def wsX0_greyGap_r2 : List Cond := [Cond.methodLink RX0 91 yX0_take, Cond.instanceMethod yX0_take, Cond.selects RX0 yX0_take yX0_take, Cond.code yX0_take cX0_take 8 (some .int), Cond.fieldLink RX0 13 "GamutChain" "leasts" "[I", Cond.fieldLink RX0 16 "GamutChain" "greatests" "[I", Cond.fieldLink RX0 19 "GamutChain" "ways" "[I", Cond.methodLink RX0 87 yX0_bent, Cond.instanceMethod yX0_bent, Cond.selects RX0 yX0_bent yX0_bent, Cond.code yX0_bent cX0_bent 4 (some .int), Cond.fieldLink RX0 9 "GamutChain" "bends" "[I", Cond.methodLink RX0 139 yX0_between, Cond.static yX0_between, Cond.code yX0_between cX0_between 7 (some .int), Cond.methodLink RX0 183 yJ9_floorDiv_7cf53, Cond.static yJ9_floorDiv_7cf53, Cond.initialized RJ9, Cond.code yJ9_floorDiv_7cf53 cJ9_floorDiv_7cf53 3 (some .int), Cond.methodLink RX0 186 yX0_fold, Cond.static yX0_fold, Cond.code yX0_fold cX0_fold 3 (some .int)]
def wsX0_greyGap : List Cond := .code yX0_greyGap cX0_greyGap 8 (some .int) :: ((wsX0_greyGap_r1 ++ wsX0_greyGap_r2) ++ wsX00 ++ (vx_atS RX0 73 "java/lang/IndexOutOfBoundsException" ["java/lang/RuntimeException", "java/lang/Exception"]).filter goodWord)
def wsX0_join_r1 : List Cond := [Cond.classLink RX0 47 "java/lang/IllegalStateException", Cond.initialized "java/lang/IllegalStateException", Cond.fieldLink RX0 28 "GamutChain" "kept" "[I", Cond.fieldLink RX0 31 "GamutChain" "trial" "[I", Cond.fieldLink RX0 130 "GamutChain" "joinedChains" "I", Cond.methodLink RX0 99 yX0_needChain, Cond.instanceMethod yX0_needChain, Cond.selects RX0 yX0_needChain yX0_needChain, Cond.initialized RX0, Cond.code yX0_needChain cX0_needChain 2 none, Cond.classLink RX0 69 "java/lang/IndexOutOfBoundsException", Cond.initialized "java/lang/IndexOutOfBoundsException", Cond.fieldLink RX0 94 "GamutChain" "chains" "I", Cond.methodLink RX0 74 yX0_needValue, Cond.static yX0_needValue, Cond.code yX0_needValue cX0_needValue 1 none, Cond.classLink RX0 80 "java/lang/IllegalArgumentException", Cond.initialized "java/lang/IllegalArgumentException", Cond.methodLink RX0 116 yX0_tryJoining, Cond.instanceMethod yX0_tryJoining, Cond.selects RX0 yX0_tryJoining yX0_tryJoining, Cond.code yX0_tryJoining cX0_tryJoining 6 (some .int), Cond.methodLink RX0 189 Lib.Math.abs.name, Cond.static Lib.Math.abs.name]
def wsX0_join_r2 : List Cond := [Cond.initialized "java/lang/Math", Cond.code Lib.Math.abs.name Lib.Math.abs.code 1 (some .int), Cond.methodLink RX0 125 Lib.Math.max.name, Cond.static Lib.Math.max.name, Cond.code Lib.Math.max.name Lib.Math.max.code 2 (some .int), Cond.methodLink RX0 54 yX0_valueOfPlace, Cond.static yX0_valueOfPlace, Cond.code yX0_valueOfPlace cX0_valueOfPlace 1 (some .int), Cond.methodLink RX0 119 Lib.Math.min.name, Cond.static Lib.Math.min.name, Cond.code Lib.Math.min.name Lib.Math.min.code 2 (some .int), Cond.methodLink RX0 113 yX0_pass, Cond.instanceMethod yX0_pass, Cond.selects RX0 yX0_pass yX0_pass, Cond.code yX0_pass cX0_pass 7 (some .int), Cond.fieldLink RX0 25 "GamutChain" "lengths" "[I", Cond.fieldLink RX0 22 "GamutChain" "links" "[I", Cond.methodLink RX0 105 yX0_read, Cond.static yX0_read, Cond.code yX0_read cX0_read 2 (some .int), Cond.methodLink RX0 91 yX0_take, Cond.instanceMethod yX0_take, Cond.selects RX0 yX0_take yX0_take, Cond.code yX0_take cX0_take 8 (some .int)]
def wsX0_join_r3 : List Cond := [Cond.fieldLink RX0 13 "GamutChain" "leasts" "[I", Cond.fieldLink RX0 16 "GamutChain" "greatests" "[I", Cond.fieldLink RX0 19 "GamutChain" "ways" "[I", Cond.methodLink RX0 87 yX0_bent, Cond.instanceMethod yX0_bent, Cond.selects RX0 yX0_bent yX0_bent, Cond.code yX0_bent cX0_bent 4 (some .int), Cond.fieldLink RX0 9 "GamutChain" "bends" "[I", Cond.methodLink RX0 139 yX0_between, Cond.static yX0_between, Cond.code yX0_between cX0_between 7 (some .int), Cond.methodLink RX0 183 yJ9_floorDiv_7cf53, Cond.static yJ9_floorDiv_7cf53, Cond.initialized RJ9, Cond.code yJ9_floorDiv_7cf53 cJ9_floorDiv_7cf53 3 (some .int), Cond.methodLink RX0 186 yX0_fold, Cond.static yX0_fold, Cond.code yX0_fold cX0_fold 3 (some .int), Cond.methodLink RX0 58 yX0_swap, Cond.static yX0_swap, Cond.code yX0_swap cX0_swap 4 (some .int)]
def wsX0_join : List Cond := .code yX0_join cX0_join 5 (some .int) :: ((wsX0_join_r1 ++ (wsX0_join_r2 ++ wsX0_join_r3)) ++ wsX00 ++ (vx_atS RX0 51 "java/lang/IllegalStateException" ["java/lang/RuntimeException", "java/lang/Exception"]).filter goodWord ++ (vx_atS RX0 73 "java/lang/IndexOutOfBoundsException" ["java/lang/RuntimeException", "java/lang/Exception"]).filter goodWord ++ (vx_atS RX0 84 "java/lang/IllegalArgumentException" ["java/lang/RuntimeException", "java/lang/Exception"]).filter goodWord)
def wsX0_joined_r1 : List Cond := [Cond.classLink RX0 47 "java/lang/IllegalStateException", Cond.initialized "java/lang/IllegalStateException", Cond.fieldLink RX0 130 "GamutChain" "joinedChains" "I", Cond.fieldLink RX0 28 "GamutChain" "kept" "[I", Cond.methodLink RX0 99 yX0_needChain, Cond.instanceMethod yX0_needChain, Cond.selects RX0 yX0_needChain yX0_needChain, Cond.initialized RX0, Cond.code yX0_needChain cX0_needChain 2 none, Cond.classLink RX0 69 "java/lang/IndexOutOfBoundsException", Cond.initialized "java/lang/IndexOutOfBoundsException", Cond.fieldLink RX0 94 "GamutChain" "chains" "I", Cond.methodLink RX0 66 yX0_needBand, Cond.static yX0_needBand, Cond.code yX0_needBand cX0_needBand 1 none, Cond.methodLink RX0 74 yX0_needValue, Cond.static yX0_needValue, Cond.code yX0_needValue cX0_needValue 1 none, Cond.classLink RX0 80 "java/lang/IllegalArgumentException", Cond.initialized "java/lang/IllegalArgumentException", Cond.methodLink RX0 133 yX0_hasBit, Cond.static yX0_hasBit, Cond.code yX0_hasBit cX0_hasBit 2 (some .boolean), Cond.methodLink RX0 139 yX0_between]
def wsX0_joined_r2 : List Cond := [Cond.static yX0_between, Cond.code yX0_between cX0_between 7 (some .int), Cond.methodLink RX0 105 yX0_read, Cond.static yX0_read, Cond.code yX0_read cX0_read 2 (some .int), Cond.methodLink RX0 183 yJ9_floorDiv_7cf53, Cond.static yJ9_floorDiv_7cf53, Cond.initialized RJ9, Cond.code yJ9_floorDiv_7cf53 cJ9_floorDiv_7cf53 3 (some .int)]
def wsX0_joined : List Cond := .code yX0_joined cX0_joined 4 (some .int) :: ((wsX0_joined_r1 ++ wsX0_joined_r2) ++ wsX00 ++ (vx_atS RX0 51 "java/lang/IllegalStateException" ["java/lang/RuntimeException", "java/lang/Exception"]).filter goodWord ++ (vx_atS RX0 73 "java/lang/IndexOutOfBoundsException" ["java/lang/RuntimeException", "java/lang/Exception"]).filter goodWord ++ (vx_atS RX0 84 "java/lang/IllegalArgumentException" ["java/lang/RuntimeException", "java/lang/Exception"]).filter goodWord)
def wsX0_differsFromKept_r1 : List Cond := [Cond.fieldLink RX0 28 "GamutChain" "kept" "[I", Cond.methodLink RX0 105 yX0_read, Cond.static yX0_read, Cond.initialized RX0, Cond.code yX0_read cX0_read 2 (some .int), Cond.methodLink RX0 54 yX0_valueOfPlace, Cond.static yX0_valueOfPlace, Cond.code yX0_valueOfPlace cX0_valueOfPlace 1 (some .int), Cond.methodLink RX0 119 Lib.Math.min.name, Cond.static Lib.Math.min.name, Cond.initialized "java/lang/Math", Cond.code Lib.Math.min.name Lib.Math.min.code 2 (some .int), Cond.methodLink RX0 113 yX0_pass, Cond.instanceMethod yX0_pass, Cond.selects RX0 yX0_pass yX0_pass, Cond.code yX0_pass cX0_pass 7 (some .int), Cond.fieldLink RX0 25 "GamutChain" "lengths" "[I", Cond.fieldLink RX0 22 "GamutChain" "links" "[I", Cond.methodLink RX0 91 yX0_take, Cond.instanceMethod yX0_take, Cond.selects RX0 yX0_take yX0_take, Cond.code yX0_take cX0_take 8 (some .int), Cond.fieldLink RX0 13 "GamutChain" "leasts" "[I", Cond.fieldLink RX0 16 "GamutChain" "greatests" "[I"]
def wsX0_differsFromKept_r2 : List Cond := [Cond.fieldLink RX0 19 "GamutChain" "ways" "[I", Cond.methodLink RX0 125 Lib.Math.max.name, Cond.static Lib.Math.max.name, Cond.code Lib.Math.max.name Lib.Math.max.code 2 (some .int), Cond.methodLink RX0 87 yX0_bent, Cond.instanceMethod yX0_bent, Cond.selects RX0 yX0_bent yX0_bent, Cond.code yX0_bent cX0_bent 4 (some .int), Cond.fieldLink RX0 9 "GamutChain" "bends" "[I", Cond.methodLink RX0 139 yX0_between, Cond.static yX0_between, Cond.code yX0_between cX0_between 7 (some .int), Cond.methodLink RX0 183 yJ9_floorDiv_7cf53, Cond.static yJ9_floorDiv_7cf53, Cond.initialized RJ9, Cond.code yJ9_floorDiv_7cf53 cJ9_floorDiv_7cf53 3 (some .int), Cond.methodLink RX0 186 yX0_fold, Cond.static yX0_fold, Cond.code yX0_fold cX0_fold 3 (some .int)]
def wsX0_differsFromKept : List Cond := .code yX0_differsFromKept cX0_differsFromKept 5 (some .boolean) :: ((wsX0_differsFromKept_r1 ++ wsX0_differsFromKept_r2) ++ wsX00)
def wsX0_stale_r1 : List Cond := [Cond.fieldLink RX0 130 "GamutChain" "joinedChains" "I", Cond.methodLink RX0 133 yX0_hasBit, Cond.static yX0_hasBit, Cond.initialized RX0, Cond.code yX0_hasBit cX0_hasBit 2 (some .boolean), Cond.methodLink RX0 142 yX0_differsFromKept, Cond.instanceMethod yX0_differsFromKept, Cond.selects RX0 yX0_differsFromKept yX0_differsFromKept, Cond.code yX0_differsFromKept cX0_differsFromKept 5 (some .boolean), Cond.fieldLink RX0 28 "GamutChain" "kept" "[I", Cond.methodLink RX0 105 yX0_read, Cond.static yX0_read, Cond.code yX0_read cX0_read 2 (some .int), Cond.methodLink RX0 54 yX0_valueOfPlace, Cond.static yX0_valueOfPlace, Cond.code yX0_valueOfPlace cX0_valueOfPlace 1 (some .int), Cond.methodLink RX0 119 Lib.Math.min.name, Cond.static Lib.Math.min.name, Cond.initialized "java/lang/Math", Cond.code Lib.Math.min.name Lib.Math.min.code 2 (some .int), Cond.methodLink RX0 113 yX0_pass, Cond.instanceMethod yX0_pass, Cond.selects RX0 yX0_pass yX0_pass, Cond.code yX0_pass cX0_pass 7 (some .int)]
def wsX0_stale_r2 : List Cond := [Cond.fieldLink RX0 25 "GamutChain" "lengths" "[I", Cond.fieldLink RX0 22 "GamutChain" "links" "[I", Cond.methodLink RX0 91 yX0_take, Cond.instanceMethod yX0_take, Cond.selects RX0 yX0_take yX0_take, Cond.code yX0_take cX0_take 8 (some .int), Cond.fieldLink RX0 13 "GamutChain" "leasts" "[I", Cond.fieldLink RX0 16 "GamutChain" "greatests" "[I", Cond.fieldLink RX0 19 "GamutChain" "ways" "[I", Cond.methodLink RX0 125 Lib.Math.max.name, Cond.static Lib.Math.max.name, Cond.code Lib.Math.max.name Lib.Math.max.code 2 (some .int), Cond.methodLink RX0 87 yX0_bent, Cond.instanceMethod yX0_bent, Cond.selects RX0 yX0_bent yX0_bent, Cond.code yX0_bent cX0_bent 4 (some .int), Cond.fieldLink RX0 9 "GamutChain" "bends" "[I", Cond.methodLink RX0 139 yX0_between, Cond.static yX0_between, Cond.code yX0_between cX0_between 7 (some .int), Cond.methodLink RX0 183 yJ9_floorDiv_7cf53, Cond.static yJ9_floorDiv_7cf53, Cond.initialized RJ9, Cond.code yJ9_floorDiv_7cf53 cJ9_floorDiv_7cf53 3 (some .int)]
def wsX0_stale_r3 : List Cond := [Cond.methodLink RX0 186 yX0_fold, Cond.static yX0_fold, Cond.code yX0_fold cX0_fold 3 (some .int)]
def wsX0_stale : List Cond := .code yX0_stale cX0_stale 3 (some .int) :: ((wsX0_stale_r1 ++ (wsX0_stale_r2 ++ wsX0_stale_r3)) ++ wsX00)
def wsX0_sign : List Cond := .code yX0_sign cX0_sign 2 (some .boolean) :: ([.fieldLink RX0 146 "GamutChain" "signedChains" "I", .methodLink RX0 99 yX0_needChain, .instanceMethod yX0_needChain, .selects RX0 yX0_needChain yX0_needChain, .initialized RX0, .code yX0_needChain cX0_needChain 2 none, .classLink RX0 69 "java/lang/IndexOutOfBoundsException", .initialized "java/lang/IndexOutOfBoundsException", .fieldLink RX0 94 "GamutChain" "chains" "I", .methodLink RX0 133 yX0_hasBit, .static yX0_hasBit, .code yX0_hasBit cX0_hasBit 2 (some .boolean)] ++ wsX00 ++ (vx_atS RX0 73 "java/lang/IndexOutOfBoundsException" ["java/lang/RuntimeException", "java/lang/Exception"]).filter goodWord)
def wsX0_needPixel : List Cond := .code yX0_needPixel cX0_needPixel 1 none :: ([.classLink RX0 69 "java/lang/IndexOutOfBoundsException", .initialized "java/lang/IndexOutOfBoundsException"] ++ (vx_atS RX0 73 "java/lang/IndexOutOfBoundsException" ["java/lang/RuntimeException", "java/lang/Exception"]).filter goodWord)
def wsX0_paint : List Cond := .code yX0_paint cX0_paint 4 (some .int) :: ([.fieldLink RX0 34 "GamutChain" "colours" "[I", .methodLink RX0 152 yX0_needPixel, .static yX0_needPixel, .initialized RX0, .code yX0_needPixel cX0_needPixel 1 none, .classLink RX0 69 "java/lang/IndexOutOfBoundsException", .initialized "java/lang/IndexOutOfBoundsException", .methodLink RX0 66 yX0_needBand, .static yX0_needBand, .code yX0_needBand cX0_needBand 1 none, .methodLink RX0 74 yX0_needValue, .static yX0_needValue, .code yX0_needValue cX0_needValue 1 none, .classLink RX0 80 "java/lang/IllegalArgumentException", .initialized "java/lang/IllegalArgumentException", .methodLink RX0 58 yX0_swap, .static yX0_swap, .code yX0_swap cX0_swap 4 (some .int)] ++ wsX00 ++ (vx_atS RX0 73 "java/lang/IndexOutOfBoundsException" ["java/lang/RuntimeException", "java/lang/Exception"]).filter goodWord ++ (vx_atS RX0 84 "java/lang/IllegalArgumentException" ["java/lang/RuntimeException", "java/lang/Exception"]).filter goodWord)
def wsX0_needInk : List Cond := .code yX0_needInk cX0_needInk 1 none :: ([.classLink RX0 69 "java/lang/IndexOutOfBoundsException", .initialized "java/lang/IndexOutOfBoundsException"] ++ (vx_atS RX0 73 "java/lang/IndexOutOfBoundsException" ["java/lang/RuntimeException", "java/lang/Exception"]).filter goodWord)
def wsX0_spot : List Cond := .code yX0_spot cX0_spot 4 (some .int) :: ([.fieldLink RX0 37 "GamutChain" "amounts" "[I", .methodLink RX0 152 yX0_needPixel, .static yX0_needPixel, .initialized RX0, .code yX0_needPixel cX0_needPixel 1 none, .classLink RX0 69 "java/lang/IndexOutOfBoundsException", .initialized "java/lang/IndexOutOfBoundsException", .methodLink RX0 155 yX0_needInk, .static yX0_needInk, .code yX0_needInk cX0_needInk 1 none, .methodLink RX0 74 yX0_needValue, .static yX0_needValue, .code yX0_needValue cX0_needValue 1 none, .classLink RX0 80 "java/lang/IllegalArgumentException", .initialized "java/lang/IllegalArgumentException", .methodLink RX0 58 yX0_swap, .static yX0_swap, .code yX0_swap cX0_swap 4 (some .int)] ++ wsX00 ++ (vx_atS RX0 73 "java/lang/IndexOutOfBoundsException" ["java/lang/RuntimeException", "java/lang/Exception"]).filter goodWord ++ (vx_atS RX0 84 "java/lang/IllegalArgumentException" ["java/lang/RuntimeException", "java/lang/Exception"]).filter goodWord)
def wsX0_mix : List Cond := .code yX0_mix cX0_mix 4 (some .int) :: ([.fieldLink RX0 40 "GamutChain" "mixes" "[I", .methodLink RX0 155 yX0_needInk, .static yX0_needInk, .initialized RX0, .code yX0_needInk cX0_needInk 1 none, .classLink RX0 69 "java/lang/IndexOutOfBoundsException", .initialized "java/lang/IndexOutOfBoundsException", .methodLink RX0 66 yX0_needBand, .static yX0_needBand, .code yX0_needBand cX0_needBand 1 none, .methodLink RX0 74 yX0_needValue, .static yX0_needValue, .code yX0_needValue cX0_needValue 1 none, .classLink RX0 80 "java/lang/IllegalArgumentException", .initialized "java/lang/IllegalArgumentException", .methodLink RX0 58 yX0_swap, .static yX0_swap, .code yX0_swap cX0_swap 4 (some .int)] ++ wsX00 ++ (vx_atS RX0 73 "java/lang/IndexOutOfBoundsException" ["java/lang/RuntimeException", "java/lang/Exception"]).filter goodWord ++ (vx_atS RX0 84 "java/lang/IllegalArgumentException" ["java/lang/RuntimeException", "java/lang/Exception"]).filter goodWord)
def wsX0_inked : List Cond := .code yX0_inked cX0_inked 7 (some .int) :: ([.fieldLink RX0 34 "GamutChain" "colours" "[I", .fieldLink RX0 40 "GamutChain" "mixes" "[I", .fieldLink RX0 37 "GamutChain" "amounts" "[I", .methodLink RX0 119 Lib.Math.min.name, .static Lib.Math.min.name, .initialized "java/lang/Math", .code Lib.Math.min.name Lib.Math.min.code 2 (some .int), .methodLink RX0 105 yX0_read, .static yX0_read, .initialized RX0, .code yX0_read cX0_read 2 (some .int), .methodLink RX0 133 yX0_hasBit, .static yX0_hasBit, .code yX0_hasBit cX0_hasBit 2 (some .boolean)] ++ wsX00)
def wsX0_shown_r1 : List Cond := [Cond.classLink RX0 80 "java/lang/IllegalArgumentException", Cond.initialized "java/lang/IllegalArgumentException", Cond.methodLink RX0 99 yX0_needChain, Cond.instanceMethod yX0_needChain, Cond.selects RX0 yX0_needChain yX0_needChain, Cond.initialized RX0, Cond.code yX0_needChain cX0_needChain 2 none, Cond.classLink RX0 69 "java/lang/IndexOutOfBoundsException", Cond.initialized "java/lang/IndexOutOfBoundsException", Cond.fieldLink RX0 94 "GamutChain" "chains" "I", Cond.methodLink RX0 152 yX0_needPixel, Cond.static yX0_needPixel, Cond.code yX0_needPixel cX0_needPixel 1 none, Cond.methodLink RX0 66 yX0_needBand, Cond.static yX0_needBand, Cond.code yX0_needBand cX0_needBand 1 none, Cond.methodLink RX0 160 yX0_inked, Cond.instanceMethod yX0_inked, Cond.selects RX0 yX0_inked yX0_inked, Cond.code yX0_inked cX0_inked 7 (some .int), Cond.fieldLink RX0 34 "GamutChain" "colours" "[I", Cond.fieldLink RX0 40 "GamutChain" "mixes" "[I", Cond.fieldLink RX0 37 "GamutChain" "amounts" "[I", Cond.methodLink RX0 119 Lib.Math.min.name]
def wsX0_shown_r2 : List Cond := [Cond.static Lib.Math.min.name, Cond.initialized "java/lang/Math", Cond.code Lib.Math.min.name Lib.Math.min.code 2 (some .int), Cond.methodLink RX0 105 yX0_read, Cond.static yX0_read, Cond.code yX0_read cX0_read 2 (some .int), Cond.methodLink RX0 133 yX0_hasBit, Cond.static yX0_hasBit, Cond.code yX0_hasBit cX0_hasBit 2 (some .boolean), Cond.methodLink RX0 113 yX0_pass, Cond.instanceMethod yX0_pass, Cond.selects RX0 yX0_pass yX0_pass, Cond.code yX0_pass cX0_pass 7 (some .int), Cond.fieldLink RX0 25 "GamutChain" "lengths" "[I", Cond.fieldLink RX0 22 "GamutChain" "links" "[I", Cond.methodLink RX0 91 yX0_take, Cond.instanceMethod yX0_take, Cond.selects RX0 yX0_take yX0_take, Cond.code yX0_take cX0_take 8 (some .int), Cond.fieldLink RX0 13 "GamutChain" "leasts" "[I", Cond.fieldLink RX0 16 "GamutChain" "greatests" "[I", Cond.fieldLink RX0 19 "GamutChain" "ways" "[I", Cond.methodLink RX0 125 Lib.Math.max.name, Cond.static Lib.Math.max.name]
def wsX0_shown_r3 : List Cond := [Cond.code Lib.Math.max.name Lib.Math.max.code 2 (some .int), Cond.methodLink RX0 87 yX0_bent, Cond.instanceMethod yX0_bent, Cond.selects RX0 yX0_bent yX0_bent, Cond.code yX0_bent cX0_bent 4 (some .int), Cond.fieldLink RX0 9 "GamutChain" "bends" "[I", Cond.methodLink RX0 139 yX0_between, Cond.static yX0_between, Cond.code yX0_between cX0_between 7 (some .int), Cond.methodLink RX0 183 yJ9_floorDiv_7cf53, Cond.static yJ9_floorDiv_7cf53, Cond.initialized RJ9, Cond.code yJ9_floorDiv_7cf53 cJ9_floorDiv_7cf53 3 (some .int), Cond.methodLink RX0 186 yX0_fold, Cond.static yX0_fold, Cond.code yX0_fold cX0_fold 3 (some .int)]
def wsX0_shown : List Cond := .code yX0_shown cX0_shown 5 (some .int) :: ((wsX0_shown_r1 ++ (wsX0_shown_r2 ++ wsX0_shown_r3)) ++ wsX00 ++ (vx_atS RX0 84 "java/lang/IllegalArgumentException" ["java/lang/RuntimeException", "java/lang/Exception"]).filter goodWord ++ (vx_atS RX0 73 "java/lang/IndexOutOfBoundsException" ["java/lang/RuntimeException", "java/lang/Exception"]).filter goodWord)
def wsX1_init : List Cond := .code yX1_init cX1_init 1 none :: ([.methodLink RX1 1 objectInit, .instanceMethod objectInit, .code objectInit ⟨#[0xb1]⟩ 1 none, .arrayClass .int, .fieldLink RX1 7 "GamutChainModel" "bends" "[I", .fieldLink RX1 13 "GamutChainModel" "least" "[I", .fieldLink RX1 16 "GamutChainModel" "greatest" "[I", .fieldLink RX1 19 "GamutChainModel" "ways" "[I", .fieldLink RX1 22 "GamutChainModel" "many" "[I", .fieldLink RX1 25 "GamutChainModel" "links" "[I", .arrayClass .boolean, .fieldLink RX1 28 "GamutChainModel" "isJoined" "[Z", .fieldLink RX1 32 "GamutChainModel" "isSigned" "[Z", .fieldLink RX1 35 "GamutChainModel" "kept" "[I", .fieldLink RX1 38 "GamutChainModel" "picture" "[I", .fieldLink RX1 41 "GamutChainModel" "amounts" "[I", .fieldLink RX1 44 "GamutChainModel" "mixes" "[I", .fieldLink RX1 47 "GamutChainModel" "five" "[I"] ++ wsX10)
def wsX1_thrown : List Cond := .code yX1_thrown cX1_thrown 1 (some .int) :: ([.fieldLink RX1 50 "GamutChainModel" "thrown" "I"] ++ wsX10)
def wsX1_may : List Cond := .code yX1_may cX1_may 2 (some .boolean) :: ([.fieldLink RX1 50 "GamutChainModel" "thrown" "I"] ++ wsX10)
def wsX1_mayBoth : List Cond := .code yX1_mayBoth cX1_mayBoth 3 (some .boolean) :: ([.fieldLink RX1 50 "GamutChainModel" "thrown" "I"] ++ wsX10)
def wsX1_mayAll : List Cond := .code yX1_mayAll cX1_mayAll 4 (some .boolean) :: ([.fieldLink RX1 50 "GamutChainModel" "thrown" "I"] ++ wsX10)
def wsX1_isIn : List Cond := .code yX1_isIn cX1_isIn 3 (some .boolean) :: ([])
def wsX1_isByte : List Cond := .code yX1_isByte cX1_isByte 1 (some .boolean) :: ([.methodLink RX1 54 yX1_isIn, .static yX1_isIn, .initialized RX1, .code yX1_isIn cX1_isIn 3 (some .boolean)])
def wsX1_isThird : List Cond := .code yX1_isThird cX1_isThird 1 (some .boolean) :: ([.methodLink RX1 54 yX1_isIn, .static yX1_isIn, .initialized RX1, .code yX1_isIn cX1_isIn 3 (some .boolean)])
def wsX1_isProfile : List Cond := .code yX1_isProfile cX1_isProfile 2 (some .boolean) :: ([.fieldLink RX1 58 "GamutChainModel" "profiles" "I", .methodLink RX1 54 yX1_isIn, .static yX1_isIn, .initialized RX1, .code yX1_isIn cX1_isIn 3 (some .boolean)] ++ wsX10)
def wsX1_isChain : List Cond := .code yX1_isChain cX1_isChain 2 (some .boolean) :: ([.fieldLink RX1 61 "GamutChainModel" "chains" "I", .methodLink RX1 54 yX1_isIn, .static yX1_isIn, .initialized RX1, .code yX1_isIn cX1_isIn 3 (some .boolean)] ++ wsX10)
def wsX1_placeAt : List Cond := .code yX1_placeAt cX1_placeAt 1 (some .int) :: ([])
def wsX1_quotient : List Cond := .code yX1_quotient cX1_quotient 3 (some .int) :: ([])
def wsX1_between : List Cond := .code yX1_between cX1_between 3 (some .int) :: ([.fieldLink RX1 47 "GamutChainModel" "five" "[I", .methodLink RX1 64 yX1_placeAt, .static yX1_placeAt, .initialized RX1, .code yX1_placeAt cX1_placeAt 1 (some .int), .methodLink RX1 68 yX1_quotient, .static yX1_quotient, .code yX1_quotient cX1_quotient 3 (some .int)] ++ wsX10)
def wsX1_curveOf : List Cond := .code yX1_curveOf cX1_curveOf 5 (some .int) :: ([.fieldLink RX1 47 "GamutChainModel" "five" "[I", .fieldLink RX1 7 "GamutChainModel" "bends" "[I", .methodLink RX1 72 yX1_between, .instanceMethod yX1_between, .selects RX1 yX1_between yX1_between, .initialized RX1, .code yX1_between cX1_between 3 (some .int), .methodLink RX1 64 yX1_placeAt, .static yX1_placeAt, .code yX1_placeAt cX1_placeAt 1 (some .int), .methodLink RX1 68 yX1_quotient, .static yX1_quotient, .code yX1_quotient cX1_quotient 3 (some .int)] ++ wsX10)
def wsX1_takenBy : List Cond := .code yX1_takenBy cX1_takenBy 7 (some .int) :: ([.fieldLink RX1 13 "GamutChainModel" "least" "[I", .fieldLink RX1 16 "GamutChainModel" "greatest" "[I", .fieldLink RX1 19 "GamutChainModel" "ways" "[I", .methodLink RX1 75 yX1_curveOf, .instanceMethod yX1_curveOf, .selects RX1 yX1_curveOf yX1_curveOf, .initialized RX1, .code yX1_curveOf cX1_curveOf 5 (some .int), .fieldLink RX1 47 "GamutChainModel" "five" "[I", .fieldLink RX1 7 "GamutChainModel" "bends" "[I", .methodLink RX1 72 yX1_between, .instanceMethod yX1_between, .selects RX1 yX1_between yX1_between, .code yX1_between cX1_between 3 (some .int), .methodLink RX1 64 yX1_placeAt, .static yX1_placeAt, .code yX1_placeAt cX1_placeAt 1 (some .int), .methodLink RX1 68 yX1_quotient, .static yX1_quotient, .code yX1_quotient cX1_quotient 3 (some .int)] ++ wsX10)
def wsX1_throughOf_r1 : List Cond := [Cond.fieldLink RX1 22 "GamutChainModel" "many" "[I", Cond.fieldLink RX1 25 "GamutChainModel" "links" "[I", Cond.methodLink RX1 79 yX1_takenBy, Cond.instanceMethod yX1_takenBy, Cond.selects RX1 yX1_takenBy yX1_takenBy, Cond.initialized RX1, Cond.code yX1_takenBy cX1_takenBy 7 (some .int), Cond.fieldLink RX1 13 "GamutChainModel" "least" "[I", Cond.fieldLink RX1 16 "GamutChainModel" "greatest" "[I", Cond.fieldLink RX1 19 "GamutChainModel" "ways" "[I", Cond.methodLink RX1 75 yX1_curveOf, Cond.instanceMethod yX1_curveOf, Cond.selects RX1 yX1_curveOf yX1_curveOf, Cond.code yX1_curveOf cX1_curveOf 5 (some .int), Cond.fieldLink RX1 47 "GamutChainModel" "five" "[I", Cond.fieldLink RX1 7 "GamutChainModel" "bends" "[I", Cond.methodLink RX1 72 yX1_between, Cond.instanceMethod yX1_between, Cond.selects RX1 yX1_between yX1_between, Cond.code yX1_between cX1_between 3 (some .int), Cond.methodLink RX1 64 yX1_placeAt, Cond.static yX1_placeAt, Cond.code yX1_placeAt cX1_placeAt 1 (some .int), Cond.methodLink RX1 68 yX1_quotient]
def wsX1_throughOf_r2 : List Cond := [Cond.static yX1_quotient, Cond.code yX1_quotient cX1_quotient 3 (some .int)]
def wsX1_throughOf : List Cond := .code yX1_throughOf cX1_throughOf 6 (some .int) :: ((wsX1_throughOf_r1 ++ wsX1_throughOf_r2) ++ wsX10)
def wsX1_isHeld : List Cond := .code yX1_isHeld cX1_isHeld 5 (some .boolean) :: ([.fieldLink RX1 61 "GamutChainModel" "chains" "I", .fieldLink RX1 22 "GamutChainModel" "many" "[I", .fieldLink RX1 32 "GamutChainModel" "isSigned" "[Z", .fieldLink RX1 25 "GamutChainModel" "links" "[I"] ++ wsX10)
def wsX1_profile : List Cond := .code yX1_profile cX1_profile 3 (some .int) :: ([.fieldLink RX1 58 "GamutChainModel" "profiles" "I", .fieldLink RX1 7 "GamutChainModel" "bends" "[I", .fieldLink RX1 16 "GamutChainModel" "greatest" "[I", .methodLink RX1 82 yX1_may, .instanceMethod yX1_may, .selects RX1 yX1_may yX1_may, .initialized RX1, .code yX1_may cX1_may 2 (some .boolean), .fieldLink RX1 50 "GamutChainModel" "thrown" "I", .methodLink RX1 64 yX1_placeAt, .static yX1_placeAt, .code yX1_placeAt cX1_placeAt 1 (some .int)] ++ wsX10)
def wsX1_bend_r1 : List Cond := [Cond.fieldLink RX1 7 "GamutChainModel" "bends" "[I", Cond.methodLink RX1 86 yX1_isProfile, Cond.instanceMethod yX1_isProfile, Cond.selects RX1 yX1_isProfile yX1_isProfile, Cond.initialized RX1, Cond.code yX1_isProfile cX1_isProfile 2 (some .boolean), Cond.fieldLink RX1 58 "GamutChainModel" "profiles" "I", Cond.methodLink RX1 54 yX1_isIn, Cond.static yX1_isIn, Cond.code yX1_isIn cX1_isIn 3 (some .boolean), Cond.methodLink RX1 90 yX1_isThird, Cond.static yX1_isThird, Cond.code yX1_isThird cX1_isThird 1 (some .boolean), Cond.methodLink RX1 93 yX1_isByte, Cond.static yX1_isByte, Cond.code yX1_isByte cX1_isByte 1 (some .boolean), Cond.methodLink RX1 96 yX1_isHeld, Cond.instanceMethod yX1_isHeld, Cond.selects RX1 yX1_isHeld yX1_isHeld, Cond.code yX1_isHeld cX1_isHeld 5 (some .boolean), Cond.fieldLink RX1 61 "GamutChainModel" "chains" "I", Cond.fieldLink RX1 22 "GamutChainModel" "many" "[I", Cond.fieldLink RX1 32 "GamutChainModel" "isSigned" "[Z", Cond.fieldLink RX1 25 "GamutChainModel" "links" "[I"]
def wsX1_bend_r2 : List Cond := [Cond.methodLink RX1 99 yX1_mayAll, Cond.instanceMethod yX1_mayAll, Cond.selects RX1 yX1_mayAll yX1_mayAll, Cond.code yX1_mayAll cX1_mayAll 4 (some .boolean), Cond.fieldLink RX1 50 "GamutChainModel" "thrown" "I"]
def wsX1_bend : List Cond := .code yX1_bend cX1_bend 7 (some .int) :: ((wsX1_bend_r1 ++ wsX1_bend_r2) ++ wsX10)
def wsX1_reach_r1 : List Cond := [Cond.fieldLink RX1 16 "GamutChainModel" "greatest" "[I", Cond.fieldLink RX1 13 "GamutChainModel" "least" "[I", Cond.methodLink RX1 86 yX1_isProfile, Cond.instanceMethod yX1_isProfile, Cond.selects RX1 yX1_isProfile yX1_isProfile, Cond.initialized RX1, Cond.code yX1_isProfile cX1_isProfile 2 (some .boolean), Cond.fieldLink RX1 58 "GamutChainModel" "profiles" "I", Cond.methodLink RX1 54 yX1_isIn, Cond.static yX1_isIn, Cond.code yX1_isIn cX1_isIn 3 (some .boolean), Cond.methodLink RX1 90 yX1_isThird, Cond.static yX1_isThird, Cond.code yX1_isThird cX1_isThird 1 (some .boolean), Cond.methodLink RX1 93 yX1_isByte, Cond.static yX1_isByte, Cond.code yX1_isByte cX1_isByte 1 (some .boolean), Cond.methodLink RX1 96 yX1_isHeld, Cond.instanceMethod yX1_isHeld, Cond.selects RX1 yX1_isHeld yX1_isHeld, Cond.code yX1_isHeld cX1_isHeld 5 (some .boolean), Cond.fieldLink RX1 61 "GamutChainModel" "chains" "I", Cond.fieldLink RX1 22 "GamutChainModel" "many" "[I", Cond.fieldLink RX1 32 "GamutChainModel" "isSigned" "[Z"]
def wsX1_reach_r2 : List Cond := [Cond.fieldLink RX1 25 "GamutChainModel" "links" "[I", Cond.methodLink RX1 99 yX1_mayAll, Cond.instanceMethod yX1_mayAll, Cond.selects RX1 yX1_mayAll yX1_mayAll, Cond.code yX1_mayAll cX1_mayAll 4 (some .boolean), Cond.fieldLink RX1 50 "GamutChainModel" "thrown" "I"]
def wsX1_reach : List Cond := .code yX1_reach cX1_reach 7 (some .int) :: ((wsX1_reach_r1 ++ wsX1_reach_r2) ++ wsX10)
def wsX1_way : List Cond := .code yX1_way cX1_way 5 (some .int) :: ([.fieldLink RX1 19 "GamutChainModel" "ways" "[I", .methodLink RX1 86 yX1_isProfile, .instanceMethod yX1_isProfile, .selects RX1 yX1_isProfile yX1_isProfile, .initialized RX1, .code yX1_isProfile cX1_isProfile 2 (some .boolean), .fieldLink RX1 58 "GamutChainModel" "profiles" "I", .methodLink RX1 54 yX1_isIn, .static yX1_isIn, .code yX1_isIn cX1_isIn 3 (some .boolean), .methodLink RX1 96 yX1_isHeld, .instanceMethod yX1_isHeld, .selects RX1 yX1_isHeld yX1_isHeld, .code yX1_isHeld cX1_isHeld 5 (some .boolean), .fieldLink RX1 61 "GamutChainModel" "chains" "I", .fieldLink RX1 22 "GamutChainModel" "many" "[I", .fieldLink RX1 32 "GamutChainModel" "isSigned" "[Z", .fieldLink RX1 25 "GamutChainModel" "links" "[I", .methodLink RX1 99 yX1_mayAll, .instanceMethod yX1_mayAll, .selects RX1 yX1_mayAll yX1_mayAll, .code yX1_mayAll cX1_mayAll 4 (some .boolean), .fieldLink RX1 50 "GamutChainModel" "thrown" "I"] ++ wsX10)
def wsX1_curve_r1 : List Cond := [Cond.methodLink RX1 86 yX1_isProfile, Cond.instanceMethod yX1_isProfile, Cond.selects RX1 yX1_isProfile yX1_isProfile, Cond.initialized RX1, Cond.code yX1_isProfile cX1_isProfile 2 (some .boolean), Cond.fieldLink RX1 58 "GamutChainModel" "profiles" "I", Cond.methodLink RX1 54 yX1_isIn, Cond.static yX1_isIn, Cond.code yX1_isIn cX1_isIn 3 (some .boolean), Cond.methodLink RX1 90 yX1_isThird, Cond.static yX1_isThird, Cond.code yX1_isThird cX1_isThird 1 (some .boolean), Cond.methodLink RX1 93 yX1_isByte, Cond.static yX1_isByte, Cond.code yX1_isByte cX1_isByte 1 (some .boolean), Cond.methodLink RX1 103 yX1_mayBoth, Cond.instanceMethod yX1_mayBoth, Cond.selects RX1 yX1_mayBoth yX1_mayBoth, Cond.code yX1_mayBoth cX1_mayBoth 3 (some .boolean), Cond.fieldLink RX1 50 "GamutChainModel" "thrown" "I", Cond.methodLink RX1 75 yX1_curveOf, Cond.instanceMethod yX1_curveOf, Cond.selects RX1 yX1_curveOf yX1_curveOf, Cond.code yX1_curveOf cX1_curveOf 5 (some .int)]
def wsX1_curve_r2 : List Cond := [Cond.fieldLink RX1 47 "GamutChainModel" "five" "[I", Cond.fieldLink RX1 7 "GamutChainModel" "bends" "[I", Cond.methodLink RX1 72 yX1_between, Cond.instanceMethod yX1_between, Cond.selects RX1 yX1_between yX1_between, Cond.code yX1_between cX1_between 3 (some .int), Cond.methodLink RX1 64 yX1_placeAt, Cond.static yX1_placeAt, Cond.code yX1_placeAt cX1_placeAt 1 (some .int), Cond.methodLink RX1 68 yX1_quotient, Cond.static yX1_quotient, Cond.code yX1_quotient cX1_quotient 3 (some .int)]
def wsX1_curve : List Cond := .code yX1_curve cX1_curve 4 (some .int) :: ((wsX1_curve_r1 ++ wsX1_curve_r2) ++ wsX10)
def wsX1_taken_r1 : List Cond := [Cond.methodLink RX1 86 yX1_isProfile, Cond.instanceMethod yX1_isProfile, Cond.selects RX1 yX1_isProfile yX1_isProfile, Cond.initialized RX1, Cond.code yX1_isProfile cX1_isProfile 2 (some .boolean), Cond.fieldLink RX1 58 "GamutChainModel" "profiles" "I", Cond.methodLink RX1 54 yX1_isIn, Cond.static yX1_isIn, Cond.code yX1_isIn cX1_isIn 3 (some .boolean), Cond.methodLink RX1 90 yX1_isThird, Cond.static yX1_isThird, Cond.code yX1_isThird cX1_isThird 1 (some .boolean), Cond.methodLink RX1 93 yX1_isByte, Cond.static yX1_isByte, Cond.code yX1_isByte cX1_isByte 1 (some .boolean), Cond.methodLink RX1 103 yX1_mayBoth, Cond.instanceMethod yX1_mayBoth, Cond.selects RX1 yX1_mayBoth yX1_mayBoth, Cond.code yX1_mayBoth cX1_mayBoth 3 (some .boolean), Cond.fieldLink RX1 50 "GamutChainModel" "thrown" "I", Cond.methodLink RX1 79 yX1_takenBy, Cond.instanceMethod yX1_takenBy, Cond.selects RX1 yX1_takenBy yX1_takenBy, Cond.code yX1_takenBy cX1_takenBy 7 (some .int)]
def wsX1_taken_r2 : List Cond := [Cond.fieldLink RX1 13 "GamutChainModel" "least" "[I", Cond.fieldLink RX1 16 "GamutChainModel" "greatest" "[I", Cond.fieldLink RX1 19 "GamutChainModel" "ways" "[I", Cond.methodLink RX1 75 yX1_curveOf, Cond.instanceMethod yX1_curveOf, Cond.selects RX1 yX1_curveOf yX1_curveOf, Cond.code yX1_curveOf cX1_curveOf 5 (some .int), Cond.fieldLink RX1 47 "GamutChainModel" "five" "[I", Cond.fieldLink RX1 7 "GamutChainModel" "bends" "[I", Cond.methodLink RX1 72 yX1_between, Cond.instanceMethod yX1_between, Cond.selects RX1 yX1_between yX1_between, Cond.code yX1_between cX1_between 3 (some .int), Cond.methodLink RX1 64 yX1_placeAt, Cond.static yX1_placeAt, Cond.code yX1_placeAt cX1_placeAt 1 (some .int), Cond.methodLink RX1 68 yX1_quotient, Cond.static yX1_quotient, Cond.code yX1_quotient cX1_quotient 3 (some .int)]
def wsX1_taken : List Cond := .code yX1_taken cX1_taken 4 (some .int) :: ((wsX1_taken_r1 ++ wsX1_taken_r2) ++ wsX10)
def wsX1_chain : List Cond := .code yX1_chain cX1_chain 1 (some .int) :: ([.fieldLink RX1 61 "GamutChainModel" "chains" "I", .methodLink RX1 82 yX1_may, .instanceMethod yX1_may, .selects RX1 yX1_may yX1_may, .initialized RX1, .code yX1_may cX1_may 2 (some .boolean), .fieldLink RX1 50 "GamutChainModel" "thrown" "I"] ++ wsX10)
def wsX1_add : List Cond := .code yX1_add cX1_add 4 (some .int) :: ([.fieldLink RX1 32 "GamutChainModel" "isSigned" "[Z", .fieldLink RX1 22 "GamutChainModel" "many" "[I", .fieldLink RX1 25 "GamutChainModel" "links" "[I", .methodLink RX1 107 yX1_isChain, .instanceMethod yX1_isChain, .selects RX1 yX1_isChain yX1_isChain, .initialized RX1, .code yX1_isChain cX1_isChain 2 (some .boolean), .fieldLink RX1 61 "GamutChainModel" "chains" "I", .methodLink RX1 54 yX1_isIn, .static yX1_isIn, .code yX1_isIn cX1_isIn 3 (some .boolean), .methodLink RX1 86 yX1_isProfile, .instanceMethod yX1_isProfile, .selects RX1 yX1_isProfile yX1_isProfile, .code yX1_isProfile cX1_isProfile 2 (some .boolean), .fieldLink RX1 58 "GamutChainModel" "profiles" "I", .methodLink RX1 103 yX1_mayBoth, .instanceMethod yX1_mayBoth, .selects RX1 yX1_mayBoth yX1_mayBoth, .code yX1_mayBoth cX1_mayBoth 3 (some .boolean), .fieldLink RX1 50 "GamutChainModel" "thrown" "I"] ++ wsX10)
def wsX1_drop : List Cond := .code yX1_drop cX1_drop 3 (some .int) :: ([.fieldLink RX1 32 "GamutChainModel" "isSigned" "[Z", .fieldLink RX1 22 "GamutChainModel" "many" "[I", .fieldLink RX1 25 "GamutChainModel" "links" "[I", .methodLink RX1 107 yX1_isChain, .instanceMethod yX1_isChain, .selects RX1 yX1_isChain yX1_isChain, .initialized RX1, .code yX1_isChain cX1_isChain 2 (some .boolean), .fieldLink RX1 61 "GamutChainModel" "chains" "I", .methodLink RX1 54 yX1_isIn, .static yX1_isIn, .code yX1_isIn cX1_isIn 3 (some .boolean), .methodLink RX1 103 yX1_mayBoth, .instanceMethod yX1_mayBoth, .selects RX1 yX1_mayBoth yX1_mayBoth, .code yX1_mayBoth cX1_mayBoth 3 (some .boolean), .fieldLink RX1 50 "GamutChainModel" "thrown" "I"] ++ wsX10)
def wsX1_through_r1 : List Cond := [Cond.methodLink RX1 107 yX1_isChain, Cond.instanceMethod yX1_isChain, Cond.selects RX1 yX1_isChain yX1_isChain, Cond.initialized RX1, Cond.code yX1_isChain cX1_isChain 2 (some .boolean), Cond.fieldLink RX1 61 "GamutChainModel" "chains" "I", Cond.methodLink RX1 54 yX1_isIn, Cond.static yX1_isIn, Cond.code yX1_isIn cX1_isIn 3 (some .boolean), Cond.methodLink RX1 90 yX1_isThird, Cond.static yX1_isThird, Cond.code yX1_isThird cX1_isThird 1 (some .boolean), Cond.methodLink RX1 93 yX1_isByte, Cond.static yX1_isByte, Cond.code yX1_isByte cX1_isByte 1 (some .boolean), Cond.methodLink RX1 103 yX1_mayBoth, Cond.instanceMethod yX1_mayBoth, Cond.selects RX1 yX1_mayBoth yX1_mayBoth, Cond.code yX1_mayBoth cX1_mayBoth 3 (some .boolean), Cond.fieldLink RX1 50 "GamutChainModel" "thrown" "I", Cond.methodLink RX1 110 yX1_throughOf, Cond.instanceMethod yX1_throughOf, Cond.selects RX1 yX1_throughOf yX1_throughOf, Cond.code yX1_throughOf cX1_throughOf 6 (some .int)]
def wsX1_through_r2 : List Cond := [Cond.fieldLink RX1 22 "GamutChainModel" "many" "[I", Cond.fieldLink RX1 25 "GamutChainModel" "links" "[I", Cond.methodLink RX1 79 yX1_takenBy, Cond.instanceMethod yX1_takenBy, Cond.selects RX1 yX1_takenBy yX1_takenBy, Cond.code yX1_takenBy cX1_takenBy 7 (some .int), Cond.fieldLink RX1 13 "GamutChainModel" "least" "[I", Cond.fieldLink RX1 16 "GamutChainModel" "greatest" "[I", Cond.fieldLink RX1 19 "GamutChainModel" "ways" "[I", Cond.methodLink RX1 75 yX1_curveOf, Cond.instanceMethod yX1_curveOf, Cond.selects RX1 yX1_curveOf yX1_curveOf, Cond.code yX1_curveOf cX1_curveOf 5 (some .int), Cond.fieldLink RX1 47 "GamutChainModel" "five" "[I", Cond.fieldLink RX1 7 "GamutChainModel" "bends" "[I", Cond.methodLink RX1 72 yX1_between, Cond.instanceMethod yX1_between, Cond.selects RX1 yX1_between yX1_between, Cond.code yX1_between cX1_between 3 (some .int), Cond.methodLink RX1 64 yX1_placeAt, Cond.static yX1_placeAt, Cond.code yX1_placeAt cX1_placeAt 1 (some .int), Cond.methodLink RX1 68 yX1_quotient, Cond.static yX1_quotient]
def wsX1_through_r3 : List Cond := [Cond.code yX1_quotient cX1_quotient 3 (some .int)]
def wsX1_through : List Cond := .code yX1_through cX1_through 4 (some .int) :: ((wsX1_through_r1 ++ (wsX1_through_r2 ++ wsX1_through_r3)) ++ wsX10)
def wsX1_apart : List Cond := .code yX1_apart cX1_apart 2 (some .int) :: ([])
def wsX1_gapOf_r1 : List Cond := [Cond.methodLink RX1 110 yX1_throughOf, Cond.instanceMethod yX1_throughOf, Cond.selects RX1 yX1_throughOf yX1_throughOf, Cond.initialized RX1, Cond.code yX1_throughOf cX1_throughOf 6 (some .int), Cond.fieldLink RX1 22 "GamutChainModel" "many" "[I", Cond.fieldLink RX1 25 "GamutChainModel" "links" "[I", Cond.methodLink RX1 79 yX1_takenBy, Cond.instanceMethod yX1_takenBy, Cond.selects RX1 yX1_takenBy yX1_takenBy, Cond.code yX1_takenBy cX1_takenBy 7 (some .int), Cond.fieldLink RX1 13 "GamutChainModel" "least" "[I", Cond.fieldLink RX1 16 "GamutChainModel" "greatest" "[I", Cond.fieldLink RX1 19 "GamutChainModel" "ways" "[I", Cond.methodLink RX1 75 yX1_curveOf, Cond.instanceMethod yX1_curveOf, Cond.selects RX1 yX1_curveOf yX1_curveOf, Cond.code yX1_curveOf cX1_curveOf 5 (some .int), Cond.fieldLink RX1 47 "GamutChainModel" "five" "[I", Cond.fieldLink RX1 7 "GamutChainModel" "bends" "[I", Cond.methodLink RX1 72 yX1_between, Cond.instanceMethod yX1_between, Cond.selects RX1 yX1_between yX1_between, Cond.code yX1_between cX1_between 3 (some .int)]
def wsX1_gapOf_r2 : List Cond := [Cond.methodLink RX1 64 yX1_placeAt, Cond.static yX1_placeAt, Cond.code yX1_placeAt cX1_placeAt 1 (some .int), Cond.methodLink RX1 68 yX1_quotient, Cond.static yX1_quotient, Cond.code yX1_quotient cX1_quotient 3 (some .int), Cond.methodLink RX1 113 yX1_apart, Cond.static yX1_apart, Cond.code yX1_apart cX1_apart 2 (some .int)]
def wsX1_gapOf : List Cond := .code yX1_gapOf cX1_gapOf 11 (some .int) :: ((wsX1_gapOf_r1 ++ wsX1_gapOf_r2) ++ wsX10)
def wsX1_gap_r1 : List Cond := [Cond.methodLink RX1 107 yX1_isChain, Cond.instanceMethod yX1_isChain, Cond.selects RX1 yX1_isChain yX1_isChain, Cond.initialized RX1, Cond.code yX1_isChain cX1_isChain 2 (some .boolean), Cond.fieldLink RX1 61 "GamutChainModel" "chains" "I", Cond.methodLink RX1 54 yX1_isIn, Cond.static yX1_isIn, Cond.code yX1_isIn cX1_isIn 3 (some .boolean), Cond.methodLink RX1 82 yX1_may, Cond.instanceMethod yX1_may, Cond.selects RX1 yX1_may yX1_may, Cond.code yX1_may cX1_may 2 (some .boolean), Cond.fieldLink RX1 50 "GamutChainModel" "thrown" "I", Cond.methodLink RX1 116 yX1_gapOf, Cond.instanceMethod yX1_gapOf, Cond.selects RX1 yX1_gapOf yX1_gapOf, Cond.code yX1_gapOf cX1_gapOf 11 (some .int), Cond.methodLink RX1 110 yX1_throughOf, Cond.instanceMethod yX1_throughOf, Cond.selects RX1 yX1_throughOf yX1_throughOf, Cond.code yX1_throughOf cX1_throughOf 6 (some .int), Cond.fieldLink RX1 22 "GamutChainModel" "many" "[I", Cond.fieldLink RX1 25 "GamutChainModel" "links" "[I"]
def wsX1_gap_r2 : List Cond := [Cond.methodLink RX1 79 yX1_takenBy, Cond.instanceMethod yX1_takenBy, Cond.selects RX1 yX1_takenBy yX1_takenBy, Cond.code yX1_takenBy cX1_takenBy 7 (some .int), Cond.fieldLink RX1 13 "GamutChainModel" "least" "[I", Cond.fieldLink RX1 16 "GamutChainModel" "greatest" "[I", Cond.fieldLink RX1 19 "GamutChainModel" "ways" "[I", Cond.methodLink RX1 75 yX1_curveOf, Cond.instanceMethod yX1_curveOf, Cond.selects RX1 yX1_curveOf yX1_curveOf, Cond.code yX1_curveOf cX1_curveOf 5 (some .int), Cond.fieldLink RX1 47 "GamutChainModel" "five" "[I", Cond.fieldLink RX1 7 "GamutChainModel" "bends" "[I", Cond.methodLink RX1 72 yX1_between, Cond.instanceMethod yX1_between, Cond.selects RX1 yX1_between yX1_between, Cond.code yX1_between cX1_between 3 (some .int), Cond.methodLink RX1 64 yX1_placeAt, Cond.static yX1_placeAt, Cond.code yX1_placeAt cX1_placeAt 1 (some .int), Cond.methodLink RX1 68 yX1_quotient, Cond.static yX1_quotient, Cond.code yX1_quotient cX1_quotient 3 (some .int), Cond.methodLink RX1 113 yX1_apart]
def wsX1_gap_r3 : List Cond := [Cond.static yX1_apart, Cond.code yX1_apart cX1_apart 2 (some .int)]
def wsX1_gap : List Cond := .code yX1_gap cX1_gap 2 (some .int) :: ((wsX1_gap_r1 ++ (wsX1_gap_r2 ++ wsX1_gap_r3)) ++ wsX10)
def wsX1_greyGap_r1 : List Cond := [Cond.methodLink RX1 107 yX1_isChain, Cond.instanceMethod yX1_isChain, Cond.selects RX1 yX1_isChain yX1_isChain, Cond.initialized RX1, Cond.code yX1_isChain cX1_isChain 2 (some .boolean), Cond.fieldLink RX1 61 "GamutChainModel" "chains" "I", Cond.methodLink RX1 54 yX1_isIn, Cond.static yX1_isIn, Cond.code yX1_isIn cX1_isIn 3 (some .boolean), Cond.methodLink RX1 82 yX1_may, Cond.instanceMethod yX1_may, Cond.selects RX1 yX1_may yX1_may, Cond.code yX1_may cX1_may 2 (some .boolean), Cond.fieldLink RX1 50 "GamutChainModel" "thrown" "I", Cond.methodLink RX1 110 yX1_throughOf, Cond.instanceMethod yX1_throughOf, Cond.selects RX1 yX1_throughOf yX1_throughOf, Cond.code yX1_throughOf cX1_throughOf 6 (some .int), Cond.fieldLink RX1 22 "GamutChainModel" "many" "[I", Cond.fieldLink RX1 25 "GamutChainModel" "links" "[I", Cond.methodLink RX1 79 yX1_takenBy, Cond.instanceMethod yX1_takenBy, Cond.selects RX1 yX1_takenBy yX1_takenBy, Cond.code yX1_takenBy cX1_takenBy 7 (some .int)]
def wsX1_greyGap_r2 : List Cond := [Cond.fieldLink RX1 13 "GamutChainModel" "least" "[I", Cond.fieldLink RX1 16 "GamutChainModel" "greatest" "[I", Cond.fieldLink RX1 19 "GamutChainModel" "ways" "[I", Cond.methodLink RX1 75 yX1_curveOf, Cond.instanceMethod yX1_curveOf, Cond.selects RX1 yX1_curveOf yX1_curveOf, Cond.code yX1_curveOf cX1_curveOf 5 (some .int), Cond.fieldLink RX1 47 "GamutChainModel" "five" "[I", Cond.fieldLink RX1 7 "GamutChainModel" "bends" "[I", Cond.methodLink RX1 72 yX1_between, Cond.instanceMethod yX1_between, Cond.selects RX1 yX1_between yX1_between, Cond.code yX1_between cX1_between 3 (some .int), Cond.methodLink RX1 64 yX1_placeAt, Cond.static yX1_placeAt, Cond.code yX1_placeAt cX1_placeAt 1 (some .int), Cond.methodLink RX1 68 yX1_quotient, Cond.static yX1_quotient, Cond.code yX1_quotient cX1_quotient 3 (some .int), Cond.methodLink RX1 113 yX1_apart, Cond.static yX1_apart, Cond.code yX1_apart cX1_apart 2 (some .int)]
def wsX1_greyGap : List Cond := .code yX1_greyGap cX1_greyGap 7 (some .int) :: ((wsX1_greyGap_r1 ++ wsX1_greyGap_r2) ++ wsX10)
def wsX1_join_r1 : List Cond := [Cond.fieldLink RX1 35 "GamutChainModel" "kept" "[I", Cond.fieldLink RX1 28 "GamutChainModel" "isJoined" "[Z", Cond.methodLink RX1 107 yX1_isChain, Cond.instanceMethod yX1_isChain, Cond.selects RX1 yX1_isChain yX1_isChain, Cond.initialized RX1, Cond.code yX1_isChain cX1_isChain 2 (some .boolean), Cond.fieldLink RX1 61 "GamutChainModel" "chains" "I", Cond.methodLink RX1 54 yX1_isIn, Cond.static yX1_isIn, Cond.code yX1_isIn cX1_isIn 3 (some .boolean), Cond.methodLink RX1 116 yX1_gapOf, Cond.instanceMethod yX1_gapOf, Cond.selects RX1 yX1_gapOf yX1_gapOf, Cond.code yX1_gapOf cX1_gapOf 11 (some .int), Cond.methodLink RX1 110 yX1_throughOf, Cond.instanceMethod yX1_throughOf, Cond.selects RX1 yX1_throughOf yX1_throughOf, Cond.code yX1_throughOf cX1_throughOf 6 (some .int), Cond.fieldLink RX1 22 "GamutChainModel" "many" "[I", Cond.fieldLink RX1 25 "GamutChainModel" "links" "[I", Cond.methodLink RX1 79 yX1_takenBy, Cond.instanceMethod yX1_takenBy, Cond.selects RX1 yX1_takenBy yX1_takenBy]
def wsX1_join_r2 : List Cond := [Cond.code yX1_takenBy cX1_takenBy 7 (some .int), Cond.fieldLink RX1 13 "GamutChainModel" "least" "[I", Cond.fieldLink RX1 16 "GamutChainModel" "greatest" "[I", Cond.fieldLink RX1 19 "GamutChainModel" "ways" "[I", Cond.methodLink RX1 75 yX1_curveOf, Cond.instanceMethod yX1_curveOf, Cond.selects RX1 yX1_curveOf yX1_curveOf, Cond.code yX1_curveOf cX1_curveOf 5 (some .int), Cond.fieldLink RX1 47 "GamutChainModel" "five" "[I", Cond.fieldLink RX1 7 "GamutChainModel" "bends" "[I", Cond.methodLink RX1 72 yX1_between, Cond.instanceMethod yX1_between, Cond.selects RX1 yX1_between yX1_between, Cond.code yX1_between cX1_between 3 (some .int), Cond.methodLink RX1 64 yX1_placeAt, Cond.static yX1_placeAt, Cond.code yX1_placeAt cX1_placeAt 1 (some .int), Cond.methodLink RX1 68 yX1_quotient, Cond.static yX1_quotient, Cond.code yX1_quotient cX1_quotient 3 (some .int), Cond.methodLink RX1 113 yX1_apart, Cond.static yX1_apart, Cond.code yX1_apart cX1_apart 2 (some .int), Cond.methodLink RX1 93 yX1_isByte]
def wsX1_join_r3 : List Cond := [Cond.static yX1_isByte, Cond.code yX1_isByte cX1_isByte 1 (some .boolean), Cond.methodLink RX1 99 yX1_mayAll, Cond.instanceMethod yX1_mayAll, Cond.selects RX1 yX1_mayAll yX1_mayAll, Cond.code yX1_mayAll cX1_mayAll 4 (some .boolean), Cond.fieldLink RX1 50 "GamutChainModel" "thrown" "I"]
def wsX1_join : List Cond := .code yX1_join cX1_join 7 (some .int) :: ((wsX1_join_r1 ++ (wsX1_join_r2 ++ wsX1_join_r3)) ++ wsX10)
def wsX1_joined_r1 : List Cond := [Cond.fieldLink RX1 28 "GamutChainModel" "isJoined" "[Z", Cond.fieldLink RX1 47 "GamutChainModel" "five" "[I", Cond.fieldLink RX1 35 "GamutChainModel" "kept" "[I", Cond.methodLink RX1 107 yX1_isChain, Cond.instanceMethod yX1_isChain, Cond.selects RX1 yX1_isChain yX1_isChain, Cond.initialized RX1, Cond.code yX1_isChain cX1_isChain 2 (some .boolean), Cond.fieldLink RX1 61 "GamutChainModel" "chains" "I", Cond.methodLink RX1 54 yX1_isIn, Cond.static yX1_isIn, Cond.code yX1_isIn cX1_isIn 3 (some .boolean), Cond.methodLink RX1 90 yX1_isThird, Cond.static yX1_isThird, Cond.code yX1_isThird cX1_isThird 1 (some .boolean), Cond.methodLink RX1 93 yX1_isByte, Cond.static yX1_isByte, Cond.code yX1_isByte cX1_isByte 1 (some .boolean), Cond.methodLink RX1 99 yX1_mayAll, Cond.instanceMethod yX1_mayAll, Cond.selects RX1 yX1_mayAll yX1_mayAll, Cond.code yX1_mayAll cX1_mayAll 4 (some .boolean), Cond.fieldLink RX1 50 "GamutChainModel" "thrown" "I", Cond.methodLink RX1 72 yX1_between]
def wsX1_joined_r2 : List Cond := [Cond.instanceMethod yX1_between, Cond.selects RX1 yX1_between yX1_between, Cond.code yX1_between cX1_between 3 (some .int), Cond.methodLink RX1 64 yX1_placeAt, Cond.static yX1_placeAt, Cond.code yX1_placeAt cX1_placeAt 1 (some .int), Cond.methodLink RX1 68 yX1_quotient, Cond.static yX1_quotient, Cond.code yX1_quotient cX1_quotient 3 (some .int)]
def wsX1_joined : List Cond := .code yX1_joined cX1_joined 6 (some .int) :: ((wsX1_joined_r1 ++ wsX1_joined_r2) ++ wsX10)
def wsX1_stale_r1 : List Cond := [Cond.fieldLink RX1 50 "GamutChainModel" "thrown" "I", Cond.fieldLink RX1 61 "GamutChainModel" "chains" "I", Cond.fieldLink RX1 35 "GamutChainModel" "kept" "[I", Cond.fieldLink RX1 28 "GamutChainModel" "isJoined" "[Z", Cond.methodLink RX1 64 yX1_placeAt, Cond.static yX1_placeAt, Cond.initialized RX1, Cond.code yX1_placeAt cX1_placeAt 1 (some .int), Cond.methodLink RX1 110 yX1_throughOf, Cond.instanceMethod yX1_throughOf, Cond.selects RX1 yX1_throughOf yX1_throughOf, Cond.code yX1_throughOf cX1_throughOf 6 (some .int), Cond.fieldLink RX1 22 "GamutChainModel" "many" "[I", Cond.fieldLink RX1 25 "GamutChainModel" "links" "[I", Cond.methodLink RX1 79 yX1_takenBy, Cond.instanceMethod yX1_takenBy, Cond.selects RX1 yX1_takenBy yX1_takenBy, Cond.code yX1_takenBy cX1_takenBy 7 (some .int), Cond.fieldLink RX1 13 "GamutChainModel" "least" "[I", Cond.fieldLink RX1 16 "GamutChainModel" "greatest" "[I", Cond.fieldLink RX1 19 "GamutChainModel" "ways" "[I", Cond.methodLink RX1 75 yX1_curveOf, Cond.instanceMethod yX1_curveOf, Cond.selects RX1 yX1_curveOf yX1_curveOf]
def wsX1_stale_r2 : List Cond := [Cond.code yX1_curveOf cX1_curveOf 5 (some .int), Cond.fieldLink RX1 47 "GamutChainModel" "five" "[I", Cond.fieldLink RX1 7 "GamutChainModel" "bends" "[I", Cond.methodLink RX1 72 yX1_between, Cond.instanceMethod yX1_between, Cond.selects RX1 yX1_between yX1_between, Cond.code yX1_between cX1_between 3 (some .int), Cond.methodLink RX1 68 yX1_quotient, Cond.static yX1_quotient, Cond.code yX1_quotient cX1_quotient 3 (some .int)]
def wsX1_stale : List Cond := .code yX1_stale cX1_stale 5 (some .int) :: ((wsX1_stale_r1 ++ wsX1_stale_r2) ++ wsX10)
def wsX1_sign : List Cond := .code yX1_sign cX1_sign 2 (some .boolean) :: ([.fieldLink RX1 32 "GamutChainModel" "isSigned" "[Z", .methodLink RX1 107 yX1_isChain, .instanceMethod yX1_isChain, .selects RX1 yX1_isChain yX1_isChain, .initialized RX1, .code yX1_isChain cX1_isChain 2 (some .boolean), .fieldLink RX1 61 "GamutChainModel" "chains" "I", .methodLink RX1 54 yX1_isIn, .static yX1_isIn, .code yX1_isIn cX1_isIn 3 (some .boolean), .methodLink RX1 82 yX1_may, .instanceMethod yX1_may, .selects RX1 yX1_may yX1_may, .code yX1_may cX1_may 2 (some .boolean), .fieldLink RX1 50 "GamutChainModel" "thrown" "I"] ++ wsX10)
def wsX1_held : List Cond := .code yX1_held cX1_held 3 (some .int) :: ([.fieldLink RX1 50 "GamutChainModel" "thrown" "I", .fieldLink RX1 58 "GamutChainModel" "profiles" "I", .methodLink RX1 96 yX1_isHeld, .instanceMethod yX1_isHeld, .selects RX1 yX1_isHeld yX1_isHeld, .initialized RX1, .code yX1_isHeld cX1_isHeld 5 (some .boolean), .fieldLink RX1 61 "GamutChainModel" "chains" "I", .fieldLink RX1 22 "GamutChainModel" "many" "[I", .fieldLink RX1 32 "GamutChainModel" "isSigned" "[Z", .fieldLink RX1 25 "GamutChainModel" "links" "[I"] ++ wsX10)
def wsX1_isPixel : List Cond := .code yX1_isPixel cX1_isPixel 1 (some .boolean) :: ([.methodLink RX1 54 yX1_isIn, .static yX1_isIn, .initialized RX1, .code yX1_isIn cX1_isIn 3 (some .boolean)])
def wsX1_paint : List Cond := .code yX1_paint cX1_paint 5 (some .int) :: ([.fieldLink RX1 38 "GamutChainModel" "picture" "[I", .methodLink RX1 119 yX1_isPixel, .static yX1_isPixel, .initialized RX1, .code yX1_isPixel cX1_isPixel 1 (some .boolean), .methodLink RX1 54 yX1_isIn, .static yX1_isIn, .code yX1_isIn cX1_isIn 3 (some .boolean), .methodLink RX1 90 yX1_isThird, .static yX1_isThird, .code yX1_isThird cX1_isThird 1 (some .boolean), .methodLink RX1 93 yX1_isByte, .static yX1_isByte, .code yX1_isByte cX1_isByte 1 (some .boolean), .methodLink RX1 103 yX1_mayBoth, .instanceMethod yX1_mayBoth, .selects RX1 yX1_mayBoth yX1_mayBoth, .code yX1_mayBoth cX1_mayBoth 3 (some .boolean), .fieldLink RX1 50 "GamutChainModel" "thrown" "I"] ++ wsX10)
def wsX1_spot : List Cond := .code yX1_spot cX1_spot 5 (some .int) :: ([.fieldLink RX1 41 "GamutChainModel" "amounts" "[I", .methodLink RX1 119 yX1_isPixel, .static yX1_isPixel, .initialized RX1, .code yX1_isPixel cX1_isPixel 1 (some .boolean), .methodLink RX1 54 yX1_isIn, .static yX1_isIn, .code yX1_isIn cX1_isIn 3 (some .boolean), .methodLink RX1 90 yX1_isThird, .static yX1_isThird, .code yX1_isThird cX1_isThird 1 (some .boolean), .methodLink RX1 93 yX1_isByte, .static yX1_isByte, .code yX1_isByte cX1_isByte 1 (some .boolean), .methodLink RX1 103 yX1_mayBoth, .instanceMethod yX1_mayBoth, .selects RX1 yX1_mayBoth yX1_mayBoth, .code yX1_mayBoth cX1_mayBoth 3 (some .boolean), .fieldLink RX1 50 "GamutChainModel" "thrown" "I"] ++ wsX10)
def wsX1_mix : List Cond := .code yX1_mix cX1_mix 5 (some .int) :: ([.fieldLink RX1 44 "GamutChainModel" "mixes" "[I", .methodLink RX1 90 yX1_isThird, .static yX1_isThird, .initialized RX1, .code yX1_isThird cX1_isThird 1 (some .boolean), .methodLink RX1 54 yX1_isIn, .static yX1_isIn, .code yX1_isIn cX1_isIn 3 (some .boolean), .methodLink RX1 93 yX1_isByte, .static yX1_isByte, .code yX1_isByte cX1_isByte 1 (some .boolean), .methodLink RX1 103 yX1_mayBoth, .instanceMethod yX1_mayBoth, .selects RX1 yX1_mayBoth yX1_mayBoth, .code yX1_mayBoth cX1_mayBoth 3 (some .boolean), .fieldLink RX1 50 "GamutChainModel" "thrown" "I"] ++ wsX10)
def wsX1_shown_r1 : List Cond := [Cond.fieldLink RX1 38 "GamutChainModel" "picture" "[I", Cond.fieldLink RX1 44 "GamutChainModel" "mixes" "[I", Cond.fieldLink RX1 41 "GamutChainModel" "amounts" "[I", Cond.methodLink RX1 107 yX1_isChain, Cond.instanceMethod yX1_isChain, Cond.selects RX1 yX1_isChain yX1_isChain, Cond.initialized RX1, Cond.code yX1_isChain cX1_isChain 2 (some .boolean), Cond.fieldLink RX1 61 "GamutChainModel" "chains" "I", Cond.methodLink RX1 54 yX1_isIn, Cond.static yX1_isIn, Cond.code yX1_isIn cX1_isIn 3 (some .boolean), Cond.methodLink RX1 119 yX1_isPixel, Cond.static yX1_isPixel, Cond.code yX1_isPixel cX1_isPixel 1 (some .boolean), Cond.methodLink RX1 90 yX1_isThird, Cond.static yX1_isThird, Cond.code yX1_isThird cX1_isThird 1 (some .boolean), Cond.methodLink RX1 103 yX1_mayBoth, Cond.instanceMethod yX1_mayBoth, Cond.selects RX1 yX1_mayBoth yX1_mayBoth, Cond.code yX1_mayBoth cX1_mayBoth 3 (some .boolean), Cond.fieldLink RX1 50 "GamutChainModel" "thrown" "I", Cond.methodLink RX1 110 yX1_throughOf]
def wsX1_shown_r2 : List Cond := [Cond.instanceMethod yX1_throughOf, Cond.selects RX1 yX1_throughOf yX1_throughOf, Cond.code yX1_throughOf cX1_throughOf 6 (some .int), Cond.fieldLink RX1 22 "GamutChainModel" "many" "[I", Cond.fieldLink RX1 25 "GamutChainModel" "links" "[I", Cond.methodLink RX1 79 yX1_takenBy, Cond.instanceMethod yX1_takenBy, Cond.selects RX1 yX1_takenBy yX1_takenBy, Cond.code yX1_takenBy cX1_takenBy 7 (some .int), Cond.fieldLink RX1 13 "GamutChainModel" "least" "[I", Cond.fieldLink RX1 16 "GamutChainModel" "greatest" "[I", Cond.fieldLink RX1 19 "GamutChainModel" "ways" "[I", Cond.methodLink RX1 75 yX1_curveOf, Cond.instanceMethod yX1_curveOf, Cond.selects RX1 yX1_curveOf yX1_curveOf, Cond.code yX1_curveOf cX1_curveOf 5 (some .int), Cond.fieldLink RX1 47 "GamutChainModel" "five" "[I", Cond.fieldLink RX1 7 "GamutChainModel" "bends" "[I", Cond.methodLink RX1 72 yX1_between, Cond.instanceMethod yX1_between, Cond.selects RX1 yX1_between yX1_between, Cond.code yX1_between cX1_between 3 (some .int), Cond.methodLink RX1 64 yX1_placeAt, Cond.static yX1_placeAt]
def wsX1_shown_r3 : List Cond := [Cond.code yX1_placeAt cX1_placeAt 1 (some .int), Cond.methodLink RX1 68 yX1_quotient, Cond.static yX1_quotient, Cond.code yX1_quotient cX1_quotient 3 (some .int)]
def wsX1_shown : List Cond := .code yX1_shown cX1_shown 7 (some .int) :: ((wsX1_shown_r1 ++ (wsX1_shown_r2 ++ wsX1_shown_r3)) ++ wsX10)
def wsJ9_abs_0f7a4 : List Cond := .code yJ9_abs_0f7a4 cJ9_abs_0f7a4 1 (some .int) :: ([])
def wsJ9_max_7cf53 : List Cond := .code yJ9_max_7cf53 cJ9_max_7cf53 2 (some .int) :: ([])
def wsJ9_min_7cf53 : List Cond := .code yJ9_min_7cf53 cJ9_min_7cf53 2 (some .int) :: ([])
def wsL_profile : List Cond := .codeWith yL_profile cL_profile 3 (some .int) [(0, 8, 11, 13)] :: ([.classLink RL 13 "java/lang/IllegalStateException", .methodLink RL 7 yX0_profile, .instanceMethod yX0_profile, .selects RX0 yX0_profile yX0_profile, .initialized RX0, .code yX0_profile cX0_profile 5 (some .int), .classLink RX0 47 "java/lang/IllegalStateException", .initialized "java/lang/IllegalStateException", .fieldLink RX0 43 "GamutChain" "profiles" "I", .fieldLink RX0 9 "GamutChain" "bends" "[I", .fieldLink RX0 13 "GamutChain" "leasts" "[I", .fieldLink RX0 16 "GamutChain" "greatests" "[I", .fieldLink RX0 19 "GamutChain" "ways" "[I", .methodLink RX0 54 yX0_valueOfPlace, .static yX0_valueOfPlace, .code yX0_valueOfPlace cX0_valueOfPlace 1 (some .int), .methodLink RX0 119 Lib.Math.min.name, .static Lib.Math.min.name, .initialized "java/lang/Math", .code Lib.Math.min.name Lib.Math.min.code 2 (some .int), .methodLink RX0 58 yX0_swap, .static yX0_swap, .code yX0_swap cX0_swap 4 (some .int)] ++ wsX00 ++ (vx_atS RX0 51 "java/lang/IllegalStateException" ["java/lang/RuntimeException", "java/lang/Exception"]).filter goodWord)
def wsL_bend_r1 : List Cond := [Cond.classLink RL 19 "java/lang/IndexOutOfBoundsException", Cond.classLink RL 21 "java/lang/IllegalArgumentException", Cond.classLink RL 13 "java/lang/IllegalStateException", Cond.methodLink RL 15 yX0_bend, Cond.instanceMethod yX0_bend, Cond.selects RX0 yX0_bend yX0_bend, Cond.initialized RX0, Cond.code yX0_bend cX0_bend 5 (some .int), Cond.classLink RX0 69 "java/lang/IndexOutOfBoundsException", Cond.initialized "java/lang/IndexOutOfBoundsException", Cond.fieldLink RX0 9 "GamutChain" "bends" "[I", Cond.methodLink RX0 62 yX0_needProfile, Cond.instanceMethod yX0_needProfile, Cond.selects RX0 yX0_needProfile yX0_needProfile, Cond.code yX0_needProfile cX0_needProfile 2 none, Cond.fieldLink RX0 43 "GamutChain" "profiles" "I", Cond.methodLink RX0 66 yX0_needBand, Cond.static yX0_needBand, Cond.code yX0_needBand cX0_needBand 1 none, Cond.methodLink RX0 74 yX0_needValue, Cond.static yX0_needValue, Cond.code yX0_needValue cX0_needValue 1 none, Cond.classLink RX0 80 "java/lang/IllegalArgumentException", Cond.initialized "java/lang/IllegalArgumentException"]
def wsL_bend_r2 : List Cond := [Cond.methodLink RX0 77 yX0_needFreeProfile, Cond.instanceMethod yX0_needFreeProfile, Cond.selects RX0 yX0_needFreeProfile yX0_needFreeProfile, Cond.code yX0_needFreeProfile cX0_needFreeProfile 2 none, Cond.classLink RX0 47 "java/lang/IllegalStateException", Cond.initialized "java/lang/IllegalStateException", Cond.methodLink RX0 175 yX0_held, Cond.instanceMethod yX0_held, Cond.selects RX0 yX0_held yX0_held, Cond.code yX0_held cX0_held 3 (some .int), Cond.fieldLink RX0 146 "GamutChain" "signedChains" "I", Cond.methodLink RX0 133 yX0_hasBit, Cond.static yX0_hasBit, Cond.code yX0_hasBit cX0_hasBit 2 (some .boolean), Cond.methodLink RX0 149 yX0_profilesOf, Cond.instanceMethod yX0_profilesOf, Cond.selects RX0 yX0_profilesOf yX0_profilesOf, Cond.code yX0_profilesOf cX0_profilesOf 5 (some .int), Cond.fieldLink RX0 25 "GamutChain" "lengths" "[I", Cond.fieldLink RX0 22 "GamutChain" "links" "[I", Cond.methodLink RX0 105 yX0_read, Cond.static yX0_read, Cond.code yX0_read cX0_read 2 (some .int), Cond.methodLink RX0 58 yX0_swap]
def wsL_bend_r3 : List Cond := [Cond.static yX0_swap, Cond.code yX0_swap cX0_swap 4 (some .int)]
def wsL_bend : List Cond := .codeWith yL_bend cL_bend 7 (some .int) [(0, 14, 17, 19), (0, 14, 21, 21), (0, 14, 25, 13)] :: ((wsL_bend_r1 ++ (wsL_bend_r2 ++ wsL_bend_r3)) ++ wsX00 ++ (vx_atS RX0 73 "java/lang/IndexOutOfBoundsException" ["java/lang/RuntimeException", "java/lang/Exception"]).filter goodWord ++ (vx_atS RX0 84 "java/lang/IllegalArgumentException" ["java/lang/RuntimeException", "java/lang/Exception"]).filter goodWord ++ (vx_atS RX0 51 "java/lang/IllegalStateException" ["java/lang/RuntimeException", "java/lang/Exception"]).filter goodWord)
def wsL_reach_r1 : List Cond := [Cond.classLink RL 19 "java/lang/IndexOutOfBoundsException", Cond.classLink RL 21 "java/lang/IllegalArgumentException", Cond.classLink RL 13 "java/lang/IllegalStateException", Cond.methodLink RL 23 yX0_reach, Cond.instanceMethod yX0_reach, Cond.selects RX0 yX0_reach yX0_reach, Cond.initialized RX0, Cond.code yX0_reach cX0_reach 8 (some .int), Cond.classLink RX0 80 "java/lang/IllegalArgumentException", Cond.initialized "java/lang/IllegalArgumentException", Cond.fieldLink RX0 13 "GamutChain" "leasts" "[I", Cond.fieldLink RX0 16 "GamutChain" "greatests" "[I", Cond.methodLink RX0 62 yX0_needProfile, Cond.instanceMethod yX0_needProfile, Cond.selects RX0 yX0_needProfile yX0_needProfile, Cond.code yX0_needProfile cX0_needProfile 2 none, Cond.classLink RX0 69 "java/lang/IndexOutOfBoundsException", Cond.initialized "java/lang/IndexOutOfBoundsException", Cond.fieldLink RX0 43 "GamutChain" "profiles" "I", Cond.methodLink RX0 66 yX0_needBand, Cond.static yX0_needBand, Cond.code yX0_needBand cX0_needBand 1 none, Cond.methodLink RX0 74 yX0_needValue, Cond.static yX0_needValue]
def wsL_reach_r2 : List Cond := [Cond.code yX0_needValue cX0_needValue 1 none, Cond.methodLink RX0 77 yX0_needFreeProfile, Cond.instanceMethod yX0_needFreeProfile, Cond.selects RX0 yX0_needFreeProfile yX0_needFreeProfile, Cond.code yX0_needFreeProfile cX0_needFreeProfile 2 none, Cond.classLink RX0 47 "java/lang/IllegalStateException", Cond.initialized "java/lang/IllegalStateException", Cond.methodLink RX0 175 yX0_held, Cond.instanceMethod yX0_held, Cond.selects RX0 yX0_held yX0_held, Cond.code yX0_held cX0_held 3 (some .int), Cond.fieldLink RX0 146 "GamutChain" "signedChains" "I", Cond.methodLink RX0 133 yX0_hasBit, Cond.static yX0_hasBit, Cond.code yX0_hasBit cX0_hasBit 2 (some .boolean), Cond.methodLink RX0 149 yX0_profilesOf, Cond.instanceMethod yX0_profilesOf, Cond.selects RX0 yX0_profilesOf yX0_profilesOf, Cond.code yX0_profilesOf cX0_profilesOf 5 (some .int), Cond.fieldLink RX0 25 "GamutChain" "lengths" "[I", Cond.fieldLink RX0 22 "GamutChain" "links" "[I", Cond.methodLink RX0 105 yX0_read, Cond.static yX0_read, Cond.code yX0_read cX0_read 2 (some .int)]
def wsL_reach_r3 : List Cond := [Cond.methodLink RX0 58 yX0_swap, Cond.static yX0_swap, Cond.code yX0_swap cX0_swap 4 (some .int)]
def wsL_reach : List Cond := .codeWith yL_reach cL_reach 7 (some .int) [(0, 14, 17, 19), (0, 14, 21, 21), (0, 14, 25, 13)] :: ((wsL_reach_r1 ++ (wsL_reach_r2 ++ wsL_reach_r3)) ++ wsX00 ++ (vx_atS RX0 84 "java/lang/IllegalArgumentException" ["java/lang/RuntimeException", "java/lang/Exception"]).filter goodWord ++ (vx_atS RX0 73 "java/lang/IndexOutOfBoundsException" ["java/lang/RuntimeException", "java/lang/Exception"]).filter goodWord ++ (vx_atS RX0 51 "java/lang/IllegalStateException" ["java/lang/RuntimeException", "java/lang/Exception"]).filter goodWord)
def wsL_way_r1 : List Cond := [Cond.classLink RL 19 "java/lang/IndexOutOfBoundsException", Cond.classLink RL 21 "java/lang/IllegalArgumentException", Cond.classLink RL 13 "java/lang/IllegalStateException", Cond.methodLink RL 26 yX0_way, Cond.instanceMethod yX0_way, Cond.selects RX0 yX0_way yX0_way, Cond.initialized RX0, Cond.code yX0_way cX0_way 3 (some .int), Cond.classLink RX0 80 "java/lang/IllegalArgumentException", Cond.initialized "java/lang/IllegalArgumentException", Cond.fieldLink RX0 19 "GamutChain" "ways" "[I", Cond.methodLink RX0 62 yX0_needProfile, Cond.instanceMethod yX0_needProfile, Cond.selects RX0 yX0_needProfile yX0_needProfile, Cond.code yX0_needProfile cX0_needProfile 2 none, Cond.classLink RX0 69 "java/lang/IndexOutOfBoundsException", Cond.initialized "java/lang/IndexOutOfBoundsException", Cond.fieldLink RX0 43 "GamutChain" "profiles" "I", Cond.methodLink RX0 77 yX0_needFreeProfile, Cond.instanceMethod yX0_needFreeProfile, Cond.selects RX0 yX0_needFreeProfile yX0_needFreeProfile, Cond.code yX0_needFreeProfile cX0_needFreeProfile 2 none, Cond.classLink RX0 47 "java/lang/IllegalStateException", Cond.initialized "java/lang/IllegalStateException"]
def wsL_way_r2 : List Cond := [Cond.methodLink RX0 175 yX0_held, Cond.instanceMethod yX0_held, Cond.selects RX0 yX0_held yX0_held, Cond.code yX0_held cX0_held 3 (some .int), Cond.fieldLink RX0 146 "GamutChain" "signedChains" "I", Cond.methodLink RX0 133 yX0_hasBit, Cond.static yX0_hasBit, Cond.code yX0_hasBit cX0_hasBit 2 (some .boolean), Cond.methodLink RX0 149 yX0_profilesOf, Cond.instanceMethod yX0_profilesOf, Cond.selects RX0 yX0_profilesOf yX0_profilesOf, Cond.code yX0_profilesOf cX0_profilesOf 5 (some .int), Cond.fieldLink RX0 25 "GamutChain" "lengths" "[I", Cond.fieldLink RX0 22 "GamutChain" "links" "[I", Cond.methodLink RX0 105 yX0_read, Cond.static yX0_read, Cond.code yX0_read cX0_read 2 (some .int), Cond.methodLink RX0 58 yX0_swap, Cond.static yX0_swap, Cond.code yX0_swap cX0_swap 4 (some .int)]
def wsL_way : List Cond := .codeWith yL_way cL_way 5 (some .int) [(0, 10, 13, 19), (0, 10, 17, 21), (0, 10, 21, 13)] :: ((wsL_way_r1 ++ wsL_way_r2) ++ wsX00 ++ (vx_atS RX0 84 "java/lang/IllegalArgumentException" ["java/lang/RuntimeException", "java/lang/Exception"]).filter goodWord ++ (vx_atS RX0 73 "java/lang/IndexOutOfBoundsException" ["java/lang/RuntimeException", "java/lang/Exception"]).filter goodWord ++ (vx_atS RX0 51 "java/lang/IllegalStateException" ["java/lang/RuntimeException", "java/lang/Exception"]).filter goodWord)
def wsL_curve_r1 : List Cond := [Cond.classLink RL 19 "java/lang/IndexOutOfBoundsException", Cond.classLink RL 21 "java/lang/IllegalArgumentException", Cond.methodLink RL 30 yX0_curve, Cond.instanceMethod yX0_curve, Cond.selects RX0 yX0_curve yX0_curve, Cond.initialized RX0, Cond.code yX0_curve cX0_curve 4 (some .int), Cond.methodLink RX0 62 yX0_needProfile, Cond.instanceMethod yX0_needProfile, Cond.selects RX0 yX0_needProfile yX0_needProfile, Cond.code yX0_needProfile cX0_needProfile 2 none, Cond.classLink RX0 69 "java/lang/IndexOutOfBoundsException", Cond.initialized "java/lang/IndexOutOfBoundsException", Cond.fieldLink RX0 43 "GamutChain" "profiles" "I", Cond.methodLink RX0 66 yX0_needBand, Cond.static yX0_needBand, Cond.code yX0_needBand cX0_needBand 1 none, Cond.methodLink RX0 74 yX0_needValue, Cond.static yX0_needValue, Cond.code yX0_needValue cX0_needValue 1 none, Cond.classLink RX0 80 "java/lang/IllegalArgumentException", Cond.initialized "java/lang/IllegalArgumentException", Cond.methodLink RX0 87 yX0_bent, Cond.instanceMethod yX0_bent]
def wsL_curve_r2 : List Cond := [Cond.selects RX0 yX0_bent yX0_bent, Cond.code yX0_bent cX0_bent 4 (some .int), Cond.fieldLink RX0 9 "GamutChain" "bends" "[I", Cond.methodLink RX0 139 yX0_between, Cond.static yX0_between, Cond.code yX0_between cX0_between 7 (some .int), Cond.methodLink RX0 105 yX0_read, Cond.static yX0_read, Cond.code yX0_read cX0_read 2 (some .int), Cond.methodLink RX0 183 yJ9_floorDiv_7cf53, Cond.static yJ9_floorDiv_7cf53, Cond.initialized RJ9, Cond.code yJ9_floorDiv_7cf53 cJ9_floorDiv_7cf53 3 (some .int)]
def wsL_curve : List Cond := .codeWith yL_curve cL_curve 6 (some .int) [(0, 12, 15, 19), (0, 12, 19, 21)] :: ((wsL_curve_r1 ++ wsL_curve_r2) ++ wsX00 ++ (vx_atS RX0 73 "java/lang/IndexOutOfBoundsException" ["java/lang/RuntimeException", "java/lang/Exception"]).filter goodWord ++ (vx_atS RX0 84 "java/lang/IllegalArgumentException" ["java/lang/RuntimeException", "java/lang/Exception"]).filter goodWord)
def wsL_taken_r1 : List Cond := [Cond.classLink RL 19 "java/lang/IndexOutOfBoundsException", Cond.classLink RL 21 "java/lang/IllegalArgumentException", Cond.methodLink RL 34 yX0_taken, Cond.instanceMethod yX0_taken, Cond.selects RX0 yX0_taken yX0_taken, Cond.initialized RX0, Cond.code yX0_taken cX0_taken 4 (some .int), Cond.methodLink RX0 62 yX0_needProfile, Cond.instanceMethod yX0_needProfile, Cond.selects RX0 yX0_needProfile yX0_needProfile, Cond.code yX0_needProfile cX0_needProfile 2 none, Cond.classLink RX0 69 "java/lang/IndexOutOfBoundsException", Cond.initialized "java/lang/IndexOutOfBoundsException", Cond.fieldLink RX0 43 "GamutChain" "profiles" "I", Cond.methodLink RX0 66 yX0_needBand, Cond.static yX0_needBand, Cond.code yX0_needBand cX0_needBand 1 none, Cond.methodLink RX0 74 yX0_needValue, Cond.static yX0_needValue, Cond.code yX0_needValue cX0_needValue 1 none, Cond.classLink RX0 80 "java/lang/IllegalArgumentException", Cond.initialized "java/lang/IllegalArgumentException", Cond.methodLink RX0 91 yX0_take, Cond.instanceMethod yX0_take]
def wsL_taken_r2 : List Cond := [Cond.selects RX0 yX0_take yX0_take, Cond.code yX0_take cX0_take 8 (some .int), Cond.fieldLink RX0 13 "GamutChain" "leasts" "[I", Cond.fieldLink RX0 16 "GamutChain" "greatests" "[I", Cond.fieldLink RX0 19 "GamutChain" "ways" "[I", Cond.methodLink RX0 119 Lib.Math.min.name, Cond.static Lib.Math.min.name, Cond.initialized "java/lang/Math", Cond.code Lib.Math.min.name Lib.Math.min.code 2 (some .int), Cond.methodLink RX0 125 Lib.Math.max.name, Cond.static Lib.Math.max.name, Cond.code Lib.Math.max.name Lib.Math.max.code 2 (some .int), Cond.methodLink RX0 105 yX0_read, Cond.static yX0_read, Cond.code yX0_read cX0_read 2 (some .int), Cond.methodLink RX0 87 yX0_bent, Cond.instanceMethod yX0_bent, Cond.selects RX0 yX0_bent yX0_bent, Cond.code yX0_bent cX0_bent 4 (some .int), Cond.fieldLink RX0 9 "GamutChain" "bends" "[I", Cond.methodLink RX0 139 yX0_between, Cond.static yX0_between, Cond.code yX0_between cX0_between 7 (some .int), Cond.methodLink RX0 183 yJ9_floorDiv_7cf53]
def wsL_taken_r3 : List Cond := [Cond.static yJ9_floorDiv_7cf53, Cond.initialized RJ9, Cond.code yJ9_floorDiv_7cf53 cJ9_floorDiv_7cf53 3 (some .int), Cond.methodLink RX0 186 yX0_fold, Cond.static yX0_fold, Cond.code yX0_fold cX0_fold 3 (some .int)]
def wsL_taken : List Cond := .codeWith yL_taken cL_taken 6 (some .int) [(0, 12, 15, 19), (0, 12, 19, 21)] :: ((wsL_taken_r1 ++ (wsL_taken_r2 ++ wsL_taken_r3)) ++ wsX00 ++ (vx_atS RX0 73 "java/lang/IndexOutOfBoundsException" ["java/lang/RuntimeException", "java/lang/Exception"]).filter goodWord ++ (vx_atS RX0 84 "java/lang/IllegalArgumentException" ["java/lang/RuntimeException", "java/lang/Exception"]).filter goodWord)
def wsL_chain : List Cond := .codeWith yL_chain cL_chain 3 (some .int) [(0, 8, 11, 13)] :: ([.classLink RL 13 "java/lang/IllegalStateException", .methodLink RL 37 yX0_chain, .instanceMethod yX0_chain, .selects RX0 yX0_chain yX0_chain, .initialized RX0, .code yX0_chain cX0_chain 2 (some .int), .classLink RX0 47 "java/lang/IllegalStateException", .initialized "java/lang/IllegalStateException", .fieldLink RX0 94 "GamutChain" "chains" "I"] ++ wsX00 ++ (vx_atS RX0 51 "java/lang/IllegalStateException" ["java/lang/RuntimeException", "java/lang/Exception"]).filter goodWord)
def wsL_add_r1 : List Cond := [Cond.classLink RL 19 "java/lang/IndexOutOfBoundsException", Cond.classLink RL 13 "java/lang/IllegalStateException", Cond.methodLink RL 40 yX0_add, Cond.instanceMethod yX0_add, Cond.selects RX0 yX0_add yX0_add, Cond.initialized RX0, Cond.code yX0_add cX0_add 4 (some .int), Cond.classLink RX0 47 "java/lang/IllegalStateException", Cond.initialized "java/lang/IllegalStateException", Cond.fieldLink RX0 25 "GamutChain" "lengths" "[I", Cond.fieldLink RX0 22 "GamutChain" "links" "[I", Cond.methodLink RX0 99 yX0_needChain, Cond.instanceMethod yX0_needChain, Cond.selects RX0 yX0_needChain yX0_needChain, Cond.code yX0_needChain cX0_needChain 2 none, Cond.classLink RX0 69 "java/lang/IndexOutOfBoundsException", Cond.initialized "java/lang/IndexOutOfBoundsException", Cond.fieldLink RX0 94 "GamutChain" "chains" "I", Cond.methodLink RX0 62 yX0_needProfile, Cond.instanceMethod yX0_needProfile, Cond.selects RX0 yX0_needProfile yX0_needProfile, Cond.code yX0_needProfile cX0_needProfile 2 none, Cond.fieldLink RX0 43 "GamutChain" "profiles" "I", Cond.methodLink RX0 102 yX0_needFreeChain]
def wsL_add_r2 : List Cond := [Cond.instanceMethod yX0_needFreeChain, Cond.selects RX0 yX0_needFreeChain yX0_needFreeChain, Cond.code yX0_needFreeChain cX0_needFreeChain 2 none, Cond.fieldLink RX0 146 "GamutChain" "signedChains" "I", Cond.methodLink RX0 133 yX0_hasBit, Cond.static yX0_hasBit, Cond.code yX0_hasBit cX0_hasBit 2 (some .boolean), Cond.methodLink RX0 105 yX0_read, Cond.static yX0_read, Cond.code yX0_read cX0_read 2 (some .int), Cond.methodLink RX0 58 yX0_swap, Cond.static yX0_swap, Cond.code yX0_swap cX0_swap 4 (some .int)]
def wsL_add : List Cond := .codeWith yL_add cL_add 5 (some .int) [(0, 10, 13, 19), (0, 10, 17, 13)] :: ((wsL_add_r1 ++ wsL_add_r2) ++ wsX00 ++ (vx_atS RX0 51 "java/lang/IllegalStateException" ["java/lang/RuntimeException", "java/lang/Exception"]).filter goodWord ++ (vx_atS RX0 73 "java/lang/IndexOutOfBoundsException" ["java/lang/RuntimeException", "java/lang/Exception"]).filter goodWord)
def wsL_drop_r1 : List Cond := [Cond.classLink RL 19 "java/lang/IndexOutOfBoundsException", Cond.classLink RL 13 "java/lang/IllegalStateException", Cond.methodLink RL 43 yX0_drop, Cond.instanceMethod yX0_drop, Cond.selects RX0 yX0_drop yX0_drop, Cond.initialized RX0, Cond.code yX0_drop cX0_drop 3 (some .int), Cond.classLink RX0 47 "java/lang/IllegalStateException", Cond.initialized "java/lang/IllegalStateException", Cond.fieldLink RX0 25 "GamutChain" "lengths" "[I", Cond.fieldLink RX0 22 "GamutChain" "links" "[I", Cond.methodLink RX0 99 yX0_needChain, Cond.instanceMethod yX0_needChain, Cond.selects RX0 yX0_needChain yX0_needChain, Cond.code yX0_needChain cX0_needChain 2 none, Cond.classLink RX0 69 "java/lang/IndexOutOfBoundsException", Cond.initialized "java/lang/IndexOutOfBoundsException", Cond.fieldLink RX0 94 "GamutChain" "chains" "I", Cond.methodLink RX0 102 yX0_needFreeChain, Cond.instanceMethod yX0_needFreeChain, Cond.selects RX0 yX0_needFreeChain yX0_needFreeChain, Cond.code yX0_needFreeChain cX0_needFreeChain 2 none, Cond.fieldLink RX0 146 "GamutChain" "signedChains" "I", Cond.methodLink RX0 133 yX0_hasBit]
def wsL_drop_r2 : List Cond := [Cond.static yX0_hasBit, Cond.code yX0_hasBit cX0_hasBit 2 (some .boolean), Cond.methodLink RX0 105 yX0_read, Cond.static yX0_read, Cond.code yX0_read cX0_read 2 (some .int), Cond.methodLink RX0 58 yX0_swap, Cond.static yX0_swap, Cond.code yX0_swap cX0_swap 4 (some .int)]
def wsL_drop : List Cond := .codeWith yL_drop cL_drop 4 (some .int) [(0, 9, 12, 19), (0, 9, 15, 13)] :: ((wsL_drop_r1 ++ wsL_drop_r2) ++ wsX00 ++ (vx_atS RX0 51 "java/lang/IllegalStateException" ["java/lang/RuntimeException", "java/lang/Exception"]).filter goodWord ++ (vx_atS RX0 73 "java/lang/IndexOutOfBoundsException" ["java/lang/RuntimeException", "java/lang/Exception"]).filter goodWord)
def wsL_through_r1 : List Cond := [Cond.classLink RL 19 "java/lang/IndexOutOfBoundsException", Cond.classLink RL 21 "java/lang/IllegalArgumentException", Cond.methodLink RL 47 yX0_through, Cond.instanceMethod yX0_through, Cond.selects RX0 yX0_through yX0_through, Cond.initialized RX0, Cond.code yX0_through cX0_through 4 (some .int), Cond.methodLink RX0 99 yX0_needChain, Cond.instanceMethod yX0_needChain, Cond.selects RX0 yX0_needChain yX0_needChain, Cond.code yX0_needChain cX0_needChain 2 none, Cond.classLink RX0 69 "java/lang/IndexOutOfBoundsException", Cond.initialized "java/lang/IndexOutOfBoundsException", Cond.fieldLink RX0 94 "GamutChain" "chains" "I", Cond.methodLink RX0 66 yX0_needBand, Cond.static yX0_needBand, Cond.code yX0_needBand cX0_needBand 1 none, Cond.methodLink RX0 74 yX0_needValue, Cond.static yX0_needValue, Cond.code yX0_needValue cX0_needValue 1 none, Cond.classLink RX0 80 "java/lang/IllegalArgumentException", Cond.initialized "java/lang/IllegalArgumentException", Cond.methodLink RX0 113 yX0_pass, Cond.instanceMethod yX0_pass]
def wsL_through_r2 : List Cond := [Cond.selects RX0 yX0_pass yX0_pass, Cond.code yX0_pass cX0_pass 7 (some .int), Cond.fieldLink RX0 25 "GamutChain" "lengths" "[I", Cond.fieldLink RX0 22 "GamutChain" "links" "[I", Cond.methodLink RX0 105 yX0_read, Cond.static yX0_read, Cond.code yX0_read cX0_read 2 (some .int), Cond.methodLink RX0 91 yX0_take, Cond.instanceMethod yX0_take, Cond.selects RX0 yX0_take yX0_take, Cond.code yX0_take cX0_take 8 (some .int), Cond.fieldLink RX0 13 "GamutChain" "leasts" "[I", Cond.fieldLink RX0 16 "GamutChain" "greatests" "[I", Cond.fieldLink RX0 19 "GamutChain" "ways" "[I", Cond.methodLink RX0 119 Lib.Math.min.name, Cond.static Lib.Math.min.name, Cond.initialized "java/lang/Math", Cond.code Lib.Math.min.name Lib.Math.min.code 2 (some .int), Cond.methodLink RX0 125 Lib.Math.max.name, Cond.static Lib.Math.max.name, Cond.code Lib.Math.max.name Lib.Math.max.code 2 (some .int), Cond.methodLink RX0 87 yX0_bent, Cond.instanceMethod yX0_bent, Cond.selects RX0 yX0_bent yX0_bent]
def wsL_through_r3 : List Cond := [Cond.code yX0_bent cX0_bent 4 (some .int), Cond.fieldLink RX0 9 "GamutChain" "bends" "[I", Cond.methodLink RX0 139 yX0_between, Cond.static yX0_between, Cond.code yX0_between cX0_between 7 (some .int), Cond.methodLink RX0 183 yJ9_floorDiv_7cf53, Cond.static yJ9_floorDiv_7cf53, Cond.initialized RJ9, Cond.code yJ9_floorDiv_7cf53 cJ9_floorDiv_7cf53 3 (some .int), Cond.methodLink RX0 186 yX0_fold, Cond.static yX0_fold, Cond.code yX0_fold cX0_fold 3 (some .int)]
def wsL_through : List Cond := .codeWith yL_through cL_through 6 (some .int) [(0, 12, 15, 19), (0, 12, 19, 21)] :: ((wsL_through_r1 ++ (wsL_through_r2 ++ wsL_through_r3)) ++ wsX00 ++ (vx_atS RX0 73 "java/lang/IndexOutOfBoundsException" ["java/lang/RuntimeException", "java/lang/Exception"]).filter goodWord ++ (vx_atS RX0 84 "java/lang/IllegalArgumentException" ["java/lang/RuntimeException", "java/lang/Exception"]).filter goodWord)
def wsL_gap_r1 : List Cond := [Cond.classLink RL 19 "java/lang/IndexOutOfBoundsException", Cond.methodLink RL 50 yX0_gap, Cond.instanceMethod yX0_gap, Cond.selects RX0 yX0_gap yX0_gap, Cond.initialized RX0, Cond.code yX0_gap cX0_gap 2 (some .int), Cond.methodLink RX0 99 yX0_needChain, Cond.instanceMethod yX0_needChain, Cond.selects RX0 yX0_needChain yX0_needChain, Cond.code yX0_needChain cX0_needChain 2 none, Cond.classLink RX0 69 "java/lang/IndexOutOfBoundsException", Cond.initialized "java/lang/IndexOutOfBoundsException", Cond.fieldLink RX0 94 "GamutChain" "chains" "I", Cond.methodLink RX0 116 yX0_tryJoining, Cond.instanceMethod yX0_tryJoining, Cond.selects RX0 yX0_tryJoining yX0_tryJoining, Cond.code yX0_tryJoining cX0_tryJoining 6 (some .int), Cond.fieldLink RX0 31 "GamutChain" "trial" "[I", Cond.methodLink RX0 189 Lib.Math.abs.name, Cond.static Lib.Math.abs.name, Cond.initialized "java/lang/Math", Cond.code Lib.Math.abs.name Lib.Math.abs.code 1 (some .int), Cond.methodLink RX0 125 Lib.Math.max.name, Cond.static Lib.Math.max.name]
def wsL_gap_r2 : List Cond := [Cond.code Lib.Math.max.name Lib.Math.max.code 2 (some .int), Cond.methodLink RX0 54 yX0_valueOfPlace, Cond.static yX0_valueOfPlace, Cond.code yX0_valueOfPlace cX0_valueOfPlace 1 (some .int), Cond.methodLink RX0 119 Lib.Math.min.name, Cond.static Lib.Math.min.name, Cond.code Lib.Math.min.name Lib.Math.min.code 2 (some .int), Cond.methodLink RX0 113 yX0_pass, Cond.instanceMethod yX0_pass, Cond.selects RX0 yX0_pass yX0_pass, Cond.code yX0_pass cX0_pass 7 (some .int), Cond.fieldLink RX0 25 "GamutChain" "lengths" "[I", Cond.fieldLink RX0 22 "GamutChain" "links" "[I", Cond.methodLink RX0 105 yX0_read, Cond.static yX0_read, Cond.code yX0_read cX0_read 2 (some .int), Cond.methodLink RX0 91 yX0_take, Cond.instanceMethod yX0_take, Cond.selects RX0 yX0_take yX0_take, Cond.code yX0_take cX0_take 8 (some .int), Cond.fieldLink RX0 13 "GamutChain" "leasts" "[I", Cond.fieldLink RX0 16 "GamutChain" "greatests" "[I", Cond.fieldLink RX0 19 "GamutChain" "ways" "[I", Cond.methodLink RX0 87 yX0_bent]
def wsL_gap_r3 : List Cond := [Cond.instanceMethod yX0_bent, Cond.selects RX0 yX0_bent yX0_bent, Cond.code yX0_bent cX0_bent 4 (some .int), Cond.fieldLink RX0 9 "GamutChain" "bends" "[I", Cond.methodLink RX0 139 yX0_between, Cond.static yX0_between, Cond.code yX0_between cX0_between 7 (some .int), Cond.methodLink RX0 183 yJ9_floorDiv_7cf53, Cond.static yJ9_floorDiv_7cf53, Cond.initialized RJ9, Cond.code yJ9_floorDiv_7cf53 cJ9_floorDiv_7cf53 3 (some .int), Cond.methodLink RX0 186 yX0_fold, Cond.static yX0_fold, Cond.code yX0_fold cX0_fold 3 (some .int), Cond.methodLink RX0 58 yX0_swap, Cond.static yX0_swap, Cond.code yX0_swap cX0_swap 4 (some .int)]
def wsL_gap : List Cond := .codeWith yL_gap cL_gap 4 (some .int) [(0, 9, 12, 19)] :: ((wsL_gap_r1 ++ (wsL_gap_r2 ++ wsL_gap_r3)) ++ wsX00 ++ (vx_atS RX0 73 "java/lang/IndexOutOfBoundsException" ["java/lang/RuntimeException", "java/lang/Exception"]).filter goodWord)
def wsL_greyGap_r1 : List Cond := [Cond.classLink RL 19 "java/lang/IndexOutOfBoundsException", Cond.methodLink RL 53 yX0_greyGap, Cond.instanceMethod yX0_greyGap, Cond.selects RX0 yX0_greyGap yX0_greyGap, Cond.initialized RX0, Cond.code yX0_greyGap cX0_greyGap 8 (some .int), Cond.methodLink RX0 119 Lib.Math.min.name, Cond.static Lib.Math.min.name, Cond.initialized "java/lang/Math", Cond.code Lib.Math.min.name Lib.Math.min.code 2 (some .int), Cond.methodLink RX0 125 Lib.Math.max.name, Cond.static Lib.Math.max.name, Cond.code Lib.Math.max.name Lib.Math.max.code 2 (some .int), Cond.methodLink RX0 99 yX0_needChain, Cond.instanceMethod yX0_needChain, Cond.selects RX0 yX0_needChain yX0_needChain, Cond.code yX0_needChain cX0_needChain 2 none, Cond.classLink RX0 69 "java/lang/IndexOutOfBoundsException", Cond.initialized "java/lang/IndexOutOfBoundsException", Cond.fieldLink RX0 94 "GamutChain" "chains" "I", Cond.methodLink RX0 113 yX0_pass, Cond.instanceMethod yX0_pass, Cond.selects RX0 yX0_pass yX0_pass, Cond.code yX0_pass cX0_pass 7 (some .int)]
def wsL_greyGap_r2 : List Cond := [Cond.fieldLink RX0 25 "GamutChain" "lengths" "[I", Cond.fieldLink RX0 22 "GamutChain" "links" "[I", Cond.methodLink RX0 105 yX0_read, Cond.static yX0_read, Cond.code yX0_read cX0_read 2 (some .int), Cond.methodLink RX0 91 yX0_take, Cond.instanceMethod yX0_take, Cond.selects RX0 yX0_take yX0_take, Cond.code yX0_take cX0_take 8 (some .int), Cond.fieldLink RX0 13 "GamutChain" "leasts" "[I", Cond.fieldLink RX0 16 "GamutChain" "greatests" "[I", Cond.fieldLink RX0 19 "GamutChain" "ways" "[I", Cond.methodLink RX0 87 yX0_bent, Cond.instanceMethod yX0_bent, Cond.selects RX0 yX0_bent yX0_bent, Cond.code yX0_bent cX0_bent 4 (some .int), Cond.fieldLink RX0 9 "GamutChain" "bends" "[I", Cond.methodLink RX0 139 yX0_between, Cond.static yX0_between, Cond.code yX0_between cX0_between 7 (some .int), Cond.methodLink RX0 183 yJ9_floorDiv_7cf53, Cond.static yJ9_floorDiv_7cf53, Cond.initialized RJ9, Cond.code yJ9_floorDiv_7cf53 cJ9_floorDiv_7cf53 3 (some .int)]
def wsL_greyGap_r3 : List Cond := [Cond.methodLink RX0 186 yX0_fold, Cond.static yX0_fold, Cond.code yX0_fold cX0_fold 3 (some .int)]
def wsL_greyGap : List Cond := .codeWith yL_greyGap cL_greyGap 4 (some .int) [(0, 9, 12, 19)] :: ((wsL_greyGap_r1 ++ (wsL_greyGap_r2 ++ wsL_greyGap_r3)) ++ wsX00 ++ (vx_atS RX0 73 "java/lang/IndexOutOfBoundsException" ["java/lang/RuntimeException", "java/lang/Exception"]).filter goodWord)
def wsL_join_r1 : List Cond := [Cond.classLink RL 19 "java/lang/IndexOutOfBoundsException", Cond.classLink RL 21 "java/lang/IllegalArgumentException", Cond.classLink RL 13 "java/lang/IllegalStateException", Cond.methodLink RL 56 yX0_join, Cond.instanceMethod yX0_join, Cond.selects RX0 yX0_join yX0_join, Cond.initialized RX0, Cond.code yX0_join cX0_join 5 (some .int), Cond.classLink RX0 47 "java/lang/IllegalStateException", Cond.initialized "java/lang/IllegalStateException", Cond.fieldLink RX0 28 "GamutChain" "kept" "[I", Cond.fieldLink RX0 31 "GamutChain" "trial" "[I", Cond.fieldLink RX0 130 "GamutChain" "joinedChains" "I", Cond.methodLink RX0 99 yX0_needChain, Cond.instanceMethod yX0_needChain, Cond.selects RX0 yX0_needChain yX0_needChain, Cond.code yX0_needChain cX0_needChain 2 none, Cond.classLink RX0 69 "java/lang/IndexOutOfBoundsException", Cond.initialized "java/lang/IndexOutOfBoundsException", Cond.fieldLink RX0 94 "GamutChain" "chains" "I", Cond.methodLink RX0 74 yX0_needValue, Cond.static yX0_needValue, Cond.code yX0_needValue cX0_needValue 1 none, Cond.classLink RX0 80 "java/lang/IllegalArgumentException"]
def wsL_join_r2 : List Cond := [Cond.initialized "java/lang/IllegalArgumentException", Cond.methodLink RX0 116 yX0_tryJoining, Cond.instanceMethod yX0_tryJoining, Cond.selects RX0 yX0_tryJoining yX0_tryJoining, Cond.code yX0_tryJoining cX0_tryJoining 6 (some .int), Cond.methodLink RX0 189 Lib.Math.abs.name, Cond.static Lib.Math.abs.name, Cond.initialized "java/lang/Math", Cond.code Lib.Math.abs.name Lib.Math.abs.code 1 (some .int), Cond.methodLink RX0 125 Lib.Math.max.name, Cond.static Lib.Math.max.name, Cond.code Lib.Math.max.name Lib.Math.max.code 2 (some .int), Cond.methodLink RX0 54 yX0_valueOfPlace, Cond.static yX0_valueOfPlace, Cond.code yX0_valueOfPlace cX0_valueOfPlace 1 (some .int), Cond.methodLink RX0 119 Lib.Math.min.name, Cond.static Lib.Math.min.name, Cond.code Lib.Math.min.name Lib.Math.min.code 2 (some .int), Cond.methodLink RX0 113 yX0_pass, Cond.instanceMethod yX0_pass, Cond.selects RX0 yX0_pass yX0_pass, Cond.code yX0_pass cX0_pass 7 (some .int), Cond.fieldLink RX0 25 "GamutChain" "lengths" "[I", Cond.fieldLink RX0 22 "GamutChain" "links" "[I"]
def wsL_join_r3 : List Cond := [Cond.methodLink RX0 105 yX0_read, Cond.static yX0_read, Cond.code yX0_read cX0_read 2 (some .int), Cond.methodLink RX0 91 yX0_take, Cond.instanceMethod yX0_take, Cond.selects RX0 yX0_take yX0_take, Cond.code yX0_take cX0_take 8 (some .int), Cond.fieldLink RX0 13 "GamutChain" "leasts" "[I", Cond.fieldLink RX0 16 "GamutChain" "greatests" "[I", Cond.fieldLink RX0 19 "GamutChain" "ways" "[I", Cond.methodLink RX0 87 yX0_bent, Cond.instanceMethod yX0_bent, Cond.selects RX0 yX0_bent yX0_bent, Cond.code yX0_bent cX0_bent 4 (some .int), Cond.fieldLink RX0 9 "GamutChain" "bends" "[I", Cond.methodLink RX0 139 yX0_between, Cond.static yX0_between, Cond.code yX0_between cX0_between 7 (some .int), Cond.methodLink RX0 183 yJ9_floorDiv_7cf53, Cond.static yJ9_floorDiv_7cf53, Cond.initialized RJ9, Cond.code yJ9_floorDiv_7cf53 cJ9_floorDiv_7cf53 3 (some .int), Cond.methodLink RX0 186 yX0_fold, Cond.static yX0_fold]
def wsL_join_r4 : List Cond := [Cond.code yX0_fold cX0_fold 3 (some .int), Cond.methodLink RX0 58 yX0_swap, Cond.static yX0_swap, Cond.code yX0_swap cX0_swap 4 (some .int)]
def wsL_join : List Cond := .codeWith yL_join cL_join 5 (some .int) [(0, 10, 13, 19), (0, 10, 17, 21), (0, 10, 21, 13)] :: ((wsL_join_r1 ++ (wsL_join_r2 ++ (wsL_join_r3 ++ wsL_join_r4))) ++ wsX00 ++ (vx_atS RX0 51 "java/lang/IllegalStateException" ["java/lang/RuntimeException", "java/lang/Exception"]).filter goodWord ++ (vx_atS RX0 73 "java/lang/IndexOutOfBoundsException" ["java/lang/RuntimeException", "java/lang/Exception"]).filter goodWord ++ (vx_atS RX0 84 "java/lang/IllegalArgumentException" ["java/lang/RuntimeException", "java/lang/Exception"]).filter goodWord)
def wsL_joined_r1 : List Cond := [Cond.classLink RL 19 "java/lang/IndexOutOfBoundsException", Cond.classLink RL 21 "java/lang/IllegalArgumentException", Cond.classLink RL 13 "java/lang/IllegalStateException", Cond.methodLink RL 59 yX0_joined, Cond.instanceMethod yX0_joined, Cond.selects RX0 yX0_joined yX0_joined, Cond.initialized RX0, Cond.code yX0_joined cX0_joined 4 (some .int), Cond.classLink RX0 47 "java/lang/IllegalStateException", Cond.initialized "java/lang/IllegalStateException", Cond.fieldLink RX0 130 "GamutChain" "joinedChains" "I", Cond.fieldLink RX0 28 "GamutChain" "kept" "[I", Cond.methodLink RX0 99 yX0_needChain, Cond.instanceMethod yX0_needChain, Cond.selects RX0 yX0_needChain yX0_needChain, Cond.code yX0_needChain cX0_needChain 2 none, Cond.classLink RX0 69 "java/lang/IndexOutOfBoundsException", Cond.initialized "java/lang/IndexOutOfBoundsException", Cond.fieldLink RX0 94 "GamutChain" "chains" "I", Cond.methodLink RX0 66 yX0_needBand, Cond.static yX0_needBand, Cond.code yX0_needBand cX0_needBand 1 none, Cond.methodLink RX0 74 yX0_needValue, Cond.static yX0_needValue]
def wsL_joined_r2 : List Cond := [Cond.code yX0_needValue cX0_needValue 1 none, Cond.classLink RX0 80 "java/lang/IllegalArgumentException", Cond.initialized "java/lang/IllegalArgumentException", Cond.methodLink RX0 133 yX0_hasBit, Cond.static yX0_hasBit, Cond.code yX0_hasBit cX0_hasBit 2 (some .boolean), Cond.methodLink RX0 139 yX0_between, Cond.static yX0_between, Cond.code yX0_between cX0_between 7 (some .int), Cond.methodLink RX0 105 yX0_read, Cond.static yX0_read, Cond.code yX0_read cX0_read 2 (some .int), Cond.methodLink RX0 183 yJ9_floorDiv_7cf53, Cond.static yJ9_floorDiv_7cf53, Cond.initialized RJ9, Cond.code yJ9_floorDiv_7cf53 cJ9_floorDiv_7cf53 3 (some .int)]
def wsL_joined : List Cond := .codeWith yL_joined cL_joined 6 (some .int) [(0, 12, 15, 19), (0, 12, 19, 21), (0, 12, 23, 13)] :: ((wsL_joined_r1 ++ wsL_joined_r2) ++ wsX00 ++ (vx_atS RX0 51 "java/lang/IllegalStateException" ["java/lang/RuntimeException", "java/lang/Exception"]).filter goodWord ++ (vx_atS RX0 73 "java/lang/IndexOutOfBoundsException" ["java/lang/RuntimeException", "java/lang/Exception"]).filter goodWord ++ (vx_atS RX0 84 "java/lang/IllegalArgumentException" ["java/lang/RuntimeException", "java/lang/Exception"]).filter goodWord)
def wsL_sign : List Cond := .codeWith yL_sign cL_sign 4 (some .int) [(0, 16, 19, 19)] :: ([.classLink RL 19 "java/lang/IndexOutOfBoundsException", .methodLink RL 62 yX0_sign, .instanceMethod yX0_sign, .selects RX0 yX0_sign yX0_sign, .initialized RX0, .code yX0_sign cX0_sign 2 (some .boolean), .fieldLink RX0 146 "GamutChain" "signedChains" "I", .methodLink RX0 99 yX0_needChain, .instanceMethod yX0_needChain, .selects RX0 yX0_needChain yX0_needChain, .code yX0_needChain cX0_needChain 2 none, .classLink RX0 69 "java/lang/IndexOutOfBoundsException", .initialized "java/lang/IndexOutOfBoundsException", .fieldLink RX0 94 "GamutChain" "chains" "I", .methodLink RX0 133 yX0_hasBit, .static yX0_hasBit, .code yX0_hasBit cX0_hasBit 2 (some .boolean)] ++ wsX00 ++ (vx_atS RX0 73 "java/lang/IndexOutOfBoundsException" ["java/lang/RuntimeException", "java/lang/Exception"]).filter goodWord)
def wsL_paint : List Cond := .codeWith yL_paint cL_paint 6 (some .int) [(0, 12, 15, 19), (0, 12, 19, 21)] :: ([.classLink RL 19 "java/lang/IndexOutOfBoundsException", .classLink RL 21 "java/lang/IllegalArgumentException", .methodLink RL 66 yX0_paint, .instanceMethod yX0_paint, .selects RX0 yX0_paint yX0_paint, .initialized RX0, .code yX0_paint cX0_paint 4 (some .int), .fieldLink RX0 34 "GamutChain" "colours" "[I", .methodLink RX0 152 yX0_needPixel, .static yX0_needPixel, .code yX0_needPixel cX0_needPixel 1 none, .classLink RX0 69 "java/lang/IndexOutOfBoundsException", .initialized "java/lang/IndexOutOfBoundsException", .methodLink RX0 66 yX0_needBand, .static yX0_needBand, .code yX0_needBand cX0_needBand 1 none, .methodLink RX0 74 yX0_needValue, .static yX0_needValue, .code yX0_needValue cX0_needValue 1 none, .classLink RX0 80 "java/lang/IllegalArgumentException", .initialized "java/lang/IllegalArgumentException", .methodLink RX0 58 yX0_swap, .static yX0_swap, .code yX0_swap cX0_swap 4 (some .int)] ++ wsX00 ++ (vx_atS RX0 73 "java/lang/IndexOutOfBoundsException" ["java/lang/RuntimeException", "java/lang/Exception"]).filter goodWord ++ (vx_atS RX0 84 "java/lang/IllegalArgumentException" ["java/lang/RuntimeException", "java/lang/Exception"]).filter goodWord)
def wsL_spot : List Cond := .codeWith yL_spot cL_spot 6 (some .int) [(0, 12, 15, 19), (0, 12, 19, 21)] :: ([.classLink RL 19 "java/lang/IndexOutOfBoundsException", .classLink RL 21 "java/lang/IllegalArgumentException", .methodLink RL 69 yX0_spot, .instanceMethod yX0_spot, .selects RX0 yX0_spot yX0_spot, .initialized RX0, .code yX0_spot cX0_spot 4 (some .int), .fieldLink RX0 37 "GamutChain" "amounts" "[I", .methodLink RX0 152 yX0_needPixel, .static yX0_needPixel, .code yX0_needPixel cX0_needPixel 1 none, .classLink RX0 69 "java/lang/IndexOutOfBoundsException", .initialized "java/lang/IndexOutOfBoundsException", .methodLink RX0 155 yX0_needInk, .static yX0_needInk, .code yX0_needInk cX0_needInk 1 none, .methodLink RX0 74 yX0_needValue, .static yX0_needValue, .code yX0_needValue cX0_needValue 1 none, .classLink RX0 80 "java/lang/IllegalArgumentException", .initialized "java/lang/IllegalArgumentException", .methodLink RX0 58 yX0_swap, .static yX0_swap, .code yX0_swap cX0_swap 4 (some .int)] ++ wsX00 ++ (vx_atS RX0 73 "java/lang/IndexOutOfBoundsException" ["java/lang/RuntimeException", "java/lang/Exception"]).filter goodWord ++ (vx_atS RX0 84 "java/lang/IllegalArgumentException" ["java/lang/RuntimeException", "java/lang/Exception"]).filter goodWord)
def wsL_mix : List Cond := .codeWith yL_mix cL_mix 6 (some .int) [(0, 12, 15, 19), (0, 12, 19, 21)] :: ([.classLink RL 19 "java/lang/IndexOutOfBoundsException", .classLink RL 21 "java/lang/IllegalArgumentException", .methodLink RL 72 yX0_mix, .instanceMethod yX0_mix, .selects RX0 yX0_mix yX0_mix, .initialized RX0, .code yX0_mix cX0_mix 4 (some .int), .fieldLink RX0 40 "GamutChain" "mixes" "[I", .methodLink RX0 155 yX0_needInk, .static yX0_needInk, .code yX0_needInk cX0_needInk 1 none, .classLink RX0 69 "java/lang/IndexOutOfBoundsException", .initialized "java/lang/IndexOutOfBoundsException", .methodLink RX0 66 yX0_needBand, .static yX0_needBand, .code yX0_needBand cX0_needBand 1 none, .methodLink RX0 74 yX0_needValue, .static yX0_needValue, .code yX0_needValue cX0_needValue 1 none, .classLink RX0 80 "java/lang/IllegalArgumentException", .initialized "java/lang/IllegalArgumentException", .methodLink RX0 58 yX0_swap, .static yX0_swap, .code yX0_swap cX0_swap 4 (some .int)] ++ wsX00 ++ (vx_atS RX0 73 "java/lang/IndexOutOfBoundsException" ["java/lang/RuntimeException", "java/lang/Exception"]).filter goodWord ++ (vx_atS RX0 84 "java/lang/IllegalArgumentException" ["java/lang/RuntimeException", "java/lang/Exception"]).filter goodWord)
def wsL_shown_r1 : List Cond := [Cond.classLink RL 19 "java/lang/IndexOutOfBoundsException", Cond.classLink RL 21 "java/lang/IllegalArgumentException", Cond.methodLink RL 75 yX0_shown, Cond.instanceMethod yX0_shown, Cond.selects RX0 yX0_shown yX0_shown, Cond.initialized RX0, Cond.code yX0_shown cX0_shown 5 (some .int), Cond.classLink RX0 80 "java/lang/IllegalArgumentException", Cond.initialized "java/lang/IllegalArgumentException", Cond.methodLink RX0 99 yX0_needChain, Cond.instanceMethod yX0_needChain, Cond.selects RX0 yX0_needChain yX0_needChain, Cond.code yX0_needChain cX0_needChain 2 none, Cond.classLink RX0 69 "java/lang/IndexOutOfBoundsException", Cond.initialized "java/lang/IndexOutOfBoundsException", Cond.fieldLink RX0 94 "GamutChain" "chains" "I", Cond.methodLink RX0 152 yX0_needPixel, Cond.static yX0_needPixel, Cond.code yX0_needPixel cX0_needPixel 1 none, Cond.methodLink RX0 66 yX0_needBand, Cond.static yX0_needBand, Cond.code yX0_needBand cX0_needBand 1 none, Cond.methodLink RX0 160 yX0_inked, Cond.instanceMethod yX0_inked]
def wsL_shown_r2 : List Cond := [Cond.selects RX0 yX0_inked yX0_inked, Cond.code yX0_inked cX0_inked 7 (some .int), Cond.fieldLink RX0 34 "GamutChain" "colours" "[I", Cond.fieldLink RX0 40 "GamutChain" "mixes" "[I", Cond.fieldLink RX0 37 "GamutChain" "amounts" "[I", Cond.methodLink RX0 119 Lib.Math.min.name, Cond.static Lib.Math.min.name, Cond.initialized "java/lang/Math", Cond.code Lib.Math.min.name Lib.Math.min.code 2 (some .int), Cond.methodLink RX0 105 yX0_read, Cond.static yX0_read, Cond.code yX0_read cX0_read 2 (some .int), Cond.methodLink RX0 133 yX0_hasBit, Cond.static yX0_hasBit, Cond.code yX0_hasBit cX0_hasBit 2 (some .boolean), Cond.methodLink RX0 113 yX0_pass, Cond.instanceMethod yX0_pass, Cond.selects RX0 yX0_pass yX0_pass, Cond.code yX0_pass cX0_pass 7 (some .int), Cond.fieldLink RX0 25 "GamutChain" "lengths" "[I", Cond.fieldLink RX0 22 "GamutChain" "links" "[I", Cond.methodLink RX0 91 yX0_take, Cond.instanceMethod yX0_take, Cond.selects RX0 yX0_take yX0_take]
def wsL_shown_r3 : List Cond := [Cond.code yX0_take cX0_take 8 (some .int), Cond.fieldLink RX0 13 "GamutChain" "leasts" "[I", Cond.fieldLink RX0 16 "GamutChain" "greatests" "[I", Cond.fieldLink RX0 19 "GamutChain" "ways" "[I", Cond.methodLink RX0 125 Lib.Math.max.name, Cond.static Lib.Math.max.name, Cond.code Lib.Math.max.name Lib.Math.max.code 2 (some .int), Cond.methodLink RX0 87 yX0_bent, Cond.instanceMethod yX0_bent, Cond.selects RX0 yX0_bent yX0_bent, Cond.code yX0_bent cX0_bent 4 (some .int), Cond.fieldLink RX0 9 "GamutChain" "bends" "[I", Cond.methodLink RX0 139 yX0_between, Cond.static yX0_between, Cond.code yX0_between cX0_between 7 (some .int), Cond.methodLink RX0 183 yJ9_floorDiv_7cf53, Cond.static yJ9_floorDiv_7cf53, Cond.initialized RJ9, Cond.code yJ9_floorDiv_7cf53 cJ9_floorDiv_7cf53 3 (some .int), Cond.methodLink RX0 186 yX0_fold, Cond.static yX0_fold, Cond.code yX0_fold cX0_fold 3 (some .int)]
def wsL_shown : List Cond := .codeWith yL_shown cL_shown 7 (some .int) [(0, 14, 17, 19), (0, 14, 21, 21)] :: ((wsL_shown_r1 ++ (wsL_shown_r2 ++ wsL_shown_r3)) ++ wsX00 ++ (vx_atS RX0 84 "java/lang/IllegalArgumentException" ["java/lang/RuntimeException", "java/lang/Exception"]).filter goodWord ++ (vx_atS RX0 73 "java/lang/IndexOutOfBoundsException" ["java/lang/RuntimeException", "java/lang/Exception"]).filter goodWord)
def wsL_law0_r1 : List Cond := [Cond.classLink RL 8 RX0, Cond.instantiable RX0 15, Cond.initialized RX0, Cond.classLink RL 79 RX1, Cond.instantiable RX1 16, Cond.initialized RX1, Cond.arrayClass .long, Cond.methodLink RL 78 yX0_init, Cond.instanceMethod yX0_init, Cond.code yX0_init cX0_init 1 none, Cond.methodLink RX0 1 objectInit, Cond.instanceMethod objectInit, Cond.code objectInit ⟨#[0xb1]⟩ 1 none, Cond.arrayClass .int, Cond.fieldLink RX0 9 "GamutChain" "bends" "[I", Cond.fieldLink RX0 13 "GamutChain" "leasts" "[I", Cond.fieldLink RX0 16 "GamutChain" "greatests" "[I", Cond.fieldLink RX0 19 "GamutChain" "ways" "[I", Cond.fieldLink RX0 22 "GamutChain" "links" "[I", Cond.fieldLink RX0 25 "GamutChain" "lengths" "[I", Cond.fieldLink RX0 28 "GamutChain" "kept" "[I", Cond.fieldLink RX0 31 "GamutChain" "trial" "[I", Cond.fieldLink RX0 34 "GamutChain" "colours" "[I", Cond.fieldLink RX0 37 "GamutChain" "amounts" "[I"]
def wsL_law0_r2 : List Cond := [Cond.fieldLink RX0 40 "GamutChain" "mixes" "[I", Cond.methodLink RL 81 yX1_init, Cond.instanceMethod yX1_init, Cond.code yX1_init cX1_init 1 none, Cond.methodLink RX1 1 objectInit, Cond.fieldLink RX1 7 "GamutChainModel" "bends" "[I", Cond.fieldLink RX1 13 "GamutChainModel" "least" "[I", Cond.fieldLink RX1 16 "GamutChainModel" "greatest" "[I", Cond.fieldLink RX1 19 "GamutChainModel" "ways" "[I", Cond.fieldLink RX1 22 "GamutChainModel" "many" "[I", Cond.fieldLink RX1 25 "GamutChainModel" "links" "[I", Cond.arrayClass .boolean, Cond.fieldLink RX1 28 "GamutChainModel" "isJoined" "[Z", Cond.fieldLink RX1 32 "GamutChainModel" "isSigned" "[Z", Cond.fieldLink RX1 35 "GamutChainModel" "kept" "[I", Cond.fieldLink RX1 38 "GamutChainModel" "picture" "[I", Cond.fieldLink RX1 41 "GamutChainModel" "amounts" "[I", Cond.fieldLink RX1 44 "GamutChainModel" "mixes" "[I", Cond.fieldLink RX1 47 "GamutChainModel" "five" "[I", Cond.methodLink RL 82 yL_profile, Cond.static yL_profile, Cond.initialized RL, Cond.codeWith yL_profile cL_profile 3 (some .int) [(0, 8, 11, 13)], Cond.classLink RL 13 "java/lang/IllegalStateException"]
def wsL_law0_r3 : List Cond := [Cond.methodLink RL 7 yX0_profile, Cond.instanceMethod yX0_profile, Cond.selects RX0 yX0_profile yX0_profile, Cond.code yX0_profile cX0_profile 5 (some .int), Cond.classLink RX0 47 "java/lang/IllegalStateException", Cond.initialized "java/lang/IllegalStateException", Cond.fieldLink RX0 43 "GamutChain" "profiles" "I", Cond.methodLink RX0 54 yX0_valueOfPlace, Cond.static yX0_valueOfPlace, Cond.code yX0_valueOfPlace cX0_valueOfPlace 1 (some .int), Cond.methodLink RX0 119 Lib.Math.min.name, Cond.static Lib.Math.min.name, Cond.initialized "java/lang/Math", Cond.code Lib.Math.min.name Lib.Math.min.code 2 (some .int), Cond.methodLink RX0 58 yX0_swap, Cond.static yX0_swap, Cond.code yX0_swap cX0_swap 4 (some .int), Cond.methodLink RL 87 yX1_profile, Cond.instanceMethod yX1_profile, Cond.selects RX1 yX1_profile yX1_profile, Cond.code yX1_profile cX1_profile 3 (some .int), Cond.fieldLink RX1 58 "GamutChainModel" "profiles" "I", Cond.methodLink RX1 82 yX1_may, Cond.instanceMethod yX1_may]
def wsL_law0_r4 : List Cond := [Cond.selects RX1 yX1_may yX1_may, Cond.code yX1_may cX1_may 2 (some .boolean), Cond.fieldLink RX1 50 "GamutChainModel" "thrown" "I", Cond.methodLink RX1 64 yX1_placeAt, Cond.static yX1_placeAt, Cond.code yX1_placeAt cX1_placeAt 1 (some .int), Cond.methodLink RL 88 yX1_thrown, Cond.instanceMethod yX1_thrown, Cond.selects RX1 yX1_thrown yX1_thrown, Cond.code yX1_thrown cX1_thrown 1 (some .int), Cond.methodLink RL 91 yL_bend, Cond.static yL_bend, Cond.codeWith yL_bend cL_bend 7 (some .int) [(0, 14, 17, 19), (0, 14, 21, 21), (0, 14, 25, 13)], Cond.classLink RL 19 "java/lang/IndexOutOfBoundsException", Cond.classLink RL 21 "java/lang/IllegalArgumentException", Cond.methodLink RL 15 yX0_bend, Cond.instanceMethod yX0_bend, Cond.selects RX0 yX0_bend yX0_bend, Cond.code yX0_bend cX0_bend 5 (some .int), Cond.classLink RX0 69 "java/lang/IndexOutOfBoundsException", Cond.initialized "java/lang/IndexOutOfBoundsException", Cond.methodLink RX0 62 yX0_needProfile, Cond.instanceMethod yX0_needProfile, Cond.selects RX0 yX0_needProfile yX0_needProfile]
def wsL_law0_r5 : List Cond := [Cond.code yX0_needProfile cX0_needProfile 2 none, Cond.methodLink RX0 66 yX0_needBand, Cond.static yX0_needBand, Cond.code yX0_needBand cX0_needBand 1 none, Cond.methodLink RX0 74 yX0_needValue, Cond.static yX0_needValue, Cond.code yX0_needValue cX0_needValue 1 none, Cond.classLink RX0 80 "java/lang/IllegalArgumentException", Cond.initialized "java/lang/IllegalArgumentException", Cond.methodLink RX0 77 yX0_needFreeProfile, Cond.instanceMethod yX0_needFreeProfile, Cond.selects RX0 yX0_needFreeProfile yX0_needFreeProfile, Cond.code yX0_needFreeProfile cX0_needFreeProfile 2 none, Cond.methodLink RX0 175 yX0_held, Cond.instanceMethod yX0_held, Cond.selects RX0 yX0_held yX0_held, Cond.code yX0_held cX0_held 3 (some .int), Cond.fieldLink RX0 146 "GamutChain" "signedChains" "I", Cond.methodLink RX0 133 yX0_hasBit, Cond.static yX0_hasBit, Cond.code yX0_hasBit cX0_hasBit 2 (some .boolean), Cond.methodLink RX0 149 yX0_profilesOf, Cond.instanceMethod yX0_profilesOf, Cond.selects RX0 yX0_profilesOf yX0_profilesOf]
def wsL_law0_r6 : List Cond := [Cond.code yX0_profilesOf cX0_profilesOf 5 (some .int), Cond.methodLink RX0 105 yX0_read, Cond.static yX0_read, Cond.code yX0_read cX0_read 2 (some .int), Cond.methodLink RL 94 yX1_bend, Cond.instanceMethod yX1_bend, Cond.selects RX1 yX1_bend yX1_bend, Cond.code yX1_bend cX1_bend 7 (some .int), Cond.methodLink RX1 86 yX1_isProfile, Cond.instanceMethod yX1_isProfile, Cond.selects RX1 yX1_isProfile yX1_isProfile, Cond.code yX1_isProfile cX1_isProfile 2 (some .boolean), Cond.methodLink RX1 54 yX1_isIn, Cond.static yX1_isIn, Cond.code yX1_isIn cX1_isIn 3 (some .boolean), Cond.methodLink RX1 90 yX1_isThird, Cond.static yX1_isThird, Cond.code yX1_isThird cX1_isThird 1 (some .boolean), Cond.methodLink RX1 93 yX1_isByte, Cond.static yX1_isByte, Cond.code yX1_isByte cX1_isByte 1 (some .boolean), Cond.methodLink RX1 96 yX1_isHeld, Cond.instanceMethod yX1_isHeld, Cond.selects RX1 yX1_isHeld yX1_isHeld]
def wsL_law0_r7 : List Cond := [Cond.code yX1_isHeld cX1_isHeld 5 (some .boolean), Cond.fieldLink RX1 61 "GamutChainModel" "chains" "I", Cond.methodLink RX1 99 yX1_mayAll, Cond.instanceMethod yX1_mayAll, Cond.selects RX1 yX1_mayAll yX1_mayAll, Cond.code yX1_mayAll cX1_mayAll 4 (some .boolean), Cond.methodLink RL 95 yL_reach, Cond.static yL_reach, Cond.codeWith yL_reach cL_reach 7 (some .int) [(0, 14, 17, 19), (0, 14, 21, 21), (0, 14, 25, 13)], Cond.methodLink RL 23 yX0_reach, Cond.instanceMethod yX0_reach, Cond.selects RX0 yX0_reach yX0_reach, Cond.code yX0_reach cX0_reach 8 (some .int), Cond.methodLink RL 97 yX1_reach, Cond.instanceMethod yX1_reach, Cond.selects RX1 yX1_reach yX1_reach, Cond.code yX1_reach cX1_reach 7 (some .int), Cond.methodLink RL 98 yL_way, Cond.static yL_way, Cond.codeWith yL_way cL_way 5 (some .int) [(0, 10, 13, 19), (0, 10, 17, 21), (0, 10, 21, 13)], Cond.methodLink RL 26 yX0_way, Cond.instanceMethod yX0_way, Cond.selects RX0 yX0_way yX0_way, Cond.code yX0_way cX0_way 3 (some .int)]
def wsL_law0_r8 : List Cond := [Cond.methodLink RL 101 yX1_way, Cond.instanceMethod yX1_way, Cond.selects RX1 yX1_way yX1_way, Cond.code yX1_way cX1_way 5 (some .int), Cond.methodLink RL 102 yL_curve, Cond.static yL_curve, Cond.codeWith yL_curve cL_curve 6 (some .int) [(0, 12, 15, 19), (0, 12, 19, 21)], Cond.methodLink RL 30 yX0_curve, Cond.instanceMethod yX0_curve, Cond.selects RX0 yX0_curve yX0_curve, Cond.code yX0_curve cX0_curve 4 (some .int), Cond.methodLink RX0 87 yX0_bent, Cond.instanceMethod yX0_bent, Cond.selects RX0 yX0_bent yX0_bent, Cond.code yX0_bent cX0_bent 4 (some .int), Cond.methodLink RX0 139 yX0_between, Cond.static yX0_between, Cond.code yX0_between cX0_between 7 (some .int), Cond.methodLink RX0 183 yJ9_floorDiv_7cf53, Cond.static yJ9_floorDiv_7cf53, Cond.initialized RJ9, Cond.code yJ9_floorDiv_7cf53 cJ9_floorDiv_7cf53 3 (some .int), Cond.methodLink RL 105 yX1_curve, Cond.instanceMethod yX1_curve]
def wsL_law0_r9 : List Cond := [Cond.selects RX1 yX1_curve yX1_curve, Cond.code yX1_curve cX1_curve 4 (some .int), Cond.methodLink RX1 103 yX1_mayBoth, Cond.instanceMethod yX1_mayBoth, Cond.selects RX1 yX1_mayBoth yX1_mayBoth, Cond.code yX1_mayBoth cX1_mayBoth 3 (some .boolean), Cond.methodLink RX1 75 yX1_curveOf, Cond.instanceMethod yX1_curveOf, Cond.selects RX1 yX1_curveOf yX1_curveOf, Cond.code yX1_curveOf cX1_curveOf 5 (some .int), Cond.methodLink RX1 72 yX1_between, Cond.instanceMethod yX1_between, Cond.selects RX1 yX1_between yX1_between, Cond.code yX1_between cX1_between 3 (some .int), Cond.methodLink RX1 68 yX1_quotient, Cond.static yX1_quotient, Cond.code yX1_quotient cX1_quotient 3 (some .int), Cond.methodLink RL 106 yL_taken, Cond.static yL_taken, Cond.codeWith yL_taken cL_taken 6 (some .int) [(0, 12, 15, 19), (0, 12, 19, 21)], Cond.methodLink RL 34 yX0_taken, Cond.instanceMethod yX0_taken, Cond.selects RX0 yX0_taken yX0_taken, Cond.code yX0_taken cX0_taken 4 (some .int)]
def wsL_law0_r10 : List Cond := [Cond.methodLink RX0 91 yX0_take, Cond.instanceMethod yX0_take, Cond.selects RX0 yX0_take yX0_take, Cond.code yX0_take cX0_take 8 (some .int), Cond.methodLink RX0 125 Lib.Math.max.name, Cond.static Lib.Math.max.name, Cond.code Lib.Math.max.name Lib.Math.max.code 2 (some .int), Cond.methodLink RX0 186 yX0_fold, Cond.static yX0_fold, Cond.code yX0_fold cX0_fold 3 (some .int), Cond.methodLink RL 108 yX1_taken, Cond.instanceMethod yX1_taken, Cond.selects RX1 yX1_taken yX1_taken, Cond.code yX1_taken cX1_taken 4 (some .int), Cond.methodLink RX1 79 yX1_takenBy, Cond.instanceMethod yX1_takenBy, Cond.selects RX1 yX1_takenBy yX1_takenBy, Cond.code yX1_takenBy cX1_takenBy 7 (some .int), Cond.methodLink RL 109 yL_chain, Cond.static yL_chain, Cond.codeWith yL_chain cL_chain 3 (some .int) [(0, 8, 11, 13)], Cond.methodLink RL 37 yX0_chain, Cond.instanceMethod yX0_chain, Cond.selects RX0 yX0_chain yX0_chain]
def wsL_law0_r11 : List Cond := [Cond.code yX0_chain cX0_chain 2 (some .int), Cond.fieldLink RX0 94 "GamutChain" "chains" "I", Cond.methodLink RL 111 yX1_chain, Cond.instanceMethod yX1_chain, Cond.selects RX1 yX1_chain yX1_chain, Cond.code yX1_chain cX1_chain 1 (some .int), Cond.methodLink RL 112 yL_add, Cond.static yL_add, Cond.codeWith yL_add cL_add 5 (some .int) [(0, 10, 13, 19), (0, 10, 17, 13)], Cond.methodLink RL 40 yX0_add, Cond.instanceMethod yX0_add, Cond.selects RX0 yX0_add yX0_add, Cond.code yX0_add cX0_add 4 (some .int), Cond.methodLink RX0 99 yX0_needChain, Cond.instanceMethod yX0_needChain, Cond.selects RX0 yX0_needChain yX0_needChain, Cond.code yX0_needChain cX0_needChain 2 none, Cond.methodLink RX0 102 yX0_needFreeChain, Cond.instanceMethod yX0_needFreeChain, Cond.selects RX0 yX0_needFreeChain yX0_needFreeChain, Cond.code yX0_needFreeChain cX0_needFreeChain 2 none, Cond.methodLink RL 114 yX1_add, Cond.instanceMethod yX1_add, Cond.selects RX1 yX1_add yX1_add]
def wsL_law0_r12 : List Cond := [Cond.code yX1_add cX1_add 4 (some .int), Cond.methodLink RX1 107 yX1_isChain, Cond.instanceMethod yX1_isChain, Cond.selects RX1 yX1_isChain yX1_isChain, Cond.code yX1_isChain cX1_isChain 2 (some .boolean), Cond.methodLink RL 115 yL_drop, Cond.static yL_drop, Cond.codeWith yL_drop cL_drop 4 (some .int) [(0, 9, 12, 19), (0, 9, 15, 13)], Cond.methodLink RL 43 yX0_drop, Cond.instanceMethod yX0_drop, Cond.selects RX0 yX0_drop yX0_drop, Cond.code yX0_drop cX0_drop 3 (some .int), Cond.methodLink RL 118 yX1_drop, Cond.instanceMethod yX1_drop, Cond.selects RX1 yX1_drop yX1_drop, Cond.code yX1_drop cX1_drop 3 (some .int), Cond.methodLink RL 119 yL_through, Cond.static yL_through, Cond.codeWith yL_through cL_through 6 (some .int) [(0, 12, 15, 19), (0, 12, 19, 21)], Cond.methodLink RL 47 yX0_through, Cond.instanceMethod yX0_through, Cond.selects RX0 yX0_through yX0_through, Cond.code yX0_through cX0_through 4 (some .int), Cond.methodLink RX0 113 yX0_pass]
def wsL_law0_r13 : List Cond := [Cond.instanceMethod yX0_pass, Cond.selects RX0 yX0_pass yX0_pass, Cond.code yX0_pass cX0_pass 7 (some .int), Cond.methodLink RL 121 yX1_through, Cond.instanceMethod yX1_through, Cond.selects RX1 yX1_through yX1_through, Cond.code yX1_through cX1_through 4 (some .int), Cond.methodLink RX1 110 yX1_throughOf, Cond.instanceMethod yX1_throughOf, Cond.selects RX1 yX1_throughOf yX1_throughOf, Cond.code yX1_throughOf cX1_throughOf 6 (some .int), Cond.methodLink RL 122 yL_gap, Cond.static yL_gap, Cond.codeWith yL_gap cL_gap 4 (some .int) [(0, 9, 12, 19)], Cond.methodLink RL 50 yX0_gap, Cond.instanceMethod yX0_gap, Cond.selects RX0 yX0_gap yX0_gap, Cond.code yX0_gap cX0_gap 2 (some .int), Cond.methodLink RX0 116 yX0_tryJoining, Cond.instanceMethod yX0_tryJoining, Cond.selects RX0 yX0_tryJoining yX0_tryJoining, Cond.code yX0_tryJoining cX0_tryJoining 6 (some .int), Cond.methodLink RX0 189 Lib.Math.abs.name, Cond.static Lib.Math.abs.name]
def wsL_law0_r14 : List Cond := [Cond.code Lib.Math.abs.name Lib.Math.abs.code 1 (some .int), Cond.methodLink RL 124 yX1_gap, Cond.instanceMethod yX1_gap, Cond.selects RX1 yX1_gap yX1_gap, Cond.code yX1_gap cX1_gap 2 (some .int), Cond.methodLink RX1 116 yX1_gapOf, Cond.instanceMethod yX1_gapOf, Cond.selects RX1 yX1_gapOf yX1_gapOf, Cond.code yX1_gapOf cX1_gapOf 11 (some .int), Cond.methodLink RX1 113 yX1_apart, Cond.static yX1_apart, Cond.code yX1_apart cX1_apart 2 (some .int), Cond.methodLink RL 125 yL_greyGap, Cond.static yL_greyGap, Cond.codeWith yL_greyGap cL_greyGap 4 (some .int) [(0, 9, 12, 19)], Cond.methodLink RL 53 yX0_greyGap, Cond.instanceMethod yX0_greyGap, Cond.selects RX0 yX0_greyGap yX0_greyGap, Cond.code yX0_greyGap cX0_greyGap 8 (some .int), Cond.methodLink RL 127 yX1_greyGap, Cond.instanceMethod yX1_greyGap, Cond.selects RX1 yX1_greyGap yX1_greyGap, Cond.code yX1_greyGap cX1_greyGap 7 (some .int), Cond.methodLink RL 128 yL_join]
def wsL_law0_r15 : List Cond := [Cond.static yL_join, Cond.codeWith yL_join cL_join 5 (some .int) [(0, 10, 13, 19), (0, 10, 17, 21), (0, 10, 21, 13)], Cond.methodLink RL 56 yX0_join, Cond.instanceMethod yX0_join, Cond.selects RX0 yX0_join yX0_join, Cond.code yX0_join cX0_join 5 (some .int), Cond.fieldLink RX0 130 "GamutChain" "joinedChains" "I", Cond.methodLink RL 130 yX1_join, Cond.instanceMethod yX1_join, Cond.selects RX1 yX1_join yX1_join, Cond.code yX1_join cX1_join 7 (some .int), Cond.methodLink RL 131 yL_joined, Cond.static yL_joined, Cond.codeWith yL_joined cL_joined 6 (some .int) [(0, 12, 15, 19), (0, 12, 19, 21), (0, 12, 23, 13)], Cond.methodLink RL 59 yX0_joined, Cond.instanceMethod yX0_joined, Cond.selects RX0 yX0_joined yX0_joined, Cond.code yX0_joined cX0_joined 4 (some .int), Cond.methodLink RL 133 yX1_joined, Cond.instanceMethod yX1_joined, Cond.selects RX1 yX1_joined yX1_joined, Cond.code yX1_joined cX1_joined 6 (some .int), Cond.methodLink RL 134 yX0_stale, Cond.instanceMethod yX0_stale]
def wsL_law0_r16 : List Cond := [Cond.selects RX0 yX0_stale yX0_stale, Cond.code yX0_stale cX0_stale 3 (some .int), Cond.methodLink RX0 142 yX0_differsFromKept, Cond.instanceMethod yX0_differsFromKept, Cond.selects RX0 yX0_differsFromKept yX0_differsFromKept, Cond.code yX0_differsFromKept cX0_differsFromKept 5 (some .boolean), Cond.methodLink RL 137 yX1_stale, Cond.instanceMethod yX1_stale, Cond.selects RX1 yX1_stale yX1_stale, Cond.code yX1_stale cX1_stale 5 (some .int), Cond.methodLink RL 138 yL_sign, Cond.static yL_sign, Cond.codeWith yL_sign cL_sign 4 (some .int) [(0, 16, 19, 19)], Cond.methodLink RL 62 yX0_sign, Cond.instanceMethod yX0_sign, Cond.selects RX0 yX0_sign yX0_sign, Cond.code yX0_sign cX0_sign 2 (some .boolean), Cond.methodLink RL 140 yX1_sign, Cond.instanceMethod yX1_sign, Cond.selects RX1 yX1_sign yX1_sign, Cond.code yX1_sign cX1_sign 2 (some .boolean), Cond.methodLink RL 141 yX0_held, Cond.methodLink RL 144 yX1_held, Cond.instanceMethod yX1_held]
def wsL_law0_r17 : List Cond := [Cond.selects RX1 yX1_held yX1_held, Cond.code yX1_held cX1_held 3 (some .int), Cond.methodLink RL 145 yL_paint, Cond.static yL_paint, Cond.codeWith yL_paint cL_paint 6 (some .int) [(0, 12, 15, 19), (0, 12, 19, 21)], Cond.methodLink RL 66 yX0_paint, Cond.instanceMethod yX0_paint, Cond.selects RX0 yX0_paint yX0_paint, Cond.code yX0_paint cX0_paint 4 (some .int), Cond.methodLink RX0 152 yX0_needPixel, Cond.static yX0_needPixel, Cond.code yX0_needPixel cX0_needPixel 1 none, Cond.methodLink RL 147 yX1_paint, Cond.instanceMethod yX1_paint, Cond.selects RX1 yX1_paint yX1_paint, Cond.code yX1_paint cX1_paint 5 (some .int), Cond.methodLink RX1 119 yX1_isPixel, Cond.static yX1_isPixel, Cond.code yX1_isPixel cX1_isPixel 1 (some .boolean), Cond.methodLink RL 148 yL_spot, Cond.static yL_spot, Cond.codeWith yL_spot cL_spot 6 (some .int) [(0, 12, 15, 19), (0, 12, 19, 21)], Cond.methodLink RL 69 yX0_spot, Cond.instanceMethod yX0_spot]
def wsL_law0_r18 : List Cond := [Cond.selects RX0 yX0_spot yX0_spot, Cond.code yX0_spot cX0_spot 4 (some .int), Cond.methodLink RX0 155 yX0_needInk, Cond.static yX0_needInk, Cond.code yX0_needInk cX0_needInk 1 none, Cond.methodLink RL 150 yX1_spot, Cond.instanceMethod yX1_spot, Cond.selects RX1 yX1_spot yX1_spot, Cond.code yX1_spot cX1_spot 5 (some .int), Cond.methodLink RL 151 yL_mix, Cond.static yL_mix, Cond.codeWith yL_mix cL_mix 6 (some .int) [(0, 12, 15, 19), (0, 12, 19, 21)], Cond.methodLink RL 72 yX0_mix, Cond.instanceMethod yX0_mix, Cond.selects RX0 yX0_mix yX0_mix, Cond.code yX0_mix cX0_mix 4 (some .int), Cond.methodLink RL 153 yX1_mix, Cond.instanceMethod yX1_mix, Cond.selects RX1 yX1_mix yX1_mix, Cond.code yX1_mix cX1_mix 5 (some .int), Cond.methodLink RL 154 yL_shown, Cond.static yL_shown, Cond.codeWith yL_shown cL_shown 7 (some .int) [(0, 14, 17, 19), (0, 14, 21, 21)], Cond.methodLink RL 75 yX0_shown]
def wsL_law0_r19 : List Cond := [Cond.instanceMethod yX0_shown, Cond.selects RX0 yX0_shown yX0_shown, Cond.code yX0_shown cX0_shown 5 (some .int), Cond.methodLink RX0 160 yX0_inked, Cond.instanceMethod yX0_inked, Cond.selects RX0 yX0_inked yX0_inked, Cond.code yX0_inked cX0_inked 7 (some .int), Cond.methodLink RL 156 yX1_shown, Cond.instanceMethod yX1_shown, Cond.selects RX1 yX1_shown yX1_shown, Cond.code yX1_shown cX1_shown 7 (some .int)]
def wsL_law0 : List Cond := (wsL_law0_r1 ++ (wsL_law0_r2 ++ (wsL_law0_r3 ++ (wsL_law0_r4 ++ (wsL_law0_r5 ++ (wsL_law0_r6 ++ (wsL_law0_r7 ++ (wsL_law0_r8 ++ (wsL_law0_r9 ++ (wsL_law0_r10 ++ (wsL_law0_r11 ++ (wsL_law0_r12 ++ (wsL_law0_r13 ++ (wsL_law0_r14 ++ (wsL_law0_r15 ++ (wsL_law0_r16 ++ (wsL_law0_r17 ++ (wsL_law0_r18 ++ wsL_law0_r19)))))))))))))))))) ++ wsX00 ++ wsX10 ++ ([] : List Cond)
def wsL_law : List Cond := wsL_law0 ++ (vx_atS RX0 51 "java/lang/IllegalStateException" ["java/lang/RuntimeException", "java/lang/Exception"]).filter goodWord ++ (vx_atS RX0 73 "java/lang/IndexOutOfBoundsException" ["java/lang/RuntimeException", "java/lang/Exception"]).filter goodWord ++ (vx_atS RX0 84 "java/lang/IllegalArgumentException" ["java/lang/RuntimeException", "java/lang/Exception"]).filter goodWord
set_option maxRecDepth 20000 in
theorem wsL_law_in0 : ∀ w ∈ wsL_law0, w ∈ lw_tbl := fun w h => (goodIn_p wsL_law0 [37, 40, 438, 147, 104, 107, 218, 497, 501, 504, 493, 227, 231, 250, 255, 275, 135, 94, 139, 101, 508, 512, 515, 518, 521, 525, 529, 284, 533, 292, 537, 300, 119, 122, 125, 541, 545, 549, 553, 556, 307, 115, 131, 128, 560, 564, 314, 568, 322, 326, 331, 572, 576, 340, 580, 348, 111, 584, 588, 355, 359, 362, 592, 596, 599, 369, 603, 376, 607, 384, 611, 91, 98, 615, 392, 619, 623, 399, 402, 627, 630, 410, 413, 634, 421, 638, 428, 433, 642] (by decide +kernel) (by decide +kernel) w h).1
theorem wsL_law_x0 : ∀ w ∈ (vx_atS RX0 51 "java/lang/IllegalStateException" ["java/lang/RuntimeException", "java/lang/Exception"]).filter goodWord, w ∈ lw_tbl := by decide +kernel
theorem wsL_law_x1 : ∀ w ∈ (vx_atS RX0 73 "java/lang/IndexOutOfBoundsException" ["java/lang/RuntimeException", "java/lang/Exception"]).filter goodWord, w ∈ lw_tbl := by decide +kernel
theorem wsL_law_x2 : ∀ w ∈ (vx_atS RX0 84 "java/lang/IllegalArgumentException" ["java/lang/RuntimeException", "java/lang/Exception"]).filter goodWord, w ∈ lw_tbl := by decide +kernel
theorem wsL_law_in : ∀ w ∈ wsL_law, w ∈ lw_tbl := fun w h => (List.mem_append.mp h).elim (fun h => (List.mem_append.mp h).elim (fun h => (List.mem_append.mp h).elim (fun h => wsL_law_in0 w h) (fun h => wsL_law_x0 w h)) (fun h => wsL_law_x1 w h)) (fun h => wsL_law_x2 w h)
theorem inlX0 : ∀ w ∈ wsX00, w ∈ wsL_law := fun _ h => List.mem_append_left _ (List.mem_append_left _ (List.mem_append_left _ (List.mem_append_left _ (List.mem_append_left _ (List.mem_append_right _ h)))))
theorem inX0 : ∀ w ∈ wsX00, w ∈ lw_tbl := fun w h => wsL_law_in w (inlX0 w h)
theorem inlX1 : ∀ w ∈ wsX10, w ∈ wsL_law := fun _ h => List.mem_append_left _ (List.mem_append_left _ (List.mem_append_left _ (List.mem_append_left _ (List.mem_append_right _ h))))
theorem inX1 : ∀ w ∈ wsX10, w ∈ lw_tbl := fun w h => wsL_law_in w (inlX1 w h)
theorem inJ9 : ∀ w ∈ wsJ90, w ∈ lw_tbl := by decide +kernel
theorem inJ0 : ∀ w ∈ wsJ00, w ∈ lw_tbl := by decide +kernel
theorem dX0_init_0 : decode cX0_init 0 = .ok (.aload_n 0, 1) := by decide +kernel
theorem dX0_init_1 : decode cX0_init 1 = .ok (.invokespecial 1, 3) := by decide +kernel
theorem dX0_init_4 : decode cX0_init 4 = .ok (.aload_n 0, 1) := by decide +kernel
theorem dX0_init_5 : decode cX0_init 5 = .ok (.bipush 120, 2) := by decide +kernel
theorem dX0_init_7 : decode cX0_init 7 = .ok (.newarray .int, 2) := by decide +kernel
theorem dX0_init_9 : decode cX0_init 9 = .ok (.putfield 9, 3) := by decide +kernel
theorem dX0_init_12 : decode cX0_init 12 = .ok (.aload_n 0, 1) := by decide +kernel
theorem dX0_init_13 : decode cX0_init 13 = .ok (.bipush 24, 2) := by decide +kernel
theorem dX0_init_15 : decode cX0_init 15 = .ok (.newarray .int, 2) := by decide +kernel
theorem dX0_init_17 : decode cX0_init 17 = .ok (.putfield 13, 3) := by decide +kernel
theorem dX0_init_20 : decode cX0_init 20 = .ok (.aload_n 0, 1) := by decide +kernel
theorem dX0_init_21 : decode cX0_init 21 = .ok (.bipush 24, 2) := by decide +kernel
theorem dX0_init_23 : decode cX0_init 23 = .ok (.newarray .int, 2) := by decide +kernel
theorem dX0_init_25 : decode cX0_init 25 = .ok (.putfield 16, 3) := by decide +kernel
theorem dX0_init_28 : decode cX0_init 28 = .ok (.aload_n 0, 1) := by decide +kernel
theorem dX0_init_29 : decode cX0_init 29 = .ok (.bipush 8, 2) := by decide +kernel
theorem dX0_init_31 : decode cX0_init 31 = .ok (.newarray .int, 2) := by decide +kernel
theorem dX0_init_33 : decode cX0_init 33 = .ok (.putfield 19, 3) := by decide +kernel
theorem dX0_init_36 : decode cX0_init 36 = .ok (.aload_n 0, 1) := by decide +kernel
theorem dX0_init_37 : decode cX0_init 37 = .ok (.bipush 36, 2) := by decide +kernel
theorem dX0_init_39 : decode cX0_init 39 = .ok (.newarray .int, 2) := by decide +kernel
theorem dX0_init_41 : decode cX0_init 41 = .ok (.putfield 22, 3) := by decide +kernel
theorem dX0_init_44 : decode cX0_init 44 = .ok (.aload_n 0, 1) := by decide +kernel
theorem dX0_init_45 : decode cX0_init 45 = .ok (.bipush 6, 2) := by decide +kernel
theorem dX0_init_47 : decode cX0_init 47 = .ok (.newarray .int, 2) := by decide +kernel
theorem dX0_init_49 : decode cX0_init 49 = .ok (.putfield 25, 3) := by decide +kernel
theorem dX0_init_52 : decode cX0_init 52 = .ok (.aload_n 0, 1) := by decide +kernel
theorem dX0_init_53 : decode cX0_init 53 = .ok (.bipush 90, 2) := by decide +kernel
theorem dX0_init_55 : decode cX0_init 55 = .ok (.newarray .int, 2) := by decide +kernel
theorem dX0_init_57 : decode cX0_init 57 = .ok (.putfield 28, 3) := by decide +kernel
theorem dX0_init_60 : decode cX0_init 60 = .ok (.aload_n 0, 1) := by decide +kernel
theorem dX0_init_61 : decode cX0_init 61 = .ok (.bipush 15, 2) := by decide +kernel
theorem dX0_init_63 : decode cX0_init 63 = .ok (.newarray .int, 2) := by decide +kernel
theorem dX0_init_65 : decode cX0_init 65 = .ok (.putfield 31, 3) := by decide +kernel
theorem dX0_init_68 : decode cX0_init 68 = .ok (.aload_n 0, 1) := by decide +kernel
theorem dX0_init_69 : decode cX0_init 69 = .ok (.bipush 18, 2) := by decide +kernel
theorem dX0_init_71 : decode cX0_init 71 = .ok (.newarray .int, 2) := by decide +kernel
theorem dX0_init_73 : decode cX0_init 73 = .ok (.putfield 34, 3) := by decide +kernel
theorem dX0_init_76 : decode cX0_init 76 = .ok (.aload_n 0, 1) := by decide +kernel
theorem dX0_init_77 : decode cX0_init 77 = .ok (.bipush 18, 2) := by decide +kernel
theorem dX0_init_79 : decode cX0_init 79 = .ok (.newarray .int, 2) := by decide +kernel
theorem dX0_init_81 : decode cX0_init 81 = .ok (.putfield 37, 3) := by decide +kernel
theorem dX0_init_84 : decode cX0_init 84 = .ok (.aload_n 0, 1) := by decide +kernel
theorem dX0_init_85 : decode cX0_init 85 = .ok (.bipush 9, 2) := by decide +kernel
theorem dX0_init_87 : decode cX0_init 87 = .ok (.newarray .int, 2) := by decide +kernel
theorem dX0_init_89 : decode cX0_init 89 = .ok (.putfield 40, 3) := by decide +kernel
theorem dX0_init_92 : decode cX0_init 92 = .ok (.return_, 1) := by decide +kernel
set_option maxRecDepth 20000 in
theorem ggX0_profile_X0_valueOfPlace : GoodIn wsX0_profile wsX0_valueOfPlace := goodIn_r _ [11, 12, 13, 14, 15] (by decide +kernel) (by decide +kernel)
set_option maxRecDepth 20000 in
theorem gX0_profile_X0_valueOfPlace : GoodIn wsX0_profile (va_wsS RX0 54 yX0_valueOfPlace wsX0_valueOfPlace) := goodIn_app (goodIn_of _ (by decide +kernel)) ggX0_profile_X0_valueOfPlace
set_option maxRecDepth 20000 in
theorem ggX0_profile_X0_swap : GoodIn wsX0_profile wsX0_swap := goodIn_r _ [18] (by decide +kernel) (by decide +kernel)
set_option maxRecDepth 20000 in
theorem gX0_profile_X0_swap : GoodIn wsX0_profile (va_wsS RX0 58 yX0_swap wsX0_swap) := goodIn_app (goodIn_of _ (by decide +kernel)) ggX0_profile_X0_swap
theorem dX0_profile_0 : decode cX0_profile 0 = .ok (.aload_n 0, 1) := by decide +kernel
theorem dX0_profile_1 : decode cX0_profile 1 = .ok (.getfield 43, 3) := by decide +kernel
theorem dX0_profile_4 : decode cX0_profile 4 = .ok (.bipush 8, 2) := by decide +kernel
theorem dX0_profile_6 : decode cX0_profile 6 = .ok (.if_icmp .lt 13, 3) := by decide +kernel
theorem dX0_profile_9 : decode cX0_profile 9 = .ok (.new 47, 3) := by decide +kernel
theorem dX0_profile_12 : decode cX0_profile 12 = .ok (.dup, 1) := by decide +kernel
theorem dX0_profile_13 : decode cX0_profile 13 = .ok (.ldc 49, 2) := by decide +kernel
theorem dX0_profile_15 : decode cX0_profile 15 = .ok (.invokespecial 51, 3) := by decide +kernel
theorem dX0_profile_18 : decode cX0_profile 18 = .ok (.athrow, 1) := by decide +kernel
theorem dX0_profile_19 : decode cX0_profile 19 = .ok (.aload_n 0, 1) := by decide +kernel
theorem dX0_profile_20 : decode cX0_profile 20 = .ok (.getfield 43, 3) := by decide +kernel
theorem dX0_profile_23 : decode cX0_profile 23 = .ok (.istore_n 1, 1) := by decide +kernel
theorem dX0_profile_24 : decode cX0_profile 24 = .ok (.iconst 0, 1) := by decide +kernel
theorem dX0_profile_25 : decode cX0_profile 25 = .ok (.istore_n 2, 1) := by decide +kernel
theorem dX0_profile_26 : decode cX0_profile 26 = .ok (.iload_n 2, 1) := by decide +kernel
theorem dX0_profile_27 : decode cX0_profile 27 = .ok (.iconst 3, 1) := by decide +kernel
theorem dX0_profile_28 : decode cX0_profile 28 = .ok (.if_icmp .ge 71, 3) := by decide +kernel
theorem dX0_profile_31 : decode cX0_profile 31 = .ok (.iload_n 1, 1) := by decide +kernel
theorem dX0_profile_32 : decode cX0_profile 32 = .ok (.iconst 3, 1) := by decide +kernel
theorem dX0_profile_33 : decode cX0_profile 33 = .ok (.imul, 1) := by decide +kernel
theorem dX0_profile_34 : decode cX0_profile 34 = .ok (.iload_n 2, 1) := by decide +kernel
theorem dX0_profile_35 : decode cX0_profile 35 = .ok (.iadd, 1) := by decide +kernel
theorem dX0_profile_36 : decode cX0_profile 36 = .ok (.istore_n 3, 1) := by decide +kernel
theorem dX0_profile_37 : decode cX0_profile 37 = .ok (.iconst 0, 1) := by decide +kernel
theorem dX0_profile_38 : decode cX0_profile 38 = .ok (.istore 4, 2) := by decide +kernel
theorem dX0_profile_40 : decode cX0_profile 40 = .ok (.iload 4, 2) := by decide +kernel
theorem dX0_profile_42 : decode cX0_profile 42 = .ok (.iconst 5, 1) := by decide +kernel
theorem dX0_profile_43 : decode cX0_profile 43 = .ok (.if_icmp .ge 28, 3) := by decide +kernel
theorem dX0_profile_46 : decode cX0_profile 46 = .ok (.aload_n 0, 1) := by decide +kernel
theorem dX0_profile_47 : decode cX0_profile 47 = .ok (.getfield 9, 3) := by decide +kernel
theorem dX0_profile_50 : decode cX0_profile 50 = .ok (.iload_n 3, 1) := by decide +kernel
theorem dX0_profile_51 : decode cX0_profile 51 = .ok (.iconst 5, 1) := by decide +kernel
theorem dX0_profile_52 : decode cX0_profile 52 = .ok (.imul, 1) := by decide +kernel
theorem dX0_profile_53 : decode cX0_profile 53 = .ok (.iload 4, 2) := by decide +kernel
theorem dX0_profile_55 : decode cX0_profile 55 = .ok (.iadd, 1) := by decide +kernel
theorem dX0_profile_56 : decode cX0_profile 56 = .ok (.iload 4, 2) := by decide +kernel
theorem dX0_profile_58 : decode cX0_profile 58 = .ok (.invokestatic 54, 3) := by decide +kernel
theorem dX0_profile_61 : decode cX0_profile 61 = .ok (.invokestatic 58, 3) := by decide +kernel
theorem dX0_profile_64 : decode cX0_profile 64 = .ok (.pop, 1) := by decide +kernel
theorem dX0_profile_65 : decode cX0_profile 65 = .ok (.iinc 4 1, 3) := by decide +kernel
theorem dX0_profile_68 : decode cX0_profile 68 = .ok (.goto (-28), 3) := by decide +kernel
theorem dX0_profile_71 : decode cX0_profile 71 = .ok (.aload_n 0, 1) := by decide +kernel
theorem dX0_profile_72 : decode cX0_profile 72 = .ok (.getfield 13, 3) := by decide +kernel
theorem dX0_profile_75 : decode cX0_profile 75 = .ok (.iload_n 3, 1) := by decide +kernel
theorem dX0_profile_76 : decode cX0_profile 76 = .ok (.iconst 0, 1) := by decide +kernel
theorem dX0_profile_77 : decode cX0_profile 77 = .ok (.invokestatic 58, 3) := by decide +kernel
theorem dX0_profile_80 : decode cX0_profile 80 = .ok (.pop, 1) := by decide +kernel
theorem dX0_profile_81 : decode cX0_profile 81 = .ok (.aload_n 0, 1) := by decide +kernel
theorem dX0_profile_82 : decode cX0_profile 82 = .ok (.getfield 16, 3) := by decide +kernel
theorem dX0_profile_85 : decode cX0_profile 85 = .ok (.iload_n 3, 1) := by decide +kernel
theorem dX0_profile_86 : decode cX0_profile 86 = .ok (.sipush 255, 3) := by decide +kernel
theorem dX0_profile_89 : decode cX0_profile 89 = .ok (.invokestatic 58, 3) := by decide +kernel
theorem dX0_profile_92 : decode cX0_profile 92 = .ok (.pop, 1) := by decide +kernel
theorem dX0_profile_93 : decode cX0_profile 93 = .ok (.iinc 2 1, 3) := by decide +kernel
theorem dX0_profile_96 : decode cX0_profile 96 = .ok (.goto (-70), 3) := by decide +kernel
theorem dX0_profile_99 : decode cX0_profile 99 = .ok (.aload_n 0, 1) := by decide +kernel
theorem dX0_profile_100 : decode cX0_profile 100 = .ok (.getfield 19, 3) := by decide +kernel
theorem dX0_profile_103 : decode cX0_profile 103 = .ok (.iload_n 1, 1) := by decide +kernel
theorem dX0_profile_104 : decode cX0_profile 104 = .ok (.iconst 0, 1) := by decide +kernel
theorem dX0_profile_105 : decode cX0_profile 105 = .ok (.invokestatic 58, 3) := by decide +kernel
theorem dX0_profile_108 : decode cX0_profile 108 = .ok (.pop, 1) := by decide +kernel
theorem dX0_profile_109 : decode cX0_profile 109 = .ok (.aload_n 0, 1) := by decide +kernel
theorem dX0_profile_110 : decode cX0_profile 110 = .ok (.dup, 1) := by decide +kernel
theorem dX0_profile_111 : decode cX0_profile 111 = .ok (.getfield 43, 3) := by decide +kernel
theorem dX0_profile_114 : decode cX0_profile 114 = .ok (.iconst 1, 1) := by decide +kernel
theorem dX0_profile_115 : decode cX0_profile 115 = .ok (.iadd, 1) := by decide +kernel
theorem dX0_profile_116 : decode cX0_profile 116 = .ok (.putfield 43, 3) := by decide +kernel
theorem dX0_profile_119 : decode cX0_profile 119 = .ok (.iload_n 1, 1) := by decide +kernel
theorem dX0_profile_120 : decode cX0_profile 120 = .ok (.ireturn, 1) := by decide +kernel
set_option maxRecDepth 20000 in
theorem ggX0_bend_X0_needProfile : GoodIn wsX0_bend wsX0_needProfile := goodIn_ca (goodIn_r _ [8, 1, 2, 9, 44, 45, 46, 47, 48, 49, 50, 51, 52, 53, 54, 55, 56, 57, 58] (by decide +kernel) (by decide +kernel)) (goodIn_sub (fun _ h => List.mem_cons_of_mem _ (List.mem_append_left _ (List.mem_append_left _ (List.mem_append_right _ h)))) (by decide +kernel))
set_option maxRecDepth 20000 in
theorem gX0_bend_X0_needProfile : GoodIn wsX0_bend (wsV RX0 62 RX0 yX0_needProfile wsX0_needProfile) := goodIn_app (goodIn_of _ (by decide +kernel)) ggX0_bend_X0_needProfile
set_option maxRecDepth 20000 in
theorem ggX0_bend_X0_needBand : GoodIn wsX0_bend wsX0_needBand := goodIn_ca (goodIn_r _ [12, 1, 2] (by decide +kernel) (by decide +kernel)) (goodIn_sub (fun _ h => List.mem_cons_of_mem _ (List.mem_append_left _ (List.mem_append_left _ (List.mem_append_right _ h)))) (by decide +kernel))
set_option maxRecDepth 20000 in
theorem gX0_bend_X0_needBand : GoodIn wsX0_bend (va_wsS RX0 66 yX0_needBand wsX0_needBand) := goodIn_app (goodIn_of _ (by decide +kernel)) ggX0_bend_X0_needBand
set_option maxRecDepth 20000 in
theorem ggX0_bend_X0_needValue : GoodIn wsX0_bend wsX0_needValue := goodIn_ca (goodIn_r _ [15, 16, 17] (by decide +kernel) (by decide +kernel)) (goodIn_sub (fun _ h => List.mem_cons_of_mem _ (List.mem_append_left _ (List.mem_append_right _ h))) (by decide +kernel))
set_option maxRecDepth 20000 in
theorem gX0_bend_X0_needValue : GoodIn wsX0_bend (va_wsS RX0 74 yX0_needValue wsX0_needValue) := goodIn_app (goodIn_of _ (by decide +kernel)) ggX0_bend_X0_needValue
set_option maxRecDepth 20000 in
theorem ggX0_bend_X0_needFreeProfile : GoodIn wsX0_bend wsX0_needFreeProfile := goodIn_ca (goodIn_r _ [21, 22, 23, 24, 25, 26, 7, 27, 28, 29, 30, 31, 32, 33, 34, 35, 36, 37, 38, 39, 40, 44, 45, 46, 47, 48, 49, 50, 51, 52, 53, 54, 55, 56, 57, 58] (by decide +kernel) (by decide +kernel)) (goodIn_sub (fun _ h => List.mem_cons_of_mem _ (List.mem_append_right _ h)) (by decide +kernel))
set_option maxRecDepth 20000 in
theorem gX0_bend_X0_needFreeProfile : GoodIn wsX0_bend (wsV RX0 77 RX0 yX0_needFreeProfile wsX0_needFreeProfile) := goodIn_app (goodIn_of _ (by decide +kernel)) ggX0_bend_X0_needFreeProfile
set_option maxRecDepth 20000 in
theorem ggX0_bend_X0_swap : GoodIn wsX0_bend wsX0_swap := goodIn_r _ [43] (by decide +kernel) (by decide +kernel)
set_option maxRecDepth 20000 in
theorem gX0_bend_X0_swap : GoodIn wsX0_bend (va_wsS RX0 58 yX0_swap wsX0_swap) := goodIn_app (goodIn_of _ (by decide +kernel)) ggX0_bend_X0_swap
theorem dX0_bend_0 : decode cX0_bend 0 = .ok (.aload_n 0, 1) := by decide +kernel
theorem dX0_bend_1 : decode cX0_bend 1 = .ok (.iload_n 1, 1) := by decide +kernel
theorem dX0_bend_2 : decode cX0_bend 2 = .ok (.invokevirtual 62, 3) := by decide +kernel
theorem dX0_bend_5 : decode cX0_bend 5 = .ok (.iload_n 2, 1) := by decide +kernel
theorem dX0_bend_6 : decode cX0_bend 6 = .ok (.invokestatic 66, 3) := by decide +kernel
theorem dX0_bend_9 : decode cX0_bend 9 = .ok (.iload_n 3, 1) := by decide +kernel
theorem dX0_bend_10 : decode cX0_bend 10 = .ok (.ifCond .lt 8, 3) := by decide +kernel
theorem dX0_bend_13 : decode cX0_bend 13 = .ok (.iload_n 3, 1) := by decide +kernel
theorem dX0_bend_14 : decode cX0_bend 14 = .ok (.iconst 5, 1) := by decide +kernel
theorem dX0_bend_15 : decode cX0_bend 15 = .ok (.if_icmp .lt 13, 3) := by decide +kernel
theorem dX0_bend_18 : decode cX0_bend 18 = .ok (.new 69, 3) := by decide +kernel
theorem dX0_bend_21 : decode cX0_bend 21 = .ok (.dup, 1) := by decide +kernel
theorem dX0_bend_22 : decode cX0_bend 22 = .ok (.ldc 71, 2) := by decide +kernel
theorem dX0_bend_24 : decode cX0_bend 24 = .ok (.invokespecial 73, 3) := by decide +kernel
theorem dX0_bend_27 : decode cX0_bend 27 = .ok (.athrow, 1) := by decide +kernel
theorem dX0_bend_28 : decode cX0_bend 28 = .ok (.iload 4, 2) := by decide +kernel
theorem dX0_bend_30 : decode cX0_bend 30 = .ok (.invokestatic 74, 3) := by decide +kernel
theorem dX0_bend_33 : decode cX0_bend 33 = .ok (.aload_n 0, 1) := by decide +kernel
theorem dX0_bend_34 : decode cX0_bend 34 = .ok (.iload_n 1, 1) := by decide +kernel
theorem dX0_bend_35 : decode cX0_bend 35 = .ok (.invokevirtual 77, 3) := by decide +kernel
theorem dX0_bend_38 : decode cX0_bend 38 = .ok (.aload_n 0, 1) := by decide +kernel
theorem dX0_bend_39 : decode cX0_bend 39 = .ok (.getfield 9, 3) := by decide +kernel
theorem dX0_bend_42 : decode cX0_bend 42 = .ok (.iload_n 1, 1) := by decide +kernel
theorem dX0_bend_43 : decode cX0_bend 43 = .ok (.iconst 3, 1) := by decide +kernel
theorem dX0_bend_44 : decode cX0_bend 44 = .ok (.imul, 1) := by decide +kernel
theorem dX0_bend_45 : decode cX0_bend 45 = .ok (.iload_n 2, 1) := by decide +kernel
theorem dX0_bend_46 : decode cX0_bend 46 = .ok (.iadd, 1) := by decide +kernel
theorem dX0_bend_47 : decode cX0_bend 47 = .ok (.iconst 5, 1) := by decide +kernel
theorem dX0_bend_48 : decode cX0_bend 48 = .ok (.imul, 1) := by decide +kernel
theorem dX0_bend_49 : decode cX0_bend 49 = .ok (.iload_n 3, 1) := by decide +kernel
theorem dX0_bend_50 : decode cX0_bend 50 = .ok (.iadd, 1) := by decide +kernel
theorem dX0_bend_51 : decode cX0_bend 51 = .ok (.iload 4, 2) := by decide +kernel
theorem dX0_bend_53 : decode cX0_bend 53 = .ok (.invokestatic 58, 3) := by decide +kernel
theorem dX0_bend_56 : decode cX0_bend 56 = .ok (.ireturn, 1) := by decide +kernel
set_option maxRecDepth 20000 in
theorem ggX0_reach_X0_needProfile : GoodIn wsX0_reach wsX0_needProfile := goodIn_ca (goodIn_r _ [9, 10, 11, 12, 45, 46, 47, 48, 49, 50, 51, 52, 53, 54, 55, 56, 57, 58, 59] (by decide +kernel) (by decide +kernel)) (goodIn_sub (fun _ h => List.mem_cons_of_mem _ (List.mem_append_left _ (List.mem_append_right _ h))) (by decide +kernel))
set_option maxRecDepth 20000 in
theorem gX0_reach_X0_needProfile : GoodIn wsX0_reach (wsV RX0 62 RX0 yX0_needProfile wsX0_needProfile) := goodIn_app (goodIn_of _ (by decide +kernel)) ggX0_reach_X0_needProfile
set_option maxRecDepth 20000 in
theorem ggX0_reach_X0_needBand : GoodIn wsX0_reach wsX0_needBand := goodIn_ca (goodIn_r _ [15, 10, 11] (by decide +kernel) (by decide +kernel)) (goodIn_sub (fun _ h => List.mem_cons_of_mem _ (List.mem_append_left _ (List.mem_append_right _ h))) (by decide +kernel))
set_option maxRecDepth 20000 in
theorem gX0_reach_X0_needBand : GoodIn wsX0_reach (va_wsS RX0 66 yX0_needBand wsX0_needBand) := goodIn_app (goodIn_of _ (by decide +kernel)) ggX0_reach_X0_needBand
set_option maxRecDepth 20000 in
theorem ggX0_reach_X0_needValue : GoodIn wsX0_reach wsX0_needValue := goodIn_ca (goodIn_r _ [18, 1, 2] (by decide +kernel) (by decide +kernel)) (goodIn_sub (fun _ h => List.mem_cons_of_mem _ (List.mem_append_left _ (List.mem_append_left _ (List.mem_append_right _ h)))) (by decide +kernel))
set_option maxRecDepth 20000 in
theorem gX0_reach_X0_needValue : GoodIn wsX0_reach (va_wsS RX0 74 yX0_needValue wsX0_needValue) := goodIn_app (goodIn_of _ (by decide +kernel)) ggX0_reach_X0_needValue
set_option maxRecDepth 20000 in
theorem ggX0_reach_X0_needFreeProfile : GoodIn wsX0_reach wsX0_needFreeProfile := goodIn_ca (goodIn_r _ [22, 23, 24, 25, 26, 27, 8, 28, 29, 30, 31, 32, 33, 34, 35, 36, 37, 38, 39, 40, 41, 45, 46, 47, 48, 49, 50, 51, 52, 53, 54, 55, 56, 57, 58, 59] (by decide +kernel) (by decide +kernel)) (goodIn_sub (fun _ h => List.mem_cons_of_mem _ (List.mem_append_right _ h)) (by decide +kernel))
set_option maxRecDepth 20000 in
theorem gX0_reach_X0_needFreeProfile : GoodIn wsX0_reach (wsV RX0 77 RX0 yX0_needFreeProfile wsX0_needFreeProfile) := goodIn_app (goodIn_of _ (by decide +kernel)) ggX0_reach_X0_needFreeProfile
set_option maxRecDepth 20000 in
theorem ggX0_reach_X0_swap : GoodIn wsX0_reach wsX0_swap := goodIn_r _ [44] (by decide +kernel) (by decide +kernel)
set_option maxRecDepth 20000 in
theorem gX0_reach_X0_swap : GoodIn wsX0_reach (va_wsS RX0 58 yX0_swap wsX0_swap) := goodIn_app (goodIn_of _ (by decide +kernel)) ggX0_reach_X0_swap
theorem dX0_reach_0 : decode cX0_reach 0 = .ok (.aload_n 0, 1) := by decide +kernel
theorem dX0_reach_1 : decode cX0_reach 1 = .ok (.iload_n 1, 1) := by decide +kernel
theorem dX0_reach_2 : decode cX0_reach 2 = .ok (.invokevirtual 62, 3) := by decide +kernel
theorem dX0_reach_5 : decode cX0_reach 5 = .ok (.iload_n 2, 1) := by decide +kernel
theorem dX0_reach_6 : decode cX0_reach 6 = .ok (.invokestatic 66, 3) := by decide +kernel
theorem dX0_reach_9 : decode cX0_reach 9 = .ok (.iload_n 3, 1) := by decide +kernel
theorem dX0_reach_10 : decode cX0_reach 10 = .ok (.invokestatic 74, 3) := by decide +kernel
theorem dX0_reach_13 : decode cX0_reach 13 = .ok (.iload 4, 2) := by decide +kernel
theorem dX0_reach_15 : decode cX0_reach 15 = .ok (.invokestatic 74, 3) := by decide +kernel
theorem dX0_reach_18 : decode cX0_reach 18 = .ok (.iload 4, 2) := by decide +kernel
theorem dX0_reach_20 : decode cX0_reach 20 = .ok (.iload_n 3, 1) := by decide +kernel
theorem dX0_reach_21 : decode cX0_reach 21 = .ok (.if_icmp .ge 13, 3) := by decide +kernel
theorem dX0_reach_24 : decode cX0_reach 24 = .ok (.new 80, 3) := by decide +kernel
theorem dX0_reach_27 : decode cX0_reach 27 = .ok (.dup, 1) := by decide +kernel
theorem dX0_reach_28 : decode cX0_reach 28 = .ok (.ldc 82, 2) := by decide +kernel
theorem dX0_reach_30 : decode cX0_reach 30 = .ok (.invokespecial 84, 3) := by decide +kernel
theorem dX0_reach_33 : decode cX0_reach 33 = .ok (.athrow, 1) := by decide +kernel
theorem dX0_reach_34 : decode cX0_reach 34 = .ok (.aload_n 0, 1) := by decide +kernel
theorem dX0_reach_35 : decode cX0_reach 35 = .ok (.iload_n 1, 1) := by decide +kernel
theorem dX0_reach_36 : decode cX0_reach 36 = .ok (.invokevirtual 77, 3) := by decide +kernel
theorem dX0_reach_39 : decode cX0_reach 39 = .ok (.iload_n 1, 1) := by decide +kernel
theorem dX0_reach_40 : decode cX0_reach 40 = .ok (.iconst 3, 1) := by decide +kernel
theorem dX0_reach_41 : decode cX0_reach 41 = .ok (.imul, 1) := by decide +kernel
theorem dX0_reach_42 : decode cX0_reach 42 = .ok (.iload_n 2, 1) := by decide +kernel
theorem dX0_reach_43 : decode cX0_reach 43 = .ok (.iadd, 1) := by decide +kernel
theorem dX0_reach_44 : decode cX0_reach 44 = .ok (.istore 5, 2) := by decide +kernel
theorem dX0_reach_46 : decode cX0_reach 46 = .ok (.aload_n 0, 1) := by decide +kernel
theorem dX0_reach_47 : decode cX0_reach 47 = .ok (.getfield 13, 3) := by decide +kernel
theorem dX0_reach_50 : decode cX0_reach 50 = .ok (.iload 5, 2) := by decide +kernel
theorem dX0_reach_52 : decode cX0_reach 52 = .ok (.iload_n 3, 1) := by decide +kernel
theorem dX0_reach_53 : decode cX0_reach 53 = .ok (.invokestatic 58, 3) := by decide +kernel
theorem dX0_reach_56 : decode cX0_reach 56 = .ok (.istore 6, 2) := by decide +kernel
theorem dX0_reach_58 : decode cX0_reach 58 = .ok (.aload_n 0, 1) := by decide +kernel
theorem dX0_reach_59 : decode cX0_reach 59 = .ok (.getfield 16, 3) := by decide +kernel
theorem dX0_reach_62 : decode cX0_reach 62 = .ok (.iload 5, 2) := by decide +kernel
theorem dX0_reach_64 : decode cX0_reach 64 = .ok (.iload 4, 2) := by decide +kernel
theorem dX0_reach_66 : decode cX0_reach 66 = .ok (.invokestatic 58, 3) := by decide +kernel
theorem dX0_reach_69 : decode cX0_reach 69 = .ok (.istore 7, 2) := by decide +kernel
theorem dX0_reach_71 : decode cX0_reach 71 = .ok (.iload 7, 2) := by decide +kernel
theorem dX0_reach_73 : decode cX0_reach 73 = .ok (.iload 6, 2) := by decide +kernel
theorem dX0_reach_75 : decode cX0_reach 75 = .ok (.isub, 1) := by decide +kernel
theorem dX0_reach_76 : decode cX0_reach 76 = .ok (.iconst 1, 1) := by decide +kernel
theorem dX0_reach_77 : decode cX0_reach 77 = .ok (.iadd, 1) := by decide +kernel
theorem dX0_reach_78 : decode cX0_reach 78 = .ok (.ireturn, 1) := by decide +kernel
set_option maxRecDepth 20000 in
theorem ggX0_way_X0_needProfile : GoodIn wsX0_way wsX0_needProfile := goodIn_ca (goodIn_r _ [8, 9, 10, 11, 38, 39, 40, 41, 42, 43, 44, 45, 46, 47, 48, 49, 50, 51, 52] (by decide +kernel) (by decide +kernel)) (goodIn_sub (fun _ h => List.mem_cons_of_mem _ (List.mem_append_left _ (List.mem_append_right _ h))) (by decide +kernel))
set_option maxRecDepth 20000 in
theorem gX0_way_X0_needProfile : GoodIn wsX0_way (wsV RX0 62 RX0 yX0_needProfile wsX0_needProfile) := goodIn_app (goodIn_of _ (by decide +kernel)) ggX0_way_X0_needProfile
set_option maxRecDepth 20000 in
theorem ggX0_way_X0_needFreeProfile : GoodIn wsX0_way wsX0_needFreeProfile := goodIn_ca (goodIn_r _ [15, 16, 17, 18, 19, 20, 7, 21, 22, 23, 24, 25, 26, 27, 28, 29, 30, 31, 32, 33, 34, 38, 39, 40, 41, 42, 43, 44, 45, 46, 47, 48, 49, 50, 51, 52] (by decide +kernel) (by decide +kernel)) (goodIn_sub (fun _ h => List.mem_cons_of_mem _ (List.mem_append_right _ h)) (by decide +kernel))
set_option maxRecDepth 20000 in
theorem gX0_way_X0_needFreeProfile : GoodIn wsX0_way (wsV RX0 77 RX0 yX0_needFreeProfile wsX0_needFreeProfile) := goodIn_app (goodIn_of _ (by decide +kernel)) ggX0_way_X0_needFreeProfile
set_option maxRecDepth 20000 in
theorem ggX0_way_X0_swap : GoodIn wsX0_way wsX0_swap := goodIn_r _ [37] (by decide +kernel) (by decide +kernel)
set_option maxRecDepth 20000 in
theorem gX0_way_X0_swap : GoodIn wsX0_way (va_wsS RX0 58 yX0_swap wsX0_swap) := goodIn_app (goodIn_of _ (by decide +kernel)) ggX0_way_X0_swap
theorem dX0_way_0 : decode cX0_way 0 = .ok (.aload_n 0, 1) := by decide +kernel
theorem dX0_way_1 : decode cX0_way 1 = .ok (.iload_n 1, 1) := by decide +kernel
theorem dX0_way_2 : decode cX0_way 2 = .ok (.invokevirtual 62, 3) := by decide +kernel
theorem dX0_way_5 : decode cX0_way 5 = .ok (.iload_n 2, 1) := by decide +kernel
theorem dX0_way_6 : decode cX0_way 6 = .ok (.ifCond .eq 23, 3) := by decide +kernel
theorem dX0_way_9 : decode cX0_way 9 = .ok (.iload_n 2, 1) := by decide +kernel
theorem dX0_way_10 : decode cX0_way 10 = .ok (.iconst 1, 1) := by decide +kernel
theorem dX0_way_11 : decode cX0_way 11 = .ok (.if_icmp .eq 18, 3) := by decide +kernel
theorem dX0_way_14 : decode cX0_way 14 = .ok (.iload_n 2, 1) := by decide +kernel
theorem dX0_way_15 : decode cX0_way 15 = .ok (.iconst 2, 1) := by decide +kernel
theorem dX0_way_16 : decode cX0_way 16 = .ok (.if_icmp .eq 13, 3) := by decide +kernel
theorem dX0_way_19 : decode cX0_way 19 = .ok (.new 80, 3) := by decide +kernel
theorem dX0_way_22 : decode cX0_way 22 = .ok (.dup, 1) := by decide +kernel
theorem dX0_way_23 : decode cX0_way 23 = .ok (.ldc 85, 2) := by decide +kernel
theorem dX0_way_25 : decode cX0_way 25 = .ok (.invokespecial 84, 3) := by decide +kernel
theorem dX0_way_28 : decode cX0_way 28 = .ok (.athrow, 1) := by decide +kernel
theorem dX0_way_29 : decode cX0_way 29 = .ok (.aload_n 0, 1) := by decide +kernel
theorem dX0_way_30 : decode cX0_way 30 = .ok (.iload_n 1, 1) := by decide +kernel
theorem dX0_way_31 : decode cX0_way 31 = .ok (.invokevirtual 77, 3) := by decide +kernel
theorem dX0_way_34 : decode cX0_way 34 = .ok (.aload_n 0, 1) := by decide +kernel
theorem dX0_way_35 : decode cX0_way 35 = .ok (.getfield 19, 3) := by decide +kernel
theorem dX0_way_38 : decode cX0_way 38 = .ok (.iload_n 1, 1) := by decide +kernel
theorem dX0_way_39 : decode cX0_way 39 = .ok (.iload_n 2, 1) := by decide +kernel
theorem dX0_way_40 : decode cX0_way 40 = .ok (.invokestatic 58, 3) := by decide +kernel
theorem dX0_way_43 : decode cX0_way 43 = .ok (.ireturn, 1) := by decide +kernel
set_option maxRecDepth 20000 in
theorem ggX0_curve_X0_needProfile : GoodIn wsX0_curve wsX0_needProfile := goodIn_ca (goodIn_r _ [5, 6, 7, 8, 32, 33, 34, 35, 36, 37, 38, 39, 40, 41, 42, 43, 44, 45, 46] (by decide +kernel) (by decide +kernel)) (goodIn_sub (fun _ h => List.mem_cons_of_mem _ (List.mem_append_left _ (List.mem_append_right _ h))) (by decide +kernel))
set_option maxRecDepth 20000 in
theorem gX0_curve_X0_needProfile : GoodIn wsX0_curve (wsV RX0 62 RX0 yX0_needProfile wsX0_needProfile) := goodIn_app (goodIn_of _ (by decide +kernel)) ggX0_curve_X0_needProfile
set_option maxRecDepth 20000 in
theorem ggX0_curve_X0_needBand : GoodIn wsX0_curve wsX0_needBand := goodIn_ca (goodIn_r _ [11, 6, 7] (by decide +kernel) (by decide +kernel)) (goodIn_sub (fun _ h => List.mem_cons_of_mem _ (List.mem_append_left _ (List.mem_append_right _ h))) (by decide +kernel))
set_option maxRecDepth 20000 in
theorem gX0_curve_X0_needBand : GoodIn wsX0_curve (va_wsS RX0 66 yX0_needBand wsX0_needBand) := goodIn_app (goodIn_of _ (by decide +kernel)) ggX0_curve_X0_needBand
set_option maxRecDepth 20000 in
theorem ggX0_curve_X0_needValue : GoodIn wsX0_curve wsX0_needValue := goodIn_ca (goodIn_r _ [14, 15, 16] (by decide +kernel) (by decide +kernel)) (goodIn_sub (fun _ h => List.mem_cons_of_mem _ (List.mem_append_right _ h)) (by decide +kernel))
set_option maxRecDepth 20000 in
theorem gX0_curve_X0_needValue : GoodIn wsX0_curve (va_wsS RX0 74 yX0_needValue wsX0_needValue) := goodIn_app (goodIn_of _ (by decide +kernel)) ggX0_curve_X0_needValue
set_option maxRecDepth 20000 in
theorem ggX0_curve_X0_bent : GoodIn wsX0_curve wsX0_bent := goodIn_r _ [20, 21, 22, 23, 4, 24, 25, 26, 27, 28, 29, 30, 31, 32, 33, 34, 35, 36, 37, 38, 39, 40, 41, 42, 43, 44, 45, 46] (by decide +kernel) (by decide +kernel)
set_option maxRecDepth 20000 in
theorem gX0_curve_X0_bent : GoodIn wsX0_curve (wsV RX0 87 RX0 yX0_bent wsX0_bent) := goodIn_app (goodIn_of _ (by decide +kernel)) ggX0_curve_X0_bent
theorem dX0_curve_0 : decode cX0_curve 0 = .ok (.aload_n 0, 1) := by decide +kernel
theorem dX0_curve_1 : decode cX0_curve 1 = .ok (.iload_n 1, 1) := by decide +kernel
theorem dX0_curve_2 : decode cX0_curve 2 = .ok (.invokevirtual 62, 3) := by decide +kernel
theorem dX0_curve_5 : decode cX0_curve 5 = .ok (.iload_n 2, 1) := by decide +kernel
theorem dX0_curve_6 : decode cX0_curve 6 = .ok (.invokestatic 66, 3) := by decide +kernel
theorem dX0_curve_9 : decode cX0_curve 9 = .ok (.iload_n 3, 1) := by decide +kernel
theorem dX0_curve_10 : decode cX0_curve 10 = .ok (.invokestatic 74, 3) := by decide +kernel
theorem dX0_curve_13 : decode cX0_curve 13 = .ok (.aload_n 0, 1) := by decide +kernel
theorem dX0_curve_14 : decode cX0_curve 14 = .ok (.iload_n 1, 1) := by decide +kernel
theorem dX0_curve_15 : decode cX0_curve 15 = .ok (.iload_n 2, 1) := by decide +kernel
theorem dX0_curve_16 : decode cX0_curve 16 = .ok (.iload_n 3, 1) := by decide +kernel
theorem dX0_curve_17 : decode cX0_curve 17 = .ok (.invokevirtual 87, 3) := by decide +kernel
theorem dX0_curve_20 : decode cX0_curve 20 = .ok (.ireturn, 1) := by decide +kernel
set_option maxRecDepth 20000 in
theorem ggX0_taken_X0_needProfile : GoodIn wsX0_taken wsX0_needProfile := goodIn_ca (goodIn_r _ [5, 6, 7, 8, 49, 50, 51, 52, 53, 54, 55, 56, 57, 58, 59, 60, 61, 62, 63] (by decide +kernel) (by decide +kernel)) (goodIn_sub (fun _ h => List.mem_cons_of_mem _ (List.mem_append_left _ (List.mem_append_right _ h))) (by decide +kernel))
set_option maxRecDepth 20000 in
theorem gX0_taken_X0_needProfile : GoodIn wsX0_taken (wsV RX0 62 RX0 yX0_needProfile wsX0_needProfile) := goodIn_app (goodIn_of _ (by decide +kernel)) ggX0_taken_X0_needProfile
set_option maxRecDepth 20000 in
theorem ggX0_taken_X0_needBand : GoodIn wsX0_taken wsX0_needBand := goodIn_ca (goodIn_r _ [11, 6, 7] (by decide +kernel) (by decide +kernel)) (goodIn_sub (fun _ h => List.mem_cons_of_mem _ (List.mem_append_left _ (List.mem_append_right _ h))) (by decide +kernel))
set_option maxRecDepth 20000 in
theorem gX0_taken_X0_needBand : GoodIn wsX0_taken (va_wsS RX0 66 yX0_needBand wsX0_needBand) := goodIn_app (goodIn_of _ (by decide +kernel)) ggX0_taken_X0_needBand
set_option maxRecDepth 20000 in
theorem ggX0_taken_X0_needValue : GoodIn wsX0_taken wsX0_needValue := goodIn_ca (goodIn_r _ [14, 15, 16] (by decide +kernel) (by decide +kernel)) (goodIn_sub (fun _ h => List.mem_cons_of_mem _ (List.mem_append_right _ h)) (by decide +kernel))
set_option maxRecDepth 20000 in
theorem gX0_taken_X0_needValue : GoodIn wsX0_taken (va_wsS RX0 74 yX0_needValue wsX0_needValue) := goodIn_app (goodIn_of _ (by decide +kernel)) ggX0_taken_X0_needValue
set_option maxRecDepth 20000 in
theorem ggX0_taken_X0_take : GoodIn wsX0_taken wsX0_take := goodIn_r _ [20, 21, 22, 23, 24, 25, 26, 27, 28, 29, 30, 31, 32, 4, 33, 34, 35, 36, 37, 38, 39, 40, 41, 42, 43, 44, 45, 46, 47, 48, 49, 50, 51, 52, 53, 54, 55, 56, 57, 58, 59, 60, 61, 62, 63] (by decide +kernel) (by decide +kernel)
set_option maxRecDepth 20000 in
theorem gX0_taken_X0_take : GoodIn wsX0_taken (wsV RX0 91 RX0 yX0_take wsX0_take) := goodIn_app (goodIn_of _ (by decide +kernel)) ggX0_taken_X0_take
theorem dX0_taken_0 : decode cX0_taken 0 = .ok (.aload_n 0, 1) := by decide +kernel
theorem dX0_taken_1 : decode cX0_taken 1 = .ok (.iload_n 1, 1) := by decide +kernel
theorem dX0_taken_2 : decode cX0_taken 2 = .ok (.invokevirtual 62, 3) := by decide +kernel
theorem dX0_taken_5 : decode cX0_taken 5 = .ok (.iload_n 2, 1) := by decide +kernel
theorem dX0_taken_6 : decode cX0_taken 6 = .ok (.invokestatic 66, 3) := by decide +kernel
theorem dX0_taken_9 : decode cX0_taken 9 = .ok (.iload_n 3, 1) := by decide +kernel
theorem dX0_taken_10 : decode cX0_taken 10 = .ok (.invokestatic 74, 3) := by decide +kernel
theorem dX0_taken_13 : decode cX0_taken 13 = .ok (.aload_n 0, 1) := by decide +kernel
theorem dX0_taken_14 : decode cX0_taken 14 = .ok (.iload_n 1, 1) := by decide +kernel
theorem dX0_taken_15 : decode cX0_taken 15 = .ok (.iload_n 2, 1) := by decide +kernel
theorem dX0_taken_16 : decode cX0_taken 16 = .ok (.iload_n 3, 1) := by decide +kernel
theorem dX0_taken_17 : decode cX0_taken 17 = .ok (.invokevirtual 91, 3) := by decide +kernel
theorem dX0_taken_20 : decode cX0_taken 20 = .ok (.ireturn, 1) := by decide +kernel
theorem dX0_chain_0 : decode cX0_chain 0 = .ok (.aload_n 0, 1) := by decide +kernel
theorem dX0_chain_1 : decode cX0_chain 1 = .ok (.getfield 94, 3) := by decide +kernel
theorem dX0_chain_4 : decode cX0_chain 4 = .ok (.bipush 6, 2) := by decide +kernel
theorem dX0_chain_6 : decode cX0_chain 6 = .ok (.if_icmp .lt 13, 3) := by decide +kernel
theorem dX0_chain_9 : decode cX0_chain 9 = .ok (.new 47, 3) := by decide +kernel
theorem dX0_chain_12 : decode cX0_chain 12 = .ok (.dup, 1) := by decide +kernel
theorem dX0_chain_13 : decode cX0_chain 13 = .ok (.ldc 97, 2) := by decide +kernel
theorem dX0_chain_15 : decode cX0_chain 15 = .ok (.invokespecial 51, 3) := by decide +kernel
theorem dX0_chain_18 : decode cX0_chain 18 = .ok (.athrow, 1) := by decide +kernel
theorem dX0_chain_19 : decode cX0_chain 19 = .ok (.aload_n 0, 1) := by decide +kernel
theorem dX0_chain_20 : decode cX0_chain 20 = .ok (.getfield 94, 3) := by decide +kernel
theorem dX0_chain_23 : decode cX0_chain 23 = .ok (.istore_n 1, 1) := by decide +kernel
theorem dX0_chain_24 : decode cX0_chain 24 = .ok (.aload_n 0, 1) := by decide +kernel
theorem dX0_chain_25 : decode cX0_chain 25 = .ok (.dup, 1) := by decide +kernel
theorem dX0_chain_26 : decode cX0_chain 26 = .ok (.getfield 94, 3) := by decide +kernel
theorem dX0_chain_29 : decode cX0_chain 29 = .ok (.iconst 1, 1) := by decide +kernel
theorem dX0_chain_30 : decode cX0_chain 30 = .ok (.iadd, 1) := by decide +kernel
theorem dX0_chain_31 : decode cX0_chain 31 = .ok (.putfield 94, 3) := by decide +kernel
theorem dX0_chain_34 : decode cX0_chain 34 = .ok (.iload_n 1, 1) := by decide +kernel
theorem dX0_chain_35 : decode cX0_chain 35 = .ok (.ireturn, 1) := by decide +kernel
set_option maxRecDepth 20000 in
theorem ggX0_add_X0_needChain : GoodIn wsX0_add wsX0_needChain := goodIn_ca (goodIn_r _ [9, 10, 11, 12, 32, 33, 34, 35, 36, 37, 38, 39, 40, 41, 42, 43, 44, 45, 46] (by decide +kernel) (by decide +kernel)) (goodIn_sub (fun _ h => List.mem_cons_of_mem _ (List.mem_append_right _ h)) (by decide +kernel))
set_option maxRecDepth 20000 in
theorem gX0_add_X0_needChain : GoodIn wsX0_add (wsV RX0 99 RX0 yX0_needChain wsX0_needChain) := goodIn_app (goodIn_of _ (by decide +kernel)) ggX0_add_X0_needChain
set_option maxRecDepth 20000 in
theorem ggX0_add_X0_needProfile : GoodIn wsX0_add wsX0_needProfile := goodIn_ca (goodIn_r _ [16, 10, 11, 17, 32, 33, 34, 35, 36, 37, 38, 39, 40, 41, 42, 43, 44, 45, 46] (by decide +kernel) (by decide +kernel)) (goodIn_sub (fun _ h => List.mem_cons_of_mem _ (List.mem_append_right _ h)) (by decide +kernel))
set_option maxRecDepth 20000 in
theorem gX0_add_X0_needProfile : GoodIn wsX0_add (wsV RX0 62 RX0 yX0_needProfile wsX0_needProfile) := goodIn_app (goodIn_of _ (by decide +kernel)) ggX0_add_X0_needProfile
set_option maxRecDepth 20000 in
theorem ggX0_add_X0_needFreeChain : GoodIn wsX0_add wsX0_needFreeChain := goodIn_ca (goodIn_r _ [21, 1, 2, 22, 23, 24, 8, 25, 32, 33, 34, 35, 36, 37, 38, 39, 40, 41, 42, 43, 44, 45, 46] (by decide +kernel) (by decide +kernel)) (goodIn_sub (fun _ h => List.mem_cons_of_mem _ (List.mem_append_left _ (List.mem_append_right _ h))) (by decide +kernel))
set_option maxRecDepth 20000 in
theorem gX0_add_X0_needFreeChain : GoodIn wsX0_add (wsV RX0 102 RX0 yX0_needFreeChain wsX0_needFreeChain) := goodIn_app (goodIn_of _ (by decide +kernel)) ggX0_add_X0_needFreeChain
set_option maxRecDepth 20000 in
theorem ggX0_add_X0_read : GoodIn wsX0_add wsX0_read := goodIn_r _ [28] (by decide +kernel) (by decide +kernel)
set_option maxRecDepth 20000 in
theorem gX0_add_X0_read : GoodIn wsX0_add (va_wsS RX0 105 yX0_read wsX0_read) := goodIn_app (goodIn_of _ (by decide +kernel)) ggX0_add_X0_read
set_option maxRecDepth 20000 in
theorem ggX0_add_X0_swap : GoodIn wsX0_add wsX0_swap := goodIn_r _ [31] (by decide +kernel) (by decide +kernel)
set_option maxRecDepth 20000 in
theorem gX0_add_X0_swap : GoodIn wsX0_add (va_wsS RX0 58 yX0_swap wsX0_swap) := goodIn_app (goodIn_of _ (by decide +kernel)) ggX0_add_X0_swap
theorem dX0_add_0 : decode cX0_add 0 = .ok (.aload_n 0, 1) := by decide +kernel
theorem dX0_add_1 : decode cX0_add 1 = .ok (.iload_n 1, 1) := by decide +kernel
theorem dX0_add_2 : decode cX0_add 2 = .ok (.invokevirtual 99, 3) := by decide +kernel
theorem dX0_add_5 : decode cX0_add 5 = .ok (.aload_n 0, 1) := by decide +kernel
theorem dX0_add_6 : decode cX0_add 6 = .ok (.iload_n 2, 1) := by decide +kernel
theorem dX0_add_7 : decode cX0_add 7 = .ok (.invokevirtual 62, 3) := by decide +kernel
theorem dX0_add_10 : decode cX0_add 10 = .ok (.aload_n 0, 1) := by decide +kernel
theorem dX0_add_11 : decode cX0_add 11 = .ok (.iload_n 1, 1) := by decide +kernel
theorem dX0_add_12 : decode cX0_add 12 = .ok (.invokevirtual 102, 3) := by decide +kernel
theorem dX0_add_15 : decode cX0_add 15 = .ok (.aload_n 0, 1) := by decide +kernel
theorem dX0_add_16 : decode cX0_add 16 = .ok (.getfield 25, 3) := by decide +kernel
theorem dX0_add_19 : decode cX0_add 19 = .ok (.iload_n 1, 1) := by decide +kernel
theorem dX0_add_20 : decode cX0_add 20 = .ok (.invokestatic 105, 3) := by decide +kernel
theorem dX0_add_23 : decode cX0_add 23 = .ok (.istore_n 3, 1) := by decide +kernel
theorem dX0_add_24 : decode cX0_add 24 = .ok (.iload_n 3, 1) := by decide +kernel
theorem dX0_add_25 : decode cX0_add 25 = .ok (.bipush 6, 2) := by decide +kernel
theorem dX0_add_27 : decode cX0_add 27 = .ok (.if_icmp .lt 13, 3) := by decide +kernel
theorem dX0_add_30 : decode cX0_add 30 = .ok (.new 47, 3) := by decide +kernel
theorem dX0_add_33 : decode cX0_add 33 = .ok (.dup, 1) := by decide +kernel
theorem dX0_add_34 : decode cX0_add 34 = .ok (.ldc 109, 2) := by decide +kernel
theorem dX0_add_36 : decode cX0_add 36 = .ok (.invokespecial 51, 3) := by decide +kernel
theorem dX0_add_39 : decode cX0_add 39 = .ok (.athrow, 1) := by decide +kernel
theorem dX0_add_40 : decode cX0_add 40 = .ok (.aload_n 0, 1) := by decide +kernel
theorem dX0_add_41 : decode cX0_add 41 = .ok (.getfield 22, 3) := by decide +kernel
theorem dX0_add_44 : decode cX0_add 44 = .ok (.iload_n 1, 1) := by decide +kernel
theorem dX0_add_45 : decode cX0_add 45 = .ok (.bipush 6, 2) := by decide +kernel
theorem dX0_add_47 : decode cX0_add 47 = .ok (.imul, 1) := by decide +kernel
theorem dX0_add_48 : decode cX0_add 48 = .ok (.iload_n 3, 1) := by decide +kernel
theorem dX0_add_49 : decode cX0_add 49 = .ok (.iadd, 1) := by decide +kernel
theorem dX0_add_50 : decode cX0_add 50 = .ok (.iload_n 2, 1) := by decide +kernel
theorem dX0_add_51 : decode cX0_add 51 = .ok (.invokestatic 58, 3) := by decide +kernel
theorem dX0_add_54 : decode cX0_add 54 = .ok (.pop, 1) := by decide +kernel
theorem dX0_add_55 : decode cX0_add 55 = .ok (.aload_n 0, 1) := by decide +kernel
theorem dX0_add_56 : decode cX0_add 56 = .ok (.getfield 25, 3) := by decide +kernel
theorem dX0_add_59 : decode cX0_add 59 = .ok (.iload_n 1, 1) := by decide +kernel
theorem dX0_add_60 : decode cX0_add 60 = .ok (.iload_n 3, 1) := by decide +kernel
theorem dX0_add_61 : decode cX0_add 61 = .ok (.iconst 1, 1) := by decide +kernel
theorem dX0_add_62 : decode cX0_add 62 = .ok (.iadd, 1) := by decide +kernel
theorem dX0_add_63 : decode cX0_add 63 = .ok (.invokestatic 58, 3) := by decide +kernel
theorem dX0_add_66 : decode cX0_add 66 = .ok (.pop, 1) := by decide +kernel
theorem dX0_add_67 : decode cX0_add 67 = .ok (.iload_n 3, 1) := by decide +kernel
theorem dX0_add_68 : decode cX0_add 68 = .ok (.iconst 1, 1) := by decide +kernel
theorem dX0_add_69 : decode cX0_add 69 = .ok (.iadd, 1) := by decide +kernel
theorem dX0_add_70 : decode cX0_add 70 = .ok (.ireturn, 1) := by decide +kernel
set_option maxRecDepth 20000 in
theorem ggX0_drop_X0_needChain : GoodIn wsX0_drop wsX0_needChain := goodIn_ca (goodIn_r _ [9, 10, 11, 12, 27, 28, 29, 30, 31, 32, 33, 34, 35, 36, 37, 38, 39, 40, 41] (by decide +kernel) (by decide +kernel)) (goodIn_sub (fun _ h => List.mem_cons_of_mem _ (List.mem_append_right _ h)) (by decide +kernel))
set_option maxRecDepth 20000 in
theorem gX0_drop_X0_needChain : GoodIn wsX0_drop (wsV RX0 99 RX0 yX0_needChain wsX0_needChain) := goodIn_app (goodIn_of _ (by decide +kernel)) ggX0_drop_X0_needChain
set_option maxRecDepth 20000 in
theorem ggX0_drop_X0_needFreeChain : GoodIn wsX0_drop wsX0_needFreeChain := goodIn_ca (goodIn_r _ [16, 1, 2, 17, 18, 19, 8, 20, 27, 28, 29, 30, 31, 32, 33, 34, 35, 36, 37, 38, 39, 40, 41] (by decide +kernel) (by decide +kernel)) (goodIn_sub (fun _ h => List.mem_cons_of_mem _ (List.mem_append_left _ (List.mem_append_right _ h))) (by decide +kernel))
set_option maxRecDepth 20000 in
theorem gX0_drop_X0_needFreeChain : GoodIn wsX0_drop (wsV RX0 102 RX0 yX0_needFreeChain wsX0_needFreeChain) := goodIn_app (goodIn_of _ (by decide +kernel)) ggX0_drop_X0_needFreeChain
set_option maxRecDepth 20000 in
theorem ggX0_drop_X0_read : GoodIn wsX0_drop wsX0_read := goodIn_r _ [23] (by decide +kernel) (by decide +kernel)
set_option maxRecDepth 20000 in
theorem gX0_drop_X0_read : GoodIn wsX0_drop (va_wsS RX0 105 yX0_read wsX0_read) := goodIn_app (goodIn_of _ (by decide +kernel)) ggX0_drop_X0_read
set_option maxRecDepth 20000 in
theorem ggX0_drop_X0_swap : GoodIn wsX0_drop wsX0_swap := goodIn_r _ [26] (by decide +kernel) (by decide +kernel)
set_option maxRecDepth 20000 in
theorem gX0_drop_X0_swap : GoodIn wsX0_drop (va_wsS RX0 58 yX0_swap wsX0_swap) := goodIn_app (goodIn_of _ (by decide +kernel)) ggX0_drop_X0_swap
theorem dX0_drop_0 : decode cX0_drop 0 = .ok (.aload_n 0, 1) := by decide +kernel
theorem dX0_drop_1 : decode cX0_drop 1 = .ok (.iload_n 1, 1) := by decide +kernel
theorem dX0_drop_2 : decode cX0_drop 2 = .ok (.invokevirtual 99, 3) := by decide +kernel
theorem dX0_drop_5 : decode cX0_drop 5 = .ok (.aload_n 0, 1) := by decide +kernel
theorem dX0_drop_6 : decode cX0_drop 6 = .ok (.iload_n 1, 1) := by decide +kernel
theorem dX0_drop_7 : decode cX0_drop 7 = .ok (.invokevirtual 102, 3) := by decide +kernel
theorem dX0_drop_10 : decode cX0_drop 10 = .ok (.aload_n 0, 1) := by decide +kernel
theorem dX0_drop_11 : decode cX0_drop 11 = .ok (.getfield 25, 3) := by decide +kernel
theorem dX0_drop_14 : decode cX0_drop 14 = .ok (.iload_n 1, 1) := by decide +kernel
theorem dX0_drop_15 : decode cX0_drop 15 = .ok (.invokestatic 105, 3) := by decide +kernel
theorem dX0_drop_18 : decode cX0_drop 18 = .ok (.istore_n 2, 1) := by decide +kernel
theorem dX0_drop_19 : decode cX0_drop 19 = .ok (.iload_n 2, 1) := by decide +kernel
theorem dX0_drop_20 : decode cX0_drop 20 = .ok (.ifCond .gt 13, 3) := by decide +kernel
theorem dX0_drop_23 : decode cX0_drop 23 = .ok (.new 47, 3) := by decide +kernel
theorem dX0_drop_26 : decode cX0_drop 26 = .ok (.dup, 1) := by decide +kernel
theorem dX0_drop_27 : decode cX0_drop 27 = .ok (.ldc 111, 2) := by decide +kernel
theorem dX0_drop_29 : decode cX0_drop 29 = .ok (.invokespecial 51, 3) := by decide +kernel
theorem dX0_drop_32 : decode cX0_drop 32 = .ok (.athrow, 1) := by decide +kernel
theorem dX0_drop_33 : decode cX0_drop 33 = .ok (.aload_n 0, 1) := by decide +kernel
theorem dX0_drop_34 : decode cX0_drop 34 = .ok (.getfield 25, 3) := by decide +kernel
theorem dX0_drop_37 : decode cX0_drop 37 = .ok (.iload_n 1, 1) := by decide +kernel
theorem dX0_drop_38 : decode cX0_drop 38 = .ok (.iload_n 2, 1) := by decide +kernel
theorem dX0_drop_39 : decode cX0_drop 39 = .ok (.iconst 1, 1) := by decide +kernel
theorem dX0_drop_40 : decode cX0_drop 40 = .ok (.isub, 1) := by decide +kernel
theorem dX0_drop_41 : decode cX0_drop 41 = .ok (.invokestatic 58, 3) := by decide +kernel
theorem dX0_drop_44 : decode cX0_drop 44 = .ok (.pop, 1) := by decide +kernel
theorem dX0_drop_45 : decode cX0_drop 45 = .ok (.aload_n 0, 1) := by decide +kernel
theorem dX0_drop_46 : decode cX0_drop 46 = .ok (.getfield 22, 3) := by decide +kernel
theorem dX0_drop_49 : decode cX0_drop 49 = .ok (.iload_n 1, 1) := by decide +kernel
theorem dX0_drop_50 : decode cX0_drop 50 = .ok (.bipush 6, 2) := by decide +kernel
theorem dX0_drop_52 : decode cX0_drop 52 = .ok (.imul, 1) := by decide +kernel
theorem dX0_drop_53 : decode cX0_drop 53 = .ok (.iload_n 2, 1) := by decide +kernel
theorem dX0_drop_54 : decode cX0_drop 54 = .ok (.iadd, 1) := by decide +kernel
theorem dX0_drop_55 : decode cX0_drop 55 = .ok (.iconst 1, 1) := by decide +kernel
theorem dX0_drop_56 : decode cX0_drop 56 = .ok (.isub, 1) := by decide +kernel
theorem dX0_drop_57 : decode cX0_drop 57 = .ok (.invokestatic 105, 3) := by decide +kernel
theorem dX0_drop_60 : decode cX0_drop 60 = .ok (.ireturn, 1) := by decide +kernel
set_option maxRecDepth 20000 in
theorem ggX0_through_X0_needChain : GoodIn wsX0_through wsX0_needChain := goodIn_ca (goodIn_r _ [5, 6, 7, 8, 55, 56, 57, 58, 59, 60, 61, 62, 63, 64, 65, 66, 67, 68, 69] (by decide +kernel) (by decide +kernel)) (goodIn_sub (fun _ h => List.mem_cons_of_mem _ (List.mem_append_left _ (List.mem_append_right _ h))) (by decide +kernel))
set_option maxRecDepth 20000 in
theorem gX0_through_X0_needChain : GoodIn wsX0_through (wsV RX0 99 RX0 yX0_needChain wsX0_needChain) := goodIn_app (goodIn_of _ (by decide +kernel)) ggX0_through_X0_needChain
set_option maxRecDepth 20000 in
theorem ggX0_through_X0_needBand : GoodIn wsX0_through wsX0_needBand := goodIn_ca (goodIn_r _ [11, 6, 7] (by decide +kernel) (by decide +kernel)) (goodIn_sub (fun _ h => List.mem_cons_of_mem _ (List.mem_append_left _ (List.mem_append_right _ h))) (by decide +kernel))
set_option maxRecDepth 20000 in
theorem gX0_through_X0_needBand : GoodIn wsX0_through (va_wsS RX0 66 yX0_needBand wsX0_needBand) := goodIn_app (goodIn_of _ (by decide +kernel)) ggX0_through_X0_needBand
set_option maxRecDepth 20000 in
theorem ggX0_through_X0_needValue : GoodIn wsX0_through wsX0_needValue := goodIn_ca (goodIn_r _ [14, 15, 16] (by decide +kernel) (by decide +kernel)) (goodIn_sub (fun _ h => List.mem_cons_of_mem _ (List.mem_append_right _ h)) (by decide +kernel))
set_option maxRecDepth 20000 in
theorem gX0_through_X0_needValue : GoodIn wsX0_through (va_wsS RX0 74 yX0_needValue wsX0_needValue) := goodIn_app (goodIn_of _ (by decide +kernel)) ggX0_through_X0_needValue
set_option maxRecDepth 20000 in
theorem ggX0_through_X0_pass : GoodIn wsX0_through wsX0_pass := goodIn_r _ [20, 21, 22, 23, 24, 4, 25, 26, 27, 28, 29, 30, 31, 32, 33, 34, 35, 36, 37, 38, 39, 40, 41, 42, 43, 44, 45, 46, 47, 48, 49, 50, 51, 52, 53, 54, 55, 56, 57, 58, 59, 60, 61, 62, 63, 64, 65, 66, 67, 68, 69] (by decide +kernel) (by decide +kernel)
set_option maxRecDepth 20000 in
theorem gX0_through_X0_pass : GoodIn wsX0_through (wsV RX0 113 RX0 yX0_pass wsX0_pass) := goodIn_app (goodIn_of _ (by decide +kernel)) ggX0_through_X0_pass
theorem dX0_through_0 : decode cX0_through 0 = .ok (.aload_n 0, 1) := by decide +kernel
theorem dX0_through_1 : decode cX0_through 1 = .ok (.iload_n 1, 1) := by decide +kernel
theorem dX0_through_2 : decode cX0_through 2 = .ok (.invokevirtual 99, 3) := by decide +kernel
theorem dX0_through_5 : decode cX0_through 5 = .ok (.iload_n 2, 1) := by decide +kernel
theorem dX0_through_6 : decode cX0_through 6 = .ok (.invokestatic 66, 3) := by decide +kernel
theorem dX0_through_9 : decode cX0_through 9 = .ok (.iload_n 3, 1) := by decide +kernel
theorem dX0_through_10 : decode cX0_through 10 = .ok (.invokestatic 74, 3) := by decide +kernel
theorem dX0_through_13 : decode cX0_through 13 = .ok (.aload_n 0, 1) := by decide +kernel
theorem dX0_through_14 : decode cX0_through 14 = .ok (.iload_n 1, 1) := by decide +kernel
theorem dX0_through_15 : decode cX0_through 15 = .ok (.iload_n 2, 1) := by decide +kernel
theorem dX0_through_16 : decode cX0_through 16 = .ok (.iload_n 3, 1) := by decide +kernel
theorem dX0_through_17 : decode cX0_through 17 = .ok (.invokevirtual 113, 3) := by decide +kernel
theorem dX0_through_20 : decode cX0_through 20 = .ok (.ireturn, 1) := by decide +kernel
set_option maxRecDepth 20000 in
theorem ggX0_gap_X0_needChain : GoodIn wsX0_gap wsX0_needChain := goodIn_ca (goodIn_r _ [5, 6, 7, 8, 61, 62, 63, 64, 65, 66, 67, 68, 69, 70, 71, 72, 73, 74, 75] (by decide +kernel) (by decide +kernel)) (goodIn_sub (fun _ h => List.mem_cons_of_mem _ (List.mem_append_right _ h)) (by decide +kernel))
set_option maxRecDepth 20000 in
theorem gX0_gap_X0_needChain : GoodIn wsX0_gap (wsV RX0 99 RX0 yX0_needChain wsX0_needChain) := goodIn_app (goodIn_of _ (by decide +kernel)) ggX0_gap_X0_needChain
set_option maxRecDepth 20000 in
theorem ggX0_gap_X0_tryJoining : GoodIn wsX0_gap wsX0_tryJoining := goodIn_r _ [12, 13, 14, 15, 16, 17, 18, 19, 20, 21, 22, 4, 23, 24, 25, 26, 27, 28, 29, 30, 31, 32, 33, 34, 35, 36, 37, 38, 39, 40, 41, 42, 43, 44, 45, 46, 47, 48, 49, 50, 51, 52, 53, 54, 55, 56, 57, 58, 59, 60, 61, 62, 63, 64, 65, 66, 67, 68, 69, 70, 71, 72, 73, 74, 75] (by decide +kernel) (by decide +kernel)
set_option maxRecDepth 20000 in
theorem gX0_gap_X0_tryJoining : GoodIn wsX0_gap (wsV RX0 116 RX0 yX0_tryJoining wsX0_tryJoining) := goodIn_app (goodIn_of _ (by decide +kernel)) ggX0_gap_X0_tryJoining
theorem dX0_gap_0 : decode cX0_gap 0 = .ok (.aload_n 0, 1) := by decide +kernel
theorem dX0_gap_1 : decode cX0_gap 1 = .ok (.iload_n 1, 1) := by decide +kernel
theorem dX0_gap_2 : decode cX0_gap 2 = .ok (.invokevirtual 99, 3) := by decide +kernel
theorem dX0_gap_5 : decode cX0_gap 5 = .ok (.aload_n 0, 1) := by decide +kernel
theorem dX0_gap_6 : decode cX0_gap 6 = .ok (.iload_n 1, 1) := by decide +kernel
theorem dX0_gap_7 : decode cX0_gap 7 = .ok (.invokevirtual 116, 3) := by decide +kernel
theorem dX0_gap_10 : decode cX0_gap 10 = .ok (.ireturn, 1) := by decide +kernel
set_option maxRecDepth 20000 in
theorem ggX0_greyGap_X0_needChain : GoodIn wsX0_greyGap wsX0_needChain := goodIn_ca (goodIn_r _ [12, 13, 14, 15, 47, 48, 49, 50, 51, 52, 53, 54, 55, 56, 57, 58, 59, 60, 61] (by decide +kernel) (by decide +kernel)) (goodIn_sub (fun _ h => List.mem_cons_of_mem _ (List.mem_append_right _ h)) (by decide +kernel))
set_option maxRecDepth 20000 in
theorem gX0_greyGap_X0_needChain : GoodIn wsX0_greyGap (wsV RX0 99 RX0 yX0_needChain wsX0_needChain) := goodIn_app (goodIn_of _ (by decide +kernel)) ggX0_greyGap_X0_needChain
set_option maxRecDepth 20000 in
theorem ggX0_greyGap_X0_pass : GoodIn wsX0_greyGap wsX0_pass := goodIn_r _ [19, 20, 21, 22, 23, 11, 24, 25, 26, 27, 28, 29, 30, 31, 1, 2, 3, 4, 5, 6, 7, 32, 33, 34, 35, 36, 37, 38, 39, 40, 41, 42, 43, 44, 45, 46, 47, 48, 49, 50, 51, 52, 53, 54, 55, 56, 57, 58, 59, 60, 61] (by decide +kernel) (by decide +kernel)
set_option maxRecDepth 20000 in
theorem gX0_greyGap_X0_pass : GoodIn wsX0_greyGap (wsV RX0 113 RX0 yX0_pass wsX0_pass) := goodIn_app (goodIn_of _ (by decide +kernel)) ggX0_greyGap_X0_pass
theorem dX0_greyGap_0 : decode cX0_greyGap 0 = .ok (.aload_n 0, 1) := by decide +kernel
theorem dX0_greyGap_1 : decode cX0_greyGap 1 = .ok (.iload_n 1, 1) := by decide +kernel
theorem dX0_greyGap_2 : decode cX0_greyGap 2 = .ok (.invokevirtual 99, 3) := by decide +kernel
theorem dX0_greyGap_5 : decode cX0_greyGap 5 = .ok (.iconst 0, 1) := by decide +kernel
theorem dX0_greyGap_6 : decode cX0_greyGap 6 = .ok (.istore_n 2, 1) := by decide +kernel
theorem dX0_greyGap_7 : decode cX0_greyGap 7 = .ok (.iconst 0, 1) := by decide +kernel
theorem dX0_greyGap_8 : decode cX0_greyGap 8 = .ok (.istore_n 3, 1) := by decide +kernel
theorem dX0_greyGap_9 : decode cX0_greyGap 9 = .ok (.iload_n 3, 1) := by decide +kernel
theorem dX0_greyGap_10 : decode cX0_greyGap 10 = .ok (.sipush 255, 3) := by decide +kernel
theorem dX0_greyGap_13 : decode cX0_greyGap 13 = .ok (.if_icmp .gt 70, 3) := by decide +kernel
theorem dX0_greyGap_16 : decode cX0_greyGap 16 = .ok (.sipush 255, 3) := by decide +kernel
theorem dX0_greyGap_19 : decode cX0_greyGap 19 = .ok (.istore 4, 2) := by decide +kernel
theorem dX0_greyGap_21 : decode cX0_greyGap 21 = .ok (.iconst 0, 1) := by decide +kernel
theorem dX0_greyGap_22 : decode cX0_greyGap 22 = .ok (.istore 5, 2) := by decide +kernel
theorem dX0_greyGap_24 : decode cX0_greyGap 24 = .ok (.iconst 0, 1) := by decide +kernel
theorem dX0_greyGap_25 : decode cX0_greyGap 25 = .ok (.istore 6, 2) := by decide +kernel
theorem dX0_greyGap_27 : decode cX0_greyGap 27 = .ok (.iload 6, 2) := by decide +kernel
theorem dX0_greyGap_29 : decode cX0_greyGap 29 = .ok (.iconst 3, 1) := by decide +kernel
theorem dX0_greyGap_30 : decode cX0_greyGap 30 = .ok (.if_icmp .ge 37, 3) := by decide +kernel
theorem dX0_greyGap_33 : decode cX0_greyGap 33 = .ok (.aload_n 0, 1) := by decide +kernel
theorem dX0_greyGap_34 : decode cX0_greyGap 34 = .ok (.iload_n 1, 1) := by decide +kernel
theorem dX0_greyGap_35 : decode cX0_greyGap 35 = .ok (.iload 6, 2) := by decide +kernel
theorem dX0_greyGap_37 : decode cX0_greyGap 37 = .ok (.iload_n 3, 1) := by decide +kernel
theorem dX0_greyGap_38 : decode cX0_greyGap 38 = .ok (.invokevirtual 113, 3) := by decide +kernel
theorem dX0_greyGap_41 : decode cX0_greyGap 41 = .ok (.istore 7, 2) := by decide +kernel
theorem dX0_greyGap_43 : decode cX0_greyGap 43 = .ok (.iload 4, 2) := by decide +kernel
theorem dX0_greyGap_45 : decode cX0_greyGap 45 = .ok (.iload 7, 2) := by decide +kernel
theorem dX0_greyGap_47 : decode cX0_greyGap 47 = .ok (.invokestatic 119, 3) := by decide +kernel
theorem dX0_greyGap_50 : decode cX0_greyGap 50 = .ok (.istore 4, 2) := by decide +kernel
theorem dX0_greyGap_52 : decode cX0_greyGap 52 = .ok (.iload 5, 2) := by decide +kernel
theorem dX0_greyGap_54 : decode cX0_greyGap 54 = .ok (.iload 7, 2) := by decide +kernel
theorem dX0_greyGap_56 : decode cX0_greyGap 56 = .ok (.invokestatic 125, 3) := by decide +kernel
theorem dX0_greyGap_59 : decode cX0_greyGap 59 = .ok (.istore 5, 2) := by decide +kernel
theorem dX0_greyGap_61 : decode cX0_greyGap 61 = .ok (.iinc 6 1, 3) := by decide +kernel
theorem dX0_greyGap_64 : decode cX0_greyGap 64 = .ok (.goto (-37), 3) := by decide +kernel
theorem dX0_greyGap_67 : decode cX0_greyGap 67 = .ok (.iload_n 2, 1) := by decide +kernel
theorem dX0_greyGap_68 : decode cX0_greyGap 68 = .ok (.iload 5, 2) := by decide +kernel
theorem dX0_greyGap_70 : decode cX0_greyGap 70 = .ok (.iload 4, 2) := by decide +kernel
theorem dX0_greyGap_72 : decode cX0_greyGap 72 = .ok (.isub, 1) := by decide +kernel
theorem dX0_greyGap_73 : decode cX0_greyGap 73 = .ok (.invokestatic 125, 3) := by decide +kernel
theorem dX0_greyGap_76 : decode cX0_greyGap 76 = .ok (.istore_n 2, 1) := by decide +kernel
theorem dX0_greyGap_77 : decode cX0_greyGap 77 = .ok (.iinc 3 1, 3) := by decide +kernel
theorem dX0_greyGap_80 : decode cX0_greyGap 80 = .ok (.goto (-71), 3) := by decide +kernel
theorem dX0_greyGap_83 : decode cX0_greyGap 83 = .ok (.iload_n 2, 1) := by decide +kernel
theorem dX0_greyGap_84 : decode cX0_greyGap 84 = .ok (.ireturn, 1) := by decide +kernel
set_option maxRecDepth 20000 in
theorem ggX0_join_X0_needChain : GoodIn wsX0_join wsX0_needChain := goodIn_ca (goodIn_r _ [10, 11, 12, 13, 70, 71, 72, 73, 74, 75, 76, 77, 78, 79, 80, 81, 82, 83, 84] (by decide +kernel) (by decide +kernel)) (goodIn_sub (fun _ h => List.mem_cons_of_mem _ (List.mem_append_left _ (List.mem_append_right _ h))) (by decide +kernel))
set_option maxRecDepth 20000 in
theorem gX0_join_X0_needChain : GoodIn wsX0_join (wsV RX0 99 RX0 yX0_needChain wsX0_needChain) := goodIn_app (goodIn_of _ (by decide +kernel)) ggX0_join_X0_needChain
set_option maxRecDepth 20000 in
theorem ggX0_join_X0_needValue : GoodIn wsX0_join wsX0_needValue := goodIn_ca (goodIn_r _ [16, 17, 18] (by decide +kernel) (by decide +kernel)) (goodIn_sub (fun _ h => List.mem_cons_of_mem _ (List.mem_append_right _ h)) (by decide +kernel))
set_option maxRecDepth 20000 in
theorem gX0_join_X0_needValue : GoodIn wsX0_join (va_wsS RX0 74 yX0_needValue wsX0_needValue) := goodIn_app (goodIn_of _ (by decide +kernel)) ggX0_join_X0_needValue
set_option maxRecDepth 20000 in
theorem ggX0_join_X0_tryJoining : GoodIn wsX0_join wsX0_tryJoining := goodIn_r _ [22, 4, 23, 24, 25, 26, 27, 28, 29, 30, 31, 9, 32, 33, 34, 35, 36, 37, 38, 39, 40, 41, 42, 43, 44, 45, 46, 47, 48, 49, 50, 51, 52, 53, 54, 55, 56, 57, 58, 59, 60, 61, 62, 63, 64, 65, 66, 67, 68, 69, 70, 71, 72, 73, 74, 75, 76, 77, 78, 79, 80, 81, 82, 83, 84] (by decide +kernel) (by decide +kernel)
set_option maxRecDepth 20000 in
theorem gX0_join_X0_tryJoining : GoodIn wsX0_join (wsV RX0 116 RX0 yX0_tryJoining wsX0_tryJoining) := goodIn_app (goodIn_of _ (by decide +kernel)) ggX0_join_X0_tryJoining
set_option maxRecDepth 20000 in
theorem ggX0_join_X0_read : GoodIn wsX0_join wsX0_read := goodIn_r _ [44] (by decide +kernel) (by decide +kernel)
set_option maxRecDepth 20000 in
theorem gX0_join_X0_read : GoodIn wsX0_join (va_wsS RX0 105 yX0_read wsX0_read) := goodIn_app (goodIn_of _ (by decide +kernel)) ggX0_join_X0_read
set_option maxRecDepth 20000 in
theorem ggX0_join_X0_swap : GoodIn wsX0_join wsX0_swap := goodIn_r _ [69] (by decide +kernel) (by decide +kernel)
set_option maxRecDepth 20000 in
theorem gX0_join_X0_swap : GoodIn wsX0_join (va_wsS RX0 58 yX0_swap wsX0_swap) := goodIn_app (goodIn_of _ (by decide +kernel)) ggX0_join_X0_swap
theorem dX0_join_0 : decode cX0_join 0 = .ok (.aload_n 0, 1) := by decide +kernel
theorem dX0_join_1 : decode cX0_join 1 = .ok (.iload_n 1, 1) := by decide +kernel
theorem dX0_join_2 : decode cX0_join 2 = .ok (.invokevirtual 99, 3) := by decide +kernel
theorem dX0_join_5 : decode cX0_join 5 = .ok (.iload_n 2, 1) := by decide +kernel
theorem dX0_join_6 : decode cX0_join 6 = .ok (.invokestatic 74, 3) := by decide +kernel
theorem dX0_join_9 : decode cX0_join 9 = .ok (.aload_n 0, 1) := by decide +kernel
theorem dX0_join_10 : decode cX0_join 10 = .ok (.iload_n 1, 1) := by decide +kernel
theorem dX0_join_11 : decode cX0_join 11 = .ok (.invokevirtual 116, 3) := by decide +kernel
theorem dX0_join_14 : decode cX0_join 14 = .ok (.istore_n 3, 1) := by decide +kernel
theorem dX0_join_15 : decode cX0_join 15 = .ok (.iload_n 3, 1) := by decide +kernel
theorem dX0_join_16 : decode cX0_join 16 = .ok (.iload_n 2, 1) := by decide +kernel
theorem dX0_join_17 : decode cX0_join 17 = .ok (.if_icmp .le 13, 3) := by decide +kernel
theorem dX0_join_20 : decode cX0_join 20 = .ok (.new 47, 3) := by decide +kernel
theorem dX0_join_23 : decode cX0_join 23 = .ok (.dup, 1) := by decide +kernel
theorem dX0_join_24 : decode cX0_join 24 = .ok (.ldc 128, 2) := by decide +kernel
theorem dX0_join_26 : decode cX0_join 26 = .ok (.invokespecial 51, 3) := by decide +kernel
theorem dX0_join_29 : decode cX0_join 29 = .ok (.athrow, 1) := by decide +kernel
theorem dX0_join_30 : decode cX0_join 30 = .ok (.iconst 0, 1) := by decide +kernel
theorem dX0_join_31 : decode cX0_join 31 = .ok (.istore 4, 2) := by decide +kernel
theorem dX0_join_33 : decode cX0_join 33 = .ok (.iload 4, 2) := by decide +kernel
theorem dX0_join_35 : decode cX0_join 35 = .ok (.bipush 15, 2) := by decide +kernel
theorem dX0_join_37 : decode cX0_join 37 = .ok (.if_icmp .ge 34, 3) := by decide +kernel
theorem dX0_join_40 : decode cX0_join 40 = .ok (.aload_n 0, 1) := by decide +kernel
theorem dX0_join_41 : decode cX0_join 41 = .ok (.getfield 28, 3) := by decide +kernel
theorem dX0_join_44 : decode cX0_join 44 = .ok (.iload_n 1, 1) := by decide +kernel
theorem dX0_join_45 : decode cX0_join 45 = .ok (.iconst 3, 1) := by decide +kernel
theorem dX0_join_46 : decode cX0_join 46 = .ok (.imul, 1) := by decide +kernel
theorem dX0_join_47 : decode cX0_join 47 = .ok (.iconst 5, 1) := by decide +kernel
theorem dX0_join_48 : decode cX0_join 48 = .ok (.imul, 1) := by decide +kernel
theorem dX0_join_49 : decode cX0_join 49 = .ok (.iload 4, 2) := by decide +kernel
theorem dX0_join_51 : decode cX0_join 51 = .ok (.iadd, 1) := by decide +kernel
theorem dX0_join_52 : decode cX0_join 52 = .ok (.aload_n 0, 1) := by decide +kernel
theorem dX0_join_53 : decode cX0_join 53 = .ok (.getfield 31, 3) := by decide +kernel
theorem dX0_join_56 : decode cX0_join 56 = .ok (.iload 4, 2) := by decide +kernel
theorem dX0_join_58 : decode cX0_join 58 = .ok (.invokestatic 105, 3) := by decide +kernel
theorem dX0_join_61 : decode cX0_join 61 = .ok (.invokestatic 58, 3) := by decide +kernel
theorem dX0_join_64 : decode cX0_join 64 = .ok (.pop, 1) := by decide +kernel
theorem dX0_join_65 : decode cX0_join 65 = .ok (.iinc 4 1, 3) := by decide +kernel
theorem dX0_join_68 : decode cX0_join 68 = .ok (.goto (-35), 3) := by decide +kernel
theorem dX0_join_71 : decode cX0_join 71 = .ok (.aload_n 0, 1) := by decide +kernel
theorem dX0_join_72 : decode cX0_join 72 = .ok (.aload_n 0, 1) := by decide +kernel
theorem dX0_join_73 : decode cX0_join 73 = .ok (.getfield 130, 3) := by decide +kernel
theorem dX0_join_76 : decode cX0_join 76 = .ok (.iconst 1, 1) := by decide +kernel
theorem dX0_join_77 : decode cX0_join 77 = .ok (.iload_n 1, 1) := by decide +kernel
theorem dX0_join_78 : decode cX0_join 78 = .ok (.ishl, 1) := by decide +kernel
theorem dX0_join_79 : decode cX0_join 79 = .ok (.ior, 1) := by decide +kernel
theorem dX0_join_80 : decode cX0_join 80 = .ok (.putfield 130, 3) := by decide +kernel
theorem dX0_join_83 : decode cX0_join 83 = .ok (.iload_n 3, 1) := by decide +kernel
theorem dX0_join_84 : decode cX0_join 84 = .ok (.ireturn, 1) := by decide +kernel
set_option maxRecDepth 20000 in
theorem ggX0_joined_X0_needChain : GoodIn wsX0_joined wsX0_needChain := goodIn_ca (goodIn_r _ [9, 10, 11, 12, 34, 35, 36, 37, 38, 39, 40, 41, 42, 43, 44, 45, 46, 47, 48] (by decide +kernel) (by decide +kernel)) (goodIn_sub (fun _ h => List.mem_cons_of_mem _ (List.mem_append_left _ (List.mem_append_right _ h))) (by decide +kernel))
set_option maxRecDepth 20000 in
theorem gX0_joined_X0_needChain : GoodIn wsX0_joined (wsV RX0 99 RX0 yX0_needChain wsX0_needChain) := goodIn_app (goodIn_of _ (by decide +kernel)) ggX0_joined_X0_needChain
set_option maxRecDepth 20000 in
theorem ggX0_joined_X0_needBand : GoodIn wsX0_joined wsX0_needBand := goodIn_ca (goodIn_r _ [15, 10, 11] (by decide +kernel) (by decide +kernel)) (goodIn_sub (fun _ h => List.mem_cons_of_mem _ (List.mem_append_left _ (List.mem_append_right _ h))) (by decide +kernel))
set_option maxRecDepth 20000 in
theorem gX0_joined_X0_needBand : GoodIn wsX0_joined (va_wsS RX0 66 yX0_needBand wsX0_needBand) := goodIn_app (goodIn_of _ (by decide +kernel)) ggX0_joined_X0_needBand
set_option maxRecDepth 20000 in
theorem ggX0_joined_X0_needValue : GoodIn wsX0_joined wsX0_needValue := goodIn_ca (goodIn_r _ [18, 19, 20] (by decide +kernel) (by decide +kernel)) (goodIn_sub (fun _ h => List.mem_cons_of_mem _ (List.mem_append_right _ h)) (by decide +kernel))
set_option maxRecDepth 20000 in
theorem gX0_joined_X0_needValue : GoodIn wsX0_joined (va_wsS RX0 74 yX0_needValue wsX0_needValue) := goodIn_app (goodIn_of _ (by decide +kernel)) ggX0_joined_X0_needValue
set_option maxRecDepth 20000 in
theorem ggX0_joined_X0_hasBit : GoodIn wsX0_joined wsX0_hasBit := goodIn_r _ [23] (by decide +kernel) (by decide +kernel)
set_option maxRecDepth 20000 in
theorem gX0_joined_X0_hasBit : GoodIn wsX0_joined (va_wsS RX0 133 yX0_hasBit wsX0_hasBit) := goodIn_app (goodIn_of _ (by decide +kernel)) ggX0_joined_X0_hasBit
set_option maxRecDepth 20000 in
theorem ggX0_joined_X0_between : GoodIn wsX0_joined wsX0_between := goodIn_r _ [26, 27, 28, 8, 29, 30, 31, 32, 33] (by decide +kernel) (by decide +kernel)
set_option maxRecDepth 20000 in
theorem gX0_joined_X0_between : GoodIn wsX0_joined (va_wsS RX0 139 yX0_between wsX0_between) := goodIn_app (goodIn_of _ (by decide +kernel)) ggX0_joined_X0_between
theorem dX0_joined_0 : decode cX0_joined 0 = .ok (.aload_n 0, 1) := by decide +kernel
theorem dX0_joined_1 : decode cX0_joined 1 = .ok (.iload_n 1, 1) := by decide +kernel
theorem dX0_joined_2 : decode cX0_joined 2 = .ok (.invokevirtual 99, 3) := by decide +kernel
theorem dX0_joined_5 : decode cX0_joined 5 = .ok (.iload_n 2, 1) := by decide +kernel
theorem dX0_joined_6 : decode cX0_joined 6 = .ok (.invokestatic 66, 3) := by decide +kernel
theorem dX0_joined_9 : decode cX0_joined 9 = .ok (.iload_n 3, 1) := by decide +kernel
theorem dX0_joined_10 : decode cX0_joined 10 = .ok (.invokestatic 74, 3) := by decide +kernel
theorem dX0_joined_13 : decode cX0_joined 13 = .ok (.aload_n 0, 1) := by decide +kernel
theorem dX0_joined_14 : decode cX0_joined 14 = .ok (.getfield 130, 3) := by decide +kernel
theorem dX0_joined_17 : decode cX0_joined 17 = .ok (.iload_n 1, 1) := by decide +kernel
theorem dX0_joined_18 : decode cX0_joined 18 = .ok (.invokestatic 133, 3) := by decide +kernel
theorem dX0_joined_21 : decode cX0_joined 21 = .ok (.ifCond .ne 13, 3) := by decide +kernel
theorem dX0_joined_24 : decode cX0_joined 24 = .ok (.new 47, 3) := by decide +kernel
theorem dX0_joined_27 : decode cX0_joined 27 = .ok (.dup, 1) := by decide +kernel
theorem dX0_joined_28 : decode cX0_joined 28 = .ok (.ldc 137, 2) := by decide +kernel
theorem dX0_joined_30 : decode cX0_joined 30 = .ok (.invokespecial 51, 3) := by decide +kernel
theorem dX0_joined_33 : decode cX0_joined 33 = .ok (.athrow, 1) := by decide +kernel
theorem dX0_joined_34 : decode cX0_joined 34 = .ok (.aload_n 0, 1) := by decide +kernel
theorem dX0_joined_35 : decode cX0_joined 35 = .ok (.getfield 28, 3) := by decide +kernel
theorem dX0_joined_38 : decode cX0_joined 38 = .ok (.iload_n 1, 1) := by decide +kernel
theorem dX0_joined_39 : decode cX0_joined 39 = .ok (.iconst 3, 1) := by decide +kernel
theorem dX0_joined_40 : decode cX0_joined 40 = .ok (.imul, 1) := by decide +kernel
theorem dX0_joined_41 : decode cX0_joined 41 = .ok (.iload_n 2, 1) := by decide +kernel
theorem dX0_joined_42 : decode cX0_joined 42 = .ok (.iadd, 1) := by decide +kernel
theorem dX0_joined_43 : decode cX0_joined 43 = .ok (.iconst 5, 1) := by decide +kernel
theorem dX0_joined_44 : decode cX0_joined 44 = .ok (.imul, 1) := by decide +kernel
theorem dX0_joined_45 : decode cX0_joined 45 = .ok (.iload_n 3, 1) := by decide +kernel
theorem dX0_joined_46 : decode cX0_joined 46 = .ok (.invokestatic 139, 3) := by decide +kernel
theorem dX0_joined_49 : decode cX0_joined 49 = .ok (.ireturn, 1) := by decide +kernel
set_option maxRecDepth 20000 in
theorem ggX0_stale_X0_hasBit : GoodIn wsX0_stale wsX0_hasBit := goodIn_r _ [5] (by decide +kernel) (by decide +kernel)
set_option maxRecDepth 20000 in
theorem gX0_stale_X0_hasBit : GoodIn wsX0_stale (va_wsS RX0 133 yX0_hasBit wsX0_hasBit) := goodIn_app (goodIn_of _ (by decide +kernel)) ggX0_stale_X0_hasBit
set_option maxRecDepth 20000 in
theorem ggX0_stale_X0_differsFromKept : GoodIn wsX0_stale wsX0_differsFromKept := goodIn_r _ [9, 10, 11, 12, 4, 13, 14, 15, 16, 17, 18, 19, 20, 21, 22, 23, 24, 25, 26, 27, 28, 29, 30, 31, 32, 33, 34, 35, 36, 37, 38, 39, 40, 41, 42, 43, 44, 45, 46, 47, 48, 49, 50, 51, 52, 53, 54, 55, 56, 57, 58, 59, 60, 61, 62, 63, 64, 65, 66] (by decide +kernel) (by decide +kernel)
set_option maxRecDepth 20000 in
theorem gX0_stale_X0_differsFromKept : GoodIn wsX0_stale (wsV RX0 142 RX0 yX0_differsFromKept wsX0_differsFromKept) := goodIn_app (goodIn_of _ (by decide +kernel)) ggX0_stale_X0_differsFromKept
theorem dX0_stale_0 : decode cX0_stale 0 = .ok (.iconst 0, 1) := by decide +kernel
theorem dX0_stale_1 : decode cX0_stale 1 = .ok (.istore_n 1, 1) := by decide +kernel
theorem dX0_stale_2 : decode cX0_stale 2 = .ok (.iconst 0, 1) := by decide +kernel
theorem dX0_stale_3 : decode cX0_stale 3 = .ok (.istore_n 2, 1) := by decide +kernel
theorem dX0_stale_4 : decode cX0_stale 4 = .ok (.iload_n 2, 1) := by decide +kernel
theorem dX0_stale_5 : decode cX0_stale 5 = .ok (.bipush 6, 2) := by decide +kernel
theorem dX0_stale_7 : decode cX0_stale 7 = .ok (.if_icmp .ge 34, 3) := by decide +kernel
theorem dX0_stale_10 : decode cX0_stale 10 = .ok (.aload_n 0, 1) := by decide +kernel
theorem dX0_stale_11 : decode cX0_stale 11 = .ok (.getfield 130, 3) := by decide +kernel
theorem dX0_stale_14 : decode cX0_stale 14 = .ok (.iload_n 2, 1) := by decide +kernel
theorem dX0_stale_15 : decode cX0_stale 15 = .ok (.invokestatic 133, 3) := by decide +kernel
theorem dX0_stale_18 : decode cX0_stale 18 = .ok (.ifCond .eq 17, 3) := by decide +kernel
theorem dX0_stale_21 : decode cX0_stale 21 = .ok (.aload_n 0, 1) := by decide +kernel
theorem dX0_stale_22 : decode cX0_stale 22 = .ok (.iload_n 2, 1) := by decide +kernel
theorem dX0_stale_23 : decode cX0_stale 23 = .ok (.invokevirtual 142, 3) := by decide +kernel
theorem dX0_stale_26 : decode cX0_stale 26 = .ok (.ifCond .eq 9, 3) := by decide +kernel
theorem dX0_stale_29 : decode cX0_stale 29 = .ok (.iload_n 1, 1) := by decide +kernel
theorem dX0_stale_30 : decode cX0_stale 30 = .ok (.iconst 1, 1) := by decide +kernel
theorem dX0_stale_31 : decode cX0_stale 31 = .ok (.iload_n 2, 1) := by decide +kernel
theorem dX0_stale_32 : decode cX0_stale 32 = .ok (.ishl, 1) := by decide +kernel
theorem dX0_stale_33 : decode cX0_stale 33 = .ok (.ior, 1) := by decide +kernel
theorem dX0_stale_34 : decode cX0_stale 34 = .ok (.istore_n 1, 1) := by decide +kernel
theorem dX0_stale_35 : decode cX0_stale 35 = .ok (.iinc 2 1, 3) := by decide +kernel
theorem dX0_stale_38 : decode cX0_stale 38 = .ok (.goto (-34), 3) := by decide +kernel
theorem dX0_stale_41 : decode cX0_stale 41 = .ok (.iload_n 1, 1) := by decide +kernel
theorem dX0_stale_42 : decode cX0_stale 42 = .ok (.ireturn, 1) := by decide +kernel
set_option maxRecDepth 20000 in
theorem ggX0_sign_X0_needChain : GoodIn wsX0_sign wsX0_needChain := goodIn_ca (goodIn_r _ [6, 7, 8, 9, 13, 14, 15, 16, 17, 18, 19, 20, 21, 22, 23, 24, 25, 26, 27] (by decide +kernel) (by decide +kernel)) (goodIn_sub (fun _ h => List.mem_cons_of_mem _ (List.mem_append_right _ h)) (by decide +kernel))
set_option maxRecDepth 20000 in
theorem gX0_sign_X0_needChain : GoodIn wsX0_sign (wsV RX0 99 RX0 yX0_needChain wsX0_needChain) := goodIn_app (goodIn_of _ (by decide +kernel)) ggX0_sign_X0_needChain
set_option maxRecDepth 20000 in
theorem ggX0_sign_X0_hasBit : GoodIn wsX0_sign wsX0_hasBit := goodIn_r _ [12] (by decide +kernel) (by decide +kernel)
set_option maxRecDepth 20000 in
theorem gX0_sign_X0_hasBit : GoodIn wsX0_sign (va_wsS RX0 133 yX0_hasBit wsX0_hasBit) := goodIn_app (goodIn_of _ (by decide +kernel)) ggX0_sign_X0_hasBit
theorem dX0_sign_0 : decode cX0_sign 0 = .ok (.aload_n 0, 1) := by decide +kernel
theorem dX0_sign_1 : decode cX0_sign 1 = .ok (.iload_n 1, 1) := by decide +kernel
theorem dX0_sign_2 : decode cX0_sign 2 = .ok (.invokevirtual 99, 3) := by decide +kernel
theorem dX0_sign_5 : decode cX0_sign 5 = .ok (.aload_n 0, 1) := by decide +kernel
theorem dX0_sign_6 : decode cX0_sign 6 = .ok (.aload_n 0, 1) := by decide +kernel
theorem dX0_sign_7 : decode cX0_sign 7 = .ok (.getfield 146, 3) := by decide +kernel
theorem dX0_sign_10 : decode cX0_sign 10 = .ok (.iconst 1, 1) := by decide +kernel
theorem dX0_sign_11 : decode cX0_sign 11 = .ok (.iload_n 1, 1) := by decide +kernel
theorem dX0_sign_12 : decode cX0_sign 12 = .ok (.ishl, 1) := by decide +kernel
theorem dX0_sign_13 : decode cX0_sign 13 = .ok (.ixor, 1) := by decide +kernel
theorem dX0_sign_14 : decode cX0_sign 14 = .ok (.putfield 146, 3) := by decide +kernel
theorem dX0_sign_17 : decode cX0_sign 17 = .ok (.aload_n 0, 1) := by decide +kernel
theorem dX0_sign_18 : decode cX0_sign 18 = .ok (.getfield 146, 3) := by decide +kernel
theorem dX0_sign_21 : decode cX0_sign 21 = .ok (.iload_n 1, 1) := by decide +kernel
theorem dX0_sign_22 : decode cX0_sign 22 = .ok (.invokestatic 133, 3) := by decide +kernel
theorem dX0_sign_25 : decode cX0_sign 25 = .ok (.ireturn, 1) := by decide +kernel
set_option maxRecDepth 20000 in
theorem ggX0_held_X0_hasBit : GoodIn wsX0_held wsX0_hasBit := goodIn_r _ [5] (by decide +kernel) (by decide +kernel)
set_option maxRecDepth 20000 in
theorem gX0_held_X0_hasBit : GoodIn wsX0_held (va_wsS RX0 133 yX0_hasBit wsX0_hasBit) := goodIn_app (goodIn_of _ (by decide +kernel)) ggX0_held_X0_hasBit
set_option maxRecDepth 20000 in
theorem ggX0_held_X0_profilesOf : GoodIn wsX0_held wsX0_profilesOf := goodIn_r _ [9, 10, 11, 12, 13, 4, 14, 15, 16, 17, 18, 19, 20, 21, 22, 23, 24, 25, 26, 27, 28, 29] (by decide +kernel) (by decide +kernel)
set_option maxRecDepth 20000 in
theorem gX0_held_X0_profilesOf : GoodIn wsX0_held (wsV RX0 149 RX0 yX0_profilesOf wsX0_profilesOf) := goodIn_app (goodIn_of _ (by decide +kernel)) ggX0_held_X0_profilesOf
theorem dX0_held_0 : decode cX0_held 0 = .ok (.iconst 0, 1) := by decide +kernel
theorem dX0_held_1 : decode cX0_held 1 = .ok (.istore_n 1, 1) := by decide +kernel
theorem dX0_held_2 : decode cX0_held 2 = .ok (.iconst 0, 1) := by decide +kernel
theorem dX0_held_3 : decode cX0_held 3 = .ok (.istore_n 2, 1) := by decide +kernel
theorem dX0_held_4 : decode cX0_held 4 = .ok (.iload_n 2, 1) := by decide +kernel
theorem dX0_held_5 : decode cX0_held 5 = .ok (.bipush 6, 2) := by decide +kernel
theorem dX0_held_7 : decode cX0_held 7 = .ok (.if_icmp .ge 28, 3) := by decide +kernel
theorem dX0_held_10 : decode cX0_held 10 = .ok (.aload_n 0, 1) := by decide +kernel
theorem dX0_held_11 : decode cX0_held 11 = .ok (.getfield 146, 3) := by decide +kernel
theorem dX0_held_14 : decode cX0_held 14 = .ok (.iload_n 2, 1) := by decide +kernel
theorem dX0_held_15 : decode cX0_held 15 = .ok (.invokestatic 133, 3) := by decide +kernel
theorem dX0_held_18 : decode cX0_held 18 = .ok (.ifCond .eq 11, 3) := by decide +kernel
theorem dX0_held_21 : decode cX0_held 21 = .ok (.iload_n 1, 1) := by decide +kernel
theorem dX0_held_22 : decode cX0_held 22 = .ok (.aload_n 0, 1) := by decide +kernel
theorem dX0_held_23 : decode cX0_held 23 = .ok (.iload_n 2, 1) := by decide +kernel
theorem dX0_held_24 : decode cX0_held 24 = .ok (.invokevirtual 149, 3) := by decide +kernel
theorem dX0_held_27 : decode cX0_held 27 = .ok (.ior, 1) := by decide +kernel
theorem dX0_held_28 : decode cX0_held 28 = .ok (.istore_n 1, 1) := by decide +kernel
theorem dX0_held_29 : decode cX0_held 29 = .ok (.iinc 2 1, 3) := by decide +kernel
theorem dX0_held_32 : decode cX0_held 32 = .ok (.goto (-28), 3) := by decide +kernel
theorem dX0_held_35 : decode cX0_held 35 = .ok (.iload_n 1, 1) := by decide +kernel
theorem dX0_held_36 : decode cX0_held 36 = .ok (.ireturn, 1) := by decide +kernel
set_option maxRecDepth 20000 in
theorem ggX0_paint_X0_needPixel : GoodIn wsX0_paint wsX0_needPixel := goodIn_ca (goodIn_r _ [5, 6, 7] (by decide +kernel) (by decide +kernel)) (goodIn_sub (fun _ h => List.mem_cons_of_mem _ (List.mem_append_left _ (List.mem_append_right _ h))) (by decide +kernel))
set_option maxRecDepth 20000 in
theorem gX0_paint_X0_needPixel : GoodIn wsX0_paint (va_wsS RX0 152 yX0_needPixel wsX0_needPixel) := goodIn_app (goodIn_of _ (by decide +kernel)) ggX0_paint_X0_needPixel
set_option maxRecDepth 20000 in
theorem ggX0_paint_X0_needBand : GoodIn wsX0_paint wsX0_needBand := goodIn_ca (goodIn_r _ [10, 6, 7] (by decide +kernel) (by decide +kernel)) (goodIn_sub (fun _ h => List.mem_cons_of_mem _ (List.mem_append_left _ (List.mem_append_right _ h))) (by decide +kernel))
set_option maxRecDepth 20000 in
theorem gX0_paint_X0_needBand : GoodIn wsX0_paint (va_wsS RX0 66 yX0_needBand wsX0_needBand) := goodIn_app (goodIn_of _ (by decide +kernel)) ggX0_paint_X0_needBand
set_option maxRecDepth 20000 in
theorem ggX0_paint_X0_needValue : GoodIn wsX0_paint wsX0_needValue := goodIn_ca (goodIn_r _ [13, 14, 15] (by decide +kernel) (by decide +kernel)) (goodIn_sub (fun _ h => List.mem_cons_of_mem _ (List.mem_append_right _ h)) (by decide +kernel))
set_option maxRecDepth 20000 in
theorem gX0_paint_X0_needValue : GoodIn wsX0_paint (va_wsS RX0 74 yX0_needValue wsX0_needValue) := goodIn_app (goodIn_of _ (by decide +kernel)) ggX0_paint_X0_needValue
set_option maxRecDepth 20000 in
theorem ggX0_paint_X0_swap : GoodIn wsX0_paint wsX0_swap := goodIn_r _ [18] (by decide +kernel) (by decide +kernel)
set_option maxRecDepth 20000 in
theorem gX0_paint_X0_swap : GoodIn wsX0_paint (va_wsS RX0 58 yX0_swap wsX0_swap) := goodIn_app (goodIn_of _ (by decide +kernel)) ggX0_paint_X0_swap
theorem dX0_paint_0 : decode cX0_paint 0 = .ok (.iload_n 1, 1) := by decide +kernel
theorem dX0_paint_1 : decode cX0_paint 1 = .ok (.invokestatic 152, 3) := by decide +kernel
theorem dX0_paint_4 : decode cX0_paint 4 = .ok (.iload_n 2, 1) := by decide +kernel
theorem dX0_paint_5 : decode cX0_paint 5 = .ok (.invokestatic 66, 3) := by decide +kernel
theorem dX0_paint_8 : decode cX0_paint 8 = .ok (.iload_n 3, 1) := by decide +kernel
theorem dX0_paint_9 : decode cX0_paint 9 = .ok (.invokestatic 74, 3) := by decide +kernel
theorem dX0_paint_12 : decode cX0_paint 12 = .ok (.aload_n 0, 1) := by decide +kernel
theorem dX0_paint_13 : decode cX0_paint 13 = .ok (.getfield 34, 3) := by decide +kernel
theorem dX0_paint_16 : decode cX0_paint 16 = .ok (.iload_n 1, 1) := by decide +kernel
theorem dX0_paint_17 : decode cX0_paint 17 = .ok (.iconst 3, 1) := by decide +kernel
theorem dX0_paint_18 : decode cX0_paint 18 = .ok (.imul, 1) := by decide +kernel
theorem dX0_paint_19 : decode cX0_paint 19 = .ok (.iload_n 2, 1) := by decide +kernel
theorem dX0_paint_20 : decode cX0_paint 20 = .ok (.iadd, 1) := by decide +kernel
theorem dX0_paint_21 : decode cX0_paint 21 = .ok (.iload_n 3, 1) := by decide +kernel
theorem dX0_paint_22 : decode cX0_paint 22 = .ok (.invokestatic 58, 3) := by decide +kernel
theorem dX0_paint_25 : decode cX0_paint 25 = .ok (.ireturn, 1) := by decide +kernel
set_option maxRecDepth 20000 in
theorem ggX0_spot_X0_needPixel : GoodIn wsX0_spot wsX0_needPixel := goodIn_ca (goodIn_r _ [5, 6, 7] (by decide +kernel) (by decide +kernel)) (goodIn_sub (fun _ h => List.mem_cons_of_mem _ (List.mem_append_left _ (List.mem_append_right _ h))) (by decide +kernel))
set_option maxRecDepth 20000 in
theorem gX0_spot_X0_needPixel : GoodIn wsX0_spot (va_wsS RX0 152 yX0_needPixel wsX0_needPixel) := goodIn_app (goodIn_of _ (by decide +kernel)) ggX0_spot_X0_needPixel
set_option maxRecDepth 20000 in
theorem ggX0_spot_X0_needInk : GoodIn wsX0_spot wsX0_needInk := goodIn_ca (goodIn_r _ [10, 6, 7] (by decide +kernel) (by decide +kernel)) (goodIn_sub (fun _ h => List.mem_cons_of_mem _ (List.mem_append_left _ (List.mem_append_right _ h))) (by decide +kernel))
set_option maxRecDepth 20000 in
theorem gX0_spot_X0_needInk : GoodIn wsX0_spot (va_wsS RX0 155 yX0_needInk wsX0_needInk) := goodIn_app (goodIn_of _ (by decide +kernel)) ggX0_spot_X0_needInk
set_option maxRecDepth 20000 in
theorem ggX0_spot_X0_needValue : GoodIn wsX0_spot wsX0_needValue := goodIn_ca (goodIn_r _ [13, 14, 15] (by decide +kernel) (by decide +kernel)) (goodIn_sub (fun _ h => List.mem_cons_of_mem _ (List.mem_append_right _ h)) (by decide +kernel))
set_option maxRecDepth 20000 in
theorem gX0_spot_X0_needValue : GoodIn wsX0_spot (va_wsS RX0 74 yX0_needValue wsX0_needValue) := goodIn_app (goodIn_of _ (by decide +kernel)) ggX0_spot_X0_needValue
set_option maxRecDepth 20000 in
theorem ggX0_spot_X0_swap : GoodIn wsX0_spot wsX0_swap := goodIn_r _ [18] (by decide +kernel) (by decide +kernel)
set_option maxRecDepth 20000 in
theorem gX0_spot_X0_swap : GoodIn wsX0_spot (va_wsS RX0 58 yX0_swap wsX0_swap) := goodIn_app (goodIn_of _ (by decide +kernel)) ggX0_spot_X0_swap
theorem dX0_spot_0 : decode cX0_spot 0 = .ok (.iload_n 1, 1) := by decide +kernel
theorem dX0_spot_1 : decode cX0_spot 1 = .ok (.invokestatic 152, 3) := by decide +kernel
theorem dX0_spot_4 : decode cX0_spot 4 = .ok (.iload_n 2, 1) := by decide +kernel
theorem dX0_spot_5 : decode cX0_spot 5 = .ok (.invokestatic 155, 3) := by decide +kernel
theorem dX0_spot_8 : decode cX0_spot 8 = .ok (.iload_n 3, 1) := by decide +kernel
theorem dX0_spot_9 : decode cX0_spot 9 = .ok (.invokestatic 74, 3) := by decide +kernel
theorem dX0_spot_12 : decode cX0_spot 12 = .ok (.aload_n 0, 1) := by decide +kernel
theorem dX0_spot_13 : decode cX0_spot 13 = .ok (.getfield 37, 3) := by decide +kernel
theorem dX0_spot_16 : decode cX0_spot 16 = .ok (.iload_n 1, 1) := by decide +kernel
theorem dX0_spot_17 : decode cX0_spot 17 = .ok (.iconst 3, 1) := by decide +kernel
theorem dX0_spot_18 : decode cX0_spot 18 = .ok (.imul, 1) := by decide +kernel
theorem dX0_spot_19 : decode cX0_spot 19 = .ok (.iload_n 2, 1) := by decide +kernel
theorem dX0_spot_20 : decode cX0_spot 20 = .ok (.iadd, 1) := by decide +kernel
theorem dX0_spot_21 : decode cX0_spot 21 = .ok (.iload_n 3, 1) := by decide +kernel
theorem dX0_spot_22 : decode cX0_spot 22 = .ok (.invokestatic 58, 3) := by decide +kernel
theorem dX0_spot_25 : decode cX0_spot 25 = .ok (.ireturn, 1) := by decide +kernel
set_option maxRecDepth 20000 in
theorem ggX0_mix_X0_needInk : GoodIn wsX0_mix wsX0_needInk := goodIn_ca (goodIn_r _ [5, 6, 7] (by decide +kernel) (by decide +kernel)) (goodIn_sub (fun _ h => List.mem_cons_of_mem _ (List.mem_append_left _ (List.mem_append_right _ h))) (by decide +kernel))
set_option maxRecDepth 20000 in
theorem gX0_mix_X0_needInk : GoodIn wsX0_mix (va_wsS RX0 155 yX0_needInk wsX0_needInk) := goodIn_app (goodIn_of _ (by decide +kernel)) ggX0_mix_X0_needInk
set_option maxRecDepth 20000 in
theorem ggX0_mix_X0_needBand : GoodIn wsX0_mix wsX0_needBand := goodIn_ca (goodIn_r _ [10, 6, 7] (by decide +kernel) (by decide +kernel)) (goodIn_sub (fun _ h => List.mem_cons_of_mem _ (List.mem_append_left _ (List.mem_append_right _ h))) (by decide +kernel))
set_option maxRecDepth 20000 in
theorem gX0_mix_X0_needBand : GoodIn wsX0_mix (va_wsS RX0 66 yX0_needBand wsX0_needBand) := goodIn_app (goodIn_of _ (by decide +kernel)) ggX0_mix_X0_needBand
set_option maxRecDepth 20000 in
theorem ggX0_mix_X0_needValue : GoodIn wsX0_mix wsX0_needValue := goodIn_ca (goodIn_r _ [13, 14, 15] (by decide +kernel) (by decide +kernel)) (goodIn_sub (fun _ h => List.mem_cons_of_mem _ (List.mem_append_right _ h)) (by decide +kernel))
set_option maxRecDepth 20000 in
theorem gX0_mix_X0_needValue : GoodIn wsX0_mix (va_wsS RX0 74 yX0_needValue wsX0_needValue) := goodIn_app (goodIn_of _ (by decide +kernel)) ggX0_mix_X0_needValue
set_option maxRecDepth 20000 in
theorem ggX0_mix_X0_swap : GoodIn wsX0_mix wsX0_swap := goodIn_r _ [18] (by decide +kernel) (by decide +kernel)
set_option maxRecDepth 20000 in
theorem gX0_mix_X0_swap : GoodIn wsX0_mix (va_wsS RX0 58 yX0_swap wsX0_swap) := goodIn_app (goodIn_of _ (by decide +kernel)) ggX0_mix_X0_swap
theorem dX0_mix_0 : decode cX0_mix 0 = .ok (.iload_n 1, 1) := by decide +kernel
theorem dX0_mix_1 : decode cX0_mix 1 = .ok (.invokestatic 155, 3) := by decide +kernel
theorem dX0_mix_4 : decode cX0_mix 4 = .ok (.iload_n 2, 1) := by decide +kernel
theorem dX0_mix_5 : decode cX0_mix 5 = .ok (.invokestatic 66, 3) := by decide +kernel
theorem dX0_mix_8 : decode cX0_mix 8 = .ok (.iload_n 3, 1) := by decide +kernel
theorem dX0_mix_9 : decode cX0_mix 9 = .ok (.invokestatic 74, 3) := by decide +kernel
theorem dX0_mix_12 : decode cX0_mix 12 = .ok (.aload_n 0, 1) := by decide +kernel
theorem dX0_mix_13 : decode cX0_mix 13 = .ok (.getfield 40, 3) := by decide +kernel
theorem dX0_mix_16 : decode cX0_mix 16 = .ok (.iload_n 1, 1) := by decide +kernel
theorem dX0_mix_17 : decode cX0_mix 17 = .ok (.iconst 3, 1) := by decide +kernel
theorem dX0_mix_18 : decode cX0_mix 18 = .ok (.imul, 1) := by decide +kernel
theorem dX0_mix_19 : decode cX0_mix 19 = .ok (.iload_n 2, 1) := by decide +kernel
theorem dX0_mix_20 : decode cX0_mix 20 = .ok (.iadd, 1) := by decide +kernel
theorem dX0_mix_21 : decode cX0_mix 21 = .ok (.iload_n 3, 1) := by decide +kernel
theorem dX0_mix_22 : decode cX0_mix 22 = .ok (.invokestatic 58, 3) := by decide +kernel
theorem dX0_mix_25 : decode cX0_mix 25 = .ok (.ireturn, 1) := by decide +kernel
set_option maxRecDepth 20000 in
theorem ggX0_shown_X0_needChain : GoodIn wsX0_shown wsX0_needChain := goodIn_ca (goodIn_r _ [7, 8, 9, 10, 65, 66, 67, 68, 69, 70, 71, 72, 73, 74, 75, 76, 77, 78, 79] (by decide +kernel) (by decide +kernel)) (goodIn_sub (fun _ h => List.mem_cons_of_mem _ (List.mem_append_right _ h)) (by decide +kernel))
set_option maxRecDepth 20000 in
theorem gX0_shown_X0_needChain : GoodIn wsX0_shown (wsV RX0 99 RX0 yX0_needChain wsX0_needChain) := goodIn_app (goodIn_of _ (by decide +kernel)) ggX0_shown_X0_needChain
set_option maxRecDepth 20000 in
theorem ggX0_shown_X0_needPixel : GoodIn wsX0_shown wsX0_needPixel := goodIn_ca (goodIn_r _ [13, 8, 9] (by decide +kernel) (by decide +kernel)) (goodIn_sub (fun _ h => List.mem_cons_of_mem _ (List.mem_append_right _ h)) (by decide +kernel))
set_option maxRecDepth 20000 in
theorem gX0_shown_X0_needPixel : GoodIn wsX0_shown (va_wsS RX0 152 yX0_needPixel wsX0_needPixel) := goodIn_app (goodIn_of _ (by decide +kernel)) ggX0_shown_X0_needPixel
set_option maxRecDepth 20000 in
theorem ggX0_shown_X0_needBand : GoodIn wsX0_shown wsX0_needBand := goodIn_ca (goodIn_r _ [16, 8, 9] (by decide +kernel) (by decide +kernel)) (goodIn_sub (fun _ h => List.mem_cons_of_mem _ (List.mem_append_right _ h)) (by decide +kernel))
set_option maxRecDepth 20000 in
theorem gX0_shown_X0_needBand : GoodIn wsX0_shown (va_wsS RX0 66 yX0_needBand wsX0_needBand) := goodIn_app (goodIn_of _ (by decide +kernel)) ggX0_shown_X0_needBand
set_option maxRecDepth 20000 in
theorem ggX0_shown_X0_inked : GoodIn wsX0_shown wsX0_inked := goodIn_r _ [20, 21, 22, 23, 24, 25, 26, 27, 28, 29, 6, 30, 31, 32, 33, 65, 66, 67, 68, 69, 70, 71, 72, 73, 74, 75, 76, 77, 78, 79] (by decide +kernel) (by decide +kernel)
set_option maxRecDepth 20000 in
theorem gX0_shown_X0_inked : GoodIn wsX0_shown (wsV RX0 160 RX0 yX0_inked wsX0_inked) := goodIn_app (goodIn_of _ (by decide +kernel)) ggX0_shown_X0_inked
set_option maxRecDepth 20000 in
theorem ggX0_shown_X0_pass : GoodIn wsX0_shown wsX0_pass := goodIn_r _ [37, 38, 39, 28, 29, 6, 30, 40, 41, 42, 43, 44, 45, 46, 24, 25, 26, 27, 47, 48, 49, 50, 51, 52, 53, 54, 55, 56, 57, 58, 59, 60, 61, 62, 63, 64, 65, 66, 67, 68, 69, 70, 71, 72, 73, 74, 75, 76, 77, 78, 79] (by decide +kernel) (by decide +kernel)
set_option maxRecDepth 20000 in
theorem gX0_shown_X0_pass : GoodIn wsX0_shown (wsV RX0 113 RX0 yX0_pass wsX0_pass) := goodIn_app (goodIn_of _ (by decide +kernel)) ggX0_shown_X0_pass
theorem dX0_shown_0 : decode cX0_shown 0 = .ok (.aload_n 0, 1) := by decide +kernel
theorem dX0_shown_1 : decode cX0_shown 1 = .ok (.iload_n 1, 1) := by decide +kernel
theorem dX0_shown_2 : decode cX0_shown 2 = .ok (.invokevirtual 99, 3) := by decide +kernel
theorem dX0_shown_5 : decode cX0_shown 5 = .ok (.iload_n 2, 1) := by decide +kernel
theorem dX0_shown_6 : decode cX0_shown 6 = .ok (.invokestatic 152, 3) := by decide +kernel
theorem dX0_shown_9 : decode cX0_shown 9 = .ok (.iload_n 3, 1) := by decide +kernel
theorem dX0_shown_10 : decode cX0_shown 10 = .ok (.invokestatic 66, 3) := by decide +kernel
theorem dX0_shown_13 : decode cX0_shown 13 = .ok (.iload 4, 2) := by decide +kernel
theorem dX0_shown_15 : decode cX0_shown 15 = .ok (.ifCond .lt 10, 3) := by decide +kernel
theorem dX0_shown_18 : decode cX0_shown 18 = .ok (.iload 4, 2) := by decide +kernel
theorem dX0_shown_20 : decode cX0_shown 20 = .ok (.bipush 7, 2) := by decide +kernel
theorem dX0_shown_22 : decode cX0_shown 22 = .ok (.if_icmp .le 13, 3) := by decide +kernel
theorem dX0_shown_25 : decode cX0_shown 25 = .ok (.new 80, 3) := by decide +kernel
theorem dX0_shown_28 : decode cX0_shown 28 = .ok (.dup, 1) := by decide +kernel
theorem dX0_shown_29 : decode cX0_shown 29 = .ok (.ldc 158, 2) := by decide +kernel
theorem dX0_shown_31 : decode cX0_shown 31 = .ok (.invokespecial 84, 3) := by decide +kernel
theorem dX0_shown_34 : decode cX0_shown 34 = .ok (.athrow, 1) := by decide +kernel
theorem dX0_shown_35 : decode cX0_shown 35 = .ok (.aload_n 0, 1) := by decide +kernel
theorem dX0_shown_36 : decode cX0_shown 36 = .ok (.iload_n 1, 1) := by decide +kernel
theorem dX0_shown_37 : decode cX0_shown 37 = .ok (.iload_n 3, 1) := by decide +kernel
theorem dX0_shown_38 : decode cX0_shown 38 = .ok (.aload_n 0, 1) := by decide +kernel
theorem dX0_shown_39 : decode cX0_shown 39 = .ok (.iload_n 2, 1) := by decide +kernel
theorem dX0_shown_40 : decode cX0_shown 40 = .ok (.iload_n 3, 1) := by decide +kernel
theorem dX0_shown_41 : decode cX0_shown 41 = .ok (.iload 4, 2) := by decide +kernel
theorem dX0_shown_43 : decode cX0_shown 43 = .ok (.invokevirtual 160, 3) := by decide +kernel
theorem dX0_shown_46 : decode cX0_shown 46 = .ok (.invokevirtual 113, 3) := by decide +kernel
theorem dX0_shown_49 : decode cX0_shown 49 = .ok (.ireturn, 1) := by decide +kernel
theorem dX0_needProfile_0 : decode cX0_needProfile 0 = .ok (.iload_n 1, 1) := by decide +kernel
theorem dX0_needProfile_1 : decode cX0_needProfile 1 = .ok (.ifCond .lt 11, 3) := by decide +kernel
theorem dX0_needProfile_4 : decode cX0_needProfile 4 = .ok (.iload_n 1, 1) := by decide +kernel
theorem dX0_needProfile_5 : decode cX0_needProfile 5 = .ok (.aload_n 0, 1) := by decide +kernel
theorem dX0_needProfile_6 : decode cX0_needProfile 6 = .ok (.getfield 43, 3) := by decide +kernel
theorem dX0_needProfile_9 : decode cX0_needProfile 9 = .ok (.if_icmp .lt 13, 3) := by decide +kernel
theorem dX0_needProfile_12 : decode cX0_needProfile 12 = .ok (.new 69, 3) := by decide +kernel
theorem dX0_needProfile_15 : decode cX0_needProfile 15 = .ok (.dup, 1) := by decide +kernel
theorem dX0_needProfile_16 : decode cX0_needProfile 16 = .ok (.ldc 163, 2) := by decide +kernel
theorem dX0_needProfile_18 : decode cX0_needProfile 18 = .ok (.invokespecial 73, 3) := by decide +kernel
theorem dX0_needProfile_21 : decode cX0_needProfile 21 = .ok (.athrow, 1) := by decide +kernel
theorem dX0_needProfile_22 : decode cX0_needProfile 22 = .ok (.return_, 1) := by decide +kernel
theorem dX0_needChain_0 : decode cX0_needChain 0 = .ok (.iload_n 1, 1) := by decide +kernel
theorem dX0_needChain_1 : decode cX0_needChain 1 = .ok (.ifCond .lt 11, 3) := by decide +kernel
theorem dX0_needChain_4 : decode cX0_needChain 4 = .ok (.iload_n 1, 1) := by decide +kernel
theorem dX0_needChain_5 : decode cX0_needChain 5 = .ok (.aload_n 0, 1) := by decide +kernel
theorem dX0_needChain_6 : decode cX0_needChain 6 = .ok (.getfield 94, 3) := by decide +kernel
theorem dX0_needChain_9 : decode cX0_needChain 9 = .ok (.if_icmp .lt 13, 3) := by decide +kernel
theorem dX0_needChain_12 : decode cX0_needChain 12 = .ok (.new 69, 3) := by decide +kernel
theorem dX0_needChain_15 : decode cX0_needChain 15 = .ok (.dup, 1) := by decide +kernel
theorem dX0_needChain_16 : decode cX0_needChain 16 = .ok (.ldc 165, 2) := by decide +kernel
theorem dX0_needChain_18 : decode cX0_needChain 18 = .ok (.invokespecial 73, 3) := by decide +kernel
theorem dX0_needChain_21 : decode cX0_needChain 21 = .ok (.athrow, 1) := by decide +kernel
theorem dX0_needChain_22 : decode cX0_needChain 22 = .ok (.return_, 1) := by decide +kernel
theorem dX0_needBand_0 : decode cX0_needBand 0 = .ok (.iload_n 0, 1) := by decide +kernel
theorem dX0_needBand_1 : decode cX0_needBand 1 = .ok (.ifCond .lt 8, 3) := by decide +kernel
theorem dX0_needBand_4 : decode cX0_needBand 4 = .ok (.iload_n 0, 1) := by decide +kernel
theorem dX0_needBand_5 : decode cX0_needBand 5 = .ok (.iconst 3, 1) := by decide +kernel
theorem dX0_needBand_6 : decode cX0_needBand 6 = .ok (.if_icmp .lt 13, 3) := by decide +kernel
theorem dX0_needBand_9 : decode cX0_needBand 9 = .ok (.new 69, 3) := by decide +kernel
theorem dX0_needBand_12 : decode cX0_needBand 12 = .ok (.dup, 1) := by decide +kernel
theorem dX0_needBand_13 : decode cX0_needBand 13 = .ok (.ldc 167, 2) := by decide +kernel
theorem dX0_needBand_15 : decode cX0_needBand 15 = .ok (.invokespecial 73, 3) := by decide +kernel
theorem dX0_needBand_18 : decode cX0_needBand 18 = .ok (.athrow, 1) := by decide +kernel
theorem dX0_needBand_19 : decode cX0_needBand 19 = .ok (.return_, 1) := by decide +kernel
theorem dX0_needPixel_0 : decode cX0_needPixel 0 = .ok (.iload_n 0, 1) := by decide +kernel
theorem dX0_needPixel_1 : decode cX0_needPixel 1 = .ok (.ifCond .lt 9, 3) := by decide +kernel
theorem dX0_needPixel_4 : decode cX0_needPixel 4 = .ok (.iload_n 0, 1) := by decide +kernel
theorem dX0_needPixel_5 : decode cX0_needPixel 5 = .ok (.bipush 6, 2) := by decide +kernel
theorem dX0_needPixel_7 : decode cX0_needPixel 7 = .ok (.if_icmp .lt 13, 3) := by decide +kernel
theorem dX0_needPixel_10 : decode cX0_needPixel 10 = .ok (.new 69, 3) := by decide +kernel
theorem dX0_needPixel_13 : decode cX0_needPixel 13 = .ok (.dup, 1) := by decide +kernel
theorem dX0_needPixel_14 : decode cX0_needPixel 14 = .ok (.ldc 169, 2) := by decide +kernel
theorem dX0_needPixel_16 : decode cX0_needPixel 16 = .ok (.invokespecial 73, 3) := by decide +kernel
theorem dX0_needPixel_19 : decode cX0_needPixel 19 = .ok (.athrow, 1) := by decide +kernel
theorem dX0_needPixel_20 : decode cX0_needPixel 20 = .ok (.return_, 1) := by decide +kernel
theorem dX0_needInk_0 : decode cX0_needInk 0 = .ok (.iload_n 0, 1) := by decide +kernel
theorem dX0_needInk_1 : decode cX0_needInk 1 = .ok (.ifCond .lt 8, 3) := by decide +kernel
theorem dX0_needInk_4 : decode cX0_needInk 4 = .ok (.iload_n 0, 1) := by decide +kernel
theorem dX0_needInk_5 : decode cX0_needInk 5 = .ok (.iconst 3, 1) := by decide +kernel
theorem dX0_needInk_6 : decode cX0_needInk 6 = .ok (.if_icmp .lt 13, 3) := by decide +kernel
theorem dX0_needInk_9 : decode cX0_needInk 9 = .ok (.new 69, 3) := by decide +kernel
theorem dX0_needInk_12 : decode cX0_needInk 12 = .ok (.dup, 1) := by decide +kernel
theorem dX0_needInk_13 : decode cX0_needInk 13 = .ok (.ldc 171, 2) := by decide +kernel
theorem dX0_needInk_15 : decode cX0_needInk 15 = .ok (.invokespecial 73, 3) := by decide +kernel
theorem dX0_needInk_18 : decode cX0_needInk 18 = .ok (.athrow, 1) := by decide +kernel
theorem dX0_needInk_19 : decode cX0_needInk 19 = .ok (.return_, 1) := by decide +kernel
theorem dX0_needValue_0 : decode cX0_needValue 0 = .ok (.iload_n 0, 1) := by decide +kernel
theorem dX0_needValue_1 : decode cX0_needValue 1 = .ok (.ifCond .lt 10, 3) := by decide +kernel
theorem dX0_needValue_4 : decode cX0_needValue 4 = .ok (.iload_n 0, 1) := by decide +kernel
theorem dX0_needValue_5 : decode cX0_needValue 5 = .ok (.sipush 255, 3) := by decide +kernel
theorem dX0_needValue_8 : decode cX0_needValue 8 = .ok (.if_icmp .le 13, 3) := by decide +kernel
theorem dX0_needValue_11 : decode cX0_needValue 11 = .ok (.new 80, 3) := by decide +kernel
theorem dX0_needValue_14 : decode cX0_needValue 14 = .ok (.dup, 1) := by decide +kernel
theorem dX0_needValue_15 : decode cX0_needValue 15 = .ok (.ldc 173, 2) := by decide +kernel
theorem dX0_needValue_17 : decode cX0_needValue 17 = .ok (.invokespecial 84, 3) := by decide +kernel
theorem dX0_needValue_20 : decode cX0_needValue 20 = .ok (.athrow, 1) := by decide +kernel
theorem dX0_needValue_21 : decode cX0_needValue 21 = .ok (.return_, 1) := by decide +kernel
set_option maxRecDepth 20000 in
theorem ggX0_needFreeProfile_X0_held : GoodIn wsX0_needFreeProfile wsX0_held := goodIn_r _ [7, 8, 9, 10, 6, 11, 12, 13, 14, 15, 16, 17, 18, 19, 20, 21, 22, 23, 24, 25, 26, 27, 28, 29, 30, 31, 32, 33, 34, 35] (by decide +kernel) (by decide +kernel)
set_option maxRecDepth 20000 in
theorem gX0_needFreeProfile_X0_held : GoodIn wsX0_needFreeProfile (wsV RX0 175 RX0 yX0_held wsX0_held) := goodIn_app (goodIn_of _ (by decide +kernel)) ggX0_needFreeProfile_X0_held
set_option maxRecDepth 20000 in
theorem ggX0_needFreeProfile_X0_hasBit : GoodIn wsX0_needFreeProfile wsX0_hasBit := goodIn_r _ [11] (by decide +kernel) (by decide +kernel)
set_option maxRecDepth 20000 in
theorem gX0_needFreeProfile_X0_hasBit : GoodIn wsX0_needFreeProfile (va_wsS RX0 133 yX0_hasBit wsX0_hasBit) := goodIn_app (goodIn_of _ (by decide +kernel)) ggX0_needFreeProfile_X0_hasBit
theorem dX0_needFreeProfile_0 : decode cX0_needFreeProfile 0 = .ok (.aload_n 0, 1) := by decide +kernel
theorem dX0_needFreeProfile_1 : decode cX0_needFreeProfile 1 = .ok (.invokevirtual 175, 3) := by decide +kernel
theorem dX0_needFreeProfile_4 : decode cX0_needFreeProfile 4 = .ok (.iload_n 1, 1) := by decide +kernel
theorem dX0_needFreeProfile_5 : decode cX0_needFreeProfile 5 = .ok (.invokestatic 133, 3) := by decide +kernel
theorem dX0_needFreeProfile_8 : decode cX0_needFreeProfile 8 = .ok (.ifCond .eq 13, 3) := by decide +kernel
theorem dX0_needFreeProfile_11 : decode cX0_needFreeProfile 11 = .ok (.new 47, 3) := by decide +kernel
theorem dX0_needFreeProfile_14 : decode cX0_needFreeProfile 14 = .ok (.dup, 1) := by decide +kernel
theorem dX0_needFreeProfile_15 : decode cX0_needFreeProfile 15 = .ok (.ldc 179, 2) := by decide +kernel
theorem dX0_needFreeProfile_17 : decode cX0_needFreeProfile 17 = .ok (.invokespecial 51, 3) := by decide +kernel
theorem dX0_needFreeProfile_20 : decode cX0_needFreeProfile 20 = .ok (.athrow, 1) := by decide +kernel
theorem dX0_needFreeProfile_21 : decode cX0_needFreeProfile 21 = .ok (.return_, 1) := by decide +kernel
set_option maxRecDepth 20000 in
theorem ggX0_needFreeChain_X0_hasBit : GoodIn wsX0_needFreeChain wsX0_hasBit := goodIn_r _ [7] (by decide +kernel) (by decide +kernel)
set_option maxRecDepth 20000 in
theorem gX0_needFreeChain_X0_hasBit : GoodIn wsX0_needFreeChain (va_wsS RX0 133 yX0_hasBit wsX0_hasBit) := goodIn_app (goodIn_of _ (by decide +kernel)) ggX0_needFreeChain_X0_hasBit
theorem dX0_needFreeChain_0 : decode cX0_needFreeChain 0 = .ok (.aload_n 0, 1) := by decide +kernel
theorem dX0_needFreeChain_1 : decode cX0_needFreeChain 1 = .ok (.getfield 146, 3) := by decide +kernel
theorem dX0_needFreeChain_4 : decode cX0_needFreeChain 4 = .ok (.iload_n 1, 1) := by decide +kernel
theorem dX0_needFreeChain_5 : decode cX0_needFreeChain 5 = .ok (.invokestatic 133, 3) := by decide +kernel
theorem dX0_needFreeChain_8 : decode cX0_needFreeChain 8 = .ok (.ifCond .eq 13, 3) := by decide +kernel
theorem dX0_needFreeChain_11 : decode cX0_needFreeChain 11 = .ok (.new 47, 3) := by decide +kernel
theorem dX0_needFreeChain_14 : decode cX0_needFreeChain 14 = .ok (.dup, 1) := by decide +kernel
theorem dX0_needFreeChain_15 : decode cX0_needFreeChain 15 = .ok (.ldc 181, 2) := by decide +kernel
theorem dX0_needFreeChain_17 : decode cX0_needFreeChain 17 = .ok (.invokespecial 51, 3) := by decide +kernel
theorem dX0_needFreeChain_20 : decode cX0_needFreeChain 20 = .ok (.athrow, 1) := by decide +kernel
theorem dX0_needFreeChain_21 : decode cX0_needFreeChain 21 = .ok (.return_, 1) := by decide +kernel
theorem dX0_valueOfPlace_0 : decode cX0_valueOfPlace 0 = .ok (.iload_n 0, 1) := by decide +kernel
theorem dX0_valueOfPlace_1 : decode cX0_valueOfPlace 1 = .ok (.bipush 64, 2) := by decide +kernel
theorem dX0_valueOfPlace_3 : decode cX0_valueOfPlace 3 = .ok (.imul, 1) := by decide +kernel
theorem dX0_valueOfPlace_4 : decode cX0_valueOfPlace 4 = .ok (.sipush 255, 3) := by decide +kernel
theorem dX0_valueOfPlace_7 : decode cX0_valueOfPlace 7 = .ok (.invokestatic 119, 3) := by decide +kernel
theorem dX0_valueOfPlace_10 : decode cX0_valueOfPlace 10 = .ok (.ireturn, 1) := by decide +kernel
set_option maxRecDepth 20000 in
theorem ggX0_between_X0_read : GoodIn wsX0_between wsX0_read := goodIn_r _ [4] (by decide +kernel) (by decide +kernel)
set_option maxRecDepth 20000 in
theorem gX0_between_X0_read : GoodIn wsX0_between (va_wsS RX0 105 yX0_read wsX0_read) := goodIn_app (goodIn_of _ (by decide +kernel)) ggX0_between_X0_read
set_option maxRecDepth 20000 in
theorem ggX0_between_J9_floorDiv_7cf53 : GoodIn wsX0_between wsJ9_floorDiv_7cf53 := goodIn_r _ [8] (by decide +kernel) (by decide +kernel)
set_option maxRecDepth 20000 in
theorem gX0_between_J9_floorDiv_7cf53 : GoodIn wsX0_between (va_wsS RX0 183 yJ9_floorDiv_7cf53 wsJ9_floorDiv_7cf53) := goodIn_app (goodIn_of _ (by decide +kernel)) ggX0_between_J9_floorDiv_7cf53
theorem dX0_between_0 : decode cX0_between 0 = .ok (.iload_n 2, 1) := by decide +kernel
theorem dX0_between_1 : decode cX0_between 1 = .ok (.bipush 64, 2) := by decide +kernel
theorem dX0_between_3 : decode cX0_between 3 = .ok (.idiv, 1) := by decide +kernel
theorem dX0_between_4 : decode cX0_between 4 = .ok (.istore_n 3, 1) := by decide +kernel
theorem dX0_between_5 : decode cX0_between 5 = .ok (.aload_n 0, 1) := by decide +kernel
theorem dX0_between_6 : decode cX0_between 6 = .ok (.iload_n 1, 1) := by decide +kernel
theorem dX0_between_7 : decode cX0_between 7 = .ok (.iload_n 3, 1) := by decide +kernel
theorem dX0_between_8 : decode cX0_between 8 = .ok (.iadd, 1) := by decide +kernel
theorem dX0_between_9 : decode cX0_between 9 = .ok (.invokestatic 105, 3) := by decide +kernel
theorem dX0_between_12 : decode cX0_between 12 = .ok (.istore 4, 2) := by decide +kernel
theorem dX0_between_14 : decode cX0_between 14 = .ok (.aload_n 0, 1) := by decide +kernel
theorem dX0_between_15 : decode cX0_between 15 = .ok (.iload_n 1, 1) := by decide +kernel
theorem dX0_between_16 : decode cX0_between 16 = .ok (.iload_n 3, 1) := by decide +kernel
theorem dX0_between_17 : decode cX0_between 17 = .ok (.iadd, 1) := by decide +kernel
theorem dX0_between_18 : decode cX0_between 18 = .ok (.iconst 1, 1) := by decide +kernel
theorem dX0_between_19 : decode cX0_between 19 = .ok (.iadd, 1) := by decide +kernel
theorem dX0_between_20 : decode cX0_between 20 = .ok (.invokestatic 105, 3) := by decide +kernel
theorem dX0_between_23 : decode cX0_between 23 = .ok (.istore 5, 2) := by decide +kernel
theorem dX0_between_25 : decode cX0_between 25 = .ok (.iload_n 3, 1) := by decide +kernel
theorem dX0_between_26 : decode cX0_between 26 = .ok (.iconst 3, 1) := by decide +kernel
theorem dX0_between_27 : decode cX0_between 27 = .ok (.if_icmp .ne 8, 3) := by decide +kernel
theorem dX0_between_30 : decode cX0_between 30 = .ok (.bipush 63, 2) := by decide +kernel
theorem dX0_between_32 : decode cX0_between 32 = .ok (.goto 5, 3) := by decide +kernel
theorem dX0_between_35 : decode cX0_between 35 = .ok (.bipush 64, 2) := by decide +kernel
theorem dX0_between_37 : decode cX0_between 37 = .ok (.istore 6, 2) := by decide +kernel
theorem dX0_between_39 : decode cX0_between 39 = .ok (.iload 4, 2) := by decide +kernel
theorem dX0_between_41 : decode cX0_between 41 = .ok (.iload 5, 2) := by decide +kernel
theorem dX0_between_43 : decode cX0_between 43 = .ok (.iload 4, 2) := by decide +kernel
theorem dX0_between_45 : decode cX0_between 45 = .ok (.isub, 1) := by decide +kernel
theorem dX0_between_46 : decode cX0_between 46 = .ok (.iload_n 2, 1) := by decide +kernel
theorem dX0_between_47 : decode cX0_between 47 = .ok (.iload_n 3, 1) := by decide +kernel
theorem dX0_between_48 : decode cX0_between 48 = .ok (.bipush 64, 2) := by decide +kernel
theorem dX0_between_50 : decode cX0_between 50 = .ok (.imul, 1) := by decide +kernel
theorem dX0_between_51 : decode cX0_between 51 = .ok (.isub, 1) := by decide +kernel
theorem dX0_between_52 : decode cX0_between 52 = .ok (.imul, 1) := by decide +kernel
theorem dX0_between_53 : decode cX0_between 53 = .ok (.iload 6, 2) := by decide +kernel
theorem dX0_between_55 : decode cX0_between 55 = .ok (.invokestatic 183, 3) := by decide +kernel
theorem dX0_between_58 : decode cX0_between 58 = .ok (.iadd, 1) := by decide +kernel
theorem dX0_between_59 : decode cX0_between 59 = .ok (.ireturn, 1) := by decide +kernel
set_option maxRecDepth 20000 in
theorem ggX0_bent_X0_between : GoodIn wsX0_bent wsX0_between := goodIn_r _ [5, 6, 7, 4, 8, 9, 10, 11, 12] (by decide +kernel) (by decide +kernel)
set_option maxRecDepth 20000 in
theorem gX0_bent_X0_between : GoodIn wsX0_bent (va_wsS RX0 139 yX0_between wsX0_between) := goodIn_app (goodIn_of _ (by decide +kernel)) ggX0_bent_X0_between
theorem dX0_bent_0 : decode cX0_bent 0 = .ok (.aload_n 0, 1) := by decide +kernel
theorem dX0_bent_1 : decode cX0_bent 1 = .ok (.getfield 9, 3) := by decide +kernel
theorem dX0_bent_4 : decode cX0_bent 4 = .ok (.iload_n 1, 1) := by decide +kernel
theorem dX0_bent_5 : decode cX0_bent 5 = .ok (.iconst 3, 1) := by decide +kernel
theorem dX0_bent_6 : decode cX0_bent 6 = .ok (.imul, 1) := by decide +kernel
theorem dX0_bent_7 : decode cX0_bent 7 = .ok (.iload_n 2, 1) := by decide +kernel
theorem dX0_bent_8 : decode cX0_bent 8 = .ok (.iadd, 1) := by decide +kernel
theorem dX0_bent_9 : decode cX0_bent 9 = .ok (.iconst 5, 1) := by decide +kernel
theorem dX0_bent_10 : decode cX0_bent 10 = .ok (.imul, 1) := by decide +kernel
theorem dX0_bent_11 : decode cX0_bent 11 = .ok (.iload_n 3, 1) := by decide +kernel
theorem dX0_bent_12 : decode cX0_bent 12 = .ok (.invokestatic 139, 3) := by decide +kernel
theorem dX0_bent_15 : decode cX0_bent 15 = .ok (.ireturn, 1) := by decide +kernel
set_option maxRecDepth 20000 in
theorem ggX0_take_X0_read : GoodIn wsX0_take wsX0_read := goodIn_r _ [14] (by decide +kernel) (by decide +kernel)
set_option maxRecDepth 20000 in
theorem gX0_take_X0_read : GoodIn wsX0_take (va_wsS RX0 105 yX0_read wsX0_read) := goodIn_app (goodIn_of _ (by decide +kernel)) ggX0_take_X0_read
set_option maxRecDepth 20000 in
theorem ggX0_take_X0_bent : GoodIn wsX0_take wsX0_bent := goodIn_r _ [18, 19, 20, 21, 13, 22, 11, 12, 14, 23, 24, 25, 26, 30, 31, 32, 33, 34, 35, 36, 37, 38, 39, 40, 41, 42, 43, 44] (by decide +kernel) (by decide +kernel)
set_option maxRecDepth 20000 in
theorem gX0_take_X0_bent : GoodIn wsX0_take (wsV RX0 87 RX0 yX0_bent wsX0_bent) := goodIn_app (goodIn_of _ (by decide +kernel)) ggX0_take_X0_bent
set_option maxRecDepth 20000 in
theorem ggX0_take_X0_fold : GoodIn wsX0_take wsX0_fold := goodIn_r _ [29] (by decide +kernel) (by decide +kernel)
set_option maxRecDepth 20000 in
theorem gX0_take_X0_fold : GoodIn wsX0_take (va_wsS RX0 186 yX0_fold wsX0_fold) := goodIn_app (goodIn_of _ (by decide +kernel)) ggX0_take_X0_fold
theorem dX0_take_0 : decode cX0_take 0 = .ok (.aload_n 0, 1) := by decide +kernel
theorem dX0_take_1 : decode cX0_take 1 = .ok (.getfield 13, 3) := by decide +kernel
theorem dX0_take_4 : decode cX0_take 4 = .ok (.iload_n 1, 1) := by decide +kernel
theorem dX0_take_5 : decode cX0_take 5 = .ok (.iconst 3, 1) := by decide +kernel
theorem dX0_take_6 : decode cX0_take 6 = .ok (.imul, 1) := by decide +kernel
theorem dX0_take_7 : decode cX0_take 7 = .ok (.iload_n 2, 1) := by decide +kernel
theorem dX0_take_8 : decode cX0_take 8 = .ok (.iadd, 1) := by decide +kernel
theorem dX0_take_9 : decode cX0_take 9 = .ok (.invokestatic 105, 3) := by decide +kernel
theorem dX0_take_12 : decode cX0_take 12 = .ok (.istore 4, 2) := by decide +kernel
theorem dX0_take_14 : decode cX0_take 14 = .ok (.aload_n 0, 1) := by decide +kernel
theorem dX0_take_15 : decode cX0_take 15 = .ok (.getfield 16, 3) := by decide +kernel
theorem dX0_take_18 : decode cX0_take 18 = .ok (.iload_n 1, 1) := by decide +kernel
theorem dX0_take_19 : decode cX0_take 19 = .ok (.iconst 3, 1) := by decide +kernel
theorem dX0_take_20 : decode cX0_take 20 = .ok (.imul, 1) := by decide +kernel
theorem dX0_take_21 : decode cX0_take 21 = .ok (.iload_n 2, 1) := by decide +kernel
theorem dX0_take_22 : decode cX0_take 22 = .ok (.iadd, 1) := by decide +kernel
theorem dX0_take_23 : decode cX0_take 23 = .ok (.invokestatic 105, 3) := by decide +kernel
theorem dX0_take_26 : decode cX0_take 26 = .ok (.istore 5, 2) := by decide +kernel
theorem dX0_take_28 : decode cX0_take 28 = .ok (.aload_n 0, 1) := by decide +kernel
theorem dX0_take_29 : decode cX0_take 29 = .ok (.iload_n 1, 1) := by decide +kernel
theorem dX0_take_30 : decode cX0_take 30 = .ok (.iload_n 2, 1) := by decide +kernel
theorem dX0_take_31 : decode cX0_take 31 = .ok (.iload_n 3, 1) := by decide +kernel
theorem dX0_take_32 : decode cX0_take 32 = .ok (.invokevirtual 87, 3) := by decide +kernel
theorem dX0_take_35 : decode cX0_take 35 = .ok (.istore 6, 2) := by decide +kernel
theorem dX0_take_37 : decode cX0_take 37 = .ok (.aload_n 0, 1) := by decide +kernel
theorem dX0_take_38 : decode cX0_take 38 = .ok (.getfield 19, 3) := by decide +kernel
theorem dX0_take_41 : decode cX0_take 41 = .ok (.iload_n 1, 1) := by decide +kernel
theorem dX0_take_42 : decode cX0_take 42 = .ok (.invokestatic 105, 3) := by decide +kernel
theorem dX0_take_45 : decode cX0_take 45 = .ok (.istore 7, 2) := by decide +kernel
theorem dX0_take_47 : decode cX0_take 47 = .ok (.iload 7, 2) := by decide +kernel
theorem dX0_take_49 : decode cX0_take 49 = .ok (.iconst 1, 1) := by decide +kernel
theorem dX0_take_50 : decode cX0_take 50 = .ok (.if_icmp .ne 19, 3) := by decide +kernel
theorem dX0_take_53 : decode cX0_take 53 = .ok (.iload 4, 2) := by decide +kernel
theorem dX0_take_55 : decode cX0_take 55 = .ok (.iload 6, 2) := by decide +kernel
theorem dX0_take_57 : decode cX0_take 57 = .ok (.iload 5, 2) := by decide +kernel
theorem dX0_take_59 : decode cX0_take 59 = .ok (.iload 4, 2) := by decide +kernel
theorem dX0_take_61 : decode cX0_take 61 = .ok (.isub, 1) := by decide +kernel
theorem dX0_take_62 : decode cX0_take 62 = .ok (.imul, 1) := by decide +kernel
theorem dX0_take_63 : decode cX0_take 63 = .ok (.sipush 255, 3) := by decide +kernel
theorem dX0_take_66 : decode cX0_take 66 = .ok (.idiv, 1) := by decide +kernel
theorem dX0_take_67 : decode cX0_take 67 = .ok (.iadd, 1) := by decide +kernel
theorem dX0_take_68 : decode cX0_take 68 = .ok (.ireturn, 1) := by decide +kernel
theorem dX0_take_69 : decode cX0_take 69 = .ok (.iload 7, 2) := by decide +kernel
theorem dX0_take_71 : decode cX0_take 71 = .ok (.iconst 2, 1) := by decide +kernel
theorem dX0_take_72 : decode cX0_take 72 = .ok (.if_icmp .ne 14, 3) := by decide +kernel
theorem dX0_take_75 : decode cX0_take 75 = .ok (.iload 6, 2) := by decide +kernel
theorem dX0_take_77 : decode cX0_take 77 = .ok (.iload 4, 2) := by decide +kernel
theorem dX0_take_79 : decode cX0_take 79 = .ok (.iload 5, 2) := by decide +kernel
theorem dX0_take_81 : decode cX0_take 81 = .ok (.invokestatic 186, 3) := by decide +kernel
theorem dX0_take_84 : decode cX0_take 84 = .ok (.istore 6, 2) := by decide +kernel
theorem dX0_take_86 : decode cX0_take 86 = .ok (.iload 4, 2) := by decide +kernel
theorem dX0_take_88 : decode cX0_take 88 = .ok (.iload 5, 2) := by decide +kernel
theorem dX0_take_90 : decode cX0_take 90 = .ok (.iload 6, 2) := by decide +kernel
theorem dX0_take_92 : decode cX0_take 92 = .ok (.invokestatic 119, 3) := by decide +kernel
theorem dX0_take_95 : decode cX0_take 95 = .ok (.invokestatic 125, 3) := by decide +kernel
theorem dX0_take_98 : decode cX0_take 98 = .ok (.ireturn, 1) := by decide +kernel
theorem dX0_fold_0 : decode cX0_fold 0 = .ok (.iload_n 0, 1) := by decide +kernel
theorem dX0_fold_1 : decode cX0_fold 1 = .ok (.iload_n 2, 1) := by decide +kernel
theorem dX0_fold_2 : decode cX0_fold 2 = .ok (.if_icmp .le 9, 3) := by decide +kernel
theorem dX0_fold_5 : decode cX0_fold 5 = .ok (.iload_n 2, 1) := by decide +kernel
theorem dX0_fold_6 : decode cX0_fold 6 = .ok (.iload_n 0, 1) := by decide +kernel
theorem dX0_fold_7 : decode cX0_fold 7 = .ok (.iload_n 2, 1) := by decide +kernel
theorem dX0_fold_8 : decode cX0_fold 8 = .ok (.isub, 1) := by decide +kernel
theorem dX0_fold_9 : decode cX0_fold 9 = .ok (.isub, 1) := by decide +kernel
theorem dX0_fold_10 : decode cX0_fold 10 = .ok (.ireturn, 1) := by decide +kernel
theorem dX0_fold_11 : decode cX0_fold 11 = .ok (.iload_n 0, 1) := by decide +kernel
theorem dX0_fold_12 : decode cX0_fold 12 = .ok (.iload_n 1, 1) := by decide +kernel
theorem dX0_fold_13 : decode cX0_fold 13 = .ok (.if_icmp .ge 9, 3) := by decide +kernel
theorem dX0_fold_16 : decode cX0_fold 16 = .ok (.iload_n 1, 1) := by decide +kernel
theorem dX0_fold_17 : decode cX0_fold 17 = .ok (.iload_n 1, 1) := by decide +kernel
theorem dX0_fold_18 : decode cX0_fold 18 = .ok (.iload_n 0, 1) := by decide +kernel
theorem dX0_fold_19 : decode cX0_fold 19 = .ok (.isub, 1) := by decide +kernel
theorem dX0_fold_20 : decode cX0_fold 20 = .ok (.iadd, 1) := by decide +kernel
theorem dX0_fold_21 : decode cX0_fold 21 = .ok (.ireturn, 1) := by decide +kernel
theorem dX0_fold_22 : decode cX0_fold 22 = .ok (.iload_n 0, 1) := by decide +kernel
theorem dX0_fold_23 : decode cX0_fold 23 = .ok (.ireturn, 1) := by decide +kernel
set_option maxRecDepth 20000 in
theorem ggX0_pass_X0_read : GoodIn wsX0_pass wsX0_read := goodIn_r _ [6] (by decide +kernel) (by decide +kernel)
set_option maxRecDepth 20000 in
theorem gX0_pass_X0_read : GoodIn wsX0_pass (va_wsS RX0 105 yX0_read wsX0_read) := goodIn_app (goodIn_of _ (by decide +kernel)) ggX0_pass_X0_read
set_option maxRecDepth 20000 in
theorem ggX0_pass_X0_take : GoodIn wsX0_pass wsX0_take := goodIn_r _ [10, 11, 12, 13, 14, 15, 16, 17, 18, 19, 20, 3, 4, 5, 6, 21, 22, 23, 24, 25, 26, 27, 28, 29, 30, 31, 32, 33, 34, 35, 36, 37, 38, 39, 40, 41, 42, 43, 44, 45, 46, 47, 48, 49, 50] (by decide +kernel) (by decide +kernel)
set_option maxRecDepth 20000 in
theorem gX0_pass_X0_take : GoodIn wsX0_pass (wsV RX0 91 RX0 yX0_take wsX0_take) := goodIn_app (goodIn_of _ (by decide +kernel)) ggX0_pass_X0_take
theorem dX0_pass_0 : decode cX0_pass 0 = .ok (.aload_n 0, 1) := by decide +kernel
theorem dX0_pass_1 : decode cX0_pass 1 = .ok (.getfield 25, 3) := by decide +kernel
theorem dX0_pass_4 : decode cX0_pass 4 = .ok (.iload_n 1, 1) := by decide +kernel
theorem dX0_pass_5 : decode cX0_pass 5 = .ok (.invokestatic 105, 3) := by decide +kernel
theorem dX0_pass_8 : decode cX0_pass 8 = .ok (.istore 4, 2) := by decide +kernel
theorem dX0_pass_10 : decode cX0_pass 10 = .ok (.iload_n 3, 1) := by decide +kernel
theorem dX0_pass_11 : decode cX0_pass 11 = .ok (.istore 5, 2) := by decide +kernel
theorem dX0_pass_13 : decode cX0_pass 13 = .ok (.iconst 0, 1) := by decide +kernel
theorem dX0_pass_14 : decode cX0_pass 14 = .ok (.istore 6, 2) := by decide +kernel
theorem dX0_pass_16 : decode cX0_pass 16 = .ok (.iload 6, 2) := by decide +kernel
theorem dX0_pass_18 : decode cX0_pass 18 = .ok (.iload 4, 2) := by decide +kernel
theorem dX0_pass_20 : decode cX0_pass 20 = .ok (.if_icmp .ge 32, 3) := by decide +kernel
theorem dX0_pass_23 : decode cX0_pass 23 = .ok (.aload_n 0, 1) := by decide +kernel
theorem dX0_pass_24 : decode cX0_pass 24 = .ok (.aload_n 0, 1) := by decide +kernel
theorem dX0_pass_25 : decode cX0_pass 25 = .ok (.getfield 22, 3) := by decide +kernel
theorem dX0_pass_28 : decode cX0_pass 28 = .ok (.iload_n 1, 1) := by decide +kernel
theorem dX0_pass_29 : decode cX0_pass 29 = .ok (.bipush 6, 2) := by decide +kernel
theorem dX0_pass_31 : decode cX0_pass 31 = .ok (.imul, 1) := by decide +kernel
theorem dX0_pass_32 : decode cX0_pass 32 = .ok (.iload 6, 2) := by decide +kernel
theorem dX0_pass_34 : decode cX0_pass 34 = .ok (.iadd, 1) := by decide +kernel
theorem dX0_pass_35 : decode cX0_pass 35 = .ok (.invokestatic 105, 3) := by decide +kernel
theorem dX0_pass_38 : decode cX0_pass 38 = .ok (.iload_n 2, 1) := by decide +kernel
theorem dX0_pass_39 : decode cX0_pass 39 = .ok (.iload 5, 2) := by decide +kernel
theorem dX0_pass_41 : decode cX0_pass 41 = .ok (.invokevirtual 91, 3) := by decide +kernel
theorem dX0_pass_44 : decode cX0_pass 44 = .ok (.istore 5, 2) := by decide +kernel
theorem dX0_pass_46 : decode cX0_pass 46 = .ok (.iinc 6 1, 3) := by decide +kernel
theorem dX0_pass_49 : decode cX0_pass 49 = .ok (.goto (-33), 3) := by decide +kernel
theorem dX0_pass_52 : decode cX0_pass 52 = .ok (.iload 5, 2) := by decide +kernel
theorem dX0_pass_54 : decode cX0_pass 54 = .ok (.ireturn, 1) := by decide +kernel
set_option maxRecDepth 20000 in
theorem ggX0_tryJoining_X0_valueOfPlace : GoodIn wsX0_tryJoining wsX0_valueOfPlace := goodIn_r _ [12, 13, 14, 4, 15] (by decide +kernel) (by decide +kernel)
set_option maxRecDepth 20000 in
theorem gX0_tryJoining_X0_valueOfPlace : GoodIn wsX0_tryJoining (va_wsS RX0 54 yX0_valueOfPlace wsX0_valueOfPlace) := goodIn_app (goodIn_of _ (by decide +kernel)) ggX0_tryJoining_X0_valueOfPlace
set_option maxRecDepth 20000 in
theorem ggX0_tryJoining_X0_pass : GoodIn wsX0_tryJoining wsX0_pass := goodIn_r _ [19, 20, 21, 22, 23, 11, 24, 25, 26, 27, 28, 29, 30, 31, 13, 14, 4, 15, 6, 7, 8, 32, 33, 34, 35, 36, 37, 38, 39, 40, 41, 42, 43, 44, 45, 46, 50, 51, 52, 53, 54, 55, 56, 57, 58, 59, 60, 61, 62, 63, 64] (by decide +kernel) (by decide +kernel)
set_option maxRecDepth 20000 in
theorem gX0_tryJoining_X0_pass : GoodIn wsX0_tryJoining (wsV RX0 113 RX0 yX0_pass wsX0_pass) := goodIn_app (goodIn_of _ (by decide +kernel)) ggX0_tryJoining_X0_pass
set_option maxRecDepth 20000 in
theorem ggX0_tryJoining_X0_swap : GoodIn wsX0_tryJoining wsX0_swap := goodIn_r _ [49] (by decide +kernel) (by decide +kernel)
set_option maxRecDepth 20000 in
theorem gX0_tryJoining_X0_swap : GoodIn wsX0_tryJoining (va_wsS RX0 58 yX0_swap wsX0_swap) := goodIn_app (goodIn_of _ (by decide +kernel)) ggX0_tryJoining_X0_swap
set_option maxRecDepth 20000 in
theorem ggX0_tryJoining_X0_between : GoodIn wsX0_tryJoining wsX0_between := goodIn_r _ [39, 22, 23, 11, 24, 40, 41, 42, 43] (by decide +kernel) (by decide +kernel)
set_option maxRecDepth 20000 in
theorem gX0_tryJoining_X0_between : GoodIn wsX0_tryJoining (va_wsS RX0 139 yX0_between wsX0_between) := goodIn_app (goodIn_of _ (by decide +kernel)) ggX0_tryJoining_X0_between
theorem dX0_tryJoining_0 : decode cX0_tryJoining 0 = .ok (.iconst 0, 1) := by decide +kernel
theorem dX0_tryJoining_1 : decode cX0_tryJoining 1 = .ok (.istore_n 2, 1) := by decide +kernel
theorem dX0_tryJoining_2 : decode cX0_tryJoining 2 = .ok (.iconst 0, 1) := by decide +kernel
theorem dX0_tryJoining_3 : decode cX0_tryJoining 3 = .ok (.istore_n 3, 1) := by decide +kernel
theorem dX0_tryJoining_4 : decode cX0_tryJoining 4 = .ok (.iload_n 3, 1) := by decide +kernel
theorem dX0_tryJoining_5 : decode cX0_tryJoining 5 = .ok (.iconst 3, 1) := by decide +kernel
theorem dX0_tryJoining_6 : decode cX0_tryJoining 6 = .ok (.if_icmp .ge 99, 3) := by decide +kernel
theorem dX0_tryJoining_9 : decode cX0_tryJoining 9 = .ok (.iconst 0, 1) := by decide +kernel
theorem dX0_tryJoining_10 : decode cX0_tryJoining 10 = .ok (.istore 4, 2) := by decide +kernel
theorem dX0_tryJoining_12 : decode cX0_tryJoining 12 = .ok (.iload 4, 2) := by decide +kernel
theorem dX0_tryJoining_14 : decode cX0_tryJoining 14 = .ok (.iconst 5, 1) := by decide +kernel
theorem dX0_tryJoining_15 : decode cX0_tryJoining 15 = .ok (.if_icmp .ge 34, 3) := by decide +kernel
theorem dX0_tryJoining_18 : decode cX0_tryJoining 18 = .ok (.aload_n 0, 1) := by decide +kernel
theorem dX0_tryJoining_19 : decode cX0_tryJoining 19 = .ok (.getfield 31, 3) := by decide +kernel
theorem dX0_tryJoining_22 : decode cX0_tryJoining 22 = .ok (.iload_n 3, 1) := by decide +kernel
theorem dX0_tryJoining_23 : decode cX0_tryJoining 23 = .ok (.iconst 5, 1) := by decide +kernel
theorem dX0_tryJoining_24 : decode cX0_tryJoining 24 = .ok (.imul, 1) := by decide +kernel
theorem dX0_tryJoining_25 : decode cX0_tryJoining 25 = .ok (.iload 4, 2) := by decide +kernel
theorem dX0_tryJoining_27 : decode cX0_tryJoining 27 = .ok (.iadd, 1) := by decide +kernel
theorem dX0_tryJoining_28 : decode cX0_tryJoining 28 = .ok (.aload_n 0, 1) := by decide +kernel
theorem dX0_tryJoining_29 : decode cX0_tryJoining 29 = .ok (.iload_n 1, 1) := by decide +kernel
theorem dX0_tryJoining_30 : decode cX0_tryJoining 30 = .ok (.iload_n 3, 1) := by decide +kernel
theorem dX0_tryJoining_31 : decode cX0_tryJoining 31 = .ok (.iload 4, 2) := by decide +kernel
theorem dX0_tryJoining_33 : decode cX0_tryJoining 33 = .ok (.invokestatic 54, 3) := by decide +kernel
theorem dX0_tryJoining_36 : decode cX0_tryJoining 36 = .ok (.invokevirtual 113, 3) := by decide +kernel
theorem dX0_tryJoining_39 : decode cX0_tryJoining 39 = .ok (.invokestatic 58, 3) := by decide +kernel
theorem dX0_tryJoining_42 : decode cX0_tryJoining 42 = .ok (.pop, 1) := by decide +kernel
theorem dX0_tryJoining_43 : decode cX0_tryJoining 43 = .ok (.iinc 4 1, 3) := by decide +kernel
theorem dX0_tryJoining_46 : decode cX0_tryJoining 46 = .ok (.goto (-34), 3) := by decide +kernel
theorem dX0_tryJoining_49 : decode cX0_tryJoining 49 = .ok (.iconst 0, 1) := by decide +kernel
theorem dX0_tryJoining_50 : decode cX0_tryJoining 50 = .ok (.istore 4, 2) := by decide +kernel
theorem dX0_tryJoining_52 : decode cX0_tryJoining 52 = .ok (.iload 4, 2) := by decide +kernel
theorem dX0_tryJoining_54 : decode cX0_tryJoining 54 = .ok (.sipush 255, 3) := by decide +kernel
theorem dX0_tryJoining_57 : decode cX0_tryJoining 57 = .ok (.if_icmp .gt 42, 3) := by decide +kernel
theorem dX0_tryJoining_60 : decode cX0_tryJoining 60 = .ok (.aload_n 0, 1) := by decide +kernel
theorem dX0_tryJoining_61 : decode cX0_tryJoining 61 = .ok (.iload_n 1, 1) := by decide +kernel
theorem dX0_tryJoining_62 : decode cX0_tryJoining 62 = .ok (.iload_n 3, 1) := by decide +kernel
theorem dX0_tryJoining_63 : decode cX0_tryJoining 63 = .ok (.iload 4, 2) := by decide +kernel
theorem dX0_tryJoining_65 : decode cX0_tryJoining 65 = .ok (.invokevirtual 113, 3) := by decide +kernel
theorem dX0_tryJoining_68 : decode cX0_tryJoining 68 = .ok (.aload_n 0, 1) := by decide +kernel
theorem dX0_tryJoining_69 : decode cX0_tryJoining 69 = .ok (.getfield 31, 3) := by decide +kernel
theorem dX0_tryJoining_72 : decode cX0_tryJoining 72 = .ok (.iload_n 3, 1) := by decide +kernel
theorem dX0_tryJoining_73 : decode cX0_tryJoining 73 = .ok (.iconst 5, 1) := by decide +kernel
theorem dX0_tryJoining_74 : decode cX0_tryJoining 74 = .ok (.imul, 1) := by decide +kernel
theorem dX0_tryJoining_75 : decode cX0_tryJoining 75 = .ok (.iload 4, 2) := by decide +kernel
theorem dX0_tryJoining_77 : decode cX0_tryJoining 77 = .ok (.invokestatic 139, 3) := by decide +kernel
theorem dX0_tryJoining_80 : decode cX0_tryJoining 80 = .ok (.isub, 1) := by decide +kernel
theorem dX0_tryJoining_81 : decode cX0_tryJoining 81 = .ok (.istore 5, 2) := by decide +kernel
theorem dX0_tryJoining_83 : decode cX0_tryJoining 83 = .ok (.iload_n 2, 1) := by decide +kernel
theorem dX0_tryJoining_84 : decode cX0_tryJoining 84 = .ok (.iload 5, 2) := by decide +kernel
theorem dX0_tryJoining_86 : decode cX0_tryJoining 86 = .ok (.invokestatic 189, 3) := by decide +kernel
theorem dX0_tryJoining_89 : decode cX0_tryJoining 89 = .ok (.invokestatic 125, 3) := by decide +kernel
theorem dX0_tryJoining_92 : decode cX0_tryJoining 92 = .ok (.istore_n 2, 1) := by decide +kernel
theorem dX0_tryJoining_93 : decode cX0_tryJoining 93 = .ok (.iinc 4 1, 3) := by decide +kernel
theorem dX0_tryJoining_96 : decode cX0_tryJoining 96 = .ok (.goto (-44), 3) := by decide +kernel
theorem dX0_tryJoining_99 : decode cX0_tryJoining 99 = .ok (.iinc 3 1, 3) := by decide +kernel
theorem dX0_tryJoining_102 : decode cX0_tryJoining 102 = .ok (.goto (-98), 3) := by decide +kernel
theorem dX0_tryJoining_105 : decode cX0_tryJoining 105 = .ok (.iload_n 2, 1) := by decide +kernel
theorem dX0_tryJoining_106 : decode cX0_tryJoining 106 = .ok (.ireturn, 1) := by decide +kernel
set_option maxRecDepth 20000 in
theorem ggX0_differsFromKept_X0_read : GoodIn wsX0_differsFromKept wsX0_read := goodIn_r _ [5] (by decide +kernel) (by decide +kernel)
set_option maxRecDepth 20000 in
theorem gX0_differsFromKept_X0_read : GoodIn wsX0_differsFromKept (va_wsS RX0 105 yX0_read wsX0_read) := goodIn_app (goodIn_of _ (by decide +kernel)) ggX0_differsFromKept_X0_read
set_option maxRecDepth 20000 in
theorem ggX0_differsFromKept_X0_valueOfPlace : GoodIn wsX0_differsFromKept wsX0_valueOfPlace := goodIn_r _ [8, 9, 10, 11, 12] (by decide +kernel) (by decide +kernel)
set_option maxRecDepth 20000 in
theorem gX0_differsFromKept_X0_valueOfPlace : GoodIn wsX0_differsFromKept (va_wsS RX0 54 yX0_valueOfPlace wsX0_valueOfPlace) := goodIn_app (goodIn_of _ (by decide +kernel)) ggX0_differsFromKept_X0_valueOfPlace
set_option maxRecDepth 20000 in
theorem ggX0_differsFromKept_X0_pass : GoodIn wsX0_differsFromKept wsX0_pass := goodIn_r _ [16, 17, 18, 2, 3, 4, 5, 19, 20, 21, 22, 23, 24, 25, 9, 10, 11, 12, 26, 27, 28, 29, 30, 31, 32, 33, 34, 35, 36, 37, 38, 39, 40, 41, 42, 43, 44, 45, 46, 47, 48, 49, 50, 51, 52, 53, 54, 55, 56, 57, 58] (by decide +kernel) (by decide +kernel)
set_option maxRecDepth 20000 in
theorem gX0_differsFromKept_X0_pass : GoodIn wsX0_differsFromKept (wsV RX0 113 RX0 yX0_pass wsX0_pass) := goodIn_app (goodIn_of _ (by decide +kernel)) ggX0_differsFromKept_X0_pass
theorem dX0_differsFromKept_0 : decode cX0_differsFromKept 0 = .ok (.iconst 0, 1) := by decide +kernel
theorem dX0_differsFromKept_1 : decode cX0_differsFromKept 1 = .ok (.istore_n 2, 1) := by decide +kernel
theorem dX0_differsFromKept_2 : decode cX0_differsFromKept 2 = .ok (.iload_n 2, 1) := by decide +kernel
theorem dX0_differsFromKept_3 : decode cX0_differsFromKept 3 = .ok (.iconst 3, 1) := by decide +kernel
theorem dX0_differsFromKept_4 : decode cX0_differsFromKept 4 = .ok (.if_icmp .ge 57, 3) := by decide +kernel
theorem dX0_differsFromKept_7 : decode cX0_differsFromKept 7 = .ok (.iconst 0, 1) := by decide +kernel
theorem dX0_differsFromKept_8 : decode cX0_differsFromKept 8 = .ok (.istore_n 3, 1) := by decide +kernel
theorem dX0_differsFromKept_9 : decode cX0_differsFromKept 9 = .ok (.iload_n 3, 1) := by decide +kernel
theorem dX0_differsFromKept_10 : decode cX0_differsFromKept 10 = .ok (.iconst 5, 1) := by decide +kernel
theorem dX0_differsFromKept_11 : decode cX0_differsFromKept 11 = .ok (.if_icmp .ge 44, 3) := by decide +kernel
theorem dX0_differsFromKept_14 : decode cX0_differsFromKept 14 = .ok (.aload_n 0, 1) := by decide +kernel
theorem dX0_differsFromKept_15 : decode cX0_differsFromKept 15 = .ok (.getfield 28, 3) := by decide +kernel
theorem dX0_differsFromKept_18 : decode cX0_differsFromKept 18 = .ok (.iload_n 1, 1) := by decide +kernel
theorem dX0_differsFromKept_19 : decode cX0_differsFromKept 19 = .ok (.iconst 3, 1) := by decide +kernel
theorem dX0_differsFromKept_20 : decode cX0_differsFromKept 20 = .ok (.imul, 1) := by decide +kernel
theorem dX0_differsFromKept_21 : decode cX0_differsFromKept 21 = .ok (.iload_n 2, 1) := by decide +kernel
theorem dX0_differsFromKept_22 : decode cX0_differsFromKept 22 = .ok (.iadd, 1) := by decide +kernel
theorem dX0_differsFromKept_23 : decode cX0_differsFromKept 23 = .ok (.iconst 5, 1) := by decide +kernel
theorem dX0_differsFromKept_24 : decode cX0_differsFromKept 24 = .ok (.imul, 1) := by decide +kernel
theorem dX0_differsFromKept_25 : decode cX0_differsFromKept 25 = .ok (.iload_n 3, 1) := by decide +kernel
theorem dX0_differsFromKept_26 : decode cX0_differsFromKept 26 = .ok (.iadd, 1) := by decide +kernel
theorem dX0_differsFromKept_27 : decode cX0_differsFromKept 27 = .ok (.invokestatic 105, 3) := by decide +kernel
theorem dX0_differsFromKept_30 : decode cX0_differsFromKept 30 = .ok (.istore 4, 2) := by decide +kernel
theorem dX0_differsFromKept_32 : decode cX0_differsFromKept 32 = .ok (.aload_n 0, 1) := by decide +kernel
theorem dX0_differsFromKept_33 : decode cX0_differsFromKept 33 = .ok (.iload_n 1, 1) := by decide +kernel
theorem dX0_differsFromKept_34 : decode cX0_differsFromKept 34 = .ok (.iload_n 2, 1) := by decide +kernel
theorem dX0_differsFromKept_35 : decode cX0_differsFromKept 35 = .ok (.iload_n 3, 1) := by decide +kernel
theorem dX0_differsFromKept_36 : decode cX0_differsFromKept 36 = .ok (.invokestatic 54, 3) := by decide +kernel
theorem dX0_differsFromKept_39 : decode cX0_differsFromKept 39 = .ok (.invokevirtual 113, 3) := by decide +kernel
theorem dX0_differsFromKept_42 : decode cX0_differsFromKept 42 = .ok (.iload 4, 2) := by decide +kernel
theorem dX0_differsFromKept_44 : decode cX0_differsFromKept 44 = .ok (.if_icmp .eq 5, 3) := by decide +kernel
theorem dX0_differsFromKept_47 : decode cX0_differsFromKept 47 = .ok (.iconst 1, 1) := by decide +kernel
theorem dX0_differsFromKept_48 : decode cX0_differsFromKept 48 = .ok (.ireturn, 1) := by decide +kernel
theorem dX0_differsFromKept_49 : decode cX0_differsFromKept 49 = .ok (.iinc 3 1, 3) := by decide +kernel
theorem dX0_differsFromKept_52 : decode cX0_differsFromKept 52 = .ok (.goto (-43), 3) := by decide +kernel
theorem dX0_differsFromKept_55 : decode cX0_differsFromKept 55 = .ok (.iinc 2 1, 3) := by decide +kernel
theorem dX0_differsFromKept_58 : decode cX0_differsFromKept 58 = .ok (.goto (-56), 3) := by decide +kernel
theorem dX0_differsFromKept_61 : decode cX0_differsFromKept 61 = .ok (.iconst 0, 1) := by decide +kernel
theorem dX0_differsFromKept_62 : decode cX0_differsFromKept 62 = .ok (.ireturn, 1) := by decide +kernel
set_option maxRecDepth 20000 in
theorem ggX0_profilesOf_X0_read : GoodIn wsX0_profilesOf wsX0_read := goodIn_r _ [6] (by decide +kernel) (by decide +kernel)
set_option maxRecDepth 20000 in
theorem gX0_profilesOf_X0_read : GoodIn wsX0_profilesOf (va_wsS RX0 105 yX0_read wsX0_read) := goodIn_app (goodIn_of _ (by decide +kernel)) ggX0_profilesOf_X0_read
theorem dX0_profilesOf_0 : decode cX0_profilesOf 0 = .ok (.aload_n 0, 1) := by decide +kernel
theorem dX0_profilesOf_1 : decode cX0_profilesOf 1 = .ok (.getfield 25, 3) := by decide +kernel
theorem dX0_profilesOf_4 : decode cX0_profilesOf 4 = .ok (.iload_n 1, 1) := by decide +kernel
theorem dX0_profilesOf_5 : decode cX0_profilesOf 5 = .ok (.invokestatic 105, 3) := by decide +kernel
theorem dX0_profilesOf_8 : decode cX0_profilesOf 8 = .ok (.istore_n 2, 1) := by decide +kernel
theorem dX0_profilesOf_9 : decode cX0_profilesOf 9 = .ok (.iconst 0, 1) := by decide +kernel
theorem dX0_profilesOf_10 : decode cX0_profilesOf 10 = .ok (.istore_n 3, 1) := by decide +kernel
theorem dX0_profilesOf_11 : decode cX0_profilesOf 11 = .ok (.iconst 0, 1) := by decide +kernel
theorem dX0_profilesOf_12 : decode cX0_profilesOf 12 = .ok (.istore 4, 2) := by decide +kernel
theorem dX0_profilesOf_14 : decode cX0_profilesOf 14 = .ok (.iload 4, 2) := by decide +kernel
theorem dX0_profilesOf_16 : decode cX0_profilesOf 16 = .ok (.iload_n 2, 1) := by decide +kernel
theorem dX0_profilesOf_17 : decode cX0_profilesOf 17 = .ok (.if_icmp .ge 28, 3) := by decide +kernel
theorem dX0_profilesOf_20 : decode cX0_profilesOf 20 = .ok (.iload_n 3, 1) := by decide +kernel
theorem dX0_profilesOf_21 : decode cX0_profilesOf 21 = .ok (.iconst 1, 1) := by decide +kernel
theorem dX0_profilesOf_22 : decode cX0_profilesOf 22 = .ok (.aload_n 0, 1) := by decide +kernel
theorem dX0_profilesOf_23 : decode cX0_profilesOf 23 = .ok (.getfield 22, 3) := by decide +kernel
theorem dX0_profilesOf_26 : decode cX0_profilesOf 26 = .ok (.iload_n 1, 1) := by decide +kernel
theorem dX0_profilesOf_27 : decode cX0_profilesOf 27 = .ok (.bipush 6, 2) := by decide +kernel
theorem dX0_profilesOf_29 : decode cX0_profilesOf 29 = .ok (.imul, 1) := by decide +kernel
theorem dX0_profilesOf_30 : decode cX0_profilesOf 30 = .ok (.iload 4, 2) := by decide +kernel
theorem dX0_profilesOf_32 : decode cX0_profilesOf 32 = .ok (.iadd, 1) := by decide +kernel
theorem dX0_profilesOf_33 : decode cX0_profilesOf 33 = .ok (.invokestatic 105, 3) := by decide +kernel
theorem dX0_profilesOf_36 : decode cX0_profilesOf 36 = .ok (.ishl, 1) := by decide +kernel
theorem dX0_profilesOf_37 : decode cX0_profilesOf 37 = .ok (.ior, 1) := by decide +kernel
theorem dX0_profilesOf_38 : decode cX0_profilesOf 38 = .ok (.istore_n 3, 1) := by decide +kernel
theorem dX0_profilesOf_39 : decode cX0_profilesOf 39 = .ok (.iinc 4 1, 3) := by decide +kernel
theorem dX0_profilesOf_42 : decode cX0_profilesOf 42 = .ok (.goto (-28), 3) := by decide +kernel
theorem dX0_profilesOf_45 : decode cX0_profilesOf 45 = .ok (.iload_n 3, 1) := by decide +kernel
theorem dX0_profilesOf_46 : decode cX0_profilesOf 46 = .ok (.ireturn, 1) := by decide +kernel
set_option maxRecDepth 20000 in
theorem ggX0_inked_X0_read : GoodIn wsX0_inked wsX0_read := goodIn_r _ [11] (by decide +kernel) (by decide +kernel)
set_option maxRecDepth 20000 in
theorem gX0_inked_X0_read : GoodIn wsX0_inked (va_wsS RX0 105 yX0_read wsX0_read) := goodIn_app (goodIn_of _ (by decide +kernel)) ggX0_inked_X0_read
set_option maxRecDepth 20000 in
theorem ggX0_inked_X0_hasBit : GoodIn wsX0_inked wsX0_hasBit := goodIn_r _ [14] (by decide +kernel) (by decide +kernel)
set_option maxRecDepth 20000 in
theorem gX0_inked_X0_hasBit : GoodIn wsX0_inked (va_wsS RX0 133 yX0_hasBit wsX0_hasBit) := goodIn_app (goodIn_of _ (by decide +kernel)) ggX0_inked_X0_hasBit
theorem dX0_inked_0 : decode cX0_inked 0 = .ok (.aload_n 0, 1) := by decide +kernel
theorem dX0_inked_1 : decode cX0_inked 1 = .ok (.getfield 34, 3) := by decide +kernel
theorem dX0_inked_4 : decode cX0_inked 4 = .ok (.iload_n 1, 1) := by decide +kernel
theorem dX0_inked_5 : decode cX0_inked 5 = .ok (.iconst 3, 1) := by decide +kernel
theorem dX0_inked_6 : decode cX0_inked 6 = .ok (.imul, 1) := by decide +kernel
theorem dX0_inked_7 : decode cX0_inked 7 = .ok (.iload_n 2, 1) := by decide +kernel
theorem dX0_inked_8 : decode cX0_inked 8 = .ok (.iadd, 1) := by decide +kernel
theorem dX0_inked_9 : decode cX0_inked 9 = .ok (.invokestatic 105, 3) := by decide +kernel
theorem dX0_inked_12 : decode cX0_inked 12 = .ok (.istore 4, 2) := by decide +kernel
theorem dX0_inked_14 : decode cX0_inked 14 = .ok (.iconst 0, 1) := by decide +kernel
theorem dX0_inked_15 : decode cX0_inked 15 = .ok (.istore 5, 2) := by decide +kernel
theorem dX0_inked_17 : decode cX0_inked 17 = .ok (.iload 5, 2) := by decide +kernel
theorem dX0_inked_19 : decode cX0_inked 19 = .ok (.iconst 3, 1) := by decide +kernel
theorem dX0_inked_20 : decode cX0_inked 20 = .ok (.if_icmp .ge 64, 3) := by decide +kernel
theorem dX0_inked_23 : decode cX0_inked 23 = .ok (.iload_n 3, 1) := by decide +kernel
theorem dX0_inked_24 : decode cX0_inked 24 = .ok (.iload 5, 2) := by decide +kernel
theorem dX0_inked_26 : decode cX0_inked 26 = .ok (.invokestatic 133, 3) := by decide +kernel
theorem dX0_inked_29 : decode cX0_inked 29 = .ok (.ifCond .ne 49, 3) := by decide +kernel
theorem dX0_inked_32 : decode cX0_inked 32 = .ok (.aload_n 0, 1) := by decide +kernel
theorem dX0_inked_33 : decode cX0_inked 33 = .ok (.getfield 40, 3) := by decide +kernel
theorem dX0_inked_36 : decode cX0_inked 36 = .ok (.iload 5, 2) := by decide +kernel
theorem dX0_inked_38 : decode cX0_inked 38 = .ok (.iconst 3, 1) := by decide +kernel
theorem dX0_inked_39 : decode cX0_inked 39 = .ok (.imul, 1) := by decide +kernel
theorem dX0_inked_40 : decode cX0_inked 40 = .ok (.iload_n 2, 1) := by decide +kernel
theorem dX0_inked_41 : decode cX0_inked 41 = .ok (.iadd, 1) := by decide +kernel
theorem dX0_inked_42 : decode cX0_inked 42 = .ok (.invokestatic 105, 3) := by decide +kernel
theorem dX0_inked_45 : decode cX0_inked 45 = .ok (.aload_n 0, 1) := by decide +kernel
theorem dX0_inked_46 : decode cX0_inked 46 = .ok (.getfield 37, 3) := by decide +kernel
theorem dX0_inked_49 : decode cX0_inked 49 = .ok (.iload_n 1, 1) := by decide +kernel
theorem dX0_inked_50 : decode cX0_inked 50 = .ok (.iconst 3, 1) := by decide +kernel
theorem dX0_inked_51 : decode cX0_inked 51 = .ok (.imul, 1) := by decide +kernel
theorem dX0_inked_52 : decode cX0_inked 52 = .ok (.iload 5, 2) := by decide +kernel
theorem dX0_inked_54 : decode cX0_inked 54 = .ok (.iadd, 1) := by decide +kernel
theorem dX0_inked_55 : decode cX0_inked 55 = .ok (.invokestatic 105, 3) := by decide +kernel
theorem dX0_inked_58 : decode cX0_inked 58 = .ok (.imul, 1) := by decide +kernel
theorem dX0_inked_59 : decode cX0_inked 59 = .ok (.sipush 255, 3) := by decide +kernel
theorem dX0_inked_62 : decode cX0_inked 62 = .ok (.idiv, 1) := by decide +kernel
theorem dX0_inked_63 : decode cX0_inked 63 = .ok (.istore 6, 2) := by decide +kernel
theorem dX0_inked_65 : decode cX0_inked 65 = .ok (.sipush 255, 3) := by decide +kernel
theorem dX0_inked_68 : decode cX0_inked 68 = .ok (.iload 4, 2) := by decide +kernel
theorem dX0_inked_70 : decode cX0_inked 70 = .ok (.iload 6, 2) := by decide +kernel
theorem dX0_inked_72 : decode cX0_inked 72 = .ok (.iadd, 1) := by decide +kernel
theorem dX0_inked_73 : decode cX0_inked 73 = .ok (.invokestatic 119, 3) := by decide +kernel
theorem dX0_inked_76 : decode cX0_inked 76 = .ok (.istore 4, 2) := by decide +kernel
theorem dX0_inked_78 : decode cX0_inked 78 = .ok (.iinc 5 1, 3) := by decide +kernel
theorem dX0_inked_81 : decode cX0_inked 81 = .ok (.goto (-64), 3) := by decide +kernel
theorem dX0_inked_84 : decode cX0_inked 84 = .ok (.iload 4, 2) := by decide +kernel
theorem dX0_inked_86 : decode cX0_inked 86 = .ok (.ireturn, 1) := by decide +kernel
theorem dX0_read_0 : decode cX0_read 0 = .ok (.aload_n 0, 1) := by decide +kernel
theorem dX0_read_1 : decode cX0_read 1 = .ok (.ifnull 19, 3) := by decide +kernel
theorem dX0_read_4 : decode cX0_read 4 = .ok (.iload_n 1, 1) := by decide +kernel
theorem dX0_read_5 : decode cX0_read 5 = .ok (.ifCond .lt 15, 3) := by decide +kernel
theorem dX0_read_8 : decode cX0_read 8 = .ok (.iload_n 1, 1) := by decide +kernel
theorem dX0_read_9 : decode cX0_read 9 = .ok (.aload_n 0, 1) := by decide +kernel
theorem dX0_read_10 : decode cX0_read 10 = .ok (.arraylength, 1) := by decide +kernel
theorem dX0_read_11 : decode cX0_read 11 = .ok (.if_icmp .ge 9, 3) := by decide +kernel
theorem dX0_read_14 : decode cX0_read 14 = .ok (.aload_n 0, 1) := by decide +kernel
theorem dX0_read_15 : decode cX0_read 15 = .ok (.iload_n 1, 1) := by decide +kernel
theorem dX0_read_16 : decode cX0_read 16 = .ok (.iaload, 1) := by decide +kernel
theorem dX0_read_17 : decode cX0_read 17 = .ok (.goto 4, 3) := by decide +kernel
theorem dX0_read_20 : decode cX0_read 20 = .ok (.iconst 0, 1) := by decide +kernel
theorem dX0_read_21 : decode cX0_read 21 = .ok (.ireturn, 1) := by decide +kernel
theorem dX0_swap_0 : decode cX0_swap 0 = .ok (.aload_n 0, 1) := by decide +kernel
theorem dX0_swap_1 : decode cX0_swap 1 = .ok (.ifnull 13, 3) := by decide +kernel
theorem dX0_swap_4 : decode cX0_swap 4 = .ok (.iload_n 1, 1) := by decide +kernel
theorem dX0_swap_5 : decode cX0_swap 5 = .ok (.ifCond .lt 9, 3) := by decide +kernel
theorem dX0_swap_8 : decode cX0_swap 8 = .ok (.iload_n 1, 1) := by decide +kernel
theorem dX0_swap_9 : decode cX0_swap 9 = .ok (.aload_n 0, 1) := by decide +kernel
theorem dX0_swap_10 : decode cX0_swap 10 = .ok (.arraylength, 1) := by decide +kernel
theorem dX0_swap_11 : decode cX0_swap 11 = .ok (.if_icmp .lt 5, 3) := by decide +kernel
theorem dX0_swap_14 : decode cX0_swap 14 = .ok (.iconst 0, 1) := by decide +kernel
theorem dX0_swap_15 : decode cX0_swap 15 = .ok (.ireturn, 1) := by decide +kernel
theorem dX0_swap_16 : decode cX0_swap 16 = .ok (.aload_n 0, 1) := by decide +kernel
theorem dX0_swap_17 : decode cX0_swap 17 = .ok (.iload_n 1, 1) := by decide +kernel
theorem dX0_swap_18 : decode cX0_swap 18 = .ok (.iaload, 1) := by decide +kernel
theorem dX0_swap_19 : decode cX0_swap 19 = .ok (.istore_n 3, 1) := by decide +kernel
theorem dX0_swap_20 : decode cX0_swap 20 = .ok (.aload_n 0, 1) := by decide +kernel
theorem dX0_swap_21 : decode cX0_swap 21 = .ok (.iload_n 1, 1) := by decide +kernel
theorem dX0_swap_22 : decode cX0_swap 22 = .ok (.iload_n 2, 1) := by decide +kernel
theorem dX0_swap_23 : decode cX0_swap 23 = .ok (.iastore, 1) := by decide +kernel
theorem dX0_swap_24 : decode cX0_swap 24 = .ok (.iload_n 3, 1) := by decide +kernel
theorem dX0_swap_25 : decode cX0_swap 25 = .ok (.ireturn, 1) := by decide +kernel
theorem dX0_hasBit_0 : decode cX0_hasBit 0 = .ok (.iload_n 0, 1) := by decide +kernel
theorem dX0_hasBit_1 : decode cX0_hasBit 1 = .ok (.iload_n 1, 1) := by decide +kernel
theorem dX0_hasBit_2 : decode cX0_hasBit 2 = .ok (.ishr, 1) := by decide +kernel
theorem dX0_hasBit_3 : decode cX0_hasBit 3 = .ok (.iconst 1, 1) := by decide +kernel
theorem dX0_hasBit_4 : decode cX0_hasBit 4 = .ok (.iand, 1) := by decide +kernel
theorem dX0_hasBit_5 : decode cX0_hasBit 5 = .ok (.iconst 1, 1) := by decide +kernel
theorem dX0_hasBit_6 : decode cX0_hasBit 6 = .ok (.if_icmp .ne 7, 3) := by decide +kernel
theorem dX0_hasBit_9 : decode cX0_hasBit 9 = .ok (.iconst 1, 1) := by decide +kernel
theorem dX0_hasBit_10 : decode cX0_hasBit 10 = .ok (.goto 4, 3) := by decide +kernel
theorem dX0_hasBit_13 : decode cX0_hasBit 13 = .ok (.iconst 0, 1) := by decide +kernel
theorem dX0_hasBit_14 : decode cX0_hasBit 14 = .ok (.ireturn, 1) := by decide +kernel
theorem dX1_init_0 : decode cX1_init 0 = .ok (.aload_n 0, 1) := by decide +kernel
theorem dX1_init_1 : decode cX1_init 1 = .ok (.invokespecial 1, 3) := by decide +kernel
theorem dX1_init_4 : decode cX1_init 4 = .ok (.aload_n 0, 1) := by decide +kernel
theorem dX1_init_5 : decode cX1_init 5 = .ok (.bipush 120, 2) := by decide +kernel
theorem dX1_init_7 : decode cX1_init 7 = .ok (.newarray .int, 2) := by decide +kernel
theorem dX1_init_9 : decode cX1_init 9 = .ok (.putfield 7, 3) := by decide +kernel
theorem dX1_init_12 : decode cX1_init 12 = .ok (.aload_n 0, 1) := by decide +kernel
theorem dX1_init_13 : decode cX1_init 13 = .ok (.bipush 24, 2) := by decide +kernel
theorem dX1_init_15 : decode cX1_init 15 = .ok (.newarray .int, 2) := by decide +kernel
theorem dX1_init_17 : decode cX1_init 17 = .ok (.putfield 13, 3) := by decide +kernel
theorem dX1_init_20 : decode cX1_init 20 = .ok (.aload_n 0, 1) := by decide +kernel
theorem dX1_init_21 : decode cX1_init 21 = .ok (.bipush 24, 2) := by decide +kernel
theorem dX1_init_23 : decode cX1_init 23 = .ok (.newarray .int, 2) := by decide +kernel
theorem dX1_init_25 : decode cX1_init 25 = .ok (.putfield 16, 3) := by decide +kernel
theorem dX1_init_28 : decode cX1_init 28 = .ok (.aload_n 0, 1) := by decide +kernel
theorem dX1_init_29 : decode cX1_init 29 = .ok (.bipush 8, 2) := by decide +kernel
theorem dX1_init_31 : decode cX1_init 31 = .ok (.newarray .int, 2) := by decide +kernel
theorem dX1_init_33 : decode cX1_init 33 = .ok (.putfield 19, 3) := by decide +kernel
theorem dX1_init_36 : decode cX1_init 36 = .ok (.aload_n 0, 1) := by decide +kernel
theorem dX1_init_37 : decode cX1_init 37 = .ok (.bipush 6, 2) := by decide +kernel
theorem dX1_init_39 : decode cX1_init 39 = .ok (.newarray .int, 2) := by decide +kernel
theorem dX1_init_41 : decode cX1_init 41 = .ok (.putfield 22, 3) := by decide +kernel
theorem dX1_init_44 : decode cX1_init 44 = .ok (.aload_n 0, 1) := by decide +kernel
theorem dX1_init_45 : decode cX1_init 45 = .ok (.bipush 36, 2) := by decide +kernel
theorem dX1_init_47 : decode cX1_init 47 = .ok (.newarray .int, 2) := by decide +kernel
theorem dX1_init_49 : decode cX1_init 49 = .ok (.putfield 25, 3) := by decide +kernel
theorem dX1_init_52 : decode cX1_init 52 = .ok (.aload_n 0, 1) := by decide +kernel
theorem dX1_init_53 : decode cX1_init 53 = .ok (.bipush 6, 2) := by decide +kernel
theorem dX1_init_55 : decode cX1_init 55 = .ok (.newarray .boolean, 2) := by decide +kernel
theorem dX1_init_57 : decode cX1_init 57 = .ok (.putfield 28, 3) := by decide +kernel
theorem dX1_init_60 : decode cX1_init 60 = .ok (.aload_n 0, 1) := by decide +kernel
theorem dX1_init_61 : decode cX1_init 61 = .ok (.bipush 6, 2) := by decide +kernel
theorem dX1_init_63 : decode cX1_init 63 = .ok (.newarray .boolean, 2) := by decide +kernel
theorem dX1_init_65 : decode cX1_init 65 = .ok (.putfield 32, 3) := by decide +kernel
theorem dX1_init_68 : decode cX1_init 68 = .ok (.aload_n 0, 1) := by decide +kernel
theorem dX1_init_69 : decode cX1_init 69 = .ok (.bipush 90, 2) := by decide +kernel
theorem dX1_init_71 : decode cX1_init 71 = .ok (.newarray .int, 2) := by decide +kernel
theorem dX1_init_73 : decode cX1_init 73 = .ok (.putfield 35, 3) := by decide +kernel
theorem dX1_init_76 : decode cX1_init 76 = .ok (.aload_n 0, 1) := by decide +kernel
theorem dX1_init_77 : decode cX1_init 77 = .ok (.bipush 18, 2) := by decide +kernel
theorem dX1_init_79 : decode cX1_init 79 = .ok (.newarray .int, 2) := by decide +kernel
theorem dX1_init_81 : decode cX1_init 81 = .ok (.putfield 38, 3) := by decide +kernel
theorem dX1_init_84 : decode cX1_init 84 = .ok (.aload_n 0, 1) := by decide +kernel
theorem dX1_init_85 : decode cX1_init 85 = .ok (.bipush 18, 2) := by decide +kernel
theorem dX1_init_87 : decode cX1_init 87 = .ok (.newarray .int, 2) := by decide +kernel
theorem dX1_init_89 : decode cX1_init 89 = .ok (.putfield 41, 3) := by decide +kernel
theorem dX1_init_92 : decode cX1_init 92 = .ok (.aload_n 0, 1) := by decide +kernel
theorem dX1_init_93 : decode cX1_init 93 = .ok (.bipush 9, 2) := by decide +kernel
theorem dX1_init_95 : decode cX1_init 95 = .ok (.newarray .int, 2) := by decide +kernel
theorem dX1_init_97 : decode cX1_init 97 = .ok (.putfield 44, 3) := by decide +kernel
theorem dX1_init_100 : decode cX1_init 100 = .ok (.aload_n 0, 1) := by decide +kernel
theorem dX1_init_101 : decode cX1_init 101 = .ok (.iconst 5, 1) := by decide +kernel
theorem dX1_init_102 : decode cX1_init 102 = .ok (.newarray .int, 2) := by decide +kernel
theorem dX1_init_104 : decode cX1_init 104 = .ok (.putfield 47, 3) := by decide +kernel
theorem dX1_init_107 : decode cX1_init 107 = .ok (.return_, 1) := by decide +kernel
theorem dX1_thrown_0 : decode cX1_thrown 0 = .ok (.aload_n 0, 1) := by decide +kernel
theorem dX1_thrown_1 : decode cX1_thrown 1 = .ok (.getfield 50, 3) := by decide +kernel
theorem dX1_thrown_4 : decode cX1_thrown 4 = .ok (.ireturn, 1) := by decide +kernel
theorem dX1_may_0 : decode cX1_may 0 = .ok (.aload_n 0, 1) := by decide +kernel
theorem dX1_may_1 : decode cX1_may 1 = .ok (.iload_n 1, 1) := by decide +kernel
theorem dX1_may_2 : decode cX1_may 2 = .ok (.ifCond .eq 7, 3) := by decide +kernel
theorem dX1_may_5 : decode cX1_may 5 = .ok (.iconst 0, 1) := by decide +kernel
theorem dX1_may_6 : decode cX1_may 6 = .ok (.goto 4, 3) := by decide +kernel
theorem dX1_may_9 : decode cX1_may 9 = .ok (.iconst 1, 1) := by decide +kernel
theorem dX1_may_10 : decode cX1_may 10 = .ok (.putfield 50, 3) := by decide +kernel
theorem dX1_may_13 : decode cX1_may 13 = .ok (.iload_n 1, 1) := by decide +kernel
theorem dX1_may_14 : decode cX1_may 14 = .ok (.ireturn, 1) := by decide +kernel
theorem dX1_mayBoth_0 : decode cX1_mayBoth 0 = .ok (.aload_n 0, 1) := by decide +kernel
theorem dX1_mayBoth_1 : decode cX1_mayBoth 1 = .ok (.iload_n 1, 1) := by decide +kernel
theorem dX1_mayBoth_2 : decode cX1_mayBoth 2 = .ok (.ifCond .ne 7, 3) := by decide +kernel
theorem dX1_mayBoth_5 : decode cX1_mayBoth 5 = .ok (.iconst 1, 1) := by decide +kernel
theorem dX1_mayBoth_6 : decode cX1_mayBoth 6 = .ok (.goto 12, 3) := by decide +kernel
theorem dX1_mayBoth_9 : decode cX1_mayBoth 9 = .ok (.iload_n 2, 1) := by decide +kernel
theorem dX1_mayBoth_10 : decode cX1_mayBoth 10 = .ok (.ifCond .ne 7, 3) := by decide +kernel
theorem dX1_mayBoth_13 : decode cX1_mayBoth 13 = .ok (.iconst 2, 1) := by decide +kernel
theorem dX1_mayBoth_14 : decode cX1_mayBoth 14 = .ok (.goto 4, 3) := by decide +kernel
theorem dX1_mayBoth_17 : decode cX1_mayBoth 17 = .ok (.iconst 0, 1) := by decide +kernel
theorem dX1_mayBoth_18 : decode cX1_mayBoth 18 = .ok (.putfield 50, 3) := by decide +kernel
theorem dX1_mayBoth_21 : decode cX1_mayBoth 21 = .ok (.aload_n 0, 1) := by decide +kernel
theorem dX1_mayBoth_22 : decode cX1_mayBoth 22 = .ok (.getfield 50, 3) := by decide +kernel
theorem dX1_mayBoth_25 : decode cX1_mayBoth 25 = .ok (.ifCond .ne 7, 3) := by decide +kernel
theorem dX1_mayBoth_28 : decode cX1_mayBoth 28 = .ok (.iconst 1, 1) := by decide +kernel
theorem dX1_mayBoth_29 : decode cX1_mayBoth 29 = .ok (.goto 4, 3) := by decide +kernel
theorem dX1_mayBoth_32 : decode cX1_mayBoth 32 = .ok (.iconst 0, 1) := by decide +kernel
theorem dX1_mayBoth_33 : decode cX1_mayBoth 33 = .ok (.ireturn, 1) := by decide +kernel
theorem dX1_mayAll_0 : decode cX1_mayAll 0 = .ok (.aload_n 0, 1) := by decide +kernel
theorem dX1_mayAll_1 : decode cX1_mayAll 1 = .ok (.iload_n 1, 1) := by decide +kernel
theorem dX1_mayAll_2 : decode cX1_mayAll 2 = .ok (.ifCond .ne 7, 3) := by decide +kernel
theorem dX1_mayAll_5 : decode cX1_mayAll 5 = .ok (.iconst 1, 1) := by decide +kernel
theorem dX1_mayAll_6 : decode cX1_mayAll 6 = .ok (.goto 20, 3) := by decide +kernel
theorem dX1_mayAll_9 : decode cX1_mayAll 9 = .ok (.iload_n 2, 1) := by decide +kernel
theorem dX1_mayAll_10 : decode cX1_mayAll 10 = .ok (.ifCond .ne 7, 3) := by decide +kernel
theorem dX1_mayAll_13 : decode cX1_mayAll 13 = .ok (.iconst 2, 1) := by decide +kernel
theorem dX1_mayAll_14 : decode cX1_mayAll 14 = .ok (.goto 12, 3) := by decide +kernel
theorem dX1_mayAll_17 : decode cX1_mayAll 17 = .ok (.iload_n 3, 1) := by decide +kernel
theorem dX1_mayAll_18 : decode cX1_mayAll 18 = .ok (.ifCond .ne 7, 3) := by decide +kernel
theorem dX1_mayAll_21 : decode cX1_mayAll 21 = .ok (.iconst 3, 1) := by decide +kernel
theorem dX1_mayAll_22 : decode cX1_mayAll 22 = .ok (.goto 4, 3) := by decide +kernel
theorem dX1_mayAll_25 : decode cX1_mayAll 25 = .ok (.iconst 0, 1) := by decide +kernel
theorem dX1_mayAll_26 : decode cX1_mayAll 26 = .ok (.putfield 50, 3) := by decide +kernel
theorem dX1_mayAll_29 : decode cX1_mayAll 29 = .ok (.aload_n 0, 1) := by decide +kernel
theorem dX1_mayAll_30 : decode cX1_mayAll 30 = .ok (.getfield 50, 3) := by decide +kernel
theorem dX1_mayAll_33 : decode cX1_mayAll 33 = .ok (.ifCond .ne 7, 3) := by decide +kernel
theorem dX1_mayAll_36 : decode cX1_mayAll 36 = .ok (.iconst 1, 1) := by decide +kernel
theorem dX1_mayAll_37 : decode cX1_mayAll 37 = .ok (.goto 4, 3) := by decide +kernel
theorem dX1_mayAll_40 : decode cX1_mayAll 40 = .ok (.iconst 0, 1) := by decide +kernel
theorem dX1_mayAll_41 : decode cX1_mayAll 41 = .ok (.ireturn, 1) := by decide +kernel
theorem dX1_isIn_0 : decode cX1_isIn 0 = .ok (.iload_n 0, 1) := by decide +kernel
theorem dX1_isIn_1 : decode cX1_isIn 1 = .ok (.iload_n 1, 1) := by decide +kernel
theorem dX1_isIn_2 : decode cX1_isIn 2 = .ok (.if_icmp .lt 12, 3) := by decide +kernel
theorem dX1_isIn_5 : decode cX1_isIn 5 = .ok (.iload_n 0, 1) := by decide +kernel
theorem dX1_isIn_6 : decode cX1_isIn 6 = .ok (.iload_n 2, 1) := by decide +kernel
theorem dX1_isIn_7 : decode cX1_isIn 7 = .ok (.if_icmp .gt 7, 3) := by decide +kernel
theorem dX1_isIn_10 : decode cX1_isIn 10 = .ok (.iconst 1, 1) := by decide +kernel
theorem dX1_isIn_11 : decode cX1_isIn 11 = .ok (.goto 4, 3) := by decide +kernel
theorem dX1_isIn_14 : decode cX1_isIn 14 = .ok (.iconst 0, 1) := by decide +kernel
theorem dX1_isIn_15 : decode cX1_isIn 15 = .ok (.ireturn, 1) := by decide +kernel
set_option maxRecDepth 20000 in
theorem ggX1_isByte_X1_isIn : GoodIn wsX1_isByte wsX1_isIn := goodIn_r _ [4] (by decide +kernel) (by decide +kernel)
set_option maxRecDepth 20000 in
theorem gX1_isByte_X1_isIn : GoodIn wsX1_isByte (va_wsS RX1 54 yX1_isIn wsX1_isIn) := goodIn_app (goodIn_of _ (by decide +kernel)) ggX1_isByte_X1_isIn
theorem dX1_isByte_0 : decode cX1_isByte 0 = .ok (.iload_n 0, 1) := by decide +kernel
theorem dX1_isByte_1 : decode cX1_isByte 1 = .ok (.iconst 0, 1) := by decide +kernel
theorem dX1_isByte_2 : decode cX1_isByte 2 = .ok (.sipush 255, 3) := by decide +kernel
theorem dX1_isByte_5 : decode cX1_isByte 5 = .ok (.invokestatic 54, 3) := by decide +kernel
theorem dX1_isByte_8 : decode cX1_isByte 8 = .ok (.ireturn, 1) := by decide +kernel
set_option maxRecDepth 20000 in
theorem ggX1_isThird_X1_isIn : GoodIn wsX1_isThird wsX1_isIn := goodIn_r _ [4] (by decide +kernel) (by decide +kernel)
set_option maxRecDepth 20000 in
theorem gX1_isThird_X1_isIn : GoodIn wsX1_isThird (va_wsS RX1 54 yX1_isIn wsX1_isIn) := goodIn_app (goodIn_of _ (by decide +kernel)) ggX1_isThird_X1_isIn
theorem dX1_isThird_0 : decode cX1_isThird 0 = .ok (.iload_n 0, 1) := by decide +kernel
theorem dX1_isThird_1 : decode cX1_isThird 1 = .ok (.iconst 0, 1) := by decide +kernel
theorem dX1_isThird_2 : decode cX1_isThird 2 = .ok (.iconst 2, 1) := by decide +kernel
theorem dX1_isThird_3 : decode cX1_isThird 3 = .ok (.invokestatic 54, 3) := by decide +kernel
theorem dX1_isThird_6 : decode cX1_isThird 6 = .ok (.ireturn, 1) := by decide +kernel
set_option maxRecDepth 20000 in
theorem ggX1_isProfile_X1_isIn : GoodIn wsX1_isProfile wsX1_isIn := goodIn_r _ [5] (by decide +kernel) (by decide +kernel)
set_option maxRecDepth 20000 in
theorem gX1_isProfile_X1_isIn : GoodIn wsX1_isProfile (va_wsS RX1 54 yX1_isIn wsX1_isIn) := goodIn_app (goodIn_of _ (by decide +kernel)) ggX1_isProfile_X1_isIn
theorem dX1_isProfile_0 : decode cX1_isProfile 0 = .ok (.iload_n 1, 1) := by decide +kernel
theorem dX1_isProfile_1 : decode cX1_isProfile 1 = .ok (.iconst 0, 1) := by decide +kernel
theorem dX1_isProfile_2 : decode cX1_isProfile 2 = .ok (.aload_n 0, 1) := by decide +kernel
theorem dX1_isProfile_3 : decode cX1_isProfile 3 = .ok (.getfield 58, 3) := by decide +kernel
theorem dX1_isProfile_6 : decode cX1_isProfile 6 = .ok (.iconst 1, 1) := by decide +kernel
theorem dX1_isProfile_7 : decode cX1_isProfile 7 = .ok (.isub, 1) := by decide +kernel
theorem dX1_isProfile_8 : decode cX1_isProfile 8 = .ok (.invokestatic 54, 3) := by decide +kernel
theorem dX1_isProfile_11 : decode cX1_isProfile 11 = .ok (.ireturn, 1) := by decide +kernel
set_option maxRecDepth 20000 in
theorem ggX1_isChain_X1_isIn : GoodIn wsX1_isChain wsX1_isIn := goodIn_r _ [5] (by decide +kernel) (by decide +kernel)
set_option maxRecDepth 20000 in
theorem gX1_isChain_X1_isIn : GoodIn wsX1_isChain (va_wsS RX1 54 yX1_isIn wsX1_isIn) := goodIn_app (goodIn_of _ (by decide +kernel)) ggX1_isChain_X1_isIn
theorem dX1_isChain_0 : decode cX1_isChain 0 = .ok (.iload_n 1, 1) := by decide +kernel
theorem dX1_isChain_1 : decode cX1_isChain 1 = .ok (.iconst 0, 1) := by decide +kernel
theorem dX1_isChain_2 : decode cX1_isChain 2 = .ok (.aload_n 0, 1) := by decide +kernel
theorem dX1_isChain_3 : decode cX1_isChain 3 = .ok (.getfield 61, 3) := by decide +kernel
theorem dX1_isChain_6 : decode cX1_isChain 6 = .ok (.iconst 1, 1) := by decide +kernel
theorem dX1_isChain_7 : decode cX1_isChain 7 = .ok (.isub, 1) := by decide +kernel
theorem dX1_isChain_8 : decode cX1_isChain 8 = .ok (.invokestatic 54, 3) := by decide +kernel
theorem dX1_isChain_11 : decode cX1_isChain 11 = .ok (.ireturn, 1) := by decide +kernel
theorem dX1_placeAt_0 : decode cX1_placeAt 0 = .ok (.iload_n 0, 1) := by decide +kernel
theorem dX1_placeAt_1 : decode cX1_placeAt 1 = .ok (.iconst 4, 1) := by decide +kernel
theorem dX1_placeAt_2 : decode cX1_placeAt 2 = .ok (.if_icmp .ne 9, 3) := by decide +kernel
theorem dX1_placeAt_5 : decode cX1_placeAt 5 = .ok (.sipush 255, 3) := by decide +kernel
theorem dX1_placeAt_8 : decode cX1_placeAt 8 = .ok (.goto 7, 3) := by decide +kernel
theorem dX1_placeAt_11 : decode cX1_placeAt 11 = .ok (.bipush 64, 2) := by decide +kernel
theorem dX1_placeAt_13 : decode cX1_placeAt 13 = .ok (.iload_n 0, 1) := by decide +kernel
theorem dX1_placeAt_14 : decode cX1_placeAt 14 = .ok (.imul, 1) := by decide +kernel
theorem dX1_placeAt_15 : decode cX1_placeAt 15 = .ok (.ireturn, 1) := by decide +kernel
theorem dX1_quotient_0 : decode cX1_quotient 0 = .ok (.iload_n 0, 1) := by decide +kernel
theorem dX1_quotient_1 : decode cX1_quotient 1 = .ok (.iload_n 1, 1) := by decide +kernel
theorem dX1_quotient_2 : decode cX1_quotient 2 = .ok (.idiv, 1) := by decide +kernel
theorem dX1_quotient_3 : decode cX1_quotient 3 = .ok (.istore_n 2, 1) := by decide +kernel
theorem dX1_quotient_4 : decode cX1_quotient 4 = .ok (.iload_n 2, 1) := by decide +kernel
theorem dX1_quotient_5 : decode cX1_quotient 5 = .ok (.iload_n 1, 1) := by decide +kernel
theorem dX1_quotient_6 : decode cX1_quotient 6 = .ok (.imul, 1) := by decide +kernel
theorem dX1_quotient_7 : decode cX1_quotient 7 = .ok (.iload_n 0, 1) := by decide +kernel
theorem dX1_quotient_8 : decode cX1_quotient 8 = .ok (.if_icmp .le 9, 3) := by decide +kernel
theorem dX1_quotient_11 : decode cX1_quotient 11 = .ok (.iload_n 2, 1) := by decide +kernel
theorem dX1_quotient_12 : decode cX1_quotient 12 = .ok (.iconst 1, 1) := by decide +kernel
theorem dX1_quotient_13 : decode cX1_quotient 13 = .ok (.isub, 1) := by decide +kernel
theorem dX1_quotient_14 : decode cX1_quotient 14 = .ok (.goto 4, 3) := by decide +kernel
theorem dX1_quotient_17 : decode cX1_quotient 17 = .ok (.iload_n 2, 1) := by decide +kernel
theorem dX1_quotient_18 : decode cX1_quotient 18 = .ok (.ireturn, 1) := by decide +kernel
set_option maxRecDepth 20000 in
theorem ggX1_between_X1_placeAt : GoodIn wsX1_between wsX1_placeAt := goodIn_r _ [5] (by decide +kernel) (by decide +kernel)
set_option maxRecDepth 20000 in
theorem gX1_between_X1_placeAt : GoodIn wsX1_between (va_wsS RX1 64 yX1_placeAt wsX1_placeAt) := goodIn_app (goodIn_of _ (by decide +kernel)) ggX1_between_X1_placeAt
set_option maxRecDepth 20000 in
theorem ggX1_between_X1_quotient : GoodIn wsX1_between wsX1_quotient := goodIn_r _ [8] (by decide +kernel) (by decide +kernel)
set_option maxRecDepth 20000 in
theorem gX1_between_X1_quotient : GoodIn wsX1_between (va_wsS RX1 68 yX1_quotient wsX1_quotient) := goodIn_app (goodIn_of _ (by decide +kernel)) ggX1_between_X1_quotient
theorem dX1_between_0 : decode cX1_between 0 = .ok (.iconst 0, 1) := by decide +kernel
theorem dX1_between_1 : decode cX1_between 1 = .ok (.istore_n 2, 1) := by decide +kernel
theorem dX1_between_2 : decode cX1_between 2 = .ok (.iload_n 2, 1) := by decide +kernel
theorem dX1_between_3 : decode cX1_between 3 = .ok (.iconst 4, 1) := by decide +kernel
theorem dX1_between_4 : decode cX1_between 4 = .ok (.if_icmp .ge 19, 3) := by decide +kernel
theorem dX1_between_7 : decode cX1_between 7 = .ok (.iload_n 2, 1) := by decide +kernel
theorem dX1_between_8 : decode cX1_between 8 = .ok (.iconst 1, 1) := by decide +kernel
theorem dX1_between_9 : decode cX1_between 9 = .ok (.iadd, 1) := by decide +kernel
theorem dX1_between_10 : decode cX1_between 10 = .ok (.invokestatic 64, 3) := by decide +kernel
theorem dX1_between_13 : decode cX1_between 13 = .ok (.iload_n 1, 1) := by decide +kernel
theorem dX1_between_14 : decode cX1_between 14 = .ok (.if_icmp .gt 9, 3) := by decide +kernel
theorem dX1_between_17 : decode cX1_between 17 = .ok (.iinc 2 1, 3) := by decide +kernel
theorem dX1_between_20 : decode cX1_between 20 = .ok (.goto (-18), 3) := by decide +kernel
theorem dX1_between_23 : decode cX1_between 23 = .ok (.iload_n 2, 1) := by decide +kernel
theorem dX1_between_24 : decode cX1_between 24 = .ok (.invokestatic 64, 3) := by decide +kernel
theorem dX1_between_27 : decode cX1_between 27 = .ok (.iload_n 1, 1) := by decide +kernel
theorem dX1_between_28 : decode cX1_between 28 = .ok (.if_icmp .ne 10, 3) := by decide +kernel
theorem dX1_between_31 : decode cX1_between 31 = .ok (.aload_n 0, 1) := by decide +kernel
theorem dX1_between_32 : decode cX1_between 32 = .ok (.getfield 47, 3) := by decide +kernel
theorem dX1_between_35 : decode cX1_between 35 = .ok (.iload_n 2, 1) := by decide +kernel
theorem dX1_between_36 : decode cX1_between 36 = .ok (.iaload, 1) := by decide +kernel
theorem dX1_between_37 : decode cX1_between 37 = .ok (.ireturn, 1) := by decide +kernel
theorem dX1_between_38 : decode cX1_between 38 = .ok (.aload_n 0, 1) := by decide +kernel
theorem dX1_between_39 : decode cX1_between 39 = .ok (.getfield 47, 3) := by decide +kernel
theorem dX1_between_42 : decode cX1_between 42 = .ok (.iload_n 2, 1) := by decide +kernel
theorem dX1_between_43 : decode cX1_between 43 = .ok (.iaload, 1) := by decide +kernel
theorem dX1_between_44 : decode cX1_between 44 = .ok (.aload_n 0, 1) := by decide +kernel
theorem dX1_between_45 : decode cX1_between 45 = .ok (.getfield 47, 3) := by decide +kernel
theorem dX1_between_48 : decode cX1_between 48 = .ok (.iload_n 2, 1) := by decide +kernel
theorem dX1_between_49 : decode cX1_between 49 = .ok (.iconst 1, 1) := by decide +kernel
theorem dX1_between_50 : decode cX1_between 50 = .ok (.iadd, 1) := by decide +kernel
theorem dX1_between_51 : decode cX1_between 51 = .ok (.iaload, 1) := by decide +kernel
theorem dX1_between_52 : decode cX1_between 52 = .ok (.aload_n 0, 1) := by decide +kernel
theorem dX1_between_53 : decode cX1_between 53 = .ok (.getfield 47, 3) := by decide +kernel
theorem dX1_between_56 : decode cX1_between 56 = .ok (.iload_n 2, 1) := by decide +kernel
theorem dX1_between_57 : decode cX1_between 57 = .ok (.iaload, 1) := by decide +kernel
theorem dX1_between_58 : decode cX1_between 58 = .ok (.isub, 1) := by decide +kernel
theorem dX1_between_59 : decode cX1_between 59 = .ok (.iload_n 1, 1) := by decide +kernel
theorem dX1_between_60 : decode cX1_between 60 = .ok (.iload_n 2, 1) := by decide +kernel
theorem dX1_between_61 : decode cX1_between 61 = .ok (.invokestatic 64, 3) := by decide +kernel
theorem dX1_between_64 : decode cX1_between 64 = .ok (.isub, 1) := by decide +kernel
theorem dX1_between_65 : decode cX1_between 65 = .ok (.imul, 1) := by decide +kernel
theorem dX1_between_66 : decode cX1_between 66 = .ok (.iload_n 2, 1) := by decide +kernel
theorem dX1_between_67 : decode cX1_between 67 = .ok (.iconst 1, 1) := by decide +kernel
theorem dX1_between_68 : decode cX1_between 68 = .ok (.iadd, 1) := by decide +kernel
theorem dX1_between_69 : decode cX1_between 69 = .ok (.invokestatic 64, 3) := by decide +kernel
theorem dX1_between_72 : decode cX1_between 72 = .ok (.iload_n 2, 1) := by decide +kernel
theorem dX1_between_73 : decode cX1_between 73 = .ok (.invokestatic 64, 3) := by decide +kernel
theorem dX1_between_76 : decode cX1_between 76 = .ok (.isub, 1) := by decide +kernel
theorem dX1_between_77 : decode cX1_between 77 = .ok (.invokestatic 68, 3) := by decide +kernel
theorem dX1_between_80 : decode cX1_between 80 = .ok (.iadd, 1) := by decide +kernel
theorem dX1_between_81 : decode cX1_between 81 = .ok (.ireturn, 1) := by decide +kernel
set_option maxRecDepth 20000 in
theorem ggX1_curveOf_X1_between : GoodIn wsX1_curveOf wsX1_between := goodIn_r _ [7, 1, 8, 9, 6, 10, 11, 12, 13, 14, 15, 16, 17, 18, 19, 20, 21, 22, 23, 24, 25, 26, 27, 28, 29] (by decide +kernel) (by decide +kernel)
set_option maxRecDepth 20000 in
theorem gX1_curveOf_X1_between : GoodIn wsX1_curveOf (wsV RX1 72 RX1 yX1_between wsX1_between) := goodIn_app (goodIn_of _ (by decide +kernel)) ggX1_curveOf_X1_between
theorem dX1_curveOf_0 : decode cX1_curveOf 0 = .ok (.iconst 0, 1) := by decide +kernel
theorem dX1_curveOf_1 : decode cX1_curveOf 1 = .ok (.istore 4, 2) := by decide +kernel
theorem dX1_curveOf_3 : decode cX1_curveOf 3 = .ok (.iload 4, 2) := by decide +kernel
theorem dX1_curveOf_5 : decode cX1_curveOf 5 = .ok (.iconst 5, 1) := by decide +kernel
theorem dX1_curveOf_6 : decode cX1_curveOf 6 = .ok (.if_icmp .ge 32, 3) := by decide +kernel
theorem dX1_curveOf_9 : decode cX1_curveOf 9 = .ok (.aload_n 0, 1) := by decide +kernel
theorem dX1_curveOf_10 : decode cX1_curveOf 10 = .ok (.getfield 47, 3) := by decide +kernel
theorem dX1_curveOf_13 : decode cX1_curveOf 13 = .ok (.iload 4, 2) := by decide +kernel
theorem dX1_curveOf_15 : decode cX1_curveOf 15 = .ok (.aload_n 0, 1) := by decide +kernel
theorem dX1_curveOf_16 : decode cX1_curveOf 16 = .ok (.getfield 7, 3) := by decide +kernel
theorem dX1_curveOf_19 : decode cX1_curveOf 19 = .ok (.bipush 15, 2) := by decide +kernel
theorem dX1_curveOf_21 : decode cX1_curveOf 21 = .ok (.iload_n 1, 1) := by decide +kernel
theorem dX1_curveOf_22 : decode cX1_curveOf 22 = .ok (.imul, 1) := by decide +kernel
theorem dX1_curveOf_23 : decode cX1_curveOf 23 = .ok (.iconst 5, 1) := by decide +kernel
theorem dX1_curveOf_24 : decode cX1_curveOf 24 = .ok (.iload_n 2, 1) := by decide +kernel
theorem dX1_curveOf_25 : decode cX1_curveOf 25 = .ok (.imul, 1) := by decide +kernel
theorem dX1_curveOf_26 : decode cX1_curveOf 26 = .ok (.iadd, 1) := by decide +kernel
theorem dX1_curveOf_27 : decode cX1_curveOf 27 = .ok (.iload 4, 2) := by decide +kernel
theorem dX1_curveOf_29 : decode cX1_curveOf 29 = .ok (.iadd, 1) := by decide +kernel
theorem dX1_curveOf_30 : decode cX1_curveOf 30 = .ok (.iaload, 1) := by decide +kernel
theorem dX1_curveOf_31 : decode cX1_curveOf 31 = .ok (.iastore, 1) := by decide +kernel
theorem dX1_curveOf_32 : decode cX1_curveOf 32 = .ok (.iinc 4 1, 3) := by decide +kernel
theorem dX1_curveOf_35 : decode cX1_curveOf 35 = .ok (.goto (-32), 3) := by decide +kernel
theorem dX1_curveOf_38 : decode cX1_curveOf 38 = .ok (.aload_n 0, 1) := by decide +kernel
theorem dX1_curveOf_39 : decode cX1_curveOf 39 = .ok (.iload_n 3, 1) := by decide +kernel
theorem dX1_curveOf_40 : decode cX1_curveOf 40 = .ok (.invokevirtual 72, 3) := by decide +kernel
theorem dX1_curveOf_43 : decode cX1_curveOf 43 = .ok (.ireturn, 1) := by decide +kernel
set_option maxRecDepth 20000 in
theorem ggX1_takenBy_X1_curveOf : GoodIn wsX1_takenBy wsX1_curveOf := goodIn_r _ [8, 9, 10, 11, 12, 13, 7, 14, 15, 16, 17, 18, 19, 20, 21, 22, 23, 24, 25, 26, 27, 28, 29, 30, 31, 32, 33, 34, 35, 36] (by decide +kernel) (by decide +kernel)
set_option maxRecDepth 20000 in
theorem gX1_takenBy_X1_curveOf : GoodIn wsX1_takenBy (wsV RX1 75 RX1 yX1_curveOf wsX1_curveOf) := goodIn_app (goodIn_of _ (by decide +kernel)) ggX1_takenBy_X1_curveOf
theorem dX1_takenBy_0 : decode cX1_takenBy 0 = .ok (.aload_n 0, 1) := by decide +kernel
theorem dX1_takenBy_1 : decode cX1_takenBy 1 = .ok (.getfield 13, 3) := by decide +kernel
theorem dX1_takenBy_4 : decode cX1_takenBy 4 = .ok (.iconst 3, 1) := by decide +kernel
theorem dX1_takenBy_5 : decode cX1_takenBy 5 = .ok (.iload_n 1, 1) := by decide +kernel
theorem dX1_takenBy_6 : decode cX1_takenBy 6 = .ok (.imul, 1) := by decide +kernel
theorem dX1_takenBy_7 : decode cX1_takenBy 7 = .ok (.iload_n 2, 1) := by decide +kernel
theorem dX1_takenBy_8 : decode cX1_takenBy 8 = .ok (.iadd, 1) := by decide +kernel
theorem dX1_takenBy_9 : decode cX1_takenBy 9 = .ok (.iaload, 1) := by decide +kernel
theorem dX1_takenBy_10 : decode cX1_takenBy 10 = .ok (.istore 4, 2) := by decide +kernel
theorem dX1_takenBy_12 : decode cX1_takenBy 12 = .ok (.aload_n 0, 1) := by decide +kernel
theorem dX1_takenBy_13 : decode cX1_takenBy 13 = .ok (.getfield 16, 3) := by decide +kernel
theorem dX1_takenBy_16 : decode cX1_takenBy 16 = .ok (.iconst 3, 1) := by decide +kernel
theorem dX1_takenBy_17 : decode cX1_takenBy 17 = .ok (.iload_n 1, 1) := by decide +kernel
theorem dX1_takenBy_18 : decode cX1_takenBy 18 = .ok (.imul, 1) := by decide +kernel
theorem dX1_takenBy_19 : decode cX1_takenBy 19 = .ok (.iload_n 2, 1) := by decide +kernel
theorem dX1_takenBy_20 : decode cX1_takenBy 20 = .ok (.iadd, 1) := by decide +kernel
theorem dX1_takenBy_21 : decode cX1_takenBy 21 = .ok (.iaload, 1) := by decide +kernel
theorem dX1_takenBy_22 : decode cX1_takenBy 22 = .ok (.istore 5, 2) := by decide +kernel
theorem dX1_takenBy_24 : decode cX1_takenBy 24 = .ok (.aload_n 0, 1) := by decide +kernel
theorem dX1_takenBy_25 : decode cX1_takenBy 25 = .ok (.iload_n 1, 1) := by decide +kernel
theorem dX1_takenBy_26 : decode cX1_takenBy 26 = .ok (.iload_n 2, 1) := by decide +kernel
theorem dX1_takenBy_27 : decode cX1_takenBy 27 = .ok (.iload_n 3, 1) := by decide +kernel
theorem dX1_takenBy_28 : decode cX1_takenBy 28 = .ok (.invokevirtual 75, 3) := by decide +kernel
theorem dX1_takenBy_31 : decode cX1_takenBy 31 = .ok (.istore 6, 2) := by decide +kernel
theorem dX1_takenBy_33 : decode cX1_takenBy 33 = .ok (.aload_n 0, 1) := by decide +kernel
theorem dX1_takenBy_34 : decode cX1_takenBy 34 = .ok (.getfield 19, 3) := by decide +kernel
theorem dX1_takenBy_37 : decode cX1_takenBy 37 = .ok (.iload_n 1, 1) := by decide +kernel
theorem dX1_takenBy_38 : decode cX1_takenBy 38 = .ok (.iaload, 1) := by decide +kernel
theorem dX1_takenBy_39 : decode cX1_takenBy 39 = .ok (.iconst 1, 1) := by decide +kernel
theorem dX1_takenBy_40 : decode cX1_takenBy 40 = .ok (.if_icmp .ne 19, 3) := by decide +kernel
theorem dX1_takenBy_43 : decode cX1_takenBy 43 = .ok (.iload 4, 2) := by decide +kernel
theorem dX1_takenBy_45 : decode cX1_takenBy 45 = .ok (.iload 6, 2) := by decide +kernel
theorem dX1_takenBy_47 : decode cX1_takenBy 47 = .ok (.iload 5, 2) := by decide +kernel
theorem dX1_takenBy_49 : decode cX1_takenBy 49 = .ok (.iload 4, 2) := by decide +kernel
theorem dX1_takenBy_51 : decode cX1_takenBy 51 = .ok (.isub, 1) := by decide +kernel
theorem dX1_takenBy_52 : decode cX1_takenBy 52 = .ok (.imul, 1) := by decide +kernel
theorem dX1_takenBy_53 : decode cX1_takenBy 53 = .ok (.sipush 255, 3) := by decide +kernel
theorem dX1_takenBy_56 : decode cX1_takenBy 56 = .ok (.idiv, 1) := by decide +kernel
theorem dX1_takenBy_57 : decode cX1_takenBy 57 = .ok (.iadd, 1) := by decide +kernel
theorem dX1_takenBy_58 : decode cX1_takenBy 58 = .ok (.ireturn, 1) := by decide +kernel
theorem dX1_takenBy_59 : decode cX1_takenBy 59 = .ok (.aload_n 0, 1) := by decide +kernel
theorem dX1_takenBy_60 : decode cX1_takenBy 60 = .ok (.getfield 19, 3) := by decide +kernel
theorem dX1_takenBy_63 : decode cX1_takenBy 63 = .ok (.iload_n 1, 1) := by decide +kernel
theorem dX1_takenBy_64 : decode cX1_takenBy 64 = .ok (.iaload, 1) := by decide +kernel
theorem dX1_takenBy_65 : decode cX1_takenBy 65 = .ok (.iconst 2, 1) := by decide +kernel
theorem dX1_takenBy_66 : decode cX1_takenBy 66 = .ok (.if_icmp .ne 41, 3) := by decide +kernel
theorem dX1_takenBy_69 : decode cX1_takenBy 69 = .ok (.iload 6, 2) := by decide +kernel
theorem dX1_takenBy_71 : decode cX1_takenBy 71 = .ok (.iload 5, 2) := by decide +kernel
theorem dX1_takenBy_73 : decode cX1_takenBy 73 = .ok (.if_icmp .le 13, 3) := by decide +kernel
theorem dX1_takenBy_76 : decode cX1_takenBy 76 = .ok (.iconst 2, 1) := by decide +kernel
theorem dX1_takenBy_77 : decode cX1_takenBy 77 = .ok (.iload 5, 2) := by decide +kernel
theorem dX1_takenBy_79 : decode cX1_takenBy 79 = .ok (.imul, 1) := by decide +kernel
theorem dX1_takenBy_80 : decode cX1_takenBy 80 = .ok (.iload 6, 2) := by decide +kernel
theorem dX1_takenBy_82 : decode cX1_takenBy 82 = .ok (.isub, 1) := by decide +kernel
theorem dX1_takenBy_83 : decode cX1_takenBy 83 = .ok (.goto 22, 3) := by decide +kernel
theorem dX1_takenBy_86 : decode cX1_takenBy 86 = .ok (.iload 6, 2) := by decide +kernel
theorem dX1_takenBy_88 : decode cX1_takenBy 88 = .ok (.iload 4, 2) := by decide +kernel
theorem dX1_takenBy_90 : decode cX1_takenBy 90 = .ok (.if_icmp .ge 13, 3) := by decide +kernel
theorem dX1_takenBy_93 : decode cX1_takenBy 93 = .ok (.iconst 2, 1) := by decide +kernel
theorem dX1_takenBy_94 : decode cX1_takenBy 94 = .ok (.iload 4, 2) := by decide +kernel
theorem dX1_takenBy_96 : decode cX1_takenBy 96 = .ok (.imul, 1) := by decide +kernel
theorem dX1_takenBy_97 : decode cX1_takenBy 97 = .ok (.iload 6, 2) := by decide +kernel
theorem dX1_takenBy_99 : decode cX1_takenBy 99 = .ok (.isub, 1) := by decide +kernel
theorem dX1_takenBy_100 : decode cX1_takenBy 100 = .ok (.goto 5, 3) := by decide +kernel
theorem dX1_takenBy_103 : decode cX1_takenBy 103 = .ok (.iload 6, 2) := by decide +kernel
theorem dX1_takenBy_105 : decode cX1_takenBy 105 = .ok (.istore 6, 2) := by decide +kernel
theorem dX1_takenBy_107 : decode cX1_takenBy 107 = .ok (.iload 6, 2) := by decide +kernel
theorem dX1_takenBy_109 : decode cX1_takenBy 109 = .ok (.iload 4, 2) := by decide +kernel
theorem dX1_takenBy_111 : decode cX1_takenBy 111 = .ok (.if_icmp .ge 8, 3) := by decide +kernel
theorem dX1_takenBy_114 : decode cX1_takenBy 114 = .ok (.iload 4, 2) := by decide +kernel
theorem dX1_takenBy_116 : decode cX1_takenBy 116 = .ok (.goto 17, 3) := by decide +kernel
theorem dX1_takenBy_119 : decode cX1_takenBy 119 = .ok (.iload 6, 2) := by decide +kernel
theorem dX1_takenBy_121 : decode cX1_takenBy 121 = .ok (.iload 5, 2) := by decide +kernel
theorem dX1_takenBy_123 : decode cX1_takenBy 123 = .ok (.if_icmp .le 8, 3) := by decide +kernel
theorem dX1_takenBy_126 : decode cX1_takenBy 126 = .ok (.iload 5, 2) := by decide +kernel
theorem dX1_takenBy_128 : decode cX1_takenBy 128 = .ok (.goto 5, 3) := by decide +kernel
theorem dX1_takenBy_131 : decode cX1_takenBy 131 = .ok (.iload 6, 2) := by decide +kernel
theorem dX1_takenBy_133 : decode cX1_takenBy 133 = .ok (.ireturn, 1) := by decide +kernel
set_option maxRecDepth 20000 in
theorem ggX1_throughOf_X1_takenBy : GoodIn wsX1_throughOf wsX1_takenBy := goodIn_r _ [7, 8, 9, 10, 11, 12, 13, 6, 14, 15, 16, 17, 18, 19, 20, 21, 22, 23, 24, 25, 26, 27, 28, 29, 30, 31, 32, 33, 34, 35, 36, 37, 38, 39, 40, 41, 42] (by decide +kernel) (by decide +kernel)
set_option maxRecDepth 20000 in
theorem gX1_throughOf_X1_takenBy : GoodIn wsX1_throughOf (wsV RX1 79 RX1 yX1_takenBy wsX1_takenBy) := goodIn_app (goodIn_of _ (by decide +kernel)) ggX1_throughOf_X1_takenBy
theorem dX1_throughOf_0 : decode cX1_throughOf 0 = .ok (.iload_n 3, 1) := by decide +kernel
theorem dX1_throughOf_1 : decode cX1_throughOf 1 = .ok (.istore 4, 2) := by decide +kernel
theorem dX1_throughOf_3 : decode cX1_throughOf 3 = .ok (.iconst 0, 1) := by decide +kernel
theorem dX1_throughOf_4 : decode cX1_throughOf 4 = .ok (.istore 5, 2) := by decide +kernel
theorem dX1_throughOf_6 : decode cX1_throughOf 6 = .ok (.iload 5, 2) := by decide +kernel
theorem dX1_throughOf_8 : decode cX1_throughOf 8 = .ok (.aload_n 0, 1) := by decide +kernel
theorem dX1_throughOf_9 : decode cX1_throughOf 9 = .ok (.getfield 22, 3) := by decide +kernel
theorem dX1_throughOf_12 : decode cX1_throughOf 12 = .ok (.iload_n 1, 1) := by decide +kernel
theorem dX1_throughOf_13 : decode cX1_throughOf 13 = .ok (.iaload, 1) := by decide +kernel
theorem dX1_throughOf_14 : decode cX1_throughOf 14 = .ok (.if_icmp .ge 30, 3) := by decide +kernel
theorem dX1_throughOf_17 : decode cX1_throughOf 17 = .ok (.aload_n 0, 1) := by decide +kernel
theorem dX1_throughOf_18 : decode cX1_throughOf 18 = .ok (.aload_n 0, 1) := by decide +kernel
theorem dX1_throughOf_19 : decode cX1_throughOf 19 = .ok (.getfield 25, 3) := by decide +kernel
theorem dX1_throughOf_22 : decode cX1_throughOf 22 = .ok (.bipush 6, 2) := by decide +kernel
theorem dX1_throughOf_24 : decode cX1_throughOf 24 = .ok (.iload_n 1, 1) := by decide +kernel
theorem dX1_throughOf_25 : decode cX1_throughOf 25 = .ok (.imul, 1) := by decide +kernel
theorem dX1_throughOf_26 : decode cX1_throughOf 26 = .ok (.iload 5, 2) := by decide +kernel
theorem dX1_throughOf_28 : decode cX1_throughOf 28 = .ok (.iadd, 1) := by decide +kernel
theorem dX1_throughOf_29 : decode cX1_throughOf 29 = .ok (.iaload, 1) := by decide +kernel
theorem dX1_throughOf_30 : decode cX1_throughOf 30 = .ok (.iload_n 2, 1) := by decide +kernel
theorem dX1_throughOf_31 : decode cX1_throughOf 31 = .ok (.iload 4, 2) := by decide +kernel
theorem dX1_throughOf_33 : decode cX1_throughOf 33 = .ok (.invokevirtual 79, 3) := by decide +kernel
theorem dX1_throughOf_36 : decode cX1_throughOf 36 = .ok (.istore 4, 2) := by decide +kernel
theorem dX1_throughOf_38 : decode cX1_throughOf 38 = .ok (.iinc 5 1, 3) := by decide +kernel
theorem dX1_throughOf_41 : decode cX1_throughOf 41 = .ok (.goto (-35), 3) := by decide +kernel
theorem dX1_throughOf_44 : decode cX1_throughOf 44 = .ok (.iload 4, 2) := by decide +kernel
theorem dX1_throughOf_46 : decode cX1_throughOf 46 = .ok (.ireturn, 1) := by decide +kernel
theorem dX1_isHeld_0 : decode cX1_isHeld 0 = .ok (.iconst 0, 1) := by decide +kernel
theorem dX1_isHeld_1 : decode cX1_isHeld 1 = .ok (.istore_n 2, 1) := by decide +kernel
theorem dX1_isHeld_2 : decode cX1_isHeld 2 = .ok (.iconst 0, 1) := by decide +kernel
theorem dX1_isHeld_3 : decode cX1_isHeld 3 = .ok (.istore_n 3, 1) := by decide +kernel
theorem dX1_isHeld_4 : decode cX1_isHeld 4 = .ok (.iload_n 3, 1) := by decide +kernel
theorem dX1_isHeld_5 : decode cX1_isHeld 5 = .ok (.aload_n 0, 1) := by decide +kernel
theorem dX1_isHeld_6 : decode cX1_isHeld 6 = .ok (.getfield 61, 3) := by decide +kernel
theorem dX1_isHeld_9 : decode cX1_isHeld 9 = .ok (.if_icmp .ge 64, 3) := by decide +kernel
theorem dX1_isHeld_12 : decode cX1_isHeld 12 = .ok (.iconst 0, 1) := by decide +kernel
theorem dX1_isHeld_13 : decode cX1_isHeld 13 = .ok (.istore 4, 2) := by decide +kernel
theorem dX1_isHeld_15 : decode cX1_isHeld 15 = .ok (.iload 4, 2) := by decide +kernel
theorem dX1_isHeld_17 : decode cX1_isHeld 17 = .ok (.aload_n 0, 1) := by decide +kernel
theorem dX1_isHeld_18 : decode cX1_isHeld 18 = .ok (.getfield 22, 3) := by decide +kernel
theorem dX1_isHeld_21 : decode cX1_isHeld 21 = .ok (.iload_n 3, 1) := by decide +kernel
theorem dX1_isHeld_22 : decode cX1_isHeld 22 = .ok (.iaload, 1) := by decide +kernel
theorem dX1_isHeld_23 : decode cX1_isHeld 23 = .ok (.if_icmp .ge 44, 3) := by decide +kernel
theorem dX1_isHeld_26 : decode cX1_isHeld 26 = .ok (.iload_n 2, 1) := by decide +kernel
theorem dX1_isHeld_27 : decode cX1_isHeld 27 = .ok (.ifCond .ne 28, 3) := by decide +kernel
theorem dX1_isHeld_30 : decode cX1_isHeld 30 = .ok (.aload_n 0, 1) := by decide +kernel
theorem dX1_isHeld_31 : decode cX1_isHeld 31 = .ok (.getfield 32, 3) := by decide +kernel
theorem dX1_isHeld_34 : decode cX1_isHeld 34 = .ok (.iload_n 3, 1) := by decide +kernel
theorem dX1_isHeld_35 : decode cX1_isHeld 35 = .ok (.baload, 1) := by decide +kernel
theorem dX1_isHeld_36 : decode cX1_isHeld 36 = .ok (.ifCond .eq 23, 3) := by decide +kernel
theorem dX1_isHeld_39 : decode cX1_isHeld 39 = .ok (.aload_n 0, 1) := by decide +kernel
theorem dX1_isHeld_40 : decode cX1_isHeld 40 = .ok (.getfield 25, 3) := by decide +kernel
theorem dX1_isHeld_43 : decode cX1_isHeld 43 = .ok (.bipush 6, 2) := by decide +kernel
theorem dX1_isHeld_45 : decode cX1_isHeld 45 = .ok (.iload_n 3, 1) := by decide +kernel
theorem dX1_isHeld_46 : decode cX1_isHeld 46 = .ok (.imul, 1) := by decide +kernel
theorem dX1_isHeld_47 : decode cX1_isHeld 47 = .ok (.iload 4, 2) := by decide +kernel
theorem dX1_isHeld_49 : decode cX1_isHeld 49 = .ok (.iadd, 1) := by decide +kernel
theorem dX1_isHeld_50 : decode cX1_isHeld 50 = .ok (.iaload, 1) := by decide +kernel
theorem dX1_isHeld_51 : decode cX1_isHeld 51 = .ok (.iload_n 1, 1) := by decide +kernel
theorem dX1_isHeld_52 : decode cX1_isHeld 52 = .ok (.if_icmp .ne 7, 3) := by decide +kernel
theorem dX1_isHeld_55 : decode cX1_isHeld 55 = .ok (.iconst 1, 1) := by decide +kernel
theorem dX1_isHeld_56 : decode cX1_isHeld 56 = .ok (.goto 4, 3) := by decide +kernel
theorem dX1_isHeld_59 : decode cX1_isHeld 59 = .ok (.iconst 0, 1) := by decide +kernel
theorem dX1_isHeld_60 : decode cX1_isHeld 60 = .ok (.istore_n 2, 1) := by decide +kernel
theorem dX1_isHeld_61 : decode cX1_isHeld 61 = .ok (.iinc 4 1, 3) := by decide +kernel
theorem dX1_isHeld_64 : decode cX1_isHeld 64 = .ok (.goto (-49), 3) := by decide +kernel
theorem dX1_isHeld_67 : decode cX1_isHeld 67 = .ok (.iinc 3 1, 3) := by decide +kernel
theorem dX1_isHeld_70 : decode cX1_isHeld 70 = .ok (.goto (-66), 3) := by decide +kernel
theorem dX1_isHeld_73 : decode cX1_isHeld 73 = .ok (.iload_n 2, 1) := by decide +kernel
theorem dX1_isHeld_74 : decode cX1_isHeld 74 = .ok (.ireturn, 1) := by decide +kernel
set_option maxRecDepth 20000 in
theorem ggX1_profile_X1_may : GoodIn wsX1_profile wsX1_may := goodIn_r _ [8, 9, 13, 14, 15, 16, 17, 18, 19, 20, 21, 22, 23, 24, 25, 26, 27, 28] (by decide +kernel) (by decide +kernel)
set_option maxRecDepth 20000 in
theorem gX1_profile_X1_may : GoodIn wsX1_profile (wsV RX1 82 RX1 yX1_may wsX1_may) := goodIn_app (goodIn_of _ (by decide +kernel)) ggX1_profile_X1_may
set_option maxRecDepth 20000 in
theorem ggX1_profile_X1_placeAt : GoodIn wsX1_profile wsX1_placeAt := goodIn_r _ [12] (by decide +kernel) (by decide +kernel)
set_option maxRecDepth 20000 in
theorem gX1_profile_X1_placeAt : GoodIn wsX1_profile (va_wsS RX1 64 yX1_placeAt wsX1_placeAt) := goodIn_app (goodIn_of _ (by decide +kernel)) ggX1_profile_X1_placeAt
theorem dX1_profile_0 : decode cX1_profile 0 = .ok (.aload_n 0, 1) := by decide +kernel
theorem dX1_profile_1 : decode cX1_profile 1 = .ok (.aload_n 0, 1) := by decide +kernel
theorem dX1_profile_2 : decode cX1_profile 2 = .ok (.getfield 58, 3) := by decide +kernel
theorem dX1_profile_5 : decode cX1_profile 5 = .ok (.bipush 8, 2) := by decide +kernel
theorem dX1_profile_7 : decode cX1_profile 7 = .ok (.if_icmp .ge 7, 3) := by decide +kernel
theorem dX1_profile_10 : decode cX1_profile 10 = .ok (.iconst 1, 1) := by decide +kernel
theorem dX1_profile_11 : decode cX1_profile 11 = .ok (.goto 4, 3) := by decide +kernel
theorem dX1_profile_14 : decode cX1_profile 14 = .ok (.iconst 0, 1) := by decide +kernel
theorem dX1_profile_15 : decode cX1_profile 15 = .ok (.invokevirtual 82, 3) := by decide +kernel
theorem dX1_profile_18 : decode cX1_profile 18 = .ok (.ifCond .ne 5, 3) := by decide +kernel
theorem dX1_profile_21 : decode cX1_profile 21 = .ok (.iconst 0, 1) := by decide +kernel
theorem dX1_profile_22 : decode cX1_profile 22 = .ok (.ireturn, 1) := by decide +kernel
theorem dX1_profile_23 : decode cX1_profile 23 = .ok (.iconst 0, 1) := by decide +kernel
theorem dX1_profile_24 : decode cX1_profile 24 = .ok (.istore_n 1, 1) := by decide +kernel
theorem dX1_profile_25 : decode cX1_profile 25 = .ok (.iload_n 1, 1) := by decide +kernel
theorem dX1_profile_26 : decode cX1_profile 26 = .ok (.iconst 3, 1) := by decide +kernel
theorem dX1_profile_27 : decode cX1_profile 27 = .ok (.if_icmp .ge 60, 3) := by decide +kernel
theorem dX1_profile_30 : decode cX1_profile 30 = .ok (.iconst 0, 1) := by decide +kernel
theorem dX1_profile_31 : decode cX1_profile 31 = .ok (.istore_n 2, 1) := by decide +kernel
theorem dX1_profile_32 : decode cX1_profile 32 = .ok (.iload_n 2, 1) := by decide +kernel
theorem dX1_profile_33 : decode cX1_profile 33 = .ok (.iconst 5, 1) := by decide +kernel
theorem dX1_profile_34 : decode cX1_profile 34 = .ok (.if_icmp .ge 31, 3) := by decide +kernel
theorem dX1_profile_37 : decode cX1_profile 37 = .ok (.aload_n 0, 1) := by decide +kernel
theorem dX1_profile_38 : decode cX1_profile 38 = .ok (.getfield 7, 3) := by decide +kernel
theorem dX1_profile_41 : decode cX1_profile 41 = .ok (.bipush 15, 2) := by decide +kernel
theorem dX1_profile_43 : decode cX1_profile 43 = .ok (.aload_n 0, 1) := by decide +kernel
theorem dX1_profile_44 : decode cX1_profile 44 = .ok (.getfield 58, 3) := by decide +kernel
theorem dX1_profile_47 : decode cX1_profile 47 = .ok (.imul, 1) := by decide +kernel
theorem dX1_profile_48 : decode cX1_profile 48 = .ok (.iconst 5, 1) := by decide +kernel
theorem dX1_profile_49 : decode cX1_profile 49 = .ok (.iload_n 1, 1) := by decide +kernel
theorem dX1_profile_50 : decode cX1_profile 50 = .ok (.imul, 1) := by decide +kernel
theorem dX1_profile_51 : decode cX1_profile 51 = .ok (.iadd, 1) := by decide +kernel
theorem dX1_profile_52 : decode cX1_profile 52 = .ok (.iload_n 2, 1) := by decide +kernel
theorem dX1_profile_53 : decode cX1_profile 53 = .ok (.iadd, 1) := by decide +kernel
theorem dX1_profile_54 : decode cX1_profile 54 = .ok (.iload_n 2, 1) := by decide +kernel
theorem dX1_profile_55 : decode cX1_profile 55 = .ok (.invokestatic 64, 3) := by decide +kernel
theorem dX1_profile_58 : decode cX1_profile 58 = .ok (.iastore, 1) := by decide +kernel
theorem dX1_profile_59 : decode cX1_profile 59 = .ok (.iinc 2 1, 3) := by decide +kernel
theorem dX1_profile_62 : decode cX1_profile 62 = .ok (.goto (-30), 3) := by decide +kernel
theorem dX1_profile_65 : decode cX1_profile 65 = .ok (.aload_n 0, 1) := by decide +kernel
theorem dX1_profile_66 : decode cX1_profile 66 = .ok (.getfield 16, 3) := by decide +kernel
theorem dX1_profile_69 : decode cX1_profile 69 = .ok (.iconst 3, 1) := by decide +kernel
theorem dX1_profile_70 : decode cX1_profile 70 = .ok (.aload_n 0, 1) := by decide +kernel
theorem dX1_profile_71 : decode cX1_profile 71 = .ok (.getfield 58, 3) := by decide +kernel
theorem dX1_profile_74 : decode cX1_profile 74 = .ok (.imul, 1) := by decide +kernel
theorem dX1_profile_75 : decode cX1_profile 75 = .ok (.iload_n 1, 1) := by decide +kernel
theorem dX1_profile_76 : decode cX1_profile 76 = .ok (.iadd, 1) := by decide +kernel
theorem dX1_profile_77 : decode cX1_profile 77 = .ok (.sipush 255, 3) := by decide +kernel
theorem dX1_profile_80 : decode cX1_profile 80 = .ok (.iastore, 1) := by decide +kernel
theorem dX1_profile_81 : decode cX1_profile 81 = .ok (.iinc 1 1, 3) := by decide +kernel
theorem dX1_profile_84 : decode cX1_profile 84 = .ok (.goto (-59), 3) := by decide +kernel
theorem dX1_profile_87 : decode cX1_profile 87 = .ok (.aload_n 0, 1) := by decide +kernel
theorem dX1_profile_88 : decode cX1_profile 88 = .ok (.dup, 1) := by decide +kernel
theorem dX1_profile_89 : decode cX1_profile 89 = .ok (.getfield 58, 3) := by decide +kernel
theorem dX1_profile_92 : decode cX1_profile 92 = .ok (.iconst 1, 1) := by decide +kernel
theorem dX1_profile_93 : decode cX1_profile 93 = .ok (.iadd, 1) := by decide +kernel
theorem dX1_profile_94 : decode cX1_profile 94 = .ok (.putfield 58, 3) := by decide +kernel
theorem dX1_profile_97 : decode cX1_profile 97 = .ok (.aload_n 0, 1) := by decide +kernel
theorem dX1_profile_98 : decode cX1_profile 98 = .ok (.getfield 58, 3) := by decide +kernel
theorem dX1_profile_101 : decode cX1_profile 101 = .ok (.iconst 1, 1) := by decide +kernel
theorem dX1_profile_102 : decode cX1_profile 102 = .ok (.isub, 1) := by decide +kernel
theorem dX1_profile_103 : decode cX1_profile 103 = .ok (.ireturn, 1) := by decide +kernel
set_option maxRecDepth 20000 in
theorem ggX1_bend_X1_isProfile : GoodIn wsX1_bend wsX1_isProfile := goodIn_r _ [6, 7, 8, 9, 5, 10, 30, 31, 32, 33, 34, 35, 36, 37, 38, 39, 40, 41, 42, 43, 44, 45] (by decide +kernel) (by decide +kernel)
set_option maxRecDepth 20000 in
theorem gX1_bend_X1_isProfile : GoodIn wsX1_bend (wsV RX1 86 RX1 yX1_isProfile wsX1_isProfile) := goodIn_app (goodIn_of _ (by decide +kernel)) ggX1_bend_X1_isProfile
set_option maxRecDepth 20000 in
theorem ggX1_bend_X1_isThird : GoodIn wsX1_bend wsX1_isThird := goodIn_r _ [13, 8, 9, 5, 10] (by decide +kernel) (by decide +kernel)
set_option maxRecDepth 20000 in
theorem gX1_bend_X1_isThird : GoodIn wsX1_bend (va_wsS RX1 90 yX1_isThird wsX1_isThird) := goodIn_app (goodIn_of _ (by decide +kernel)) ggX1_bend_X1_isThird
set_option maxRecDepth 20000 in
theorem ggX1_bend_X1_isIn : GoodIn wsX1_bend wsX1_isIn := goodIn_r _ [10] (by decide +kernel) (by decide +kernel)
set_option maxRecDepth 20000 in
theorem gX1_bend_X1_isIn : GoodIn wsX1_bend (va_wsS RX1 54 yX1_isIn wsX1_isIn) := goodIn_app (goodIn_of _ (by decide +kernel)) ggX1_bend_X1_isIn
set_option maxRecDepth 20000 in
theorem ggX1_bend_X1_isByte : GoodIn wsX1_bend wsX1_isByte := goodIn_r _ [16, 8, 9, 5, 10] (by decide +kernel) (by decide +kernel)
set_option maxRecDepth 20000 in
theorem gX1_bend_X1_isByte : GoodIn wsX1_bend (va_wsS RX1 93 yX1_isByte wsX1_isByte) := goodIn_app (goodIn_of _ (by decide +kernel)) ggX1_bend_X1_isByte
set_option maxRecDepth 20000 in
theorem ggX1_bend_X1_isHeld : GoodIn wsX1_bend wsX1_isHeld := goodIn_r _ [20, 21, 22, 23, 24, 30, 31, 32, 33, 34, 35, 36, 37, 38, 39, 40, 41, 42, 43, 44, 45] (by decide +kernel) (by decide +kernel)
set_option maxRecDepth 20000 in
theorem gX1_bend_X1_isHeld : GoodIn wsX1_bend (wsV RX1 96 RX1 yX1_isHeld wsX1_isHeld) := goodIn_app (goodIn_of _ (by decide +kernel)) ggX1_bend_X1_isHeld
set_option maxRecDepth 20000 in
theorem ggX1_bend_X1_mayAll : GoodIn wsX1_bend wsX1_mayAll := goodIn_r _ [28, 29, 30, 31, 32, 33, 34, 35, 36, 37, 38, 39, 40, 41, 42, 43, 44, 45] (by decide +kernel) (by decide +kernel)
set_option maxRecDepth 20000 in
theorem gX1_bend_X1_mayAll : GoodIn wsX1_bend (wsV RX1 99 RX1 yX1_mayAll wsX1_mayAll) := goodIn_app (goodIn_of _ (by decide +kernel)) ggX1_bend_X1_mayAll
theorem dX1_bend_0 : decode cX1_bend 0 = .ok (.aload_n 0, 1) := by decide +kernel
theorem dX1_bend_1 : decode cX1_bend 1 = .ok (.iload_n 1, 1) := by decide +kernel
theorem dX1_bend_2 : decode cX1_bend 2 = .ok (.invokevirtual 86, 3) := by decide +kernel
theorem dX1_bend_5 : decode cX1_bend 5 = .ok (.ifCond .eq 23, 3) := by decide +kernel
theorem dX1_bend_8 : decode cX1_bend 8 = .ok (.iload_n 2, 1) := by decide +kernel
theorem dX1_bend_9 : decode cX1_bend 9 = .ok (.invokestatic 90, 3) := by decide +kernel
theorem dX1_bend_12 : decode cX1_bend 12 = .ok (.ifCond .eq 16, 3) := by decide +kernel
theorem dX1_bend_15 : decode cX1_bend 15 = .ok (.iload_n 3, 1) := by decide +kernel
theorem dX1_bend_16 : decode cX1_bend 16 = .ok (.iconst 0, 1) := by decide +kernel
theorem dX1_bend_17 : decode cX1_bend 17 = .ok (.iconst 4, 1) := by decide +kernel
theorem dX1_bend_18 : decode cX1_bend 18 = .ok (.invokestatic 54, 3) := by decide +kernel
theorem dX1_bend_21 : decode cX1_bend 21 = .ok (.ifCond .eq 7, 3) := by decide +kernel
theorem dX1_bend_24 : decode cX1_bend 24 = .ok (.iconst 1, 1) := by decide +kernel
theorem dX1_bend_25 : decode cX1_bend 25 = .ok (.goto 4, 3) := by decide +kernel
theorem dX1_bend_28 : decode cX1_bend 28 = .ok (.iconst 0, 1) := by decide +kernel
theorem dX1_bend_29 : decode cX1_bend 29 = .ok (.istore 5, 2) := by decide +kernel
theorem dX1_bend_31 : decode cX1_bend 31 = .ok (.aload_n 0, 1) := by decide +kernel
theorem dX1_bend_32 : decode cX1_bend 32 = .ok (.iload 5, 2) := by decide +kernel
theorem dX1_bend_34 : decode cX1_bend 34 = .ok (.iload 4, 2) := by decide +kernel
theorem dX1_bend_36 : decode cX1_bend 36 = .ok (.invokestatic 93, 3) := by decide +kernel
theorem dX1_bend_39 : decode cX1_bend 39 = .ok (.iload 5, 2) := by decide +kernel
theorem dX1_bend_41 : decode cX1_bend 41 = .ok (.ifCond .eq 15, 3) := by decide +kernel
theorem dX1_bend_44 : decode cX1_bend 44 = .ok (.aload_n 0, 1) := by decide +kernel
theorem dX1_bend_45 : decode cX1_bend 45 = .ok (.iload_n 1, 1) := by decide +kernel
theorem dX1_bend_46 : decode cX1_bend 46 = .ok (.invokevirtual 96, 3) := by decide +kernel
theorem dX1_bend_49 : decode cX1_bend 49 = .ok (.ifCond .ne 7, 3) := by decide +kernel
theorem dX1_bend_52 : decode cX1_bend 52 = .ok (.iconst 1, 1) := by decide +kernel
theorem dX1_bend_53 : decode cX1_bend 53 = .ok (.goto 4, 3) := by decide +kernel
theorem dX1_bend_56 : decode cX1_bend 56 = .ok (.iconst 0, 1) := by decide +kernel
theorem dX1_bend_57 : decode cX1_bend 57 = .ok (.invokevirtual 99, 3) := by decide +kernel
theorem dX1_bend_60 : decode cX1_bend 60 = .ok (.ifCond .ne 5, 3) := by decide +kernel
theorem dX1_bend_63 : decode cX1_bend 63 = .ok (.iconst 0, 1) := by decide +kernel
theorem dX1_bend_64 : decode cX1_bend 64 = .ok (.ireturn, 1) := by decide +kernel
theorem dX1_bend_65 : decode cX1_bend 65 = .ok (.aload_n 0, 1) := by decide +kernel
theorem dX1_bend_66 : decode cX1_bend 66 = .ok (.getfield 7, 3) := by decide +kernel
theorem dX1_bend_69 : decode cX1_bend 69 = .ok (.bipush 15, 2) := by decide +kernel
theorem dX1_bend_71 : decode cX1_bend 71 = .ok (.iload_n 1, 1) := by decide +kernel
theorem dX1_bend_72 : decode cX1_bend 72 = .ok (.imul, 1) := by decide +kernel
theorem dX1_bend_73 : decode cX1_bend 73 = .ok (.iconst 5, 1) := by decide +kernel
theorem dX1_bend_74 : decode cX1_bend 74 = .ok (.iload_n 2, 1) := by decide +kernel
theorem dX1_bend_75 : decode cX1_bend 75 = .ok (.imul, 1) := by decide +kernel
theorem dX1_bend_76 : decode cX1_bend 76 = .ok (.iadd, 1) := by decide +kernel
theorem dX1_bend_77 : decode cX1_bend 77 = .ok (.iload_n 3, 1) := by decide +kernel
theorem dX1_bend_78 : decode cX1_bend 78 = .ok (.iadd, 1) := by decide +kernel
theorem dX1_bend_79 : decode cX1_bend 79 = .ok (.iaload, 1) := by decide +kernel
theorem dX1_bend_80 : decode cX1_bend 80 = .ok (.istore 6, 2) := by decide +kernel
theorem dX1_bend_82 : decode cX1_bend 82 = .ok (.aload_n 0, 1) := by decide +kernel
theorem dX1_bend_83 : decode cX1_bend 83 = .ok (.getfield 7, 3) := by decide +kernel
theorem dX1_bend_86 : decode cX1_bend 86 = .ok (.bipush 15, 2) := by decide +kernel
theorem dX1_bend_88 : decode cX1_bend 88 = .ok (.iload_n 1, 1) := by decide +kernel
theorem dX1_bend_89 : decode cX1_bend 89 = .ok (.imul, 1) := by decide +kernel
theorem dX1_bend_90 : decode cX1_bend 90 = .ok (.iconst 5, 1) := by decide +kernel
theorem dX1_bend_91 : decode cX1_bend 91 = .ok (.iload_n 2, 1) := by decide +kernel
theorem dX1_bend_92 : decode cX1_bend 92 = .ok (.imul, 1) := by decide +kernel
theorem dX1_bend_93 : decode cX1_bend 93 = .ok (.iadd, 1) := by decide +kernel
theorem dX1_bend_94 : decode cX1_bend 94 = .ok (.iload_n 3, 1) := by decide +kernel
theorem dX1_bend_95 : decode cX1_bend 95 = .ok (.iadd, 1) := by decide +kernel
theorem dX1_bend_96 : decode cX1_bend 96 = .ok (.iload 4, 2) := by decide +kernel
theorem dX1_bend_98 : decode cX1_bend 98 = .ok (.iastore, 1) := by decide +kernel
theorem dX1_bend_99 : decode cX1_bend 99 = .ok (.iload 6, 2) := by decide +kernel
theorem dX1_bend_101 : decode cX1_bend 101 = .ok (.ireturn, 1) := by decide +kernel
set_option maxRecDepth 20000 in
theorem ggX1_reach_X1_isProfile : GoodIn wsX1_reach wsX1_isProfile := goodIn_r _ [7, 8, 9, 10, 6, 11, 31, 32, 33, 34, 35, 36, 37, 38, 39, 40, 41, 42, 43, 44, 45, 46] (by decide +kernel) (by decide +kernel)
set_option maxRecDepth 20000 in
theorem gX1_reach_X1_isProfile : GoodIn wsX1_reach (wsV RX1 86 RX1 yX1_isProfile wsX1_isProfile) := goodIn_app (goodIn_of _ (by decide +kernel)) ggX1_reach_X1_isProfile
set_option maxRecDepth 20000 in
theorem ggX1_reach_X1_isThird : GoodIn wsX1_reach wsX1_isThird := goodIn_r _ [14, 9, 10, 6, 11] (by decide +kernel) (by decide +kernel)
set_option maxRecDepth 20000 in
theorem gX1_reach_X1_isThird : GoodIn wsX1_reach (va_wsS RX1 90 yX1_isThird wsX1_isThird) := goodIn_app (goodIn_of _ (by decide +kernel)) ggX1_reach_X1_isThird
set_option maxRecDepth 20000 in
theorem ggX1_reach_X1_isByte : GoodIn wsX1_reach wsX1_isByte := goodIn_r _ [17, 9, 10, 6, 11] (by decide +kernel) (by decide +kernel)
set_option maxRecDepth 20000 in
theorem gX1_reach_X1_isByte : GoodIn wsX1_reach (va_wsS RX1 93 yX1_isByte wsX1_isByte) := goodIn_app (goodIn_of _ (by decide +kernel)) ggX1_reach_X1_isByte
set_option maxRecDepth 20000 in
theorem ggX1_reach_X1_isIn : GoodIn wsX1_reach wsX1_isIn := goodIn_r _ [11] (by decide +kernel) (by decide +kernel)
set_option maxRecDepth 20000 in
theorem gX1_reach_X1_isIn : GoodIn wsX1_reach (va_wsS RX1 54 yX1_isIn wsX1_isIn) := goodIn_app (goodIn_of _ (by decide +kernel)) ggX1_reach_X1_isIn
set_option maxRecDepth 20000 in
theorem ggX1_reach_X1_isHeld : GoodIn wsX1_reach wsX1_isHeld := goodIn_r _ [21, 22, 23, 24, 25, 31, 32, 33, 34, 35, 36, 37, 38, 39, 40, 41, 42, 43, 44, 45, 46] (by decide +kernel) (by decide +kernel)
set_option maxRecDepth 20000 in
theorem gX1_reach_X1_isHeld : GoodIn wsX1_reach (wsV RX1 96 RX1 yX1_isHeld wsX1_isHeld) := goodIn_app (goodIn_of _ (by decide +kernel)) ggX1_reach_X1_isHeld
set_option maxRecDepth 20000 in
theorem ggX1_reach_X1_mayAll : GoodIn wsX1_reach wsX1_mayAll := goodIn_r _ [29, 30, 31, 32, 33, 34, 35, 36, 37, 38, 39, 40, 41, 42, 43, 44, 45, 46] (by decide +kernel) (by decide +kernel)
set_option maxRecDepth 20000 in
theorem gX1_reach_X1_mayAll : GoodIn wsX1_reach (wsV RX1 99 RX1 yX1_mayAll wsX1_mayAll) := goodIn_app (goodIn_of _ (by decide +kernel)) ggX1_reach_X1_mayAll
theorem dX1_reach_0 : decode cX1_reach 0 = .ok (.aload_n 0, 1) := by decide +kernel
theorem dX1_reach_1 : decode cX1_reach 1 = .ok (.iload_n 1, 1) := by decide +kernel
theorem dX1_reach_2 : decode cX1_reach 2 = .ok (.invokevirtual 86, 3) := by decide +kernel
theorem dX1_reach_5 : decode cX1_reach 5 = .ok (.ifCond .eq 14, 3) := by decide +kernel
theorem dX1_reach_8 : decode cX1_reach 8 = .ok (.iload_n 2, 1) := by decide +kernel
theorem dX1_reach_9 : decode cX1_reach 9 = .ok (.invokestatic 90, 3) := by decide +kernel
theorem dX1_reach_12 : decode cX1_reach 12 = .ok (.ifCond .eq 7, 3) := by decide +kernel
theorem dX1_reach_15 : decode cX1_reach 15 = .ok (.iconst 1, 1) := by decide +kernel
theorem dX1_reach_16 : decode cX1_reach 16 = .ok (.goto 4, 3) := by decide +kernel
theorem dX1_reach_19 : decode cX1_reach 19 = .ok (.iconst 0, 1) := by decide +kernel
theorem dX1_reach_20 : decode cX1_reach 20 = .ok (.istore 5, 2) := by decide +kernel
theorem dX1_reach_22 : decode cX1_reach 22 = .ok (.aload_n 0, 1) := by decide +kernel
theorem dX1_reach_23 : decode cX1_reach 23 = .ok (.iload 5, 2) := by decide +kernel
theorem dX1_reach_25 : decode cX1_reach 25 = .ok (.iload_n 3, 1) := by decide +kernel
theorem dX1_reach_26 : decode cX1_reach 26 = .ok (.invokestatic 93, 3) := by decide +kernel
theorem dX1_reach_29 : decode cX1_reach 29 = .ok (.ifCond .eq 19, 3) := by decide +kernel
theorem dX1_reach_32 : decode cX1_reach 32 = .ok (.iload 4, 2) := by decide +kernel
theorem dX1_reach_34 : decode cX1_reach 34 = .ok (.iload_n 3, 1) := by decide +kernel
theorem dX1_reach_35 : decode cX1_reach 35 = .ok (.sipush 255, 3) := by decide +kernel
theorem dX1_reach_38 : decode cX1_reach 38 = .ok (.invokestatic 54, 3) := by decide +kernel
theorem dX1_reach_41 : decode cX1_reach 41 = .ok (.ifCond .eq 7, 3) := by decide +kernel
theorem dX1_reach_44 : decode cX1_reach 44 = .ok (.iconst 1, 1) := by decide +kernel
theorem dX1_reach_45 : decode cX1_reach 45 = .ok (.goto 4, 3) := by decide +kernel
theorem dX1_reach_48 : decode cX1_reach 48 = .ok (.iconst 0, 1) := by decide +kernel
theorem dX1_reach_49 : decode cX1_reach 49 = .ok (.iload 5, 2) := by decide +kernel
theorem dX1_reach_51 : decode cX1_reach 51 = .ok (.ifCond .eq 15, 3) := by decide +kernel
theorem dX1_reach_54 : decode cX1_reach 54 = .ok (.aload_n 0, 1) := by decide +kernel
theorem dX1_reach_55 : decode cX1_reach 55 = .ok (.iload_n 1, 1) := by decide +kernel
theorem dX1_reach_56 : decode cX1_reach 56 = .ok (.invokevirtual 96, 3) := by decide +kernel
theorem dX1_reach_59 : decode cX1_reach 59 = .ok (.ifCond .ne 7, 3) := by decide +kernel
theorem dX1_reach_62 : decode cX1_reach 62 = .ok (.iconst 1, 1) := by decide +kernel
theorem dX1_reach_63 : decode cX1_reach 63 = .ok (.goto 4, 3) := by decide +kernel
theorem dX1_reach_66 : decode cX1_reach 66 = .ok (.iconst 0, 1) := by decide +kernel
theorem dX1_reach_67 : decode cX1_reach 67 = .ok (.invokevirtual 99, 3) := by decide +kernel
theorem dX1_reach_70 : decode cX1_reach 70 = .ok (.ifCond .ne 5, 3) := by decide +kernel
theorem dX1_reach_73 : decode cX1_reach 73 = .ok (.iconst 0, 1) := by decide +kernel
theorem dX1_reach_74 : decode cX1_reach 74 = .ok (.ireturn, 1) := by decide +kernel
theorem dX1_reach_75 : decode cX1_reach 75 = .ok (.aload_n 0, 1) := by decide +kernel
theorem dX1_reach_76 : decode cX1_reach 76 = .ok (.getfield 16, 3) := by decide +kernel
theorem dX1_reach_79 : decode cX1_reach 79 = .ok (.iconst 3, 1) := by decide +kernel
theorem dX1_reach_80 : decode cX1_reach 80 = .ok (.iload_n 1, 1) := by decide +kernel
theorem dX1_reach_81 : decode cX1_reach 81 = .ok (.imul, 1) := by decide +kernel
theorem dX1_reach_82 : decode cX1_reach 82 = .ok (.iload_n 2, 1) := by decide +kernel
theorem dX1_reach_83 : decode cX1_reach 83 = .ok (.iadd, 1) := by decide +kernel
theorem dX1_reach_84 : decode cX1_reach 84 = .ok (.iaload, 1) := by decide +kernel
theorem dX1_reach_85 : decode cX1_reach 85 = .ok (.aload_n 0, 1) := by decide +kernel
theorem dX1_reach_86 : decode cX1_reach 86 = .ok (.getfield 13, 3) := by decide +kernel
theorem dX1_reach_89 : decode cX1_reach 89 = .ok (.iconst 3, 1) := by decide +kernel
theorem dX1_reach_90 : decode cX1_reach 90 = .ok (.iload_n 1, 1) := by decide +kernel
theorem dX1_reach_91 : decode cX1_reach 91 = .ok (.imul, 1) := by decide +kernel
theorem dX1_reach_92 : decode cX1_reach 92 = .ok (.iload_n 2, 1) := by decide +kernel
theorem dX1_reach_93 : decode cX1_reach 93 = .ok (.iadd, 1) := by decide +kernel
theorem dX1_reach_94 : decode cX1_reach 94 = .ok (.iaload, 1) := by decide +kernel
theorem dX1_reach_95 : decode cX1_reach 95 = .ok (.isub, 1) := by decide +kernel
theorem dX1_reach_96 : decode cX1_reach 96 = .ok (.iconst 1, 1) := by decide +kernel
theorem dX1_reach_97 : decode cX1_reach 97 = .ok (.iadd, 1) := by decide +kernel
theorem dX1_reach_98 : decode cX1_reach 98 = .ok (.istore 6, 2) := by decide +kernel
theorem dX1_reach_100 : decode cX1_reach 100 = .ok (.aload_n 0, 1) := by decide +kernel
theorem dX1_reach_101 : decode cX1_reach 101 = .ok (.getfield 13, 3) := by decide +kernel
theorem dX1_reach_104 : decode cX1_reach 104 = .ok (.iconst 3, 1) := by decide +kernel
theorem dX1_reach_105 : decode cX1_reach 105 = .ok (.iload_n 1, 1) := by decide +kernel
theorem dX1_reach_106 : decode cX1_reach 106 = .ok (.imul, 1) := by decide +kernel
theorem dX1_reach_107 : decode cX1_reach 107 = .ok (.iload_n 2, 1) := by decide +kernel
theorem dX1_reach_108 : decode cX1_reach 108 = .ok (.iadd, 1) := by decide +kernel
theorem dX1_reach_109 : decode cX1_reach 109 = .ok (.iload_n 3, 1) := by decide +kernel
theorem dX1_reach_110 : decode cX1_reach 110 = .ok (.iastore, 1) := by decide +kernel
theorem dX1_reach_111 : decode cX1_reach 111 = .ok (.aload_n 0, 1) := by decide +kernel
theorem dX1_reach_112 : decode cX1_reach 112 = .ok (.getfield 16, 3) := by decide +kernel
theorem dX1_reach_115 : decode cX1_reach 115 = .ok (.iconst 3, 1) := by decide +kernel
theorem dX1_reach_116 : decode cX1_reach 116 = .ok (.iload_n 1, 1) := by decide +kernel
theorem dX1_reach_117 : decode cX1_reach 117 = .ok (.imul, 1) := by decide +kernel
theorem dX1_reach_118 : decode cX1_reach 118 = .ok (.iload_n 2, 1) := by decide +kernel
theorem dX1_reach_119 : decode cX1_reach 119 = .ok (.iadd, 1) := by decide +kernel
theorem dX1_reach_120 : decode cX1_reach 120 = .ok (.iload 4, 2) := by decide +kernel
theorem dX1_reach_122 : decode cX1_reach 122 = .ok (.iastore, 1) := by decide +kernel
theorem dX1_reach_123 : decode cX1_reach 123 = .ok (.iload 6, 2) := by decide +kernel
theorem dX1_reach_125 : decode cX1_reach 125 = .ok (.ireturn, 1) := by decide +kernel
set_option maxRecDepth 20000 in
theorem ggX1_way_X1_isProfile : GoodIn wsX1_way wsX1_isProfile := goodIn_r _ [6, 7, 8, 9, 5, 10, 24, 25, 26, 27, 28, 29, 30, 31, 32, 33, 34, 35, 36, 37, 38, 39] (by decide +kernel) (by decide +kernel)
set_option maxRecDepth 20000 in
theorem gX1_way_X1_isProfile : GoodIn wsX1_way (wsV RX1 86 RX1 yX1_isProfile wsX1_isProfile) := goodIn_app (goodIn_of _ (by decide +kernel)) ggX1_way_X1_isProfile
set_option maxRecDepth 20000 in
theorem ggX1_way_X1_isIn : GoodIn wsX1_way wsX1_isIn := goodIn_r _ [10] (by decide +kernel) (by decide +kernel)
set_option maxRecDepth 20000 in
theorem gX1_way_X1_isIn : GoodIn wsX1_way (va_wsS RX1 54 yX1_isIn wsX1_isIn) := goodIn_app (goodIn_of _ (by decide +kernel)) ggX1_way_X1_isIn
set_option maxRecDepth 20000 in
theorem ggX1_way_X1_isHeld : GoodIn wsX1_way wsX1_isHeld := goodIn_r _ [14, 15, 16, 17, 18, 24, 25, 26, 27, 28, 29, 30, 31, 32, 33, 34, 35, 36, 37, 38, 39] (by decide +kernel) (by decide +kernel)
set_option maxRecDepth 20000 in
theorem gX1_way_X1_isHeld : GoodIn wsX1_way (wsV RX1 96 RX1 yX1_isHeld wsX1_isHeld) := goodIn_app (goodIn_of _ (by decide +kernel)) ggX1_way_X1_isHeld
set_option maxRecDepth 20000 in
theorem ggX1_way_X1_mayAll : GoodIn wsX1_way wsX1_mayAll := goodIn_r _ [22, 23, 24, 25, 26, 27, 28, 29, 30, 31, 32, 33, 34, 35, 36, 37, 38, 39] (by decide +kernel) (by decide +kernel)
set_option maxRecDepth 20000 in
theorem gX1_way_X1_mayAll : GoodIn wsX1_way (wsV RX1 99 RX1 yX1_mayAll wsX1_mayAll) := goodIn_app (goodIn_of _ (by decide +kernel)) ggX1_way_X1_mayAll
theorem dX1_way_0 : decode cX1_way 0 = .ok (.aload_n 0, 1) := by decide +kernel
theorem dX1_way_1 : decode cX1_way 1 = .ok (.iload_n 1, 1) := by decide +kernel
theorem dX1_way_2 : decode cX1_way 2 = .ok (.invokevirtual 86, 3) := by decide +kernel
theorem dX1_way_5 : decode cX1_way 5 = .ok (.istore_n 3, 1) := by decide +kernel
theorem dX1_way_6 : decode cX1_way 6 = .ok (.aload_n 0, 1) := by decide +kernel
theorem dX1_way_7 : decode cX1_way 7 = .ok (.iload_n 3, 1) := by decide +kernel
theorem dX1_way_8 : decode cX1_way 8 = .ok (.iload_n 2, 1) := by decide +kernel
theorem dX1_way_9 : decode cX1_way 9 = .ok (.iconst 0, 1) := by decide +kernel
theorem dX1_way_10 : decode cX1_way 10 = .ok (.iconst 2, 1) := by decide +kernel
theorem dX1_way_11 : decode cX1_way 11 = .ok (.invokestatic 54, 3) := by decide +kernel
theorem dX1_way_14 : decode cX1_way 14 = .ok (.iload_n 3, 1) := by decide +kernel
theorem dX1_way_15 : decode cX1_way 15 = .ok (.ifCond .eq 15, 3) := by decide +kernel
theorem dX1_way_18 : decode cX1_way 18 = .ok (.aload_n 0, 1) := by decide +kernel
theorem dX1_way_19 : decode cX1_way 19 = .ok (.iload_n 1, 1) := by decide +kernel
theorem dX1_way_20 : decode cX1_way 20 = .ok (.invokevirtual 96, 3) := by decide +kernel
theorem dX1_way_23 : decode cX1_way 23 = .ok (.ifCond .ne 7, 3) := by decide +kernel
theorem dX1_way_26 : decode cX1_way 26 = .ok (.iconst 1, 1) := by decide +kernel
theorem dX1_way_27 : decode cX1_way 27 = .ok (.goto 4, 3) := by decide +kernel
theorem dX1_way_30 : decode cX1_way 30 = .ok (.iconst 0, 1) := by decide +kernel
theorem dX1_way_31 : decode cX1_way 31 = .ok (.invokevirtual 99, 3) := by decide +kernel
theorem dX1_way_34 : decode cX1_way 34 = .ok (.ifCond .ne 5, 3) := by decide +kernel
theorem dX1_way_37 : decode cX1_way 37 = .ok (.iconst 0, 1) := by decide +kernel
theorem dX1_way_38 : decode cX1_way 38 = .ok (.ireturn, 1) := by decide +kernel
theorem dX1_way_39 : decode cX1_way 39 = .ok (.aload_n 0, 1) := by decide +kernel
theorem dX1_way_40 : decode cX1_way 40 = .ok (.getfield 19, 3) := by decide +kernel
theorem dX1_way_43 : decode cX1_way 43 = .ok (.iload_n 1, 1) := by decide +kernel
theorem dX1_way_44 : decode cX1_way 44 = .ok (.iaload, 1) := by decide +kernel
theorem dX1_way_45 : decode cX1_way 45 = .ok (.istore 4, 2) := by decide +kernel
theorem dX1_way_47 : decode cX1_way 47 = .ok (.aload_n 0, 1) := by decide +kernel
theorem dX1_way_48 : decode cX1_way 48 = .ok (.getfield 19, 3) := by decide +kernel
theorem dX1_way_51 : decode cX1_way 51 = .ok (.iload_n 1, 1) := by decide +kernel
theorem dX1_way_52 : decode cX1_way 52 = .ok (.iload_n 2, 1) := by decide +kernel
theorem dX1_way_53 : decode cX1_way 53 = .ok (.iastore, 1) := by decide +kernel
theorem dX1_way_54 : decode cX1_way 54 = .ok (.iload 4, 2) := by decide +kernel
theorem dX1_way_56 : decode cX1_way 56 = .ok (.ireturn, 1) := by decide +kernel
set_option maxRecDepth 20000 in
theorem ggX1_curve_X1_isProfile : GoodIn wsX1_curve wsX1_isProfile := goodIn_r _ [5, 6, 7, 8, 4, 9, 37, 38, 39, 40, 41, 42, 43, 44, 45, 46, 47, 48, 49, 50, 51, 52] (by decide +kernel) (by decide +kernel)
set_option maxRecDepth 20000 in
theorem gX1_curve_X1_isProfile : GoodIn wsX1_curve (wsV RX1 86 RX1 yX1_isProfile wsX1_isProfile) := goodIn_app (goodIn_of _ (by decide +kernel)) ggX1_curve_X1_isProfile
set_option maxRecDepth 20000 in
theorem ggX1_curve_X1_isThird : GoodIn wsX1_curve wsX1_isThird := goodIn_r _ [12, 7, 8, 4, 9] (by decide +kernel) (by decide +kernel)
set_option maxRecDepth 20000 in
theorem gX1_curve_X1_isThird : GoodIn wsX1_curve (va_wsS RX1 90 yX1_isThird wsX1_isThird) := goodIn_app (goodIn_of _ (by decide +kernel)) ggX1_curve_X1_isThird
set_option maxRecDepth 20000 in
theorem ggX1_curve_X1_isByte : GoodIn wsX1_curve wsX1_isByte := goodIn_r _ [15, 7, 8, 4, 9] (by decide +kernel) (by decide +kernel)
set_option maxRecDepth 20000 in
theorem gX1_curve_X1_isByte : GoodIn wsX1_curve (va_wsS RX1 93 yX1_isByte wsX1_isByte) := goodIn_app (goodIn_of _ (by decide +kernel)) ggX1_curve_X1_isByte
set_option maxRecDepth 20000 in
theorem ggX1_curve_X1_mayBoth : GoodIn wsX1_curve wsX1_mayBoth := goodIn_r _ [19, 20, 37, 38, 39, 40, 41, 42, 43, 44, 45, 46, 47, 48, 49, 50, 51, 52] (by decide +kernel) (by decide +kernel)
set_option maxRecDepth 20000 in
theorem gX1_curve_X1_mayBoth : GoodIn wsX1_curve (wsV RX1 103 RX1 yX1_mayBoth wsX1_mayBoth) := goodIn_app (goodIn_of _ (by decide +kernel)) ggX1_curve_X1_mayBoth
set_option maxRecDepth 20000 in
theorem ggX1_curve_X1_curveOf : GoodIn wsX1_curve wsX1_curveOf := goodIn_r _ [24, 25, 26, 27, 28, 29, 4, 30, 31, 32, 33, 34, 35, 36, 37, 38, 39, 40, 41, 42, 43, 44, 45, 46, 47, 48, 49, 50, 51, 52] (by decide +kernel) (by decide +kernel)
set_option maxRecDepth 20000 in
theorem gX1_curve_X1_curveOf : GoodIn wsX1_curve (wsV RX1 75 RX1 yX1_curveOf wsX1_curveOf) := goodIn_app (goodIn_of _ (by decide +kernel)) ggX1_curve_X1_curveOf
theorem dX1_curve_0 : decode cX1_curve 0 = .ok (.aload_n 0, 1) := by decide +kernel
theorem dX1_curve_1 : decode cX1_curve 1 = .ok (.aload_n 0, 1) := by decide +kernel
theorem dX1_curve_2 : decode cX1_curve 2 = .ok (.iload_n 1, 1) := by decide +kernel
theorem dX1_curve_3 : decode cX1_curve 3 = .ok (.invokevirtual 86, 3) := by decide +kernel
theorem dX1_curve_6 : decode cX1_curve 6 = .ok (.ifCond .eq 14, 3) := by decide +kernel
theorem dX1_curve_9 : decode cX1_curve 9 = .ok (.iload_n 2, 1) := by decide +kernel
theorem dX1_curve_10 : decode cX1_curve 10 = .ok (.invokestatic 90, 3) := by decide +kernel
theorem dX1_curve_13 : decode cX1_curve 13 = .ok (.ifCond .eq 7, 3) := by decide +kernel
theorem dX1_curve_16 : decode cX1_curve 16 = .ok (.iconst 1, 1) := by decide +kernel
theorem dX1_curve_17 : decode cX1_curve 17 = .ok (.goto 4, 3) := by decide +kernel
theorem dX1_curve_20 : decode cX1_curve 20 = .ok (.iconst 0, 1) := by decide +kernel
theorem dX1_curve_21 : decode cX1_curve 21 = .ok (.iload_n 3, 1) := by decide +kernel
theorem dX1_curve_22 : decode cX1_curve 22 = .ok (.invokestatic 93, 3) := by decide +kernel
theorem dX1_curve_25 : decode cX1_curve 25 = .ok (.invokevirtual 103, 3) := by decide +kernel
theorem dX1_curve_28 : decode cX1_curve 28 = .ok (.ifCond .eq 13, 3) := by decide +kernel
theorem dX1_curve_31 : decode cX1_curve 31 = .ok (.aload_n 0, 1) := by decide +kernel
theorem dX1_curve_32 : decode cX1_curve 32 = .ok (.iload_n 1, 1) := by decide +kernel
theorem dX1_curve_33 : decode cX1_curve 33 = .ok (.iload_n 2, 1) := by decide +kernel
theorem dX1_curve_34 : decode cX1_curve 34 = .ok (.iload_n 3, 1) := by decide +kernel
theorem dX1_curve_35 : decode cX1_curve 35 = .ok (.invokevirtual 75, 3) := by decide +kernel
theorem dX1_curve_38 : decode cX1_curve 38 = .ok (.goto 4, 3) := by decide +kernel
theorem dX1_curve_41 : decode cX1_curve 41 = .ok (.iconst 0, 1) := by decide +kernel
theorem dX1_curve_42 : decode cX1_curve 42 = .ok (.ireturn, 1) := by decide +kernel
set_option maxRecDepth 20000 in
theorem ggX1_taken_X1_isProfile : GoodIn wsX1_taken wsX1_isProfile := goodIn_r _ [5, 6, 7, 8, 4, 9, 44, 45, 46, 47, 48, 49, 50, 51, 52, 53, 54, 55, 56, 57, 58, 59] (by decide +kernel) (by decide +kernel)
set_option maxRecDepth 20000 in
theorem gX1_taken_X1_isProfile : GoodIn wsX1_taken (wsV RX1 86 RX1 yX1_isProfile wsX1_isProfile) := goodIn_app (goodIn_of _ (by decide +kernel)) ggX1_taken_X1_isProfile
set_option maxRecDepth 20000 in
theorem ggX1_taken_X1_isThird : GoodIn wsX1_taken wsX1_isThird := goodIn_r _ [12, 7, 8, 4, 9] (by decide +kernel) (by decide +kernel)
set_option maxRecDepth 20000 in
theorem gX1_taken_X1_isThird : GoodIn wsX1_taken (va_wsS RX1 90 yX1_isThird wsX1_isThird) := goodIn_app (goodIn_of _ (by decide +kernel)) ggX1_taken_X1_isThird
set_option maxRecDepth 20000 in
theorem ggX1_taken_X1_isByte : GoodIn wsX1_taken wsX1_isByte := goodIn_r _ [15, 7, 8, 4, 9] (by decide +kernel) (by decide +kernel)
set_option maxRecDepth 20000 in
theorem gX1_taken_X1_isByte : GoodIn wsX1_taken (va_wsS RX1 93 yX1_isByte wsX1_isByte) := goodIn_app (goodIn_of _ (by decide +kernel)) ggX1_taken_X1_isByte
set_option maxRecDepth 20000 in
theorem ggX1_taken_X1_mayBoth : GoodIn wsX1_taken wsX1_mayBoth := goodIn_r _ [19, 20, 44, 45, 46, 47, 48, 49, 50, 51, 52, 53, 54, 55, 56, 57, 58, 59] (by decide +kernel) (by decide +kernel)
set_option maxRecDepth 20000 in
theorem gX1_taken_X1_mayBoth : GoodIn wsX1_taken (wsV RX1 103 RX1 yX1_mayBoth wsX1_mayBoth) := goodIn_app (goodIn_of _ (by decide +kernel)) ggX1_taken_X1_mayBoth
set_option maxRecDepth 20000 in
theorem ggX1_taken_X1_takenBy : GoodIn wsX1_taken wsX1_takenBy := goodIn_r _ [24, 25, 26, 27, 28, 29, 30, 4, 31, 32, 33, 34, 35, 36, 37, 38, 39, 40, 41, 42, 43, 44, 45, 46, 47, 48, 49, 50, 51, 52, 53, 54, 55, 56, 57, 58, 59] (by decide +kernel) (by decide +kernel)
set_option maxRecDepth 20000 in
theorem gX1_taken_X1_takenBy : GoodIn wsX1_taken (wsV RX1 79 RX1 yX1_takenBy wsX1_takenBy) := goodIn_app (goodIn_of _ (by decide +kernel)) ggX1_taken_X1_takenBy
theorem dX1_taken_0 : decode cX1_taken 0 = .ok (.aload_n 0, 1) := by decide +kernel
theorem dX1_taken_1 : decode cX1_taken 1 = .ok (.aload_n 0, 1) := by decide +kernel
theorem dX1_taken_2 : decode cX1_taken 2 = .ok (.iload_n 1, 1) := by decide +kernel
theorem dX1_taken_3 : decode cX1_taken 3 = .ok (.invokevirtual 86, 3) := by decide +kernel
theorem dX1_taken_6 : decode cX1_taken 6 = .ok (.ifCond .eq 14, 3) := by decide +kernel
theorem dX1_taken_9 : decode cX1_taken 9 = .ok (.iload_n 2, 1) := by decide +kernel
theorem dX1_taken_10 : decode cX1_taken 10 = .ok (.invokestatic 90, 3) := by decide +kernel
theorem dX1_taken_13 : decode cX1_taken 13 = .ok (.ifCond .eq 7, 3) := by decide +kernel
theorem dX1_taken_16 : decode cX1_taken 16 = .ok (.iconst 1, 1) := by decide +kernel
theorem dX1_taken_17 : decode cX1_taken 17 = .ok (.goto 4, 3) := by decide +kernel
theorem dX1_taken_20 : decode cX1_taken 20 = .ok (.iconst 0, 1) := by decide +kernel
theorem dX1_taken_21 : decode cX1_taken 21 = .ok (.iload_n 3, 1) := by decide +kernel
theorem dX1_taken_22 : decode cX1_taken 22 = .ok (.invokestatic 93, 3) := by decide +kernel
theorem dX1_taken_25 : decode cX1_taken 25 = .ok (.invokevirtual 103, 3) := by decide +kernel
theorem dX1_taken_28 : decode cX1_taken 28 = .ok (.ifCond .eq 13, 3) := by decide +kernel
theorem dX1_taken_31 : decode cX1_taken 31 = .ok (.aload_n 0, 1) := by decide +kernel
theorem dX1_taken_32 : decode cX1_taken 32 = .ok (.iload_n 1, 1) := by decide +kernel
theorem dX1_taken_33 : decode cX1_taken 33 = .ok (.iload_n 2, 1) := by decide +kernel
theorem dX1_taken_34 : decode cX1_taken 34 = .ok (.iload_n 3, 1) := by decide +kernel
theorem dX1_taken_35 : decode cX1_taken 35 = .ok (.invokevirtual 79, 3) := by decide +kernel
theorem dX1_taken_38 : decode cX1_taken 38 = .ok (.goto 4, 3) := by decide +kernel
theorem dX1_taken_41 : decode cX1_taken 41 = .ok (.iconst 0, 1) := by decide +kernel
theorem dX1_taken_42 : decode cX1_taken 42 = .ok (.ireturn, 1) := by decide +kernel
set_option maxRecDepth 20000 in
theorem ggX1_chain_X1_may : GoodIn wsX1_chain wsX1_may := goodIn_r _ [6, 7, 8, 9, 10, 11, 12, 13, 14, 15, 16, 17, 18, 19, 20, 21, 22, 23] (by decide +kernel) (by decide +kernel)
set_option maxRecDepth 20000 in
theorem gX1_chain_X1_may : GoodIn wsX1_chain (wsV RX1 82 RX1 yX1_may wsX1_may) := goodIn_app (goodIn_of _ (by decide +kernel)) ggX1_chain_X1_may
theorem dX1_chain_0 : decode cX1_chain 0 = .ok (.aload_n 0, 1) := by decide +kernel
theorem dX1_chain_1 : decode cX1_chain 1 = .ok (.aload_n 0, 1) := by decide +kernel
theorem dX1_chain_2 : decode cX1_chain 2 = .ok (.getfield 61, 3) := by decide +kernel
theorem dX1_chain_5 : decode cX1_chain 5 = .ok (.bipush 6, 2) := by decide +kernel
theorem dX1_chain_7 : decode cX1_chain 7 = .ok (.if_icmp .ge 7, 3) := by decide +kernel
theorem dX1_chain_10 : decode cX1_chain 10 = .ok (.iconst 1, 1) := by decide +kernel
theorem dX1_chain_11 : decode cX1_chain 11 = .ok (.goto 4, 3) := by decide +kernel
theorem dX1_chain_14 : decode cX1_chain 14 = .ok (.iconst 0, 1) := by decide +kernel
theorem dX1_chain_15 : decode cX1_chain 15 = .ok (.invokevirtual 82, 3) := by decide +kernel
theorem dX1_chain_18 : decode cX1_chain 18 = .ok (.ifCond .ne 5, 3) := by decide +kernel
theorem dX1_chain_21 : decode cX1_chain 21 = .ok (.iconst 0, 1) := by decide +kernel
theorem dX1_chain_22 : decode cX1_chain 22 = .ok (.ireturn, 1) := by decide +kernel
theorem dX1_chain_23 : decode cX1_chain 23 = .ok (.aload_n 0, 1) := by decide +kernel
theorem dX1_chain_24 : decode cX1_chain 24 = .ok (.dup, 1) := by decide +kernel
theorem dX1_chain_25 : decode cX1_chain 25 = .ok (.getfield 61, 3) := by decide +kernel
theorem dX1_chain_28 : decode cX1_chain 28 = .ok (.iconst 1, 1) := by decide +kernel
theorem dX1_chain_29 : decode cX1_chain 29 = .ok (.iadd, 1) := by decide +kernel
theorem dX1_chain_30 : decode cX1_chain 30 = .ok (.putfield 61, 3) := by decide +kernel
theorem dX1_chain_33 : decode cX1_chain 33 = .ok (.aload_n 0, 1) := by decide +kernel
theorem dX1_chain_34 : decode cX1_chain 34 = .ok (.getfield 61, 3) := by decide +kernel
theorem dX1_chain_37 : decode cX1_chain 37 = .ok (.iconst 1, 1) := by decide +kernel
theorem dX1_chain_38 : decode cX1_chain 38 = .ok (.isub, 1) := by decide +kernel
theorem dX1_chain_39 : decode cX1_chain 39 = .ok (.ireturn, 1) := by decide +kernel
set_option maxRecDepth 20000 in
theorem ggX1_add_X1_isChain : GoodIn wsX1_add wsX1_isChain := goodIn_r _ [8, 9, 10, 11, 7, 12, 23, 24, 25, 26, 27, 28, 29, 30, 31, 32, 33, 34, 35, 36, 37, 38] (by decide +kernel) (by decide +kernel)
set_option maxRecDepth 20000 in
theorem gX1_add_X1_isChain : GoodIn wsX1_add (wsV RX1 107 RX1 yX1_isChain wsX1_isChain) := goodIn_app (goodIn_of _ (by decide +kernel)) ggX1_add_X1_isChain
set_option maxRecDepth 20000 in
theorem ggX1_add_X1_isProfile : GoodIn wsX1_add wsX1_isProfile := goodIn_r _ [16, 17, 10, 11, 7, 12, 23, 24, 25, 26, 27, 28, 29, 30, 31, 32, 33, 34, 35, 36, 37, 38] (by decide +kernel) (by decide +kernel)
set_option maxRecDepth 20000 in
theorem gX1_add_X1_isProfile : GoodIn wsX1_add (wsV RX1 86 RX1 yX1_isProfile wsX1_isProfile) := goodIn_app (goodIn_of _ (by decide +kernel)) ggX1_add_X1_isProfile
set_option maxRecDepth 20000 in
theorem ggX1_add_X1_mayBoth : GoodIn wsX1_add wsX1_mayBoth := goodIn_r _ [21, 22, 23, 24, 25, 26, 27, 28, 29, 30, 31, 32, 33, 34, 35, 36, 37, 38] (by decide +kernel) (by decide +kernel)
set_option maxRecDepth 20000 in
theorem gX1_add_X1_mayBoth : GoodIn wsX1_add (wsV RX1 103 RX1 yX1_mayBoth wsX1_mayBoth) := goodIn_app (goodIn_of _ (by decide +kernel)) ggX1_add_X1_mayBoth
theorem dX1_add_0 : decode cX1_add 0 = .ok (.aload_n 0, 1) := by decide +kernel
theorem dX1_add_1 : decode cX1_add 1 = .ok (.iload_n 1, 1) := by decide +kernel
theorem dX1_add_2 : decode cX1_add 2 = .ok (.invokevirtual 107, 3) := by decide +kernel
theorem dX1_add_5 : decode cX1_add 5 = .ok (.ifCond .eq 15, 3) := by decide +kernel
theorem dX1_add_8 : decode cX1_add 8 = .ok (.aload_n 0, 1) := by decide +kernel
theorem dX1_add_9 : decode cX1_add 9 = .ok (.iload_n 2, 1) := by decide +kernel
theorem dX1_add_10 : decode cX1_add 10 = .ok (.invokevirtual 86, 3) := by decide +kernel
theorem dX1_add_13 : decode cX1_add 13 = .ok (.ifCond .eq 7, 3) := by decide +kernel
theorem dX1_add_16 : decode cX1_add 16 = .ok (.iconst 1, 1) := by decide +kernel
theorem dX1_add_17 : decode cX1_add 17 = .ok (.goto 4, 3) := by decide +kernel
theorem dX1_add_20 : decode cX1_add 20 = .ok (.iconst 0, 1) := by decide +kernel
theorem dX1_add_21 : decode cX1_add 21 = .ok (.istore_n 3, 1) := by decide +kernel
theorem dX1_add_22 : decode cX1_add 22 = .ok (.aload_n 0, 1) := by decide +kernel
theorem dX1_add_23 : decode cX1_add 23 = .ok (.iload_n 3, 1) := by decide +kernel
theorem dX1_add_24 : decode cX1_add 24 = .ok (.iload_n 3, 1) := by decide +kernel
theorem dX1_add_25 : decode cX1_add 25 = .ok (.ifCond .eq 27, 3) := by decide +kernel
theorem dX1_add_28 : decode cX1_add 28 = .ok (.aload_n 0, 1) := by decide +kernel
theorem dX1_add_29 : decode cX1_add 29 = .ok (.getfield 32, 3) := by decide +kernel
theorem dX1_add_32 : decode cX1_add 32 = .ok (.iload_n 1, 1) := by decide +kernel
theorem dX1_add_33 : decode cX1_add 33 = .ok (.baload, 1) := by decide +kernel
theorem dX1_add_34 : decode cX1_add 34 = .ok (.ifCond .ne 18, 3) := by decide +kernel
theorem dX1_add_37 : decode cX1_add 37 = .ok (.aload_n 0, 1) := by decide +kernel
theorem dX1_add_38 : decode cX1_add 38 = .ok (.getfield 22, 3) := by decide +kernel
theorem dX1_add_41 : decode cX1_add 41 = .ok (.iload_n 1, 1) := by decide +kernel
theorem dX1_add_42 : decode cX1_add 42 = .ok (.iaload, 1) := by decide +kernel
theorem dX1_add_43 : decode cX1_add 43 = .ok (.bipush 6, 2) := by decide +kernel
theorem dX1_add_45 : decode cX1_add 45 = .ok (.if_icmp .ge 7, 3) := by decide +kernel
theorem dX1_add_48 : decode cX1_add 48 = .ok (.iconst 1, 1) := by decide +kernel
theorem dX1_add_49 : decode cX1_add 49 = .ok (.goto 4, 3) := by decide +kernel
theorem dX1_add_52 : decode cX1_add 52 = .ok (.iconst 0, 1) := by decide +kernel
theorem dX1_add_53 : decode cX1_add 53 = .ok (.invokevirtual 103, 3) := by decide +kernel
theorem dX1_add_56 : decode cX1_add 56 = .ok (.ifCond .ne 5, 3) := by decide +kernel
theorem dX1_add_59 : decode cX1_add 59 = .ok (.iconst 0, 1) := by decide +kernel
theorem dX1_add_60 : decode cX1_add 60 = .ok (.ireturn, 1) := by decide +kernel
theorem dX1_add_61 : decode cX1_add 61 = .ok (.aload_n 0, 1) := by decide +kernel
theorem dX1_add_62 : decode cX1_add 62 = .ok (.getfield 25, 3) := by decide +kernel
theorem dX1_add_65 : decode cX1_add 65 = .ok (.bipush 6, 2) := by decide +kernel
theorem dX1_add_67 : decode cX1_add 67 = .ok (.iload_n 1, 1) := by decide +kernel
theorem dX1_add_68 : decode cX1_add 68 = .ok (.imul, 1) := by decide +kernel
theorem dX1_add_69 : decode cX1_add 69 = .ok (.aload_n 0, 1) := by decide +kernel
theorem dX1_add_70 : decode cX1_add 70 = .ok (.getfield 22, 3) := by decide +kernel
theorem dX1_add_73 : decode cX1_add 73 = .ok (.iload_n 1, 1) := by decide +kernel
theorem dX1_add_74 : decode cX1_add 74 = .ok (.iaload, 1) := by decide +kernel
theorem dX1_add_75 : decode cX1_add 75 = .ok (.iadd, 1) := by decide +kernel
theorem dX1_add_76 : decode cX1_add 76 = .ok (.iload_n 2, 1) := by decide +kernel
theorem dX1_add_77 : decode cX1_add 77 = .ok (.iastore, 1) := by decide +kernel
theorem dX1_add_78 : decode cX1_add 78 = .ok (.aload_n 0, 1) := by decide +kernel
theorem dX1_add_79 : decode cX1_add 79 = .ok (.getfield 22, 3) := by decide +kernel
theorem dX1_add_82 : decode cX1_add 82 = .ok (.iload_n 1, 1) := by decide +kernel
theorem dX1_add_83 : decode cX1_add 83 = .ok (.dup2, 1) := by decide +kernel
theorem dX1_add_84 : decode cX1_add 84 = .ok (.iaload, 1) := by decide +kernel
theorem dX1_add_85 : decode cX1_add 85 = .ok (.iconst 1, 1) := by decide +kernel
theorem dX1_add_86 : decode cX1_add 86 = .ok (.iadd, 1) := by decide +kernel
theorem dX1_add_87 : decode cX1_add 87 = .ok (.iastore, 1) := by decide +kernel
theorem dX1_add_88 : decode cX1_add 88 = .ok (.aload_n 0, 1) := by decide +kernel
theorem dX1_add_89 : decode cX1_add 89 = .ok (.getfield 22, 3) := by decide +kernel
theorem dX1_add_92 : decode cX1_add 92 = .ok (.iload_n 1, 1) := by decide +kernel
theorem dX1_add_93 : decode cX1_add 93 = .ok (.iaload, 1) := by decide +kernel
theorem dX1_add_94 : decode cX1_add 94 = .ok (.ireturn, 1) := by decide +kernel
set_option maxRecDepth 20000 in
theorem ggX1_drop_X1_isChain : GoodIn wsX1_drop wsX1_isChain := goodIn_r _ [8, 9, 10, 11, 7, 12, 18, 19, 20, 21, 22, 23, 24, 25, 26, 27, 28, 29, 30, 31, 32, 33] (by decide +kernel) (by decide +kernel)
set_option maxRecDepth 20000 in
theorem gX1_drop_X1_isChain : GoodIn wsX1_drop (wsV RX1 107 RX1 yX1_isChain wsX1_isChain) := goodIn_app (goodIn_of _ (by decide +kernel)) ggX1_drop_X1_isChain
set_option maxRecDepth 20000 in
theorem ggX1_drop_X1_mayBoth : GoodIn wsX1_drop wsX1_mayBoth := goodIn_r _ [16, 17, 18, 19, 20, 21, 22, 23, 24, 25, 26, 27, 28, 29, 30, 31, 32, 33] (by decide +kernel) (by decide +kernel)
set_option maxRecDepth 20000 in
theorem gX1_drop_X1_mayBoth : GoodIn wsX1_drop (wsV RX1 103 RX1 yX1_mayBoth wsX1_mayBoth) := goodIn_app (goodIn_of _ (by decide +kernel)) ggX1_drop_X1_mayBoth
theorem dX1_drop_0 : decode cX1_drop 0 = .ok (.aload_n 0, 1) := by decide +kernel
theorem dX1_drop_1 : decode cX1_drop 1 = .ok (.iload_n 1, 1) := by decide +kernel
theorem dX1_drop_2 : decode cX1_drop 2 = .ok (.invokevirtual 107, 3) := by decide +kernel
theorem dX1_drop_5 : decode cX1_drop 5 = .ok (.istore_n 2, 1) := by decide +kernel
theorem dX1_drop_6 : decode cX1_drop 6 = .ok (.aload_n 0, 1) := by decide +kernel
theorem dX1_drop_7 : decode cX1_drop 7 = .ok (.iload_n 2, 1) := by decide +kernel
theorem dX1_drop_8 : decode cX1_drop 8 = .ok (.iload_n 2, 1) := by decide +kernel
theorem dX1_drop_9 : decode cX1_drop 9 = .ok (.ifCond .eq 25, 3) := by decide +kernel
theorem dX1_drop_12 : decode cX1_drop 12 = .ok (.aload_n 0, 1) := by decide +kernel
theorem dX1_drop_13 : decode cX1_drop 13 = .ok (.getfield 32, 3) := by decide +kernel
theorem dX1_drop_16 : decode cX1_drop 16 = .ok (.iload_n 1, 1) := by decide +kernel
theorem dX1_drop_17 : decode cX1_drop 17 = .ok (.baload, 1) := by decide +kernel
theorem dX1_drop_18 : decode cX1_drop 18 = .ok (.ifCond .ne 16, 3) := by decide +kernel
theorem dX1_drop_21 : decode cX1_drop 21 = .ok (.aload_n 0, 1) := by decide +kernel
theorem dX1_drop_22 : decode cX1_drop 22 = .ok (.getfield 22, 3) := by decide +kernel
theorem dX1_drop_25 : decode cX1_drop 25 = .ok (.iload_n 1, 1) := by decide +kernel
theorem dX1_drop_26 : decode cX1_drop 26 = .ok (.iaload, 1) := by decide +kernel
theorem dX1_drop_27 : decode cX1_drop 27 = .ok (.ifCond .le 7, 3) := by decide +kernel
theorem dX1_drop_30 : decode cX1_drop 30 = .ok (.iconst 1, 1) := by decide +kernel
theorem dX1_drop_31 : decode cX1_drop 31 = .ok (.goto 4, 3) := by decide +kernel
theorem dX1_drop_34 : decode cX1_drop 34 = .ok (.iconst 0, 1) := by decide +kernel
theorem dX1_drop_35 : decode cX1_drop 35 = .ok (.invokevirtual 103, 3) := by decide +kernel
theorem dX1_drop_38 : decode cX1_drop 38 = .ok (.ifCond .ne 5, 3) := by decide +kernel
theorem dX1_drop_41 : decode cX1_drop 41 = .ok (.iconst 0, 1) := by decide +kernel
theorem dX1_drop_42 : decode cX1_drop 42 = .ok (.ireturn, 1) := by decide +kernel
theorem dX1_drop_43 : decode cX1_drop 43 = .ok (.aload_n 0, 1) := by decide +kernel
theorem dX1_drop_44 : decode cX1_drop 44 = .ok (.getfield 22, 3) := by decide +kernel
theorem dX1_drop_47 : decode cX1_drop 47 = .ok (.iload_n 1, 1) := by decide +kernel
theorem dX1_drop_48 : decode cX1_drop 48 = .ok (.dup2, 1) := by decide +kernel
theorem dX1_drop_49 : decode cX1_drop 49 = .ok (.iaload, 1) := by decide +kernel
theorem dX1_drop_50 : decode cX1_drop 50 = .ok (.iconst 1, 1) := by decide +kernel
theorem dX1_drop_51 : decode cX1_drop 51 = .ok (.isub, 1) := by decide +kernel
theorem dX1_drop_52 : decode cX1_drop 52 = .ok (.iastore, 1) := by decide +kernel
theorem dX1_drop_53 : decode cX1_drop 53 = .ok (.aload_n 0, 1) := by decide +kernel
theorem dX1_drop_54 : decode cX1_drop 54 = .ok (.getfield 25, 3) := by decide +kernel
theorem dX1_drop_57 : decode cX1_drop 57 = .ok (.bipush 6, 2) := by decide +kernel
theorem dX1_drop_59 : decode cX1_drop 59 = .ok (.iload_n 1, 1) := by decide +kernel
theorem dX1_drop_60 : decode cX1_drop 60 = .ok (.imul, 1) := by decide +kernel
theorem dX1_drop_61 : decode cX1_drop 61 = .ok (.aload_n 0, 1) := by decide +kernel
theorem dX1_drop_62 : decode cX1_drop 62 = .ok (.getfield 22, 3) := by decide +kernel
theorem dX1_drop_65 : decode cX1_drop 65 = .ok (.iload_n 1, 1) := by decide +kernel
theorem dX1_drop_66 : decode cX1_drop 66 = .ok (.iaload, 1) := by decide +kernel
theorem dX1_drop_67 : decode cX1_drop 67 = .ok (.iadd, 1) := by decide +kernel
theorem dX1_drop_68 : decode cX1_drop 68 = .ok (.iaload, 1) := by decide +kernel
theorem dX1_drop_69 : decode cX1_drop 69 = .ok (.ireturn, 1) := by decide +kernel
set_option maxRecDepth 20000 in
theorem ggX1_through_X1_isChain : GoodIn wsX1_through wsX1_isChain := goodIn_r _ [5, 6, 7, 8, 4, 9, 50, 51, 52, 53, 54, 55, 56, 57, 58, 59, 60, 61, 62, 63, 64, 65] (by decide +kernel) (by decide +kernel)
set_option maxRecDepth 20000 in
theorem gX1_through_X1_isChain : GoodIn wsX1_through (wsV RX1 107 RX1 yX1_isChain wsX1_isChain) := goodIn_app (goodIn_of _ (by decide +kernel)) ggX1_through_X1_isChain
set_option maxRecDepth 20000 in
theorem ggX1_through_X1_isThird : GoodIn wsX1_through wsX1_isThird := goodIn_r _ [12, 7, 8, 4, 9] (by decide +kernel) (by decide +kernel)
set_option maxRecDepth 20000 in
theorem gX1_through_X1_isThird : GoodIn wsX1_through (va_wsS RX1 90 yX1_isThird wsX1_isThird) := goodIn_app (goodIn_of _ (by decide +kernel)) ggX1_through_X1_isThird
set_option maxRecDepth 20000 in
theorem ggX1_through_X1_isByte : GoodIn wsX1_through wsX1_isByte := goodIn_r _ [15, 7, 8, 4, 9] (by decide +kernel) (by decide +kernel)
set_option maxRecDepth 20000 in
theorem gX1_through_X1_isByte : GoodIn wsX1_through (va_wsS RX1 93 yX1_isByte wsX1_isByte) := goodIn_app (goodIn_of _ (by decide +kernel)) ggX1_through_X1_isByte
set_option maxRecDepth 20000 in
theorem ggX1_through_X1_mayBoth : GoodIn wsX1_through wsX1_mayBoth := goodIn_r _ [19, 20, 50, 51, 52, 53, 54, 55, 56, 57, 58, 59, 60, 61, 62, 63, 64, 65] (by decide +kernel) (by decide +kernel)
set_option maxRecDepth 20000 in
theorem gX1_through_X1_mayBoth : GoodIn wsX1_through (wsV RX1 103 RX1 yX1_mayBoth wsX1_mayBoth) := goodIn_app (goodIn_of _ (by decide +kernel)) ggX1_through_X1_mayBoth
set_option maxRecDepth 20000 in
theorem ggX1_through_X1_throughOf : GoodIn wsX1_through wsX1_throughOf := goodIn_r _ [24, 25, 26, 27, 28, 29, 4, 30, 31, 32, 33, 34, 35, 36, 37, 38, 39, 40, 41, 42, 43, 44, 45, 46, 47, 48, 49, 50, 51, 52, 53, 54, 55, 56, 57, 58, 59, 60, 61, 62, 63, 64, 65] (by decide +kernel) (by decide +kernel)
set_option maxRecDepth 20000 in
theorem gX1_through_X1_throughOf : GoodIn wsX1_through (wsV RX1 110 RX1 yX1_throughOf wsX1_throughOf) := goodIn_app (goodIn_of _ (by decide +kernel)) ggX1_through_X1_throughOf
theorem dX1_through_0 : decode cX1_through 0 = .ok (.aload_n 0, 1) := by decide +kernel
theorem dX1_through_1 : decode cX1_through 1 = .ok (.aload_n 0, 1) := by decide +kernel
theorem dX1_through_2 : decode cX1_through 2 = .ok (.iload_n 1, 1) := by decide +kernel
theorem dX1_through_3 : decode cX1_through 3 = .ok (.invokevirtual 107, 3) := by decide +kernel
theorem dX1_through_6 : decode cX1_through 6 = .ok (.ifCond .eq 14, 3) := by decide +kernel
theorem dX1_through_9 : decode cX1_through 9 = .ok (.iload_n 2, 1) := by decide +kernel
theorem dX1_through_10 : decode cX1_through 10 = .ok (.invokestatic 90, 3) := by decide +kernel
theorem dX1_through_13 : decode cX1_through 13 = .ok (.ifCond .eq 7, 3) := by decide +kernel
theorem dX1_through_16 : decode cX1_through 16 = .ok (.iconst 1, 1) := by decide +kernel
theorem dX1_through_17 : decode cX1_through 17 = .ok (.goto 4, 3) := by decide +kernel
theorem dX1_through_20 : decode cX1_through 20 = .ok (.iconst 0, 1) := by decide +kernel
theorem dX1_through_21 : decode cX1_through 21 = .ok (.iload_n 3, 1) := by decide +kernel
theorem dX1_through_22 : decode cX1_through 22 = .ok (.invokestatic 93, 3) := by decide +kernel
theorem dX1_through_25 : decode cX1_through 25 = .ok (.invokevirtual 103, 3) := by decide +kernel
theorem dX1_through_28 : decode cX1_through 28 = .ok (.ifCond .eq 13, 3) := by decide +kernel
theorem dX1_through_31 : decode cX1_through 31 = .ok (.aload_n 0, 1) := by decide +kernel
theorem dX1_through_32 : decode cX1_through 32 = .ok (.iload_n 1, 1) := by decide +kernel
theorem dX1_through_33 : decode cX1_through 33 = .ok (.iload_n 2, 1) := by decide +kernel
theorem dX1_through_34 : decode cX1_through 34 = .ok (.iload_n 3, 1) := by decide +kernel
theorem dX1_through_35 : decode cX1_through 35 = .ok (.invokevirtual 110, 3) := by decide +kernel
theorem dX1_through_38 : decode cX1_through 38 = .ok (.goto 4, 3) := by decide +kernel
theorem dX1_through_41 : decode cX1_through 41 = .ok (.iconst 0, 1) := by decide +kernel
theorem dX1_through_42 : decode cX1_through 42 = .ok (.ireturn, 1) := by decide +kernel
theorem dX1_apart_0 : decode cX1_apart 0 = .ok (.iload_n 0, 1) := by decide +kernel
theorem dX1_apart_1 : decode cX1_apart 1 = .ok (.iload_n 1, 1) := by decide +kernel
theorem dX1_apart_2 : decode cX1_apart 2 = .ok (.if_icmp .le 9, 3) := by decide +kernel
theorem dX1_apart_5 : decode cX1_apart 5 = .ok (.iload_n 0, 1) := by decide +kernel
theorem dX1_apart_6 : decode cX1_apart 6 = .ok (.iload_n 1, 1) := by decide +kernel
theorem dX1_apart_7 : decode cX1_apart 7 = .ok (.isub, 1) := by decide +kernel
theorem dX1_apart_8 : decode cX1_apart 8 = .ok (.goto 6, 3) := by decide +kernel
theorem dX1_apart_11 : decode cX1_apart 11 = .ok (.iload_n 1, 1) := by decide +kernel
theorem dX1_apart_12 : decode cX1_apart 12 = .ok (.iload_n 0, 1) := by decide +kernel
theorem dX1_apart_13 : decode cX1_apart 13 = .ok (.isub, 1) := by decide +kernel
theorem dX1_apart_14 : decode cX1_apart 14 = .ok (.ireturn, 1) := by decide +kernel
set_option maxRecDepth 20000 in
theorem ggX1_gapOf_X1_throughOf : GoodIn wsX1_gapOf wsX1_throughOf := goodIn_r _ [5, 6, 7, 8, 9, 10, 4, 11, 12, 13, 14, 15, 16, 17, 18, 19, 20, 21, 22, 23, 24, 25, 26, 27, 28, 29, 30, 34, 35, 36, 37, 38, 39, 40, 41, 42, 43, 44, 45, 46, 47, 48, 49] (by decide +kernel) (by decide +kernel)
set_option maxRecDepth 20000 in
theorem gX1_gapOf_X1_throughOf : GoodIn wsX1_gapOf (wsV RX1 110 RX1 yX1_throughOf wsX1_throughOf) := goodIn_app (goodIn_of _ (by decide +kernel)) ggX1_gapOf_X1_throughOf
set_option maxRecDepth 20000 in
theorem ggX1_gapOf_X1_placeAt : GoodIn wsX1_gapOf wsX1_placeAt := goodIn_r _ [27] (by decide +kernel) (by decide +kernel)
set_option maxRecDepth 20000 in
theorem gX1_gapOf_X1_placeAt : GoodIn wsX1_gapOf (va_wsS RX1 64 yX1_placeAt wsX1_placeAt) := goodIn_app (goodIn_of _ (by decide +kernel)) ggX1_gapOf_X1_placeAt
set_option maxRecDepth 20000 in
theorem ggX1_gapOf_X1_quotient : GoodIn wsX1_gapOf wsX1_quotient := goodIn_r _ [30] (by decide +kernel) (by decide +kernel)
set_option maxRecDepth 20000 in
theorem gX1_gapOf_X1_quotient : GoodIn wsX1_gapOf (va_wsS RX1 68 yX1_quotient wsX1_quotient) := goodIn_app (goodIn_of _ (by decide +kernel)) ggX1_gapOf_X1_quotient
set_option maxRecDepth 20000 in
theorem ggX1_gapOf_X1_apart : GoodIn wsX1_gapOf wsX1_apart := goodIn_r _ [33] (by decide +kernel) (by decide +kernel)
set_option maxRecDepth 20000 in
theorem gX1_gapOf_X1_apart : GoodIn wsX1_gapOf (va_wsS RX1 113 yX1_apart wsX1_apart) := goodIn_app (goodIn_of _ (by decide +kernel)) ggX1_gapOf_X1_apart
theorem dX1_gapOf_0 : decode cX1_gapOf 0 = .ok (.iconst 0, 1) := by decide +kernel
theorem dX1_gapOf_1 : decode cX1_gapOf 1 = .ok (.istore_n 2, 1) := by decide +kernel
theorem dX1_gapOf_2 : decode cX1_gapOf 2 = .ok (.iconst 0, 1) := by decide +kernel
theorem dX1_gapOf_3 : decode cX1_gapOf 3 = .ok (.istore_n 3, 1) := by decide +kernel
theorem dX1_gapOf_4 : decode cX1_gapOf 4 = .ok (.iload_n 3, 1) := by decide +kernel
theorem dX1_gapOf_5 : decode cX1_gapOf 5 = .ok (.iconst 3, 1) := by decide +kernel
theorem dX1_gapOf_6 : decode cX1_gapOf 6 = .ok (.if_icmp .ge 168, 3) := by decide +kernel
theorem dX1_gapOf_9 : decode cX1_gapOf 9 = .ok (.iconst 0, 1) := by decide +kernel
theorem dX1_gapOf_10 : decode cX1_gapOf 10 = .ok (.istore 4, 2) := by decide +kernel
theorem dX1_gapOf_12 : decode cX1_gapOf 12 = .ok (.iload 4, 2) := by decide +kernel
theorem dX1_gapOf_14 : decode cX1_gapOf 14 = .ok (.sipush 256, 3) := by decide +kernel
theorem dX1_gapOf_17 : decode cX1_gapOf 17 = .ok (.if_icmp .ge 151, 3) := by decide +kernel
theorem dX1_gapOf_20 : decode cX1_gapOf 20 = .ok (.aload_n 0, 1) := by decide +kernel
theorem dX1_gapOf_21 : decode cX1_gapOf 21 = .ok (.iload_n 1, 1) := by decide +kernel
theorem dX1_gapOf_22 : decode cX1_gapOf 22 = .ok (.iload_n 3, 1) := by decide +kernel
theorem dX1_gapOf_23 : decode cX1_gapOf 23 = .ok (.iload 4, 2) := by decide +kernel
theorem dX1_gapOf_25 : decode cX1_gapOf 25 = .ok (.invokevirtual 110, 3) := by decide +kernel
theorem dX1_gapOf_28 : decode cX1_gapOf 28 = .ok (.istore 5, 2) := by decide +kernel
theorem dX1_gapOf_30 : decode cX1_gapOf 30 = .ok (.iload 4, 2) := by decide +kernel
theorem dX1_gapOf_32 : decode cX1_gapOf 32 = .ok (.sipush 255, 3) := by decide +kernel
theorem dX1_gapOf_35 : decode cX1_gapOf 35 = .ok (.if_icmp .ne 7, 3) := by decide +kernel
theorem dX1_gapOf_38 : decode cX1_gapOf 38 = .ok (.iconst 3, 1) := by decide +kernel
theorem dX1_gapOf_39 : decode cX1_gapOf 39 = .ok (.goto 8, 3) := by decide +kernel
theorem dX1_gapOf_42 : decode cX1_gapOf 42 = .ok (.iload 4, 2) := by decide +kernel
theorem dX1_gapOf_44 : decode cX1_gapOf 44 = .ok (.bipush 64, 2) := by decide +kernel
theorem dX1_gapOf_46 : decode cX1_gapOf 46 = .ok (.idiv, 1) := by decide +kernel
theorem dX1_gapOf_47 : decode cX1_gapOf 47 = .ok (.istore 6, 2) := by decide +kernel
theorem dX1_gapOf_49 : decode cX1_gapOf 49 = .ok (.aload_n 0, 1) := by decide +kernel
theorem dX1_gapOf_50 : decode cX1_gapOf 50 = .ok (.iload_n 1, 1) := by decide +kernel
theorem dX1_gapOf_51 : decode cX1_gapOf 51 = .ok (.iload_n 3, 1) := by decide +kernel
theorem dX1_gapOf_52 : decode cX1_gapOf 52 = .ok (.iload 6, 2) := by decide +kernel
theorem dX1_gapOf_54 : decode cX1_gapOf 54 = .ok (.invokestatic 64, 3) := by decide +kernel
theorem dX1_gapOf_57 : decode cX1_gapOf 57 = .ok (.invokevirtual 110, 3) := by decide +kernel
theorem dX1_gapOf_60 : decode cX1_gapOf 60 = .ok (.istore 7, 2) := by decide +kernel
theorem dX1_gapOf_62 : decode cX1_gapOf 62 = .ok (.aload_n 0, 1) := by decide +kernel
theorem dX1_gapOf_63 : decode cX1_gapOf 63 = .ok (.iload_n 1, 1) := by decide +kernel
theorem dX1_gapOf_64 : decode cX1_gapOf 64 = .ok (.iload_n 3, 1) := by decide +kernel
theorem dX1_gapOf_65 : decode cX1_gapOf 65 = .ok (.iload 6, 2) := by decide +kernel
theorem dX1_gapOf_67 : decode cX1_gapOf 67 = .ok (.iconst 1, 1) := by decide +kernel
theorem dX1_gapOf_68 : decode cX1_gapOf 68 = .ok (.iadd, 1) := by decide +kernel
theorem dX1_gapOf_69 : decode cX1_gapOf 69 = .ok (.invokestatic 64, 3) := by decide +kernel
theorem dX1_gapOf_72 : decode cX1_gapOf 72 = .ok (.invokevirtual 110, 3) := by decide +kernel
theorem dX1_gapOf_75 : decode cX1_gapOf 75 = .ok (.istore 8, 2) := by decide +kernel
theorem dX1_gapOf_77 : decode cX1_gapOf 77 = .ok (.iload 4, 2) := by decide +kernel
theorem dX1_gapOf_79 : decode cX1_gapOf 79 = .ok (.iload 6, 2) := by decide +kernel
theorem dX1_gapOf_81 : decode cX1_gapOf 81 = .ok (.invokestatic 64, 3) := by decide +kernel
theorem dX1_gapOf_84 : decode cX1_gapOf 84 = .ok (.isub, 1) := by decide +kernel
theorem dX1_gapOf_85 : decode cX1_gapOf 85 = .ok (.istore 9, 2) := by decide +kernel
theorem dX1_gapOf_87 : decode cX1_gapOf 87 = .ok (.iload 9, 2) := by decide +kernel
theorem dX1_gapOf_89 : decode cX1_gapOf 89 = .ok (.iload 6, 2) := by decide +kernel
theorem dX1_gapOf_91 : decode cX1_gapOf 91 = .ok (.iconst 1, 1) := by decide +kernel
theorem dX1_gapOf_92 : decode cX1_gapOf 92 = .ok (.iadd, 1) := by decide +kernel
theorem dX1_gapOf_93 : decode cX1_gapOf 93 = .ok (.invokestatic 64, 3) := by decide +kernel
theorem dX1_gapOf_96 : decode cX1_gapOf 96 = .ok (.iload 6, 2) := by decide +kernel
theorem dX1_gapOf_98 : decode cX1_gapOf 98 = .ok (.invokestatic 64, 3) := by decide +kernel
theorem dX1_gapOf_101 : decode cX1_gapOf 101 = .ok (.isub, 1) := by decide +kernel
theorem dX1_gapOf_102 : decode cX1_gapOf 102 = .ok (.if_icmp .ne 8, 3) := by decide +kernel
theorem dX1_gapOf_105 : decode cX1_gapOf 105 = .ok (.iload 8, 2) := by decide +kernel
theorem dX1_gapOf_107 : decode cX1_gapOf 107 = .ok (.goto 30, 3) := by decide +kernel
theorem dX1_gapOf_110 : decode cX1_gapOf 110 = .ok (.iload 7, 2) := by decide +kernel
theorem dX1_gapOf_112 : decode cX1_gapOf 112 = .ok (.iload 8, 2) := by decide +kernel
theorem dX1_gapOf_114 : decode cX1_gapOf 114 = .ok (.iload 7, 2) := by decide +kernel
theorem dX1_gapOf_116 : decode cX1_gapOf 116 = .ok (.isub, 1) := by decide +kernel
theorem dX1_gapOf_117 : decode cX1_gapOf 117 = .ok (.iload 9, 2) := by decide +kernel
theorem dX1_gapOf_119 : decode cX1_gapOf 119 = .ok (.imul, 1) := by decide +kernel
theorem dX1_gapOf_120 : decode cX1_gapOf 120 = .ok (.iload 6, 2) := by decide +kernel
theorem dX1_gapOf_122 : decode cX1_gapOf 122 = .ok (.iconst 1, 1) := by decide +kernel
theorem dX1_gapOf_123 : decode cX1_gapOf 123 = .ok (.iadd, 1) := by decide +kernel
theorem dX1_gapOf_124 : decode cX1_gapOf 124 = .ok (.invokestatic 64, 3) := by decide +kernel
theorem dX1_gapOf_127 : decode cX1_gapOf 127 = .ok (.iload 6, 2) := by decide +kernel
theorem dX1_gapOf_129 : decode cX1_gapOf 129 = .ok (.invokestatic 64, 3) := by decide +kernel
theorem dX1_gapOf_132 : decode cX1_gapOf 132 = .ok (.isub, 1) := by decide +kernel
theorem dX1_gapOf_133 : decode cX1_gapOf 133 = .ok (.invokestatic 68, 3) := by decide +kernel
theorem dX1_gapOf_136 : decode cX1_gapOf 136 = .ok (.iadd, 1) := by decide +kernel
theorem dX1_gapOf_137 : decode cX1_gapOf 137 = .ok (.istore 10, 2) := by decide +kernel
theorem dX1_gapOf_139 : decode cX1_gapOf 139 = .ok (.iload 5, 2) := by decide +kernel
theorem dX1_gapOf_141 : decode cX1_gapOf 141 = .ok (.iload 10, 2) := by decide +kernel
theorem dX1_gapOf_143 : decode cX1_gapOf 143 = .ok (.invokestatic 113, 3) := by decide +kernel
theorem dX1_gapOf_146 : decode cX1_gapOf 146 = .ok (.iload_n 2, 1) := by decide +kernel
theorem dX1_gapOf_147 : decode cX1_gapOf 147 = .ok (.if_icmp .le 13, 3) := by decide +kernel
theorem dX1_gapOf_150 : decode cX1_gapOf 150 = .ok (.iload 5, 2) := by decide +kernel
theorem dX1_gapOf_152 : decode cX1_gapOf 152 = .ok (.iload 10, 2) := by decide +kernel
theorem dX1_gapOf_154 : decode cX1_gapOf 154 = .ok (.invokestatic 113, 3) := by decide +kernel
theorem dX1_gapOf_157 : decode cX1_gapOf 157 = .ok (.goto 4, 3) := by decide +kernel
theorem dX1_gapOf_160 : decode cX1_gapOf 160 = .ok (.iload_n 2, 1) := by decide +kernel
theorem dX1_gapOf_161 : decode cX1_gapOf 161 = .ok (.istore_n 2, 1) := by decide +kernel
theorem dX1_gapOf_162 : decode cX1_gapOf 162 = .ok (.iinc 4 1, 3) := by decide +kernel
theorem dX1_gapOf_165 : decode cX1_gapOf 165 = .ok (.goto (-153), 3) := by decide +kernel
theorem dX1_gapOf_168 : decode cX1_gapOf 168 = .ok (.iinc 3 1, 3) := by decide +kernel
theorem dX1_gapOf_171 : decode cX1_gapOf 171 = .ok (.goto (-167), 3) := by decide +kernel
theorem dX1_gapOf_174 : decode cX1_gapOf 174 = .ok (.iload_n 2, 1) := by decide +kernel
theorem dX1_gapOf_175 : decode cX1_gapOf 175 = .ok (.ireturn, 1) := by decide +kernel
set_option maxRecDepth 20000 in
theorem ggX1_gap_X1_isChain : GoodIn wsX1_gap wsX1_isChain := goodIn_r _ [5, 6, 7, 8, 4, 9, 51, 52, 53, 54, 55, 56, 57, 58, 59, 60, 61, 62, 63, 64, 65, 66] (by decide +kernel) (by decide +kernel)
set_option maxRecDepth 20000 in
theorem gX1_gap_X1_isChain : GoodIn wsX1_gap (wsV RX1 107 RX1 yX1_isChain wsX1_isChain) := goodIn_app (goodIn_of _ (by decide +kernel)) ggX1_gap_X1_isChain
set_option maxRecDepth 20000 in
theorem ggX1_gap_X1_may : GoodIn wsX1_gap wsX1_may := goodIn_r _ [13, 14, 51, 52, 53, 54, 55, 56, 57, 58, 59, 60, 61, 62, 63, 64, 65, 66] (by decide +kernel) (by decide +kernel)
set_option maxRecDepth 20000 in
theorem gX1_gap_X1_may : GoodIn wsX1_gap (wsV RX1 82 RX1 yX1_may wsX1_may) := goodIn_app (goodIn_of _ (by decide +kernel)) ggX1_gap_X1_may
set_option maxRecDepth 20000 in
theorem ggX1_gap_X1_gapOf : GoodIn wsX1_gap wsX1_gapOf := goodIn_r _ [18, 19, 20, 21, 4, 22, 23, 24, 25, 26, 27, 28, 29, 30, 31, 32, 33, 34, 35, 36, 37, 38, 39, 40, 41, 42, 43, 44, 45, 46, 47, 48, 49, 50, 51, 52, 53, 54, 55, 56, 57, 58, 59, 60, 61, 62, 63, 64, 65, 66] (by decide +kernel) (by decide +kernel)
set_option maxRecDepth 20000 in
theorem gX1_gap_X1_gapOf : GoodIn wsX1_gap (wsV RX1 116 RX1 yX1_gapOf wsX1_gapOf) := goodIn_app (goodIn_of _ (by decide +kernel)) ggX1_gap_X1_gapOf
theorem dX1_gap_0 : decode cX1_gap 0 = .ok (.aload_n 0, 1) := by decide +kernel
theorem dX1_gap_1 : decode cX1_gap 1 = .ok (.aload_n 0, 1) := by decide +kernel
theorem dX1_gap_2 : decode cX1_gap 2 = .ok (.iload_n 1, 1) := by decide +kernel
theorem dX1_gap_3 : decode cX1_gap 3 = .ok (.invokevirtual 107, 3) := by decide +kernel
theorem dX1_gap_6 : decode cX1_gap 6 = .ok (.invokevirtual 82, 3) := by decide +kernel
theorem dX1_gap_9 : decode cX1_gap 9 = .ok (.ifCond .eq 11, 3) := by decide +kernel
theorem dX1_gap_12 : decode cX1_gap 12 = .ok (.aload_n 0, 1) := by decide +kernel
theorem dX1_gap_13 : decode cX1_gap 13 = .ok (.iload_n 1, 1) := by decide +kernel
theorem dX1_gap_14 : decode cX1_gap 14 = .ok (.invokevirtual 116, 3) := by decide +kernel
theorem dX1_gap_17 : decode cX1_gap 17 = .ok (.goto 4, 3) := by decide +kernel
theorem dX1_gap_20 : decode cX1_gap 20 = .ok (.iconst 0, 1) := by decide +kernel
theorem dX1_gap_21 : decode cX1_gap 21 = .ok (.ireturn, 1) := by decide +kernel
set_option maxRecDepth 20000 in
theorem ggX1_greyGap_X1_isChain : GoodIn wsX1_greyGap wsX1_isChain := goodIn_r _ [5, 6, 7, 8, 4, 9, 47, 48, 49, 50, 51, 52, 53, 54, 55, 56, 57, 58, 59, 60, 61, 62] (by decide +kernel) (by decide +kernel)
set_option maxRecDepth 20000 in
theorem gX1_greyGap_X1_isChain : GoodIn wsX1_greyGap (wsV RX1 107 RX1 yX1_isChain wsX1_isChain) := goodIn_app (goodIn_of _ (by decide +kernel)) ggX1_greyGap_X1_isChain
set_option maxRecDepth 20000 in
theorem ggX1_greyGap_X1_may : GoodIn wsX1_greyGap wsX1_may := goodIn_r _ [13, 14, 47, 48, 49, 50, 51, 52, 53, 54, 55, 56, 57, 58, 59, 60, 61, 62] (by decide +kernel) (by decide +kernel)
set_option maxRecDepth 20000 in
theorem gX1_greyGap_X1_may : GoodIn wsX1_greyGap (wsV RX1 82 RX1 yX1_may wsX1_may) := goodIn_app (goodIn_of _ (by decide +kernel)) ggX1_greyGap_X1_may
set_option maxRecDepth 20000 in
theorem ggX1_greyGap_X1_throughOf : GoodIn wsX1_greyGap wsX1_throughOf := goodIn_r _ [18, 19, 20, 21, 22, 23, 4, 24, 25, 26, 27, 28, 29, 30, 31, 32, 33, 34, 35, 36, 37, 38, 39, 40, 41, 42, 43, 47, 48, 49, 50, 51, 52, 53, 54, 55, 56, 57, 58, 59, 60, 61, 62] (by decide +kernel) (by decide +kernel)
set_option maxRecDepth 20000 in
theorem gX1_greyGap_X1_throughOf : GoodIn wsX1_greyGap (wsV RX1 110 RX1 yX1_throughOf wsX1_throughOf) := goodIn_app (goodIn_of _ (by decide +kernel)) ggX1_greyGap_X1_throughOf
set_option maxRecDepth 20000 in
theorem ggX1_greyGap_X1_apart : GoodIn wsX1_greyGap wsX1_apart := goodIn_r _ [46] (by decide +kernel) (by decide +kernel)
set_option maxRecDepth 20000 in
theorem gX1_greyGap_X1_apart : GoodIn wsX1_greyGap (va_wsS RX1 113 yX1_apart wsX1_apart) := goodIn_app (goodIn_of _ (by decide +kernel)) ggX1_greyGap_X1_apart
theorem dX1_greyGap_0 : decode cX1_greyGap 0 = .ok (.aload_n 0, 1) := by decide +kernel
theorem dX1_greyGap_1 : decode cX1_greyGap 1 = .ok (.aload_n 0, 1) := by decide +kernel
theorem dX1_greyGap_2 : decode cX1_greyGap 2 = .ok (.iload_n 1, 1) := by decide +kernel
theorem dX1_greyGap_3 : decode cX1_greyGap 3 = .ok (.invokevirtual 107, 3) := by decide +kernel
theorem dX1_greyGap_6 : decode cX1_greyGap 6 = .ok (.invokevirtual 82, 3) := by decide +kernel
theorem dX1_greyGap_9 : decode cX1_greyGap 9 = .ok (.ifCond .ne 5, 3) := by decide +kernel
theorem dX1_greyGap_12 : decode cX1_greyGap 12 = .ok (.iconst 0, 1) := by decide +kernel
theorem dX1_greyGap_13 : decode cX1_greyGap 13 = .ok (.ireturn, 1) := by decide +kernel
theorem dX1_greyGap_14 : decode cX1_greyGap 14 = .ok (.iconst 0, 1) := by decide +kernel
theorem dX1_greyGap_15 : decode cX1_greyGap 15 = .ok (.istore_n 2, 1) := by decide +kernel
theorem dX1_greyGap_16 : decode cX1_greyGap 16 = .ok (.iconst 0, 1) := by decide +kernel
theorem dX1_greyGap_17 : decode cX1_greyGap 17 = .ok (.istore_n 3, 1) := by decide +kernel
theorem dX1_greyGap_18 : decode cX1_greyGap 18 = .ok (.iload_n 3, 1) := by decide +kernel
theorem dX1_greyGap_19 : decode cX1_greyGap 19 = .ok (.sipush 256, 3) := by decide +kernel
theorem dX1_greyGap_22 : decode cX1_greyGap 22 = .ok (.if_icmp .ge 105, 3) := by decide +kernel
theorem dX1_greyGap_25 : decode cX1_greyGap 25 = .ok (.aload_n 0, 1) := by decide +kernel
theorem dX1_greyGap_26 : decode cX1_greyGap 26 = .ok (.iload_n 1, 1) := by decide +kernel
theorem dX1_greyGap_27 : decode cX1_greyGap 27 = .ok (.iconst 0, 1) := by decide +kernel
theorem dX1_greyGap_28 : decode cX1_greyGap 28 = .ok (.iload_n 3, 1) := by decide +kernel
theorem dX1_greyGap_29 : decode cX1_greyGap 29 = .ok (.invokevirtual 110, 3) := by decide +kernel
theorem dX1_greyGap_32 : decode cX1_greyGap 32 = .ok (.istore 4, 2) := by decide +kernel
theorem dX1_greyGap_34 : decode cX1_greyGap 34 = .ok (.aload_n 0, 1) := by decide +kernel
theorem dX1_greyGap_35 : decode cX1_greyGap 35 = .ok (.iload_n 1, 1) := by decide +kernel
theorem dX1_greyGap_36 : decode cX1_greyGap 36 = .ok (.iconst 1, 1) := by decide +kernel
theorem dX1_greyGap_37 : decode cX1_greyGap 37 = .ok (.iload_n 3, 1) := by decide +kernel
theorem dX1_greyGap_38 : decode cX1_greyGap 38 = .ok (.invokevirtual 110, 3) := by decide +kernel
theorem dX1_greyGap_41 : decode cX1_greyGap 41 = .ok (.istore 5, 2) := by decide +kernel
theorem dX1_greyGap_43 : decode cX1_greyGap 43 = .ok (.aload_n 0, 1) := by decide +kernel
theorem dX1_greyGap_44 : decode cX1_greyGap 44 = .ok (.iload_n 1, 1) := by decide +kernel
theorem dX1_greyGap_45 : decode cX1_greyGap 45 = .ok (.iconst 2, 1) := by decide +kernel
theorem dX1_greyGap_46 : decode cX1_greyGap 46 = .ok (.iload_n 3, 1) := by decide +kernel
theorem dX1_greyGap_47 : decode cX1_greyGap 47 = .ok (.invokevirtual 110, 3) := by decide +kernel
theorem dX1_greyGap_50 : decode cX1_greyGap 50 = .ok (.istore 6, 2) := by decide +kernel
theorem dX1_greyGap_52 : decode cX1_greyGap 52 = .ok (.iload 4, 2) := by decide +kernel
theorem dX1_greyGap_54 : decode cX1_greyGap 54 = .ok (.iload 5, 2) := by decide +kernel
theorem dX1_greyGap_56 : decode cX1_greyGap 56 = .ok (.invokestatic 113, 3) := by decide +kernel
theorem dX1_greyGap_59 : decode cX1_greyGap 59 = .ok (.iload_n 2, 1) := by decide +kernel
theorem dX1_greyGap_60 : decode cX1_greyGap 60 = .ok (.if_icmp .le 13, 3) := by decide +kernel
theorem dX1_greyGap_63 : decode cX1_greyGap 63 = .ok (.iload 4, 2) := by decide +kernel
theorem dX1_greyGap_65 : decode cX1_greyGap 65 = .ok (.iload 5, 2) := by decide +kernel
theorem dX1_greyGap_67 : decode cX1_greyGap 67 = .ok (.invokestatic 113, 3) := by decide +kernel
theorem dX1_greyGap_70 : decode cX1_greyGap 70 = .ok (.goto 4, 3) := by decide +kernel
theorem dX1_greyGap_73 : decode cX1_greyGap 73 = .ok (.iload_n 2, 1) := by decide +kernel
theorem dX1_greyGap_74 : decode cX1_greyGap 74 = .ok (.istore_n 2, 1) := by decide +kernel
theorem dX1_greyGap_75 : decode cX1_greyGap 75 = .ok (.iload 4, 2) := by decide +kernel
theorem dX1_greyGap_77 : decode cX1_greyGap 77 = .ok (.iload 6, 2) := by decide +kernel
theorem dX1_greyGap_79 : decode cX1_greyGap 79 = .ok (.invokestatic 113, 3) := by decide +kernel
theorem dX1_greyGap_82 : decode cX1_greyGap 82 = .ok (.iload_n 2, 1) := by decide +kernel
theorem dX1_greyGap_83 : decode cX1_greyGap 83 = .ok (.if_icmp .le 13, 3) := by decide +kernel
theorem dX1_greyGap_86 : decode cX1_greyGap 86 = .ok (.iload 4, 2) := by decide +kernel
theorem dX1_greyGap_88 : decode cX1_greyGap 88 = .ok (.iload 6, 2) := by decide +kernel
theorem dX1_greyGap_90 : decode cX1_greyGap 90 = .ok (.invokestatic 113, 3) := by decide +kernel
theorem dX1_greyGap_93 : decode cX1_greyGap 93 = .ok (.goto 4, 3) := by decide +kernel
theorem dX1_greyGap_96 : decode cX1_greyGap 96 = .ok (.iload_n 2, 1) := by decide +kernel
theorem dX1_greyGap_97 : decode cX1_greyGap 97 = .ok (.istore_n 2, 1) := by decide +kernel
theorem dX1_greyGap_98 : decode cX1_greyGap 98 = .ok (.iload 5, 2) := by decide +kernel
theorem dX1_greyGap_100 : decode cX1_greyGap 100 = .ok (.iload 6, 2) := by decide +kernel
theorem dX1_greyGap_102 : decode cX1_greyGap 102 = .ok (.invokestatic 113, 3) := by decide +kernel
theorem dX1_greyGap_105 : decode cX1_greyGap 105 = .ok (.iload_n 2, 1) := by decide +kernel
theorem dX1_greyGap_106 : decode cX1_greyGap 106 = .ok (.if_icmp .le 13, 3) := by decide +kernel
theorem dX1_greyGap_109 : decode cX1_greyGap 109 = .ok (.iload 5, 2) := by decide +kernel
theorem dX1_greyGap_111 : decode cX1_greyGap 111 = .ok (.iload 6, 2) := by decide +kernel
theorem dX1_greyGap_113 : decode cX1_greyGap 113 = .ok (.invokestatic 113, 3) := by decide +kernel
theorem dX1_greyGap_116 : decode cX1_greyGap 116 = .ok (.goto 4, 3) := by decide +kernel
theorem dX1_greyGap_119 : decode cX1_greyGap 119 = .ok (.iload_n 2, 1) := by decide +kernel
theorem dX1_greyGap_120 : decode cX1_greyGap 120 = .ok (.istore_n 2, 1) := by decide +kernel
theorem dX1_greyGap_121 : decode cX1_greyGap 121 = .ok (.iinc 3 1, 3) := by decide +kernel
theorem dX1_greyGap_124 : decode cX1_greyGap 124 = .ok (.goto (-106), 3) := by decide +kernel
theorem dX1_greyGap_127 : decode cX1_greyGap 127 = .ok (.iload_n 2, 1) := by decide +kernel
theorem dX1_greyGap_128 : decode cX1_greyGap 128 = .ok (.ireturn, 1) := by decide +kernel
set_option maxRecDepth 20000 in
theorem ggX1_join_X1_isChain : GoodIn wsX1_join wsX1_isChain := goodIn_r _ [7, 8, 9, 10, 6, 11, 56, 57, 58, 59, 60, 61, 62, 63, 64, 65, 66, 67, 68, 69, 70, 71] (by decide +kernel) (by decide +kernel)
set_option maxRecDepth 20000 in
theorem gX1_join_X1_isChain : GoodIn wsX1_join (wsV RX1 107 RX1 yX1_isChain wsX1_isChain) := goodIn_app (goodIn_of _ (by decide +kernel)) ggX1_join_X1_isChain
set_option maxRecDepth 20000 in
theorem ggX1_join_X1_gapOf : GoodIn wsX1_join wsX1_gapOf := goodIn_r _ [15, 16, 17, 18, 6, 19, 20, 21, 22, 23, 24, 25, 26, 27, 28, 29, 30, 31, 32, 33, 34, 35, 36, 37, 38, 39, 40, 41, 42, 43, 44, 45, 46, 47, 56, 57, 58, 59, 60, 61, 62, 63, 64, 65, 66, 67, 68, 69, 70, 71] (by decide +kernel) (by decide +kernel)
set_option maxRecDepth 20000 in
theorem gX1_join_X1_gapOf : GoodIn wsX1_join (wsV RX1 116 RX1 yX1_gapOf wsX1_gapOf) := goodIn_app (goodIn_of _ (by decide +kernel)) ggX1_join_X1_gapOf
set_option maxRecDepth 20000 in
theorem ggX1_join_X1_isByte : GoodIn wsX1_join wsX1_isByte := goodIn_r _ [50, 9, 10, 6, 11] (by decide +kernel) (by decide +kernel)
set_option maxRecDepth 20000 in
theorem gX1_join_X1_isByte : GoodIn wsX1_join (va_wsS RX1 93 yX1_isByte wsX1_isByte) := goodIn_app (goodIn_of _ (by decide +kernel)) ggX1_join_X1_isByte
set_option maxRecDepth 20000 in
theorem ggX1_join_X1_mayAll : GoodIn wsX1_join wsX1_mayAll := goodIn_r _ [54, 55, 56, 57, 58, 59, 60, 61, 62, 63, 64, 65, 66, 67, 68, 69, 70, 71] (by decide +kernel) (by decide +kernel)
set_option maxRecDepth 20000 in
theorem gX1_join_X1_mayAll : GoodIn wsX1_join (wsV RX1 99 RX1 yX1_mayAll wsX1_mayAll) := goodIn_app (goodIn_of _ (by decide +kernel)) ggX1_join_X1_mayAll
set_option maxRecDepth 20000 in
theorem ggX1_join_X1_placeAt : GoodIn wsX1_join wsX1_placeAt := goodIn_r _ [41] (by decide +kernel) (by decide +kernel)
set_option maxRecDepth 20000 in
theorem gX1_join_X1_placeAt : GoodIn wsX1_join (va_wsS RX1 64 yX1_placeAt wsX1_placeAt) := goodIn_app (goodIn_of _ (by decide +kernel)) ggX1_join_X1_placeAt
set_option maxRecDepth 20000 in
theorem ggX1_join_X1_throughOf : GoodIn wsX1_join wsX1_throughOf := goodIn_r _ [19, 20, 21, 22, 23, 24, 6, 25, 26, 27, 28, 29, 30, 31, 32, 33, 34, 35, 36, 37, 38, 39, 40, 41, 42, 43, 44, 56, 57, 58, 59, 60, 61, 62, 63, 64, 65, 66, 67, 68, 69, 70, 71] (by decide +kernel) (by decide +kernel)
set_option maxRecDepth 20000 in
theorem gX1_join_X1_throughOf : GoodIn wsX1_join (wsV RX1 110 RX1 yX1_throughOf wsX1_throughOf) := goodIn_app (goodIn_of _ (by decide +kernel)) ggX1_join_X1_throughOf
theorem dX1_join_0 : decode cX1_join 0 = .ok (.aload_n 0, 1) := by decide +kernel
theorem dX1_join_1 : decode cX1_join 1 = .ok (.iload_n 1, 1) := by decide +kernel
theorem dX1_join_2 : decode cX1_join 2 = .ok (.invokevirtual 107, 3) := by decide +kernel
theorem dX1_join_5 : decode cX1_join 5 = .ok (.istore_n 3, 1) := by decide +kernel
theorem dX1_join_6 : decode cX1_join 6 = .ok (.iload_n 3, 1) := by decide +kernel
theorem dX1_join_7 : decode cX1_join 7 = .ok (.ifCond .eq 11, 3) := by decide +kernel
theorem dX1_join_10 : decode cX1_join 10 = .ok (.aload_n 0, 1) := by decide +kernel
theorem dX1_join_11 : decode cX1_join 11 = .ok (.iload_n 1, 1) := by decide +kernel
theorem dX1_join_12 : decode cX1_join 12 = .ok (.invokevirtual 116, 3) := by decide +kernel
theorem dX1_join_15 : decode cX1_join 15 = .ok (.goto 4, 3) := by decide +kernel
theorem dX1_join_18 : decode cX1_join 18 = .ok (.iconst 0, 1) := by decide +kernel
theorem dX1_join_19 : decode cX1_join 19 = .ok (.istore 4, 2) := by decide +kernel
theorem dX1_join_21 : decode cX1_join 21 = .ok (.aload_n 0, 1) := by decide +kernel
theorem dX1_join_22 : decode cX1_join 22 = .ok (.iload_n 3, 1) := by decide +kernel
theorem dX1_join_23 : decode cX1_join 23 = .ok (.iload_n 2, 1) := by decide +kernel
theorem dX1_join_24 : decode cX1_join 24 = .ok (.invokestatic 93, 3) := by decide +kernel
theorem dX1_join_27 : decode cX1_join 27 = .ok (.iload 4, 2) := by decide +kernel
theorem dX1_join_29 : decode cX1_join 29 = .ok (.iload_n 2, 1) := by decide +kernel
theorem dX1_join_30 : decode cX1_join 30 = .ok (.if_icmp .gt 7, 3) := by decide +kernel
theorem dX1_join_33 : decode cX1_join 33 = .ok (.iconst 1, 1) := by decide +kernel
theorem dX1_join_34 : decode cX1_join 34 = .ok (.goto 4, 3) := by decide +kernel
theorem dX1_join_37 : decode cX1_join 37 = .ok (.iconst 0, 1) := by decide +kernel
theorem dX1_join_38 : decode cX1_join 38 = .ok (.invokevirtual 99, 3) := by decide +kernel
theorem dX1_join_41 : decode cX1_join 41 = .ok (.ifCond .ne 5, 3) := by decide +kernel
theorem dX1_join_44 : decode cX1_join 44 = .ok (.iconst 0, 1) := by decide +kernel
theorem dX1_join_45 : decode cX1_join 45 = .ok (.ireturn, 1) := by decide +kernel
theorem dX1_join_46 : decode cX1_join 46 = .ok (.iconst 0, 1) := by decide +kernel
theorem dX1_join_47 : decode cX1_join 47 = .ok (.istore 5, 2) := by decide +kernel
theorem dX1_join_49 : decode cX1_join 49 = .ok (.iload 5, 2) := by decide +kernel
theorem dX1_join_51 : decode cX1_join 51 = .ok (.iconst 3, 1) := by decide +kernel
theorem dX1_join_52 : decode cX1_join 52 = .ok (.if_icmp .ge 53, 3) := by decide +kernel
theorem dX1_join_55 : decode cX1_join 55 = .ok (.iconst 0, 1) := by decide +kernel
theorem dX1_join_56 : decode cX1_join 56 = .ok (.istore 6, 2) := by decide +kernel
theorem dX1_join_58 : decode cX1_join 58 = .ok (.iload 6, 2) := by decide +kernel
theorem dX1_join_60 : decode cX1_join 60 = .ok (.iconst 5, 1) := by decide +kernel
theorem dX1_join_61 : decode cX1_join 61 = .ok (.if_icmp .ge 38, 3) := by decide +kernel
theorem dX1_join_64 : decode cX1_join 64 = .ok (.aload_n 0, 1) := by decide +kernel
theorem dX1_join_65 : decode cX1_join 65 = .ok (.getfield 35, 3) := by decide +kernel
theorem dX1_join_68 : decode cX1_join 68 = .ok (.bipush 15, 2) := by decide +kernel
theorem dX1_join_70 : decode cX1_join 70 = .ok (.iload_n 1, 1) := by decide +kernel
theorem dX1_join_71 : decode cX1_join 71 = .ok (.imul, 1) := by decide +kernel
theorem dX1_join_72 : decode cX1_join 72 = .ok (.iconst 5, 1) := by decide +kernel
theorem dX1_join_73 : decode cX1_join 73 = .ok (.iload 5, 2) := by decide +kernel
theorem dX1_join_75 : decode cX1_join 75 = .ok (.imul, 1) := by decide +kernel
theorem dX1_join_76 : decode cX1_join 76 = .ok (.iadd, 1) := by decide +kernel
theorem dX1_join_77 : decode cX1_join 77 = .ok (.iload 6, 2) := by decide +kernel
theorem dX1_join_79 : decode cX1_join 79 = .ok (.iadd, 1) := by decide +kernel
theorem dX1_join_80 : decode cX1_join 80 = .ok (.aload_n 0, 1) := by decide +kernel
theorem dX1_join_81 : decode cX1_join 81 = .ok (.iload_n 1, 1) := by decide +kernel
theorem dX1_join_82 : decode cX1_join 82 = .ok (.iload 5, 2) := by decide +kernel
theorem dX1_join_84 : decode cX1_join 84 = .ok (.iload 6, 2) := by decide +kernel
theorem dX1_join_86 : decode cX1_join 86 = .ok (.invokestatic 64, 3) := by decide +kernel
theorem dX1_join_89 : decode cX1_join 89 = .ok (.invokevirtual 110, 3) := by decide +kernel
theorem dX1_join_92 : decode cX1_join 92 = .ok (.iastore, 1) := by decide +kernel
theorem dX1_join_93 : decode cX1_join 93 = .ok (.iinc 6 1, 3) := by decide +kernel
theorem dX1_join_96 : decode cX1_join 96 = .ok (.goto (-38), 3) := by decide +kernel
theorem dX1_join_99 : decode cX1_join 99 = .ok (.iinc 5 1, 3) := by decide +kernel
theorem dX1_join_102 : decode cX1_join 102 = .ok (.goto (-53), 3) := by decide +kernel
theorem dX1_join_105 : decode cX1_join 105 = .ok (.aload_n 0, 1) := by decide +kernel
theorem dX1_join_106 : decode cX1_join 106 = .ok (.getfield 28, 3) := by decide +kernel
theorem dX1_join_109 : decode cX1_join 109 = .ok (.iload_n 1, 1) := by decide +kernel
theorem dX1_join_110 : decode cX1_join 110 = .ok (.iconst 1, 1) := by decide +kernel
theorem dX1_join_111 : decode cX1_join 111 = .ok (.bastore, 1) := by decide +kernel
theorem dX1_join_112 : decode cX1_join 112 = .ok (.iload 4, 2) := by decide +kernel
theorem dX1_join_114 : decode cX1_join 114 = .ok (.ireturn, 1) := by decide +kernel
set_option maxRecDepth 20000 in
theorem ggX1_joined_X1_isChain : GoodIn wsX1_joined wsX1_isChain := goodIn_r _ [8, 9, 10, 11, 7, 12, 34, 35, 36, 37, 38, 39, 40, 41, 42, 43, 44, 45, 46, 47, 48, 49] (by decide +kernel) (by decide +kernel)
set_option maxRecDepth 20000 in
theorem gX1_joined_X1_isChain : GoodIn wsX1_joined (wsV RX1 107 RX1 yX1_isChain wsX1_isChain) := goodIn_app (goodIn_of _ (by decide +kernel)) ggX1_joined_X1_isChain
set_option maxRecDepth 20000 in
theorem ggX1_joined_X1_isThird : GoodIn wsX1_joined wsX1_isThird := goodIn_r _ [15, 10, 11, 7, 12] (by decide +kernel) (by decide +kernel)
set_option maxRecDepth 20000 in
theorem gX1_joined_X1_isThird : GoodIn wsX1_joined (va_wsS RX1 90 yX1_isThird wsX1_isThird) := goodIn_app (goodIn_of _ (by decide +kernel)) ggX1_joined_X1_isThird
set_option maxRecDepth 20000 in
theorem ggX1_joined_X1_isByte : GoodIn wsX1_joined wsX1_isByte := goodIn_r _ [18, 10, 11, 7, 12] (by decide +kernel) (by decide +kernel)
set_option maxRecDepth 20000 in
theorem gX1_joined_X1_isByte : GoodIn wsX1_joined (va_wsS RX1 93 yX1_isByte wsX1_isByte) := goodIn_app (goodIn_of _ (by decide +kernel)) ggX1_joined_X1_isByte
set_option maxRecDepth 20000 in
theorem ggX1_joined_X1_mayAll : GoodIn wsX1_joined wsX1_mayAll := goodIn_r _ [22, 23, 34, 35, 36, 37, 38, 39, 40, 41, 42, 43, 44, 45, 46, 47, 48, 49] (by decide +kernel) (by decide +kernel)
set_option maxRecDepth 20000 in
theorem gX1_joined_X1_mayAll : GoodIn wsX1_joined (wsV RX1 99 RX1 yX1_mayAll wsX1_mayAll) := goodIn_app (goodIn_of _ (by decide +kernel)) ggX1_joined_X1_mayAll
set_option maxRecDepth 20000 in
theorem ggX1_joined_X1_between : GoodIn wsX1_joined wsX1_between := goodIn_r _ [27, 2, 28, 29, 7, 30, 31, 32, 33, 34, 35, 36, 37, 38, 39, 40, 41, 42, 43, 44, 45, 46, 47, 48, 49] (by decide +kernel) (by decide +kernel)
set_option maxRecDepth 20000 in
theorem gX1_joined_X1_between : GoodIn wsX1_joined (wsV RX1 72 RX1 yX1_between wsX1_between) := goodIn_app (goodIn_of _ (by decide +kernel)) ggX1_joined_X1_between
theorem dX1_joined_0 : decode cX1_joined 0 = .ok (.aload_n 0, 1) := by decide +kernel
theorem dX1_joined_1 : decode cX1_joined 1 = .ok (.iload_n 1, 1) := by decide +kernel
theorem dX1_joined_2 : decode cX1_joined 2 = .ok (.invokevirtual 107, 3) := by decide +kernel
theorem dX1_joined_5 : decode cX1_joined 5 = .ok (.ifCond .eq 14, 3) := by decide +kernel
theorem dX1_joined_8 : decode cX1_joined 8 = .ok (.iload_n 2, 1) := by decide +kernel
theorem dX1_joined_9 : decode cX1_joined 9 = .ok (.invokestatic 90, 3) := by decide +kernel
theorem dX1_joined_12 : decode cX1_joined 12 = .ok (.ifCond .eq 7, 3) := by decide +kernel
theorem dX1_joined_15 : decode cX1_joined 15 = .ok (.iconst 1, 1) := by decide +kernel
theorem dX1_joined_16 : decode cX1_joined 16 = .ok (.goto 4, 3) := by decide +kernel
theorem dX1_joined_19 : decode cX1_joined 19 = .ok (.iconst 0, 1) := by decide +kernel
theorem dX1_joined_20 : decode cX1_joined 20 = .ok (.istore 4, 2) := by decide +kernel
theorem dX1_joined_22 : decode cX1_joined 22 = .ok (.aload_n 0, 1) := by decide +kernel
theorem dX1_joined_23 : decode cX1_joined 23 = .ok (.iload 4, 2) := by decide +kernel
theorem dX1_joined_25 : decode cX1_joined 25 = .ok (.iload_n 3, 1) := by decide +kernel
theorem dX1_joined_26 : decode cX1_joined 26 = .ok (.invokestatic 93, 3) := by decide +kernel
theorem dX1_joined_29 : decode cX1_joined 29 = .ok (.iload 4, 2) := by decide +kernel
theorem dX1_joined_31 : decode cX1_joined 31 = .ok (.ifCond .eq 16, 3) := by decide +kernel
theorem dX1_joined_34 : decode cX1_joined 34 = .ok (.aload_n 0, 1) := by decide +kernel
theorem dX1_joined_35 : decode cX1_joined 35 = .ok (.getfield 28, 3) := by decide +kernel
theorem dX1_joined_38 : decode cX1_joined 38 = .ok (.iload_n 1, 1) := by decide +kernel
theorem dX1_joined_39 : decode cX1_joined 39 = .ok (.baload, 1) := by decide +kernel
theorem dX1_joined_40 : decode cX1_joined 40 = .ok (.ifCond .eq 7, 3) := by decide +kernel
theorem dX1_joined_43 : decode cX1_joined 43 = .ok (.iconst 1, 1) := by decide +kernel
theorem dX1_joined_44 : decode cX1_joined 44 = .ok (.goto 4, 3) := by decide +kernel
theorem dX1_joined_47 : decode cX1_joined 47 = .ok (.iconst 0, 1) := by decide +kernel
theorem dX1_joined_48 : decode cX1_joined 48 = .ok (.invokevirtual 99, 3) := by decide +kernel
theorem dX1_joined_51 : decode cX1_joined 51 = .ok (.ifCond .ne 5, 3) := by decide +kernel
theorem dX1_joined_54 : decode cX1_joined 54 = .ok (.iconst 0, 1) := by decide +kernel
theorem dX1_joined_55 : decode cX1_joined 55 = .ok (.ireturn, 1) := by decide +kernel
theorem dX1_joined_56 : decode cX1_joined 56 = .ok (.iconst 0, 1) := by decide +kernel
theorem dX1_joined_57 : decode cX1_joined 57 = .ok (.istore 5, 2) := by decide +kernel
theorem dX1_joined_59 : decode cX1_joined 59 = .ok (.iload 5, 2) := by decide +kernel
theorem dX1_joined_61 : decode cX1_joined 61 = .ok (.iconst 5, 1) := by decide +kernel
theorem dX1_joined_62 : decode cX1_joined 62 = .ok (.if_icmp .ge 32, 3) := by decide +kernel
theorem dX1_joined_65 : decode cX1_joined 65 = .ok (.aload_n 0, 1) := by decide +kernel
theorem dX1_joined_66 : decode cX1_joined 66 = .ok (.getfield 47, 3) := by decide +kernel
theorem dX1_joined_69 : decode cX1_joined 69 = .ok (.iload 5, 2) := by decide +kernel
theorem dX1_joined_71 : decode cX1_joined 71 = .ok (.aload_n 0, 1) := by decide +kernel
theorem dX1_joined_72 : decode cX1_joined 72 = .ok (.getfield 35, 3) := by decide +kernel
theorem dX1_joined_75 : decode cX1_joined 75 = .ok (.bipush 15, 2) := by decide +kernel
theorem dX1_joined_77 : decode cX1_joined 77 = .ok (.iload_n 1, 1) := by decide +kernel
theorem dX1_joined_78 : decode cX1_joined 78 = .ok (.imul, 1) := by decide +kernel
theorem dX1_joined_79 : decode cX1_joined 79 = .ok (.iconst 5, 1) := by decide +kernel
theorem dX1_joined_80 : decode cX1_joined 80 = .ok (.iload_n 2, 1) := by decide +kernel
theorem dX1_joined_81 : decode cX1_joined 81 = .ok (.imul, 1) := by decide +kernel
theorem dX1_joined_82 : decode cX1_joined 82 = .ok (.iadd, 1) := by decide +kernel
theorem dX1_joined_83 : decode cX1_joined 83 = .ok (.iload 5, 2) := by decide +kernel
theorem dX1_joined_85 : decode cX1_joined 85 = .ok (.iadd, 1) := by decide +kernel
theorem dX1_joined_86 : decode cX1_joined 86 = .ok (.iaload, 1) := by decide +kernel
theorem dX1_joined_87 : decode cX1_joined 87 = .ok (.iastore, 1) := by decide +kernel
theorem dX1_joined_88 : decode cX1_joined 88 = .ok (.iinc 5 1, 3) := by decide +kernel
theorem dX1_joined_91 : decode cX1_joined 91 = .ok (.goto (-32), 3) := by decide +kernel
theorem dX1_joined_94 : decode cX1_joined 94 = .ok (.aload_n 0, 1) := by decide +kernel
theorem dX1_joined_95 : decode cX1_joined 95 = .ok (.iload_n 3, 1) := by decide +kernel
theorem dX1_joined_96 : decode cX1_joined 96 = .ok (.invokevirtual 72, 3) := by decide +kernel
theorem dX1_joined_99 : decode cX1_joined 99 = .ok (.ireturn, 1) := by decide +kernel
set_option maxRecDepth 20000 in
theorem ggX1_stale_X1_placeAt : GoodIn wsX1_stale wsX1_placeAt := goodIn_r _ [8] (by decide +kernel) (by decide +kernel)
set_option maxRecDepth 20000 in
theorem gX1_stale_X1_placeAt : GoodIn wsX1_stale (va_wsS RX1 64 yX1_placeAt wsX1_placeAt) := goodIn_app (goodIn_of _ (by decide +kernel)) ggX1_stale_X1_placeAt
set_option maxRecDepth 20000 in
theorem ggX1_stale_X1_throughOf : GoodIn wsX1_stale wsX1_throughOf := goodIn_r _ [12, 13, 14, 15, 16, 17, 7, 18, 19, 20, 21, 22, 23, 24, 25, 26, 27, 28, 29, 30, 31, 5, 6, 8, 32, 33, 34, 35, 36, 37, 38, 39, 40, 41, 42, 43, 44, 45, 46, 47, 48, 49, 50] (by decide +kernel) (by decide +kernel)
set_option maxRecDepth 20000 in
theorem gX1_stale_X1_throughOf : GoodIn wsX1_stale (wsV RX1 110 RX1 yX1_throughOf wsX1_throughOf) := goodIn_app (goodIn_of _ (by decide +kernel)) ggX1_stale_X1_throughOf
theorem dX1_stale_0 : decode cX1_stale 0 = .ok (.aload_n 0, 1) := by decide +kernel
theorem dX1_stale_1 : decode cX1_stale 1 = .ok (.iconst 0, 1) := by decide +kernel
theorem dX1_stale_2 : decode cX1_stale 2 = .ok (.putfield 50, 3) := by decide +kernel
theorem dX1_stale_5 : decode cX1_stale 5 = .ok (.iconst 0, 1) := by decide +kernel
theorem dX1_stale_6 : decode cX1_stale 6 = .ok (.istore_n 1, 1) := by decide +kernel
theorem dX1_stale_7 : decode cX1_stale 7 = .ok (.iconst 0, 1) := by decide +kernel
theorem dX1_stale_8 : decode cX1_stale 8 = .ok (.istore_n 2, 1) := by decide +kernel
theorem dX1_stale_9 : decode cX1_stale 9 = .ok (.iload_n 2, 1) := by decide +kernel
theorem dX1_stale_10 : decode cX1_stale 10 = .ok (.aload_n 0, 1) := by decide +kernel
theorem dX1_stale_11 : decode cX1_stale 11 = .ok (.getfield 61, 3) := by decide +kernel
theorem dX1_stale_14 : decode cX1_stale 14 = .ok (.if_icmp .ge 91, 3) := by decide +kernel
theorem dX1_stale_17 : decode cX1_stale 17 = .ok (.iconst 0, 1) := by decide +kernel
theorem dX1_stale_18 : decode cX1_stale 18 = .ok (.istore_n 3, 1) := by decide +kernel
theorem dX1_stale_19 : decode cX1_stale 19 = .ok (.iconst 0, 1) := by decide +kernel
theorem dX1_stale_20 : decode cX1_stale 20 = .ok (.istore 4, 2) := by decide +kernel
theorem dX1_stale_22 : decode cX1_stale 22 = .ok (.iload 4, 2) := by decide +kernel
theorem dX1_stale_24 : decode cX1_stale 24 = .ok (.bipush 15, 2) := by decide +kernel
theorem dX1_stale_26 : decode cX1_stale 26 = .ok (.if_icmp .ge 50, 3) := by decide +kernel
theorem dX1_stale_29 : decode cX1_stale 29 = .ok (.iload_n 3, 1) := by decide +kernel
theorem dX1_stale_30 : decode cX1_stale 30 = .ok (.ifCond .ne 34, 3) := by decide +kernel
theorem dX1_stale_33 : decode cX1_stale 33 = .ok (.aload_n 0, 1) := by decide +kernel
theorem dX1_stale_34 : decode cX1_stale 34 = .ok (.getfield 35, 3) := by decide +kernel
theorem dX1_stale_37 : decode cX1_stale 37 = .ok (.bipush 15, 2) := by decide +kernel
theorem dX1_stale_39 : decode cX1_stale 39 = .ok (.iload_n 2, 1) := by decide +kernel
theorem dX1_stale_40 : decode cX1_stale 40 = .ok (.imul, 1) := by decide +kernel
theorem dX1_stale_41 : decode cX1_stale 41 = .ok (.iload 4, 2) := by decide +kernel
theorem dX1_stale_43 : decode cX1_stale 43 = .ok (.iadd, 1) := by decide +kernel
theorem dX1_stale_44 : decode cX1_stale 44 = .ok (.iaload, 1) := by decide +kernel
theorem dX1_stale_45 : decode cX1_stale 45 = .ok (.aload_n 0, 1) := by decide +kernel
theorem dX1_stale_46 : decode cX1_stale 46 = .ok (.iload_n 2, 1) := by decide +kernel
theorem dX1_stale_47 : decode cX1_stale 47 = .ok (.iload 4, 2) := by decide +kernel
theorem dX1_stale_49 : decode cX1_stale 49 = .ok (.iconst 5, 1) := by decide +kernel
theorem dX1_stale_50 : decode cX1_stale 50 = .ok (.idiv, 1) := by decide +kernel
theorem dX1_stale_51 : decode cX1_stale 51 = .ok (.iload 4, 2) := by decide +kernel
theorem dX1_stale_53 : decode cX1_stale 53 = .ok (.iconst 5, 1) := by decide +kernel
theorem dX1_stale_54 : decode cX1_stale 54 = .ok (.irem, 1) := by decide +kernel
theorem dX1_stale_55 : decode cX1_stale 55 = .ok (.invokestatic 64, 3) := by decide +kernel
theorem dX1_stale_58 : decode cX1_stale 58 = .ok (.invokevirtual 110, 3) := by decide +kernel
theorem dX1_stale_61 : decode cX1_stale 61 = .ok (.if_icmp .eq 7, 3) := by decide +kernel
theorem dX1_stale_64 : decode cX1_stale 64 = .ok (.iconst 1, 1) := by decide +kernel
theorem dX1_stale_65 : decode cX1_stale 65 = .ok (.goto 4, 3) := by decide +kernel
theorem dX1_stale_68 : decode cX1_stale 68 = .ok (.iconst 0, 1) := by decide +kernel
theorem dX1_stale_69 : decode cX1_stale 69 = .ok (.istore_n 3, 1) := by decide +kernel
theorem dX1_stale_70 : decode cX1_stale 70 = .ok (.iinc 4 1, 3) := by decide +kernel
theorem dX1_stale_73 : decode cX1_stale 73 = .ok (.goto (-51), 3) := by decide +kernel
theorem dX1_stale_76 : decode cX1_stale 76 = .ok (.iload_n 1, 1) := by decide +kernel
theorem dX1_stale_77 : decode cX1_stale 77 = .ok (.aload_n 0, 1) := by decide +kernel
theorem dX1_stale_78 : decode cX1_stale 78 = .ok (.getfield 28, 3) := by decide +kernel
theorem dX1_stale_81 : decode cX1_stale 81 = .ok (.iload_n 2, 1) := by decide +kernel
theorem dX1_stale_82 : decode cX1_stale 82 = .ok (.baload, 1) := by decide +kernel
theorem dX1_stale_83 : decode cX1_stale 83 = .ok (.ifCond .eq 13, 3) := by decide +kernel
theorem dX1_stale_86 : decode cX1_stale 86 = .ok (.iload_n 3, 1) := by decide +kernel
theorem dX1_stale_87 : decode cX1_stale 87 = .ok (.ifCond .eq 9, 3) := by decide +kernel
theorem dX1_stale_90 : decode cX1_stale 90 = .ok (.iconst 1, 1) := by decide +kernel
theorem dX1_stale_91 : decode cX1_stale 91 = .ok (.iload_n 2, 1) := by decide +kernel
theorem dX1_stale_92 : decode cX1_stale 92 = .ok (.ishl, 1) := by decide +kernel
theorem dX1_stale_93 : decode cX1_stale 93 = .ok (.goto 4, 3) := by decide +kernel
theorem dX1_stale_96 : decode cX1_stale 96 = .ok (.iconst 0, 1) := by decide +kernel
theorem dX1_stale_97 : decode cX1_stale 97 = .ok (.ior, 1) := by decide +kernel
theorem dX1_stale_98 : decode cX1_stale 98 = .ok (.istore_n 1, 1) := by decide +kernel
theorem dX1_stale_99 : decode cX1_stale 99 = .ok (.iinc 2 1, 3) := by decide +kernel
theorem dX1_stale_102 : decode cX1_stale 102 = .ok (.goto (-93), 3) := by decide +kernel
theorem dX1_stale_105 : decode cX1_stale 105 = .ok (.iload_n 1, 1) := by decide +kernel
theorem dX1_stale_106 : decode cX1_stale 106 = .ok (.ireturn, 1) := by decide +kernel
set_option maxRecDepth 20000 in
theorem ggX1_sign_X1_isChain : GoodIn wsX1_sign wsX1_isChain := goodIn_r _ [6, 7, 8, 9, 5, 10, 16, 17, 18, 19, 20, 21, 22, 23, 24, 25, 26, 27, 28, 29, 30, 31] (by decide +kernel) (by decide +kernel)
set_option maxRecDepth 20000 in
theorem gX1_sign_X1_isChain : GoodIn wsX1_sign (wsV RX1 107 RX1 yX1_isChain wsX1_isChain) := goodIn_app (goodIn_of _ (by decide +kernel)) ggX1_sign_X1_isChain
set_option maxRecDepth 20000 in
theorem ggX1_sign_X1_may : GoodIn wsX1_sign wsX1_may := goodIn_r _ [14, 15, 16, 17, 18, 19, 20, 21, 22, 23, 24, 25, 26, 27, 28, 29, 30, 31] (by decide +kernel) (by decide +kernel)
set_option maxRecDepth 20000 in
theorem gX1_sign_X1_may : GoodIn wsX1_sign (wsV RX1 82 RX1 yX1_may wsX1_may) := goodIn_app (goodIn_of _ (by decide +kernel)) ggX1_sign_X1_may
theorem dX1_sign_0 : decode cX1_sign 0 = .ok (.aload_n 0, 1) := by decide +kernel
theorem dX1_sign_1 : decode cX1_sign 1 = .ok (.aload_n 0, 1) := by decide +kernel
theorem dX1_sign_2 : decode cX1_sign 2 = .ok (.iload_n 1, 1) := by decide +kernel
theorem dX1_sign_3 : decode cX1_sign 3 = .ok (.invokevirtual 107, 3) := by decide +kernel
theorem dX1_sign_6 : decode cX1_sign 6 = .ok (.invokevirtual 82, 3) := by decide +kernel
theorem dX1_sign_9 : decode cX1_sign 9 = .ok (.ifCond .ne 5, 3) := by decide +kernel
theorem dX1_sign_12 : decode cX1_sign 12 = .ok (.iconst 0, 1) := by decide +kernel
theorem dX1_sign_13 : decode cX1_sign 13 = .ok (.ireturn, 1) := by decide +kernel
theorem dX1_sign_14 : decode cX1_sign 14 = .ok (.aload_n 0, 1) := by decide +kernel
theorem dX1_sign_15 : decode cX1_sign 15 = .ok (.getfield 32, 3) := by decide +kernel
theorem dX1_sign_18 : decode cX1_sign 18 = .ok (.iload_n 1, 1) := by decide +kernel
theorem dX1_sign_19 : decode cX1_sign 19 = .ok (.aload_n 0, 1) := by decide +kernel
theorem dX1_sign_20 : decode cX1_sign 20 = .ok (.getfield 32, 3) := by decide +kernel
theorem dX1_sign_23 : decode cX1_sign 23 = .ok (.iload_n 1, 1) := by decide +kernel
theorem dX1_sign_24 : decode cX1_sign 24 = .ok (.baload, 1) := by decide +kernel
theorem dX1_sign_25 : decode cX1_sign 25 = .ok (.ifCond .ne 7, 3) := by decide +kernel
theorem dX1_sign_28 : decode cX1_sign 28 = .ok (.iconst 1, 1) := by decide +kernel
theorem dX1_sign_29 : decode cX1_sign 29 = .ok (.goto 4, 3) := by decide +kernel
theorem dX1_sign_32 : decode cX1_sign 32 = .ok (.iconst 0, 1) := by decide +kernel
theorem dX1_sign_33 : decode cX1_sign 33 = .ok (.bastore, 1) := by decide +kernel
theorem dX1_sign_34 : decode cX1_sign 34 = .ok (.aload_n 0, 1) := by decide +kernel
theorem dX1_sign_35 : decode cX1_sign 35 = .ok (.getfield 32, 3) := by decide +kernel
theorem dX1_sign_38 : decode cX1_sign 38 = .ok (.iload_n 1, 1) := by decide +kernel
theorem dX1_sign_39 : decode cX1_sign 39 = .ok (.baload, 1) := by decide +kernel
theorem dX1_sign_40 : decode cX1_sign 40 = .ok (.ireturn, 1) := by decide +kernel
set_option maxRecDepth 20000 in
theorem ggX1_held_X1_isHeld : GoodIn wsX1_held wsX1_isHeld := goodIn_r _ [7, 8, 9, 10, 11, 12, 13, 14, 15, 16, 17, 18, 19, 20, 21, 22, 23, 24, 25, 26, 27] (by decide +kernel) (by decide +kernel)
set_option maxRecDepth 20000 in
theorem gX1_held_X1_isHeld : GoodIn wsX1_held (wsV RX1 96 RX1 yX1_isHeld wsX1_isHeld) := goodIn_app (goodIn_of _ (by decide +kernel)) ggX1_held_X1_isHeld
theorem dX1_held_0 : decode cX1_held 0 = .ok (.aload_n 0, 1) := by decide +kernel
theorem dX1_held_1 : decode cX1_held 1 = .ok (.iconst 0, 1) := by decide +kernel
theorem dX1_held_2 : decode cX1_held 2 = .ok (.putfield 50, 3) := by decide +kernel
theorem dX1_held_5 : decode cX1_held 5 = .ok (.iconst 0, 1) := by decide +kernel
theorem dX1_held_6 : decode cX1_held 6 = .ok (.istore_n 1, 1) := by decide +kernel
theorem dX1_held_7 : decode cX1_held 7 = .ok (.iconst 0, 1) := by decide +kernel
theorem dX1_held_8 : decode cX1_held 8 = .ok (.istore_n 2, 1) := by decide +kernel
theorem dX1_held_9 : decode cX1_held 9 = .ok (.iload_n 2, 1) := by decide +kernel
theorem dX1_held_10 : decode cX1_held 10 = .ok (.aload_n 0, 1) := by decide +kernel
theorem dX1_held_11 : decode cX1_held 11 = .ok (.getfield 58, 3) := by decide +kernel
theorem dX1_held_14 : decode cX1_held 14 = .ok (.if_icmp .ge 27, 3) := by decide +kernel
theorem dX1_held_17 : decode cX1_held 17 = .ok (.iload_n 1, 1) := by decide +kernel
theorem dX1_held_18 : decode cX1_held 18 = .ok (.aload_n 0, 1) := by decide +kernel
theorem dX1_held_19 : decode cX1_held 19 = .ok (.iload_n 2, 1) := by decide +kernel
theorem dX1_held_20 : decode cX1_held 20 = .ok (.invokevirtual 96, 3) := by decide +kernel
theorem dX1_held_23 : decode cX1_held 23 = .ok (.ifCond .eq 9, 3) := by decide +kernel
theorem dX1_held_26 : decode cX1_held 26 = .ok (.iconst 1, 1) := by decide +kernel
theorem dX1_held_27 : decode cX1_held 27 = .ok (.iload_n 2, 1) := by decide +kernel
theorem dX1_held_28 : decode cX1_held 28 = .ok (.ishl, 1) := by decide +kernel
theorem dX1_held_29 : decode cX1_held 29 = .ok (.goto 4, 3) := by decide +kernel
theorem dX1_held_32 : decode cX1_held 32 = .ok (.iconst 0, 1) := by decide +kernel
theorem dX1_held_33 : decode cX1_held 33 = .ok (.ior, 1) := by decide +kernel
theorem dX1_held_34 : decode cX1_held 34 = .ok (.istore_n 1, 1) := by decide +kernel
theorem dX1_held_35 : decode cX1_held 35 = .ok (.iinc 2 1, 3) := by decide +kernel
theorem dX1_held_38 : decode cX1_held 38 = .ok (.goto (-29), 3) := by decide +kernel
theorem dX1_held_41 : decode cX1_held 41 = .ok (.iload_n 1, 1) := by decide +kernel
theorem dX1_held_42 : decode cX1_held 42 = .ok (.ireturn, 1) := by decide +kernel
set_option maxRecDepth 20000 in
theorem ggX1_isPixel_X1_isIn : GoodIn wsX1_isPixel wsX1_isIn := goodIn_r _ [4] (by decide +kernel) (by decide +kernel)
set_option maxRecDepth 20000 in
theorem gX1_isPixel_X1_isIn : GoodIn wsX1_isPixel (va_wsS RX1 54 yX1_isIn wsX1_isIn) := goodIn_app (goodIn_of _ (by decide +kernel)) ggX1_isPixel_X1_isIn
theorem dX1_isPixel_0 : decode cX1_isPixel 0 = .ok (.iload_n 0, 1) := by decide +kernel
theorem dX1_isPixel_1 : decode cX1_isPixel 1 = .ok (.iconst 0, 1) := by decide +kernel
theorem dX1_isPixel_2 : decode cX1_isPixel 2 = .ok (.iconst 5, 1) := by decide +kernel
theorem dX1_isPixel_3 : decode cX1_isPixel 3 = .ok (.invokestatic 54, 3) := by decide +kernel
theorem dX1_isPixel_6 : decode cX1_isPixel 6 = .ok (.ireturn, 1) := by decide +kernel
set_option maxRecDepth 20000 in
theorem ggX1_paint_X1_isPixel : GoodIn wsX1_paint wsX1_isPixel := goodIn_r _ [5, 6, 7, 4, 8] (by decide +kernel) (by decide +kernel)
set_option maxRecDepth 20000 in
theorem gX1_paint_X1_isPixel : GoodIn wsX1_paint (va_wsS RX1 119 yX1_isPixel wsX1_isPixel) := goodIn_app (goodIn_of _ (by decide +kernel)) ggX1_paint_X1_isPixel
set_option maxRecDepth 20000 in
theorem ggX1_paint_X1_isThird : GoodIn wsX1_paint wsX1_isThird := goodIn_r _ [11, 6, 7, 4, 8] (by decide +kernel) (by decide +kernel)
set_option maxRecDepth 20000 in
theorem gX1_paint_X1_isThird : GoodIn wsX1_paint (va_wsS RX1 90 yX1_isThird wsX1_isThird) := goodIn_app (goodIn_of _ (by decide +kernel)) ggX1_paint_X1_isThird
set_option maxRecDepth 20000 in
theorem ggX1_paint_X1_isByte : GoodIn wsX1_paint wsX1_isByte := goodIn_r _ [14, 6, 7, 4, 8] (by decide +kernel) (by decide +kernel)
set_option maxRecDepth 20000 in
theorem gX1_paint_X1_isByte : GoodIn wsX1_paint (va_wsS RX1 93 yX1_isByte wsX1_isByte) := goodIn_app (goodIn_of _ (by decide +kernel)) ggX1_paint_X1_isByte
set_option maxRecDepth 20000 in
theorem ggX1_paint_X1_mayBoth : GoodIn wsX1_paint wsX1_mayBoth := goodIn_r _ [18, 19, 20, 21, 22, 23, 24, 25, 26, 27, 28, 29, 30, 31, 32, 33, 34, 35] (by decide +kernel) (by decide +kernel)
set_option maxRecDepth 20000 in
theorem gX1_paint_X1_mayBoth : GoodIn wsX1_paint (wsV RX1 103 RX1 yX1_mayBoth wsX1_mayBoth) := goodIn_app (goodIn_of _ (by decide +kernel)) ggX1_paint_X1_mayBoth
theorem dX1_paint_0 : decode cX1_paint 0 = .ok (.aload_n 0, 1) := by decide +kernel
theorem dX1_paint_1 : decode cX1_paint 1 = .ok (.iload_n 1, 1) := by decide +kernel
theorem dX1_paint_2 : decode cX1_paint 2 = .ok (.invokestatic 119, 3) := by decide +kernel
theorem dX1_paint_5 : decode cX1_paint 5 = .ok (.ifCond .eq 14, 3) := by decide +kernel
theorem dX1_paint_8 : decode cX1_paint 8 = .ok (.iload_n 2, 1) := by decide +kernel
theorem dX1_paint_9 : decode cX1_paint 9 = .ok (.invokestatic 90, 3) := by decide +kernel
theorem dX1_paint_12 : decode cX1_paint 12 = .ok (.ifCond .eq 7, 3) := by decide +kernel
theorem dX1_paint_15 : decode cX1_paint 15 = .ok (.iconst 1, 1) := by decide +kernel
theorem dX1_paint_16 : decode cX1_paint 16 = .ok (.goto 4, 3) := by decide +kernel
theorem dX1_paint_19 : decode cX1_paint 19 = .ok (.iconst 0, 1) := by decide +kernel
theorem dX1_paint_20 : decode cX1_paint 20 = .ok (.iload_n 3, 1) := by decide +kernel
theorem dX1_paint_21 : decode cX1_paint 21 = .ok (.invokestatic 93, 3) := by decide +kernel
theorem dX1_paint_24 : decode cX1_paint 24 = .ok (.invokevirtual 103, 3) := by decide +kernel
theorem dX1_paint_27 : decode cX1_paint 27 = .ok (.ifCond .ne 5, 3) := by decide +kernel
theorem dX1_paint_30 : decode cX1_paint 30 = .ok (.iconst 0, 1) := by decide +kernel
theorem dX1_paint_31 : decode cX1_paint 31 = .ok (.ireturn, 1) := by decide +kernel
theorem dX1_paint_32 : decode cX1_paint 32 = .ok (.aload_n 0, 1) := by decide +kernel
theorem dX1_paint_33 : decode cX1_paint 33 = .ok (.getfield 38, 3) := by decide +kernel
theorem dX1_paint_36 : decode cX1_paint 36 = .ok (.iconst 3, 1) := by decide +kernel
theorem dX1_paint_37 : decode cX1_paint 37 = .ok (.iload_n 1, 1) := by decide +kernel
theorem dX1_paint_38 : decode cX1_paint 38 = .ok (.imul, 1) := by decide +kernel
theorem dX1_paint_39 : decode cX1_paint 39 = .ok (.iload_n 2, 1) := by decide +kernel
theorem dX1_paint_40 : decode cX1_paint 40 = .ok (.iadd, 1) := by decide +kernel
theorem dX1_paint_41 : decode cX1_paint 41 = .ok (.iaload, 1) := by decide +kernel
theorem dX1_paint_42 : decode cX1_paint 42 = .ok (.istore 4, 2) := by decide +kernel
theorem dX1_paint_44 : decode cX1_paint 44 = .ok (.aload_n 0, 1) := by decide +kernel
theorem dX1_paint_45 : decode cX1_paint 45 = .ok (.getfield 38, 3) := by decide +kernel
theorem dX1_paint_48 : decode cX1_paint 48 = .ok (.iconst 3, 1) := by decide +kernel
theorem dX1_paint_49 : decode cX1_paint 49 = .ok (.iload_n 1, 1) := by decide +kernel
theorem dX1_paint_50 : decode cX1_paint 50 = .ok (.imul, 1) := by decide +kernel
theorem dX1_paint_51 : decode cX1_paint 51 = .ok (.iload_n 2, 1) := by decide +kernel
theorem dX1_paint_52 : decode cX1_paint 52 = .ok (.iadd, 1) := by decide +kernel
theorem dX1_paint_53 : decode cX1_paint 53 = .ok (.iload_n 3, 1) := by decide +kernel
theorem dX1_paint_54 : decode cX1_paint 54 = .ok (.iastore, 1) := by decide +kernel
theorem dX1_paint_55 : decode cX1_paint 55 = .ok (.iload 4, 2) := by decide +kernel
theorem dX1_paint_57 : decode cX1_paint 57 = .ok (.ireturn, 1) := by decide +kernel
set_option maxRecDepth 20000 in
theorem ggX1_spot_X1_isPixel : GoodIn wsX1_spot wsX1_isPixel := goodIn_r _ [5, 6, 7, 4, 8] (by decide +kernel) (by decide +kernel)
set_option maxRecDepth 20000 in
theorem gX1_spot_X1_isPixel : GoodIn wsX1_spot (va_wsS RX1 119 yX1_isPixel wsX1_isPixel) := goodIn_app (goodIn_of _ (by decide +kernel)) ggX1_spot_X1_isPixel
set_option maxRecDepth 20000 in
theorem ggX1_spot_X1_isThird : GoodIn wsX1_spot wsX1_isThird := goodIn_r _ [11, 6, 7, 4, 8] (by decide +kernel) (by decide +kernel)
set_option maxRecDepth 20000 in
theorem gX1_spot_X1_isThird : GoodIn wsX1_spot (va_wsS RX1 90 yX1_isThird wsX1_isThird) := goodIn_app (goodIn_of _ (by decide +kernel)) ggX1_spot_X1_isThird
set_option maxRecDepth 20000 in
theorem ggX1_spot_X1_isByte : GoodIn wsX1_spot wsX1_isByte := goodIn_r _ [14, 6, 7, 4, 8] (by decide +kernel) (by decide +kernel)
set_option maxRecDepth 20000 in
theorem gX1_spot_X1_isByte : GoodIn wsX1_spot (va_wsS RX1 93 yX1_isByte wsX1_isByte) := goodIn_app (goodIn_of _ (by decide +kernel)) ggX1_spot_X1_isByte
set_option maxRecDepth 20000 in
theorem ggX1_spot_X1_mayBoth : GoodIn wsX1_spot wsX1_mayBoth := goodIn_r _ [18, 19, 20, 21, 22, 23, 24, 25, 26, 27, 28, 29, 30, 31, 32, 33, 34, 35] (by decide +kernel) (by decide +kernel)
set_option maxRecDepth 20000 in
theorem gX1_spot_X1_mayBoth : GoodIn wsX1_spot (wsV RX1 103 RX1 yX1_mayBoth wsX1_mayBoth) := goodIn_app (goodIn_of _ (by decide +kernel)) ggX1_spot_X1_mayBoth
theorem dX1_spot_0 : decode cX1_spot 0 = .ok (.aload_n 0, 1) := by decide +kernel
theorem dX1_spot_1 : decode cX1_spot 1 = .ok (.iload_n 1, 1) := by decide +kernel
theorem dX1_spot_2 : decode cX1_spot 2 = .ok (.invokestatic 119, 3) := by decide +kernel
theorem dX1_spot_5 : decode cX1_spot 5 = .ok (.ifCond .eq 14, 3) := by decide +kernel
theorem dX1_spot_8 : decode cX1_spot 8 = .ok (.iload_n 2, 1) := by decide +kernel
theorem dX1_spot_9 : decode cX1_spot 9 = .ok (.invokestatic 90, 3) := by decide +kernel
theorem dX1_spot_12 : decode cX1_spot 12 = .ok (.ifCond .eq 7, 3) := by decide +kernel
theorem dX1_spot_15 : decode cX1_spot 15 = .ok (.iconst 1, 1) := by decide +kernel
theorem dX1_spot_16 : decode cX1_spot 16 = .ok (.goto 4, 3) := by decide +kernel
theorem dX1_spot_19 : decode cX1_spot 19 = .ok (.iconst 0, 1) := by decide +kernel
theorem dX1_spot_20 : decode cX1_spot 20 = .ok (.iload_n 3, 1) := by decide +kernel
theorem dX1_spot_21 : decode cX1_spot 21 = .ok (.invokestatic 93, 3) := by decide +kernel
theorem dX1_spot_24 : decode cX1_spot 24 = .ok (.invokevirtual 103, 3) := by decide +kernel
theorem dX1_spot_27 : decode cX1_spot 27 = .ok (.ifCond .ne 5, 3) := by decide +kernel
theorem dX1_spot_30 : decode cX1_spot 30 = .ok (.iconst 0, 1) := by decide +kernel
theorem dX1_spot_31 : decode cX1_spot 31 = .ok (.ireturn, 1) := by decide +kernel
theorem dX1_spot_32 : decode cX1_spot 32 = .ok (.aload_n 0, 1) := by decide +kernel
theorem dX1_spot_33 : decode cX1_spot 33 = .ok (.getfield 41, 3) := by decide +kernel
theorem dX1_spot_36 : decode cX1_spot 36 = .ok (.iconst 3, 1) := by decide +kernel
theorem dX1_spot_37 : decode cX1_spot 37 = .ok (.iload_n 1, 1) := by decide +kernel
theorem dX1_spot_38 : decode cX1_spot 38 = .ok (.imul, 1) := by decide +kernel
theorem dX1_spot_39 : decode cX1_spot 39 = .ok (.iload_n 2, 1) := by decide +kernel
theorem dX1_spot_40 : decode cX1_spot 40 = .ok (.iadd, 1) := by decide +kernel
theorem dX1_spot_41 : decode cX1_spot 41 = .ok (.iaload, 1) := by decide +kernel
theorem dX1_spot_42 : decode cX1_spot 42 = .ok (.istore 4, 2) := by decide +kernel
theorem dX1_spot_44 : decode cX1_spot 44 = .ok (.aload_n 0, 1) := by decide +kernel
theorem dX1_spot_45 : decode cX1_spot 45 = .ok (.getfield 41, 3) := by decide +kernel
theorem dX1_spot_48 : decode cX1_spot 48 = .ok (.iconst 3, 1) := by decide +kernel
theorem dX1_spot_49 : decode cX1_spot 49 = .ok (.iload_n 1, 1) := by decide +kernel
theorem dX1_spot_50 : decode cX1_spot 50 = .ok (.imul, 1) := by decide +kernel
theorem dX1_spot_51 : decode cX1_spot 51 = .ok (.iload_n 2, 1) := by decide +kernel
theorem dX1_spot_52 : decode cX1_spot 52 = .ok (.iadd, 1) := by decide +kernel
theorem dX1_spot_53 : decode cX1_spot 53 = .ok (.iload_n 3, 1) := by decide +kernel
theorem dX1_spot_54 : decode cX1_spot 54 = .ok (.iastore, 1) := by decide +kernel
theorem dX1_spot_55 : decode cX1_spot 55 = .ok (.iload 4, 2) := by decide +kernel
theorem dX1_spot_57 : decode cX1_spot 57 = .ok (.ireturn, 1) := by decide +kernel
set_option maxRecDepth 20000 in
theorem ggX1_mix_X1_isThird : GoodIn wsX1_mix wsX1_isThird := goodIn_r _ [5, 6, 7, 4, 8] (by decide +kernel) (by decide +kernel)
set_option maxRecDepth 20000 in
theorem gX1_mix_X1_isThird : GoodIn wsX1_mix (va_wsS RX1 90 yX1_isThird wsX1_isThird) := goodIn_app (goodIn_of _ (by decide +kernel)) ggX1_mix_X1_isThird
set_option maxRecDepth 20000 in
theorem ggX1_mix_X1_isByte : GoodIn wsX1_mix wsX1_isByte := goodIn_r _ [11, 6, 7, 4, 8] (by decide +kernel) (by decide +kernel)
set_option maxRecDepth 20000 in
theorem gX1_mix_X1_isByte : GoodIn wsX1_mix (va_wsS RX1 93 yX1_isByte wsX1_isByte) := goodIn_app (goodIn_of _ (by decide +kernel)) ggX1_mix_X1_isByte
set_option maxRecDepth 20000 in
theorem ggX1_mix_X1_mayBoth : GoodIn wsX1_mix wsX1_mayBoth := goodIn_r _ [15, 16, 17, 18, 19, 20, 21, 22, 23, 24, 25, 26, 27, 28, 29, 30, 31, 32] (by decide +kernel) (by decide +kernel)
set_option maxRecDepth 20000 in
theorem gX1_mix_X1_mayBoth : GoodIn wsX1_mix (wsV RX1 103 RX1 yX1_mayBoth wsX1_mayBoth) := goodIn_app (goodIn_of _ (by decide +kernel)) ggX1_mix_X1_mayBoth
theorem dX1_mix_0 : decode cX1_mix 0 = .ok (.aload_n 0, 1) := by decide +kernel
theorem dX1_mix_1 : decode cX1_mix 1 = .ok (.iload_n 1, 1) := by decide +kernel
theorem dX1_mix_2 : decode cX1_mix 2 = .ok (.invokestatic 90, 3) := by decide +kernel
theorem dX1_mix_5 : decode cX1_mix 5 = .ok (.ifCond .eq 14, 3) := by decide +kernel
theorem dX1_mix_8 : decode cX1_mix 8 = .ok (.iload_n 2, 1) := by decide +kernel
theorem dX1_mix_9 : decode cX1_mix 9 = .ok (.invokestatic 90, 3) := by decide +kernel
theorem dX1_mix_12 : decode cX1_mix 12 = .ok (.ifCond .eq 7, 3) := by decide +kernel
theorem dX1_mix_15 : decode cX1_mix 15 = .ok (.iconst 1, 1) := by decide +kernel
theorem dX1_mix_16 : decode cX1_mix 16 = .ok (.goto 4, 3) := by decide +kernel
theorem dX1_mix_19 : decode cX1_mix 19 = .ok (.iconst 0, 1) := by decide +kernel
theorem dX1_mix_20 : decode cX1_mix 20 = .ok (.iload_n 3, 1) := by decide +kernel
theorem dX1_mix_21 : decode cX1_mix 21 = .ok (.invokestatic 93, 3) := by decide +kernel
theorem dX1_mix_24 : decode cX1_mix 24 = .ok (.invokevirtual 103, 3) := by decide +kernel
theorem dX1_mix_27 : decode cX1_mix 27 = .ok (.ifCond .ne 5, 3) := by decide +kernel
theorem dX1_mix_30 : decode cX1_mix 30 = .ok (.iconst 0, 1) := by decide +kernel
theorem dX1_mix_31 : decode cX1_mix 31 = .ok (.ireturn, 1) := by decide +kernel
theorem dX1_mix_32 : decode cX1_mix 32 = .ok (.aload_n 0, 1) := by decide +kernel
theorem dX1_mix_33 : decode cX1_mix 33 = .ok (.getfield 44, 3) := by decide +kernel
theorem dX1_mix_36 : decode cX1_mix 36 = .ok (.iconst 3, 1) := by decide +kernel
theorem dX1_mix_37 : decode cX1_mix 37 = .ok (.iload_n 1, 1) := by decide +kernel
theorem dX1_mix_38 : decode cX1_mix 38 = .ok (.imul, 1) := by decide +kernel
theorem dX1_mix_39 : decode cX1_mix 39 = .ok (.iload_n 2, 1) := by decide +kernel
theorem dX1_mix_40 : decode cX1_mix 40 = .ok (.iadd, 1) := by decide +kernel
theorem dX1_mix_41 : decode cX1_mix 41 = .ok (.iaload, 1) := by decide +kernel
theorem dX1_mix_42 : decode cX1_mix 42 = .ok (.istore 4, 2) := by decide +kernel
theorem dX1_mix_44 : decode cX1_mix 44 = .ok (.aload_n 0, 1) := by decide +kernel
theorem dX1_mix_45 : decode cX1_mix 45 = .ok (.getfield 44, 3) := by decide +kernel
theorem dX1_mix_48 : decode cX1_mix 48 = .ok (.iconst 3, 1) := by decide +kernel
theorem dX1_mix_49 : decode cX1_mix 49 = .ok (.iload_n 1, 1) := by decide +kernel
theorem dX1_mix_50 : decode cX1_mix 50 = .ok (.imul, 1) := by decide +kernel
theorem dX1_mix_51 : decode cX1_mix 51 = .ok (.iload_n 2, 1) := by decide +kernel
theorem dX1_mix_52 : decode cX1_mix 52 = .ok (.iadd, 1) := by decide +kernel
theorem dX1_mix_53 : decode cX1_mix 53 = .ok (.iload_n 3, 1) := by decide +kernel
theorem dX1_mix_54 : decode cX1_mix 54 = .ok (.iastore, 1) := by decide +kernel
theorem dX1_mix_55 : decode cX1_mix 55 = .ok (.iload 4, 2) := by decide +kernel
theorem dX1_mix_57 : decode cX1_mix 57 = .ok (.ireturn, 1) := by decide +kernel
set_option maxRecDepth 20000 in
theorem ggX1_shown_X1_isChain : GoodIn wsX1_shown wsX1_isChain := goodIn_r _ [8, 9, 10, 11, 7, 12, 53, 54, 55, 56, 57, 58, 59, 60, 61, 62, 63, 64, 65, 66, 67, 68] (by decide +kernel) (by decide +kernel)
set_option maxRecDepth 20000 in
theorem gX1_shown_X1_isChain : GoodIn wsX1_shown (wsV RX1 107 RX1 yX1_isChain wsX1_isChain) := goodIn_app (goodIn_of _ (by decide +kernel)) ggX1_shown_X1_isChain
set_option maxRecDepth 20000 in
theorem ggX1_shown_X1_isPixel : GoodIn wsX1_shown wsX1_isPixel := goodIn_r _ [15, 10, 11, 7, 12] (by decide +kernel) (by decide +kernel)
set_option maxRecDepth 20000 in
theorem gX1_shown_X1_isPixel : GoodIn wsX1_shown (va_wsS RX1 119 yX1_isPixel wsX1_isPixel) := goodIn_app (goodIn_of _ (by decide +kernel)) ggX1_shown_X1_isPixel
set_option maxRecDepth 20000 in
theorem ggX1_shown_X1_isThird : GoodIn wsX1_shown wsX1_isThird := goodIn_r _ [18, 10, 11, 7, 12] (by decide +kernel) (by decide +kernel)
set_option maxRecDepth 20000 in
theorem gX1_shown_X1_isThird : GoodIn wsX1_shown (va_wsS RX1 90 yX1_isThird wsX1_isThird) := goodIn_app (goodIn_of _ (by decide +kernel)) ggX1_shown_X1_isThird
set_option maxRecDepth 20000 in
theorem ggX1_shown_X1_isIn : GoodIn wsX1_shown wsX1_isIn := goodIn_r _ [12] (by decide +kernel) (by decide +kernel)
set_option maxRecDepth 20000 in
theorem gX1_shown_X1_isIn : GoodIn wsX1_shown (va_wsS RX1 54 yX1_isIn wsX1_isIn) := goodIn_app (goodIn_of _ (by decide +kernel)) ggX1_shown_X1_isIn
set_option maxRecDepth 20000 in
theorem ggX1_shown_X1_mayBoth : GoodIn wsX1_shown wsX1_mayBoth := goodIn_r _ [22, 23, 53, 54, 55, 56, 57, 58, 59, 60, 61, 62, 63, 64, 65, 66, 67, 68] (by decide +kernel) (by decide +kernel)
set_option maxRecDepth 20000 in
theorem gX1_shown_X1_mayBoth : GoodIn wsX1_shown (wsV RX1 103 RX1 yX1_mayBoth wsX1_mayBoth) := goodIn_app (goodIn_of _ (by decide +kernel)) ggX1_shown_X1_mayBoth
set_option maxRecDepth 20000 in
theorem ggX1_shown_X1_throughOf : GoodIn wsX1_shown wsX1_throughOf := goodIn_r _ [27, 28, 29, 30, 31, 32, 7, 33, 34, 35, 36, 37, 38, 39, 40, 41, 42, 43, 44, 45, 46, 47, 48, 49, 50, 51, 52, 53, 54, 55, 56, 57, 58, 59, 60, 61, 62, 63, 64, 65, 66, 67, 68] (by decide +kernel) (by decide +kernel)
set_option maxRecDepth 20000 in
theorem gX1_shown_X1_throughOf : GoodIn wsX1_shown (wsV RX1 110 RX1 yX1_throughOf wsX1_throughOf) := goodIn_app (goodIn_of _ (by decide +kernel)) ggX1_shown_X1_throughOf
theorem dX1_shown_0 : decode cX1_shown 0 = .ok (.aload_n 0, 1) := by decide +kernel
theorem dX1_shown_1 : decode cX1_shown 1 = .ok (.aload_n 0, 1) := by decide +kernel
theorem dX1_shown_2 : decode cX1_shown 2 = .ok (.iload_n 1, 1) := by decide +kernel
theorem dX1_shown_3 : decode cX1_shown 3 = .ok (.invokevirtual 107, 3) := by decide +kernel
theorem dX1_shown_6 : decode cX1_shown 6 = .ok (.ifCond .eq 21, 3) := by decide +kernel
theorem dX1_shown_9 : decode cX1_shown 9 = .ok (.iload_n 2, 1) := by decide +kernel
theorem dX1_shown_10 : decode cX1_shown 10 = .ok (.invokestatic 119, 3) := by decide +kernel
theorem dX1_shown_13 : decode cX1_shown 13 = .ok (.ifCond .eq 14, 3) := by decide +kernel
theorem dX1_shown_16 : decode cX1_shown 16 = .ok (.iload_n 3, 1) := by decide +kernel
theorem dX1_shown_17 : decode cX1_shown 17 = .ok (.invokestatic 90, 3) := by decide +kernel
theorem dX1_shown_20 : decode cX1_shown 20 = .ok (.ifCond .eq 7, 3) := by decide +kernel
theorem dX1_shown_23 : decode cX1_shown 23 = .ok (.iconst 1, 1) := by decide +kernel
theorem dX1_shown_24 : decode cX1_shown 24 = .ok (.goto 4, 3) := by decide +kernel
theorem dX1_shown_27 : decode cX1_shown 27 = .ok (.iconst 0, 1) := by decide +kernel
theorem dX1_shown_28 : decode cX1_shown 28 = .ok (.iload 4, 2) := by decide +kernel
theorem dX1_shown_30 : decode cX1_shown 30 = .ok (.iconst 0, 1) := by decide +kernel
theorem dX1_shown_31 : decode cX1_shown 31 = .ok (.bipush 7, 2) := by decide +kernel
theorem dX1_shown_33 : decode cX1_shown 33 = .ok (.invokestatic 54, 3) := by decide +kernel
theorem dX1_shown_36 : decode cX1_shown 36 = .ok (.invokevirtual 103, 3) := by decide +kernel
theorem dX1_shown_39 : decode cX1_shown 39 = .ok (.ifCond .ne 5, 3) := by decide +kernel
theorem dX1_shown_42 : decode cX1_shown 42 = .ok (.iconst 0, 1) := by decide +kernel
theorem dX1_shown_43 : decode cX1_shown 43 = .ok (.ireturn, 1) := by decide +kernel
theorem dX1_shown_44 : decode cX1_shown 44 = .ok (.aload_n 0, 1) := by decide +kernel
theorem dX1_shown_45 : decode cX1_shown 45 = .ok (.getfield 38, 3) := by decide +kernel
theorem dX1_shown_48 : decode cX1_shown 48 = .ok (.iconst 3, 1) := by decide +kernel
theorem dX1_shown_49 : decode cX1_shown 49 = .ok (.iload_n 2, 1) := by decide +kernel
theorem dX1_shown_50 : decode cX1_shown 50 = .ok (.imul, 1) := by decide +kernel
theorem dX1_shown_51 : decode cX1_shown 51 = .ok (.iload_n 3, 1) := by decide +kernel
theorem dX1_shown_52 : decode cX1_shown 52 = .ok (.iadd, 1) := by decide +kernel
theorem dX1_shown_53 : decode cX1_shown 53 = .ok (.iaload, 1) := by decide +kernel
theorem dX1_shown_54 : decode cX1_shown 54 = .ok (.istore 5, 2) := by decide +kernel
theorem dX1_shown_56 : decode cX1_shown 56 = .ok (.iconst 0, 1) := by decide +kernel
theorem dX1_shown_57 : decode cX1_shown 57 = .ok (.istore 6, 2) := by decide +kernel
theorem dX1_shown_59 : decode cX1_shown 59 = .ok (.iload 6, 2) := by decide +kernel
theorem dX1_shown_61 : decode cX1_shown 61 = .ok (.iconst 3, 1) := by decide +kernel
theorem dX1_shown_62 : decode cX1_shown 62 = .ok (.if_icmp .ge 69, 3) := by decide +kernel
theorem dX1_shown_65 : decode cX1_shown 65 = .ok (.iload 4, 2) := by decide +kernel
theorem dX1_shown_67 : decode cX1_shown 67 = .ok (.iload 6, 2) := by decide +kernel
theorem dX1_shown_69 : decode cX1_shown 69 = .ok (.ishr, 1) := by decide +kernel
theorem dX1_shown_70 : decode cX1_shown 70 = .ok (.iconst 1, 1) := by decide +kernel
theorem dX1_shown_71 : decode cX1_shown 71 = .ok (.iand, 1) := by decide +kernel
theorem dX1_shown_72 : decode cX1_shown 72 = .ok (.ifCond .ne 53, 3) := by decide +kernel
theorem dX1_shown_75 : decode cX1_shown 75 = .ok (.iload 5, 2) := by decide +kernel
theorem dX1_shown_77 : decode cX1_shown 77 = .ok (.aload_n 0, 1) := by decide +kernel
theorem dX1_shown_78 : decode cX1_shown 78 = .ok (.getfield 44, 3) := by decide +kernel
theorem dX1_shown_81 : decode cX1_shown 81 = .ok (.iconst 3, 1) := by decide +kernel
theorem dX1_shown_82 : decode cX1_shown 82 = .ok (.iload 6, 2) := by decide +kernel
theorem dX1_shown_84 : decode cX1_shown 84 = .ok (.imul, 1) := by decide +kernel
theorem dX1_shown_85 : decode cX1_shown 85 = .ok (.iload_n 3, 1) := by decide +kernel
theorem dX1_shown_86 : decode cX1_shown 86 = .ok (.iadd, 1) := by decide +kernel
theorem dX1_shown_87 : decode cX1_shown 87 = .ok (.iaload, 1) := by decide +kernel
theorem dX1_shown_88 : decode cX1_shown 88 = .ok (.aload_n 0, 1) := by decide +kernel
theorem dX1_shown_89 : decode cX1_shown 89 = .ok (.getfield 41, 3) := by decide +kernel
theorem dX1_shown_92 : decode cX1_shown 92 = .ok (.iconst 3, 1) := by decide +kernel
theorem dX1_shown_93 : decode cX1_shown 93 = .ok (.iload_n 2, 1) := by decide +kernel
theorem dX1_shown_94 : decode cX1_shown 94 = .ok (.imul, 1) := by decide +kernel
theorem dX1_shown_95 : decode cX1_shown 95 = .ok (.iload 6, 2) := by decide +kernel
theorem dX1_shown_97 : decode cX1_shown 97 = .ok (.iadd, 1) := by decide +kernel
theorem dX1_shown_98 : decode cX1_shown 98 = .ok (.iaload, 1) := by decide +kernel
theorem dX1_shown_99 : decode cX1_shown 99 = .ok (.imul, 1) := by decide +kernel
theorem dX1_shown_100 : decode cX1_shown 100 = .ok (.sipush 255, 3) := by decide +kernel
theorem dX1_shown_103 : decode cX1_shown 103 = .ok (.idiv, 1) := by decide +kernel
theorem dX1_shown_104 : decode cX1_shown 104 = .ok (.iadd, 1) := by decide +kernel
theorem dX1_shown_105 : decode cX1_shown 105 = .ok (.istore 5, 2) := by decide +kernel
theorem dX1_shown_107 : decode cX1_shown 107 = .ok (.iload 5, 2) := by decide +kernel
theorem dX1_shown_109 : decode cX1_shown 109 = .ok (.sipush 255, 3) := by decide +kernel
theorem dX1_shown_112 : decode cX1_shown 112 = .ok (.if_icmp .le 9, 3) := by decide +kernel
theorem dX1_shown_115 : decode cX1_shown 115 = .ok (.sipush 255, 3) := by decide +kernel
theorem dX1_shown_118 : decode cX1_shown 118 = .ok (.goto 5, 3) := by decide +kernel
theorem dX1_shown_121 : decode cX1_shown 121 = .ok (.iload 5, 2) := by decide +kernel
theorem dX1_shown_123 : decode cX1_shown 123 = .ok (.istore 5, 2) := by decide +kernel
theorem dX1_shown_125 : decode cX1_shown 125 = .ok (.iinc 6 1, 3) := by decide +kernel
theorem dX1_shown_128 : decode cX1_shown 128 = .ok (.goto (-69), 3) := by decide +kernel
theorem dX1_shown_131 : decode cX1_shown 131 = .ok (.aload_n 0, 1) := by decide +kernel
theorem dX1_shown_132 : decode cX1_shown 132 = .ok (.iload_n 1, 1) := by decide +kernel
theorem dX1_shown_133 : decode cX1_shown 133 = .ok (.iload_n 3, 1) := by decide +kernel
theorem dX1_shown_134 : decode cX1_shown 134 = .ok (.iload 5, 2) := by decide +kernel
theorem dX1_shown_136 : decode cX1_shown 136 = .ok (.invokevirtual 110, 3) := by decide +kernel
theorem dX1_shown_139 : decode cX1_shown 139 = .ok (.ireturn, 1) := by decide +kernel
theorem dJ9_floorDiv_7cf53_0 : decode cJ9_floorDiv_7cf53 0 = .ok (.iload_n 0, 1) := by decide +kernel
theorem dJ9_floorDiv_7cf53_1 : decode cJ9_floorDiv_7cf53 1 = .ok (.iload_n 1, 1) := by decide +kernel
theorem dJ9_floorDiv_7cf53_2 : decode cJ9_floorDiv_7cf53 2 = .ok (.idiv, 1) := by decide +kernel
theorem dJ9_floorDiv_7cf53_3 : decode cJ9_floorDiv_7cf53 3 = .ok (.istore_n 2, 1) := by decide +kernel
theorem dJ9_floorDiv_7cf53_4 : decode cJ9_floorDiv_7cf53 4 = .ok (.iload_n 0, 1) := by decide +kernel
theorem dJ9_floorDiv_7cf53_5 : decode cJ9_floorDiv_7cf53 5 = .ok (.iload_n 1, 1) := by decide +kernel
theorem dJ9_floorDiv_7cf53_6 : decode cJ9_floorDiv_7cf53 6 = .ok (.ixor, 1) := by decide +kernel
theorem dJ9_floorDiv_7cf53_7 : decode cJ9_floorDiv_7cf53 7 = .ok (.ifCond .ge 14, 3) := by decide +kernel
theorem dJ9_floorDiv_7cf53_10 : decode cJ9_floorDiv_7cf53 10 = .ok (.iload_n 2, 1) := by decide +kernel
theorem dJ9_floorDiv_7cf53_11 : decode cJ9_floorDiv_7cf53 11 = .ok (.iload_n 1, 1) := by decide +kernel
theorem dJ9_floorDiv_7cf53_12 : decode cJ9_floorDiv_7cf53 12 = .ok (.imul, 1) := by decide +kernel
theorem dJ9_floorDiv_7cf53_13 : decode cJ9_floorDiv_7cf53 13 = .ok (.iload_n 0, 1) := by decide +kernel
theorem dJ9_floorDiv_7cf53_14 : decode cJ9_floorDiv_7cf53 14 = .ok (.if_icmp .eq 7, 3) := by decide +kernel
theorem dJ9_floorDiv_7cf53_17 : decode cJ9_floorDiv_7cf53 17 = .ok (.iload_n 2, 1) := by decide +kernel
theorem dJ9_floorDiv_7cf53_18 : decode cJ9_floorDiv_7cf53 18 = .ok (.iconst 1, 1) := by decide +kernel
theorem dJ9_floorDiv_7cf53_19 : decode cJ9_floorDiv_7cf53 19 = .ok (.isub, 1) := by decide +kernel
theorem dJ9_floorDiv_7cf53_20 : decode cJ9_floorDiv_7cf53 20 = .ok (.ireturn, 1) := by decide +kernel
theorem dJ9_floorDiv_7cf53_21 : decode cJ9_floorDiv_7cf53 21 = .ok (.iload_n 2, 1) := by decide +kernel
theorem dJ9_floorDiv_7cf53_22 : decode cJ9_floorDiv_7cf53 22 = .ok (.ireturn, 1) := by decide +kernel
theorem dJ9_abs_0f7a4_0 : decode cJ9_abs_0f7a4 0 = .ok (.iload_n 0, 1) := by decide +kernel
theorem dJ9_abs_0f7a4_1 : decode cJ9_abs_0f7a4 1 = .ok (.ifCond .ge 8, 3) := by decide +kernel
theorem dJ9_abs_0f7a4_4 : decode cJ9_abs_0f7a4 4 = .ok (.iload_n 0, 1) := by decide +kernel
theorem dJ9_abs_0f7a4_5 : decode cJ9_abs_0f7a4 5 = .ok (.ineg, 1) := by decide +kernel
theorem dJ9_abs_0f7a4_6 : decode cJ9_abs_0f7a4 6 = .ok (.goto 4, 3) := by decide +kernel
theorem dJ9_abs_0f7a4_9 : decode cJ9_abs_0f7a4 9 = .ok (.iload_n 0, 1) := by decide +kernel
theorem dJ9_abs_0f7a4_10 : decode cJ9_abs_0f7a4 10 = .ok (.ireturn, 1) := by decide +kernel
theorem dJ9_max_7cf53_0 : decode cJ9_max_7cf53 0 = .ok (.iload_n 0, 1) := by decide +kernel
theorem dJ9_max_7cf53_1 : decode cJ9_max_7cf53 1 = .ok (.iload_n 1, 1) := by decide +kernel
theorem dJ9_max_7cf53_2 : decode cJ9_max_7cf53 2 = .ok (.if_icmp .lt 7, 3) := by decide +kernel
theorem dJ9_max_7cf53_5 : decode cJ9_max_7cf53 5 = .ok (.iload_n 0, 1) := by decide +kernel
theorem dJ9_max_7cf53_6 : decode cJ9_max_7cf53 6 = .ok (.goto 4, 3) := by decide +kernel
theorem dJ9_max_7cf53_9 : decode cJ9_max_7cf53 9 = .ok (.iload_n 1, 1) := by decide +kernel
theorem dJ9_max_7cf53_10 : decode cJ9_max_7cf53 10 = .ok (.ireturn, 1) := by decide +kernel
theorem dJ9_min_7cf53_0 : decode cJ9_min_7cf53 0 = .ok (.iload_n 0, 1) := by decide +kernel
theorem dJ9_min_7cf53_1 : decode cJ9_min_7cf53 1 = .ok (.iload_n 1, 1) := by decide +kernel
theorem dJ9_min_7cf53_2 : decode cJ9_min_7cf53 2 = .ok (.if_icmp .gt 7, 3) := by decide +kernel
theorem dJ9_min_7cf53_5 : decode cJ9_min_7cf53 5 = .ok (.iload_n 0, 1) := by decide +kernel
theorem dJ9_min_7cf53_6 : decode cJ9_min_7cf53 6 = .ok (.goto 4, 3) := by decide +kernel
theorem dJ9_min_7cf53_9 : decode cJ9_min_7cf53 9 = .ok (.iload_n 1, 1) := by decide +kernel
theorem dJ9_min_7cf53_10 : decode cJ9_min_7cf53 10 = .ok (.ireturn, 1) := by decide +kernel
set_option maxRecDepth 20000 in
theorem ggL_profile_X0_profile : GoodIn wsL_profile wsX0_profile := goodIn_ca (goodIn_r _ [6, 7, 8, 9, 10, 11, 12, 13, 14, 15, 5, 16, 17, 18, 19, 20, 21, 22, 23, 24, 25, 26, 27, 28, 29, 30, 31, 32, 33, 34, 35, 36, 37, 38] (by decide +kernel) (by decide +kernel)) (goodIn_sub (fun _ h => List.mem_cons_of_mem _ (List.mem_append_right _ h)) (by decide +kernel))
set_option maxRecDepth 20000 in
theorem gL_profile_X0_profile : GoodIn wsL_profile (wsV RL 7 RX0 yX0_profile wsX0_profile) := goodIn_app (goodIn_of _ (by decide +kernel)) ggL_profile_X0_profile
theorem dL_profile_0 : decode cL_profile 0 = .ok (.aload_n 1, 1) := by decide +kernel
theorem dL_profile_1 : decode cL_profile 1 = .ok (.iconst 0, 1) := by decide +kernel
theorem dL_profile_2 : decode cL_profile 2 = .ok (.aload_n 0, 1) := by decide +kernel
theorem dL_profile_3 : decode cL_profile 3 = .ok (.invokevirtual 7, 3) := by decide +kernel
theorem dL_profile_6 : decode cL_profile 6 = .ok (.i2l, 1) := by decide +kernel
theorem dL_profile_7 : decode cL_profile 7 = .ok (.lastore, 1) := by decide +kernel
theorem dL_profile_8 : decode cL_profile 8 = .ok (.goto 6, 3) := by decide +kernel
theorem dL_profile_11 : decode cL_profile 11 = .ok (.astore_n 2, 1) := by decide +kernel
theorem dL_profile_12 : decode cL_profile 12 = .ok (.iconst 1, 1) := by decide +kernel
theorem dL_profile_13 : decode cL_profile 13 = .ok (.ireturn, 1) := by decide +kernel
theorem dL_profile_14 : decode cL_profile 14 = .ok (.iconst 0, 1) := by decide +kernel
theorem dL_profile_15 : decode cL_profile 15 = .ok (.ireturn, 1) := by decide +kernel
set_option maxRecDepth 20000 in
theorem ggL_bend_X0_bend : GoodIn wsL_bend wsX0_bend := goodIn_ca (goodIn_ca (goodIn_ca (goodIn_r _ [8, 9, 10, 11, 12, 13, 14, 7, 15, 16, 17, 18, 19, 20, 21, 22, 23, 24, 25, 26, 27, 28, 29, 30, 31, 32, 33, 34, 35, 36, 37, 38, 39, 40, 41, 42, 43, 44, 45, 46, 47, 48, 49, 50, 51, 52, 53, 54, 55, 56, 57, 58, 59, 60, 61, 62, 63, 64, 65] (by decide +kernel) (by decide +kernel)) (goodIn_sub (fun _ h => List.mem_cons_of_mem _ (List.mem_append_left _ (List.mem_append_left _ (List.mem_append_right _ h)))) (by decide +kernel))) (goodIn_sub (fun _ h => List.mem_cons_of_mem _ (List.mem_append_left _ (List.mem_append_right _ h))) (by decide +kernel))) (goodIn_sub (fun _ h => List.mem_cons_of_mem _ (List.mem_append_right _ h)) (by decide +kernel))
set_option maxRecDepth 20000 in
theorem gL_bend_X0_bend : GoodIn wsL_bend (wsV RL 15 RX0 yX0_bend wsX0_bend) := goodIn_app (goodIn_of _ (by decide +kernel)) ggL_bend_X0_bend
theorem dL_bend_0 : decode cL_bend 0 = .ok (.aload 5, 2) := by decide +kernel
theorem dL_bend_2 : decode cL_bend 2 = .ok (.iconst 0, 1) := by decide +kernel
theorem dL_bend_3 : decode cL_bend 3 = .ok (.aload_n 0, 1) := by decide +kernel
theorem dL_bend_4 : decode cL_bend 4 = .ok (.iload_n 1, 1) := by decide +kernel
theorem dL_bend_5 : decode cL_bend 5 = .ok (.iload_n 2, 1) := by decide +kernel
theorem dL_bend_6 : decode cL_bend 6 = .ok (.iload_n 3, 1) := by decide +kernel
theorem dL_bend_7 : decode cL_bend 7 = .ok (.iload 4, 2) := by decide +kernel
theorem dL_bend_9 : decode cL_bend 9 = .ok (.invokevirtual 15, 3) := by decide +kernel
theorem dL_bend_12 : decode cL_bend 12 = .ok (.i2l, 1) := by decide +kernel
theorem dL_bend_13 : decode cL_bend 13 = .ok (.lastore, 1) := by decide +kernel
theorem dL_bend_14 : decode cL_bend 14 = .ok (.goto 15, 3) := by decide +kernel
theorem dL_bend_17 : decode cL_bend 17 = .ok (.astore 6, 2) := by decide +kernel
theorem dL_bend_19 : decode cL_bend 19 = .ok (.iconst 1, 1) := by decide +kernel
theorem dL_bend_20 : decode cL_bend 20 = .ok (.ireturn, 1) := by decide +kernel
theorem dL_bend_21 : decode cL_bend 21 = .ok (.astore 6, 2) := by decide +kernel
theorem dL_bend_23 : decode cL_bend 23 = .ok (.iconst 2, 1) := by decide +kernel
theorem dL_bend_24 : decode cL_bend 24 = .ok (.ireturn, 1) := by decide +kernel
theorem dL_bend_25 : decode cL_bend 25 = .ok (.astore 6, 2) := by decide +kernel
theorem dL_bend_27 : decode cL_bend 27 = .ok (.iconst 3, 1) := by decide +kernel
theorem dL_bend_28 : decode cL_bend 28 = .ok (.ireturn, 1) := by decide +kernel
theorem dL_bend_29 : decode cL_bend 29 = .ok (.iconst 0, 1) := by decide +kernel
theorem dL_bend_30 : decode cL_bend 30 = .ok (.ireturn, 1) := by decide +kernel
set_option maxRecDepth 20000 in
theorem ggL_reach_X0_reach : GoodIn wsL_reach wsX0_reach := goodIn_ca (goodIn_ca (goodIn_ca (goodIn_r _ [8, 9, 10, 11, 12, 13, 14, 15, 7, 16, 17, 18, 19, 20, 21, 22, 23, 24, 25, 26, 27, 28, 29, 30, 31, 32, 33, 34, 35, 36, 37, 38, 39, 40, 41, 42, 43, 44, 45, 46, 47, 48, 49, 50, 51, 52, 53, 54, 55, 56, 57, 58, 59, 60, 61, 62, 63, 64, 65, 66] (by decide +kernel) (by decide +kernel)) (goodIn_sub (fun _ h => List.mem_cons_of_mem _ (List.mem_append_left _ (List.mem_append_left _ (List.mem_append_right _ h)))) (by decide +kernel))) (goodIn_sub (fun _ h => List.mem_cons_of_mem _ (List.mem_append_left _ (List.mem_append_right _ h))) (by decide +kernel))) (goodIn_sub (fun _ h => List.mem_cons_of_mem _ (List.mem_append_right _ h)) (by decide +kernel))
set_option maxRecDepth 20000 in
theorem gL_reach_X0_reach : GoodIn wsL_reach (wsV RL 23 RX0 yX0_reach wsX0_reach) := goodIn_app (goodIn_of _ (by decide +kernel)) ggL_reach_X0_reach
theorem dL_reach_0 : decode cL_reach 0 = .ok (.aload 5, 2) := by decide +kernel
theorem dL_reach_2 : decode cL_reach 2 = .ok (.iconst 0, 1) := by decide +kernel
theorem dL_reach_3 : decode cL_reach 3 = .ok (.aload_n 0, 1) := by decide +kernel
theorem dL_reach_4 : decode cL_reach 4 = .ok (.iload_n 1, 1) := by decide +kernel
theorem dL_reach_5 : decode cL_reach 5 = .ok (.iload_n 2, 1) := by decide +kernel
theorem dL_reach_6 : decode cL_reach 6 = .ok (.iload_n 3, 1) := by decide +kernel
theorem dL_reach_7 : decode cL_reach 7 = .ok (.iload 4, 2) := by decide +kernel
theorem dL_reach_9 : decode cL_reach 9 = .ok (.invokevirtual 23, 3) := by decide +kernel
theorem dL_reach_12 : decode cL_reach 12 = .ok (.i2l, 1) := by decide +kernel
theorem dL_reach_13 : decode cL_reach 13 = .ok (.lastore, 1) := by decide +kernel
theorem dL_reach_14 : decode cL_reach 14 = .ok (.goto 15, 3) := by decide +kernel
theorem dL_reach_17 : decode cL_reach 17 = .ok (.astore 6, 2) := by decide +kernel
theorem dL_reach_19 : decode cL_reach 19 = .ok (.iconst 1, 1) := by decide +kernel
theorem dL_reach_20 : decode cL_reach 20 = .ok (.ireturn, 1) := by decide +kernel
theorem dL_reach_21 : decode cL_reach 21 = .ok (.astore 6, 2) := by decide +kernel
theorem dL_reach_23 : decode cL_reach 23 = .ok (.iconst 2, 1) := by decide +kernel
theorem dL_reach_24 : decode cL_reach 24 = .ok (.ireturn, 1) := by decide +kernel
theorem dL_reach_25 : decode cL_reach 25 = .ok (.astore 6, 2) := by decide +kernel
theorem dL_reach_27 : decode cL_reach 27 = .ok (.iconst 3, 1) := by decide +kernel
theorem dL_reach_28 : decode cL_reach 28 = .ok (.ireturn, 1) := by decide +kernel
theorem dL_reach_29 : decode cL_reach 29 = .ok (.iconst 0, 1) := by decide +kernel
theorem dL_reach_30 : decode cL_reach 30 = .ok (.ireturn, 1) := by decide +kernel
set_option maxRecDepth 20000 in
theorem ggL_way_X0_way : GoodIn wsL_way wsX0_way := goodIn_ca (goodIn_ca (goodIn_ca (goodIn_r _ [8, 9, 10, 11, 12, 13, 14, 7, 15, 16, 17, 18, 19, 20, 21, 22, 23, 24, 25, 26, 27, 28, 29, 30, 31, 32, 33, 34, 35, 36, 37, 38, 39, 40, 41, 42, 43, 44, 45, 46, 47, 48, 49, 50, 51, 52, 53, 54, 55, 56, 57, 58, 59] (by decide +kernel) (by decide +kernel)) (goodIn_sub (fun _ h => List.mem_cons_of_mem _ (List.mem_append_left _ (List.mem_append_left _ (List.mem_append_right _ h)))) (by decide +kernel))) (goodIn_sub (fun _ h => List.mem_cons_of_mem _ (List.mem_append_left _ (List.mem_append_right _ h))) (by decide +kernel))) (goodIn_sub (fun _ h => List.mem_cons_of_mem _ (List.mem_append_right _ h)) (by decide +kernel))
set_option maxRecDepth 20000 in
theorem gL_way_X0_way : GoodIn wsL_way (wsV RL 26 RX0 yX0_way wsX0_way) := goodIn_app (goodIn_of _ (by decide +kernel)) ggL_way_X0_way
theorem dL_way_0 : decode cL_way 0 = .ok (.aload_n 3, 1) := by decide +kernel
theorem dL_way_1 : decode cL_way 1 = .ok (.iconst 0, 1) := by decide +kernel
theorem dL_way_2 : decode cL_way 2 = .ok (.aload_n 0, 1) := by decide +kernel
theorem dL_way_3 : decode cL_way 3 = .ok (.iload_n 1, 1) := by decide +kernel
theorem dL_way_4 : decode cL_way 4 = .ok (.iload_n 2, 1) := by decide +kernel
theorem dL_way_5 : decode cL_way 5 = .ok (.invokevirtual 26, 3) := by decide +kernel
theorem dL_way_8 : decode cL_way 8 = .ok (.i2l, 1) := by decide +kernel
theorem dL_way_9 : decode cL_way 9 = .ok (.lastore, 1) := by decide +kernel
theorem dL_way_10 : decode cL_way 10 = .ok (.goto 15, 3) := by decide +kernel
theorem dL_way_13 : decode cL_way 13 = .ok (.astore 4, 2) := by decide +kernel
theorem dL_way_15 : decode cL_way 15 = .ok (.iconst 1, 1) := by decide +kernel
theorem dL_way_16 : decode cL_way 16 = .ok (.ireturn, 1) := by decide +kernel
theorem dL_way_17 : decode cL_way 17 = .ok (.astore 4, 2) := by decide +kernel
theorem dL_way_19 : decode cL_way 19 = .ok (.iconst 2, 1) := by decide +kernel
theorem dL_way_20 : decode cL_way 20 = .ok (.ireturn, 1) := by decide +kernel
theorem dL_way_21 : decode cL_way 21 = .ok (.astore 4, 2) := by decide +kernel
theorem dL_way_23 : decode cL_way 23 = .ok (.iconst 3, 1) := by decide +kernel
theorem dL_way_24 : decode cL_way 24 = .ok (.ireturn, 1) := by decide +kernel
theorem dL_way_25 : decode cL_way 25 = .ok (.iconst 0, 1) := by decide +kernel
theorem dL_way_26 : decode cL_way 26 = .ok (.ireturn, 1) := by decide +kernel
set_option maxRecDepth 20000 in
theorem ggL_curve_X0_curve : GoodIn wsL_curve wsX0_curve := goodIn_ca (goodIn_ca (goodIn_r _ [7, 8, 9, 10, 6, 11, 12, 13, 14, 15, 16, 17, 18, 19, 20, 21, 22, 23, 24, 25, 26, 27, 28, 29, 30, 31, 32, 33, 34, 35, 36, 37, 38, 39, 40, 41, 42, 43, 44, 45, 46, 47, 48, 49, 50, 51, 52] (by decide +kernel) (by decide +kernel)) (goodIn_sub (fun _ h => List.mem_cons_of_mem _ (List.mem_append_left _ (List.mem_append_right _ h))) (by decide +kernel))) (goodIn_sub (fun _ h => List.mem_cons_of_mem _ (List.mem_append_right _ h)) (by decide +kernel))
set_option maxRecDepth 20000 in
theorem gL_curve_X0_curve : GoodIn wsL_curve (wsV RL 30 RX0 yX0_curve wsX0_curve) := goodIn_app (goodIn_of _ (by decide +kernel)) ggL_curve_X0_curve
theorem dL_curve_0 : decode cL_curve 0 = .ok (.aload 4, 2) := by decide +kernel
theorem dL_curve_2 : decode cL_curve 2 = .ok (.iconst 0, 1) := by decide +kernel
theorem dL_curve_3 : decode cL_curve 3 = .ok (.aload_n 0, 1) := by decide +kernel
theorem dL_curve_4 : decode cL_curve 4 = .ok (.iload_n 1, 1) := by decide +kernel
theorem dL_curve_5 : decode cL_curve 5 = .ok (.iload_n 2, 1) := by decide +kernel
theorem dL_curve_6 : decode cL_curve 6 = .ok (.iload_n 3, 1) := by decide +kernel
theorem dL_curve_7 : decode cL_curve 7 = .ok (.invokevirtual 30, 3) := by decide +kernel
theorem dL_curve_10 : decode cL_curve 10 = .ok (.i2l, 1) := by decide +kernel
theorem dL_curve_11 : decode cL_curve 11 = .ok (.lastore, 1) := by decide +kernel
theorem dL_curve_12 : decode cL_curve 12 = .ok (.goto 11, 3) := by decide +kernel
theorem dL_curve_15 : decode cL_curve 15 = .ok (.astore 5, 2) := by decide +kernel
theorem dL_curve_17 : decode cL_curve 17 = .ok (.iconst 1, 1) := by decide +kernel
theorem dL_curve_18 : decode cL_curve 18 = .ok (.ireturn, 1) := by decide +kernel
theorem dL_curve_19 : decode cL_curve 19 = .ok (.astore 5, 2) := by decide +kernel
theorem dL_curve_21 : decode cL_curve 21 = .ok (.iconst 2, 1) := by decide +kernel
theorem dL_curve_22 : decode cL_curve 22 = .ok (.ireturn, 1) := by decide +kernel
theorem dL_curve_23 : decode cL_curve 23 = .ok (.iconst 0, 1) := by decide +kernel
theorem dL_curve_24 : decode cL_curve 24 = .ok (.ireturn, 1) := by decide +kernel
set_option maxRecDepth 20000 in
theorem ggL_taken_X0_taken : GoodIn wsL_taken wsX0_taken := goodIn_ca (goodIn_ca (goodIn_r _ [7, 8, 9, 10, 6, 11, 12, 13, 14, 15, 16, 17, 18, 19, 20, 21, 22, 23, 24, 25, 26, 27, 28, 29, 30, 31, 32, 33, 34, 35, 36, 37, 38, 39, 40, 41, 42, 43, 44, 45, 46, 47, 48, 49, 50, 51, 52, 53, 54, 55, 56, 57, 58, 59, 60, 61, 62, 63, 64, 65, 66, 67, 68, 69] (by decide +kernel) (by decide +kernel)) (goodIn_sub (fun _ h => List.mem_cons_of_mem _ (List.mem_append_left _ (List.mem_append_right _ h))) (by decide +kernel))) (goodIn_sub (fun _ h => List.mem_cons_of_mem _ (List.mem_append_right _ h)) (by decide +kernel))
set_option maxRecDepth 20000 in
theorem gL_taken_X0_taken : GoodIn wsL_taken (wsV RL 34 RX0 yX0_taken wsX0_taken) := goodIn_app (goodIn_of _ (by decide +kernel)) ggL_taken_X0_taken
theorem dL_taken_0 : decode cL_taken 0 = .ok (.aload 4, 2) := by decide +kernel
theorem dL_taken_2 : decode cL_taken 2 = .ok (.iconst 0, 1) := by decide +kernel
theorem dL_taken_3 : decode cL_taken 3 = .ok (.aload_n 0, 1) := by decide +kernel
theorem dL_taken_4 : decode cL_taken 4 = .ok (.iload_n 1, 1) := by decide +kernel
theorem dL_taken_5 : decode cL_taken 5 = .ok (.iload_n 2, 1) := by decide +kernel
theorem dL_taken_6 : decode cL_taken 6 = .ok (.iload_n 3, 1) := by decide +kernel
theorem dL_taken_7 : decode cL_taken 7 = .ok (.invokevirtual 34, 3) := by decide +kernel
theorem dL_taken_10 : decode cL_taken 10 = .ok (.i2l, 1) := by decide +kernel
theorem dL_taken_11 : decode cL_taken 11 = .ok (.lastore, 1) := by decide +kernel
theorem dL_taken_12 : decode cL_taken 12 = .ok (.goto 11, 3) := by decide +kernel
theorem dL_taken_15 : decode cL_taken 15 = .ok (.astore 5, 2) := by decide +kernel
theorem dL_taken_17 : decode cL_taken 17 = .ok (.iconst 1, 1) := by decide +kernel
theorem dL_taken_18 : decode cL_taken 18 = .ok (.ireturn, 1) := by decide +kernel
theorem dL_taken_19 : decode cL_taken 19 = .ok (.astore 5, 2) := by decide +kernel
theorem dL_taken_21 : decode cL_taken 21 = .ok (.iconst 2, 1) := by decide +kernel
theorem dL_taken_22 : decode cL_taken 22 = .ok (.ireturn, 1) := by decide +kernel
theorem dL_taken_23 : decode cL_taken 23 = .ok (.iconst 0, 1) := by decide +kernel
theorem dL_taken_24 : decode cL_taken 24 = .ok (.ireturn, 1) := by decide +kernel
set_option maxRecDepth 20000 in
theorem ggL_chain_X0_chain : GoodIn wsL_chain wsX0_chain := goodIn_ca (goodIn_r _ [6, 7, 8, 9, 10, 11, 12, 13, 14, 15, 16, 17, 18, 19, 20, 21, 22, 23, 24] (by decide +kernel) (by decide +kernel)) (goodIn_sub (fun _ h => List.mem_cons_of_mem _ (List.mem_append_right _ h)) (by decide +kernel))
set_option maxRecDepth 20000 in
theorem gL_chain_X0_chain : GoodIn wsL_chain (wsV RL 37 RX0 yX0_chain wsX0_chain) := goodIn_app (goodIn_of _ (by decide +kernel)) ggL_chain_X0_chain
theorem dL_chain_0 : decode cL_chain 0 = .ok (.aload_n 1, 1) := by decide +kernel
theorem dL_chain_1 : decode cL_chain 1 = .ok (.iconst 0, 1) := by decide +kernel
theorem dL_chain_2 : decode cL_chain 2 = .ok (.aload_n 0, 1) := by decide +kernel
theorem dL_chain_3 : decode cL_chain 3 = .ok (.invokevirtual 37, 3) := by decide +kernel
theorem dL_chain_6 : decode cL_chain 6 = .ok (.i2l, 1) := by decide +kernel
theorem dL_chain_7 : decode cL_chain 7 = .ok (.lastore, 1) := by decide +kernel
theorem dL_chain_8 : decode cL_chain 8 = .ok (.goto 6, 3) := by decide +kernel
theorem dL_chain_11 : decode cL_chain 11 = .ok (.astore_n 2, 1) := by decide +kernel
theorem dL_chain_12 : decode cL_chain 12 = .ok (.iconst 1, 1) := by decide +kernel
theorem dL_chain_13 : decode cL_chain 13 = .ok (.ireturn, 1) := by decide +kernel
theorem dL_chain_14 : decode cL_chain 14 = .ok (.iconst 0, 1) := by decide +kernel
theorem dL_chain_15 : decode cL_chain 15 = .ok (.ireturn, 1) := by decide +kernel
set_option maxRecDepth 20000 in
theorem ggL_add_X0_add : GoodIn wsL_add wsX0_add := goodIn_ca (goodIn_ca (goodIn_r _ [7, 8, 9, 10, 11, 12, 13, 14, 6, 15, 16, 17, 18, 19, 20, 21, 22, 23, 24, 25, 26, 27, 28, 29, 30, 31, 32, 33, 34, 35, 36, 37, 38, 39, 40, 41, 42, 43, 44, 45, 46, 47, 48, 49, 50, 51, 52] (by decide +kernel) (by decide +kernel)) (goodIn_sub (fun _ h => List.mem_cons_of_mem _ (List.mem_append_left _ (List.mem_append_right _ h))) (by decide +kernel))) (goodIn_sub (fun _ h => List.mem_cons_of_mem _ (List.mem_append_right _ h)) (by decide +kernel))
set_option maxRecDepth 20000 in
theorem gL_add_X0_add : GoodIn wsL_add (wsV RL 40 RX0 yX0_add wsX0_add) := goodIn_app (goodIn_of _ (by decide +kernel)) ggL_add_X0_add
theorem dL_add_0 : decode cL_add 0 = .ok (.aload_n 3, 1) := by decide +kernel
theorem dL_add_1 : decode cL_add 1 = .ok (.iconst 0, 1) := by decide +kernel
theorem dL_add_2 : decode cL_add 2 = .ok (.aload_n 0, 1) := by decide +kernel
theorem dL_add_3 : decode cL_add 3 = .ok (.iload_n 1, 1) := by decide +kernel
theorem dL_add_4 : decode cL_add 4 = .ok (.iload_n 2, 1) := by decide +kernel
theorem dL_add_5 : decode cL_add 5 = .ok (.invokevirtual 40, 3) := by decide +kernel
theorem dL_add_8 : decode cL_add 8 = .ok (.i2l, 1) := by decide +kernel
theorem dL_add_9 : decode cL_add 9 = .ok (.lastore, 1) := by decide +kernel
theorem dL_add_10 : decode cL_add 10 = .ok (.goto 11, 3) := by decide +kernel
theorem dL_add_13 : decode cL_add 13 = .ok (.astore 4, 2) := by decide +kernel
theorem dL_add_15 : decode cL_add 15 = .ok (.iconst 1, 1) := by decide +kernel
theorem dL_add_16 : decode cL_add 16 = .ok (.ireturn, 1) := by decide +kernel
theorem dL_add_17 : decode cL_add 17 = .ok (.astore 4, 2) := by decide +kernel
theorem dL_add_19 : decode cL_add 19 = .ok (.iconst 2, 1) := by decide +kernel
theorem dL_add_20 : decode cL_add 20 = .ok (.ireturn, 1) := by decide +kernel
theorem dL_add_21 : decode cL_add 21 = .ok (.iconst 0, 1) := by decide +kernel
theorem dL_add_22 : decode cL_add 22 = .ok (.ireturn, 1) := by decide +kernel
set_option maxRecDepth 20000 in
theorem ggL_drop_X0_drop : GoodIn wsL_drop wsX0_drop := goodIn_ca (goodIn_ca (goodIn_r _ [7, 8, 9, 10, 11, 12, 13, 14, 6, 15, 16, 17, 18, 19, 20, 21, 22, 23, 24, 25, 26, 27, 28, 29, 30, 31, 32, 33, 34, 35, 36, 37, 38, 39, 40, 41, 42, 43, 44, 45, 46, 47] (by decide +kernel) (by decide +kernel)) (goodIn_sub (fun _ h => List.mem_cons_of_mem _ (List.mem_append_left _ (List.mem_append_right _ h))) (by decide +kernel))) (goodIn_sub (fun _ h => List.mem_cons_of_mem _ (List.mem_append_right _ h)) (by decide +kernel))
set_option maxRecDepth 20000 in
theorem gL_drop_X0_drop : GoodIn wsL_drop (wsV RL 43 RX0 yX0_drop wsX0_drop) := goodIn_app (goodIn_of _ (by decide +kernel)) ggL_drop_X0_drop
theorem dL_drop_0 : decode cL_drop 0 = .ok (.aload_n 2, 1) := by decide +kernel
theorem dL_drop_1 : decode cL_drop 1 = .ok (.iconst 0, 1) := by decide +kernel
theorem dL_drop_2 : decode cL_drop 2 = .ok (.aload_n 0, 1) := by decide +kernel
theorem dL_drop_3 : decode cL_drop 3 = .ok (.iload_n 1, 1) := by decide +kernel
theorem dL_drop_4 : decode cL_drop 4 = .ok (.invokevirtual 43, 3) := by decide +kernel
theorem dL_drop_7 : decode cL_drop 7 = .ok (.i2l, 1) := by decide +kernel
theorem dL_drop_8 : decode cL_drop 8 = .ok (.lastore, 1) := by decide +kernel
theorem dL_drop_9 : decode cL_drop 9 = .ok (.goto 9, 3) := by decide +kernel
theorem dL_drop_12 : decode cL_drop 12 = .ok (.astore_n 3, 1) := by decide +kernel
theorem dL_drop_13 : decode cL_drop 13 = .ok (.iconst 1, 1) := by decide +kernel
theorem dL_drop_14 : decode cL_drop 14 = .ok (.ireturn, 1) := by decide +kernel
theorem dL_drop_15 : decode cL_drop 15 = .ok (.astore_n 3, 1) := by decide +kernel
theorem dL_drop_16 : decode cL_drop 16 = .ok (.iconst 2, 1) := by decide +kernel
theorem dL_drop_17 : decode cL_drop 17 = .ok (.ireturn, 1) := by decide +kernel
theorem dL_drop_18 : decode cL_drop 18 = .ok (.iconst 0, 1) := by decide +kernel
theorem dL_drop_19 : decode cL_drop 19 = .ok (.ireturn, 1) := by decide +kernel
set_option maxRecDepth 20000 in
theorem ggL_through_X0_through : GoodIn wsL_through wsX0_through := goodIn_ca (goodIn_ca (goodIn_r _ [7, 8, 9, 10, 6, 11, 12, 13, 14, 15, 16, 17, 18, 19, 20, 21, 22, 23, 24, 25, 26, 27, 28, 29, 30, 31, 32, 33, 34, 35, 36, 37, 38, 39, 40, 41, 42, 43, 44, 45, 46, 47, 48, 49, 50, 51, 52, 53, 54, 55, 56, 57, 58, 59, 60, 61, 62, 63, 64, 65, 66, 67, 68, 69, 70, 71, 72, 73, 74, 75] (by decide +kernel) (by decide +kernel)) (goodIn_sub (fun _ h => List.mem_cons_of_mem _ (List.mem_append_left _ (List.mem_append_right _ h))) (by decide +kernel))) (goodIn_sub (fun _ h => List.mem_cons_of_mem _ (List.mem_append_right _ h)) (by decide +kernel))
set_option maxRecDepth 20000 in
theorem gL_through_X0_through : GoodIn wsL_through (wsV RL 47 RX0 yX0_through wsX0_through) := goodIn_app (goodIn_of _ (by decide +kernel)) ggL_through_X0_through
theorem dL_through_0 : decode cL_through 0 = .ok (.aload 4, 2) := by decide +kernel
theorem dL_through_2 : decode cL_through 2 = .ok (.iconst 0, 1) := by decide +kernel
theorem dL_through_3 : decode cL_through 3 = .ok (.aload_n 0, 1) := by decide +kernel
theorem dL_through_4 : decode cL_through 4 = .ok (.iload_n 1, 1) := by decide +kernel
theorem dL_through_5 : decode cL_through 5 = .ok (.iload_n 2, 1) := by decide +kernel
theorem dL_through_6 : decode cL_through 6 = .ok (.iload_n 3, 1) := by decide +kernel
theorem dL_through_7 : decode cL_through 7 = .ok (.invokevirtual 47, 3) := by decide +kernel
theorem dL_through_10 : decode cL_through 10 = .ok (.i2l, 1) := by decide +kernel
theorem dL_through_11 : decode cL_through 11 = .ok (.lastore, 1) := by decide +kernel
theorem dL_through_12 : decode cL_through 12 = .ok (.goto 11, 3) := by decide +kernel
theorem dL_through_15 : decode cL_through 15 = .ok (.astore 5, 2) := by decide +kernel
theorem dL_through_17 : decode cL_through 17 = .ok (.iconst 1, 1) := by decide +kernel
theorem dL_through_18 : decode cL_through 18 = .ok (.ireturn, 1) := by decide +kernel
theorem dL_through_19 : decode cL_through 19 = .ok (.astore 5, 2) := by decide +kernel
theorem dL_through_21 : decode cL_through 21 = .ok (.iconst 2, 1) := by decide +kernel
theorem dL_through_22 : decode cL_through 22 = .ok (.ireturn, 1) := by decide +kernel
theorem dL_through_23 : decode cL_through 23 = .ok (.iconst 0, 1) := by decide +kernel
theorem dL_through_24 : decode cL_through 24 = .ok (.ireturn, 1) := by decide +kernel
set_option maxRecDepth 20000 in
theorem ggL_gap_X0_gap : GoodIn wsL_gap wsX0_gap := goodIn_ca (goodIn_r _ [6, 7, 8, 9, 5, 10, 11, 12, 13, 14, 15, 16, 17, 18, 19, 20, 21, 22, 23, 24, 25, 26, 27, 28, 29, 30, 31, 32, 33, 34, 35, 36, 37, 38, 39, 40, 41, 42, 43, 44, 45, 46, 47, 48, 49, 50, 51, 52, 53, 54, 55, 56, 57, 58, 59, 60, 61, 62, 63, 64, 65, 66, 67, 68, 69, 70, 71, 72, 73, 74, 75, 76, 77, 78, 79, 80] (by decide +kernel) (by decide +kernel)) (goodIn_sub (fun _ h => List.mem_cons_of_mem _ (List.mem_append_right _ h)) (by decide +kernel))
set_option maxRecDepth 20000 in
theorem gL_gap_X0_gap : GoodIn wsL_gap (wsV RL 50 RX0 yX0_gap wsX0_gap) := goodIn_app (goodIn_of _ (by decide +kernel)) ggL_gap_X0_gap
theorem dL_gap_0 : decode cL_gap 0 = .ok (.aload_n 2, 1) := by decide +kernel
theorem dL_gap_1 : decode cL_gap 1 = .ok (.iconst 0, 1) := by decide +kernel
theorem dL_gap_2 : decode cL_gap 2 = .ok (.aload_n 0, 1) := by decide +kernel
theorem dL_gap_3 : decode cL_gap 3 = .ok (.iload_n 1, 1) := by decide +kernel
theorem dL_gap_4 : decode cL_gap 4 = .ok (.invokevirtual 50, 3) := by decide +kernel
theorem dL_gap_7 : decode cL_gap 7 = .ok (.i2l, 1) := by decide +kernel
theorem dL_gap_8 : decode cL_gap 8 = .ok (.lastore, 1) := by decide +kernel
theorem dL_gap_9 : decode cL_gap 9 = .ok (.goto 6, 3) := by decide +kernel
theorem dL_gap_12 : decode cL_gap 12 = .ok (.astore_n 3, 1) := by decide +kernel
theorem dL_gap_13 : decode cL_gap 13 = .ok (.iconst 1, 1) := by decide +kernel
theorem dL_gap_14 : decode cL_gap 14 = .ok (.ireturn, 1) := by decide +kernel
theorem dL_gap_15 : decode cL_gap 15 = .ok (.iconst 0, 1) := by decide +kernel
theorem dL_gap_16 : decode cL_gap 16 = .ok (.ireturn, 1) := by decide +kernel
set_option maxRecDepth 20000 in
theorem ggL_greyGap_X0_greyGap : GoodIn wsL_greyGap wsX0_greyGap := goodIn_ca (goodIn_r _ [6, 7, 8, 9, 10, 11, 12, 13, 14, 15, 16, 5, 17, 18, 19, 20, 21, 22, 23, 24, 25, 26, 27, 28, 29, 30, 31, 32, 33, 34, 35, 36, 37, 38, 39, 40, 41, 42, 43, 44, 45, 46, 47, 48, 49, 50, 51, 52, 53, 54, 55, 56, 57, 58, 59, 60, 61, 62, 63, 64, 65, 66] (by decide +kernel) (by decide +kernel)) (goodIn_sub (fun _ h => List.mem_cons_of_mem _ (List.mem_append_right _ h)) (by decide +kernel))
set_option maxRecDepth 20000 in
theorem gL_greyGap_X0_greyGap : GoodIn wsL_greyGap (wsV RL 53 RX0 yX0_greyGap wsX0_greyGap) := goodIn_app (goodIn_of _ (by decide +kernel)) ggL_greyGap_X0_greyGap
theorem dL_greyGap_0 : decode cL_greyGap 0 = .ok (.aload_n 2, 1) := by decide +kernel
theorem dL_greyGap_1 : decode cL_greyGap 1 = .ok (.iconst 0, 1) := by decide +kernel
theorem dL_greyGap_2 : decode cL_greyGap 2 = .ok (.aload_n 0, 1) := by decide +kernel
theorem dL_greyGap_3 : decode cL_greyGap 3 = .ok (.iload_n 1, 1) := by decide +kernel
theorem dL_greyGap_4 : decode cL_greyGap 4 = .ok (.invokevirtual 53, 3) := by decide +kernel
theorem dL_greyGap_7 : decode cL_greyGap 7 = .ok (.i2l, 1) := by decide +kernel
theorem dL_greyGap_8 : decode cL_greyGap 8 = .ok (.lastore, 1) := by decide +kernel
theorem dL_greyGap_9 : decode cL_greyGap 9 = .ok (.goto 6, 3) := by decide +kernel
theorem dL_greyGap_12 : decode cL_greyGap 12 = .ok (.astore_n 3, 1) := by decide +kernel
theorem dL_greyGap_13 : decode cL_greyGap 13 = .ok (.iconst 1, 1) := by decide +kernel
theorem dL_greyGap_14 : decode cL_greyGap 14 = .ok (.ireturn, 1) := by decide +kernel
theorem dL_greyGap_15 : decode cL_greyGap 15 = .ok (.iconst 0, 1) := by decide +kernel
theorem dL_greyGap_16 : decode cL_greyGap 16 = .ok (.ireturn, 1) := by decide +kernel
set_option maxRecDepth 20000 in
theorem ggL_join_X0_join : GoodIn wsL_join wsX0_join := goodIn_ca (goodIn_ca (goodIn_ca (goodIn_r _ [8, 9, 10, 11, 12, 13, 14, 15, 16, 7, 17, 18, 19, 20, 21, 22, 23, 24, 25, 26, 27, 28, 29, 30, 31, 32, 33, 34, 35, 36, 37, 38, 39, 40, 41, 42, 43, 44, 45, 46, 47, 48, 49, 50, 51, 52, 53, 54, 55, 56, 57, 58, 59, 60, 61, 62, 63, 64, 65, 66, 67, 68, 69, 70, 71, 72, 73, 74, 75, 76, 77, 78, 79, 80, 81, 82, 83, 84, 85, 86, 87, 88, 89, 90, 91] (by decide +kernel) (by decide +kernel)) (goodIn_sub (fun _ h => List.mem_cons_of_mem _ (List.mem_append_left _ (List.mem_append_left _ (List.mem_append_right _ h)))) (by decide +kernel))) (goodIn_sub (fun _ h => List.mem_cons_of_mem _ (List.mem_append_left _ (List.mem_append_right _ h))) (by decide +kernel))) (goodIn_sub (fun _ h => List.mem_cons_of_mem _ (List.mem_append_right _ h)) (by decide +kernel))
set_option maxRecDepth 20000 in
theorem gL_join_X0_join : GoodIn wsL_join (wsV RL 56 RX0 yX0_join wsX0_join) := goodIn_app (goodIn_of _ (by decide +kernel)) ggL_join_X0_join
theorem dL_join_0 : decode cL_join 0 = .ok (.aload_n 3, 1) := by decide +kernel
theorem dL_join_1 : decode cL_join 1 = .ok (.iconst 0, 1) := by decide +kernel
theorem dL_join_2 : decode cL_join 2 = .ok (.aload_n 0, 1) := by decide +kernel
theorem dL_join_3 : decode cL_join 3 = .ok (.iload_n 1, 1) := by decide +kernel
theorem dL_join_4 : decode cL_join 4 = .ok (.iload_n 2, 1) := by decide +kernel
theorem dL_join_5 : decode cL_join 5 = .ok (.invokevirtual 56, 3) := by decide +kernel
theorem dL_join_8 : decode cL_join 8 = .ok (.i2l, 1) := by decide +kernel
theorem dL_join_9 : decode cL_join 9 = .ok (.lastore, 1) := by decide +kernel
theorem dL_join_10 : decode cL_join 10 = .ok (.goto 15, 3) := by decide +kernel
theorem dL_join_13 : decode cL_join 13 = .ok (.astore 4, 2) := by decide +kernel
theorem dL_join_15 : decode cL_join 15 = .ok (.iconst 1, 1) := by decide +kernel
theorem dL_join_16 : decode cL_join 16 = .ok (.ireturn, 1) := by decide +kernel
theorem dL_join_17 : decode cL_join 17 = .ok (.astore 4, 2) := by decide +kernel
theorem dL_join_19 : decode cL_join 19 = .ok (.iconst 2, 1) := by decide +kernel
theorem dL_join_20 : decode cL_join 20 = .ok (.ireturn, 1) := by decide +kernel
theorem dL_join_21 : decode cL_join 21 = .ok (.astore 4, 2) := by decide +kernel
theorem dL_join_23 : decode cL_join 23 = .ok (.iconst 3, 1) := by decide +kernel
theorem dL_join_24 : decode cL_join 24 = .ok (.ireturn, 1) := by decide +kernel
theorem dL_join_25 : decode cL_join 25 = .ok (.iconst 0, 1) := by decide +kernel
theorem dL_join_26 : decode cL_join 26 = .ok (.ireturn, 1) := by decide +kernel
set_option maxRecDepth 20000 in
theorem ggL_joined_X0_joined : GoodIn wsL_joined wsX0_joined := goodIn_ca (goodIn_ca (goodIn_ca (goodIn_r _ [8, 9, 10, 11, 12, 13, 14, 15, 7, 16, 17, 18, 19, 20, 21, 22, 23, 24, 25, 26, 27, 28, 29, 30, 31, 32, 33, 34, 35, 36, 37, 38, 39, 40, 41, 42, 43, 44, 45, 46, 47, 48, 49, 50, 51, 52, 53, 54, 55] (by decide +kernel) (by decide +kernel)) (goodIn_sub (fun _ h => List.mem_cons_of_mem _ (List.mem_append_left _ (List.mem_append_left _ (List.mem_append_right _ h)))) (by decide +kernel))) (goodIn_sub (fun _ h => List.mem_cons_of_mem _ (List.mem_append_left _ (List.mem_append_right _ h))) (by decide +kernel))) (goodIn_sub (fun _ h => List.mem_cons_of_mem _ (List.mem_append_right _ h)) (by decide +kernel))
set_option maxRecDepth 20000 in
theorem gL_joined_X0_joined : GoodIn wsL_joined (wsV RL 59 RX0 yX0_joined wsX0_joined) := goodIn_app (goodIn_of _ (by decide +kernel)) ggL_joined_X0_joined
theorem dL_joined_0 : decode cL_joined 0 = .ok (.aload 4, 2) := by decide +kernel
theorem dL_joined_2 : decode cL_joined 2 = .ok (.iconst 0, 1) := by decide +kernel
theorem dL_joined_3 : decode cL_joined 3 = .ok (.aload_n 0, 1) := by decide +kernel
theorem dL_joined_4 : decode cL_joined 4 = .ok (.iload_n 1, 1) := by decide +kernel
theorem dL_joined_5 : decode cL_joined 5 = .ok (.iload_n 2, 1) := by decide +kernel
theorem dL_joined_6 : decode cL_joined 6 = .ok (.iload_n 3, 1) := by decide +kernel
theorem dL_joined_7 : decode cL_joined 7 = .ok (.invokevirtual 59, 3) := by decide +kernel
theorem dL_joined_10 : decode cL_joined 10 = .ok (.i2l, 1) := by decide +kernel
theorem dL_joined_11 : decode cL_joined 11 = .ok (.lastore, 1) := by decide +kernel
theorem dL_joined_12 : decode cL_joined 12 = .ok (.goto 15, 3) := by decide +kernel
theorem dL_joined_15 : decode cL_joined 15 = .ok (.astore 5, 2) := by decide +kernel
theorem dL_joined_17 : decode cL_joined 17 = .ok (.iconst 1, 1) := by decide +kernel
theorem dL_joined_18 : decode cL_joined 18 = .ok (.ireturn, 1) := by decide +kernel
theorem dL_joined_19 : decode cL_joined 19 = .ok (.astore 5, 2) := by decide +kernel
theorem dL_joined_21 : decode cL_joined 21 = .ok (.iconst 2, 1) := by decide +kernel
theorem dL_joined_22 : decode cL_joined 22 = .ok (.ireturn, 1) := by decide +kernel
theorem dL_joined_23 : decode cL_joined 23 = .ok (.astore 5, 2) := by decide +kernel
theorem dL_joined_25 : decode cL_joined 25 = .ok (.iconst 3, 1) := by decide +kernel
theorem dL_joined_26 : decode cL_joined 26 = .ok (.ireturn, 1) := by decide +kernel
theorem dL_joined_27 : decode cL_joined 27 = .ok (.iconst 0, 1) := by decide +kernel
theorem dL_joined_28 : decode cL_joined 28 = .ok (.ireturn, 1) := by decide +kernel
set_option maxRecDepth 20000 in
theorem ggL_sign_X0_sign : GoodIn wsL_sign wsX0_sign := goodIn_ca (goodIn_r _ [6, 7, 8, 9, 10, 5, 11, 12, 13, 14, 15, 16, 17, 18, 19, 20, 21, 22, 23, 24, 25, 26, 27, 28, 29, 30, 31, 32] (by decide +kernel) (by decide +kernel)) (goodIn_sub (fun _ h => List.mem_cons_of_mem _ (List.mem_append_right _ h)) (by decide +kernel))
set_option maxRecDepth 20000 in
theorem gL_sign_X0_sign : GoodIn wsL_sign (wsV RL 62 RX0 yX0_sign wsX0_sign) := goodIn_app (goodIn_of _ (by decide +kernel)) ggL_sign_X0_sign
theorem dL_sign_0 : decode cL_sign 0 = .ok (.aload_n 2, 1) := by decide +kernel
theorem dL_sign_1 : decode cL_sign 1 = .ok (.iconst 0, 1) := by decide +kernel
theorem dL_sign_2 : decode cL_sign 2 = .ok (.aload_n 0, 1) := by decide +kernel
theorem dL_sign_3 : decode cL_sign 3 = .ok (.iload_n 1, 1) := by decide +kernel
theorem dL_sign_4 : decode cL_sign 4 = .ok (.invokevirtual 62, 3) := by decide +kernel
theorem dL_sign_7 : decode cL_sign 7 = .ok (.ifCond .eq 7, 3) := by decide +kernel
theorem dL_sign_10 : decode cL_sign 10 = .ok (.lconst 1, 1) := by decide +kernel
theorem dL_sign_11 : decode cL_sign 11 = .ok (.goto 4, 3) := by decide +kernel
theorem dL_sign_14 : decode cL_sign 14 = .ok (.lconst 0, 1) := by decide +kernel
theorem dL_sign_15 : decode cL_sign 15 = .ok (.lastore, 1) := by decide +kernel
theorem dL_sign_16 : decode cL_sign 16 = .ok (.goto 6, 3) := by decide +kernel
theorem dL_sign_19 : decode cL_sign 19 = .ok (.astore_n 3, 1) := by decide +kernel
theorem dL_sign_20 : decode cL_sign 20 = .ok (.iconst 1, 1) := by decide +kernel
theorem dL_sign_21 : decode cL_sign 21 = .ok (.ireturn, 1) := by decide +kernel
theorem dL_sign_22 : decode cL_sign 22 = .ok (.iconst 0, 1) := by decide +kernel
theorem dL_sign_23 : decode cL_sign 23 = .ok (.ireturn, 1) := by decide +kernel
set_option maxRecDepth 20000 in
theorem ggL_paint_X0_paint : GoodIn wsL_paint wsX0_paint := goodIn_ca (goodIn_ca (goodIn_r _ [7, 8, 9, 10, 6, 11, 12, 13, 14, 15, 16, 17, 18, 19, 20, 21, 22, 23, 24, 25, 26, 27, 28, 29, 30, 31, 32, 33, 34, 35, 36, 37, 38, 39] (by decide +kernel) (by decide +kernel)) (goodIn_sub (fun _ h => List.mem_cons_of_mem _ (List.mem_append_left _ (List.mem_append_right _ h))) (by decide +kernel))) (goodIn_sub (fun _ h => List.mem_cons_of_mem _ (List.mem_append_right _ h)) (by decide +kernel))
set_option maxRecDepth 20000 in
theorem gL_paint_X0_paint : GoodIn wsL_paint (wsV RL 66 RX0 yX0_paint wsX0_paint) := goodIn_app (goodIn_of _ (by decide +kernel)) ggL_paint_X0_paint
theorem dL_paint_0 : decode cL_paint 0 = .ok (.aload 4, 2) := by decide +kernel
theorem dL_paint_2 : decode cL_paint 2 = .ok (.iconst 0, 1) := by decide +kernel
theorem dL_paint_3 : decode cL_paint 3 = .ok (.aload_n 0, 1) := by decide +kernel
theorem dL_paint_4 : decode cL_paint 4 = .ok (.iload_n 1, 1) := by decide +kernel
theorem dL_paint_5 : decode cL_paint 5 = .ok (.iload_n 2, 1) := by decide +kernel
theorem dL_paint_6 : decode cL_paint 6 = .ok (.iload_n 3, 1) := by decide +kernel
theorem dL_paint_7 : decode cL_paint 7 = .ok (.invokevirtual 66, 3) := by decide +kernel
theorem dL_paint_10 : decode cL_paint 10 = .ok (.i2l, 1) := by decide +kernel
theorem dL_paint_11 : decode cL_paint 11 = .ok (.lastore, 1) := by decide +kernel
theorem dL_paint_12 : decode cL_paint 12 = .ok (.goto 11, 3) := by decide +kernel
theorem dL_paint_15 : decode cL_paint 15 = .ok (.astore 5, 2) := by decide +kernel
theorem dL_paint_17 : decode cL_paint 17 = .ok (.iconst 1, 1) := by decide +kernel
theorem dL_paint_18 : decode cL_paint 18 = .ok (.ireturn, 1) := by decide +kernel
theorem dL_paint_19 : decode cL_paint 19 = .ok (.astore 5, 2) := by decide +kernel
theorem dL_paint_21 : decode cL_paint 21 = .ok (.iconst 2, 1) := by decide +kernel
theorem dL_paint_22 : decode cL_paint 22 = .ok (.ireturn, 1) := by decide +kernel
theorem dL_paint_23 : decode cL_paint 23 = .ok (.iconst 0, 1) := by decide +kernel
theorem dL_paint_24 : decode cL_paint 24 = .ok (.ireturn, 1) := by decide +kernel
set_option maxRecDepth 20000 in
theorem ggL_spot_X0_spot : GoodIn wsL_spot wsX0_spot := goodIn_ca (goodIn_ca (goodIn_r _ [7, 8, 9, 10, 6, 11, 12, 13, 14, 15, 16, 17, 18, 19, 20, 21, 22, 23, 24, 25, 26, 27, 28, 29, 30, 31, 32, 33, 34, 35, 36, 37, 38, 39] (by decide +kernel) (by decide +kernel)) (goodIn_sub (fun _ h => List.mem_cons_of_mem _ (List.mem_append_left _ (List.mem_append_right _ h))) (by decide +kernel))) (goodIn_sub (fun _ h => List.mem_cons_of_mem _ (List.mem_append_right _ h)) (by decide +kernel))
set_option maxRecDepth 20000 in
theorem gL_spot_X0_spot : GoodIn wsL_spot (wsV RL 69 RX0 yX0_spot wsX0_spot) := goodIn_app (goodIn_of _ (by decide +kernel)) ggL_spot_X0_spot
theorem dL_spot_0 : decode cL_spot 0 = .ok (.aload 4, 2) := by decide +kernel
theorem dL_spot_2 : decode cL_spot 2 = .ok (.iconst 0, 1) := by decide +kernel
theorem dL_spot_3 : decode cL_spot 3 = .ok (.aload_n 0, 1) := by decide +kernel
theorem dL_spot_4 : decode cL_spot 4 = .ok (.iload_n 1, 1) := by decide +kernel
theorem dL_spot_5 : decode cL_spot 5 = .ok (.iload_n 2, 1) := by decide +kernel
theorem dL_spot_6 : decode cL_spot 6 = .ok (.iload_n 3, 1) := by decide +kernel
theorem dL_spot_7 : decode cL_spot 7 = .ok (.invokevirtual 69, 3) := by decide +kernel
theorem dL_spot_10 : decode cL_spot 10 = .ok (.i2l, 1) := by decide +kernel
theorem dL_spot_11 : decode cL_spot 11 = .ok (.lastore, 1) := by decide +kernel
theorem dL_spot_12 : decode cL_spot 12 = .ok (.goto 11, 3) := by decide +kernel
theorem dL_spot_15 : decode cL_spot 15 = .ok (.astore 5, 2) := by decide +kernel
theorem dL_spot_17 : decode cL_spot 17 = .ok (.iconst 1, 1) := by decide +kernel
theorem dL_spot_18 : decode cL_spot 18 = .ok (.ireturn, 1) := by decide +kernel
theorem dL_spot_19 : decode cL_spot 19 = .ok (.astore 5, 2) := by decide +kernel
theorem dL_spot_21 : decode cL_spot 21 = .ok (.iconst 2, 1) := by decide +kernel
theorem dL_spot_22 : decode cL_spot 22 = .ok (.ireturn, 1) := by decide +kernel
theorem dL_spot_23 : decode cL_spot 23 = .ok (.iconst 0, 1) := by decide +kernel
theorem dL_spot_24 : decode cL_spot 24 = .ok (.ireturn, 1) := by decide +kernel
set_option maxRecDepth 20000 in
theorem ggL_mix_X0_mix : GoodIn wsL_mix wsX0_mix := goodIn_ca (goodIn_ca (goodIn_r _ [7, 8, 9, 10, 6, 11, 12, 13, 14, 15, 16, 17, 18, 19, 20, 21, 22, 23, 24, 25, 26, 27, 28, 29, 30, 31, 32, 33, 34, 35, 36, 37, 38, 39] (by decide +kernel) (by decide +kernel)) (goodIn_sub (fun _ h => List.mem_cons_of_mem _ (List.mem_append_left _ (List.mem_append_right _ h))) (by decide +kernel))) (goodIn_sub (fun _ h => List.mem_cons_of_mem _ (List.mem_append_right _ h)) (by decide +kernel))
set_option maxRecDepth 20000 in
theorem gL_mix_X0_mix : GoodIn wsL_mix (wsV RL 72 RX0 yX0_mix wsX0_mix) := goodIn_app (goodIn_of _ (by decide +kernel)) ggL_mix_X0_mix
theorem dL_mix_0 : decode cL_mix 0 = .ok (.aload 4, 2) := by decide +kernel
theorem dL_mix_2 : decode cL_mix 2 = .ok (.iconst 0, 1) := by decide +kernel
theorem dL_mix_3 : decode cL_mix 3 = .ok (.aload_n 0, 1) := by decide +kernel
theorem dL_mix_4 : decode cL_mix 4 = .ok (.iload_n 1, 1) := by decide +kernel
theorem dL_mix_5 : decode cL_mix 5 = .ok (.iload_n 2, 1) := by decide +kernel
theorem dL_mix_6 : decode cL_mix 6 = .ok (.iload_n 3, 1) := by decide +kernel
theorem dL_mix_7 : decode cL_mix 7 = .ok (.invokevirtual 72, 3) := by decide +kernel
theorem dL_mix_10 : decode cL_mix 10 = .ok (.i2l, 1) := by decide +kernel
theorem dL_mix_11 : decode cL_mix 11 = .ok (.lastore, 1) := by decide +kernel
theorem dL_mix_12 : decode cL_mix 12 = .ok (.goto 11, 3) := by decide +kernel
theorem dL_mix_15 : decode cL_mix 15 = .ok (.astore 5, 2) := by decide +kernel
theorem dL_mix_17 : decode cL_mix 17 = .ok (.iconst 1, 1) := by decide +kernel
theorem dL_mix_18 : decode cL_mix 18 = .ok (.ireturn, 1) := by decide +kernel
theorem dL_mix_19 : decode cL_mix 19 = .ok (.astore 5, 2) := by decide +kernel
theorem dL_mix_21 : decode cL_mix 21 = .ok (.iconst 2, 1) := by decide +kernel
theorem dL_mix_22 : decode cL_mix 22 = .ok (.ireturn, 1) := by decide +kernel
theorem dL_mix_23 : decode cL_mix 23 = .ok (.iconst 0, 1) := by decide +kernel
theorem dL_mix_24 : decode cL_mix 24 = .ok (.ireturn, 1) := by decide +kernel
set_option maxRecDepth 20000 in
theorem ggL_shown_X0_shown : GoodIn wsL_shown wsX0_shown := goodIn_ca (goodIn_ca (goodIn_r _ [7, 8, 9, 10, 11, 12, 6, 13, 14, 15, 16, 17, 18, 19, 20, 21, 22, 23, 24, 25, 26, 27, 28, 29, 30, 31, 32, 33, 34, 35, 36, 37, 38, 39, 40, 41, 42, 43, 44, 45, 46, 47, 48, 49, 50, 51, 52, 53, 54, 55, 56, 57, 58, 59, 60, 61, 62, 63, 64, 65, 66, 67, 68, 69, 70, 71, 72, 73, 74, 75, 76, 77, 78, 79, 80, 81, 82, 83, 84, 85] (by decide +kernel) (by decide +kernel)) (goodIn_sub (fun _ h => List.mem_cons_of_mem _ (List.mem_append_left _ (List.mem_append_right _ h))) (by decide +kernel))) (goodIn_sub (fun _ h => List.mem_cons_of_mem _ (List.mem_append_right _ h)) (by decide +kernel))
set_option maxRecDepth 20000 in
theorem gL_shown_X0_shown : GoodIn wsL_shown (wsV RL 75 RX0 yX0_shown wsX0_shown) := goodIn_app (goodIn_of _ (by decide +kernel)) ggL_shown_X0_shown
theorem dL_shown_0 : decode cL_shown 0 = .ok (.aload 5, 2) := by decide +kernel
theorem dL_shown_2 : decode cL_shown 2 = .ok (.iconst 0, 1) := by decide +kernel
theorem dL_shown_3 : decode cL_shown 3 = .ok (.aload_n 0, 1) := by decide +kernel
theorem dL_shown_4 : decode cL_shown 4 = .ok (.iload_n 1, 1) := by decide +kernel
theorem dL_shown_5 : decode cL_shown 5 = .ok (.iload_n 2, 1) := by decide +kernel
theorem dL_shown_6 : decode cL_shown 6 = .ok (.iload_n 3, 1) := by decide +kernel
theorem dL_shown_7 : decode cL_shown 7 = .ok (.iload 4, 2) := by decide +kernel
theorem dL_shown_9 : decode cL_shown 9 = .ok (.invokevirtual 75, 3) := by decide +kernel
theorem dL_shown_12 : decode cL_shown 12 = .ok (.i2l, 1) := by decide +kernel
theorem dL_shown_13 : decode cL_shown 13 = .ok (.lastore, 1) := by decide +kernel
theorem dL_shown_14 : decode cL_shown 14 = .ok (.goto 11, 3) := by decide +kernel
theorem dL_shown_17 : decode cL_shown 17 = .ok (.astore 6, 2) := by decide +kernel
theorem dL_shown_19 : decode cL_shown 19 = .ok (.iconst 1, 1) := by decide +kernel
theorem dL_shown_20 : decode cL_shown 20 = .ok (.ireturn, 1) := by decide +kernel
theorem dL_shown_21 : decode cL_shown 21 = .ok (.astore 6, 2) := by decide +kernel
theorem dL_shown_23 : decode cL_shown 23 = .ok (.iconst 2, 1) := by decide +kernel
theorem dL_shown_24 : decode cL_shown 24 = .ok (.ireturn, 1) := by decide +kernel
theorem dL_shown_25 : decode cL_shown 25 = .ok (.iconst 0, 1) := by decide +kernel
theorem dL_shown_26 : decode cL_shown 26 = .ok (.ireturn, 1) := by decide +kernel
set_option maxRecDepth 20000 in
theorem ggL_law_X0_init : GoodIn wsL_law wsX0_init := goodIn_r _ [9, 10, 11, 12, 13, 14, 15, 16, 17, 18, 19, 20, 21, 22, 23, 24, 443, 444, 445, 446, 447, 448, 449, 450, 451, 452, 453, 454, 455, 456, 457] (by decide +kernel) (by decide +kernel)
set_option maxRecDepth 20000 in
theorem gL_law_X0_init : GoodIn wsL_law (wsX0_init) := ggL_law_X0_init
set_option maxRecDepth 20000 in
theorem ggL_law_X1_init : GoodIn wsL_law wsX1_init := goodIn_r _ [27, 28, 11, 12, 13, 29, 30, 31, 32, 33, 34, 35, 36, 37, 38, 39, 40, 41, 42, 458, 459, 460, 461, 462, 463, 464, 465, 466, 467, 468, 469, 470, 471, 472, 473] (by decide +kernel) (by decide +kernel)
set_option maxRecDepth 20000 in
theorem gL_law_X1_init : GoodIn wsL_law (wsX1_init) := ggL_law_X1_init
set_option maxRecDepth 20000 in
theorem ggL_law_L_profile : GoodIn wsL_law wsL_profile := goodIn_ca (goodIn_r _ [46, 47, 48, 49, 50, 2, 51, 52, 53, 54, 14, 15, 16, 17, 55, 56, 57, 58, 59, 60, 61, 62, 63, 64, 443, 444, 445, 446, 447, 448, 449, 450, 451, 452, 453, 454, 455, 456, 457] (by decide +kernel) (by decide +kernel)) (goodIn_sub (fun _ h => List.mem_append_left _ (List.mem_append_left _ (List.mem_append_right _ h))) (by decide +kernel))
set_option maxRecDepth 20000 in
theorem gL_law_L_profile : GoodIn wsL_law (va_wsS RL 82 yL_profile wsL_profile) := goodIn_app (goodIn_of _ (by decide +kernel)) ggL_law_L_profile
set_option maxRecDepth 20000 in
theorem ggL_law_X1_profile : GoodIn wsL_law wsX1_profile := goodIn_r _ [68, 69, 29, 31, 70, 71, 72, 5, 73, 74, 75, 76, 77, 458, 459, 460, 461, 462, 463, 464, 465, 466, 467, 468, 469, 470, 471, 472, 473] (by decide +kernel) (by decide +kernel)
set_option maxRecDepth 20000 in
theorem gL_law_X1_profile : GoodIn wsL_law (wsV RL 87 RX1 yX1_profile wsX1_profile) := goodIn_app (goodIn_of _ (by decide +kernel)) ggL_law_X1_profile
set_option maxRecDepth 20000 in
theorem ggL_law_X1_thrown : GoodIn wsL_law wsX1_thrown := goodIn_r _ [81, 74, 458, 459, 460, 461, 462, 463, 464, 465, 466, 467, 468, 469, 470, 471, 472, 473] (by decide +kernel) (by decide +kernel)
set_option maxRecDepth 20000 in
theorem gL_law_X1_thrown : GoodIn wsL_law (wsV RL 88 RX1 yX1_thrown wsX1_thrown) := goodIn_app (goodIn_of _ (by decide +kernel)) ggL_law_X1_thrown
set_option maxRecDepth 20000 in
theorem ggL_law_L_bend : GoodIn wsL_law wsL_bend := goodIn_ca (goodIn_ca (goodIn_ca (goodIn_r _ [84, 85, 86, 47, 87, 88, 89, 2, 90, 91, 92, 14, 93, 94, 95, 96, 54, 97, 98, 99, 100, 101, 102, 103, 104, 105, 106, 107, 108, 52, 53, 109, 110, 111, 112, 113, 114, 115, 116, 117, 118, 119, 120, 19, 18, 121, 122, 123, 62, 63, 64, 443, 444, 445, 446, 447, 448, 449, 450, 451, 452, 453, 454, 455, 456, 457] (by decide +kernel) (by decide +kernel)) (goodIn_sub (fun _ h => List.mem_append_left _ (List.mem_append_right _ h)) (by decide +kernel))) (goodIn_sub (fun _ h => List.mem_append_right _ h) (by decide +kernel))) (goodIn_sub (fun _ h => List.mem_append_left _ (List.mem_append_left _ (List.mem_append_right _ h))) (by decide +kernel))
set_option maxRecDepth 20000 in
theorem gL_law_L_bend : GoodIn wsL_law (va_wsS RL 91 yL_bend wsL_bend) := goodIn_app (goodIn_of _ (by decide +kernel)) ggL_law_L_bend
set_option maxRecDepth 20000 in
theorem ggL_law_X1_bend : GoodIn wsL_law wsX1_bend := goodIn_r _ [127, 29, 128, 129, 130, 5, 131, 69, 132, 133, 134, 135, 136, 137, 138, 139, 140, 141, 142, 143, 144, 145, 33, 37, 34, 146, 147, 148, 149, 74, 458, 459, 460, 461, 462, 463, 464, 465, 466, 467, 468, 469, 470, 471, 472, 473] (by decide +kernel) (by decide +kernel)
set_option maxRecDepth 20000 in
theorem gL_law_X1_bend : GoodIn wsL_law (wsV RL 94 RX1 yX1_bend wsX1_bend) := goodIn_app (goodIn_of _ (by decide +kernel)) ggL_law_X1_bend
set_option maxRecDepth 20000 in
theorem ggL_law_L_reach : GoodIn wsL_law wsL_reach := goodIn_ca (goodIn_ca (goodIn_ca (goodIn_r _ [152, 85, 86, 47, 153, 154, 155, 2, 156, 103, 104, 15, 16, 93, 94, 95, 96, 91, 92, 54, 97, 98, 99, 100, 101, 102, 105, 106, 107, 108, 52, 53, 109, 110, 111, 112, 113, 114, 115, 116, 117, 118, 119, 120, 19, 18, 121, 122, 123, 62, 63, 64, 443, 444, 445, 446, 447, 448, 449, 450, 451, 452, 453, 454, 455, 456, 457] (by decide +kernel) (by decide +kernel)) (goodIn_sub (fun _ h => List.mem_append_right _ h) (by decide +kernel))) (goodIn_sub (fun _ h => List.mem_append_left _ (List.mem_append_right _ h)) (by decide +kernel))) (goodIn_sub (fun _ h => List.mem_append_left _ (List.mem_append_left _ (List.mem_append_right _ h))) (by decide +kernel))
set_option maxRecDepth 20000 in
theorem gL_law_L_reach : GoodIn wsL_law (va_wsS RL 95 yL_reach wsL_reach) := goodIn_app (goodIn_of _ (by decide +kernel)) ggL_law_L_reach
set_option maxRecDepth 20000 in
theorem ggL_law_X1_reach : GoodIn wsL_law wsX1_reach := goodIn_r _ [160, 31, 30, 128, 129, 130, 5, 131, 69, 132, 133, 134, 135, 136, 137, 138, 139, 140, 141, 142, 143, 144, 145, 33, 37, 34, 146, 147, 148, 149, 74, 458, 459, 460, 461, 462, 463, 464, 465, 466, 467, 468, 469, 470, 471, 472, 473] (by decide +kernel) (by decide +kernel)
set_option maxRecDepth 20000 in
theorem gL_law_X1_reach : GoodIn wsL_law (wsV RL 97 RX1 yX1_reach wsX1_reach) := goodIn_app (goodIn_of _ (by decide +kernel)) ggL_law_X1_reach
set_option maxRecDepth 20000 in
theorem ggL_law_L_way : GoodIn wsL_law wsL_way := goodIn_ca (goodIn_ca (goodIn_ca (goodIn_r _ [163, 85, 86, 47, 164, 165, 166, 2, 167, 103, 104, 17, 93, 94, 95, 96, 91, 92, 54, 105, 106, 107, 108, 52, 53, 109, 110, 111, 112, 113, 114, 115, 116, 117, 118, 119, 120, 19, 18, 121, 122, 123, 62, 63, 64, 443, 444, 445, 446, 447, 448, 449, 450, 451, 452, 453, 454, 455, 456, 457] (by decide +kernel) (by decide +kernel)) (goodIn_sub (fun _ h => List.mem_append_right _ h) (by decide +kernel))) (goodIn_sub (fun _ h => List.mem_append_left _ (List.mem_append_right _ h)) (by decide +kernel))) (goodIn_sub (fun _ h => List.mem_append_left _ (List.mem_append_left _ (List.mem_append_right _ h))) (by decide +kernel))
set_option maxRecDepth 20000 in
theorem gL_law_L_way : GoodIn wsL_law (va_wsS RL 98 yL_way wsL_way) := goodIn_app (goodIn_of _ (by decide +kernel)) ggL_law_L_way
set_option maxRecDepth 20000 in
theorem ggL_law_X1_way : GoodIn wsL_law wsX1_way := goodIn_r _ [171, 32, 128, 129, 130, 5, 131, 69, 132, 133, 134, 141, 142, 143, 144, 145, 33, 37, 34, 146, 147, 148, 149, 74, 458, 459, 460, 461, 462, 463, 464, 465, 466, 467, 468, 469, 470, 471, 472, 473] (by decide +kernel) (by decide +kernel)
set_option maxRecDepth 20000 in
theorem gL_law_X1_way : GoodIn wsL_law (wsV RL 101 RX1 yX1_way wsX1_way) := goodIn_app (goodIn_of _ (by decide +kernel)) ggL_law_X1_way
set_option maxRecDepth 20000 in
theorem ggL_law_L_curve : GoodIn wsL_law wsL_curve := goodIn_ca (goodIn_ca (goodIn_r _ [174, 85, 86, 175, 176, 177, 2, 178, 93, 94, 95, 96, 91, 92, 54, 97, 98, 99, 100, 101, 102, 103, 104, 179, 180, 181, 182, 14, 183, 184, 185, 121, 122, 123, 186, 187, 188, 189, 443, 444, 445, 446, 447, 448, 449, 450, 451, 452, 453, 454, 455, 456, 457] (by decide +kernel) (by decide +kernel)) (goodIn_sub (fun _ h => List.mem_append_left _ (List.mem_append_right _ h)) (by decide +kernel))) (goodIn_sub (fun _ h => List.mem_append_right _ h) (by decide +kernel))
set_option maxRecDepth 20000 in
theorem gL_law_L_curve : GoodIn wsL_law (va_wsS RL 102 yL_curve wsL_curve) := goodIn_app (goodIn_of _ (by decide +kernel)) ggL_law_L_curve
set_option maxRecDepth 20000 in
theorem ggL_law_X1_curve : GoodIn wsL_law wsX1_curve := goodIn_r _ [193, 128, 129, 130, 5, 131, 69, 132, 133, 134, 135, 136, 137, 138, 139, 140, 194, 195, 196, 197, 74, 198, 199, 200, 201, 42, 29, 202, 203, 204, 205, 75, 76, 77, 206, 207, 208, 458, 459, 460, 461, 462, 463, 464, 465, 466, 467, 468, 469, 470, 471, 472, 473] (by decide +kernel) (by decide +kernel)
set_option maxRecDepth 20000 in
theorem gL_law_X1_curve : GoodIn wsL_law (wsV RL 105 RX1 yX1_curve wsX1_curve) := goodIn_app (goodIn_of _ (by decide +kernel)) ggL_law_X1_curve
set_option maxRecDepth 20000 in
theorem ggL_law_L_taken : GoodIn wsL_law wsL_taken := goodIn_ca (goodIn_ca (goodIn_r _ [211, 85, 86, 212, 213, 214, 2, 215, 93, 94, 95, 96, 91, 92, 54, 97, 98, 99, 100, 101, 102, 103, 104, 216, 217, 218, 219, 15, 16, 17, 58, 59, 60, 61, 220, 221, 222, 121, 122, 123, 179, 180, 181, 182, 14, 183, 184, 185, 186, 187, 188, 189, 223, 224, 225, 443, 444, 445, 446, 447, 448, 449, 450, 451, 452, 453, 454, 455, 456, 457] (by decide +kernel) (by decide +kernel)) (goodIn_sub (fun _ h => List.mem_append_left _ (List.mem_append_right _ h)) (by decide +kernel))) (goodIn_sub (fun _ h => List.mem_append_right _ h) (by decide +kernel))
set_option maxRecDepth 20000 in
theorem gL_law_L_taken : GoodIn wsL_law (va_wsS RL 106 yL_taken wsL_taken) := goodIn_app (goodIn_of _ (by decide +kernel)) ggL_law_L_taken
set_option maxRecDepth 20000 in
theorem ggL_law_X1_taken : GoodIn wsL_law wsX1_taken := goodIn_r _ [229, 128, 129, 130, 5, 131, 69, 132, 133, 134, 135, 136, 137, 138, 139, 140, 194, 195, 196, 197, 74, 230, 231, 232, 233, 30, 31, 32, 198, 199, 200, 201, 42, 29, 202, 203, 204, 205, 75, 76, 77, 206, 207, 208, 458, 459, 460, 461, 462, 463, 464, 465, 466, 467, 468, 469, 470, 471, 472, 473] (by decide +kernel) (by decide +kernel)
set_option maxRecDepth 20000 in
theorem gL_law_X1_taken : GoodIn wsL_law (wsV RL 108 RX1 yX1_taken wsX1_taken) := goodIn_app (goodIn_of _ (by decide +kernel)) ggL_law_X1_taken
set_option maxRecDepth 20000 in
theorem ggL_law_L_chain : GoodIn wsL_law wsL_chain := goodIn_ca (goodIn_r _ [236, 47, 237, 238, 239, 2, 240, 52, 53, 241, 443, 444, 445, 446, 447, 448, 449, 450, 451, 452, 453, 454, 455, 456, 457] (by decide +kernel) (by decide +kernel)) (goodIn_sub (fun _ h => List.mem_append_left _ (List.mem_append_left _ (List.mem_append_right _ h))) (by decide +kernel))
set_option maxRecDepth 20000 in
theorem gL_law_L_chain : GoodIn wsL_law (va_wsS RL 109 yL_chain wsL_chain) := goodIn_app (goodIn_of _ (by decide +kernel)) ggL_law_L_chain
set_option maxRecDepth 20000 in
theorem ggL_law_X1_chain : GoodIn wsL_law wsX1_chain := goodIn_r _ [245, 145, 70, 71, 72, 5, 73, 74, 458, 459, 460, 461, 462, 463, 464, 465, 466, 467, 468, 469, 470, 471, 472, 473] (by decide +kernel) (by decide +kernel)
set_option maxRecDepth 20000 in
theorem gL_law_X1_chain : GoodIn wsL_law (wsV RL 111 RX1 yX1_chain wsX1_chain) := goodIn_app (goodIn_of _ (by decide +kernel)) ggL_law_X1_chain
set_option maxRecDepth 20000 in
theorem ggL_law_L_add : GoodIn wsL_law wsL_add := goodIn_ca (goodIn_ca (goodIn_r _ [248, 85, 47, 249, 250, 251, 2, 252, 52, 53, 19, 18, 253, 254, 255, 256, 91, 92, 241, 93, 94, 95, 96, 54, 257, 258, 259, 260, 113, 114, 115, 116, 121, 122, 123, 62, 63, 64, 443, 444, 445, 446, 447, 448, 449, 450, 451, 452, 453, 454, 455, 456, 457] (by decide +kernel) (by decide +kernel)) (goodIn_sub (fun _ h => List.mem_append_left _ (List.mem_append_left _ (List.mem_append_right _ h))) (by decide +kernel))) (goodIn_sub (fun _ h => List.mem_append_left _ (List.mem_append_right _ h)) (by decide +kernel))
set_option maxRecDepth 20000 in
theorem gL_law_L_add : GoodIn wsL_law (va_wsS RL 112 yL_add wsL_add) := goodIn_app (goodIn_of _ (by decide +kernel)) ggL_law_L_add
set_option maxRecDepth 20000 in
theorem ggL_law_X1_add : GoodIn wsL_law wsX1_add := goodIn_r _ [264, 37, 33, 34, 265, 266, 267, 5, 268, 145, 132, 133, 134, 128, 129, 130, 131, 69, 194, 195, 196, 197, 74, 458, 459, 460, 461, 462, 463, 464, 465, 466, 467, 468, 469, 470, 471, 472, 473] (by decide +kernel) (by decide +kernel)
set_option maxRecDepth 20000 in
theorem gL_law_X1_add : GoodIn wsL_law (wsV RL 114 RX1 yX1_add wsX1_add) := goodIn_app (goodIn_of _ (by decide +kernel)) ggL_law_X1_add
set_option maxRecDepth 20000 in
theorem ggL_law_L_drop : GoodIn wsL_law wsL_drop := goodIn_ca (goodIn_ca (goodIn_r _ [271, 85, 47, 272, 273, 274, 2, 275, 52, 53, 19, 18, 253, 254, 255, 256, 91, 92, 241, 257, 258, 259, 260, 113, 114, 115, 116, 121, 122, 123, 62, 63, 64, 443, 444, 445, 446, 447, 448, 449, 450, 451, 452, 453, 454, 455, 456, 457] (by decide +kernel) (by decide +kernel)) (goodIn_sub (fun _ h => List.mem_append_left _ (List.mem_append_left _ (List.mem_append_right _ h))) (by decide +kernel))) (goodIn_sub (fun _ h => List.mem_append_left _ (List.mem_append_right _ h)) (by decide +kernel))
set_option maxRecDepth 20000 in
theorem gL_law_L_drop : GoodIn wsL_law (va_wsS RL 115 yL_drop wsL_drop) := goodIn_app (goodIn_of _ (by decide +kernel)) ggL_law_L_drop
set_option maxRecDepth 20000 in
theorem ggL_law_X1_drop : GoodIn wsL_law wsX1_drop := goodIn_r _ [279, 37, 33, 34, 265, 266, 267, 5, 268, 145, 132, 133, 134, 194, 195, 196, 197, 74, 458, 459, 460, 461, 462, 463, 464, 465, 466, 467, 468, 469, 470, 471, 472, 473] (by decide +kernel) (by decide +kernel)
set_option maxRecDepth 20000 in
theorem gL_law_X1_drop : GoodIn wsL_law (wsV RL 118 RX1 yX1_drop wsX1_drop) := goodIn_app (goodIn_of _ (by decide +kernel)) ggL_law_X1_drop
set_option maxRecDepth 20000 in
theorem ggL_law_L_through : GoodIn wsL_law wsL_through := goodIn_ca (goodIn_ca (goodIn_r _ [282, 85, 86, 283, 284, 285, 2, 286, 253, 254, 255, 256, 91, 92, 241, 97, 98, 99, 100, 101, 102, 103, 104, 287, 288, 289, 290, 19, 18, 121, 122, 123, 216, 217, 218, 219, 15, 16, 17, 58, 59, 60, 61, 220, 221, 222, 179, 180, 181, 182, 14, 183, 184, 185, 186, 187, 188, 189, 223, 224, 225, 443, 444, 445, 446, 447, 448, 449, 450, 451, 452, 453, 454, 455, 456, 457] (by decide +kernel) (by decide +kernel)) (goodIn_sub (fun _ h => List.mem_append_left _ (List.mem_append_right _ h)) (by decide +kernel))) (goodIn_sub (fun _ h => List.mem_append_right _ h) (by decide +kernel))
set_option maxRecDepth 20000 in
theorem gL_law_L_through : GoodIn wsL_law (va_wsS RL 119 yL_through wsL_through) := goodIn_app (goodIn_of _ (by decide +kernel)) ggL_law_L_through
set_option maxRecDepth 20000 in
theorem ggL_law_X1_through : GoodIn wsL_law wsX1_through := goodIn_r _ [294, 265, 266, 267, 5, 268, 145, 132, 133, 134, 135, 136, 137, 138, 139, 140, 194, 195, 196, 197, 74, 295, 296, 297, 298, 33, 34, 230, 231, 232, 233, 30, 31, 32, 198, 199, 200, 201, 42, 29, 202, 203, 204, 205, 75, 76, 77, 206, 207, 208, 458, 459, 460, 461, 462, 463, 464, 465, 466, 467, 468, 469, 470, 471, 472, 473] (by decide +kernel) (by decide +kernel)
set_option maxRecDepth 20000 in
theorem gL_law_X1_through : GoodIn wsL_law (wsV RL 121 RX1 yX1_through wsX1_through) := goodIn_app (goodIn_of _ (by decide +kernel)) ggL_law_X1_through
set_option maxRecDepth 20000 in
theorem ggL_law_L_gap : GoodIn wsL_law wsL_gap := goodIn_ca (goodIn_r _ [301, 85, 302, 303, 304, 2, 305, 253, 254, 255, 256, 91, 92, 241, 306, 307, 308, 309, 21, 310, 311, 60, 312, 220, 221, 222, 55, 56, 57, 58, 59, 61, 287, 288, 289, 290, 19, 18, 121, 122, 123, 216, 217, 218, 219, 15, 16, 17, 179, 180, 181, 182, 14, 183, 184, 185, 186, 187, 188, 189, 223, 224, 225, 62, 63, 64, 443, 444, 445, 446, 447, 448, 449, 450, 451, 452, 453, 454, 455, 456, 457] (by decide +kernel) (by decide +kernel)) (goodIn_sub (fun _ h => List.mem_append_left _ (List.mem_append_right _ h)) (by decide +kernel))
set_option maxRecDepth 20000 in
theorem gL_law_L_gap : GoodIn wsL_law (va_wsS RL 122 yL_gap wsL_gap) := goodIn_app (goodIn_of _ (by decide +kernel)) ggL_law_L_gap
set_option maxRecDepth 20000 in
theorem ggL_law_X1_gap : GoodIn wsL_law wsX1_gap := goodIn_r _ [316, 265, 266, 267, 5, 268, 145, 132, 133, 134, 70, 71, 72, 73, 74, 317, 318, 319, 320, 295, 296, 297, 298, 33, 34, 230, 231, 232, 233, 30, 31, 32, 198, 199, 200, 201, 42, 29, 202, 203, 204, 205, 75, 76, 77, 206, 207, 208, 321, 322, 323, 458, 459, 460, 461, 462, 463, 464, 465, 466, 467, 468, 469, 470, 471, 472, 473] (by decide +kernel) (by decide +kernel)
set_option maxRecDepth 20000 in
theorem gL_law_X1_gap : GoodIn wsL_law (wsV RL 124 RX1 yX1_gap wsX1_gap) := goodIn_app (goodIn_of _ (by decide +kernel)) ggL_law_X1_gap
set_option maxRecDepth 20000 in
theorem ggL_law_L_greyGap : GoodIn wsL_law wsL_greyGap := goodIn_ca (goodIn_r _ [326, 85, 327, 328, 329, 2, 330, 58, 59, 60, 61, 220, 221, 222, 253, 254, 255, 256, 91, 92, 241, 287, 288, 289, 290, 19, 18, 121, 122, 123, 216, 217, 218, 219, 15, 16, 17, 179, 180, 181, 182, 14, 183, 184, 185, 186, 187, 188, 189, 223, 224, 225, 443, 444, 445, 446, 447, 448, 449, 450, 451, 452, 453, 454, 455, 456, 457] (by decide +kernel) (by decide +kernel)) (goodIn_sub (fun _ h => List.mem_append_left _ (List.mem_append_right _ h)) (by decide +kernel))
set_option maxRecDepth 20000 in
theorem gL_law_L_greyGap : GoodIn wsL_law (va_wsS RL 125 yL_greyGap wsL_greyGap) := goodIn_app (goodIn_of _ (by decide +kernel)) ggL_law_L_greyGap
set_option maxRecDepth 20000 in
theorem ggL_law_X1_greyGap : GoodIn wsL_law wsX1_greyGap := goodIn_r _ [334, 265, 266, 267, 5, 268, 145, 132, 133, 134, 70, 71, 72, 73, 74, 295, 296, 297, 298, 33, 34, 230, 231, 232, 233, 30, 31, 32, 198, 199, 200, 201, 42, 29, 202, 203, 204, 205, 75, 76, 77, 206, 207, 208, 321, 322, 323, 458, 459, 460, 461, 462, 463, 464, 465, 466, 467, 468, 469, 470, 471, 472, 473] (by decide +kernel) (by decide +kernel)
set_option maxRecDepth 20000 in
theorem gL_law_X1_greyGap : GoodIn wsL_law (wsV RL 127 RX1 yX1_greyGap wsX1_greyGap) := goodIn_app (goodIn_of _ (by decide +kernel)) ggL_law_X1_greyGap
set_option maxRecDepth 20000 in
theorem ggL_law_L_join : GoodIn wsL_law wsL_join := goodIn_ca (goodIn_ca (goodIn_ca (goodIn_r _ [337, 85, 86, 47, 338, 339, 340, 2, 341, 52, 53, 20, 21, 342, 253, 254, 255, 256, 91, 92, 241, 100, 101, 102, 103, 104, 306, 307, 308, 309, 310, 311, 60, 312, 220, 221, 222, 55, 56, 57, 58, 59, 61, 287, 288, 289, 290, 19, 18, 121, 122, 123, 216, 217, 218, 219, 15, 16, 17, 179, 180, 181, 182, 14, 183, 184, 185, 186, 187, 188, 189, 223, 224, 225, 62, 63, 64, 443, 444, 445, 446, 447, 448, 449, 450, 451, 452, 453, 454, 455, 456, 457] (by decide +kernel) (by decide +kernel)) (goodIn_sub (fun _ h => List.mem_append_left _ (List.mem_append_left _ (List.mem_append_right _ h))) (by decide +kernel))) (goodIn_sub (fun _ h => List.mem_append_left _ (List.mem_append_right _ h)) (by decide +kernel))) (goodIn_sub (fun _ h => List.mem_append_right _ h) (by decide +kernel))
set_option maxRecDepth 20000 in
theorem gL_law_L_join : GoodIn wsL_law (va_wsS RL 128 yL_join wsL_join) := goodIn_app (goodIn_of _ (by decide +kernel)) ggL_law_L_join
set_option maxRecDepth 20000 in
theorem ggL_law_X1_join : GoodIn wsL_law wsX1_join := goodIn_r _ [346, 38, 36, 265, 266, 267, 5, 268, 145, 132, 133, 134, 317, 318, 319, 320, 295, 296, 297, 298, 33, 34, 230, 231, 232, 233, 30, 31, 32, 198, 199, 200, 201, 42, 29, 202, 203, 204, 205, 75, 76, 77, 206, 207, 208, 321, 322, 323, 138, 139, 140, 146, 147, 148, 149, 74, 458, 459, 460, 461, 462, 463, 464, 465, 466, 467, 468, 469, 470, 471, 472, 473] (by decide +kernel) (by decide +kernel)
set_option maxRecDepth 20000 in
theorem gL_law_X1_join : GoodIn wsL_law (wsV RL 130 RX1 yX1_join wsX1_join) := goodIn_app (goodIn_of _ (by decide +kernel)) ggL_law_X1_join
set_option maxRecDepth 20000 in
theorem ggL_law_L_joined : GoodIn wsL_law wsL_joined := goodIn_ca (goodIn_ca (goodIn_ca (goodIn_r _ [349, 85, 86, 47, 350, 351, 352, 2, 353, 52, 53, 342, 20, 253, 254, 255, 256, 91, 92, 241, 97, 98, 99, 100, 101, 102, 103, 104, 114, 115, 116, 183, 184, 185, 121, 122, 123, 186, 187, 188, 189, 443, 444, 445, 446, 447, 448, 449, 450, 451, 452, 453, 454, 455, 456, 457] (by decide +kernel) (by decide +kernel)) (goodIn_sub (fun _ h => List.mem_append_left _ (List.mem_append_left _ (List.mem_append_right _ h))) (by decide +kernel))) (goodIn_sub (fun _ h => List.mem_append_left _ (List.mem_append_right _ h)) (by decide +kernel))) (goodIn_sub (fun _ h => List.mem_append_right _ h) (by decide +kernel))
set_option maxRecDepth 20000 in
theorem gL_law_L_joined : GoodIn wsL_law (va_wsS RL 131 yL_joined wsL_joined) := goodIn_app (goodIn_of _ (by decide +kernel)) ggL_law_L_joined
set_option maxRecDepth 20000 in
theorem ggL_law_X1_joined : GoodIn wsL_law wsX1_joined := goodIn_r _ [357, 36, 42, 38, 265, 266, 267, 5, 268, 145, 132, 133, 134, 135, 136, 137, 138, 139, 140, 146, 147, 148, 149, 74, 202, 203, 204, 205, 75, 76, 77, 206, 207, 208, 458, 459, 460, 461, 462, 463, 464, 465, 466, 467, 468, 469, 470, 471, 472, 473] (by decide +kernel) (by decide +kernel)
set_option maxRecDepth 20000 in
theorem gL_law_X1_joined : GoodIn wsL_law (wsV RL 133 RX1 yX1_joined wsX1_joined) := goodIn_app (goodIn_of _ (by decide +kernel)) ggL_law_X1_joined
set_option maxRecDepth 20000 in
theorem ggL_law_X0_stale : GoodIn wsL_law wsX0_stale := goodIn_r _ [361, 342, 114, 115, 2, 116, 362, 363, 364, 365, 20, 121, 122, 123, 55, 56, 57, 58, 59, 60, 61, 287, 288, 289, 290, 19, 18, 216, 217, 218, 219, 15, 16, 17, 220, 221, 222, 179, 180, 181, 182, 14, 183, 184, 185, 186, 187, 188, 189, 223, 224, 225, 443, 444, 445, 446, 447, 448, 449, 450, 451, 452, 453, 454, 455, 456, 457] (by decide +kernel) (by decide +kernel)
set_option maxRecDepth 20000 in
theorem gL_law_X0_stale : GoodIn wsL_law (wsV RL 134 RX0 yX0_stale wsX0_stale) := goodIn_app (goodIn_of _ (by decide +kernel)) ggL_law_X0_stale
set_option maxRecDepth 20000 in
theorem ggL_law_X1_stale : GoodIn wsL_law wsX1_stale := goodIn_r _ [369, 74, 145, 38, 36, 75, 76, 5, 77, 295, 296, 297, 298, 33, 34, 230, 231, 232, 233, 30, 31, 32, 198, 199, 200, 201, 42, 29, 202, 203, 204, 205, 206, 207, 208, 458, 459, 460, 461, 462, 463, 464, 465, 466, 467, 468, 469, 470, 471, 472, 473] (by decide +kernel) (by decide +kernel)
set_option maxRecDepth 20000 in
theorem gL_law_X1_stale : GoodIn wsL_law (wsV RL 137 RX1 yX1_stale wsX1_stale) := goodIn_app (goodIn_of _ (by decide +kernel)) ggL_law_X1_stale
set_option maxRecDepth 20000 in
theorem ggL_law_L_sign : GoodIn wsL_law wsL_sign := goodIn_ca (goodIn_r _ [372, 85, 373, 374, 375, 2, 376, 113, 253, 254, 255, 256, 91, 92, 241, 114, 115, 116, 443, 444, 445, 446, 447, 448, 449, 450, 451, 452, 453, 454, 455, 456, 457] (by decide +kernel) (by decide +kernel)) (goodIn_sub (fun _ h => List.mem_append_left _ (List.mem_append_right _ h)) (by decide +kernel))
set_option maxRecDepth 20000 in
theorem gL_law_L_sign : GoodIn wsL_law (va_wsS RL 138 yL_sign wsL_sign) := goodIn_app (goodIn_of _ (by decide +kernel)) ggL_law_L_sign
set_option maxRecDepth 20000 in
theorem ggL_law_X1_sign : GoodIn wsL_law wsX1_sign := goodIn_r _ [380, 37, 265, 266, 267, 5, 268, 145, 132, 133, 134, 70, 71, 72, 73, 74, 458, 459, 460, 461, 462, 463, 464, 465, 466, 467, 468, 469, 470, 471, 472, 473] (by decide +kernel) (by decide +kernel)
set_option maxRecDepth 20000 in
theorem gL_law_X1_sign : GoodIn wsL_law (wsV RL 140 RX1 yX1_sign wsX1_sign) := goodIn_app (goodIn_of _ (by decide +kernel)) ggL_law_X1_sign
set_option maxRecDepth 20000 in
theorem ggL_law_X0_held : GoodIn wsL_law wsX0_held := goodIn_r _ [112, 113, 114, 115, 2, 116, 117, 118, 119, 120, 19, 18, 121, 122, 123, 443, 444, 445, 446, 447, 448, 449, 450, 451, 452, 453, 454, 455, 456, 457] (by decide +kernel) (by decide +kernel)
set_option maxRecDepth 20000 in
theorem gL_law_X0_held : GoodIn wsL_law (wsV RL 141 RX0 yX0_held wsX0_held) := goodIn_app (goodIn_of _ (by decide +kernel)) ggL_law_X0_held
set_option maxRecDepth 20000 in
theorem ggL_law_X1_held : GoodIn wsL_law wsX1_held := goodIn_r _ [385, 74, 69, 141, 142, 143, 5, 144, 145, 33, 37, 34, 458, 459, 460, 461, 462, 463, 464, 465, 466, 467, 468, 469, 470, 471, 472, 473] (by decide +kernel) (by decide +kernel)
set_option maxRecDepth 20000 in
theorem gL_law_X1_held : GoodIn wsL_law (wsV RL 144 RX1 yX1_held wsX1_held) := goodIn_app (goodIn_of _ (by decide +kernel)) ggL_law_X1_held
set_option maxRecDepth 20000 in
theorem ggL_law_L_paint : GoodIn wsL_law wsL_paint := goodIn_ca (goodIn_ca (goodIn_r _ [388, 85, 86, 389, 390, 391, 2, 392, 22, 393, 394, 395, 91, 92, 97, 98, 99, 100, 101, 102, 103, 104, 62, 63, 64, 443, 444, 445, 446, 447, 448, 449, 450, 451, 452, 453, 454, 455, 456, 457] (by decide +kernel) (by decide +kernel)) (goodIn_sub (fun _ h => List.mem_append_left _ (List.mem_append_right _ h)) (by decide +kernel))) (goodIn_sub (fun _ h => List.mem_append_right _ h) (by decide +kernel))
set_option maxRecDepth 20000 in
theorem gL_law_L_paint : GoodIn wsL_law (va_wsS RL 145 yL_paint wsL_paint) := goodIn_app (goodIn_of _ (by decide +kernel)) ggL_law_L_paint
set_option maxRecDepth 20000 in
theorem ggL_law_X1_paint : GoodIn wsL_law wsX1_paint := goodIn_r _ [399, 39, 400, 401, 5, 402, 132, 133, 134, 135, 136, 137, 138, 139, 140, 194, 195, 196, 197, 74, 458, 459, 460, 461, 462, 463, 464, 465, 466, 467, 468, 469, 470, 471, 472, 473] (by decide +kernel) (by decide +kernel)
set_option maxRecDepth 20000 in
theorem gL_law_X1_paint : GoodIn wsL_law (wsV RL 147 RX1 yX1_paint wsX1_paint) := goodIn_app (goodIn_of _ (by decide +kernel)) ggL_law_X1_paint
set_option maxRecDepth 20000 in
theorem ggL_law_L_spot : GoodIn wsL_law wsL_spot := goodIn_ca (goodIn_ca (goodIn_r _ [405, 85, 86, 406, 407, 408, 2, 409, 23, 393, 394, 395, 91, 92, 410, 411, 412, 100, 101, 102, 103, 104, 62, 63, 64, 443, 444, 445, 446, 447, 448, 449, 450, 451, 452, 453, 454, 455, 456, 457] (by decide +kernel) (by decide +kernel)) (goodIn_sub (fun _ h => List.mem_append_left _ (List.mem_append_right _ h)) (by decide +kernel))) (goodIn_sub (fun _ h => List.mem_append_right _ h) (by decide +kernel))
set_option maxRecDepth 20000 in
theorem gL_law_L_spot : GoodIn wsL_law (va_wsS RL 148 yL_spot wsL_spot) := goodIn_app (goodIn_of _ (by decide +kernel)) ggL_law_L_spot
set_option maxRecDepth 20000 in
theorem ggL_law_X1_spot : GoodIn wsL_law wsX1_spot := goodIn_r _ [416, 40, 400, 401, 5, 402, 132, 133, 134, 135, 136, 137, 138, 139, 140, 194, 195, 196, 197, 74, 458, 459, 460, 461, 462, 463, 464, 465, 466, 467, 468, 469, 470, 471, 472, 473] (by decide +kernel) (by decide +kernel)
set_option maxRecDepth 20000 in
theorem gL_law_X1_spot : GoodIn wsL_law (wsV RL 150 RX1 yX1_spot wsX1_spot) := goodIn_app (goodIn_of _ (by decide +kernel)) ggL_law_X1_spot
set_option maxRecDepth 20000 in
theorem ggL_law_L_mix : GoodIn wsL_law wsL_mix := goodIn_ca (goodIn_ca (goodIn_r _ [419, 85, 86, 420, 421, 422, 2, 423, 24, 410, 411, 412, 91, 92, 97, 98, 99, 100, 101, 102, 103, 104, 62, 63, 64, 443, 444, 445, 446, 447, 448, 449, 450, 451, 452, 453, 454, 455, 456, 457] (by decide +kernel) (by decide +kernel)) (goodIn_sub (fun _ h => List.mem_append_left _ (List.mem_append_right _ h)) (by decide +kernel))) (goodIn_sub (fun _ h => List.mem_append_right _ h) (by decide +kernel))
set_option maxRecDepth 20000 in
theorem gL_law_L_mix : GoodIn wsL_law (va_wsS RL 151 yL_mix wsL_mix) := goodIn_app (goodIn_of _ (by decide +kernel)) ggL_law_L_mix
set_option maxRecDepth 20000 in
theorem ggL_law_X1_mix : GoodIn wsL_law wsX1_mix := goodIn_r _ [427, 41, 135, 136, 5, 137, 132, 133, 134, 138, 139, 140, 194, 195, 196, 197, 74, 458, 459, 460, 461, 462, 463, 464, 465, 466, 467, 468, 469, 470, 471, 472, 473] (by decide +kernel) (by decide +kernel)
set_option maxRecDepth 20000 in
theorem gL_law_X1_mix : GoodIn wsL_law (wsV RL 153 RX1 yX1_mix wsX1_mix) := goodIn_app (goodIn_of _ (by decide +kernel)) ggL_law_X1_mix
set_option maxRecDepth 20000 in
theorem ggL_law_L_shown : GoodIn wsL_law wsL_shown := goodIn_ca (goodIn_ca (goodIn_r _ [430, 85, 86, 431, 432, 433, 2, 434, 103, 104, 253, 254, 255, 256, 91, 92, 241, 393, 394, 395, 97, 98, 99, 435, 436, 437, 438, 22, 24, 23, 58, 59, 60, 61, 121, 122, 123, 114, 115, 116, 287, 288, 289, 290, 19, 18, 216, 217, 218, 219, 15, 16, 17, 220, 221, 222, 179, 180, 181, 182, 14, 183, 184, 185, 186, 187, 188, 189, 223, 224, 225, 443, 444, 445, 446, 447, 448, 449, 450, 451, 452, 453, 454, 455, 456, 457] (by decide +kernel) (by decide +kernel)) (goodIn_sub (fun _ h => List.mem_append_right _ h) (by decide +kernel))) (goodIn_sub (fun _ h => List.mem_append_left _ (List.mem_append_right _ h)) (by decide +kernel))
set_option maxRecDepth 20000 in
theorem gL_law_L_shown : GoodIn wsL_law (va_wsS RL 154 yL_shown wsL_shown) := goodIn_app (goodIn_of _ (by decide +kernel)) ggL_law_L_shown
set_option maxRecDepth 20000 in
theorem ggL_law_X1_shown : GoodIn wsL_law wsX1_shown := goodIn_r _ [442, 39, 41, 40, 265, 266, 267, 5, 268, 145, 132, 133, 134, 400, 401, 402, 135, 136, 137, 194, 195, 196, 197, 74, 295, 296, 297, 298, 33, 34, 230, 231, 232, 233, 30, 31, 32, 198, 199, 200, 201, 42, 29, 202, 203, 204, 205, 75, 76, 77, 206, 207, 208, 458, 459, 460, 461, 462, 463, 464, 465, 466, 467, 468, 469, 470, 471, 472, 473] (by decide +kernel) (by decide +kernel)
set_option maxRecDepth 20000 in
theorem gL_law_X1_shown : GoodIn wsL_law (wsV RL 156 RX1 yX1_shown wsX1_shown) := goodIn_app (goodIn_of _ (by decide +kernel)) ggL_law_X1_shown
theorem dL_law_0 : decode cL_law 0 = .ok (.new 8, 3) := by decide +kernel
theorem dL_law_3 : decode cL_law 3 = .ok (.dup, 1) := by decide +kernel
theorem dL_law_4 : decode cL_law 4 = .ok (.invokespecial 78, 3) := by decide +kernel
theorem dL_law_7 : decode cL_law 7 = .ok (.astore_n 1, 1) := by decide +kernel
theorem dL_law_8 : decode cL_law 8 = .ok (.new 79, 3) := by decide +kernel
theorem dL_law_11 : decode cL_law 11 = .ok (.dup, 1) := by decide +kernel
theorem dL_law_12 : decode cL_law 12 = .ok (.invokespecial 81, 3) := by decide +kernel
theorem dL_law_15 : decode cL_law 15 = .ok (.astore_n 2, 1) := by decide +kernel
theorem dL_law_16 : decode cL_law 16 = .ok (.iconst 1, 1) := by decide +kernel
theorem dL_law_17 : decode cL_law 17 = .ok (.newarray .long, 2) := by decide +kernel
theorem dL_law_19 : decode cL_law 19 = .ok (.astore_n 3, 1) := by decide +kernel
theorem dL_law_20 : decode cL_law 20 = .ok (.iconst 0, 1) := by decide +kernel
theorem dL_law_21 : decode cL_law 21 = .ok (.istore 4, 2) := by decide +kernel
theorem dL_law_23 : decode cL_law 23 = .ok (.iload 4, 2) := by decide +kernel
theorem dL_law_25 : decode cL_law 25 = .ok (.aload_n 0, 1) := by decide +kernel
theorem dL_law_26 : decode cL_law 26 = .ok (.arraylength, 1) := by decide +kernel
theorem dL_law_27 : decode cL_law 27 = .ok (.iconst 5, 1) := by decide +kernel
theorem dL_law_28 : decode cL_law 28 = .ok (.isub, 1) := by decide +kernel
theorem dL_law_29 : decode cL_law 29 = .ok (.if_icmp .gt 1498, 3) := by decide +kernel
theorem dL_law_32 : decode cL_law 32 = .ok (.aload_n 0, 1) := by decide +kernel
theorem dL_law_33 : decode cL_law 33 = .ok (.iload 4, 2) := by decide +kernel
theorem dL_law_35 : decode cL_law 35 = .ok (.iaload, 1) := by decide +kernel
theorem dL_law_36 : decode cL_law 36 = .ok (.bipush 31, 2) := by decide +kernel
theorem dL_law_38 : decode cL_law 38 = .ok (.iand, 1) := by decide +kernel
theorem dL_law_39 : decode cL_law 39 = .ok (.tableswitch 1482 0 20 #[97, 141, 233, 325, 393, 473, 553, 597, 665, 721, 801, 857, 913, 981, 1061, 1074, 1137, 1150, 1230, 1310, 1390], 97) := by decide +kernel
theorem dL_law_136 : decode cL_law 136 = .ok (.aload_n 1, 1) := by decide +kernel
theorem dL_law_137 : decode cL_law 137 = .ok (.aload_n 3, 1) := by decide +kernel
theorem dL_law_138 : decode cL_law 138 = .ok (.invokestatic 82, 3) := by decide +kernel
theorem dL_law_141 : decode cL_law 141 = .ok (.istore 5, 2) := by decide +kernel
theorem dL_law_143 : decode cL_law 143 = .ok (.aload_n 2, 1) := by decide +kernel
theorem dL_law_144 : decode cL_law 144 = .ok (.invokevirtual 87, 3) := by decide +kernel
theorem dL_law_147 : decode cL_law 147 = .ok (.istore 6, 2) := by decide +kernel
theorem dL_law_149 : decode cL_law 149 = .ok (.aload_n 2, 1) := by decide +kernel
theorem dL_law_150 : decode cL_law 150 = .ok (.invokevirtual 88, 3) := by decide +kernel
theorem dL_law_153 : decode cL_law 153 = .ok (.iload 5, 2) := by decide +kernel
theorem dL_law_155 : decode cL_law 155 = .ok (.if_icmp .eq 5, 3) := by decide +kernel
theorem dL_law_158 : decode cL_law 158 = .ok (.iconst 0, 1) := by decide +kernel
theorem dL_law_159 : decode cL_law 159 = .ok (.ireturn, 1) := by decide +kernel
theorem dL_law_160 : decode cL_law 160 = .ok (.iload 5, 2) := by decide +kernel
theorem dL_law_162 : decode cL_law 162 = .ok (.ifCond .ne 15, 3) := by decide +kernel
theorem dL_law_165 : decode cL_law 165 = .ok (.aload_n 3, 1) := by decide +kernel
theorem dL_law_166 : decode cL_law 166 = .ok (.iconst 0, 1) := by decide +kernel
theorem dL_law_167 : decode cL_law 167 = .ok (.laload, 1) := by decide +kernel
theorem dL_law_168 : decode cL_law 168 = .ok (.iload 6, 2) := by decide +kernel
theorem dL_law_170 : decode cL_law 170 = .ok (.i2l, 1) := by decide +kernel
theorem dL_law_171 : decode cL_law 171 = .ok (.lcmp, 1) := by decide +kernel
theorem dL_law_172 : decode cL_law 172 = .ok (.ifCond .eq 5, 3) := by decide +kernel
theorem dL_law_175 : decode cL_law 175 = .ok (.iconst 0, 1) := by decide +kernel
theorem dL_law_176 : decode cL_law 176 = .ok (.ireturn, 1) := by decide +kernel
theorem dL_law_177 : decode cL_law 177 = .ok (.goto 1344, 3) := by decide +kernel
theorem dL_law_180 : decode cL_law 180 = .ok (.aload_n 1, 1) := by decide +kernel
theorem dL_law_181 : decode cL_law 181 = .ok (.aload_n 0, 1) := by decide +kernel
theorem dL_law_182 : decode cL_law 182 = .ok (.iload 4, 2) := by decide +kernel
theorem dL_law_184 : decode cL_law 184 = .ok (.iconst 1, 1) := by decide +kernel
theorem dL_law_185 : decode cL_law 185 = .ok (.iadd, 1) := by decide +kernel
theorem dL_law_186 : decode cL_law 186 = .ok (.iaload, 1) := by decide +kernel
theorem dL_law_187 : decode cL_law 187 = .ok (.aload_n 0, 1) := by decide +kernel
theorem dL_law_188 : decode cL_law 188 = .ok (.iload 4, 2) := by decide +kernel
theorem dL_law_190 : decode cL_law 190 = .ok (.iconst 2, 1) := by decide +kernel
theorem dL_law_191 : decode cL_law 191 = .ok (.iadd, 1) := by decide +kernel
theorem dL_law_192 : decode cL_law 192 = .ok (.iaload, 1) := by decide +kernel
theorem dL_law_193 : decode cL_law 193 = .ok (.aload_n 0, 1) := by decide +kernel
theorem dL_law_194 : decode cL_law 194 = .ok (.iload 4, 2) := by decide +kernel
theorem dL_law_196 : decode cL_law 196 = .ok (.iconst 3, 1) := by decide +kernel
theorem dL_law_197 : decode cL_law 197 = .ok (.iadd, 1) := by decide +kernel
theorem dL_law_198 : decode cL_law 198 = .ok (.iaload, 1) := by decide +kernel
theorem dL_law_199 : decode cL_law 199 = .ok (.aload_n 0, 1) := by decide +kernel
theorem dL_law_200 : decode cL_law 200 = .ok (.iload 4, 2) := by decide +kernel
theorem dL_law_202 : decode cL_law 202 = .ok (.iconst 4, 1) := by decide +kernel
theorem dL_law_203 : decode cL_law 203 = .ok (.iadd, 1) := by decide +kernel
theorem dL_law_204 : decode cL_law 204 = .ok (.iaload, 1) := by decide +kernel
theorem dL_law_205 : decode cL_law 205 = .ok (.aload_n 3, 1) := by decide +kernel
theorem dL_law_206 : decode cL_law 206 = .ok (.invokestatic 91, 3) := by decide +kernel
theorem dL_law_209 : decode cL_law 209 = .ok (.istore 5, 2) := by decide +kernel
theorem dL_law_211 : decode cL_law 211 = .ok (.aload_n 2, 1) := by decide +kernel
theorem dL_law_212 : decode cL_law 212 = .ok (.aload_n 0, 1) := by decide +kernel
theorem dL_law_213 : decode cL_law 213 = .ok (.iload 4, 2) := by decide +kernel
theorem dL_law_215 : decode cL_law 215 = .ok (.iconst 1, 1) := by decide +kernel
theorem dL_law_216 : decode cL_law 216 = .ok (.iadd, 1) := by decide +kernel
theorem dL_law_217 : decode cL_law 217 = .ok (.iaload, 1) := by decide +kernel
theorem dL_law_218 : decode cL_law 218 = .ok (.aload_n 0, 1) := by decide +kernel
theorem dL_law_219 : decode cL_law 219 = .ok (.iload 4, 2) := by decide +kernel
theorem dL_law_221 : decode cL_law 221 = .ok (.iconst 2, 1) := by decide +kernel
theorem dL_law_222 : decode cL_law 222 = .ok (.iadd, 1) := by decide +kernel
theorem dL_law_223 : decode cL_law 223 = .ok (.iaload, 1) := by decide +kernel
theorem dL_law_224 : decode cL_law 224 = .ok (.aload_n 0, 1) := by decide +kernel
theorem dL_law_225 : decode cL_law 225 = .ok (.iload 4, 2) := by decide +kernel
theorem dL_law_227 : decode cL_law 227 = .ok (.iconst 3, 1) := by decide +kernel
theorem dL_law_228 : decode cL_law 228 = .ok (.iadd, 1) := by decide +kernel
theorem dL_law_229 : decode cL_law 229 = .ok (.iaload, 1) := by decide +kernel
theorem dL_law_230 : decode cL_law 230 = .ok (.aload_n 0, 1) := by decide +kernel
theorem dL_law_231 : decode cL_law 231 = .ok (.iload 4, 2) := by decide +kernel
theorem dL_law_233 : decode cL_law 233 = .ok (.iconst 4, 1) := by decide +kernel
theorem dL_law_234 : decode cL_law 234 = .ok (.iadd, 1) := by decide +kernel
theorem dL_law_235 : decode cL_law 235 = .ok (.iaload, 1) := by decide +kernel
theorem dL_law_236 : decode cL_law 236 = .ok (.invokevirtual 94, 3) := by decide +kernel
theorem dL_law_239 : decode cL_law 239 = .ok (.istore 6, 2) := by decide +kernel
theorem dL_law_241 : decode cL_law 241 = .ok (.aload_n 2, 1) := by decide +kernel
theorem dL_law_242 : decode cL_law 242 = .ok (.invokevirtual 88, 3) := by decide +kernel
theorem dL_law_245 : decode cL_law 245 = .ok (.iload 5, 2) := by decide +kernel
theorem dL_law_247 : decode cL_law 247 = .ok (.if_icmp .eq 5, 3) := by decide +kernel
theorem dL_law_250 : decode cL_law 250 = .ok (.iconst 0, 1) := by decide +kernel
theorem dL_law_251 : decode cL_law 251 = .ok (.ireturn, 1) := by decide +kernel
theorem dL_law_252 : decode cL_law 252 = .ok (.iload 5, 2) := by decide +kernel
theorem dL_law_254 : decode cL_law 254 = .ok (.ifCond .ne 15, 3) := by decide +kernel
theorem dL_law_257 : decode cL_law 257 = .ok (.aload_n 3, 1) := by decide +kernel
theorem dL_law_258 : decode cL_law 258 = .ok (.iconst 0, 1) := by decide +kernel
theorem dL_law_259 : decode cL_law 259 = .ok (.laload, 1) := by decide +kernel
theorem dL_law_260 : decode cL_law 260 = .ok (.iload 6, 2) := by decide +kernel
theorem dL_law_262 : decode cL_law 262 = .ok (.i2l, 1) := by decide +kernel
theorem dL_law_263 : decode cL_law 263 = .ok (.lcmp, 1) := by decide +kernel
theorem dL_law_264 : decode cL_law 264 = .ok (.ifCond .eq 5, 3) := by decide +kernel
theorem dL_law_267 : decode cL_law 267 = .ok (.iconst 0, 1) := by decide +kernel
theorem dL_law_268 : decode cL_law 268 = .ok (.ireturn, 1) := by decide +kernel
theorem dL_law_269 : decode cL_law 269 = .ok (.goto 1252, 3) := by decide +kernel
theorem dL_law_272 : decode cL_law 272 = .ok (.aload_n 1, 1) := by decide +kernel
theorem dL_law_273 : decode cL_law 273 = .ok (.aload_n 0, 1) := by decide +kernel
theorem dL_law_274 : decode cL_law 274 = .ok (.iload 4, 2) := by decide +kernel
theorem dL_law_276 : decode cL_law 276 = .ok (.iconst 1, 1) := by decide +kernel
theorem dL_law_277 : decode cL_law 277 = .ok (.iadd, 1) := by decide +kernel
theorem dL_law_278 : decode cL_law 278 = .ok (.iaload, 1) := by decide +kernel
theorem dL_law_279 : decode cL_law 279 = .ok (.aload_n 0, 1) := by decide +kernel
theorem dL_law_280 : decode cL_law 280 = .ok (.iload 4, 2) := by decide +kernel
theorem dL_law_282 : decode cL_law 282 = .ok (.iconst 2, 1) := by decide +kernel
theorem dL_law_283 : decode cL_law 283 = .ok (.iadd, 1) := by decide +kernel
theorem dL_law_284 : decode cL_law 284 = .ok (.iaload, 1) := by decide +kernel
theorem dL_law_285 : decode cL_law 285 = .ok (.aload_n 0, 1) := by decide +kernel
theorem dL_law_286 : decode cL_law 286 = .ok (.iload 4, 2) := by decide +kernel
theorem dL_law_288 : decode cL_law 288 = .ok (.iconst 3, 1) := by decide +kernel
theorem dL_law_289 : decode cL_law 289 = .ok (.iadd, 1) := by decide +kernel
theorem dL_law_290 : decode cL_law 290 = .ok (.iaload, 1) := by decide +kernel
theorem dL_law_291 : decode cL_law 291 = .ok (.aload_n 0, 1) := by decide +kernel
theorem dL_law_292 : decode cL_law 292 = .ok (.iload 4, 2) := by decide +kernel
theorem dL_law_294 : decode cL_law 294 = .ok (.iconst 4, 1) := by decide +kernel
theorem dL_law_295 : decode cL_law 295 = .ok (.iadd, 1) := by decide +kernel
theorem dL_law_296 : decode cL_law 296 = .ok (.iaload, 1) := by decide +kernel
theorem dL_law_297 : decode cL_law 297 = .ok (.aload_n 3, 1) := by decide +kernel
theorem dL_law_298 : decode cL_law 298 = .ok (.invokestatic 95, 3) := by decide +kernel
theorem dL_law_301 : decode cL_law 301 = .ok (.istore 5, 2) := by decide +kernel
theorem dL_law_303 : decode cL_law 303 = .ok (.aload_n 2, 1) := by decide +kernel
theorem dL_law_304 : decode cL_law 304 = .ok (.aload_n 0, 1) := by decide +kernel
theorem dL_law_305 : decode cL_law 305 = .ok (.iload 4, 2) := by decide +kernel
theorem dL_law_307 : decode cL_law 307 = .ok (.iconst 1, 1) := by decide +kernel
theorem dL_law_308 : decode cL_law 308 = .ok (.iadd, 1) := by decide +kernel
theorem dL_law_309 : decode cL_law 309 = .ok (.iaload, 1) := by decide +kernel
theorem dL_law_310 : decode cL_law 310 = .ok (.aload_n 0, 1) := by decide +kernel
theorem dL_law_311 : decode cL_law 311 = .ok (.iload 4, 2) := by decide +kernel
theorem dL_law_313 : decode cL_law 313 = .ok (.iconst 2, 1) := by decide +kernel
theorem dL_law_314 : decode cL_law 314 = .ok (.iadd, 1) := by decide +kernel
theorem dL_law_315 : decode cL_law 315 = .ok (.iaload, 1) := by decide +kernel
theorem dL_law_316 : decode cL_law 316 = .ok (.aload_n 0, 1) := by decide +kernel
theorem dL_law_317 : decode cL_law 317 = .ok (.iload 4, 2) := by decide +kernel
theorem dL_law_319 : decode cL_law 319 = .ok (.iconst 3, 1) := by decide +kernel
theorem dL_law_320 : decode cL_law 320 = .ok (.iadd, 1) := by decide +kernel
theorem dL_law_321 : decode cL_law 321 = .ok (.iaload, 1) := by decide +kernel
theorem dL_law_322 : decode cL_law 322 = .ok (.aload_n 0, 1) := by decide +kernel
theorem dL_law_323 : decode cL_law 323 = .ok (.iload 4, 2) := by decide +kernel
theorem dL_law_325 : decode cL_law 325 = .ok (.iconst 4, 1) := by decide +kernel
theorem dL_law_326 : decode cL_law 326 = .ok (.iadd, 1) := by decide +kernel
theorem dL_law_327 : decode cL_law 327 = .ok (.iaload, 1) := by decide +kernel
theorem dL_law_328 : decode cL_law 328 = .ok (.invokevirtual 97, 3) := by decide +kernel
theorem dL_law_331 : decode cL_law 331 = .ok (.istore 6, 2) := by decide +kernel
theorem dL_law_333 : decode cL_law 333 = .ok (.aload_n 2, 1) := by decide +kernel
theorem dL_law_334 : decode cL_law 334 = .ok (.invokevirtual 88, 3) := by decide +kernel
theorem dL_law_337 : decode cL_law 337 = .ok (.iload 5, 2) := by decide +kernel
theorem dL_law_339 : decode cL_law 339 = .ok (.if_icmp .eq 5, 3) := by decide +kernel
theorem dL_law_342 : decode cL_law 342 = .ok (.iconst 0, 1) := by decide +kernel
theorem dL_law_343 : decode cL_law 343 = .ok (.ireturn, 1) := by decide +kernel
theorem dL_law_344 : decode cL_law 344 = .ok (.iload 5, 2) := by decide +kernel
theorem dL_law_346 : decode cL_law 346 = .ok (.ifCond .ne 15, 3) := by decide +kernel
theorem dL_law_349 : decode cL_law 349 = .ok (.aload_n 3, 1) := by decide +kernel
theorem dL_law_350 : decode cL_law 350 = .ok (.iconst 0, 1) := by decide +kernel
theorem dL_law_351 : decode cL_law 351 = .ok (.laload, 1) := by decide +kernel
theorem dL_law_352 : decode cL_law 352 = .ok (.iload 6, 2) := by decide +kernel
theorem dL_law_354 : decode cL_law 354 = .ok (.i2l, 1) := by decide +kernel
theorem dL_law_355 : decode cL_law 355 = .ok (.lcmp, 1) := by decide +kernel
theorem dL_law_356 : decode cL_law 356 = .ok (.ifCond .eq 5, 3) := by decide +kernel
theorem dL_law_359 : decode cL_law 359 = .ok (.iconst 0, 1) := by decide +kernel
theorem dL_law_360 : decode cL_law 360 = .ok (.ireturn, 1) := by decide +kernel
theorem dL_law_361 : decode cL_law 361 = .ok (.goto 1160, 3) := by decide +kernel
theorem dL_law_364 : decode cL_law 364 = .ok (.aload_n 1, 1) := by decide +kernel
theorem dL_law_365 : decode cL_law 365 = .ok (.aload_n 0, 1) := by decide +kernel
theorem dL_law_366 : decode cL_law 366 = .ok (.iload 4, 2) := by decide +kernel
theorem dL_law_368 : decode cL_law 368 = .ok (.iconst 1, 1) := by decide +kernel
theorem dL_law_369 : decode cL_law 369 = .ok (.iadd, 1) := by decide +kernel
theorem dL_law_370 : decode cL_law 370 = .ok (.iaload, 1) := by decide +kernel
theorem dL_law_371 : decode cL_law 371 = .ok (.aload_n 0, 1) := by decide +kernel
theorem dL_law_372 : decode cL_law 372 = .ok (.iload 4, 2) := by decide +kernel
theorem dL_law_374 : decode cL_law 374 = .ok (.iconst 2, 1) := by decide +kernel
theorem dL_law_375 : decode cL_law 375 = .ok (.iadd, 1) := by decide +kernel
theorem dL_law_376 : decode cL_law 376 = .ok (.iaload, 1) := by decide +kernel
theorem dL_law_377 : decode cL_law 377 = .ok (.aload_n 3, 1) := by decide +kernel
theorem dL_law_378 : decode cL_law 378 = .ok (.invokestatic 98, 3) := by decide +kernel
theorem dL_law_381 : decode cL_law 381 = .ok (.istore 5, 2) := by decide +kernel
theorem dL_law_383 : decode cL_law 383 = .ok (.aload_n 2, 1) := by decide +kernel
theorem dL_law_384 : decode cL_law 384 = .ok (.aload_n 0, 1) := by decide +kernel
theorem dL_law_385 : decode cL_law 385 = .ok (.iload 4, 2) := by decide +kernel
theorem dL_law_387 : decode cL_law 387 = .ok (.iconst 1, 1) := by decide +kernel
theorem dL_law_388 : decode cL_law 388 = .ok (.iadd, 1) := by decide +kernel
theorem dL_law_389 : decode cL_law 389 = .ok (.iaload, 1) := by decide +kernel
theorem dL_law_390 : decode cL_law 390 = .ok (.aload_n 0, 1) := by decide +kernel
theorem dL_law_391 : decode cL_law 391 = .ok (.iload 4, 2) := by decide +kernel
theorem dL_law_393 : decode cL_law 393 = .ok (.iconst 2, 1) := by decide +kernel
theorem dL_law_394 : decode cL_law 394 = .ok (.iadd, 1) := by decide +kernel
theorem dL_law_395 : decode cL_law 395 = .ok (.iaload, 1) := by decide +kernel
theorem dL_law_396 : decode cL_law 396 = .ok (.invokevirtual 101, 3) := by decide +kernel
theorem dL_law_399 : decode cL_law 399 = .ok (.istore 6, 2) := by decide +kernel
theorem dL_law_401 : decode cL_law 401 = .ok (.aload_n 2, 1) := by decide +kernel
theorem dL_law_402 : decode cL_law 402 = .ok (.invokevirtual 88, 3) := by decide +kernel
theorem dL_law_405 : decode cL_law 405 = .ok (.iload 5, 2) := by decide +kernel
theorem dL_law_407 : decode cL_law 407 = .ok (.if_icmp .eq 5, 3) := by decide +kernel
theorem dL_law_410 : decode cL_law 410 = .ok (.iconst 0, 1) := by decide +kernel
theorem dL_law_411 : decode cL_law 411 = .ok (.ireturn, 1) := by decide +kernel
theorem dL_law_412 : decode cL_law 412 = .ok (.iload 5, 2) := by decide +kernel
theorem dL_law_414 : decode cL_law 414 = .ok (.ifCond .ne 15, 3) := by decide +kernel
theorem dL_law_417 : decode cL_law 417 = .ok (.aload_n 3, 1) := by decide +kernel
theorem dL_law_418 : decode cL_law 418 = .ok (.iconst 0, 1) := by decide +kernel
theorem dL_law_419 : decode cL_law 419 = .ok (.laload, 1) := by decide +kernel
theorem dL_law_420 : decode cL_law 420 = .ok (.iload 6, 2) := by decide +kernel
theorem dL_law_422 : decode cL_law 422 = .ok (.i2l, 1) := by decide +kernel
theorem dL_law_423 : decode cL_law 423 = .ok (.lcmp, 1) := by decide +kernel
theorem dL_law_424 : decode cL_law 424 = .ok (.ifCond .eq 5, 3) := by decide +kernel
theorem dL_law_427 : decode cL_law 427 = .ok (.iconst 0, 1) := by decide +kernel
theorem dL_law_428 : decode cL_law 428 = .ok (.ireturn, 1) := by decide +kernel
theorem dL_law_429 : decode cL_law 429 = .ok (.goto 1092, 3) := by decide +kernel
theorem dL_law_432 : decode cL_law 432 = .ok (.aload_n 1, 1) := by decide +kernel
theorem dL_law_433 : decode cL_law 433 = .ok (.aload_n 0, 1) := by decide +kernel
theorem dL_law_434 : decode cL_law 434 = .ok (.iload 4, 2) := by decide +kernel
theorem dL_law_436 : decode cL_law 436 = .ok (.iconst 1, 1) := by decide +kernel
theorem dL_law_437 : decode cL_law 437 = .ok (.iadd, 1) := by decide +kernel
theorem dL_law_438 : decode cL_law 438 = .ok (.iaload, 1) := by decide +kernel
theorem dL_law_439 : decode cL_law 439 = .ok (.aload_n 0, 1) := by decide +kernel
theorem dL_law_440 : decode cL_law 440 = .ok (.iload 4, 2) := by decide +kernel
theorem dL_law_442 : decode cL_law 442 = .ok (.iconst 2, 1) := by decide +kernel
theorem dL_law_443 : decode cL_law 443 = .ok (.iadd, 1) := by decide +kernel
theorem dL_law_444 : decode cL_law 444 = .ok (.iaload, 1) := by decide +kernel
theorem dL_law_445 : decode cL_law 445 = .ok (.aload_n 0, 1) := by decide +kernel
theorem dL_law_446 : decode cL_law 446 = .ok (.iload 4, 2) := by decide +kernel
theorem dL_law_448 : decode cL_law 448 = .ok (.iconst 3, 1) := by decide +kernel
theorem dL_law_449 : decode cL_law 449 = .ok (.iadd, 1) := by decide +kernel
theorem dL_law_450 : decode cL_law 450 = .ok (.iaload, 1) := by decide +kernel
theorem dL_law_451 : decode cL_law 451 = .ok (.aload_n 3, 1) := by decide +kernel
theorem dL_law_452 : decode cL_law 452 = .ok (.invokestatic 102, 3) := by decide +kernel
theorem dL_law_455 : decode cL_law 455 = .ok (.istore 5, 2) := by decide +kernel
theorem dL_law_457 : decode cL_law 457 = .ok (.aload_n 2, 1) := by decide +kernel
theorem dL_law_458 : decode cL_law 458 = .ok (.aload_n 0, 1) := by decide +kernel
theorem dL_law_459 : decode cL_law 459 = .ok (.iload 4, 2) := by decide +kernel
theorem dL_law_461 : decode cL_law 461 = .ok (.iconst 1, 1) := by decide +kernel
theorem dL_law_462 : decode cL_law 462 = .ok (.iadd, 1) := by decide +kernel
theorem dL_law_463 : decode cL_law 463 = .ok (.iaload, 1) := by decide +kernel
theorem dL_law_464 : decode cL_law 464 = .ok (.aload_n 0, 1) := by decide +kernel
theorem dL_law_465 : decode cL_law 465 = .ok (.iload 4, 2) := by decide +kernel
theorem dL_law_467 : decode cL_law 467 = .ok (.iconst 2, 1) := by decide +kernel
theorem dL_law_468 : decode cL_law 468 = .ok (.iadd, 1) := by decide +kernel
theorem dL_law_469 : decode cL_law 469 = .ok (.iaload, 1) := by decide +kernel
theorem dL_law_470 : decode cL_law 470 = .ok (.aload_n 0, 1) := by decide +kernel
theorem dL_law_471 : decode cL_law 471 = .ok (.iload 4, 2) := by decide +kernel
theorem dL_law_473 : decode cL_law 473 = .ok (.iconst 3, 1) := by decide +kernel
theorem dL_law_474 : decode cL_law 474 = .ok (.iadd, 1) := by decide +kernel
theorem dL_law_475 : decode cL_law 475 = .ok (.iaload, 1) := by decide +kernel
theorem dL_law_476 : decode cL_law 476 = .ok (.invokevirtual 105, 3) := by decide +kernel
theorem dL_law_479 : decode cL_law 479 = .ok (.istore 6, 2) := by decide +kernel
theorem dL_law_481 : decode cL_law 481 = .ok (.aload_n 2, 1) := by decide +kernel
theorem dL_law_482 : decode cL_law 482 = .ok (.invokevirtual 88, 3) := by decide +kernel
theorem dL_law_485 : decode cL_law 485 = .ok (.iload 5, 2) := by decide +kernel
theorem dL_law_487 : decode cL_law 487 = .ok (.if_icmp .eq 5, 3) := by decide +kernel
theorem dL_law_490 : decode cL_law 490 = .ok (.iconst 0, 1) := by decide +kernel
theorem dL_law_491 : decode cL_law 491 = .ok (.ireturn, 1) := by decide +kernel
theorem dL_law_492 : decode cL_law 492 = .ok (.iload 5, 2) := by decide +kernel
theorem dL_law_494 : decode cL_law 494 = .ok (.ifCond .ne 15, 3) := by decide +kernel
theorem dL_law_497 : decode cL_law 497 = .ok (.aload_n 3, 1) := by decide +kernel
theorem dL_law_498 : decode cL_law 498 = .ok (.iconst 0, 1) := by decide +kernel
theorem dL_law_499 : decode cL_law 499 = .ok (.laload, 1) := by decide +kernel
theorem dL_law_500 : decode cL_law 500 = .ok (.iload 6, 2) := by decide +kernel
theorem dL_law_502 : decode cL_law 502 = .ok (.i2l, 1) := by decide +kernel
theorem dL_law_503 : decode cL_law 503 = .ok (.lcmp, 1) := by decide +kernel
theorem dL_law_504 : decode cL_law 504 = .ok (.ifCond .eq 5, 3) := by decide +kernel
theorem dL_law_507 : decode cL_law 507 = .ok (.iconst 0, 1) := by decide +kernel
theorem dL_law_508 : decode cL_law 508 = .ok (.ireturn, 1) := by decide +kernel
theorem dL_law_509 : decode cL_law 509 = .ok (.goto 1012, 3) := by decide +kernel
theorem dL_law_512 : decode cL_law 512 = .ok (.aload_n 1, 1) := by decide +kernel
theorem dL_law_513 : decode cL_law 513 = .ok (.aload_n 0, 1) := by decide +kernel
theorem dL_law_514 : decode cL_law 514 = .ok (.iload 4, 2) := by decide +kernel
theorem dL_law_516 : decode cL_law 516 = .ok (.iconst 1, 1) := by decide +kernel
theorem dL_law_517 : decode cL_law 517 = .ok (.iadd, 1) := by decide +kernel
theorem dL_law_518 : decode cL_law 518 = .ok (.iaload, 1) := by decide +kernel
theorem dL_law_519 : decode cL_law 519 = .ok (.aload_n 0, 1) := by decide +kernel
theorem dL_law_520 : decode cL_law 520 = .ok (.iload 4, 2) := by decide +kernel
theorem dL_law_522 : decode cL_law 522 = .ok (.iconst 2, 1) := by decide +kernel
theorem dL_law_523 : decode cL_law 523 = .ok (.iadd, 1) := by decide +kernel
theorem dL_law_524 : decode cL_law 524 = .ok (.iaload, 1) := by decide +kernel
theorem dL_law_525 : decode cL_law 525 = .ok (.aload_n 0, 1) := by decide +kernel
theorem dL_law_526 : decode cL_law 526 = .ok (.iload 4, 2) := by decide +kernel
theorem dL_law_528 : decode cL_law 528 = .ok (.iconst 3, 1) := by decide +kernel
theorem dL_law_529 : decode cL_law 529 = .ok (.iadd, 1) := by decide +kernel
theorem dL_law_530 : decode cL_law 530 = .ok (.iaload, 1) := by decide +kernel
theorem dL_law_531 : decode cL_law 531 = .ok (.aload_n 3, 1) := by decide +kernel
theorem dL_law_532 : decode cL_law 532 = .ok (.invokestatic 106, 3) := by decide +kernel
theorem dL_law_535 : decode cL_law 535 = .ok (.istore 5, 2) := by decide +kernel
theorem dL_law_537 : decode cL_law 537 = .ok (.aload_n 2, 1) := by decide +kernel
theorem dL_law_538 : decode cL_law 538 = .ok (.aload_n 0, 1) := by decide +kernel
theorem dL_law_539 : decode cL_law 539 = .ok (.iload 4, 2) := by decide +kernel
theorem dL_law_541 : decode cL_law 541 = .ok (.iconst 1, 1) := by decide +kernel
theorem dL_law_542 : decode cL_law 542 = .ok (.iadd, 1) := by decide +kernel
theorem dL_law_543 : decode cL_law 543 = .ok (.iaload, 1) := by decide +kernel
theorem dL_law_544 : decode cL_law 544 = .ok (.aload_n 0, 1) := by decide +kernel
theorem dL_law_545 : decode cL_law 545 = .ok (.iload 4, 2) := by decide +kernel
theorem dL_law_547 : decode cL_law 547 = .ok (.iconst 2, 1) := by decide +kernel
theorem dL_law_548 : decode cL_law 548 = .ok (.iadd, 1) := by decide +kernel
theorem dL_law_549 : decode cL_law 549 = .ok (.iaload, 1) := by decide +kernel
theorem dL_law_550 : decode cL_law 550 = .ok (.aload_n 0, 1) := by decide +kernel
theorem dL_law_551 : decode cL_law 551 = .ok (.iload 4, 2) := by decide +kernel
theorem dL_law_553 : decode cL_law 553 = .ok (.iconst 3, 1) := by decide +kernel
theorem dL_law_554 : decode cL_law 554 = .ok (.iadd, 1) := by decide +kernel
theorem dL_law_555 : decode cL_law 555 = .ok (.iaload, 1) := by decide +kernel
theorem dL_law_556 : decode cL_law 556 = .ok (.invokevirtual 108, 3) := by decide +kernel
theorem dL_law_559 : decode cL_law 559 = .ok (.istore 6, 2) := by decide +kernel
theorem dL_law_561 : decode cL_law 561 = .ok (.aload_n 2, 1) := by decide +kernel
theorem dL_law_562 : decode cL_law 562 = .ok (.invokevirtual 88, 3) := by decide +kernel
theorem dL_law_565 : decode cL_law 565 = .ok (.iload 5, 2) := by decide +kernel
theorem dL_law_567 : decode cL_law 567 = .ok (.if_icmp .eq 5, 3) := by decide +kernel
theorem dL_law_570 : decode cL_law 570 = .ok (.iconst 0, 1) := by decide +kernel
theorem dL_law_571 : decode cL_law 571 = .ok (.ireturn, 1) := by decide +kernel
theorem dL_law_572 : decode cL_law 572 = .ok (.iload 5, 2) := by decide +kernel
theorem dL_law_574 : decode cL_law 574 = .ok (.ifCond .ne 15, 3) := by decide +kernel
theorem dL_law_577 : decode cL_law 577 = .ok (.aload_n 3, 1) := by decide +kernel
theorem dL_law_578 : decode cL_law 578 = .ok (.iconst 0, 1) := by decide +kernel
theorem dL_law_579 : decode cL_law 579 = .ok (.laload, 1) := by decide +kernel
theorem dL_law_580 : decode cL_law 580 = .ok (.iload 6, 2) := by decide +kernel
theorem dL_law_582 : decode cL_law 582 = .ok (.i2l, 1) := by decide +kernel
theorem dL_law_583 : decode cL_law 583 = .ok (.lcmp, 1) := by decide +kernel
theorem dL_law_584 : decode cL_law 584 = .ok (.ifCond .eq 5, 3) := by decide +kernel
theorem dL_law_587 : decode cL_law 587 = .ok (.iconst 0, 1) := by decide +kernel
theorem dL_law_588 : decode cL_law 588 = .ok (.ireturn, 1) := by decide +kernel
theorem dL_law_589 : decode cL_law 589 = .ok (.goto 932, 3) := by decide +kernel
theorem dL_law_592 : decode cL_law 592 = .ok (.aload_n 1, 1) := by decide +kernel
theorem dL_law_593 : decode cL_law 593 = .ok (.aload_n 3, 1) := by decide +kernel
theorem dL_law_594 : decode cL_law 594 = .ok (.invokestatic 109, 3) := by decide +kernel
theorem dL_law_597 : decode cL_law 597 = .ok (.istore 5, 2) := by decide +kernel
theorem dL_law_599 : decode cL_law 599 = .ok (.aload_n 2, 1) := by decide +kernel
theorem dL_law_600 : decode cL_law 600 = .ok (.invokevirtual 111, 3) := by decide +kernel
theorem dL_law_603 : decode cL_law 603 = .ok (.istore 6, 2) := by decide +kernel
theorem dL_law_605 : decode cL_law 605 = .ok (.aload_n 2, 1) := by decide +kernel
theorem dL_law_606 : decode cL_law 606 = .ok (.invokevirtual 88, 3) := by decide +kernel
theorem dL_law_609 : decode cL_law 609 = .ok (.iload 5, 2) := by decide +kernel
theorem dL_law_611 : decode cL_law 611 = .ok (.if_icmp .eq 5, 3) := by decide +kernel
theorem dL_law_614 : decode cL_law 614 = .ok (.iconst 0, 1) := by decide +kernel
theorem dL_law_615 : decode cL_law 615 = .ok (.ireturn, 1) := by decide +kernel
theorem dL_law_616 : decode cL_law 616 = .ok (.iload 5, 2) := by decide +kernel
theorem dL_law_618 : decode cL_law 618 = .ok (.ifCond .ne 15, 3) := by decide +kernel
theorem dL_law_621 : decode cL_law 621 = .ok (.aload_n 3, 1) := by decide +kernel
theorem dL_law_622 : decode cL_law 622 = .ok (.iconst 0, 1) := by decide +kernel
theorem dL_law_623 : decode cL_law 623 = .ok (.laload, 1) := by decide +kernel
theorem dL_law_624 : decode cL_law 624 = .ok (.iload 6, 2) := by decide +kernel
theorem dL_law_626 : decode cL_law 626 = .ok (.i2l, 1) := by decide +kernel
theorem dL_law_627 : decode cL_law 627 = .ok (.lcmp, 1) := by decide +kernel
theorem dL_law_628 : decode cL_law 628 = .ok (.ifCond .eq 5, 3) := by decide +kernel
theorem dL_law_631 : decode cL_law 631 = .ok (.iconst 0, 1) := by decide +kernel
theorem dL_law_632 : decode cL_law 632 = .ok (.ireturn, 1) := by decide +kernel
theorem dL_law_633 : decode cL_law 633 = .ok (.goto 888, 3) := by decide +kernel
theorem dL_law_636 : decode cL_law 636 = .ok (.aload_n 1, 1) := by decide +kernel
theorem dL_law_637 : decode cL_law 637 = .ok (.aload_n 0, 1) := by decide +kernel
theorem dL_law_638 : decode cL_law 638 = .ok (.iload 4, 2) := by decide +kernel
theorem dL_law_640 : decode cL_law 640 = .ok (.iconst 1, 1) := by decide +kernel
theorem dL_law_641 : decode cL_law 641 = .ok (.iadd, 1) := by decide +kernel
theorem dL_law_642 : decode cL_law 642 = .ok (.iaload, 1) := by decide +kernel
theorem dL_law_643 : decode cL_law 643 = .ok (.aload_n 0, 1) := by decide +kernel
theorem dL_law_644 : decode cL_law 644 = .ok (.iload 4, 2) := by decide +kernel
theorem dL_law_646 : decode cL_law 646 = .ok (.iconst 2, 1) := by decide +kernel
theorem dL_law_647 : decode cL_law 647 = .ok (.iadd, 1) := by decide +kernel
theorem dL_law_648 : decode cL_law 648 = .ok (.iaload, 1) := by decide +kernel
theorem dL_law_649 : decode cL_law 649 = .ok (.aload_n 3, 1) := by decide +kernel
theorem dL_law_650 : decode cL_law 650 = .ok (.invokestatic 112, 3) := by decide +kernel
theorem dL_law_653 : decode cL_law 653 = .ok (.istore 5, 2) := by decide +kernel
theorem dL_law_655 : decode cL_law 655 = .ok (.aload_n 2, 1) := by decide +kernel
theorem dL_law_656 : decode cL_law 656 = .ok (.aload_n 0, 1) := by decide +kernel
theorem dL_law_657 : decode cL_law 657 = .ok (.iload 4, 2) := by decide +kernel
theorem dL_law_659 : decode cL_law 659 = .ok (.iconst 1, 1) := by decide +kernel
theorem dL_law_660 : decode cL_law 660 = .ok (.iadd, 1) := by decide +kernel
theorem dL_law_661 : decode cL_law 661 = .ok (.iaload, 1) := by decide +kernel
theorem dL_law_662 : decode cL_law 662 = .ok (.aload_n 0, 1) := by decide +kernel
theorem dL_law_663 : decode cL_law 663 = .ok (.iload 4, 2) := by decide +kernel
theorem dL_law_665 : decode cL_law 665 = .ok (.iconst 2, 1) := by decide +kernel
theorem dL_law_666 : decode cL_law 666 = .ok (.iadd, 1) := by decide +kernel
theorem dL_law_667 : decode cL_law 667 = .ok (.iaload, 1) := by decide +kernel
theorem dL_law_668 : decode cL_law 668 = .ok (.invokevirtual 114, 3) := by decide +kernel
theorem dL_law_671 : decode cL_law 671 = .ok (.istore 6, 2) := by decide +kernel
theorem dL_law_673 : decode cL_law 673 = .ok (.aload_n 2, 1) := by decide +kernel
theorem dL_law_674 : decode cL_law 674 = .ok (.invokevirtual 88, 3) := by decide +kernel
theorem dL_law_677 : decode cL_law 677 = .ok (.iload 5, 2) := by decide +kernel
theorem dL_law_679 : decode cL_law 679 = .ok (.if_icmp .eq 5, 3) := by decide +kernel
theorem dL_law_682 : decode cL_law 682 = .ok (.iconst 0, 1) := by decide +kernel
theorem dL_law_683 : decode cL_law 683 = .ok (.ireturn, 1) := by decide +kernel
theorem dL_law_684 : decode cL_law 684 = .ok (.iload 5, 2) := by decide +kernel
theorem dL_law_686 : decode cL_law 686 = .ok (.ifCond .ne 15, 3) := by decide +kernel
theorem dL_law_689 : decode cL_law 689 = .ok (.aload_n 3, 1) := by decide +kernel
theorem dL_law_690 : decode cL_law 690 = .ok (.iconst 0, 1) := by decide +kernel
theorem dL_law_691 : decode cL_law 691 = .ok (.laload, 1) := by decide +kernel
theorem dL_law_692 : decode cL_law 692 = .ok (.iload 6, 2) := by decide +kernel
theorem dL_law_694 : decode cL_law 694 = .ok (.i2l, 1) := by decide +kernel
theorem dL_law_695 : decode cL_law 695 = .ok (.lcmp, 1) := by decide +kernel
theorem dL_law_696 : decode cL_law 696 = .ok (.ifCond .eq 5, 3) := by decide +kernel
theorem dL_law_699 : decode cL_law 699 = .ok (.iconst 0, 1) := by decide +kernel
theorem dL_law_700 : decode cL_law 700 = .ok (.ireturn, 1) := by decide +kernel
theorem dL_law_701 : decode cL_law 701 = .ok (.goto 820, 3) := by decide +kernel
theorem dL_law_704 : decode cL_law 704 = .ok (.aload_n 1, 1) := by decide +kernel
theorem dL_law_705 : decode cL_law 705 = .ok (.aload_n 0, 1) := by decide +kernel
theorem dL_law_706 : decode cL_law 706 = .ok (.iload 4, 2) := by decide +kernel
theorem dL_law_708 : decode cL_law 708 = .ok (.iconst 1, 1) := by decide +kernel
theorem dL_law_709 : decode cL_law 709 = .ok (.iadd, 1) := by decide +kernel
theorem dL_law_710 : decode cL_law 710 = .ok (.iaload, 1) := by decide +kernel
theorem dL_law_711 : decode cL_law 711 = .ok (.aload_n 3, 1) := by decide +kernel
theorem dL_law_712 : decode cL_law 712 = .ok (.invokestatic 115, 3) := by decide +kernel
theorem dL_law_715 : decode cL_law 715 = .ok (.istore 5, 2) := by decide +kernel
theorem dL_law_717 : decode cL_law 717 = .ok (.aload_n 2, 1) := by decide +kernel
theorem dL_law_718 : decode cL_law 718 = .ok (.aload_n 0, 1) := by decide +kernel
theorem dL_law_719 : decode cL_law 719 = .ok (.iload 4, 2) := by decide +kernel
theorem dL_law_721 : decode cL_law 721 = .ok (.iconst 1, 1) := by decide +kernel
theorem dL_law_722 : decode cL_law 722 = .ok (.iadd, 1) := by decide +kernel
theorem dL_law_723 : decode cL_law 723 = .ok (.iaload, 1) := by decide +kernel
theorem dL_law_724 : decode cL_law 724 = .ok (.invokevirtual 118, 3) := by decide +kernel
theorem dL_law_727 : decode cL_law 727 = .ok (.istore 6, 2) := by decide +kernel
theorem dL_law_729 : decode cL_law 729 = .ok (.aload_n 2, 1) := by decide +kernel
theorem dL_law_730 : decode cL_law 730 = .ok (.invokevirtual 88, 3) := by decide +kernel
theorem dL_law_733 : decode cL_law 733 = .ok (.iload 5, 2) := by decide +kernel
theorem dL_law_735 : decode cL_law 735 = .ok (.if_icmp .eq 5, 3) := by decide +kernel
theorem dL_law_738 : decode cL_law 738 = .ok (.iconst 0, 1) := by decide +kernel
theorem dL_law_739 : decode cL_law 739 = .ok (.ireturn, 1) := by decide +kernel
theorem dL_law_740 : decode cL_law 740 = .ok (.iload 5, 2) := by decide +kernel
theorem dL_law_742 : decode cL_law 742 = .ok (.ifCond .ne 15, 3) := by decide +kernel
theorem dL_law_745 : decode cL_law 745 = .ok (.aload_n 3, 1) := by decide +kernel
theorem dL_law_746 : decode cL_law 746 = .ok (.iconst 0, 1) := by decide +kernel
theorem dL_law_747 : decode cL_law 747 = .ok (.laload, 1) := by decide +kernel
theorem dL_law_748 : decode cL_law 748 = .ok (.iload 6, 2) := by decide +kernel
theorem dL_law_750 : decode cL_law 750 = .ok (.i2l, 1) := by decide +kernel
theorem dL_law_751 : decode cL_law 751 = .ok (.lcmp, 1) := by decide +kernel
theorem dL_law_752 : decode cL_law 752 = .ok (.ifCond .eq 5, 3) := by decide +kernel
theorem dL_law_755 : decode cL_law 755 = .ok (.iconst 0, 1) := by decide +kernel
theorem dL_law_756 : decode cL_law 756 = .ok (.ireturn, 1) := by decide +kernel
theorem dL_law_757 : decode cL_law 757 = .ok (.goto 764, 3) := by decide +kernel
theorem dL_law_760 : decode cL_law 760 = .ok (.aload_n 1, 1) := by decide +kernel
theorem dL_law_761 : decode cL_law 761 = .ok (.aload_n 0, 1) := by decide +kernel
theorem dL_law_762 : decode cL_law 762 = .ok (.iload 4, 2) := by decide +kernel
theorem dL_law_764 : decode cL_law 764 = .ok (.iconst 1, 1) := by decide +kernel
theorem dL_law_765 : decode cL_law 765 = .ok (.iadd, 1) := by decide +kernel
theorem dL_law_766 : decode cL_law 766 = .ok (.iaload, 1) := by decide +kernel
theorem dL_law_767 : decode cL_law 767 = .ok (.aload_n 0, 1) := by decide +kernel
theorem dL_law_768 : decode cL_law 768 = .ok (.iload 4, 2) := by decide +kernel
theorem dL_law_770 : decode cL_law 770 = .ok (.iconst 2, 1) := by decide +kernel
theorem dL_law_771 : decode cL_law 771 = .ok (.iadd, 1) := by decide +kernel
theorem dL_law_772 : decode cL_law 772 = .ok (.iaload, 1) := by decide +kernel
theorem dL_law_773 : decode cL_law 773 = .ok (.aload_n 0, 1) := by decide +kernel
theorem dL_law_774 : decode cL_law 774 = .ok (.iload 4, 2) := by decide +kernel
theorem dL_law_776 : decode cL_law 776 = .ok (.iconst 3, 1) := by decide +kernel
theorem dL_law_777 : decode cL_law 777 = .ok (.iadd, 1) := by decide +kernel
theorem dL_law_778 : decode cL_law 778 = .ok (.iaload, 1) := by decide +kernel
theorem dL_law_779 : decode cL_law 779 = .ok (.aload_n 3, 1) := by decide +kernel
theorem dL_law_780 : decode cL_law 780 = .ok (.invokestatic 119, 3) := by decide +kernel
theorem dL_law_783 : decode cL_law 783 = .ok (.istore 5, 2) := by decide +kernel
theorem dL_law_785 : decode cL_law 785 = .ok (.aload_n 2, 1) := by decide +kernel
theorem dL_law_786 : decode cL_law 786 = .ok (.aload_n 0, 1) := by decide +kernel
theorem dL_law_787 : decode cL_law 787 = .ok (.iload 4, 2) := by decide +kernel
theorem dL_law_789 : decode cL_law 789 = .ok (.iconst 1, 1) := by decide +kernel
theorem dL_law_790 : decode cL_law 790 = .ok (.iadd, 1) := by decide +kernel
theorem dL_law_791 : decode cL_law 791 = .ok (.iaload, 1) := by decide +kernel
theorem dL_law_792 : decode cL_law 792 = .ok (.aload_n 0, 1) := by decide +kernel
theorem dL_law_793 : decode cL_law 793 = .ok (.iload 4, 2) := by decide +kernel
theorem dL_law_795 : decode cL_law 795 = .ok (.iconst 2, 1) := by decide +kernel
theorem dL_law_796 : decode cL_law 796 = .ok (.iadd, 1) := by decide +kernel
theorem dL_law_797 : decode cL_law 797 = .ok (.iaload, 1) := by decide +kernel
theorem dL_law_798 : decode cL_law 798 = .ok (.aload_n 0, 1) := by decide +kernel
theorem dL_law_799 : decode cL_law 799 = .ok (.iload 4, 2) := by decide +kernel
theorem dL_law_801 : decode cL_law 801 = .ok (.iconst 3, 1) := by decide +kernel
theorem dL_law_802 : decode cL_law 802 = .ok (.iadd, 1) := by decide +kernel
theorem dL_law_803 : decode cL_law 803 = .ok (.iaload, 1) := by decide +kernel
theorem dL_law_804 : decode cL_law 804 = .ok (.invokevirtual 121, 3) := by decide +kernel
theorem dL_law_807 : decode cL_law 807 = .ok (.istore 6, 2) := by decide +kernel
theorem dL_law_809 : decode cL_law 809 = .ok (.aload_n 2, 1) := by decide +kernel
theorem dL_law_810 : decode cL_law 810 = .ok (.invokevirtual 88, 3) := by decide +kernel
theorem dL_law_813 : decode cL_law 813 = .ok (.iload 5, 2) := by decide +kernel
theorem dL_law_815 : decode cL_law 815 = .ok (.if_icmp .eq 5, 3) := by decide +kernel
theorem dL_law_818 : decode cL_law 818 = .ok (.iconst 0, 1) := by decide +kernel
theorem dL_law_819 : decode cL_law 819 = .ok (.ireturn, 1) := by decide +kernel
theorem dL_law_820 : decode cL_law 820 = .ok (.iload 5, 2) := by decide +kernel
theorem dL_law_822 : decode cL_law 822 = .ok (.ifCond .ne 15, 3) := by decide +kernel
theorem dL_law_825 : decode cL_law 825 = .ok (.aload_n 3, 1) := by decide +kernel
theorem dL_law_826 : decode cL_law 826 = .ok (.iconst 0, 1) := by decide +kernel
theorem dL_law_827 : decode cL_law 827 = .ok (.laload, 1) := by decide +kernel
theorem dL_law_828 : decode cL_law 828 = .ok (.iload 6, 2) := by decide +kernel
theorem dL_law_830 : decode cL_law 830 = .ok (.i2l, 1) := by decide +kernel
theorem dL_law_831 : decode cL_law 831 = .ok (.lcmp, 1) := by decide +kernel
theorem dL_law_832 : decode cL_law 832 = .ok (.ifCond .eq 5, 3) := by decide +kernel
theorem dL_law_835 : decode cL_law 835 = .ok (.iconst 0, 1) := by decide +kernel
theorem dL_law_836 : decode cL_law 836 = .ok (.ireturn, 1) := by decide +kernel
theorem dL_law_837 : decode cL_law 837 = .ok (.goto 684, 3) := by decide +kernel
theorem dL_law_840 : decode cL_law 840 = .ok (.aload_n 1, 1) := by decide +kernel
theorem dL_law_841 : decode cL_law 841 = .ok (.aload_n 0, 1) := by decide +kernel
theorem dL_law_842 : decode cL_law 842 = .ok (.iload 4, 2) := by decide +kernel
theorem dL_law_844 : decode cL_law 844 = .ok (.iconst 1, 1) := by decide +kernel
theorem dL_law_845 : decode cL_law 845 = .ok (.iadd, 1) := by decide +kernel
theorem dL_law_846 : decode cL_law 846 = .ok (.iaload, 1) := by decide +kernel
theorem dL_law_847 : decode cL_law 847 = .ok (.aload_n 3, 1) := by decide +kernel
theorem dL_law_848 : decode cL_law 848 = .ok (.invokestatic 122, 3) := by decide +kernel
theorem dL_law_851 : decode cL_law 851 = .ok (.istore 5, 2) := by decide +kernel
theorem dL_law_853 : decode cL_law 853 = .ok (.aload_n 2, 1) := by decide +kernel
theorem dL_law_854 : decode cL_law 854 = .ok (.aload_n 0, 1) := by decide +kernel
theorem dL_law_855 : decode cL_law 855 = .ok (.iload 4, 2) := by decide +kernel
theorem dL_law_857 : decode cL_law 857 = .ok (.iconst 1, 1) := by decide +kernel
theorem dL_law_858 : decode cL_law 858 = .ok (.iadd, 1) := by decide +kernel
theorem dL_law_859 : decode cL_law 859 = .ok (.iaload, 1) := by decide +kernel
theorem dL_law_860 : decode cL_law 860 = .ok (.invokevirtual 124, 3) := by decide +kernel
theorem dL_law_863 : decode cL_law 863 = .ok (.istore 6, 2) := by decide +kernel
theorem dL_law_865 : decode cL_law 865 = .ok (.aload_n 2, 1) := by decide +kernel
theorem dL_law_866 : decode cL_law 866 = .ok (.invokevirtual 88, 3) := by decide +kernel
theorem dL_law_869 : decode cL_law 869 = .ok (.iload 5, 2) := by decide +kernel
theorem dL_law_871 : decode cL_law 871 = .ok (.if_icmp .eq 5, 3) := by decide +kernel
theorem dL_law_874 : decode cL_law 874 = .ok (.iconst 0, 1) := by decide +kernel
theorem dL_law_875 : decode cL_law 875 = .ok (.ireturn, 1) := by decide +kernel
theorem dL_law_876 : decode cL_law 876 = .ok (.iload 5, 2) := by decide +kernel
theorem dL_law_878 : decode cL_law 878 = .ok (.ifCond .ne 15, 3) := by decide +kernel
theorem dL_law_881 : decode cL_law 881 = .ok (.aload_n 3, 1) := by decide +kernel
theorem dL_law_882 : decode cL_law 882 = .ok (.iconst 0, 1) := by decide +kernel
theorem dL_law_883 : decode cL_law 883 = .ok (.laload, 1) := by decide +kernel
theorem dL_law_884 : decode cL_law 884 = .ok (.iload 6, 2) := by decide +kernel
theorem dL_law_886 : decode cL_law 886 = .ok (.i2l, 1) := by decide +kernel
theorem dL_law_887 : decode cL_law 887 = .ok (.lcmp, 1) := by decide +kernel
theorem dL_law_888 : decode cL_law 888 = .ok (.ifCond .eq 5, 3) := by decide +kernel
theorem dL_law_891 : decode cL_law 891 = .ok (.iconst 0, 1) := by decide +kernel
theorem dL_law_892 : decode cL_law 892 = .ok (.ireturn, 1) := by decide +kernel
theorem dL_law_893 : decode cL_law 893 = .ok (.goto 628, 3) := by decide +kernel
theorem dL_law_896 : decode cL_law 896 = .ok (.aload_n 1, 1) := by decide +kernel
theorem dL_law_897 : decode cL_law 897 = .ok (.aload_n 0, 1) := by decide +kernel
theorem dL_law_898 : decode cL_law 898 = .ok (.iload 4, 2) := by decide +kernel
theorem dL_law_900 : decode cL_law 900 = .ok (.iconst 1, 1) := by decide +kernel
theorem dL_law_901 : decode cL_law 901 = .ok (.iadd, 1) := by decide +kernel
theorem dL_law_902 : decode cL_law 902 = .ok (.iaload, 1) := by decide +kernel
theorem dL_law_903 : decode cL_law 903 = .ok (.aload_n 3, 1) := by decide +kernel
theorem dL_law_904 : decode cL_law 904 = .ok (.invokestatic 125, 3) := by decide +kernel
theorem dL_law_907 : decode cL_law 907 = .ok (.istore 5, 2) := by decide +kernel
theorem dL_law_909 : decode cL_law 909 = .ok (.aload_n 2, 1) := by decide +kernel
theorem dL_law_910 : decode cL_law 910 = .ok (.aload_n 0, 1) := by decide +kernel
theorem dL_law_911 : decode cL_law 911 = .ok (.iload 4, 2) := by decide +kernel
theorem dL_law_913 : decode cL_law 913 = .ok (.iconst 1, 1) := by decide +kernel
theorem dL_law_914 : decode cL_law 914 = .ok (.iadd, 1) := by decide +kernel
theorem dL_law_915 : decode cL_law 915 = .ok (.iaload, 1) := by decide +kernel
theorem dL_law_916 : decode cL_law 916 = .ok (.invokevirtual 127, 3) := by decide +kernel
theorem dL_law_919 : decode cL_law 919 = .ok (.istore 6, 2) := by decide +kernel
theorem dL_law_921 : decode cL_law 921 = .ok (.aload_n 2, 1) := by decide +kernel
theorem dL_law_922 : decode cL_law 922 = .ok (.invokevirtual 88, 3) := by decide +kernel
theorem dL_law_925 : decode cL_law 925 = .ok (.iload 5, 2) := by decide +kernel
theorem dL_law_927 : decode cL_law 927 = .ok (.if_icmp .eq 5, 3) := by decide +kernel
theorem dL_law_930 : decode cL_law 930 = .ok (.iconst 0, 1) := by decide +kernel
theorem dL_law_931 : decode cL_law 931 = .ok (.ireturn, 1) := by decide +kernel
theorem dL_law_932 : decode cL_law 932 = .ok (.iload 5, 2) := by decide +kernel
theorem dL_law_934 : decode cL_law 934 = .ok (.ifCond .ne 15, 3) := by decide +kernel
theorem dL_law_937 : decode cL_law 937 = .ok (.aload_n 3, 1) := by decide +kernel
theorem dL_law_938 : decode cL_law 938 = .ok (.iconst 0, 1) := by decide +kernel
theorem dL_law_939 : decode cL_law 939 = .ok (.laload, 1) := by decide +kernel
theorem dL_law_940 : decode cL_law 940 = .ok (.iload 6, 2) := by decide +kernel
theorem dL_law_942 : decode cL_law 942 = .ok (.i2l, 1) := by decide +kernel
theorem dL_law_943 : decode cL_law 943 = .ok (.lcmp, 1) := by decide +kernel
theorem dL_law_944 : decode cL_law 944 = .ok (.ifCond .eq 5, 3) := by decide +kernel
theorem dL_law_947 : decode cL_law 947 = .ok (.iconst 0, 1) := by decide +kernel
theorem dL_law_948 : decode cL_law 948 = .ok (.ireturn, 1) := by decide +kernel
theorem dL_law_949 : decode cL_law 949 = .ok (.goto 572, 3) := by decide +kernel
theorem dL_law_952 : decode cL_law 952 = .ok (.aload_n 1, 1) := by decide +kernel
theorem dL_law_953 : decode cL_law 953 = .ok (.aload_n 0, 1) := by decide +kernel
theorem dL_law_954 : decode cL_law 954 = .ok (.iload 4, 2) := by decide +kernel
theorem dL_law_956 : decode cL_law 956 = .ok (.iconst 1, 1) := by decide +kernel
theorem dL_law_957 : decode cL_law 957 = .ok (.iadd, 1) := by decide +kernel
theorem dL_law_958 : decode cL_law 958 = .ok (.iaload, 1) := by decide +kernel
theorem dL_law_959 : decode cL_law 959 = .ok (.aload_n 0, 1) := by decide +kernel
theorem dL_law_960 : decode cL_law 960 = .ok (.iload 4, 2) := by decide +kernel
theorem dL_law_962 : decode cL_law 962 = .ok (.iconst 2, 1) := by decide +kernel
theorem dL_law_963 : decode cL_law 963 = .ok (.iadd, 1) := by decide +kernel
theorem dL_law_964 : decode cL_law 964 = .ok (.iaload, 1) := by decide +kernel
theorem dL_law_965 : decode cL_law 965 = .ok (.aload_n 3, 1) := by decide +kernel
theorem dL_law_966 : decode cL_law 966 = .ok (.invokestatic 128, 3) := by decide +kernel
theorem dL_law_969 : decode cL_law 969 = .ok (.istore 5, 2) := by decide +kernel
theorem dL_law_971 : decode cL_law 971 = .ok (.aload_n 2, 1) := by decide +kernel
theorem dL_law_972 : decode cL_law 972 = .ok (.aload_n 0, 1) := by decide +kernel
theorem dL_law_973 : decode cL_law 973 = .ok (.iload 4, 2) := by decide +kernel
theorem dL_law_975 : decode cL_law 975 = .ok (.iconst 1, 1) := by decide +kernel
theorem dL_law_976 : decode cL_law 976 = .ok (.iadd, 1) := by decide +kernel
theorem dL_law_977 : decode cL_law 977 = .ok (.iaload, 1) := by decide +kernel
theorem dL_law_978 : decode cL_law 978 = .ok (.aload_n 0, 1) := by decide +kernel
theorem dL_law_979 : decode cL_law 979 = .ok (.iload 4, 2) := by decide +kernel
theorem dL_law_981 : decode cL_law 981 = .ok (.iconst 2, 1) := by decide +kernel
theorem dL_law_982 : decode cL_law 982 = .ok (.iadd, 1) := by decide +kernel
theorem dL_law_983 : decode cL_law 983 = .ok (.iaload, 1) := by decide +kernel
theorem dL_law_984 : decode cL_law 984 = .ok (.invokevirtual 130, 3) := by decide +kernel
theorem dL_law_987 : decode cL_law 987 = .ok (.istore 6, 2) := by decide +kernel
theorem dL_law_989 : decode cL_law 989 = .ok (.aload_n 2, 1) := by decide +kernel
theorem dL_law_990 : decode cL_law 990 = .ok (.invokevirtual 88, 3) := by decide +kernel
theorem dL_law_993 : decode cL_law 993 = .ok (.iload 5, 2) := by decide +kernel
theorem dL_law_995 : decode cL_law 995 = .ok (.if_icmp .eq 5, 3) := by decide +kernel
theorem dL_law_998 : decode cL_law 998 = .ok (.iconst 0, 1) := by decide +kernel
theorem dL_law_999 : decode cL_law 999 = .ok (.ireturn, 1) := by decide +kernel
theorem dL_law_1000 : decode cL_law 1000 = .ok (.iload 5, 2) := by decide +kernel
theorem dL_law_1002 : decode cL_law 1002 = .ok (.ifCond .ne 15, 3) := by decide +kernel
theorem dL_law_1005 : decode cL_law 1005 = .ok (.aload_n 3, 1) := by decide +kernel
theorem dL_law_1006 : decode cL_law 1006 = .ok (.iconst 0, 1) := by decide +kernel
theorem dL_law_1007 : decode cL_law 1007 = .ok (.laload, 1) := by decide +kernel
theorem dL_law_1008 : decode cL_law 1008 = .ok (.iload 6, 2) := by decide +kernel
theorem dL_law_1010 : decode cL_law 1010 = .ok (.i2l, 1) := by decide +kernel
theorem dL_law_1011 : decode cL_law 1011 = .ok (.lcmp, 1) := by decide +kernel
theorem dL_law_1012 : decode cL_law 1012 = .ok (.ifCond .eq 5, 3) := by decide +kernel
theorem dL_law_1015 : decode cL_law 1015 = .ok (.iconst 0, 1) := by decide +kernel
theorem dL_law_1016 : decode cL_law 1016 = .ok (.ireturn, 1) := by decide +kernel
theorem dL_law_1017 : decode cL_law 1017 = .ok (.goto 504, 3) := by decide +kernel
theorem dL_law_1020 : decode cL_law 1020 = .ok (.aload_n 1, 1) := by decide +kernel
theorem dL_law_1021 : decode cL_law 1021 = .ok (.aload_n 0, 1) := by decide +kernel
theorem dL_law_1022 : decode cL_law 1022 = .ok (.iload 4, 2) := by decide +kernel
theorem dL_law_1024 : decode cL_law 1024 = .ok (.iconst 1, 1) := by decide +kernel
theorem dL_law_1025 : decode cL_law 1025 = .ok (.iadd, 1) := by decide +kernel
theorem dL_law_1026 : decode cL_law 1026 = .ok (.iaload, 1) := by decide +kernel
theorem dL_law_1027 : decode cL_law 1027 = .ok (.aload_n 0, 1) := by decide +kernel
theorem dL_law_1028 : decode cL_law 1028 = .ok (.iload 4, 2) := by decide +kernel
theorem dL_law_1030 : decode cL_law 1030 = .ok (.iconst 2, 1) := by decide +kernel
theorem dL_law_1031 : decode cL_law 1031 = .ok (.iadd, 1) := by decide +kernel
theorem dL_law_1032 : decode cL_law 1032 = .ok (.iaload, 1) := by decide +kernel
theorem dL_law_1033 : decode cL_law 1033 = .ok (.aload_n 0, 1) := by decide +kernel
theorem dL_law_1034 : decode cL_law 1034 = .ok (.iload 4, 2) := by decide +kernel
theorem dL_law_1036 : decode cL_law 1036 = .ok (.iconst 3, 1) := by decide +kernel
theorem dL_law_1037 : decode cL_law 1037 = .ok (.iadd, 1) := by decide +kernel
theorem dL_law_1038 : decode cL_law 1038 = .ok (.iaload, 1) := by decide +kernel
theorem dL_law_1039 : decode cL_law 1039 = .ok (.aload_n 3, 1) := by decide +kernel
theorem dL_law_1040 : decode cL_law 1040 = .ok (.invokestatic 131, 3) := by decide +kernel
theorem dL_law_1043 : decode cL_law 1043 = .ok (.istore 5, 2) := by decide +kernel
theorem dL_law_1045 : decode cL_law 1045 = .ok (.aload_n 2, 1) := by decide +kernel
theorem dL_law_1046 : decode cL_law 1046 = .ok (.aload_n 0, 1) := by decide +kernel
theorem dL_law_1047 : decode cL_law 1047 = .ok (.iload 4, 2) := by decide +kernel
theorem dL_law_1049 : decode cL_law 1049 = .ok (.iconst 1, 1) := by decide +kernel
theorem dL_law_1050 : decode cL_law 1050 = .ok (.iadd, 1) := by decide +kernel
theorem dL_law_1051 : decode cL_law 1051 = .ok (.iaload, 1) := by decide +kernel
theorem dL_law_1052 : decode cL_law 1052 = .ok (.aload_n 0, 1) := by decide +kernel
theorem dL_law_1053 : decode cL_law 1053 = .ok (.iload 4, 2) := by decide +kernel
theorem dL_law_1055 : decode cL_law 1055 = .ok (.iconst 2, 1) := by decide +kernel
theorem dL_law_1056 : decode cL_law 1056 = .ok (.iadd, 1) := by decide +kernel
theorem dL_law_1057 : decode cL_law 1057 = .ok (.iaload, 1) := by decide +kernel
theorem dL_law_1058 : decode cL_law 1058 = .ok (.aload_n 0, 1) := by decide +kernel
theorem dL_law_1059 : decode cL_law 1059 = .ok (.iload 4, 2) := by decide +kernel
theorem dL_law_1061 : decode cL_law 1061 = .ok (.iconst 3, 1) := by decide +kernel
theorem dL_law_1062 : decode cL_law 1062 = .ok (.iadd, 1) := by decide +kernel
theorem dL_law_1063 : decode cL_law 1063 = .ok (.iaload, 1) := by decide +kernel
theorem dL_law_1064 : decode cL_law 1064 = .ok (.invokevirtual 133, 3) := by decide +kernel
theorem dL_law_1067 : decode cL_law 1067 = .ok (.istore 6, 2) := by decide +kernel
theorem dL_law_1069 : decode cL_law 1069 = .ok (.aload_n 2, 1) := by decide +kernel
theorem dL_law_1070 : decode cL_law 1070 = .ok (.invokevirtual 88, 3) := by decide +kernel
theorem dL_law_1073 : decode cL_law 1073 = .ok (.iload 5, 2) := by decide +kernel
theorem dL_law_1075 : decode cL_law 1075 = .ok (.if_icmp .eq 5, 3) := by decide +kernel
theorem dL_law_1078 : decode cL_law 1078 = .ok (.iconst 0, 1) := by decide +kernel
theorem dL_law_1079 : decode cL_law 1079 = .ok (.ireturn, 1) := by decide +kernel
theorem dL_law_1080 : decode cL_law 1080 = .ok (.iload 5, 2) := by decide +kernel
theorem dL_law_1082 : decode cL_law 1082 = .ok (.ifCond .ne 15, 3) := by decide +kernel
theorem dL_law_1085 : decode cL_law 1085 = .ok (.aload_n 3, 1) := by decide +kernel
theorem dL_law_1086 : decode cL_law 1086 = .ok (.iconst 0, 1) := by decide +kernel
theorem dL_law_1087 : decode cL_law 1087 = .ok (.laload, 1) := by decide +kernel
theorem dL_law_1088 : decode cL_law 1088 = .ok (.iload 6, 2) := by decide +kernel
theorem dL_law_1090 : decode cL_law 1090 = .ok (.i2l, 1) := by decide +kernel
theorem dL_law_1091 : decode cL_law 1091 = .ok (.lcmp, 1) := by decide +kernel
theorem dL_law_1092 : decode cL_law 1092 = .ok (.ifCond .eq 5, 3) := by decide +kernel
theorem dL_law_1095 : decode cL_law 1095 = .ok (.iconst 0, 1) := by decide +kernel
theorem dL_law_1096 : decode cL_law 1096 = .ok (.ireturn, 1) := by decide +kernel
theorem dL_law_1097 : decode cL_law 1097 = .ok (.goto 424, 3) := by decide +kernel
theorem dL_law_1100 : decode cL_law 1100 = .ok (.aload_n 1, 1) := by decide +kernel
theorem dL_law_1101 : decode cL_law 1101 = .ok (.invokevirtual 134, 3) := by decide +kernel
theorem dL_law_1104 : decode cL_law 1104 = .ok (.aload_n 2, 1) := by decide +kernel
theorem dL_law_1105 : decode cL_law 1105 = .ok (.invokevirtual 137, 3) := by decide +kernel
theorem dL_law_1108 : decode cL_law 1108 = .ok (.if_icmp .eq 413, 3) := by decide +kernel
theorem dL_law_1111 : decode cL_law 1111 = .ok (.iconst 0, 1) := by decide +kernel
theorem dL_law_1112 : decode cL_law 1112 = .ok (.ireturn, 1) := by decide +kernel
theorem dL_law_1113 : decode cL_law 1113 = .ok (.aload_n 1, 1) := by decide +kernel
theorem dL_law_1114 : decode cL_law 1114 = .ok (.aload_n 0, 1) := by decide +kernel
theorem dL_law_1115 : decode cL_law 1115 = .ok (.iload 4, 2) := by decide +kernel
theorem dL_law_1117 : decode cL_law 1117 = .ok (.iconst 1, 1) := by decide +kernel
theorem dL_law_1118 : decode cL_law 1118 = .ok (.iadd, 1) := by decide +kernel
theorem dL_law_1119 : decode cL_law 1119 = .ok (.iaload, 1) := by decide +kernel
theorem dL_law_1120 : decode cL_law 1120 = .ok (.aload_n 3, 1) := by decide +kernel
theorem dL_law_1121 : decode cL_law 1121 = .ok (.invokestatic 138, 3) := by decide +kernel
theorem dL_law_1124 : decode cL_law 1124 = .ok (.istore 5, 2) := by decide +kernel
theorem dL_law_1126 : decode cL_law 1126 = .ok (.aload_n 2, 1) := by decide +kernel
theorem dL_law_1127 : decode cL_law 1127 = .ok (.aload_n 0, 1) := by decide +kernel
theorem dL_law_1128 : decode cL_law 1128 = .ok (.iload 4, 2) := by decide +kernel
theorem dL_law_1130 : decode cL_law 1130 = .ok (.iconst 1, 1) := by decide +kernel
theorem dL_law_1131 : decode cL_law 1131 = .ok (.iadd, 1) := by decide +kernel
theorem dL_law_1132 : decode cL_law 1132 = .ok (.iaload, 1) := by decide +kernel
theorem dL_law_1133 : decode cL_law 1133 = .ok (.invokevirtual 140, 3) := by decide +kernel
theorem dL_law_1136 : decode cL_law 1136 = .ok (.istore 6, 2) := by decide +kernel
theorem dL_law_1138 : decode cL_law 1138 = .ok (.aload_n 2, 1) := by decide +kernel
theorem dL_law_1139 : decode cL_law 1139 = .ok (.invokevirtual 88, 3) := by decide +kernel
theorem dL_law_1142 : decode cL_law 1142 = .ok (.iload 5, 2) := by decide +kernel
theorem dL_law_1144 : decode cL_law 1144 = .ok (.if_icmp .eq 5, 3) := by decide +kernel
theorem dL_law_1147 : decode cL_law 1147 = .ok (.iconst 0, 1) := by decide +kernel
theorem dL_law_1148 : decode cL_law 1148 = .ok (.ireturn, 1) := by decide +kernel
theorem dL_law_1149 : decode cL_law 1149 = .ok (.iload 5, 2) := by decide +kernel
theorem dL_law_1151 : decode cL_law 1151 = .ok (.ifCond .ne 22, 3) := by decide +kernel
theorem dL_law_1154 : decode cL_law 1154 = .ok (.aload_n 3, 1) := by decide +kernel
theorem dL_law_1155 : decode cL_law 1155 = .ok (.iconst 0, 1) := by decide +kernel
theorem dL_law_1156 : decode cL_law 1156 = .ok (.laload, 1) := by decide +kernel
theorem dL_law_1157 : decode cL_law 1157 = .ok (.iload 6, 2) := by decide +kernel
theorem dL_law_1159 : decode cL_law 1159 = .ok (.ifCond .eq 7, 3) := by decide +kernel
theorem dL_law_1162 : decode cL_law 1162 = .ok (.lconst 1, 1) := by decide +kernel
theorem dL_law_1163 : decode cL_law 1163 = .ok (.goto 4, 3) := by decide +kernel
theorem dL_law_1166 : decode cL_law 1166 = .ok (.lconst 0, 1) := by decide +kernel
theorem dL_law_1167 : decode cL_law 1167 = .ok (.lcmp, 1) := by decide +kernel
theorem dL_law_1168 : decode cL_law 1168 = .ok (.ifCond .eq 5, 3) := by decide +kernel
theorem dL_law_1171 : decode cL_law 1171 = .ok (.iconst 0, 1) := by decide +kernel
theorem dL_law_1172 : decode cL_law 1172 = .ok (.ireturn, 1) := by decide +kernel
theorem dL_law_1173 : decode cL_law 1173 = .ok (.goto 348, 3) := by decide +kernel
theorem dL_law_1176 : decode cL_law 1176 = .ok (.aload_n 1, 1) := by decide +kernel
theorem dL_law_1177 : decode cL_law 1177 = .ok (.invokevirtual 141, 3) := by decide +kernel
theorem dL_law_1180 : decode cL_law 1180 = .ok (.aload_n 2, 1) := by decide +kernel
theorem dL_law_1181 : decode cL_law 1181 = .ok (.invokevirtual 144, 3) := by decide +kernel
theorem dL_law_1184 : decode cL_law 1184 = .ok (.if_icmp .eq 337, 3) := by decide +kernel
theorem dL_law_1187 : decode cL_law 1187 = .ok (.iconst 0, 1) := by decide +kernel
theorem dL_law_1188 : decode cL_law 1188 = .ok (.ireturn, 1) := by decide +kernel
theorem dL_law_1189 : decode cL_law 1189 = .ok (.aload_n 1, 1) := by decide +kernel
theorem dL_law_1190 : decode cL_law 1190 = .ok (.aload_n 0, 1) := by decide +kernel
theorem dL_law_1191 : decode cL_law 1191 = .ok (.iload 4, 2) := by decide +kernel
theorem dL_law_1193 : decode cL_law 1193 = .ok (.iconst 1, 1) := by decide +kernel
theorem dL_law_1194 : decode cL_law 1194 = .ok (.iadd, 1) := by decide +kernel
theorem dL_law_1195 : decode cL_law 1195 = .ok (.iaload, 1) := by decide +kernel
theorem dL_law_1196 : decode cL_law 1196 = .ok (.aload_n 0, 1) := by decide +kernel
theorem dL_law_1197 : decode cL_law 1197 = .ok (.iload 4, 2) := by decide +kernel
theorem dL_law_1199 : decode cL_law 1199 = .ok (.iconst 2, 1) := by decide +kernel
theorem dL_law_1200 : decode cL_law 1200 = .ok (.iadd, 1) := by decide +kernel
theorem dL_law_1201 : decode cL_law 1201 = .ok (.iaload, 1) := by decide +kernel
theorem dL_law_1202 : decode cL_law 1202 = .ok (.aload_n 0, 1) := by decide +kernel
theorem dL_law_1203 : decode cL_law 1203 = .ok (.iload 4, 2) := by decide +kernel
theorem dL_law_1205 : decode cL_law 1205 = .ok (.iconst 3, 1) := by decide +kernel
theorem dL_law_1206 : decode cL_law 1206 = .ok (.iadd, 1) := by decide +kernel
theorem dL_law_1207 : decode cL_law 1207 = .ok (.iaload, 1) := by decide +kernel
theorem dL_law_1208 : decode cL_law 1208 = .ok (.aload_n 3, 1) := by decide +kernel
theorem dL_law_1209 : decode cL_law 1209 = .ok (.invokestatic 145, 3) := by decide +kernel
theorem dL_law_1212 : decode cL_law 1212 = .ok (.istore 5, 2) := by decide +kernel
theorem dL_law_1214 : decode cL_law 1214 = .ok (.aload_n 2, 1) := by decide +kernel
theorem dL_law_1215 : decode cL_law 1215 = .ok (.aload_n 0, 1) := by decide +kernel
theorem dL_law_1216 : decode cL_law 1216 = .ok (.iload 4, 2) := by decide +kernel
theorem dL_law_1218 : decode cL_law 1218 = .ok (.iconst 1, 1) := by decide +kernel
theorem dL_law_1219 : decode cL_law 1219 = .ok (.iadd, 1) := by decide +kernel
theorem dL_law_1220 : decode cL_law 1220 = .ok (.iaload, 1) := by decide +kernel
theorem dL_law_1221 : decode cL_law 1221 = .ok (.aload_n 0, 1) := by decide +kernel
theorem dL_law_1222 : decode cL_law 1222 = .ok (.iload 4, 2) := by decide +kernel
theorem dL_law_1224 : decode cL_law 1224 = .ok (.iconst 2, 1) := by decide +kernel
theorem dL_law_1225 : decode cL_law 1225 = .ok (.iadd, 1) := by decide +kernel
theorem dL_law_1226 : decode cL_law 1226 = .ok (.iaload, 1) := by decide +kernel
theorem dL_law_1227 : decode cL_law 1227 = .ok (.aload_n 0, 1) := by decide +kernel
theorem dL_law_1228 : decode cL_law 1228 = .ok (.iload 4, 2) := by decide +kernel
theorem dL_law_1230 : decode cL_law 1230 = .ok (.iconst 3, 1) := by decide +kernel
theorem dL_law_1231 : decode cL_law 1231 = .ok (.iadd, 1) := by decide +kernel
theorem dL_law_1232 : decode cL_law 1232 = .ok (.iaload, 1) := by decide +kernel
theorem dL_law_1233 : decode cL_law 1233 = .ok (.invokevirtual 147, 3) := by decide +kernel
theorem dL_law_1236 : decode cL_law 1236 = .ok (.istore 6, 2) := by decide +kernel
theorem dL_law_1238 : decode cL_law 1238 = .ok (.aload_n 2, 1) := by decide +kernel
theorem dL_law_1239 : decode cL_law 1239 = .ok (.invokevirtual 88, 3) := by decide +kernel
theorem dL_law_1242 : decode cL_law 1242 = .ok (.iload 5, 2) := by decide +kernel
theorem dL_law_1244 : decode cL_law 1244 = .ok (.if_icmp .eq 5, 3) := by decide +kernel
theorem dL_law_1247 : decode cL_law 1247 = .ok (.iconst 0, 1) := by decide +kernel
theorem dL_law_1248 : decode cL_law 1248 = .ok (.ireturn, 1) := by decide +kernel
theorem dL_law_1249 : decode cL_law 1249 = .ok (.iload 5, 2) := by decide +kernel
theorem dL_law_1251 : decode cL_law 1251 = .ok (.ifCond .ne 15, 3) := by decide +kernel
theorem dL_law_1254 : decode cL_law 1254 = .ok (.aload_n 3, 1) := by decide +kernel
theorem dL_law_1255 : decode cL_law 1255 = .ok (.iconst 0, 1) := by decide +kernel
theorem dL_law_1256 : decode cL_law 1256 = .ok (.laload, 1) := by decide +kernel
theorem dL_law_1257 : decode cL_law 1257 = .ok (.iload 6, 2) := by decide +kernel
theorem dL_law_1259 : decode cL_law 1259 = .ok (.i2l, 1) := by decide +kernel
theorem dL_law_1260 : decode cL_law 1260 = .ok (.lcmp, 1) := by decide +kernel
theorem dL_law_1261 : decode cL_law 1261 = .ok (.ifCond .eq 5, 3) := by decide +kernel
theorem dL_law_1264 : decode cL_law 1264 = .ok (.iconst 0, 1) := by decide +kernel
theorem dL_law_1265 : decode cL_law 1265 = .ok (.ireturn, 1) := by decide +kernel
theorem dL_law_1266 : decode cL_law 1266 = .ok (.goto 255, 3) := by decide +kernel
theorem dL_law_1269 : decode cL_law 1269 = .ok (.aload_n 1, 1) := by decide +kernel
theorem dL_law_1270 : decode cL_law 1270 = .ok (.aload_n 0, 1) := by decide +kernel
theorem dL_law_1271 : decode cL_law 1271 = .ok (.iload 4, 2) := by decide +kernel
theorem dL_law_1273 : decode cL_law 1273 = .ok (.iconst 1, 1) := by decide +kernel
theorem dL_law_1274 : decode cL_law 1274 = .ok (.iadd, 1) := by decide +kernel
theorem dL_law_1275 : decode cL_law 1275 = .ok (.iaload, 1) := by decide +kernel
theorem dL_law_1276 : decode cL_law 1276 = .ok (.aload_n 0, 1) := by decide +kernel
theorem dL_law_1277 : decode cL_law 1277 = .ok (.iload 4, 2) := by decide +kernel
theorem dL_law_1279 : decode cL_law 1279 = .ok (.iconst 2, 1) := by decide +kernel
theorem dL_law_1280 : decode cL_law 1280 = .ok (.iadd, 1) := by decide +kernel
theorem dL_law_1281 : decode cL_law 1281 = .ok (.iaload, 1) := by decide +kernel
theorem dL_law_1282 : decode cL_law 1282 = .ok (.aload_n 0, 1) := by decide +kernel
theorem dL_law_1283 : decode cL_law 1283 = .ok (.iload 4, 2) := by decide +kernel
theorem dL_law_1285 : decode cL_law 1285 = .ok (.iconst 3, 1) := by decide +kernel
theorem dL_law_1286 : decode cL_law 1286 = .ok (.iadd, 1) := by decide +kernel
theorem dL_law_1287 : decode cL_law 1287 = .ok (.iaload, 1) := by decide +kernel
theorem dL_law_1288 : decode cL_law 1288 = .ok (.aload_n 3, 1) := by decide +kernel
theorem dL_law_1289 : decode cL_law 1289 = .ok (.invokestatic 148, 3) := by decide +kernel
theorem dL_law_1292 : decode cL_law 1292 = .ok (.istore 5, 2) := by decide +kernel
theorem dL_law_1294 : decode cL_law 1294 = .ok (.aload_n 2, 1) := by decide +kernel
theorem dL_law_1295 : decode cL_law 1295 = .ok (.aload_n 0, 1) := by decide +kernel
theorem dL_law_1296 : decode cL_law 1296 = .ok (.iload 4, 2) := by decide +kernel
theorem dL_law_1298 : decode cL_law 1298 = .ok (.iconst 1, 1) := by decide +kernel
theorem dL_law_1299 : decode cL_law 1299 = .ok (.iadd, 1) := by decide +kernel
theorem dL_law_1300 : decode cL_law 1300 = .ok (.iaload, 1) := by decide +kernel
theorem dL_law_1301 : decode cL_law 1301 = .ok (.aload_n 0, 1) := by decide +kernel
theorem dL_law_1302 : decode cL_law 1302 = .ok (.iload 4, 2) := by decide +kernel
theorem dL_law_1304 : decode cL_law 1304 = .ok (.iconst 2, 1) := by decide +kernel
theorem dL_law_1305 : decode cL_law 1305 = .ok (.iadd, 1) := by decide +kernel
theorem dL_law_1306 : decode cL_law 1306 = .ok (.iaload, 1) := by decide +kernel
theorem dL_law_1307 : decode cL_law 1307 = .ok (.aload_n 0, 1) := by decide +kernel
theorem dL_law_1308 : decode cL_law 1308 = .ok (.iload 4, 2) := by decide +kernel
theorem dL_law_1310 : decode cL_law 1310 = .ok (.iconst 3, 1) := by decide +kernel
theorem dL_law_1311 : decode cL_law 1311 = .ok (.iadd, 1) := by decide +kernel
theorem dL_law_1312 : decode cL_law 1312 = .ok (.iaload, 1) := by decide +kernel
theorem dL_law_1313 : decode cL_law 1313 = .ok (.invokevirtual 150, 3) := by decide +kernel
theorem dL_law_1316 : decode cL_law 1316 = .ok (.istore 6, 2) := by decide +kernel
theorem dL_law_1318 : decode cL_law 1318 = .ok (.aload_n 2, 1) := by decide +kernel
theorem dL_law_1319 : decode cL_law 1319 = .ok (.invokevirtual 88, 3) := by decide +kernel
theorem dL_law_1322 : decode cL_law 1322 = .ok (.iload 5, 2) := by decide +kernel
theorem dL_law_1324 : decode cL_law 1324 = .ok (.if_icmp .eq 5, 3) := by decide +kernel
theorem dL_law_1327 : decode cL_law 1327 = .ok (.iconst 0, 1) := by decide +kernel
theorem dL_law_1328 : decode cL_law 1328 = .ok (.ireturn, 1) := by decide +kernel
theorem dL_law_1329 : decode cL_law 1329 = .ok (.iload 5, 2) := by decide +kernel
theorem dL_law_1331 : decode cL_law 1331 = .ok (.ifCond .ne 15, 3) := by decide +kernel
theorem dL_law_1334 : decode cL_law 1334 = .ok (.aload_n 3, 1) := by decide +kernel
theorem dL_law_1335 : decode cL_law 1335 = .ok (.iconst 0, 1) := by decide +kernel
theorem dL_law_1336 : decode cL_law 1336 = .ok (.laload, 1) := by decide +kernel
theorem dL_law_1337 : decode cL_law 1337 = .ok (.iload 6, 2) := by decide +kernel
theorem dL_law_1339 : decode cL_law 1339 = .ok (.i2l, 1) := by decide +kernel
theorem dL_law_1340 : decode cL_law 1340 = .ok (.lcmp, 1) := by decide +kernel
theorem dL_law_1341 : decode cL_law 1341 = .ok (.ifCond .eq 5, 3) := by decide +kernel
theorem dL_law_1344 : decode cL_law 1344 = .ok (.iconst 0, 1) := by decide +kernel
theorem dL_law_1345 : decode cL_law 1345 = .ok (.ireturn, 1) := by decide +kernel
theorem dL_law_1346 : decode cL_law 1346 = .ok (.goto 175, 3) := by decide +kernel
theorem dL_law_1349 : decode cL_law 1349 = .ok (.aload_n 1, 1) := by decide +kernel
theorem dL_law_1350 : decode cL_law 1350 = .ok (.aload_n 0, 1) := by decide +kernel
theorem dL_law_1351 : decode cL_law 1351 = .ok (.iload 4, 2) := by decide +kernel
theorem dL_law_1353 : decode cL_law 1353 = .ok (.iconst 1, 1) := by decide +kernel
theorem dL_law_1354 : decode cL_law 1354 = .ok (.iadd, 1) := by decide +kernel
theorem dL_law_1355 : decode cL_law 1355 = .ok (.iaload, 1) := by decide +kernel
theorem dL_law_1356 : decode cL_law 1356 = .ok (.aload_n 0, 1) := by decide +kernel
theorem dL_law_1357 : decode cL_law 1357 = .ok (.iload 4, 2) := by decide +kernel
theorem dL_law_1359 : decode cL_law 1359 = .ok (.iconst 2, 1) := by decide +kernel
theorem dL_law_1360 : decode cL_law 1360 = .ok (.iadd, 1) := by decide +kernel
theorem dL_law_1361 : decode cL_law 1361 = .ok (.iaload, 1) := by decide +kernel
theorem dL_law_1362 : decode cL_law 1362 = .ok (.aload_n 0, 1) := by decide +kernel
theorem dL_law_1363 : decode cL_law 1363 = .ok (.iload 4, 2) := by decide +kernel
theorem dL_law_1365 : decode cL_law 1365 = .ok (.iconst 3, 1) := by decide +kernel
theorem dL_law_1366 : decode cL_law 1366 = .ok (.iadd, 1) := by decide +kernel
theorem dL_law_1367 : decode cL_law 1367 = .ok (.iaload, 1) := by decide +kernel
theorem dL_law_1368 : decode cL_law 1368 = .ok (.aload_n 3, 1) := by decide +kernel
theorem dL_law_1369 : decode cL_law 1369 = .ok (.invokestatic 151, 3) := by decide +kernel
theorem dL_law_1372 : decode cL_law 1372 = .ok (.istore 5, 2) := by decide +kernel
theorem dL_law_1374 : decode cL_law 1374 = .ok (.aload_n 2, 1) := by decide +kernel
theorem dL_law_1375 : decode cL_law 1375 = .ok (.aload_n 0, 1) := by decide +kernel
theorem dL_law_1376 : decode cL_law 1376 = .ok (.iload 4, 2) := by decide +kernel
theorem dL_law_1378 : decode cL_law 1378 = .ok (.iconst 1, 1) := by decide +kernel
theorem dL_law_1379 : decode cL_law 1379 = .ok (.iadd, 1) := by decide +kernel
theorem dL_law_1380 : decode cL_law 1380 = .ok (.iaload, 1) := by decide +kernel
theorem dL_law_1381 : decode cL_law 1381 = .ok (.aload_n 0, 1) := by decide +kernel
theorem dL_law_1382 : decode cL_law 1382 = .ok (.iload 4, 2) := by decide +kernel
theorem dL_law_1384 : decode cL_law 1384 = .ok (.iconst 2, 1) := by decide +kernel
theorem dL_law_1385 : decode cL_law 1385 = .ok (.iadd, 1) := by decide +kernel
theorem dL_law_1386 : decode cL_law 1386 = .ok (.iaload, 1) := by decide +kernel
theorem dL_law_1387 : decode cL_law 1387 = .ok (.aload_n 0, 1) := by decide +kernel
theorem dL_law_1388 : decode cL_law 1388 = .ok (.iload 4, 2) := by decide +kernel
theorem dL_law_1390 : decode cL_law 1390 = .ok (.iconst 3, 1) := by decide +kernel
theorem dL_law_1391 : decode cL_law 1391 = .ok (.iadd, 1) := by decide +kernel
theorem dL_law_1392 : decode cL_law 1392 = .ok (.iaload, 1) := by decide +kernel
theorem dL_law_1393 : decode cL_law 1393 = .ok (.invokevirtual 153, 3) := by decide +kernel
theorem dL_law_1396 : decode cL_law 1396 = .ok (.istore 6, 2) := by decide +kernel
theorem dL_law_1398 : decode cL_law 1398 = .ok (.aload_n 2, 1) := by decide +kernel
theorem dL_law_1399 : decode cL_law 1399 = .ok (.invokevirtual 88, 3) := by decide +kernel
theorem dL_law_1402 : decode cL_law 1402 = .ok (.iload 5, 2) := by decide +kernel
theorem dL_law_1404 : decode cL_law 1404 = .ok (.if_icmp .eq 5, 3) := by decide +kernel
theorem dL_law_1407 : decode cL_law 1407 = .ok (.iconst 0, 1) := by decide +kernel
theorem dL_law_1408 : decode cL_law 1408 = .ok (.ireturn, 1) := by decide +kernel
theorem dL_law_1409 : decode cL_law 1409 = .ok (.iload 5, 2) := by decide +kernel
theorem dL_law_1411 : decode cL_law 1411 = .ok (.ifCond .ne 15, 3) := by decide +kernel
theorem dL_law_1414 : decode cL_law 1414 = .ok (.aload_n 3, 1) := by decide +kernel
theorem dL_law_1415 : decode cL_law 1415 = .ok (.iconst 0, 1) := by decide +kernel
theorem dL_law_1416 : decode cL_law 1416 = .ok (.laload, 1) := by decide +kernel
theorem dL_law_1417 : decode cL_law 1417 = .ok (.iload 6, 2) := by decide +kernel
theorem dL_law_1419 : decode cL_law 1419 = .ok (.i2l, 1) := by decide +kernel
theorem dL_law_1420 : decode cL_law 1420 = .ok (.lcmp, 1) := by decide +kernel
theorem dL_law_1421 : decode cL_law 1421 = .ok (.ifCond .eq 5, 3) := by decide +kernel
theorem dL_law_1424 : decode cL_law 1424 = .ok (.iconst 0, 1) := by decide +kernel
theorem dL_law_1425 : decode cL_law 1425 = .ok (.ireturn, 1) := by decide +kernel
theorem dL_law_1426 : decode cL_law 1426 = .ok (.goto 95, 3) := by decide +kernel
theorem dL_law_1429 : decode cL_law 1429 = .ok (.aload_n 1, 1) := by decide +kernel
theorem dL_law_1430 : decode cL_law 1430 = .ok (.aload_n 0, 1) := by decide +kernel
theorem dL_law_1431 : decode cL_law 1431 = .ok (.iload 4, 2) := by decide +kernel
theorem dL_law_1433 : decode cL_law 1433 = .ok (.iconst 1, 1) := by decide +kernel
theorem dL_law_1434 : decode cL_law 1434 = .ok (.iadd, 1) := by decide +kernel
theorem dL_law_1435 : decode cL_law 1435 = .ok (.iaload, 1) := by decide +kernel
theorem dL_law_1436 : decode cL_law 1436 = .ok (.aload_n 0, 1) := by decide +kernel
theorem dL_law_1437 : decode cL_law 1437 = .ok (.iload 4, 2) := by decide +kernel
theorem dL_law_1439 : decode cL_law 1439 = .ok (.iconst 2, 1) := by decide +kernel
theorem dL_law_1440 : decode cL_law 1440 = .ok (.iadd, 1) := by decide +kernel
theorem dL_law_1441 : decode cL_law 1441 = .ok (.iaload, 1) := by decide +kernel
theorem dL_law_1442 : decode cL_law 1442 = .ok (.aload_n 0, 1) := by decide +kernel
theorem dL_law_1443 : decode cL_law 1443 = .ok (.iload 4, 2) := by decide +kernel
theorem dL_law_1445 : decode cL_law 1445 = .ok (.iconst 3, 1) := by decide +kernel
theorem dL_law_1446 : decode cL_law 1446 = .ok (.iadd, 1) := by decide +kernel
theorem dL_law_1447 : decode cL_law 1447 = .ok (.iaload, 1) := by decide +kernel
theorem dL_law_1448 : decode cL_law 1448 = .ok (.aload_n 0, 1) := by decide +kernel
theorem dL_law_1449 : decode cL_law 1449 = .ok (.iload 4, 2) := by decide +kernel
theorem dL_law_1451 : decode cL_law 1451 = .ok (.iconst 4, 1) := by decide +kernel
theorem dL_law_1452 : decode cL_law 1452 = .ok (.iadd, 1) := by decide +kernel
theorem dL_law_1453 : decode cL_law 1453 = .ok (.iaload, 1) := by decide +kernel
theorem dL_law_1454 : decode cL_law 1454 = .ok (.aload_n 3, 1) := by decide +kernel
theorem dL_law_1455 : decode cL_law 1455 = .ok (.invokestatic 154, 3) := by decide +kernel
theorem dL_law_1458 : decode cL_law 1458 = .ok (.istore 5, 2) := by decide +kernel
theorem dL_law_1460 : decode cL_law 1460 = .ok (.aload_n 2, 1) := by decide +kernel
theorem dL_law_1461 : decode cL_law 1461 = .ok (.aload_n 0, 1) := by decide +kernel
theorem dL_law_1462 : decode cL_law 1462 = .ok (.iload 4, 2) := by decide +kernel
theorem dL_law_1464 : decode cL_law 1464 = .ok (.iconst 1, 1) := by decide +kernel
theorem dL_law_1465 : decode cL_law 1465 = .ok (.iadd, 1) := by decide +kernel
theorem dL_law_1466 : decode cL_law 1466 = .ok (.iaload, 1) := by decide +kernel
theorem dL_law_1467 : decode cL_law 1467 = .ok (.aload_n 0, 1) := by decide +kernel
theorem dL_law_1468 : decode cL_law 1468 = .ok (.iload 4, 2) := by decide +kernel
theorem dL_law_1470 : decode cL_law 1470 = .ok (.iconst 2, 1) := by decide +kernel
theorem dL_law_1471 : decode cL_law 1471 = .ok (.iadd, 1) := by decide +kernel
theorem dL_law_1472 : decode cL_law 1472 = .ok (.iaload, 1) := by decide +kernel
theorem dL_law_1473 : decode cL_law 1473 = .ok (.aload_n 0, 1) := by decide +kernel
theorem dL_law_1474 : decode cL_law 1474 = .ok (.iload 4, 2) := by decide +kernel
theorem dL_law_1476 : decode cL_law 1476 = .ok (.iconst 3, 1) := by decide +kernel
theorem dL_law_1477 : decode cL_law 1477 = .ok (.iadd, 1) := by decide +kernel
theorem dL_law_1478 : decode cL_law 1478 = .ok (.iaload, 1) := by decide +kernel
theorem dL_law_1479 : decode cL_law 1479 = .ok (.aload_n 0, 1) := by decide +kernel
theorem dL_law_1480 : decode cL_law 1480 = .ok (.iload 4, 2) := by decide +kernel
theorem dL_law_1482 : decode cL_law 1482 = .ok (.iconst 4, 1) := by decide +kernel
theorem dL_law_1483 : decode cL_law 1483 = .ok (.iadd, 1) := by decide +kernel
theorem dL_law_1484 : decode cL_law 1484 = .ok (.iaload, 1) := by decide +kernel
theorem dL_law_1485 : decode cL_law 1485 = .ok (.invokevirtual 156, 3) := by decide +kernel
theorem dL_law_1488 : decode cL_law 1488 = .ok (.istore 6, 2) := by decide +kernel
theorem dL_law_1490 : decode cL_law 1490 = .ok (.aload_n 2, 1) := by decide +kernel
theorem dL_law_1491 : decode cL_law 1491 = .ok (.invokevirtual 88, 3) := by decide +kernel
theorem dL_law_1494 : decode cL_law 1494 = .ok (.iload 5, 2) := by decide +kernel
theorem dL_law_1496 : decode cL_law 1496 = .ok (.if_icmp .eq 5, 3) := by decide +kernel
theorem dL_law_1499 : decode cL_law 1499 = .ok (.iconst 0, 1) := by decide +kernel
theorem dL_law_1500 : decode cL_law 1500 = .ok (.ireturn, 1) := by decide +kernel
theorem dL_law_1501 : decode cL_law 1501 = .ok (.iload 5, 2) := by decide +kernel
theorem dL_law_1503 : decode cL_law 1503 = .ok (.ifCond .ne 15, 3) := by decide +kernel
theorem dL_law_1506 : decode cL_law 1506 = .ok (.aload_n 3, 1) := by decide +kernel
theorem dL_law_1507 : decode cL_law 1507 = .ok (.iconst 0, 1) := by decide +kernel
theorem dL_law_1508 : decode cL_law 1508 = .ok (.laload, 1) := by decide +kernel
theorem dL_law_1509 : decode cL_law 1509 = .ok (.iload 6, 2) := by decide +kernel
theorem dL_law_1511 : decode cL_law 1511 = .ok (.i2l, 1) := by decide +kernel
theorem dL_law_1512 : decode cL_law 1512 = .ok (.lcmp, 1) := by decide +kernel
theorem dL_law_1513 : decode cL_law 1513 = .ok (.ifCond .eq 5, 3) := by decide +kernel
theorem dL_law_1516 : decode cL_law 1516 = .ok (.iconst 0, 1) := by decide +kernel
theorem dL_law_1517 : decode cL_law 1517 = .ok (.ireturn, 1) := by decide +kernel
theorem dL_law_1518 : decode cL_law 1518 = .ok (.goto 3, 3) := by decide +kernel
theorem dL_law_1521 : decode cL_law 1521 = .ok (.iinc 4 5, 3) := by decide +kernel
theorem dL_law_1524 : decode cL_law 1524 = .ok (.goto (-1501), 3) := by decide +kernel
theorem dL_law_1527 : decode cL_law 1527 = .ok (.iconst 1, 1) := by decide +kernel
theorem dL_law_1528 : decode cL_law 1528 = .ok (.ireturn, 1) := by decide +kernel
abbrev vwCl : List vw_C := [(RX0, TX0, 15), (RX1, TX1, 16)]
end
section
/-- a first row -/
theorem gc_first : (1 : Nat) = 1 := rfl
end
