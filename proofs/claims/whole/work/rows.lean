section
-- ===== PART A: goes FIRST, ahead of the names: the tables' words, and 'selects' of the private methods out of them =====
/-- a private method of a class that the tables say can be made, by its rows of tables_1 -/
def lw_okq (q : MethodName × Nat) : Prop := (q.1.cls ≠ "java/lang/invoke/MethodHandle" ∧ q.1.cls ≠ "java/lang/invoke/VarHandle") ∧ Cond.instantiable q.1.cls q.2 ∈ tables_1 ∧ Cond.privateMethod q.1 ∈ tables_1 ∧ Cond.instanceMethod q.1 ∈ tables_1
theorem lw_p0 : lw_okq (⟨"GamutChain", "differsFromKept", "(I)Z"⟩, 15) := ⟨⟨by decide +kernel, by decide +kernel⟩, List.mem_of_getElem? (i := 11) (by decide +kernel), List.mem_of_getElem? (i := 73) (by decide +kernel), List.mem_of_getElem? (i := 74) (by decide +kernel)⟩
theorem lw_p1 : lw_okq (⟨"GamutChain", "pass", "(III)I"⟩, 15) := ⟨⟨by decide +kernel, by decide +kernel⟩, List.mem_of_getElem? (i := 11) (by decide +kernel), List.mem_of_getElem? (i := 86) (by decide +kernel), List.mem_of_getElem? (i := 87) (by decide +kernel)⟩
theorem lw_p2 : lw_okq (⟨"GamutChain", "take", "(III)I"⟩, 15) := ⟨⟨by decide +kernel, by decide +kernel⟩, List.mem_of_getElem? (i := 11) (by decide +kernel), List.mem_of_getElem? (i := 90) (by decide +kernel), List.mem_of_getElem? (i := 91) (by decide +kernel)⟩
theorem lw_p3 : lw_okq (⟨"GamutChain", "bent", "(III)I"⟩, 15) := ⟨⟨by decide +kernel, by decide +kernel⟩, List.mem_of_getElem? (i := 11) (by decide +kernel), List.mem_of_getElem? (i := 94) (by decide +kernel), List.mem_of_getElem? (i := 95) (by decide +kernel)⟩
theorem lw_p4 : lw_okq (⟨"GamutChain", "profilesOf", "(I)I"⟩, 15) := ⟨⟨by decide +kernel, by decide +kernel⟩, List.mem_of_getElem? (i := 11) (by decide +kernel), List.mem_of_getElem? (i := 114) (by decide +kernel), List.mem_of_getElem? (i := 115) (by decide +kernel)⟩
theorem lw_p5 : lw_okq (⟨"java/lang/Throwable", "fillInStackTrace", "(I)Ljava/lang/Throwable;"⟩, 6) := ⟨⟨by decide +kernel, by decide +kernel⟩, List.mem_of_getElem? (i := 164) (by decide +kernel), List.mem_of_getElem? (i := 162) (by decide +kernel), List.mem_of_getElem? (i := 163) (by decide +kernel)⟩
theorem lw_p6 : lw_okq (⟨"GamutChain", "needProfile", "(I)V"⟩, 15) := ⟨⟨by decide +kernel, by decide +kernel⟩, List.mem_of_getElem? (i := 11) (by decide +kernel), List.mem_of_getElem? (i := 206) (by decide +kernel), List.mem_of_getElem? (i := 207) (by decide +kernel)⟩
theorem lw_p7 : lw_okq (⟨"GamutChain", "needFreeProfile", "(I)V"⟩, 15) := ⟨⟨by decide +kernel, by decide +kernel⟩, List.mem_of_getElem? (i := 11) (by decide +kernel), List.mem_of_getElem? (i := 250) (by decide +kernel), List.mem_of_getElem? (i := 251) (by decide +kernel)⟩
theorem lw_p8 : lw_okq (⟨"GamutChain", "needChain", "(I)V"⟩, 15) := ⟨⟨by decide +kernel, by decide +kernel⟩, List.mem_of_getElem? (i := 11) (by decide +kernel), List.mem_of_getElem? (i := 301) (by decide +kernel), List.mem_of_getElem? (i := 302) (by decide +kernel)⟩
theorem lw_p9 : lw_okq (⟨"GamutChain", "needFreeChain", "(I)V"⟩, 15) := ⟨⟨by decide +kernel, by decide +kernel⟩, List.mem_of_getElem? (i := 11) (by decide +kernel), List.mem_of_getElem? (i := 306) (by decide +kernel), List.mem_of_getElem? (i := 307) (by decide +kernel)⟩
theorem lw_p10 : lw_okq (⟨"GamutChain", "tryJoining", "(I)I"⟩, 15) := ⟨⟨by decide +kernel, by decide +kernel⟩, List.mem_of_getElem? (i := 11) (by decide +kernel), List.mem_of_getElem? (i := 334) (by decide +kernel), List.mem_of_getElem? (i := 335) (by decide +kernel)⟩
theorem lw_p11 : lw_okq (⟨"GamutChain", "inked", "(III)I"⟩, 15) := ⟨⟨by decide +kernel, by decide +kernel⟩, List.mem_of_getElem? (i := 11) (by decide +kernel), List.mem_of_getElem? (i := 408) (by decide +kernel), List.mem_of_getElem? (i := 409) (by decide +kernel)⟩
theorem lw_p12 : lw_okq (⟨"GamutChainModel", "may", "(Z)Z"⟩, 16) := ⟨⟨by decide +kernel, by decide +kernel⟩, List.mem_of_getElem? (i := 412) (by decide +kernel), List.mem_of_getElem? (i := 476) (by decide +kernel), List.mem_of_getElem? (i := 477) (by decide +kernel)⟩
theorem lw_p13 : lw_okq (⟨"GamutChainModel", "isProfile", "(I)Z"⟩, 16) := ⟨⟨by decide +kernel, by decide +kernel⟩, List.mem_of_getElem? (i := 412) (by decide +kernel), List.mem_of_getElem? (i := 487) (by decide +kernel), List.mem_of_getElem? (i := 488) (by decide +kernel)⟩
theorem lw_p14 : lw_okq (⟨"GamutChainModel", "isHeld", "(I)Z"⟩, 16) := ⟨⟨by decide +kernel, by decide +kernel⟩, List.mem_of_getElem? (i := 412) (by decide +kernel), List.mem_of_getElem? (i := 500) (by decide +kernel), List.mem_of_getElem? (i := 501) (by decide +kernel)⟩
theorem lw_p15 : lw_okq (⟨"GamutChainModel", "mayAll", "(ZZZ)Z"⟩, 16) := ⟨⟨by decide +kernel, by decide +kernel⟩, List.mem_of_getElem? (i := 412) (by decide +kernel), List.mem_of_getElem? (i := 504) (by decide +kernel), List.mem_of_getElem? (i := 505) (by decide +kernel)⟩
def lw_privs_1 : List (MethodName × Nat) := [(⟨"GamutChain", "differsFromKept", "(I)Z"⟩, 15), (⟨"GamutChain", "pass", "(III)I"⟩, 15), (⟨"GamutChain", "take", "(III)I"⟩, 15), (⟨"GamutChain", "bent", "(III)I"⟩, 15), (⟨"GamutChain", "profilesOf", "(I)I"⟩, 15), (⟨"java/lang/Throwable", "fillInStackTrace", "(I)Ljava/lang/Throwable;"⟩, 6), (⟨"GamutChain", "needProfile", "(I)V"⟩, 15), (⟨"GamutChain", "needFreeProfile", "(I)V"⟩, 15), (⟨"GamutChain", "needChain", "(I)V"⟩, 15), (⟨"GamutChain", "needFreeChain", "(I)V"⟩, 15), (⟨"GamutChain", "tryJoining", "(I)I"⟩, 15), (⟨"GamutChain", "inked", "(III)I"⟩, 15), (⟨"GamutChainModel", "may", "(Z)Z"⟩, 16), (⟨"GamutChainModel", "isProfile", "(I)Z"⟩, 16), (⟨"GamutChainModel", "isHeld", "(I)Z"⟩, 16), (⟨"GamutChainModel", "mayAll", "(ZZZ)Z"⟩, 16)]
theorem lw_r1 : ∀ q ∈ lw_privs_1, lw_okq q := List.forall_mem_cons.mpr ⟨lw_p0, List.forall_mem_cons.mpr ⟨lw_p1, List.forall_mem_cons.mpr ⟨lw_p2, List.forall_mem_cons.mpr ⟨lw_p3, List.forall_mem_cons.mpr ⟨lw_p4, List.forall_mem_cons.mpr ⟨lw_p5, List.forall_mem_cons.mpr ⟨lw_p6, List.forall_mem_cons.mpr ⟨lw_p7, List.forall_mem_cons.mpr ⟨lw_p8, List.forall_mem_cons.mpr ⟨lw_p9, List.forall_mem_cons.mpr ⟨lw_p10, List.forall_mem_cons.mpr ⟨lw_p11, List.forall_mem_cons.mpr ⟨lw_p12, List.forall_mem_cons.mpr ⟨lw_p13, List.forall_mem_cons.mpr ⟨lw_p14, List.forall_mem_cons.mpr ⟨lw_p15, fun _ h => absurd h List.not_mem_nil⟩⟩⟩⟩⟩⟩⟩⟩⟩⟩⟩⟩⟩⟩⟩⟩
theorem lw_p16 : lw_okq (⟨"GamutChainModel", "mayBoth", "(ZZ)Z"⟩, 16) := ⟨⟨by decide +kernel, by decide +kernel⟩, List.mem_of_getElem? (i := 412) (by decide +kernel), List.mem_of_getElem? (i := 520) (by decide +kernel), List.mem_of_getElem? (i := 521) (by decide +kernel)⟩
theorem lw_p17 : lw_okq (⟨"GamutChainModel", "curveOf", "(III)I"⟩, 16) := ⟨⟨by decide +kernel, by decide +kernel⟩, List.mem_of_getElem? (i := 412) (by decide +kernel), List.mem_of_getElem? (i := 524) (by decide +kernel), List.mem_of_getElem? (i := 525) (by decide +kernel)⟩
theorem lw_p18 : lw_okq (⟨"GamutChainModel", "between", "(I)I"⟩, 16) := ⟨⟨by decide +kernel, by decide +kernel⟩, List.mem_of_getElem? (i := 412) (by decide +kernel), List.mem_of_getElem? (i := 528) (by decide +kernel), List.mem_of_getElem? (i := 529) (by decide +kernel)⟩
theorem lw_p19 : lw_okq (⟨"GamutChainModel", "takenBy", "(III)I"⟩, 16) := ⟨⟨by decide +kernel, by decide +kernel⟩, List.mem_of_getElem? (i := 412) (by decide +kernel), List.mem_of_getElem? (i := 539) (by decide +kernel), List.mem_of_getElem? (i := 540) (by decide +kernel)⟩
theorem lw_p20 : lw_okq (⟨"GamutChainModel", "isChain", "(I)Z"⟩, 16) := ⟨⟨by decide +kernel, by decide +kernel⟩, List.mem_of_getElem? (i := 412) (by decide +kernel), List.mem_of_getElem? (i := 551) (by decide +kernel), List.mem_of_getElem? (i := 552) (by decide +kernel)⟩
theorem lw_p21 : lw_okq (⟨"GamutChainModel", "throughOf", "(III)I"⟩, 16) := ⟨⟨by decide +kernel, by decide +kernel⟩, List.mem_of_getElem? (i := 412) (by decide +kernel), List.mem_of_getElem? (i := 563) (by decide +kernel), List.mem_of_getElem? (i := 564) (by decide +kernel)⟩
theorem lw_p22 : lw_okq (⟨"GamutChainModel", "gapOf", "(I)I"⟩, 16) := ⟨⟨by decide +kernel, by decide +kernel⟩, List.mem_of_getElem? (i := 412) (by decide +kernel), List.mem_of_getElem? (i := 571) (by decide +kernel), List.mem_of_getElem? (i := 572) (by decide +kernel)⟩
def lw_privs_2 : List (MethodName × Nat) := [(⟨"GamutChainModel", "mayBoth", "(ZZ)Z"⟩, 16), (⟨"GamutChainModel", "curveOf", "(III)I"⟩, 16), (⟨"GamutChainModel", "between", "(I)I"⟩, 16), (⟨"GamutChainModel", "takenBy", "(III)I"⟩, 16), (⟨"GamutChainModel", "isChain", "(I)Z"⟩, 16), (⟨"GamutChainModel", "throughOf", "(III)I"⟩, 16), (⟨"GamutChainModel", "gapOf", "(I)I"⟩, 16)]
theorem lw_r2 : ∀ q ∈ lw_privs_2, lw_okq q := List.forall_mem_cons.mpr ⟨lw_p16, List.forall_mem_cons.mpr ⟨lw_p17, List.forall_mem_cons.mpr ⟨lw_p18, List.forall_mem_cons.mpr ⟨lw_p19, List.forall_mem_cons.mpr ⟨lw_p20, List.forall_mem_cons.mpr ⟨lw_p21, List.forall_mem_cons.mpr ⟨lw_p22, fun _ h => absurd h List.not_mem_nil⟩⟩⟩⟩⟩⟩⟩
def lw_privs : List (MethodName × Nat) := lw_privs_1 ++ (lw_privs_2)
def lw_tbl : List Cond := k2_sels lw_privs ++ tables_1
theorem lw_privs_ok : ∀ q ∈ lw_privs, lw_okq q := by
  show ∀ q ∈ lw_privs_1 ++ (lw_privs_2), lw_okq q
  exact List.forall_mem_append.mpr ⟨lw_r1, lw_r2⟩
-- ===== end of PART A; then your names; then what follows =====
end
section
/-! ===== BEGIN words of one list among another's, by their places ===== -/
theorem goodIn_r {big : List Cond} (ws : List Cond) (ps : List Nat) (hp : ws = ps.filterMap (fun i => big[i]?)) (h : ws.all goodWord = true) : GoodIn big ws := by
  intro w hw
  have h1 := List.all_eq_true.mp h w hw
  rw [hp] at hw
  obtain ⟨i, -, hi⟩ := List.mem_filterMap.mp hw
  have hm : w ∈ big := by first | exact List.mem_of_getElem? hi | exact List.getElem?_mem hi
  exact ⟨hm, good_of_word h1⟩
theorem goodIn_app {big a b : List Cond} (ha : GoodIn big a) (hb : GoodIn big b) : GoodIn big (a ++ b) := fun w h => (List.mem_append.mp h).elim (ha w) (hb w)
theorem goodIn_ca {big a b : List Cond} {c : Cond} (ha : GoodIn big (c :: a)) (hb : GoodIn big b) : GoodIn big (c :: (a ++ b)) := fun w h => (List.mem_cons.mp h).elim (fun e => ha w (List.mem_cons.mpr (Or.inl e))) (fun h => (List.mem_append.mp h).elim (fun h => ha w (List.mem_cons.mpr (Or.inr h))) (hb w))
theorem goodIn_sub {big ws : List Cond} (hm : ∀ w ∈ ws, w ∈ big) (h : ws.all goodWord = true) : GoodIn big ws := fun w hw => ⟨hm w hw, good_of_word (List.all_eq_true.mp h w hw)⟩
/-! ===== END ===== -/

/-! ===== BEGIN exceptions that leave a method, and their catching by the caller (launches without stack traces) ===== -/
section VXA
/-! The laws vx_back, vx_callV, vx_callS, vx_callSW, vx_throw0, vx_throwS follow proofs of the library, with one case more: JvmDerived/Free/Laws.lean (Back.of_free), Shelf42/LK1.lean (callV, callS), Shelf/KitTraced.lean (throwNew0V, throwNewS). -/
/-- where a method has thrown q: the class by its name, the cell, what was written, the world -/
def vx_T (XC : String → State → State → Prop) (st : State) (q : Addr) (t : State) (mc ms : Nat) (free : Addr → Prop) : Prop :=
  ∃ (E : String) (ce : Cell) (L : List Loc), XC E st t ∧ t.heap[q]? = some ce ∧ ce.vm = .none ∧ st.vm.findClass E = some ce.cls ∧ st.WarmedH t.vm ∧ st.sameButNew ({ t with vm := st.vm } : State) L mc ms ∧ ∀ z ∈ L, free z.base
def vx_Q (Qc : Array Value → State → Outcome → State → Prop) (XC : String → State → State → Prop) (mc ms : Nat) (free : Addr → Prop) : Array Value → State → Outcome → State → Prop := fun a st o t =>
  (Qc a st o t ∧ ∃ L, FrameEnd st o t L mc ms ∧ ∀ q ∈ L, free q.base) ∨ ∃ q, o = .threw q ∧ vx_T XC st q t mc ms free
/-- a callee that returns or throws -/
def vx_Met (l : Launch) (y : MethodName) (ws : List Cond) (rm : Room) (Pc : Array Value → State → Prop) (Qc : Array Value → State → Outcome → State → Prop) (XC : String → State → State → Prop) (mc ms : Nat) (free : Addr → Prop) : Prop :=
  MetFree l y (headSpec ws rm) Pc (fun _ _ _ _ _ => True) (vx_Q Qc XC mc ms free)
def vx_Post (XC : String → State → State → Prop) (mc ms : Nat) (free : Addr → Prop) : Pt → Array Value → Addr → Pt → Prop := fun A a q B =>
  ∃ (g : JFrame) (mk : MethodId) (t : State) (L : List Loc) (E : String) (ce : Cell), B.U.heap = t.heap ∧ B.U.vm = t.vm ∧ XC E (A.U.calling g mk a) t ∧ t.heap[q]? = some ce ∧ ce.vm = .none ∧ A.U.vm.findClass E = some ce.cls ∧ B.locs = A.locs ++ L ∧ (∀ z ∈ L, free z.base) ∧ B.cells = A.cells + mc ∧ B.slots = A.slots + ms
def vx_Back (l : Launch) (R : Room) (p : Program) (e : Env) (below : List Frame) (s : State) (sargs : Array Value) (y : MethodName) (len W9 : Nat)
    (Pre : Pt → Array Value → Prop) (Post : Pt → Array Value → Option Value → Pt → Prop) (PostX : Pt → Array Value → Addr → Pt → Prop) : Prop :=
  ∀ (m : MethodId) (meth : Method) (c : Code) (A : Pt) (g : JFrame) (ig : Instr) (mk : MethodId) (a : Array Value),
    Stand p l e R s m sargs below meth c A.U A.locs A.cells A.slots → g.method = m → g.locals.size = c.maxLocals → decode c.code g.pc = .ok (ig, len) →
    2 * g.monitorRoom + (g.stack.map fun v => v.category).sum ≤ W9 → A.U.methodNamed? y = some mk → Pre A a →
    (∃ (v : Option Value) (B : Pt), Stand p l e R s m sargs below meth c B.U B.locs B.cells B.slots ∧ Post A a v B ∧
      Steps p.tables e below (doInvoke e (A.U.setTop g) [] mk a).1 (B.U.setTop { g with pc := g.pc + len, stack := v.toList ++ g.stack })) ∨
    (∃ (q : Addr) (B : Pt), Stand p l e R s m sargs below meth c B.U B.locs B.cells B.slots ∧ PostX A a q B ∧
      Steps p.tables e below (doInvoke e (A.U.setTop g) [] mk a).1 ((B.U.setTop g).pushFrame (.throwing q)))
section Payer
variable {l : Launch} {R : Room} {p : Program} {e : Env} {below : List Frame} {s : State} {sargs : Array Value} {y : MethodName} {len W9 : Nat}
theorem vx_back {ws : List Cond} {rm : Room} {Pc : Array Value → State → Prop} {Qc : Array Value → State → Outcome → State → Prop} {XC : String → State → State → Prop} {mc ms : Nat} {free : Addr → Prop} {bytes : ByteArray} {maxL : Nat} {ret : Option FieldType}
    (hM : vx_Met l y ws rm Pc Qc XC mc ms free) (hblind : FrameBlind Pc) (hrc : rm.cells = mc) (hrs : rm.slots = ms)
    (hframes : rm.frames + 1 ≤ R.frames) (hlocals : W9 + (maxL + 11) + rm.locals ≤ R.locals)
    (hws : ∀ w ∈ ws, ∀ a' U, s.WarmedH U.vm → w.before a' U = true) (hcode : Cond.code y bytes maxL ret ∈ ws) (hinit : ∀ a' U, s.WarmedH U.vm → (Cond.initialized y.cls).before a' U = true) :
    vx_Back l R p e below s sargs y len W9 (PreOf R mc ms Pc) (PostOf Qc mc ms free) (vx_Post XC mc ms free) := by
  intro m meth c A g ig mk a X hg hsize hdg hW hn hp
  have h1 : (headSpec ws rm).pre.before a A.U = true := atoms_intro fun w hw => hws w hw _ _ X.warmed
  have h2 : (Cond.code y bytes maxL ret).before a A.U = true := hws _ hcode _ _ X.warmed
  have h3 : (Cond.initialized y.cls).before a A.U = true := hinit _ _ X.warmed
  have h4 : A.cells + (headSpec ws rm).room.cells ≤ R.cells := by rw [show (headSpec ws rm).room.cells = mc from hrc]; exact hp.1
  have h5 : A.slots + (headSpec ws rm).room.slots ≤ R.slots := by rw [show (headSpec ws rm).room.slots = ms from hrs]; exact hp.2.1
  have hPc : Pc a (A.U.calling g mk a) := hblind _ _ _ _ hp.2.2
  obtain ⟨U, Ls, c0, s0⟩ := A
  dsimp only [Pt.U, Pt.locs, Pt.cells, Pt.slots] at h1 h2 h3 h4 h5 X hn hPc ⊢
  obtain ⟨methY, cY, hmY, hcY, -, hlY, -, -, -, -⟩ := Cond.code_spec hn h2
  obtain ⟨kY, hkY, -⟩ := className_of_methodNamed hn
  have hinitY : kY.init = .initialized := Cond.initialized_spec (findClass_of_methodNamed hn) hkY h3
  have h : At U g.method c below := by rw [hg]; exact X.here
  have hlocals9 : W9 + (maxL + 11) + (headSpec ws rm).room.locals ≤ R.locals := hlocals
  have happ : (headSpec ws rm).appliesLoose y e.platform (U.calling g mk a) = true :=
    Spec.appliesLoose_calling (g := g) h hdg hn hkY hinitY
      (X.room_calling (g := g) (R' := (headSpec ws rm).room) hsize hmY hcY hframes (by rw [hlY]; omega) h4 h5) h1
  obtain ⟨mid, hmid⟩ := h.above
  have hfr : (U.setTop g).frames = (.java g :: mid) ++ below := by rw [State.frames_setTop' g h.top, hmid]; rfl
  obtain ⟨o, s₂, hsteps, -, hend, hq⟩ := Steps.callFree hM p X.admits X.cas X.clock (acts := []) hfr happ hPc trivial
  have hq' : vx_Q Qc XC mc ms free a (U.calling g mk a) o s₂ := hq
  rw [State.frames_setTop' g h.top] at hend
  obtain ⟨g₀, hg0⟩ := Option.isSome_iff_exists.mp h.top
  obtain ⟨r, hr⟩ := State.topJava?_eq_some.mp hg0
  have hr' : (({ U with heap := s₂.heap, slotsUsed := s₂.slotsUsed } : State).setVm s₂.vm).frames = .java g₀ :: r := hr
  rcases hq' with ⟨hqc, L, hfe, hL⟩ | ⟨q, rfl, E, ce, L, hx, hce, hcv, hcl, hW₂, hsm, hL⟩
  · obtain ⟨⟨v, rfl⟩, hW₂, e2, q2, q3, q4, q5, q6⟩ := id hfe
    have e3 : s₂ = ({ (U.calling g mk a).setFrames s₂.frames with heap := s₂.heap, slotsUsed := s₂.slotsUsed } : State).setVm s₂.vm := by
      have : s₂ = ({ s₂ with vm := (U.calling g mk a).vm } : State).setVm s₂.vm := rfl
      rw [e2] at this
      exact this
    obtain ⟨c₂, i₂, len₂, hc₂, hd₂, hf₂⟩ := hend
    have hW' : U.WarmedH s₂.vm := hW₂
    have hcc : c₂ = c := by
      have h1 : s₂.code? g.method = U.code? g.method := by
        rw [State.code?_eq, State.code?_eq, hW'.alike.method?]
      exact Option.some.inj (hc₂.symm.trans (h1.trans h.code))
    subst hcc
    have hlen : len₂ = len := by rw [hdg] at hd₂; cases hd₂; rfl
    subst hlen
    have hs₂ : s₂ = (({ U with heap := s₂.heap, slotsUsed := s₂.slotsUsed } : State).setVm s₂.vm).setTop { g with pc := g.pc + len₂, stack := v.toList ++ g.stack } := by
      refine e3.trans ?_
      rw [hf₂, State.calling_eq h.top, State.setFrames_setFrames, State.setTop_of_frames _ hr', hr]
      rfl
    have hsame : U.sameButNew ({ U with heap := s₂.heap, slotsUsed := s₂.slotsUsed } : State) L mc ms := by
      refine ⟨?_, q2, q3, q4, q5, q6⟩
      obtain ⟨t, ht, -⟩ := State.frames_cons hr
      show ({ U with heap := s₂.heap, slotsUsed := s₂.slotsUsed } : State) = { U.setFrames U.frames with heap := s₂.heap, slotsUsed := s₂.slotsUsed }
      rw [State.setFrames_self ht]
    subst hg
    refine Or.inl ⟨v, ⟨(({ U with heap := s₂.heap, slotsUsed := s₂.slotsUsed } : State).setVm s₂.vm), Ls ++ L, c0 + mc, s0 + ms⟩,
      ⟨X.admits, X.cas, X.clock, X.frames, X.room, X.hears, X.method, X.code, (X.here.setHeapUsed s₂.heap s₂.slotsUsed).setVm hW'.alike, X.tail, State.WarmedH.trans X.warmed hW', X.limits, X.bytes, X.same.trans (hsame.setVm s.vm)⟩,
      ⟨g, mk, s₂, L, rfl, rfl, hqc, rfl, hL, rfl, rfl⟩, ?_⟩
    show Steps p.tables e below _ ((({ U with heap := s₂.heap, slotsUsed := s₂.slotsUsed } : State).setVm s₂.vm).setTop { g with pc := g.pc + len₂, stack := v.toList ++ g.stack })
    rw [← hs₂]
    exact hsteps
  · obtain ⟨e2, q2, q3, q4, q5, q6⟩ := id hsm
    have e3 : s₂ = ({ (U.calling g mk a).setFrames s₂.frames with heap := s₂.heap, slotsUsed := s₂.slotsUsed } : State).setVm s₂.vm := by
      have : s₂ = ({ s₂ with vm := (U.calling g mk a).vm } : State).setVm s₂.vm := rfl
      rw [e2] at this
      exact this
    have hf₂ : s₂.frames = .throwing q :: .java g :: U.frames.tail := hend
    have hW' : U.WarmedH s₂.vm := hW₂
    have hs₂ : s₂ = ((({ U with heap := s₂.heap, slotsUsed := s₂.slotsUsed } : State).setVm s₂.vm).setTop g).pushFrame (.throwing q) := by
      refine e3.trans ?_
      rw [hf₂, State.calling_eq h.top, State.setFrames_setFrames, State.pushFrame, State.frames_setTop _ hr', State.setTop_of_frames _ hr', State.setFrames_setFrames, hr]
      rfl
    have hsame : U.sameButNew ({ U with heap := s₂.heap, slotsUsed := s₂.slotsUsed } : State) L mc ms := by
      refine ⟨?_, q2, q3, q4, q5, q6⟩
      obtain ⟨t, ht, -⟩ := State.frames_cons hr
      show ({ U with heap := s₂.heap, slotsUsed := s₂.slotsUsed } : State) = { U.setFrames U.frames with heap := s₂.heap, slotsUsed := s₂.slotsUsed }
      rw [State.setFrames_self ht]
    subst hg
    refine Or.inr ⟨q, ⟨(({ U with heap := s₂.heap, slotsUsed := s₂.slotsUsed } : State).setVm s₂.vm), Ls ++ L, c0 + mc, s0 + ms⟩,
      ⟨X.admits, X.cas, X.clock, X.frames, X.room, X.hears, X.method, X.code, (X.here.setHeapUsed s₂.heap s₂.slotsUsed).setVm hW'.alike, X.tail, State.WarmedH.trans X.warmed hW', X.limits, X.bytes, X.same.trans (hsame.setVm s.vm)⟩,
      ⟨g, mk, s₂, L, E, ce, rfl, rfl, hx, hce, hcv, hcl, rfl, hL, rfl, rfl⟩, ?_⟩
    show Steps p.tables e below _ (((({ U with heap := s₂.heap, slotsUsed := s₂.slotsUsed } : State).setVm s₂.vm).setTop g).pushFrame (.throwing q))
    rw [← hs₂]
    exact hsteps
end Payer
section Calls
variable {p : Program} {l : Launch} {e : Env} {R : Room} {s : State} {m : MethodId} {args : Array Value} {below : List Frame} {meth : Method} {c : Code} {T : State} {locs : List Loc} {cells slots : Nat}
theorem vx_callV (X : Stand p l e R s m args below meth c T locs cells slots) (hexec : p.tables.exec = Jvm.exec) {own C : String} {index : Nat} {y : MethodName} {bytes : ByteArray} {maxL : Nat} {ret : Option FieldType}
    (hown : s.vm.findClass own = some m.cls) (hlink : (Cond.methodLink own index y).before args s = true) (hinst : (Cond.instanceMethod y).before args s = true) (hsel : (Cond.selects C y y).before args s = true)
    (hcode : (Cond.code y bytes maxL ret).before args s = true) (hy : y.cls ≠ "java/lang/invoke/MethodHandle" ∧ y.cls ≠ "java/lang/invoke/VarHandle")
    {W9 : Nat} {Pre : Pt → Array Value → Prop} {Post : Pt → Array Value → Option Value → Pt → Prop} {PostX : Pt → Array Value → Addr → Pt → Prop} (hK : vx_Back l R p e below s args y 3 W9 Pre Post PostX)
    {b : Addr} {cellB : Cell} (hcell : T.heap[b]? = some cellB) (hobj : cellB.vm.isStatics = false) (hcls : s.vm.findClass C = some cellB.cls)
    {g : JFrame} (hg : g.method = m) (hsize : g.locals.size = c.maxLocals) {argsL rest : List Value} (hlen : ∀ sig, parseMethodDescriptor y.desc = some sig → argsL.length = sig.parameters.length)
    (hstack : g.stack = argsL.reverse ++ .ref b :: rest) (hW : 2 * g.monitorRoom + (rest.map fun v => v.category).sum ≤ W9) (hdg : decode c.code g.pc = .ok (.invokevirtual index, 3))
    (hpre : ∀ vm₁, s.WarmedH vm₁ → Pre ⟨T.setVm vm₁, locs, cells, slots⟩ (Value.ref b :: argsL).toArray) :
    (∃ (v : Option Value) (vm₁ : Vm) (B : Pt), s.WarmedH vm₁ ∧ Stand p l e R s m args below meth c B.U B.locs B.cells B.slots ∧ Post ⟨T.setVm vm₁, locs, cells, slots⟩ (Value.ref b :: argsL).toArray v B ∧
      ∀ target, Steps p.tables e below (B.U.setTop { g with pc := g.pc + 3, stack := v.toList ++ rest }) target → Steps p.tables e below (T.setTop g) target) ∨
    (∃ (q : Addr) (vm₁ : Vm) (B : Pt), s.WarmedH vm₁ ∧ Stand p l e R s m args below meth c B.U B.locs B.cells B.slots ∧ PostX ⟨T.setVm vm₁, locs, cells, slots⟩ (Value.ref b :: argsL).toArray q B ∧
      Steps p.tables e below (T.setTop g) ((B.U.setTop { g with stack := rest }).pushFrame (.throwing q))) := by
  obtain ⟨mk, methM, hnamed, hmethM, hstM, habM⟩ := Cond.instanceMethod_spec hinst
  obtain ⟨methM', cM, hmethM', -, -, -, -, -, -, hsigM⟩ := Cond.code_spec hnamed hcode
  cases hmethM.symm.trans hmethM'
  obtain ⟨c2, r2, m2, q1, q2, q3, q4, kP, hkP, hkPi⟩ := Cond.selects_spec hsel
  cases hcls.symm.trans q1
  cases (State.methodFound?_of_named hnamed hy).symm.trans q2
  cases hnamed.symm.trans q3
  have hselP : selectMethod e.platform s.vm cellB.cls mk = .method mk := by rw [Launch.admits_selectMethod X.admits]; exact q4
  obtain ⟨vm₁, X₁, hstep₁⟩ := X.invokevirtual hexec hown hlink hnamed hmethM hstM hkP hkPi hy (a := b) (cell := cellB) hcell
    (fun z h => by rw [h] at hobj; cases hobj) hselP hmethM habM hkP hkPi (g := g) hg (argsL := argsL) (rest := rest) (hlen _ hsigM) hstack hdg
  rcases hK m meth c ⟨T.setVm vm₁, locs, cells, slots⟩ { g with stack := rest } (.invokevirtual index) mk (Value.ref b :: argsL).toArray X₁ hg hsize hdg hW (X₁.named hnamed) (hpre vm₁ X₁.warmed) with ⟨v, B, X', hpost, hsteps⟩ | ⟨q, B, X', hpost, hsteps⟩
  · exact Or.inl ⟨v, vm₁, B, X₁.warmed, X', hpost, fun target h => hstep₁ _ fun acts => by rw [doInvoke_state]; exact hsteps.trans h⟩
  · exact Or.inr ⟨q, vm₁, B, X₁.warmed, X', hpost, hstep₁ _ fun acts => by rw [doInvoke_state]; exact hsteps⟩
theorem vx_callS (X : Stand p l e R s m args below meth c T locs cells slots) (hexec : p.tables.exec = Jvm.exec) {own : String} {index : Nat} {y : MethodName} {bytes : ByteArray} {maxL : Nat} {ret : Option FieldType}
    (hown : s.vm.findClass own = some m.cls) (hlink : (Cond.methodLink own index y).before args s = true) (hstat : (Cond.static y).before args s = true) (hinit : (Cond.initialized y.cls).before args s = true)
    (hcode : (Cond.code y bytes maxL ret).before args s = true) (hy : y.cls ≠ "java/lang/invoke/MethodHandle" ∧ y.cls ≠ "java/lang/invoke/VarHandle")
    {W9 : Nat} {Pre : Pt → Array Value → Prop} {Post : Pt → Array Value → Option Value → Pt → Prop} {PostX : Pt → Array Value → Addr → Pt → Prop} (hK : vx_Back l R p e below s args y 3 W9 Pre Post PostX)
    {g : JFrame} (hg : g.method = m) (hsize : g.locals.size = c.maxLocals) {argsL rest : List Value} (hlen : ∀ sig, parseMethodDescriptor y.desc = some sig → argsL.length = sig.parameters.length)
    (hstack : g.stack = argsL.reverse ++ rest) (hW : 2 * g.monitorRoom + (rest.map fun v => v.category).sum ≤ W9) (hdg : decode c.code g.pc = .ok (.invokestatic index, 3))
    (hpre : ∀ vm₁, s.WarmedH vm₁ → Pre ⟨T.setVm vm₁, locs, cells, slots⟩ argsL.toArray) :
    (∃ (v : Option Value) (vm₁ : Vm) (B : Pt), s.WarmedH vm₁ ∧ Stand p l e R s m args below meth c B.U B.locs B.cells B.slots ∧ Post ⟨T.setVm vm₁, locs, cells, slots⟩ argsL.toArray v B ∧
      ∀ target, Steps p.tables e below (B.U.setTop { g with pc := g.pc + 3, stack := v.toList ++ rest }) target → Steps p.tables e below (T.setTop g) target) ∨
    (∃ (q : Addr) (vm₁ : Vm) (B : Pt), s.WarmedH vm₁ ∧ Stand p l e R s m args below meth c B.U B.locs B.cells B.slots ∧ PostX ⟨T.setVm vm₁, locs, cells, slots⟩ argsL.toArray q B ∧
      Steps p.tables e below (T.setTop g) ((B.U.setTop { g with stack := rest }).pushFrame (.throwing q))) := by
  obtain ⟨mk, hnamed⟩ := Cond.code_named hcode
  obtain ⟨methM, cM, hmethM, -, -, -, -, -, -, hsigM⟩ := Cond.code_spec hnamed hcode
  have hstatic : methM.isStatic = true := Cond.static_spec hnamed hmethM hstat
  obtain ⟨kP, hkP, -⟩ := className_of_methodNamed hnamed
  have hinitP : kP.init = .initialized := Cond.initialized_spec (findClass_of_methodNamed hnamed) hkP hinit
  obtain ⟨vm₁, X₁, hstep₁⟩ := X.invokestatic hexec hown hlink hnamed hmethM hstatic hkP hinitP hy (g := g) hg (argsL := argsL) (rest := rest) (hlen _ hsigM) hstack hdg
  rcases hK m meth c ⟨T.setVm vm₁, locs, cells, slots⟩ { g with stack := rest } (.invokestatic index) mk argsL.toArray X₁ hg hsize hdg hW (X₁.named hnamed) (hpre vm₁ X₁.warmed) with ⟨v, B, X', hpost, hsteps⟩ | ⟨q, B, X', hpost, hsteps⟩
  · exact Or.inl ⟨v, vm₁, B, X₁.warmed, X', hpost, fun target h => hstep₁ _ fun acts => by rw [doInvoke_state]; exact hsteps.trans h⟩
  · exact Or.inr ⟨q, vm₁, B, X₁.warmed, X', hpost, hstep₁ _ fun acts => by rw [doInvoke_state]; exact hsteps⟩
end Calls
theorem vx_cls {s : State} {T : State} {vm₁ : Vm} {E : String} {k : ClassId} (hW : s.WarmedH vm₁) (h : (T.setVm vm₁).vm.findClass E = some k) : s.vm.findClass E = some k := by
  have h1 : vm₁.findClass E = some k := h
  rw [hW.alike.findClass] at h1
  exact h1
/-- the method's frame g, with q thrown over it -/
def vx_W (p : Program) (l : Launch) (e : Env) (R : Room) (s : State) (m : MethodId) (args : Array Value) (below : List Frame) (meth : Method) (c : Code) (H : Heap) (locs : List Loc) (cells slots : Nat) (Q : State → Prop) (g : JFrame) (q : Addr) : Prop :=
  ∀ T : State, T.heap = H → Stand p l e R s m args below meth c T locs cells slots → ∃ t, Steps p.tables e below ((T.setTop g).pushFrame (.throwing q)) t ∧ Q t
def vx_Run (p : Program) (l : Launch) (e : Env) (R : Room) (s : State) (m : MethodId) (args : Array Value) (below : List Frame) (meth : Method) (c : Code) (H : Heap) (locs : List Loc) (cells slots mc ms : Nat) (g : JFrame) (rest : List Value) (Qa : State → Outcome → State → Prop) (XC : String → State → State → Prop) (free : Addr → Prop) : Prop :=
  ∀ T : State, T.heap = H → Stand p l e R s m args below meth c T locs cells slots →
    (∃ (v : Option Value) (st₀ t T' : State) (L : List Loc), st₀.heap = H ∧ Stand p l e R s m args below meth c T' (locs ++ L) (cells + mc) (slots + ms) ∧ (∀ q ∈ L, free q.base) ∧ T'.heap = t.heap ∧ T'.vm = t.vm ∧ Qa st₀ (.returned v) t ∧
      Goes p e below T g T' { g with pc := g.pc + 3, stack := v.toList ++ rest }) ∨
    (∃ (q : Addr) (st₀ t T' : State) (L : List Loc) (E : String) (ce : Cell), st₀.heap = H ∧ Stand p l e R s m args below meth c T' (locs ++ L) (cells + mc) (slots + ms) ∧ (∀ z ∈ L, free z.base) ∧ T'.heap = t.heap ∧ T'.vm = t.vm ∧ XC E st₀ t ∧ t.heap[q]? = some ce ∧ ce.vm = .none ∧ s.vm.findClass E = some ce.cls ∧
      Steps p.tables e below (T.setTop g) ((T'.setTop { g with stack := rest }).pushFrame (.throwing q)))
def vx_X {S : Type} (px : S → Prop) (B : String → S → State → Prop) (A : Nat → Prop) : String → State → State → Prop := fun E st t => ∃ u : S, px u ∧ B E u t ∧ va_F A st t
section Runs
variable {p : Program} {l : Launch} {e : Env} {R : Room} {s : State} {m : MethodId} {args : Array Value} {below : List Frame} {meth : Method} {c : Code} {H : Heap} {locs : List Loc} {cells slots : Nat}
variable {y : MethodName} {bytes cc : ByteArray} {maxL nL mc ms n index : Nat} {ret : Option FieldType} {ws : List Cond} {rm : Room} {Pc : Array Value → State → Prop} {Qc : Array Value → State → Outcome → State → Prop} {XC : String → State → State → Prop} {free : Addr → Prop} {Ts : List Cond} {own C : String} {b : Addr} {As rest : List Value} {g : JFrame}
theorem vx_callBack (cb : CallB R s args own index y bytes maxL ret ws rm mc ms n) (hM : vx_Met l y ws rm Pc Qc XC mc ms free) (hbl : FrameBlind Pc) : vx_Back l R p e below s args y 3 8 (PreOf R mc ms Pc) (PostOf Qc mc ms free) (vx_Post XC mc ms free) := by
  obtain ⟨hrc, hrs, hfr, hlo, hws, hcw, -, hini, -⟩ := cb
  exact vx_back (bytes := bytes) (maxL := maxL) (ret := ret) hM hbl hrc hrs hfr hlo hws hcw (fun a' U hW => word_at hW (Or.inl (by first | rfl | simp [Cond.onTables, Cond.keeps, Cond.steady])) hini)
theorem vx_runV (S : CallFix p m c cc nL s args Ts own) (hM : vx_Met l y ws rm Pc Qc XC mc ms free) (cw : CallW R s args own C index y bytes maxL ret ws rm mc ms n) (hp : PreV s H C b Pc As)
    (hg : g.method = m) (hn : As.length = n) (hsize : g.locals.size = nL) (hstack : g.stack = As.reverse ++ .ref b :: rest) (hW : 2 * g.monitorRoom + (rest.map fun v => v.category).sum ≤ 8) (hdg : decode cc g.pc = .ok (.invokevirtual index, 3)) (hf : cells + mc ≤ R.cells ∧ slots + ms ≤ R.slots) :
    vx_Run p l e R s m args below meth c H locs cells slots mc ms g rest (Qc (Value.ref b :: As).toArray) XC free := by
  have hK : vx_Back l R p e below s args y 3 8 (PreOf R mc ms Pc) (PostOf Qc mc ms free) (vx_Post XC mc ms free) := vx_callBack cw.1 hM hp.1
  obtain ⟨⟨-, -, -, -, -, -, hcode, -, hy, hlen, hl⟩, hin, hse⟩ := cw
  obtain ⟨hx, hb, hml, ho, -⟩ := S
  obtain ⟨-, ⟨cellB, hcB, hoB, hclB⟩, hPc⟩ := hp
  intro T hT X
  rcases vx_callV X hx (C := C) (bytes := bytes) (maxL := maxL) (ret := ret) ho hl hin hse hcode hy hK (by rw [hT]; exact hcB) hoB hclB hg (hsize.trans hml.symm) (argsL := As) (rest := rest) (fun sig h => hn.trans (hlen sig h)) hstack hW (by rw [hb]; exact hdg)
    (fun vm₁ hW₁ => ⟨hf.1, hf.2, hPc (T.setVm vm₁) hT hW₁⟩) with ⟨v, vm₁, ⟨U', l2, c2, s2⟩, hW₁, X', ⟨g', mk, t, L, e1, e2, hq, h1, hL, h2, h3⟩, st⟩ | ⟨q, vm₁, ⟨U', l2, c2, s2⟩, hW₁, X', ⟨g', mk, t, L, E, ce, e1, e2, hq, hce, hcv, hcl, h1, hL, h2, h3⟩, st⟩
  · dsimp only [Pt.U, Pt.locs, Pt.cells, Pt.slots] at X' e1 e2 h1 h2 h3 st
    subst h1; subst h2; subst h3
    exact Or.inl ⟨v, (T.setVm vm₁).calling g' mk (Value.ref b :: As).toArray, t, U', L, hT, X', hL, e1, e2, hq, st⟩
  · dsimp only [Pt.U, Pt.locs, Pt.cells, Pt.slots] at X' e1 e2 h1 h2 h3 st hcl
    subst h1; subst h2; subst h3
    exact Or.inr ⟨q, (T.setVm vm₁).calling g' mk (Value.ref b :: As).toArray, t, U', L, E, ce, hT, X', hL, e1, e2, hq, hce, hcv, vx_cls hW₁ hcl, st⟩
theorem vx_runS (S : CallFix p m c cc nL s args Ts own) (hM : vx_Met l y ws rm Pc Qc XC mc ms free) (cw : CallB R s args own index y bytes maxL ret ws rm mc ms n ∧ (Cond.static y).before args s = true) (hp : PreS s H Pc As)
    (hg : g.method = m) (hn : As.length = n) (hsize : g.locals.size = nL) (hstack : g.stack = As.reverse ++ rest) (hW : 2 * g.monitorRoom + (rest.map fun v => v.category).sum ≤ 8) (hdg : decode cc g.pc = .ok (.invokestatic index, 3)) (hf : cells + mc ≤ R.cells ∧ slots + ms ≤ R.slots) :
    vx_Run p l e R s m args below meth c H locs cells slots mc ms g rest (Qc As.toArray) XC free := by
  have hK : vx_Back l R p e below s args y 3 8 (PreOf R mc ms Pc) (PostOf Qc mc ms free) (vx_Post XC mc ms free) := vx_callBack cw.1 hM hp.1
  obtain ⟨⟨-, -, -, -, -, -, hcode, hini, hy, hlen, hl⟩, hstt⟩ := cw
  obtain ⟨hx, hb, hml, ho, -⟩ := S
  intro T hT X
  rcases vx_callS X hx (bytes := bytes) (maxL := maxL) (ret := ret) ho hl hstt hini hcode hy hK hg (hsize.trans hml.symm) (argsL := As) (rest := rest) (fun sig h => hn.trans (hlen sig h)) hstack hW (by rw [hb]; exact hdg)
    (fun vm₁ hW₁ => ⟨hf.1, hf.2, hp.2 (T.setVm vm₁) hT hW₁⟩) with ⟨v, vm₁, ⟨U', l2, c2, s2⟩, hW₁, X', ⟨g', mk, t, L, e1, e2, hq, h1, hL, h2, h3⟩, st⟩ | ⟨q, vm₁, ⟨U', l2, c2, s2⟩, hW₁, X', ⟨g', mk, t, L, E, ce, e1, e2, hq, hce, hcv, hcl, h1, hL, h2, h3⟩, st⟩
  · dsimp only [Pt.U, Pt.locs, Pt.cells, Pt.slots] at X' e1 e2 h1 h2 h3 st
    subst h1; subst h2; subst h3
    exact Or.inl ⟨v, (T.setVm vm₁).calling g' mk As.toArray, t, U', L, hT, X', hL, e1, e2, hq, st⟩
  · dsimp only [Pt.U, Pt.locs, Pt.cells, Pt.slots] at X' e1 e2 h1 h2 h3 st hcl
    subst h1; subst h2; subst h3
    exact Or.inr ⟨q, (T.setVm vm₁).calling g' mk As.toArray, t, U', L, E, ce, hT, X', hL, e1, e2, hq, hce, hcv, vx_cls hW₁ hcl, st⟩
end Runs
section Rows
variable {p : Program} {l : Launch} {e : Env} {R : Room} {s : State} {m : MethodId} {args : Array Value} {below : List Frame} {meth : Method} {c : Code} {H : Heap} {locs : List Loc} {cells slots : Nat} {Q : State → Prop}
variable {mc ms : Nat} {free : Addr → Prop} {A0 A1 : Nat → Prop} {H0 : Heap} {a : Array Value} {pc : Nat} {ls : Array Slot} {st0 rest : List Value}
theorem vx_keep {st₀ t T' : State} {L : List Loc} (h0 : st₀.heap = H) (e1 : T'.heap = t.heap) (hS : va_S A0 H0 H locs) (hA : ∀ q, q < H.size → A1 q → A0 q) (hf : ∀ q, free q → A0 q) (hL : ∀ q ∈ L, free q.base) (hF : va_F A1 st₀ t) :
    H.size ≤ T'.heap.size ∧ (∀ q : Nat, q < H.size → ¬ A1 q → T'.heap[q]? = H[q]?) ∧ va_S A0 H0 T'.heap (locs ++ L) := by
  obtain ⟨hz, hk⟩ := hF
  rw [h0] at hz hk
  exact ⟨by rw [e1]; exact hz, fun q h1 h2 => by rw [e1]; exact hk q h1 h2,
    ⟨Nat.le_trans hS.1 (by rw [e1]; exact hz), fun q h1 h2 => by rw [e1, hk q (Nat.lt_of_lt_of_le h1 hS.1) (fun z => h2 (hA q (Nat.lt_of_lt_of_le h1 hS.1) z))]; exact hS.2.1 q h1 h2, fun q hq => by
      rcases List.mem_append.mp hq with h | h
      · exact hS.2.2 q h
      · exact hf _ (hL q h)⟩⟩
theorem vx_calli {S SX : Type} {post : Int32 → S → Prop} {px : SX → Prop} {B : S → State → Prop} {BX : String → SX → State → Prop} {AX : Nat → Prop} (hr : vx_Run p l e R s m args below meth c H locs cells slots mc ms (F0 m pc ls st0) rest (va_Qi post B A1 a) (vx_X px BX AX) free) (hS : va_S A0 H0 H locs) (hA : ∀ q, q < H.size → A1 q → A0 q) (hf : ∀ q, free q → A0 q) (hAX : ∀ q, q < H.size → AX q → A0 q)
    (kx : ∀ (E : String) (ce : Cell) (q9 : Addr) (u : SX) (t : State) (H1 : Heap) (locs1 : List Loc), t.heap = H1 → s.vm.Alike t.vm → px u → BX E u t → H.size ≤ H1.size → (∀ q : Nat, q < H.size → ¬ AX q → H1[q]? = H[q]?) → va_S A0 H0 H1 locs1 → H1[q9]? = some ce → ce.vm = .none → s.vm.findClass E = some ce.cls → vx_W p l e R s m args below meth c H1 locs1 (cells + mc) (slots + ms) Q (F0 m pc ls rest) q9)
    (kk : ∀ (r : Int32) (u : S) (t : State) (H1 : Heap) (locs1 : List Loc), t.heap = H1 → s.vm.Alike t.vm → post r u → B u t → H.size ≤ H1.size → (∀ q : Nat, q < H.size → ¬ A1 q → H1[q]? = H[q]?) → va_S A0 H0 H1 locs1 → W p l e R s m args below meth c H1 locs1 (cells + mc) (slots + ms) Q (F0 m (pc + 3) ls (.int r :: rest))) : W p l e R s m args below meth c H locs cells slots Q (F0 m pc ls st0) := by
  intro T hT X
  rcases hr T hT X with ⟨v, st₀, t, T', L, h0, X', hL, e1, e2, ⟨⟨r, u, hv, hp, hb⟩, hF⟩, st⟩ | ⟨q, st₀, t, T', L, E, ce, h0, X', hL, e1, e2, ⟨u, hp, hb, hF⟩, hce, hcv, hcl, st⟩
  · cases hv
    obtain ⟨k1, k2, k3⟩ := vx_keep h0 e1 hS hA hf hL hF
    obtain ⟨t2, a1, b1⟩ := kk r u t T'.heap (locs ++ L) e1.symm (by rw [← e2]; exact X'.warmed.alike) hp hb k1 k2 k3 T' rfl X'
    exact ⟨t2, st t2 a1, b1⟩
  · obtain ⟨k1, k2, k3⟩ := vx_keep h0 e1 hS hAX hf hL hF
    obtain ⟨t2, a1, b1⟩ := kx E ce q u t T'.heap (locs ++ L) e1.symm (by rw [← e2]; exact X'.warmed.alike) hp hb k1 k2 k3 (by rw [e1]; exact hce) hcv hcl T' rfl X'
    exact ⟨t2, st.trans a1, b1⟩
theorem vx_calll {S SX : Type} {post : Int64 → S → Prop} {px : SX → Prop} {B : S → State → Prop} {BX : String → SX → State → Prop} {AX : Nat → Prop} (hr : vx_Run p l e R s m args below meth c H locs cells slots mc ms (F0 m pc ls st0) rest (va_Ql post B A1 a) (vx_X px BX AX) free) (hS : va_S A0 H0 H locs) (hA : ∀ q, q < H.size → A1 q → A0 q) (hf : ∀ q, free q → A0 q) (hAX : ∀ q, q < H.size → AX q → A0 q)
    (kx : ∀ (E : String) (ce : Cell) (q9 : Addr) (u : SX) (t : State) (H1 : Heap) (locs1 : List Loc), t.heap = H1 → s.vm.Alike t.vm → px u → BX E u t → H.size ≤ H1.size → (∀ q : Nat, q < H.size → ¬ AX q → H1[q]? = H[q]?) → va_S A0 H0 H1 locs1 → H1[q9]? = some ce → ce.vm = .none → s.vm.findClass E = some ce.cls → vx_W p l e R s m args below meth c H1 locs1 (cells + mc) (slots + ms) Q (F0 m pc ls rest) q9)
    (kk : ∀ (r : Int64) (u : S) (t : State) (H1 : Heap) (locs1 : List Loc), t.heap = H1 → s.vm.Alike t.vm → post r u → B u t → H.size ≤ H1.size → (∀ q : Nat, q < H.size → ¬ A1 q → H1[q]? = H[q]?) → va_S A0 H0 H1 locs1 → W p l e R s m args below meth c H1 locs1 (cells + mc) (slots + ms) Q (F0 m (pc + 3) ls (.long r :: rest))) : W p l e R s m args below meth c H locs cells slots Q (F0 m pc ls st0) := by
  intro T hT X
  rcases hr T hT X with ⟨v, st₀, t, T', L, h0, X', hL, e1, e2, ⟨⟨r, u, hv, hp, hb⟩, hF⟩, st⟩ | ⟨q, st₀, t, T', L, E, ce, h0, X', hL, e1, e2, ⟨u, hp, hb, hF⟩, hce, hcv, hcl, st⟩
  · cases hv
    obtain ⟨k1, k2, k3⟩ := vx_keep h0 e1 hS hA hf hL hF
    obtain ⟨t2, a1, b1⟩ := kk r u t T'.heap (locs ++ L) e1.symm (by rw [← e2]; exact X'.warmed.alike) hp hb k1 k2 k3 T' rfl X'
    exact ⟨t2, st t2 a1, b1⟩
  · obtain ⟨k1, k2, k3⟩ := vx_keep h0 e1 hS hAX hf hL hF
    obtain ⟨t2, a1, b1⟩ := kx E ce q u t T'.heap (locs ++ L) e1.symm (by rw [← e2]; exact X'.warmed.alike) hp hb k1 k2 k3 (by rw [e1]; exact hce) hcv hcl T' rfl X'
    exact ⟨t2, st.trans a1, b1⟩
theorem vx_callf {S SX : Type} {post : UInt32 → S → Prop} {px : SX → Prop} {B : S → State → Prop} {BX : String → SX → State → Prop} {AX : Nat → Prop} (hr : vx_Run p l e R s m args below meth c H locs cells slots mc ms (F0 m pc ls st0) rest (va_Qf post B A1 a) (vx_X px BX AX) free) (hS : va_S A0 H0 H locs) (hA : ∀ q, q < H.size → A1 q → A0 q) (hf : ∀ q, free q → A0 q) (hAX : ∀ q, q < H.size → AX q → A0 q)
    (kx : ∀ (E : String) (ce : Cell) (q9 : Addr) (u : SX) (t : State) (H1 : Heap) (locs1 : List Loc), t.heap = H1 → s.vm.Alike t.vm → px u → BX E u t → H.size ≤ H1.size → (∀ q : Nat, q < H.size → ¬ AX q → H1[q]? = H[q]?) → va_S A0 H0 H1 locs1 → H1[q9]? = some ce → ce.vm = .none → s.vm.findClass E = some ce.cls → vx_W p l e R s m args below meth c H1 locs1 (cells + mc) (slots + ms) Q (F0 m pc ls rest) q9)
    (kk : ∀ (r : UInt32) (u : S) (t : State) (H1 : Heap) (locs1 : List Loc), t.heap = H1 → s.vm.Alike t.vm → post r u → B u t → H.size ≤ H1.size → (∀ q : Nat, q < H.size → ¬ A1 q → H1[q]? = H[q]?) → va_S A0 H0 H1 locs1 → W p l e R s m args below meth c H1 locs1 (cells + mc) (slots + ms) Q (F0 m (pc + 3) ls (.float r :: rest))) : W p l e R s m args below meth c H locs cells slots Q (F0 m pc ls st0) := by
  intro T hT X
  rcases hr T hT X with ⟨v, st₀, t, T', L, h0, X', hL, e1, e2, ⟨⟨r, u, hv, hp, hb⟩, hF⟩, st⟩ | ⟨q, st₀, t, T', L, E, ce, h0, X', hL, e1, e2, ⟨u, hp, hb, hF⟩, hce, hcv, hcl, st⟩
  · cases hv
    obtain ⟨k1, k2, k3⟩ := vx_keep h0 e1 hS hA hf hL hF
    obtain ⟨t2, a1, b1⟩ := kk r u t T'.heap (locs ++ L) e1.symm (by rw [← e2]; exact X'.warmed.alike) hp hb k1 k2 k3 T' rfl X'
    exact ⟨t2, st t2 a1, b1⟩
  · obtain ⟨k1, k2, k3⟩ := vx_keep h0 e1 hS hAX hf hL hF
    obtain ⟨t2, a1, b1⟩ := kx E ce q u t T'.heap (locs ++ L) e1.symm (by rw [← e2]; exact X'.warmed.alike) hp hb k1 k2 k3 (by rw [e1]; exact hce) hcv hcl T' rfl X'
    exact ⟨t2, st.trans a1, b1⟩
theorem vx_calld {S SX : Type} {post : UInt64 → S → Prop} {px : SX → Prop} {B : S → State → Prop} {BX : String → SX → State → Prop} {AX : Nat → Prop} (hr : vx_Run p l e R s m args below meth c H locs cells slots mc ms (F0 m pc ls st0) rest (va_Qd post B A1 a) (vx_X px BX AX) free) (hS : va_S A0 H0 H locs) (hA : ∀ q, q < H.size → A1 q → A0 q) (hf : ∀ q, free q → A0 q) (hAX : ∀ q, q < H.size → AX q → A0 q)
    (kx : ∀ (E : String) (ce : Cell) (q9 : Addr) (u : SX) (t : State) (H1 : Heap) (locs1 : List Loc), t.heap = H1 → s.vm.Alike t.vm → px u → BX E u t → H.size ≤ H1.size → (∀ q : Nat, q < H.size → ¬ AX q → H1[q]? = H[q]?) → va_S A0 H0 H1 locs1 → H1[q9]? = some ce → ce.vm = .none → s.vm.findClass E = some ce.cls → vx_W p l e R s m args below meth c H1 locs1 (cells + mc) (slots + ms) Q (F0 m pc ls rest) q9)
    (kk : ∀ (r : UInt64) (u : S) (t : State) (H1 : Heap) (locs1 : List Loc), t.heap = H1 → s.vm.Alike t.vm → post r u → B u t → H.size ≤ H1.size → (∀ q : Nat, q < H.size → ¬ A1 q → H1[q]? = H[q]?) → va_S A0 H0 H1 locs1 → W p l e R s m args below meth c H1 locs1 (cells + mc) (slots + ms) Q (F0 m (pc + 3) ls (.double r :: rest))) : W p l e R s m args below meth c H locs cells slots Q (F0 m pc ls st0) := by
  intro T hT X
  rcases hr T hT X with ⟨v, st₀, t, T', L, h0, X', hL, e1, e2, ⟨⟨r, u, hv, hp, hb⟩, hF⟩, st⟩ | ⟨q, st₀, t, T', L, E, ce, h0, X', hL, e1, e2, ⟨u, hp, hb, hF⟩, hce, hcv, hcl, st⟩
  · cases hv
    obtain ⟨k1, k2, k3⟩ := vx_keep h0 e1 hS hA hf hL hF
    obtain ⟨t2, a1, b1⟩ := kk r u t T'.heap (locs ++ L) e1.symm (by rw [← e2]; exact X'.warmed.alike) hp hb k1 k2 k3 T' rfl X'
    exact ⟨t2, st t2 a1, b1⟩
  · obtain ⟨k1, k2, k3⟩ := vx_keep h0 e1 hS hAX hf hL hF
    obtain ⟨t2, a1, b1⟩ := kx E ce q u t T'.heap (locs ++ L) e1.symm (by rw [← e2]; exact X'.warmed.alike) hp hb k1 k2 k3 (by rw [e1]; exact hce) hcv hcl T' rfl X'
    exact ⟨t2, st.trans a1, b1⟩
theorem vx_callv {S SX : Type} {post : S → Prop} {px : SX → Prop} {B : S → State → Prop} {BX : String → SX → State → Prop} {AX : Nat → Prop} (hr : vx_Run p l e R s m args below meth c H locs cells slots mc ms (F0 m pc ls st0) rest (va_Qv post B A1 a) (vx_X px BX AX) free) (hS : va_S A0 H0 H locs) (hA : ∀ q, q < H.size → A1 q → A0 q) (hf : ∀ q, free q → A0 q) (hAX : ∀ q, q < H.size → AX q → A0 q)
    (kx : ∀ (E : String) (ce : Cell) (q9 : Addr) (u : SX) (t : State) (H1 : Heap) (locs1 : List Loc), t.heap = H1 → s.vm.Alike t.vm → px u → BX E u t → H.size ≤ H1.size → (∀ q : Nat, q < H.size → ¬ AX q → H1[q]? = H[q]?) → va_S A0 H0 H1 locs1 → H1[q9]? = some ce → ce.vm = .none → s.vm.findClass E = some ce.cls → vx_W p l e R s m args below meth c H1 locs1 (cells + mc) (slots + ms) Q (F0 m pc ls rest) q9)
    (kk : ∀ (u : S) (t : State) (H1 : Heap) (locs1 : List Loc), t.heap = H1 → s.vm.Alike t.vm → post u → B u t → H.size ≤ H1.size → (∀ q : Nat, q < H.size → ¬ A1 q → H1[q]? = H[q]?) → va_S A0 H0 H1 locs1 → W p l e R s m args below meth c H1 locs1 (cells + mc) (slots + ms) Q (F0 m (pc + 3) ls (rest))) : W p l e R s m args below meth c H locs cells slots Q (F0 m pc ls st0) := by
  intro T hT X
  rcases hr T hT X with ⟨v, st₀, t, T', L, h0, X', hL, e1, e2, ⟨⟨u, hv, hp, hb⟩, hF⟩, st⟩ | ⟨q, st₀, t, T', L, E, ce, h0, X', hL, e1, e2, ⟨u, hp, hb, hF⟩, hce, hcv, hcl, st⟩
  · cases hv
    obtain ⟨k1, k2, k3⟩ := vx_keep h0 e1 hS hA hf hL hF
    obtain ⟨t2, a1, b1⟩ := kk u t T'.heap (locs ++ L) e1.symm (by rw [← e2]; exact X'.warmed.alike) hp hb k1 k2 k3 T' rfl X'
    exact ⟨t2, st t2 a1, b1⟩
  · obtain ⟨k1, k2, k3⟩ := vx_keep h0 e1 hS hAX hf hL hF
    obtain ⟨t2, a1, b1⟩ := kx E ce q u t T'.heap (locs ++ L) e1.symm (by rw [← e2]; exact X'.warmed.alike) hp hb k1 k2 k3 (by rw [e1]; exact hce) hcv hcl T' rfl X'
    exact ⟨t2, st.trans a1, b1⟩
/-- caught by the row x of this method's table; the rows ahead don't take it -/
theorem vx_catch {own name : String} {E : String} {ce : Cell} {q : Addr} (hown : s.vm.findClass own = some m.cls) (pre : List ExceptionTableEntry) (x : ExceptionTableEntry) (suf : List ExceptionTableEntry) (hsplit : c.exceptionTable.toList = pre ++ x :: suf)
    (hpass : ∀ z ∈ pre, covers z pc = false ∨ (z.catchType ≠ 0 ∧ ∃ nm : String, (Cond.classLink own z.catchType nm).before args s = true ∧ va_Nc E nm s)) (hx : covers x pc = true) (h0 : x.catchType ≠ 0)
    (hlink : (Cond.classLink own x.catchType name).before args s = true) (hcast : (Cond.castable E name).before args s = true) (hcell : H[q]? = some ce) (hv : ce.vm = .none) (hcl : s.vm.findClass E = some ce.cls)
    (kk : W p l e R s m args below meth c H locs cells slots Q (F0 m x.handlerPc ls [.ref q])) : vx_W p l e R s m args below meth c H locs cells slots Q (F0 m pc ls rest) q := by
  intro T hT X
  have hpl : e.platform.magicAccessors = ({} : Platform).magicAccessors := by rw [X.admits.platform]
  obtain ⟨c3, c4, hc3, hc4, hasg⟩ := Cond.castable_spec hcast
  cases Option.some.inj (hc3.symm.trans hcl)
  obtain ⟨c5, hc5, hcl5⟩ := Cond.classLink_spec hown hlink e.platform hpl
  cases Option.some.inj (hc4.symm.trans hc5)
  obtain ⟨vm', X', st⟩ := X.thenCaughtThrough q (g := F0 m pc ls rest) rfl (Steps.refl _) (by rw [hT]; exact hcell) (by rw [hv]; rfl) (by obtain ⟨k9, h9, -⟩ := Vm.findClass_spec hcl; exact ⟨k9, h9⟩) pre x suf hsplit
    (fun z hz => by
      rcases hpass z hz with h | ⟨hz0, nm, hl1, hn1⟩
      · exact Or.inl h
      · obtain ⟨c6, hc6, hcl6⟩ := Cond.classLink_spec hown hl1 e.platform hpl
        obtain ⟨a8, b8, h1, h2, h3⟩ := hn1
        cases Option.some.inj (h1.symm.trans hcl)
        cases Option.some.inj (h2.symm.trans hc6)
        exact Or.inr ⟨hz0, _, hcl6, h3⟩) hx (Or.inr ⟨h0, c4, hcl5, hasg⟩)
  obtain ⟨t, a1, b1⟩ := kk (T.setVm vm') hT X'
  exact ⟨t, st.trans a1, b1⟩
end Rows
section Ends
variable {p : Program} {l : Launch} {e : Env} {R : Room} {s : State} {m : MethodId} {args : Array Value} {below : List Frame} {meth : Method} {c : Code} {H : Heap} {locs : List Loc} {cells slots : Nat} {Q : State → Prop}
variable {mc ms : Nat} {free : Addr → Prop} {A0 A1 : Nat → Prop} {H0 : Heap} {a : Array Value} {ls : Array Slot} {st0 rest : List Value}
variable {Qc : Array Value → State → Outcome → State → Prop} {XC : String → State → State → Prop}
/-- what a body that may throw owes at its end -/
def vx_MQ (below : List Frame) (Qc : Array Value → State → Outcome → State → Prop) (XC : String → State → State → Prop) (a : Array Value) (s : State) (mc ms : Nat) (free : Addr → Prop) : State → Prop := fun t =>
  ∃ o, t.status = .running ∧ Ended t below o ∧ vx_Q Qc XC mc ms free a s o t
theorem vx_ret {g : JFrame} {mc ms : Nat} (k : W p l e R s m args below meth c H locs cells slots (MQ below Qc args s mc ms free) g) : W p l e R s m args below meth c H locs cells slots (vx_MQ below Qc XC args s mc ms free) g := by
  intro T hT X
  obtain ⟨t, a1, o, b1, b2, b3, b4⟩ := k T hT X
  exact ⟨t, a1, o, b1, b2, Or.inl ⟨b3, b4⟩⟩
/-- not caught here: it goes on to the caller -/
theorem vx_widen {g : JFrame} {q : Addr} {k n : Nat} (h1 : cells ≤ k) (h2 : slots ≤ n) (kk : vx_W p l e R s m args below meth c H locs k n Q g q) : vx_W p l e R s m args below meth c H locs cells slots Q g q := fun T hT X => kk T hT (stand_widen X h1 h2)
theorem vx_out {pc : Nat} {E : String} {ce : Cell} {q : Addr} {mc ms : Nat} (hout : ∀ x ∈ c.exceptionTable.toList, covers x pc = false) (hlocks : meth.locks = false) (hcell : H[q]? = some ce) (hv : ce.vm = .none) (hcl : s.vm.findClass E = some ce.cls)
    (hx : ∀ t : State, t.heap = H → s.vm.Alike t.vm → XC E s t) (hf : ∀ z ∈ locs, free z.base) (hc : cells ≤ mc) (hs : slots ≤ ms) :
    vx_W p l e R s m args below meth c H locs cells slots (vx_MQ below Qc XC args s mc ms free) (F0 m pc ls rest) q := by
  intro T hT X
  obtain ⟨st1, hrun, hend, hW, hsm⟩ := X.leaveThrown q (g := F0 m pc ls rest) rfl rfl rfl hout hlocks
  have hcell9 : (T.setFrames (.throwing q :: below)).heap[q]? = some ce := by
    show T.heap[q]? = some ce
    rw [hT]; exact hcell
  exact ⟨_, st1, .threw q, hrun, hend, Or.inr ⟨q, rfl, E, ce, locs, hx _ hT hW.alike, hcell9, hv, hcl, hW, hsm.mono hc hs, hf⟩⟩
theorem vx_frame {U : State} {k n : Nat} (h : s.sameButNew ({ U with vm := s.vm } : State) locs k n) : s.heap.size ≤ U.heap.size ∧ ∀ q : Nat, q < s.heap.size → (∀ z ∈ locs, z.base ≠ q) → U.heap[q]? = s.heap[q]? := by
  obtain ⟨-, h2, -, -, -, h6⟩ := h
  refine ⟨h2, fun q hq hz => ?_⟩
  obtain ⟨c9, e1, e2, e3, e4⟩ := h6 q _ (Array.getElem?_eq_getElem hq)
  have hs : c9.slots = (s.heap[q]).slots := Array.ext_getElem? fun i => e4 i fun hm => hz _ hm rfl
  have h9 : c9 = s.heap[q] := by
    rw [hs] at e2
    exact e2
  have e5 : U.heap[q]? = some c9 := e1
  rw [e5, h9, Array.getElem?_eq_getElem hq]
/-- the words of a throw but the four that speak of the heap -/
def vx_no (w : Cond) : Bool := decide (w ≠ .isRef (.static Bundle.tN "UNASSIGNED_STACK" Bundle.steD)) && decide (w ≠ .isRef (.static Bundle.tN "SUPPRESSED_SENTINEL" Bundle.listD)) && decide (w ≠ .laysStatic Bundle.tN "UNASSIGNED_STACK" Bundle.steD) && decide (w ≠ .laysStatic Bundle.tN "SUPPRESSED_SENTINEL" Bundle.listD)
def vx_at0 (own : String) (ic : Nat) (X : String) (names : List String) : List Cond := (Bundle.ownAtoms0 own ic X names).filter vx_no
def vx_atS (own : String) (ic : Nat) (X : String) (names : List String) : List Cond := (Bundle.ownAtoms own ic X names).filter vx_no
/-- a word that the tables alone decide, or a good one -/
def vx_ot (w : Cond) : Bool := w.onTables || goodWord w
theorem vx_ot_at {args a' : Array Value} {s U : State} {w : Cond} (hW : s.WarmedH U.vm) (hvm : s.vm = U.vm) (hg : vx_ot w = true) (h : w.before args s = true) : w.before a' U = true := by
  simp only [vx_ot, Bool.or_eq_true] at hg
  rcases hg with hg | hg
  · exact va_tabs hg hvm h
  · exact word_at hW (good_of_word hg) h
/-- a list's words: the good ones out of the method's own list, the others by premises of their own -/
theorem vx_hat {args : Array Value} {s : State} {L B : List Cond} (h1 : ∀ w ∈ L.filter goodWord, w.before args s = true) (h2 : ∀ w ∈ L.filter (fun w => !goodWord w), w ∈ B) (h3 : ∀ w ∈ B, w.before args s = true) : ∀ w ∈ L, w.before args s = true := by
  intro w hw
  by_cases g : goodWord w = true
  · exact h1 w (List.mem_filter.mpr ⟨hw, g⟩)
  · refine h3 w (h2 w (List.mem_filter.mpr ⟨hw, ?_⟩))
    show (!goodWord w) = true
    cases hgw : goodWord w
    · rfl
    · exact absurd hgw g
theorem vx_c {args : Array Value} {s : State} {w : Cond} {B : List Cond} (h : w.before args s = true) (t : ∀ w ∈ B, w.before args s = true) : ∀ w' ∈ w :: B, w'.before args s = true := fun w' h' => (List.mem_cons.mp h').elim (fun e => by rw [e]; exact h) (t w')
theorem vx_n {args : Array Value} {s : State} : ∀ w ∈ ([] : List Cond), w.before args s = true := fun _ h => nomatch h
theorem vx_own {args : Array Value} {s : State} {L : List Cond} (h1 : ∀ w ∈ L.filter vx_no, w.before args s = true)
    (hU : (Cond.isRef (.static Bundle.tN "UNASSIGNED_STACK" Bundle.steD)).before args s = true) (hN : (Cond.isRef (.static Bundle.tN "SUPPRESSED_SENTINEL" Bundle.listD)).before args s = true)
    (lU : (Cond.laysStatic Bundle.tN "UNASSIGNED_STACK" Bundle.steD).before args s = true) (lN : (Cond.laysStatic Bundle.tN "SUPPRESSED_SENTINEL" Bundle.listD).before args s = true) : ∀ w ∈ L, w.before args s = true := by
  intro w hw
  by_cases e1 : w = .isRef (.static Bundle.tN "UNASSIGNED_STACK" Bundle.steD)
  · rw [e1]; exact hU
  · by_cases e2 : w = .isRef (.static Bundle.tN "SUPPRESSED_SENTINEL" Bundle.listD)
    · rw [e2]; exact hN
    · by_cases e3 : w = .laysStatic Bundle.tN "UNASSIGNED_STACK" Bundle.steD
      · rw [e3]; exact lU
      · by_cases e4 : w = .laysStatic Bundle.tN "SUPPRESSED_SENTINEL" Bundle.listD
        · rw [e4]; exact lN
        · exact h1 w (List.mem_filter.mpr ⟨hw, by unfold vx_no; rw [decide_eq_true e1, decide_eq_true e2, decide_eq_true e3, decide_eq_true e4]; rfl⟩)
/-- where a static field lies, its class's statics cell in H -/
def vx_L (C n d : String) (A : Nat → Prop) (U : State) (H : Heap) : Prop := ∃ (c : ClassId) (k : Class) (i : Nat) (f : Field) (a : Nat) (cell : Cell), U.vm.findClass C = some c ∧ U.fieldFound? C n d = some (c, k, i, f) ∧ f.isStatic = true ∧ k.statics = some a ∧ H[a]? = some cell ∧ cell.vm.isStatics = true ∧ cell.cls = c ∧ f.slot < cell.slots.size ∧ k.staticTypes[f.slot]? = some f.type ∧ ¬ A a
theorem vx_L.moved {C n d : String} {A : Nat → Prop} {u U : State} {H : Heap} (hvm : u.vm.Alike U.vm) (h : vx_L C n d A u H) : vx_L C n d A U H := by
  obtain ⟨c, k, i, f, a, cell, h1, h2, h3, h4, h5, h6, h7, h8, h9, h10⟩ := h
  obtain ⟨k', hi', he⟩ := State.fieldFound?_setVm hvm h2
  exact ⟨c, k', i, f, a, cell, by rw [hvm.findClass]; exact h1, hi', h3, by rw [he]; exact h4, h5, h6, h7, h8, by rw [he]; exact h9, h10⟩
theorem vx_L.kept {C n d : String} {A : Nat → Prop} {U : State} {H H1 : Heap} (h : vx_L C n d A U H) (hq : ∀ a : Nat, a < H.size → ¬ A a → H1[a]? = H[a]?) : vx_L C n d A U H1 := by
  obtain ⟨c, k, i, f, a, cell, h1, h2, h3, h4, h5, h6, h7, h8, h9, h10⟩ := h
  exact ⟨c, k, i, f, a, cell, h1, h2, h3, h4, by rw [hq a (Array.getElem?_eq_some_iff.mp h5).1 h10]; exact h5, h6, h7, h8, h9, h10⟩
theorem vx_L.narrow {C n d : String} {A B : Nat → Prop} {U : State} {H : Heap} (h : vx_L C n d A U H) (hAB : ∀ q, B q → A q) : vx_L C n d B U H := by
  obtain ⟨c, k, i, f, a, cell, h1, h2, h3, h4, h5, h6, h7, h8, h9, h10⟩ := h
  exact ⟨c, k, i, f, a, cell, h1, h2, h3, h4, h5, h6, h7, h8, h9, fun z => h10 (hAB _ z)⟩
theorem vx_L.word {C n d : String} {A : Nat → Prop} {s : State} {args : Array Value} (h : vx_L C n d A s s.heap) : (Cond.laysStatic C n d).before args s = true := by
  obtain ⟨c, k, i, f, a, cell, h1, h2, h3, h4, h5, h6, h7, h8, h9, -⟩ := h
  show (Cond.laysStatic C n d).holds args s none s [] = true
  exact Cond.laysStatic_of h1 h2 h3 h4 h5 h6 h7 h8 h9
/-- .. and what it holds: null or some reference -/
def vx_Zq (C n d : String) (A : Nat → Prop) (U : State) (H : Heap) : Prop := va_Zq C n d A U H ∧ vx_L C n d A U H
theorem vx_Zq.moved {C n d : String} {A : Nat → Prop} {u U : State} {H : Heap} (hvm : u.vm.Alike U.vm) (h : vx_Zq C n d A u H) : vx_Zq C n d A U H := ⟨va_Zq.moved hvm h.1, vx_L.moved hvm h.2⟩
theorem vx_Zq.kept {C n d : String} {A : Nat → Prop} {U : State} {H H1 : Heap} (h : vx_Zq C n d A U H) (hq : ∀ a : Nat, a < H.size → ¬ A a → H1[a]? = H[a]?) : vx_Zq C n d A U H1 := ⟨va_Zq.kept h.1 hq, vx_L.kept h.2 hq⟩
theorem vx_Zq.narrow {C n d : String} {A B : Nat → Prop} {U : State} {H : Heap} (h : vx_Zq C n d A U H) (hAB : ∀ q, B q → A q) : vx_Zq C n d B U H := ⟨va_Zq.narrow h.1 hAB, vx_L.narrow h.2 hAB⟩
theorem vx_Zqof {args : Array Value} {s : State} {C n d : String} {A : Nat → Prop} (hl : (Cond.laysStatic C n d).before args s = true) (hini : (Cond.initialized C).before args s = true) (h : (Cond.isRef (.static C n d)).before args s = true) (hA : ∀ a : Nat, a < s.heap.size → ¬ A a) : vx_Zq C n d A s s.heap := by
  refine ⟨va_Zqof hl hini h hA, ?_⟩
  obtain ⟨c, k, i, f, a, cell, h1, h2, h3, h4, h5, h6, h7, h8, h9⟩ := Cond.laysStatic_spec hl
  exact ⟨c, k, i, f, a, cell, h1, h2, h3, h4, h5, h6, h7, h8, h9, hA a (Array.getElem?_eq_some_iff.mp h5).1⟩
theorem vx_isRef {C n d : String} {v : Value} {A : Nat → Prop} {s : State} {args : Array Value} (h : va_Z C n d v A s s.heap) (hv : v.isRef = true) : (Cond.isRef (.static C n d)).before args s = true := by
  obtain ⟨cf, kf, fi, f, a, cell, h1, h2, h3, h4, h5, h6, h7, -⟩ := h
  have he : (Term.static C n d).eval args s none [] s = some v := by
    simp [Term.eval, State.fieldNamed?, h1, h2, h4, h5, h6, h7]
  simp only [Cond.before, Cond.holds, Cond.value, he]
  cases v <;> simp_all [Value.isRef]
theorem vx_isRefq {C n d : String} {A : Nat → Prop} {s : State} {args : Array Value} (h : va_Zq C n d A s s.heap) : (Cond.isRef (.static C n d)).before args s = true := by
  rcases h with h | ⟨t, h⟩
  · exact vx_isRef h rfl
  · exact vx_isRef h rfl
/-- the same frame, seen from here: as if the method were called anew in this heap -/
theorem vx_rebase {T : State} (X : Stand p l e R s m args below meth c T locs cells slots) {R' : Room} (hf : R'.frames ≤ R.frames) (hl : R'.locals ≤ R.locals) (hc : cells + R'.cells ≤ R.cells) (hs : slots + R'.slots ≤ R.slots) :
    Stand p l e R' ((T.setVm s.vm).setFrames (.invoking m args :: below)) m args below meth c T [] 0 0 := by
  have htop : (T.setVm s.vm).topJava?.isSome := X.here.top
  have hF : ((T.setVm s.vm).setFrames (.invoking m args :: below)).frames = .invoking m args :: below := State.frames_setFrames _ (State.cur_lt_of_top htop)
  obtain ⟨g₀, hg0⟩ := Option.isSome_iff_exists.mp htop
  obtain ⟨r, hr⟩ := State.topJava?_eq_some.mp hg0
  have hl9 : e.platform.stackLimits (T.setVm s.vm).me = e.platform.stackLimits s.me := X.limits
  have hb9 : (T.setVm s.vm).me.stackBytes = s.me.stackBytes := X.bytes
  refine ⟨X.admits, X.cas, X.clock, hF, ?_, X.hears, X.method, X.code, X.here, X.tail, X.warmed, ?_, ?_, ?_⟩
  · have h := X.room
    have hU : ((T.setVm s.vm).setFrames (.invoking m args :: below)).localsInUse = s.localsInUse := by
      rw [State.localsInUse_invoking hF (meth := meth) (c := c) X.method X.code, State.localsInUse_invoking X.frames X.method X.code]
    simp only [State.hasRoom, Bool.and_eq_true, decide_eq_true_eq] at h ⊢
    obtain ⟨⟨⟨⟨h1, h2, h3, h4, h5, h6⟩, h7⟩, h8⟩, h9⟩ := h
    rw [X.frames, List.length_cons] at h2 h3
    have q1 := X.heapSize
    have q2 := X.used
    simp only [hF, hU, List.length_cons, State.stackLimits_setFrames, State.stackBytes_setFrames, hl9, hb9]
    refine ⟨⟨⟨⟨by omega, by omega, by omega, by omega, by omega, h6⟩, ?_⟩, ?_⟩, X.book⟩
    · show T.heap.size + R'.cells ≤ e.platform.maxCells
      omega
    · show T.slotsUsed + R'.slots ≤ e.platform.maxSlots
      omega
  · rw [State.stackLimits_setFrames]; rfl
  · rw [State.stackBytes_setFrames]; rfl
  · refine ⟨?_, Nat.le_refl _, Nat.le_refl _, ?_, ?_, fun a c9 h9 => ⟨c9, h9, rfl, rfl, fun _ _ => rfl⟩⟩
    · obtain ⟨t, ht, -⟩ := State.frames_cons hr
      show T.setVm s.vm = { ((T.setVm s.vm).setFrames (.invoking m args :: below)).setFrames (T.setVm s.vm).frames with heap := T.heap, slotsUsed := T.slotsUsed }
      rw [State.setFrames_setFrames, State.setFrames_self ht]
      rfl
    · show T.slotsUsed = T.slotsUsed + ((T.heap.toList.drop T.heap.size).map (·.slots.size)).sum
      rw [List.drop_eq_nil_of_le (Nat.le_of_eq Array.length_toList)]
      rfl
    · show ((T.heap.toList.drop T.heap.size).map (·.slots.size)).sum ≤ 0
      rw [List.drop_eq_nil_of_le (Nat.le_of_eq Array.length_toList)]
      exact Nat.le_refl _
/-- 'throw new E()': new; dup; invokespecial; athrow -/
theorem vx_throw0 {cc : ByteArray} {pc : Nat} (hexec : p.tables.exec = Jvm.exec) (hb : c.code = cc) (hl : l.stackTraces = false) {own cls : String} {names : List String} {ik ic mc ms : Nat} {A : Nat → Prop}
    (hown : s.vm.findClass own = some m.cls) (hcls : Bundle.fit cls = true) (hnames : ∀ n ∈ names, Bundle.fit n = true)
    (hk : (Cond.classLink own ik cls).before args s = true) (hini : (Cond.initialized cls).before args s = true) (hat : ∀ w ∈ vx_at0 own ic cls names, w.before args s = true)
    (hgood : ∀ w ∈ Cond.classLink own ik cls :: Cond.initialized cls :: vx_at0 own ic cls names, vx_ot w = true)
    (hU : vx_Zq Bundle.tN "UNASSIGNED_STACK" Bundle.steD A s s.heap) (hN : vx_Zq Bundle.tN "SUPPRESSED_SENTINEL" Bundle.listD A s s.heap) (hS : va_S A s.heap H locs) (hsize : ls.size = c.maxLocals)
    (d0 : decode cc pc = .ok (.new ik, 3)) (d3 : decode cc (pc + 3) = .ok (.dup, 1)) (d4 : decode cc (pc + 4) = .ok (.invokespecial ic, 3)) (d7 : decode cc (pc + 7) = .ok (.athrow, 1))
    (hout : ∀ x ∈ c.exceptionTable.toList, covers x (pc + 7) = false)
    (hRframes : names.length + 3 < R.frames) (hRlocals : (rest.map fun v => v.category).sum + (13 * (names.length + 1) + 42) ≤ R.locals) (hRcells : cells + 1 ≤ R.cells) (hRslots : slots + 6 ≤ R.slots) (hlocks : meth.locks = false)
    (hx : ∀ t : State, s.vm.Alike t.vm → H.size ≤ t.heap.size → (∀ q : Nat, q < H.size → t.heap[q]? = H[q]?) → XC cls s t)
    (hf : ∀ z ∈ locs, free z.base) (hc : cells + 1 ≤ mc) (hs : slots + 6 ≤ ms) :
    W p l e R s m args below meth c H locs cells slots (vx_MQ below Qc XC args s mc ms free) (F0 m pc ls rest) := by
  intro T hT X
  have htr : e.platform.stackTraces = false := (show e.platform.stackTraces = l.stackTraces by rw [X.admits.platform]).trans hl
  have Y := vx_rebase X (R' := { frames := R.frames, locals := R.locals, cells := 1, slots := 6 }) (Nat.le_refl _) (Nat.le_refl _) hRcells hRslots
  obtain ⟨s', hA⟩ : ∃ z, z = (T.setVm s.vm).setFrames (.invoking m args :: below) := ⟨_, rfl⟩
  rw [← hA] at Y
  have hvm : s'.vm = s.vm := by rw [hA]; rfl
  have hhp : s'.heap = H := by rw [hA]; exact hT
  have hW0 : s.WarmedH s'.vm := by rw [hvm]; exact State.WarmedH.refl s
  have hat' : ∀ w ∈ vx_at0 own ic cls names, w.before args s' = true := fun w hw => vx_ot_at hW0 hvm.symm (hgood w (List.mem_cons_of_mem _ (List.mem_cons_of_mem _ hw))) (hat w hw)
  have hk' : (Cond.classLink own ik cls).before args s' = true := vx_ot_at hW0 hvm.symm (hgood _ List.mem_cons_self) hk
  have hini' : (Cond.initialized cls).before args s' = true := vx_ot_at hW0 hvm.symm (hgood _ (List.mem_cons_of_mem _ List.mem_cons_self)) hini
  have hU' : vx_Zq Bundle.tN "UNASSIGNED_STACK" Bundle.steD A s' s'.heap := by rw [hhp]; exact vx_Zq.moved hW0.alike (hU.kept hS.2.1)
  have hN' : vx_Zq Bundle.tN "SUPPRESSED_SENTINEL" Bundle.listD A s' s'.heap := by rw [hhp]; exact vx_Zq.moved hW0.alike (hN.kept hS.2.1)
  have h : ∀ w ∈ Bundle.ownAtoms0 own ic cls names, w.before args s' = true := vx_own hat' (vx_isRefq hU'.1) (vx_isRefq hN'.1) hU'.2.word hN'.2.word
  have hown' : s'.vm.findClass own = some m.cls := by rw [hvm]; exact hown
  have hins : (Cond.instantiable cls 6).before args s' = true := h _ (by simp [Bundle.ownAtoms0])
  obtain ⟨vm₁, cX, kX, hfX, hkX, -, -, X₁, st1⟩ := Y.newCold hexec (own := own) (C := cls) (index := ik) (n := 6) hown' hk' hins hini'
    (g := F0 m pc ls rest) rfl (by rw [hb]; exact d0) (Nat.le_refl _) (Nat.le_refl _)
  generalize hT1 : (T.setVm vm₁).pushCell { cls := cX, slots := kX.instanceTypes.map defaultValue, vm := .none } = T1 at X₁ st1
  have hcat : (Value.ref T.heap.size).category = 1 := rfl
  have hcellA : T1.heap[T.heap.size]? = some (freshCell cX kX) := by rw [← hT1]; exact State.heap_pushCell_size _ _
  have d3' : decode c.code (pc + 3) = .ok (.dup, 1) := by rw [hb]; exact d3
  obtain ⟨U, hsteps, hrun, hend, hW, hsame, ce, hce, hO⟩ := X₁.ctorThrow0 hexec htr (own := own) (cls := cls) (names := names) (ic := ic) hown' hcls hnames h (fun x hx => nomatch hx) hfX hkX hcellA (by rw [hhp, hT]; exact Nat.le_refl _)
    (g := { method := m, pc := pc + 4, locals := ls, stack := .ref T.heap.size :: .ref T.heap.size :: rest, locked := none }) rfl hsize rfl rfl (rest := rest) rfl
    (by rw [hb]; exact d4) (by rw [hb]; exact d7) hout hRframes (by simp only [List.map_cons, List.sum_cons, hcat]; omega) hlocks
  obtain ⟨f1, f2⟩ := vx_frame hsame
  rw [hhp] at f1 f2
  have hWs : s.WarmedH U.vm := State.WarmedH.trans hW0 hW
  have hcl : s.vm.findClass cls = some ce.cls := by
    have h9 := hO.cls
    rw [hvm] at h9
    exact h9
  have hall : s.sameButNew ({ U with vm := s.vm } : State) locs mc ms := by
    subst hA
    obtain ⟨e1, e2⟩ := hsame
    rw [State.setFrames_setFrames] at e1
    have h2 : (T.setVm s.vm).sameButNew ({ U with vm := s.vm } : State) [] (0 + 1) (0 + 6) := ⟨e1, e2⟩
    have h3 := X.same.trans h2
    rw [List.append_nil] at h3
    exact h3.mono hc hs
  refine ⟨U, ?_, .threw T.heap.size, hrun, hend, Or.inr ⟨T.heap.size, rfl, cls, ce, locs, hx U hWs.alike f1 (fun q hq => f2 q hq (fun z hz => nomatch hz)), hce, hO.vm, hcl, hWs, hall, hf⟩⟩
  refine st1 _ ?_
  show Steps p.tables e below (T1.setTop { method := m, pc := pc + 3, locals := ls, stack := .ref T.heap.size :: rest, locked := none }) _
  jvm_step X₁.here [X₁.here.top, hexec, d3', Value.category]
  exact hsteps
/-- 'throw new E("text")': new; dup; ldc; invokespecial; athrow -/
theorem vx_throwS {cc : ByteArray} {pc : Nat} (hexec : p.tables.exec = Jvm.exec) (hb : c.code = cc) (hl : l.stackTraces = false) {own cls text : String} {names : List String} {ik is ic mc ms sa : Nat} {A : Nat → Prop}
    (hown : s.vm.findClass own = some m.cls) (hcls : Bundle.fit cls = true) (hnames : ∀ n ∈ names, Bundle.fit n = true)
    (hk : (Cond.classLink own ik cls).before args s = true) (hini : (Cond.initialized cls).before args s = true) (hstr : vk_R own is text sa s) (hat : ∀ w ∈ vx_atS own ic cls names, w.before args s = true)
    (hgood : ∀ w ∈ Cond.classLink own ik cls :: Cond.initialized cls :: vx_atS own ic cls names, vx_ot w = true)
    (hU : vx_Zq Bundle.tN "UNASSIGNED_STACK" Bundle.steD A s s.heap) (hN : vx_Zq Bundle.tN "SUPPRESSED_SENTINEL" Bundle.listD A s s.heap) (hS : va_S A s.heap H locs) (hsize : ls.size = c.maxLocals)
    (d0 : decode cc pc = .ok (.new ik, 3)) (d3 : decode cc (pc + 3) = .ok (.dup, 1)) (d4 : decode cc (pc + 4) = .ok (.ldc is, 2)) (d6 : decode cc (pc + 6) = .ok (.invokespecial ic, 3)) (d9 : decode cc (pc + 9) = .ok (.athrow, 1))
    (hout : ∀ x ∈ c.exceptionTable.toList, covers x (pc + 9) = false)
    (hRframes : names.length + 3 < R.frames) (hRlocals : (rest.map fun v => v.category).sum + (13 * (names.length + 1) + 43) ≤ R.locals) (hRcells : cells + 1 ≤ R.cells) (hRslots : slots + 6 ≤ R.slots) (hlocks : meth.locks = false)
    (hx : ∀ t : State, s.vm.Alike t.vm → H.size ≤ t.heap.size → (∀ q : Nat, q < H.size → t.heap[q]? = H[q]?) → XC cls s t)
    (hf : ∀ z ∈ locs, free z.base) (hc : cells + 1 ≤ mc) (hs : slots + 6 ≤ ms) :
    W p l e R s m args below meth c H locs cells slots (vx_MQ below Qc XC args s mc ms free) (F0 m pc ls rest) := by
  intro T hT X
  have htr : e.platform.stackTraces = false := (show e.platform.stackTraces = l.stackTraces by rw [X.admits.platform]).trans hl
  have Y := vx_rebase X (R' := { frames := R.frames, locals := R.locals, cells := 1, slots := 6 }) (Nat.le_refl _) (Nat.le_refl _) hRcells hRslots
  obtain ⟨s', hA⟩ : ∃ z, z = (T.setVm s.vm).setFrames (.invoking m args :: below) := ⟨_, rfl⟩
  rw [← hA] at Y
  have hvm : s'.vm = s.vm := by rw [hA]; rfl
  have hhp : s'.heap = H := by rw [hA]; exact hT
  have hW0 : s.WarmedH s'.vm := by rw [hvm]; exact State.WarmedH.refl s
  have hat' : ∀ w ∈ vx_atS own ic cls names, w.before args s' = true := fun w hw => vx_ot_at hW0 hvm.symm (hgood w (List.mem_cons_of_mem _ (List.mem_cons_of_mem _ hw))) (hat w hw)
  have hk' : (Cond.classLink own ik cls).before args s' = true := vx_ot_at hW0 hvm.symm (hgood _ List.mem_cons_self) hk
  have hini' : (Cond.initialized cls).before args s' = true := vx_ot_at hW0 hvm.symm (hgood _ (List.mem_cons_of_mem _ List.mem_cons_self)) hini
  have hU' : vx_Zq Bundle.tN "UNASSIGNED_STACK" Bundle.steD A s' s'.heap := by rw [hhp]; exact vx_Zq.moved hW0.alike (hU.kept hS.2.1)
  have hN' : vx_Zq Bundle.tN "SUPPRESSED_SENTINEL" Bundle.listD A s' s'.heap := by rw [hhp]; exact vx_Zq.moved hW0.alike (hN.kept hS.2.1)
  have h : ∀ w ∈ Bundle.ownAtoms own ic cls names, w.before args s' = true := vx_own hat' (vx_isRefq hU'.1) (vx_isRefq hN'.1) hU'.2.word hN'.2.word
  have hown' : s'.vm.findClass own = some m.cls := by rw [hvm]; exact hown
  have hins : (Cond.instantiable cls 6).before args s' = true := h _ (by simp [Bundle.ownAtoms])
  obtain ⟨vm₁, cX, kX, hfX, hkX, -, -, X₁, st1⟩ := Y.newCold hexec (own := own) (C := cls) (index := ik) (n := 6) hown' hk' hins hini'
    (g := F0 m pc ls rest) rfl (by rw [hb]; exact d0) (Nat.le_refl _) (Nat.le_refl _)
  generalize hT1 : (T.setVm vm₁).pushCell { cls := cX, slots := kX.instanceTypes.map defaultValue, vm := .none } = T1 at X₁ st1
  have hcat : (Value.ref T.heap.size).category = 1 := rfl
  have hcellA : T1.heap[T.heap.size]? = some (freshCell cX kX) := by rw [← hT1]; exact State.heap_pushCell_size _ _
  have d3' : decode c.code (pc + 3) = .ok (.dup, 1) := by rw [hb]; exact d3
  have d4' : decode c.code (pc + 4) = .ok (.ldc is, 2) := by rw [hb]; exact d4
  have hstr' : vk_R own is text sa s' := vk_R.warm hW0 hstr
  obtain ⟨U, hsteps, hrun, hend, hW, hsame, ce, hce, hO⟩ := X₁.ctorThrowS hexec htr (own := own) (cls := cls) (names := names) (ic := ic) hown' hcls hnames h (fun x hx => nomatch hx) hfX hkX hcellA (by rw [hhp, hT]; exact Nat.le_refl _) (msg := .ref sa) rfl
    (g := { method := m, pc := pc + 6, locals := ls, stack := .ref sa :: .ref T.heap.size :: .ref T.heap.size :: rest, locked := none }) rfl hsize rfl rfl (rest := rest) rfl
    (by rw [hb]; exact d6) (by rw [hb]; exact d9) hout hRframes (by simp only [List.map_cons, List.sum_cons, hcat]; omega) hlocks
  obtain ⟨f1, f2⟩ := vx_frame hsame
  rw [hhp] at f1 f2
  have hWs : s.WarmedH U.vm := State.WarmedH.trans hW0 hW
  have hcl : s.vm.findClass cls = some ce.cls := by
    have h9 := hO.cls
    rw [hvm] at h9
    exact h9
  have hall : s.sameButNew ({ U with vm := s.vm } : State) locs mc ms := by
    subst hA
    obtain ⟨e1, e2⟩ := hsame
    rw [State.setFrames_setFrames] at e1
    have h2 : (T.setVm s.vm).sameButNew ({ U with vm := s.vm } : State) [] (0 + 1) (0 + 6) := ⟨e1, e2⟩
    have h3 := X.same.trans h2
    rw [List.append_nil] at h3
    exact h3.mono hc hs
  refine ⟨U, ?_, .threw T.heap.size, hrun, hend, Or.inr ⟨T.heap.size, rfl, cls, ce, locs, hx U hWs.alike f1 (fun q hq => f2 q hq (fun z hz => nomatch hz)), hce, hO.vm, hcl, hWs, hall, hf⟩⟩
  refine st1 _ ?_
  show Steps p.tables e below (T1.setTop { method := m, pc := pc + 3, locals := ls, stack := .ref T.heap.size :: rest, locked := none }) _
  jvm_step X₁.here [X₁.here.top, hexec, d3', Value.category]
  exact X₁.ldcString hexec (own := own) (text := text) (index := is) (a := sa) hown' hstr'.1 hstr'.2
    (g := { method := m, pc := pc + 4, locals := ls, stack := .ref T.heap.size :: .ref T.heap.size :: rest, locked := none }) rfl d4' _ hsteps
/-- 'throw new E("text")', the text by a wide index -/
theorem vx_throwSW {cc : ByteArray} {pc : Nat} (hexec : p.tables.exec = Jvm.exec) (hb : c.code = cc) (hl : l.stackTraces = false) {own cls text : String} {names : List String} {ik is ic mc ms sa : Nat} {A : Nat → Prop}
    (hown : s.vm.findClass own = some m.cls) (hcls : Bundle.fit cls = true) (hnames : ∀ n ∈ names, Bundle.fit n = true)
    (hk : (Cond.classLink own ik cls).before args s = true) (hini : (Cond.initialized cls).before args s = true) (hstr : vk_R own is text sa s) (hat : ∀ w ∈ vx_atS own ic cls names, w.before args s = true)
    (hgood : ∀ w ∈ Cond.classLink own ik cls :: Cond.initialized cls :: vx_atS own ic cls names, vx_ot w = true)
    (hU : vx_Zq Bundle.tN "UNASSIGNED_STACK" Bundle.steD A s s.heap) (hN : vx_Zq Bundle.tN "SUPPRESSED_SENTINEL" Bundle.listD A s s.heap) (hS : va_S A s.heap H locs) (hsize : ls.size = c.maxLocals)
    (d0 : decode cc pc = .ok (.new ik, 3)) (d3 : decode cc (pc + 3) = .ok (.dup, 1)) (d4 : decode cc (pc + 4) = .ok (.ldc_w is, 3)) (d7 : decode cc (pc + 7) = .ok (.invokespecial ic, 3)) (d10 : decode cc (pc + 10) = .ok (.athrow, 1))
    (hout : ∀ x ∈ c.exceptionTable.toList, covers x (pc + 10) = false)
    (hRframes : names.length + 3 < R.frames) (hRlocals : (rest.map fun v => v.category).sum + (13 * (names.length + 1) + 43) ≤ R.locals) (hRcells : cells + 1 ≤ R.cells) (hRslots : slots + 6 ≤ R.slots) (hlocks : meth.locks = false)
    (hx : ∀ t : State, s.vm.Alike t.vm → H.size ≤ t.heap.size → (∀ q : Nat, q < H.size → t.heap[q]? = H[q]?) → XC cls s t)
    (hf : ∀ z ∈ locs, free z.base) (hc : cells + 1 ≤ mc) (hs : slots + 6 ≤ ms) :
    W p l e R s m args below meth c H locs cells slots (vx_MQ below Qc XC args s mc ms free) (F0 m pc ls rest) := by
  intro T hT X
  have htr : e.platform.stackTraces = false := (show e.platform.stackTraces = l.stackTraces by rw [X.admits.platform]).trans hl
  have Y := vx_rebase X (R' := { frames := R.frames, locals := R.locals, cells := 1, slots := 6 }) (Nat.le_refl _) (Nat.le_refl _) hRcells hRslots
  obtain ⟨s', hA⟩ : ∃ z, z = (T.setVm s.vm).setFrames (.invoking m args :: below) := ⟨_, rfl⟩
  rw [← hA] at Y
  have hvm : s'.vm = s.vm := by rw [hA]; rfl
  have hhp : s'.heap = H := by rw [hA]; exact hT
  have hW0 : s.WarmedH s'.vm := by rw [hvm]; exact State.WarmedH.refl s
  have hat' : ∀ w ∈ vx_atS own ic cls names, w.before args s' = true := fun w hw => vx_ot_at hW0 hvm.symm (hgood w (List.mem_cons_of_mem _ (List.mem_cons_of_mem _ hw))) (hat w hw)
  have hk' : (Cond.classLink own ik cls).before args s' = true := vx_ot_at hW0 hvm.symm (hgood _ List.mem_cons_self) hk
  have hini' : (Cond.initialized cls).before args s' = true := vx_ot_at hW0 hvm.symm (hgood _ (List.mem_cons_of_mem _ List.mem_cons_self)) hini
  have hU' : vx_Zq Bundle.tN "UNASSIGNED_STACK" Bundle.steD A s' s'.heap := by rw [hhp]; exact vx_Zq.moved hW0.alike (hU.kept hS.2.1)
  have hN' : vx_Zq Bundle.tN "SUPPRESSED_SENTINEL" Bundle.listD A s' s'.heap := by rw [hhp]; exact vx_Zq.moved hW0.alike (hN.kept hS.2.1)
  have h : ∀ w ∈ Bundle.ownAtoms own ic cls names, w.before args s' = true := vx_own hat' (vx_isRefq hU'.1) (vx_isRefq hN'.1) hU'.2.word hN'.2.word
  have hown' : s'.vm.findClass own = some m.cls := by rw [hvm]; exact hown
  have hins : (Cond.instantiable cls 6).before args s' = true := h _ (by simp [Bundle.ownAtoms])
  obtain ⟨vm₁, cX, kX, hfX, hkX, -, -, X₁, st1⟩ := Y.newCold hexec (own := own) (C := cls) (index := ik) (n := 6) hown' hk' hins hini'
    (g := F0 m pc ls rest) rfl (by rw [hb]; exact d0) (Nat.le_refl _) (Nat.le_refl _)
  generalize hT1 : (T.setVm vm₁).pushCell { cls := cX, slots := kX.instanceTypes.map defaultValue, vm := .none } = T1 at X₁ st1
  have hcat : (Value.ref T.heap.size).category = 1 := rfl
  have hcellA : T1.heap[T.heap.size]? = some (freshCell cX kX) := by rw [← hT1]; exact State.heap_pushCell_size _ _
  have d3' : decode c.code (pc + 3) = .ok (.dup, 1) := by rw [hb]; exact d3
  have d4' : decode c.code (pc + 4) = .ok (.ldc_w is, 3) := by rw [hb]; exact d4
  have hstr' : vk_R own is text sa s' := vk_R.warm hW0 hstr
  obtain ⟨U, hsteps, hrun, hend, hW, hsame, ce, hce, hO⟩ := X₁.ctorThrowS hexec htr (own := own) (cls := cls) (names := names) (ic := ic) hown' hcls hnames h (fun x hx => nomatch hx) hfX hkX hcellA (by rw [hhp, hT]; exact Nat.le_refl _) (msg := .ref sa) rfl
    (g := { method := m, pc := pc + 7, locals := ls, stack := .ref sa :: .ref T.heap.size :: .ref T.heap.size :: rest, locked := none }) rfl hsize rfl rfl (rest := rest) rfl
    (by rw [hb]; exact d7) (by rw [hb]; exact d10) hout hRframes (by simp only [List.map_cons, List.sum_cons, hcat]; omega) hlocks
  obtain ⟨f1, f2⟩ := vx_frame hsame
  rw [hhp] at f1 f2
  have hWs : s.WarmedH U.vm := State.WarmedH.trans hW0 hW
  have hcl : s.vm.findClass cls = some ce.cls := by
    have h9 := hO.cls
    rw [hvm] at h9
    exact h9
  have hall : s.sameButNew ({ U with vm := s.vm } : State) locs mc ms := by
    subst hA
    obtain ⟨e1, e2⟩ := hsame
    rw [State.setFrames_setFrames] at e1
    have h2 : (T.setVm s.vm).sameButNew ({ U with vm := s.vm } : State) [] (0 + 1) (0 + 6) := ⟨e1, e2⟩
    have h3 := X.same.trans h2
    rw [List.append_nil] at h3
    exact h3.mono hc hs
  refine ⟨U, ?_, .threw T.heap.size, hrun, hend, Or.inr ⟨T.heap.size, rfl, cls, ce, locs, hx U hWs.alike f1 (fun q hq => f2 q hq (fun z hz => nomatch hz)), hce, hO.vm, hcl, hWs, hall, hf⟩⟩
  refine st1 _ ?_
  show Steps p.tables e below (T1.setTop { method := m, pc := pc + 3, locals := ls, stack := .ref T.heap.size :: rest, locked := none }) _
  jvm_step X₁.here [X₁.here.top, hexec, d3', Value.category]
  exact X₁.ldcStringW hexec (own := own) (text := text) (index := is) (a := sa) hown' hstr'.1 hstr'.2
    (g := { method := m, pc := pc + 4, locals := ls, stack := .ref T.heap.size :: .ref T.heap.size :: rest, locked := none }) rfl d4' _ hsteps
end Ends
section Bodies
variable {l : Launch}
theorem vx_ofW {y : MethodName} {ws ws' : List Cond} {rm : Room} {Pc : Array Value → State → Prop} {Qc : Array Value → State → Outcome → State → Prop} {XC : String → State → State → Prop} {mc ms : Nat} {free : Addr → Prop} {cc : ByteArray} {maxL : Nat} {ret : Option FieldType}
    (hy : plainName y.cls = true) (hw : ws = Cond.code y cc maxL ret :: ws')
    (body : ∀ p e s m args below meth c s₁, BodyLoose p l y (headSpec ws rm) cc maxL ret e s m args below meth c s₁ → c.maxLocals = maxL → (∀ x ∈ c.exceptionTable.toList, False) → Pc args s →
      W p l e (headSpec ws rm).room s m args below meth c s.heap [] 0 0 (vx_MQ below Qc XC args s mc ms free) (entryFrame m args maxL)) : vx_Met l y ws rm Pc Qc XC mc ms free := by
  refine MetFree.of_bodyS (code := cc) (maxLocals := maxL) (ret := ret) hy ?_ ?_
  · intro args s m h hn
    obtain ⟨meth, c, h1, h2, h3, h4, h5, h6, -, -⟩ := Cond.code_spec hn (atoms_spec (ws := ws) h _ (by rw [hw]; exact List.mem_cons_self))
    exact ⟨meth, c, h1, h2, h3, h4, h5, h6⟩
  · intro p e s m args below meth c s₁ B hml hP _
    have hh0 : s₁.heap = s.heap := by rw [B.state]; rfl
    have ht : ∀ x ∈ c.exceptionTable.toList, False := by
      obtain ⟨meth9, c9, h1, h2, -, -, -, -, h7, -⟩ := Cond.code_spec B.named (atoms_spec (ws := ws) B.pre _ (by rw [hw]; exact List.mem_cons_self))
      cases Option.some.inj (h1.symm.trans B.method)
      cases Option.some.inj (h2.symm.trans (Stand.of_body B).code)
      intro x hx
      rw [Array.isEmpty_iff.mp h7] at hx
      cases hx
    obtain ⟨t, a1, o, b1, b2, b3⟩ := body p e s m args below meth c s₁ B hml ht hP s₁ hh0 (Stand.of_body B)
    exact ⟨t, o, a1, b1, b2, b3⟩
/-- the table of a body with handlers -/
theorem vx_table {p : Program} {x y : MethodName} {S : Spec} {cc bytes : ByteArray} {maxL maxL' : Nat} {ret ret' : Option FieldType} {e : Env} {s s₁ : State} {m : MethodId} {args : Array Value} {below : List Frame} {meth : Method} {c : Code} {hh : List (Nat × Nat × Nat × Nat)}
    (B : BodyLoose p l y S cc maxL ret e s m args below meth c s₁) (h : (Cond.codeWith y bytes maxL' ret' hh).before args s = true) : c.exceptionTable.toList = tableOf hh := by
  obtain ⟨m9, meth9, c9, hn9, h1, h2, -, -, h6, -⟩ := Cond.codeWith_spec h
  cases Option.some.inj (hn9.symm.trans B.named)
  cases Option.some.inj (h1.symm.trans B.method)
  cases Option.some.inj (h2.symm.trans (Stand.of_body B).code)
  rw [← h6, table_eq]
end Bodies
end VXA
/-! ===== END ===== -/
/-! ===== BEGIN a static call of a method with an exception table ===== -/
section VXS
variable {p : Program} {l : Launch} {e : Env} {R : Room} {s : State} {m : MethodId} {args : Array Value} {below : List Frame} {meth : Method} {c : Code} {T : State} {H : Heap} {locs : List Loc} {cells slots : Nat}
abbrev vx_CSW (R : Room) (s : State) (args : Array Value) (own : String) (index : Nat) (y : MethodName) (bytes : ByteArray) (maxL : Nat) (ret : Option FieldType) (hh : List (Nat × Nat × Nat × Nat)) (ws : List Cond) (rm : Room) (mc ms n : Nat) : Prop :=
  (rm.cells = mc ∧ rm.slots = ms ∧ rm.frames + 1 ≤ R.frames ∧ 8 + (maxL + 11) + rm.locals ≤ R.locals ∧ (∀ w ∈ ws, ∀ (a' : Array Value) (U : State), s.WarmedH U.vm → w.before a' U = true) ∧ Cond.codeWith y bytes maxL ret hh ∈ ws) ∧
  (Cond.codeWith y bytes maxL ret hh).before args s = true ∧ (Cond.initialized y.cls).before args s = true ∧ (y.cls ≠ "java/lang/invoke/MethodHandle" ∧ y.cls ≠ "java/lang/invoke/VarHandle") ∧
  (∀ sig, parseMethodDescriptor y.desc = some sig → n = sig.parameters.length) ∧ (Cond.methodLink own index y).before args s = true ∧ (Cond.static y).before args s = true
theorem vx_cwSW {own : String} {index maxL mc ms : Nat} {y : MethodName} {bytes : ByteArray} {ret : Option FieldType} {hh : List (Nat × Nat × Nat × Nat)} {Ts ws ws' : List Cond} {rm : Room} (n : Nat) (ht : ∀ w ∈ Ts, w.before args s = true) (hT : GoodIn Ts (va_wsS own index y ws)) (hw : ws = Cond.codeWith y bytes maxL ret hh :: ws') (hrc : rm.cells = mc) (hrs : rm.slots = ms)
    (hd : y.cls ≠ "java/lang/invoke/MethodHandle" ∧ y.cls ≠ "java/lang/invoke/VarHandle" ∧ (parseMethodDescriptor y.desc).map (fun d => d.parameters.length) = some n) (hR : rm.frames + 1 ≤ R.frames ∧ 8 + (maxL + 11) + rm.locals ≤ R.locals) :
    vx_CSW R s args own index y bytes maxL ret hh ws rm mc ms n := by
  have ok : ∀ w ∈ va_wsS own index y ws, w.before args s = true := fun w h => ht w (hT w h).1
  have hG : GoodIn Ts ws := fun w h => hT w (by unfold va_wsS; exact List.mem_append_right _ h)
  have hc : Cond.codeWith y bytes maxL ret hh ∈ ws := by rw [hw]; exact List.mem_cons_self
  refine ⟨⟨hrc, hrs, hR.1, hR.2, pay_in ht hG, hc⟩, ht _ (hG _ hc).1, ok _ (by simp [va_wsS]), ⟨hd.1, hd.2.1⟩, fun sig h => ?_, ok _ (by simp [va_wsS]), ok _ (by simp [va_wsS])⟩
  have h2 := hd.2.2
  rw [h] at h2
  exact (Option.some.inj h2).symm
theorem vx_callSW (X : Stand p l e R s m args below meth c T locs cells slots) (hexec : p.tables.exec = Jvm.exec) {own : String} {index : Nat} {y : MethodName} {bytes : ByteArray} {maxL : Nat} {ret : Option FieldType} {hh : List (Nat × Nat × Nat × Nat)}
    (hown : s.vm.findClass own = some m.cls) (hlink : (Cond.methodLink own index y).before args s = true) (hstat : (Cond.static y).before args s = true) (hinit : (Cond.initialized y.cls).before args s = true)
    (hcode : (Cond.codeWith y bytes maxL ret hh).before args s = true) (hy : y.cls ≠ "java/lang/invoke/MethodHandle" ∧ y.cls ≠ "java/lang/invoke/VarHandle")
    {W9 : Nat} {Pre : Pt → Array Value → Prop} {Post : Pt → Array Value → Option Value → Pt → Prop} (hK : Back l R p e below s args y 3 W9 Pre Post)
    {g : JFrame} (hg : g.method = m) (hsize : g.locals.size = c.maxLocals) {argsL rest : List Value} (hlen : ∀ sig, parseMethodDescriptor y.desc = some sig → argsL.length = sig.parameters.length)
    (hstack : g.stack = argsL.reverse ++ rest) (hW : 2 * g.monitorRoom + (rest.map fun v => v.category).sum ≤ W9) (hdg : decode c.code g.pc = .ok (.invokestatic index, 3))
    (hpre : ∀ vm₁, s.WarmedH vm₁ → Pre ⟨T.setVm vm₁, locs, cells, slots⟩ argsL.toArray) :
    ∃ (v : Option Value) (vm₁ : Vm) (B : Pt), s.WarmedH vm₁ ∧ Stand p l e R s m args below meth c B.U B.locs B.cells B.slots ∧ Post ⟨T.setVm vm₁, locs, cells, slots⟩ argsL.toArray v B ∧
      ∀ target, Steps p.tables e below (B.U.setTop { g with pc := g.pc + 3, stack := v.toList ++ rest }) target → Steps p.tables e below (T.setTop g) target := by
  obtain ⟨mk, methM, cM, hnamed, hmethM, -, -, -, -, -, -, hsigM⟩ := Cond.codeWith_spec hcode
  have hstatic : methM.isStatic = true := Cond.static_spec hnamed hmethM hstat
  obtain ⟨kP, hkP, -⟩ := className_of_methodNamed hnamed
  have hinitP : kP.init = .initialized := Cond.initialized_spec (findClass_of_methodNamed hnamed) hkP hinit
  obtain ⟨vm₁, X₁, hstep₁⟩ := X.invokestatic hexec hown hlink hnamed hmethM hstatic hkP hinitP hy (g := g) hg (argsL := argsL) (rest := rest) (hlen _ hsigM) hstack hdg
  obtain ⟨v, B, X', hpost, hsteps⟩ := hK m meth c ⟨T.setVm vm₁, locs, cells, slots⟩ { g with stack := rest } (.invokestatic index) mk argsL.toArray X₁ hg hsize hdg hW (X₁.named hnamed) (hpre vm₁ X₁.warmed)
  exact ⟨v, vm₁, B, X₁.warmed, X', hpost, fun target h => hstep₁ _ fun acts => by rw [doInvoke_state]; exact hsteps.trans h⟩
theorem vx_runSW {y : MethodName} {bytes cc : ByteArray} {maxL nL mc ms n index : Nat} {ret : Option FieldType} {hh : List (Nat × Nat × Nat × Nat)} {ws : List Cond} {rm : Room} {Pc : Array Value → State → Prop} {Qc : Array Value → State → Outcome → State → Prop} {free : Addr → Prop} {Ts : List Cond} {own : String} {As rest : List Value} {g : JFrame}
    (S : CallFix p m c cc nL s args Ts own) (hM : Met l y ws rm Pc Qc mc ms free) (cw : vx_CSW R s args own index y bytes maxL ret hh ws rm mc ms n) (hp : PreS s H Pc As)
    (hg : g.method = m) (hn : As.length = n) (hsize : g.locals.size = nL) (hstack : g.stack = As.reverse ++ rest) (hW : 2 * g.monitorRoom + (rest.map fun v => v.category).sum ≤ 8) (hdg : decode cc g.pc = .ok (.invokestatic index, 3)) (hf : cells + mc ≤ R.cells ∧ slots + ms ≤ R.slots) :
    va_Run p l e R s m args below meth c H locs cells slots mc ms g rest (Qc As.toArray) (free) := by
  obtain ⟨⟨hrc, hrs, hfr, hlo, hws, hcw⟩, hcode, hini, hy, hlen, hl, hstt⟩ := cw
  have hK : Back l R p e below s args y 3 8 (PreOf R mc ms Pc) (PostOf Qc mc ms free) := va_backW (hh := hh) (bytes := bytes) (maxL := maxL) (ret := ret) hM hp.1 hrc hrs hfr hlo hws hcw (fun a' U hW => word_at hW (Or.inl (by first | rfl | simp [Cond.onTables, Cond.keeps, Cond.steady])) hini)
  obtain ⟨hx, hb, hml, ho, -⟩ := S
  intro T hT X
  obtain ⟨v, vm₁, ⟨U', l2, c2, s2⟩, hW₁, X', ⟨g', mk, t, L, e1, e2, hq, h1, hL, h2, h3⟩, st⟩ := vx_callSW X hx (hh := hh) (bytes := bytes) (maxL := maxL) (ret := ret) ho hl hstt hini hcode hy hK hg (hsize.trans hml.symm) (argsL := As) (rest := rest) (fun sig h => hn.trans (hlen sig h)) hstack hW (by rw [hb]; exact hdg)
    (fun vm₁ hW₁ => ⟨hf.1, hf.2, hp.2 (T.setVm vm₁) hT hW₁⟩)
  dsimp only [Pt.U, Pt.locs, Pt.cells, Pt.slots] at X' e1 e2 h1 h2 h3 st
  subst h1; subst h2; subst h3
  exact ⟨v, (T.setVm vm₁).calling g' mk As.toArray, t, U', L, hT, X', hL, e1, e2, hq, st⟩
/-- not caught here, past rows that name other classes: it goes on to the caller -/
theorem vx_outP {p : Program} {l : Launch} {e : Env} {R : Room} {s : State} {m : MethodId} {args : Array Value} {below : List Frame} {meth : Method} {c : Code} {H : Heap} {locs : List Loc} {cells slots : Nat} {free : Addr → Prop} {ls : Array Slot} {rest : List Value} {Qc : Array Value → State → Outcome → State → Prop} {XC : String → State → State → Prop}
    {pc : Nat} {own E : String} {ce : Cell} {q : Addr} {mc ms : Nat} (hown : s.vm.findClass own = some m.cls) (hlocks : meth.locks = false)
    (hpass : ∀ z ∈ c.exceptionTable.toList, covers z pc = false ∨ (z.catchType ≠ 0 ∧ ∃ nm : String, (Cond.classLink own z.catchType nm).before args s = true ∧ va_Nc E nm s)) (hcell : H[q]? = some ce) (hv : ce.vm = .none) (hcl : s.vm.findClass E = some ce.cls)
    (hx : ∀ t : State, t.heap = H → s.vm.Alike t.vm → XC E s t) (hf : ∀ z ∈ locs, free z.base) (hc : cells ≤ mc) (hs : slots ≤ ms) :
    vx_W p l e R s m args below meth c H locs cells slots (vx_MQ below Qc XC args s mc ms free) (F0 m pc ls rest) q := by
  intro T hT X
  have hpl : e.platform.magicAccessors = ({} : Platform).magicAccessors := by rw [X.admits.platform]
  obtain ⟨vm', hW', X', st⟩ := X.outThrough hlocks q (g := F0 m pc ls rest) rfl rfl rfl (cell := ce) (by rw [hT]; exact hcell) (by rw [hv]; rfl)
    (by obtain ⟨k9, h9, -⟩ := Vm.findClass_spec hcl; exact ⟨k9, h9⟩) (fun z hz => by
      rcases hpass z hz with h | ⟨hz0, nm, hl1, hn1⟩
      · exact Or.inl h
      · obtain ⟨c6, hc6, hcl6⟩ := Cond.classLink_spec hown hl1 e.platform hpl
        obtain ⟨a8, b8, h1, h2, h3⟩ := hn1
        cases Option.some.inj (h1.symm.trans hcl)
        cases Option.some.inj (h2.symm.trans hc6)
        exact Or.inr ⟨hz0, _, hcl6, h3⟩)
  obtain ⟨g₀, hfr⟩ := X'.frames_eq
  have hcell9 : ((T.setVm vm').setFrames (.throwing q :: below)).heap[q]? = some ce := by
    show T.heap[q]? = some ce
    rw [hT]; exact hcell
  have hend : Ended ((T.setVm vm').setFrames (.throwing q :: below)) below (.threw q) := State.frames_setFrames _ (State.cur_lt_of_frames hfr)
  refine ⟨(T.setVm vm').setFrames (.throwing q :: below), ?_, .threw q, X'.here.running, hend, Or.inr ⟨q, rfl, E, ce, locs, hx _ hT (X'.ends _).1.alike, hcell9, hv, hcl, (X'.ends _).1, (X'.ends _).2.mono hc hs, hf⟩⟩
  rw [X.pushThrowing_eq]
  exact st
/-- a thing of a world lies in the heap -/
theorem vx_lt {D : va_G} {cl : List vw_C} {ws : va_W} {H1 : Heap} (h : va_P D cl ws H1) {k : Nat} {q : Nat × va_E} (hk : ws[k]? = some q) : q.1 < H1.size := (h k q hk).lt
end VXS
/-! ===== END ===== -/
/-! ===== BEGIN methods with a table of their own: called by a name, returning or throwing ===== -/
section VXH
/-! vx_backW, vx_callVX, vx_callSX, vx_callVW, vx_runVW, vx_runVX, vx_runSX, vx_ofWH follow the same proofs as their sisters above (Free/Laws.lean, Shelf42/LK1.lean); vx_outP calls Shelf42/NT130.lean (outThrough). -/
section
variable {l : Launch} {R : Room} {p : Program} {e : Env} {below : List Frame} {s : State} {sargs : Array Value} {y : MethodName} {len W9 : Nat}
theorem vx_backW {ws : List Cond} {rm : Room} {Pc : Array Value → State → Prop} {Qc : Array Value → State → Outcome → State → Prop} {XC : String → State → State → Prop} {mc ms : Nat} {free : Addr → Prop} {bytes : ByteArray} {maxL : Nat} {ret : Option FieldType} {hh : List (Nat × Nat × Nat × Nat)}
    (hM : vx_Met l y ws rm Pc Qc XC mc ms free) (hblind : FrameBlind Pc) (hrc : rm.cells = mc) (hrs : rm.slots = ms)
    (hframes : rm.frames + 1 ≤ R.frames) (hlocals : W9 + (maxL + 11) + rm.locals ≤ R.locals)
    (hws : ∀ w ∈ ws, ∀ a' U, s.WarmedH U.vm → w.before a' U = true) (hcode : Cond.codeWith y bytes maxL ret hh ∈ ws) (hinit : ∀ a' U, s.WarmedH U.vm → (Cond.initialized y.cls).before a' U = true) :
    vx_Back l R p e below s sargs y len W9 (PreOf R mc ms Pc) (PostOf Qc mc ms free) (vx_Post XC mc ms free) := by
  intro m meth c A g ig mk a X hg hsize hdg hW hn hp
  have h1 : (headSpec ws rm).pre.before a A.U = true := atoms_intro fun w hw => hws w hw _ _ X.warmed
  have h2 : (Cond.codeWith y bytes maxL ret hh).before a A.U = true := hws _ hcode _ _ X.warmed
  have h3 : (Cond.initialized y.cls).before a A.U = true := hinit _ _ X.warmed
  have h4 : A.cells + (headSpec ws rm).room.cells ≤ R.cells := by rw [show (headSpec ws rm).room.cells = mc from hrc]; exact hp.1
  have h5 : A.slots + (headSpec ws rm).room.slots ≤ R.slots := by rw [show (headSpec ws rm).room.slots = ms from hrs]; exact hp.2.1
  have hPc : Pc a (A.U.calling g mk a) := hblind _ _ _ _ hp.2.2
  obtain ⟨U, Ls, c0, s0⟩ := A
  dsimp only [Pt.U, Pt.locs, Pt.cells, Pt.slots] at h1 h2 h3 h4 h5 X hn hPc ⊢
  obtain ⟨m9, methY, cY, hn9, hmY, hcY, -, hlY, -⟩ := Cond.codeWith_spec h2
  cases Option.some.inj (hn9.symm.trans hn)
  obtain ⟨kY, hkY, -⟩ := className_of_methodNamed hn
  have hinitY : kY.init = .initialized := Cond.initialized_spec (findClass_of_methodNamed hn) hkY h3
  have h : At U g.method c below := by rw [hg]; exact X.here
  have hlocals9 : W9 + (maxL + 11) + (headSpec ws rm).room.locals ≤ R.locals := hlocals
  have happ : (headSpec ws rm).appliesLoose y e.platform (U.calling g mk a) = true :=
    Spec.appliesLoose_calling (g := g) h hdg hn hkY hinitY
      (X.room_calling (g := g) (R' := (headSpec ws rm).room) hsize hmY hcY hframes (by rw [hlY]; omega) h4 h5) h1
  obtain ⟨mid, hmid⟩ := h.above
  have hfr : (U.setTop g).frames = (.java g :: mid) ++ below := by rw [State.frames_setTop' g h.top, hmid]; rfl
  obtain ⟨o, s₂, hsteps, -, hend, hq⟩ := Steps.callFree hM p X.admits X.cas X.clock (acts := []) hfr happ hPc trivial
  have hq' : vx_Q Qc XC mc ms free a (U.calling g mk a) o s₂ := hq
  rw [State.frames_setTop' g h.top] at hend
  obtain ⟨g₀, hg0⟩ := Option.isSome_iff_exists.mp h.top
  obtain ⟨r, hr⟩ := State.topJava?_eq_some.mp hg0
  have hr' : (({ U with heap := s₂.heap, slotsUsed := s₂.slotsUsed } : State).setVm s₂.vm).frames = .java g₀ :: r := hr
  rcases hq' with ⟨hqc, L, hfe, hL⟩ | ⟨q, rfl, E, ce, L, hx, hce, hcv, hcl, hW₂, hsm, hL⟩
  · obtain ⟨⟨v, rfl⟩, hW₂, e2, q2, q3, q4, q5, q6⟩ := id hfe
    have e3 : s₂ = ({ (U.calling g mk a).setFrames s₂.frames with heap := s₂.heap, slotsUsed := s₂.slotsUsed } : State).setVm s₂.vm := by
      have : s₂ = ({ s₂ with vm := (U.calling g mk a).vm } : State).setVm s₂.vm := rfl
      rw [e2] at this
      exact this
    obtain ⟨c₂, i₂, len₂, hc₂, hd₂, hf₂⟩ := hend
    have hW' : U.WarmedH s₂.vm := hW₂
    have hcc : c₂ = c := by
      have h1 : s₂.code? g.method = U.code? g.method := by
        rw [State.code?_eq, State.code?_eq, hW'.alike.method?]
      exact Option.some.inj (hc₂.symm.trans (h1.trans h.code))
    subst hcc
    have hlen : len₂ = len := by rw [hdg] at hd₂; cases hd₂; rfl
    subst hlen
    have hs₂ : s₂ = (({ U with heap := s₂.heap, slotsUsed := s₂.slotsUsed } : State).setVm s₂.vm).setTop { g with pc := g.pc + len₂, stack := v.toList ++ g.stack } := by
      refine e3.trans ?_
      rw [hf₂, State.calling_eq h.top, State.setFrames_setFrames, State.setTop_of_frames _ hr', hr]
      rfl
    have hsame : U.sameButNew ({ U with heap := s₂.heap, slotsUsed := s₂.slotsUsed } : State) L mc ms := by
      refine ⟨?_, q2, q3, q4, q5, q6⟩
      obtain ⟨t, ht, -⟩ := State.frames_cons hr
      show ({ U with heap := s₂.heap, slotsUsed := s₂.slotsUsed } : State) = { U.setFrames U.frames with heap := s₂.heap, slotsUsed := s₂.slotsUsed }
      rw [State.setFrames_self ht]
    subst hg
    refine Or.inl ⟨v, ⟨(({ U with heap := s₂.heap, slotsUsed := s₂.slotsUsed } : State).setVm s₂.vm), Ls ++ L, c0 + mc, s0 + ms⟩,
      ⟨X.admits, X.cas, X.clock, X.frames, X.room, X.hears, X.method, X.code, (X.here.setHeapUsed s₂.heap s₂.slotsUsed).setVm hW'.alike, X.tail, State.WarmedH.trans X.warmed hW', X.limits, X.bytes, X.same.trans (hsame.setVm s.vm)⟩,
      ⟨g, mk, s₂, L, rfl, rfl, hqc, rfl, hL, rfl, rfl⟩, ?_⟩
    show Steps p.tables e below _ ((({ U with heap := s₂.heap, slotsUsed := s₂.slotsUsed } : State).setVm s₂.vm).setTop { g with pc := g.pc + len₂, stack := v.toList ++ g.stack })
    rw [← hs₂]
    exact hsteps
  · obtain ⟨e2, q2, q3, q4, q5, q6⟩ := id hsm
    have e3 : s₂ = ({ (U.calling g mk a).setFrames s₂.frames with heap := s₂.heap, slotsUsed := s₂.slotsUsed } : State).setVm s₂.vm := by
      have : s₂ = ({ s₂ with vm := (U.calling g mk a).vm } : State).setVm s₂.vm := rfl
      rw [e2] at this
      exact this
    have hf₂ : s₂.frames = .throwing q :: .java g :: U.frames.tail := hend
    have hW' : U.WarmedH s₂.vm := hW₂
    have hs₂ : s₂ = ((({ U with heap := s₂.heap, slotsUsed := s₂.slotsUsed } : State).setVm s₂.vm).setTop g).pushFrame (.throwing q) := by
      refine e3.trans ?_
      rw [hf₂, State.calling_eq h.top, State.setFrames_setFrames, State.pushFrame, State.frames_setTop _ hr', State.setTop_of_frames _ hr', State.setFrames_setFrames, hr]
      rfl
    have hsame : U.sameButNew ({ U with heap := s₂.heap, slotsUsed := s₂.slotsUsed } : State) L mc ms := by
      refine ⟨?_, q2, q3, q4, q5, q6⟩
      obtain ⟨t, ht, -⟩ := State.frames_cons hr
      show ({ U with heap := s₂.heap, slotsUsed := s₂.slotsUsed } : State) = { U.setFrames U.frames with heap := s₂.heap, slotsUsed := s₂.slotsUsed }
      rw [State.setFrames_self ht]
    subst hg
    refine Or.inr ⟨q, ⟨(({ U with heap := s₂.heap, slotsUsed := s₂.slotsUsed } : State).setVm s₂.vm), Ls ++ L, c0 + mc, s0 + ms⟩,
      ⟨X.admits, X.cas, X.clock, X.frames, X.room, X.hears, X.method, X.code, (X.here.setHeapUsed s₂.heap s₂.slotsUsed).setVm hW'.alike, X.tail, State.WarmedH.trans X.warmed hW', X.limits, X.bytes, X.same.trans (hsame.setVm s.vm)⟩,
      ⟨g, mk, s₂, L, E, ce, rfl, rfl, hx, hce, hcv, hcl, rfl, hL, rfl, rfl⟩, ?_⟩
    show Steps p.tables e below _ (((({ U with heap := s₂.heap, slotsUsed := s₂.slotsUsed } : State).setVm s₂.vm).setTop g).pushFrame (.throwing q))
    rw [← hs₂]
    exact hsteps
end
variable {p : Program} {l : Launch} {e : Env} {R : Room} {s : State} {m : MethodId} {args : Array Value} {below : List Frame} {meth : Method} {c : Code} {T : State} {H : Heap} {locs : List Loc} {cells slots : Nat}
theorem vx_callVX (X : Stand p l e R s m args below meth c T locs cells slots) (hexec : p.tables.exec = Jvm.exec) {own C : String} {index : Nat} {y : MethodName} {bytes : ByteArray} {maxL : Nat} {ret : Option FieldType} {hh : List (Nat × Nat × Nat × Nat)}
    (hown : s.vm.findClass own = some m.cls) (hlink : (Cond.methodLink own index y).before args s = true) (hinst : (Cond.instanceMethod y).before args s = true) (hsel : (Cond.selects C y y).before args s = true)
    (hcode : (Cond.codeWith y bytes maxL ret hh).before args s = true) (hy : y.cls ≠ "java/lang/invoke/MethodHandle" ∧ y.cls ≠ "java/lang/invoke/VarHandle")
    {W9 : Nat} {Pre : Pt → Array Value → Prop} {Post : Pt → Array Value → Option Value → Pt → Prop} {PostX : Pt → Array Value → Addr → Pt → Prop} (hK : vx_Back l R p e below s args y 3 W9 Pre Post PostX)
    {b : Addr} {cellB : Cell} (hcell : T.heap[b]? = some cellB) (hobj : cellB.vm.isStatics = false) (hcls : s.vm.findClass C = some cellB.cls)
    {g : JFrame} (hg : g.method = m) (hsize : g.locals.size = c.maxLocals) {argsL rest : List Value} (hlen : ∀ sig, parseMethodDescriptor y.desc = some sig → argsL.length = sig.parameters.length)
    (hstack : g.stack = argsL.reverse ++ .ref b :: rest) (hW : 2 * g.monitorRoom + (rest.map fun v => v.category).sum ≤ W9) (hdg : decode c.code g.pc = .ok (.invokevirtual index, 3))
    (hpre : ∀ vm₁, s.WarmedH vm₁ → Pre ⟨T.setVm vm₁, locs, cells, slots⟩ (Value.ref b :: argsL).toArray) :
    (∃ (v : Option Value) (vm₁ : Vm) (B : Pt), s.WarmedH vm₁ ∧ Stand p l e R s m args below meth c B.U B.locs B.cells B.slots ∧ Post ⟨T.setVm vm₁, locs, cells, slots⟩ (Value.ref b :: argsL).toArray v B ∧
      ∀ target, Steps p.tables e below (B.U.setTop { g with pc := g.pc + 3, stack := v.toList ++ rest }) target → Steps p.tables e below (T.setTop g) target) ∨
    (∃ (q : Addr) (vm₁ : Vm) (B : Pt), s.WarmedH vm₁ ∧ Stand p l e R s m args below meth c B.U B.locs B.cells B.slots ∧ PostX ⟨T.setVm vm₁, locs, cells, slots⟩ (Value.ref b :: argsL).toArray q B ∧
      Steps p.tables e below (T.setTop g) ((B.U.setTop { g with stack := rest }).pushFrame (.throwing q))) := by
  obtain ⟨mk, methM, hnamed, hmethM, hstM, habM⟩ := Cond.instanceMethod_spec hinst
  obtain ⟨m8, methM', cM, hn8, hmethM', -, -, -, -, -, -, hsigM⟩ := Cond.codeWith_spec hcode
  cases Option.some.inj (hn8.symm.trans hnamed)
  cases hmethM.symm.trans hmethM'
  obtain ⟨c2, r2, m2, q1, q2, q3, q4, kP, hkP, hkPi⟩ := Cond.selects_spec hsel
  cases hcls.symm.trans q1
  cases (State.methodFound?_of_named hnamed hy).symm.trans q2
  cases hnamed.symm.trans q3
  have hselP : selectMethod e.platform s.vm cellB.cls mk = .method mk := by rw [Launch.admits_selectMethod X.admits]; exact q4
  obtain ⟨vm₁, X₁, hstep₁⟩ := X.invokevirtual hexec hown hlink hnamed hmethM hstM hkP hkPi hy (a := b) (cell := cellB) hcell
    (fun z h => by rw [h] at hobj; cases hobj) hselP hmethM habM hkP hkPi (g := g) hg (argsL := argsL) (rest := rest) (hlen _ hsigM) hstack hdg
  rcases hK m meth c ⟨T.setVm vm₁, locs, cells, slots⟩ { g with stack := rest } (.invokevirtual index) mk (Value.ref b :: argsL).toArray X₁ hg hsize hdg hW (X₁.named hnamed) (hpre vm₁ X₁.warmed) with ⟨v, B, X', hpost, hsteps⟩ | ⟨q, B, X', hpost, hsteps⟩
  · exact Or.inl ⟨v, vm₁, B, X₁.warmed, X', hpost, fun target h => hstep₁ _ fun acts => by rw [doInvoke_state]; exact hsteps.trans h⟩
  · exact Or.inr ⟨q, vm₁, B, X₁.warmed, X', hpost, hstep₁ _ fun acts => by rw [doInvoke_state]; exact hsteps⟩
theorem vx_callSX (X : Stand p l e R s m args below meth c T locs cells slots) (hexec : p.tables.exec = Jvm.exec) {own : String} {index : Nat} {y : MethodName} {bytes : ByteArray} {maxL : Nat} {ret : Option FieldType} {hh : List (Nat × Nat × Nat × Nat)}
    (hown : s.vm.findClass own = some m.cls) (hlink : (Cond.methodLink own index y).before args s = true) (hstat : (Cond.static y).before args s = true) (hinit : (Cond.initialized y.cls).before args s = true)
    (hcode : (Cond.codeWith y bytes maxL ret hh).before args s = true) (hy : y.cls ≠ "java/lang/invoke/MethodHandle" ∧ y.cls ≠ "java/lang/invoke/VarHandle")
    {W9 : Nat} {Pre : Pt → Array Value → Prop} {Post : Pt → Array Value → Option Value → Pt → Prop} {PostX : Pt → Array Value → Addr → Pt → Prop} (hK : vx_Back l R p e below s args y 3 W9 Pre Post PostX)
    {g : JFrame} (hg : g.method = m) (hsize : g.locals.size = c.maxLocals) {argsL rest : List Value} (hlen : ∀ sig, parseMethodDescriptor y.desc = some sig → argsL.length = sig.parameters.length)
    (hstack : g.stack = argsL.reverse ++ rest) (hW : 2 * g.monitorRoom + (rest.map fun v => v.category).sum ≤ W9) (hdg : decode c.code g.pc = .ok (.invokestatic index, 3))
    (hpre : ∀ vm₁, s.WarmedH vm₁ → Pre ⟨T.setVm vm₁, locs, cells, slots⟩ argsL.toArray) :
    (∃ (v : Option Value) (vm₁ : Vm) (B : Pt), s.WarmedH vm₁ ∧ Stand p l e R s m args below meth c B.U B.locs B.cells B.slots ∧ Post ⟨T.setVm vm₁, locs, cells, slots⟩ argsL.toArray v B ∧
      ∀ target, Steps p.tables e below (B.U.setTop { g with pc := g.pc + 3, stack := v.toList ++ rest }) target → Steps p.tables e below (T.setTop g) target) ∨
    (∃ (q : Addr) (vm₁ : Vm) (B : Pt), s.WarmedH vm₁ ∧ Stand p l e R s m args below meth c B.U B.locs B.cells B.slots ∧ PostX ⟨T.setVm vm₁, locs, cells, slots⟩ argsL.toArray q B ∧
      Steps p.tables e below (T.setTop g) ((B.U.setTop { g with stack := rest }).pushFrame (.throwing q))) := by
  obtain ⟨mk, methM, cM, hnamed, hmethM, -, -, -, -, -, -, hsigM⟩ := Cond.codeWith_spec hcode
  have hstatic : methM.isStatic = true := Cond.static_spec hnamed hmethM hstat
  obtain ⟨kP, hkP, -⟩ := className_of_methodNamed hnamed
  have hinitP : kP.init = .initialized := Cond.initialized_spec (findClass_of_methodNamed hnamed) hkP hinit
  obtain ⟨vm₁, X₁, hstep₁⟩ := X.invokestatic hexec hown hlink hnamed hmethM hstatic hkP hinitP hy (g := g) hg (argsL := argsL) (rest := rest) (hlen _ hsigM) hstack hdg
  rcases hK m meth c ⟨T.setVm vm₁, locs, cells, slots⟩ { g with stack := rest } (.invokestatic index) mk argsL.toArray X₁ hg hsize hdg hW (X₁.named hnamed) (hpre vm₁ X₁.warmed) with ⟨v, B, X', hpost, hsteps⟩ | ⟨q, B, X', hpost, hsteps⟩
  · exact Or.inl ⟨v, vm₁, B, X₁.warmed, X', hpost, fun target h => hstep₁ _ fun acts => by rw [doInvoke_state]; exact hsteps.trans h⟩
  · exact Or.inr ⟨q, vm₁, B, X₁.warmed, X', hpost, hstep₁ _ fun acts => by rw [doInvoke_state]; exact hsteps⟩
theorem vx_callVW (X : Stand p l e R s m args below meth c T locs cells slots) (hexec : p.tables.exec = Jvm.exec) {own C : String} {index : Nat} {y : MethodName} {bytes : ByteArray} {maxL : Nat} {ret : Option FieldType} {hh : List (Nat × Nat × Nat × Nat)}
    (hown : s.vm.findClass own = some m.cls) (hlink : (Cond.methodLink own index y).before args s = true) (hinst : (Cond.instanceMethod y).before args s = true) (hsel : (Cond.selects C y y).before args s = true)
    (hcode : (Cond.codeWith y bytes maxL ret hh).before args s = true) (hy : y.cls ≠ "java/lang/invoke/MethodHandle" ∧ y.cls ≠ "java/lang/invoke/VarHandle")
    {W9 : Nat} {Pre : Pt → Array Value → Prop} {Post : Pt → Array Value → Option Value → Pt → Prop} (hK : Back l R p e below s args y 3 W9 Pre Post)
    {b : Addr} {cellB : Cell} (hcell : T.heap[b]? = some cellB) (hobj : cellB.vm.isStatics = false) (hcls : s.vm.findClass C = some cellB.cls)
    {g : JFrame} (hg : g.method = m) (hsize : g.locals.size = c.maxLocals) {argsL rest : List Value} (hlen : ∀ sig, parseMethodDescriptor y.desc = some sig → argsL.length = sig.parameters.length)
    (hstack : g.stack = argsL.reverse ++ .ref b :: rest) (hW : 2 * g.monitorRoom + (rest.map fun v => v.category).sum ≤ W9) (hdg : decode c.code g.pc = .ok (.invokevirtual index, 3))
    (hpre : ∀ vm₁, s.WarmedH vm₁ → Pre ⟨T.setVm vm₁, locs, cells, slots⟩ (Value.ref b :: argsL).toArray) :
    ∃ (v : Option Value) (vm₁ : Vm) (B : Pt), s.WarmedH vm₁ ∧ Stand p l e R s m args below meth c B.U B.locs B.cells B.slots ∧ Post ⟨T.setVm vm₁, locs, cells, slots⟩ (Value.ref b :: argsL).toArray v B ∧
      ∀ target, Steps p.tables e below (B.U.setTop { g with pc := g.pc + 3, stack := v.toList ++ rest }) target → Steps p.tables e below (T.setTop g) target := by
  obtain ⟨mk, methM, hnamed, hmethM, hstM, habM⟩ := Cond.instanceMethod_spec hinst
  obtain ⟨m8, methM', cM, hn8, hmethM', -, -, -, -, -, -, hsigM⟩ := Cond.codeWith_spec hcode
  cases Option.some.inj (hn8.symm.trans hnamed)
  cases hmethM.symm.trans hmethM'
  obtain ⟨c2, r2, m2, q1, q2, q3, q4, kP, hkP, hkPi⟩ := Cond.selects_spec hsel
  cases hcls.symm.trans q1
  cases (State.methodFound?_of_named hnamed hy).symm.trans q2
  cases hnamed.symm.trans q3
  have hselP : selectMethod e.platform s.vm cellB.cls mk = .method mk := by rw [Launch.admits_selectMethod X.admits]; exact q4
  obtain ⟨vm₁, X₁, hstep₁⟩ := X.invokevirtual hexec hown hlink hnamed hmethM hstM hkP hkPi hy (a := b) (cell := cellB) hcell
    (fun z h => by rw [h] at hobj; cases hobj) hselP hmethM habM hkP hkPi (g := g) hg (argsL := argsL) (rest := rest) (hlen _ hsigM) hstack hdg
  obtain ⟨v, B, X', hpost, hsteps⟩ := hK m meth c ⟨T.setVm vm₁, locs, cells, slots⟩ { g with stack := rest } (.invokevirtual index) mk (Value.ref b :: argsL).toArray X₁ hg hsize hdg hW (X₁.named hnamed) (hpre vm₁ X₁.warmed)
  exact ⟨v, vm₁, B, X₁.warmed, X', hpost, fun target h => hstep₁ _ fun acts => by rw [doInvoke_state]; exact hsteps.trans h⟩
abbrev vx_CVW (R : Room) (s : State) (args : Array Value) (own C : String) (index : Nat) (y : MethodName) (bytes : ByteArray) (maxL : Nat) (ret : Option FieldType) (hh : List (Nat × Nat × Nat × Nat)) (ws : List Cond) (rm : Room) (mc ms n : Nat) : Prop :=
  (rm.cells = mc ∧ rm.slots = ms ∧ rm.frames + 1 ≤ R.frames ∧ 8 + (maxL + 11) + rm.locals ≤ R.locals ∧ (∀ w ∈ ws, ∀ (a' : Array Value) (U : State), s.WarmedH U.vm → w.before a' U = true) ∧ Cond.codeWith y bytes maxL ret hh ∈ ws) ∧
  (Cond.codeWith y bytes maxL ret hh).before args s = true ∧ (Cond.initialized y.cls).before args s = true ∧ (y.cls ≠ "java/lang/invoke/MethodHandle" ∧ y.cls ≠ "java/lang/invoke/VarHandle") ∧
  (∀ sig, parseMethodDescriptor y.desc = some sig → n = sig.parameters.length) ∧ (Cond.methodLink own index y).before args s = true ∧ (Cond.instanceMethod y).before args s = true ∧ (Cond.selects C y y).before args s = true
theorem vx_cwVW {own C : String} {index maxL mc ms : Nat} {y : MethodName} {bytes : ByteArray} {ret : Option FieldType} {hh : List (Nat × Nat × Nat × Nat)} {Ts ws ws' : List Cond} {rm : Room} (n : Nat) (ht : ∀ w ∈ Ts, w.before args s = true) (hT : GoodIn Ts (wsV own index C y ws)) (hw : ws = Cond.codeWith y bytes maxL ret hh :: ws') (hrc : rm.cells = mc) (hrs : rm.slots = ms)
    (hd : y.cls = C ∧ y.cls ≠ "java/lang/invoke/MethodHandle" ∧ y.cls ≠ "java/lang/invoke/VarHandle" ∧ (parseMethodDescriptor y.desc).map (fun d => d.parameters.length) = some n) (hR : rm.frames + 1 ≤ R.frames ∧ 8 + (maxL + 11) + rm.locals ≤ R.locals) :
    vx_CVW R s args own C index y bytes maxL ret hh ws rm mc ms n := by
  obtain ⟨hC, hd⟩ := hd
  subst hC
  have ok : ∀ w ∈ wsV own index y.cls y ws, w.before args s = true := fun w h => ht w (hT w h).1
  have hG : GoodIn Ts ws := fun w h => hT w (by unfold wsV; exact List.mem_append_right _ h)
  have hc : Cond.codeWith y bytes maxL ret hh ∈ ws := by rw [hw]; exact List.mem_cons_self
  refine ⟨⟨hrc, hrs, hR.1, hR.2, pay_in ht hG, hc⟩, ht _ (hG _ hc).1, ok _ (by simp [wsV]), ⟨hd.1, hd.2.1⟩, fun sig h => ?_, ok _ (by simp [wsV]), ok _ (by simp [wsV]), ok _ (by simp [wsV])⟩
  have h2 := hd.2.2
  rw [h] at h2
  exact (Option.some.inj h2).symm
theorem vx_runVW {y : MethodName} {bytes cc : ByteArray} {maxL nL mc ms n index : Nat} {ret : Option FieldType} {hh : List (Nat × Nat × Nat × Nat)} {ws : List Cond} {rm : Room} {Pc : Array Value → State → Prop} {Qc : Array Value → State → Outcome → State → Prop} {free : Addr → Prop} {Ts : List Cond} {own C : String} {b : Addr} {As rest : List Value} {g : JFrame}
    (S : CallFix p m c cc nL s args Ts own) (hM : Met l y ws rm Pc Qc mc ms free) (cw : vx_CVW R s args own C index y bytes maxL ret hh ws rm mc ms n) (hp : PreV s H C b Pc As)
    (hg : g.method = m) (hn : As.length = n) (hsize : g.locals.size = nL) (hstack : g.stack = As.reverse ++ .ref b :: rest) (hW : 2 * g.monitorRoom + (rest.map fun v => v.category).sum ≤ 8) (hdg : decode cc g.pc = .ok (.invokevirtual index, 3)) (hf : cells + mc ≤ R.cells ∧ slots + ms ≤ R.slots) :
    va_Run p l e R s m args below meth c H locs cells slots mc ms g rest (Qc (Value.ref b :: As).toArray) free := by
  obtain ⟨⟨hrc, hrs, hfr, hlo, hws, hcw⟩, hcode, hini, hy, hlen, hl, hin, hse⟩ := cw
  have hK : Back l R p e below s args y 3 8 (PreOf R mc ms Pc) (PostOf Qc mc ms free) := va_backW (hh := hh) (bytes := bytes) (maxL := maxL) (ret := ret) hM hp.1 hrc hrs hfr hlo hws hcw (fun a' U hW => word_at hW (Or.inl (by first | rfl | simp [Cond.onTables, Cond.keeps, Cond.steady])) hini)
  obtain ⟨hx, hb, hml, ho, -⟩ := S
  obtain ⟨-, ⟨cellB, hcB, hoB, hclB⟩, hPc⟩ := hp
  intro T hT X
  obtain ⟨v, vm₁, ⟨U', l2, c2, s2⟩, hW₁, X', ⟨g', mk, t, L, e1, e2, hq, h1, hL, h2, h3⟩, st⟩ := vx_callVW X hx (C := C) (hh := hh) (bytes := bytes) (maxL := maxL) (ret := ret) ho hl hin hse hcode hy hK (by rw [hT]; exact hcB) hoB hclB hg (hsize.trans hml.symm) (argsL := As) (rest := rest) (fun sig h => hn.trans (hlen sig h)) hstack hW (by rw [hb]; exact hdg)
    (fun vm₁ hW₁ => ⟨hf.1, hf.2, hPc (T.setVm vm₁) hT hW₁⟩)
  dsimp only [Pt.U, Pt.locs, Pt.cells, Pt.slots] at X' e1 e2 h1 h2 h3 st
  subst h1; subst h2; subst h3
  exact ⟨v, (T.setVm vm₁).calling g' mk (Value.ref b :: As).toArray, t, U', L, hT, X', hL, e1, e2, hq, st⟩
section
variable {y : MethodName} {bytes cc : ByteArray} {maxL nL mc ms n index : Nat} {ret : Option FieldType} {ws : List Cond} {rm : Room} {Pc : Array Value → State → Prop} {Qc : Array Value → State → Outcome → State → Prop} {XC : String → State → State → Prop} {free : Addr → Prop} {Ts : List Cond} {own C : String} {b : Addr} {As rest : List Value} {g : JFrame}
theorem vx_runVX {hh : List (Nat × Nat × Nat × Nat)} (S : CallFix p m c cc nL s args Ts own) (hM : vx_Met l y ws rm Pc Qc XC mc ms free) (cw : vx_CVW R s args own C index y bytes maxL ret hh ws rm mc ms n) (hp : PreV s H C b Pc As)
    (hg : g.method = m) (hn : As.length = n) (hsize : g.locals.size = nL) (hstack : g.stack = As.reverse ++ .ref b :: rest) (hW : 2 * g.monitorRoom + (rest.map fun v => v.category).sum ≤ 8) (hdg : decode cc g.pc = .ok (.invokevirtual index, 3)) (hf : cells + mc ≤ R.cells ∧ slots + ms ≤ R.slots) :
    vx_Run p l e R s m args below meth c H locs cells slots mc ms g rest (Qc (Value.ref b :: As).toArray) XC free := by
  obtain ⟨⟨hrc, hrs, hfr, hlo, hws, hcw⟩, hcode, hini, hy, hlen, hl, hin, hse⟩ := cw
  have hK : vx_Back l R p e below s args y 3 8 (PreOf R mc ms Pc) (PostOf Qc mc ms free) (vx_Post XC mc ms free) := vx_backW (hh := hh) (bytes := bytes) (maxL := maxL) (ret := ret) hM hp.1 hrc hrs hfr hlo hws hcw (fun a' U hW => word_at hW (Or.inl (by first | rfl | simp [Cond.onTables, Cond.keeps, Cond.steady])) hini)
  obtain ⟨hx, hb, hml, ho, -⟩ := S
  obtain ⟨-, ⟨cellB, hcB, hoB, hclB⟩, hPc⟩ := hp
  intro T hT X
  rcases vx_callVX X hx (C := C) (hh := hh) (bytes := bytes) (maxL := maxL) (ret := ret) ho hl hin hse hcode hy hK (by rw [hT]; exact hcB) hoB hclB hg (hsize.trans hml.symm) (argsL := As) (rest := rest) (fun sig h => hn.trans (hlen sig h)) hstack hW (by rw [hb]; exact hdg)
    (fun vm₁ hW₁ => ⟨hf.1, hf.2, hPc (T.setVm vm₁) hT hW₁⟩) with ⟨v, vm₁, ⟨U', l2, c2, s2⟩, hW₁, X', ⟨g', mk, t, L, e1, e2, hq, h1, hL, h2, h3⟩, st⟩ | ⟨q, vm₁, ⟨U', l2, c2, s2⟩, hW₁, X', ⟨g', mk, t, L, E, ce, e1, e2, hq, hce, hcv, hcl, h1, hL, h2, h3⟩, st⟩
  · dsimp only [Pt.U, Pt.locs, Pt.cells, Pt.slots] at X' e1 e2 h1 h2 h3 st
    subst h1; subst h2; subst h3
    exact Or.inl ⟨v, (T.setVm vm₁).calling g' mk (Value.ref b :: As).toArray, t, U', L, hT, X', hL, e1, e2, hq, st⟩
  · dsimp only [Pt.U, Pt.locs, Pt.cells, Pt.slots] at X' e1 e2 h1 h2 h3 st hcl
    subst h1; subst h2; subst h3
    exact Or.inr ⟨q, (T.setVm vm₁).calling g' mk (Value.ref b :: As).toArray, t, U', L, E, ce, hT, X', hL, e1, e2, hq, hce, hcv, vx_cls hW₁ hcl, st⟩
theorem vx_runSX {hh : List (Nat × Nat × Nat × Nat)} (S : CallFix p m c cc nL s args Ts own) (hM : vx_Met l y ws rm Pc Qc XC mc ms free) (cw : vx_CSW R s args own index y bytes maxL ret hh ws rm mc ms n) (hp : PreS s H Pc As)
    (hg : g.method = m) (hn : As.length = n) (hsize : g.locals.size = nL) (hstack : g.stack = As.reverse ++ rest) (hW : 2 * g.monitorRoom + (rest.map fun v => v.category).sum ≤ 8) (hdg : decode cc g.pc = .ok (.invokestatic index, 3)) (hf : cells + mc ≤ R.cells ∧ slots + ms ≤ R.slots) :
    vx_Run p l e R s m args below meth c H locs cells slots mc ms g rest (Qc As.toArray) XC free := by
  obtain ⟨⟨hrc, hrs, hfr, hlo, hws, hcw⟩, hcode, hini, hy, hlen, hl, hstt⟩ := cw
  have hK : vx_Back l R p e below s args y 3 8 (PreOf R mc ms Pc) (PostOf Qc mc ms free) (vx_Post XC mc ms free) := vx_backW (hh := hh) (bytes := bytes) (maxL := maxL) (ret := ret) hM hp.1 hrc hrs hfr hlo hws hcw (fun a' U hW => word_at hW (Or.inl (by first | rfl | simp [Cond.onTables, Cond.keeps, Cond.steady])) hini)
  obtain ⟨hx, hb, hml, ho, -⟩ := S
  intro T hT X
  rcases vx_callSX X hx (hh := hh) (bytes := bytes) (maxL := maxL) (ret := ret) ho hl hstt hini hcode hy hK hg (hsize.trans hml.symm) (argsL := As) (rest := rest) (fun sig h => hn.trans (hlen sig h)) hstack hW (by rw [hb]; exact hdg)
    (fun vm₁ hW₁ => ⟨hf.1, hf.2, hp.2 (T.setVm vm₁) hT hW₁⟩) with ⟨v, vm₁, ⟨U', l2, c2, s2⟩, hW₁, X', ⟨g', mk, t, L, e1, e2, hq, h1, hL, h2, h3⟩, st⟩ | ⟨q, vm₁, ⟨U', l2, c2, s2⟩, hW₁, X', ⟨g', mk, t, L, E, ce, e1, e2, hq, hce, hcv, hcl, h1, hL, h2, h3⟩, st⟩
  · dsimp only [Pt.U, Pt.locs, Pt.cells, Pt.slots] at X' e1 e2 h1 h2 h3 st
    subst h1; subst h2; subst h3
    exact Or.inl ⟨v, (T.setVm vm₁).calling g' mk As.toArray, t, U', L, hT, X', hL, e1, e2, hq, st⟩
  · dsimp only [Pt.U, Pt.locs, Pt.cells, Pt.slots] at X' e1 e2 h1 h2 h3 st hcl
    subst h1; subst h2; subst h3
    exact Or.inr ⟨q, (T.setVm vm₁).calling g' mk As.toArray, t, U', L, E, ce, hT, X', hL, e1, e2, hq, hce, hcv, vx_cls hW₁ hcl, st⟩
end
end VXH
theorem vx_ofWH {l : Launch} {y : MethodName} {ws ws' : List Cond} {rm : Room} {Pc : Array Value → State → Prop} {Qc : Array Value → State → Outcome → State → Prop} {XC : String → State → State → Prop} {mc ms : Nat} {free : Addr → Prop} {cc : ByteArray} {maxL : Nat} {ret : Option FieldType} {hh : List (Nat × Nat × Nat × Nat)}
    (hy : plainName y.cls = true) (hw : ws = Cond.codeWith y cc maxL ret hh :: ws')
    (body : ∀ p e s m args below meth c s₁, BodyLoose p l y (headSpec ws rm) cc maxL ret e s m args below meth c s₁ → c.maxLocals = maxL → Pc args s →
      W p l e (headSpec ws rm).room s m args below meth c s.heap [] 0 0 (vx_MQ below Qc XC args s mc ms free) (entryFrame m args maxL)) : vx_Met l y ws rm Pc Qc XC mc ms free := by
  refine MetFree.of_bodyS (code := cc) (maxLocals := maxL) (ret := ret) hy ?_ ?_
  · intro args s m h hn
    obtain ⟨m9, meth, c, hn9, h1, h2, h3, h4, -, h5, h6, -⟩ := Cond.codeWith_spec (atoms_spec (ws := ws) h _ (by rw [hw]; exact List.mem_cons_self))
    cases hn.symm.trans hn9
    exact ⟨meth, c, h1, h2, h3, h4, h5, h6⟩
  · intro p e s m args below meth c s₁ B hml hP _
    have hh0 : s₁.heap = s.heap := by rw [B.state]; rfl
    obtain ⟨t, a1, o, b1, b2, b3⟩ := body p e s m args below meth c s₁ B hml hP s₁ hh0 (Stand.of_body B)
    exact ⟨t, o, a1, b1, b2, b3⟩
/-! ===== END ===== -/
end
section
def RX0 : String := "GamutChain"
def TX0 : u_T := fun k => match k with
  | 0 => ("GamutChain", "profiles", "I", false)
  | 1 => ("GamutChain", "bends", "[I", true)
  | 2 => ("GamutChain", "leasts", "[I", true)
  | 3 => ("GamutChain", "greatests", "[I", true)
  | 4 => ("GamutChain", "ways", "[I", true)
  | 5 => ("GamutChain", "chains", "I", false)
  | 6 => ("GamutChain", "links", "[I", true)
  | 7 => ("GamutChain", "lengths", "[I", true)
  | 8 => ("GamutChain", "kept", "[I", true)
  | 9 => ("GamutChain", "joinedChains", "I", false)
  | 10 => ("GamutChain", "signedChains", "I", false)
  | 11 => ("GamutChain", "trial", "[I", true)
  | 12 => ("GamutChain", "colours", "[I", true)
  | 13 => ("GamutChain", "amounts", "[I", true)
  | _ => ("GamutChain", "mixes", "[I", true)
def tyX0 : Nat → FieldType := fun k => match k with
  | 0 => .int
  | 1 => .array .int
  | 2 => .array .int
  | 3 => .array .int
  | 4 => .array .int
  | 5 => .int
  | 6 => .array .int
  | 7 => .array .int
  | 8 => .array .int
  | 9 => .int
  | 10 => .int
  | 11 => .array .int
  | 12 => .array .int
  | 13 => .array .int
  | _ => .array .int
abbrev wsX00 : List Cond := u_ws RX0 TX0 15
theorem nmX0 : ∀ a, a < 15 → ∀ b, b < 15 → a ≠ b → (TX0 a).2.1 ≠ (TX0 b).2.1 := by decide +kernel
theorem tyX0_ok : ∀ k, k < 15 → parseFieldDescriptor (TX0 k).2.2.1 = some (tyX0 k) := by decide +kernel
abbrev cX0_init : ByteArray := prog_1_method_1_code
def yX0_init : MethodName := ⟨RX0, "<init>", "()V"⟩
abbrev cX0_profile : ByteArray := prog_1_method_2_code
def yX0_profile : MethodName := ⟨RX0, "profile", "()I"⟩
abbrev cX0_bend : ByteArray := prog_1_method_3_code
def yX0_bend : MethodName := ⟨RX0, "bend", "(IIII)I"⟩
abbrev cX0_reach : ByteArray := prog_1_method_4_code
def yX0_reach : MethodName := ⟨RX0, "reach", "(IIII)I"⟩
abbrev cX0_way : ByteArray := prog_1_method_5_code
def yX0_way : MethodName := ⟨RX0, "way", "(II)I"⟩
abbrev cX0_curve : ByteArray := prog_1_method_6_code
def yX0_curve : MethodName := ⟨RX0, "curve", "(III)I"⟩
abbrev cX0_taken : ByteArray := prog_1_method_7_code
def yX0_taken : MethodName := ⟨RX0, "taken", "(III)I"⟩
abbrev cX0_chain : ByteArray := prog_1_method_8_code
def yX0_chain : MethodName := ⟨RX0, "chain", "()I"⟩
abbrev cX0_add : ByteArray := prog_1_method_9_code
def yX0_add : MethodName := ⟨RX0, "add", "(II)I"⟩
abbrev cX0_drop : ByteArray := prog_1_method_10_code
def yX0_drop : MethodName := ⟨RX0, "drop", "(I)I"⟩
abbrev cX0_through : ByteArray := prog_1_method_11_code
def yX0_through : MethodName := ⟨RX0, "through", "(III)I"⟩
abbrev cX0_gap : ByteArray := prog_1_method_12_code
def yX0_gap : MethodName := ⟨RX0, "gap", "(I)I"⟩
abbrev cX0_greyGap : ByteArray := prog_1_method_13_code
def yX0_greyGap : MethodName := ⟨RX0, "greyGap", "(I)I"⟩
abbrev cX0_join : ByteArray := prog_1_method_14_code
def yX0_join : MethodName := ⟨RX0, "join", "(II)I"⟩
abbrev cX0_joined : ByteArray := prog_1_method_15_code
def yX0_joined : MethodName := ⟨RX0, "joined", "(III)I"⟩
abbrev cX0_stale : ByteArray := prog_1_method_16_code
def yX0_stale : MethodName := ⟨RX0, "stale", "()I"⟩
abbrev cX0_sign : ByteArray := prog_1_method_17_code
def yX0_sign : MethodName := ⟨RX0, "sign", "(I)Z"⟩
abbrev cX0_held : ByteArray := prog_1_method_18_code
def yX0_held : MethodName := ⟨RX0, "held", "()I"⟩
abbrev cX0_paint : ByteArray := prog_1_method_19_code
def yX0_paint : MethodName := ⟨RX0, "paint", "(III)I"⟩
abbrev cX0_spot : ByteArray := prog_1_method_20_code
def yX0_spot : MethodName := ⟨RX0, "spot", "(III)I"⟩
abbrev cX0_mix : ByteArray := prog_1_method_21_code
def yX0_mix : MethodName := ⟨RX0, "mix", "(III)I"⟩
abbrev cX0_shown : ByteArray := prog_1_method_22_code
def yX0_shown : MethodName := ⟨RX0, "shown", "(IIII)I"⟩
abbrev cX0_needProfile : ByteArray := prog_1_method_23_code
def yX0_needProfile : MethodName := ⟨RX0, "needProfile", "(I)V"⟩
abbrev cX0_needChain : ByteArray := prog_1_method_24_code
def yX0_needChain : MethodName := ⟨RX0, "needChain", "(I)V"⟩
abbrev cX0_needBand : ByteArray := prog_1_method_25_code
def yX0_needBand : MethodName := ⟨RX0, "needBand", "(I)V"⟩
abbrev cX0_needPixel : ByteArray := prog_1_method_26_code
def yX0_needPixel : MethodName := ⟨RX0, "needPixel", "(I)V"⟩
abbrev cX0_needInk : ByteArray := prog_1_method_27_code
def yX0_needInk : MethodName := ⟨RX0, "needInk", "(I)V"⟩
abbrev cX0_needValue : ByteArray := prog_1_method_28_code
def yX0_needValue : MethodName := ⟨RX0, "needValue", "(I)V"⟩
abbrev cX0_needFreeProfile : ByteArray := prog_1_method_29_code
def yX0_needFreeProfile : MethodName := ⟨RX0, "needFreeProfile", "(I)V"⟩
abbrev cX0_needFreeChain : ByteArray := prog_1_method_30_code
def yX0_needFreeChain : MethodName := ⟨RX0, "needFreeChain", "(I)V"⟩
abbrev cX0_valueOfPlace : ByteArray := prog_1_method_31_code
def yX0_valueOfPlace : MethodName := ⟨RX0, "valueOfPlace", "(I)I"⟩
abbrev cX0_between : ByteArray := prog_1_method_32_code
def yX0_between : MethodName := ⟨RX0, "between", "([III)I"⟩
abbrev cX0_bent : ByteArray := prog_1_method_33_code
def yX0_bent : MethodName := ⟨RX0, "bent", "(III)I"⟩
abbrev cX0_take : ByteArray := prog_1_method_34_code
def yX0_take : MethodName := ⟨RX0, "take", "(III)I"⟩
abbrev cX0_fold : ByteArray := prog_1_method_35_code
def yX0_fold : MethodName := ⟨RX0, "fold", "(III)I"⟩
abbrev cX0_pass : ByteArray := prog_1_method_36_code
def yX0_pass : MethodName := ⟨RX0, "pass", "(III)I"⟩
abbrev cX0_tryJoining : ByteArray := prog_1_method_37_code
def yX0_tryJoining : MethodName := ⟨RX0, "tryJoining", "(I)I"⟩
abbrev cX0_differsFromKept : ByteArray := prog_1_method_38_code
def yX0_differsFromKept : MethodName := ⟨RX0, "differsFromKept", "(I)Z"⟩
abbrev cX0_profilesOf : ByteArray := prog_1_method_39_code
def yX0_profilesOf : MethodName := ⟨RX0, "profilesOf", "(I)I"⟩
abbrev cX0_inked : ByteArray := prog_1_method_40_code
def yX0_inked : MethodName := ⟨RX0, "inked", "(III)I"⟩
abbrev cX0_read : ByteArray := prog_1_method_41_code
def yX0_read : MethodName := ⟨RX0, "read", "([II)I"⟩
abbrev cX0_swap : ByteArray := prog_1_method_42_code
def yX0_swap : MethodName := ⟨RX0, "swap", "([III)I"⟩
abbrev cX0_hasBit : ByteArray := prog_1_method_43_code
def yX0_hasBit : MethodName := ⟨RX0, "hasBit", "(II)Z"⟩
def RX1 : String := "GamutChainModel"
def TX1 : u_T := fun k => match k with
  | 0 => ("GamutChainModel", "profiles", "I", false)
  | 1 => ("GamutChainModel", "bends", "[I", true)
  | 2 => ("GamutChainModel", "least", "[I", true)
  | 3 => ("GamutChainModel", "greatest", "[I", true)
  | 4 => ("GamutChainModel", "ways", "[I", true)
  | 5 => ("GamutChainModel", "chains", "I", false)
  | 6 => ("GamutChainModel", "many", "[I", true)
  | 7 => ("GamutChainModel", "links", "[I", true)
  | 8 => ("GamutChainModel", "isJoined", "[Z", true)
  | 9 => ("GamutChainModel", "isSigned", "[Z", true)
  | 10 => ("GamutChainModel", "kept", "[I", true)
  | 11 => ("GamutChainModel", "picture", "[I", true)
  | 12 => ("GamutChainModel", "amounts", "[I", true)
  | 13 => ("GamutChainModel", "mixes", "[I", true)
  | 14 => ("GamutChainModel", "five", "[I", true)
  | _ => ("GamutChainModel", "thrown", "I", false)
def tyX1 : Nat → FieldType := fun k => match k with
  | 0 => .int
  | 1 => .array .int
  | 2 => .array .int
  | 3 => .array .int
  | 4 => .array .int
  | 5 => .int
  | 6 => .array .int
  | 7 => .array .int
  | 8 => .array .boolean
  | 9 => .array .boolean
  | 10 => .array .int
  | 11 => .array .int
  | 12 => .array .int
  | 13 => .array .int
  | 14 => .array .int
  | _ => .int
abbrev wsX10 : List Cond := u_ws RX1 TX1 16
theorem nmX1 : ∀ a, a < 16 → ∀ b, b < 16 → a ≠ b → (TX1 a).2.1 ≠ (TX1 b).2.1 := by decide +kernel
theorem tyX1_ok : ∀ k, k < 16 → parseFieldDescriptor (TX1 k).2.2.1 = some (tyX1 k) := by decide +kernel
abbrev cX1_init : ByteArray := prog_3_method_1_code
def yX1_init : MethodName := ⟨RX1, "<init>", "()V"⟩
abbrev cX1_thrown : ByteArray := prog_3_method_2_code
def yX1_thrown : MethodName := ⟨RX1, "thrown", "()I"⟩
abbrev cX1_may : ByteArray := prog_3_method_3_code
def yX1_may : MethodName := ⟨RX1, "may", "(Z)Z"⟩
abbrev cX1_mayBoth : ByteArray := prog_3_method_4_code
def yX1_mayBoth : MethodName := ⟨RX1, "mayBoth", "(ZZ)Z"⟩
abbrev cX1_mayAll : ByteArray := prog_3_method_5_code
def yX1_mayAll : MethodName := ⟨RX1, "mayAll", "(ZZZ)Z"⟩
abbrev cX1_isIn : ByteArray := prog_3_method_6_code
def yX1_isIn : MethodName := ⟨RX1, "isIn", "(III)Z"⟩
abbrev cX1_isByte : ByteArray := prog_3_method_7_code
def yX1_isByte : MethodName := ⟨RX1, "isByte", "(I)Z"⟩
abbrev cX1_isThird : ByteArray := prog_3_method_8_code
def yX1_isThird : MethodName := ⟨RX1, "isThird", "(I)Z"⟩
abbrev cX1_isProfile : ByteArray := prog_3_method_9_code
def yX1_isProfile : MethodName := ⟨RX1, "isProfile", "(I)Z"⟩
abbrev cX1_isChain : ByteArray := prog_3_method_10_code
def yX1_isChain : MethodName := ⟨RX1, "isChain", "(I)Z"⟩
abbrev cX1_placeAt : ByteArray := prog_3_method_11_code
def yX1_placeAt : MethodName := ⟨RX1, "placeAt", "(I)I"⟩
abbrev cX1_quotient : ByteArray := prog_3_method_12_code
def yX1_quotient : MethodName := ⟨RX1, "quotient", "(II)I"⟩
abbrev cX1_between : ByteArray := prog_3_method_13_code
def yX1_between : MethodName := ⟨RX1, "between", "(I)I"⟩
abbrev cX1_curveOf : ByteArray := prog_3_method_14_code
def yX1_curveOf : MethodName := ⟨RX1, "curveOf", "(III)I"⟩
abbrev cX1_takenBy : ByteArray := prog_3_method_15_code
def yX1_takenBy : MethodName := ⟨RX1, "takenBy", "(III)I"⟩
abbrev cX1_throughOf : ByteArray := prog_3_method_16_code
def yX1_throughOf : MethodName := ⟨RX1, "throughOf", "(III)I"⟩
abbrev cX1_isHeld : ByteArray := prog_3_method_17_code
def yX1_isHeld : MethodName := ⟨RX1, "isHeld", "(I)Z"⟩
abbrev cX1_profile : ByteArray := prog_3_method_18_code
def yX1_profile : MethodName := ⟨RX1, "profile", "()I"⟩
abbrev cX1_bend : ByteArray := prog_3_method_19_code
def yX1_bend : MethodName := ⟨RX1, "bend", "(IIII)I"⟩
abbrev cX1_reach : ByteArray := prog_3_method_20_code
def yX1_reach : MethodName := ⟨RX1, "reach", "(IIII)I"⟩
abbrev cX1_way : ByteArray := prog_3_method_21_code
def yX1_way : MethodName := ⟨RX1, "way", "(II)I"⟩
abbrev cX1_curve : ByteArray := prog_3_method_22_code
def yX1_curve : MethodName := ⟨RX1, "curve", "(III)I"⟩
abbrev cX1_taken : ByteArray := prog_3_method_23_code
def yX1_taken : MethodName := ⟨RX1, "taken", "(III)I"⟩
abbrev cX1_chain : ByteArray := prog_3_method_24_code
def yX1_chain : MethodName := ⟨RX1, "chain", "()I"⟩
abbrev cX1_add : ByteArray := prog_3_method_25_code
def yX1_add : MethodName := ⟨RX1, "add", "(II)I"⟩
abbrev cX1_drop : ByteArray := prog_3_method_26_code
def yX1_drop : MethodName := ⟨RX1, "drop", "(I)I"⟩
abbrev cX1_through : ByteArray := prog_3_method_27_code
def yX1_through : MethodName := ⟨RX1, "through", "(III)I"⟩
abbrev cX1_apart : ByteArray := prog_3_method_28_code
def yX1_apart : MethodName := ⟨RX1, "apart", "(II)I"⟩
abbrev cX1_gapOf : ByteArray := prog_3_method_29_code
def yX1_gapOf : MethodName := ⟨RX1, "gapOf", "(I)I"⟩
abbrev cX1_gap : ByteArray := prog_3_method_30_code
def yX1_gap : MethodName := ⟨RX1, "gap", "(I)I"⟩
abbrev cX1_greyGap : ByteArray := prog_3_method_31_code
def yX1_greyGap : MethodName := ⟨RX1, "greyGap", "(I)I"⟩
abbrev cX1_join : ByteArray := prog_3_method_32_code
def yX1_join : MethodName := ⟨RX1, "join", "(II)I"⟩
abbrev cX1_joined : ByteArray := prog_3_method_33_code
def yX1_joined : MethodName := ⟨RX1, "joined", "(III)I"⟩
abbrev cX1_stale : ByteArray := prog_3_method_34_code
def yX1_stale : MethodName := ⟨RX1, "stale", "()I"⟩
abbrev cX1_sign : ByteArray := prog_3_method_35_code
def yX1_sign : MethodName := ⟨RX1, "sign", "(I)Z"⟩
abbrev cX1_held : ByteArray := prog_3_method_36_code
def yX1_held : MethodName := ⟨RX1, "held", "()I"⟩
abbrev cX1_isPixel : ByteArray := prog_3_method_37_code
def yX1_isPixel : MethodName := ⟨RX1, "isPixel", "(I)Z"⟩
abbrev cX1_paint : ByteArray := prog_3_method_38_code
def yX1_paint : MethodName := ⟨RX1, "paint", "(III)I"⟩
abbrev cX1_spot : ByteArray := prog_3_method_39_code
def yX1_spot : MethodName := ⟨RX1, "spot", "(III)I"⟩
abbrev cX1_mix : ByteArray := prog_3_method_40_code
def yX1_mix : MethodName := ⟨RX1, "mix", "(III)I"⟩
abbrev cX1_shown : ByteArray := prog_3_method_41_code
def yX1_shown : MethodName := ⟨RX1, "shown", "(IIII)I"⟩
def RJ9 : String := "java/lang/Math"
def TJ9 : u_T := fun k => match k with
  | _ => ("", "", "", false)
def tyJ9 : Nat → FieldType := fun k => match k with
  | _ => .int
abbrev wsJ90 : List Cond := u_ws RJ9 TJ9 0
theorem nmJ9 : ∀ a, a < 0 → ∀ b, b < 0 → a ≠ b → (TJ9 a).2.1 ≠ (TJ9 b).2.1 := by decide +kernel
theorem tyJ9_ok : ∀ k, k < 0 → parseFieldDescriptor (TJ9 k).2.2.1 = some (tyJ9 k) := by decide +kernel
abbrev cJ9_floorDiv_7cf53 : ByteArray := prog_8_method_47_code
def yJ9_floorDiv_7cf53 : MethodName := ⟨RJ9, "floorDiv", "(II)I"⟩
abbrev cJ9_abs_0f7a4 : ByteArray := prog_8_method_59_code
def yJ9_abs_0f7a4 : MethodName := ⟨RJ9, "abs", "(I)I"⟩
abbrev cJ9_max_7cf53 : ByteArray := prog_8_method_65_code
def yJ9_max_7cf53 : MethodName := ⟨RJ9, "max", "(II)I"⟩
abbrev cJ9_min_7cf53 : ByteArray := prog_8_method_69_code
def yJ9_min_7cf53 : MethodName := ⟨RJ9, "min", "(II)I"⟩
def RJ0 : String := "java/lang/String"
def TJ0 : u_T := fun k => match k with
  | _ => ("", "", "", false)
def tyJ0 : Nat → FieldType := fun k => match k with
  | _ => .int
abbrev wsJ00 : List Cond := u_ws RJ0 TJ0 0
theorem nmJ0 : ∀ a, a < 0 → ∀ b, b < 0 → a ≠ b → (TJ0 a).2.1 ≠ (TJ0 b).2.1 := by decide +kernel
theorem tyJ0_ok : ∀ k, k < 0 → parseFieldDescriptor (TJ0 k).2.2.1 = some (tyJ0 k) := by decide +kernel
def RL : String := "GamutChainLaw"
abbrev cL_profile : ByteArray := method_3_code
def yL_profile : MethodName := ⟨RL, "profile", "(LGamutChain;[J)I"⟩
abbrev cL_bend : ByteArray := method_4_code
def yL_bend : MethodName := ⟨RL, "bend", "(LGamutChain;IIII[J)I"⟩
abbrev cL_reach : ByteArray := method_5_code
def yL_reach : MethodName := ⟨RL, "reach", "(LGamutChain;IIII[J)I"⟩
abbrev cL_way : ByteArray := method_6_code
def yL_way : MethodName := ⟨RL, "way", "(LGamutChain;II[J)I"⟩
abbrev cL_curve : ByteArray := method_7_code
def yL_curve : MethodName := ⟨RL, "curve", "(LGamutChain;III[J)I"⟩
abbrev cL_taken : ByteArray := method_8_code
def yL_taken : MethodName := ⟨RL, "taken", "(LGamutChain;III[J)I"⟩
abbrev cL_chain : ByteArray := method_9_code
def yL_chain : MethodName := ⟨RL, "chain", "(LGamutChain;[J)I"⟩
abbrev cL_add : ByteArray := method_10_code
def yL_add : MethodName := ⟨RL, "add", "(LGamutChain;II[J)I"⟩
abbrev cL_drop : ByteArray := method_11_code
def yL_drop : MethodName := ⟨RL, "drop", "(LGamutChain;I[J)I"⟩
abbrev cL_through : ByteArray := method_12_code
def yL_through : MethodName := ⟨RL, "through", "(LGamutChain;III[J)I"⟩
abbrev cL_gap : ByteArray := method_13_code
def yL_gap : MethodName := ⟨RL, "gap", "(LGamutChain;I[J)I"⟩
abbrev cL_greyGap : ByteArray := method_14_code
def yL_greyGap : MethodName := ⟨RL, "greyGap", "(LGamutChain;I[J)I"⟩
abbrev cL_join : ByteArray := method_15_code
def yL_join : MethodName := ⟨RL, "join", "(LGamutChain;II[J)I"⟩
abbrev cL_joined : ByteArray := method_16_code
def yL_joined : MethodName := ⟨RL, "joined", "(LGamutChain;III[J)I"⟩
abbrev cL_sign : ByteArray := method_17_code
def yL_sign : MethodName := ⟨RL, "sign", "(LGamutChain;I[J)I"⟩
abbrev cL_paint : ByteArray := method_18_code
def yL_paint : MethodName := ⟨RL, "paint", "(LGamutChain;III[J)I"⟩
abbrev cL_spot : ByteArray := method_19_code
def yL_spot : MethodName := ⟨RL, "spot", "(LGamutChain;III[J)I"⟩
abbrev cL_mix : ByteArray := method_20_code
def yL_mix : MethodName := ⟨RL, "mix", "(LGamutChain;III[J)I"⟩
abbrev cL_shown : ByteArray := method_21_code
def yL_shown : MethodName := ⟨RL, "shown", "(LGamutChain;IIII[J)I"⟩
abbrev cL_law : ByteArray := code
def yL_law : MethodName := ⟨RL, "law", "([I)Z"⟩
def wsX0_init : List Cond := .code yX0_init cX0_init 1 none :: ([.methodLink RX0 1 objectInit, .instanceMethod objectInit, .code objectInit ⟨#[0xb1]⟩ 1 none, .arrayClass .int, .fieldLink RX0 9 "GamutChain" "bends" "[I", .fieldLink RX0 13 "GamutChain" "leasts" "[I", .fieldLink RX0 16 "GamutChain" "greatests" "[I", .fieldLink RX0 19 "GamutChain" "ways" "[I", .fieldLink RX0 22 "GamutChain" "links" "[I", .fieldLink RX0 25 "GamutChain" "lengths" "[I", .fieldLink RX0 28 "GamutChain" "kept" "[I", .fieldLink RX0 31 "GamutChain" "trial" "[I", .fieldLink RX0 34 "GamutChain" "colours" "[I", .fieldLink RX0 37 "GamutChain" "amounts" "[I", .fieldLink RX0 40 "GamutChain" "mixes" "[I"] ++ wsX00)
def wsX0_valueOfPlace : List Cond := .code yX0_valueOfPlace cX0_valueOfPlace 1 (some .int) :: ([.methodLink RX0 119 Lib.Math.min.name, .static Lib.Math.min.name, .initialized "java/lang/Math", .code Lib.Math.min.name Lib.Math.min.code 2 (some .int)])
def wsX0_swap : List Cond := .code yX0_swap cX0_swap 4 (some .int) :: ([])
def wsX0_profile : List Cond := .code yX0_profile cX0_profile 5 (some .int) :: ([.classLink RX0 47 "java/lang/IllegalStateException", .initialized "java/lang/IllegalStateException", .fieldLink RX0 43 "GamutChain" "profiles" "I", .fieldLink RX0 9 "GamutChain" "bends" "[I", .fieldLink RX0 13 "GamutChain" "leasts" "[I", .fieldLink RX0 16 "GamutChain" "greatests" "[I", .fieldLink RX0 19 "GamutChain" "ways" "[I", .methodLink RX0 54 yX0_valueOfPlace, .static yX0_valueOfPlace, .initialized RX0, .code yX0_valueOfPlace cX0_valueOfPlace 1 (some .int), .methodLink RX0 119 Lib.Math.min.name, .static Lib.Math.min.name, .initialized "java/lang/Math", .code Lib.Math.min.name Lib.Math.min.code 2 (some .int), .methodLink RX0 58 yX0_swap, .static yX0_swap, .code yX0_swap cX0_swap 4 (some .int)] ++ wsX00 ++ (vx_atS RX0 51 "java/lang/IllegalStateException" ["java/lang/RuntimeException", "java/lang/Exception"]).filter goodWord)
def wsX0_needProfile : List Cond := .code yX0_needProfile cX0_needProfile 2 none :: ([.classLink RX0 69 "java/lang/IndexOutOfBoundsException", .initialized "java/lang/IndexOutOfBoundsException", .fieldLink RX0 43 "GamutChain" "profiles" "I"] ++ wsX00 ++ (vx_atS RX0 73 "java/lang/IndexOutOfBoundsException" ["java/lang/RuntimeException", "java/lang/Exception"]).filter goodWord)
def wsX0_needBand : List Cond := .code yX0_needBand cX0_needBand 1 none :: ([.classLink RX0 69 "java/lang/IndexOutOfBoundsException", .initialized "java/lang/IndexOutOfBoundsException"] ++ (vx_atS RX0 73 "java/lang/IndexOutOfBoundsException" ["java/lang/RuntimeException", "java/lang/Exception"]).filter goodWord)
def wsX0_needValue : List Cond := .code yX0_needValue cX0_needValue 1 none :: ([.classLink RX0 80 "java/lang/IllegalArgumentException", .initialized "java/lang/IllegalArgumentException"] ++ (vx_atS RX0 84 "java/lang/IllegalArgumentException" ["java/lang/RuntimeException", "java/lang/Exception"]).filter goodWord)
def wsX0_hasBit : List Cond := .code yX0_hasBit cX0_hasBit 2 (some .boolean) :: ([])
def wsX0_read : List Cond := .code yX0_read cX0_read 2 (some .int) :: ([])
def wsX0_profilesOf : List Cond := .code yX0_profilesOf cX0_profilesOf 5 (some .int) :: ([.fieldLink RX0 25 "GamutChain" "lengths" "[I", .fieldLink RX0 22 "GamutChain" "links" "[I", .methodLink RX0 105 yX0_read, .static yX0_read, .initialized RX0, .code yX0_read cX0_read 2 (some .int)] ++ wsX00)
def wsX0_held : List Cond := .code yX0_held cX0_held 3 (some .int) :: ([.fieldLink RX0 146 "GamutChain" "signedChains" "I", .methodLink RX0 133 yX0_hasBit, .static yX0_hasBit, .initialized RX0, .code yX0_hasBit cX0_hasBit 2 (some .boolean), .methodLink RX0 149 yX0_profilesOf, .instanceMethod yX0_profilesOf, .selects RX0 yX0_profilesOf yX0_profilesOf, .code yX0_profilesOf cX0_profilesOf 5 (some .int), .fieldLink RX0 25 "GamutChain" "lengths" "[I", .fieldLink RX0 22 "GamutChain" "links" "[I", .methodLink RX0 105 yX0_read, .static yX0_read, .code yX0_read cX0_read 2 (some .int)] ++ wsX00)
def wsX0_needFreeProfile : List Cond := .code yX0_needFreeProfile cX0_needFreeProfile 2 none :: ([.classLink RX0 47 "java/lang/IllegalStateException", .initialized "java/lang/IllegalStateException", .methodLink RX0 175 yX0_held, .instanceMethod yX0_held, .selects RX0 yX0_held yX0_held, .initialized RX0, .code yX0_held cX0_held 3 (some .int), .fieldLink RX0 146 "GamutChain" "signedChains" "I", .methodLink RX0 133 yX0_hasBit, .static yX0_hasBit, .code yX0_hasBit cX0_hasBit 2 (some .boolean), .methodLink RX0 149 yX0_profilesOf, .instanceMethod yX0_profilesOf, .selects RX0 yX0_profilesOf yX0_profilesOf, .code yX0_profilesOf cX0_profilesOf 5 (some .int), .fieldLink RX0 25 "GamutChain" "lengths" "[I", .fieldLink RX0 22 "GamutChain" "links" "[I", .methodLink RX0 105 yX0_read, .static yX0_read, .code yX0_read cX0_read 2 (some .int)] ++ wsX00 ++ (vx_atS RX0 51 "java/lang/IllegalStateException" ["java/lang/RuntimeException", "java/lang/Exception"]).filter goodWord)
def wsX0_bend_r1 : List Cond := [Cond.classLink RX0 69 "java/lang/IndexOutOfBoundsException", Cond.initialized "java/lang/IndexOutOfBoundsException", Cond.fieldLink RX0 9 "GamutChain" "bends" "[I", Cond.methodLink RX0 62 yX0_needProfile, Cond.instanceMethod yX0_needProfile, Cond.selects RX0 yX0_needProfile yX0_needProfile, Cond.initialized RX0, Cond.code yX0_needProfile cX0_needProfile 2 none, Cond.fieldLink RX0 43 "GamutChain" "profiles" "I", Cond.methodLink RX0 66 yX0_needBand, Cond.static yX0_needBand, Cond.code yX0_needBand cX0_needBand 1 none, Cond.methodLink RX0 74 yX0_needValue, Cond.static yX0_needValue, Cond.code yX0_needValue cX0_needValue 1 none, Cond.classLink RX0 80 "java/lang/IllegalArgumentException", Cond.initialized "java/lang/IllegalArgumentException", Cond.methodLink RX0 77 yX0_needFreeProfile, Cond.instanceMethod yX0_needFreeProfile, Cond.selects RX0 yX0_needFreeProfile yX0_needFreeProfile, Cond.code yX0_needFreeProfile cX0_needFreeProfile 2 none, Cond.classLink RX0 47 "java/lang/IllegalStateException", Cond.initialized "java/lang/IllegalStateException", Cond.methodLink RX0 175 yX0_held]
def wsX0_bend_r2 : List Cond := [Cond.instanceMethod yX0_held, Cond.selects RX0 yX0_held yX0_held, Cond.code yX0_held cX0_held 3 (some .int), Cond.fieldLink RX0 146 "GamutChain" "signedChains" "I", Cond.methodLink RX0 133 yX0_hasBit, Cond.static yX0_hasBit, Cond.code yX0_hasBit cX0_hasBit 2 (some .boolean), Cond.methodLink RX0 149 yX0_profilesOf, Cond.instanceMethod yX0_profilesOf, Cond.selects RX0 yX0_profilesOf yX0_profilesOf, Cond.code yX0_profilesOf cX0_profilesOf 5 (some .int), Cond.fieldLink RX0 25 "GamutChain" "lengths" "[I", Cond.fieldLink RX0 22 "GamutChain" "links" "[I", Cond.methodLink RX0 105 yX0_read, Cond.static yX0_read, Cond.code yX0_read cX0_read 2 (some .int), Cond.methodLink RX0 58 yX0_swap, Cond.static yX0_swap, Cond.code yX0_swap cX0_swap 4 (some .int)]
def wsX0_bend : List Cond := .code yX0_bend cX0_bend 5 (some .int) :: ((wsX0_bend_r1 ++ wsX0_bend_r2) ++ wsX00 ++ (vx_atS RX0 73 "java/lang/IndexOutOfBoundsException" ["java/lang/RuntimeException", "java/lang/Exception"]).filter goodWord ++ (vx_atS RX0 84 "java/lang/IllegalArgumentException" ["java/lang/RuntimeException", "java/lang/Exception"]).filter goodWord ++ (vx_atS RX0 51 "java/lang/IllegalStateException" ["java/lang/RuntimeException", "java/lang/Exception"]).filter goodWord)
def wsX0_reach_r1 : List Cond := [Cond.classLink RX0 80 "java/lang/IllegalArgumentException", Cond.initialized "java/lang/IllegalArgumentException", Cond.fieldLink RX0 13 "GamutChain" "leasts" "[I", Cond.fieldLink RX0 16 "GamutChain" "greatests" "[I", Cond.methodLink RX0 62 yX0_needProfile, Cond.instanceMethod yX0_needProfile, Cond.selects RX0 yX0_needProfile yX0_needProfile, Cond.initialized RX0, Cond.code yX0_needProfile cX0_needProfile 2 none, Cond.classLink RX0 69 "java/lang/IndexOutOfBoundsException", Cond.initialized "java/lang/IndexOutOfBoundsException", Cond.fieldLink RX0 43 "GamutChain" "profiles" "I", Cond.methodLink RX0 66 yX0_needBand, Cond.static yX0_needBand, Cond.code yX0_needBand cX0_needBand 1 none, Cond.methodLink RX0 74 yX0_needValue, Cond.static yX0_needValue, Cond.code yX0_needValue cX0_needValue 1 none, Cond.methodLink RX0 77 yX0_needFreeProfile, Cond.instanceMethod yX0_needFreeProfile, Cond.selects RX0 yX0_needFreeProfile yX0_needFreeProfile, Cond.code yX0_needFreeProfile cX0_needFreeProfile 2 none, Cond.classLink RX0 47 "java/lang/IllegalStateException", Cond.initialized "java/lang/IllegalStateException"]
def wsX0_reach_r2 : List Cond := [Cond.methodLink RX0 175 yX0_held, Cond.instanceMethod yX0_held, Cond.selects RX0 yX0_held yX0_held, Cond.code yX0_held cX0_held 3 (some .int), Cond.fieldLink RX0 146 "GamutChain" "signedChains" "I", Cond.methodLink RX0 133 yX0_hasBit, Cond.static yX0_hasBit, Cond.code yX0_hasBit cX0_hasBit 2 (some .boolean), Cond.methodLink RX0 149 yX0_profilesOf, Cond.instanceMethod yX0_profilesOf, Cond.selects RX0 yX0_profilesOf yX0_profilesOf, Cond.code yX0_profilesOf cX0_profilesOf 5 (some .int), Cond.fieldLink RX0 25 "GamutChain" "lengths" "[I", Cond.fieldLink RX0 22 "GamutChain" "links" "[I", Cond.methodLink RX0 105 yX0_read, Cond.static yX0_read, Cond.code yX0_read cX0_read 2 (some .int), Cond.methodLink RX0 58 yX0_swap, Cond.static yX0_swap, Cond.code yX0_swap cX0_swap 4 (some .int)]
def wsX0_reach : List Cond := .code yX0_reach cX0_reach 8 (some .int) :: ((wsX0_reach_r1 ++ wsX0_reach_r2) ++ wsX00 ++ (vx_atS RX0 84 "java/lang/IllegalArgumentException" ["java/lang/RuntimeException", "java/lang/Exception"]).filter goodWord ++ (vx_atS RX0 73 "java/lang/IndexOutOfBoundsException" ["java/lang/RuntimeException", "java/lang/Exception"]).filter goodWord ++ (vx_atS RX0 51 "java/lang/IllegalStateException" ["java/lang/RuntimeException", "java/lang/Exception"]).filter goodWord)
def wsX0_way_r1 : List Cond := [Cond.classLink RX0 80 "java/lang/IllegalArgumentException", Cond.initialized "java/lang/IllegalArgumentException", Cond.fieldLink RX0 19 "GamutChain" "ways" "[I", Cond.methodLink RX0 62 yX0_needProfile, Cond.instanceMethod yX0_needProfile, Cond.selects RX0 yX0_needProfile yX0_needProfile, Cond.initialized RX0, Cond.code yX0_needProfile cX0_needProfile 2 none, Cond.classLink RX0 69 "java/lang/IndexOutOfBoundsException", Cond.initialized "java/lang/IndexOutOfBoundsException", Cond.fieldLink RX0 43 "GamutChain" "profiles" "I", Cond.methodLink RX0 77 yX0_needFreeProfile, Cond.instanceMethod yX0_needFreeProfile, Cond.selects RX0 yX0_needFreeProfile yX0_needFreeProfile, Cond.code yX0_needFreeProfile cX0_needFreeProfile 2 none, Cond.classLink RX0 47 "java/lang/IllegalStateException", Cond.initialized "java/lang/IllegalStateException", Cond.methodLink RX0 175 yX0_held, Cond.instanceMethod yX0_held, Cond.selects RX0 yX0_held yX0_held, Cond.code yX0_held cX0_held 3 (some .int), Cond.fieldLink RX0 146 "GamutChain" "signedChains" "I", Cond.methodLink RX0 133 yX0_hasBit, Cond.static yX0_hasBit]
def wsX0_way_r2 : List Cond := [Cond.code yX0_hasBit cX0_hasBit 2 (some .boolean), Cond.methodLink RX0 149 yX0_profilesOf, Cond.instanceMethod yX0_profilesOf, Cond.selects RX0 yX0_profilesOf yX0_profilesOf, Cond.code yX0_profilesOf cX0_profilesOf 5 (some .int), Cond.fieldLink RX0 25 "GamutChain" "lengths" "[I", Cond.fieldLink RX0 22 "GamutChain" "links" "[I", Cond.methodLink RX0 105 yX0_read, Cond.static yX0_read, Cond.code yX0_read cX0_read 2 (some .int), Cond.methodLink RX0 58 yX0_swap, Cond.static yX0_swap, Cond.code yX0_swap cX0_swap 4 (some .int)]
def wsX0_way : List Cond := .code yX0_way cX0_way 3 (some .int) :: ((wsX0_way_r1 ++ wsX0_way_r2) ++ wsX00 ++ (vx_atS RX0 84 "java/lang/IllegalArgumentException" ["java/lang/RuntimeException", "java/lang/Exception"]).filter goodWord ++ (vx_atS RX0 73 "java/lang/IndexOutOfBoundsException" ["java/lang/RuntimeException", "java/lang/Exception"]).filter goodWord ++ (vx_atS RX0 51 "java/lang/IllegalStateException" ["java/lang/RuntimeException", "java/lang/Exception"]).filter goodWord)
def wsJ9_floorDiv_7cf53 : List Cond := .code yJ9_floorDiv_7cf53 cJ9_floorDiv_7cf53 3 (some .int) :: ([])
def wsX0_between : List Cond := .code yX0_between cX0_between 7 (some .int) :: ([.methodLink RX0 105 yX0_read, .static yX0_read, .initialized RX0, .code yX0_read cX0_read 2 (some .int), .methodLink RX0 183 yJ9_floorDiv_7cf53, .static yJ9_floorDiv_7cf53, .initialized RJ9, .code yJ9_floorDiv_7cf53 cJ9_floorDiv_7cf53 3 (some .int)])
def wsX0_bent : List Cond := .code yX0_bent cX0_bent 4 (some .int) :: ([.fieldLink RX0 9 "GamutChain" "bends" "[I", .methodLink RX0 139 yX0_between, .static yX0_between, .initialized RX0, .code yX0_between cX0_between 7 (some .int), .methodLink RX0 105 yX0_read, .static yX0_read, .code yX0_read cX0_read 2 (some .int), .methodLink RX0 183 yJ9_floorDiv_7cf53, .static yJ9_floorDiv_7cf53, .initialized RJ9, .code yJ9_floorDiv_7cf53 cJ9_floorDiv_7cf53 3 (some .int)] ++ wsX00)
def wsX0_curve_r1 : List Cond := [Cond.methodLink RX0 62 yX0_needProfile, Cond.instanceMethod yX0_needProfile, Cond.selects RX0 yX0_needProfile yX0_needProfile, Cond.initialized RX0, Cond.code yX0_needProfile cX0_needProfile 2 none, Cond.classLink RX0 69 "java/lang/IndexOutOfBoundsException", Cond.initialized "java/lang/IndexOutOfBoundsException", Cond.fieldLink RX0 43 "GamutChain" "profiles" "I", Cond.methodLink RX0 66 yX0_needBand, Cond.static yX0_needBand, Cond.code yX0_needBand cX0_needBand 1 none, Cond.methodLink RX0 74 yX0_needValue, Cond.static yX0_needValue, Cond.code yX0_needValue cX0_needValue 1 none, Cond.classLink RX0 80 "java/lang/IllegalArgumentException", Cond.initialized "java/lang/IllegalArgumentException", Cond.methodLink RX0 87 yX0_bent, Cond.instanceMethod yX0_bent, Cond.selects RX0 yX0_bent yX0_bent, Cond.code yX0_bent cX0_bent 4 (some .int), Cond.fieldLink RX0 9 "GamutChain" "bends" "[I", Cond.methodLink RX0 139 yX0_between, Cond.static yX0_between, Cond.code yX0_between cX0_between 7 (some .int)]
def wsX0_curve_r2 : List Cond := [Cond.methodLink RX0 105 yX0_read, Cond.static yX0_read, Cond.code yX0_read cX0_read 2 (some .int), Cond.methodLink RX0 183 yJ9_floorDiv_7cf53, Cond.static yJ9_floorDiv_7cf53, Cond.initialized RJ9, Cond.code yJ9_floorDiv_7cf53 cJ9_floorDiv_7cf53 3 (some .int)]
def wsX0_curve : List Cond := .code yX0_curve cX0_curve 4 (some .int) :: ((wsX0_curve_r1 ++ wsX0_curve_r2) ++ wsX00 ++ (vx_atS RX0 73 "java/lang/IndexOutOfBoundsException" ["java/lang/RuntimeException", "java/lang/Exception"]).filter goodWord ++ (vx_atS RX0 84 "java/lang/IllegalArgumentException" ["java/lang/RuntimeException", "java/lang/Exception"]).filter goodWord)
def wsX0_fold : List Cond := .code yX0_fold cX0_fold 3 (some .int) :: ([])
def wsX0_take_r1 : List Cond := [Cond.fieldLink RX0 13 "GamutChain" "leasts" "[I", Cond.fieldLink RX0 16 "GamutChain" "greatests" "[I", Cond.fieldLink RX0 19 "GamutChain" "ways" "[I", Cond.methodLink RX0 119 Lib.Math.min.name, Cond.static Lib.Math.min.name, Cond.initialized "java/lang/Math", Cond.code Lib.Math.min.name Lib.Math.min.code 2 (some .int), Cond.methodLink RX0 125 Lib.Math.max.name, Cond.static Lib.Math.max.name, Cond.code Lib.Math.max.name Lib.Math.max.code 2 (some .int), Cond.methodLink RX0 105 yX0_read, Cond.static yX0_read, Cond.initialized RX0, Cond.code yX0_read cX0_read 2 (some .int), Cond.methodLink RX0 87 yX0_bent, Cond.instanceMethod yX0_bent, Cond.selects RX0 yX0_bent yX0_bent, Cond.code yX0_bent cX0_bent 4 (some .int), Cond.fieldLink RX0 9 "GamutChain" "bends" "[I", Cond.methodLink RX0 139 yX0_between, Cond.static yX0_between, Cond.code yX0_between cX0_between 7 (some .int), Cond.methodLink RX0 183 yJ9_floorDiv_7cf53, Cond.static yJ9_floorDiv_7cf53]
def wsX0_take_r2 : List Cond := [Cond.initialized RJ9, Cond.code yJ9_floorDiv_7cf53 cJ9_floorDiv_7cf53 3 (some .int), Cond.methodLink RX0 186 yX0_fold, Cond.static yX0_fold, Cond.code yX0_fold cX0_fold 3 (some .int)]
def wsX0_take : List Cond := .code yX0_take cX0_take 8 (some .int) :: ((wsX0_take_r1 ++ wsX0_take_r2) ++ wsX00)
def wsX0_taken_r1 : List Cond := [Cond.methodLink RX0 62 yX0_needProfile, Cond.instanceMethod yX0_needProfile, Cond.selects RX0 yX0_needProfile yX0_needProfile, Cond.initialized RX0, Cond.code yX0_needProfile cX0_needProfile 2 none, Cond.classLink RX0 69 "java/lang/IndexOutOfBoundsException", Cond.initialized "java/lang/IndexOutOfBoundsException", Cond.fieldLink RX0 43 "GamutChain" "profiles" "I", Cond.methodLink RX0 66 yX0_needBand, Cond.static yX0_needBand, Cond.code yX0_needBand cX0_needBand 1 none, Cond.methodLink RX0 74 yX0_needValue, Cond.static yX0_needValue, Cond.code yX0_needValue cX0_needValue 1 none, Cond.classLink RX0 80 "java/lang/IllegalArgumentException", Cond.initialized "java/lang/IllegalArgumentException", Cond.methodLink RX0 91 yX0_take, Cond.instanceMethod yX0_take, Cond.selects RX0 yX0_take yX0_take, Cond.code yX0_take cX0_take 8 (some .int), Cond.fieldLink RX0 13 "GamutChain" "leasts" "[I", Cond.fieldLink RX0 16 "GamutChain" "greatests" "[I", Cond.fieldLink RX0 19 "GamutChain" "ways" "[I", Cond.methodLink RX0 119 Lib.Math.min.name]
def wsX0_taken_r2 : List Cond := [Cond.static Lib.Math.min.name, Cond.initialized "java/lang/Math", Cond.code Lib.Math.min.name Lib.Math.min.code 2 (some .int), Cond.methodLink RX0 125 Lib.Math.max.name, Cond.static Lib.Math.max.name, Cond.code Lib.Math.max.name Lib.Math.max.code 2 (some .int), Cond.methodLink RX0 105 yX0_read, Cond.static yX0_read, Cond.code yX0_read cX0_read 2 (some .int), Cond.methodLink RX0 87 yX0_bent, Cond.instanceMethod yX0_bent, Cond.selects RX0 yX0_bent yX0_bent, Cond.code yX0_bent cX0_bent 4 (some .int), Cond.fieldLink RX0 9 "GamutChain" "bends" "[I", Cond.methodLink RX0 139 yX0_between, Cond.static yX0_between, Cond.code yX0_between cX0_between 7 (some .int), Cond.methodLink RX0 183 yJ9_floorDiv_7cf53, Cond.static yJ9_floorDiv_7cf53, Cond.initialized RJ9, Cond.code yJ9_floorDiv_7cf53 cJ9_floorDiv_7cf53 3 (some .int), Cond.methodLink RX0 186 yX0_fold, Cond.static yX0_fold, Cond.code yX0_fold cX0_fold 3 (some .int)]
def wsX0_taken : List Cond := .code yX0_taken cX0_taken 4 (some .int) :: ((wsX0_taken_r1 ++ wsX0_taken_r2) ++ wsX00 ++ (vx_atS RX0 73 "java/lang/IndexOutOfBoundsException" ["java/lang/RuntimeException", "java/lang/Exception"]).filter goodWord ++ (vx_atS RX0 84 "java/lang/IllegalArgumentException" ["java/lang/RuntimeException", "java/lang/Exception"]).filter goodWord)
def wsX0_chain : List Cond := .code yX0_chain cX0_chain 2 (some .int) :: ([.classLink RX0 47 "java/lang/IllegalStateException", .initialized "java/lang/IllegalStateException", .fieldLink RX0 94 "GamutChain" "chains" "I"] ++ wsX00 ++ (vx_atS RX0 51 "java/lang/IllegalStateException" ["java/lang/RuntimeException", "java/lang/Exception"]).filter goodWord)
def wsX0_needChain : List Cond := .code yX0_needChain cX0_needChain 2 none :: ([.classLink RX0 69 "java/lang/IndexOutOfBoundsException", .initialized "java/lang/IndexOutOfBoundsException", .fieldLink RX0 94 "GamutChain" "chains" "I"] ++ wsX00 ++ (vx_atS RX0 73 "java/lang/IndexOutOfBoundsException" ["java/lang/RuntimeException", "java/lang/Exception"]).filter goodWord)
def wsX0_needFreeChain : List Cond := .code yX0_needFreeChain cX0_needFreeChain 2 none :: ([.classLink RX0 47 "java/lang/IllegalStateException", .initialized "java/lang/IllegalStateException", .fieldLink RX0 146 "GamutChain" "signedChains" "I", .methodLink RX0 133 yX0_hasBit, .static yX0_hasBit, .initialized RX0, .code yX0_hasBit cX0_hasBit 2 (some .boolean)] ++ wsX00 ++ (vx_atS RX0 51 "java/lang/IllegalStateException" ["java/lang/RuntimeException", "java/lang/Exception"]).filter goodWord)
def wsX0_add_r1 : List Cond := [Cond.classLink RX0 47 "java/lang/IllegalStateException", Cond.initialized "java/lang/IllegalStateException", Cond.fieldLink RX0 25 "GamutChain" "lengths" "[I", Cond.fieldLink RX0 22 "GamutChain" "links" "[I", Cond.methodLink RX0 99 yX0_needChain, Cond.instanceMethod yX0_needChain, Cond.selects RX0 yX0_needChain yX0_needChain, Cond.initialized RX0, Cond.code yX0_needChain cX0_needChain 2 none, Cond.classLink RX0 69 "java/lang/IndexOutOfBoundsException", Cond.initialized "java/lang/IndexOutOfBoundsException", Cond.fieldLink RX0 94 "GamutChain" "chains" "I", Cond.methodLink RX0 62 yX0_needProfile, Cond.instanceMethod yX0_needProfile, Cond.selects RX0 yX0_needProfile yX0_needProfile, Cond.code yX0_needProfile cX0_needProfile 2 none, Cond.fieldLink RX0 43 "GamutChain" "profiles" "I", Cond.methodLink RX0 102 yX0_needFreeChain, Cond.instanceMethod yX0_needFreeChain, Cond.selects RX0 yX0_needFreeChain yX0_needFreeChain, Cond.code yX0_needFreeChain cX0_needFreeChain 2 none, Cond.fieldLink RX0 146 "GamutChain" "signedChains" "I", Cond.methodLink RX0 133 yX0_hasBit, Cond.static yX0_hasBit]
def wsX0_add_r2 : List Cond := [Cond.code yX0_hasBit cX0_hasBit 2 (some .boolean), Cond.methodLink RX0 105 yX0_read, Cond.static yX0_read, Cond.code yX0_read cX0_read 2 (some .int), Cond.methodLink RX0 58 yX0_swap, Cond.static yX0_swap, Cond.code yX0_swap cX0_swap 4 (some .int)]
def wsX0_add : List Cond := .code yX0_add cX0_add 4 (some .int) :: ((wsX0_add_r1 ++ wsX0_add_r2) ++ wsX00 ++ (vx_atS RX0 51 "java/lang/IllegalStateException" ["java/lang/RuntimeException", "java/lang/Exception"]).filter goodWord ++ (vx_atS RX0 73 "java/lang/IndexOutOfBoundsException" ["java/lang/RuntimeException", "java/lang/Exception"]).filter goodWord)
def wsX0_drop_r1 : List Cond := [Cond.classLink RX0 47 "java/lang/IllegalStateException", Cond.initialized "java/lang/IllegalStateException", Cond.fieldLink RX0 25 "GamutChain" "lengths" "[I", Cond.fieldLink RX0 22 "GamutChain" "links" "[I", Cond.methodLink RX0 99 yX0_needChain, Cond.instanceMethod yX0_needChain, Cond.selects RX0 yX0_needChain yX0_needChain, Cond.initialized RX0, Cond.code yX0_needChain cX0_needChain 2 none, Cond.classLink RX0 69 "java/lang/IndexOutOfBoundsException", Cond.initialized "java/lang/IndexOutOfBoundsException", Cond.fieldLink RX0 94 "GamutChain" "chains" "I", Cond.methodLink RX0 102 yX0_needFreeChain, Cond.instanceMethod yX0_needFreeChain, Cond.selects RX0 yX0_needFreeChain yX0_needFreeChain, Cond.code yX0_needFreeChain cX0_needFreeChain 2 none, Cond.fieldLink RX0 146 "GamutChain" "signedChains" "I", Cond.methodLink RX0 133 yX0_hasBit, Cond.static yX0_hasBit, Cond.code yX0_hasBit cX0_hasBit 2 (some .boolean), Cond.methodLink RX0 105 yX0_read, Cond.static yX0_read, Cond.code yX0_read cX0_read 2 (some .int), Cond.methodLink RX0 58 yX0_swap]
def wsX0_drop_r2 : List Cond := [Cond.static yX0_swap, Cond.code yX0_swap cX0_swap 4 (some .int)]
def wsX0_drop : List Cond := .code yX0_drop cX0_drop 3 (some .int) :: ((wsX0_drop_r1 ++ wsX0_drop_r2) ++ wsX00 ++ (vx_atS RX0 51 "java/lang/IllegalStateException" ["java/lang/RuntimeException", "java/lang/Exception"]).filter goodWord ++ (vx_atS RX0 73 "java/lang/IndexOutOfBoundsException" ["java/lang/RuntimeException", "java/lang/Exception"]).filter goodWord)
def wsX0_pass_r1 : List Cond := [Cond.fieldLink RX0 25 "GamutChain" "lengths" "[I", Cond.fieldLink RX0 22 "GamutChain" "links" "[I", Cond.methodLink RX0 105 yX0_read, Cond.static yX0_read, Cond.initialized RX0, Cond.code yX0_read cX0_read 2 (some .int), Cond.methodLink RX0 91 yX0_take, Cond.instanceMethod yX0_take, Cond.selects RX0 yX0_take yX0_take, Cond.code yX0_take cX0_take 8 (some .int), Cond.fieldLink RX0 13 "GamutChain" "leasts" "[I", Cond.fieldLink RX0 16 "GamutChain" "greatests" "[I", Cond.fieldLink RX0 19 "GamutChain" "ways" "[I", Cond.methodLink RX0 119 Lib.Math.min.name, Cond.static Lib.Math.min.name, Cond.initialized "java/lang/Math", Cond.code Lib.Math.min.name Lib.Math.min.code 2 (some .int), Cond.methodLink RX0 125 Lib.Math.max.name, Cond.static Lib.Math.max.name, Cond.code Lib.Math.max.name Lib.Math.max.code 2 (some .int), Cond.methodLink RX0 87 yX0_bent, Cond.instanceMethod yX0_bent, Cond.selects RX0 yX0_bent yX0_bent, Cond.code yX0_bent cX0_bent 4 (some .int)]
def wsX0_pass_r2 : List Cond := [Cond.fieldLink RX0 9 "GamutChain" "bends" "[I", Cond.methodLink RX0 139 yX0_between, Cond.static yX0_between, Cond.code yX0_between cX0_between 7 (some .int), Cond.methodLink RX0 183 yJ9_floorDiv_7cf53, Cond.static yJ9_floorDiv_7cf53, Cond.initialized RJ9, Cond.code yJ9_floorDiv_7cf53 cJ9_floorDiv_7cf53 3 (some .int), Cond.methodLink RX0 186 yX0_fold, Cond.static yX0_fold, Cond.code yX0_fold cX0_fold 3 (some .int)]
def wsX0_pass : List Cond := .code yX0_pass cX0_pass 7 (some .int) :: ((wsX0_pass_r1 ++ wsX0_pass_r2) ++ wsX00)
def wsX0_through_r1 : List Cond := [Cond.methodLink RX0 99 yX0_needChain, Cond.instanceMethod yX0_needChain, Cond.selects RX0 yX0_needChain yX0_needChain, Cond.initialized RX0, Cond.code yX0_needChain cX0_needChain 2 none, Cond.classLink RX0 69 "java/lang/IndexOutOfBoundsException", Cond.initialized "java/lang/IndexOutOfBoundsException", Cond.fieldLink RX0 94 "GamutChain" "chains" "I", Cond.methodLink RX0 66 yX0_needBand, Cond.static yX0_needBand, Cond.code yX0_needBand cX0_needBand 1 none, Cond.methodLink RX0 74 yX0_needValue, Cond.static yX0_needValue, Cond.code yX0_needValue cX0_needValue 1 none, Cond.classLink RX0 80 "java/lang/IllegalArgumentException", Cond.initialized "java/lang/IllegalArgumentException", Cond.methodLink RX0 113 yX0_pass, Cond.instanceMethod yX0_pass, Cond.selects RX0 yX0_pass yX0_pass, Cond.code yX0_pass cX0_pass 7 (some .int), Cond.fieldLink RX0 25 "GamutChain" "lengths" "[I", Cond.fieldLink RX0 22 "GamutChain" "links" "[I", Cond.methodLink RX0 105 yX0_read, Cond.static yX0_read]
def wsX0_through_r2 : List Cond := [Cond.code yX0_read cX0_read 2 (some .int), Cond.methodLink RX0 91 yX0_take, Cond.instanceMethod yX0_take, Cond.selects RX0 yX0_take yX0_take, Cond.code yX0_take cX0_take 8 (some .int), Cond.fieldLink RX0 13 "GamutChain" "leasts" "[I", Cond.fieldLink RX0 16 "GamutChain" "greatests" "[I", Cond.fieldLink RX0 19 "GamutChain" "ways" "[I", Cond.methodLink RX0 119 Lib.Math.min.name, Cond.static Lib.Math.min.name, Cond.initialized "java/lang/Math", Cond.code Lib.Math.min.name Lib.Math.min.code 2 (some .int), Cond.methodLink RX0 125 Lib.Math.max.name, Cond.static Lib.Math.max.name, Cond.code Lib.Math.max.name Lib.Math.max.code 2 (some .int), Cond.methodLink RX0 87 yX0_bent, Cond.instanceMethod yX0_bent, Cond.selects RX0 yX0_bent yX0_bent, Cond.code yX0_bent cX0_bent 4 (some .int), Cond.fieldLink RX0 9 "GamutChain" "bends" "[I", Cond.methodLink RX0 139 yX0_between, Cond.static yX0_between, Cond.code yX0_between cX0_between 7 (some .int), Cond.methodLink RX0 183 yJ9_floorDiv_7cf53]
def wsX0_through_r3 : List Cond := [Cond.static yJ9_floorDiv_7cf53, Cond.initialized RJ9, Cond.code yJ9_floorDiv_7cf53 cJ9_floorDiv_7cf53 3 (some .int), Cond.methodLink RX0 186 yX0_fold, Cond.static yX0_fold, Cond.code yX0_fold cX0_fold 3 (some .int)]
def wsX0_through : List Cond := .code yX0_through cX0_through 4 (some .int) :: ((wsX0_through_r1 ++ (wsX0_through_r2 ++ wsX0_through_r3)) ++ wsX00 ++ (vx_atS RX0 73 "java/lang/IndexOutOfBoundsException" ["java/lang/RuntimeException", "java/lang/Exception"]).filter goodWord ++ (vx_atS RX0 84 "java/lang/IllegalArgumentException" ["java/lang/RuntimeException", "java/lang/Exception"]).filter goodWord)
def wsX0_tryJoining_r1 : List Cond := [Cond.fieldLink RX0 31 "GamutChain" "trial" "[I", Cond.methodLink RX0 189 Lib.Math.abs.name, Cond.static Lib.Math.abs.name, Cond.initialized "java/lang/Math", Cond.code Lib.Math.abs.name Lib.Math.abs.code 1 (some .int), Cond.methodLink RX0 125 Lib.Math.max.name, Cond.static Lib.Math.max.name, Cond.code Lib.Math.max.name Lib.Math.max.code 2 (some .int), Cond.methodLink RX0 54 yX0_valueOfPlace, Cond.static yX0_valueOfPlace, Cond.initialized RX0, Cond.code yX0_valueOfPlace cX0_valueOfPlace 1 (some .int), Cond.methodLink RX0 119 Lib.Math.min.name, Cond.static Lib.Math.min.name, Cond.code Lib.Math.min.name Lib.Math.min.code 2 (some .int), Cond.methodLink RX0 113 yX0_pass, Cond.instanceMethod yX0_pass, Cond.selects RX0 yX0_pass yX0_pass, Cond.code yX0_pass cX0_pass 7 (some .int), Cond.fieldLink RX0 25 "GamutChain" "lengths" "[I", Cond.fieldLink RX0 22 "GamutChain" "links" "[I", Cond.methodLink RX0 105 yX0_read, Cond.static yX0_read, Cond.code yX0_read cX0_read 2 (some .int)]
def wsX0_tryJoining_r2 : List Cond := [Cond.methodLink RX0 91 yX0_take, Cond.instanceMethod yX0_take, Cond.selects RX0 yX0_take yX0_take, Cond.code yX0_take cX0_take 8 (some .int), Cond.fieldLink RX0 13 "GamutChain" "leasts" "[I", Cond.fieldLink RX0 16 "GamutChain" "greatests" "[I", Cond.fieldLink RX0 19 "GamutChain" "ways" "[I", Cond.methodLink RX0 87 yX0_bent, Cond.instanceMethod yX0_bent, Cond.selects RX0 yX0_bent yX0_bent, Cond.code yX0_bent cX0_bent 4 (some .int), Cond.fieldLink RX0 9 "GamutChain" "bends" "[I", Cond.methodLink RX0 139 yX0_between, Cond.static yX0_between, Cond.code yX0_between cX0_between 7 (some .int), Cond.methodLink RX0 183 yJ9_floorDiv_7cf53, Cond.static yJ9_floorDiv_7cf53, Cond.initialized RJ9, Cond.code yJ9_floorDiv_7cf53 cJ9_floorDiv_7cf53 3 (some .int), Cond.methodLink RX0 186 yX0_fold, Cond.static yX0_fold, Cond.code yX0_fold cX0_fold 3 (some .int), Cond.methodLink RX0 58 yX0_swap, Cond.static yX0_swap]
def wsX0_tryJoining_r3 : List Cond := [Cond.code yX0_swap cX0_swap 4 (some .int)]
def wsX0_tryJoining : List Cond := .code yX0_tryJoining cX0_tryJoining 6 (some .int) :: ((wsX0_tryJoining_r1 ++ (wsX0_tryJoining_r2 ++ wsX0_tryJoining_r3)) ++ wsX00)
def wsX0_gap_r1 : List Cond := [Cond.methodLink RX0 99 yX0_needChain, Cond.instanceMethod yX0_needChain, Cond.selects RX0 yX0_needChain yX0_needChain, Cond.initialized RX0, Cond.code yX0_needChain cX0_needChain 2 none, Cond.classLink RX0 69 "java/lang/IndexOutOfBoundsException", Cond.initialized "java/lang/IndexOutOfBoundsException", Cond.fieldLink RX0 94 "GamutChain" "chains" "I", Cond.methodLink RX0 116 yX0_tryJoining, Cond.instanceMethod yX0_tryJoining, Cond.selects RX0 yX0_tryJoining yX0_tryJoining, Cond.code yX0_tryJoining cX0_tryJoining 6 (some .int), Cond.fieldLink RX0 31 "GamutChain" "trial" "[I", Cond.methodLink RX0 189 Lib.Math.abs.name, Cond.static Lib.Math.abs.name, Cond.initialized "java/lang/Math", Cond.code Lib.Math.abs.name Lib.Math.abs.code 1 (some .int), Cond.methodLink RX0 125 Lib.Math.max.name, Cond.static Lib.Math.max.name, Cond.code Lib.Math.max.name Lib.Math.max.code 2 (some .int), Cond.methodLink RX0 54 yX0_valueOfPlace, Cond.static yX0_valueOfPlace, Cond.code yX0_valueOfPlace cX0_valueOfPlace 1 (some .int), Cond.methodLink RX0 119 Lib.Math.min.name]
def wsX0_gap_r2 : List Cond := [Cond.static Lib.Math.min.name, Cond.code Lib.Math.min.name Lib.Math.min.code 2 (some .int), Cond.methodLink RX0 113 yX0_pass, Cond.instanceMethod yX0_pass, Cond.selects RX0 yX0_pass yX0_pass, Cond.code yX0_pass cX0_pass 7 (some .int), Cond.fieldLink RX0 25 "GamutChain" "lengths" "[I", Cond.fieldLink RX0 22 "GamutChain" "links" "[I", Cond.methodLink RX0 105 yX0_read, Cond.static yX0_read, Cond.code yX0_read cX0_read 2 (some .int), Cond.methodLink RX0 91 yX0_take, Cond.instanceMethod yX0_take, Cond.selects RX0 yX0_take yX0_take, Cond.code yX0_take cX0_take 8 (some .int), Cond.fieldLink RX0 13 "GamutChain" "leasts" "[I", Cond.fieldLink RX0 16 "GamutChain" "greatests" "[I", Cond.fieldLink RX0 19 "GamutChain" "ways" "[I", Cond.methodLink RX0 87 yX0_bent, Cond.instanceMethod yX0_bent, Cond.selects RX0 yX0_bent yX0_bent, Cond.code yX0_bent cX0_bent 4 (some .int), Cond.fieldLink RX0 9 "GamutChain" "bends" "[I", Cond.methodLink RX0 139 yX0_between]
def wsX0_gap_r3 : List Cond := [Cond.static yX0_between, Cond.code yX0_between cX0_between 7 (some .int), Cond.methodLink RX0 183 yJ9_floorDiv_7cf53, Cond.static yJ9_floorDiv_7cf53, Cond.initialized RJ9, Cond.code yJ9_floorDiv_7cf53 cJ9_floorDiv_7cf53 3 (some .int), Cond.methodLink RX0 186 yX0_fold, Cond.static yX0_fold, Cond.code yX0_fold cX0_fold 3 (some .int), Cond.methodLink RX0 58 yX0_swap, Cond.static yX0_swap, Cond.code yX0_swap cX0_swap 4 (some .int)]
def wsX0_gap : List Cond := .code yX0_gap cX0_gap 2 (some .int) :: ((wsX0_gap_r1 ++ (wsX0_gap_r2 ++ wsX0_gap_r3)) ++ wsX00 ++ (vx_atS RX0 73 "java/lang/IndexOutOfBoundsException" ["java/lang/RuntimeException", "java/lang/Exception"]).filter goodWord)
def wsX0_greyGap_r1 : List Cond := [Cond.methodLink RX0 119 Lib.Math.min.name, Cond.static Lib.Math.min.name, Cond.initialized "java/lang/Math", Cond.code Lib.Math.min.name Lib.Math.min.code 2 (some .int), Cond.methodLink RX0 125 Lib.Math.max.name, Cond.static Lib.Math.max.name, Cond.code Lib.Math.max.name Lib.Math.max.code 2 (some .int), Cond.methodLink RX0 99 yX0_needChain, Cond.instanceMethod yX0_needChain, Cond.selects RX0 yX0_needChain yX0_needChain, Cond.initialized RX0, Cond.code yX0_needChain cX0_needChain 2 none, Cond.classLink RX0 69 "java/lang/IndexOutOfBoundsException", Cond.initialized "java/lang/IndexOutOfBoundsException", Cond.fieldLink RX0 94 "GamutChain" "chains" "I", Cond.methodLink RX0 113 yX0_pass, Cond.instanceMethod yX0_pass, Cond.selects RX0 yX0_pass yX0_pass, Cond.code yX0_pass cX0_pass 7 (some .int), Cond.fieldLink RX0 25 "GamutChain" "lengths" "[I", Cond.fieldLink RX0 22 "GamutChain" "links" "[I", Cond.methodLink RX0 105 yX0_read, Cond.static yX0_read, Cond.code yX0_read cX0_read 2 (some .int)]
def wsX0_greyGap_r2 : List Cond := [Cond.methodLink RX0 91 yX0_take, Cond.instanceMethod yX0_take, Cond.selects RX0 yX0_take yX0_take, Cond.code yX0_take cX0_take 8 (some .int), Cond.fieldLink RX0 13 "GamutChain" "leasts" "[I", Cond.fieldLink RX0 16 "GamutChain" "greatests" "[I", Cond.fieldLink RX0 19 "GamutChain" "ways" "[I", Cond.methodLink RX0 87 yX0_bent, Cond.instanceMethod yX0_bent, Cond.selects RX0 yX0_bent yX0_bent, Cond.code yX0_bent cX0_bent 4 (some .int), Cond.fieldLink RX0 9 "GamutChain" "bends" "[I", Cond.methodLink RX0 139 yX0_between, Cond.static yX0_between, Cond.code yX0_between cX0_between 7 (some .int), Cond.methodLink RX0 183 yJ9_floorDiv_7cf53, Cond.static yJ9_floorDiv_7cf53, Cond.initialized RJ9, Cond.code yJ9_floorDiv_7cf53 cJ9_floorDiv_7cf53 3 (some .int), Cond.methodLink RX0 186 yX0_fold, Cond.static yX0_fold, Cond.code yX0_fold cX0_fold 3 (some .int)]
def wsX0_greyGap : List Cond := .code yX0_greyGap cX0_greyGap 8 (some .int) :: ((wsX0_greyGap_r1 ++ wsX0_greyGap_r2) ++ wsX00 ++ (vx_atS RX0 73 "java/lang/IndexOutOfBoundsException" ["java/lang/RuntimeException", "java/lang/Exception"]).filter goodWord)
def wsX0_join_r1 : List Cond := [Cond.classLink RX0 47 "java/lang/IllegalStateException", Cond.initialized "java/lang/IllegalStateException", Cond.fieldLink RX0 28 "GamutChain" "kept" "[I", Cond.fieldLink RX0 31 "GamutChain" "trial" "[I", Cond.fieldLink RX0 130 "GamutChain" "joinedChains" "I", Cond.methodLink RX0 99 yX0_needChain, Cond.instanceMethod yX0_needChain, Cond.selects RX0 yX0_needChain yX0_needChain, Cond.initialized RX0, Cond.code yX0_needChain cX0_needChain 2 none, Cond.classLink RX0 69 "java/lang/IndexOutOfBoundsException", Cond.initialized "java/lang/IndexOutOfBoundsException", Cond.fieldLink RX0 94 "GamutChain" "chains" "I", Cond.methodLink RX0 74 yX0_needValue, Cond.static yX0_needValue, Cond.code yX0_needValue cX0_needValue 1 none, Cond.classLink RX0 80 "java/lang/IllegalArgumentException", Cond.initialized "java/lang/IllegalArgumentException", Cond.methodLink RX0 116 yX0_tryJoining, Cond.instanceMethod yX0_tryJoining, Cond.selects RX0 yX0_tryJoining yX0_tryJoining, Cond.code yX0_tryJoining cX0_tryJoining 6 (some .int), Cond.methodLink RX0 189 Lib.Math.abs.name, Cond.static Lib.Math.abs.name]
def wsX0_join_r2 : List Cond := [Cond.initialized "java/lang/Math", Cond.code Lib.Math.abs.name Lib.Math.abs.code 1 (some .int), Cond.methodLink RX0 125 Lib.Math.max.name, Cond.static Lib.Math.max.name, Cond.code Lib.Math.max.name Lib.Math.max.code 2 (some .int), Cond.methodLink RX0 54 yX0_valueOfPlace, Cond.static yX0_valueOfPlace, Cond.code yX0_valueOfPlace cX0_valueOfPlace 1 (some .int), Cond.methodLink RX0 119 Lib.Math.min.name, Cond.static Lib.Math.min.name, Cond.code Lib.Math.min.name Lib.Math.min.code 2 (some .int), Cond.methodLink RX0 113 yX0_pass, Cond.instanceMethod yX0_pass, Cond.selects RX0 yX0_pass yX0_pass, Cond.code yX0_pass cX0_pass 7 (some .int), Cond.fieldLink RX0 25 "GamutChain" "lengths" "[I", Cond.fieldLink RX0 22 "GamutChain" "links" "[I", Cond.methodLink RX0 105 yX0_read, Cond.static yX0_read, Cond.code yX0_read cX0_read 2 (some .int), Cond.methodLink RX0 91 yX0_take, Cond.instanceMethod yX0_take, Cond.selects RX0 yX0_take yX0_take, Cond.code yX0_take cX0_take 8 (some .int)]
def wsX0_join_r3 : List Cond := [Cond.fieldLink RX0 13 "GamutChain" "leasts" "[I", Cond.fieldLink RX0 16 "GamutChain" "greatests" "[I", Cond.fieldLink RX0 19 "GamutChain" "ways" "[I", Cond.methodLink RX0 87 yX0_bent, Cond.instanceMethod yX0_bent, Cond.selects RX0 yX0_bent yX0_bent, Cond.code yX0_bent cX0_bent 4 (some .int), Cond.fieldLink RX0 9 "GamutChain" "bends" "[I", Cond.methodLink RX0 139 yX0_between, Cond.static yX0_between, Cond.code yX0_between cX0_between 7 (some .int), Cond.methodLink RX0 183 yJ9_floorDiv_7cf53, Cond.static yJ9_floorDiv_7cf53, Cond.initialized RJ9, Cond.code yJ9_floorDiv_7cf53 cJ9_floorDiv_7cf53 3 (some .int), Cond.methodLink RX0 186 yX0_fold, Cond.static yX0_fold, Cond.code yX0_fold cX0_fold 3 (some .int), Cond.methodLink RX0 58 yX0_swap, Cond.static yX0_swap, Cond.code yX0_swap cX0_swap 4 (some .int)]
def wsX0_join : List Cond := .code yX0_join cX0_join 5 (some .int) :: ((wsX0_join_r1 ++ (wsX0_join_r2 ++ wsX0_join_r3)) ++ wsX00 ++ (vx_atS RX0 51 "java/lang/IllegalStateException" ["java/lang/RuntimeException", "java/lang/Exception"]).filter goodWord ++ (vx_atS RX0 73 "java/lang/IndexOutOfBoundsException" ["java/lang/RuntimeException", "java/lang/Exception"]).filter goodWord ++ (vx_atS RX0 84 "java/lang/IllegalArgumentException" ["java/lang/RuntimeException", "java/lang/Exception"]).filter goodWord)
def wsX0_joined_r1 : List Cond := [Cond.classLink RX0 47 "java/lang/IllegalStateException", Cond.initialized "java/lang/IllegalStateException", Cond.fieldLink RX0 130 "GamutChain" "joinedChains" "I", Cond.fieldLink RX0 28 "GamutChain" "kept" "[I", Cond.methodLink RX0 99 yX0_needChain, Cond.instanceMethod yX0_needChain, Cond.selects RX0 yX0_needChain yX0_needChain, Cond.initialized RX0, Cond.code yX0_needChain cX0_needChain 2 none, Cond.classLink RX0 69 "java/lang/IndexOutOfBoundsException", Cond.initialized "java/lang/IndexOutOfBoundsException", Cond.fieldLink RX0 94 "GamutChain" "chains" "I", Cond.methodLink RX0 66 yX0_needBand, Cond.static yX0_needBand, Cond.code yX0_needBand cX0_needBand 1 none, Cond.methodLink RX0 74 yX0_needValue, Cond.static yX0_needValue, Cond.code yX0_needValue cX0_needValue 1 none, Cond.classLink RX0 80 "java/lang/IllegalArgumentException", Cond.initialized "java/lang/IllegalArgumentException", Cond.methodLink RX0 133 yX0_hasBit, Cond.static yX0_hasBit, Cond.code yX0_hasBit cX0_hasBit 2 (some .boolean), Cond.methodLink RX0 139 yX0_between]
def wsX0_joined_r2 : List Cond := [Cond.static yX0_between, Cond.code yX0_between cX0_between 7 (some .int), Cond.methodLink RX0 105 yX0_read, Cond.static yX0_read, Cond.code yX0_read cX0_read 2 (some .int), Cond.methodLink RX0 183 yJ9_floorDiv_7cf53, Cond.static yJ9_floorDiv_7cf53, Cond.initialized RJ9, Cond.code yJ9_floorDiv_7cf53 cJ9_floorDiv_7cf53 3 (some .int)]
def wsX0_joined : List Cond := .code yX0_joined cX0_joined 4 (some .int) :: ((wsX0_joined_r1 ++ wsX0_joined_r2) ++ wsX00 ++ (vx_atS RX0 51 "java/lang/IllegalStateException" ["java/lang/RuntimeException", "java/lang/Exception"]).filter goodWord ++ (vx_atS RX0 73 "java/lang/IndexOutOfBoundsException" ["java/lang/RuntimeException", "java/lang/Exception"]).filter goodWord ++ (vx_atS RX0 84 "java/lang/IllegalArgumentException" ["java/lang/RuntimeException", "java/lang/Exception"]).filter goodWord)
def wsX0_differsFromKept_r1 : List Cond := [Cond.fieldLink RX0 28 "GamutChain" "kept" "[I", Cond.methodLink RX0 105 yX0_read, Cond.static yX0_read, Cond.initialized RX0, Cond.code yX0_read cX0_read 2 (some .int), Cond.methodLink RX0 54 yX0_valueOfPlace, Cond.static yX0_valueOfPlace, Cond.code yX0_valueOfPlace cX0_valueOfPlace 1 (some .int), Cond.methodLink RX0 119 Lib.Math.min.name, Cond.static Lib.Math.min.name, Cond.initialized "java/lang/Math", Cond.code Lib.Math.min.name Lib.Math.min.code 2 (some .int), Cond.methodLink RX0 113 yX0_pass, Cond.instanceMethod yX0_pass, Cond.selects RX0 yX0_pass yX0_pass, Cond.code yX0_pass cX0_pass 7 (some .int), Cond.fieldLink RX0 25 "GamutChain" "lengths" "[I", Cond.fieldLink RX0 22 "GamutChain" "links" "[I", Cond.methodLink RX0 91 yX0_take, Cond.instanceMethod yX0_take, Cond.selects RX0 yX0_take yX0_take, Cond.code yX0_take cX0_take 8 (some .int), Cond.fieldLink RX0 13 "GamutChain" "leasts" "[I", Cond.fieldLink RX0 16 "GamutChain" "greatests" "[I"]
def wsX0_differsFromKept_r2 : List Cond := [Cond.fieldLink RX0 19 "GamutChain" "ways" "[I", Cond.methodLink RX0 125 Lib.Math.max.name, Cond.static Lib.Math.max.name, Cond.code Lib.Math.max.name Lib.Math.max.code 2 (some .int), Cond.methodLink RX0 87 yX0_bent, Cond.instanceMethod yX0_bent, Cond.selects RX0 yX0_bent yX0_bent, Cond.code yX0_bent cX0_bent 4 (some .int), Cond.fieldLink RX0 9 "GamutChain" "bends" "[I", Cond.methodLink RX0 139 yX0_between, Cond.static yX0_between, Cond.code yX0_between cX0_between 7 (some .int), Cond.methodLink RX0 183 yJ9_floorDiv_7cf53, Cond.static yJ9_floorDiv_7cf53, Cond.initialized RJ9, Cond.code yJ9_floorDiv_7cf53 cJ9_floorDiv_7cf53 3 (some .int), Cond.methodLink RX0 186 yX0_fold, Cond.static yX0_fold, Cond.code yX0_fold cX0_fold 3 (some .int)]
def wsX0_differsFromKept : List Cond := .code yX0_differsFromKept cX0_differsFromKept 5 (some .boolean) :: ((wsX0_differsFromKept_r1 ++ wsX0_differsFromKept_r2) ++ wsX00)
def wsX0_stale_r1 : List Cond := [Cond.fieldLink RX0 130 "GamutChain" "joinedChains" "I", Cond.methodLink RX0 133 yX0_hasBit, Cond.static yX0_hasBit, Cond.initialized RX0, Cond.code yX0_hasBit cX0_hasBit 2 (some .boolean), Cond.methodLink RX0 142 yX0_differsFromKept, Cond.instanceMethod yX0_differsFromKept, Cond.selects RX0 yX0_differsFromKept yX0_differsFromKept, Cond.code yX0_differsFromKept cX0_differsFromKept 5 (some .boolean), Cond.fieldLink RX0 28 "GamutChain" "kept" "[I", Cond.methodLink RX0 105 yX0_read, Cond.static yX0_read, Cond.code yX0_read cX0_read 2 (some .int), Cond.methodLink RX0 54 yX0_valueOfPlace, Cond.static yX0_valueOfPlace, Cond.code yX0_valueOfPlace cX0_valueOfPlace 1 (some .int), Cond.methodLink RX0 119 Lib.Math.min.name, Cond.static Lib.Math.min.name, Cond.initialized "java/lang/Math", Cond.code Lib.Math.min.name Lib.Math.min.code 2 (some .int), Cond.methodLink RX0 113 yX0_pass, Cond.instanceMethod yX0_pass, Cond.selects RX0 yX0_pass yX0_pass, Cond.code yX0_pass cX0_pass 7 (some .int)]
def wsX0_stale_r2 : List Cond := [Cond.fieldLink RX0 25 "GamutChain" "lengths" "[I", Cond.fieldLink RX0 22 "GamutChain" "links" "[I", Cond.methodLink RX0 91 yX0_take, Cond.instanceMethod yX0_take, Cond.selects RX0 yX0_take yX0_take, Cond.code yX0_take cX0_take 8 (some .int), Cond.fieldLink RX0 13 "GamutChain" "leasts" "[I", Cond.fieldLink RX0 16 "GamutChain" "greatests" "[I", Cond.fieldLink RX0 19 "GamutChain" "ways" "[I", Cond.methodLink RX0 125 Lib.Math.max.name, Cond.static Lib.Math.max.name, Cond.code Lib.Math.max.name Lib.Math.max.code 2 (some .int), Cond.methodLink RX0 87 yX0_bent, Cond.instanceMethod yX0_bent, Cond.selects RX0 yX0_bent yX0_bent, Cond.code yX0_bent cX0_bent 4 (some .int), Cond.fieldLink RX0 9 "GamutChain" "bends" "[I", Cond.methodLink RX0 139 yX0_between, Cond.static yX0_between, Cond.code yX0_between cX0_between 7 (some .int), Cond.methodLink RX0 183 yJ9_floorDiv_7cf53, Cond.static yJ9_floorDiv_7cf53, Cond.initialized RJ9, Cond.code yJ9_floorDiv_7cf53 cJ9_floorDiv_7cf53 3 (some .int)]
def wsX0_stale_r3 : List Cond := [Cond.methodLink RX0 186 yX0_fold, Cond.static yX0_fold, Cond.code yX0_fold cX0_fold 3 (some .int)]
def wsX0_stale : List Cond := .code yX0_stale cX0_stale 3 (some .int) :: ((wsX0_stale_r1 ++ (wsX0_stale_r2 ++ wsX0_stale_r3)) ++ wsX00)
def wsX0_sign : List Cond := .code yX0_sign cX0_sign 2 (some .boolean) :: ([.fieldLink RX0 146 "GamutChain" "signedChains" "I", .methodLink RX0 99 yX0_needChain, .instanceMethod yX0_needChain, .selects RX0 yX0_needChain yX0_needChain, .initialized RX0, .code yX0_needChain cX0_needChain 2 none, .classLink RX0 69 "java/lang/IndexOutOfBoundsException", .initialized "java/lang/IndexOutOfBoundsException", .fieldLink RX0 94 "GamutChain" "chains" "I", .methodLink RX0 133 yX0_hasBit, .static yX0_hasBit, .code yX0_hasBit cX0_hasBit 2 (some .boolean)] ++ wsX00 ++ (vx_atS RX0 73 "java/lang/IndexOutOfBoundsException" ["java/lang/RuntimeException", "java/lang/Exception"]).filter goodWord)
def wsX0_needPixel : List Cond := .code yX0_needPixel cX0_needPixel 1 none :: ([.classLink RX0 69 "java/lang/IndexOutOfBoundsException", .initialized "java/lang/IndexOutOfBoundsException"] ++ (vx_atS RX0 73 "java/lang/IndexOutOfBoundsException" ["java/lang/RuntimeException", "java/lang/Exception"]).filter goodWord)
def wsX0_paint : List Cond := .code yX0_paint cX0_paint 4 (some .int) :: ([.fieldLink RX0 34 "GamutChain" "colours" "[I", .methodLink RX0 152 yX0_needPixel, .static yX0_needPixel, .initialized RX0, .code yX0_needPixel cX0_needPixel 1 none, .classLink RX0 69 "java/lang/IndexOutOfBoundsException", .initialized "java/lang/IndexOutOfBoundsException", .methodLink RX0 66 yX0_needBand, .static yX0_needBand, .code yX0_needBand cX0_needBand 1 none, .methodLink RX0 74 yX0_needValue, .static yX0_needValue, .code yX0_needValue cX0_needValue 1 none, .classLink RX0 80 "java/lang/IllegalArgumentException", .initialized "java/lang/IllegalArgumentException", .methodLink RX0 58 yX0_swap, .static yX0_swap, .code yX0_swap cX0_swap 4 (some .int)] ++ wsX00 ++ (vx_atS RX0 73 "java/lang/IndexOutOfBoundsException" ["java/lang/RuntimeException", "java/lang/Exception"]).filter goodWord ++ (vx_atS RX0 84 "java/lang/IllegalArgumentException" ["java/lang/RuntimeException", "java/lang/Exception"]).filter goodWord)
def wsX0_needInk : List Cond := .code yX0_needInk cX0_needInk 1 none :: ([.classLink RX0 69 "java/lang/IndexOutOfBoundsException", .initialized "java/lang/IndexOutOfBoundsException"] ++ (vx_atS RX0 73 "java/lang/IndexOutOfBoundsException" ["java/lang/RuntimeException", "java/lang/Exception"]).filter goodWord)
def wsX0_spot : List Cond := .code yX0_spot cX0_spot 4 (some .int) :: ([.fieldLink RX0 37 "GamutChain" "amounts" "[I", .methodLink RX0 152 yX0_needPixel, .static yX0_needPixel, .initialized RX0, .code yX0_needPixel cX0_needPixel 1 none, .classLink RX0 69 "java/lang/IndexOutOfBoundsException", .initialized "java/lang/IndexOutOfBoundsException", .methodLink RX0 155 yX0_needInk, .static yX0_needInk, .code yX0_needInk cX0_needInk 1 none, .methodLink RX0 74 yX0_needValue, .static yX0_needValue, .code yX0_needValue cX0_needValue 1 none, .classLink RX0 80 "java/lang/IllegalArgumentException", .initialized "java/lang/IllegalArgumentException", .methodLink RX0 58 yX0_swap, .static yX0_swap, .code yX0_swap cX0_swap 4 (some .int)] ++ wsX00 ++ (vx_atS RX0 73 "java/lang/IndexOutOfBoundsException" ["java/lang/RuntimeException", "java/lang/Exception"]).filter goodWord ++ (vx_atS RX0 84 "java/lang/IllegalArgumentException" ["java/lang/RuntimeException", "java/lang/Exception"]).filter goodWord)
def wsX0_mix : List Cond := .code yX0_mix cX0_mix 4 (some .int) :: ([.fieldLink RX0 40 "GamutChain" "mixes" "[I", .methodLink RX0 155 yX0_needInk, .static yX0_needInk, .initialized RX0, .code yX0_needInk cX0_needInk 1 none, .classLink RX0 69 "java/lang/IndexOutOfBoundsException", .initialized "java/lang/IndexOutOfBoundsException", .methodLink RX0 66 yX0_needBand, .static yX0_needBand, .code yX0_needBand cX0_needBand 1 none, .methodLink RX0 74 yX0_needValue, .static yX0_needValue, .code yX0_needValue cX0_needValue 1 none, .classLink RX0 80 "java/lang/IllegalArgumentException", .initialized "java/lang/IllegalArgumentException", .methodLink RX0 58 yX0_swap, .static yX0_swap, .code yX0_swap cX0_swap 4 (some .int)] ++ wsX00 ++ (vx_atS RX0 73 "java/lang/IndexOutOfBoundsException" ["java/lang/RuntimeException", "java/lang/Exception"]).filter goodWord ++ (vx_atS RX0 84 "java/lang/IllegalArgumentException" ["java/lang/RuntimeException", "java/lang/Exception"]).filter goodWord)
def wsX0_inked : List Cond := .code yX0_inked cX0_inked 7 (some .int) :: ([.fieldLink RX0 34 "GamutChain" "colours" "[I", .fieldLink RX0 40 "GamutChain" "mixes" "[I", .fieldLink RX0 37 "GamutChain" "amounts" "[I", .methodLink RX0 119 Lib.Math.min.name, .static Lib.Math.min.name, .initialized "java/lang/Math", .code Lib.Math.min.name Lib.Math.min.code 2 (some .int), .methodLink RX0 105 yX0_read, .static yX0_read, .initialized RX0, .code yX0_read cX0_read 2 (some .int), .methodLink RX0 133 yX0_hasBit, .static yX0_hasBit, .code yX0_hasBit cX0_hasBit 2 (some .boolean)] ++ wsX00)
def wsX0_shown_r1 : List Cond := [Cond.classLink RX0 80 "java/lang/IllegalArgumentException", Cond.initialized "java/lang/IllegalArgumentException", Cond.methodLink RX0 99 yX0_needChain, Cond.instanceMethod yX0_needChain, Cond.selects RX0 yX0_needChain yX0_needChain, Cond.initialized RX0, Cond.code yX0_needChain cX0_needChain 2 none, Cond.classLink RX0 69 "java/lang/IndexOutOfBoundsException", Cond.initialized "java/lang/IndexOutOfBoundsException", Cond.fieldLink RX0 94 "GamutChain" "chains" "I", Cond.methodLink RX0 152 yX0_needPixel, Cond.static yX0_needPixel, Cond.code yX0_needPixel cX0_needPixel 1 none, Cond.methodLink RX0 66 yX0_needBand, Cond.static yX0_needBand, Cond.code yX0_needBand cX0_needBand 1 none, Cond.methodLink RX0 160 yX0_inked, Cond.instanceMethod yX0_inked, Cond.selects RX0 yX0_inked yX0_inked, Cond.code yX0_inked cX0_inked 7 (some .int), Cond.fieldLink RX0 34 "GamutChain" "colours" "[I", Cond.fieldLink RX0 40 "GamutChain" "mixes" "[I", Cond.fieldLink RX0 37 "GamutChain" "amounts" "[I", Cond.methodLink RX0 119 Lib.Math.min.name]
def wsX0_shown_r2 : List Cond := [Cond.static Lib.Math.min.name, Cond.initialized "java/lang/Math", Cond.code Lib.Math.min.name Lib.Math.min.code 2 (some .int), Cond.methodLink RX0 105 yX0_read, Cond.static yX0_read, Cond.code yX0_read cX0_read 2 (some .int), Cond.methodLink RX0 133 yX0_hasBit, Cond.static yX0_hasBit, Cond.code yX0_hasBit cX0_hasBit 2 (some .boolean), Cond.methodLink RX0 113 yX0_pass, Cond.instanceMethod yX0_pass, Cond.selects RX0 yX0_pass yX0_pass, Cond.code yX0_pass cX0_pass 7 (some .int), Cond.fieldLink RX0 25 "GamutChain" "lengths" "[I", Cond.fieldLink RX0 22 "GamutChain" "links" "[I", Cond.methodLink RX0 91 yX0_take, Cond.instanceMethod yX0_take, Cond.selects RX0 yX0_take yX0_take, Cond.code yX0_take cX0_take 8 (some .int), Cond.fieldLink RX0 13 "GamutChain" "leasts" "[I", Cond.fieldLink RX0 16 "GamutChain" "greatests" "[I", Cond.fieldLink RX0 19 "GamutChain" "ways" "[I", Cond.methodLink RX0 125 Lib.Math.max.name, Cond.static Lib.Math.max.name]
def wsX0_shown_r3 : List Cond := [Cond.code Lib.Math.max.name Lib.Math.max.code 2 (some .int), Cond.methodLink RX0 87 yX0_bent, Cond.instanceMethod yX0_bent, Cond.selects RX0 yX0_bent yX0_bent, Cond.code yX0_bent cX0_bent 4 (some .int), Cond.fieldLink RX0 9 "GamutChain" "bends" "[I", Cond.methodLink RX0 139 yX0_between, Cond.static yX0_between, Cond.code yX0_between cX0_between 7 (some .int), Cond.methodLink RX0 183 yJ9_floorDiv_7cf53, Cond.static yJ9_floorDiv_7cf53, Cond.initialized RJ9, Cond.code yJ9_floorDiv_7cf53 cJ9_floorDiv_7cf53 3 (some .int), Cond.methodLink RX0 186 yX0_fold, Cond.static yX0_fold, Cond.code yX0_fold cX0_fold 3 (some .int)]
def wsX0_shown : List Cond := .code yX0_shown cX0_shown 5 (some .int) :: ((wsX0_shown_r1 ++ (wsX0_shown_r2 ++ wsX0_shown_r3)) ++ wsX00 ++ (vx_atS RX0 84 "java/lang/IllegalArgumentException" ["java/lang/RuntimeException", "java/lang/Exception"]).filter goodWord ++ (vx_atS RX0 73 "java/lang/IndexOutOfBoundsException" ["java/lang/RuntimeException", "java/lang/Exception"]).filter goodWord)
def wsX1_init : List Cond := .code yX1_init cX1_init 1 none :: ([.methodLink RX1 1 objectInit, .instanceMethod objectInit, .code objectInit ⟨#[0xb1]⟩ 1 none, .arrayClass .int, .fieldLink RX1 7 "GamutChainModel" "bends" "[I", .fieldLink RX1 13 "GamutChainModel" "least" "[I", .fieldLink RX1 16 "GamutChainModel" "greatest" "[I", .fieldLink RX1 19 "GamutChainModel" "ways" "[I", .fieldLink RX1 22 "GamutChainModel" "many" "[I", .fieldLink RX1 25 "GamutChainModel" "links" "[I", .arrayClass .boolean, .fieldLink RX1 28 "GamutChainModel" "isJoined" "[Z", .fieldLink RX1 32 "GamutChainModel" "isSigned" "[Z", .fieldLink RX1 35 "GamutChainModel" "kept" "[I", .fieldLink RX1 38 "GamutChainModel" "picture" "[I", .fieldLink RX1 41 "GamutChainModel" "amounts" "[I", .fieldLink RX1 44 "GamutChainModel" "mixes" "[I", .fieldLink RX1 47 "GamutChainModel" "five" "[I"] ++ wsX10)
def wsX1_thrown : List Cond := .code yX1_thrown cX1_thrown 1 (some .int) :: ([.fieldLink RX1 50 "GamutChainModel" "thrown" "I"] ++ wsX10)
def wsX1_may : List Cond := .code yX1_may cX1_may 2 (some .boolean) :: ([.fieldLink RX1 50 "GamutChainModel" "thrown" "I"] ++ wsX10)
def wsX1_mayBoth : List Cond := .code yX1_mayBoth cX1_mayBoth 3 (some .boolean) :: ([.fieldLink RX1 50 "GamutChainModel" "thrown" "I"] ++ wsX10)
def wsX1_mayAll : List Cond := .code yX1_mayAll cX1_mayAll 4 (some .boolean) :: ([.fieldLink RX1 50 "GamutChainModel" "thrown" "I"] ++ wsX10)
def wsX1_isIn : List Cond := .code yX1_isIn cX1_isIn 3 (some .boolean) :: ([])
def wsX1_isByte : List Cond := .code yX1_isByte cX1_isByte 1 (some .boolean) :: ([.methodLink RX1 54 yX1_isIn, .static yX1_isIn, .initialized RX1, .code yX1_isIn cX1_isIn 3 (some .boolean)])
def wsX1_isThird : List Cond := .code yX1_isThird cX1_isThird 1 (some .boolean) :: ([.methodLink RX1 54 yX1_isIn, .static yX1_isIn, .initialized RX1, .code yX1_isIn cX1_isIn 3 (some .boolean)])
def wsX1_isProfile : List Cond := .code yX1_isProfile cX1_isProfile 2 (some .boolean) :: ([.fieldLink RX1 58 "GamutChainModel" "profiles" "I", .methodLink RX1 54 yX1_isIn, .static yX1_isIn, .initialized RX1, .code yX1_isIn cX1_isIn 3 (some .boolean)] ++ wsX10)
def wsX1_isChain : List Cond := .code yX1_isChain cX1_isChain 2 (some .boolean) :: ([.fieldLink RX1 61 "GamutChainModel" "chains" "I", .methodLink RX1 54 yX1_isIn, .static yX1_isIn, .initialized RX1, .code yX1_isIn cX1_isIn 3 (some .boolean)] ++ wsX10)
def wsX1_placeAt : List Cond := .code yX1_placeAt cX1_placeAt 1 (some .int) :: ([])
def wsX1_quotient : List Cond := .code yX1_quotient cX1_quotient 3 (some .int) :: ([])
def wsX1_between : List Cond := .code yX1_between cX1_between 3 (some .int) :: ([.fieldLink RX1 47 "GamutChainModel" "five" "[I", .methodLink RX1 64 yX1_placeAt, .static yX1_placeAt, .initialized RX1, .code yX1_placeAt cX1_placeAt 1 (some .int), .methodLink RX1 68 yX1_quotient, .static yX1_quotient, .code yX1_quotient cX1_quotient 3 (some .int)] ++ wsX10)
def wsX1_curveOf : List Cond := .code yX1_curveOf cX1_curveOf 5 (some .int) :: ([.fieldLink RX1 47 "GamutChainModel" "five" "[I", .fieldLink RX1 7 "GamutChainModel" "bends" "[I", .methodLink RX1 72 yX1_between, .instanceMethod yX1_between, .selects RX1 yX1_between yX1_between, .initialized RX1, .code yX1_between cX1_between 3 (some .int), .methodLink RX1 64 yX1_placeAt, .static yX1_placeAt, .code yX1_placeAt cX1_placeAt 1 (some .int), .methodLink RX1 68 yX1_quotient, .static yX1_quotient, .code yX1_quotient cX1_quotient 3 (some .int)] ++ wsX10)
def wsX1_takenBy : List Cond := .code yX1_takenBy cX1_takenBy 7 (some .int) :: ([.fieldLink RX1 13 "GamutChainModel" "least" "[I", .fieldLink RX1 16 "GamutChainModel" "greatest" "[I", .fieldLink RX1 19 "GamutChainModel" "ways" "[I", .methodLink RX1 75 yX1_curveOf, .instanceMethod yX1_curveOf, .selects RX1 yX1_curveOf yX1_curveOf, .initialized RX1, .code yX1_curveOf cX1_curveOf 5 (some .int), .fieldLink RX1 47 "GamutChainModel" "five" "[I", .fieldLink RX1 7 "GamutChainModel" "bends" "[I", .methodLink RX1 72 yX1_between, .instanceMethod yX1_between, .selects RX1 yX1_between yX1_between, .code yX1_between cX1_between 3 (some .int), .methodLink RX1 64 yX1_placeAt, .static yX1_placeAt, .code yX1_placeAt cX1_placeAt 1 (some .int), .methodLink RX1 68 yX1_quotient, .static yX1_quotient, .code yX1_quotient cX1_quotient 3 (some .int)] ++ wsX10)
def wsX1_throughOf_r1 : List Cond := [Cond.fieldLink RX1 22 "GamutChainModel" "many" "[I", Cond.fieldLink RX1 25 "GamutChainModel" "links" "[I", Cond.methodLink RX1 79 yX1_takenBy, Cond.instanceMethod yX1_takenBy, Cond.selects RX1 yX1_takenBy yX1_takenBy, Cond.initialized RX1, Cond.code yX1_takenBy cX1_takenBy 7 (some .int), Cond.fieldLink RX1 13 "GamutChainModel" "least" "[I", Cond.fieldLink RX1 16 "GamutChainModel" "greatest" "[I", Cond.fieldLink RX1 19 "GamutChainModel" "ways" "[I", Cond.methodLink RX1 75 yX1_curveOf, Cond.instanceMethod yX1_curveOf, Cond.selects RX1 yX1_curveOf yX1_curveOf, Cond.code yX1_curveOf cX1_curveOf 5 (some .int), Cond.fieldLink RX1 47 "GamutChainModel" "five" "[I", Cond.fieldLink RX1 7 "GamutChainModel" "bends" "[I", Cond.methodLink RX1 72 yX1_between, Cond.instanceMethod yX1_between, Cond.selects RX1 yX1_between yX1_between, Cond.code yX1_between cX1_between 3 (some .int), Cond.methodLink RX1 64 yX1_placeAt, Cond.static yX1_placeAt, Cond.code yX1_placeAt cX1_placeAt 1 (some .int), Cond.methodLink RX1 68 yX1_quotient]
def wsX1_throughOf_r2 : List Cond := [Cond.static yX1_quotient, Cond.code yX1_quotient cX1_quotient 3 (some .int)]
def wsX1_throughOf : List Cond := .code yX1_throughOf cX1_throughOf 6 (some .int) :: ((wsX1_throughOf_r1 ++ wsX1_throughOf_r2) ++ wsX10)
def wsX1_isHeld : List Cond := .code yX1_isHeld cX1_isHeld 5 (some .boolean) :: ([.fieldLink RX1 61 "GamutChainModel" "chains" "I", .fieldLink RX1 22 "GamutChainModel" "many" "[I", .fieldLink RX1 32 "GamutChainModel" "isSigned" "[Z", .fieldLink RX1 25 "GamutChainModel" "links" "[I"] ++ wsX10)
def wsX1_profile : List Cond := .code yX1_profile cX1_profile 3 (some .int) :: ([.fieldLink RX1 58 "GamutChainModel" "profiles" "I", .fieldLink RX1 7 "GamutChainModel" "bends" "[I", .fieldLink RX1 16 "GamutChainModel" "greatest" "[I", .methodLink RX1 82 yX1_may, .instanceMethod yX1_may, .selects RX1 yX1_may yX1_may, .initialized RX1, .code yX1_may cX1_may 2 (some .boolean), .fieldLink RX1 50 "GamutChainModel" "thrown" "I", .methodLink RX1 64 yX1_placeAt, .static yX1_placeAt, .code yX1_placeAt cX1_placeAt 1 (some .int)] ++ wsX10)
def wsX1_bend_r1 : List Cond := [Cond.fieldLink RX1 7 "GamutChainModel" "bends" "[I", Cond.methodLink RX1 86 yX1_isProfile, Cond.instanceMethod yX1_isProfile, Cond.selects RX1 yX1_isProfile yX1_isProfile, Cond.initialized RX1, Cond.code yX1_isProfile cX1_isProfile 2 (some .boolean), Cond.fieldLink RX1 58 "GamutChainModel" "profiles" "I", Cond.methodLink RX1 54 yX1_isIn, Cond.static yX1_isIn, Cond.code yX1_isIn cX1_isIn 3 (some .boolean), Cond.methodLink RX1 90 yX1_isThird, Cond.static yX1_isThird, Cond.code yX1_isThird cX1_isThird 1 (some .boolean), Cond.methodLink RX1 93 yX1_isByte, Cond.static yX1_isByte, Cond.code yX1_isByte cX1_isByte 1 (some .boolean), Cond.methodLink RX1 96 yX1_isHeld, Cond.instanceMethod yX1_isHeld, Cond.selects RX1 yX1_isHeld yX1_isHeld, Cond.code yX1_isHeld cX1_isHeld 5 (some .boolean), Cond.fieldLink RX1 61 "GamutChainModel" "chains" "I", Cond.fieldLink RX1 22 "GamutChainModel" "many" "[I", Cond.fieldLink RX1 32 "GamutChainModel" "isSigned" "[Z", Cond.fieldLink RX1 25 "GamutChainModel" "links" "[I"]
def wsX1_bend_r2 : List Cond := [Cond.methodLink RX1 99 yX1_mayAll, Cond.instanceMethod yX1_mayAll, Cond.selects RX1 yX1_mayAll yX1_mayAll, Cond.code yX1_mayAll cX1_mayAll 4 (some .boolean), Cond.fieldLink RX1 50 "GamutChainModel" "thrown" "I"]
def wsX1_bend : List Cond := .code yX1_bend cX1_bend 7 (some .int) :: ((wsX1_bend_r1 ++ wsX1_bend_r2) ++ wsX10)
def wsX1_reach_r1 : List Cond := [Cond.fieldLink RX1 16 "GamutChainModel" "greatest" "[I", Cond.fieldLink RX1 13 "GamutChainModel" "least" "[I", Cond.methodLink RX1 86 yX1_isProfile, Cond.instanceMethod yX1_isProfile, Cond.selects RX1 yX1_isProfile yX1_isProfile, Cond.initialized RX1, Cond.code yX1_isProfile cX1_isProfile 2 (some .boolean), Cond.fieldLink RX1 58 "GamutChainModel" "profiles" "I", Cond.methodLink RX1 54 yX1_isIn, Cond.static yX1_isIn, Cond.code yX1_isIn cX1_isIn 3 (some .boolean), Cond.methodLink RX1 90 yX1_isThird, Cond.static yX1_isThird, Cond.code yX1_isThird cX1_isThird 1 (some .boolean), Cond.methodLink RX1 93 yX1_isByte, Cond.static yX1_isByte, Cond.code yX1_isByte cX1_isByte 1 (some .boolean), Cond.methodLink RX1 96 yX1_isHeld, Cond.instanceMethod yX1_isHeld, Cond.selects RX1 yX1_isHeld yX1_isHeld, Cond.code yX1_isHeld cX1_isHeld 5 (some .boolean), Cond.fieldLink RX1 61 "GamutChainModel" "chains" "I", Cond.fieldLink RX1 22 "GamutChainModel" "many" "[I", Cond.fieldLink RX1 32 "GamutChainModel" "isSigned" "[Z"]
def wsX1_reach_r2 : List Cond := [Cond.fieldLink RX1 25 "GamutChainModel" "links" "[I", Cond.methodLink RX1 99 yX1_mayAll, Cond.instanceMethod yX1_mayAll, Cond.selects RX1 yX1_mayAll yX1_mayAll, Cond.code yX1_mayAll cX1_mayAll 4 (some .boolean), Cond.fieldLink RX1 50 "GamutChainModel" "thrown" "I"]
def wsX1_reach : List Cond := .code yX1_reach cX1_reach 7 (some .int) :: ((wsX1_reach_r1 ++ wsX1_reach_r2) ++ wsX10)
def wsX1_way : List Cond := .code yX1_way cX1_way 5 (some .int) :: ([.fieldLink RX1 19 "GamutChainModel" "ways" "[I", .methodLink RX1 86 yX1_isProfile, .instanceMethod yX1_isProfile, .selects RX1 yX1_isProfile yX1_isProfile, .initialized RX1, .code yX1_isProfile cX1_isProfile 2 (some .boolean), .fieldLink RX1 58 "GamutChainModel" "profiles" "I", .methodLink RX1 54 yX1_isIn, .static yX1_isIn, .code yX1_isIn cX1_isIn 3 (some .boolean), .methodLink RX1 96 yX1_isHeld, .instanceMethod yX1_isHeld, .selects RX1 yX1_isHeld yX1_isHeld, .code yX1_isHeld cX1_isHeld 5 (some .boolean), .fieldLink RX1 61 "GamutChainModel" "chains" "I", .fieldLink RX1 22 "GamutChainModel" "many" "[I", .fieldLink RX1 32 "GamutChainModel" "isSigned" "[Z", .fieldLink RX1 25 "GamutChainModel" "links" "[I", .methodLink RX1 99 yX1_mayAll, .instanceMethod yX1_mayAll, .selects RX1 yX1_mayAll yX1_mayAll, .code yX1_mayAll cX1_mayAll 4 (some .boolean), .fieldLink RX1 50 "GamutChainModel" "thrown" "I"] ++ wsX10)
def wsX1_curve_r1 : List Cond := [Cond.methodLink RX1 86 yX1_isProfile, Cond.instanceMethod yX1_isProfile, Cond.selects RX1 yX1_isProfile yX1_isProfile, Cond.initialized RX1, Cond.code yX1_isProfile cX1_isProfile 2 (some .boolean), Cond.fieldLink RX1 58 "GamutChainModel" "profiles" "I", Cond.methodLink RX1 54 yX1_isIn, Cond.static yX1_isIn, Cond.code yX1_isIn cX1_isIn 3 (some .boolean), Cond.methodLink RX1 90 yX1_isThird, Cond.static yX1_isThird, Cond.code yX1_isThird cX1_isThird 1 (some .boolean), Cond.methodLink RX1 93 yX1_isByte, Cond.static yX1_isByte, Cond.code yX1_isByte cX1_isByte 1 (some .boolean), Cond.methodLink RX1 103 yX1_mayBoth, Cond.instanceMethod yX1_mayBoth, Cond.selects RX1 yX1_mayBoth yX1_mayBoth, Cond.code yX1_mayBoth cX1_mayBoth 3 (some .boolean), Cond.fieldLink RX1 50 "GamutChainModel" "thrown" "I", Cond.methodLink RX1 75 yX1_curveOf, Cond.instanceMethod yX1_curveOf, Cond.selects RX1 yX1_curveOf yX1_curveOf, Cond.code yX1_curveOf cX1_curveOf 5 (some .int)]
def wsX1_curve_r2 : List Cond := [Cond.fieldLink RX1 47 "GamutChainModel" "five" "[I", Cond.fieldLink RX1 7 "GamutChainModel" "bends" "[I", Cond.methodLink RX1 72 yX1_between, Cond.instanceMethod yX1_between, Cond.selects RX1 yX1_between yX1_between, Cond.code yX1_between cX1_between 3 (some .int), Cond.methodLink RX1 64 yX1_placeAt, Cond.static yX1_placeAt, Cond.code yX1_placeAt cX1_placeAt 1 (some .int), Cond.methodLink RX1 68 yX1_quotient, Cond.static yX1_quotient, Cond.code yX1_quotient cX1_quotient 3 (some .int)]
def wsX1_curve : List Cond := .code yX1_curve cX1_curve 4 (some .int) :: ((wsX1_curve_r1 ++ wsX1_curve_r2) ++ wsX10)
def wsX1_taken_r1 : List Cond := [Cond.methodLink RX1 86 yX1_isProfile, Cond.instanceMethod yX1_isProfile, Cond.selects RX1 yX1_isProfile yX1_isProfile, Cond.initialized RX1, Cond.code yX1_isProfile cX1_isProfile 2 (some .boolean), Cond.fieldLink RX1 58 "GamutChainModel" "profiles" "I", Cond.methodLink RX1 54 yX1_isIn, Cond.static yX1_isIn, Cond.code yX1_isIn cX1_isIn 3 (some .boolean), Cond.methodLink RX1 90 yX1_isThird, Cond.static yX1_isThird, Cond.code yX1_isThird cX1_isThird 1 (some .boolean), Cond.methodLink RX1 93 yX1_isByte, Cond.static yX1_isByte, Cond.code yX1_isByte cX1_isByte 1 (some .boolean), Cond.methodLink RX1 103 yX1_mayBoth, Cond.instanceMethod yX1_mayBoth, Cond.selects RX1 yX1_mayBoth yX1_mayBoth, Cond.code yX1_mayBoth cX1_mayBoth 3 (some .boolean), Cond.fieldLink RX1 50 "GamutChainModel" "thrown" "I", Cond.methodLink RX1 79 yX1_takenBy, Cond.instanceMethod yX1_takenBy, Cond.selects RX1 yX1_takenBy yX1_takenBy, Cond.code yX1_takenBy cX1_takenBy 7 (some .int)]
def wsX1_taken_r2 : List Cond := [Cond.fieldLink RX1 13 "GamutChainModel" "least" "[I", Cond.fieldLink RX1 16 "GamutChainModel" "greatest" "[I", Cond.fieldLink RX1 19 "GamutChainModel" "ways" "[I", Cond.methodLink RX1 75 yX1_curveOf, Cond.instanceMethod yX1_curveOf, Cond.selects RX1 yX1_curveOf yX1_curveOf, Cond.code yX1_curveOf cX1_curveOf 5 (some .int), Cond.fieldLink RX1 47 "GamutChainModel" "five" "[I", Cond.fieldLink RX1 7 "GamutChainModel" "bends" "[I", Cond.methodLink RX1 72 yX1_between, Cond.instanceMethod yX1_between, Cond.selects RX1 yX1_between yX1_between, Cond.code yX1_between cX1_between 3 (some .int), Cond.methodLink RX1 64 yX1_placeAt, Cond.static yX1_placeAt, Cond.code yX1_placeAt cX1_placeAt 1 (some .int), Cond.methodLink RX1 68 yX1_quotient, Cond.static yX1_quotient, Cond.code yX1_quotient cX1_quotient 3 (some .int)]
def wsX1_taken : List Cond := .code yX1_taken cX1_taken 4 (some .int) :: ((wsX1_taken_r1 ++ wsX1_taken_r2) ++ wsX10)
def wsX1_chain : List Cond := .code yX1_chain cX1_chain 1 (some .int) :: ([.fieldLink RX1 61 "GamutChainModel" "chains" "I", .methodLink RX1 82 yX1_may, .instanceMethod yX1_may, .selects RX1 yX1_may yX1_may, .initialized RX1, .code yX1_may cX1_may 2 (some .boolean), .fieldLink RX1 50 "GamutChainModel" "thrown" "I"] ++ wsX10)
def wsX1_add : List Cond := .code yX1_add cX1_add 4 (some .int) :: ([.fieldLink RX1 32 "GamutChainModel" "isSigned" "[Z", .fieldLink RX1 22 "GamutChainModel" "many" "[I", .fieldLink RX1 25 "GamutChainModel" "links" "[I", .methodLink RX1 107 yX1_isChain, .instanceMethod yX1_isChain, .selects RX1 yX1_isChain yX1_isChain, .initialized RX1, .code yX1_isChain cX1_isChain 2 (some .boolean), .fieldLink RX1 61 "GamutChainModel" "chains" "I", .methodLink RX1 54 yX1_isIn, .static yX1_isIn, .code yX1_isIn cX1_isIn 3 (some .boolean), .methodLink RX1 86 yX1_isProfile, .instanceMethod yX1_isProfile, .selects RX1 yX1_isProfile yX1_isProfile, .code yX1_isProfile cX1_isProfile 2 (some .boolean), .fieldLink RX1 58 "GamutChainModel" "profiles" "I", .methodLink RX1 103 yX1_mayBoth, .instanceMethod yX1_mayBoth, .selects RX1 yX1_mayBoth yX1_mayBoth, .code yX1_mayBoth cX1_mayBoth 3 (some .boolean), .fieldLink RX1 50 "GamutChainModel" "thrown" "I"] ++ wsX10)
def wsX1_drop : List Cond := .code yX1_drop cX1_drop 3 (some .int) :: ([.fieldLink RX1 32 "GamutChainModel" "isSigned" "[Z", .fieldLink RX1 22 "GamutChainModel" "many" "[I", .fieldLink RX1 25 "GamutChainModel" "links" "[I", .methodLink RX1 107 yX1_isChain, .instanceMethod yX1_isChain, .selects RX1 yX1_isChain yX1_isChain, .initialized RX1, .code yX1_isChain cX1_isChain 2 (some .boolean), .fieldLink RX1 61 "GamutChainModel" "chains" "I", .methodLink RX1 54 yX1_isIn, .static yX1_isIn, .code yX1_isIn cX1_isIn 3 (some .boolean), .methodLink RX1 103 yX1_mayBoth, .instanceMethod yX1_mayBoth, .selects RX1 yX1_mayBoth yX1_mayBoth, .code yX1_mayBoth cX1_mayBoth 3 (some .boolean), .fieldLink RX1 50 "GamutChainModel" "thrown" "I"] ++ wsX10)
def wsX1_through_r1 : List Cond := [Cond.methodLink RX1 107 yX1_isChain, Cond.instanceMethod yX1_isChain, Cond.selects RX1 yX1_isChain yX1_isChain, Cond.initialized RX1, Cond.code yX1_isChain cX1_isChain 2 (some .boolean), Cond.fieldLink RX1 61 "GamutChainModel" "chains" "I", Cond.methodLink RX1 54 yX1_isIn, Cond.static yX1_isIn, Cond.code yX1_isIn cX1_isIn 3 (some .boolean), Cond.methodLink RX1 90 yX1_isThird, Cond.static yX1_isThird, Cond.code yX1_isThird cX1_isThird 1 (some .boolean), Cond.methodLink RX1 93 yX1_isByte, Cond.static yX1_isByte, Cond.code yX1_isByte cX1_isByte 1 (some .boolean), Cond.methodLink RX1 103 yX1_mayBoth, Cond.instanceMethod yX1_mayBoth, Cond.selects RX1 yX1_mayBoth yX1_mayBoth, Cond.code yX1_mayBoth cX1_mayBoth 3 (some .boolean), Cond.fieldLink RX1 50 "GamutChainModel" "thrown" "I", Cond.methodLink RX1 110 yX1_throughOf, Cond.instanceMethod yX1_throughOf, Cond.selects RX1 yX1_throughOf yX1_throughOf, Cond.code yX1_throughOf cX1_throughOf 6 (some .int)]
def wsX1_through_r2 : List Cond := [Cond.fieldLink RX1 22 "GamutChainModel" "many" "[I", Cond.fieldLink RX1 25 "GamutChainModel" "links" "[I", Cond.methodLink RX1 79 yX1_takenBy, Cond.instanceMethod yX1_takenBy, Cond.selects RX1 yX1_takenBy yX1_takenBy, Cond.code yX1_takenBy cX1_takenBy 7 (some .int), Cond.fieldLink RX1 13 "GamutChainModel" "least" "[I", Cond.fieldLink RX1 16 "GamutChainModel" "greatest" "[I", Cond.fieldLink RX1 19 "GamutChainModel" "ways" "[I", Cond.methodLink RX1 75 yX1_curveOf, Cond.instanceMethod yX1_curveOf, Cond.selects RX1 yX1_curveOf yX1_curveOf, Cond.code yX1_curveOf cX1_curveOf 5 (some .int), Cond.fieldLink RX1 47 "GamutChainModel" "five" "[I", Cond.fieldLink RX1 7 "GamutChainModel" "bends" "[I", Cond.methodLink RX1 72 yX1_between, Cond.instanceMethod yX1_between, Cond.selects RX1 yX1_between yX1_between, Cond.code yX1_between cX1_between 3 (some .int), Cond.methodLink RX1 64 yX1_placeAt, Cond.static yX1_placeAt, Cond.code yX1_placeAt cX1_placeAt 1 (some .int), Cond.methodLink RX1 68 yX1_quotient, Cond.static yX1_quotient]
def wsX1_through_r3 : List Cond := [Cond.code yX1_quotient cX1_quotient 3 (some .int)]
def wsX1_through : List Cond := .code yX1_through cX1_through 4 (some .int) :: ((wsX1_through_r1 ++ (wsX1_through_r2 ++ wsX1_through_r3)) ++ wsX10)
def wsX1_apart : List Cond := .code yX1_apart cX1_apart 2 (some .int) :: ([])
def wsX1_gapOf_r1 : List Cond := [Cond.methodLink RX1 110 yX1_throughOf, Cond.instanceMethod yX1_throughOf, Cond.selects RX1 yX1_throughOf yX1_throughOf, Cond.initialized RX1, Cond.code yX1_throughOf cX1_throughOf 6 (some .int), Cond.fieldLink RX1 22 "GamutChainModel" "many" "[I", Cond.fieldLink RX1 25 "GamutChainModel" "links" "[I", Cond.methodLink RX1 79 yX1_takenBy, Cond.instanceMethod yX1_takenBy, Cond.selects RX1 yX1_takenBy yX1_takenBy, Cond.code yX1_takenBy cX1_takenBy 7 (some .int), Cond.fieldLink RX1 13 "GamutChainModel" "least" "[I", Cond.fieldLink RX1 16 "GamutChainModel" "greatest" "[I", Cond.fieldLink RX1 19 "GamutChainModel" "ways" "[I", Cond.methodLink RX1 75 yX1_curveOf, Cond.instanceMethod yX1_curveOf, Cond.selects RX1 yX1_curveOf yX1_curveOf, Cond.code yX1_curveOf cX1_curveOf 5 (some .int), Cond.fieldLink RX1 47 "GamutChainModel" "five" "[I", Cond.fieldLink RX1 7 "GamutChainModel" "bends" "[I", Cond.methodLink RX1 72 yX1_between, Cond.instanceMethod yX1_between, Cond.selects RX1 yX1_between yX1_between, Cond.code yX1_between cX1_between 3 (some .int)]
def wsX1_gapOf_r2 : List Cond := [Cond.methodLink RX1 64 yX1_placeAt, Cond.static yX1_placeAt, Cond.code yX1_placeAt cX1_placeAt 1 (some .int), Cond.methodLink RX1 68 yX1_quotient, Cond.static yX1_quotient, Cond.code yX1_quotient cX1_quotient 3 (some .int), Cond.methodLink RX1 113 yX1_apart, Cond.static yX1_apart, Cond.code yX1_apart cX1_apart 2 (some .int)]
def wsX1_gapOf : List Cond := .code yX1_gapOf cX1_gapOf 11 (some .int) :: ((wsX1_gapOf_r1 ++ wsX1_gapOf_r2) ++ wsX10)
def wsX1_gap_r1 : List Cond := [Cond.methodLink RX1 107 yX1_isChain, Cond.instanceMethod yX1_isChain, Cond.selects RX1 yX1_isChain yX1_isChain, Cond.initialized RX1, Cond.code yX1_isChain cX1_isChain 2 (some .boolean), Cond.fieldLink RX1 61 "GamutChainModel" "chains" "I", Cond.methodLink RX1 54 yX1_isIn, Cond.static yX1_isIn, Cond.code yX1_isIn cX1_isIn 3 (some .boolean), Cond.methodLink RX1 82 yX1_may, Cond.instanceMethod yX1_may, Cond.selects RX1 yX1_may yX1_may, Cond.code yX1_may cX1_may 2 (some .boolean), Cond.fieldLink RX1 50 "GamutChainModel" "thrown" "I", Cond.methodLink RX1 116 yX1_gapOf, Cond.instanceMethod yX1_gapOf, Cond.selects RX1 yX1_gapOf yX1_gapOf, Cond.code yX1_gapOf cX1_gapOf 11 (some .int), Cond.methodLink RX1 110 yX1_throughOf, Cond.instanceMethod yX1_throughOf, Cond.selects RX1 yX1_throughOf yX1_throughOf, Cond.code yX1_throughOf cX1_throughOf 6 (some .int), Cond.fieldLink RX1 22 "GamutChainModel" "many" "[I", Cond.fieldLink RX1 25 "GamutChainModel" "links" "[I"]
def wsX1_gap_r2 : List Cond := [Cond.methodLink RX1 79 yX1_takenBy, Cond.instanceMethod yX1_takenBy, Cond.selects RX1 yX1_takenBy yX1_takenBy, Cond.code yX1_takenBy cX1_takenBy 7 (some .int), Cond.fieldLink RX1 13 "GamutChainModel" "least" "[I", Cond.fieldLink RX1 16 "GamutChainModel" "greatest" "[I", Cond.fieldLink RX1 19 "GamutChainModel" "ways" "[I", Cond.methodLink RX1 75 yX1_curveOf, Cond.instanceMethod yX1_curveOf, Cond.selects RX1 yX1_curveOf yX1_curveOf, Cond.code yX1_curveOf cX1_curveOf 5 (some .int), Cond.fieldLink RX1 47 "GamutChainModel" "five" "[I", Cond.fieldLink RX1 7 "GamutChainModel" "bends" "[I", Cond.methodLink RX1 72 yX1_between, Cond.instanceMethod yX1_between, Cond.selects RX1 yX1_between yX1_between, Cond.code yX1_between cX1_between 3 (some .int), Cond.methodLink RX1 64 yX1_placeAt, Cond.static yX1_placeAt, Cond.code yX1_placeAt cX1_placeAt 1 (some .int), Cond.methodLink RX1 68 yX1_quotient, Cond.static yX1_quotient, Cond.code yX1_quotient cX1_quotient 3 (some .int), Cond.methodLink RX1 113 yX1_apart]
def wsX1_gap_r3 : List Cond := [Cond.static yX1_apart, Cond.code yX1_apart cX1_apart 2 (some .int)]
def wsX1_gap : List Cond := .code yX1_gap cX1_gap 2 (some .int) :: ((wsX1_gap_r1 ++ (wsX1_gap_r2 ++ wsX1_gap_r3)) ++ wsX10)
def wsX1_greyGap_r1 : List Cond := [Cond.methodLink RX1 107 yX1_isChain, Cond.instanceMethod yX1_isChain, Cond.selects RX1 yX1_isChain yX1_isChain, Cond.initialized RX1, Cond.code yX1_isChain cX1_isChain 2 (some .boolean), Cond.fieldLink RX1 61 "GamutChainModel" "chains" "I", Cond.methodLink RX1 54 yX1_isIn, Cond.static yX1_isIn, Cond.code yX1_isIn cX1_isIn 3 (some .boolean), Cond.methodLink RX1 82 yX1_may, Cond.instanceMethod yX1_may, Cond.selects RX1 yX1_may yX1_may, Cond.code yX1_may cX1_may 2 (some .boolean), Cond.fieldLink RX1 50 "GamutChainModel" "thrown" "I", Cond.methodLink RX1 110 yX1_throughOf, Cond.instanceMethod yX1_throughOf, Cond.selects RX1 yX1_throughOf yX1_throughOf, Cond.code yX1_throughOf cX1_throughOf 6 (some .int), Cond.fieldLink RX1 22 "GamutChainModel" "many" "[I", Cond.fieldLink RX1 25 "GamutChainModel" "links" "[I", Cond.methodLink RX1 79 yX1_takenBy, Cond.instanceMethod yX1_takenBy, Cond.selects RX1 yX1_takenBy yX1_takenBy, Cond.code yX1_takenBy cX1_takenBy 7 (some .int)]
def wsX1_greyGap_r2 : List Cond := [Cond.fieldLink RX1 13 "GamutChainModel" "least" "[I", Cond.fieldLink RX1 16 "GamutChainModel" "greatest" "[I", Cond.fieldLink RX1 19 "GamutChainModel" "ways" "[I", Cond.methodLink RX1 75 yX1_curveOf, Cond.instanceMethod yX1_curveOf, Cond.selects RX1 yX1_curveOf yX1_curveOf, Cond.code yX1_curveOf cX1_curveOf 5 (some .int), Cond.fieldLink RX1 47 "GamutChainModel" "five" "[I", Cond.fieldLink RX1 7 "GamutChainModel" "bends" "[I", Cond.methodLink RX1 72 yX1_between, Cond.instanceMethod yX1_between, Cond.selects RX1 yX1_between yX1_between, Cond.code yX1_between cX1_between 3 (some .int), Cond.methodLink RX1 64 yX1_placeAt, Cond.static yX1_placeAt, Cond.code yX1_placeAt cX1_placeAt 1 (some .int), Cond.methodLink RX1 68 yX1_quotient, Cond.static yX1_quotient, Cond.code yX1_quotient cX1_quotient 3 (some .int), Cond.methodLink RX1 113 yX1_apart, Cond.static yX1_apart, Cond.code yX1_apart cX1_apart 2 (some .int)]
def wsX1_greyGap : List Cond := .code yX1_greyGap cX1_greyGap 7 (some .int) :: ((wsX1_greyGap_r1 ++ wsX1_greyGap_r2) ++ wsX10)
def wsX1_join_r1 : List Cond := [Cond.fieldLink RX1 35 "GamutChainModel" "kept" "[I", Cond.fieldLink RX1 28 "GamutChainModel" "isJoined" "[Z", Cond.methodLink RX1 107 yX1_isChain, Cond.instanceMethod yX1_isChain, Cond.selects RX1 yX1_isChain yX1_isChain, Cond.initialized RX1, Cond.code yX1_isChain cX1_isChain 2 (some .boolean), Cond.fieldLink RX1 61 "GamutChainModel" "chains" "I", Cond.methodLink RX1 54 yX1_isIn, Cond.static yX1_isIn, Cond.code yX1_isIn cX1_isIn 3 (some .boolean), Cond.methodLink RX1 116 yX1_gapOf, Cond.instanceMethod yX1_gapOf, Cond.selects RX1 yX1_gapOf yX1_gapOf, Cond.code yX1_gapOf cX1_gapOf 11 (some .int), Cond.methodLink RX1 110 yX1_throughOf, Cond.instanceMethod yX1_throughOf, Cond.selects RX1 yX1_throughOf yX1_throughOf, Cond.code yX1_throughOf cX1_throughOf 6 (some .int), Cond.fieldLink RX1 22 "GamutChainModel" "many" "[I", Cond.fieldLink RX1 25 "GamutChainModel" "links" "[I", Cond.methodLink RX1 79 yX1_takenBy, Cond.instanceMethod yX1_takenBy, Cond.selects RX1 yX1_takenBy yX1_takenBy]
def wsX1_join_r2 : List Cond := [Cond.code yX1_takenBy cX1_takenBy 7 (some .int), Cond.fieldLink RX1 13 "GamutChainModel" "least" "[I", Cond.fieldLink RX1 16 "GamutChainModel" "greatest" "[I", Cond.fieldLink RX1 19 "GamutChainModel" "ways" "[I", Cond.methodLink RX1 75 yX1_curveOf, Cond.instanceMethod yX1_curveOf, Cond.selects RX1 yX1_curveOf yX1_curveOf, Cond.code yX1_curveOf cX1_curveOf 5 (some .int), Cond.fieldLink RX1 47 "GamutChainModel" "five" "[I", Cond.fieldLink RX1 7 "GamutChainModel" "bends" "[I", Cond.methodLink RX1 72 yX1_between, Cond.instanceMethod yX1_between, Cond.selects RX1 yX1_between yX1_between, Cond.code yX1_between cX1_between 3 (some .int), Cond.methodLink RX1 64 yX1_placeAt, Cond.static yX1_placeAt, Cond.code yX1_placeAt cX1_placeAt 1 (some .int), Cond.methodLink RX1 68 yX1_quotient, Cond.static yX1_quotient, Cond.code yX1_quotient cX1_quotient 3 (some .int), Cond.methodLink RX1 113 yX1_apart, Cond.static yX1_apart, Cond.code yX1_apart cX1_apart 2 (some .int), Cond.methodLink RX1 93 yX1_isByte]
def wsX1_join_r3 : List Cond := [Cond.static yX1_isByte, Cond.code yX1_isByte cX1_isByte 1 (some .boolean), Cond.methodLink RX1 99 yX1_mayAll, Cond.instanceMethod yX1_mayAll, Cond.selects RX1 yX1_mayAll yX1_mayAll, Cond.code yX1_mayAll cX1_mayAll 4 (some .boolean), Cond.fieldLink RX1 50 "GamutChainModel" "thrown" "I"]
def wsX1_join : List Cond := .code yX1_join cX1_join 7 (some .int) :: ((wsX1_join_r1 ++ (wsX1_join_r2 ++ wsX1_join_r3)) ++ wsX10)
def wsX1_joined_r1 : List Cond := [Cond.fieldLink RX1 28 "GamutChainModel" "isJoined" "[Z", Cond.fieldLink RX1 47 "GamutChainModel" "five" "[I", Cond.fieldLink RX1 35 "GamutChainModel" "kept" "[I", Cond.methodLink RX1 107 yX1_isChain, Cond.instanceMethod yX1_isChain, Cond.selects RX1 yX1_isChain yX1_isChain, Cond.initialized RX1, Cond.code yX1_isChain cX1_isChain 2 (some .boolean), Cond.fieldLink RX1 61 "GamutChainModel" "chains" "I", Cond.methodLink RX1 54 yX1_isIn, Cond.static yX1_isIn, Cond.code yX1_isIn cX1_isIn 3 (some .boolean), Cond.methodLink RX1 90 yX1_isThird, Cond.static yX1_isThird, Cond.code yX1_isThird cX1_isThird 1 (some .boolean), Cond.methodLink RX1 93 yX1_isByte, Cond.static yX1_isByte, Cond.code yX1_isByte cX1_isByte 1 (some .boolean), Cond.methodLink RX1 99 yX1_mayAll, Cond.instanceMethod yX1_mayAll, Cond.selects RX1 yX1_mayAll yX1_mayAll, Cond.code yX1_mayAll cX1_mayAll 4 (some .boolean), Cond.fieldLink RX1 50 "GamutChainModel" "thrown" "I", Cond.methodLink RX1 72 yX1_between]
def wsX1_joined_r2 : List Cond := [Cond.instanceMethod yX1_between, Cond.selects RX1 yX1_between yX1_between, Cond.code yX1_between cX1_between 3 (some .int), Cond.methodLink RX1 64 yX1_placeAt, Cond.static yX1_placeAt, Cond.code yX1_placeAt cX1_placeAt 1 (some .int), Cond.methodLink RX1 68 yX1_quotient, Cond.static yX1_quotient, Cond.code yX1_quotient cX1_quotient 3 (some .int)]
def wsX1_joined : List Cond := .code yX1_joined cX1_joined 6 (some .int) :: ((wsX1_joined_r1 ++ wsX1_joined_r2) ++ wsX10)
def wsX1_stale_r1 : List Cond := [Cond.fieldLink RX1 50 "GamutChainModel" "thrown" "I", Cond.fieldLink RX1 61 "GamutChainModel" "chains" "I", Cond.fieldLink RX1 35 "GamutChainModel" "kept" "[I", Cond.fieldLink RX1 28 "GamutChainModel" "isJoined" "[Z", Cond.methodLink RX1 64 yX1_placeAt, Cond.static yX1_placeAt, Cond.initialized RX1, Cond.code yX1_placeAt cX1_placeAt 1 (some .int), Cond.methodLink RX1 110 yX1_throughOf, Cond.instanceMethod yX1_throughOf, Cond.selects RX1 yX1_throughOf yX1_throughOf, Cond.code yX1_throughOf cX1_throughOf 6 (some .int), Cond.fieldLink RX1 22 "GamutChainModel" "many" "[I", Cond.fieldLink RX1 25 "GamutChainModel" "links" "[I", Cond.methodLink RX1 79 yX1_takenBy, Cond.instanceMethod yX1_takenBy, Cond.selects RX1 yX1_takenBy yX1_takenBy, Cond.code yX1_takenBy cX1_takenBy 7 (some .int), Cond.fieldLink RX1 13 "GamutChainModel" "least" "[I", Cond.fieldLink RX1 16 "GamutChainModel" "greatest" "[I", Cond.fieldLink RX1 19 "GamutChainModel" "ways" "[I", Cond.methodLink RX1 75 yX1_curveOf, Cond.instanceMethod yX1_curveOf, Cond.selects RX1 yX1_curveOf yX1_curveOf]
def wsX1_stale_r2 : List Cond := [Cond.code yX1_curveOf cX1_curveOf 5 (some .int), Cond.fieldLink RX1 47 "GamutChainModel" "five" "[I", Cond.fieldLink RX1 7 "GamutChainModel" "bends" "[I", Cond.methodLink RX1 72 yX1_between, Cond.instanceMethod yX1_between, Cond.selects RX1 yX1_between yX1_between, Cond.code yX1_between cX1_between 3 (some .int), Cond.methodLink RX1 68 yX1_quotient, Cond.static yX1_quotient, Cond.code yX1_quotient cX1_quotient 3 (some .int)]
def wsX1_stale : List Cond := .code yX1_stale cX1_stale 5 (some .int) :: ((wsX1_stale_r1 ++ wsX1_stale_r2) ++ wsX10)
def wsX1_sign : List Cond := .code yX1_sign cX1_sign 2 (some .boolean) :: ([.fieldLink RX1 32 "GamutChainModel" "isSigned" "[Z", .methodLink RX1 107 yX1_isChain, .instanceMethod yX1_isChain, .selects RX1 yX1_isChain yX1_isChain, .initialized RX1, .code yX1_isChain cX1_isChain 2 (some .boolean), .fieldLink RX1 61 "GamutChainModel" "chains" "I", .methodLink RX1 54 yX1_isIn, .static yX1_isIn, .code yX1_isIn cX1_isIn 3 (some .boolean), .methodLink RX1 82 yX1_may, .instanceMethod yX1_may, .selects RX1 yX1_may yX1_may, .code yX1_may cX1_may 2 (some .boolean), .fieldLink RX1 50 "GamutChainModel" "thrown" "I"] ++ wsX10)
def wsX1_held : List Cond := .code yX1_held cX1_held 3 (some .int) :: ([.fieldLink RX1 50 "GamutChainModel" "thrown" "I", .fieldLink RX1 58 "GamutChainModel" "profiles" "I", .methodLink RX1 96 yX1_isHeld, .instanceMethod yX1_isHeld, .selects RX1 yX1_isHeld yX1_isHeld, .initialized RX1, .code yX1_isHeld cX1_isHeld 5 (some .boolean), .fieldLink RX1 61 "GamutChainModel" "chains" "I", .fieldLink RX1 22 "GamutChainModel" "many" "[I", .fieldLink RX1 32 "GamutChainModel" "isSigned" "[Z", .fieldLink RX1 25 "GamutChainModel" "links" "[I"] ++ wsX10)
def wsX1_isPixel : List Cond := .code yX1_isPixel cX1_isPixel 1 (some .boolean) :: ([.methodLink RX1 54 yX1_isIn, .static yX1_isIn, .initialized RX1, .code yX1_isIn cX1_isIn 3 (some .boolean)])
def wsX1_paint : List Cond := .code yX1_paint cX1_paint 5 (some .int) :: ([.fieldLink RX1 38 "GamutChainModel" "picture" "[I", .methodLink RX1 119 yX1_isPixel, .static yX1_isPixel, .initialized RX1, .code yX1_isPixel cX1_isPixel 1 (some .boolean), .methodLink RX1 54 yX1_isIn, .static yX1_isIn, .code yX1_isIn cX1_isIn 3 (some .boolean), .methodLink RX1 90 yX1_isThird, .static yX1_isThird, .code yX1_isThird cX1_isThird 1 (some .boolean), .methodLink RX1 93 yX1_isByte, .static yX1_isByte, .code yX1_isByte cX1_isByte 1 (some .boolean), .methodLink RX1 103 yX1_mayBoth, .instanceMethod yX1_mayBoth, .selects RX1 yX1_mayBoth yX1_mayBoth, .code yX1_mayBoth cX1_mayBoth 3 (some .boolean), .fieldLink RX1 50 "GamutChainModel" "thrown" "I"] ++ wsX10)
def wsX1_spot : List Cond := .code yX1_spot cX1_spot 5 (some .int) :: ([.fieldLink RX1 41 "GamutChainModel" "amounts" "[I", .methodLink RX1 119 yX1_isPixel, .static yX1_isPixel, .initialized RX1, .code yX1_isPixel cX1_isPixel 1 (some .boolean), .methodLink RX1 54 yX1_isIn, .static yX1_isIn, .code yX1_isIn cX1_isIn 3 (some .boolean), .methodLink RX1 90 yX1_isThird, .static yX1_isThird, .code yX1_isThird cX1_isThird 1 (some .boolean), .methodLink RX1 93 yX1_isByte, .static yX1_isByte, .code yX1_isByte cX1_isByte 1 (some .boolean), .methodLink RX1 103 yX1_mayBoth, .instanceMethod yX1_mayBoth, .selects RX1 yX1_mayBoth yX1_mayBoth, .code yX1_mayBoth cX1_mayBoth 3 (some .boolean), .fieldLink RX1 50 "GamutChainModel" "thrown" "I"] ++ wsX10)
def wsX1_mix : List Cond := .code yX1_mix cX1_mix 5 (some .int) :: ([.fieldLink RX1 44 "GamutChainModel" "mixes" "[I", .methodLink RX1 90 yX1_isThird, .static yX1_isThird, .initialized RX1, .code yX1_isThird cX1_isThird 1 (some .boolean), .methodLink RX1 54 yX1_isIn, .static yX1_isIn, .code yX1_isIn cX1_isIn 3 (some .boolean), .methodLink RX1 93 yX1_isByte, .static yX1_isByte, .code yX1_isByte cX1_isByte 1 (some .boolean), .methodLink RX1 103 yX1_mayBoth, .instanceMethod yX1_mayBoth, .selects RX1 yX1_mayBoth yX1_mayBoth, .code yX1_mayBoth cX1_mayBoth 3 (some .boolean), .fieldLink RX1 50 "GamutChainModel" "thrown" "I"] ++ wsX10)
def wsX1_shown_r1 : List Cond := [Cond.fieldLink RX1 38 "GamutChainModel" "picture" "[I", Cond.fieldLink RX1 44 "GamutChainModel" "mixes" "[I", Cond.fieldLink RX1 41 "GamutChainModel" "amounts" "[I", Cond.methodLink RX1 107 yX1_isChain, Cond.instanceMethod yX1_isChain, Cond.selects RX1 yX1_isChain yX1_isChain, Cond.initialized RX1, Cond.code yX1_isChain cX1_isChain 2 (some .boolean), Cond.fieldLink RX1 61 "GamutChainModel" "chains" "I", Cond.methodLink RX1 54 yX1_isIn, Cond.static yX1_isIn, Cond.code yX1_isIn cX1_isIn 3 (some .boolean), Cond.methodLink RX1 119 yX1_isPixel, Cond.static yX1_isPixel, Cond.code yX1_isPixel cX1_isPixel 1 (some .boolean), Cond.methodLink RX1 90 yX1_isThird, Cond.static yX1_isThird, Cond.code yX1_isThird cX1_isThird 1 (some .boolean), Cond.methodLink RX1 103 yX1_mayBoth, Cond.instanceMethod yX1_mayBoth, Cond.selects RX1 yX1_mayBoth yX1_mayBoth, Cond.code yX1_mayBoth cX1_mayBoth 3 (some .boolean), Cond.fieldLink RX1 50 "GamutChainModel" "thrown" "I", Cond.methodLink RX1 110 yX1_throughOf]
def wsX1_shown_r2 : List Cond := [Cond.instanceMethod yX1_throughOf, Cond.selects RX1 yX1_throughOf yX1_throughOf, Cond.code yX1_throughOf cX1_throughOf 6 (some .int), Cond.fieldLink RX1 22 "GamutChainModel" "many" "[I", Cond.fieldLink RX1 25 "GamutChainModel" "links" "[I", Cond.methodLink RX1 79 yX1_takenBy, Cond.instanceMethod yX1_takenBy, Cond.selects RX1 yX1_takenBy yX1_takenBy, Cond.code yX1_takenBy cX1_takenBy 7 (some .int), Cond.fieldLink RX1 13 "GamutChainModel" "least" "[I", Cond.fieldLink RX1 16 "GamutChainModel" "greatest" "[I", Cond.fieldLink RX1 19 "GamutChainModel" "ways" "[I", Cond.methodLink RX1 75 yX1_curveOf, Cond.instanceMethod yX1_curveOf, Cond.selects RX1 yX1_curveOf yX1_curveOf, Cond.code yX1_curveOf cX1_curveOf 5 (some .int), Cond.fieldLink RX1 47 "GamutChainModel" "five" "[I", Cond.fieldLink RX1 7 "GamutChainModel" "bends" "[I", Cond.methodLink RX1 72 yX1_between, Cond.instanceMethod yX1_between, Cond.selects RX1 yX1_between yX1_between, Cond.code yX1_between cX1_between 3 (some .int), Cond.methodLink RX1 64 yX1_placeAt, Cond.static yX1_placeAt]
def wsX1_shown_r3 : List Cond := [Cond.code yX1_placeAt cX1_placeAt 1 (some .int), Cond.methodLink RX1 68 yX1_quotient, Cond.static yX1_quotient, Cond.code yX1_quotient cX1_quotient 3 (some .int)]
def wsX1_shown : List Cond := .code yX1_shown cX1_shown 7 (some .int) :: ((wsX1_shown_r1 ++ (wsX1_shown_r2 ++ wsX1_shown_r3)) ++ wsX10)
def wsJ9_abs_0f7a4 : List Cond := .code yJ9_abs_0f7a4 cJ9_abs_0f7a4 1 (some .int) :: ([])
def wsJ9_max_7cf53 : List Cond := .code yJ9_max_7cf53 cJ9_max_7cf53 2 (some .int) :: ([])
def wsJ9_min_7cf53 : List Cond := .code yJ9_min_7cf53 cJ9_min_7cf53 2 (some .int) :: ([])
def wsL_profile : List Cond := .codeWith yL_profile cL_profile 3 (some .int) [(0, 8, 11, 13)] :: ([.classLink RL 13 "java/lang/IllegalStateException", .methodLink RL 7 yX0_profile, .instanceMethod yX0_profile, .selects RX0 yX0_profile yX0_profile, .initialized RX0, .code yX0_profile cX0_profile 5 (some .int), .classLink RX0 47 "java/lang/IllegalStateException", .initialized "java/lang/IllegalStateException", .fieldLink RX0 43 "GamutChain" "profiles" "I", .fieldLink RX0 9 "GamutChain" "bends" "[I", .fieldLink RX0 13 "GamutChain" "leasts" "[I", .fieldLink RX0 16 "GamutChain" "greatests" "[I", .fieldLink RX0 19 "GamutChain" "ways" "[I", .methodLink RX0 54 yX0_valueOfPlace, .static yX0_valueOfPlace, .code yX0_valueOfPlace cX0_valueOfPlace 1 (some .int), .methodLink RX0 119 Lib.Math.min.name, .static Lib.Math.min.name, .initialized "java/lang/Math", .code Lib.Math.min.name Lib.Math.min.code 2 (some .int), .methodLink RX0 58 yX0_swap, .static yX0_swap, .code yX0_swap cX0_swap 4 (some .int)] ++ wsX00 ++ (vx_atS RX0 51 "java/lang/IllegalStateException" ["java/lang/RuntimeException", "java/lang/Exception"]).filter goodWord)
def wsL_bend_r1 : List Cond := [Cond.classLink RL 19 "java/lang/IndexOutOfBoundsException", Cond.classLink RL 21 "java/lang/IllegalArgumentException", Cond.classLink RL 13 "java/lang/IllegalStateException", Cond.methodLink RL 15 yX0_bend, Cond.instanceMethod yX0_bend, Cond.selects RX0 yX0_bend yX0_bend, Cond.initialized RX0, Cond.code yX0_bend cX0_bend 5 (some .int), Cond.classLink RX0 69 "java/lang/IndexOutOfBoundsException", Cond.initialized "java/lang/IndexOutOfBoundsException", Cond.fieldLink RX0 9 "GamutChain" "bends" "[I", Cond.methodLink RX0 62 yX0_needProfile, Cond.instanceMethod yX0_needProfile, Cond.selects RX0 yX0_needProfile yX0_needProfile, Cond.code yX0_needProfile cX0_needProfile 2 none, Cond.fieldLink RX0 43 "GamutChain" "profiles" "I", Cond.methodLink RX0 66 yX0_needBand, Cond.static yX0_needBand, Cond.code yX0_needBand cX0_needBand 1 none, Cond.methodLink RX0 74 yX0_needValue, Cond.static yX0_needValue, Cond.code yX0_needValue cX0_needValue 1 none, Cond.classLink RX0 80 "java/lang/IllegalArgumentException", Cond.initialized "java/lang/IllegalArgumentException"]
def wsL_bend_r2 : List Cond := [Cond.methodLink RX0 77 yX0_needFreeProfile, Cond.instanceMethod yX0_needFreeProfile, Cond.selects RX0 yX0_needFreeProfile yX0_needFreeProfile, Cond.code yX0_needFreeProfile cX0_needFreeProfile 2 none, Cond.classLink RX0 47 "java/lang/IllegalStateException", Cond.initialized "java/lang/IllegalStateException", Cond.methodLink RX0 175 yX0_held, Cond.instanceMethod yX0_held, Cond.selects RX0 yX0_held yX0_held, Cond.code yX0_held cX0_held 3 (some .int), Cond.fieldLink RX0 146 "GamutChain" "signedChains" "I", Cond.methodLink RX0 133 yX0_hasBit, Cond.static yX0_hasBit, Cond.code yX0_hasBit cX0_hasBit 2 (some .boolean), Cond.methodLink RX0 149 yX0_profilesOf, Cond.instanceMethod yX0_profilesOf, Cond.selects RX0 yX0_profilesOf yX0_profilesOf, Cond.code yX0_profilesOf cX0_profilesOf 5 (some .int), Cond.fieldLink RX0 25 "GamutChain" "lengths" "[I", Cond.fieldLink RX0 22 "GamutChain" "links" "[I", Cond.methodLink RX0 105 yX0_read, Cond.static yX0_read, Cond.code yX0_read cX0_read 2 (some .int), Cond.methodLink RX0 58 yX0_swap]
def wsL_bend_r3 : List Cond := [Cond.static yX0_swap, Cond.code yX0_swap cX0_swap 4 (some .int)]
def wsL_bend : List Cond := .codeWith yL_bend cL_bend 7 (some .int) [(0, 14, 17, 19), (0, 14, 21, 21), (0, 14, 25, 13)] :: ((wsL_bend_r1 ++ (wsL_bend_r2 ++ wsL_bend_r3)) ++ wsX00 ++ (vx_atS RX0 73 "java/lang/IndexOutOfBoundsException" ["java/lang/RuntimeException", "java/lang/Exception"]).filter goodWord ++ (vx_atS RX0 84 "java/lang/IllegalArgumentException" ["java/lang/RuntimeException", "java/lang/Exception"]).filter goodWord ++ (vx_atS RX0 51 "java/lang/IllegalStateException" ["java/lang/RuntimeException", "java/lang/Exception"]).filter goodWord)
def wsL_reach_r1 : List Cond := [Cond.classLink RL 19 "java/lang/IndexOutOfBoundsException", Cond.classLink RL 21 "java/lang/IllegalArgumentException", Cond.classLink RL 13 "java/lang/IllegalStateException", Cond.methodLink RL 23 yX0_reach, Cond.instanceMethod yX0_reach, Cond.selects RX0 yX0_reach yX0_reach, Cond.initialized RX0, Cond.code yX0_reach cX0_reach 8 (some .int), Cond.classLink RX0 80 "java/lang/IllegalArgumentException", Cond.initialized "java/lang/IllegalArgumentException", Cond.fieldLink RX0 13 "GamutChain" "leasts" "[I", Cond.fieldLink RX0 16 "GamutChain" "greatests" "[I", Cond.methodLink RX0 62 yX0_needProfile, Cond.instanceMethod yX0_needProfile, Cond.selects RX0 yX0_needProfile yX0_needProfile, Cond.code yX0_needProfile cX0_needProfile 2 none, Cond.classLink RX0 69 "java/lang/IndexOutOfBoundsException", Cond.initialized "java/lang/IndexOutOfBoundsException", Cond.fieldLink RX0 43 "GamutChain" "profiles" "I", Cond.methodLink RX0 66 yX0_needBand, Cond.static yX0_needBand, Cond.code yX0_needBand cX0_needBand 1 none, Cond.methodLink RX0 74 yX0_needValue, Cond.static yX0_needValue]
def wsL_reach_r2 : List Cond := [Cond.code yX0_needValue cX0_needValue 1 none, Cond.methodLink RX0 77 yX0_needFreeProfile, Cond.instanceMethod yX0_needFreeProfile, Cond.selects RX0 yX0_needFreeProfile yX0_needFreeProfile, Cond.code yX0_needFreeProfile cX0_needFreeProfile 2 none, Cond.classLink RX0 47 "java/lang/IllegalStateException", Cond.initialized "java/lang/IllegalStateException", Cond.methodLink RX0 175 yX0_held, Cond.instanceMethod yX0_held, Cond.selects RX0 yX0_held yX0_held, Cond.code yX0_held cX0_held 3 (some .int), Cond.fieldLink RX0 146 "GamutChain" "signedChains" "I", Cond.methodLink RX0 133 yX0_hasBit, Cond.static yX0_hasBit, Cond.code yX0_hasBit cX0_hasBit 2 (some .boolean), Cond.methodLink RX0 149 yX0_profilesOf, Cond.instanceMethod yX0_profilesOf, Cond.selects RX0 yX0_profilesOf yX0_profilesOf, Cond.code yX0_profilesOf cX0_profilesOf 5 (some .int), Cond.fieldLink RX0 25 "GamutChain" "lengths" "[I", Cond.fieldLink RX0 22 "GamutChain" "links" "[I", Cond.methodLink RX0 105 yX0_read, Cond.static yX0_read, Cond.code yX0_read cX0_read 2 (some .int)]
def wsL_reach_r3 : List Cond := [Cond.methodLink RX0 58 yX0_swap, Cond.static yX0_swap, Cond.code yX0_swap cX0_swap 4 (some .int)]
def wsL_reach : List Cond := .codeWith yL_reach cL_reach 7 (some .int) [(0, 14, 17, 19), (0, 14, 21, 21), (0, 14, 25, 13)] :: ((wsL_reach_r1 ++ (wsL_reach_r2 ++ wsL_reach_r3)) ++ wsX00 ++ (vx_atS RX0 84 "java/lang/IllegalArgumentException" ["java/lang/RuntimeException", "java/lang/Exception"]).filter goodWord ++ (vx_atS RX0 73 "java/lang/IndexOutOfBoundsException" ["java/lang/RuntimeException", "java/lang/Exception"]).filter goodWord ++ (vx_atS RX0 51 "java/lang/IllegalStateException" ["java/lang/RuntimeException", "java/lang/Exception"]).filter goodWord)
def wsL_way_r1 : List Cond := [Cond.classLink RL 19 "java/lang/IndexOutOfBoundsException", Cond.classLink RL 21 "java/lang/IllegalArgumentException", Cond.classLink RL 13 "java/lang/IllegalStateException", Cond.methodLink RL 26 yX0_way, Cond.instanceMethod yX0_way, Cond.selects RX0 yX0_way yX0_way, Cond.initialized RX0, Cond.code yX0_way cX0_way 3 (some .int), Cond.classLink RX0 80 "java/lang/IllegalArgumentException", Cond.initialized "java/lang/IllegalArgumentException", Cond.fieldLink RX0 19 "GamutChain" "ways" "[I", Cond.methodLink RX0 62 yX0_needProfile, Cond.instanceMethod yX0_needProfile, Cond.selects RX0 yX0_needProfile yX0_needProfile, Cond.code yX0_needProfile cX0_needProfile 2 none, Cond.classLink RX0 69 "java/lang/IndexOutOfBoundsException", Cond.initialized "java/lang/IndexOutOfBoundsException", Cond.fieldLink RX0 43 "GamutChain" "profiles" "I", Cond.methodLink RX0 77 yX0_needFreeProfile, Cond.instanceMethod yX0_needFreeProfile, Cond.selects RX0 yX0_needFreeProfile yX0_needFreeProfile, Cond.code yX0_needFreeProfile cX0_needFreeProfile 2 none, Cond.classLink RX0 47 "java/lang/IllegalStateException", Cond.initialized "java/lang/IllegalStateException"]
def wsL_way_r2 : List Cond := [Cond.methodLink RX0 175 yX0_held, Cond.instanceMethod yX0_held, Cond.selects RX0 yX0_held yX0_held, Cond.code yX0_held cX0_held 3 (some .int), Cond.fieldLink RX0 146 "GamutChain" "signedChains" "I", Cond.methodLink RX0 133 yX0_hasBit, Cond.static yX0_hasBit, Cond.code yX0_hasBit cX0_hasBit 2 (some .boolean), Cond.methodLink RX0 149 yX0_profilesOf, Cond.instanceMethod yX0_profilesOf, Cond.selects RX0 yX0_profilesOf yX0_profilesOf, Cond.code yX0_profilesOf cX0_profilesOf 5 (some .int), Cond.fieldLink RX0 25 "GamutChain" "lengths" "[I", Cond.fieldLink RX0 22 "GamutChain" "links" "[I", Cond.methodLink RX0 105 yX0_read, Cond.static yX0_read, Cond.code yX0_read cX0_read 2 (some .int), Cond.methodLink RX0 58 yX0_swap, Cond.static yX0_swap, Cond.code yX0_swap cX0_swap 4 (some .int)]
def wsL_way : List Cond := .codeWith yL_way cL_way 5 (some .int) [(0, 10, 13, 19), (0, 10, 17, 21), (0, 10, 21, 13)] :: ((wsL_way_r1 ++ wsL_way_r2) ++ wsX00 ++ (vx_atS RX0 84 "java/lang/IllegalArgumentException" ["java/lang/RuntimeException", "java/lang/Exception"]).filter goodWord ++ (vx_atS RX0 73 "java/lang/IndexOutOfBoundsException" ["java/lang/RuntimeException", "java/lang/Exception"]).filter goodWord ++ (vx_atS RX0 51 "java/lang/IllegalStateException" ["java/lang/RuntimeException", "java/lang/Exception"]).filter goodWord)
def wsL_curve_r1 : List Cond := [Cond.classLink RL 19 "java/lang/IndexOutOfBoundsException", Cond.classLink RL 21 "java/lang/IllegalArgumentException", Cond.methodLink RL 30 yX0_curve, Cond.instanceMethod yX0_curve, Cond.selects RX0 yX0_curve yX0_curve, Cond.initialized RX0, Cond.code yX0_curve cX0_curve 4 (some .int), Cond.methodLink RX0 62 yX0_needProfile, Cond.instanceMethod yX0_needProfile, Cond.selects RX0 yX0_needProfile yX0_needProfile, Cond.code yX0_needProfile cX0_needProfile 2 none, Cond.classLink RX0 69 "java/lang/IndexOutOfBoundsException", Cond.initialized "java/lang/IndexOutOfBoundsException", Cond.fieldLink RX0 43 "GamutChain" "profiles" "I", Cond.methodLink RX0 66 yX0_needBand, Cond.static yX0_needBand, Cond.code yX0_needBand cX0_needBand 1 none, Cond.methodLink RX0 74 yX0_needValue, Cond.static yX0_needValue, Cond.code yX0_needValue cX0_needValue 1 none, Cond.classLink RX0 80 "java/lang/IllegalArgumentException", Cond.initialized "java/lang/IllegalArgumentException", Cond.methodLink RX0 87 yX0_bent, Cond.instanceMethod yX0_bent]
def wsL_curve_r2 : List Cond := [Cond.selects RX0 yX0_bent yX0_bent, Cond.code yX0_bent cX0_bent 4 (some .int), Cond.fieldLink RX0 9 "GamutChain" "bends" "[I", Cond.methodLink RX0 139 yX0_between, Cond.static yX0_between, Cond.code yX0_between cX0_between 7 (some .int), Cond.methodLink RX0 105 yX0_read, Cond.static yX0_read, Cond.code yX0_read cX0_read 2 (some .int), Cond.methodLink RX0 183 yJ9_floorDiv_7cf53, Cond.static yJ9_floorDiv_7cf53, Cond.initialized RJ9, Cond.code yJ9_floorDiv_7cf53 cJ9_floorDiv_7cf53 3 (some .int)]
def wsL_curve : List Cond := .codeWith yL_curve cL_curve 6 (some .int) [(0, 12, 15, 19), (0, 12, 19, 21)] :: ((wsL_curve_r1 ++ wsL_curve_r2) ++ wsX00 ++ (vx_atS RX0 73 "java/lang/IndexOutOfBoundsException" ["java/lang/RuntimeException", "java/lang/Exception"]).filter goodWord ++ (vx_atS RX0 84 "java/lang/IllegalArgumentException" ["java/lang/RuntimeException", "java/lang/Exception"]).filter goodWord)
def wsL_taken_r1 : List Cond := [Cond.classLink RL 19 "java/lang/IndexOutOfBoundsException", Cond.classLink RL 21 "java/lang/IllegalArgumentException", Cond.methodLink RL 34 yX0_taken, Cond.instanceMethod yX0_taken, Cond.selects RX0 yX0_taken yX0_taken, Cond.initialized RX0, Cond.code yX0_taken cX0_taken 4 (some .int), Cond.methodLink RX0 62 yX0_needProfile, Cond.instanceMethod yX0_needProfile, Cond.selects RX0 yX0_needProfile yX0_needProfile, Cond.code yX0_needProfile cX0_needProfile 2 none, Cond.classLink RX0 69 "java/lang/IndexOutOfBoundsException", Cond.initialized "java/lang/IndexOutOfBoundsException", Cond.fieldLink RX0 43 "GamutChain" "profiles" "I", Cond.methodLink RX0 66 yX0_needBand, Cond.static yX0_needBand, Cond.code yX0_needBand cX0_needBand 1 none, Cond.methodLink RX0 74 yX0_needValue, Cond.static yX0_needValue, Cond.code yX0_needValue cX0_needValue 1 none, Cond.classLink RX0 80 "java/lang/IllegalArgumentException", Cond.initialized "java/lang/IllegalArgumentException", Cond.methodLink RX0 91 yX0_take, Cond.instanceMethod yX0_take]
def wsL_taken_r2 : List Cond := [Cond.selects RX0 yX0_take yX0_take, Cond.code yX0_take cX0_take 8 (some .int), Cond.fieldLink RX0 13 "GamutChain" "leasts" "[I", Cond.fieldLink RX0 16 "GamutChain" "greatests" "[I", Cond.fieldLink RX0 19 "GamutChain" "ways" "[I", Cond.methodLink RX0 119 Lib.Math.min.name, Cond.static Lib.Math.min.name, Cond.initialized "java/lang/Math", Cond.code Lib.Math.min.name Lib.Math.min.code 2 (some .int), Cond.methodLink RX0 125 Lib.Math.max.name, Cond.static Lib.Math.max.name, Cond.code Lib.Math.max.name Lib.Math.max.code 2 (some .int), Cond.methodLink RX0 105 yX0_read, Cond.static yX0_read, Cond.code yX0_read cX0_read 2 (some .int), Cond.methodLink RX0 87 yX0_bent, Cond.instanceMethod yX0_bent, Cond.selects RX0 yX0_bent yX0_bent, Cond.code yX0_bent cX0_bent 4 (some .int), Cond.fieldLink RX0 9 "GamutChain" "bends" "[I", Cond.methodLink RX0 139 yX0_between, Cond.static yX0_between, Cond.code yX0_between cX0_between 7 (some .int), Cond.methodLink RX0 183 yJ9_floorDiv_7cf53]
def wsL_taken_r3 : List Cond := [Cond.static yJ9_floorDiv_7cf53, Cond.initialized RJ9, Cond.code yJ9_floorDiv_7cf53 cJ9_floorDiv_7cf53 3 (some .int), Cond.methodLink RX0 186 yX0_fold, Cond.static yX0_fold, Cond.code yX0_fold cX0_fold 3 (some .int)]
def wsL_taken : List Cond := .codeWith yL_taken cL_taken 6 (some .int) [(0, 12, 15, 19), (0, 12, 19, 21)] :: ((wsL_taken_r1 ++ (wsL_taken_r2 ++ wsL_taken_r3)) ++ wsX00 ++ (vx_atS RX0 73 "java/lang/IndexOutOfBoundsException" ["java/lang/RuntimeException", "java/lang/Exception"]).filter goodWord ++ (vx_atS RX0 84 "java/lang/IllegalArgumentException" ["java/lang/RuntimeException", "java/lang/Exception"]).filter goodWord)
def wsL_chain : List Cond := .codeWith yL_chain cL_chain 3 (some .int) [(0, 8, 11, 13)] :: ([.classLink RL 13 "java/lang/IllegalStateException", .methodLink RL 37 yX0_chain, .instanceMethod yX0_chain, .selects RX0 yX0_chain yX0_chain, .initialized RX0, .code yX0_chain cX0_chain 2 (some .int), .classLink RX0 47 "java/lang/IllegalStateException", .initialized "java/lang/IllegalStateException", .fieldLink RX0 94 "GamutChain" "chains" "I"] ++ wsX00 ++ (vx_atS RX0 51 "java/lang/IllegalStateException" ["java/lang/RuntimeException", "java/lang/Exception"]).filter goodWord)
def wsL_add_r1 : List Cond := [Cond.classLink RL 19 "java/lang/IndexOutOfBoundsException", Cond.classLink RL 13 "java/lang/IllegalStateException", Cond.methodLink RL 40 yX0_add, Cond.instanceMethod yX0_add, Cond.selects RX0 yX0_add yX0_add, Cond.initialized RX0, Cond.code yX0_add cX0_add 4 (some .int), Cond.classLink RX0 47 "java/lang/IllegalStateException", Cond.initialized "java/lang/IllegalStateException", Cond.fieldLink RX0 25 "GamutChain" "lengths" "[I", Cond.fieldLink RX0 22 "GamutChain" "links" "[I", Cond.methodLink RX0 99 yX0_needChain, Cond.instanceMethod yX0_needChain, Cond.selects RX0 yX0_needChain yX0_needChain, Cond.code yX0_needChain cX0_needChain 2 none, Cond.classLink RX0 69 "java/lang/IndexOutOfBoundsException", Cond.initialized "java/lang/IndexOutOfBoundsException", Cond.fieldLink RX0 94 "GamutChain" "chains" "I", Cond.methodLink RX0 62 yX0_needProfile, Cond.instanceMethod yX0_needProfile, Cond.selects RX0 yX0_needProfile yX0_needProfile, Cond.code yX0_needProfile cX0_needProfile 2 none, Cond.fieldLink RX0 43 "GamutChain" "profiles" "I", Cond.methodLink RX0 102 yX0_needFreeChain]
def wsL_add_r2 : List Cond := [Cond.instanceMethod yX0_needFreeChain, Cond.selects RX0 yX0_needFreeChain yX0_needFreeChain, Cond.code yX0_needFreeChain cX0_needFreeChain 2 none, Cond.fieldLink RX0 146 "GamutChain" "signedChains" "I", Cond.methodLink RX0 133 yX0_hasBit, Cond.static yX0_hasBit, Cond.code yX0_hasBit cX0_hasBit 2 (some .boolean), Cond.methodLink RX0 105 yX0_read, Cond.static yX0_read, Cond.code yX0_read cX0_read 2 (some .int), Cond.methodLink RX0 58 yX0_swap, Cond.static yX0_swap, Cond.code yX0_swap cX0_swap 4 (some .int)]
def wsL_add : List Cond := .codeWith yL_add cL_add 5 (some .int) [(0, 10, 13, 19), (0, 10, 17, 13)] :: ((wsL_add_r1 ++ wsL_add_r2) ++ wsX00 ++ (vx_atS RX0 51 "java/lang/IllegalStateException" ["java/lang/RuntimeException", "java/lang/Exception"]).filter goodWord ++ (vx_atS RX0 73 "java/lang/IndexOutOfBoundsException" ["java/lang/RuntimeException", "java/lang/Exception"]).filter goodWord)
def wsL_drop_r1 : List Cond := [Cond.classLink RL 19 "java/lang/IndexOutOfBoundsException", Cond.classLink RL 13 "java/lang/IllegalStateException", Cond.methodLink RL 43 yX0_drop, Cond.instanceMethod yX0_drop, Cond.selects RX0 yX0_drop yX0_drop, Cond.initialized RX0, Cond.code yX0_drop cX0_drop 3 (some .int), Cond.classLink RX0 47 "java/lang/IllegalStateException", Cond.initialized "java/lang/IllegalStateException", Cond.fieldLink RX0 25 "GamutChain" "lengths" "[I", Cond.fieldLink RX0 22 "GamutChain" "links" "[I", Cond.methodLink RX0 99 yX0_needChain, Cond.instanceMethod yX0_needChain, Cond.selects RX0 yX0_needChain yX0_needChain, Cond.code yX0_needChain cX0_needChain 2 none, Cond.classLink RX0 69 "java/lang/IndexOutOfBoundsException", Cond.initialized "java/lang/IndexOutOfBoundsException", Cond.fieldLink RX0 94 "GamutChain" "chains" "I", Cond.methodLink RX0 102 yX0_needFreeChain, Cond.instanceMethod yX0_needFreeChain, Cond.selects RX0 yX0_needFreeChain yX0_needFreeChain, Cond.code yX0_needFreeChain cX0_needFreeChain 2 none, Cond.fieldLink RX0 146 "GamutChain" "signedChains" "I", Cond.methodLink RX0 133 yX0_hasBit]
def wsL_drop_r2 : List Cond := [Cond.static yX0_hasBit, Cond.code yX0_hasBit cX0_hasBit 2 (some .boolean), Cond.methodLink RX0 105 yX0_read, Cond.static yX0_read, Cond.code yX0_read cX0_read 2 (some .int), Cond.methodLink RX0 58 yX0_swap, Cond.static yX0_swap, Cond.code yX0_swap cX0_swap 4 (some .int)]
def wsL_drop : List Cond := .codeWith yL_drop cL_drop 4 (some .int) [(0, 9, 12, 19), (0, 9, 15, 13)] :: ((wsL_drop_r1 ++ wsL_drop_r2) ++ wsX00 ++ (vx_atS RX0 51 "java/lang/IllegalStateException" ["java/lang/RuntimeException", "java/lang/Exception"]).filter goodWord ++ (vx_atS RX0 73 "java/lang/IndexOutOfBoundsException" ["java/lang/RuntimeException", "java/lang/Exception"]).filter goodWord)
def wsL_through_r1 : List Cond := [Cond.classLink RL 19 "java/lang/IndexOutOfBoundsException", Cond.classLink RL 21 "java/lang/IllegalArgumentException", Cond.methodLink RL 47 yX0_through, Cond.instanceMethod yX0_through, Cond.selects RX0 yX0_through yX0_through, Cond.initialized RX0, Cond.code yX0_through cX0_through 4 (some .int), Cond.methodLink RX0 99 yX0_needChain, Cond.instanceMethod yX0_needChain, Cond.selects RX0 yX0_needChain yX0_needChain, Cond.code yX0_needChain cX0_needChain 2 none, Cond.classLink RX0 69 "java/lang/IndexOutOfBoundsException", Cond.initialized "java/lang/IndexOutOfBoundsException", Cond.fieldLink RX0 94 "GamutChain" "chains" "I", Cond.methodLink RX0 66 yX0_needBand, Cond.static yX0_needBand, Cond.code yX0_needBand cX0_needBand 1 none, Cond.methodLink RX0 74 yX0_needValue, Cond.static yX0_needValue, Cond.code yX0_needValue cX0_needValue 1 none, Cond.classLink RX0 80 "java/lang/IllegalArgumentException", Cond.initialized "java/lang/IllegalArgumentException", Cond.methodLink RX0 113 yX0_pass, Cond.instanceMethod yX0_pass]
def wsL_through_r2 : List Cond := [Cond.selects RX0 yX0_pass yX0_pass, Cond.code yX0_pass cX0_pass 7 (some .int), Cond.fieldLink RX0 25 "GamutChain" "lengths" "[I", Cond.fieldLink RX0 22 "GamutChain" "links" "[I", Cond.methodLink RX0 105 yX0_read, Cond.static yX0_read, Cond.code yX0_read cX0_read 2 (some .int), Cond.methodLink RX0 91 yX0_take, Cond.instanceMethod yX0_take, Cond.selects RX0 yX0_take yX0_take, Cond.code yX0_take cX0_take 8 (some .int), Cond.fieldLink RX0 13 "GamutChain" "leasts" "[I", Cond.fieldLink RX0 16 "GamutChain" "greatests" "[I", Cond.fieldLink RX0 19 "GamutChain" "ways" "[I", Cond.methodLink RX0 119 Lib.Math.min.name, Cond.static Lib.Math.min.name, Cond.initialized "java/lang/Math", Cond.code Lib.Math.min.name Lib.Math.min.code 2 (some .int), Cond.methodLink RX0 125 Lib.Math.max.name, Cond.static Lib.Math.max.name, Cond.code Lib.Math.max.name Lib.Math.max.code 2 (some .int), Cond.methodLink RX0 87 yX0_bent, Cond.instanceMethod yX0_bent, Cond.selects RX0 yX0_bent yX0_bent]
def wsL_through_r3 : List Cond := [Cond.code yX0_bent cX0_bent 4 (some .int), Cond.fieldLink RX0 9 "GamutChain" "bends" "[I", Cond.methodLink RX0 139 yX0_between, Cond.static yX0_between, Cond.code yX0_between cX0_between 7 (some .int), Cond.methodLink RX0 183 yJ9_floorDiv_7cf53, Cond.static yJ9_floorDiv_7cf53, Cond.initialized RJ9, Cond.code yJ9_floorDiv_7cf53 cJ9_floorDiv_7cf53 3 (some .int), Cond.methodLink RX0 186 yX0_fold, Cond.static yX0_fold, Cond.code yX0_fold cX0_fold 3 (some .int)]
def wsL_through : List Cond := .codeWith yL_through cL_through 6 (some .int) [(0, 12, 15, 19), (0, 12, 19, 21)] :: ((wsL_through_r1 ++ (wsL_through_r2 ++ wsL_through_r3)) ++ wsX00 ++ (vx_atS RX0 73 "java/lang/IndexOutOfBoundsException" ["java/lang/RuntimeException", "java/lang/Exception"]).filter goodWord ++ (vx_atS RX0 84 "java/lang/IllegalArgumentException" ["java/lang/RuntimeException", "java/lang/Exception"]).filter goodWord)
def wsL_gap_r1 : List Cond := [Cond.classLink RL 19 "java/lang/IndexOutOfBoundsException", Cond.methodLink RL 50 yX0_gap, Cond.instanceMethod yX0_gap, Cond.selects RX0 yX0_gap yX0_gap, Cond.initialized RX0, Cond.code yX0_gap cX0_gap 2 (some .int), Cond.methodLink RX0 99 yX0_needChain, Cond.instanceMethod yX0_needChain, Cond.selects RX0 yX0_needChain yX0_needChain, Cond.code yX0_needChain cX0_needChain 2 none, Cond.classLink RX0 69 "java/lang/IndexOutOfBoundsException", Cond.initialized "java/lang/IndexOutOfBoundsException", Cond.fieldLink RX0 94 "GamutChain" "chains" "I", Cond.methodLink RX0 116 yX0_tryJoining, Cond.instanceMethod yX0_tryJoining, Cond.selects RX0 yX0_tryJoining yX0_tryJoining, Cond.code yX0_tryJoining cX0_tryJoining 6 (some .int), Cond.fieldLink RX0 31 "GamutChain" "trial" "[I", Cond.methodLink RX0 189 Lib.Math.abs.name, Cond.static Lib.Math.abs.name, Cond.initialized "java/lang/Math", Cond.code Lib.Math.abs.name Lib.Math.abs.code 1 (some .int), Cond.methodLink RX0 125 Lib.Math.max.name, Cond.static Lib.Math.max.name]
def wsL_gap_r2 : List Cond := [Cond.code Lib.Math.max.name Lib.Math.max.code 2 (some .int), Cond.methodLink RX0 54 yX0_valueOfPlace, Cond.static yX0_valueOfPlace, Cond.code yX0_valueOfPlace cX0_valueOfPlace 1 (some .int), Cond.methodLink RX0 119 Lib.Math.min.name, Cond.static Lib.Math.min.name, Cond.code Lib.Math.min.name Lib.Math.min.code 2 (some .int), Cond.methodLink RX0 113 yX0_pass, Cond.instanceMethod yX0_pass, Cond.selects RX0 yX0_pass yX0_pass, Cond.code yX0_pass cX0_pass 7 (some .int), Cond.fieldLink RX0 25 "GamutChain" "lengths" "[I", Cond.fieldLink RX0 22 "GamutChain" "links" "[I", Cond.methodLink RX0 105 yX0_read, Cond.static yX0_read, Cond.code yX0_read cX0_read 2 (some .int), Cond.methodLink RX0 91 yX0_take, Cond.instanceMethod yX0_take, Cond.selects RX0 yX0_take yX0_take, Cond.code yX0_take cX0_take 8 (some .int), Cond.fieldLink RX0 13 "GamutChain" "leasts" "[I", Cond.fieldLink RX0 16 "GamutChain" "greatests" "[I", Cond.fieldLink RX0 19 "GamutChain" "ways" "[I", Cond.methodLink RX0 87 yX0_bent]
def wsL_gap_r3 : List Cond := [Cond.instanceMethod yX0_bent, Cond.selects RX0 yX0_bent yX0_bent, Cond.code yX0_bent cX0_bent 4 (some .int), Cond.fieldLink RX0 9 "GamutChain" "bends" "[I", Cond.methodLink RX0 139 yX0_between, Cond.static yX0_between, Cond.code yX0_between cX0_between 7 (some .int), Cond.methodLink RX0 183 yJ9_floorDiv_7cf53, Cond.static yJ9_floorDiv_7cf53, Cond.initialized RJ9, Cond.code yJ9_floorDiv_7cf53 cJ9_floorDiv_7cf53 3 (some .int), Cond.methodLink RX0 186 yX0_fold, Cond.static yX0_fold, Cond.code yX0_fold cX0_fold 3 (some .int), Cond.methodLink RX0 58 yX0_swap, Cond.static yX0_swap, Cond.code yX0_swap cX0_swap 4 (some .int)]
def wsL_gap : List Cond := .codeWith yL_gap cL_gap 4 (some .int) [(0, 9, 12, 19)] :: ((wsL_gap_r1 ++ (wsL_gap_r2 ++ wsL_gap_r3)) ++ wsX00 ++ (vx_atS RX0 73 "java/lang/IndexOutOfBoundsException" ["java/lang/RuntimeException", "java/lang/Exception"]).filter goodWord)
def wsL_greyGap_r1 : List Cond := [Cond.classLink RL 19 "java/lang/IndexOutOfBoundsException", Cond.methodLink RL 53 yX0_greyGap, Cond.instanceMethod yX0_greyGap, Cond.selects RX0 yX0_greyGap yX0_greyGap, Cond.initialized RX0, Cond.code yX0_greyGap cX0_greyGap 8 (some .int), Cond.methodLink RX0 119 Lib.Math.min.name, Cond.static Lib.Math.min.name, Cond.initialized "java/lang/Math", Cond.code Lib.Math.min.name Lib.Math.min.code 2 (some .int), Cond.methodLink RX0 125 Lib.Math.max.name, Cond.static Lib.Math.max.name, Cond.code Lib.Math.max.name Lib.Math.max.code 2 (some .int), Cond.methodLink RX0 99 yX0_needChain, Cond.instanceMethod yX0_needChain, Cond.selects RX0 yX0_needChain yX0_needChain, Cond.code yX0_needChain cX0_needChain 2 none, Cond.classLink RX0 69 "java/lang/IndexOutOfBoundsException", Cond.initialized "java/lang/IndexOutOfBoundsException", Cond.fieldLink RX0 94 "GamutChain" "chains" "I", Cond.methodLink RX0 113 yX0_pass, Cond.instanceMethod yX0_pass, Cond.selects RX0 yX0_pass yX0_pass, Cond.code yX0_pass cX0_pass 7 (some .int)]
def wsL_greyGap_r2 : List Cond := [Cond.fieldLink RX0 25 "GamutChain" "lengths" "[I", Cond.fieldLink RX0 22 "GamutChain" "links" "[I", Cond.methodLink RX0 105 yX0_read, Cond.static yX0_read, Cond.code yX0_read cX0_read 2 (some .int), Cond.methodLink RX0 91 yX0_take, Cond.instanceMethod yX0_take, Cond.selects RX0 yX0_take yX0_take, Cond.code yX0_take cX0_take 8 (some .int), Cond.fieldLink RX0 13 "GamutChain" "leasts" "[I", Cond.fieldLink RX0 16 "GamutChain" "greatests" "[I", Cond.fieldLink RX0 19 "GamutChain" "ways" "[I", Cond.methodLink RX0 87 yX0_bent, Cond.instanceMethod yX0_bent, Cond.selects RX0 yX0_bent yX0_bent, Cond.code yX0_bent cX0_bent 4 (some .int), Cond.fieldLink RX0 9 "GamutChain" "bends" "[I", Cond.methodLink RX0 139 yX0_between, Cond.static yX0_between, Cond.code yX0_between cX0_between 7 (some .int), Cond.methodLink RX0 183 yJ9_floorDiv_7cf53, Cond.static yJ9_floorDiv_7cf53, Cond.initialized RJ9, Cond.code yJ9_floorDiv_7cf53 cJ9_floorDiv_7cf53 3 (some .int)]
def wsL_greyGap_r3 : List Cond := [Cond.methodLink RX0 186 yX0_fold, Cond.static yX0_fold, Cond.code yX0_fold cX0_fold 3 (some .int)]
def wsL_greyGap : List Cond := .codeWith yL_greyGap cL_greyGap 4 (some .int) [(0, 9, 12, 19)] :: ((wsL_greyGap_r1 ++ (wsL_greyGap_r2 ++ wsL_greyGap_r3)) ++ wsX00 ++ (vx_atS RX0 73 "java/lang/IndexOutOfBoundsException" ["java/lang/RuntimeException", "java/lang/Exception"]).filter goodWord)
def wsL_join_r1 : List Cond := [Cond.classLink RL 19 "java/lang/IndexOutOfBoundsException", Cond.classLink RL 21 "java/lang/IllegalArgumentException", Cond.classLink RL 13 "java/lang/IllegalStateException", Cond.methodLink RL 56 yX0_join, Cond.instanceMethod yX0_join, Cond.selects RX0 yX0_join yX0_join, Cond.initialized RX0, Cond.code yX0_join cX0_join 5 (some .int), Cond.classLink RX0 47 "java/lang/IllegalStateException", Cond.initialized "java/lang/IllegalStateException", Cond.fieldLink RX0 28 "GamutChain" "kept" "[I", Cond.fieldLink RX0 31 "GamutChain" "trial" "[I", Cond.fieldLink RX0 130 "GamutChain" "joinedChains" "I", Cond.methodLink RX0 99 yX0_needChain, Cond.instanceMethod yX0_needChain, Cond.selects RX0 yX0_needChain yX0_needChain, Cond.code yX0_needChain cX0_needChain 2 none, Cond.classLink RX0 69 "java/lang/IndexOutOfBoundsException", Cond.initialized "java/lang/IndexOutOfBoundsException", Cond.fieldLink RX0 94 "GamutChain" "chains" "I", Cond.methodLink RX0 74 yX0_needValue, Cond.static yX0_needValue, Cond.code yX0_needValue cX0_needValue 1 none, Cond.classLink RX0 80 "java/lang/IllegalArgumentException"]
def wsL_join_r2 : List Cond := [Cond.initialized "java/lang/IllegalArgumentException", Cond.methodLink RX0 116 yX0_tryJoining, Cond.instanceMethod yX0_tryJoining, Cond.selects RX0 yX0_tryJoining yX0_tryJoining, Cond.code yX0_tryJoining cX0_tryJoining 6 (some .int), Cond.methodLink RX0 189 Lib.Math.abs.name, Cond.static Lib.Math.abs.name, Cond.initialized "java/lang/Math", Cond.code Lib.Math.abs.name Lib.Math.abs.code 1 (some .int), Cond.methodLink RX0 125 Lib.Math.max.name, Cond.static Lib.Math.max.name, Cond.code Lib.Math.max.name Lib.Math.max.code 2 (some .int), Cond.methodLink RX0 54 yX0_valueOfPlace, Cond.static yX0_valueOfPlace, Cond.code yX0_valueOfPlace cX0_valueOfPlace 1 (some .int), Cond.methodLink RX0 119 Lib.Math.min.name, Cond.static Lib.Math.min.name, Cond.code Lib.Math.min.name Lib.Math.min.code 2 (some .int), Cond.methodLink RX0 113 yX0_pass, Cond.instanceMethod yX0_pass, Cond.selects RX0 yX0_pass yX0_pass, Cond.code yX0_pass cX0_pass 7 (some .int), Cond.fieldLink RX0 25 "GamutChain" "lengths" "[I", Cond.fieldLink RX0 22 "GamutChain" "links" "[I"]
def wsL_join_r3 : List Cond := [Cond.methodLink RX0 105 yX0_read, Cond.static yX0_read, Cond.code yX0_read cX0_read 2 (some .int), Cond.methodLink RX0 91 yX0_take, Cond.instanceMethod yX0_take, Cond.selects RX0 yX0_take yX0_take, Cond.code yX0_take cX0_take 8 (some .int), Cond.fieldLink RX0 13 "GamutChain" "leasts" "[I", Cond.fieldLink RX0 16 "GamutChain" "greatests" "[I", Cond.fieldLink RX0 19 "GamutChain" "ways" "[I", Cond.methodLink RX0 87 yX0_bent, Cond.instanceMethod yX0_bent, Cond.selects RX0 yX0_bent yX0_bent, Cond.code yX0_bent cX0_bent 4 (some .int), Cond.fieldLink RX0 9 "GamutChain" "bends" "[I", Cond.methodLink RX0 139 yX0_between, Cond.static yX0_between, Cond.code yX0_between cX0_between 7 (some .int), Cond.methodLink RX0 183 yJ9_floorDiv_7cf53, Cond.static yJ9_floorDiv_7cf53, Cond.initialized RJ9, Cond.code yJ9_floorDiv_7cf53 cJ9_floorDiv_7cf53 3 (some .int), Cond.methodLink RX0 186 yX0_fold, Cond.static yX0_fold]
def wsL_join_r4 : List Cond := [Cond.code yX0_fold cX0_fold 3 (some .int), Cond.methodLink RX0 58 yX0_swap, Cond.static yX0_swap, Cond.code yX0_swap cX0_swap 4 (some .int)]
def wsL_join : List Cond := .codeWith yL_join cL_join 5 (some .int) [(0, 10, 13, 19), (0, 10, 17, 21), (0, 10, 21, 13)] :: ((wsL_join_r1 ++ (wsL_join_r2 ++ (wsL_join_r3 ++ wsL_join_r4))) ++ wsX00 ++ (vx_atS RX0 51 "java/lang/IllegalStateException" ["java/lang/RuntimeException", "java/lang/Exception"]).filter goodWord ++ (vx_atS RX0 73 "java/lang/IndexOutOfBoundsException" ["java/lang/RuntimeException", "java/lang/Exception"]).filter goodWord ++ (vx_atS RX0 84 "java/lang/IllegalArgumentException" ["java/lang/RuntimeException", "java/lang/Exception"]).filter goodWord)
def wsL_joined_r1 : List Cond := [Cond.classLink RL 19 "java/lang/IndexOutOfBoundsException", Cond.classLink RL 21 "java/lang/IllegalArgumentException", Cond.classLink RL 13 "java/lang/IllegalStateException", Cond.methodLink RL 59 yX0_joined, Cond.instanceMethod yX0_joined, Cond.selects RX0 yX0_joined yX0_joined, Cond.initialized RX0, Cond.code yX0_joined cX0_joined 4 (some .int), Cond.classLink RX0 47 "java/lang/IllegalStateException", Cond.initialized "java/lang/IllegalStateException", Cond.fieldLink RX0 130 "GamutChain" "joinedChains" "I", Cond.fieldLink RX0 28 "GamutChain" "kept" "[I", Cond.methodLink RX0 99 yX0_needChain, Cond.instanceMethod yX0_needChain, Cond.selects RX0 yX0_needChain yX0_needChain, Cond.code yX0_needChain cX0_needChain 2 none, Cond.classLink RX0 69 "java/lang/IndexOutOfBoundsException", Cond.initialized "java/lang/IndexOutOfBoundsException", Cond.fieldLink RX0 94 "GamutChain" "chains" "I", Cond.methodLink RX0 66 yX0_needBand, Cond.static yX0_needBand, Cond.code yX0_needBand cX0_needBand 1 none, Cond.methodLink RX0 74 yX0_needValue, Cond.static yX0_needValue]
def wsL_joined_r2 : List Cond := [Cond.code yX0_needValue cX0_needValue 1 none, Cond.classLink RX0 80 "java/lang/IllegalArgumentException", Cond.initialized "java/lang/IllegalArgumentException", Cond.methodLink RX0 133 yX0_hasBit, Cond.static yX0_hasBit, Cond.code yX0_hasBit cX0_hasBit 2 (some .boolean), Cond.methodLink RX0 139 yX0_between, Cond.static yX0_between, Cond.code yX0_between cX0_between 7 (some .int), Cond.methodLink RX0 105 yX0_read, Cond.static yX0_read, Cond.code yX0_read cX0_read 2 (some .int), Cond.methodLink RX0 183 yJ9_floorDiv_7cf53, Cond.static yJ9_floorDiv_7cf53, Cond.initialized RJ9, Cond.code yJ9_floorDiv_7cf53 cJ9_floorDiv_7cf53 3 (some .int)]
def wsL_joined : List Cond := .codeWith yL_joined cL_joined 6 (some .int) [(0, 12, 15, 19), (0, 12, 19, 21), (0, 12, 23, 13)] :: ((wsL_joined_r1 ++ wsL_joined_r2) ++ wsX00 ++ (vx_atS RX0 51 "java/lang/IllegalStateException" ["java/lang/RuntimeException", "java/lang/Exception"]).filter goodWord ++ (vx_atS RX0 73 "java/lang/IndexOutOfBoundsException" ["java/lang/RuntimeException", "java/lang/Exception"]).filter goodWord ++ (vx_atS RX0 84 "java/lang/IllegalArgumentException" ["java/lang/RuntimeException", "java/lang/Exception"]).filter goodWord)
def wsL_sign : List Cond := .codeWith yL_sign cL_sign 4 (some .int) [(0, 16, 19, 19)] :: ([.classLink RL 19 "java/lang/IndexOutOfBoundsException", .methodLink RL 62 yX0_sign, .instanceMethod yX0_sign, .selects RX0 yX0_sign yX0_sign, .initialized RX0, .code yX0_sign cX0_sign 2 (some .boolean), .fieldLink RX0 146 "GamutChain" "signedChains" "I", .methodLink RX0 99 yX0_needChain, .instanceMethod yX0_needChain, .selects RX0 yX0_needChain yX0_needChain, .code yX0_needChain cX0_needChain 2 none, .classLink RX0 69 "java/lang/IndexOutOfBoundsException", .initialized "java/lang/IndexOutOfBoundsException", .fieldLink RX0 94 "GamutChain" "chains" "I", .methodLink RX0 133 yX0_hasBit, .static yX0_hasBit, .code yX0_hasBit cX0_hasBit 2 (some .boolean)] ++ wsX00 ++ (vx_atS RX0 73 "java/lang/IndexOutOfBoundsException" ["java/lang/RuntimeException", "java/lang/Exception"]).filter goodWord)
def wsL_paint : List Cond := .codeWith yL_paint cL_paint 6 (some .int) [(0, 12, 15, 19), (0, 12, 19, 21)] :: ([.classLink RL 19 "java/lang/IndexOutOfBoundsException", .classLink RL 21 "java/lang/IllegalArgumentException", .methodLink RL 66 yX0_paint, .instanceMethod yX0_paint, .selects RX0 yX0_paint yX0_paint, .initialized RX0, .code yX0_paint cX0_paint 4 (some .int), .fieldLink RX0 34 "GamutChain" "colours" "[I", .methodLink RX0 152 yX0_needPixel, .static yX0_needPixel, .code yX0_needPixel cX0_needPixel 1 none, .classLink RX0 69 "java/lang/IndexOutOfBoundsException", .initialized "java/lang/IndexOutOfBoundsException", .methodLink RX0 66 yX0_needBand, .static yX0_needBand, .code yX0_needBand cX0_needBand 1 none, .methodLink RX0 74 yX0_needValue, .static yX0_needValue, .code yX0_needValue cX0_needValue 1 none, .classLink RX0 80 "java/lang/IllegalArgumentException", .initialized "java/lang/IllegalArgumentException", .methodLink RX0 58 yX0_swap, .static yX0_swap, .code yX0_swap cX0_swap 4 (some .int)] ++ wsX00 ++ (vx_atS RX0 73 "java/lang/IndexOutOfBoundsException" ["java/lang/RuntimeException", "java/lang/Exception"]).filter goodWord ++ (vx_atS RX0 84 "java/lang/IllegalArgumentException" ["java/lang/RuntimeException", "java/lang/Exception"]).filter goodWord)
def wsL_spot : List Cond := .codeWith yL_spot cL_spot 6 (some .int) [(0, 12, 15, 19), (0, 12, 19, 21)] :: ([.classLink RL 19 "java/lang/IndexOutOfBoundsException", .classLink RL 21 "java/lang/IllegalArgumentException", .methodLink RL 69 yX0_spot, .instanceMethod yX0_spot, .selects RX0 yX0_spot yX0_spot, .initialized RX0, .code yX0_spot cX0_spot 4 (some .int), .fieldLink RX0 37 "GamutChain" "amounts" "[I", .methodLink RX0 152 yX0_needPixel, .static yX0_needPixel, .code yX0_needPixel cX0_needPixel 1 none, .classLink RX0 69 "java/lang/IndexOutOfBoundsException", .initialized "java/lang/IndexOutOfBoundsException", .methodLink RX0 155 yX0_needInk, .static yX0_needInk, .code yX0_needInk cX0_needInk 1 none, .methodLink RX0 74 yX0_needValue, .static yX0_needValue, .code yX0_needValue cX0_needValue 1 none, .classLink RX0 80 "java/lang/IllegalArgumentException", .initialized "java/lang/IllegalArgumentException", .methodLink RX0 58 yX0_swap, .static yX0_swap, .code yX0_swap cX0_swap 4 (some .int)] ++ wsX00 ++ (vx_atS RX0 73 "java/lang/IndexOutOfBoundsException" ["java/lang/RuntimeException", "java/lang/Exception"]).filter goodWord ++ (vx_atS RX0 84 "java/lang/IllegalArgumentException" ["java/lang/RuntimeException", "java/lang/Exception"]).filter goodWord)
def wsL_mix : List Cond := .codeWith yL_mix cL_mix 6 (some .int) [(0, 12, 15, 19), (0, 12, 19, 21)] :: ([.classLink RL 19 "java/lang/IndexOutOfBoundsException", .classLink RL 21 "java/lang/IllegalArgumentException", .methodLink RL 72 yX0_mix, .instanceMethod yX0_mix, .selects RX0 yX0_mix yX0_mix, .initialized RX0, .code yX0_mix cX0_mix 4 (some .int), .fieldLink RX0 40 "GamutChain" "mixes" "[I", .methodLink RX0 155 yX0_needInk, .static yX0_needInk, .code yX0_needInk cX0_needInk 1 none, .classLink RX0 69 "java/lang/IndexOutOfBoundsException", .initialized "java/lang/IndexOutOfBoundsException", .methodLink RX0 66 yX0_needBand, .static yX0_needBand, .code yX0_needBand cX0_needBand 1 none, .methodLink RX0 74 yX0_needValue, .static yX0_needValue, .code yX0_needValue cX0_needValue 1 none, .classLink RX0 80 "java/lang/IllegalArgumentException", .initialized "java/lang/IllegalArgumentException", .methodLink RX0 58 yX0_swap, .static yX0_swap, .code yX0_swap cX0_swap 4 (some .int)] ++ wsX00 ++ (vx_atS RX0 73 "java/lang/IndexOutOfBoundsException" ["java/lang/RuntimeException", "java/lang/Exception"]).filter goodWord ++ (vx_atS RX0 84 "java/lang/IllegalArgumentException" ["java/lang/RuntimeException", "java/lang/Exception"]).filter goodWord)
def wsL_shown_r1 : List Cond := [Cond.classLink RL 19 "java/lang/IndexOutOfBoundsException", Cond.classLink RL 21 "java/lang/IllegalArgumentException", Cond.methodLink RL 75 yX0_shown, Cond.instanceMethod yX0_shown, Cond.selects RX0 yX0_shown yX0_shown, Cond.initialized RX0, Cond.code yX0_shown cX0_shown 5 (some .int), Cond.classLink RX0 80 "java/lang/IllegalArgumentException", Cond.initialized "java/lang/IllegalArgumentException", Cond.methodLink RX0 99 yX0_needChain, Cond.instanceMethod yX0_needChain, Cond.selects RX0 yX0_needChain yX0_needChain, Cond.code yX0_needChain cX0_needChain 2 none, Cond.classLink RX0 69 "java/lang/IndexOutOfBoundsException", Cond.initialized "java/lang/IndexOutOfBoundsException", Cond.fieldLink RX0 94 "GamutChain" "chains" "I", Cond.methodLink RX0 152 yX0_needPixel, Cond.static yX0_needPixel, Cond.code yX0_needPixel cX0_needPixel 1 none, Cond.methodLink RX0 66 yX0_needBand, Cond.static yX0_needBand, Cond.code yX0_needBand cX0_needBand 1 none, Cond.methodLink RX0 160 yX0_inked, Cond.instanceMethod yX0_inked]
def wsL_shown_r2 : List Cond := [Cond.selects RX0 yX0_inked yX0_inked, Cond.code yX0_inked cX0_inked 7 (some .int), Cond.fieldLink RX0 34 "GamutChain" "colours" "[I", Cond.fieldLink RX0 40 "GamutChain" "mixes" "[I", Cond.fieldLink RX0 37 "GamutChain" "amounts" "[I", Cond.methodLink RX0 119 Lib.Math.min.name, Cond.static Lib.Math.min.name, Cond.initialized "java/lang/Math", Cond.code Lib.Math.min.name Lib.Math.min.code 2 (some .int), Cond.methodLink RX0 105 yX0_read, Cond.static yX0_read, Cond.code yX0_read cX0_read 2 (some .int), Cond.methodLink RX0 133 yX0_hasBit, Cond.static yX0_hasBit, Cond.code yX0_hasBit cX0_hasBit 2 (some .boolean), Cond.methodLink RX0 113 yX0_pass, Cond.instanceMethod yX0_pass, Cond.selects RX0 yX0_pass yX0_pass, Cond.code yX0_pass cX0_pass 7 (some .int), Cond.fieldLink RX0 25 "GamutChain" "lengths" "[I", Cond.fieldLink RX0 22 "GamutChain" "links" "[I", Cond.methodLink RX0 91 yX0_take, Cond.instanceMethod yX0_take, Cond.selects RX0 yX0_take yX0_take]
def wsL_shown_r3 : List Cond := [Cond.code yX0_take cX0_take 8 (some .int), Cond.fieldLink RX0 13 "GamutChain" "leasts" "[I", Cond.fieldLink RX0 16 "GamutChain" "greatests" "[I", Cond.fieldLink RX0 19 "GamutChain" "ways" "[I", Cond.methodLink RX0 125 Lib.Math.max.name, Cond.static Lib.Math.max.name, Cond.code Lib.Math.max.name Lib.Math.max.code 2 (some .int), Cond.methodLink RX0 87 yX0_bent, Cond.instanceMethod yX0_bent, Cond.selects RX0 yX0_bent yX0_bent, Cond.code yX0_bent cX0_bent 4 (some .int), Cond.fieldLink RX0 9 "GamutChain" "bends" "[I", Cond.methodLink RX0 139 yX0_between, Cond.static yX0_between, Cond.code yX0_between cX0_between 7 (some .int), Cond.methodLink RX0 183 yJ9_floorDiv_7cf53, Cond.static yJ9_floorDiv_7cf53, Cond.initialized RJ9, Cond.code yJ9_floorDiv_7cf53 cJ9_floorDiv_7cf53 3 (some .int), Cond.methodLink RX0 186 yX0_fold, Cond.static yX0_fold, Cond.code yX0_fold cX0_fold 3 (some .int)]
def wsL_shown : List Cond := .codeWith yL_shown cL_shown 7 (some .int) [(0, 14, 17, 19), (0, 14, 21, 21)] :: ((wsL_shown_r1 ++ (wsL_shown_r2 ++ wsL_shown_r3)) ++ wsX00 ++ (vx_atS RX0 84 "java/lang/IllegalArgumentException" ["java/lang/RuntimeException", "java/lang/Exception"]).filter goodWord ++ (vx_atS RX0 73 "java/lang/IndexOutOfBoundsException" ["java/lang/RuntimeException", "java/lang/Exception"]).filter goodWord)
def wsL_law0_r1 : List Cond := [Cond.classLink RL 8 RX0, Cond.instantiable RX0 15, Cond.initialized RX0, Cond.classLink RL 79 RX1, Cond.instantiable RX1 16, Cond.initialized RX1, Cond.arrayClass .long, Cond.methodLink RL 78 yX0_init, Cond.instanceMethod yX0_init, Cond.code yX0_init cX0_init 1 none, Cond.methodLink RX0 1 objectInit, Cond.instanceMethod objectInit, Cond.code objectInit ⟨#[0xb1]⟩ 1 none, Cond.arrayClass .int, Cond.fieldLink RX0 9 "GamutChain" "bends" "[I", Cond.fieldLink RX0 13 "GamutChain" "leasts" "[I", Cond.fieldLink RX0 16 "GamutChain" "greatests" "[I", Cond.fieldLink RX0 19 "GamutChain" "ways" "[I", Cond.fieldLink RX0 22 "GamutChain" "links" "[I", Cond.fieldLink RX0 25 "GamutChain" "lengths" "[I", Cond.fieldLink RX0 28 "GamutChain" "kept" "[I", Cond.fieldLink RX0 31 "GamutChain" "trial" "[I", Cond.fieldLink RX0 34 "GamutChain" "colours" "[I", Cond.fieldLink RX0 37 "GamutChain" "amounts" "[I"]
def wsL_law0_r2 : List Cond := [Cond.fieldLink RX0 40 "GamutChain" "mixes" "[I", Cond.methodLink RL 81 yX1_init, Cond.instanceMethod yX1_init, Cond.code yX1_init cX1_init 1 none, Cond.methodLink RX1 1 objectInit, Cond.fieldLink RX1 7 "GamutChainModel" "bends" "[I", Cond.fieldLink RX1 13 "GamutChainModel" "least" "[I", Cond.fieldLink RX1 16 "GamutChainModel" "greatest" "[I", Cond.fieldLink RX1 19 "GamutChainModel" "ways" "[I", Cond.fieldLink RX1 22 "GamutChainModel" "many" "[I", Cond.fieldLink RX1 25 "GamutChainModel" "links" "[I", Cond.arrayClass .boolean, Cond.fieldLink RX1 28 "GamutChainModel" "isJoined" "[Z", Cond.fieldLink RX1 32 "GamutChainModel" "isSigned" "[Z", Cond.fieldLink RX1 35 "GamutChainModel" "kept" "[I", Cond.fieldLink RX1 38 "GamutChainModel" "picture" "[I", Cond.fieldLink RX1 41 "GamutChainModel" "amounts" "[I", Cond.fieldLink RX1 44 "GamutChainModel" "mixes" "[I", Cond.fieldLink RX1 47 "GamutChainModel" "five" "[I", Cond.methodLink RL 82 yL_profile, Cond.static yL_profile, Cond.initialized RL, Cond.codeWith yL_profile cL_profile 3 (some .int) [(0, 8, 11, 13)], Cond.classLink RL 13 "java/lang/IllegalStateException"]
def wsL_law0_r3 : List Cond := [Cond.methodLink RL 7 yX0_profile, Cond.instanceMethod yX0_profile, Cond.selects RX0 yX0_profile yX0_profile, Cond.code yX0_profile cX0_profile 5 (some .int), Cond.classLink RX0 47 "java/lang/IllegalStateException", Cond.initialized "java/lang/IllegalStateException", Cond.fieldLink RX0 43 "GamutChain" "profiles" "I", Cond.methodLink RX0 54 yX0_valueOfPlace, Cond.static yX0_valueOfPlace, Cond.code yX0_valueOfPlace cX0_valueOfPlace 1 (some .int), Cond.methodLink RX0 119 Lib.Math.min.name, Cond.static Lib.Math.min.name, Cond.initialized "java/lang/Math", Cond.code Lib.Math.min.name Lib.Math.min.code 2 (some .int), Cond.methodLink RX0 58 yX0_swap, Cond.static yX0_swap, Cond.code yX0_swap cX0_swap 4 (some .int), Cond.methodLink RL 87 yX1_profile, Cond.instanceMethod yX1_profile, Cond.selects RX1 yX1_profile yX1_profile, Cond.code yX1_profile cX1_profile 3 (some .int), Cond.fieldLink RX1 58 "GamutChainModel" "profiles" "I", Cond.methodLink RX1 82 yX1_may, Cond.instanceMethod yX1_may]
def wsL_law0_r4 : List Cond := [Cond.selects RX1 yX1_may yX1_may, Cond.code yX1_may cX1_may 2 (some .boolean), Cond.fieldLink RX1 50 "GamutChainModel" "thrown" "I", Cond.methodLink RX1 64 yX1_placeAt, Cond.static yX1_placeAt, Cond.code yX1_placeAt cX1_placeAt 1 (some .int), Cond.methodLink RL 88 yX1_thrown, Cond.instanceMethod yX1_thrown, Cond.selects RX1 yX1_thrown yX1_thrown, Cond.code yX1_thrown cX1_thrown 1 (some .int), Cond.methodLink RL 91 yL_bend, Cond.static yL_bend, Cond.codeWith yL_bend cL_bend 7 (some .int) [(0, 14, 17, 19), (0, 14, 21, 21), (0, 14, 25, 13)], Cond.classLink RL 19 "java/lang/IndexOutOfBoundsException", Cond.classLink RL 21 "java/lang/IllegalArgumentException", Cond.methodLink RL 15 yX0_bend, Cond.instanceMethod yX0_bend, Cond.selects RX0 yX0_bend yX0_bend, Cond.code yX0_bend cX0_bend 5 (some .int), Cond.classLink RX0 69 "java/lang/IndexOutOfBoundsException", Cond.initialized "java/lang/IndexOutOfBoundsException", Cond.methodLink RX0 62 yX0_needProfile, Cond.instanceMethod yX0_needProfile, Cond.selects RX0 yX0_needProfile yX0_needProfile]
def wsL_law0_r5 : List Cond := [Cond.code yX0_needProfile cX0_needProfile 2 none, Cond.methodLink RX0 66 yX0_needBand, Cond.static yX0_needBand, Cond.code yX0_needBand cX0_needBand 1 none, Cond.methodLink RX0 74 yX0_needValue, Cond.static yX0_needValue, Cond.code yX0_needValue cX0_needValue 1 none, Cond.classLink RX0 80 "java/lang/IllegalArgumentException", Cond.initialized "java/lang/IllegalArgumentException", Cond.methodLink RX0 77 yX0_needFreeProfile, Cond.instanceMethod yX0_needFreeProfile, Cond.selects RX0 yX0_needFreeProfile yX0_needFreeProfile, Cond.code yX0_needFreeProfile cX0_needFreeProfile 2 none, Cond.methodLink RX0 175 yX0_held, Cond.instanceMethod yX0_held, Cond.selects RX0 yX0_held yX0_held, Cond.code yX0_held cX0_held 3 (some .int), Cond.fieldLink RX0 146 "GamutChain" "signedChains" "I", Cond.methodLink RX0 133 yX0_hasBit, Cond.static yX0_hasBit, Cond.code yX0_hasBit cX0_hasBit 2 (some .boolean), Cond.methodLink RX0 149 yX0_profilesOf, Cond.instanceMethod yX0_profilesOf, Cond.selects RX0 yX0_profilesOf yX0_profilesOf]
def wsL_law0_r6 : List Cond := [Cond.code yX0_profilesOf cX0_profilesOf 5 (some .int), Cond.methodLink RX0 105 yX0_read, Cond.static yX0_read, Cond.code yX0_read cX0_read 2 (some .int), Cond.methodLink RL 94 yX1_bend, Cond.instanceMethod yX1_bend, Cond.selects RX1 yX1_bend yX1_bend, Cond.code yX1_bend cX1_bend 7 (some .int), Cond.methodLink RX1 86 yX1_isProfile, Cond.instanceMethod yX1_isProfile, Cond.selects RX1 yX1_isProfile yX1_isProfile, Cond.code yX1_isProfile cX1_isProfile 2 (some .boolean), Cond.methodLink RX1 54 yX1_isIn, Cond.static yX1_isIn, Cond.code yX1_isIn cX1_isIn 3 (some .boolean), Cond.methodLink RX1 90 yX1_isThird, Cond.static yX1_isThird, Cond.code yX1_isThird cX1_isThird 1 (some .boolean), Cond.methodLink RX1 93 yX1_isByte, Cond.static yX1_isByte, Cond.code yX1_isByte cX1_isByte 1 (some .boolean), Cond.methodLink RX1 96 yX1_isHeld, Cond.instanceMethod yX1_isHeld, Cond.selects RX1 yX1_isHeld yX1_isHeld]
def wsL_law0_r7 : List Cond := [Cond.code yX1_isHeld cX1_isHeld 5 (some .boolean), Cond.fieldLink RX1 61 "GamutChainModel" "chains" "I", Cond.methodLink RX1 99 yX1_mayAll, Cond.instanceMethod yX1_mayAll, Cond.selects RX1 yX1_mayAll yX1_mayAll, Cond.code yX1_mayAll cX1_mayAll 4 (some .boolean), Cond.methodLink RL 95 yL_reach, Cond.static yL_reach, Cond.codeWith yL_reach cL_reach 7 (some .int) [(0, 14, 17, 19), (0, 14, 21, 21), (0, 14, 25, 13)], Cond.methodLink RL 23 yX0_reach, Cond.instanceMethod yX0_reach, Cond.selects RX0 yX0_reach yX0_reach, Cond.code yX0_reach cX0_reach 8 (some .int), Cond.methodLink RL 97 yX1_reach, Cond.instanceMethod yX1_reach, Cond.selects RX1 yX1_reach yX1_reach, Cond.code yX1_reach cX1_reach 7 (some .int), Cond.methodLink RL 98 yL_way, Cond.static yL_way, Cond.codeWith yL_way cL_way 5 (some .int) [(0, 10, 13, 19), (0, 10, 17, 21), (0, 10, 21, 13)], Cond.methodLink RL 26 yX0_way, Cond.instanceMethod yX0_way, Cond.selects RX0 yX0_way yX0_way, Cond.code yX0_way cX0_way 3 (some .int)]
def wsL_law0_r8 : List Cond := [Cond.methodLink RL 101 yX1_way, Cond.instanceMethod yX1_way, Cond.selects RX1 yX1_way yX1_way, Cond.code yX1_way cX1_way 5 (some .int), Cond.methodLink RL 102 yL_curve, Cond.static yL_curve, Cond.codeWith yL_curve cL_curve 6 (some .int) [(0, 12, 15, 19), (0, 12, 19, 21)], Cond.methodLink RL 30 yX0_curve, Cond.instanceMethod yX0_curve, Cond.selects RX0 yX0_curve yX0_curve, Cond.code yX0_curve cX0_curve 4 (some .int), Cond.methodLink RX0 87 yX0_bent, Cond.instanceMethod yX0_bent, Cond.selects RX0 yX0_bent yX0_bent, Cond.code yX0_bent cX0_bent 4 (some .int), Cond.methodLink RX0 139 yX0_between, Cond.static yX0_between, Cond.code yX0_between cX0_between 7 (some .int), Cond.methodLink RX0 183 yJ9_floorDiv_7cf53, Cond.static yJ9_floorDiv_7cf53, Cond.initialized RJ9, Cond.code yJ9_floorDiv_7cf53 cJ9_floorDiv_7cf53 3 (some .int), Cond.methodLink RL 105 yX1_curve, Cond.instanceMethod yX1_curve]
def wsL_law0_r9 : List Cond := [Cond.selects RX1 yX1_curve yX1_curve, Cond.code yX1_curve cX1_curve 4 (some .int), Cond.methodLink RX1 103 yX1_mayBoth, Cond.instanceMethod yX1_mayBoth, Cond.selects RX1 yX1_mayBoth yX1_mayBoth, Cond.code yX1_mayBoth cX1_mayBoth 3 (some .boolean), Cond.methodLink RX1 75 yX1_curveOf, Cond.instanceMethod yX1_curveOf, Cond.selects RX1 yX1_curveOf yX1_curveOf, Cond.code yX1_curveOf cX1_curveOf 5 (some .int), Cond.methodLink RX1 72 yX1_between, Cond.instanceMethod yX1_between, Cond.selects RX1 yX1_between yX1_between, Cond.code yX1_between cX1_between 3 (some .int), Cond.methodLink RX1 68 yX1_quotient, Cond.static yX1_quotient, Cond.code yX1_quotient cX1_quotient 3 (some .int), Cond.methodLink RL 106 yL_taken, Cond.static yL_taken, Cond.codeWith yL_taken cL_taken 6 (some .int) [(0, 12, 15, 19), (0, 12, 19, 21)], Cond.methodLink RL 34 yX0_taken, Cond.instanceMethod yX0_taken, Cond.selects RX0 yX0_taken yX0_taken, Cond.code yX0_taken cX0_taken 4 (some .int)]
def wsL_law0_r10 : List Cond := [Cond.methodLink RX0 91 yX0_take, Cond.instanceMethod yX0_take, Cond.selects RX0 yX0_take yX0_take, Cond.code yX0_take cX0_take 8 (some .int), Cond.methodLink RX0 125 Lib.Math.max.name, Cond.static Lib.Math.max.name, Cond.code Lib.Math.max.name Lib.Math.max.code 2 (some .int), Cond.methodLink RX0 186 yX0_fold, Cond.static yX0_fold, Cond.code yX0_fold cX0_fold 3 (some .int), Cond.methodLink RL 108 yX1_taken, Cond.instanceMethod yX1_taken, Cond.selects RX1 yX1_taken yX1_taken, Cond.code yX1_taken cX1_taken 4 (some .int), Cond.methodLink RX1 79 yX1_takenBy, Cond.instanceMethod yX1_takenBy, Cond.selects RX1 yX1_takenBy yX1_takenBy, Cond.code yX1_takenBy cX1_takenBy 7 (some .int), Cond.methodLink RL 109 yL_chain, Cond.static yL_chain, Cond.codeWith yL_chain cL_chain 3 (some .int) [(0, 8, 11, 13)], Cond.methodLink RL 37 yX0_chain, Cond.instanceMethod yX0_chain, Cond.selects RX0 yX0_chain yX0_chain]
def wsL_law0_r11 : List Cond := [Cond.code yX0_chain cX0_chain 2 (some .int), Cond.fieldLink RX0 94 "GamutChain" "chains" "I", Cond.methodLink RL 111 yX1_chain, Cond.instanceMethod yX1_chain, Cond.selects RX1 yX1_chain yX1_chain, Cond.code yX1_chain cX1_chain 1 (some .int), Cond.methodLink RL 112 yL_add, Cond.static yL_add, Cond.codeWith yL_add cL_add 5 (some .int) [(0, 10, 13, 19), (0, 10, 17, 13)], Cond.methodLink RL 40 yX0_add, Cond.instanceMethod yX0_add, Cond.selects RX0 yX0_add yX0_add, Cond.code yX0_add cX0_add 4 (some .int), Cond.methodLink RX0 99 yX0_needChain, Cond.instanceMethod yX0_needChain, Cond.selects RX0 yX0_needChain yX0_needChain, Cond.code yX0_needChain cX0_needChain 2 none, Cond.methodLink RX0 102 yX0_needFreeChain, Cond.instanceMethod yX0_needFreeChain, Cond.selects RX0 yX0_needFreeChain yX0_needFreeChain, Cond.code yX0_needFreeChain cX0_needFreeChain 2 none, Cond.methodLink RL 114 yX1_add, Cond.instanceMethod yX1_add, Cond.selects RX1 yX1_add yX1_add]
def wsL_law0_r12 : List Cond := [Cond.code yX1_add cX1_add 4 (some .int), Cond.methodLink RX1 107 yX1_isChain, Cond.instanceMethod yX1_isChain, Cond.selects RX1 yX1_isChain yX1_isChain, Cond.code yX1_isChain cX1_isChain 2 (some .boolean), Cond.methodLink RL 115 yL_drop, Cond.static yL_drop, Cond.codeWith yL_drop cL_drop 4 (some .int) [(0, 9, 12, 19), (0, 9, 15, 13)], Cond.methodLink RL 43 yX0_drop, Cond.instanceMethod yX0_drop, Cond.selects RX0 yX0_drop yX0_drop, Cond.code yX0_drop cX0_drop 3 (some .int), Cond.methodLink RL 118 yX1_drop, Cond.instanceMethod yX1_drop, Cond.selects RX1 yX1_drop yX1_drop, Cond.code yX1_drop cX1_drop 3 (some .int), Cond.methodLink RL 119 yL_through, Cond.static yL_through, Cond.codeWith yL_through cL_through 6 (some .int) [(0, 12, 15, 19), (0, 12, 19, 21)], Cond.methodLink RL 47 yX0_through, Cond.instanceMethod yX0_through, Cond.selects RX0 yX0_through yX0_through, Cond.code yX0_through cX0_through 4 (some .int), Cond.methodLink RX0 113 yX0_pass]
def wsL_law0_r13 : List Cond := [Cond.instanceMethod yX0_pass, Cond.selects RX0 yX0_pass yX0_pass, Cond.code yX0_pass cX0_pass 7 (some .int), Cond.methodLink RL 121 yX1_through, Cond.instanceMethod yX1_through, Cond.selects RX1 yX1_through yX1_through, Cond.code yX1_through cX1_through 4 (some .int), Cond.methodLink RX1 110 yX1_throughOf, Cond.instanceMethod yX1_throughOf, Cond.selects RX1 yX1_throughOf yX1_throughOf, Cond.code yX1_throughOf cX1_throughOf 6 (some .int), Cond.methodLink RL 122 yL_gap, Cond.static yL_gap, Cond.codeWith yL_gap cL_gap 4 (some .int) [(0, 9, 12, 19)], Cond.methodLink RL 50 yX0_gap, Cond.instanceMethod yX0_gap, Cond.selects RX0 yX0_gap yX0_gap, Cond.code yX0_gap cX0_gap 2 (some .int), Cond.methodLink RX0 116 yX0_tryJoining, Cond.instanceMethod yX0_tryJoining, Cond.selects RX0 yX0_tryJoining yX0_tryJoining, Cond.code yX0_tryJoining cX0_tryJoining 6 (some .int), Cond.methodLink RX0 189 Lib.Math.abs.name, Cond.static Lib.Math.abs.name]
def wsL_law0_r14 : List Cond := [Cond.code Lib.Math.abs.name Lib.Math.abs.code 1 (some .int), Cond.methodLink RL 124 yX1_gap, Cond.instanceMethod yX1_gap, Cond.selects RX1 yX1_gap yX1_gap, Cond.code yX1_gap cX1_gap 2 (some .int), Cond.methodLink RX1 116 yX1_gapOf, Cond.instanceMethod yX1_gapOf, Cond.selects RX1 yX1_gapOf yX1_gapOf, Cond.code yX1_gapOf cX1_gapOf 11 (some .int), Cond.methodLink RX1 113 yX1_apart, Cond.static yX1_apart, Cond.code yX1_apart cX1_apart 2 (some .int), Cond.methodLink RL 125 yL_greyGap, Cond.static yL_greyGap, Cond.codeWith yL_greyGap cL_greyGap 4 (some .int) [(0, 9, 12, 19)], Cond.methodLink RL 53 yX0_greyGap, Cond.instanceMethod yX0_greyGap, Cond.selects RX0 yX0_greyGap yX0_greyGap, Cond.code yX0_greyGap cX0_greyGap 8 (some .int), Cond.methodLink RL 127 yX1_greyGap, Cond.instanceMethod yX1_greyGap, Cond.selects RX1 yX1_greyGap yX1_greyGap, Cond.code yX1_greyGap cX1_greyGap 7 (some .int), Cond.methodLink RL 128 yL_join]
def wsL_law0_r15 : List Cond := [Cond.static yL_join, Cond.codeWith yL_join cL_join 5 (some .int) [(0, 10, 13, 19), (0, 10, 17, 21), (0, 10, 21, 13)], Cond.methodLink RL 56 yX0_join, Cond.instanceMethod yX0_join, Cond.selects RX0 yX0_join yX0_join, Cond.code yX0_join cX0_join 5 (some .int), Cond.fieldLink RX0 130 "GamutChain" "joinedChains" "I", Cond.methodLink RL 130 yX1_join, Cond.instanceMethod yX1_join, Cond.selects RX1 yX1_join yX1_join, Cond.code yX1_join cX1_join 7 (some .int), Cond.methodLink RL 131 yL_joined, Cond.static yL_joined, Cond.codeWith yL_joined cL_joined 6 (some .int) [(0, 12, 15, 19), (0, 12, 19, 21), (0, 12, 23, 13)], Cond.methodLink RL 59 yX0_joined, Cond.instanceMethod yX0_joined, Cond.selects RX0 yX0_joined yX0_joined, Cond.code yX0_joined cX0_joined 4 (some .int), Cond.methodLink RL 133 yX1_joined, Cond.instanceMethod yX1_joined, Cond.selects RX1 yX1_joined yX1_joined, Cond.code yX1_joined cX1_joined 6 (some .int), Cond.methodLink RL 134 yX0_stale, Cond.instanceMethod yX0_stale]
def wsL_law0_r16 : List Cond := [Cond.selects RX0 yX0_stale yX0_stale, Cond.code yX0_stale cX0_stale 3 (some .int), Cond.methodLink RX0 142 yX0_differsFromKept, Cond.instanceMethod yX0_differsFromKept, Cond.selects RX0 yX0_differsFromKept yX0_differsFromKept, Cond.code yX0_differsFromKept cX0_differsFromKept 5 (some .boolean), Cond.methodLink RL 137 yX1_stale, Cond.instanceMethod yX1_stale, Cond.selects RX1 yX1_stale yX1_stale, Cond.code yX1_stale cX1_stale 5 (some .int), Cond.methodLink RL 138 yL_sign, Cond.static yL_sign, Cond.codeWith yL_sign cL_sign 4 (some .int) [(0, 16, 19, 19)], Cond.methodLink RL 62 yX0_sign, Cond.instanceMethod yX0_sign, Cond.selects RX0 yX0_sign yX0_sign, Cond.code yX0_sign cX0_sign 2 (some .boolean), Cond.methodLink RL 140 yX1_sign, Cond.instanceMethod yX1_sign, Cond.selects RX1 yX1_sign yX1_sign, Cond.code yX1_sign cX1_sign 2 (some .boolean), Cond.methodLink RL 141 yX0_held, Cond.methodLink RL 144 yX1_held, Cond.instanceMethod yX1_held]
def wsL_law0_r17 : List Cond := [Cond.selects RX1 yX1_held yX1_held, Cond.code yX1_held cX1_held 3 (some .int), Cond.methodLink RL 145 yL_paint, Cond.static yL_paint, Cond.codeWith yL_paint cL_paint 6 (some .int) [(0, 12, 15, 19), (0, 12, 19, 21)], Cond.methodLink RL 66 yX0_paint, Cond.instanceMethod yX0_paint, Cond.selects RX0 yX0_paint yX0_paint, Cond.code yX0_paint cX0_paint 4 (some .int), Cond.methodLink RX0 152 yX0_needPixel, Cond.static yX0_needPixel, Cond.code yX0_needPixel cX0_needPixel 1 none, Cond.methodLink RL 147 yX1_paint, Cond.instanceMethod yX1_paint, Cond.selects RX1 yX1_paint yX1_paint, Cond.code yX1_paint cX1_paint 5 (some .int), Cond.methodLink RX1 119 yX1_isPixel, Cond.static yX1_isPixel, Cond.code yX1_isPixel cX1_isPixel 1 (some .boolean), Cond.methodLink RL 148 yL_spot, Cond.static yL_spot, Cond.codeWith yL_spot cL_spot 6 (some .int) [(0, 12, 15, 19), (0, 12, 19, 21)], Cond.methodLink RL 69 yX0_spot, Cond.instanceMethod yX0_spot]
def wsL_law0_r18 : List Cond := [Cond.selects RX0 yX0_spot yX0_spot, Cond.code yX0_spot cX0_spot 4 (some .int), Cond.methodLink RX0 155 yX0_needInk, Cond.static yX0_needInk, Cond.code yX0_needInk cX0_needInk 1 none, Cond.methodLink RL 150 yX1_spot, Cond.instanceMethod yX1_spot, Cond.selects RX1 yX1_spot yX1_spot, Cond.code yX1_spot cX1_spot 5 (some .int), Cond.methodLink RL 151 yL_mix, Cond.static yL_mix, Cond.codeWith yL_mix cL_mix 6 (some .int) [(0, 12, 15, 19), (0, 12, 19, 21)], Cond.methodLink RL 72 yX0_mix, Cond.instanceMethod yX0_mix, Cond.selects RX0 yX0_mix yX0_mix, Cond.code yX0_mix cX0_mix 4 (some .int), Cond.methodLink RL 153 yX1_mix, Cond.instanceMethod yX1_mix, Cond.selects RX1 yX1_mix yX1_mix, Cond.code yX1_mix cX1_mix 5 (some .int), Cond.methodLink RL 154 yL_shown, Cond.static yL_shown, Cond.codeWith yL_shown cL_shown 7 (some .int) [(0, 14, 17, 19), (0, 14, 21, 21)], Cond.methodLink RL 75 yX0_shown]
def wsL_law0_r19 : List Cond := [Cond.instanceMethod yX0_shown, Cond.selects RX0 yX0_shown yX0_shown, Cond.code yX0_shown cX0_shown 5 (some .int), Cond.methodLink RX0 160 yX0_inked, Cond.instanceMethod yX0_inked, Cond.selects RX0 yX0_inked yX0_inked, Cond.code yX0_inked cX0_inked 7 (some .int), Cond.methodLink RL 156 yX1_shown, Cond.instanceMethod yX1_shown, Cond.selects RX1 yX1_shown yX1_shown, Cond.code yX1_shown cX1_shown 7 (some .int)]
def wsL_law0 : List Cond := (wsL_law0_r1 ++ (wsL_law0_r2 ++ (wsL_law0_r3 ++ (wsL_law0_r4 ++ (wsL_law0_r5 ++ (wsL_law0_r6 ++ (wsL_law0_r7 ++ (wsL_law0_r8 ++ (wsL_law0_r9 ++ (wsL_law0_r10 ++ (wsL_law0_r11 ++ (wsL_law0_r12 ++ (wsL_law0_r13 ++ (wsL_law0_r14 ++ (wsL_law0_r15 ++ (wsL_law0_r16 ++ (wsL_law0_r17 ++ (wsL_law0_r18 ++ wsL_law0_r19)))))))))))))))))) ++ wsX00 ++ wsX10 ++ ([] : List Cond)
def wsL_law : List Cond := wsL_law0 ++ (vx_atS RX0 51 "java/lang/IllegalStateException" ["java/lang/RuntimeException", "java/lang/Exception"]).filter goodWord ++ (vx_atS RX0 73 "java/lang/IndexOutOfBoundsException" ["java/lang/RuntimeException", "java/lang/Exception"]).filter goodWord ++ (vx_atS RX0 84 "java/lang/IllegalArgumentException" ["java/lang/RuntimeException", "java/lang/Exception"]).filter goodWord
abbrev vwCl : List vw_C := [(RX0, TX0, 15), (RX1, TX1, 16)]
end
section
theorem dJ9_floorDiv_7cf53_0 : decode cJ9_floorDiv_7cf53 0 = .ok (.iload_n 0, 1) := by decide +kernel
theorem dJ9_floorDiv_7cf53_1 : decode cJ9_floorDiv_7cf53 1 = .ok (.iload_n 1, 1) := by decide +kernel
theorem dJ9_floorDiv_7cf53_2 : decode cJ9_floorDiv_7cf53 2 = .ok (.idiv, 1) := by decide +kernel
theorem dJ9_floorDiv_7cf53_3 : decode cJ9_floorDiv_7cf53 3 = .ok (.istore_n 2, 1) := by decide +kernel
theorem dJ9_floorDiv_7cf53_4 : decode cJ9_floorDiv_7cf53 4 = .ok (.iload_n 0, 1) := by decide +kernel
theorem dJ9_floorDiv_7cf53_5 : decode cJ9_floorDiv_7cf53 5 = .ok (.iload_n 1, 1) := by decide +kernel
theorem dJ9_floorDiv_7cf53_6 : decode cJ9_floorDiv_7cf53 6 = .ok (.ixor, 1) := by decide +kernel
theorem dJ9_floorDiv_7cf53_7 : decode cJ9_floorDiv_7cf53 7 = .ok (.ifCond .ge 14, 3) := by decide +kernel
theorem dJ9_floorDiv_7cf53_10 : decode cJ9_floorDiv_7cf53 10 = .ok (.iload_n 2, 1) := by decide +kernel
theorem dJ9_floorDiv_7cf53_11 : decode cJ9_floorDiv_7cf53 11 = .ok (.iload_n 1, 1) := by decide +kernel
theorem dJ9_floorDiv_7cf53_12 : decode cJ9_floorDiv_7cf53 12 = .ok (.imul, 1) := by decide +kernel
theorem dJ9_floorDiv_7cf53_13 : decode cJ9_floorDiv_7cf53 13 = .ok (.iload_n 0, 1) := by decide +kernel
theorem dJ9_floorDiv_7cf53_14 : decode cJ9_floorDiv_7cf53 14 = .ok (.if_icmp .eq 7, 3) := by decide +kernel
theorem dJ9_floorDiv_7cf53_17 : decode cJ9_floorDiv_7cf53 17 = .ok (.iload_n 2, 1) := by decide +kernel
theorem dJ9_floorDiv_7cf53_18 : decode cJ9_floorDiv_7cf53 18 = .ok (.iconst 1, 1) := by decide +kernel
theorem dJ9_floorDiv_7cf53_19 : decode cJ9_floorDiv_7cf53 19 = .ok (.isub, 1) := by decide +kernel
theorem dJ9_floorDiv_7cf53_20 : decode cJ9_floorDiv_7cf53 20 = .ok (.ireturn, 1) := by decide +kernel
theorem dJ9_floorDiv_7cf53_21 : decode cJ9_floorDiv_7cf53 21 = .ok (.iload_n 2, 1) := by decide +kernel
theorem dJ9_floorDiv_7cf53_22 : decode cJ9_floorDiv_7cf53 22 = .ok (.ireturn, 1) := by decide +kernel
theorem dJ9_abs_0f7a4_0 : decode cJ9_abs_0f7a4 0 = .ok (.iload_n 0, 1) := by decide +kernel
theorem dJ9_abs_0f7a4_1 : decode cJ9_abs_0f7a4 1 = .ok (.ifCond .ge 8, 3) := by decide +kernel
theorem dJ9_abs_0f7a4_4 : decode cJ9_abs_0f7a4 4 = .ok (.iload_n 0, 1) := by decide +kernel
theorem dJ9_abs_0f7a4_5 : decode cJ9_abs_0f7a4 5 = .ok (.ineg, 1) := by decide +kernel
theorem dJ9_abs_0f7a4_6 : decode cJ9_abs_0f7a4 6 = .ok (.goto 4, 3) := by decide +kernel
theorem dJ9_abs_0f7a4_9 : decode cJ9_abs_0f7a4 9 = .ok (.iload_n 0, 1) := by decide +kernel
theorem dJ9_abs_0f7a4_10 : decode cJ9_abs_0f7a4 10 = .ok (.ireturn, 1) := by decide +kernel
theorem dJ9_max_7cf53_0 : decode cJ9_max_7cf53 0 = .ok (.iload_n 0, 1) := by decide +kernel
theorem dJ9_max_7cf53_1 : decode cJ9_max_7cf53 1 = .ok (.iload_n 1, 1) := by decide +kernel
theorem dJ9_max_7cf53_2 : decode cJ9_max_7cf53 2 = .ok (.if_icmp .lt 7, 3) := by decide +kernel
theorem dJ9_max_7cf53_5 : decode cJ9_max_7cf53 5 = .ok (.iload_n 0, 1) := by decide +kernel
theorem dJ9_max_7cf53_6 : decode cJ9_max_7cf53 6 = .ok (.goto 4, 3) := by decide +kernel
theorem dJ9_max_7cf53_9 : decode cJ9_max_7cf53 9 = .ok (.iload_n 1, 1) := by decide +kernel
theorem dJ9_max_7cf53_10 : decode cJ9_max_7cf53 10 = .ok (.ireturn, 1) := by decide +kernel
theorem dJ9_min_7cf53_0 : decode cJ9_min_7cf53 0 = .ok (.iload_n 0, 1) := by decide +kernel
theorem dJ9_min_7cf53_1 : decode cJ9_min_7cf53 1 = .ok (.iload_n 1, 1) := by decide +kernel
theorem dJ9_min_7cf53_2 : decode cJ9_min_7cf53 2 = .ok (.if_icmp .gt 7, 3) := by decide +kernel
theorem dJ9_min_7cf53_5 : decode cJ9_min_7cf53 5 = .ok (.iload_n 0, 1) := by decide +kernel
theorem dJ9_min_7cf53_6 : decode cJ9_min_7cf53 6 = .ok (.goto 4, 3) := by decide +kernel
theorem dJ9_min_7cf53_9 : decode cJ9_min_7cf53 9 = .ok (.iload_n 1, 1) := by decide +kernel
theorem dJ9_min_7cf53_10 : decode cJ9_min_7cf53 10 = .ok (.ireturn, 1) := by decide +kernel
end
section
theorem dX0_init_0 : decode cX0_init 0 = .ok (.aload_n 0, 1) := by decide +kernel
theorem dX0_init_1 : decode cX0_init 1 = .ok (.invokespecial 1, 3) := by decide +kernel
theorem dX0_init_4 : decode cX0_init 4 = .ok (.aload_n 0, 1) := by decide +kernel
theorem dX0_init_5 : decode cX0_init 5 = .ok (.bipush 120, 2) := by decide +kernel
theorem dX0_init_7 : decode cX0_init 7 = .ok (.newarray .int, 2) := by decide +kernel
theorem dX0_init_9 : decode cX0_init 9 = .ok (.putfield 9, 3) := by decide +kernel
theorem dX0_init_12 : decode cX0_init 12 = .ok (.aload_n 0, 1) := by decide +kernel
theorem dX0_init_13 : decode cX0_init 13 = .ok (.bipush 24, 2) := by decide +kernel
theorem dX0_init_15 : decode cX0_init 15 = .ok (.newarray .int, 2) := by decide +kernel
theorem dX0_init_17 : decode cX0_init 17 = .ok (.putfield 13, 3) := by decide +kernel
theorem dX0_init_20 : decode cX0_init 20 = .ok (.aload_n 0, 1) := by decide +kernel
theorem dX0_init_21 : decode cX0_init 21 = .ok (.bipush 24, 2) := by decide +kernel
theorem dX0_init_23 : decode cX0_init 23 = .ok (.newarray .int, 2) := by decide +kernel
theorem dX0_init_25 : decode cX0_init 25 = .ok (.putfield 16, 3) := by decide +kernel
theorem dX0_init_28 : decode cX0_init 28 = .ok (.aload_n 0, 1) := by decide +kernel
theorem dX0_init_29 : decode cX0_init 29 = .ok (.bipush 8, 2) := by decide +kernel
theorem dX0_init_31 : decode cX0_init 31 = .ok (.newarray .int, 2) := by decide +kernel
theorem dX0_init_33 : decode cX0_init 33 = .ok (.putfield 19, 3) := by decide +kernel
theorem dX0_init_36 : decode cX0_init 36 = .ok (.aload_n 0, 1) := by decide +kernel
theorem dX0_init_37 : decode cX0_init 37 = .ok (.bipush 36, 2) := by decide +kernel
theorem dX0_init_39 : decode cX0_init 39 = .ok (.newarray .int, 2) := by decide +kernel
theorem dX0_init_41 : decode cX0_init 41 = .ok (.putfield 22, 3) := by decide +kernel
theorem dX0_init_44 : decode cX0_init 44 = .ok (.aload_n 0, 1) := by decide +kernel
theorem dX0_init_45 : decode cX0_init 45 = .ok (.bipush 6, 2) := by decide +kernel
theorem dX0_init_47 : decode cX0_init 47 = .ok (.newarray .int, 2) := by decide +kernel
theorem dX0_init_49 : decode cX0_init 49 = .ok (.putfield 25, 3) := by decide +kernel
theorem dX0_init_52 : decode cX0_init 52 = .ok (.aload_n 0, 1) := by decide +kernel
theorem dX0_init_53 : decode cX0_init 53 = .ok (.bipush 90, 2) := by decide +kernel
theorem dX0_init_55 : decode cX0_init 55 = .ok (.newarray .int, 2) := by decide +kernel
theorem dX0_init_57 : decode cX0_init 57 = .ok (.putfield 28, 3) := by decide +kernel
theorem dX0_init_60 : decode cX0_init 60 = .ok (.aload_n 0, 1) := by decide +kernel
theorem dX0_init_61 : decode cX0_init 61 = .ok (.bipush 15, 2) := by decide +kernel
theorem dX0_init_63 : decode cX0_init 63 = .ok (.newarray .int, 2) := by decide +kernel
theorem dX0_init_65 : decode cX0_init 65 = .ok (.putfield 31, 3) := by decide +kernel
theorem dX0_init_68 : decode cX0_init 68 = .ok (.aload_n 0, 1) := by decide +kernel
theorem dX0_init_69 : decode cX0_init 69 = .ok (.bipush 18, 2) := by decide +kernel
theorem dX0_init_71 : decode cX0_init 71 = .ok (.newarray .int, 2) := by decide +kernel
theorem dX0_init_73 : decode cX0_init 73 = .ok (.putfield 34, 3) := by decide +kernel
theorem dX0_init_76 : decode cX0_init 76 = .ok (.aload_n 0, 1) := by decide +kernel
theorem dX0_init_77 : decode cX0_init 77 = .ok (.bipush 18, 2) := by decide +kernel
theorem dX0_init_79 : decode cX0_init 79 = .ok (.newarray .int, 2) := by decide +kernel
theorem dX0_init_81 : decode cX0_init 81 = .ok (.putfield 37, 3) := by decide +kernel
theorem dX0_init_84 : decode cX0_init 84 = .ok (.aload_n 0, 1) := by decide +kernel
theorem dX0_init_85 : decode cX0_init 85 = .ok (.bipush 9, 2) := by decide +kernel
theorem dX0_init_87 : decode cX0_init 87 = .ok (.newarray .int, 2) := by decide +kernel
theorem dX0_init_89 : decode cX0_init 89 = .ok (.putfield 40, 3) := by decide +kernel
theorem dX0_init_92 : decode cX0_init 92 = .ok (.return_, 1) := by decide +kernel
set_option maxRecDepth 20000 in
theorem ggX0_profile_X0_valueOfPlace : GoodIn wsX0_profile wsX0_valueOfPlace := goodIn_r _ [11, 12, 13, 14, 15] (by decide +kernel) (by decide +kernel)
set_option maxRecDepth 20000 in
theorem gX0_profile_X0_valueOfPlace : GoodIn wsX0_profile (va_wsS RX0 54 yX0_valueOfPlace wsX0_valueOfPlace) := goodIn_app (goodIn_of _ (by decide +kernel)) ggX0_profile_X0_valueOfPlace
set_option maxRecDepth 20000 in
theorem ggX0_profile_X0_swap : GoodIn wsX0_profile wsX0_swap := goodIn_r _ [18] (by decide +kernel) (by decide +kernel)
set_option maxRecDepth 20000 in
theorem gX0_profile_X0_swap : GoodIn wsX0_profile (va_wsS RX0 58 yX0_swap wsX0_swap) := goodIn_app (goodIn_of _ (by decide +kernel)) ggX0_profile_X0_swap
theorem dX0_profile_0 : decode cX0_profile 0 = .ok (.aload_n 0, 1) := by decide +kernel
theorem dX0_profile_1 : decode cX0_profile 1 = .ok (.getfield 43, 3) := by decide +kernel
theorem dX0_profile_4 : decode cX0_profile 4 = .ok (.bipush 8, 2) := by decide +kernel
theorem dX0_profile_6 : decode cX0_profile 6 = .ok (.if_icmp .lt 13, 3) := by decide +kernel
theorem dX0_profile_9 : decode cX0_profile 9 = .ok (.new 47, 3) := by decide +kernel
theorem dX0_profile_12 : decode cX0_profile 12 = .ok (.dup, 1) := by decide +kernel
theorem dX0_profile_13 : decode cX0_profile 13 = .ok (.ldc 49, 2) := by decide +kernel
theorem dX0_profile_15 : decode cX0_profile 15 = .ok (.invokespecial 51, 3) := by decide +kernel
theorem dX0_profile_18 : decode cX0_profile 18 = .ok (.athrow, 1) := by decide +kernel
theorem dX0_profile_19 : decode cX0_profile 19 = .ok (.aload_n 0, 1) := by decide +kernel
theorem dX0_profile_20 : decode cX0_profile 20 = .ok (.getfield 43, 3) := by decide +kernel
theorem dX0_profile_23 : decode cX0_profile 23 = .ok (.istore_n 1, 1) := by decide +kernel
theorem dX0_profile_24 : decode cX0_profile 24 = .ok (.iconst 0, 1) := by decide +kernel
theorem dX0_profile_25 : decode cX0_profile 25 = .ok (.istore_n 2, 1) := by decide +kernel
theorem dX0_profile_26 : decode cX0_profile 26 = .ok (.iload_n 2, 1) := by decide +kernel
theorem dX0_profile_27 : decode cX0_profile 27 = .ok (.iconst 3, 1) := by decide +kernel
theorem dX0_profile_28 : decode cX0_profile 28 = .ok (.if_icmp .ge 71, 3) := by decide +kernel
theorem dX0_profile_31 : decode cX0_profile 31 = .ok (.iload_n 1, 1) := by decide +kernel
theorem dX0_profile_32 : decode cX0_profile 32 = .ok (.iconst 3, 1) := by decide +kernel
theorem dX0_profile_33 : decode cX0_profile 33 = .ok (.imul, 1) := by decide +kernel
theorem dX0_profile_34 : decode cX0_profile 34 = .ok (.iload_n 2, 1) := by decide +kernel
theorem dX0_profile_35 : decode cX0_profile 35 = .ok (.iadd, 1) := by decide +kernel
theorem dX0_profile_36 : decode cX0_profile 36 = .ok (.istore_n 3, 1) := by decide +kernel
theorem dX0_profile_37 : decode cX0_profile 37 = .ok (.iconst 0, 1) := by decide +kernel
theorem dX0_profile_38 : decode cX0_profile 38 = .ok (.istore 4, 2) := by decide +kernel
theorem dX0_profile_40 : decode cX0_profile 40 = .ok (.iload 4, 2) := by decide +kernel
theorem dX0_profile_42 : decode cX0_profile 42 = .ok (.iconst 5, 1) := by decide +kernel
theorem dX0_profile_43 : decode cX0_profile 43 = .ok (.if_icmp .ge 28, 3) := by decide +kernel
theorem dX0_profile_46 : decode cX0_profile 46 = .ok (.aload_n 0, 1) := by decide +kernel
theorem dX0_profile_47 : decode cX0_profile 47 = .ok (.getfield 9, 3) := by decide +kernel
theorem dX0_profile_50 : decode cX0_profile 50 = .ok (.iload_n 3, 1) := by decide +kernel
theorem dX0_profile_51 : decode cX0_profile 51 = .ok (.iconst 5, 1) := by decide +kernel
theorem dX0_profile_52 : decode cX0_profile 52 = .ok (.imul, 1) := by decide +kernel
theorem dX0_profile_53 : decode cX0_profile 53 = .ok (.iload 4, 2) := by decide +kernel
theorem dX0_profile_55 : decode cX0_profile 55 = .ok (.iadd, 1) := by decide +kernel
theorem dX0_profile_56 : decode cX0_profile 56 = .ok (.iload 4, 2) := by decide +kernel
theorem dX0_profile_58 : decode cX0_profile 58 = .ok (.invokestatic 54, 3) := by decide +kernel
theorem dX0_profile_61 : decode cX0_profile 61 = .ok (.invokestatic 58, 3) := by decide +kernel
theorem dX0_profile_64 : decode cX0_profile 64 = .ok (.pop, 1) := by decide +kernel
theorem dX0_profile_65 : decode cX0_profile 65 = .ok (.iinc 4 1, 3) := by decide +kernel
theorem dX0_profile_68 : decode cX0_profile 68 = .ok (.goto (-28), 3) := by decide +kernel
theorem dX0_profile_71 : decode cX0_profile 71 = .ok (.aload_n 0, 1) := by decide +kernel
theorem dX0_profile_72 : decode cX0_profile 72 = .ok (.getfield 13, 3) := by decide +kernel
theorem dX0_profile_75 : decode cX0_profile 75 = .ok (.iload_n 3, 1) := by decide +kernel
theorem dX0_profile_76 : decode cX0_profile 76 = .ok (.iconst 0, 1) := by decide +kernel
theorem dX0_profile_77 : decode cX0_profile 77 = .ok (.invokestatic 58, 3) := by decide +kernel
theorem dX0_profile_80 : decode cX0_profile 80 = .ok (.pop, 1) := by decide +kernel
theorem dX0_profile_81 : decode cX0_profile 81 = .ok (.aload_n 0, 1) := by decide +kernel
theorem dX0_profile_82 : decode cX0_profile 82 = .ok (.getfield 16, 3) := by decide +kernel
theorem dX0_profile_85 : decode cX0_profile 85 = .ok (.iload_n 3, 1) := by decide +kernel
theorem dX0_profile_86 : decode cX0_profile 86 = .ok (.sipush 255, 3) := by decide +kernel
theorem dX0_profile_89 : decode cX0_profile 89 = .ok (.invokestatic 58, 3) := by decide +kernel
theorem dX0_profile_92 : decode cX0_profile 92 = .ok (.pop, 1) := by decide +kernel
theorem dX0_profile_93 : decode cX0_profile 93 = .ok (.iinc 2 1, 3) := by decide +kernel
theorem dX0_profile_96 : decode cX0_profile 96 = .ok (.goto (-70), 3) := by decide +kernel
theorem dX0_profile_99 : decode cX0_profile 99 = .ok (.aload_n 0, 1) := by decide +kernel
theorem dX0_profile_100 : decode cX0_profile 100 = .ok (.getfield 19, 3) := by decide +kernel
theorem dX0_profile_103 : decode cX0_profile 103 = .ok (.iload_n 1, 1) := by decide +kernel
theorem dX0_profile_104 : decode cX0_profile 104 = .ok (.iconst 0, 1) := by decide +kernel
theorem dX0_profile_105 : decode cX0_profile 105 = .ok (.invokestatic 58, 3) := by decide +kernel
theorem dX0_profile_108 : decode cX0_profile 108 = .ok (.pop, 1) := by decide +kernel
theorem dX0_profile_109 : decode cX0_profile 109 = .ok (.aload_n 0, 1) := by decide +kernel
theorem dX0_profile_110 : decode cX0_profile 110 = .ok (.dup, 1) := by decide +kernel
theorem dX0_profile_111 : decode cX0_profile 111 = .ok (.getfield 43, 3) := by decide +kernel
theorem dX0_profile_114 : decode cX0_profile 114 = .ok (.iconst 1, 1) := by decide +kernel
theorem dX0_profile_115 : decode cX0_profile 115 = .ok (.iadd, 1) := by decide +kernel
theorem dX0_profile_116 : decode cX0_profile 116 = .ok (.putfield 43, 3) := by decide +kernel
theorem dX0_profile_119 : decode cX0_profile 119 = .ok (.iload_n 1, 1) := by decide +kernel
theorem dX0_profile_120 : decode cX0_profile 120 = .ok (.ireturn, 1) := by decide +kernel
set_option maxRecDepth 20000 in
theorem ggX0_bend_X0_needProfile : GoodIn wsX0_bend wsX0_needProfile := goodIn_ca (goodIn_r _ [8, 1, 2, 9, 44, 45, 46, 47, 48, 49, 50, 51, 52, 53, 54, 55, 56, 57, 58] (by decide +kernel) (by decide +kernel)) (goodIn_sub (fun _ h => List.mem_cons_of_mem _ (List.mem_append_left _ (List.mem_append_left _ (List.mem_append_right _ h)))) (by decide +kernel))
set_option maxRecDepth 20000 in
theorem gX0_bend_X0_needProfile : GoodIn wsX0_bend (wsV RX0 62 RX0 yX0_needProfile wsX0_needProfile) := goodIn_app (goodIn_of _ (by decide +kernel)) ggX0_bend_X0_needProfile
set_option maxRecDepth 20000 in
theorem ggX0_bend_X0_needBand : GoodIn wsX0_bend wsX0_needBand := goodIn_ca (goodIn_r _ [12, 1, 2] (by decide +kernel) (by decide +kernel)) (goodIn_sub (fun _ h => List.mem_cons_of_mem _ (List.mem_append_left _ (List.mem_append_left _ (List.mem_append_right _ h)))) (by decide +kernel))
set_option maxRecDepth 20000 in
theorem gX0_bend_X0_needBand : GoodIn wsX0_bend (va_wsS RX0 66 yX0_needBand wsX0_needBand) := goodIn_app (goodIn_of _ (by decide +kernel)) ggX0_bend_X0_needBand
set_option maxRecDepth 20000 in
theorem ggX0_bend_X0_needValue : GoodIn wsX0_bend wsX0_needValue := goodIn_ca (goodIn_r _ [15, 16, 17] (by decide +kernel) (by decide +kernel)) (goodIn_sub (fun _ h => List.mem_cons_of_mem _ (List.mem_append_left _ (List.mem_append_right _ h))) (by decide +kernel))
set_option maxRecDepth 20000 in
theorem gX0_bend_X0_needValue : GoodIn wsX0_bend (va_wsS RX0 74 yX0_needValue wsX0_needValue) := goodIn_app (goodIn_of _ (by decide +kernel)) ggX0_bend_X0_needValue
set_option maxRecDepth 20000 in
theorem ggX0_bend_X0_needFreeProfile : GoodIn wsX0_bend wsX0_needFreeProfile := goodIn_ca (goodIn_r _ [21, 22, 23, 24, 25, 26, 7, 27, 28, 29, 30, 31, 32, 33, 34, 35, 36, 37, 38, 39, 40, 44, 45, 46, 47, 48, 49, 50, 51, 52, 53, 54, 55, 56, 57, 58] (by decide +kernel) (by decide +kernel)) (goodIn_sub (fun _ h => List.mem_cons_of_mem _ (List.mem_append_right _ h)) (by decide +kernel))
set_option maxRecDepth 20000 in
theorem gX0_bend_X0_needFreeProfile : GoodIn wsX0_bend (wsV RX0 77 RX0 yX0_needFreeProfile wsX0_needFreeProfile) := goodIn_app (goodIn_of _ (by decide +kernel)) ggX0_bend_X0_needFreeProfile
set_option maxRecDepth 20000 in
theorem ggX0_bend_X0_swap : GoodIn wsX0_bend wsX0_swap := goodIn_r _ [43] (by decide +kernel) (by decide +kernel)
set_option maxRecDepth 20000 in
theorem gX0_bend_X0_swap : GoodIn wsX0_bend (va_wsS RX0 58 yX0_swap wsX0_swap) := goodIn_app (goodIn_of _ (by decide +kernel)) ggX0_bend_X0_swap
theorem dX0_bend_0 : decode cX0_bend 0 = .ok (.aload_n 0, 1) := by decide +kernel
theorem dX0_bend_1 : decode cX0_bend 1 = .ok (.iload_n 1, 1) := by decide +kernel
theorem dX0_bend_2 : decode cX0_bend 2 = .ok (.invokevirtual 62, 3) := by decide +kernel
theorem dX0_bend_5 : decode cX0_bend 5 = .ok (.iload_n 2, 1) := by decide +kernel
theorem dX0_bend_6 : decode cX0_bend 6 = .ok (.invokestatic 66, 3) := by decide +kernel
theorem dX0_bend_9 : decode cX0_bend 9 = .ok (.iload_n 3, 1) := by decide +kernel
theorem dX0_bend_10 : decode cX0_bend 10 = .ok (.ifCond .lt 8, 3) := by decide +kernel
theorem dX0_bend_13 : decode cX0_bend 13 = .ok (.iload_n 3, 1) := by decide +kernel
theorem dX0_bend_14 : decode cX0_bend 14 = .ok (.iconst 5, 1) := by decide +kernel
theorem dX0_bend_15 : decode cX0_bend 15 = .ok (.if_icmp .lt 13, 3) := by decide +kernel
theorem dX0_bend_18 : decode cX0_bend 18 = .ok (.new 69, 3) := by decide +kernel
theorem dX0_bend_21 : decode cX0_bend 21 = .ok (.dup, 1) := by decide +kernel
theorem dX0_bend_22 : decode cX0_bend 22 = .ok (.ldc 71, 2) := by decide +kernel
theorem dX0_bend_24 : decode cX0_bend 24 = .ok (.invokespecial 73, 3) := by decide +kernel
theorem dX0_bend_27 : decode cX0_bend 27 = .ok (.athrow, 1) := by decide +kernel
theorem dX0_bend_28 : decode cX0_bend 28 = .ok (.iload 4, 2) := by decide +kernel
theorem dX0_bend_30 : decode cX0_bend 30 = .ok (.invokestatic 74, 3) := by decide +kernel
theorem dX0_bend_33 : decode cX0_bend 33 = .ok (.aload_n 0, 1) := by decide +kernel
theorem dX0_bend_34 : decode cX0_bend 34 = .ok (.iload_n 1, 1) := by decide +kernel
theorem dX0_bend_35 : decode cX0_bend 35 = .ok (.invokevirtual 77, 3) := by decide +kernel
theorem dX0_bend_38 : decode cX0_bend 38 = .ok (.aload_n 0, 1) := by decide +kernel
theorem dX0_bend_39 : decode cX0_bend 39 = .ok (.getfield 9, 3) := by decide +kernel
theorem dX0_bend_42 : decode cX0_bend 42 = .ok (.iload_n 1, 1) := by decide +kernel
theorem dX0_bend_43 : decode cX0_bend 43 = .ok (.iconst 3, 1) := by decide +kernel
theorem dX0_bend_44 : decode cX0_bend 44 = .ok (.imul, 1) := by decide +kernel
theorem dX0_bend_45 : decode cX0_bend 45 = .ok (.iload_n 2, 1) := by decide +kernel
theorem dX0_bend_46 : decode cX0_bend 46 = .ok (.iadd, 1) := by decide +kernel
theorem dX0_bend_47 : decode cX0_bend 47 = .ok (.iconst 5, 1) := by decide +kernel
theorem dX0_bend_48 : decode cX0_bend 48 = .ok (.imul, 1) := by decide +kernel
theorem dX0_bend_49 : decode cX0_bend 49 = .ok (.iload_n 3, 1) := by decide +kernel
theorem dX0_bend_50 : decode cX0_bend 50 = .ok (.iadd, 1) := by decide +kernel
theorem dX0_bend_51 : decode cX0_bend 51 = .ok (.iload 4, 2) := by decide +kernel
theorem dX0_bend_53 : decode cX0_bend 53 = .ok (.invokestatic 58, 3) := by decide +kernel
theorem dX0_bend_56 : decode cX0_bend 56 = .ok (.ireturn, 1) := by decide +kernel
set_option maxRecDepth 20000 in
theorem ggX0_reach_X0_needProfile : GoodIn wsX0_reach wsX0_needProfile := goodIn_ca (goodIn_r _ [9, 10, 11, 12, 45, 46, 47, 48, 49, 50, 51, 52, 53, 54, 55, 56, 57, 58, 59] (by decide +kernel) (by decide +kernel)) (goodIn_sub (fun _ h => List.mem_cons_of_mem _ (List.mem_append_left _ (List.mem_append_right _ h))) (by decide +kernel))
set_option maxRecDepth 20000 in
theorem gX0_reach_X0_needProfile : GoodIn wsX0_reach (wsV RX0 62 RX0 yX0_needProfile wsX0_needProfile) := goodIn_app (goodIn_of _ (by decide +kernel)) ggX0_reach_X0_needProfile
set_option maxRecDepth 20000 in
theorem ggX0_reach_X0_needBand : GoodIn wsX0_reach wsX0_needBand := goodIn_ca (goodIn_r _ [15, 10, 11] (by decide +kernel) (by decide +kernel)) (goodIn_sub (fun _ h => List.mem_cons_of_mem _ (List.mem_append_left _ (List.mem_append_right _ h))) (by decide +kernel))
set_option maxRecDepth 20000 in
theorem gX0_reach_X0_needBand : GoodIn wsX0_reach (va_wsS RX0 66 yX0_needBand wsX0_needBand) := goodIn_app (goodIn_of _ (by decide +kernel)) ggX0_reach_X0_needBand
set_option maxRecDepth 20000 in
theorem ggX0_reach_X0_needValue : GoodIn wsX0_reach wsX0_needValue := goodIn_ca (goodIn_r _ [18, 1, 2] (by decide +kernel) (by decide +kernel)) (goodIn_sub (fun _ h => List.mem_cons_of_mem _ (List.mem_append_left _ (List.mem_append_left _ (List.mem_append_right _ h)))) (by decide +kernel))
set_option maxRecDepth 20000 in
theorem gX0_reach_X0_needValue : GoodIn wsX0_reach (va_wsS RX0 74 yX0_needValue wsX0_needValue) := goodIn_app (goodIn_of _ (by decide +kernel)) ggX0_reach_X0_needValue
set_option maxRecDepth 20000 in
theorem ggX0_reach_X0_needFreeProfile : GoodIn wsX0_reach wsX0_needFreeProfile := goodIn_ca (goodIn_r _ [22, 23, 24, 25, 26, 27, 8, 28, 29, 30, 31, 32, 33, 34, 35, 36, 37, 38, 39, 40, 41, 45, 46, 47, 48, 49, 50, 51, 52, 53, 54, 55, 56, 57, 58, 59] (by decide +kernel) (by decide +kernel)) (goodIn_sub (fun _ h => List.mem_cons_of_mem _ (List.mem_append_right _ h)) (by decide +kernel))
set_option maxRecDepth 20000 in
theorem gX0_reach_X0_needFreeProfile : GoodIn wsX0_reach (wsV RX0 77 RX0 yX0_needFreeProfile wsX0_needFreeProfile) := goodIn_app (goodIn_of _ (by decide +kernel)) ggX0_reach_X0_needFreeProfile
set_option maxRecDepth 20000 in
theorem ggX0_reach_X0_swap : GoodIn wsX0_reach wsX0_swap := goodIn_r _ [44] (by decide +kernel) (by decide +kernel)
set_option maxRecDepth 20000 in
theorem gX0_reach_X0_swap : GoodIn wsX0_reach (va_wsS RX0 58 yX0_swap wsX0_swap) := goodIn_app (goodIn_of _ (by decide +kernel)) ggX0_reach_X0_swap
theorem dX0_reach_0 : decode cX0_reach 0 = .ok (.aload_n 0, 1) := by decide +kernel
theorem dX0_reach_1 : decode cX0_reach 1 = .ok (.iload_n 1, 1) := by decide +kernel
theorem dX0_reach_2 : decode cX0_reach 2 = .ok (.invokevirtual 62, 3) := by decide +kernel
theorem dX0_reach_5 : decode cX0_reach 5 = .ok (.iload_n 2, 1) := by decide +kernel
theorem dX0_reach_6 : decode cX0_reach 6 = .ok (.invokestatic 66, 3) := by decide +kernel
theorem dX0_reach_9 : decode cX0_reach 9 = .ok (.iload_n 3, 1) := by decide +kernel
theorem dX0_reach_10 : decode cX0_reach 10 = .ok (.invokestatic 74, 3) := by decide +kernel
theorem dX0_reach_13 : decode cX0_reach 13 = .ok (.iload 4, 2) := by decide +kernel
theorem dX0_reach_15 : decode cX0_reach 15 = .ok (.invokestatic 74, 3) := by decide +kernel
theorem dX0_reach_18 : decode cX0_reach 18 = .ok (.iload 4, 2) := by decide +kernel
theorem dX0_reach_20 : decode cX0_reach 20 = .ok (.iload_n 3, 1) := by decide +kernel
theorem dX0_reach_21 : decode cX0_reach 21 = .ok (.if_icmp .ge 13, 3) := by decide +kernel
theorem dX0_reach_24 : decode cX0_reach 24 = .ok (.new 80, 3) := by decide +kernel
theorem dX0_reach_27 : decode cX0_reach 27 = .ok (.dup, 1) := by decide +kernel
theorem dX0_reach_28 : decode cX0_reach 28 = .ok (.ldc 82, 2) := by decide +kernel
theorem dX0_reach_30 : decode cX0_reach 30 = .ok (.invokespecial 84, 3) := by decide +kernel
theorem dX0_reach_33 : decode cX0_reach 33 = .ok (.athrow, 1) := by decide +kernel
theorem dX0_reach_34 : decode cX0_reach 34 = .ok (.aload_n 0, 1) := by decide +kernel
theorem dX0_reach_35 : decode cX0_reach 35 = .ok (.iload_n 1, 1) := by decide +kernel
theorem dX0_reach_36 : decode cX0_reach 36 = .ok (.invokevirtual 77, 3) := by decide +kernel
theorem dX0_reach_39 : decode cX0_reach 39 = .ok (.iload_n 1, 1) := by decide +kernel
theorem dX0_reach_40 : decode cX0_reach 40 = .ok (.iconst 3, 1) := by decide +kernel
theorem dX0_reach_41 : decode cX0_reach 41 = .ok (.imul, 1) := by decide +kernel
theorem dX0_reach_42 : decode cX0_reach 42 = .ok (.iload_n 2, 1) := by decide +kernel
theorem dX0_reach_43 : decode cX0_reach 43 = .ok (.iadd, 1) := by decide +kernel
theorem dX0_reach_44 : decode cX0_reach 44 = .ok (.istore 5, 2) := by decide +kernel
theorem dX0_reach_46 : decode cX0_reach 46 = .ok (.aload_n 0, 1) := by decide +kernel
theorem dX0_reach_47 : decode cX0_reach 47 = .ok (.getfield 13, 3) := by decide +kernel
theorem dX0_reach_50 : decode cX0_reach 50 = .ok (.iload 5, 2) := by decide +kernel
theorem dX0_reach_52 : decode cX0_reach 52 = .ok (.iload_n 3, 1) := by decide +kernel
theorem dX0_reach_53 : decode cX0_reach 53 = .ok (.invokestatic 58, 3) := by decide +kernel
theorem dX0_reach_56 : decode cX0_reach 56 = .ok (.istore 6, 2) := by decide +kernel
theorem dX0_reach_58 : decode cX0_reach 58 = .ok (.aload_n 0, 1) := by decide +kernel
theorem dX0_reach_59 : decode cX0_reach 59 = .ok (.getfield 16, 3) := by decide +kernel
theorem dX0_reach_62 : decode cX0_reach 62 = .ok (.iload 5, 2) := by decide +kernel
theorem dX0_reach_64 : decode cX0_reach 64 = .ok (.iload 4, 2) := by decide +kernel
theorem dX0_reach_66 : decode cX0_reach 66 = .ok (.invokestatic 58, 3) := by decide +kernel
theorem dX0_reach_69 : decode cX0_reach 69 = .ok (.istore 7, 2) := by decide +kernel
theorem dX0_reach_71 : decode cX0_reach 71 = .ok (.iload 7, 2) := by decide +kernel
theorem dX0_reach_73 : decode cX0_reach 73 = .ok (.iload 6, 2) := by decide +kernel
theorem dX0_reach_75 : decode cX0_reach 75 = .ok (.isub, 1) := by decide +kernel
theorem dX0_reach_76 : decode cX0_reach 76 = .ok (.iconst 1, 1) := by decide +kernel
theorem dX0_reach_77 : decode cX0_reach 77 = .ok (.iadd, 1) := by decide +kernel
theorem dX0_reach_78 : decode cX0_reach 78 = .ok (.ireturn, 1) := by decide +kernel
set_option maxRecDepth 20000 in
theorem ggX0_way_X0_needProfile : GoodIn wsX0_way wsX0_needProfile := goodIn_ca (goodIn_r _ [8, 9, 10, 11, 38, 39, 40, 41, 42, 43, 44, 45, 46, 47, 48, 49, 50, 51, 52] (by decide +kernel) (by decide +kernel)) (goodIn_sub (fun _ h => List.mem_cons_of_mem _ (List.mem_append_left _ (List.mem_append_right _ h))) (by decide +kernel))
set_option maxRecDepth 20000 in
theorem gX0_way_X0_needProfile : GoodIn wsX0_way (wsV RX0 62 RX0 yX0_needProfile wsX0_needProfile) := goodIn_app (goodIn_of _ (by decide +kernel)) ggX0_way_X0_needProfile
set_option maxRecDepth 20000 in
theorem ggX0_way_X0_needFreeProfile : GoodIn wsX0_way wsX0_needFreeProfile := goodIn_ca (goodIn_r _ [15, 16, 17, 18, 19, 20, 7, 21, 22, 23, 24, 25, 26, 27, 28, 29, 30, 31, 32, 33, 34, 38, 39, 40, 41, 42, 43, 44, 45, 46, 47, 48, 49, 50, 51, 52] (by decide +kernel) (by decide +kernel)) (goodIn_sub (fun _ h => List.mem_cons_of_mem _ (List.mem_append_right _ h)) (by decide +kernel))
set_option maxRecDepth 20000 in
theorem gX0_way_X0_needFreeProfile : GoodIn wsX0_way (wsV RX0 77 RX0 yX0_needFreeProfile wsX0_needFreeProfile) := goodIn_app (goodIn_of _ (by decide +kernel)) ggX0_way_X0_needFreeProfile
set_option maxRecDepth 20000 in
theorem ggX0_way_X0_swap : GoodIn wsX0_way wsX0_swap := goodIn_r _ [37] (by decide +kernel) (by decide +kernel)
set_option maxRecDepth 20000 in
theorem gX0_way_X0_swap : GoodIn wsX0_way (va_wsS RX0 58 yX0_swap wsX0_swap) := goodIn_app (goodIn_of _ (by decide +kernel)) ggX0_way_X0_swap
theorem dX0_way_0 : decode cX0_way 0 = .ok (.aload_n 0, 1) := by decide +kernel
theorem dX0_way_1 : decode cX0_way 1 = .ok (.iload_n 1, 1) := by decide +kernel
theorem dX0_way_2 : decode cX0_way 2 = .ok (.invokevirtual 62, 3) := by decide +kernel
theorem dX0_way_5 : decode cX0_way 5 = .ok (.iload_n 2, 1) := by decide +kernel
theorem dX0_way_6 : decode cX0_way 6 = .ok (.ifCond .eq 23, 3) := by decide +kernel
theorem dX0_way_9 : decode cX0_way 9 = .ok (.iload_n 2, 1) := by decide +kernel
theorem dX0_way_10 : decode cX0_way 10 = .ok (.iconst 1, 1) := by decide +kernel
theorem dX0_way_11 : decode cX0_way 11 = .ok (.if_icmp .eq 18, 3) := by decide +kernel
theorem dX0_way_14 : decode cX0_way 14 = .ok (.iload_n 2, 1) := by decide +kernel
theorem dX0_way_15 : decode cX0_way 15 = .ok (.iconst 2, 1) := by decide +kernel
theorem dX0_way_16 : decode cX0_way 16 = .ok (.if_icmp .eq 13, 3) := by decide +kernel
theorem dX0_way_19 : decode cX0_way 19 = .ok (.new 80, 3) := by decide +kernel
theorem dX0_way_22 : decode cX0_way 22 = .ok (.dup, 1) := by decide +kernel
theorem dX0_way_23 : decode cX0_way 23 = .ok (.ldc 85, 2) := by decide +kernel
theorem dX0_way_25 : decode cX0_way 25 = .ok (.invokespecial 84, 3) := by decide +kernel
theorem dX0_way_28 : decode cX0_way 28 = .ok (.athrow, 1) := by decide +kernel
theorem dX0_way_29 : decode cX0_way 29 = .ok (.aload_n 0, 1) := by decide +kernel
theorem dX0_way_30 : decode cX0_way 30 = .ok (.iload_n 1, 1) := by decide +kernel
theorem dX0_way_31 : decode cX0_way 31 = .ok (.invokevirtual 77, 3) := by decide +kernel
theorem dX0_way_34 : decode cX0_way 34 = .ok (.aload_n 0, 1) := by decide +kernel
theorem dX0_way_35 : decode cX0_way 35 = .ok (.getfield 19, 3) := by decide +kernel
theorem dX0_way_38 : decode cX0_way 38 = .ok (.iload_n 1, 1) := by decide +kernel
theorem dX0_way_39 : decode cX0_way 39 = .ok (.iload_n 2, 1) := by decide +kernel
theorem dX0_way_40 : decode cX0_way 40 = .ok (.invokestatic 58, 3) := by decide +kernel
theorem dX0_way_43 : decode cX0_way 43 = .ok (.ireturn, 1) := by decide +kernel
set_option maxRecDepth 20000 in
theorem ggX0_curve_X0_needProfile : GoodIn wsX0_curve wsX0_needProfile := goodIn_ca (goodIn_r _ [5, 6, 7, 8, 32, 33, 34, 35, 36, 37, 38, 39, 40, 41, 42, 43, 44, 45, 46] (by decide +kernel) (by decide +kernel)) (goodIn_sub (fun _ h => List.mem_cons_of_mem _ (List.mem_append_left _ (List.mem_append_right _ h))) (by decide +kernel))
set_option maxRecDepth 20000 in
theorem gX0_curve_X0_needProfile : GoodIn wsX0_curve (wsV RX0 62 RX0 yX0_needProfile wsX0_needProfile) := goodIn_app (goodIn_of _ (by decide +kernel)) ggX0_curve_X0_needProfile
set_option maxRecDepth 20000 in
theorem ggX0_curve_X0_needBand : GoodIn wsX0_curve wsX0_needBand := goodIn_ca (goodIn_r _ [11, 6, 7] (by decide +kernel) (by decide +kernel)) (goodIn_sub (fun _ h => List.mem_cons_of_mem _ (List.mem_append_left _ (List.mem_append_right _ h))) (by decide +kernel))
set_option maxRecDepth 20000 in
theorem gX0_curve_X0_needBand : GoodIn wsX0_curve (va_wsS RX0 66 yX0_needBand wsX0_needBand) := goodIn_app (goodIn_of _ (by decide +kernel)) ggX0_curve_X0_needBand
set_option maxRecDepth 20000 in
theorem ggX0_curve_X0_needValue : GoodIn wsX0_curve wsX0_needValue := goodIn_ca (goodIn_r _ [14, 15, 16] (by decide +kernel) (by decide +kernel)) (goodIn_sub (fun _ h => List.mem_cons_of_mem _ (List.mem_append_right _ h)) (by decide +kernel))
set_option maxRecDepth 20000 in
theorem gX0_curve_X0_needValue : GoodIn wsX0_curve (va_wsS RX0 74 yX0_needValue wsX0_needValue) := goodIn_app (goodIn_of _ (by decide +kernel)) ggX0_curve_X0_needValue
set_option maxRecDepth 20000 in
theorem ggX0_curve_X0_bent : GoodIn wsX0_curve wsX0_bent := goodIn_r _ [20, 21, 22, 23, 4, 24, 25, 26, 27, 28, 29, 30, 31, 32, 33, 34, 35, 36, 37, 38, 39, 40, 41, 42, 43, 44, 45, 46] (by decide +kernel) (by decide +kernel)
set_option maxRecDepth 20000 in
theorem gX0_curve_X0_bent : GoodIn wsX0_curve (wsV RX0 87 RX0 yX0_bent wsX0_bent) := goodIn_app (goodIn_of _ (by decide +kernel)) ggX0_curve_X0_bent
theorem dX0_curve_0 : decode cX0_curve 0 = .ok (.aload_n 0, 1) := by decide +kernel
theorem dX0_curve_1 : decode cX0_curve 1 = .ok (.iload_n 1, 1) := by decide +kernel
theorem dX0_curve_2 : decode cX0_curve 2 = .ok (.invokevirtual 62, 3) := by decide +kernel
theorem dX0_curve_5 : decode cX0_curve 5 = .ok (.iload_n 2, 1) := by decide +kernel
theorem dX0_curve_6 : decode cX0_curve 6 = .ok (.invokestatic 66, 3) := by decide +kernel
theorem dX0_curve_9 : decode cX0_curve 9 = .ok (.iload_n 3, 1) := by decide +kernel
theorem dX0_curve_10 : decode cX0_curve 10 = .ok (.invokestatic 74, 3) := by decide +kernel
theorem dX0_curve_13 : decode cX0_curve 13 = .ok (.aload_n 0, 1) := by decide +kernel
theorem dX0_curve_14 : decode cX0_curve 14 = .ok (.iload_n 1, 1) := by decide +kernel
theorem dX0_curve_15 : decode cX0_curve 15 = .ok (.iload_n 2, 1) := by decide +kernel
theorem dX0_curve_16 : decode cX0_curve 16 = .ok (.iload_n 3, 1) := by decide +kernel
theorem dX0_curve_17 : decode cX0_curve 17 = .ok (.invokevirtual 87, 3) := by decide +kernel
theorem dX0_curve_20 : decode cX0_curve 20 = .ok (.ireturn, 1) := by decide +kernel
set_option maxRecDepth 20000 in
theorem ggX0_taken_X0_needProfile : GoodIn wsX0_taken wsX0_needProfile := goodIn_ca (goodIn_r _ [5, 6, 7, 8, 49, 50, 51, 52, 53, 54, 55, 56, 57, 58, 59, 60, 61, 62, 63] (by decide +kernel) (by decide +kernel)) (goodIn_sub (fun _ h => List.mem_cons_of_mem _ (List.mem_append_left _ (List.mem_append_right _ h))) (by decide +kernel))
set_option maxRecDepth 20000 in
theorem gX0_taken_X0_needProfile : GoodIn wsX0_taken (wsV RX0 62 RX0 yX0_needProfile wsX0_needProfile) := goodIn_app (goodIn_of _ (by decide +kernel)) ggX0_taken_X0_needProfile
set_option maxRecDepth 20000 in
theorem ggX0_taken_X0_needBand : GoodIn wsX0_taken wsX0_needBand := goodIn_ca (goodIn_r _ [11, 6, 7] (by decide +kernel) (by decide +kernel)) (goodIn_sub (fun _ h => List.mem_cons_of_mem _ (List.mem_append_left _ (List.mem_append_right _ h))) (by decide +kernel))
set_option maxRecDepth 20000 in
theorem gX0_taken_X0_needBand : GoodIn wsX0_taken (va_wsS RX0 66 yX0_needBand wsX0_needBand) := goodIn_app (goodIn_of _ (by decide +kernel)) ggX0_taken_X0_needBand
set_option maxRecDepth 20000 in
theorem ggX0_taken_X0_needValue : GoodIn wsX0_taken wsX0_needValue := goodIn_ca (goodIn_r _ [14, 15, 16] (by decide +kernel) (by decide +kernel)) (goodIn_sub (fun _ h => List.mem_cons_of_mem _ (List.mem_append_right _ h)) (by decide +kernel))
set_option maxRecDepth 20000 in
theorem gX0_taken_X0_needValue : GoodIn wsX0_taken (va_wsS RX0 74 yX0_needValue wsX0_needValue) := goodIn_app (goodIn_of _ (by decide +kernel)) ggX0_taken_X0_needValue
set_option maxRecDepth 20000 in
theorem ggX0_taken_X0_take : GoodIn wsX0_taken wsX0_take := goodIn_r _ [20, 21, 22, 23, 24, 25, 26, 27, 28, 29, 30, 31, 32, 4, 33, 34, 35, 36, 37, 38, 39, 40, 41, 42, 43, 44, 45, 46, 47, 48, 49, 50, 51, 52, 53, 54, 55, 56, 57, 58, 59, 60, 61, 62, 63] (by decide +kernel) (by decide +kernel)
set_option maxRecDepth 20000 in
theorem gX0_taken_X0_take : GoodIn wsX0_taken (wsV RX0 91 RX0 yX0_take wsX0_take) := goodIn_app (goodIn_of _ (by decide +kernel)) ggX0_taken_X0_take
theorem dX0_taken_0 : decode cX0_taken 0 = .ok (.aload_n 0, 1) := by decide +kernel
theorem dX0_taken_1 : decode cX0_taken 1 = .ok (.iload_n 1, 1) := by decide +kernel
theorem dX0_taken_2 : decode cX0_taken 2 = .ok (.invokevirtual 62, 3) := by decide +kernel
theorem dX0_taken_5 : decode cX0_taken 5 = .ok (.iload_n 2, 1) := by decide +kernel
theorem dX0_taken_6 : decode cX0_taken 6 = .ok (.invokestatic 66, 3) := by decide +kernel
theorem dX0_taken_9 : decode cX0_taken 9 = .ok (.iload_n 3, 1) := by decide +kernel
theorem dX0_taken_10 : decode cX0_taken 10 = .ok (.invokestatic 74, 3) := by decide +kernel
theorem dX0_taken_13 : decode cX0_taken 13 = .ok (.aload_n 0, 1) := by decide +kernel
theorem dX0_taken_14 : decode cX0_taken 14 = .ok (.iload_n 1, 1) := by decide +kernel
theorem dX0_taken_15 : decode cX0_taken 15 = .ok (.iload_n 2, 1) := by decide +kernel
theorem dX0_taken_16 : decode cX0_taken 16 = .ok (.iload_n 3, 1) := by decide +kernel
theorem dX0_taken_17 : decode cX0_taken 17 = .ok (.invokevirtual 91, 3) := by decide +kernel
theorem dX0_taken_20 : decode cX0_taken 20 = .ok (.ireturn, 1) := by decide +kernel
theorem dX0_chain_0 : decode cX0_chain 0 = .ok (.aload_n 0, 1) := by decide +kernel
theorem dX0_chain_1 : decode cX0_chain 1 = .ok (.getfield 94, 3) := by decide +kernel
theorem dX0_chain_4 : decode cX0_chain 4 = .ok (.bipush 6, 2) := by decide +kernel
theorem dX0_chain_6 : decode cX0_chain 6 = .ok (.if_icmp .lt 13, 3) := by decide +kernel
theorem dX0_chain_9 : decode cX0_chain 9 = .ok (.new 47, 3) := by decide +kernel
theorem dX0_chain_12 : decode cX0_chain 12 = .ok (.dup, 1) := by decide +kernel
theorem dX0_chain_13 : decode cX0_chain 13 = .ok (.ldc 97, 2) := by decide +kernel
theorem dX0_chain_15 : decode cX0_chain 15 = .ok (.invokespecial 51, 3) := by decide +kernel
theorem dX0_chain_18 : decode cX0_chain 18 = .ok (.athrow, 1) := by decide +kernel
theorem dX0_chain_19 : decode cX0_chain 19 = .ok (.aload_n 0, 1) := by decide +kernel
theorem dX0_chain_20 : decode cX0_chain 20 = .ok (.getfield 94, 3) := by decide +kernel
theorem dX0_chain_23 : decode cX0_chain 23 = .ok (.istore_n 1, 1) := by decide +kernel
theorem dX0_chain_24 : decode cX0_chain 24 = .ok (.aload_n 0, 1) := by decide +kernel
theorem dX0_chain_25 : decode cX0_chain 25 = .ok (.dup, 1) := by decide +kernel
theorem dX0_chain_26 : decode cX0_chain 26 = .ok (.getfield 94, 3) := by decide +kernel
theorem dX0_chain_29 : decode cX0_chain 29 = .ok (.iconst 1, 1) := by decide +kernel
theorem dX0_chain_30 : decode cX0_chain 30 = .ok (.iadd, 1) := by decide +kernel
theorem dX0_chain_31 : decode cX0_chain 31 = .ok (.putfield 94, 3) := by decide +kernel
theorem dX0_chain_34 : decode cX0_chain 34 = .ok (.iload_n 1, 1) := by decide +kernel
theorem dX0_chain_35 : decode cX0_chain 35 = .ok (.ireturn, 1) := by decide +kernel
set_option maxRecDepth 20000 in
theorem ggX0_add_X0_needChain : GoodIn wsX0_add wsX0_needChain := goodIn_ca (goodIn_r _ [9, 10, 11, 12, 32, 33, 34, 35, 36, 37, 38, 39, 40, 41, 42, 43, 44, 45, 46] (by decide +kernel) (by decide +kernel)) (goodIn_sub (fun _ h => List.mem_cons_of_mem _ (List.mem_append_right _ h)) (by decide +kernel))
set_option maxRecDepth 20000 in
theorem gX0_add_X0_needChain : GoodIn wsX0_add (wsV RX0 99 RX0 yX0_needChain wsX0_needChain) := goodIn_app (goodIn_of _ (by decide +kernel)) ggX0_add_X0_needChain
set_option maxRecDepth 20000 in
theorem ggX0_add_X0_needProfile : GoodIn wsX0_add wsX0_needProfile := goodIn_ca (goodIn_r _ [16, 10, 11, 17, 32, 33, 34, 35, 36, 37, 38, 39, 40, 41, 42, 43, 44, 45, 46] (by decide +kernel) (by decide +kernel)) (goodIn_sub (fun _ h => List.mem_cons_of_mem _ (List.mem_append_right _ h)) (by decide +kernel))
set_option maxRecDepth 20000 in
theorem gX0_add_X0_needProfile : GoodIn wsX0_add (wsV RX0 62 RX0 yX0_needProfile wsX0_needProfile) := goodIn_app (goodIn_of _ (by decide +kernel)) ggX0_add_X0_needProfile
set_option maxRecDepth 20000 in
theorem ggX0_add_X0_needFreeChain : GoodIn wsX0_add wsX0_needFreeChain := goodIn_ca (goodIn_r _ [21, 1, 2, 22, 23, 24, 8, 25, 32, 33, 34, 35, 36, 37, 38, 39, 40, 41, 42, 43, 44, 45, 46] (by decide +kernel) (by decide +kernel)) (goodIn_sub (fun _ h => List.mem_cons_of_mem _ (List.mem_append_left _ (List.mem_append_right _ h))) (by decide +kernel))
set_option maxRecDepth 20000 in
theorem gX0_add_X0_needFreeChain : GoodIn wsX0_add (wsV RX0 102 RX0 yX0_needFreeChain wsX0_needFreeChain) := goodIn_app (goodIn_of _ (by decide +kernel)) ggX0_add_X0_needFreeChain
set_option maxRecDepth 20000 in
theorem ggX0_add_X0_read : GoodIn wsX0_add wsX0_read := goodIn_r _ [28] (by decide +kernel) (by decide +kernel)
set_option maxRecDepth 20000 in
theorem gX0_add_X0_read : GoodIn wsX0_add (va_wsS RX0 105 yX0_read wsX0_read) := goodIn_app (goodIn_of _ (by decide +kernel)) ggX0_add_X0_read
set_option maxRecDepth 20000 in
theorem ggX0_add_X0_swap : GoodIn wsX0_add wsX0_swap := goodIn_r _ [31] (by decide +kernel) (by decide +kernel)
set_option maxRecDepth 20000 in
theorem gX0_add_X0_swap : GoodIn wsX0_add (va_wsS RX0 58 yX0_swap wsX0_swap) := goodIn_app (goodIn_of _ (by decide +kernel)) ggX0_add_X0_swap
theorem dX0_add_0 : decode cX0_add 0 = .ok (.aload_n 0, 1) := by decide +kernel
theorem dX0_add_1 : decode cX0_add 1 = .ok (.iload_n 1, 1) := by decide +kernel
theorem dX0_add_2 : decode cX0_add 2 = .ok (.invokevirtual 99, 3) := by decide +kernel
theorem dX0_add_5 : decode cX0_add 5 = .ok (.aload_n 0, 1) := by decide +kernel
theorem dX0_add_6 : decode cX0_add 6 = .ok (.iload_n 2, 1) := by decide +kernel
theorem dX0_add_7 : decode cX0_add 7 = .ok (.invokevirtual 62, 3) := by decide +kernel
theorem dX0_add_10 : decode cX0_add 10 = .ok (.aload_n 0, 1) := by decide +kernel
theorem dX0_add_11 : decode cX0_add 11 = .ok (.iload_n 1, 1) := by decide +kernel
theorem dX0_add_12 : decode cX0_add 12 = .ok (.invokevirtual 102, 3) := by decide +kernel
theorem dX0_add_15 : decode cX0_add 15 = .ok (.aload_n 0, 1) := by decide +kernel
theorem dX0_add_16 : decode cX0_add 16 = .ok (.getfield 25, 3) := by decide +kernel
theorem dX0_add_19 : decode cX0_add 19 = .ok (.iload_n 1, 1) := by decide +kernel
theorem dX0_add_20 : decode cX0_add 20 = .ok (.invokestatic 105, 3) := by decide +kernel
theorem dX0_add_23 : decode cX0_add 23 = .ok (.istore_n 3, 1) := by decide +kernel
theorem dX0_add_24 : decode cX0_add 24 = .ok (.iload_n 3, 1) := by decide +kernel
theorem dX0_add_25 : decode cX0_add 25 = .ok (.bipush 6, 2) := by decide +kernel
theorem dX0_add_27 : decode cX0_add 27 = .ok (.if_icmp .lt 13, 3) := by decide +kernel
theorem dX0_add_30 : decode cX0_add 30 = .ok (.new 47, 3) := by decide +kernel
theorem dX0_add_33 : decode cX0_add 33 = .ok (.dup, 1) := by decide +kernel
theorem dX0_add_34 : decode cX0_add 34 = .ok (.ldc 109, 2) := by decide +kernel
theorem dX0_add_36 : decode cX0_add 36 = .ok (.invokespecial 51, 3) := by decide +kernel
theorem dX0_add_39 : decode cX0_add 39 = .ok (.athrow, 1) := by decide +kernel
theorem dX0_add_40 : decode cX0_add 40 = .ok (.aload_n 0, 1) := by decide +kernel
theorem dX0_add_41 : decode cX0_add 41 = .ok (.getfield 22, 3) := by decide +kernel
theorem dX0_add_44 : decode cX0_add 44 = .ok (.iload_n 1, 1) := by decide +kernel
theorem dX0_add_45 : decode cX0_add 45 = .ok (.bipush 6, 2) := by decide +kernel
theorem dX0_add_47 : decode cX0_add 47 = .ok (.imul, 1) := by decide +kernel
theorem dX0_add_48 : decode cX0_add 48 = .ok (.iload_n 3, 1) := by decide +kernel
theorem dX0_add_49 : decode cX0_add 49 = .ok (.iadd, 1) := by decide +kernel
theorem dX0_add_50 : decode cX0_add 50 = .ok (.iload_n 2, 1) := by decide +kernel
theorem dX0_add_51 : decode cX0_add 51 = .ok (.invokestatic 58, 3) := by decide +kernel
theorem dX0_add_54 : decode cX0_add 54 = .ok (.pop, 1) := by decide +kernel
theorem dX0_add_55 : decode cX0_add 55 = .ok (.aload_n 0, 1) := by decide +kernel
theorem dX0_add_56 : decode cX0_add 56 = .ok (.getfield 25, 3) := by decide +kernel
theorem dX0_add_59 : decode cX0_add 59 = .ok (.iload_n 1, 1) := by decide +kernel
theorem dX0_add_60 : decode cX0_add 60 = .ok (.iload_n 3, 1) := by decide +kernel
theorem dX0_add_61 : decode cX0_add 61 = .ok (.iconst 1, 1) := by decide +kernel
theorem dX0_add_62 : decode cX0_add 62 = .ok (.iadd, 1) := by decide +kernel
theorem dX0_add_63 : decode cX0_add 63 = .ok (.invokestatic 58, 3) := by decide +kernel
theorem dX0_add_66 : decode cX0_add 66 = .ok (.pop, 1) := by decide +kernel
theorem dX0_add_67 : decode cX0_add 67 = .ok (.iload_n 3, 1) := by decide +kernel
theorem dX0_add_68 : decode cX0_add 68 = .ok (.iconst 1, 1) := by decide +kernel
theorem dX0_add_69 : decode cX0_add 69 = .ok (.iadd, 1) := by decide +kernel
theorem dX0_add_70 : decode cX0_add 70 = .ok (.ireturn, 1) := by decide +kernel
set_option maxRecDepth 20000 in
theorem ggX0_drop_X0_needChain : GoodIn wsX0_drop wsX0_needChain := goodIn_ca (goodIn_r _ [9, 10, 11, 12, 27, 28, 29, 30, 31, 32, 33, 34, 35, 36, 37, 38, 39, 40, 41] (by decide +kernel) (by decide +kernel)) (goodIn_sub (fun _ h => List.mem_cons_of_mem _ (List.mem_append_right _ h)) (by decide +kernel))
set_option maxRecDepth 20000 in
theorem gX0_drop_X0_needChain : GoodIn wsX0_drop (wsV RX0 99 RX0 yX0_needChain wsX0_needChain) := goodIn_app (goodIn_of _ (by decide +kernel)) ggX0_drop_X0_needChain
set_option maxRecDepth 20000 in
theorem ggX0_drop_X0_needFreeChain : GoodIn wsX0_drop wsX0_needFreeChain := goodIn_ca (goodIn_r _ [16, 1, 2, 17, 18, 19, 8, 20, 27, 28, 29, 30, 31, 32, 33, 34, 35, 36, 37, 38, 39, 40, 41] (by decide +kernel) (by decide +kernel)) (goodIn_sub (fun _ h => List.mem_cons_of_mem _ (List.mem_append_left _ (List.mem_append_right _ h))) (by decide +kernel))
set_option maxRecDepth 20000 in
theorem gX0_drop_X0_needFreeChain : GoodIn wsX0_drop (wsV RX0 102 RX0 yX0_needFreeChain wsX0_needFreeChain) := goodIn_app (goodIn_of _ (by decide +kernel)) ggX0_drop_X0_needFreeChain
set_option maxRecDepth 20000 in
theorem ggX0_drop_X0_read : GoodIn wsX0_drop wsX0_read := goodIn_r _ [23] (by decide +kernel) (by decide +kernel)
set_option maxRecDepth 20000 in
theorem gX0_drop_X0_read : GoodIn wsX0_drop (va_wsS RX0 105 yX0_read wsX0_read) := goodIn_app (goodIn_of _ (by decide +kernel)) ggX0_drop_X0_read
set_option maxRecDepth 20000 in
theorem ggX0_drop_X0_swap : GoodIn wsX0_drop wsX0_swap := goodIn_r _ [26] (by decide +kernel) (by decide +kernel)
set_option maxRecDepth 20000 in
theorem gX0_drop_X0_swap : GoodIn wsX0_drop (va_wsS RX0 58 yX0_swap wsX0_swap) := goodIn_app (goodIn_of _ (by decide +kernel)) ggX0_drop_X0_swap
theorem dX0_drop_0 : decode cX0_drop 0 = .ok (.aload_n 0, 1) := by decide +kernel
theorem dX0_drop_1 : decode cX0_drop 1 = .ok (.iload_n 1, 1) := by decide +kernel
theorem dX0_drop_2 : decode cX0_drop 2 = .ok (.invokevirtual 99, 3) := by decide +kernel
theorem dX0_drop_5 : decode cX0_drop 5 = .ok (.aload_n 0, 1) := by decide +kernel
theorem dX0_drop_6 : decode cX0_drop 6 = .ok (.iload_n 1, 1) := by decide +kernel
theorem dX0_drop_7 : decode cX0_drop 7 = .ok (.invokevirtual 102, 3) := by decide +kernel
theorem dX0_drop_10 : decode cX0_drop 10 = .ok (.aload_n 0, 1) := by decide +kernel
theorem dX0_drop_11 : decode cX0_drop 11 = .ok (.getfield 25, 3) := by decide +kernel
theorem dX0_drop_14 : decode cX0_drop 14 = .ok (.iload_n 1, 1) := by decide +kernel
theorem dX0_drop_15 : decode cX0_drop 15 = .ok (.invokestatic 105, 3) := by decide +kernel
theorem dX0_drop_18 : decode cX0_drop 18 = .ok (.istore_n 2, 1) := by decide +kernel
theorem dX0_drop_19 : decode cX0_drop 19 = .ok (.iload_n 2, 1) := by decide +kernel
theorem dX0_drop_20 : decode cX0_drop 20 = .ok (.ifCond .gt 13, 3) := by decide +kernel
theorem dX0_drop_23 : decode cX0_drop 23 = .ok (.new 47, 3) := by decide +kernel
theorem dX0_drop_26 : decode cX0_drop 26 = .ok (.dup, 1) := by decide +kernel
theorem dX0_drop_27 : decode cX0_drop 27 = .ok (.ldc 111, 2) := by decide +kernel
theorem dX0_drop_29 : decode cX0_drop 29 = .ok (.invokespecial 51, 3) := by decide +kernel
theorem dX0_drop_32 : decode cX0_drop 32 = .ok (.athrow, 1) := by decide +kernel
theorem dX0_drop_33 : decode cX0_drop 33 = .ok (.aload_n 0, 1) := by decide +kernel
theorem dX0_drop_34 : decode cX0_drop 34 = .ok (.getfield 25, 3) := by decide +kernel
theorem dX0_drop_37 : decode cX0_drop 37 = .ok (.iload_n 1, 1) := by decide +kernel
theorem dX0_drop_38 : decode cX0_drop 38 = .ok (.iload_n 2, 1) := by decide +kernel
theorem dX0_drop_39 : decode cX0_drop 39 = .ok (.iconst 1, 1) := by decide +kernel
theorem dX0_drop_40 : decode cX0_drop 40 = .ok (.isub, 1) := by decide +kernel
theorem dX0_drop_41 : decode cX0_drop 41 = .ok (.invokestatic 58, 3) := by decide +kernel
theorem dX0_drop_44 : decode cX0_drop 44 = .ok (.pop, 1) := by decide +kernel
theorem dX0_drop_45 : decode cX0_drop 45 = .ok (.aload_n 0, 1) := by decide +kernel
theorem dX0_drop_46 : decode cX0_drop 46 = .ok (.getfield 22, 3) := by decide +kernel
theorem dX0_drop_49 : decode cX0_drop 49 = .ok (.iload_n 1, 1) := by decide +kernel
theorem dX0_drop_50 : decode cX0_drop 50 = .ok (.bipush 6, 2) := by decide +kernel
theorem dX0_drop_52 : decode cX0_drop 52 = .ok (.imul, 1) := by decide +kernel
theorem dX0_drop_53 : decode cX0_drop 53 = .ok (.iload_n 2, 1) := by decide +kernel
theorem dX0_drop_54 : decode cX0_drop 54 = .ok (.iadd, 1) := by decide +kernel
theorem dX0_drop_55 : decode cX0_drop 55 = .ok (.iconst 1, 1) := by decide +kernel
theorem dX0_drop_56 : decode cX0_drop 56 = .ok (.isub, 1) := by decide +kernel
theorem dX0_drop_57 : decode cX0_drop 57 = .ok (.invokestatic 105, 3) := by decide +kernel
theorem dX0_drop_60 : decode cX0_drop 60 = .ok (.ireturn, 1) := by decide +kernel
set_option maxRecDepth 20000 in
theorem ggX0_through_X0_needChain : GoodIn wsX0_through wsX0_needChain := goodIn_ca (goodIn_r _ [5, 6, 7, 8, 55, 56, 57, 58, 59, 60, 61, 62, 63, 64, 65, 66, 67, 68, 69] (by decide +kernel) (by decide +kernel)) (goodIn_sub (fun _ h => List.mem_cons_of_mem _ (List.mem_append_left _ (List.mem_append_right _ h))) (by decide +kernel))
set_option maxRecDepth 20000 in
theorem gX0_through_X0_needChain : GoodIn wsX0_through (wsV RX0 99 RX0 yX0_needChain wsX0_needChain) := goodIn_app (goodIn_of _ (by decide +kernel)) ggX0_through_X0_needChain
set_option maxRecDepth 20000 in
theorem ggX0_through_X0_needBand : GoodIn wsX0_through wsX0_needBand := goodIn_ca (goodIn_r _ [11, 6, 7] (by decide +kernel) (by decide +kernel)) (goodIn_sub (fun _ h => List.mem_cons_of_mem _ (List.mem_append_left _ (List.mem_append_right _ h))) (by decide +kernel))
set_option maxRecDepth 20000 in
theorem gX0_through_X0_needBand : GoodIn wsX0_through (va_wsS RX0 66 yX0_needBand wsX0_needBand) := goodIn_app (goodIn_of _ (by decide +kernel)) ggX0_through_X0_needBand
set_option maxRecDepth 20000 in
theorem ggX0_through_X0_needValue : GoodIn wsX0_through wsX0_needValue := goodIn_ca (goodIn_r _ [14, 15, 16] (by decide +kernel) (by decide +kernel)) (goodIn_sub (fun _ h => List.mem_cons_of_mem _ (List.mem_append_right _ h)) (by decide +kernel))
set_option maxRecDepth 20000 in
theorem gX0_through_X0_needValue : GoodIn wsX0_through (va_wsS RX0 74 yX0_needValue wsX0_needValue) := goodIn_app (goodIn_of _ (by decide +kernel)) ggX0_through_X0_needValue
set_option maxRecDepth 20000 in
theorem ggX0_through_X0_pass : GoodIn wsX0_through wsX0_pass := goodIn_r _ [20, 21, 22, 23, 24, 4, 25, 26, 27, 28, 29, 30, 31, 32, 33, 34, 35, 36, 37, 38, 39, 40, 41, 42, 43, 44, 45, 46, 47, 48, 49, 50, 51, 52, 53, 54, 55, 56, 57, 58, 59, 60, 61, 62, 63, 64, 65, 66, 67, 68, 69] (by decide +kernel) (by decide +kernel)
set_option maxRecDepth 20000 in
theorem gX0_through_X0_pass : GoodIn wsX0_through (wsV RX0 113 RX0 yX0_pass wsX0_pass) := goodIn_app (goodIn_of _ (by decide +kernel)) ggX0_through_X0_pass
theorem dX0_through_0 : decode cX0_through 0 = .ok (.aload_n 0, 1) := by decide +kernel
theorem dX0_through_1 : decode cX0_through 1 = .ok (.iload_n 1, 1) := by decide +kernel
end
section
theorem dX0_through_2 : decode cX0_through 2 = .ok (.invokevirtual 99, 3) := by decide +kernel
theorem dX0_through_5 : decode cX0_through 5 = .ok (.iload_n 2, 1) := by decide +kernel
theorem dX0_through_6 : decode cX0_through 6 = .ok (.invokestatic 66, 3) := by decide +kernel
theorem dX0_through_9 : decode cX0_through 9 = .ok (.iload_n 3, 1) := by decide +kernel
theorem dX0_through_10 : decode cX0_through 10 = .ok (.invokestatic 74, 3) := by decide +kernel
theorem dX0_through_13 : decode cX0_through 13 = .ok (.aload_n 0, 1) := by decide +kernel
theorem dX0_through_14 : decode cX0_through 14 = .ok (.iload_n 1, 1) := by decide +kernel
theorem dX0_through_15 : decode cX0_through 15 = .ok (.iload_n 2, 1) := by decide +kernel
theorem dX0_through_16 : decode cX0_through 16 = .ok (.iload_n 3, 1) := by decide +kernel
theorem dX0_through_17 : decode cX0_through 17 = .ok (.invokevirtual 113, 3) := by decide +kernel
theorem dX0_through_20 : decode cX0_through 20 = .ok (.ireturn, 1) := by decide +kernel
set_option maxRecDepth 20000 in
theorem ggX0_gap_X0_needChain : GoodIn wsX0_gap wsX0_needChain := goodIn_ca (goodIn_r _ [5, 6, 7, 8, 61, 62, 63, 64, 65, 66, 67, 68, 69, 70, 71, 72, 73, 74, 75] (by decide +kernel) (by decide +kernel)) (goodIn_sub (fun _ h => List.mem_cons_of_mem _ (List.mem_append_right _ h)) (by decide +kernel))
set_option maxRecDepth 20000 in
theorem gX0_gap_X0_needChain : GoodIn wsX0_gap (wsV RX0 99 RX0 yX0_needChain wsX0_needChain) := goodIn_app (goodIn_of _ (by decide +kernel)) ggX0_gap_X0_needChain
set_option maxRecDepth 20000 in
theorem ggX0_gap_X0_tryJoining : GoodIn wsX0_gap wsX0_tryJoining := goodIn_r _ [12, 13, 14, 15, 16, 17, 18, 19, 20, 21, 22, 4, 23, 24, 25, 26, 27, 28, 29, 30, 31, 32, 33, 34, 35, 36, 37, 38, 39, 40, 41, 42, 43, 44, 45, 46, 47, 48, 49, 50, 51, 52, 53, 54, 55, 56, 57, 58, 59, 60, 61, 62, 63, 64, 65, 66, 67, 68, 69, 70, 71, 72, 73, 74, 75] (by decide +kernel) (by decide +kernel)
set_option maxRecDepth 20000 in
theorem gX0_gap_X0_tryJoining : GoodIn wsX0_gap (wsV RX0 116 RX0 yX0_tryJoining wsX0_tryJoining) := goodIn_app (goodIn_of _ (by decide +kernel)) ggX0_gap_X0_tryJoining
theorem dX0_gap_0 : decode cX0_gap 0 = .ok (.aload_n 0, 1) := by decide +kernel
theorem dX0_gap_1 : decode cX0_gap 1 = .ok (.iload_n 1, 1) := by decide +kernel
theorem dX0_gap_2 : decode cX0_gap 2 = .ok (.invokevirtual 99, 3) := by decide +kernel
theorem dX0_gap_5 : decode cX0_gap 5 = .ok (.aload_n 0, 1) := by decide +kernel
theorem dX0_gap_6 : decode cX0_gap 6 = .ok (.iload_n 1, 1) := by decide +kernel
theorem dX0_gap_7 : decode cX0_gap 7 = .ok (.invokevirtual 116, 3) := by decide +kernel
theorem dX0_gap_10 : decode cX0_gap 10 = .ok (.ireturn, 1) := by decide +kernel
set_option maxRecDepth 20000 in
theorem ggX0_greyGap_X0_needChain : GoodIn wsX0_greyGap wsX0_needChain := goodIn_ca (goodIn_r _ [12, 13, 14, 15, 47, 48, 49, 50, 51, 52, 53, 54, 55, 56, 57, 58, 59, 60, 61] (by decide +kernel) (by decide +kernel)) (goodIn_sub (fun _ h => List.mem_cons_of_mem _ (List.mem_append_right _ h)) (by decide +kernel))
set_option maxRecDepth 20000 in
theorem gX0_greyGap_X0_needChain : GoodIn wsX0_greyGap (wsV RX0 99 RX0 yX0_needChain wsX0_needChain) := goodIn_app (goodIn_of _ (by decide +kernel)) ggX0_greyGap_X0_needChain
set_option maxRecDepth 20000 in
theorem ggX0_greyGap_X0_pass : GoodIn wsX0_greyGap wsX0_pass := goodIn_r _ [19, 20, 21, 22, 23, 11, 24, 25, 26, 27, 28, 29, 30, 31, 1, 2, 3, 4, 5, 6, 7, 32, 33, 34, 35, 36, 37, 38, 39, 40, 41, 42, 43, 44, 45, 46, 47, 48, 49, 50, 51, 52, 53, 54, 55, 56, 57, 58, 59, 60, 61] (by decide +kernel) (by decide +kernel)
set_option maxRecDepth 20000 in
theorem gX0_greyGap_X0_pass : GoodIn wsX0_greyGap (wsV RX0 113 RX0 yX0_pass wsX0_pass) := goodIn_app (goodIn_of _ (by decide +kernel)) ggX0_greyGap_X0_pass
theorem dX0_greyGap_0 : decode cX0_greyGap 0 = .ok (.aload_n 0, 1) := by decide +kernel
theorem dX0_greyGap_1 : decode cX0_greyGap 1 = .ok (.iload_n 1, 1) := by decide +kernel
theorem dX0_greyGap_2 : decode cX0_greyGap 2 = .ok (.invokevirtual 99, 3) := by decide +kernel
theorem dX0_greyGap_5 : decode cX0_greyGap 5 = .ok (.iconst 0, 1) := by decide +kernel
theorem dX0_greyGap_6 : decode cX0_greyGap 6 = .ok (.istore_n 2, 1) := by decide +kernel
theorem dX0_greyGap_7 : decode cX0_greyGap 7 = .ok (.iconst 0, 1) := by decide +kernel
theorem dX0_greyGap_8 : decode cX0_greyGap 8 = .ok (.istore_n 3, 1) := by decide +kernel
theorem dX0_greyGap_9 : decode cX0_greyGap 9 = .ok (.iload_n 3, 1) := by decide +kernel
theorem dX0_greyGap_10 : decode cX0_greyGap 10 = .ok (.sipush 255, 3) := by decide +kernel
theorem dX0_greyGap_13 : decode cX0_greyGap 13 = .ok (.if_icmp .gt 70, 3) := by decide +kernel
theorem dX0_greyGap_16 : decode cX0_greyGap 16 = .ok (.sipush 255, 3) := by decide +kernel
theorem dX0_greyGap_19 : decode cX0_greyGap 19 = .ok (.istore 4, 2) := by decide +kernel
theorem dX0_greyGap_21 : decode cX0_greyGap 21 = .ok (.iconst 0, 1) := by decide +kernel
theorem dX0_greyGap_22 : decode cX0_greyGap 22 = .ok (.istore 5, 2) := by decide +kernel
theorem dX0_greyGap_24 : decode cX0_greyGap 24 = .ok (.iconst 0, 1) := by decide +kernel
theorem dX0_greyGap_25 : decode cX0_greyGap 25 = .ok (.istore 6, 2) := by decide +kernel
theorem dX0_greyGap_27 : decode cX0_greyGap 27 = .ok (.iload 6, 2) := by decide +kernel
theorem dX0_greyGap_29 : decode cX0_greyGap 29 = .ok (.iconst 3, 1) := by decide +kernel
theorem dX0_greyGap_30 : decode cX0_greyGap 30 = .ok (.if_icmp .ge 37, 3) := by decide +kernel
theorem dX0_greyGap_33 : decode cX0_greyGap 33 = .ok (.aload_n 0, 1) := by decide +kernel
theorem dX0_greyGap_34 : decode cX0_greyGap 34 = .ok (.iload_n 1, 1) := by decide +kernel
theorem dX0_greyGap_35 : decode cX0_greyGap 35 = .ok (.iload 6, 2) := by decide +kernel
theorem dX0_greyGap_37 : decode cX0_greyGap 37 = .ok (.iload_n 3, 1) := by decide +kernel
theorem dX0_greyGap_38 : decode cX0_greyGap 38 = .ok (.invokevirtual 113, 3) := by decide +kernel
theorem dX0_greyGap_41 : decode cX0_greyGap 41 = .ok (.istore 7, 2) := by decide +kernel
theorem dX0_greyGap_43 : decode cX0_greyGap 43 = .ok (.iload 4, 2) := by decide +kernel
theorem dX0_greyGap_45 : decode cX0_greyGap 45 = .ok (.iload 7, 2) := by decide +kernel
theorem dX0_greyGap_47 : decode cX0_greyGap 47 = .ok (.invokestatic 119, 3) := by decide +kernel
theorem dX0_greyGap_50 : decode cX0_greyGap 50 = .ok (.istore 4, 2) := by decide +kernel
theorem dX0_greyGap_52 : decode cX0_greyGap 52 = .ok (.iload 5, 2) := by decide +kernel
theorem dX0_greyGap_54 : decode cX0_greyGap 54 = .ok (.iload 7, 2) := by decide +kernel
theorem dX0_greyGap_56 : decode cX0_greyGap 56 = .ok (.invokestatic 125, 3) := by decide +kernel
theorem dX0_greyGap_59 : decode cX0_greyGap 59 = .ok (.istore 5, 2) := by decide +kernel
theorem dX0_greyGap_61 : decode cX0_greyGap 61 = .ok (.iinc 6 1, 3) := by decide +kernel
theorem dX0_greyGap_64 : decode cX0_greyGap 64 = .ok (.goto (-37), 3) := by decide +kernel
theorem dX0_greyGap_67 : decode cX0_greyGap 67 = .ok (.iload_n 2, 1) := by decide +kernel
theorem dX0_greyGap_68 : decode cX0_greyGap 68 = .ok (.iload 5, 2) := by decide +kernel
theorem dX0_greyGap_70 : decode cX0_greyGap 70 = .ok (.iload 4, 2) := by decide +kernel
theorem dX0_greyGap_72 : decode cX0_greyGap 72 = .ok (.isub, 1) := by decide +kernel
theorem dX0_greyGap_73 : decode cX0_greyGap 73 = .ok (.invokestatic 125, 3) := by decide +kernel
theorem dX0_greyGap_76 : decode cX0_greyGap 76 = .ok (.istore_n 2, 1) := by decide +kernel
theorem dX0_greyGap_77 : decode cX0_greyGap 77 = .ok (.iinc 3 1, 3) := by decide +kernel
theorem dX0_greyGap_80 : decode cX0_greyGap 80 = .ok (.goto (-71), 3) := by decide +kernel
theorem dX0_greyGap_83 : decode cX0_greyGap 83 = .ok (.iload_n 2, 1) := by decide +kernel
theorem dX0_greyGap_84 : decode cX0_greyGap 84 = .ok (.ireturn, 1) := by decide +kernel
set_option maxRecDepth 20000 in
theorem ggX0_join_X0_needChain : GoodIn wsX0_join wsX0_needChain := goodIn_ca (goodIn_r _ [10, 11, 12, 13, 70, 71, 72, 73, 74, 75, 76, 77, 78, 79, 80, 81, 82, 83, 84] (by decide +kernel) (by decide +kernel)) (goodIn_sub (fun _ h => List.mem_cons_of_mem _ (List.mem_append_left _ (List.mem_append_right _ h))) (by decide +kernel))
set_option maxRecDepth 20000 in
theorem gX0_join_X0_needChain : GoodIn wsX0_join (wsV RX0 99 RX0 yX0_needChain wsX0_needChain) := goodIn_app (goodIn_of _ (by decide +kernel)) ggX0_join_X0_needChain
set_option maxRecDepth 20000 in
theorem ggX0_join_X0_needValue : GoodIn wsX0_join wsX0_needValue := goodIn_ca (goodIn_r _ [16, 17, 18] (by decide +kernel) (by decide +kernel)) (goodIn_sub (fun _ h => List.mem_cons_of_mem _ (List.mem_append_right _ h)) (by decide +kernel))
set_option maxRecDepth 20000 in
theorem gX0_join_X0_needValue : GoodIn wsX0_join (va_wsS RX0 74 yX0_needValue wsX0_needValue) := goodIn_app (goodIn_of _ (by decide +kernel)) ggX0_join_X0_needValue
set_option maxRecDepth 20000 in
theorem ggX0_join_X0_tryJoining : GoodIn wsX0_join wsX0_tryJoining := goodIn_r _ [22, 4, 23, 24, 25, 26, 27, 28, 29, 30, 31, 9, 32, 33, 34, 35, 36, 37, 38, 39, 40, 41, 42, 43, 44, 45, 46, 47, 48, 49, 50, 51, 52, 53, 54, 55, 56, 57, 58, 59, 60, 61, 62, 63, 64, 65, 66, 67, 68, 69, 70, 71, 72, 73, 74, 75, 76, 77, 78, 79, 80, 81, 82, 83, 84] (by decide +kernel) (by decide +kernel)
set_option maxRecDepth 20000 in
theorem gX0_join_X0_tryJoining : GoodIn wsX0_join (wsV RX0 116 RX0 yX0_tryJoining wsX0_tryJoining) := goodIn_app (goodIn_of _ (by decide +kernel)) ggX0_join_X0_tryJoining
set_option maxRecDepth 20000 in
theorem ggX0_join_X0_read : GoodIn wsX0_join wsX0_read := goodIn_r _ [44] (by decide +kernel) (by decide +kernel)
set_option maxRecDepth 20000 in
theorem gX0_join_X0_read : GoodIn wsX0_join (va_wsS RX0 105 yX0_read wsX0_read) := goodIn_app (goodIn_of _ (by decide +kernel)) ggX0_join_X0_read
set_option maxRecDepth 20000 in
theorem ggX0_join_X0_swap : GoodIn wsX0_join wsX0_swap := goodIn_r _ [69] (by decide +kernel) (by decide +kernel)
set_option maxRecDepth 20000 in
theorem gX0_join_X0_swap : GoodIn wsX0_join (va_wsS RX0 58 yX0_swap wsX0_swap) := goodIn_app (goodIn_of _ (by decide +kernel)) ggX0_join_X0_swap
theorem dX0_join_0 : decode cX0_join 0 = .ok (.aload_n 0, 1) := by decide +kernel
theorem dX0_join_1 : decode cX0_join 1 = .ok (.iload_n 1, 1) := by decide +kernel
theorem dX0_join_2 : decode cX0_join 2 = .ok (.invokevirtual 99, 3) := by decide +kernel
theorem dX0_join_5 : decode cX0_join 5 = .ok (.iload_n 2, 1) := by decide +kernel
theorem dX0_join_6 : decode cX0_join 6 = .ok (.invokestatic 74, 3) := by decide +kernel
theorem dX0_join_9 : decode cX0_join 9 = .ok (.aload_n 0, 1) := by decide +kernel
theorem dX0_join_10 : decode cX0_join 10 = .ok (.iload_n 1, 1) := by decide +kernel
theorem dX0_join_11 : decode cX0_join 11 = .ok (.invokevirtual 116, 3) := by decide +kernel
theorem dX0_join_14 : decode cX0_join 14 = .ok (.istore_n 3, 1) := by decide +kernel
theorem dX0_join_15 : decode cX0_join 15 = .ok (.iload_n 3, 1) := by decide +kernel
theorem dX0_join_16 : decode cX0_join 16 = .ok (.iload_n 2, 1) := by decide +kernel
theorem dX0_join_17 : decode cX0_join 17 = .ok (.if_icmp .le 13, 3) := by decide +kernel
theorem dX0_join_20 : decode cX0_join 20 = .ok (.new 47, 3) := by decide +kernel
theorem dX0_join_23 : decode cX0_join 23 = .ok (.dup, 1) := by decide +kernel
theorem dX0_join_24 : decode cX0_join 24 = .ok (.ldc 128, 2) := by decide +kernel
theorem dX0_join_26 : decode cX0_join 26 = .ok (.invokespecial 51, 3) := by decide +kernel
theorem dX0_join_29 : decode cX0_join 29 = .ok (.athrow, 1) := by decide +kernel
theorem dX0_join_30 : decode cX0_join 30 = .ok (.iconst 0, 1) := by decide +kernel
theorem dX0_join_31 : decode cX0_join 31 = .ok (.istore 4, 2) := by decide +kernel
theorem dX0_join_33 : decode cX0_join 33 = .ok (.iload 4, 2) := by decide +kernel
theorem dX0_join_35 : decode cX0_join 35 = .ok (.bipush 15, 2) := by decide +kernel
theorem dX0_join_37 : decode cX0_join 37 = .ok (.if_icmp .ge 34, 3) := by decide +kernel
theorem dX0_join_40 : decode cX0_join 40 = .ok (.aload_n 0, 1) := by decide +kernel
theorem dX0_join_41 : decode cX0_join 41 = .ok (.getfield 28, 3) := by decide +kernel
theorem dX0_join_44 : decode cX0_join 44 = .ok (.iload_n 1, 1) := by decide +kernel
theorem dX0_join_45 : decode cX0_join 45 = .ok (.iconst 3, 1) := by decide +kernel
theorem dX0_join_46 : decode cX0_join 46 = .ok (.imul, 1) := by decide +kernel
theorem dX0_join_47 : decode cX0_join 47 = .ok (.iconst 5, 1) := by decide +kernel
theorem dX0_join_48 : decode cX0_join 48 = .ok (.imul, 1) := by decide +kernel
theorem dX0_join_49 : decode cX0_join 49 = .ok (.iload 4, 2) := by decide +kernel
theorem dX0_join_51 : decode cX0_join 51 = .ok (.iadd, 1) := by decide +kernel
theorem dX0_join_52 : decode cX0_join 52 = .ok (.aload_n 0, 1) := by decide +kernel
theorem dX0_join_53 : decode cX0_join 53 = .ok (.getfield 31, 3) := by decide +kernel
theorem dX0_join_56 : decode cX0_join 56 = .ok (.iload 4, 2) := by decide +kernel
theorem dX0_join_58 : decode cX0_join 58 = .ok (.invokestatic 105, 3) := by decide +kernel
theorem dX0_join_61 : decode cX0_join 61 = .ok (.invokestatic 58, 3) := by decide +kernel
theorem dX0_join_64 : decode cX0_join 64 = .ok (.pop, 1) := by decide +kernel
theorem dX0_join_65 : decode cX0_join 65 = .ok (.iinc 4 1, 3) := by decide +kernel
theorem dX0_join_68 : decode cX0_join 68 = .ok (.goto (-35), 3) := by decide +kernel
theorem dX0_join_71 : decode cX0_join 71 = .ok (.aload_n 0, 1) := by decide +kernel
theorem dX0_join_72 : decode cX0_join 72 = .ok (.aload_n 0, 1) := by decide +kernel
theorem dX0_join_73 : decode cX0_join 73 = .ok (.getfield 130, 3) := by decide +kernel
theorem dX0_join_76 : decode cX0_join 76 = .ok (.iconst 1, 1) := by decide +kernel
theorem dX0_join_77 : decode cX0_join 77 = .ok (.iload_n 1, 1) := by decide +kernel
theorem dX0_join_78 : decode cX0_join 78 = .ok (.ishl, 1) := by decide +kernel
theorem dX0_join_79 : decode cX0_join 79 = .ok (.ior, 1) := by decide +kernel
theorem dX0_join_80 : decode cX0_join 80 = .ok (.putfield 130, 3) := by decide +kernel
theorem dX0_join_83 : decode cX0_join 83 = .ok (.iload_n 3, 1) := by decide +kernel
theorem dX0_join_84 : decode cX0_join 84 = .ok (.ireturn, 1) := by decide +kernel
set_option maxRecDepth 20000 in
theorem ggX0_joined_X0_needChain : GoodIn wsX0_joined wsX0_needChain := goodIn_ca (goodIn_r _ [9, 10, 11, 12, 34, 35, 36, 37, 38, 39, 40, 41, 42, 43, 44, 45, 46, 47, 48] (by decide +kernel) (by decide +kernel)) (goodIn_sub (fun _ h => List.mem_cons_of_mem _ (List.mem_append_left _ (List.mem_append_right _ h))) (by decide +kernel))
set_option maxRecDepth 20000 in
theorem gX0_joined_X0_needChain : GoodIn wsX0_joined (wsV RX0 99 RX0 yX0_needChain wsX0_needChain) := goodIn_app (goodIn_of _ (by decide +kernel)) ggX0_joined_X0_needChain
set_option maxRecDepth 20000 in
theorem ggX0_joined_X0_needBand : GoodIn wsX0_joined wsX0_needBand := goodIn_ca (goodIn_r _ [15, 10, 11] (by decide +kernel) (by decide +kernel)) (goodIn_sub (fun _ h => List.mem_cons_of_mem _ (List.mem_append_left _ (List.mem_append_right _ h))) (by decide +kernel))
set_option maxRecDepth 20000 in
theorem gX0_joined_X0_needBand : GoodIn wsX0_joined (va_wsS RX0 66 yX0_needBand wsX0_needBand) := goodIn_app (goodIn_of _ (by decide +kernel)) ggX0_joined_X0_needBand
set_option maxRecDepth 20000 in
theorem ggX0_joined_X0_needValue : GoodIn wsX0_joined wsX0_needValue := goodIn_ca (goodIn_r _ [18, 19, 20] (by decide +kernel) (by decide +kernel)) (goodIn_sub (fun _ h => List.mem_cons_of_mem _ (List.mem_append_right _ h)) (by decide +kernel))
set_option maxRecDepth 20000 in
theorem gX0_joined_X0_needValue : GoodIn wsX0_joined (va_wsS RX0 74 yX0_needValue wsX0_needValue) := goodIn_app (goodIn_of _ (by decide +kernel)) ggX0_joined_X0_needValue
set_option maxRecDepth 20000 in
theorem ggX0_joined_X0_hasBit : GoodIn wsX0_joined wsX0_hasBit := goodIn_r _ [23] (by decide +kernel) (by decide +kernel)
set_option maxRecDepth 20000 in
theorem gX0_joined_X0_hasBit : GoodIn wsX0_joined (va_wsS RX0 133 yX0_hasBit wsX0_hasBit) := goodIn_app (goodIn_of _ (by decide +kernel)) ggX0_joined_X0_hasBit
set_option maxRecDepth 20000 in
theorem ggX0_joined_X0_between : GoodIn wsX0_joined wsX0_between := goodIn_r _ [26, 27, 28, 8, 29, 30, 31, 32, 33] (by decide +kernel) (by decide +kernel)
set_option maxRecDepth 20000 in
theorem gX0_joined_X0_between : GoodIn wsX0_joined (va_wsS RX0 139 yX0_between wsX0_between) := goodIn_app (goodIn_of _ (by decide +kernel)) ggX0_joined_X0_between
theorem dX0_joined_0 : decode cX0_joined 0 = .ok (.aload_n 0, 1) := by decide +kernel
theorem dX0_joined_1 : decode cX0_joined 1 = .ok (.iload_n 1, 1) := by decide +kernel
theorem dX0_joined_2 : decode cX0_joined 2 = .ok (.invokevirtual 99, 3) := by decide +kernel
theorem dX0_joined_5 : decode cX0_joined 5 = .ok (.iload_n 2, 1) := by decide +kernel
theorem dX0_joined_6 : decode cX0_joined 6 = .ok (.invokestatic 66, 3) := by decide +kernel
theorem dX0_joined_9 : decode cX0_joined 9 = .ok (.iload_n 3, 1) := by decide +kernel
theorem dX0_joined_10 : decode cX0_joined 10 = .ok (.invokestatic 74, 3) := by decide +kernel
theorem dX0_joined_13 : decode cX0_joined 13 = .ok (.aload_n 0, 1) := by decide +kernel
theorem dX0_joined_14 : decode cX0_joined 14 = .ok (.getfield 130, 3) := by decide +kernel
theorem dX0_joined_17 : decode cX0_joined 17 = .ok (.iload_n 1, 1) := by decide +kernel
theorem dX0_joined_18 : decode cX0_joined 18 = .ok (.invokestatic 133, 3) := by decide +kernel
theorem dX0_joined_21 : decode cX0_joined 21 = .ok (.ifCond .ne 13, 3) := by decide +kernel
theorem dX0_joined_24 : decode cX0_joined 24 = .ok (.new 47, 3) := by decide +kernel
theorem dX0_joined_27 : decode cX0_joined 27 = .ok (.dup, 1) := by decide +kernel
theorem dX0_joined_28 : decode cX0_joined 28 = .ok (.ldc 137, 2) := by decide +kernel
theorem dX0_joined_30 : decode cX0_joined 30 = .ok (.invokespecial 51, 3) := by decide +kernel
theorem dX0_joined_33 : decode cX0_joined 33 = .ok (.athrow, 1) := by decide +kernel
theorem dX0_joined_34 : decode cX0_joined 34 = .ok (.aload_n 0, 1) := by decide +kernel
theorem dX0_joined_35 : decode cX0_joined 35 = .ok (.getfield 28, 3) := by decide +kernel
theorem dX0_joined_38 : decode cX0_joined 38 = .ok (.iload_n 1, 1) := by decide +kernel
theorem dX0_joined_39 : decode cX0_joined 39 = .ok (.iconst 3, 1) := by decide +kernel
theorem dX0_joined_40 : decode cX0_joined 40 = .ok (.imul, 1) := by decide +kernel
theorem dX0_joined_41 : decode cX0_joined 41 = .ok (.iload_n 2, 1) := by decide +kernel
theorem dX0_joined_42 : decode cX0_joined 42 = .ok (.iadd, 1) := by decide +kernel
theorem dX0_joined_43 : decode cX0_joined 43 = .ok (.iconst 5, 1) := by decide +kernel
theorem dX0_joined_44 : decode cX0_joined 44 = .ok (.imul, 1) := by decide +kernel
theorem dX0_joined_45 : decode cX0_joined 45 = .ok (.iload_n 3, 1) := by decide +kernel
theorem dX0_joined_46 : decode cX0_joined 46 = .ok (.invokestatic 139, 3) := by decide +kernel
theorem dX0_joined_49 : decode cX0_joined 49 = .ok (.ireturn, 1) := by decide +kernel
set_option maxRecDepth 20000 in
theorem ggX0_stale_X0_hasBit : GoodIn wsX0_stale wsX0_hasBit := goodIn_r _ [5] (by decide +kernel) (by decide +kernel)
set_option maxRecDepth 20000 in
theorem gX0_stale_X0_hasBit : GoodIn wsX0_stale (va_wsS RX0 133 yX0_hasBit wsX0_hasBit) := goodIn_app (goodIn_of _ (by decide +kernel)) ggX0_stale_X0_hasBit
set_option maxRecDepth 20000 in
theorem ggX0_stale_X0_differsFromKept : GoodIn wsX0_stale wsX0_differsFromKept := goodIn_r _ [9, 10, 11, 12, 4, 13, 14, 15, 16, 17, 18, 19, 20, 21, 22, 23, 24, 25, 26, 27, 28, 29, 30, 31, 32, 33, 34, 35, 36, 37, 38, 39, 40, 41, 42, 43, 44, 45, 46, 47, 48, 49, 50, 51, 52, 53, 54, 55, 56, 57, 58, 59, 60, 61, 62, 63, 64, 65, 66] (by decide +kernel) (by decide +kernel)
set_option maxRecDepth 20000 in
theorem gX0_stale_X0_differsFromKept : GoodIn wsX0_stale (wsV RX0 142 RX0 yX0_differsFromKept wsX0_differsFromKept) := goodIn_app (goodIn_of _ (by decide +kernel)) ggX0_stale_X0_differsFromKept
theorem dX0_stale_0 : decode cX0_stale 0 = .ok (.iconst 0, 1) := by decide +kernel
theorem dX0_stale_1 : decode cX0_stale 1 = .ok (.istore_n 1, 1) := by decide +kernel
theorem dX0_stale_2 : decode cX0_stale 2 = .ok (.iconst 0, 1) := by decide +kernel
theorem dX0_stale_3 : decode cX0_stale 3 = .ok (.istore_n 2, 1) := by decide +kernel
theorem dX0_stale_4 : decode cX0_stale 4 = .ok (.iload_n 2, 1) := by decide +kernel
theorem dX0_stale_5 : decode cX0_stale 5 = .ok (.bipush 6, 2) := by decide +kernel
theorem dX0_stale_7 : decode cX0_stale 7 = .ok (.if_icmp .ge 34, 3) := by decide +kernel
theorem dX0_stale_10 : decode cX0_stale 10 = .ok (.aload_n 0, 1) := by decide +kernel
theorem dX0_stale_11 : decode cX0_stale 11 = .ok (.getfield 130, 3) := by decide +kernel
theorem dX0_stale_14 : decode cX0_stale 14 = .ok (.iload_n 2, 1) := by decide +kernel
theorem dX0_stale_15 : decode cX0_stale 15 = .ok (.invokestatic 133, 3) := by decide +kernel
theorem dX0_stale_18 : decode cX0_stale 18 = .ok (.ifCond .eq 17, 3) := by decide +kernel
theorem dX0_stale_21 : decode cX0_stale 21 = .ok (.aload_n 0, 1) := by decide +kernel
theorem dX0_stale_22 : decode cX0_stale 22 = .ok (.iload_n 2, 1) := by decide +kernel
theorem dX0_stale_23 : decode cX0_stale 23 = .ok (.invokevirtual 142, 3) := by decide +kernel
theorem dX0_stale_26 : decode cX0_stale 26 = .ok (.ifCond .eq 9, 3) := by decide +kernel
theorem dX0_stale_29 : decode cX0_stale 29 = .ok (.iload_n 1, 1) := by decide +kernel
theorem dX0_stale_30 : decode cX0_stale 30 = .ok (.iconst 1, 1) := by decide +kernel
theorem dX0_stale_31 : decode cX0_stale 31 = .ok (.iload_n 2, 1) := by decide +kernel
theorem dX0_stale_32 : decode cX0_stale 32 = .ok (.ishl, 1) := by decide +kernel
theorem dX0_stale_33 : decode cX0_stale 33 = .ok (.ior, 1) := by decide +kernel
theorem dX0_stale_34 : decode cX0_stale 34 = .ok (.istore_n 1, 1) := by decide +kernel
theorem dX0_stale_35 : decode cX0_stale 35 = .ok (.iinc 2 1, 3) := by decide +kernel
theorem dX0_stale_38 : decode cX0_stale 38 = .ok (.goto (-34), 3) := by decide +kernel
theorem dX0_stale_41 : decode cX0_stale 41 = .ok (.iload_n 1, 1) := by decide +kernel
theorem dX0_stale_42 : decode cX0_stale 42 = .ok (.ireturn, 1) := by decide +kernel
set_option maxRecDepth 20000 in
theorem ggX0_sign_X0_needChain : GoodIn wsX0_sign wsX0_needChain := goodIn_ca (goodIn_r _ [6, 7, 8, 9, 13, 14, 15, 16, 17, 18, 19, 20, 21, 22, 23, 24, 25, 26, 27] (by decide +kernel) (by decide +kernel)) (goodIn_sub (fun _ h => List.mem_cons_of_mem _ (List.mem_append_right _ h)) (by decide +kernel))
set_option maxRecDepth 20000 in
theorem gX0_sign_X0_needChain : GoodIn wsX0_sign (wsV RX0 99 RX0 yX0_needChain wsX0_needChain) := goodIn_app (goodIn_of _ (by decide +kernel)) ggX0_sign_X0_needChain
set_option maxRecDepth 20000 in
theorem ggX0_sign_X0_hasBit : GoodIn wsX0_sign wsX0_hasBit := goodIn_r _ [12] (by decide +kernel) (by decide +kernel)
set_option maxRecDepth 20000 in
theorem gX0_sign_X0_hasBit : GoodIn wsX0_sign (va_wsS RX0 133 yX0_hasBit wsX0_hasBit) := goodIn_app (goodIn_of _ (by decide +kernel)) ggX0_sign_X0_hasBit
theorem dX0_sign_0 : decode cX0_sign 0 = .ok (.aload_n 0, 1) := by decide +kernel
theorem dX0_sign_1 : decode cX0_sign 1 = .ok (.iload_n 1, 1) := by decide +kernel
theorem dX0_sign_2 : decode cX0_sign 2 = .ok (.invokevirtual 99, 3) := by decide +kernel
theorem dX0_sign_5 : decode cX0_sign 5 = .ok (.aload_n 0, 1) := by decide +kernel
theorem dX0_sign_6 : decode cX0_sign 6 = .ok (.aload_n 0, 1) := by decide +kernel
theorem dX0_sign_7 : decode cX0_sign 7 = .ok (.getfield 146, 3) := by decide +kernel
theorem dX0_sign_10 : decode cX0_sign 10 = .ok (.iconst 1, 1) := by decide +kernel
theorem dX0_sign_11 : decode cX0_sign 11 = .ok (.iload_n 1, 1) := by decide +kernel
theorem dX0_sign_12 : decode cX0_sign 12 = .ok (.ishl, 1) := by decide +kernel
theorem dX0_sign_13 : decode cX0_sign 13 = .ok (.ixor, 1) := by decide +kernel
theorem dX0_sign_14 : decode cX0_sign 14 = .ok (.putfield 146, 3) := by decide +kernel
theorem dX0_sign_17 : decode cX0_sign 17 = .ok (.aload_n 0, 1) := by decide +kernel
theorem dX0_sign_18 : decode cX0_sign 18 = .ok (.getfield 146, 3) := by decide +kernel
theorem dX0_sign_21 : decode cX0_sign 21 = .ok (.iload_n 1, 1) := by decide +kernel
theorem dX0_sign_22 : decode cX0_sign 22 = .ok (.invokestatic 133, 3) := by decide +kernel
theorem dX0_sign_25 : decode cX0_sign 25 = .ok (.ireturn, 1) := by decide +kernel
set_option maxRecDepth 20000 in
theorem ggX0_held_X0_hasBit : GoodIn wsX0_held wsX0_hasBit := goodIn_r _ [5] (by decide +kernel) (by decide +kernel)
set_option maxRecDepth 20000 in
theorem gX0_held_X0_hasBit : GoodIn wsX0_held (va_wsS RX0 133 yX0_hasBit wsX0_hasBit) := goodIn_app (goodIn_of _ (by decide +kernel)) ggX0_held_X0_hasBit
set_option maxRecDepth 20000 in
theorem ggX0_held_X0_profilesOf : GoodIn wsX0_held wsX0_profilesOf := goodIn_r _ [9, 10, 11, 12, 13, 4, 14, 15, 16, 17, 18, 19, 20, 21, 22, 23, 24, 25, 26, 27, 28, 29] (by decide +kernel) (by decide +kernel)
set_option maxRecDepth 20000 in
theorem gX0_held_X0_profilesOf : GoodIn wsX0_held (wsV RX0 149 RX0 yX0_profilesOf wsX0_profilesOf) := goodIn_app (goodIn_of _ (by decide +kernel)) ggX0_held_X0_profilesOf
theorem dX0_held_0 : decode cX0_held 0 = .ok (.iconst 0, 1) := by decide +kernel
theorem dX0_held_1 : decode cX0_held 1 = .ok (.istore_n 1, 1) := by decide +kernel
theorem dX0_held_2 : decode cX0_held 2 = .ok (.iconst 0, 1) := by decide +kernel
theorem dX0_held_3 : decode cX0_held 3 = .ok (.istore_n 2, 1) := by decide +kernel
theorem dX0_held_4 : decode cX0_held 4 = .ok (.iload_n 2, 1) := by decide +kernel
theorem dX0_held_5 : decode cX0_held 5 = .ok (.bipush 6, 2) := by decide +kernel
theorem dX0_held_7 : decode cX0_held 7 = .ok (.if_icmp .ge 28, 3) := by decide +kernel
theorem dX0_held_10 : decode cX0_held 10 = .ok (.aload_n 0, 1) := by decide +kernel
theorem dX0_held_11 : decode cX0_held 11 = .ok (.getfield 146, 3) := by decide +kernel
theorem dX0_held_14 : decode cX0_held 14 = .ok (.iload_n 2, 1) := by decide +kernel
theorem dX0_held_15 : decode cX0_held 15 = .ok (.invokestatic 133, 3) := by decide +kernel
theorem dX0_held_18 : decode cX0_held 18 = .ok (.ifCond .eq 11, 3) := by decide +kernel
theorem dX0_held_21 : decode cX0_held 21 = .ok (.iload_n 1, 1) := by decide +kernel
theorem dX0_held_22 : decode cX0_held 22 = .ok (.aload_n 0, 1) := by decide +kernel
theorem dX0_held_23 : decode cX0_held 23 = .ok (.iload_n 2, 1) := by decide +kernel
theorem dX0_held_24 : decode cX0_held 24 = .ok (.invokevirtual 149, 3) := by decide +kernel
theorem dX0_held_27 : decode cX0_held 27 = .ok (.ior, 1) := by decide +kernel
theorem dX0_held_28 : decode cX0_held 28 = .ok (.istore_n 1, 1) := by decide +kernel
theorem dX0_held_29 : decode cX0_held 29 = .ok (.iinc 2 1, 3) := by decide +kernel
theorem dX0_held_32 : decode cX0_held 32 = .ok (.goto (-28), 3) := by decide +kernel
theorem dX0_held_35 : decode cX0_held 35 = .ok (.iload_n 1, 1) := by decide +kernel
theorem dX0_held_36 : decode cX0_held 36 = .ok (.ireturn, 1) := by decide +kernel
set_option maxRecDepth 20000 in
theorem ggX0_paint_X0_needPixel : GoodIn wsX0_paint wsX0_needPixel := goodIn_ca (goodIn_r _ [5, 6, 7] (by decide +kernel) (by decide +kernel)) (goodIn_sub (fun _ h => List.mem_cons_of_mem _ (List.mem_append_left _ (List.mem_append_right _ h))) (by decide +kernel))
set_option maxRecDepth 20000 in
theorem gX0_paint_X0_needPixel : GoodIn wsX0_paint (va_wsS RX0 152 yX0_needPixel wsX0_needPixel) := goodIn_app (goodIn_of _ (by decide +kernel)) ggX0_paint_X0_needPixel
set_option maxRecDepth 20000 in
theorem ggX0_paint_X0_needBand : GoodIn wsX0_paint wsX0_needBand := goodIn_ca (goodIn_r _ [10, 6, 7] (by decide +kernel) (by decide +kernel)) (goodIn_sub (fun _ h => List.mem_cons_of_mem _ (List.mem_append_left _ (List.mem_append_right _ h))) (by decide +kernel))
set_option maxRecDepth 20000 in
theorem gX0_paint_X0_needBand : GoodIn wsX0_paint (va_wsS RX0 66 yX0_needBand wsX0_needBand) := goodIn_app (goodIn_of _ (by decide +kernel)) ggX0_paint_X0_needBand
set_option maxRecDepth 20000 in
theorem ggX0_paint_X0_needValue : GoodIn wsX0_paint wsX0_needValue := goodIn_ca (goodIn_r _ [13, 14, 15] (by decide +kernel) (by decide +kernel)) (goodIn_sub (fun _ h => List.mem_cons_of_mem _ (List.mem_append_right _ h)) (by decide +kernel))
set_option maxRecDepth 20000 in
theorem gX0_paint_X0_needValue : GoodIn wsX0_paint (va_wsS RX0 74 yX0_needValue wsX0_needValue) := goodIn_app (goodIn_of _ (by decide +kernel)) ggX0_paint_X0_needValue
set_option maxRecDepth 20000 in
theorem ggX0_paint_X0_swap : GoodIn wsX0_paint wsX0_swap := goodIn_r _ [18] (by decide +kernel) (by decide +kernel)
set_option maxRecDepth 20000 in
theorem gX0_paint_X0_swap : GoodIn wsX0_paint (va_wsS RX0 58 yX0_swap wsX0_swap) := goodIn_app (goodIn_of _ (by decide +kernel)) ggX0_paint_X0_swap
theorem dX0_paint_0 : decode cX0_paint 0 = .ok (.iload_n 1, 1) := by decide +kernel
theorem dX0_paint_1 : decode cX0_paint 1 = .ok (.invokestatic 152, 3) := by decide +kernel
theorem dX0_paint_4 : decode cX0_paint 4 = .ok (.iload_n 2, 1) := by decide +kernel
theorem dX0_paint_5 : decode cX0_paint 5 = .ok (.invokestatic 66, 3) := by decide +kernel
theorem dX0_paint_8 : decode cX0_paint 8 = .ok (.iload_n 3, 1) := by decide +kernel
theorem dX0_paint_9 : decode cX0_paint 9 = .ok (.invokestatic 74, 3) := by decide +kernel
theorem dX0_paint_12 : decode cX0_paint 12 = .ok (.aload_n 0, 1) := by decide +kernel
theorem dX0_paint_13 : decode cX0_paint 13 = .ok (.getfield 34, 3) := by decide +kernel
theorem dX0_paint_16 : decode cX0_paint 16 = .ok (.iload_n 1, 1) := by decide +kernel
theorem dX0_paint_17 : decode cX0_paint 17 = .ok (.iconst 3, 1) := by decide +kernel
theorem dX0_paint_18 : decode cX0_paint 18 = .ok (.imul, 1) := by decide +kernel
theorem dX0_paint_19 : decode cX0_paint 19 = .ok (.iload_n 2, 1) := by decide +kernel
theorem dX0_paint_20 : decode cX0_paint 20 = .ok (.iadd, 1) := by decide +kernel
theorem dX0_paint_21 : decode cX0_paint 21 = .ok (.iload_n 3, 1) := by decide +kernel
theorem dX0_paint_22 : decode cX0_paint 22 = .ok (.invokestatic 58, 3) := by decide +kernel
theorem dX0_paint_25 : decode cX0_paint 25 = .ok (.ireturn, 1) := by decide +kernel
set_option maxRecDepth 20000 in
theorem ggX0_spot_X0_needPixel : GoodIn wsX0_spot wsX0_needPixel := goodIn_ca (goodIn_r _ [5, 6, 7] (by decide +kernel) (by decide +kernel)) (goodIn_sub (fun _ h => List.mem_cons_of_mem _ (List.mem_append_left _ (List.mem_append_right _ h))) (by decide +kernel))
set_option maxRecDepth 20000 in
theorem gX0_spot_X0_needPixel : GoodIn wsX0_spot (va_wsS RX0 152 yX0_needPixel wsX0_needPixel) := goodIn_app (goodIn_of _ (by decide +kernel)) ggX0_spot_X0_needPixel
set_option maxRecDepth 20000 in
theorem ggX0_spot_X0_needInk : GoodIn wsX0_spot wsX0_needInk := goodIn_ca (goodIn_r _ [10, 6, 7] (by decide +kernel) (by decide +kernel)) (goodIn_sub (fun _ h => List.mem_cons_of_mem _ (List.mem_append_left _ (List.mem_append_right _ h))) (by decide +kernel))
set_option maxRecDepth 20000 in
theorem gX0_spot_X0_needInk : GoodIn wsX0_spot (va_wsS RX0 155 yX0_needInk wsX0_needInk) := goodIn_app (goodIn_of _ (by decide +kernel)) ggX0_spot_X0_needInk
set_option maxRecDepth 20000 in
theorem ggX0_spot_X0_needValue : GoodIn wsX0_spot wsX0_needValue := goodIn_ca (goodIn_r _ [13, 14, 15] (by decide +kernel) (by decide +kernel)) (goodIn_sub (fun _ h => List.mem_cons_of_mem _ (List.mem_append_right _ h)) (by decide +kernel))
set_option maxRecDepth 20000 in
theorem gX0_spot_X0_needValue : GoodIn wsX0_spot (va_wsS RX0 74 yX0_needValue wsX0_needValue) := goodIn_app (goodIn_of _ (by decide +kernel)) ggX0_spot_X0_needValue
set_option maxRecDepth 20000 in
theorem ggX0_spot_X0_swap : GoodIn wsX0_spot wsX0_swap := goodIn_r _ [18] (by decide +kernel) (by decide +kernel)
set_option maxRecDepth 20000 in
theorem gX0_spot_X0_swap : GoodIn wsX0_spot (va_wsS RX0 58 yX0_swap wsX0_swap) := goodIn_app (goodIn_of _ (by decide +kernel)) ggX0_spot_X0_swap
theorem dX0_spot_0 : decode cX0_spot 0 = .ok (.iload_n 1, 1) := by decide +kernel
theorem dX0_spot_1 : decode cX0_spot 1 = .ok (.invokestatic 152, 3) := by decide +kernel
theorem dX0_spot_4 : decode cX0_spot 4 = .ok (.iload_n 2, 1) := by decide +kernel
theorem dX0_spot_5 : decode cX0_spot 5 = .ok (.invokestatic 155, 3) := by decide +kernel
theorem dX0_spot_8 : decode cX0_spot 8 = .ok (.iload_n 3, 1) := by decide +kernel
theorem dX0_spot_9 : decode cX0_spot 9 = .ok (.invokestatic 74, 3) := by decide +kernel
theorem dX0_spot_12 : decode cX0_spot 12 = .ok (.aload_n 0, 1) := by decide +kernel
theorem dX0_spot_13 : decode cX0_spot 13 = .ok (.getfield 37, 3) := by decide +kernel
theorem dX0_spot_16 : decode cX0_spot 16 = .ok (.iload_n 1, 1) := by decide +kernel
theorem dX0_spot_17 : decode cX0_spot 17 = .ok (.iconst 3, 1) := by decide +kernel
theorem dX0_spot_18 : decode cX0_spot 18 = .ok (.imul, 1) := by decide +kernel
theorem dX0_spot_19 : decode cX0_spot 19 = .ok (.iload_n 2, 1) := by decide +kernel
theorem dX0_spot_20 : decode cX0_spot 20 = .ok (.iadd, 1) := by decide +kernel
theorem dX0_spot_21 : decode cX0_spot 21 = .ok (.iload_n 3, 1) := by decide +kernel
theorem dX0_spot_22 : decode cX0_spot 22 = .ok (.invokestatic 58, 3) := by decide +kernel
theorem dX0_spot_25 : decode cX0_spot 25 = .ok (.ireturn, 1) := by decide +kernel
set_option maxRecDepth 20000 in
theorem ggX0_mix_X0_needInk : GoodIn wsX0_mix wsX0_needInk := goodIn_ca (goodIn_r _ [5, 6, 7] (by decide +kernel) (by decide +kernel)) (goodIn_sub (fun _ h => List.mem_cons_of_mem _ (List.mem_append_left _ (List.mem_append_right _ h))) (by decide +kernel))
set_option maxRecDepth 20000 in
theorem gX0_mix_X0_needInk : GoodIn wsX0_mix (va_wsS RX0 155 yX0_needInk wsX0_needInk) := goodIn_app (goodIn_of _ (by decide +kernel)) ggX0_mix_X0_needInk
set_option maxRecDepth 20000 in
theorem ggX0_mix_X0_needBand : GoodIn wsX0_mix wsX0_needBand := goodIn_ca (goodIn_r _ [10, 6, 7] (by decide +kernel) (by decide +kernel)) (goodIn_sub (fun _ h => List.mem_cons_of_mem _ (List.mem_append_left _ (List.mem_append_right _ h))) (by decide +kernel))
set_option maxRecDepth 20000 in
theorem gX0_mix_X0_needBand : GoodIn wsX0_mix (va_wsS RX0 66 yX0_needBand wsX0_needBand) := goodIn_app (goodIn_of _ (by decide +kernel)) ggX0_mix_X0_needBand
set_option maxRecDepth 20000 in
theorem ggX0_mix_X0_needValue : GoodIn wsX0_mix wsX0_needValue := goodIn_ca (goodIn_r _ [13, 14, 15] (by decide +kernel) (by decide +kernel)) (goodIn_sub (fun _ h => List.mem_cons_of_mem _ (List.mem_append_right _ h)) (by decide +kernel))
set_option maxRecDepth 20000 in
theorem gX0_mix_X0_needValue : GoodIn wsX0_mix (va_wsS RX0 74 yX0_needValue wsX0_needValue) := goodIn_app (goodIn_of _ (by decide +kernel)) ggX0_mix_X0_needValue
set_option maxRecDepth 20000 in
theorem ggX0_mix_X0_swap : GoodIn wsX0_mix wsX0_swap := goodIn_r _ [18] (by decide +kernel) (by decide +kernel)
set_option maxRecDepth 20000 in
theorem gX0_mix_X0_swap : GoodIn wsX0_mix (va_wsS RX0 58 yX0_swap wsX0_swap) := goodIn_app (goodIn_of _ (by decide +kernel)) ggX0_mix_X0_swap
theorem dX0_mix_0 : decode cX0_mix 0 = .ok (.iload_n 1, 1) := by decide +kernel
theorem dX0_mix_1 : decode cX0_mix 1 = .ok (.invokestatic 155, 3) := by decide +kernel
theorem dX0_mix_4 : decode cX0_mix 4 = .ok (.iload_n 2, 1) := by decide +kernel
theorem dX0_mix_5 : decode cX0_mix 5 = .ok (.invokestatic 66, 3) := by decide +kernel
theorem dX0_mix_8 : decode cX0_mix 8 = .ok (.iload_n 3, 1) := by decide +kernel
theorem dX0_mix_9 : decode cX0_mix 9 = .ok (.invokestatic 74, 3) := by decide +kernel
theorem dX0_mix_12 : decode cX0_mix 12 = .ok (.aload_n 0, 1) := by decide +kernel
theorem dX0_mix_13 : decode cX0_mix 13 = .ok (.getfield 40, 3) := by decide +kernel
theorem dX0_mix_16 : decode cX0_mix 16 = .ok (.iload_n 1, 1) := by decide +kernel
theorem dX0_mix_17 : decode cX0_mix 17 = .ok (.iconst 3, 1) := by decide +kernel
theorem dX0_mix_18 : decode cX0_mix 18 = .ok (.imul, 1) := by decide +kernel
theorem dX0_mix_19 : decode cX0_mix 19 = .ok (.iload_n 2, 1) := by decide +kernel
theorem dX0_mix_20 : decode cX0_mix 20 = .ok (.iadd, 1) := by decide +kernel
theorem dX0_mix_21 : decode cX0_mix 21 = .ok (.iload_n 3, 1) := by decide +kernel
theorem dX0_mix_22 : decode cX0_mix 22 = .ok (.invokestatic 58, 3) := by decide +kernel
theorem dX0_mix_25 : decode cX0_mix 25 = .ok (.ireturn, 1) := by decide +kernel
set_option maxRecDepth 20000 in
theorem ggX0_shown_X0_needChain : GoodIn wsX0_shown wsX0_needChain := goodIn_ca (goodIn_r _ [7, 8, 9, 10, 65, 66, 67, 68, 69, 70, 71, 72, 73, 74, 75, 76, 77, 78, 79] (by decide +kernel) (by decide +kernel)) (goodIn_sub (fun _ h => List.mem_cons_of_mem _ (List.mem_append_right _ h)) (by decide +kernel))
set_option maxRecDepth 20000 in
theorem gX0_shown_X0_needChain : GoodIn wsX0_shown (wsV RX0 99 RX0 yX0_needChain wsX0_needChain) := goodIn_app (goodIn_of _ (by decide +kernel)) ggX0_shown_X0_needChain
set_option maxRecDepth 20000 in
theorem ggX0_shown_X0_needPixel : GoodIn wsX0_shown wsX0_needPixel := goodIn_ca (goodIn_r _ [13, 8, 9] (by decide +kernel) (by decide +kernel)) (goodIn_sub (fun _ h => List.mem_cons_of_mem _ (List.mem_append_right _ h)) (by decide +kernel))
set_option maxRecDepth 20000 in
theorem gX0_shown_X0_needPixel : GoodIn wsX0_shown (va_wsS RX0 152 yX0_needPixel wsX0_needPixel) := goodIn_app (goodIn_of _ (by decide +kernel)) ggX0_shown_X0_needPixel
set_option maxRecDepth 20000 in
theorem ggX0_shown_X0_needBand : GoodIn wsX0_shown wsX0_needBand := goodIn_ca (goodIn_r _ [16, 8, 9] (by decide +kernel) (by decide +kernel)) (goodIn_sub (fun _ h => List.mem_cons_of_mem _ (List.mem_append_right _ h)) (by decide +kernel))
set_option maxRecDepth 20000 in
theorem gX0_shown_X0_needBand : GoodIn wsX0_shown (va_wsS RX0 66 yX0_needBand wsX0_needBand) := goodIn_app (goodIn_of _ (by decide +kernel)) ggX0_shown_X0_needBand
set_option maxRecDepth 20000 in
theorem ggX0_shown_X0_inked : GoodIn wsX0_shown wsX0_inked := goodIn_r _ [20, 21, 22, 23, 24, 25, 26, 27, 28, 29, 6, 30, 31, 32, 33, 65, 66, 67, 68, 69, 70, 71, 72, 73, 74, 75, 76, 77, 78, 79] (by decide +kernel) (by decide +kernel)
set_option maxRecDepth 20000 in
theorem gX0_shown_X0_inked : GoodIn wsX0_shown (wsV RX0 160 RX0 yX0_inked wsX0_inked) := goodIn_app (goodIn_of _ (by decide +kernel)) ggX0_shown_X0_inked
set_option maxRecDepth 20000 in
theorem ggX0_shown_X0_pass : GoodIn wsX0_shown wsX0_pass := goodIn_r _ [37, 38, 39, 28, 29, 6, 30, 40, 41, 42, 43, 44, 45, 46, 24, 25, 26, 27, 47, 48, 49, 50, 51, 52, 53, 54, 55, 56, 57, 58, 59, 60, 61, 62, 63, 64, 65, 66, 67, 68, 69, 70, 71, 72, 73, 74, 75, 76, 77, 78, 79] (by decide +kernel) (by decide +kernel)
set_option maxRecDepth 20000 in
theorem gX0_shown_X0_pass : GoodIn wsX0_shown (wsV RX0 113 RX0 yX0_pass wsX0_pass) := goodIn_app (goodIn_of _ (by decide +kernel)) ggX0_shown_X0_pass
theorem dX0_shown_0 : decode cX0_shown 0 = .ok (.aload_n 0, 1) := by decide +kernel
theorem dX0_shown_1 : decode cX0_shown 1 = .ok (.iload_n 1, 1) := by decide +kernel
theorem dX0_shown_2 : decode cX0_shown 2 = .ok (.invokevirtual 99, 3) := by decide +kernel
theorem dX0_shown_5 : decode cX0_shown 5 = .ok (.iload_n 2, 1) := by decide +kernel
theorem dX0_shown_6 : decode cX0_shown 6 = .ok (.invokestatic 152, 3) := by decide +kernel
theorem dX0_shown_9 : decode cX0_shown 9 = .ok (.iload_n 3, 1) := by decide +kernel
theorem dX0_shown_10 : decode cX0_shown 10 = .ok (.invokestatic 66, 3) := by decide +kernel
theorem dX0_shown_13 : decode cX0_shown 13 = .ok (.iload 4, 2) := by decide +kernel
theorem dX0_shown_15 : decode cX0_shown 15 = .ok (.ifCond .lt 10, 3) := by decide +kernel
theorem dX0_shown_18 : decode cX0_shown 18 = .ok (.iload 4, 2) := by decide +kernel
theorem dX0_shown_20 : decode cX0_shown 20 = .ok (.bipush 7, 2) := by decide +kernel
theorem dX0_shown_22 : decode cX0_shown 22 = .ok (.if_icmp .le 13, 3) := by decide +kernel
theorem dX0_shown_25 : decode cX0_shown 25 = .ok (.new 80, 3) := by decide +kernel
theorem dX0_shown_28 : decode cX0_shown 28 = .ok (.dup, 1) := by decide +kernel
theorem dX0_shown_29 : decode cX0_shown 29 = .ok (.ldc 158, 2) := by decide +kernel
theorem dX0_shown_31 : decode cX0_shown 31 = .ok (.invokespecial 84, 3) := by decide +kernel
theorem dX0_shown_34 : decode cX0_shown 34 = .ok (.athrow, 1) := by decide +kernel
theorem dX0_shown_35 : decode cX0_shown 35 = .ok (.aload_n 0, 1) := by decide +kernel
theorem dX0_shown_36 : decode cX0_shown 36 = .ok (.iload_n 1, 1) := by decide +kernel
theorem dX0_shown_37 : decode cX0_shown 37 = .ok (.iload_n 3, 1) := by decide +kernel
theorem dX0_shown_38 : decode cX0_shown 38 = .ok (.aload_n 0, 1) := by decide +kernel
theorem dX0_shown_39 : decode cX0_shown 39 = .ok (.iload_n 2, 1) := by decide +kernel
theorem dX0_shown_40 : decode cX0_shown 40 = .ok (.iload_n 3, 1) := by decide +kernel
theorem dX0_shown_41 : decode cX0_shown 41 = .ok (.iload 4, 2) := by decide +kernel
theorem dX0_shown_43 : decode cX0_shown 43 = .ok (.invokevirtual 160, 3) := by decide +kernel
theorem dX0_shown_46 : decode cX0_shown 46 = .ok (.invokevirtual 113, 3) := by decide +kernel
theorem dX0_shown_49 : decode cX0_shown 49 = .ok (.ireturn, 1) := by decide +kernel
theorem dX0_needProfile_0 : decode cX0_needProfile 0 = .ok (.iload_n 1, 1) := by decide +kernel
theorem dX0_needProfile_1 : decode cX0_needProfile 1 = .ok (.ifCond .lt 11, 3) := by decide +kernel
theorem dX0_needProfile_4 : decode cX0_needProfile 4 = .ok (.iload_n 1, 1) := by decide +kernel
theorem dX0_needProfile_5 : decode cX0_needProfile 5 = .ok (.aload_n 0, 1) := by decide +kernel
theorem dX0_needProfile_6 : decode cX0_needProfile 6 = .ok (.getfield 43, 3) := by decide +kernel
theorem dX0_needProfile_9 : decode cX0_needProfile 9 = .ok (.if_icmp .lt 13, 3) := by decide +kernel
theorem dX0_needProfile_12 : decode cX0_needProfile 12 = .ok (.new 69, 3) := by decide +kernel
theorem dX0_needProfile_15 : decode cX0_needProfile 15 = .ok (.dup, 1) := by decide +kernel
theorem dX0_needProfile_16 : decode cX0_needProfile 16 = .ok (.ldc 163, 2) := by decide +kernel
theorem dX0_needProfile_18 : decode cX0_needProfile 18 = .ok (.invokespecial 73, 3) := by decide +kernel
theorem dX0_needProfile_21 : decode cX0_needProfile 21 = .ok (.athrow, 1) := by decide +kernel
theorem dX0_needProfile_22 : decode cX0_needProfile 22 = .ok (.return_, 1) := by decide +kernel
theorem dX0_needChain_0 : decode cX0_needChain 0 = .ok (.iload_n 1, 1) := by decide +kernel
theorem dX0_needChain_1 : decode cX0_needChain 1 = .ok (.ifCond .lt 11, 3) := by decide +kernel
theorem dX0_needChain_4 : decode cX0_needChain 4 = .ok (.iload_n 1, 1) := by decide +kernel
theorem dX0_needChain_5 : decode cX0_needChain 5 = .ok (.aload_n 0, 1) := by decide +kernel
theorem dX0_needChain_6 : decode cX0_needChain 6 = .ok (.getfield 94, 3) := by decide +kernel
theorem dX0_needChain_9 : decode cX0_needChain 9 = .ok (.if_icmp .lt 13, 3) := by decide +kernel
theorem dX0_needChain_12 : decode cX0_needChain 12 = .ok (.new 69, 3) := by decide +kernel
theorem dX0_needChain_15 : decode cX0_needChain 15 = .ok (.dup, 1) := by decide +kernel
theorem dX0_needChain_16 : decode cX0_needChain 16 = .ok (.ldc 165, 2) := by decide +kernel
theorem dX0_needChain_18 : decode cX0_needChain 18 = .ok (.invokespecial 73, 3) := by decide +kernel
theorem dX0_needChain_21 : decode cX0_needChain 21 = .ok (.athrow, 1) := by decide +kernel
theorem dX0_needChain_22 : decode cX0_needChain 22 = .ok (.return_, 1) := by decide +kernel
theorem dX0_needBand_0 : decode cX0_needBand 0 = .ok (.iload_n 0, 1) := by decide +kernel
theorem dX0_needBand_1 : decode cX0_needBand 1 = .ok (.ifCond .lt 8, 3) := by decide +kernel
theorem dX0_needBand_4 : decode cX0_needBand 4 = .ok (.iload_n 0, 1) := by decide +kernel
theorem dX0_needBand_5 : decode cX0_needBand 5 = .ok (.iconst 3, 1) := by decide +kernel
theorem dX0_needBand_6 : decode cX0_needBand 6 = .ok (.if_icmp .lt 13, 3) := by decide +kernel
theorem dX0_needBand_9 : decode cX0_needBand 9 = .ok (.new 69, 3) := by decide +kernel
theorem dX0_needBand_12 : decode cX0_needBand 12 = .ok (.dup, 1) := by decide +kernel
theorem dX0_needBand_13 : decode cX0_needBand 13 = .ok (.ldc 167, 2) := by decide +kernel
theorem dX0_needBand_15 : decode cX0_needBand 15 = .ok (.invokespecial 73, 3) := by decide +kernel
theorem dX0_needBand_18 : decode cX0_needBand 18 = .ok (.athrow, 1) := by decide +kernel
theorem dX0_needBand_19 : decode cX0_needBand 19 = .ok (.return_, 1) := by decide +kernel
theorem dX0_needPixel_0 : decode cX0_needPixel 0 = .ok (.iload_n 0, 1) := by decide +kernel
theorem dX0_needPixel_1 : decode cX0_needPixel 1 = .ok (.ifCond .lt 9, 3) := by decide +kernel
theorem dX0_needPixel_4 : decode cX0_needPixel 4 = .ok (.iload_n 0, 1) := by decide +kernel
theorem dX0_needPixel_5 : decode cX0_needPixel 5 = .ok (.bipush 6, 2) := by decide +kernel
theorem dX0_needPixel_7 : decode cX0_needPixel 7 = .ok (.if_icmp .lt 13, 3) := by decide +kernel
theorem dX0_needPixel_10 : decode cX0_needPixel 10 = .ok (.new 69, 3) := by decide +kernel
theorem dX0_needPixel_13 : decode cX0_needPixel 13 = .ok (.dup, 1) := by decide +kernel
theorem dX0_needPixel_14 : decode cX0_needPixel 14 = .ok (.ldc 169, 2) := by decide +kernel
theorem dX0_needPixel_16 : decode cX0_needPixel 16 = .ok (.invokespecial 73, 3) := by decide +kernel
theorem dX0_needPixel_19 : decode cX0_needPixel 19 = .ok (.athrow, 1) := by decide +kernel
theorem dX0_needPixel_20 : decode cX0_needPixel 20 = .ok (.return_, 1) := by decide +kernel
theorem dX0_needInk_0 : decode cX0_needInk 0 = .ok (.iload_n 0, 1) := by decide +kernel
theorem dX0_needInk_1 : decode cX0_needInk 1 = .ok (.ifCond .lt 8, 3) := by decide +kernel
theorem dX0_needInk_4 : decode cX0_needInk 4 = .ok (.iload_n 0, 1) := by decide +kernel
theorem dX0_needInk_5 : decode cX0_needInk 5 = .ok (.iconst 3, 1) := by decide +kernel
theorem dX0_needInk_6 : decode cX0_needInk 6 = .ok (.if_icmp .lt 13, 3) := by decide +kernel
theorem dX0_needInk_9 : decode cX0_needInk 9 = .ok (.new 69, 3) := by decide +kernel
theorem dX0_needInk_12 : decode cX0_needInk 12 = .ok (.dup, 1) := by decide +kernel
theorem dX0_needInk_13 : decode cX0_needInk 13 = .ok (.ldc 171, 2) := by decide +kernel
theorem dX0_needInk_15 : decode cX0_needInk 15 = .ok (.invokespecial 73, 3) := by decide +kernel
theorem dX0_needInk_18 : decode cX0_needInk 18 = .ok (.athrow, 1) := by decide +kernel
theorem dX0_needInk_19 : decode cX0_needInk 19 = .ok (.return_, 1) := by decide +kernel
theorem dX0_needValue_0 : decode cX0_needValue 0 = .ok (.iload_n 0, 1) := by decide +kernel
theorem dX0_needValue_1 : decode cX0_needValue 1 = .ok (.ifCond .lt 10, 3) := by decide +kernel
theorem dX0_needValue_4 : decode cX0_needValue 4 = .ok (.iload_n 0, 1) := by decide +kernel
theorem dX0_needValue_5 : decode cX0_needValue 5 = .ok (.sipush 255, 3) := by decide +kernel
theorem dX0_needValue_8 : decode cX0_needValue 8 = .ok (.if_icmp .le 13, 3) := by decide +kernel
theorem dX0_needValue_11 : decode cX0_needValue 11 = .ok (.new 80, 3) := by decide +kernel
theorem dX0_needValue_14 : decode cX0_needValue 14 = .ok (.dup, 1) := by decide +kernel
theorem dX0_needValue_15 : decode cX0_needValue 15 = .ok (.ldc 173, 2) := by decide +kernel
theorem dX0_needValue_17 : decode cX0_needValue 17 = .ok (.invokespecial 84, 3) := by decide +kernel
end
section
theorem dX0_needValue_20 : decode cX0_needValue 20 = .ok (.athrow, 1) := by decide +kernel
theorem dX0_needValue_21 : decode cX0_needValue 21 = .ok (.return_, 1) := by decide +kernel
set_option maxRecDepth 20000 in
theorem ggX0_needFreeProfile_X0_held : GoodIn wsX0_needFreeProfile wsX0_held := goodIn_r _ [7, 8, 9, 10, 6, 11, 12, 13, 14, 15, 16, 17, 18, 19, 20, 21, 22, 23, 24, 25, 26, 27, 28, 29, 30, 31, 32, 33, 34, 35] (by decide +kernel) (by decide +kernel)
set_option maxRecDepth 20000 in
theorem gX0_needFreeProfile_X0_held : GoodIn wsX0_needFreeProfile (wsV RX0 175 RX0 yX0_held wsX0_held) := goodIn_app (goodIn_of _ (by decide +kernel)) ggX0_needFreeProfile_X0_held
set_option maxRecDepth 20000 in
theorem ggX0_needFreeProfile_X0_hasBit : GoodIn wsX0_needFreeProfile wsX0_hasBit := goodIn_r _ [11] (by decide +kernel) (by decide +kernel)
set_option maxRecDepth 20000 in
theorem gX0_needFreeProfile_X0_hasBit : GoodIn wsX0_needFreeProfile (va_wsS RX0 133 yX0_hasBit wsX0_hasBit) := goodIn_app (goodIn_of _ (by decide +kernel)) ggX0_needFreeProfile_X0_hasBit
theorem dX0_needFreeProfile_0 : decode cX0_needFreeProfile 0 = .ok (.aload_n 0, 1) := by decide +kernel
theorem dX0_needFreeProfile_1 : decode cX0_needFreeProfile 1 = .ok (.invokevirtual 175, 3) := by decide +kernel
theorem dX0_needFreeProfile_4 : decode cX0_needFreeProfile 4 = .ok (.iload_n 1, 1) := by decide +kernel
theorem dX0_needFreeProfile_5 : decode cX0_needFreeProfile 5 = .ok (.invokestatic 133, 3) := by decide +kernel
theorem dX0_needFreeProfile_8 : decode cX0_needFreeProfile 8 = .ok (.ifCond .eq 13, 3) := by decide +kernel
theorem dX0_needFreeProfile_11 : decode cX0_needFreeProfile 11 = .ok (.new 47, 3) := by decide +kernel
theorem dX0_needFreeProfile_14 : decode cX0_needFreeProfile 14 = .ok (.dup, 1) := by decide +kernel
theorem dX0_needFreeProfile_15 : decode cX0_needFreeProfile 15 = .ok (.ldc 179, 2) := by decide +kernel
theorem dX0_needFreeProfile_17 : decode cX0_needFreeProfile 17 = .ok (.invokespecial 51, 3) := by decide +kernel
theorem dX0_needFreeProfile_20 : decode cX0_needFreeProfile 20 = .ok (.athrow, 1) := by decide +kernel
theorem dX0_needFreeProfile_21 : decode cX0_needFreeProfile 21 = .ok (.return_, 1) := by decide +kernel
set_option maxRecDepth 20000 in
theorem ggX0_needFreeChain_X0_hasBit : GoodIn wsX0_needFreeChain wsX0_hasBit := goodIn_r _ [7] (by decide +kernel) (by decide +kernel)
set_option maxRecDepth 20000 in
theorem gX0_needFreeChain_X0_hasBit : GoodIn wsX0_needFreeChain (va_wsS RX0 133 yX0_hasBit wsX0_hasBit) := goodIn_app (goodIn_of _ (by decide +kernel)) ggX0_needFreeChain_X0_hasBit
theorem dX0_needFreeChain_0 : decode cX0_needFreeChain 0 = .ok (.aload_n 0, 1) := by decide +kernel
theorem dX0_needFreeChain_1 : decode cX0_needFreeChain 1 = .ok (.getfield 146, 3) := by decide +kernel
theorem dX0_needFreeChain_4 : decode cX0_needFreeChain 4 = .ok (.iload_n 1, 1) := by decide +kernel
theorem dX0_needFreeChain_5 : decode cX0_needFreeChain 5 = .ok (.invokestatic 133, 3) := by decide +kernel
theorem dX0_needFreeChain_8 : decode cX0_needFreeChain 8 = .ok (.ifCond .eq 13, 3) := by decide +kernel
theorem dX0_needFreeChain_11 : decode cX0_needFreeChain 11 = .ok (.new 47, 3) := by decide +kernel
theorem dX0_needFreeChain_14 : decode cX0_needFreeChain 14 = .ok (.dup, 1) := by decide +kernel
theorem dX0_needFreeChain_15 : decode cX0_needFreeChain 15 = .ok (.ldc 181, 2) := by decide +kernel
theorem dX0_needFreeChain_17 : decode cX0_needFreeChain 17 = .ok (.invokespecial 51, 3) := by decide +kernel
theorem dX0_needFreeChain_20 : decode cX0_needFreeChain 20 = .ok (.athrow, 1) := by decide +kernel
theorem dX0_needFreeChain_21 : decode cX0_needFreeChain 21 = .ok (.return_, 1) := by decide +kernel
theorem dX0_valueOfPlace_0 : decode cX0_valueOfPlace 0 = .ok (.iload_n 0, 1) := by decide +kernel
theorem dX0_valueOfPlace_1 : decode cX0_valueOfPlace 1 = .ok (.bipush 64, 2) := by decide +kernel
theorem dX0_valueOfPlace_3 : decode cX0_valueOfPlace 3 = .ok (.imul, 1) := by decide +kernel
theorem dX0_valueOfPlace_4 : decode cX0_valueOfPlace 4 = .ok (.sipush 255, 3) := by decide +kernel
theorem dX0_valueOfPlace_7 : decode cX0_valueOfPlace 7 = .ok (.invokestatic 119, 3) := by decide +kernel
theorem dX0_valueOfPlace_10 : decode cX0_valueOfPlace 10 = .ok (.ireturn, 1) := by decide +kernel
set_option maxRecDepth 20000 in
theorem ggX0_between_X0_read : GoodIn wsX0_between wsX0_read := goodIn_r _ [4] (by decide +kernel) (by decide +kernel)
set_option maxRecDepth 20000 in
theorem gX0_between_X0_read : GoodIn wsX0_between (va_wsS RX0 105 yX0_read wsX0_read) := goodIn_app (goodIn_of _ (by decide +kernel)) ggX0_between_X0_read
set_option maxRecDepth 20000 in
theorem ggX0_between_J9_floorDiv_7cf53 : GoodIn wsX0_between wsJ9_floorDiv_7cf53 := goodIn_r _ [8] (by decide +kernel) (by decide +kernel)
set_option maxRecDepth 20000 in
theorem gX0_between_J9_floorDiv_7cf53 : GoodIn wsX0_between (va_wsS RX0 183 yJ9_floorDiv_7cf53 wsJ9_floorDiv_7cf53) := goodIn_app (goodIn_of _ (by decide +kernel)) ggX0_between_J9_floorDiv_7cf53
theorem dX0_between_0 : decode cX0_between 0 = .ok (.iload_n 2, 1) := by decide +kernel
theorem dX0_between_1 : decode cX0_between 1 = .ok (.bipush 64, 2) := by decide +kernel
theorem dX0_between_3 : decode cX0_between 3 = .ok (.idiv, 1) := by decide +kernel
theorem dX0_between_4 : decode cX0_between 4 = .ok (.istore_n 3, 1) := by decide +kernel
theorem dX0_between_5 : decode cX0_between 5 = .ok (.aload_n 0, 1) := by decide +kernel
theorem dX0_between_6 : decode cX0_between 6 = .ok (.iload_n 1, 1) := by decide +kernel
theorem dX0_between_7 : decode cX0_between 7 = .ok (.iload_n 3, 1) := by decide +kernel
theorem dX0_between_8 : decode cX0_between 8 = .ok (.iadd, 1) := by decide +kernel
theorem dX0_between_9 : decode cX0_between 9 = .ok (.invokestatic 105, 3) := by decide +kernel
theorem dX0_between_12 : decode cX0_between 12 = .ok (.istore 4, 2) := by decide +kernel
theorem dX0_between_14 : decode cX0_between 14 = .ok (.aload_n 0, 1) := by decide +kernel
theorem dX0_between_15 : decode cX0_between 15 = .ok (.iload_n 1, 1) := by decide +kernel
theorem dX0_between_16 : decode cX0_between 16 = .ok (.iload_n 3, 1) := by decide +kernel
theorem dX0_between_17 : decode cX0_between 17 = .ok (.iadd, 1) := by decide +kernel
theorem dX0_between_18 : decode cX0_between 18 = .ok (.iconst 1, 1) := by decide +kernel
theorem dX0_between_19 : decode cX0_between 19 = .ok (.iadd, 1) := by decide +kernel
theorem dX0_between_20 : decode cX0_between 20 = .ok (.invokestatic 105, 3) := by decide +kernel
theorem dX0_between_23 : decode cX0_between 23 = .ok (.istore 5, 2) := by decide +kernel
theorem dX0_between_25 : decode cX0_between 25 = .ok (.iload_n 3, 1) := by decide +kernel
theorem dX0_between_26 : decode cX0_between 26 = .ok (.iconst 3, 1) := by decide +kernel
theorem dX0_between_27 : decode cX0_between 27 = .ok (.if_icmp .ne 8, 3) := by decide +kernel
theorem dX0_between_30 : decode cX0_between 30 = .ok (.bipush 63, 2) := by decide +kernel
theorem dX0_between_32 : decode cX0_between 32 = .ok (.goto 5, 3) := by decide +kernel
theorem dX0_between_35 : decode cX0_between 35 = .ok (.bipush 64, 2) := by decide +kernel
theorem dX0_between_37 : decode cX0_between 37 = .ok (.istore 6, 2) := by decide +kernel
theorem dX0_between_39 : decode cX0_between 39 = .ok (.iload 4, 2) := by decide +kernel
theorem dX0_between_41 : decode cX0_between 41 = .ok (.iload 5, 2) := by decide +kernel
theorem dX0_between_43 : decode cX0_between 43 = .ok (.iload 4, 2) := by decide +kernel
theorem dX0_between_45 : decode cX0_between 45 = .ok (.isub, 1) := by decide +kernel
theorem dX0_between_46 : decode cX0_between 46 = .ok (.iload_n 2, 1) := by decide +kernel
theorem dX0_between_47 : decode cX0_between 47 = .ok (.iload_n 3, 1) := by decide +kernel
theorem dX0_between_48 : decode cX0_between 48 = .ok (.bipush 64, 2) := by decide +kernel
theorem dX0_between_50 : decode cX0_between 50 = .ok (.imul, 1) := by decide +kernel
theorem dX0_between_51 : decode cX0_between 51 = .ok (.isub, 1) := by decide +kernel
theorem dX0_between_52 : decode cX0_between 52 = .ok (.imul, 1) := by decide +kernel
theorem dX0_between_53 : decode cX0_between 53 = .ok (.iload 6, 2) := by decide +kernel
theorem dX0_between_55 : decode cX0_between 55 = .ok (.invokestatic 183, 3) := by decide +kernel
theorem dX0_between_58 : decode cX0_between 58 = .ok (.iadd, 1) := by decide +kernel
theorem dX0_between_59 : decode cX0_between 59 = .ok (.ireturn, 1) := by decide +kernel
set_option maxRecDepth 20000 in
theorem ggX0_bent_X0_between : GoodIn wsX0_bent wsX0_between := goodIn_r _ [5, 6, 7, 4, 8, 9, 10, 11, 12] (by decide +kernel) (by decide +kernel)
set_option maxRecDepth 20000 in
theorem gX0_bent_X0_between : GoodIn wsX0_bent (va_wsS RX0 139 yX0_between wsX0_between) := goodIn_app (goodIn_of _ (by decide +kernel)) ggX0_bent_X0_between
theorem dX0_bent_0 : decode cX0_bent 0 = .ok (.aload_n 0, 1) := by decide +kernel
theorem dX0_bent_1 : decode cX0_bent 1 = .ok (.getfield 9, 3) := by decide +kernel
theorem dX0_bent_4 : decode cX0_bent 4 = .ok (.iload_n 1, 1) := by decide +kernel
theorem dX0_bent_5 : decode cX0_bent 5 = .ok (.iconst 3, 1) := by decide +kernel
theorem dX0_bent_6 : decode cX0_bent 6 = .ok (.imul, 1) := by decide +kernel
theorem dX0_bent_7 : decode cX0_bent 7 = .ok (.iload_n 2, 1) := by decide +kernel
theorem dX0_bent_8 : decode cX0_bent 8 = .ok (.iadd, 1) := by decide +kernel
theorem dX0_bent_9 : decode cX0_bent 9 = .ok (.iconst 5, 1) := by decide +kernel
theorem dX0_bent_10 : decode cX0_bent 10 = .ok (.imul, 1) := by decide +kernel
theorem dX0_bent_11 : decode cX0_bent 11 = .ok (.iload_n 3, 1) := by decide +kernel
theorem dX0_bent_12 : decode cX0_bent 12 = .ok (.invokestatic 139, 3) := by decide +kernel
theorem dX0_bent_15 : decode cX0_bent 15 = .ok (.ireturn, 1) := by decide +kernel
set_option maxRecDepth 20000 in
theorem ggX0_take_X0_read : GoodIn wsX0_take wsX0_read := goodIn_r _ [14] (by decide +kernel) (by decide +kernel)
set_option maxRecDepth 20000 in
theorem gX0_take_X0_read : GoodIn wsX0_take (va_wsS RX0 105 yX0_read wsX0_read) := goodIn_app (goodIn_of _ (by decide +kernel)) ggX0_take_X0_read
set_option maxRecDepth 20000 in
theorem ggX0_take_X0_bent : GoodIn wsX0_take wsX0_bent := goodIn_r _ [18, 19, 20, 21, 13, 22, 11, 12, 14, 23, 24, 25, 26, 30, 31, 32, 33, 34, 35, 36, 37, 38, 39, 40, 41, 42, 43, 44] (by decide +kernel) (by decide +kernel)
set_option maxRecDepth 20000 in
theorem gX0_take_X0_bent : GoodIn wsX0_take (wsV RX0 87 RX0 yX0_bent wsX0_bent) := goodIn_app (goodIn_of _ (by decide +kernel)) ggX0_take_X0_bent
set_option maxRecDepth 20000 in
theorem ggX0_take_X0_fold : GoodIn wsX0_take wsX0_fold := goodIn_r _ [29] (by decide +kernel) (by decide +kernel)
set_option maxRecDepth 20000 in
theorem gX0_take_X0_fold : GoodIn wsX0_take (va_wsS RX0 186 yX0_fold wsX0_fold) := goodIn_app (goodIn_of _ (by decide +kernel)) ggX0_take_X0_fold
theorem dX0_take_0 : decode cX0_take 0 = .ok (.aload_n 0, 1) := by decide +kernel
theorem dX0_take_1 : decode cX0_take 1 = .ok (.getfield 13, 3) := by decide +kernel
theorem dX0_take_4 : decode cX0_take 4 = .ok (.iload_n 1, 1) := by decide +kernel
theorem dX0_take_5 : decode cX0_take 5 = .ok (.iconst 3, 1) := by decide +kernel
theorem dX0_take_6 : decode cX0_take 6 = .ok (.imul, 1) := by decide +kernel
theorem dX0_take_7 : decode cX0_take 7 = .ok (.iload_n 2, 1) := by decide +kernel
theorem dX0_take_8 : decode cX0_take 8 = .ok (.iadd, 1) := by decide +kernel
theorem dX0_take_9 : decode cX0_take 9 = .ok (.invokestatic 105, 3) := by decide +kernel
theorem dX0_take_12 : decode cX0_take 12 = .ok (.istore 4, 2) := by decide +kernel
theorem dX0_take_14 : decode cX0_take 14 = .ok (.aload_n 0, 1) := by decide +kernel
theorem dX0_take_15 : decode cX0_take 15 = .ok (.getfield 16, 3) := by decide +kernel
theorem dX0_take_18 : decode cX0_take 18 = .ok (.iload_n 1, 1) := by decide +kernel
theorem dX0_take_19 : decode cX0_take 19 = .ok (.iconst 3, 1) := by decide +kernel
theorem dX0_take_20 : decode cX0_take 20 = .ok (.imul, 1) := by decide +kernel
theorem dX0_take_21 : decode cX0_take 21 = .ok (.iload_n 2, 1) := by decide +kernel
theorem dX0_take_22 : decode cX0_take 22 = .ok (.iadd, 1) := by decide +kernel
theorem dX0_take_23 : decode cX0_take 23 = .ok (.invokestatic 105, 3) := by decide +kernel
theorem dX0_take_26 : decode cX0_take 26 = .ok (.istore 5, 2) := by decide +kernel
theorem dX0_take_28 : decode cX0_take 28 = .ok (.aload_n 0, 1) := by decide +kernel
theorem dX0_take_29 : decode cX0_take 29 = .ok (.iload_n 1, 1) := by decide +kernel
theorem dX0_take_30 : decode cX0_take 30 = .ok (.iload_n 2, 1) := by decide +kernel
theorem dX0_take_31 : decode cX0_take 31 = .ok (.iload_n 3, 1) := by decide +kernel
theorem dX0_take_32 : decode cX0_take 32 = .ok (.invokevirtual 87, 3) := by decide +kernel
theorem dX0_take_35 : decode cX0_take 35 = .ok (.istore 6, 2) := by decide +kernel
theorem dX0_take_37 : decode cX0_take 37 = .ok (.aload_n 0, 1) := by decide +kernel
theorem dX0_take_38 : decode cX0_take 38 = .ok (.getfield 19, 3) := by decide +kernel
theorem dX0_take_41 : decode cX0_take 41 = .ok (.iload_n 1, 1) := by decide +kernel
theorem dX0_take_42 : decode cX0_take 42 = .ok (.invokestatic 105, 3) := by decide +kernel
theorem dX0_take_45 : decode cX0_take 45 = .ok (.istore 7, 2) := by decide +kernel
theorem dX0_take_47 : decode cX0_take 47 = .ok (.iload 7, 2) := by decide +kernel
theorem dX0_take_49 : decode cX0_take 49 = .ok (.iconst 1, 1) := by decide +kernel
theorem dX0_take_50 : decode cX0_take 50 = .ok (.if_icmp .ne 19, 3) := by decide +kernel
theorem dX0_take_53 : decode cX0_take 53 = .ok (.iload 4, 2) := by decide +kernel
theorem dX0_take_55 : decode cX0_take 55 = .ok (.iload 6, 2) := by decide +kernel
theorem dX0_take_57 : decode cX0_take 57 = .ok (.iload 5, 2) := by decide +kernel
theorem dX0_take_59 : decode cX0_take 59 = .ok (.iload 4, 2) := by decide +kernel
theorem dX0_take_61 : decode cX0_take 61 = .ok (.isub, 1) := by decide +kernel
theorem dX0_take_62 : decode cX0_take 62 = .ok (.imul, 1) := by decide +kernel
theorem dX0_take_63 : decode cX0_take 63 = .ok (.sipush 255, 3) := by decide +kernel
theorem dX0_take_66 : decode cX0_take 66 = .ok (.idiv, 1) := by decide +kernel
theorem dX0_take_67 : decode cX0_take 67 = .ok (.iadd, 1) := by decide +kernel
theorem dX0_take_68 : decode cX0_take 68 = .ok (.ireturn, 1) := by decide +kernel
theorem dX0_take_69 : decode cX0_take 69 = .ok (.iload 7, 2) := by decide +kernel
theorem dX0_take_71 : decode cX0_take 71 = .ok (.iconst 2, 1) := by decide +kernel
theorem dX0_take_72 : decode cX0_take 72 = .ok (.if_icmp .ne 14, 3) := by decide +kernel
theorem dX0_take_75 : decode cX0_take 75 = .ok (.iload 6, 2) := by decide +kernel
theorem dX0_take_77 : decode cX0_take 77 = .ok (.iload 4, 2) := by decide +kernel
theorem dX0_take_79 : decode cX0_take 79 = .ok (.iload 5, 2) := by decide +kernel
theorem dX0_take_81 : decode cX0_take 81 = .ok (.invokestatic 186, 3) := by decide +kernel
theorem dX0_take_84 : decode cX0_take 84 = .ok (.istore 6, 2) := by decide +kernel
theorem dX0_take_86 : decode cX0_take 86 = .ok (.iload 4, 2) := by decide +kernel
theorem dX0_take_88 : decode cX0_take 88 = .ok (.iload 5, 2) := by decide +kernel
theorem dX0_take_90 : decode cX0_take 90 = .ok (.iload 6, 2) := by decide +kernel
theorem dX0_take_92 : decode cX0_take 92 = .ok (.invokestatic 119, 3) := by decide +kernel
theorem dX0_take_95 : decode cX0_take 95 = .ok (.invokestatic 125, 3) := by decide +kernel
theorem dX0_take_98 : decode cX0_take 98 = .ok (.ireturn, 1) := by decide +kernel
theorem dX0_fold_0 : decode cX0_fold 0 = .ok (.iload_n 0, 1) := by decide +kernel
theorem dX0_fold_1 : decode cX0_fold 1 = .ok (.iload_n 2, 1) := by decide +kernel
theorem dX0_fold_2 : decode cX0_fold 2 = .ok (.if_icmp .le 9, 3) := by decide +kernel
theorem dX0_fold_5 : decode cX0_fold 5 = .ok (.iload_n 2, 1) := by decide +kernel
theorem dX0_fold_6 : decode cX0_fold 6 = .ok (.iload_n 0, 1) := by decide +kernel
theorem dX0_fold_7 : decode cX0_fold 7 = .ok (.iload_n 2, 1) := by decide +kernel
theorem dX0_fold_8 : decode cX0_fold 8 = .ok (.isub, 1) := by decide +kernel
theorem dX0_fold_9 : decode cX0_fold 9 = .ok (.isub, 1) := by decide +kernel
theorem dX0_fold_10 : decode cX0_fold 10 = .ok (.ireturn, 1) := by decide +kernel
theorem dX0_fold_11 : decode cX0_fold 11 = .ok (.iload_n 0, 1) := by decide +kernel
theorem dX0_fold_12 : decode cX0_fold 12 = .ok (.iload_n 1, 1) := by decide +kernel
theorem dX0_fold_13 : decode cX0_fold 13 = .ok (.if_icmp .ge 9, 3) := by decide +kernel
theorem dX0_fold_16 : decode cX0_fold 16 = .ok (.iload_n 1, 1) := by decide +kernel
theorem dX0_fold_17 : decode cX0_fold 17 = .ok (.iload_n 1, 1) := by decide +kernel
theorem dX0_fold_18 : decode cX0_fold 18 = .ok (.iload_n 0, 1) := by decide +kernel
theorem dX0_fold_19 : decode cX0_fold 19 = .ok (.isub, 1) := by decide +kernel
theorem dX0_fold_20 : decode cX0_fold 20 = .ok (.iadd, 1) := by decide +kernel
theorem dX0_fold_21 : decode cX0_fold 21 = .ok (.ireturn, 1) := by decide +kernel
theorem dX0_fold_22 : decode cX0_fold 22 = .ok (.iload_n 0, 1) := by decide +kernel
theorem dX0_fold_23 : decode cX0_fold 23 = .ok (.ireturn, 1) := by decide +kernel
set_option maxRecDepth 20000 in
theorem ggX0_pass_X0_read : GoodIn wsX0_pass wsX0_read := goodIn_r _ [6] (by decide +kernel) (by decide +kernel)
set_option maxRecDepth 20000 in
theorem gX0_pass_X0_read : GoodIn wsX0_pass (va_wsS RX0 105 yX0_read wsX0_read) := goodIn_app (goodIn_of _ (by decide +kernel)) ggX0_pass_X0_read
set_option maxRecDepth 20000 in
theorem ggX0_pass_X0_take : GoodIn wsX0_pass wsX0_take := goodIn_r _ [10, 11, 12, 13, 14, 15, 16, 17, 18, 19, 20, 3, 4, 5, 6, 21, 22, 23, 24, 25, 26, 27, 28, 29, 30, 31, 32, 33, 34, 35, 36, 37, 38, 39, 40, 41, 42, 43, 44, 45, 46, 47, 48, 49, 50] (by decide +kernel) (by decide +kernel)
set_option maxRecDepth 20000 in
theorem gX0_pass_X0_take : GoodIn wsX0_pass (wsV RX0 91 RX0 yX0_take wsX0_take) := goodIn_app (goodIn_of _ (by decide +kernel)) ggX0_pass_X0_take
theorem dX0_pass_0 : decode cX0_pass 0 = .ok (.aload_n 0, 1) := by decide +kernel
theorem dX0_pass_1 : decode cX0_pass 1 = .ok (.getfield 25, 3) := by decide +kernel
theorem dX0_pass_4 : decode cX0_pass 4 = .ok (.iload_n 1, 1) := by decide +kernel
theorem dX0_pass_5 : decode cX0_pass 5 = .ok (.invokestatic 105, 3) := by decide +kernel
theorem dX0_pass_8 : decode cX0_pass 8 = .ok (.istore 4, 2) := by decide +kernel
theorem dX0_pass_10 : decode cX0_pass 10 = .ok (.iload_n 3, 1) := by decide +kernel
theorem dX0_pass_11 : decode cX0_pass 11 = .ok (.istore 5, 2) := by decide +kernel
theorem dX0_pass_13 : decode cX0_pass 13 = .ok (.iconst 0, 1) := by decide +kernel
theorem dX0_pass_14 : decode cX0_pass 14 = .ok (.istore 6, 2) := by decide +kernel
theorem dX0_pass_16 : decode cX0_pass 16 = .ok (.iload 6, 2) := by decide +kernel
theorem dX0_pass_18 : decode cX0_pass 18 = .ok (.iload 4, 2) := by decide +kernel
theorem dX0_pass_20 : decode cX0_pass 20 = .ok (.if_icmp .ge 32, 3) := by decide +kernel
theorem dX0_pass_23 : decode cX0_pass 23 = .ok (.aload_n 0, 1) := by decide +kernel
theorem dX0_pass_24 : decode cX0_pass 24 = .ok (.aload_n 0, 1) := by decide +kernel
theorem dX0_pass_25 : decode cX0_pass 25 = .ok (.getfield 22, 3) := by decide +kernel
theorem dX0_pass_28 : decode cX0_pass 28 = .ok (.iload_n 1, 1) := by decide +kernel
theorem dX0_pass_29 : decode cX0_pass 29 = .ok (.bipush 6, 2) := by decide +kernel
theorem dX0_pass_31 : decode cX0_pass 31 = .ok (.imul, 1) := by decide +kernel
theorem dX0_pass_32 : decode cX0_pass 32 = .ok (.iload 6, 2) := by decide +kernel
theorem dX0_pass_34 : decode cX0_pass 34 = .ok (.iadd, 1) := by decide +kernel
theorem dX0_pass_35 : decode cX0_pass 35 = .ok (.invokestatic 105, 3) := by decide +kernel
theorem dX0_pass_38 : decode cX0_pass 38 = .ok (.iload_n 2, 1) := by decide +kernel
theorem dX0_pass_39 : decode cX0_pass 39 = .ok (.iload 5, 2) := by decide +kernel
theorem dX0_pass_41 : decode cX0_pass 41 = .ok (.invokevirtual 91, 3) := by decide +kernel
theorem dX0_pass_44 : decode cX0_pass 44 = .ok (.istore 5, 2) := by decide +kernel
theorem dX0_pass_46 : decode cX0_pass 46 = .ok (.iinc 6 1, 3) := by decide +kernel
theorem dX0_pass_49 : decode cX0_pass 49 = .ok (.goto (-33), 3) := by decide +kernel
theorem dX0_pass_52 : decode cX0_pass 52 = .ok (.iload 5, 2) := by decide +kernel
theorem dX0_pass_54 : decode cX0_pass 54 = .ok (.ireturn, 1) := by decide +kernel
set_option maxRecDepth 20000 in
theorem ggX0_tryJoining_X0_valueOfPlace : GoodIn wsX0_tryJoining wsX0_valueOfPlace := goodIn_r _ [12, 13, 14, 4, 15] (by decide +kernel) (by decide +kernel)
set_option maxRecDepth 20000 in
theorem gX0_tryJoining_X0_valueOfPlace : GoodIn wsX0_tryJoining (va_wsS RX0 54 yX0_valueOfPlace wsX0_valueOfPlace) := goodIn_app (goodIn_of _ (by decide +kernel)) ggX0_tryJoining_X0_valueOfPlace
set_option maxRecDepth 20000 in
theorem ggX0_tryJoining_X0_pass : GoodIn wsX0_tryJoining wsX0_pass := goodIn_r _ [19, 20, 21, 22, 23, 11, 24, 25, 26, 27, 28, 29, 30, 31, 13, 14, 4, 15, 6, 7, 8, 32, 33, 34, 35, 36, 37, 38, 39, 40, 41, 42, 43, 44, 45, 46, 50, 51, 52, 53, 54, 55, 56, 57, 58, 59, 60, 61, 62, 63, 64] (by decide +kernel) (by decide +kernel)
set_option maxRecDepth 20000 in
theorem gX0_tryJoining_X0_pass : GoodIn wsX0_tryJoining (wsV RX0 113 RX0 yX0_pass wsX0_pass) := goodIn_app (goodIn_of _ (by decide +kernel)) ggX0_tryJoining_X0_pass
set_option maxRecDepth 20000 in
theorem ggX0_tryJoining_X0_swap : GoodIn wsX0_tryJoining wsX0_swap := goodIn_r _ [49] (by decide +kernel) (by decide +kernel)
set_option maxRecDepth 20000 in
theorem gX0_tryJoining_X0_swap : GoodIn wsX0_tryJoining (va_wsS RX0 58 yX0_swap wsX0_swap) := goodIn_app (goodIn_of _ (by decide +kernel)) ggX0_tryJoining_X0_swap
set_option maxRecDepth 20000 in
theorem ggX0_tryJoining_X0_between : GoodIn wsX0_tryJoining wsX0_between := goodIn_r _ [39, 22, 23, 11, 24, 40, 41, 42, 43] (by decide +kernel) (by decide +kernel)
set_option maxRecDepth 20000 in
theorem gX0_tryJoining_X0_between : GoodIn wsX0_tryJoining (va_wsS RX0 139 yX0_between wsX0_between) := goodIn_app (goodIn_of _ (by decide +kernel)) ggX0_tryJoining_X0_between
theorem dX0_tryJoining_0 : decode cX0_tryJoining 0 = .ok (.iconst 0, 1) := by decide +kernel
theorem dX0_tryJoining_1 : decode cX0_tryJoining 1 = .ok (.istore_n 2, 1) := by decide +kernel
theorem dX0_tryJoining_2 : decode cX0_tryJoining 2 = .ok (.iconst 0, 1) := by decide +kernel
theorem dX0_tryJoining_3 : decode cX0_tryJoining 3 = .ok (.istore_n 3, 1) := by decide +kernel
theorem dX0_tryJoining_4 : decode cX0_tryJoining 4 = .ok (.iload_n 3, 1) := by decide +kernel
theorem dX0_tryJoining_5 : decode cX0_tryJoining 5 = .ok (.iconst 3, 1) := by decide +kernel
theorem dX0_tryJoining_6 : decode cX0_tryJoining 6 = .ok (.if_icmp .ge 99, 3) := by decide +kernel
theorem dX0_tryJoining_9 : decode cX0_tryJoining 9 = .ok (.iconst 0, 1) := by decide +kernel
theorem dX0_tryJoining_10 : decode cX0_tryJoining 10 = .ok (.istore 4, 2) := by decide +kernel
theorem dX0_tryJoining_12 : decode cX0_tryJoining 12 = .ok (.iload 4, 2) := by decide +kernel
theorem dX0_tryJoining_14 : decode cX0_tryJoining 14 = .ok (.iconst 5, 1) := by decide +kernel
theorem dX0_tryJoining_15 : decode cX0_tryJoining 15 = .ok (.if_icmp .ge 34, 3) := by decide +kernel
theorem dX0_tryJoining_18 : decode cX0_tryJoining 18 = .ok (.aload_n 0, 1) := by decide +kernel
theorem dX0_tryJoining_19 : decode cX0_tryJoining 19 = .ok (.getfield 31, 3) := by decide +kernel
theorem dX0_tryJoining_22 : decode cX0_tryJoining 22 = .ok (.iload_n 3, 1) := by decide +kernel
theorem dX0_tryJoining_23 : decode cX0_tryJoining 23 = .ok (.iconst 5, 1) := by decide +kernel
theorem dX0_tryJoining_24 : decode cX0_tryJoining 24 = .ok (.imul, 1) := by decide +kernel
theorem dX0_tryJoining_25 : decode cX0_tryJoining 25 = .ok (.iload 4, 2) := by decide +kernel
theorem dX0_tryJoining_27 : decode cX0_tryJoining 27 = .ok (.iadd, 1) := by decide +kernel
theorem dX0_tryJoining_28 : decode cX0_tryJoining 28 = .ok (.aload_n 0, 1) := by decide +kernel
theorem dX0_tryJoining_29 : decode cX0_tryJoining 29 = .ok (.iload_n 1, 1) := by decide +kernel
theorem dX0_tryJoining_30 : decode cX0_tryJoining 30 = .ok (.iload_n 3, 1) := by decide +kernel
theorem dX0_tryJoining_31 : decode cX0_tryJoining 31 = .ok (.iload 4, 2) := by decide +kernel
theorem dX0_tryJoining_33 : decode cX0_tryJoining 33 = .ok (.invokestatic 54, 3) := by decide +kernel
theorem dX0_tryJoining_36 : decode cX0_tryJoining 36 = .ok (.invokevirtual 113, 3) := by decide +kernel
theorem dX0_tryJoining_39 : decode cX0_tryJoining 39 = .ok (.invokestatic 58, 3) := by decide +kernel
theorem dX0_tryJoining_42 : decode cX0_tryJoining 42 = .ok (.pop, 1) := by decide +kernel
theorem dX0_tryJoining_43 : decode cX0_tryJoining 43 = .ok (.iinc 4 1, 3) := by decide +kernel
theorem dX0_tryJoining_46 : decode cX0_tryJoining 46 = .ok (.goto (-34), 3) := by decide +kernel
theorem dX0_tryJoining_49 : decode cX0_tryJoining 49 = .ok (.iconst 0, 1) := by decide +kernel
theorem dX0_tryJoining_50 : decode cX0_tryJoining 50 = .ok (.istore 4, 2) := by decide +kernel
theorem dX0_tryJoining_52 : decode cX0_tryJoining 52 = .ok (.iload 4, 2) := by decide +kernel
theorem dX0_tryJoining_54 : decode cX0_tryJoining 54 = .ok (.sipush 255, 3) := by decide +kernel
theorem dX0_tryJoining_57 : decode cX0_tryJoining 57 = .ok (.if_icmp .gt 42, 3) := by decide +kernel
theorem dX0_tryJoining_60 : decode cX0_tryJoining 60 = .ok (.aload_n 0, 1) := by decide +kernel
theorem dX0_tryJoining_61 : decode cX0_tryJoining 61 = .ok (.iload_n 1, 1) := by decide +kernel
theorem dX0_tryJoining_62 : decode cX0_tryJoining 62 = .ok (.iload_n 3, 1) := by decide +kernel
theorem dX0_tryJoining_63 : decode cX0_tryJoining 63 = .ok (.iload 4, 2) := by decide +kernel
theorem dX0_tryJoining_65 : decode cX0_tryJoining 65 = .ok (.invokevirtual 113, 3) := by decide +kernel
theorem dX0_tryJoining_68 : decode cX0_tryJoining 68 = .ok (.aload_n 0, 1) := by decide +kernel
theorem dX0_tryJoining_69 : decode cX0_tryJoining 69 = .ok (.getfield 31, 3) := by decide +kernel
theorem dX0_tryJoining_72 : decode cX0_tryJoining 72 = .ok (.iload_n 3, 1) := by decide +kernel
theorem dX0_tryJoining_73 : decode cX0_tryJoining 73 = .ok (.iconst 5, 1) := by decide +kernel
theorem dX0_tryJoining_74 : decode cX0_tryJoining 74 = .ok (.imul, 1) := by decide +kernel
theorem dX0_tryJoining_75 : decode cX0_tryJoining 75 = .ok (.iload 4, 2) := by decide +kernel
theorem dX0_tryJoining_77 : decode cX0_tryJoining 77 = .ok (.invokestatic 139, 3) := by decide +kernel
theorem dX0_tryJoining_80 : decode cX0_tryJoining 80 = .ok (.isub, 1) := by decide +kernel
theorem dX0_tryJoining_81 : decode cX0_tryJoining 81 = .ok (.istore 5, 2) := by decide +kernel
theorem dX0_tryJoining_83 : decode cX0_tryJoining 83 = .ok (.iload_n 2, 1) := by decide +kernel
theorem dX0_tryJoining_84 : decode cX0_tryJoining 84 = .ok (.iload 5, 2) := by decide +kernel
theorem dX0_tryJoining_86 : decode cX0_tryJoining 86 = .ok (.invokestatic 189, 3) := by decide +kernel
theorem dX0_tryJoining_89 : decode cX0_tryJoining 89 = .ok (.invokestatic 125, 3) := by decide +kernel
theorem dX0_tryJoining_92 : decode cX0_tryJoining 92 = .ok (.istore_n 2, 1) := by decide +kernel
theorem dX0_tryJoining_93 : decode cX0_tryJoining 93 = .ok (.iinc 4 1, 3) := by decide +kernel
theorem dX0_tryJoining_96 : decode cX0_tryJoining 96 = .ok (.goto (-44), 3) := by decide +kernel
theorem dX0_tryJoining_99 : decode cX0_tryJoining 99 = .ok (.iinc 3 1, 3) := by decide +kernel
theorem dX0_tryJoining_102 : decode cX0_tryJoining 102 = .ok (.goto (-98), 3) := by decide +kernel
theorem dX0_tryJoining_105 : decode cX0_tryJoining 105 = .ok (.iload_n 2, 1) := by decide +kernel
theorem dX0_tryJoining_106 : decode cX0_tryJoining 106 = .ok (.ireturn, 1) := by decide +kernel
set_option maxRecDepth 20000 in
theorem ggX0_differsFromKept_X0_read : GoodIn wsX0_differsFromKept wsX0_read := goodIn_r _ [5] (by decide +kernel) (by decide +kernel)
set_option maxRecDepth 20000 in
theorem gX0_differsFromKept_X0_read : GoodIn wsX0_differsFromKept (va_wsS RX0 105 yX0_read wsX0_read) := goodIn_app (goodIn_of _ (by decide +kernel)) ggX0_differsFromKept_X0_read
set_option maxRecDepth 20000 in
theorem ggX0_differsFromKept_X0_valueOfPlace : GoodIn wsX0_differsFromKept wsX0_valueOfPlace := goodIn_r _ [8, 9, 10, 11, 12] (by decide +kernel) (by decide +kernel)
set_option maxRecDepth 20000 in
theorem gX0_differsFromKept_X0_valueOfPlace : GoodIn wsX0_differsFromKept (va_wsS RX0 54 yX0_valueOfPlace wsX0_valueOfPlace) := goodIn_app (goodIn_of _ (by decide +kernel)) ggX0_differsFromKept_X0_valueOfPlace
set_option maxRecDepth 20000 in
theorem ggX0_differsFromKept_X0_pass : GoodIn wsX0_differsFromKept wsX0_pass := goodIn_r _ [16, 17, 18, 2, 3, 4, 5, 19, 20, 21, 22, 23, 24, 25, 9, 10, 11, 12, 26, 27, 28, 29, 30, 31, 32, 33, 34, 35, 36, 37, 38, 39, 40, 41, 42, 43, 44, 45, 46, 47, 48, 49, 50, 51, 52, 53, 54, 55, 56, 57, 58] (by decide +kernel) (by decide +kernel)
set_option maxRecDepth 20000 in
theorem gX0_differsFromKept_X0_pass : GoodIn wsX0_differsFromKept (wsV RX0 113 RX0 yX0_pass wsX0_pass) := goodIn_app (goodIn_of _ (by decide +kernel)) ggX0_differsFromKept_X0_pass
theorem dX0_differsFromKept_0 : decode cX0_differsFromKept 0 = .ok (.iconst 0, 1) := by decide +kernel
theorem dX0_differsFromKept_1 : decode cX0_differsFromKept 1 = .ok (.istore_n 2, 1) := by decide +kernel
theorem dX0_differsFromKept_2 : decode cX0_differsFromKept 2 = .ok (.iload_n 2, 1) := by decide +kernel
theorem dX0_differsFromKept_3 : decode cX0_differsFromKept 3 = .ok (.iconst 3, 1) := by decide +kernel
theorem dX0_differsFromKept_4 : decode cX0_differsFromKept 4 = .ok (.if_icmp .ge 57, 3) := by decide +kernel
theorem dX0_differsFromKept_7 : decode cX0_differsFromKept 7 = .ok (.iconst 0, 1) := by decide +kernel
theorem dX0_differsFromKept_8 : decode cX0_differsFromKept 8 = .ok (.istore_n 3, 1) := by decide +kernel
theorem dX0_differsFromKept_9 : decode cX0_differsFromKept 9 = .ok (.iload_n 3, 1) := by decide +kernel
theorem dX0_differsFromKept_10 : decode cX0_differsFromKept 10 = .ok (.iconst 5, 1) := by decide +kernel
theorem dX0_differsFromKept_11 : decode cX0_differsFromKept 11 = .ok (.if_icmp .ge 44, 3) := by decide +kernel
theorem dX0_differsFromKept_14 : decode cX0_differsFromKept 14 = .ok (.aload_n 0, 1) := by decide +kernel
theorem dX0_differsFromKept_15 : decode cX0_differsFromKept 15 = .ok (.getfield 28, 3) := by decide +kernel
theorem dX0_differsFromKept_18 : decode cX0_differsFromKept 18 = .ok (.iload_n 1, 1) := by decide +kernel
theorem dX0_differsFromKept_19 : decode cX0_differsFromKept 19 = .ok (.iconst 3, 1) := by decide +kernel
theorem dX0_differsFromKept_20 : decode cX0_differsFromKept 20 = .ok (.imul, 1) := by decide +kernel
theorem dX0_differsFromKept_21 : decode cX0_differsFromKept 21 = .ok (.iload_n 2, 1) := by decide +kernel
theorem dX0_differsFromKept_22 : decode cX0_differsFromKept 22 = .ok (.iadd, 1) := by decide +kernel
theorem dX0_differsFromKept_23 : decode cX0_differsFromKept 23 = .ok (.iconst 5, 1) := by decide +kernel
theorem dX0_differsFromKept_24 : decode cX0_differsFromKept 24 = .ok (.imul, 1) := by decide +kernel
theorem dX0_differsFromKept_25 : decode cX0_differsFromKept 25 = .ok (.iload_n 3, 1) := by decide +kernel
theorem dX0_differsFromKept_26 : decode cX0_differsFromKept 26 = .ok (.iadd, 1) := by decide +kernel
theorem dX0_differsFromKept_27 : decode cX0_differsFromKept 27 = .ok (.invokestatic 105, 3) := by decide +kernel
theorem dX0_differsFromKept_30 : decode cX0_differsFromKept 30 = .ok (.istore 4, 2) := by decide +kernel
theorem dX0_differsFromKept_32 : decode cX0_differsFromKept 32 = .ok (.aload_n 0, 1) := by decide +kernel
theorem dX0_differsFromKept_33 : decode cX0_differsFromKept 33 = .ok (.iload_n 1, 1) := by decide +kernel
theorem dX0_differsFromKept_34 : decode cX0_differsFromKept 34 = .ok (.iload_n 2, 1) := by decide +kernel
theorem dX0_differsFromKept_35 : decode cX0_differsFromKept 35 = .ok (.iload_n 3, 1) := by decide +kernel
theorem dX0_differsFromKept_36 : decode cX0_differsFromKept 36 = .ok (.invokestatic 54, 3) := by decide +kernel
theorem dX0_differsFromKept_39 : decode cX0_differsFromKept 39 = .ok (.invokevirtual 113, 3) := by decide +kernel
theorem dX0_differsFromKept_42 : decode cX0_differsFromKept 42 = .ok (.iload 4, 2) := by decide +kernel
theorem dX0_differsFromKept_44 : decode cX0_differsFromKept 44 = .ok (.if_icmp .eq 5, 3) := by decide +kernel
theorem dX0_differsFromKept_47 : decode cX0_differsFromKept 47 = .ok (.iconst 1, 1) := by decide +kernel
theorem dX0_differsFromKept_48 : decode cX0_differsFromKept 48 = .ok (.ireturn, 1) := by decide +kernel
theorem dX0_differsFromKept_49 : decode cX0_differsFromKept 49 = .ok (.iinc 3 1, 3) := by decide +kernel
theorem dX0_differsFromKept_52 : decode cX0_differsFromKept 52 = .ok (.goto (-43), 3) := by decide +kernel
theorem dX0_differsFromKept_55 : decode cX0_differsFromKept 55 = .ok (.iinc 2 1, 3) := by decide +kernel
theorem dX0_differsFromKept_58 : decode cX0_differsFromKept 58 = .ok (.goto (-56), 3) := by decide +kernel
theorem dX0_differsFromKept_61 : decode cX0_differsFromKept 61 = .ok (.iconst 0, 1) := by decide +kernel
theorem dX0_differsFromKept_62 : decode cX0_differsFromKept 62 = .ok (.ireturn, 1) := by decide +kernel
set_option maxRecDepth 20000 in
theorem ggX0_profilesOf_X0_read : GoodIn wsX0_profilesOf wsX0_read := goodIn_r _ [6] (by decide +kernel) (by decide +kernel)
set_option maxRecDepth 20000 in
theorem gX0_profilesOf_X0_read : GoodIn wsX0_profilesOf (va_wsS RX0 105 yX0_read wsX0_read) := goodIn_app (goodIn_of _ (by decide +kernel)) ggX0_profilesOf_X0_read
theorem dX0_profilesOf_0 : decode cX0_profilesOf 0 = .ok (.aload_n 0, 1) := by decide +kernel
theorem dX0_profilesOf_1 : decode cX0_profilesOf 1 = .ok (.getfield 25, 3) := by decide +kernel
theorem dX0_profilesOf_4 : decode cX0_profilesOf 4 = .ok (.iload_n 1, 1) := by decide +kernel
theorem dX0_profilesOf_5 : decode cX0_profilesOf 5 = .ok (.invokestatic 105, 3) := by decide +kernel
theorem dX0_profilesOf_8 : decode cX0_profilesOf 8 = .ok (.istore_n 2, 1) := by decide +kernel
theorem dX0_profilesOf_9 : decode cX0_profilesOf 9 = .ok (.iconst 0, 1) := by decide +kernel
theorem dX0_profilesOf_10 : decode cX0_profilesOf 10 = .ok (.istore_n 3, 1) := by decide +kernel
theorem dX0_profilesOf_11 : decode cX0_profilesOf 11 = .ok (.iconst 0, 1) := by decide +kernel
theorem dX0_profilesOf_12 : decode cX0_profilesOf 12 = .ok (.istore 4, 2) := by decide +kernel
theorem dX0_profilesOf_14 : decode cX0_profilesOf 14 = .ok (.iload 4, 2) := by decide +kernel
theorem dX0_profilesOf_16 : decode cX0_profilesOf 16 = .ok (.iload_n 2, 1) := by decide +kernel
theorem dX0_profilesOf_17 : decode cX0_profilesOf 17 = .ok (.if_icmp .ge 28, 3) := by decide +kernel
theorem dX0_profilesOf_20 : decode cX0_profilesOf 20 = .ok (.iload_n 3, 1) := by decide +kernel
theorem dX0_profilesOf_21 : decode cX0_profilesOf 21 = .ok (.iconst 1, 1) := by decide +kernel
theorem dX0_profilesOf_22 : decode cX0_profilesOf 22 = .ok (.aload_n 0, 1) := by decide +kernel
theorem dX0_profilesOf_23 : decode cX0_profilesOf 23 = .ok (.getfield 22, 3) := by decide +kernel
theorem dX0_profilesOf_26 : decode cX0_profilesOf 26 = .ok (.iload_n 1, 1) := by decide +kernel
theorem dX0_profilesOf_27 : decode cX0_profilesOf 27 = .ok (.bipush 6, 2) := by decide +kernel
theorem dX0_profilesOf_29 : decode cX0_profilesOf 29 = .ok (.imul, 1) := by decide +kernel
theorem dX0_profilesOf_30 : decode cX0_profilesOf 30 = .ok (.iload 4, 2) := by decide +kernel
theorem dX0_profilesOf_32 : decode cX0_profilesOf 32 = .ok (.iadd, 1) := by decide +kernel
theorem dX0_profilesOf_33 : decode cX0_profilesOf 33 = .ok (.invokestatic 105, 3) := by decide +kernel
theorem dX0_profilesOf_36 : decode cX0_profilesOf 36 = .ok (.ishl, 1) := by decide +kernel
theorem dX0_profilesOf_37 : decode cX0_profilesOf 37 = .ok (.ior, 1) := by decide +kernel
theorem dX0_profilesOf_38 : decode cX0_profilesOf 38 = .ok (.istore_n 3, 1) := by decide +kernel
theorem dX0_profilesOf_39 : decode cX0_profilesOf 39 = .ok (.iinc 4 1, 3) := by decide +kernel
theorem dX0_profilesOf_42 : decode cX0_profilesOf 42 = .ok (.goto (-28), 3) := by decide +kernel
theorem dX0_profilesOf_45 : decode cX0_profilesOf 45 = .ok (.iload_n 3, 1) := by decide +kernel
theorem dX0_profilesOf_46 : decode cX0_profilesOf 46 = .ok (.ireturn, 1) := by decide +kernel
set_option maxRecDepth 20000 in
theorem ggX0_inked_X0_read : GoodIn wsX0_inked wsX0_read := goodIn_r _ [11] (by decide +kernel) (by decide +kernel)
set_option maxRecDepth 20000 in
theorem gX0_inked_X0_read : GoodIn wsX0_inked (va_wsS RX0 105 yX0_read wsX0_read) := goodIn_app (goodIn_of _ (by decide +kernel)) ggX0_inked_X0_read
set_option maxRecDepth 20000 in
theorem ggX0_inked_X0_hasBit : GoodIn wsX0_inked wsX0_hasBit := goodIn_r _ [14] (by decide +kernel) (by decide +kernel)
set_option maxRecDepth 20000 in
theorem gX0_inked_X0_hasBit : GoodIn wsX0_inked (va_wsS RX0 133 yX0_hasBit wsX0_hasBit) := goodIn_app (goodIn_of _ (by decide +kernel)) ggX0_inked_X0_hasBit
theorem dX0_inked_0 : decode cX0_inked 0 = .ok (.aload_n 0, 1) := by decide +kernel
theorem dX0_inked_1 : decode cX0_inked 1 = .ok (.getfield 34, 3) := by decide +kernel
theorem dX0_inked_4 : decode cX0_inked 4 = .ok (.iload_n 1, 1) := by decide +kernel
theorem dX0_inked_5 : decode cX0_inked 5 = .ok (.iconst 3, 1) := by decide +kernel
theorem dX0_inked_6 : decode cX0_inked 6 = .ok (.imul, 1) := by decide +kernel
theorem dX0_inked_7 : decode cX0_inked 7 = .ok (.iload_n 2, 1) := by decide +kernel
theorem dX0_inked_8 : decode cX0_inked 8 = .ok (.iadd, 1) := by decide +kernel
theorem dX0_inked_9 : decode cX0_inked 9 = .ok (.invokestatic 105, 3) := by decide +kernel
theorem dX0_inked_12 : decode cX0_inked 12 = .ok (.istore 4, 2) := by decide +kernel
theorem dX0_inked_14 : decode cX0_inked 14 = .ok (.iconst 0, 1) := by decide +kernel
theorem dX0_inked_15 : decode cX0_inked 15 = .ok (.istore 5, 2) := by decide +kernel
theorem dX0_inked_17 : decode cX0_inked 17 = .ok (.iload 5, 2) := by decide +kernel
theorem dX0_inked_19 : decode cX0_inked 19 = .ok (.iconst 3, 1) := by decide +kernel
theorem dX0_inked_20 : decode cX0_inked 20 = .ok (.if_icmp .ge 64, 3) := by decide +kernel
theorem dX0_inked_23 : decode cX0_inked 23 = .ok (.iload_n 3, 1) := by decide +kernel
theorem dX0_inked_24 : decode cX0_inked 24 = .ok (.iload 5, 2) := by decide +kernel
theorem dX0_inked_26 : decode cX0_inked 26 = .ok (.invokestatic 133, 3) := by decide +kernel
theorem dX0_inked_29 : decode cX0_inked 29 = .ok (.ifCond .ne 49, 3) := by decide +kernel
theorem dX0_inked_32 : decode cX0_inked 32 = .ok (.aload_n 0, 1) := by decide +kernel
theorem dX0_inked_33 : decode cX0_inked 33 = .ok (.getfield 40, 3) := by decide +kernel
theorem dX0_inked_36 : decode cX0_inked 36 = .ok (.iload 5, 2) := by decide +kernel
theorem dX0_inked_38 : decode cX0_inked 38 = .ok (.iconst 3, 1) := by decide +kernel
theorem dX0_inked_39 : decode cX0_inked 39 = .ok (.imul, 1) := by decide +kernel
theorem dX0_inked_40 : decode cX0_inked 40 = .ok (.iload_n 2, 1) := by decide +kernel
theorem dX0_inked_41 : decode cX0_inked 41 = .ok (.iadd, 1) := by decide +kernel
theorem dX0_inked_42 : decode cX0_inked 42 = .ok (.invokestatic 105, 3) := by decide +kernel
theorem dX0_inked_45 : decode cX0_inked 45 = .ok (.aload_n 0, 1) := by decide +kernel
theorem dX0_inked_46 : decode cX0_inked 46 = .ok (.getfield 37, 3) := by decide +kernel
theorem dX0_inked_49 : decode cX0_inked 49 = .ok (.iload_n 1, 1) := by decide +kernel
theorem dX0_inked_50 : decode cX0_inked 50 = .ok (.iconst 3, 1) := by decide +kernel
theorem dX0_inked_51 : decode cX0_inked 51 = .ok (.imul, 1) := by decide +kernel
theorem dX0_inked_52 : decode cX0_inked 52 = .ok (.iload 5, 2) := by decide +kernel
theorem dX0_inked_54 : decode cX0_inked 54 = .ok (.iadd, 1) := by decide +kernel
theorem dX0_inked_55 : decode cX0_inked 55 = .ok (.invokestatic 105, 3) := by decide +kernel
theorem dX0_inked_58 : decode cX0_inked 58 = .ok (.imul, 1) := by decide +kernel
theorem dX0_inked_59 : decode cX0_inked 59 = .ok (.sipush 255, 3) := by decide +kernel
theorem dX0_inked_62 : decode cX0_inked 62 = .ok (.idiv, 1) := by decide +kernel
theorem dX0_inked_63 : decode cX0_inked 63 = .ok (.istore 6, 2) := by decide +kernel
theorem dX0_inked_65 : decode cX0_inked 65 = .ok (.sipush 255, 3) := by decide +kernel
theorem dX0_inked_68 : decode cX0_inked 68 = .ok (.iload 4, 2) := by decide +kernel
theorem dX0_inked_70 : decode cX0_inked 70 = .ok (.iload 6, 2) := by decide +kernel
theorem dX0_inked_72 : decode cX0_inked 72 = .ok (.iadd, 1) := by decide +kernel
theorem dX0_inked_73 : decode cX0_inked 73 = .ok (.invokestatic 119, 3) := by decide +kernel
theorem dX0_inked_76 : decode cX0_inked 76 = .ok (.istore 4, 2) := by decide +kernel
theorem dX0_inked_78 : decode cX0_inked 78 = .ok (.iinc 5 1, 3) := by decide +kernel
theorem dX0_inked_81 : decode cX0_inked 81 = .ok (.goto (-64), 3) := by decide +kernel
theorem dX0_inked_84 : decode cX0_inked 84 = .ok (.iload 4, 2) := by decide +kernel
theorem dX0_inked_86 : decode cX0_inked 86 = .ok (.ireturn, 1) := by decide +kernel
theorem dX0_read_0 : decode cX0_read 0 = .ok (.aload_n 0, 1) := by decide +kernel
theorem dX0_read_1 : decode cX0_read 1 = .ok (.ifnull 19, 3) := by decide +kernel
theorem dX0_read_4 : decode cX0_read 4 = .ok (.iload_n 1, 1) := by decide +kernel
theorem dX0_read_5 : decode cX0_read 5 = .ok (.ifCond .lt 15, 3) := by decide +kernel
theorem dX0_read_8 : decode cX0_read 8 = .ok (.iload_n 1, 1) := by decide +kernel
theorem dX0_read_9 : decode cX0_read 9 = .ok (.aload_n 0, 1) := by decide +kernel
theorem dX0_read_10 : decode cX0_read 10 = .ok (.arraylength, 1) := by decide +kernel
theorem dX0_read_11 : decode cX0_read 11 = .ok (.if_icmp .ge 9, 3) := by decide +kernel
theorem dX0_read_14 : decode cX0_read 14 = .ok (.aload_n 0, 1) := by decide +kernel
theorem dX0_read_15 : decode cX0_read 15 = .ok (.iload_n 1, 1) := by decide +kernel
theorem dX0_read_16 : decode cX0_read 16 = .ok (.iaload, 1) := by decide +kernel
theorem dX0_read_17 : decode cX0_read 17 = .ok (.goto 4, 3) := by decide +kernel
theorem dX0_read_20 : decode cX0_read 20 = .ok (.iconst 0, 1) := by decide +kernel
theorem dX0_read_21 : decode cX0_read 21 = .ok (.ireturn, 1) := by decide +kernel
theorem dX0_swap_0 : decode cX0_swap 0 = .ok (.aload_n 0, 1) := by decide +kernel
theorem dX0_swap_1 : decode cX0_swap 1 = .ok (.ifnull 13, 3) := by decide +kernel
theorem dX0_swap_4 : decode cX0_swap 4 = .ok (.iload_n 1, 1) := by decide +kernel
end
section
theorem dX0_swap_5 : decode cX0_swap 5 = .ok (.ifCond .lt 9, 3) := by decide +kernel
theorem dX0_swap_8 : decode cX0_swap 8 = .ok (.iload_n 1, 1) := by decide +kernel
theorem dX0_swap_9 : decode cX0_swap 9 = .ok (.aload_n 0, 1) := by decide +kernel
theorem dX0_swap_10 : decode cX0_swap 10 = .ok (.arraylength, 1) := by decide +kernel
theorem dX0_swap_11 : decode cX0_swap 11 = .ok (.if_icmp .lt 5, 3) := by decide +kernel
theorem dX0_swap_14 : decode cX0_swap 14 = .ok (.iconst 0, 1) := by decide +kernel
theorem dX0_swap_15 : decode cX0_swap 15 = .ok (.ireturn, 1) := by decide +kernel
theorem dX0_swap_16 : decode cX0_swap 16 = .ok (.aload_n 0, 1) := by decide +kernel
theorem dX0_swap_17 : decode cX0_swap 17 = .ok (.iload_n 1, 1) := by decide +kernel
theorem dX0_swap_18 : decode cX0_swap 18 = .ok (.iaload, 1) := by decide +kernel
theorem dX0_swap_19 : decode cX0_swap 19 = .ok (.istore_n 3, 1) := by decide +kernel
theorem dX0_swap_20 : decode cX0_swap 20 = .ok (.aload_n 0, 1) := by decide +kernel
theorem dX0_swap_21 : decode cX0_swap 21 = .ok (.iload_n 1, 1) := by decide +kernel
theorem dX0_swap_22 : decode cX0_swap 22 = .ok (.iload_n 2, 1) := by decide +kernel
theorem dX0_swap_23 : decode cX0_swap 23 = .ok (.iastore, 1) := by decide +kernel
theorem dX0_swap_24 : decode cX0_swap 24 = .ok (.iload_n 3, 1) := by decide +kernel
theorem dX0_swap_25 : decode cX0_swap 25 = .ok (.ireturn, 1) := by decide +kernel
theorem dX0_hasBit_0 : decode cX0_hasBit 0 = .ok (.iload_n 0, 1) := by decide +kernel
theorem dX0_hasBit_1 : decode cX0_hasBit 1 = .ok (.iload_n 1, 1) := by decide +kernel
theorem dX0_hasBit_2 : decode cX0_hasBit 2 = .ok (.ishr, 1) := by decide +kernel
theorem dX0_hasBit_3 : decode cX0_hasBit 3 = .ok (.iconst 1, 1) := by decide +kernel
theorem dX0_hasBit_4 : decode cX0_hasBit 4 = .ok (.iand, 1) := by decide +kernel
theorem dX0_hasBit_5 : decode cX0_hasBit 5 = .ok (.iconst 1, 1) := by decide +kernel
theorem dX0_hasBit_6 : decode cX0_hasBit 6 = .ok (.if_icmp .ne 7, 3) := by decide +kernel
theorem dX0_hasBit_9 : decode cX0_hasBit 9 = .ok (.iconst 1, 1) := by decide +kernel
theorem dX0_hasBit_10 : decode cX0_hasBit 10 = .ok (.goto 4, 3) := by decide +kernel
theorem dX0_hasBit_13 : decode cX0_hasBit 13 = .ok (.iconst 0, 1) := by decide +kernel
theorem dX0_hasBit_14 : decode cX0_hasBit 14 = .ok (.ireturn, 1) := by decide +kernel
end
section
/-! THE LAYER: numbers as naturals, the worlds of the class and of the reference, calls that only read, calls that check and throw -/
/-- a row's contents as naturals -/
def gr (F : Nat → Nat) : Nat → Int32 := fun j => nI (F j)
def gu (F : Nat → Nat) (k v : Nat) : Nat → Nat := fun j => if j = k then v else F j
theorem gr_upd (F : Nat → Nat) (k v : Nat) : upd (gr F) k (nI v) = gr (gu F k v) := by
  funext j
  unfold upd gr gu
  split <;> rfl
theorem gu_same (F : Nat → Nat) (k v : Nat) : gu F k v k = v := by simp [gu]
theorem gu_other (F : Nat → Nat) {k j : Nat} (v : Nat) (h : j ≠ k) : gu F k v j = F j := by simp [gu, h]
def gs (S : Nat → Nat → Nat) (k : Nat) (F : Nat → Nat) : Nat → Nat → Nat := fun j => if j = k then F else S j
theorem gs_same (S : Nat → Nat → Nat) (k : Nat) (F : Nat → Nat) : gs S k F k = F := by simp [gs]
theorem gs_other (S : Nat → Nat → Nat) {k j : Nat} (F : Nat → Nat) (h : j ≠ k) : gs S k F j = S j := by simp [gs, h]
/-- an int in the range 0 to n - 1 -/
def gb (x : Int32) (n : Nat) : Bool := decide (0 ≤ x.toInt ∧ x.toInt < (n : Int))
theorem gb_neg {x : Int32} {n : Nat} (h : x < 0) : gb x n = false := by
  have h1 : x.toInt < 0 := by
    have h2 := Int32.lt_iff_toInt_lt.mp h
    simpa using h2
  simp only [gb, decide_eq_false_iff_not]
  omega
theorem gb_big {x : Int32} {n : Nat} (hn : n < 2 ^ 31) (h : nI n ≤ x) : gb x n = false := by
  have h1 := Int32.le_iff_toInt_le.mp h
  rw [nI_toInt hn] at h1
  simp only [gb, decide_eq_false_iff_not]
  omega
theorem gb_in {x : Int32} {n : Nat} (hn : n < 2 ^ 31) (h0 : ¬ x < 0) (h : x < nI n) : gb x n = true := by
  have h1 := Int32.lt_iff_toInt_lt.mp h
  rw [nI_toInt hn] at h1
  have h2 : ¬ x.toInt < 0 := fun z => h0 (Int32.lt_iff_toInt_lt.mpr (by simpa using z))
  simp only [gb, decide_eq_true_eq]
  omega
theorem gb_of {x : Int32} {n : Nat} (hn : n ≤ 2 ^ 31) (h : gb x n = true) : ∃ j : Nat, j < n ∧ x = nI j := by
  simp only [gb, decide_eq_true_eq] at h
  refine ⟨x.toInt.toNat, by omega, ?_⟩
  have h3 : (nI x.toInt.toNat).toInt = x.toInt := by
    rw [nI_toInt (by omega)]
    omega
  exact (Int32.toInt_inj.mp h3).symm
theorem gb_nI {j n : Nat} (hj : j < 2 ^ 31) : gb (nI j) n = decide (j < n) := by
  unfold gb
  rw [nI_toInt hj]
  apply decide_eq_decide.mpr
  omega
theorem gi_le {x : Int32} (h : ¬ x < 0) (h2 : x ≤ nI 255) : gb x 256 = true := by
  have h1 := Int32.le_iff_toInt_le.mp h2
  rw [nI_toInt (by decide)] at h1
  have h3 : ¬ x.toInt < 0 := fun z => h (Int32.lt_iff_toInt_lt.mpr (by simpa using z))
  simp only [gb, decide_eq_true_eq]
  omega
theorem gi_nle {x : Int32} (h2 : ¬ x ≤ nI 255) : gb x 256 = false := by
  have h1 : ¬ x.toInt ≤ (nI 255).toInt := fun z => h2 (Int32.le_iff_toInt_le.mpr z)
  rw [nI_toInt (by decide)] at h1
  simp only [gb, decide_eq_false_iff_not]
  omega
/-- the world of a GamutChain: its object and its eleven rows -/
def xw (q : Nat → Nat) (cI : ClassId) (N : Nat → Nat) (S : Nat → Nat → Nat) (tr : Nat → Nat) : va_W := [
  (q 0, .inr (0, [.int (nI (N 0)), .ref (q 1), .ref (q 2), .ref (q 3), .ref (q 4), .int (nI (N 5)), .ref (q 6), .ref (q 7), .ref (q 8), .int (nI (N 9)), .int (nI (N 10)), .ref (q 11), .ref (q 12), .ref (q 13), .ref (q 14)])),
  (q 1, .inl (cI, 120, .inl (gr (S 1)))), (q 2, .inl (cI, 24, .inl (gr (S 2)))), (q 3, .inl (cI, 24, .inl (gr (S 3)))), (q 4, .inl (cI, 8, .inl (gr (S 4)))),
  (q 6, .inl (cI, 36, .inl (gr (S 6)))), (q 7, .inl (cI, 6, .inl (gr (S 7)))), (q 8, .inl (cI, 90, .inl (gr (S 8)))), (q 11, .inl (cI, 15, .inl (gr tr))),
  (q 12, .inl (cI, 18, .inl (gr (S 12)))), (q 13, .inl (cI, 18, .inl (gr (S 13)))), (q 14, .inl (cI, 9, .inl (gr (S 14))))]
def gB : List Cond := [.declares (Bundle.initS "java/lang/RuntimeException"), .declares (Bundle.initS "java/lang/Exception"), .declares (Bundle.initS Bundle.tN), .castable "java/lang/IndexOutOfBoundsException" "java/lang/IndexOutOfBoundsException", .castable "java/lang/IllegalArgumentException" "java/lang/IllegalArgumentException", .castable "java/lang/IllegalStateException" "java/lang/IllegalStateException"]
def gTx : List (Nat × String) := [(49, "there are 8 profiles"), (163, "no such profile"), (167, "no such band"), (71, "no such place"), (173, "out of 0 to 255"), (179, "the profile is held"), (82, "the greatest is below the least"), (85, "no such way"), (97, "there are 6 chains"), (165, "no such chain"), (181, "the chain is held"), (109, "the chain has 6 profiles"), (111, "the chain has no profile"), (128, "the gap is too great"), (137, "the chain is not joined"), (169, "no such pixel"), (171, "no such ink"), (158, "no such set of inks")]
/-- what a throw needs of the start: two statics, six words, the texts, and which class isn't another -/
def gZ (A : Nat → Prop) (U : State) (H : Heap) : Prop := vx_Zq Bundle.tN "UNASSIGNED_STACK" Bundle.steD A U H ∧ vx_Zq Bundle.tN "SUPPRESSED_SENTINEL" Bundle.listD A U H ∧ (∀ w ∈ gB, va_Nw w U) ∧ (∀ x ∈ gTx, ∃ a, vk_R RX0 x.1 x.2 a U) ∧
  va_Nc "java/lang/IllegalArgumentException" "java/lang/IndexOutOfBoundsException" U ∧ va_Nc "java/lang/IllegalStateException" "java/lang/IndexOutOfBoundsException" U ∧ va_Nc "java/lang/IllegalStateException" "java/lang/IllegalArgumentException" U
theorem gZ.moved {A : Nat → Prop} {s U : State} {H : Heap} (hW : s.WarmedH U.vm) (h : gZ A s H) : gZ A U H := by
  obtain ⟨h1, h2, h3, h4, h5, h6, h7⟩ := h
  refine ⟨h1.moved hW.alike, h2.moved hW.alike, ?_, fun x hx => ?_, h5.moved hW.alike, h6.moved hW.alike, h7.moved hW.alike⟩
  · simp only [gB, List.forall_mem_cons] at h3 ⊢
    exact ⟨h3.1.warmD hW, h3.2.1.warmD hW, h3.2.2.1.warmD hW, h3.2.2.2.1.warmC hW, h3.2.2.2.2.1.warmC hW, h3.2.2.2.2.2.1.warmC hW, fun _ z => nomatch z⟩
  · obtain ⟨a, ha⟩ := h4 x hx
    exact ⟨a, ha.warm hW⟩
theorem gZ.kept {A : Nat → Prop} {U : State} {H H1 : Heap} (h : gZ A U H) (hq : ∀ a : Nat, a < H.size → ¬ A a → H1[a]? = H[a]?) : gZ A U H1 := ⟨h.1.kept hq, h.2.1.kept hq, h.2.2⟩
theorem gZ.narrow {A B : Nat → Prop} {U : State} {H : Heap} (h : gZ A U H) (hAB : ∀ q, B q → A q) : gZ B U H := ⟨h.1.narrow hAB, h.2.1.narrow hAB, h.2.2⟩
theorem gZ.none {A : Nat → Prop} {U : State} {H : Heap} (h : gZ A U H) : gZ (fun _ => False) U H := h.narrow (fun _ z => z.elim)
/-- a GamutChain in the heap -/
def xAt (D : va_G) (q : Nat → Nat) (cI : ClassId) (N : Nat → Nat) (S : Nat → Nat → Nat) (tr : Nat → Nat) (A : Nat → Prop) (U : State) (H : Heap) : Prop := va_P D vwCl (xw q cI N S tr) H ∧ va_K D vwCl [(cI, .int)] U ∧ va_D A (xw q cI N S tr) ∧ gZ A U H
theorem xAt.moved {D : va_G} {q : Nat → Nat} {cI : ClassId} {N : Nat → Nat} {S : Nat → Nat → Nat} {tr : Nat → Nat} {A : Nat → Prop} {s U : State} {H : Heap} (hW : s.WarmedH U.vm) (h : xAt D q cI N S tr A s H) : xAt D q cI N S tr A U H := ⟨h.1, h.2.1.moved hW.alike, h.2.2.1, h.2.2.2.moved hW⟩
/-- one row in the heap -/
def rAt (D : va_G) (a : Nat) (cI : ClassId) (n : Nat) (F : Nat → Nat) (U : State) (H : Heap) : Prop := va_P D vwCl [(a, .inl (cI, n, .inl (gr F)))] H ∧ va_K D vwCl [(cI, .int)] U
theorem rAt.moved {D : va_G} {a : Nat} {cI : ClassId} {n : Nat} {F : Nat → Nat} {s U : State} {H : Heap} (hW : s.WarmedH U.vm) (h : rAt D a cI n F s H) : rAt D a cI n F U H := ⟨h.1, h.2.moved hW.alike⟩
theorem xAt.row {D : va_G} {q : Nat → Nat} {cI : ClassId} {N : Nat → Nat} {S : Nat → Nat → Nat} {tr : Nat → Nat} {A : Nat → Prop} {s : State} {H : Heap} (h : xAt D q cI N S tr A s H) (k : Nat) {a n : Nat} {F : Nat → Nat} (hk : (xw q cI N S tr)[k]? = some (a, .inl (cI, n, .inl (gr F)))) : rAt D a cI n F s H := ⟨h.1.sub [k] (by simp [hk]), h.2.1⟩
/-- what a thrown exception leaves: all that was there -/
def gX (P : String → Prop) : String → State → State → Prop := fun E st t => P E ∧ st.heap.size ≤ t.heap.size ∧ ∀ q : Nat, q < st.heap.size → t.heap[q]? = st.heap[q]?
section GC
variable {p : Program} {l : Launch} {e : Env} {R : Room} {s : State} {m : MethodId} {args : Array Value} {below : List Frame} {meth : Method} {c : Code} {H : Heap} {locs : List Loc} {cells slots : Nat} {Q : State → Prop}
variable {y : MethodName} {bytes cc : ByteArray} {maxL nL mc ms n index pc : Nat} {ret : Option FieldType} {ws ws' : List Cond} {rm : Room} {Qc : Array Value → State → Outcome → State → Prop} {XC : String → State → State → Prop} {free : Addr → Prop} {Ts : List Cond} {own : String} {As rest st0 : List Value} {ls : Array Slot} {Bp : State → Prop} {b : Nat}
/-- what stands in a method: the machine, the bytes, the answer's type, the locals' number, the class, the words, no lock -/
def gF (p : Program) (s : State) (m : MethodId) (args : Array Value) (meth : Method) (c : Code) (cc : ByteArray) (ret : Option FieldType) (nL : Nat) (own : String) (ws : List Cond) : Prop :=
  p.tables.exec = Jvm.exec ∧ c.code = cc ∧ meth.sig.returnType = ret ∧ c.maxLocals = nL ∧ s.vm.findClass own = some m.cls ∧ (∀ w ∈ ws, w.before args s = true) ∧ meth.locks = false
theorem gF.fix (G : gF p s m args meth c cc ret nL own ws) : CallFix p m c cc nL s args ws own := ⟨G.1, G.2.1, G.2.2.2.1, G.2.2.2.2.1, G.2.2.2.2.2.1⟩
theorem gc_blind {av : List Value} (h : ∀ (U : State) (g : JFrame) (mk : MethodId) (a : Array Value), Bp U → Bp (U.calling g mk a)) : FrameBlind (va_Pc av Bp) := fun a U g mk hq => ⟨hq.1, h U g mk a hq.2⟩
theorem gc_met (av : List Value) (hy : plainName y.cls = true) (hw : ws = Cond.code y cc nL ret :: ws') (hlen : (lg_sl av).length ≤ nL) {lv0 : List (Nat × Value)} (hlv : lv_args 0 av = lv0)
    (body : ∀ (p : Program) (e : Env) (s : State) (m : MethodId) (below : List Frame) (meth : Method) (c : Code) (ls : Array Slot), gF p s m av.toArray meth c cc ret nL y.cls ws → lv_has ls nL lv0 → Bp s →
      W p l e rm s m av.toArray below meth c s.heap [] 0 0 (MQ below Qc av.toArray s mc ms free) (F0 m 0 ls [])) : Met l y ws rm (va_Pc av Bp) Qc mc ms free := by
  refine Met.ofW (cc := cc) (maxL := nL) (ret := ret) hy hw ?_
  intro p e s m args below meth c s₁ B hml hv
  obtain ⟨rfl, hX⟩ := hv
  have hl := lv_entry av (n := nL) hlen
  rw [lg_entry_eq]
  rw [hlv] at hl
  exact body p e s m below meth c _ ⟨B.exec, B.bytes, B.returns, hml, findClass_of_methodNamed B.named, atoms_spec (ws := ws) B.pre, B.notSynchronized⟩ hl hX
/-- the same for a method of a class that has natives of other names -/
theorem gc_metF (av : List Value) (hy : plainFor y = true) (hw : ws = Cond.code y cc nL ret :: ws') (hlen : (lg_sl av).length ≤ nL) {lv0 : List (Nat × Value)} (hlv : lv_args 0 av = lv0)
    (body : ∀ (p : Program) (e : Env) (s : State) (m : MethodId) (below : List Frame) (meth : Method) (c : Code) (ls : Array Slot), gF p s m av.toArray meth c cc ret nL y.cls ws → lv_has ls nL lv0 → Bp s →
      W p l e rm s m av.toArray below meth c s.heap [] 0 0 (MQ below Qc av.toArray s mc ms free) (F0 m 0 ls [])) : Met l y ws rm (va_Pc av Bp) Qc mc ms free := by
  refine MetFree.of_bodySF (code := cc) (maxLocals := nL) (ret := ret) hy ?_ ?_
  · intro args s m h hn
    obtain ⟨meth, c, h1, h2, h3, h4, h5, h6, -, -⟩ := Cond.code_spec hn (atoms_spec (ws := ws) h _ (by rw [hw]; exact List.mem_cons_self))
    exact ⟨meth, c, h1, h2, h3, h4, h5, h6⟩
  · intro p e s m args below meth c s₁ B hml hP _
    have hh0 : s₁.heap = s.heap := by rw [B.state]; rfl
    obtain ⟨rfl, hX⟩ := hP
    have hl := lv_entry av (n := nL) hlen
    rw [hlv] at hl
    have hb := body p e s m below meth c _ ⟨B.exec, B.bytes, B.returns, hml, findClass_of_methodNamed B.named, atoms_spec (ws := ws) B.pre, B.notSynchronized⟩ hl hX
    rw [← lg_entry_eq] at hb
    obtain ⟨t, a1, o, b1, b2, b3⟩ := hb s₁ hh0 (Stand.of_body B)
    exact ⟨t, o, a1, b1, b2, ⟨b3.1, b3.2⟩⟩
theorem gc_vxmet (av : List Value) (hy : plainName y.cls = true) (hw : ws = Cond.code y cc nL ret :: ws') (hlen : (lg_sl av).length ≤ nL) {lv0 : List (Nat × Value)} (hlv : lv_args 0 av = lv0)
    (body : ∀ (p : Program) (e : Env) (s : State) (m : MethodId) (below : List Frame) (meth : Method) (c : Code) (ls : Array Slot), gF p s m av.toArray meth c cc ret nL y.cls ws → (∀ x ∈ c.exceptionTable.toList, False) → lv_has ls nL lv0 → Bp s →
      W p l e rm s m av.toArray below meth c s.heap [] 0 0 (vx_MQ below Qc XC av.toArray s mc ms free) (F0 m 0 ls [])) : vx_Met l y ws rm (va_Pc av Bp) Qc XC mc ms free := by
  refine vx_ofW (cc := cc) (maxL := nL) (ret := ret) hy hw ?_
  intro p e s m args below meth c s₁ B hml hx0 hv
  obtain ⟨rfl, hX⟩ := hv
  have hl := lv_entry av (n := nL) hlen
  rw [lg_entry_eq]
  rw [hlv] at hl
  exact body p e s m below meth c _ ⟨B.exec, B.bytes, B.returns, hml, findClass_of_methodNamed B.named, atoms_spec (ws := ws) B.pre, B.notSynchronized⟩ hx0 hl hX
/-- a call of an object's own method that only reads -/
theorem gc_v {post : Int32 → Prop} {C : String} (G : CallFix p m c cc nL s args Ts own) (hM : Met l y ws rm (va_Pc (.ref b :: As) Bp) (vp_Si post) 0 0 (fun _ => False)) (cw : CallW R s args own C index y bytes maxL ret ws rm 0 0 n)
    (hbl : FrameBlind (va_Pc (.ref b :: As) Bp)) (hrc : ∃ cellB : Cell, H[b]? = some cellB ∧ cellB.vm.isStatics = false ∧ s.vm.findClass C = some cellB.cls) (hB : ∀ U : State, U.heap = H → s.WarmedH U.vm → Bp U)
    (hn : As.length = n) (hsz : ls.size = nL) (hst : st0 = As.reverse ++ .ref b :: rest) (hW : (rest.map fun v => v.category).sum ≤ 8) (hdg : decode cc pc = .ok (.invokevirtual index, 3)) (hc : cells ≤ R.cells) (hs : slots ≤ R.slots)
    (kk : ∀ r : Int32, post r → W p l e R s m args below meth c H locs cells slots Q (F0 m (pc + 3) ls (.int r :: rest))) : W p l e R s m args below meth c H locs cells slots Q (F0 m pc ls st0) :=
  vp_callSi (W.runV G hM cw ⟨hbl, hrc, fun U hU hW => ⟨rfl, hB U hU hW⟩⟩ rfl hn hsz hst (lv_room hW) hdg ⟨hc, hs⟩) kk
/-- a static call that only reads -/
theorem gc_s {post : Int32 → Prop} (G : CallFix p m c cc nL s args Ts own) (hM : Met l y ws rm (va_Pc As Bp) (vp_Si post) 0 0 (fun _ => False)) (cw : CallB R s args own index y bytes maxL ret ws rm 0 0 n ∧ (Cond.static y).before args s = true)
    (hbl : FrameBlind (va_Pc As Bp)) (hB : ∀ U : State, U.heap = H → s.WarmedH U.vm → Bp U)
    (hn : As.length = n) (hsz : ls.size = nL) (hst : st0 = As.reverse ++ rest) (hW : (rest.map fun v => v.category).sum ≤ 8) (hdg : decode cc pc = .ok (.invokestatic index, 3)) (hc : cells ≤ R.cells) (hs : slots ≤ R.slots)
    (kk : ∀ r : Int32, post r → W p l e R s m args below meth c H locs cells slots Q (F0 m (pc + 3) ls (.int r :: rest))) : W p l e R s m args below meth c H locs cells slots Q (F0 m pc ls st0) :=
  vp_callSi (W.runS G hM cw ⟨hbl, fun U hU hW => ⟨rfl, hB U hU hW⟩⟩ rfl hn hsz hst (lv_room hW) hdg ⟨hc, hs⟩) kk
theorem gc_tight {T T' : State} {k2 n2 : Nat} {locs2 : List Loc} (X : Stand p l e R s m args below meth c T locs2 cells slots) (X' : Stand p l e R s m args below meth c T' locs k2 n2) (h : T'.heap = T.heap) : Stand p l e R s m args below meth c T' locs cells slots := by
  have h1 := X.same
  have h2 := X'.same
  have e1 : (T'.setVm s.vm).heap = (T.setVm s.vm).heap := h
  obtain ⟨a1, a2, a3, a4, a5, a6⟩ := h1
  obtain ⟨b1, b2, b3, b4, b5, b6⟩ := h2
  exact { X' with same := ⟨b1, b2, by rw [e1]; exact a3, b4, by rw [e1]; exact a5, b6⟩ }
/-- a call that checks: it returns with nothing changed, or throws with one cell more -/
theorem gc_need {post : Unit → Prop} {PX : String → Prop} {a : Array Value} (hr : vx_Run p l e R s m args below meth c H locs cells slots 1 6 (F0 m pc ls st0) rest (va_Sv post a) (gX PX) (fun _ => False))
    (kx : ∀ (E : String) (ce : Cell) (q9 : Addr) (H1 : Heap), PX E → H.size ≤ H1.size → (∀ q : Nat, q < H.size → H1[q]? = H[q]?) → H1[q9]? = some ce → ce.vm = .none → s.vm.findClass E = some ce.cls → vx_W p l e R s m args below meth c H1 locs (cells + 1) (slots + 6) Q (F0 m pc ls rest) q9)
    (kk : post () → W p l e R s m args below meth c H locs cells slots Q (F0 m (pc + 3) ls rest)) : W p l e R s m args below meth c H locs cells slots Q (F0 m pc ls st0) := by
  intro T hT X
  rcases hr T hT X with ⟨v, st₀, t, T', L, h0, X', hL, e1, e2, ⟨hv, hp, hh⟩, st⟩ | ⟨q, st₀, t, T', L, E, ce, h0, X', hL, e1, e2, ⟨hp, hz, hk⟩, hce, hcv, hcl, st⟩
  · cases hv
    have e9 : T'.heap = H := by rw [e1, hh, h0]
    have X2 := Stand.forget (locs := locs) X' (fun q h => (hL q h).elim)
    obtain ⟨t2, a1, b1⟩ := kk hp T' e9 (gc_tight X X2 (by rw [e9, hT]))
    exact ⟨t2, st t2 a1, b1⟩
  · rw [h0] at hz hk
    have X2 := Stand.forget (locs := locs) X' (fun q h => (hL q h).elim)
    obtain ⟨t2, a1, b1⟩ := kx E ce q T'.heap hp (by rw [e1]; exact hz) (fun q h => by rw [e1]; exact hk q h) (by rw [e1]; exact hce) hcv hcl T' rfl X2
    exact ⟨t2, st.trans a1, b1⟩
/-- .. in a method without a table: what it throws goes on -/
theorem gc_needT {post : Unit → Prop} {PX : String → Prop} {a : Array Value} (hr : vx_Run p l e R s m args below meth c H locs cells slots 1 6 (F0 m pc ls st0) rest (va_Sv post a) (gX PX) (fun _ => False)) (hx0 : ∀ x ∈ c.exceptionTable.toList, False) (hlocks : meth.locks = false)
    (hXC : ∀ (E : String) (t : State), PX E → H.size ≤ t.heap.size → (∀ q : Nat, q < H.size → t.heap[q]? = H[q]?) → s.vm.Alike t.vm → XC E s t) (hf : ∀ z ∈ locs, free z.base) (hc : cells + 1 ≤ mc) (hs : slots + 6 ≤ ms)
    (kk : post () → W p l e R s m args below meth c H locs cells slots (vx_MQ below Qc XC args s mc ms free) (F0 m (pc + 3) ls rest)) : W p l e R s m args below meth c H locs cells slots (vx_MQ below Qc XC args s mc ms free) (F0 m pc ls st0) :=
  gc_need hr (fun E ce q9 H1 hp hz hk hce hcv hcl => vx_out (fun x hx => (hx0 x hx).elim) hlocks hce hcv hcl (fun t ht hal => hXC E t hp (by rw [ht]; exact hz) (fun q h => by rw [ht]; exact hk q h) hal) hf hc hs) kk
end GC
section GN
variable {p : Program} {l : Launch} {e : Env} {R : Room} {s : State} {m : MethodId} {args : Array Value} {below : List Frame} {meth : Method} {c : Code} {H : Heap} {locs : List Loc} {cells slots : Nat} {Q : State → Prop}
variable {cc : ByteArray} {nL pc index : Nat} {ret : Option FieldType} {ws : List Cond} {own : String} {rest : List Value} {ls : Array Slot} {a b : Nat}
theorem gn_iadd (G : gF p s m args meth c cc ret nL own ws) (d : decode cc pc = .ok (.iadd, 1)) (k : W p l e R s m args below meth c H locs cells slots Q (F0 m (pc + 1) ls (.int (nI (a + b)) :: rest))) : W p l e R s m args below meth c H locs cells slots Q (F0 m pc ls (.int (nI b) :: .int (nI a) :: rest)) :=
  lv_iadd G.1 G.2.1 d (by rw [nI_add]; exact k)
theorem gn_imul (G : gF p s m args meth c cc ret nL own ws) (d : decode cc pc = .ok (.imul, 1)) (k : W p l e R s m args below meth c H locs cells slots Q (F0 m (pc + 1) ls (.int (nI (a * b)) :: rest))) : W p l e R s m args below meth c H locs cells slots Q (F0 m pc ls (.int (nI b) :: .int (nI a) :: rest)) :=
  lv_imul G.1 G.2.1 d (by rw [pk_mul]; exact k)
theorem gn_isub (G : gF p s m args meth c cc ret nL own ws) (d : decode cc pc = .ok (.isub, 1)) (h : b ≤ a) (k : W p l e R s m args below meth c H locs cells slots Q (F0 m (pc + 1) ls (.int (nI (a - b)) :: rest))) : W p l e R s m args below meth c H locs cells slots Q (F0 m pc ls (.int (nI b) :: .int (nI a) :: rest)) :=
  lv_isub G.1 G.2.1 d (by rw [pk_sub h]; exact k)
theorem gn_idiv (G : gF p s m args meth c cc ret nL own ws) (d : decode cc pc = .ok (.idiv, 1)) (ha : a < 2 ^ 31) (h0 : 0 < b) (hb : b < 2 ^ 31) (k : W p l e R s m args below meth c H locs cells slots Q (F0 m (pc + 1) ls (.int (nI (a / b)) :: rest))) : W p l e R s m args below meth c H locs cells slots Q (F0 m pc ls (.int (nI b) :: .int (nI a) :: rest)) :=
  lv_idiv G.1 G.2.1 d (nI_ne0 h0 hb) (by rw [pk_div ha h0 hb]; exact k)
theorem gn_iinc (G : gF p s m args meth c cc ret nL own ws) {i k n : Nat} {lv lv' : List (Nat × Value)} (d : decode cc pc = .ok (.iinc i (n : Int), 3)) (h : lv_has ls nL lv) (hk : lv[k]? = some (i, .int (nI a))) (hn : i < nL) (hl : (i, Value.int (nI (a + n))) :: lv.filter (fun q => !(q.1 == i) && !(q.1 + 1 == i && q.2.category == 2)) = lv')
    (kk : ∀ ls' : Array Slot, lv_has ls' nL lv' → W p l e R s m args below meth c H locs cells slots Q (F0 m (pc + 3) ls' rest)) : W p l e R s m args below meth c H locs cells slots Q (F0 m pc ls rest) :=
  lv_iinc G.1 G.2.1 d h hk (by rw [show Int32.ofInt (n : Int) = nI n from rfl, nI_add]) hn hl kk
theorem gn_lt (G : gF p s m args meth c cc ret nL own ws) (ha : a < 2 ^ 31) (hb : b < 2 ^ 31) {off : Int} {tgt : Nat} (d : decode cc pc = .ok (.if_icmp .lt off, 3)) (ht : (pc : Int) + off = (tgt : Int))
    (kt : a < b → W p l e R s m args below meth c H locs cells slots Q (F0 m tgt ls rest)) (kf : b ≤ a → W p l e R s m args below meth c H locs cells slots Q (F0 m (pc + 3) ls rest)) : W p l e R s m args below meth c H locs cells slots Q (F0 m pc ls (.int (nI b) :: .int (nI a) :: rest)) :=
  lv_icmp_lt G.1 G.2.1 d ht (fun h => kt ((nI_ltI ha hb).mp h)) (fun h => kf (by have h2 : ¬ (a < b) := fun z => h ((nI_ltI ha hb).mpr z); omega))
theorem gn_ge (G : gF p s m args meth c cc ret nL own ws) (ha : a < 2 ^ 31) (hb : b < 2 ^ 31) {off : Int} {tgt : Nat} (d : decode cc pc = .ok (.if_icmp .ge off, 3)) (ht : (pc : Int) + off = (tgt : Int))
    (kt : b ≤ a → W p l e R s m args below meth c H locs cells slots Q (F0 m tgt ls rest)) (kf : a < b → W p l e R s m args below meth c H locs cells slots Q (F0 m (pc + 3) ls rest)) : W p l e R s m args below meth c H locs cells slots Q (F0 m pc ls (.int (nI b) :: .int (nI a) :: rest)) :=
  lv_icmp_ge G.1 G.2.1 d ht (fun h => kt ((nI_leI hb ha).mp h)) (fun h => kf (by have h2 : ¬ (b ≤ a) := fun z => h ((nI_leI hb ha).mpr z); omega))
theorem gn_le (G : gF p s m args meth c cc ret nL own ws) (ha : a < 2 ^ 31) (hb : b < 2 ^ 31) {off : Int} {tgt : Nat} (d : decode cc pc = .ok (.if_icmp .le off, 3)) (ht : (pc : Int) + off = (tgt : Int))
    (kt : a ≤ b → W p l e R s m args below meth c H locs cells slots Q (F0 m tgt ls rest)) (kf : b < a → W p l e R s m args below meth c H locs cells slots Q (F0 m (pc + 3) ls rest)) : W p l e R s m args below meth c H locs cells slots Q (F0 m pc ls (.int (nI b) :: .int (nI a) :: rest)) :=
  lv_icmp_le G.1 G.2.1 d ht (fun h => kt ((nI_leI ha hb).mp h)) (fun h => kf (by have h2 : ¬ (a ≤ b) := fun z => h ((nI_leI ha hb).mpr z); omega))
theorem gn_gt (G : gF p s m args meth c cc ret nL own ws) (ha : a < 2 ^ 31) (hb : b < 2 ^ 31) {off : Int} {tgt : Nat} (d : decode cc pc = .ok (.if_icmp .gt off, 3)) (ht : (pc : Int) + off = (tgt : Int))
    (kt : b < a → W p l e R s m args below meth c H locs cells slots Q (F0 m tgt ls rest)) (kf : a ≤ b → W p l e R s m args below meth c H locs cells slots Q (F0 m (pc + 3) ls rest)) : W p l e R s m args below meth c H locs cells slots Q (F0 m pc ls (.int (nI b) :: .int (nI a) :: rest)) :=
  lv_icmp_gt G.1 G.2.1 d ht (fun h => kt ((nI_ltI hb ha).mp h)) (fun h => kf (by have h2 : ¬ (b < a) := fun z => h ((nI_ltI hb ha).mpr z); omega))
theorem gn_eq (G : gF p s m args meth c cc ret nL own ws) (ha : a < 2 ^ 31) (hb : b < 2 ^ 31) {off : Int} {tgt : Nat} (d : decode cc pc = .ok (.if_icmp .eq off, 3)) (ht : (pc : Int) + off = (tgt : Int))
    (kt : a = b → W p l e R s m args below meth c H locs cells slots Q (F0 m tgt ls rest)) (kf : a ≠ b → W p l e R s m args below meth c H locs cells slots Q (F0 m (pc + 3) ls rest)) : W p l e R s m args below meth c H locs cells slots Q (F0 m pc ls (.int (nI b) :: .int (nI a) :: rest)) :=
  lv_icmp_eq G.1 G.2.1 d ht (fun h => kt ((nI_eq ha hb).mp h)) (fun h => kf (fun z => h ((nI_eq ha hb).mpr z)))
theorem gn_ne (G : gF p s m args meth c cc ret nL own ws) (ha : a < 2 ^ 31) (hb : b < 2 ^ 31) {off : Int} {tgt : Nat} (d : decode cc pc = .ok (.if_icmp .ne off, 3)) (ht : (pc : Int) + off = (tgt : Int))
    (kt : a ≠ b → W p l e R s m args below meth c H locs cells slots Q (F0 m tgt ls rest)) (kf : a = b → W p l e R s m args below meth c H locs cells slots Q (F0 m (pc + 3) ls rest)) : W p l e R s m args below meth c H locs cells slots Q (F0 m pc ls (.int (nI b) :: .int (nI a) :: rest)) :=
  lv_icmp_ne G.1 G.2.1 d ht (fun h => kt (fun z => h ((nI_eq ha hb).mpr z))) (fun h => kf ((nI_eq ha hb).mp h))
theorem gn_ltz (G : gF p s m args meth c cc ret nL own ws) (ha : a < 2 ^ 31) {off : Int} {tgt : Nat} (d : decode cc pc = .ok (.ifCond .lt off, 3)) (ht : (pc : Int) + off = (tgt : Int))
    (kf : W p l e R s m args below meth c H locs cells slots Q (F0 m (pc + 3) ls rest)) : W p l e R s m args below meth c H locs cells slots Q (F0 m pc ls (.int (nI a) :: rest)) :=
  lv_if_lt G.1 G.2.1 d ht (fun h => absurd h (nI_pos ha)) (fun _ => kf)
theorem gn_gtz (G : gF p s m args meth c cc ret nL own ws) (ha : a < 2 ^ 31) {off : Int} {tgt : Nat} (d : decode cc pc = .ok (.ifCond .gt off, 3)) (ht : (pc : Int) + off = (tgt : Int))
    (kt : 0 < a → W p l e R s m args below meth c H locs cells slots Q (F0 m tgt ls rest)) (kf : a = 0 → W p l e R s m args below meth c H locs cells slots Q (F0 m (pc + 3) ls rest)) : W p l e R s m args below meth c H locs cells slots Q (F0 m pc ls (.int (nI a) :: rest)) :=
  lv_if_gt G.1 G.2.1 d ht (fun h => kt (Nat.pos_of_ne_zero (fun z => by rw [z] at h; exact absurd h (by decide)))) (fun h => kf (Decidable.byContradiction (fun z => h ((nI_ltI (a := 0) (by decide) ha).mpr (Nat.pos_of_ne_zero z)))))
theorem gn_eqz (G : gF p s m args meth c cc ret nL own ws) (ha : a < 2 ^ 31) {off : Int} {tgt : Nat} (d : decode cc pc = .ok (.ifCond .eq off, 3)) (ht : (pc : Int) + off = (tgt : Int))
    (kt : a = 0 → W p l e R s m args below meth c H locs cells slots Q (F0 m tgt ls rest)) (kf : a ≠ 0 → W p l e R s m args below meth c H locs cells slots Q (F0 m (pc + 3) ls rest)) : W p l e R s m args below meth c H locs cells slots Q (F0 m pc ls (.int (nI a) :: rest)) :=
  lv_if_eq G.1 G.2.1 d ht (fun h => kt ((nI_eq ha (by decide)).mp (show nI a = nI 0 from h))) (fun h => kf (fun z => h (by rw [z]; rfl)))
theorem gn_nez (G : gF p s m args meth c cc ret nL own ws) (ha : a < 2 ^ 31) {off : Int} {tgt : Nat} (d : decode cc pc = .ok (.ifCond .ne off, 3)) (ht : (pc : Int) + off = (tgt : Int))
    (kt : a ≠ 0 → W p l e R s m args below meth c H locs cells slots Q (F0 m tgt ls rest)) (kf : a = 0 → W p l e R s m args below meth c H locs cells slots Q (F0 m (pc + 3) ls rest)) : W p l e R s m args below meth c H locs cells slots Q (F0 m pc ls (.int (nI a) :: rest)) :=
  lv_if_ne G.1 G.2.1 d ht (fun h => kt (fun z => h (by rw [z]; rfl))) (fun h => kf ((nI_eq ha (by decide)).mp (show nI a = nI 0 from h)))
/-- a field of the class's object -/
theorem gx_get {D : va_G} {q : Nat → Nat} {cI : ClassId} {N : Nat → Nat} {S : Nat → Nat → Nat} {tr : Nat → Nat} {A : Nat → Prop} (G : gF p s m args meth c cc ret nL RX0 ws) (hX : xAt D q cI N S tr A s H) (hin : ∀ w ∈ wsX00, w ∈ ws) (k : Nat) (hk : k < 15)
    (hlink : Cond.fieldLink RX0 index "GamutChain" (TX0 k).2.1 (TX0 k).2.2.1 ∈ ws) (hsame : (TX0 k).1 = "GamutChain") {v : Value} {fs : List Value} (hf : (xw q cI N S tr)[0]? = some (q 0, .inr (0, fs))) (hv : fs[k]? = some v) (hdg : decode cc pc = .ok (.getfield index, 3))
    (kk : W p l e R s m args below meth c H locs cells slots Q (F0 m (pc + 3) ls (v :: rest))) : W p l e R s m args below meth c H locs cells slots Q (F0 m pc ls (.ref (q 0) :: rest)) :=
  va_get (D := D) (ci := 0) (v := v) (C := RX0) (T := TX0) (N := 15) G.1 G.2.1 G.2.2.2.2.2.1 hin G.2.2.2.2.1 hX.2.1 hX.1 0 hf rfl k hk (G.2.2.2.2.2.1 _ hlink) (fun x h => by rw [hsame] at h; exact h) hv hdg kk
theorem gr_min (G : gF p s m args meth c cc ret nL RX0 ws) (hsz : ls.size = nL) {ix : Nat} (hlink : Cond.methodLink RX0 ix Lib.Math.min.name ∈ ws) (hstat : Cond.static Lib.Math.min.name ∈ ws) (hini : Cond.initialized "java/lang/Math" ∈ ws) (hcode : Cond.code Lib.Math.min.name Lib.Math.min.code 2 (some .int) ∈ ws)
    (hframes : 1 ≤ R.frames) (hlocals : (rest.map fun v => v.category).sum + 13 ≤ R.locals) (hc : cells ≤ R.cells) (hs : slots ≤ R.slots) (ha : a < 2 ^ 31) (hb : b < 2 ^ 31) (hdg : decode cc pc = .ok (.invokestatic ix, 3))
    (kk : W p l e R s m args below meth c H locs cells slots Q (F0 m (pc + 3) ls (.int (nI (min a b)) :: rest))) : W p l e R s m args below meth c H locs cells slots Q (F0 m pc ls (.int (nI b) :: .int (nI a) :: rest)) :=
  va_mmin G.1 G.2.1 (G.2.2.2.1.trans hsz.symm) G.2.2.2.2.1 (G.2.2.2.2.2.1 _ hlink) (G.2.2.2.2.2.1 _ hstat) (G.2.2.2.2.2.1 _ hini) (G.2.2.2.2.2.1 _ hcode) hframes hlocals hc hs hdg (by
    have e : (if nI b < nI a then nI b else nI a) = nI (min a b) := by
      rcases Nat.lt_or_ge b a with q | q
      · rw [if_pos ((nI_ltI hb ha).mpr q), Nat.min_eq_right (Nat.le_of_lt q)]
      · rw [if_neg (fun z => absurd ((nI_ltI hb ha).mp z) (Nat.not_lt.mpr q)), Nat.min_eq_left q]
    rw [e]; exact kk)
theorem gr_max (G : gF p s m args meth c cc ret nL RX0 ws) (hsz : ls.size = nL) {ix : Nat} (hlink : Cond.methodLink RX0 ix Lib.Math.max.name ∈ ws) (hstat : Cond.static Lib.Math.max.name ∈ ws) (hini : Cond.initialized "java/lang/Math" ∈ ws) (hcode : Cond.code Lib.Math.max.name Lib.Math.max.code 2 (some .int) ∈ ws)
    (hframes : 1 ≤ R.frames) (hlocals : (rest.map fun v => v.category).sum + 13 ≤ R.locals) (hc : cells ≤ R.cells) (hs : slots ≤ R.slots) (ha : a < 2 ^ 31) (hb : b < 2 ^ 31) (hdg : decode cc pc = .ok (.invokestatic ix, 3))
    (kk : W p l e R s m args below meth c H locs cells slots Q (F0 m (pc + 3) ls (.int (nI (max a b)) :: rest))) : W p l e R s m args below meth c H locs cells slots Q (F0 m pc ls (.int (nI b) :: .int (nI a) :: rest)) :=
  va_mmax G.1 G.2.1 (G.2.2.2.1.trans hsz.symm) G.2.2.2.2.1 (G.2.2.2.2.2.1 _ hlink) (G.2.2.2.2.2.1 _ hstat) (G.2.2.2.2.2.1 _ hini) (G.2.2.2.2.2.1 _ hcode) hframes hlocals hc hs hdg (by
    have e : (if nI a < nI b then nI b else nI a) = nI (max a b) := by
      rcases Nat.lt_or_ge a b with q | q
      · rw [if_pos ((nI_ltI ha hb).mpr q), Nat.max_eq_right (Nat.le_of_lt q)]
      · rw [if_neg (fun z => absurd ((nI_ltI ha hb).mp z) (Nat.not_lt.mpr q)), Nat.max_eq_left q]
    rw [e]; exact kk)
end GN
theorem gc_blindT {av : List Value} : FrameBlind (va_Pc av (fun _ => True)) := fun _ _ _ _ hq => ⟨hq.1, trivial⟩
theorem rAt_blind {D : va_G} {a : Nat} {cI : ClassId} {n : Nat} {F : Nat → Nat} {av : List Value} : FrameBlind (va_Pc av (fun U => rAt D a cI n F U U.heap)) := fun a U g mk hq => ⟨hq.1, hq.2.1, va_K.moved (u := U) (U := U.calling g mk a) (Vm.Alike.refl U.vm) hq.2.2⟩
theorem gZ.call {A : Nat → Prop} {U : State} {g : JFrame} {mk : MethodId} {a : Array Value} {H : Heap} (h : gZ A U H) : gZ A (U.calling g mk a) H := h.moved (State.WarmedH.refl U)
theorem xAt_blind {D : va_G} {q : Nat → Nat} {cI : ClassId} {N : Nat → Nat} {S : Nat → Nat → Nat} {tr : Nat → Nat} {A : Nat → Prop} {av : List Value} : FrameBlind (va_Pc av (fun U => xAt D q cI N S tr A U U.heap)) := fun a U g mk hq => ⟨hq.1, hq.2.1, va_K.moved (u := U) (U := U.calling g mk a) (Vm.Alike.refl U.vm) hq.2.2.1, hq.2.2.2.1, gZ.call hq.2.2.2.2⟩
theorem gZ_blind {A : Nat → Prop} {av : List Value} : FrameBlind (va_Pc av (fun U => gZ A U U.heap)) := fun a U g mk hq => ⟨hq.1, gZ.call hq.2⟩
end
section
/-! NUMBERS: what the class and the reference compute, as naturals -/
theorem fb_bmod {z : Int} (h1 : -2147483648 ≤ z) (h2 : z < 2147483648) : z.bmod (2 ^ 32) = z := by
  rw [Int.bmod_eq_of_le (by omega) (by omega)]
theorem fb_addI {x y : Int32} (h1 : -2147483648 ≤ x.toInt + y.toInt) (h2 : x.toInt + y.toInt < 2147483648) : (x + y).toInt = x.toInt + y.toInt := by
  rw [Int32.toInt_add, fb_bmod h1 h2]
theorem fb_subI {x y : Int32} (h1 : -2147483648 ≤ x.toInt - y.toInt) (h2 : x.toInt - y.toInt < 2147483648) : (x - y).toInt = x.toInt - y.toInt := by
  rw [Int32.toInt_sub, fb_bmod h1 h2]
theorem fb_mulI {x y : Int32} (h1 : -2147483648 ≤ x.toInt * y.toInt) (h2 : x.toInt * y.toInt < 2147483648) : (x * y).toInt = x.toInt * y.toInt := by
  rw [Int32.toInt_mul, fb_bmod h1 h2]
theorem fa_and (a b : Nat) : nI a &&& nI b = nI (a &&& b) := by
  apply Int32.toBitVec_inj.1
  show BitVec.ofNat 32 a &&& BitVec.ofNat 32 b = BitVec.ofNat 32 (a &&& b)
  apply BitVec.eq_of_getLsbD_eq
  intro i hi
  simp [hi]
theorem fa_or (a b : Nat) : nI a ||| nI b = nI (a ||| b) := by
  apply Int32.toBitVec_inj.1
  show BitVec.ofNat 32 a ||| BitVec.ofNat 32 b = BitVec.ofNat 32 (a ||| b)
  apply BitVec.eq_of_getLsbD_eq
  intro i hi
  simp [hi]
theorem fa_mask (n k : Nat) : nI n &&& nI (2 ^ k - 1) = nI (n % 2 ^ k) := by rw [fa_and, Nat.and_two_pow_sub_one_eq_mod]
theorem fb_xorI (a b : Nat) : nI a ^^^ nI b = nI (a ^^^ b) := by
  apply Int32.toBitVec_inj.1
  show BitVec.ofNat 32 a ^^^ BitVec.ofNat 32 b = BitVec.ofNat 32 (a ^^^ b)
  apply BitVec.eq_of_getLsbD_eq
  intro i hi
  simp [hi]
/-- an int that is a natural -/
theorem gp_nat {x : Int32} {n : Nat} (hn : n < 2 ^ 31) (h : x.toInt = (n : Int)) : x = nI n := Int32.toInt_inj.mp (by rw [h, nI_toInt hn])
def sp_vop (k : Nat) : Nat := min (k * 64) 255
def sp_w (k : Nat) : Nat := if k = 3 then 63 else 64
theorem sp_w_pos (k : Nat) : 0 < sp_w k := by unfold sp_w; split <;> decide
theorem sp_w_le (k : Nat) : sp_w k ≤ 64 := by unfold sp_w; split <;> decide
/-- the value between two places -/
def sp_btw (g : Nat → Nat) (o v : Nat) : Nat := (g (o + v / 64) * (sp_w (v / 64) - (v - v / 64 * 64)) + g (o + v / 64 + 1) * (v - v / 64 * 64)) / sp_w (v / 64)
theorem sp_far {v : Nat} (hv : v ≤ 255) : v - v / 64 * 64 ≤ sp_w (v / 64) := by
  unfold sp_w
  split <;> omega
theorem sp_mix_le {C D t w : Nat} (hC : C ≤ 255) (hD : D ≤ 255) (ht : t ≤ w) (hw : 0 < w) : (C * (w - t) + D * t) / w ≤ 255 := by
  have h1 : C * (w - t) ≤ 255 * (w - t) := Nat.mul_le_mul_right _ hC
  have h2 : D * t ≤ 255 * t := Nat.mul_le_mul_right _ hD
  have h3 : C * (w - t) + D * t ≤ w * 255 := by omega
  exact Nat.div_le_of_le_mul h3
theorem sp_btw_le {g : Nat → Nat} {o v : Nat} (hg : ∀ j, g j ≤ 255) (hv : v ≤ 255) : sp_btw g o v ≤ 255 := sp_mix_le (hg _) (hg _) (sp_far hv) (sp_w_pos _)
theorem gp_mix {C D t w : Nat} (hw : 0 < w) (ht : t ≤ w) : (C : Int) + (((D : Int) - C) * t) / w = ((C * (w - t) + D * t) / w : Nat) := by
  have e : ((C * (w - t) + D * t : Nat) : Int) = ((D : Int) - C) * t + (C : Int) * w := by
    have h1 : ((w - t : Nat) : Int) = (w : Int) - t := Int.ofNat_sub ht
    rw [Int.natCast_add, Int.natCast_mul, Int.natCast_mul, h1, Int.mul_sub, Int.sub_mul]
    omega
  rw [Int.natCast_ediv, e, Int.add_mul_ediv_right _ _ (by omega)]
  omega
theorem gp_tdivN (n b : Nat) (hb : 0 < b) : (-(n : Int)).tdiv b = -((n / b : Nat) : Int) := by
  rw [Int.neg_tdiv, Int.tdiv_eq_ediv_of_nonneg (by omega), Int.natCast_ediv]
theorem gp_edivN (n b : Nat) (hb : 0 < b) : (-(n : Int)) / b = if n % b = 0 then -((n / b : Nat) : Int) else -((n / b : Nat) : Int) - 1 := by
  have h1 : b * (n / b) + n % b = n := Nat.div_add_mod n b
  have h2 : n % b < b := Nat.mod_lt n hb
  have h3 : (n : Int) = (b : Int) * ((n / b : Nat) : Int) + ((n % b : Nat) : Int) := by rw [← Int.natCast_mul, ← Int.natCast_add, h1]
  split
  · rename_i h
    refine ((Int.ediv_emod_unique (r := 0) (by omega)).mpr ⟨?_, by omega, by omega⟩).1
    rw [h3, h, Int.mul_neg]
    omega
  · rename_i h
    refine ((Int.ediv_emod_unique (r := (b : Int) - ((n % b : Nat) : Int)) (by omega)).mpr ⟨?_, by omega, by omega⟩).1
    rw [h3, Int.mul_sub, Int.mul_neg]
    omega
/-- the quotient rounded to zero, mended -/
theorem gp_floor {a b : Int} (hb : 0 < b) : (0 ≤ a → a.tdiv b = a / b ∧ ¬ a < a.tdiv b * b) ∧ (a < 0 → a.tdiv b * b = a → a.tdiv b = a / b) ∧ (a < 0 → a.tdiv b * b ≠ a → a.tdiv b - 1 = a / b ∧ a < a.tdiv b * b) := by
  obtain ⟨b, rfl⟩ : ∃ k : Nat, b = k := ⟨b.toNat, by omega⟩
  refine ⟨fun h => ⟨Int.tdiv_eq_ediv_of_nonneg h, ?_⟩, fun h h2 => ?_, fun h h2 => ?_⟩
  · rw [Int.tdiv_eq_ediv_of_nonneg h]
    have := Int.ediv_mul_le a (b := (b : Int)) (by omega)
    omega
  all_goals
    obtain ⟨n, rfl⟩ : ∃ k : Nat, a = -(k : Int) := ⟨(-a).toNat, by omega⟩
    have hb' : 0 < b := by omega
    have h1 : b * (n / b) + n % b = n := Nat.div_add_mod n b
    have h3 : (n : Int) = ((n / b : Nat) : Int) * (b : Int) + ((n % b : Nat) : Int) := by rw [← Int.natCast_mul, ← Int.natCast_add, Nat.mul_comm, h1]
    rw [gp_tdivN n b hb', Int.neg_mul] at h2
    rw [gp_tdivN n b hb', gp_edivN n b hb']
  · rw [if_pos (by omega)]
  · rw [if_neg (by omega), Int.neg_mul]
    omega
theorem gp_xneg (x y : Int32) (hy : 0 ≤ y.toInt) : (x ^^^ y) < 0 ↔ x.toInt < 0 := by
  rw [Int32.lt_iff_toInt_lt]
  show (x ^^^ y).toBitVec.toInt < (0 : Int32).toInt ↔ x.toBitVec.toInt < 0
  have h0 : (0 : Int32).toInt = 0 := rfl
  have hy' : y.toBitVec.msb = false := by rw [BitVec.msb_eq_toInt]; simpa using hy
  have e : (x ^^^ y).toBitVec.msb = x.toBitVec.msb := by
    show (x.toBitVec ^^^ y.toBitVec).msb = _
    rw [BitVec.msb_xor, hy', Bool.xor_false]
  rw [BitVec.msb_eq_toInt, BitVec.msb_eq_toInt] at e
  rw [h0]
  exact decide_eq_decide.mp e
theorem gp_divT {x y : Int32} (hx : -1073741824 ≤ x.toInt ∧ x.toInt < 1073741824) (hy : 0 < y.toInt) : (x / y).toInt = x.toInt.tdiv y.toInt ∧ -1073741824 ≤ x.toInt.tdiv y.toInt ∧ x.toInt.tdiv y.toInt < 1073741824 := by
  have hb : -1073741824 ≤ x.toInt.tdiv y.toInt ∧ x.toInt.tdiv y.toInt < 1073741824 := by
    obtain ⟨b, hbe⟩ : ∃ k : Nat, y.toInt = k := ⟨y.toInt.toNat, by omega⟩
    rw [hbe] at hy ⊢
    rcases (by omega : x.toInt < 0 ∨ 0 ≤ x.toInt) with h | h
    · obtain ⟨n, hn⟩ : ∃ k : Nat, x.toInt = -(k : Int) := ⟨(-x.toInt).toNat, by omega⟩
      rw [hn, gp_tdivN n b (by omega)]
      have h9 := Nat.div_le_self n b
      generalize n / b = k at h9 ⊢
      omega
    · obtain ⟨n, hn⟩ : ∃ k : Nat, x.toInt = (k : Int) := ⟨x.toInt.toNat, by omega⟩
      rw [hn, Int.tdiv_eq_ediv_of_nonneg (by omega), ← Int.natCast_ediv]
      have h9 := Nat.div_le_self n b
      generalize n / b = k at h9 ⊢
      omega
  refine ⟨?_, hb⟩
  rw [Int32.toInt_div, fb_bmod (by omega) (by omega)]
/-- what a profile's way makes of a value of its curve -/
def sp_take (l g w f : Nat) : Nat := if w = 1 then l + f * (g - l) / 255 else max l (min g (if w = 2 then (if g < f then 2 * g - f else if f < l then 2 * l - f else f) else f))
theorem sp_take_le {l g w f : Nat} (hl : l ≤ g) (hg : g ≤ 255) (hf : f ≤ 255) : sp_take l g w f ≤ 255 := by
  unfold sp_take
  split
  · have h1 : f * (g - l) ≤ 255 * (g - l) := Nat.mul_le_mul_right _ hf
    have h2 : f * (g - l) / 255 ≤ g - l := Nat.div_le_of_le_mul h1
    omega
  · omega
def sp_curve (S : Nat → Nat → Nat) (p b v : Nat) : Nat := sp_btw (S 1) ((p * 3 + b) * 5) v
def sp_tk (S : Nat → Nat → Nat) (p b v : Nat) : Nat := sp_take (S 2 (p * 3 + b)) (S 3 (p * 3 + b)) (S 4 p) (sp_curve S p b v)
def sp_passTo (S : Nat → Nat → Nat) (ch b v : Nat) : Nat → Nat
  | 0 => v
  | k + 1 => sp_tk S (S 6 (ch * 6 + k)) b (sp_passTo S ch b v k)
def sp_pass (S : Nat → Nat → Nat) (ch b v : Nat) : Nat := sp_passTo S ch b v (S 7 ch)
/-- what holds of the rows at any time -/
def sp_ok (N : Nat → Nat) (S : Nat → Nat → Nat) : Prop := (N 0 ≤ 8 ∧ N 5 ≤ 6) ∧ (∀ j, S 1 j ≤ 255) ∧ (∀ j, S 2 j ≤ S 3 j) ∧ (∀ j, S 3 j ≤ 255) ∧ (∀ j, S 4 j ≤ 2) ∧ (∀ j, S 6 j < 8) ∧ (∀ j, S 7 j ≤ 6) ∧ (∀ j, S 8 j ≤ 255) ∧ (∀ j, S 12 j ≤ 255) ∧ (∀ j, S 13 j ≤ 255) ∧ (∀ j, S 14 j ≤ 255)
theorem sp_curve_le {N : Nat → Nat} {S : Nat → Nat → Nat} {p b v : Nat} (h : sp_ok N S) (hv : v ≤ 255) : sp_curve S p b v ≤ 255 := sp_btw_le h.2.1 hv
theorem sp_tk_le {N : Nat → Nat} {S : Nat → Nat → Nat} {p b v : Nat} (h : sp_ok N S) (hv : v ≤ 255) : sp_tk S p b v ≤ 255 := sp_take_le (h.2.2.1 _) (h.2.2.2.1 _) (sp_curve_le h hv)
theorem sp_passTo_le {N : Nat → Nat} {S : Nat → Nat → Nat} {ch b v : Nat} (h : sp_ok N S) (hv : v ≤ 255) : ∀ k, sp_passTo S ch b v k ≤ 255
  | 0 => hv
  | k + 1 => sp_tk_le h (sp_passTo_le h hv k)
theorem sp_pass_le {N : Nat → Nat} {S : Nat → Nat → Nat} {ch b v : Nat} (h : sp_ok N S) (hv : v ≤ 255) : sp_pass S ch b v ≤ 255 := sp_passTo_le h hv _
/-- the bit b of a set -/
def sp_bit (x b : Nat) : Nat := x / 2 ^ b % 2
theorem s_l : ∀ n, n < 32 → ((nI n &&& 31).toBitVec.smod 32).toNat = n := by decide +kernel
theorem gp_mulback (a b : Int) (ha : -1073741824 ≤ a ∧ a < 1073741824) (hb : 0 < b) : -1073741824 ≤ a.tdiv b * b ∧ a.tdiv b * b < 1073741824 := by
  obtain ⟨b, rfl⟩ : ∃ k : Nat, b = k := ⟨b.toNat, by omega⟩
  rcases (by omega : a < 0 ∨ 0 ≤ a) with h | h
  · obtain ⟨n, rfl⟩ : ∃ k : Nat, a = -(k : Int) := ⟨(-a).toNat, by omega⟩
    rw [gp_tdivN n b (by omega), Int.neg_mul, ← Int.natCast_mul]
    have h9 := Nat.div_mul_le_self n b
    generalize n / b * b = k at h9 ⊢
    omega
  · obtain ⟨n, rfl⟩ : ∃ k : Nat, a = (k : Int) := ⟨a.toNat, by omega⟩
    rw [Int.tdiv_eq_ediv_of_nonneg (by omega), ← Int.natCast_ediv, ← Int.natCast_mul]
    have h9 := Nat.div_mul_le_self n b
    generalize n / b * b = k at h9 ⊢
    omega
/-- the profiles of a chain, and those of the signed chains, as sets -/
def sp_ofTo (S : Nat → Nat → Nat) (ch : Nat) : Nat → Nat
  | 0 => 0
  | k + 1 => sp_ofTo S ch k ||| 2 ^ (S 6 (ch * 6 + k))
def sp_of (S : Nat → Nat → Nat) (ch : Nat) : Nat := sp_ofTo S ch (S 7 ch)
def sp_heldTo (N : Nat → Nat) (S : Nat → Nat → Nat) : Nat → Nat
  | 0 => 0
  | c + 1 => if sp_bit (N 10) c = 1 then sp_heldTo N S c ||| sp_of S c else sp_heldTo N S c
def sp_held (N : Nat → Nat) (S : Nat → Nat → Nat) : Nat := sp_heldTo N S 6
/-- a pixel's band with the inks that the device has not -/
def sp_inkTo (S : Nat → Nat → Nat) (px bd ks : Nat) : Nat → Nat
  | 0 => S 12 (px * 3 + bd)
  | k + 1 => if sp_bit ks k = 1 then sp_inkTo S px bd ks k else min 255 (sp_inkTo S px bd ks k + S 14 (k * 3 + bd) * S 13 (px * 3 + k) / 255)
def sp_ink (S : Nat → Nat → Nat) (px bd ks : Nat) : Nat := sp_inkTo S px bd ks 3
/-- whether a chain differs from what is kept of it, at the first k of its fifteen places -/
def sp_difTo (S : Nat → Nat → Nat) (ch : Nat) : Nat → Nat
  | 0 => 0
  | k + 1 => if sp_difTo S ch k = 1 then 1 else if sp_pass S ch (k / 5) (sp_vop (k % 5)) = S 8 (ch * 15 + k) then 0 else 1
def sp_dif (S : Nat → Nat → Nat) (ch : Nat) : Nat := sp_difTo S ch 15
def sp_staleTo (N : Nat → Nat) (S : Nat → Nat → Nat) : Nat → Nat
  | 0 => 0
  | c + 1 => if sp_bit (N 9) c = 1 ∧ sp_dif S c = 1 then sp_staleTo N S c ||| 2 ^ c else sp_staleTo N S c
def sp_stale (N : Nat → Nat) (S : Nat → Nat → Nat) : Nat := sp_staleTo N S 6
theorem sp_bit_lt (x b : Nat) : sp_bit x b < 2 := Nat.mod_lt _ (by decide)
theorem sp_or_lt {a b k : Nat} (ha : a < 2 ^ k) (hb : b < 2 ^ k) : a ||| b < 2 ^ k := Nat.or_lt_two_pow ha hb
theorem sp_ofTo_lt {N : Nat → Nat} {S : Nat → Nat → Nat} {ch : Nat} (h : sp_ok N S) : ∀ k, sp_ofTo S ch k < 2 ^ 8
  | 0 => Nat.le_of_ble_eq_true rfl
  | k + 1 => sp_or_lt (sp_ofTo_lt h k) (Nat.pow_lt_pow_right (by decide) (h.2.2.2.2.2.1 _))
theorem sp_of_lt {N : Nat → Nat} {S : Nat → Nat → Nat} {ch : Nat} (h : sp_ok N S) : sp_of S ch < 2 ^ 8 := sp_ofTo_lt h _
theorem sp_heldTo_lt {N : Nat → Nat} {S : Nat → Nat → Nat} (h : sp_ok N S) : ∀ k, sp_heldTo N S k < 2 ^ 8
  | 0 => Nat.le_of_ble_eq_true rfl
  | k + 1 => by
    unfold sp_heldTo
    split
    · exact sp_or_lt (sp_heldTo_lt h k) (sp_of_lt h)
    · exact sp_heldTo_lt h k
theorem sp_held_lt {N : Nat → Nat} {S : Nat → Nat → Nat} (h : sp_ok N S) : sp_held N S < 2 ^ 8 := sp_heldTo_lt h _
theorem sp_inkTo_le {N : Nat → Nat} {S : Nat → Nat → Nat} {px bd ks : Nat} (h : sp_ok N S) : ∀ k, sp_inkTo S px bd ks k ≤ 255
  | 0 => h.2.2.2.2.2.2.2.2.1 _
  | k + 1 => by
    unfold sp_inkTo
    split
    · exact sp_inkTo_le h k
    · omega
theorem sp_ink_le {N : Nat → Nat} {S : Nat → Nat → Nat} {px bd ks : Nat} (h : sp_ok N S) : sp_ink S px bd ks ≤ 255 := sp_inkTo_le h _
theorem sp_difTo_lt (S : Nat → Nat → Nat) (ch : Nat) : ∀ k, sp_difTo S ch k < 2
  | 0 => Nat.le_of_ble_eq_true rfl
  | k + 1 => by
    unfold sp_difTo
    split
    · decide
    · split <;> decide
theorem sp_difTo_up {S : Nat → Nat → Nat} {ch : Nat} : ∀ {k n : Nat}, k ≤ n → sp_difTo S ch k = 1 → sp_difTo S ch n = 1
  | k, n, hk, h => by
    induction hk with
    | refl => exact h
    | step _ ih => unfold sp_difTo; rw [if_pos ih]
theorem sp_staleTo_lt (N : Nat → Nat) (S : Nat → Nat → Nat) : ∀ k, k ≤ 6 → sp_staleTo N S k < 2 ^ 6
  | 0, _ => by show (0 : Nat) < 2 ^ 6; decide
  | k + 1, hk => by
    unfold sp_staleTo
    split
    · exact sp_or_lt (sp_staleTo_lt N S k (by omega)) (Nat.pow_lt_pow_right (by decide) (by omega))
    · exact sp_staleTo_lt N S k (by omega)
theorem gp_prod {C D t : Nat} (hC : C ≤ 255) (hD : D ≤ 255) (ht : t ≤ 64) : ((nI D - nI C) * nI t).toInt = ((D : Int) - C) * (t : Int) ∧ -16320 ≤ ((nI D - nI C) * nI t).toInt ∧ ((nI D - nI C) * nI t).toInt ≤ 16320 := by
  have h1 : (nI D - nI C).toInt = (D : Int) - C := pk_sub_toInt (by omega) (by omega)
  have h2 : (nI t).toInt = (t : Int) := nI_toInt (by omega)
  have hb : -16320 ≤ ((D : Int) - C) * (t : Int) ∧ ((D : Int) - C) * (t : Int) ≤ 16320 := by
    rcases Nat.le_total C D with h | h
    · have e : ((D : Int) - C) * (t : Int) = (((D - C) * t : Nat) : Int) := by rw [Int.natCast_mul, Int.ofNat_sub h]
      have h3 : (D - C) * t ≤ 255 * 64 := Nat.mul_le_mul (by omega) ht
      rw [e]
      omega
    · have e : ((D : Int) - C) * (t : Int) = -(((C - D) * t : Nat) : Int) := by
        rw [Int.natCast_mul, Int.ofNat_sub h, ← Int.neg_mul]
        congr 1
        omega
      have h3 : (C - D) * t ≤ 255 * 64 := Nat.mul_le_mul (by omega) ht
      rw [e]
      omega
  have e : ((nI D - nI C) * nI t).toInt = ((D : Int) - C) * (t : Int) := by
    rw [fb_mulI (by rw [h1, h2]; omega) (by rw [h1, h2]; omega), h1, h2]
  exact ⟨e, by rw [e]; exact hb.1, by rw [e]; exact hb.2⟩
theorem gp_btwR {C D t w sw X : Nat} {r z : Int32} (hS : X = (C * (sw - t) + D * t) / sw) (hw : w = sw) (hr : r.toInt = z.toInt / (nI w).toInt) (hz : z.toInt = ((D : Int) - C) * (t : Int)) (h0 : 0 < sw) (h1 : sw ≤ 64) (ht : t ≤ sw) (hC : C ≤ 255) (hD : D ≤ 255) : nI C + r = nI X := by
  have hX := sp_mix_le hC hD ht h0
  rw [← hS] at hX
  have e1 : (C : Int) + r.toInt = (X : Int) := by
    rw [hr, hz, hw, nI_toInt (by omega), gp_mix h0 ht, hS]
  have hc : (nI C).toInt = (C : Int) := nI_toInt (by omega)
  refine gp_nat (by omega) ?_
  rw [fb_addI (by rw [hc]; omega) (by rw [hc]; omega), hc, e1]
theorem gp_clamp {l g f : Nat} {y z : Int32} (hl : l ≤ g) (hg : g ≤ 255) (hf : f ≤ 255) (hz : z.toInt = if g < f then 2 * (g : Int) - f else if f < l then 2 * (l : Int) - f else f) (ey : y = if z < nI g then z else nI g) :
    (if nI l < y then y else nI l) = nI (max l (min g (if g < f then 2 * g - f else if f < l then 2 * l - f else f))) := by
  have tl : (nI l).toInt = (l : Int) := nI_toInt (by omega)
  have tg : (nI g).toInt = (g : Int) := nI_toInt (by omega)
  have hy : y.toInt = min z.toInt (g : Int) := by
    rw [ey]
    by_cases h : z < nI g
    · rw [if_pos h]
      have h2 := Int32.lt_iff_toInt_lt.mp h
      omega
    · rw [if_neg h, tg]
      have h2 : ¬ z.toInt < (nI g).toInt := fun q => h (Int32.lt_iff_toInt_lt.mpr q)
      omega
  refine gp_nat ?_ ?_
  · split <;> first | omega | (split <;> omega)
  by_cases h : nI l < y
  · rw [if_pos h]
    have h2 := Int32.lt_iff_toInt_lt.mp h
    rw [hy] at h2 ⊢
    rw [tl] at h2
    rw [hz] at h2 ⊢
    by_cases c1 : g < f
    · rw [if_pos c1] at h2 ⊢
      rw [if_pos c1]
      omega
    · rw [if_neg c1] at h2 ⊢
      rw [if_neg c1]
      by_cases c2 : f < l
      · rw [if_pos c2] at h2 ⊢
        rw [if_pos c2]
        omega
      · rw [if_neg c2] at h2 ⊢
        rw [if_neg c2]
        omega
  · rw [if_neg h, tl]
    have h2 : ¬ (nI l).toInt < y.toInt := fun q => h (Int32.lt_iff_toInt_lt.mpr q)
    rw [hy, tl, hz] at h2
    by_cases c1 : g < f
    · rw [if_pos c1] at h2
      rw [if_pos c1]
      omega
    · rw [if_neg c1] at h2
      rw [if_neg c1]
      by_cases c2 : f < l
      · rw [if_pos c2] at h2
        rw [if_pos c2]
        omega
      · rw [if_neg c2] at h2
        rw [if_neg c2]
        omega
theorem sp_b31 (x b : Nat) : sp_bit x b < 2 ^ 31 := Nat.lt_trans (sp_bit_lt x b) (by decide)
theorem sp_dif_lt (S : Nat → Nat → Nat) (ch : Nat) : sp_dif S ch < 2 := sp_difTo_lt S ch 15
theorem sp_d31 (S : Nat → Nat → Nat) (ch : Nat) : sp_dif S ch < 2 ^ 31 := Nat.lt_trans (sp_dif_lt S ch) (by decide)
theorem sp_stale_y {N : Nat → Nat} {S : Nat → Nat → Nat} {c : Nat} (h : sp_bit (N 9) c = 1 ∧ sp_dif S c = 1) : sp_staleTo N S (c + 1) = sp_staleTo N S c ||| 2 ^ c := if_pos h
theorem sp_stale_n {N : Nat → Nat} {S : Nat → Nat → Nat} {c : Nat} (h : ¬ (sp_bit (N 9) c = 1 ∧ sp_dif S c = 1)) : sp_staleTo N S (c + 1) = sp_staleTo N S c := if_neg h
theorem sp_held_y {N : Nat → Nat} {S : Nat → Nat → Nat} {c : Nat} (h : sp_bit (N 10) c = 1) : sp_heldTo N S (c + 1) = sp_heldTo N S c ||| sp_of S c := if_pos h
theorem sp_held_n {N : Nat → Nat} {S : Nat → Nat → Nat} {c : Nat} (h : ¬ sp_bit (N 10) c = 1) : sp_heldTo N S (c + 1) = sp_heldTo N S c := if_neg h
theorem sp_ink_y {S : Nat → Nat → Nat} {px bd ks k : Nat} (h : sp_bit ks k = 1) : sp_inkTo S px bd ks (k + 1) = sp_inkTo S px bd ks k := if_pos h
theorem sp_ink_n {S : Nat → Nat → Nat} {px bd ks k : Nat} (h : ¬ sp_bit ks k = 1) : sp_inkTo S px bd ks (k + 1) = min 255 (sp_inkTo S px bd ks k + S 14 (k * 3 + bd) * S 13 (px * 3 + k) / 255) := if_neg h
theorem sp_dif_e {S : Nat → Nat → Nat} {ch b k : Nat} (h : sp_difTo S ch (b * 5 + k) = 0) (hk : k < 5) (he : sp_pass S ch b (sp_vop k) = S 8 ((ch * 3 + b) * 5 + k)) : sp_difTo S ch (b * 5 + (k + 1)) = 0 := by
  show (if sp_difTo S ch (b * 5 + k) = 1 then 1 else if sp_pass S ch ((b * 5 + k) / 5) (sp_vop ((b * 5 + k) % 5)) = S 8 (ch * 15 + (b * 5 + k)) then 0 else 1) = 0
  rw [if_neg (by omega), show (b * 5 + k) / 5 = b from by omega, show (b * 5 + k) % 5 = k from by omega, show ch * 15 + (b * 5 + k) = (ch * 3 + b) * 5 + k from by omega, if_pos he]
theorem sp_dif_d {S : Nat → Nat → Nat} {ch b k : Nat} (h : sp_difTo S ch (b * 5 + k) = 0) (hk : k < 5) (hb : b < 3) (he : sp_pass S ch b (sp_vop k) ≠ S 8 ((ch * 3 + b) * 5 + k)) : sp_dif S ch = 1 := by
  refine sp_difTo_up (k := b * 5 + k + 1) (by omega) ?_
  show (if sp_difTo S ch (b * 5 + k) = 1 then 1 else if sp_pass S ch ((b * 5 + k) / 5) (sp_vop ((b * 5 + k) % 5)) = S 8 (ch * 15 + (b * 5 + k)) then 0 else 1) = 1
  rw [if_neg (by omega), show (b * 5 + k) / 5 = b from by omega, show (b * 5 + k) % 5 = k from by omega, show ch * 15 + (b * 5 + k) = (ch * 3 + b) * 5 + k from by omega, if_neg he]
theorem sp_vop_le {k : Nat} : sp_vop k ≤ 255 := Nat.min_le_right _ _
section GN2
variable {p : Program} {l : Launch} {e : Env} {R : Room} {s : State} {m : MethodId} {args : Array Value} {below : List Frame} {meth : Method} {c : Code} {H : Heap} {locs : List Loc} {cells slots : Nat} {Q : State → Prop}
variable {cc : ByteArray} {nL pc index : Nat} {ret : Option FieldType} {ws : List Cond} {own : String} {rest : List Value} {ls : Array Slot} {a b : Nat}
theorem gn_ior (G : gF p s m args meth c cc ret nL own ws) (d : decode cc pc = .ok (.ior, 1)) (k : W p l e R s m args below meth c H locs cells slots Q (F0 m (pc + 1) ls (.int (nI (a ||| b)) :: rest))) : W p l e R s m args below meth c H locs cells slots Q (F0 m pc ls (.int (nI b) :: .int (nI a) :: rest)) :=
  lv_ior G.1 G.2.1 d (by rw [fa_or]; exact k)
theorem gn_ixor (G : gF p s m args meth c cc ret nL own ws) (d : decode cc pc = .ok (.ixor, 1)) (k : W p l e R s m args below meth c H locs cells slots Q (F0 m (pc + 1) ls (.int (nI (a ^^^ b)) :: rest))) : W p l e R s m args below meth c H locs cells slots Q (F0 m pc ls (.int (nI b) :: .int (nI a) :: rest)) :=
  lv_ixor G.1 G.2.1 d (by rw [fb_xorI]; exact k)
theorem gn_ishl (G : gF p s m args meth c cc ret nL own ws) (d : decode cc pc = .ok (.ishl, 1)) (hb : b < 31) (k : W p l e R s m args below meth c H locs cells slots Q (F0 m (pc + 1) ls (.int (nI (2 ^ b)) :: rest))) : W p l e R s m args below meth c H locs cells slots Q (F0 m pc ls (.int (nI b) :: .int (nI 1) :: rest)) :=
  lv_ishl G.1 G.2.1 d (by
    rw [pk_shlN _ b (s_l b (by omega)) (by rw [Nat.one_mul]; exact Nat.pow_lt_pow_right (by decide) (by omega)), Nat.one_mul]
    exact k)
end GN2
end
section
/-! the class's small static methods -/
set_option maxRecDepth 100000 in
set_option maxHeartbeats 4000000 in
/-- a row is read -/
theorem mX0_read (l : Launch) (D : va_G) (a : Nat) (cI : ClassId) (n : Nat) (F : Nat → Nat) (i : Nat) (hi : i < n) (hn : n < 2 ^ 31 := by decide) : Met l yX0_read wsX0_read { frames := 0, cells := 0, slots := 0, locals := 0 } (va_Pc [.ref a, .int (nI i)] (fun U => rAt D a cI n F U U.heap)) (vp_Si (fun r => r = nI (F i))) 0 0 (fun _ => False) := by
  refine gc_met [.ref a, .int (nI i)] (by decide) rfl (Nat.le_of_ble_eq_true rfl) rfl ?_
  intro p e s m below meth c ls G hl hX
  refine lv_aload_n G.1 G.2.1 dX0_read_0 rfl (lv_at hl 0 rfl) ?_
  refine lv_ifnull G.1 G.2.1 dX0_read_1 ?_
  refine lv_iload_n G.1 G.2.1 dX0_read_4 rfl (lv_at hl 1 rfl) ?_
  refine gn_ltz G (by omega) (tgt := 20) dX0_read_5 (by decide) ?_
  refine lv_iload_n G.1 G.2.1 dX0_read_8 rfl (lv_at hl 1 rfl) ?_
  refine lv_aload_n G.1 G.2.1 dX0_read_9 rfl (lv_at hl 0 rfl) ?_
  refine va_alen (D := D) G.1 G.2.1 hX.2 hX.1 0 0 rfl rfl (v := nI n) rfl dX0_read_10 ?_
  refine gn_ge G (by omega) (by omega) (tgt := 20) dX0_read_11 (by decide) (fun h_11 => absurd h_11 (by omega)) (fun h_11 => ?_)
  refine lv_aload_n G.1 G.2.1 dX0_read_14 rfl (lv_at hl 0 rfl) ?_
  refine lv_iload_n G.1 G.2.1 dX0_read_15 rfl (lv_at hl 1 rfl) ?_
  refine va_iald (D := D) G.1 G.2.1 hX.2 hX.1 0 0 (f := gr F) rfl rfl (vp_in_nI hi hn) dX0_read_16 ?_
  rw [nI_clamp (by omega)]
  refine lv_goto (tgt := 21) G.1 G.2.1 dX0_read_17 (by decide) ?_
  exact W.iret G.1 G.2.1 G.2.2.1 (fun t ht hW => ⟨_, rfl, rfl, ht⟩) (fun q h => nomatch h) dX0_read_21 G.2.2.2.2.2.2
set_option maxRecDepth 100000 in
set_option maxHeartbeats 4000000 in
/-- a bit is read -/
theorem mX0_hasBit (l : Launch) (x b : Nat) (hx : x < 2 ^ 31) (hb : b < 32) : Met l yX0_hasBit wsX0_hasBit { frames := 0, cells := 0, slots := 0, locals := 0 } (va_Pc [.int (nI x), .int (nI b)] (fun _ => True)) (vp_Si (fun r => r = nI (sp_bit x b))) 0 0 (fun _ => False) := by
  refine gc_met [.int (nI x), .int (nI b)] (by decide) rfl (Nat.le_of_ble_eq_true rfl) rfl ?_
  intro p e s m below meth c ls G hl _
  refine lv_iload_n G.1 G.2.1 dX0_hasBit_0 rfl (lv_at hl 0 rfl) ?_
  refine lv_iload_n G.1 G.2.1 dX0_hasBit_1 rfl (lv_at hl 1 rfl) ?_
  refine lv_ishr G.1 G.2.1 dX0_hasBit_2 ?_
  rw [pk_shrN hx _ b (s_l b hb)]
  refine lv_iconst (v := nI 1) G.1 G.2.1 dX0_hasBit_3 (by decide) ?_
  refine lv_iand G.1 G.2.1 dX0_hasBit_4 ?_
  rw [show nI 1 = nI (2 ^ 1 - 1) from rfl, fa_mask]
  refine lv_iconst (v := nI 1) G.1 G.2.1 dX0_hasBit_5 (by decide) ?_
  refine gn_ne G (by omega) (by omega) (tgt := 13) dX0_hasBit_6 (by decide) (fun h_6 => ?_) (fun h_6 => ?_)
  · refine lv_iconst (v := nI 0) G.1 G.2.1 dX0_hasBit_13 (by decide) ?_
    exact W.zret G.1 G.2.1 G.2.2.1 rfl (fun t ht hW => ⟨_, rfl, by have h9 := h_6; unfold sp_bit; first | (rw [show x / 2 ^ b % 2 = 1 from h9]) | (rw [show x / 2 ^ b % 2 = 0 from by have h8 : ¬ x / 2 ^ b % 2 = 1 := h9; omega]), ht⟩) (fun q h => nomatch h) dX0_hasBit_14 G.2.2.2.2.2.2
  · refine lv_iconst (v := nI 1) G.1 G.2.1 dX0_hasBit_9 (by decide) ?_
    refine lv_goto (tgt := 14) G.1 G.2.1 dX0_hasBit_10 (by decide) ?_
    exact W.zret G.1 G.2.1 G.2.2.1 rfl (fun t ht hW => ⟨_, rfl, by have h9 := h_6; unfold sp_bit; first | (rw [show x / 2 ^ b % 2 = 1 from h9]) | (rw [show x / 2 ^ b % 2 = 0 from by have h8 : ¬ x / 2 ^ b % 2 = 1 := h9; omega]), ht⟩) (fun q h => nomatch h) dX0_hasBit_14 G.2.2.2.2.2.2
set_option maxRecDepth 100000 in
set_option maxHeartbeats 4000000 in
/-- the value of a place -/
theorem mX0_valueOfPlace (l : Launch) (k : Nat) (hk : k < 5) : Met l yX0_valueOfPlace wsX0_valueOfPlace { frames := 1, cells := 0, slots := 0, locals := 13 } (va_Pc [.int (nI k)] (fun _ => True)) (vp_Si (fun r => r = nI (sp_vop k))) 0 0 (fun _ => False) := by
  refine gc_met [.int (nI k)] (by decide) rfl (Nat.le_of_ble_eq_true rfl) rfl ?_
  intro p e s m below meth c ls G hl _
  refine lv_iload_n G.1 G.2.1 dX0_valueOfPlace_0 rfl (lv_at hl 0 rfl) ?_
  refine lv_bipush (v := nI 64) G.1 G.2.1 dX0_valueOfPlace_1 (by decide) ?_
  refine gn_imul G dX0_valueOfPlace_3 ?_
  refine lv_sipush (v := nI 255) G.1 G.2.1 dX0_valueOfPlace_4 (by decide) ?_
  refine gr_min G hl.1 (ix := 119) (by decide +kernel) (by decide +kernel) (by decide +kernel) (by decide +kernel) (Nat.le_of_ble_eq_true rfl) (Nat.le_of_ble_eq_true rfl) (Nat.zero_le _) (Nat.zero_le _) (by omega) (by omega) dX0_valueOfPlace_7 ?_
  exact W.iret G.1 G.2.1 G.2.2.1 (fun t ht hW => ⟨_, rfl, rfl, ht⟩) (fun q h => nomatch h) dX0_valueOfPlace_10 G.2.2.2.2.2.2
set_option maxRecDepth 100000 in
set_option maxHeartbeats 4000000 in
/-- Math.floorDiv of small ints, by a positive one: the quotient rounded down -/
theorem mJ9_floorDiv (l : Launch) (x y : Int32) (hx : -1073741824 ≤ x.toInt ∧ x.toInt < 1073741824) (hy : 0 < y.toInt) : Met l yJ9_floorDiv_7cf53 wsJ9_floorDiv_7cf53 { frames := 0, cells := 0, slots := 0, locals := 0 } (va_Pc [.int x, .int y] (fun _ => True)) (vp_Si (fun r => r.toInt = x.toInt / y.toInt)) 0 0 (fun _ => False) := by
  refine gc_metF [.int x, .int y] (by decide +kernel) rfl (Nat.le_of_ble_eq_true rfl) rfl ?_
  intro p e s m below meth c ls G hl _
  have hy0 : ¬ y = 0 := fun z => by rw [z] at hy; exact absurd hy (by decide)
  obtain ⟨e1, e2, e3⟩ := gp_divT hx hy
  obtain ⟨f1, f2, f3⟩ := gp_floor (a := x.toInt) hy
  refine lv_iload_n G.1 G.2.1 dJ9_floorDiv_7cf53_0 rfl (lv_at hl 0 rfl) ?_
  refine lv_iload_n G.1 G.2.1 dJ9_floorDiv_7cf53_1 rfl (lv_at hl 1 rfl) ?_
  refine lv_idiv G.1 G.2.1 dJ9_floorDiv_7cf53_2 hy0 ?_
  refine lv_topi (fun d ed => ?_)
  have ed1 : d.toInt = x.toInt.tdiv y.toInt := by rw [ed]; exact e1
  refine lv_istore_n (lv' := [(2, .int d), (0, .int x), (1, .int y)]) G.1 G.2.1 dJ9_floorDiv_7cf53_3 rfl hl (by decide) rfl (fun ls hl => ?_)
  refine lv_iload_n G.1 G.2.1 dJ9_floorDiv_7cf53_4 rfl (lv_at hl 1 rfl) ?_
  refine lv_iload_n G.1 G.2.1 dJ9_floorDiv_7cf53_5 rfl (lv_at hl 2 rfl) ?_
  refine lv_ixor G.1 G.2.1 dJ9_floorDiv_7cf53_6 ?_
  have em : (d * y).toInt = x.toInt.tdiv y.toInt * y.toInt := by
    rw [Int32.toInt_mul, ed1]
    have hb := gp_mulback x.toInt y.toInt hx hy
    exact fb_bmod (by omega) (by omega)
  refine lv_if_ge (tgt := 21) G.1 G.2.1 dJ9_floorDiv_7cf53_7 (by decide) (fun h => ?_) (fun h => ?_)
  · have hn : ¬ x.toInt < 0 := fun z => by
      have h1 := (gp_xneg x y (by omega)).mpr z
      have h2 := Int32.lt_iff_toInt_lt.mp h1
      have h3 := Int32.le_iff_toInt_le.mp h
      omega
    refine lv_iload_n G.1 G.2.1 dJ9_floorDiv_7cf53_21 rfl (lv_at hl 0 rfl) ?_
    exact W.iret G.1 G.2.1 G.2.2.1 (fun t ht hW => ⟨_, rfl, by show d.toInt = _; rw [ed1]; exact (f1 (by omega)).1, ht⟩) (fun q h => nomatch h) dJ9_floorDiv_7cf53_22 G.2.2.2.2.2.2
  · have hn : x.toInt < 0 := by
      refine (gp_xneg x y (by omega)).mp ?_
      rw [Int32.lt_iff_toInt_lt]
      have h3 : ¬ (0 : Int32).toInt ≤ (x ^^^ y).toInt := fun z => h (Int32.le_iff_toInt_le.mpr z)
      omega
    refine lv_iload_n G.1 G.2.1 dJ9_floorDiv_7cf53_10 rfl (lv_at hl 0 rfl) ?_
    refine lv_iload_n G.1 G.2.1 dJ9_floorDiv_7cf53_11 rfl (lv_at hl 2 rfl) ?_
    refine lv_imul G.1 G.2.1 dJ9_floorDiv_7cf53_12 ?_
    refine lv_iload_n G.1 G.2.1 dJ9_floorDiv_7cf53_13 rfl (lv_at hl 1 rfl) ?_
    refine lv_icmp_eq (tgt := 21) G.1 G.2.1 dJ9_floorDiv_7cf53_14 (by decide) (fun h2 => ?_) (fun h2 => ?_)
    · have h3 : x.toInt.tdiv y.toInt * y.toInt = x.toInt := by rw [← em, h2]
      refine lv_iload_n G.1 G.2.1 dJ9_floorDiv_7cf53_21 rfl (lv_at hl 0 rfl) ?_
      exact W.iret G.1 G.2.1 G.2.2.1 (fun t ht hW => ⟨_, rfl, by show d.toInt = _; rw [ed1]; exact f2 hn h3, ht⟩) (fun q h => nomatch h) dJ9_floorDiv_7cf53_22 G.2.2.2.2.2.2
    · have h3 : x.toInt.tdiv y.toInt * y.toInt ≠ x.toInt := fun z => h2 (Int32.toInt_inj.mp (by rw [em, z]))
      refine lv_iload_n G.1 G.2.1 dJ9_floorDiv_7cf53_17 rfl (lv_at hl 0 rfl) ?_
      refine lv_iconst (v := 1) G.1 G.2.1 dJ9_floorDiv_7cf53_18 (by decide) ?_
      refine lv_isub G.1 G.2.1 dJ9_floorDiv_7cf53_19 ?_
      exact W.iret G.1 G.2.1 G.2.2.1 (fun t ht hW => ⟨_, rfl, by show (d - 1).toInt = _; rw [fb_subI (by rw [ed1]; show -2147483648 ≤ x.toInt.tdiv y.toInt - 1; omega) (by rw [ed1]; show x.toInt.tdiv y.toInt - 1 < 2147483648; omega), ed1]; exact (f3 hn h3).1, ht⟩) (fun q h => nomatch h) dJ9_floorDiv_7cf53_20 G.2.2.2.2.2.2
set_option maxRecDepth 100000 in
set_option maxHeartbeats 4000000 in
/-- fold of three bytes -/
theorem mX0_fold (l : Launch) (v a b : Nat) (hv : v ≤ 255) (ha : a ≤ 255) (hb : b ≤ 255) : Met l yX0_fold wsX0_fold { frames := 0, cells := 0, slots := 0, locals := 0 } (va_Pc [.int (nI v), .int (nI a), .int (nI b)] (fun _ => True)) (vp_Si (fun r => r.toInt = if b < v then 2 * (b : Int) - v else if v < a then 2 * (a : Int) - v else v)) 0 0 (fun _ => False) := by
  refine gc_met [.int (nI v), .int (nI a), .int (nI b)] (by decide) rfl (Nat.le_of_ble_eq_true rfl) rfl ?_
  intro p e s m below meth c ls G hl _
  have tv := nI_toInt (n := v) (by omega)
  have ta := nI_toInt (n := a) (by omega)
  have tb := nI_toInt (n := b) (by omega)
  refine lv_iload_n G.1 G.2.1 dX0_fold_0 rfl (lv_at hl 0 rfl) ?_
  refine lv_iload_n G.1 G.2.1 dX0_fold_1 rfl (lv_at hl 2 rfl) ?_
  refine gn_le G (by omega) (by omega) (tgt := 11) dX0_fold_2 (by decide) (fun h1 => ?_) (fun h1 => ?_)
  · refine lv_iload_n G.1 G.2.1 dX0_fold_11 rfl (lv_at hl 0 rfl) ?_
    refine lv_iload_n G.1 G.2.1 dX0_fold_12 rfl (lv_at hl 1 rfl) ?_
    refine gn_ge G (by omega) (by omega) (tgt := 22) dX0_fold_13 (by decide) (fun h2 => ?_) (fun h2 => ?_)
    · refine lv_iload_n G.1 G.2.1 dX0_fold_22 rfl (lv_at hl 0 rfl) ?_
      exact W.iret G.1 G.2.1 G.2.2.1 (fun t ht hW => ⟨_, rfl, by show (nI v).toInt = _; rw [tv, if_neg (by omega), if_neg (by omega)], ht⟩) (fun q h => nomatch h) dX0_fold_23 G.2.2.2.2.2.2
    · refine lv_iload_n G.1 G.2.1 dX0_fold_16 rfl (lv_at hl 1 rfl) ?_
      refine lv_iload_n G.1 G.2.1 dX0_fold_17 rfl (lv_at hl 1 rfl) ?_
      refine lv_iload_n G.1 G.2.1 dX0_fold_18 rfl (lv_at hl 0 rfl) ?_
      refine gn_isub G dX0_fold_19 (by omega) ?_
      refine gn_iadd G dX0_fold_20 ?_
      exact W.iret G.1 G.2.1 G.2.2.1 (fun t ht hW => ⟨_, rfl, by show (nI (a + (a - v))).toInt = _; rw [nI_toInt (by omega), if_neg (by omega), if_pos (by omega)]; omega, ht⟩) (fun q h => nomatch h) dX0_fold_21 G.2.2.2.2.2.2
  · refine lv_iload_n G.1 G.2.1 dX0_fold_5 rfl (lv_at hl 2 rfl) ?_
    refine lv_iload_n G.1 G.2.1 dX0_fold_6 rfl (lv_at hl 0 rfl) ?_
    refine lv_iload_n G.1 G.2.1 dX0_fold_7 rfl (lv_at hl 2 rfl) ?_
    refine gn_isub G dX0_fold_8 (by omega) ?_
    refine lv_isub G.1 G.2.1 dX0_fold_9 ?_
    exact W.iret G.1 G.2.1 G.2.2.1 (fun t ht hW => ⟨_, rfl, by show (nI b - nI (v - b)).toInt = _; rw [if_pos (by omega), pk_sub_toInt (by omega) (by omega)]; omega, ht⟩) (fun q h => nomatch h) dX0_fold_10 G.2.2.2.2.2.2
end
section
/-! the class's own methods that only read -/
set_option maxRecDepth 100000 in
set_option maxHeartbeats 4000000 in
/-- the value between two places of a row -/
theorem mX0_between (l : Launch) (D : va_G) (a : Nat) (cI : ClassId) (n : Nat) (F : Nat → Nat) (o v : Nat) (ho : o + 4 < n) (hv : v ≤ 255) (hF : F (o + v / 64) ≤ 255 ∧ F (o + v / 64 + 1) ≤ 255) (hn : n < 2 ^ 31 := by decide) : Met l yX0_between wsX0_between { frames := 1, cells := 0, slots := 0, locals := 22 } (va_Pc [.ref a, .int (nI o), .int (nI v)] (fun U => rAt D a cI n F U U.heap)) (vp_Si (fun r => r = nI (sp_btw F o v))) 0 0 (fun _ => False) := by
  refine gc_met [.ref a, .int (nI o), .int (nI v)] (by decide) rfl (Nat.le_of_ble_eq_true rfl) rfl ?_
  intro p e s m below meth c ls G hl hX
  have hFa := hF.1
  have hFb := hF.2
  refine lv_iload_n G.1 G.2.1 dX0_between_0 rfl (lv_at hl 2 rfl) ?_
  refine lv_bipush (v := nI 64) G.1 G.2.1 dX0_between_1 (by decide) ?_
  refine gn_idiv G dX0_between_3 (by omega) (by decide) (by decide) ?_
  refine lv_istore_n (lv' := [(3, .int (nI (v / 64))), (0, .ref a), (1, .int (nI o)), (2, .int (nI v))]) G.1 G.2.1 dX0_between_4 rfl hl (by decide) rfl (fun ls hl => ?_)
  refine lv_aload_n G.1 G.2.1 dX0_between_5 rfl (lv_at hl 1 rfl) ?_
  refine lv_iload_n G.1 G.2.1 dX0_between_6 rfl (lv_at hl 2 rfl) ?_
  refine lv_iload_n G.1 G.2.1 dX0_between_7 rfl (lv_at hl 0 rfl) ?_
  refine gn_iadd G dX0_between_8 ?_
  refine gc_s (As := [.ref a, .int (nI (o + (v / 64)))]) (rest := []) G.fix (mX0_read l D a cI n F (o + (v / 64)) (by omega) hn) (va_cwS 2 G.2.2.2.2.2.1 gX0_between_X0_read rfl rfl rfl (by decide +kernel) ⟨Nat.le_of_ble_eq_true rfl, Nat.le_of_ble_eq_true rfl⟩) rAt_blind (fun U hU hW => by rw [hU]; exact hX.moved hW) rfl hl.1 rfl (Nat.le_of_ble_eq_true rfl) dX0_between_9 (Nat.zero_le _) (Nat.zero_le _) (fun r hr => ?_)
  subst hr
  refine lv_istore (lv' := [(4, .int (nI (F (o + (v / 64))))), (3, .int (nI (v / 64))), (0, .ref a), (1, .int (nI o)), (2, .int (nI v))]) G.1 G.2.1 dX0_between_12 hl (by decide) rfl (fun ls hl => ?_)
  refine lv_aload_n G.1 G.2.1 dX0_between_14 rfl (lv_at hl 2 rfl) ?_
  refine lv_iload_n G.1 G.2.1 dX0_between_15 rfl (lv_at hl 3 rfl) ?_
  refine lv_iload_n G.1 G.2.1 dX0_between_16 rfl (lv_at hl 1 rfl) ?_
  refine gn_iadd G dX0_between_17 ?_
  refine lv_iconst (v := nI 1) G.1 G.2.1 dX0_between_18 (by decide) ?_
  refine gn_iadd G dX0_between_19 ?_
  refine gc_s (As := [.ref a, .int (nI ((o + (v / 64)) + 1))]) (rest := []) G.fix (mX0_read l D a cI n F ((o + (v / 64)) + 1) (by omega) hn) (va_cwS 2 G.2.2.2.2.2.1 gX0_between_X0_read rfl rfl rfl (by decide +kernel) ⟨Nat.le_of_ble_eq_true rfl, Nat.le_of_ble_eq_true rfl⟩) rAt_blind (fun U hU hW => by rw [hU]; exact hX.moved hW) rfl hl.1 rfl (Nat.le_of_ble_eq_true rfl) dX0_between_20 (Nat.zero_le _) (Nat.zero_le _) (fun r hr => ?_)
  subst hr
  refine lv_istore (lv' := [(5, .int (nI (F ((o + (v / 64)) + 1)))), (4, .int (nI (F (o + (v / 64))))), (3, .int (nI (v / 64))), (0, .ref a), (1, .int (nI o)), (2, .int (nI v))]) G.1 G.2.1 dX0_between_23 hl (by decide) rfl (fun ls hl => ?_)
  refine lv_iload_n G.1 G.2.1 dX0_between_25 rfl (lv_at hl 2 rfl) ?_
  refine lv_iconst (v := nI 3) G.1 G.2.1 dX0_between_26 (by decide) ?_
  refine gn_ne G (by omega) (by omega) (tgt := 35) dX0_between_27 (by decide) (fun h_27 => ?_) (fun h_27 => ?_)
  · refine lv_bipush (v := nI 64) G.1 G.2.1 dX0_between_35 (by decide) ?_
    refine lv_istore (lv' := [(6, .int (nI 64)), (5, .int (nI (F ((o + (v / 64)) + 1)))), (4, .int (nI (F (o + (v / 64))))), (3, .int (nI (v / 64))), (0, .ref a), (1, .int (nI o)), (2, .int (nI v))]) G.1 G.2.1 dX0_between_37 hl (by decide) rfl (fun ls hl => ?_)
    refine lv_iload G.1 G.2.1 dX0_between_39 (lv_at hl 2 rfl) ?_
    refine lv_iload G.1 G.2.1 dX0_between_41 (lv_at hl 1 rfl) ?_
    refine lv_iload G.1 G.2.1 dX0_between_43 (lv_at hl 2 rfl) ?_
    refine lv_isub G.1 G.2.1 dX0_between_45 ?_
    refine lv_iload_n G.1 G.2.1 dX0_between_46 rfl (lv_at hl 6 rfl) ?_
    refine lv_iload_n G.1 G.2.1 dX0_between_47 rfl (lv_at hl 3 rfl) ?_
    refine lv_bipush (v := nI 64) G.1 G.2.1 dX0_between_48 (by decide) ?_
    refine gn_imul G dX0_between_50 ?_
    refine gn_isub G dX0_between_51 (by omega) ?_
    refine lv_imul G.1 G.2.1 dX0_between_52 ?_
    refine lv_topi (fun z ez => ?_)
    refine lv_iload G.1 G.2.1 dX0_between_53 (lv_at hl 0 rfl) ?_
    have hw : 64 = sp_w (v / 64) := by unfold sp_w; first | rw [if_pos h_27] | rw [if_neg h_27]
    have hC := hFa
    have hDD := hFb
    have hSS : sp_btw F o v = (F (o + v / 64) * (sp_w (v / 64) - (v - v / 64 * 64)) + F (o + v / 64 + 1) * (v - v / 64 * 64)) / sp_w (v / 64) := rfl
    clear hF hFa hFb
    generalize F (o + v / 64) = C at ez hC hSS hl ⊢
    generalize F (o + v / 64 + 1) = E9 at ez hDD hSS hl
    have ht9 := sp_far hv
    have hzt : z.toInt = ((E9 : Int) - C) * ((v - v / 64 * 64 : Nat) : Int) ∧ -16320 ≤ z.toInt ∧ z.toInt ≤ 16320 := by rw [ez]; exact gp_prod (by omega) (by omega) (by have := sp_w_le (v / 64); omega)
    refine gc_s (As := [.int z, .int (nI 64)]) (rest := [.int (nI C)]) G.fix (mJ9_floorDiv l z (nI 64) (by omega) (by rw [nI_toInt (by decide)]; omega)) (va_cwS 2 G.2.2.2.2.2.1 gX0_between_J9_floorDiv_7cf53 rfl rfl rfl (by decide +kernel) ⟨Nat.le_of_ble_eq_true rfl, Nat.le_of_ble_eq_true rfl⟩) gc_blindT (fun _ _ _ => trivial) rfl hl.1 rfl (Nat.le_of_ble_eq_true rfl) dX0_between_55 (Nat.zero_le _) (Nat.zero_le _) (fun r hr => ?_)
    refine lv_iadd G.1 G.2.1 dX0_between_58 ?_
    exact W.iret G.1 G.2.1 G.2.2.1 (fun t ht hW => ⟨_, rfl, gp_btwR (w := 64) hSS hw hr hzt.1 (sp_w_pos _) (sp_w_le _) ht9 hC hDD, ht⟩) (fun q h => nomatch h) dX0_between_59 G.2.2.2.2.2.2
  · refine lv_bipush (v := nI 63) G.1 G.2.1 dX0_between_30 (by decide) ?_
    refine lv_goto (tgt := 37) G.1 G.2.1 dX0_between_32 (by decide) ?_
    refine lv_istore (lv' := [(6, .int (nI 63)), (5, .int (nI (F ((o + (v / 64)) + 1)))), (4, .int (nI (F (o + (v / 64))))), (3, .int (nI (v / 64))), (0, .ref a), (1, .int (nI o)), (2, .int (nI v))]) G.1 G.2.1 dX0_between_37 hl (by decide) rfl (fun ls hl => ?_)
    refine lv_iload G.1 G.2.1 dX0_between_39 (lv_at hl 2 rfl) ?_
    refine lv_iload G.1 G.2.1 dX0_between_41 (lv_at hl 1 rfl) ?_
    refine lv_iload G.1 G.2.1 dX0_between_43 (lv_at hl 2 rfl) ?_
    refine lv_isub G.1 G.2.1 dX0_between_45 ?_
    refine lv_iload_n G.1 G.2.1 dX0_between_46 rfl (lv_at hl 6 rfl) ?_
    refine lv_iload_n G.1 G.2.1 dX0_between_47 rfl (lv_at hl 3 rfl) ?_
    refine lv_bipush (v := nI 64) G.1 G.2.1 dX0_between_48 (by decide) ?_
    refine gn_imul G dX0_between_50 ?_
    refine gn_isub G dX0_between_51 (by omega) ?_
    refine lv_imul G.1 G.2.1 dX0_between_52 ?_
    refine lv_topi (fun z ez => ?_)
    refine lv_iload G.1 G.2.1 dX0_between_53 (lv_at hl 0 rfl) ?_
    have hw : 63 = sp_w (v / 64) := by unfold sp_w; first | rw [if_pos h_27] | rw [if_neg h_27]
    have hC := hFa
    have hDD := hFb
    have hSS : sp_btw F o v = (F (o + v / 64) * (sp_w (v / 64) - (v - v / 64 * 64)) + F (o + v / 64 + 1) * (v - v / 64 * 64)) / sp_w (v / 64) := rfl
    clear hF hFa hFb
    generalize F (o + v / 64) = C at ez hC hSS hl ⊢
    generalize F (o + v / 64 + 1) = E9 at ez hDD hSS hl
    have ht9 := sp_far hv
    have hzt : z.toInt = ((E9 : Int) - C) * ((v - v / 64 * 64 : Nat) : Int) ∧ -16320 ≤ z.toInt ∧ z.toInt ≤ 16320 := by rw [ez]; exact gp_prod (by omega) (by omega) (by have := sp_w_le (v / 64); omega)
    refine gc_s (As := [.int z, .int (nI 63)]) (rest := [.int (nI C)]) G.fix (mJ9_floorDiv l z (nI 63) (by omega) (by rw [nI_toInt (by decide)]; omega)) (va_cwS 2 G.2.2.2.2.2.1 gX0_between_J9_floorDiv_7cf53 rfl rfl rfl (by decide +kernel) ⟨Nat.le_of_ble_eq_true rfl, Nat.le_of_ble_eq_true rfl⟩) gc_blindT (fun _ _ _ => trivial) rfl hl.1 rfl (Nat.le_of_ble_eq_true rfl) dX0_between_55 (Nat.zero_le _) (Nat.zero_le _) (fun r hr => ?_)
    refine lv_iadd G.1 G.2.1 dX0_between_58 ?_
    exact W.iret G.1 G.2.1 G.2.2.1 (fun t ht hW => ⟨_, rfl, gp_btwR (w := 63) hSS hw hr hzt.1 (sp_w_pos _) (sp_w_le _) ht9 hC hDD, ht⟩) (fun q h => nomatch h) dX0_between_59 G.2.2.2.2.2.2
set_option maxRecDepth 100000 in
set_option maxHeartbeats 4000000 in
/-- the value of a curve -/
theorem mX0_bent (l : Launch) (D : va_G) (q : Nat → Nat) (cI : ClassId) (N : Nat → Nat) (S : Nat → Nat → Nat) (tr : Nat → Nat) (A : Nat → Prop) (pf bd vl : Nat) (hok : sp_ok N S) (hpf : pf < 8) (hbd : bd < 3) (hvl : vl ≤ 255) : Met l yX0_bent wsX0_bent { frames := 2, cells := 0, slots := 0, locals := 48 } (va_Pc [.ref (q 0), .int (nI pf), .int (nI bd), .int (nI vl)] (fun U => xAt D q cI N S tr A U U.heap)) (vp_Si (fun r => r = nI (sp_curve S pf bd vl))) 0 0 (fun _ => False) := by
  refine gc_met [.ref (q 0), .int (nI pf), .int (nI bd), .int (nI vl)] (by decide) rfl (Nat.le_of_ble_eq_true rfl) rfl ?_
  intro p e s m below meth c ls G hl hX
  have hok9 := hok
  obtain ⟨⟨ok0, ok5⟩, ok1, ok2, ok3, ok4, ok6, ok7, ok8, ok12, ok13, ok14⟩ := hok9
  have hb2 : S 1 ((pf * 3 + bd) * 5 + vl / 64) ≤ 255 ∧ S 1 ((pf * 3 + bd) * 5 + vl / 64 + 1) ≤ 255 := ⟨ok1 _, ok1 _⟩
  refine lv_aload_n G.1 G.2.1 dX0_bent_0 rfl (lv_at hl 0 rfl) ?_
  refine gx_get G hX (by decide +kernel) 1 (by decide) (by decide +kernel) rfl rfl rfl dX0_bent_1 ?_
  refine lv_iload_n G.1 G.2.1 dX0_bent_4 rfl (lv_at hl 1 rfl) ?_
  refine lv_iconst (v := nI 3) G.1 G.2.1 dX0_bent_5 (by decide) ?_
  refine gn_imul G dX0_bent_6 ?_
  refine lv_iload_n G.1 G.2.1 dX0_bent_7 rfl (lv_at hl 2 rfl) ?_
  refine gn_iadd G dX0_bent_8 ?_
  refine lv_iconst (v := nI 5) G.1 G.2.1 dX0_bent_9 (by decide) ?_
  refine gn_imul G dX0_bent_10 ?_
  refine lv_iload_n G.1 G.2.1 dX0_bent_11 rfl (lv_at hl 3 rfl) ?_
  refine gc_s (As := [.ref (q 1), .int (nI (((pf * 3) + bd) * 5)), .int (nI vl)]) (rest := []) G.fix (mX0_between l D (q 1) cI 120 (S 1) (((pf * 3) + bd) * 5) vl (by first | omega | assumption | exact ok6 _ | apply hq) (by first | omega | assumption | exact ok6 _ | apply hq) (by first | assumption | (intro j; omega))) (va_cwS 3 G.2.2.2.2.2.1 gX0_bent_X0_between rfl rfl rfl (by decide +kernel) ⟨Nat.le_of_ble_eq_true rfl, Nat.le_of_ble_eq_true rfl⟩) rAt_blind (fun U hU hW => by rw [hU]; exact (hX.row 1 rfl).moved hW) rfl hl.1 rfl (Nat.le_of_ble_eq_true rfl) dX0_bent_12 (Nat.zero_le _) (Nat.zero_le _) (fun r hr => ?_)
  subst hr
  exact W.iret G.1 G.2.1 G.2.2.1 (fun t ht hW => ⟨_, rfl, rfl, ht⟩) (fun q h => nomatch h) dX0_bent_15 G.2.2.2.2.2.2
set_option maxRecDepth 100000 in
set_option maxHeartbeats 4000000 in
/-- what a profile makes of a value -/
theorem mX0_take (l : Launch) (D : va_G) (q : Nat → Nat) (cI : ClassId) (N : Nat → Nat) (S : Nat → Nat → Nat) (tr : Nat → Nat) (A : Nat → Prop) (pf bd vl : Nat) (hok : sp_ok N S) (hpf : pf < 8) (hbd : bd < 3) (hvl : vl ≤ 255) : Met l yX0_take wsX0_take { frames := 3, cells := 0, slots := 0, locals := 71 } (va_Pc [.ref (q 0), .int (nI pf), .int (nI bd), .int (nI vl)] (fun U => xAt D q cI N S tr A U U.heap)) (vp_Si (fun r => r = nI (sp_tk S pf bd vl))) 0 0 (fun _ => False) := by
  refine gc_met [.ref (q 0), .int (nI pf), .int (nI bd), .int (nI vl)] (by decide) rfl (Nat.le_of_ble_eq_true rfl) rfl ?_
  intro p e s m below meth c ls G hl hX
  have hok9 := hok
  obtain ⟨⟨ok0, ok5⟩, ok1, ok2, ok3, ok4, ok6, ok7, ok8, ok12, ok13, ok14⟩ := hok9
  have h2 := ok2 (pf * 3 + bd)
  have h3 := ok3 (pf * 3 + bd)
  have h4 := ok4 pf
  have hc := sp_curve_le (p := pf) (b := bd) hok hvl
  have hmul : sp_curve S pf bd vl * (S 3 (pf * 3 + bd) - S 2 (pf * 3 + bd)) ≤ 255 * 255 := Nat.mul_le_mul hc (by omega)
  refine lv_aload_n G.1 G.2.1 dX0_take_0 rfl (lv_at hl 0 rfl) ?_
  refine gx_get G hX (by decide +kernel) 2 (by decide) (by decide +kernel) rfl rfl rfl dX0_take_1 ?_
  refine lv_iload_n G.1 G.2.1 dX0_take_4 rfl (lv_at hl 1 rfl) ?_
  refine lv_iconst (v := nI 3) G.1 G.2.1 dX0_take_5 (by decide) ?_
  refine gn_imul G dX0_take_6 ?_
  refine lv_iload_n G.1 G.2.1 dX0_take_7 rfl (lv_at hl 2 rfl) ?_
  refine gn_iadd G dX0_take_8 ?_
  refine gc_s (As := [.ref (q 2), .int (nI ((pf * 3) + bd))]) (rest := []) G.fix (mX0_read l D (q 2) cI 24 (S 2) ((pf * 3) + bd) (by first | omega | assumption | exact ok6 _ | apply hq)) (va_cwS 2 G.2.2.2.2.2.1 gX0_take_X0_read rfl rfl rfl (by decide +kernel) ⟨Nat.le_of_ble_eq_true rfl, Nat.le_of_ble_eq_true rfl⟩) rAt_blind (fun U hU hW => by rw [hU]; exact (hX.row 2 rfl).moved hW) rfl hl.1 rfl (Nat.le_of_ble_eq_true rfl) dX0_take_9 (Nat.zero_le _) (Nat.zero_le _) (fun r hr => ?_)
  subst hr
  refine lv_istore (lv' := [(4, .int (nI (S 2 ((pf * 3) + bd)))), (0, .ref (q 0)), (1, .int (nI pf)), (2, .int (nI bd)), (3, .int (nI vl))]) G.1 G.2.1 dX0_take_12 hl (by decide) rfl (fun ls hl => ?_)
  refine lv_aload_n G.1 G.2.1 dX0_take_14 rfl (lv_at hl 1 rfl) ?_
  refine gx_get G hX (by decide +kernel) 3 (by decide) (by decide +kernel) rfl rfl rfl dX0_take_15 ?_
  refine lv_iload_n G.1 G.2.1 dX0_take_18 rfl (lv_at hl 2 rfl) ?_
  refine lv_iconst (v := nI 3) G.1 G.2.1 dX0_take_19 (by decide) ?_
  refine gn_imul G dX0_take_20 ?_
  refine lv_iload_n G.1 G.2.1 dX0_take_21 rfl (lv_at hl 3 rfl) ?_
  refine gn_iadd G dX0_take_22 ?_
  refine gc_s (As := [.ref (q 3), .int (nI ((pf * 3) + bd))]) (rest := []) G.fix (mX0_read l D (q 3) cI 24 (S 3) ((pf * 3) + bd) (by first | omega | assumption | exact ok6 _ | apply hq)) (va_cwS 2 G.2.2.2.2.2.1 gX0_take_X0_read rfl rfl rfl (by decide +kernel) ⟨Nat.le_of_ble_eq_true rfl, Nat.le_of_ble_eq_true rfl⟩) rAt_blind (fun U hU hW => by rw [hU]; exact (hX.row 3 rfl).moved hW) rfl hl.1 rfl (Nat.le_of_ble_eq_true rfl) dX0_take_23 (Nat.zero_le _) (Nat.zero_le _) (fun r hr => ?_)
  subst hr
  refine lv_istore (lv' := [(5, .int (nI (S 3 ((pf * 3) + bd)))), (4, .int (nI (S 2 ((pf * 3) + bd)))), (0, .ref (q 0)), (1, .int (nI pf)), (2, .int (nI bd)), (3, .int (nI vl))]) G.1 G.2.1 dX0_take_26 hl (by decide) rfl (fun ls hl => ?_)
  refine lv_aload_n G.1 G.2.1 dX0_take_28 rfl (lv_at hl 2 rfl) ?_
  refine lv_iload_n G.1 G.2.1 dX0_take_29 rfl (lv_at hl 3 rfl) ?_
  refine lv_iload_n G.1 G.2.1 dX0_take_30 rfl (lv_at hl 4 rfl) ?_
  refine lv_iload_n G.1 G.2.1 dX0_take_31 rfl (lv_at hl 5 rfl) ?_
  refine gc_v (As := [.int (nI pf), .int (nI bd), .int (nI vl)]) (rest := []) G.fix (mX0_bent l D q cI N S tr A pf bd vl hok (by first | omega | assumption | exact ok6 _ | apply hq) (by first | omega | assumption | exact ok6 _ | apply hq) (by first | omega | assumption | exact ok6 _ | apply hq)) (cwV 3 G.2.2.2.2.2.1 gX0_take_X0_bent rfl rfl rfl (by decide +kernel) ⟨Nat.le_of_ble_eq_true rfl, Nat.le_of_ble_eq_true rfl⟩) xAt_blind (va_recv hX.2.1 hX.1 (ci := 0) (q0 := 0) rfl rfl) (fun U hU hW => by rw [hU]; exact hX.moved hW) rfl hl.1 rfl (Nat.le_of_ble_eq_true rfl) dX0_take_32 (Nat.zero_le _) (Nat.zero_le _) (fun r hr => ?_)
  subst hr
  refine lv_istore (lv' := [(6, .int (nI (sp_curve S pf bd vl))), (5, .int (nI (S 3 ((pf * 3) + bd)))), (4, .int (nI (S 2 ((pf * 3) + bd)))), (0, .ref (q 0)), (1, .int (nI pf)), (2, .int (nI bd)), (3, .int (nI vl))]) G.1 G.2.1 dX0_take_35 hl (by decide) rfl (fun ls hl => ?_)
  refine lv_aload_n G.1 G.2.1 dX0_take_37 rfl (lv_at hl 3 rfl) ?_
  refine gx_get G hX (by decide +kernel) 4 (by decide) (by decide +kernel) rfl rfl rfl dX0_take_38 ?_
  refine lv_iload_n G.1 G.2.1 dX0_take_41 rfl (lv_at hl 4 rfl) ?_
  refine gc_s (As := [.ref (q 4), .int (nI pf)]) (rest := []) G.fix (mX0_read l D (q 4) cI 8 (S 4) (pf) (by first | omega | assumption | exact ok6 _ | apply hq)) (va_cwS 2 G.2.2.2.2.2.1 gX0_take_X0_read rfl rfl rfl (by decide +kernel) ⟨Nat.le_of_ble_eq_true rfl, Nat.le_of_ble_eq_true rfl⟩) rAt_blind (fun U hU hW => by rw [hU]; exact (hX.row 4 rfl).moved hW) rfl hl.1 rfl (Nat.le_of_ble_eq_true rfl) dX0_take_42 (Nat.zero_le _) (Nat.zero_le _) (fun r hr => ?_)
  subst hr
  refine lv_istore (lv' := [(7, .int (nI (S 4 pf))), (6, .int (nI (sp_curve S pf bd vl))), (5, .int (nI (S 3 ((pf * 3) + bd)))), (4, .int (nI (S 2 ((pf * 3) + bd)))), (0, .ref (q 0)), (1, .int (nI pf)), (2, .int (nI bd)), (3, .int (nI vl))]) G.1 G.2.1 dX0_take_45 hl (by decide) rfl (fun ls hl => ?_)
  refine lv_iload G.1 G.2.1 dX0_take_47 (lv_at hl 0 rfl) ?_
  refine lv_iconst (v := nI 1) G.1 G.2.1 dX0_take_49 (by decide) ?_
  refine gn_ne G (by omega) (by omega) (tgt := 69) dX0_take_50 (by decide) (fun h_50 => ?_) (fun h_50 => ?_)
  · refine lv_iload G.1 G.2.1 dX0_take_69 (lv_at hl 0 rfl) ?_
    refine lv_iconst (v := nI 2) G.1 G.2.1 dX0_take_71 (by decide) ?_
    refine gn_ne G (by omega) (by omega) (tgt := 86) dX0_take_72 (by decide) (fun h_72 => ?_) (fun h_72 => ?_)
    · refine lv_iload G.1 G.2.1 dX0_take_86 (lv_at hl 3 rfl) ?_
      refine lv_iload G.1 G.2.1 dX0_take_88 (lv_at hl 2 rfl) ?_
      refine lv_iload G.1 G.2.1 dX0_take_90 (lv_at hl 1 rfl) ?_
      refine gr_min G hl.1 (ix := 119) (by decide +kernel) (by decide +kernel) (by decide +kernel) (by decide +kernel) (Nat.le_of_ble_eq_true rfl) (Nat.le_of_ble_eq_true rfl) (Nat.zero_le _) (Nat.zero_le _) (by omega) (by omega) dX0_take_92 ?_
      refine gr_max G hl.1 (ix := 125) (by decide +kernel) (by decide +kernel) (by decide +kernel) (by decide +kernel) (Nat.le_of_ble_eq_true rfl) (Nat.le_of_ble_eq_true rfl) (Nat.zero_le _) (Nat.zero_le _) (by omega) (by omega) dX0_take_95 ?_
      exact W.iret G.1 G.2.1 G.2.2.1 (fun t ht hW => ⟨_, rfl, by show nI _ = nI _; unfold sp_tk sp_take; rw [if_neg h_50, if_neg h_72], ht⟩) (fun q h => nomatch h) dX0_take_98 G.2.2.2.2.2.2
    · refine lv_iload G.1 G.2.1 dX0_take_75 (lv_at hl 1 rfl) ?_
      refine lv_iload G.1 G.2.1 dX0_take_77 (lv_at hl 3 rfl) ?_
      refine lv_iload G.1 G.2.1 dX0_take_79 (lv_at hl 2 rfl) ?_
      refine gc_s (As := [.int (nI (sp_curve S pf bd vl)), .int (nI (S 2 ((pf * 3) + bd))), .int (nI (S 3 ((pf * 3) + bd)))]) (rest := []) G.fix (mX0_fold l (sp_curve S pf bd vl) (S 2 (pf * 3 + bd)) (S 3 (pf * 3 + bd)) (by omega) (by omega) (by omega)) (va_cwS 3 G.2.2.2.2.2.1 gX0_take_X0_fold rfl rfl rfl (by decide +kernel) ⟨Nat.le_of_ble_eq_true rfl, Nat.le_of_ble_eq_true rfl⟩) gc_blindT (fun _ _ _ => trivial) rfl hl.1 rfl (Nat.le_of_ble_eq_true rfl) dX0_take_81 (Nat.zero_le _) (Nat.zero_le _) (fun z hz => ?_)
      refine lv_istore (lv' := [(6, .int z), (7, .int (nI (S 4 pf))), (5, .int (nI (S 3 ((pf * 3) + bd)))), (4, .int (nI (S 2 ((pf * 3) + bd)))), (0, .ref (q 0)), (1, .int (nI pf)), (2, .int (nI bd)), (3, .int (nI vl))]) G.1 G.2.1 dX0_take_84 hl (by decide) rfl (fun ls hl => ?_)
      refine lv_iload G.1 G.2.1 dX0_take_86 (lv_at hl 3 rfl) ?_
      refine lv_iload G.1 G.2.1 dX0_take_88 (lv_at hl 2 rfl) ?_
      refine lv_iload G.1 G.2.1 dX0_take_90 (lv_at hl 0 rfl) ?_
      refine va_mmin G.1 G.2.1 (G.2.2.2.1.trans hl.1.symm) G.2.2.2.2.1 (G.2.2.2.2.2.1 (.methodLink RX0 119 Lib.Math.min.name) (by decide +kernel)) (G.2.2.2.2.2.1 _ (by decide +kernel)) (G.2.2.2.2.2.1 _ (by decide +kernel)) (G.2.2.2.2.2.1 _ (by decide +kernel)) (Nat.le_of_ble_eq_true rfl) (Nat.le_of_ble_eq_true rfl) (Nat.zero_le _) (Nat.zero_le _) dX0_take_92 ?_
      refine lv_topi (fun y ey => ?_)
      refine va_mmax G.1 G.2.1 (G.2.2.2.1.trans hl.1.symm) G.2.2.2.2.1 (G.2.2.2.2.2.1 (.methodLink RX0 125 Lib.Math.max.name) (by decide +kernel)) (G.2.2.2.2.2.1 _ (by decide +kernel)) (G.2.2.2.2.2.1 _ (by decide +kernel)) (G.2.2.2.2.2.1 _ (by decide +kernel)) (Nat.le_of_ble_eq_true rfl) (Nat.le_of_ble_eq_true rfl) (Nat.zero_le _) (Nat.zero_le _) dX0_take_95 ?_
      exact W.iret G.1 G.2.1 G.2.2.1 (fun t ht hW => ⟨_, rfl, by show (if nI _ < y then y else nI _) = nI _; unfold sp_tk sp_take; rw [if_neg h_50, if_pos h_72]; exact gp_clamp h2 h3 hc hz ey, ht⟩) (fun q h => nomatch h) dX0_take_98 G.2.2.2.2.2.2
  · refine lv_iload G.1 G.2.1 dX0_take_53 (lv_at hl 3 rfl) ?_
    refine lv_iload G.1 G.2.1 dX0_take_55 (lv_at hl 1 rfl) ?_
    refine lv_iload G.1 G.2.1 dX0_take_57 (lv_at hl 2 rfl) ?_
    refine lv_iload G.1 G.2.1 dX0_take_59 (lv_at hl 3 rfl) ?_
    refine gn_isub G dX0_take_61 (by omega) ?_
    refine gn_imul G dX0_take_62 ?_
    refine lv_sipush (v := nI 255) G.1 G.2.1 dX0_take_63 (by decide) ?_
    refine gn_idiv G dX0_take_66 (by omega) (by decide) (by decide) ?_
    refine gn_iadd G dX0_take_67 ?_
    exact W.iret G.1 G.2.1 G.2.2.1 (fun t ht hW => ⟨_, rfl, by show nI _ = nI _; unfold sp_tk sp_take; rw [if_pos h_50], ht⟩) (fun q h => nomatch h) dX0_take_68 G.2.2.2.2.2.2
set_option maxRecDepth 100000 in
set_option maxHeartbeats 4000000 in
/-- a value through a chain -/
theorem mX0_pass (l : Launch) (D : va_G) (q : Nat → Nat) (cI : ClassId) (N : Nat → Nat) (S : Nat → Nat → Nat) (tr : Nat → Nat) (A : Nat → Prop) (ch bd vl : Nat) (hok : sp_ok N S) (hch : ch < 6) (hbd : bd < 3) (hvl : vl ≤ 255) : Met l yX0_pass wsX0_pass { frames := 4, cells := 0, slots := 0, locals := 98 } (va_Pc [.ref (q 0), .int (nI ch), .int (nI bd), .int (nI vl)] (fun U => xAt D q cI N S tr A U U.heap)) (vp_Si (fun r => r = nI (sp_pass S ch bd vl))) 0 0 (fun _ => False) := by
  refine gc_met [.ref (q 0), .int (nI ch), .int (nI bd), .int (nI vl)] (by decide) rfl (Nat.le_of_ble_eq_true rfl) rfl ?_
  intro p e s m below meth c ls G hl hX
  have hok9 := hok
  obtain ⟨⟨ok0, ok5⟩, ok1, ok2, ok3, ok4, ok6, ok7, ok8, ok12, ok13, ok14⟩ := hok9
  have h7 := ok7 ch
  have hq := fun k => sp_passTo_le (ch := ch) (b := bd) hok hvl k
  have h6 := fun k => ok6 (ch * 6 + k)
  refine lv_aload_n G.1 G.2.1 dX0_pass_0 rfl (lv_at hl 0 rfl) ?_
  refine gx_get G hX (by decide +kernel) 7 (by decide) (by decide +kernel) rfl rfl rfl dX0_pass_1 ?_
  refine lv_iload_n G.1 G.2.1 dX0_pass_4 rfl (lv_at hl 1 rfl) ?_
  refine gc_s (As := [.ref (q 7), .int (nI ch)]) (rest := []) G.fix (mX0_read l D (q 7) cI 6 (S 7) (ch) (by first | omega | assumption | exact ok6 _ | apply hq)) (va_cwS 2 G.2.2.2.2.2.1 gX0_pass_X0_read rfl rfl rfl (by decide +kernel) ⟨Nat.le_of_ble_eq_true rfl, Nat.le_of_ble_eq_true rfl⟩) rAt_blind (fun U hU hW => by rw [hU]; exact (hX.row 6 rfl).moved hW) rfl hl.1 rfl (Nat.le_of_ble_eq_true rfl) dX0_pass_5 (Nat.zero_le _) (Nat.zero_le _) (fun r hr => ?_)
  subst hr
  refine lv_istore (lv' := [(4, .int (nI (S 7 ch))), (0, .ref (q 0)), (1, .int (nI ch)), (2, .int (nI bd)), (3, .int (nI vl))]) G.1 G.2.1 dX0_pass_8 hl (by decide) rfl (fun ls hl => ?_)
  refine lv_iload_n G.1 G.2.1 dX0_pass_10 rfl (lv_at hl 4 rfl) ?_
  refine lv_istore (lv' := [(5, .int (nI vl)), (4, .int (nI (S 7 ch))), (0, .ref (q 0)), (1, .int (nI ch)), (2, .int (nI bd)), (3, .int (nI vl))]) G.1 G.2.1 dX0_pass_11 hl (by decide) rfl (fun ls hl => ?_)
  refine lv_iconst (v := nI 0) G.1 G.2.1 dX0_pass_13 (by decide) ?_
  refine lv_istore (lv' := [(6, .int (nI 0)), (5, .int (nI vl)), (4, .int (nI (S 7 ch))), (0, .ref (q 0)), (1, .int (nI ch)), (2, .int (nI bd)), (3, .int (nI vl))]) G.1 G.2.1 dX0_pass_14 hl (by decide) rfl (fun ls hl => ?_)
  have loop1 : ∀ (d1 x1 : Nat), x1 + d1 = S 7 ch → ∀ ls : Array Slot, lv_has ls 7 [(0, .ref (q 0)), (1, .int (nI ch)), (2, .int (nI bd)), (4, .int (nI (S 7 ch))), (5, .int (nI (sp_passTo S ch bd vl x1))), (6, .int (nI x1))] → W p l e { frames := 4, cells := 0, slots := 0, locals := 98 } s m ([.ref (q 0), .int (nI ch), .int (nI bd), .int (nI vl)] : List Value).toArray below meth c s.heap [] 0 0 (MQ below (vp_Si (fun r => r = nI (sp_pass S ch bd vl))) ([.ref (q 0), .int (nI ch), .int (nI bd), .int (nI vl)] : List Value).toArray s 0 0 (fun _ => False)) (F0 m 16 ls []) := by
    intro d1
    induction d1 with
    | zero =>
      intro x1 hd1 ls hl
      refine lv_iload G.1 G.2.1 dX0_pass_16 (lv_at hl 5 rfl) ?_
      refine lv_iload G.1 G.2.1 dX0_pass_18 (lv_at hl 3 rfl) ?_
      refine gn_ge G (by omega) (by omega) (tgt := 52) dX0_pass_20 (by decide) (fun h_20 => ?_) (fun h_20 => absurd h_20 (by omega))
      refine lv_iload G.1 G.2.1 dX0_pass_52 (lv_at hl 4 rfl) ?_
      exact W.iret G.1 G.2.1 G.2.2.1 (fun t ht hW => ⟨_, rfl, by show nI _ = nI _; unfold sp_pass; rw [show x1 = S 7 ch from by omega], ht⟩) (fun q h => nomatch h) dX0_pass_54 G.2.2.2.2.2.2
    | succ d1 ih1 =>
      intro x1 hd1 ls hl
      refine lv_iload G.1 G.2.1 dX0_pass_16 (lv_at hl 5 rfl) ?_
      refine lv_iload G.1 G.2.1 dX0_pass_18 (lv_at hl 3 rfl) ?_
      refine gn_ge G (by omega) (by omega) (tgt := 52) dX0_pass_20 (by decide) (fun h_20 => absurd h_20 (by omega)) (fun h_20 => ?_)
      refine lv_aload_n G.1 G.2.1 dX0_pass_23 rfl (lv_at hl 0 rfl) ?_
      refine lv_aload_n G.1 G.2.1 dX0_pass_24 rfl (lv_at hl 0 rfl) ?_
      refine gx_get G hX (by decide +kernel) 6 (by decide) (by decide +kernel) rfl rfl rfl dX0_pass_25 ?_
      refine lv_iload_n G.1 G.2.1 dX0_pass_28 rfl (lv_at hl 1 rfl) ?_
      refine lv_bipush (v := nI 6) G.1 G.2.1 dX0_pass_29 (by decide) ?_
      refine gn_imul G dX0_pass_31 ?_
      refine lv_iload G.1 G.2.1 dX0_pass_32 (lv_at hl 5 rfl) ?_
      refine gn_iadd G dX0_pass_34 ?_
      refine gc_s (As := [.ref (q 6), .int (nI ((ch * 6) + x1))]) (rest := [.ref (q 0)]) G.fix (mX0_read l D (q 6) cI 36 (S 6) ((ch * 6) + x1) (by first | omega | assumption | exact ok6 _ | apply hq)) (va_cwS 2 G.2.2.2.2.2.1 gX0_pass_X0_read rfl rfl rfl (by decide +kernel) ⟨Nat.le_of_ble_eq_true rfl, Nat.le_of_ble_eq_true rfl⟩) rAt_blind (fun U hU hW => by rw [hU]; exact (hX.row 5 rfl).moved hW) rfl hl.1 rfl (Nat.le_of_ble_eq_true rfl) dX0_pass_35 (Nat.zero_le _) (Nat.zero_le _) (fun r hr => ?_)
      subst hr
      refine lv_iload_n G.1 G.2.1 dX0_pass_38 rfl (lv_at hl 2 rfl) ?_
      refine lv_iload G.1 G.2.1 dX0_pass_39 (lv_at hl 4 rfl) ?_
      refine gc_v (As := [.int (nI (S 6 ((ch * 6) + x1))), .int (nI bd), .int (nI (sp_passTo S ch bd vl x1))]) (rest := []) G.fix (mX0_take l D q cI N S tr A (S 6 ((ch * 6) + x1)) bd (sp_passTo S ch bd vl x1) hok (by first | omega | assumption | exact ok6 _ | apply hq) (by first | omega | assumption | exact ok6 _ | apply hq) (by first | omega | assumption | exact ok6 _ | apply hq)) (cwV 3 G.2.2.2.2.2.1 gX0_pass_X0_take rfl rfl rfl (by decide +kernel) ⟨Nat.le_of_ble_eq_true rfl, Nat.le_of_ble_eq_true rfl⟩) xAt_blind (va_recv hX.2.1 hX.1 (ci := 0) (q0 := 0) rfl rfl) (fun U hU hW => by rw [hU]; exact hX.moved hW) rfl hl.1 rfl (Nat.le_of_ble_eq_true rfl) dX0_pass_41 (Nat.zero_le _) (Nat.zero_le _) (fun r hr => ?_)
      subst hr
      refine lv_istore (lv' := [(5, .int (nI (sp_tk S (S 6 ((ch * 6) + x1)) bd (sp_passTo S ch bd vl x1)))), (0, .ref (q 0)), (1, .int (nI ch)), (2, .int (nI bd)), (4, .int (nI (S 7 ch))), (6, .int (nI x1))]) G.1 G.2.1 dX0_pass_44 hl (by decide) rfl (fun ls hl => ?_)
      refine gn_iinc (lv' := [(6, .int (nI (x1 + 1))), (5, .int (nI (sp_tk S (S 6 ((ch * 6) + x1)) bd (sp_passTo S ch bd vl x1)))), (0, .ref (q 0)), (1, .int (nI ch)), (2, .int (nI bd)), (4, .int (nI (S 7 ch)))]) (n := 1) G dX0_pass_46 hl (k := 5) rfl (by decide) rfl (fun ls hl => ?_)
      refine lv_goto (tgt := 16) G.1 G.2.1 dX0_pass_49 (by decide) ?_
      exact ih1 (x1 + 1) (by omega) _ (lv_sub hl [2, 3, 4, 5, 1, 0] rfl)
  exact loop1 (S 7 ch) 0 (by omega) _ (lv_sub hl [3, 4, 5, 2, 1, 0] rfl)
set_option maxRecDepth 100000 in
set_option maxHeartbeats 4000000 in
/-- the profiles of a chain, as a set -/
theorem mX0_profilesOf (l : Launch) (D : va_G) (q : Nat → Nat) (cI : ClassId) (N : Nat → Nat) (S : Nat → Nat → Nat) (tr : Nat → Nat) (A : Nat → Prop) (ch : Nat) (hok : sp_ok N S) (hch : ch < 6) : Met l yX0_profilesOf wsX0_profilesOf { frames := 1, cells := 0, slots := 0, locals := 21 } (va_Pc [.ref (q 0), .int (nI ch)] (fun U => xAt D q cI N S tr A U U.heap)) (vp_Si (fun r => r = nI (sp_of S ch))) 0 0 (fun _ => False) := by
  refine gc_met [.ref (q 0), .int (nI ch)] (by decide) rfl (Nat.le_of_ble_eq_true rfl) rfl ?_
  intro p e s m below meth c ls G hl hX
  have hok9 := hok
  obtain ⟨⟨ok0, ok5⟩, ok1, ok2, ok3, ok4, ok6, ok7, ok8, ok12, ok13, ok14⟩ := hok9
  have h7 := ok7 ch
  refine lv_aload_n G.1 G.2.1 dX0_profilesOf_0 rfl (lv_at hl 0 rfl) ?_
  refine gx_get G hX (by decide +kernel) 7 (by decide) (by decide +kernel) rfl rfl rfl dX0_profilesOf_1 ?_
  refine lv_iload_n G.1 G.2.1 dX0_profilesOf_4 rfl (lv_at hl 1 rfl) ?_
  refine gc_s (As := [.ref (q 7), .int (nI ch)]) (rest := []) G.fix (mX0_read l D (q 7) cI 6 (S 7) (ch) (by first | omega | assumption | exact ok6 _ | apply hq)) (va_cwS 2 G.2.2.2.2.2.1 gX0_profilesOf_X0_read rfl rfl rfl (by decide +kernel) ⟨Nat.le_of_ble_eq_true rfl, Nat.le_of_ble_eq_true rfl⟩) rAt_blind (fun U hU hW => by rw [hU]; exact (hX.row 6 rfl).moved hW) rfl hl.1 rfl (Nat.le_of_ble_eq_true rfl) dX0_profilesOf_5 (Nat.zero_le _) (Nat.zero_le _) (fun r hr => ?_)
  subst hr
  refine lv_istore_n (lv' := [(2, .int (nI (S 7 ch))), (0, .ref (q 0)), (1, .int (nI ch))]) G.1 G.2.1 dX0_profilesOf_8 rfl hl (by decide) rfl (fun ls hl => ?_)
  refine lv_iconst (v := nI 0) G.1 G.2.1 dX0_profilesOf_9 (by decide) ?_
  refine lv_istore_n (lv' := [(3, .int (nI 0)), (2, .int (nI (S 7 ch))), (0, .ref (q 0)), (1, .int (nI ch))]) G.1 G.2.1 dX0_profilesOf_10 rfl hl (by decide) rfl (fun ls hl => ?_)
  refine lv_iconst (v := nI 0) G.1 G.2.1 dX0_profilesOf_11 (by decide) ?_
  refine lv_istore (lv' := [(4, .int (nI 0)), (3, .int (nI 0)), (2, .int (nI (S 7 ch))), (0, .ref (q 0)), (1, .int (nI ch))]) G.1 G.2.1 dX0_profilesOf_12 hl (by decide) rfl (fun ls hl => ?_)
  have loop1 : ∀ (d1 x1 : Nat), x1 + d1 = S 7 ch → ∀ ls : Array Slot, lv_has ls 5 [(0, .ref (q 0)), (1, .int (nI ch)), (2, .int (nI (S 7 ch))), (3, .int (nI (sp_ofTo S ch x1))), (4, .int (nI x1))] → W p l e { frames := 1, cells := 0, slots := 0, locals := 21 } s m ([.ref (q 0), .int (nI ch)] : List Value).toArray below meth c s.heap [] 0 0 (MQ below (vp_Si (fun r => r = nI (sp_of S ch))) ([.ref (q 0), .int (nI ch)] : List Value).toArray s 0 0 (fun _ => False)) (F0 m 14 ls []) := by
    intro d1
    induction d1 with
    | zero =>
      intro x1 hd1 ls hl
      refine lv_iload G.1 G.2.1 dX0_profilesOf_14 (lv_at hl 4 rfl) ?_
      refine lv_iload_n G.1 G.2.1 dX0_profilesOf_16 rfl (lv_at hl 2 rfl) ?_
      refine gn_ge G (by first | omega | exact Nat.lt_trans (ok6 _) (by decide)) (by first | omega | exact Nat.lt_trans (ok6 _) (by decide)) (tgt := 45) dX0_profilesOf_17 (by decide) (fun h_17 => ?_) (fun h_17 => absurd h_17 (by omega))
      refine lv_iload_n G.1 G.2.1 dX0_profilesOf_45 rfl (lv_at hl 3 rfl) ?_
      exact W.iret G.1 G.2.1 G.2.2.1 (fun t ht hW => ⟨_, rfl, by show nI _ = nI _; unfold sp_of; rw [show x1 = S 7 ch from by omega], ht⟩) (fun q h => nomatch h) dX0_profilesOf_46 G.2.2.2.2.2.2
    | succ d1 ih1 =>
      intro x1 hd1 ls hl
      refine lv_iload G.1 G.2.1 dX0_profilesOf_14 (lv_at hl 4 rfl) ?_
      refine lv_iload_n G.1 G.2.1 dX0_profilesOf_16 rfl (lv_at hl 2 rfl) ?_
      refine gn_ge G (by first | omega | exact Nat.lt_trans (ok6 _) (by decide)) (by first | omega | exact Nat.lt_trans (ok6 _) (by decide)) (tgt := 45) dX0_profilesOf_17 (by decide) (fun h_17 => absurd h_17 (by omega)) (fun h_17 => ?_)
      refine lv_iload_n G.1 G.2.1 dX0_profilesOf_20 rfl (lv_at hl 3 rfl) ?_
      refine lv_iconst (v := nI 1) G.1 G.2.1 dX0_profilesOf_21 (by decide) ?_
      refine lv_aload_n G.1 G.2.1 dX0_profilesOf_22 rfl (lv_at hl 0 rfl) ?_
      refine gx_get G hX (by decide +kernel) 6 (by decide) (by decide +kernel) rfl rfl rfl dX0_profilesOf_23 ?_
      refine lv_iload_n G.1 G.2.1 dX0_profilesOf_26 rfl (lv_at hl 1 rfl) ?_
      refine lv_bipush (v := nI 6) G.1 G.2.1 dX0_profilesOf_27 (by decide) ?_
      refine gn_imul G dX0_profilesOf_29 ?_
      refine lv_iload G.1 G.2.1 dX0_profilesOf_30 (lv_at hl 4 rfl) ?_
      refine gn_iadd G dX0_profilesOf_32 ?_
      refine gc_s (As := [.ref (q 6), .int (nI ((ch * 6) + x1))]) (rest := [.int (nI 1), .int (nI (sp_ofTo S ch x1))]) G.fix (mX0_read l D (q 6) cI 36 (S 6) ((ch * 6) + x1) (by first | omega | assumption | exact ok6 _ | apply hq)) (va_cwS 2 G.2.2.2.2.2.1 gX0_profilesOf_X0_read rfl rfl rfl (by decide +kernel) ⟨Nat.le_of_ble_eq_true rfl, Nat.le_of_ble_eq_true rfl⟩) rAt_blind (fun U hU hW => by rw [hU]; exact (hX.row 5 rfl).moved hW) rfl hl.1 rfl (Nat.le_of_ble_eq_true rfl) dX0_profilesOf_33 (Nat.zero_le _) (Nat.zero_le _) (fun r hr => ?_)
      subst hr
      refine gn_ishl G dX0_profilesOf_36 (by first | omega | exact Nat.lt_trans (ok6 _) (by decide)) ?_
      refine gn_ior G dX0_profilesOf_37 ?_
      refine lv_istore_n (lv' := [(3, .int (nI ((sp_ofTo S ch x1) ||| (2 ^ (S 6 ((ch * 6) + x1)))))), (0, .ref (q 0)), (1, .int (nI ch)), (2, .int (nI (S 7 ch))), (4, .int (nI x1))]) G.1 G.2.1 dX0_profilesOf_38 rfl hl (by decide) rfl (fun ls hl => ?_)
      refine gn_iinc (lv' := [(4, .int (nI (x1 + 1))), (3, .int (nI ((sp_ofTo S ch x1) ||| (2 ^ (S 6 ((ch * 6) + x1)))))), (0, .ref (q 0)), (1, .int (nI ch)), (2, .int (nI (S 7 ch)))]) (n := 1) G dX0_profilesOf_39 hl (k := 4) rfl (by decide) rfl (fun ls hl => ?_)
      refine lv_goto (tgt := 14) G.1 G.2.1 dX0_profilesOf_42 (by decide) ?_
      exact ih1 (x1 + 1) (by omega) _ (lv_sub hl [2, 3, 4, 1, 0] rfl)
  exact loop1 (S 7 ch) 0 (by omega) _ (lv_sub hl [3, 4, 2, 1, 0] rfl)
set_option maxRecDepth 100000 in
set_option maxHeartbeats 4000000 in
/-- the profiles that are held, as a set -/
theorem mX0_held (l : Launch) (D : va_G) (q : Nat → Nat) (cI : ClassId) (N : Nat → Nat) (S : Nat → Nat → Nat) (tr : Nat → Nat) (A : Nat → Prop) (hok : sp_ok N S) (hN : N 10 < 64) : Met l yX0_held wsX0_held { frames := 2, cells := 0, slots := 0, locals := 45 } (va_Pc [.ref (q 0)] (fun U => xAt D q cI N S tr A U U.heap)) (vp_Si (fun r => r = nI (sp_held N S))) 0 0 (fun _ => False) := by
  refine gc_met [.ref (q 0)] (by decide) rfl (Nat.le_of_ble_eq_true rfl) rfl ?_
  intro p e s m below meth c ls G hl hX
  have hok9 := hok
  obtain ⟨⟨ok0, ok5⟩, ok1, ok2, ok3, ok4, ok6, ok7, ok8, ok12, ok13, ok14⟩ := hok9
  refine lv_iconst (v := nI 0) G.1 G.2.1 dX0_held_0 (by decide) ?_
  refine lv_istore_n (lv' := [(1, .int (nI 0)), (0, .ref (q 0))]) G.1 G.2.1 dX0_held_1 rfl hl (by decide) rfl (fun ls hl => ?_)
  refine lv_iconst (v := nI 0) G.1 G.2.1 dX0_held_2 (by decide) ?_
  refine lv_istore_n (lv' := [(2, .int (nI 0)), (1, .int (nI 0)), (0, .ref (q 0))]) G.1 G.2.1 dX0_held_3 rfl hl (by decide) rfl (fun ls hl => ?_)
  have loop1 : ∀ (d1 x1 : Nat), x1 + d1 = 6 → ∀ ls : Array Slot, lv_has ls 3 [(0, .ref (q 0)), (1, .int (nI (sp_heldTo N S x1))), (2, .int (nI x1))] → W p l e { frames := 2, cells := 0, slots := 0, locals := 45 } s m ([.ref (q 0)] : List Value).toArray below meth c s.heap [] 0 0 (MQ below (vp_Si (fun r => r = nI (sp_held N S))) ([.ref (q 0)] : List Value).toArray s 0 0 (fun _ => False)) (F0 m 4 ls []) := by
    intro d1
    induction d1 with
    | zero =>
      intro x1 hd1 ls hl
      refine lv_iload_n G.1 G.2.1 dX0_held_4 rfl (lv_at hl 2 rfl) ?_
      refine lv_bipush (v := nI 6) G.1 G.2.1 dX0_held_5 (by decide) ?_
      refine gn_ge G (by omega) (by omega) (tgt := 35) dX0_held_7 (by decide) (fun h_7 => ?_) (fun h_7 => absurd h_7 (by omega))
      refine lv_iload_n G.1 G.2.1 dX0_held_35 rfl (lv_at hl 1 rfl) ?_
      exact W.iret G.1 G.2.1 G.2.2.1 (fun t ht hW => ⟨_, rfl, by show nI _ = nI _; unfold sp_held; rw [show x1 = 6 from by omega], ht⟩) (fun q h => nomatch h) dX0_held_36 G.2.2.2.2.2.2
    | succ d1 ih1 =>
      intro x1 hd1 ls hl
      refine lv_iload_n G.1 G.2.1 dX0_held_4 rfl (lv_at hl 2 rfl) ?_
      refine lv_bipush (v := nI 6) G.1 G.2.1 dX0_held_5 (by decide) ?_
      refine gn_ge G (by omega) (by omega) (tgt := 35) dX0_held_7 (by decide) (fun h_7 => absurd h_7 (by omega)) (fun h_7 => ?_)
      refine lv_aload_n G.1 G.2.1 dX0_held_10 rfl (lv_at hl 0 rfl) ?_
      refine gx_get G hX (by decide +kernel) 10 (by decide) (by decide +kernel) rfl rfl rfl dX0_held_11 ?_
      refine lv_iload_n G.1 G.2.1 dX0_held_14 rfl (lv_at hl 2 rfl) ?_
      refine gc_s (As := [.int (nI (N 10)), .int (nI x1)]) (rest := []) G.fix (mX0_hasBit l (N 10) x1 (by first | omega | assumption | exact ok6 _ | apply hq) (by omega)) (va_cwS 2 G.2.2.2.2.2.1 gX0_held_X0_hasBit rfl rfl rfl (by decide +kernel) ⟨Nat.le_of_ble_eq_true rfl, Nat.le_of_ble_eq_true rfl⟩) gc_blindT (fun _ _ _ => trivial) rfl hl.1 rfl (Nat.le_of_ble_eq_true rfl) dX0_held_15 (Nat.zero_le _) (Nat.zero_le _) (fun r hr => ?_)
      subst hr
      refine gn_eqz G (by exact sp_b31 _ _) (tgt := 29) dX0_held_18 (by decide) (fun h_18 => ?_) (fun h_18 => ?_)
      · refine gn_iinc (lv' := [(2, .int (nI (x1 + 1))), (0, .ref (q 0)), (1, .int (nI (sp_heldTo N S x1)))]) (n := 1) G dX0_held_29 hl (k := 2) rfl (by decide) rfl (fun ls hl => ?_)
        refine lv_goto (tgt := 4) G.1 G.2.1 dX0_held_32 (by decide) ?_
        exact ih1 (x1 + 1) (by omega) _ (by have hb9 := sp_bit_lt (N 10) x1; have e9 : sp_heldTo N S (x1 + 1) = sp_heldTo N S x1 := (by first | exact sp_held_y (by omega) | exact sp_held_n (by omega)); rw [e9]; exact lv_sub hl [1, 2, 0] rfl)
      · refine lv_iload_n G.1 G.2.1 dX0_held_21 rfl (lv_at hl 1 rfl) ?_
        refine lv_aload_n G.1 G.2.1 dX0_held_22 rfl (lv_at hl 0 rfl) ?_
        refine lv_iload_n G.1 G.2.1 dX0_held_23 rfl (lv_at hl 2 rfl) ?_
        refine gc_v (As := [.int (nI x1)]) (rest := [.int (nI (sp_heldTo N S x1))]) G.fix (mX0_profilesOf l D q cI N S tr A x1 hok (by first | omega | assumption | exact ok6 _ | apply hq)) (cwV 1 G.2.2.2.2.2.1 gX0_held_X0_profilesOf rfl rfl rfl (by decide +kernel) ⟨Nat.le_of_ble_eq_true rfl, Nat.le_of_ble_eq_true rfl⟩) xAt_blind (va_recv hX.2.1 hX.1 (ci := 0) (q0 := 0) rfl rfl) (fun U hU hW => by rw [hU]; exact hX.moved hW) rfl hl.1 rfl (Nat.le_of_ble_eq_true rfl) dX0_held_24 (Nat.zero_le _) (Nat.zero_le _) (fun r hr => ?_)
        subst hr
        refine gn_ior G dX0_held_27 ?_
        refine lv_istore_n (lv' := [(1, .int (nI ((sp_heldTo N S x1) ||| (sp_of S x1)))), (0, .ref (q 0)), (2, .int (nI x1))]) G.1 G.2.1 dX0_held_28 rfl hl (by decide) rfl (fun ls hl => ?_)
        refine gn_iinc (lv' := [(2, .int (nI (x1 + 1))), (1, .int (nI ((sp_heldTo N S x1) ||| (sp_of S x1)))), (0, .ref (q 0))]) (n := 1) G dX0_held_29 hl (k := 2) rfl (by decide) rfl (fun ls hl => ?_)
        refine lv_goto (tgt := 4) G.1 G.2.1 dX0_held_32 (by decide) ?_
        exact ih1 (x1 + 1) (by omega) _ (by have hb9 := sp_bit_lt (N 10) x1; have e9 : sp_heldTo N S (x1 + 1) = (sp_heldTo N S x1) ||| (sp_of S x1) := (by first | exact sp_held_y (by omega) | exact sp_held_n (by omega)); rw [e9]; exact lv_sub hl [2, 1, 0] rfl)
  exact loop1 6 0 (by omega) _ (lv_sub hl [2, 1, 0] rfl)
set_option maxRecDepth 100000 in
set_option maxHeartbeats 4000000 in
/-- a band of a pixel with inks -/
theorem mX0_inked (l : Launch) (D : va_G) (q : Nat → Nat) (cI : ClassId) (N : Nat → Nat) (S : Nat → Nat → Nat) (tr : Nat → Nat) (A : Nat → Prop) (px bd ks : Nat) (hok : sp_ok N S) (hpx : px < 6) (hbd : bd < 3) (hks : ks ≤ 7) : Met l yX0_inked wsX0_inked { frames := 1, cells := 0, slots := 0, locals := 21 } (va_Pc [.ref (q 0), .int (nI px), .int (nI bd), .int (nI ks)] (fun U => xAt D q cI N S tr A U U.heap)) (vp_Si (fun r => r = nI (sp_ink S px bd ks))) 0 0 (fun _ => False) := by
  refine gc_met [.ref (q 0), .int (nI px), .int (nI bd), .int (nI ks)] (by decide) rfl (Nat.le_of_ble_eq_true rfl) rfl ?_
  intro p e s m below meth c ls G hl hX
  have hok9 := hok
  obtain ⟨⟨ok0, ok5⟩, ok1, ok2, ok3, ok4, ok6, ok7, ok8, ok12, ok13, ok14⟩ := hok9
  have hm := fun i j => Nat.mul_le_mul (ok14 i) (ok13 j)
  have hi := fun k => sp_inkTo_le (px := px) (bd := bd) (ks := ks) hok k
  refine lv_aload_n G.1 G.2.1 dX0_inked_0 rfl (lv_at hl 0 rfl) ?_
  refine gx_get G hX (by decide +kernel) 12 (by decide) (by decide +kernel) rfl rfl rfl dX0_inked_1 ?_
  refine lv_iload_n G.1 G.2.1 dX0_inked_4 rfl (lv_at hl 1 rfl) ?_
  refine lv_iconst (v := nI 3) G.1 G.2.1 dX0_inked_5 (by decide) ?_
  refine gn_imul G dX0_inked_6 ?_
  refine lv_iload_n G.1 G.2.1 dX0_inked_7 rfl (lv_at hl 2 rfl) ?_
  refine gn_iadd G dX0_inked_8 ?_
  refine gc_s (As := [.ref (q 12), .int (nI ((px * 3) + bd))]) (rest := []) G.fix (mX0_read l D (q 12) cI 18 (S 12) ((px * 3) + bd) (by first | omega | assumption | exact ok6 _ | apply hq)) (va_cwS 2 G.2.2.2.2.2.1 gX0_inked_X0_read rfl rfl rfl (by decide +kernel) ⟨Nat.le_of_ble_eq_true rfl, Nat.le_of_ble_eq_true rfl⟩) rAt_blind (fun U hU hW => by rw [hU]; exact (hX.row 9 rfl).moved hW) rfl hl.1 rfl (Nat.le_of_ble_eq_true rfl) dX0_inked_9 (Nat.zero_le _) (Nat.zero_le _) (fun r hr => ?_)
  subst hr
  refine lv_istore (lv' := [(4, .int (nI (S 12 ((px * 3) + bd)))), (0, .ref (q 0)), (1, .int (nI px)), (2, .int (nI bd)), (3, .int (nI ks))]) G.1 G.2.1 dX0_inked_12 hl (by decide) rfl (fun ls hl => ?_)
  refine lv_iconst (v := nI 0) G.1 G.2.1 dX0_inked_14 (by decide) ?_
  refine lv_istore (lv' := [(5, .int (nI 0)), (4, .int (nI (S 12 ((px * 3) + bd)))), (0, .ref (q 0)), (1, .int (nI px)), (2, .int (nI bd)), (3, .int (nI ks))]) G.1 G.2.1 dX0_inked_15 hl (by decide) rfl (fun ls hl => ?_)
  have loop1 : ∀ (d1 x1 : Nat), x1 + d1 = 3 → ∀ ls : Array Slot, lv_has ls 7 [(0, .ref (q 0)), (1, .int (nI px)), (2, .int (nI bd)), (3, .int (nI ks)), (4, .int (nI (sp_inkTo S px bd ks x1))), (5, .int (nI x1))] → W p l e { frames := 1, cells := 0, slots := 0, locals := 21 } s m ([.ref (q 0), .int (nI px), .int (nI bd), .int (nI ks)] : List Value).toArray below meth c s.heap [] 0 0 (MQ below (vp_Si (fun r => r = nI (sp_ink S px bd ks))) ([.ref (q 0), .int (nI px), .int (nI bd), .int (nI ks)] : List Value).toArray s 0 0 (fun _ => False)) (F0 m 17 ls []) := by
    intro d1
    induction d1 with
    | zero =>
      intro x1 hd1 ls hl
      refine lv_iload G.1 G.2.1 dX0_inked_17 (lv_at hl 5 rfl) ?_
      refine lv_iconst (v := nI 3) G.1 G.2.1 dX0_inked_19 (by decide) ?_
      refine gn_ge G (by first | omega | exact sp_b31 _ _ | exact Nat.lt_of_le_of_lt (hm _ _) (by decide) | (have h91 := hm (x1 * 3 + bd) (px * 3 + x1); have h92 := hi x1; have h93 := Nat.div_le_self (S 14 (x1 * 3 + bd) * S 13 (px * 3 + x1)) 255; omega)) (by first | omega | exact sp_b31 _ _ | exact Nat.lt_of_le_of_lt (hm _ _) (by decide) | (have h91 := hm (x1 * 3 + bd) (px * 3 + x1); have h92 := hi x1; have h93 := Nat.div_le_self (S 14 (x1 * 3 + bd) * S 13 (px * 3 + x1)) 255; omega)) (tgt := 84) dX0_inked_20 (by decide) (fun h_20 => ?_) (fun h_20 => absurd h_20 (by omega))
      refine lv_iload G.1 G.2.1 dX0_inked_84 (lv_at hl 4 rfl) ?_
      exact W.iret G.1 G.2.1 G.2.2.1 (fun t ht hW => ⟨_, rfl, by show nI _ = nI _; unfold sp_ink; rw [show x1 = 3 from by omega], ht⟩) (fun q h => nomatch h) dX0_inked_86 G.2.2.2.2.2.2
    | succ d1 ih1 =>
      intro x1 hd1 ls hl
      refine lv_iload G.1 G.2.1 dX0_inked_17 (lv_at hl 5 rfl) ?_
      refine lv_iconst (v := nI 3) G.1 G.2.1 dX0_inked_19 (by decide) ?_
      refine gn_ge G (by first | omega | exact sp_b31 _ _ | exact Nat.lt_of_le_of_lt (hm _ _) (by decide) | (have h91 := hm (x1 * 3 + bd) (px * 3 + x1); have h92 := hi x1; have h93 := Nat.div_le_self (S 14 (x1 * 3 + bd) * S 13 (px * 3 + x1)) 255; omega)) (by first | omega | exact sp_b31 _ _ | exact Nat.lt_of_le_of_lt (hm _ _) (by decide) | (have h91 := hm (x1 * 3 + bd) (px * 3 + x1); have h92 := hi x1; have h93 := Nat.div_le_self (S 14 (x1 * 3 + bd) * S 13 (px * 3 + x1)) 255; omega)) (tgt := 84) dX0_inked_20 (by decide) (fun h_20 => absurd h_20 (by omega)) (fun h_20 => ?_)
      refine lv_iload_n G.1 G.2.1 dX0_inked_23 rfl (lv_at hl 3 rfl) ?_
      refine lv_iload G.1 G.2.1 dX0_inked_24 (lv_at hl 5 rfl) ?_
      refine gc_s (As := [.int (nI ks), .int (nI x1)]) (rest := []) G.fix (mX0_hasBit l ks x1 (by first | omega | assumption | exact ok6 _ | apply hq) (by omega)) (va_cwS 2 G.2.2.2.2.2.1 gX0_inked_X0_hasBit rfl rfl rfl (by decide +kernel) ⟨Nat.le_of_ble_eq_true rfl, Nat.le_of_ble_eq_true rfl⟩) gc_blindT (fun _ _ _ => trivial) rfl hl.1 rfl (Nat.le_of_ble_eq_true rfl) dX0_inked_26 (Nat.zero_le _) (Nat.zero_le _) (fun r hr => ?_)
      subst hr
      refine gn_nez G (by first | omega | exact sp_b31 _ _ | exact Nat.lt_of_le_of_lt (hm _ _) (by decide) | (have h91 := hm (x1 * 3 + bd) (px * 3 + x1); have h92 := hi x1; have h93 := Nat.div_le_self (S 14 (x1 * 3 + bd) * S 13 (px * 3 + x1)) 255; omega)) (tgt := 78) dX0_inked_29 (by decide) (fun h_29 => ?_) (fun h_29 => ?_)
      · refine gn_iinc (lv' := [(5, .int (nI (x1 + 1))), (0, .ref (q 0)), (1, .int (nI px)), (2, .int (nI bd)), (3, .int (nI ks)), (4, .int (nI (sp_inkTo S px bd ks x1)))]) (n := 1) G dX0_inked_78 hl (k := 5) rfl (by decide) rfl (fun ls hl => ?_)
        refine lv_goto (tgt := 17) G.1 G.2.1 dX0_inked_81 (by decide) ?_
        exact ih1 (x1 + 1) (by omega) _ (by have hb9 := sp_bit_lt ks x1; have e9 : sp_inkTo S px bd ks (x1 + 1) = sp_inkTo S px bd ks x1 := (by first | exact sp_ink_y (by omega) | exact sp_ink_n (by omega)); rw [e9]; exact lv_sub hl [1, 2, 3, 4, 5, 0] rfl)
      · refine lv_aload_n G.1 G.2.1 dX0_inked_32 rfl (lv_at hl 0 rfl) ?_
        refine gx_get G hX (by decide +kernel) 14 (by decide) (by decide +kernel) rfl rfl rfl dX0_inked_33 ?_
        refine lv_iload G.1 G.2.1 dX0_inked_36 (lv_at hl 5 rfl) ?_
        refine lv_iconst (v := nI 3) G.1 G.2.1 dX0_inked_38 (by decide) ?_
        refine gn_imul G dX0_inked_39 ?_
        refine lv_iload_n G.1 G.2.1 dX0_inked_40 rfl (lv_at hl 2 rfl) ?_
        refine gn_iadd G dX0_inked_41 ?_
        refine gc_s (As := [.ref (q 14), .int (nI ((x1 * 3) + bd))]) (rest := []) G.fix (mX0_read l D (q 14) cI 9 (S 14) ((x1 * 3) + bd) (by first | omega | assumption | exact ok6 _ | apply hq)) (va_cwS 2 G.2.2.2.2.2.1 gX0_inked_X0_read rfl rfl rfl (by decide +kernel) ⟨Nat.le_of_ble_eq_true rfl, Nat.le_of_ble_eq_true rfl⟩) rAt_blind (fun U hU hW => by rw [hU]; exact (hX.row 11 rfl).moved hW) rfl hl.1 rfl (Nat.le_of_ble_eq_true rfl) dX0_inked_42 (Nat.zero_le _) (Nat.zero_le _) (fun r hr => ?_)
        subst hr
        refine lv_aload_n G.1 G.2.1 dX0_inked_45 rfl (lv_at hl 0 rfl) ?_
        refine gx_get G hX (by decide +kernel) 13 (by decide) (by decide +kernel) rfl rfl rfl dX0_inked_46 ?_
        refine lv_iload_n G.1 G.2.1 dX0_inked_49 rfl (lv_at hl 1 rfl) ?_
        refine lv_iconst (v := nI 3) G.1 G.2.1 dX0_inked_50 (by decide) ?_
        refine gn_imul G dX0_inked_51 ?_
        refine lv_iload G.1 G.2.1 dX0_inked_52 (lv_at hl 5 rfl) ?_
        refine gn_iadd G dX0_inked_54 ?_
        refine gc_s (As := [.ref (q 13), .int (nI ((px * 3) + x1))]) (rest := [.int (nI (S 14 ((x1 * 3) + bd)))]) G.fix (mX0_read l D (q 13) cI 18 (S 13) ((px * 3) + x1) (by first | omega | assumption | exact ok6 _ | apply hq)) (va_cwS 2 G.2.2.2.2.2.1 gX0_inked_X0_read rfl rfl rfl (by decide +kernel) ⟨Nat.le_of_ble_eq_true rfl, Nat.le_of_ble_eq_true rfl⟩) rAt_blind (fun U hU hW => by rw [hU]; exact (hX.row 10 rfl).moved hW) rfl hl.1 rfl (Nat.le_of_ble_eq_true rfl) dX0_inked_55 (Nat.zero_le _) (Nat.zero_le _) (fun r hr => ?_)
        subst hr
        refine gn_imul G dX0_inked_58 ?_
        refine lv_sipush (v := nI 255) G.1 G.2.1 dX0_inked_59 (by decide) ?_
        refine gn_idiv G dX0_inked_62 (by first | omega | exact sp_b31 _ _ | exact Nat.lt_of_le_of_lt (hm _ _) (by decide) | (have h91 := hm (x1 * 3 + bd) (px * 3 + x1); have h92 := hi x1; have h93 := Nat.div_le_self (S 14 (x1 * 3 + bd) * S 13 (px * 3 + x1)) 255; omega)) (by decide) (by decide) ?_
        refine lv_istore (lv' := [(6, .int (nI (((S 14 ((x1 * 3) + bd)) * (S 13 ((px * 3) + x1))) / 255))), (0, .ref (q 0)), (1, .int (nI px)), (2, .int (nI bd)), (3, .int (nI ks)), (4, .int (nI (sp_inkTo S px bd ks x1))), (5, .int (nI x1))]) G.1 G.2.1 dX0_inked_63 hl (by decide) rfl (fun ls hl => ?_)
        refine lv_sipush (v := nI 255) G.1 G.2.1 dX0_inked_65 (by decide) ?_
        refine lv_iload G.1 G.2.1 dX0_inked_68 (lv_at hl 5 rfl) ?_
        refine lv_iload G.1 G.2.1 dX0_inked_70 (lv_at hl 0 rfl) ?_
        refine gn_iadd G dX0_inked_72 ?_
        refine gr_min G hl.1 (ix := 119) (by decide +kernel) (by decide +kernel) (by decide +kernel) (by decide +kernel) (Nat.le_of_ble_eq_true rfl) (Nat.le_of_ble_eq_true rfl) (Nat.zero_le _) (Nat.zero_le _) (by first | omega | exact sp_b31 _ _ | exact Nat.lt_of_le_of_lt (hm _ _) (by decide) | (have h91 := hm (x1 * 3 + bd) (px * 3 + x1); have h92 := hi x1; have h93 := Nat.div_le_self (S 14 (x1 * 3 + bd) * S 13 (px * 3 + x1)) 255; omega)) (by first | omega | exact sp_b31 _ _ | exact Nat.lt_of_le_of_lt (hm _ _) (by decide) | (have h91 := hm (x1 * 3 + bd) (px * 3 + x1); have h92 := hi x1; have h93 := Nat.div_le_self (S 14 (x1 * 3 + bd) * S 13 (px * 3 + x1)) 255; omega)) dX0_inked_73 ?_
        refine lv_istore (lv' := [(4, .int (nI (min 255 ((sp_inkTo S px bd ks x1) + (((S 14 ((x1 * 3) + bd)) * (S 13 ((px * 3) + x1))) / 255))))), (6, .int (nI (((S 14 ((x1 * 3) + bd)) * (S 13 ((px * 3) + x1))) / 255))), (0, .ref (q 0)), (1, .int (nI px)), (2, .int (nI bd)), (3, .int (nI ks)), (5, .int (nI x1))]) G.1 G.2.1 dX0_inked_76 hl (by decide) rfl (fun ls hl => ?_)
        refine gn_iinc (lv' := [(5, .int (nI (x1 + 1))), (4, .int (nI (min 255 ((sp_inkTo S px bd ks x1) + (((S 14 ((x1 * 3) + bd)) * (S 13 ((px * 3) + x1))) / 255))))), (6, .int (nI (((S 14 ((x1 * 3) + bd)) * (S 13 ((px * 3) + x1))) / 255))), (0, .ref (q 0)), (1, .int (nI px)), (2, .int (nI bd)), (3, .int (nI ks))]) (n := 1) G dX0_inked_78 hl (k := 6) rfl (by decide) rfl (fun ls hl => ?_)
        refine lv_goto (tgt := 17) G.1 G.2.1 dX0_inked_81 (by decide) ?_
        exact ih1 (x1 + 1) (by omega) _ (by have hb9 := sp_bit_lt ks x1; have e9 : sp_inkTo S px bd ks (x1 + 1) = min 255 ((sp_inkTo S px bd ks x1) + (((S 14 ((x1 * 3) + bd)) * (S 13 ((px * 3) + x1))) / 255)) := (by first | exact sp_ink_y (by omega) | exact sp_ink_n (by omega)); rw [e9]; exact lv_sub hl [3, 4, 5, 6, 1, 0] rfl)
  exact loop1 3 0 (by omega) _ (lv_sub hl [2, 3, 4, 5, 1, 0] rfl)
set_option maxRecDepth 100000 in
set_option maxHeartbeats 4000000 in
/-- whether a chain differs from what is kept -/
theorem mX0_differsFromKept (l : Launch) (D : va_G) (q : Nat → Nat) (cI : ClassId) (N : Nat → Nat) (S : Nat → Nat → Nat) (tr : Nat → Nat) (A : Nat → Prop) (ch : Nat) (hok : sp_ok N S) (hch : ch < 6) : Met l yX0_differsFromKept wsX0_differsFromKept { frames := 5, cells := 0, slots := 0, locals := 124 } (va_Pc [.ref (q 0), .int (nI ch)] (fun U => xAt D q cI N S tr A U U.heap)) (vp_Si (fun r => r = nI (sp_dif S ch))) 0 0 (fun _ => False) := by
  refine gc_met [.ref (q 0), .int (nI ch)] (by decide) rfl (Nat.le_of_ble_eq_true rfl) rfl ?_
  intro p e s m below meth c ls G hl hX
  have hok9 := hok
  obtain ⟨⟨ok0, ok5⟩, ok1, ok2, ok3, ok4, ok6, ok7, ok8, ok12, ok13, ok14⟩ := hok9
  have hq := fun k => @sp_vop_le k
  refine lv_iconst (v := nI 0) G.1 G.2.1 dX0_differsFromKept_0 (by decide) ?_
  refine lv_istore_n (lv' := [(2, .int (nI 0)), (0, .ref (q 0)), (1, .int (nI ch))]) G.1 G.2.1 dX0_differsFromKept_1 rfl hl (by decide) rfl (fun ls hl => ?_)
  have loop1 : ∀ (d1 x1 : Nat), x1 + d1 = 3 → sp_difTo S ch (x1 * 5) = 0 → ∀ ls : Array Slot, lv_has ls 5 [(0, .ref (q 0)), (1, .int (nI ch)), (2, .int (nI x1))] → W p l e { frames := 5, cells := 0, slots := 0, locals := 124 } s m ([.ref (q 0), .int (nI ch)] : List Value).toArray below meth c s.heap [] 0 0 (MQ below (vp_Si (fun r => r = nI (sp_dif S ch))) ([.ref (q 0), .int (nI ch)] : List Value).toArray s 0 0 (fun _ => False)) (F0 m 2 ls []) := by
    intro d1
    induction d1 with
    | zero =>
      intro x1 hd1 hv1 ls hl
      refine lv_iload_n G.1 G.2.1 dX0_differsFromKept_2 rfl (lv_at hl 2 rfl) ?_
      refine lv_iconst (v := nI 3) G.1 G.2.1 dX0_differsFromKept_3 (by decide) ?_
      refine gn_ge G (by first | omega | exact Nat.lt_of_le_of_lt (sp_pass_le hok sp_vop_le) (by decide) | exact Nat.lt_of_le_of_lt (ok8 _) (by decide)) (by first | omega | exact Nat.lt_of_le_of_lt (sp_pass_le hok sp_vop_le) (by decide) | exact Nat.lt_of_le_of_lt (ok8 _) (by decide)) (tgt := 61) dX0_differsFromKept_4 (by decide) (fun h_4 => ?_) (fun h_4 => absurd h_4 (by omega))
      refine lv_iconst (v := nI 0) G.1 G.2.1 dX0_differsFromKept_61 (by decide) ?_
      exact W.zret G.1 G.2.1 G.2.2.1 rfl (fun t ht hW => ⟨_, rfl, by show nI _ = nI _; unfold sp_dif; rw [show 15 = x1 * 5 from by omega, hv1], ht⟩) (fun q h => nomatch h) dX0_differsFromKept_62 G.2.2.2.2.2.2
    | succ d1 ih1 =>
      intro x1 hd1 hv1 ls hl
      refine lv_iload_n G.1 G.2.1 dX0_differsFromKept_2 rfl (lv_at hl 2 rfl) ?_
      refine lv_iconst (v := nI 3) G.1 G.2.1 dX0_differsFromKept_3 (by decide) ?_
      refine gn_ge G (by first | omega | exact Nat.lt_of_le_of_lt (sp_pass_le hok sp_vop_le) (by decide) | exact Nat.lt_of_le_of_lt (ok8 _) (by decide)) (by first | omega | exact Nat.lt_of_le_of_lt (sp_pass_le hok sp_vop_le) (by decide) | exact Nat.lt_of_le_of_lt (ok8 _) (by decide)) (tgt := 61) dX0_differsFromKept_4 (by decide) (fun h_4 => absurd h_4 (by omega)) (fun h_4 => ?_)
      refine lv_iconst (v := nI 0) G.1 G.2.1 dX0_differsFromKept_7 (by decide) ?_
      refine lv_istore_n (lv' := [(3, .int (nI 0)), (0, .ref (q 0)), (1, .int (nI ch)), (2, .int (nI x1))]) G.1 G.2.1 dX0_differsFromKept_8 rfl hl (by decide) rfl (fun ls hl => ?_)
      have loop2 : ∀ (d2 x2 : Nat), x2 + d2 = 5 → sp_difTo S ch (x1 * 5 + x2) = 0 → ∀ ls : Array Slot, lv_has ls 5 [(0, .ref (q 0)), (1, .int (nI ch)), (2, .int (nI x1)), (3, .int (nI x2))] → W p l e { frames := 5, cells := 0, slots := 0, locals := 124 } s m ([.ref (q 0), .int (nI ch)] : List Value).toArray below meth c s.heap [] 0 0 (MQ below (vp_Si (fun r => r = nI (sp_dif S ch))) ([.ref (q 0), .int (nI ch)] : List Value).toArray s 0 0 (fun _ => False)) (F0 m 9 ls []) := by
        intro d2
        induction d2 with
        | zero =>
          intro x2 hd2 hv2 ls hl
          refine lv_iload_n G.1 G.2.1 dX0_differsFromKept_9 rfl (lv_at hl 3 rfl) ?_
          refine lv_iconst (v := nI 5) G.1 G.2.1 dX0_differsFromKept_10 (by decide) ?_
          refine gn_ge G (by first | omega | exact Nat.lt_of_le_of_lt (sp_pass_le hok sp_vop_le) (by decide) | exact Nat.lt_of_le_of_lt (ok8 _) (by decide)) (by first | omega | exact Nat.lt_of_le_of_lt (sp_pass_le hok sp_vop_le) (by decide) | exact Nat.lt_of_le_of_lt (ok8 _) (by decide)) (tgt := 55) dX0_differsFromKept_11 (by decide) (fun h_11 => ?_) (fun h_11 => absurd h_11 (by omega))
          refine gn_iinc (lv' := [(2, .int (nI (x1 + 1))), (0, .ref (q 0)), (1, .int (nI ch)), (3, .int (nI x2))]) (n := 1) G dX0_differsFromKept_55 hl (k := 2) rfl (by decide) rfl (fun ls hl => ?_)
          refine lv_goto (tgt := 2) G.1 G.2.1 dX0_differsFromKept_58 (by decide) ?_
          exact ih1 (x1 + 1) (by omega) (by rw [show (x1 + 1) * 5 = x1 * 5 + x2 from by omega]; exact hv2) _ (lv_sub hl [1, 2, 0] rfl)
        | succ d2 ih2 =>
          intro x2 hd2 hv2 ls hl
          refine lv_iload_n G.1 G.2.1 dX0_differsFromKept_9 rfl (lv_at hl 3 rfl) ?_
          refine lv_iconst (v := nI 5) G.1 G.2.1 dX0_differsFromKept_10 (by decide) ?_
          refine gn_ge G (by first | omega | exact Nat.lt_of_le_of_lt (sp_pass_le hok sp_vop_le) (by decide) | exact Nat.lt_of_le_of_lt (ok8 _) (by decide)) (by first | omega | exact Nat.lt_of_le_of_lt (sp_pass_le hok sp_vop_le) (by decide) | exact Nat.lt_of_le_of_lt (ok8 _) (by decide)) (tgt := 55) dX0_differsFromKept_11 (by decide) (fun h_11 => absurd h_11 (by omega)) (fun h_11 => ?_)
          refine lv_aload_n G.1 G.2.1 dX0_differsFromKept_14 rfl (lv_at hl 0 rfl) ?_
          refine gx_get G hX (by decide +kernel) 8 (by decide) (by decide +kernel) rfl rfl rfl dX0_differsFromKept_15 ?_
          refine lv_iload_n G.1 G.2.1 dX0_differsFromKept_18 rfl (lv_at hl 1 rfl) ?_
          refine lv_iconst (v := nI 3) G.1 G.2.1 dX0_differsFromKept_19 (by decide) ?_
          refine gn_imul G dX0_differsFromKept_20 ?_
          refine lv_iload_n G.1 G.2.1 dX0_differsFromKept_21 rfl (lv_at hl 2 rfl) ?_
          refine gn_iadd G dX0_differsFromKept_22 ?_
          refine lv_iconst (v := nI 5) G.1 G.2.1 dX0_differsFromKept_23 (by decide) ?_
          refine gn_imul G dX0_differsFromKept_24 ?_
          refine lv_iload_n G.1 G.2.1 dX0_differsFromKept_25 rfl (lv_at hl 3 rfl) ?_
          refine gn_iadd G dX0_differsFromKept_26 ?_
          refine gc_s (As := [.ref (q 8), .int (nI ((((ch * 3) + x1) * 5) + x2))]) (rest := []) G.fix (mX0_read l D (q 8) cI 90 (S 8) ((((ch * 3) + x1) * 5) + x2) (by first | omega | assumption | exact ok6 _ | apply hq)) (va_cwS 2 G.2.2.2.2.2.1 gX0_differsFromKept_X0_read rfl rfl rfl (by decide +kernel) ⟨Nat.le_of_ble_eq_true rfl, Nat.le_of_ble_eq_true rfl⟩) rAt_blind (fun U hU hW => by rw [hU]; exact (hX.row 7 rfl).moved hW) rfl hl.1 rfl (Nat.le_of_ble_eq_true rfl) dX0_differsFromKept_27 (Nat.zero_le _) (Nat.zero_le _) (fun r hr => ?_)
          subst hr
          refine lv_istore (lv' := [(4, .int (nI (S 8 ((((ch * 3) + x1) * 5) + x2)))), (0, .ref (q 0)), (1, .int (nI ch)), (2, .int (nI x1)), (3, .int (nI x2))]) G.1 G.2.1 dX0_differsFromKept_30 hl (by decide) rfl (fun ls hl => ?_)
          refine lv_aload_n G.1 G.2.1 dX0_differsFromKept_32 rfl (lv_at hl 1 rfl) ?_
          refine lv_iload_n G.1 G.2.1 dX0_differsFromKept_33 rfl (lv_at hl 2 rfl) ?_
          refine lv_iload_n G.1 G.2.1 dX0_differsFromKept_34 rfl (lv_at hl 3 rfl) ?_
          refine lv_iload_n G.1 G.2.1 dX0_differsFromKept_35 rfl (lv_at hl 4 rfl) ?_
          refine gc_s (As := [.int (nI x2)]) (rest := [.int (nI x1), .int (nI ch), .ref (q 0)]) G.fix (mX0_valueOfPlace l x2 (by omega)) (va_cwS 1 G.2.2.2.2.2.1 gX0_differsFromKept_X0_valueOfPlace rfl rfl rfl (by decide +kernel) ⟨Nat.le_of_ble_eq_true rfl, Nat.le_of_ble_eq_true rfl⟩) gc_blindT (fun _ _ _ => trivial) rfl hl.1 rfl (Nat.le_of_ble_eq_true rfl) dX0_differsFromKept_36 (Nat.zero_le _) (Nat.zero_le _) (fun r hr => ?_)
          subst hr
          refine gc_v (As := [.int (nI ch), .int (nI x1), .int (nI (sp_vop x2))]) (rest := []) G.fix (mX0_pass l D q cI N S tr A ch x1 (sp_vop x2) hok (by first | omega | assumption | exact ok6 _ | apply hq) (by first | omega | assumption | exact ok6 _ | apply hq) (by first | omega | assumption | exact ok6 _ | apply hq)) (cwV 3 G.2.2.2.2.2.1 gX0_differsFromKept_X0_pass rfl rfl rfl (by decide +kernel) ⟨Nat.le_of_ble_eq_true rfl, Nat.le_of_ble_eq_true rfl⟩) xAt_blind (va_recv hX.2.1 hX.1 (ci := 0) (q0 := 0) rfl rfl) (fun U hU hW => by rw [hU]; exact hX.moved hW) rfl hl.1 rfl (Nat.le_of_ble_eq_true rfl) dX0_differsFromKept_39 (Nat.zero_le _) (Nat.zero_le _) (fun r hr => ?_)
          subst hr
          refine lv_iload G.1 G.2.1 dX0_differsFromKept_42 (lv_at hl 0 rfl) ?_
          refine gn_eq G (by first | omega | exact Nat.lt_of_le_of_lt (sp_pass_le hok sp_vop_le) (by decide) | exact Nat.lt_of_le_of_lt (ok8 _) (by decide)) (by first | omega | exact Nat.lt_of_le_of_lt (sp_pass_le hok sp_vop_le) (by decide) | exact Nat.lt_of_le_of_lt (ok8 _) (by decide)) (tgt := 49) dX0_differsFromKept_44 (by decide) (fun h_44 => ?_) (fun h_44 => ?_)
          · refine gn_iinc (lv' := [(3, .int (nI (x2 + 1))), (4, .int (nI (S 8 ((((ch * 3) + x1) * 5) + x2)))), (0, .ref (q 0)), (1, .int (nI ch)), (2, .int (nI x1))]) (n := 1) G dX0_differsFromKept_49 hl (k := 4) rfl (by decide) rfl (fun ls hl => ?_)
            refine lv_goto (tgt := 9) G.1 G.2.1 dX0_differsFromKept_52 (by decide) ?_
            exact ih2 (x2 + 1) (by omega) (sp_dif_e hv2 (by omega) h_44) _ (lv_sub hl [2, 3, 4, 0] rfl)
          · refine lv_iconst (v := nI 1) G.1 G.2.1 dX0_differsFromKept_47 (by decide) ?_
            exact W.zret G.1 G.2.1 G.2.2.1 rfl (fun t ht hW => ⟨_, rfl, by show nI _ = nI _; rw [sp_dif_d hv2 (by omega) (by omega) h_44], ht⟩) (fun q h => nomatch h) dX0_differsFromKept_48 G.2.2.2.2.2.2
      exact loop2 5 0 (by omega) (hv1) _ (lv_sub hl [1, 2, 3, 0] rfl)
  exact loop1 3 0 (by omega) (rfl) _ (lv_sub hl [1, 2, 0] rfl)
set_option maxRecDepth 100000 in
set_option maxHeartbeats 4000000 in
/-- the chains that are joined and stale -/
theorem mX0_stale (l : Launch) (D : va_G) (q : Nat → Nat) (cI : ClassId) (N : Nat → Nat) (S : Nat → Nat → Nat) (tr : Nat → Nat) (A : Nat → Prop) (hok : sp_ok N S) (hN : N 9 < 64) : Met l yX0_stale wsX0_stale { frames := 6, cells := 0, slots := 0, locals := 148 } (va_Pc [.ref (q 0)] (fun U => xAt D q cI N S tr A U U.heap)) (vp_Si (fun r => r = nI (sp_stale N S))) 0 0 (fun _ => False) := by
  refine gc_met [.ref (q 0)] (by decide) rfl (Nat.le_of_ble_eq_true rfl) rfl ?_
  intro p e s m below meth c ls G hl hX
  have hok9 := hok
  obtain ⟨⟨ok0, ok5⟩, ok1, ok2, ok3, ok4, ok6, ok7, ok8, ok12, ok13, ok14⟩ := hok9
  refine lv_iconst (v := nI 0) G.1 G.2.1 dX0_stale_0 (by decide) ?_
  refine lv_istore_n (lv' := [(1, .int (nI 0)), (0, .ref (q 0))]) G.1 G.2.1 dX0_stale_1 rfl hl (by decide) rfl (fun ls hl => ?_)
  refine lv_iconst (v := nI 0) G.1 G.2.1 dX0_stale_2 (by decide) ?_
  refine lv_istore_n (lv' := [(2, .int (nI 0)), (1, .int (nI 0)), (0, .ref (q 0))]) G.1 G.2.1 dX0_stale_3 rfl hl (by decide) rfl (fun ls hl => ?_)
  have loop1 : ∀ (d1 x1 : Nat), x1 + d1 = 6 → ∀ ls : Array Slot, lv_has ls 3 [(0, .ref (q 0)), (1, .int (nI (sp_staleTo N S x1))), (2, .int (nI x1))] → W p l e { frames := 6, cells := 0, slots := 0, locals := 148 } s m ([.ref (q 0)] : List Value).toArray below meth c s.heap [] 0 0 (MQ below (vp_Si (fun r => r = nI (sp_stale N S))) ([.ref (q 0)] : List Value).toArray s 0 0 (fun _ => False)) (F0 m 4 ls []) := by
    intro d1
    induction d1 with
    | zero =>
      intro x1 hd1 ls hl
      refine lv_iload_n G.1 G.2.1 dX0_stale_4 rfl (lv_at hl 2 rfl) ?_
      refine lv_bipush (v := nI 6) G.1 G.2.1 dX0_stale_5 (by decide) ?_
      refine gn_ge G (by omega) (by omega) (tgt := 41) dX0_stale_7 (by decide) (fun h_7 => ?_) (fun h_7 => absurd h_7 (by omega))
      refine lv_iload_n G.1 G.2.1 dX0_stale_41 rfl (lv_at hl 1 rfl) ?_
      exact W.iret G.1 G.2.1 G.2.2.1 (fun t ht hW => ⟨_, rfl, by show nI _ = nI _; unfold sp_stale; rw [show x1 = 6 from by omega], ht⟩) (fun q h => nomatch h) dX0_stale_42 G.2.2.2.2.2.2
    | succ d1 ih1 =>
      intro x1 hd1 ls hl
      refine lv_iload_n G.1 G.2.1 dX0_stale_4 rfl (lv_at hl 2 rfl) ?_
      refine lv_bipush (v := nI 6) G.1 G.2.1 dX0_stale_5 (by decide) ?_
      refine gn_ge G (by omega) (by omega) (tgt := 41) dX0_stale_7 (by decide) (fun h_7 => absurd h_7 (by omega)) (fun h_7 => ?_)
      refine lv_aload_n G.1 G.2.1 dX0_stale_10 rfl (lv_at hl 0 rfl) ?_
      refine gx_get G hX (by decide +kernel) 9 (by decide) (by decide +kernel) rfl rfl rfl dX0_stale_11 ?_
      refine lv_iload_n G.1 G.2.1 dX0_stale_14 rfl (lv_at hl 2 rfl) ?_
      refine gc_s (As := [.int (nI (N 9)), .int (nI x1)]) (rest := []) G.fix (mX0_hasBit l (N 9) x1 (by first | omega | assumption | exact ok6 _ | apply hq) (by omega)) (va_cwS 2 G.2.2.2.2.2.1 gX0_stale_X0_hasBit rfl rfl rfl (by decide +kernel) ⟨Nat.le_of_ble_eq_true rfl, Nat.le_of_ble_eq_true rfl⟩) gc_blindT (fun _ _ _ => trivial) rfl hl.1 rfl (Nat.le_of_ble_eq_true rfl) dX0_stale_15 (Nat.zero_le _) (Nat.zero_le _) (fun r hr => ?_)
      subst hr
      refine gn_eqz G (by exact sp_b31 _ _) (tgt := 35) dX0_stale_18 (by decide) (fun h_18 => ?_) (fun h_18 => ?_)
      · refine gn_iinc (lv' := [(2, .int (nI (x1 + 1))), (0, .ref (q 0)), (1, .int (nI (sp_staleTo N S x1)))]) (n := 1) G dX0_stale_35 hl (k := 2) rfl (by decide) rfl (fun ls hl => ?_)
        refine lv_goto (tgt := 4) G.1 G.2.1 dX0_stale_38 (by decide) ?_
        exact ih1 (x1 + 1) (by omega) _ (by have hb9 := sp_bit_lt (N 9) x1; have hd9 := sp_dif_lt S x1; have e9 : sp_staleTo N S (x1 + 1) = sp_staleTo N S x1 := (by first | exact sp_stale_y (by omega) | exact sp_stale_n (by omega)); rw [e9]; exact lv_sub hl [1, 2, 0] rfl)
      · refine lv_aload_n G.1 G.2.1 dX0_stale_21 rfl (lv_at hl 0 rfl) ?_
        refine lv_iload_n G.1 G.2.1 dX0_stale_22 rfl (lv_at hl 2 rfl) ?_
        refine gc_v (As := [.int (nI x1)]) (rest := []) G.fix (mX0_differsFromKept l D q cI N S tr A x1 hok (by first | omega | assumption | exact ok6 _ | apply hq)) (cwV 1 G.2.2.2.2.2.1 gX0_stale_X0_differsFromKept rfl rfl rfl (by decide +kernel) ⟨Nat.le_of_ble_eq_true rfl, Nat.le_of_ble_eq_true rfl⟩) xAt_blind (va_recv hX.2.1 hX.1 (ci := 0) (q0 := 0) rfl rfl) (fun U hU hW => by rw [hU]; exact hX.moved hW) rfl hl.1 rfl (Nat.le_of_ble_eq_true rfl) dX0_stale_23 (Nat.zero_le _) (Nat.zero_le _) (fun r hr => ?_)
        subst hr
        refine gn_eqz G (by exact sp_d31 _ _) (tgt := 35) dX0_stale_26 (by decide) (fun h_26 => ?_) (fun h_26 => ?_)
        · refine gn_iinc (lv' := [(2, .int (nI (x1 + 1))), (0, .ref (q 0)), (1, .int (nI (sp_staleTo N S x1)))]) (n := 1) G dX0_stale_35 hl (k := 2) rfl (by decide) rfl (fun ls hl => ?_)
          refine lv_goto (tgt := 4) G.1 G.2.1 dX0_stale_38 (by decide) ?_
          exact ih1 (x1 + 1) (by omega) _ (by have hb9 := sp_bit_lt (N 9) x1; have hd9 := sp_dif_lt S x1; have e9 : sp_staleTo N S (x1 + 1) = sp_staleTo N S x1 := (by first | exact sp_stale_y (by omega) | exact sp_stale_n (by omega)); rw [e9]; exact lv_sub hl [1, 2, 0] rfl)
        · refine lv_iload_n G.1 G.2.1 dX0_stale_29 rfl (lv_at hl 1 rfl) ?_
          refine lv_iconst (v := nI 1) G.1 G.2.1 dX0_stale_30 (by decide) ?_
          refine lv_iload_n G.1 G.2.1 dX0_stale_31 rfl (lv_at hl 2 rfl) ?_
          refine gn_ishl G dX0_stale_32 (by omega) ?_
          refine gn_ior G dX0_stale_33 ?_
          refine lv_istore_n (lv' := [(1, .int (nI ((sp_staleTo N S x1) ||| (2 ^ x1)))), (0, .ref (q 0)), (2, .int (nI x1))]) G.1 G.2.1 dX0_stale_34 rfl hl (by decide) rfl (fun ls hl => ?_)
          refine gn_iinc (lv' := [(2, .int (nI (x1 + 1))), (1, .int (nI ((sp_staleTo N S x1) ||| (2 ^ x1)))), (0, .ref (q 0))]) (n := 1) G dX0_stale_35 hl (k := 2) rfl (by decide) rfl (fun ls hl => ?_)
          refine lv_goto (tgt := 4) G.1 G.2.1 dX0_stale_38 (by decide) ?_
          exact ih1 (x1 + 1) (by omega) _ (by have hb9 := sp_bit_lt (N 9) x1; have hd9 := sp_dif_lt S x1; have e9 : sp_staleTo N S (x1 + 1) = (sp_staleTo N S x1) ||| (2 ^ x1) := (by first | exact sp_stale_y (by omega) | exact sp_stale_n (by omega)); rw [e9]; exact lv_sub hl [2, 1, 0] rfl)
  exact loop1 6 0 (by omega) _ (lv_sub hl [2, 1, 0] rfl)
end
section
/-! THE LAYER, SECOND PART: writes of rows and fields, throws, what a public call's exceptions mean -/
abbrev gIO : String := "java/lang/IndexOutOfBoundsException"
abbrev gIA : String := "java/lang/IllegalArgumentException"
abbrev gIS : String := "java/lang/IllegalStateException"
abbrev gNm : List String := ["java/lang/RuntimeException", "java/lang/Exception"]
def gn (x : Int32) : Nat := x.toInt.toNat
theorem gn_nI {j : Nat} (h : j < 2 ^ 31) : gn (nI j) = j := by unfold gn; rw [nI_toInt h]; omega
theorem gb_nlt {x : Int32} {n : Nat} (hn : n < 2 ^ 31) (h : ¬ x < nI n) : gb x n = false := gb_big hn (by
  rw [Int32.le_iff_toInt_le]
  have h2 : ¬ x.toInt < (nI n).toInt := fun q => h (Int32.lt_iff_toInt_lt.mpr q)
  omega)
/-- which exception, by three tests in their order -/
def gE3 (a b c : Bool) (E : String) : Prop := (E = gIO ∧ a = false) ∨ (E = gIA ∧ a = true ∧ b = false) ∨ (E = gIS ∧ a = true ∧ b = true ∧ c = false)
/-- the number of a call's exception, by three tests in their order -/
def gk (a b c : Bool) : Nat := if a then (if b then (if c then 0 else 3) else 2) else 1
theorem gx_good_IS : ∀ w ∈ Cond.classLink RX0 47 gIS :: Cond.initialized gIS :: vx_atS RX0 51 gIS gNm, vx_ot w = true := by decide +kernel
theorem gx_good_IO : ∀ w ∈ Cond.classLink RX0 69 gIO :: Cond.initialized gIO :: vx_atS RX0 73 gIO gNm, vx_ot w = true := by decide +kernel
theorem gx_good_IA : ∀ w ∈ Cond.classLink RX0 80 gIA :: Cond.initialized gIA :: vx_atS RX0 84 gIA gNm, vx_ot w = true := by decide +kernel
theorem gx_not_IS : ∀ w ∈ (vx_atS RX0 51 gIS gNm).filter (fun w => !goodWord w), w ∈ gB := by decide +kernel
theorem gx_not_IO : ∀ w ∈ (vx_atS RX0 73 gIO gNm).filter (fun w => !goodWord w), w ∈ gB := by decide +kernel
theorem gx_not_IA : ∀ w ∈ (vx_atS RX0 84 gIA gNm).filter (fun w => !goodWord w), w ∈ gB := by decide +kernel
theorem gB_tab : ∀ w ∈ gB, w.onTables = true := by decide +kernel
theorem gb_in0 {D : va_G} {cl : List vw_C} {q : Nat × va_E} {H : Heap} (h : va_at D cl q H) : q.1 < H.size := h.lt
theorem gp_setP {D : va_G} {cl : List vw_C} {A : Nat → Prop} {kp : Nat} {ws : va_W} {a : Nat} {e0 e1 : va_E} {H H1 : Heap} (hP : va_P D cl ws H) (hD : va_D A ws) (hk : ws[kp]? = some (a, e0)) (hP1 : va_P D cl [(a, e1)] H1) (oq : ∀ z : Nat, z < H.size → z ≠ a → H1[z]? = H[z]?) : va_P D cl (ws.set kp (a, e1)) H1 := by
  intro k x hx
  rw [List.getElem?_set] at hx
  split at hx
  · split at hx
    · obtain rfl := Option.some.inj hx
      exact hP1 0 _ rfl
    · cases hx
  · rename_i hne
    have h1 := hP k x hx
    refine h1.kept (oq _ h1.lt (fun z => hne ?_))
    exact hD.1 kp k _ _ hk hx z.symm
theorem gp_setS {A : Nat → Prop} {H0 H H1 : Heap} {locs L : List Loc} {a : Nat} (hS : va_S A H0 H locs) (hz : H.size ≤ H1.size) (oq : ∀ z : Nat, z < H.size → z ≠ a → H1[z]? = H[z]?) (ha : A a) (hL : ∀ z ∈ L, z.base = a) : va_S A H0 H1 (locs ++ L) := by
  refine ⟨Nat.le_trans hS.1 hz, fun z h1 h2 => ?_, fun z hz => ?_⟩
  · rw [oq z (Nat.lt_of_lt_of_le h1 hS.1) (fun q => h2 (q ▸ ha))]
    exact hS.2.1 z h1 h2
  · rcases List.mem_append.mp hz with h | h
    · exact hS.2.2 z h
    · rw [hL z h]; exact ha
/-- what swap does -/
def gQs (D : va_G) (a : Nat) (cI : ClassId) (n : Nat) (F : Nat → Nat) (i v : Nat) : Array Value → State → Outcome → State → Prop := fun _ st oc t =>
  oc = .returned (some (.int (nI (F i)))) ∧ va_P D vwCl [(a, .inl (cI, n, .inl (gr (gu F i v))))] t.heap ∧ st.heap.size ≤ t.heap.size ∧ ∀ z : Nat, z < st.heap.size → z ≠ a → t.heap[z]? = st.heap[z]?
section GW
variable {p : Program} {l : Launch} {e : Env} {R : Room} {s : State} {m : MethodId} {args : Array Value} {below : List Frame} {meth : Method} {c : Code} {H : Heap} {locs : List Loc} {cells slots : Nat} {Q : State → Prop}
variable {y : MethodName} {bytes cc : ByteArray} {maxL nL mc ms n index pc : Nat} {ret : Option FieldType} {ws ws' : List Cond} {rm : Room} {Qc : Array Value → State → Outcome → State → Prop} {XC : String → State → State → Prop} {free : Addr → Prop} {Ts : List Cond} {own : String} {As rest st0 : List Value} {ls : Array Slot} {Bp : State → Prop} {b : Nat}
variable {D : va_G} {q : Nat → Nat} {cI : ClassId} {N N' : Nat → Nat} {S S' : Nat → Nat → Nat} {tr tr' : Nat → Nat} {A : Nat → Prop}
/-- a row of the object's is written by swap -/
theorem gx_swap {F : Nat → Nat} {i v k len kp : Nat} (G : CallFix p m c cc nL s args Ts own) (hM : Met l y ws rm (va_Pc [.ref (q k), .int (nI i), .int (nI v)] (fun U => rAt D (q k) cI len F U U.heap)) (gQs D (q k) cI len F i v) 0 0 (fun z => z = q k)) (cw : CallB R s args own index y bytes maxL ret ws rm 0 0 3 ∧ (Cond.static y).before args s = true)
    (hX : xAt D q cI N S tr A s H) (hS : va_S A s.heap H locs) (hkp : (xw q cI N S tr)[kp]? = some (q k, .inl (cI, len, .inl (gr F)))) (hnew : (xw q cI N S tr).set kp (q k, .inl (cI, len, .inl (gr (gu F i v)))) = xw q cI N S' tr')
    (hsz : ls.size = nL) (hst : st0 = [.int (nI v), .int (nI i), .ref (q k)] ++ rest) (hW : (rest.map fun v => v.category).sum ≤ 8) (hdg : decode cc pc = .ok (.invokestatic index, 3)) (hc : cells ≤ R.cells) (hs : slots ≤ R.slots)
    (kk : ∀ (H1 : Heap) (locs1 : List Loc), xAt D q cI N S' tr' A s H1 → va_S A s.heap H1 locs1 → W p l e R s m args below meth c H1 locs1 cells slots Q (F0 m (pc + 3) ls (.int (nI (F i)) :: rest))) : W p l e R s m args below meth c H locs cells slots Q (F0 m pc ls st0) := by
  intro T hT X
  obtain ⟨v9, st₀, t, T', L, h0, X', hL, e1, ⟨hv, hP1, hz, oq⟩, st⟩ := W.runS (As := [.ref (q k), .int (nI i), .int (nI v)]) (rest := rest) (g := F0 m pc ls st0) G hM cw ⟨rAt_blind, fun U hU hW => ⟨rfl, by show rAt _ _ _ _ _ U U.heap; rw [hU]; exact (hX.row kp hkp).moved hW⟩⟩ rfl rfl hsz hst (lv_room hW) hdg ⟨hc, hs⟩ T hT X
  cases hv
  rw [h0] at hz oq
  have hP2 := gp_setP hX.1 hX.2.2.1 hkp hP1 oq
  rw [hnew] at hP2
  have hD2 : va_D A (xw q cI N S' tr') := hnew ▸ (hX.2.2.1.set hkp)
  have ha : A (q k) := hX.2.2.1.2 kp _ hkp
  have hS2 := gp_setS hS hz oq ha hL
  obtain ⟨t2, a1, b1⟩ := kk t.heap _ ⟨hP2, hX.2.1, hD2, hX.2.2.2.kept (fun z h1 h2 => oq z h1 (fun q => h2 (q ▸ ha)))⟩ hS2 T' e1 X'
  exact ⟨t2, st t2 a1, b1⟩
/-- a number of the object's is written -/
theorem gx_put {k v : Nat} {fs : List Value} (G : gF p s m args meth c cc ret nL RX0 ws) (hZ0 : gZ A s s.heap) (hX : xAt D q cI N S tr A s H) (hS : va_S A s.heap H locs) (hin : ∀ w ∈ wsX00, w ∈ ws) (hk : k < 15)
    (hlink : Cond.fieldLink RX0 index "GamutChain" (TX0 k).2.1 (TX0 k).2.2.1 ∈ ws) (hsame : (TX0 k).1 = "GamutChain") (hfin : (TX0 k).2.2.2 = false) (hd : parseFieldDescriptor (TX0 k).2.2.1 = some .int) (hf : (xw q cI N S tr)[0]? = some (q 0, .inr (0, fs))) (hlen : k < fs.length)
    (hnew : (xw q cI N S tr).set 0 (q 0, .inr (0, fs.set k (.int (nI v)))) = xw q cI N' S tr) (hdg : decode cc pc = .ok (.putfield index, 3))
    (kk : ∀ (H1 : Heap) (locs1 : List Loc), xAt D q cI N' S tr A s H1 → va_S A s.heap H1 locs1 → W p l e R s m args below meth c H1 locs1 cells slots Q (F0 m (pc + 3) ls rest)) : W p l e R s m args below meth c H locs cells slots Q (F0 m pc ls (.int (nI v) :: .ref (q 0) :: rest)) := by
  refine va_put (D := D) (ci := 0) (v := .int (nI v)) (ty := .int) (C := RX0) (T := TX0) (N := 15) (A := A) (H0 := s.heap) G.1 G.2.1 G.2.2.2.2.2.1 hin tyX0 tyX0_ok nmX0 G.2.2.2.2.1 hX.2.1 hX.1 hX.2.2.1 hS 0 hf rfl k hk (G.2.2.2.2.2.1 _ hlink) (fun x h => by rw [hsame] at h; exact h) hfin hd rfl rfl hlen hdg (fun H1 locs1 hP hD hS1 => ?_)
  rw [hnew] at hP hD
  exact kk H1 locs1 ⟨hP, hX.2.1, hD, hZ0.kept (fun z h1 h2 => hS1.2.1 z h1 h2)⟩ hS1
/-- a written throw, in a method of the class without a table -/
theorem gx_throw {ik is ic : Nat} {cls text : String} (G : gF p s m args meth c cc ret nL RX0 ws) (hx0 : ∀ x ∈ c.exceptionTable.toList, False) (hl : l.stackTraces = false) (hcls : Bundle.fit cls = true) (hk : Cond.classLink RX0 ik cls ∈ ws) (hini : Cond.initialized cls ∈ ws)
    (hat : ∀ w ∈ (vx_atS RX0 ic cls gNm).filter goodWord, w ∈ ws) (hnot : ∀ w ∈ (vx_atS RX0 ic cls gNm).filter (fun w => !goodWord w), w ∈ gB) (hgood : ∀ w ∈ Cond.classLink RX0 ik cls :: Cond.initialized cls :: vx_atS RX0 ic cls gNm, vx_ot w = true)
    (htx : (is, text) ∈ gTx) (hZ : gZ A s s.heap) (hS : va_S A s.heap H locs) (hsz : ls.size = nL)
    (d0 : decode cc pc = .ok (.new ik, 3)) (d3 : decode cc (pc + 3) = .ok (.dup, 1)) (d4 : decode cc (pc + 4) = .ok (.ldc is, 2)) (d6 : decode cc (pc + 6) = .ok (.invokespecial ic, 3)) (d9 : decode cc (pc + 9) = .ok (.athrow, 1))
    (hRf : 5 < R.frames) (hRl : (rest.map fun v => v.category).sum + 82 ≤ R.locals) (hRc : cells + 1 ≤ R.cells) (hRs : slots + 6 ≤ R.slots)
    (hx : ∀ t : State, s.vm.Alike t.vm → H.size ≤ t.heap.size → (∀ q : Nat, q < H.size → t.heap[q]? = H[q]?) → XC cls s t) (hf : ∀ z ∈ locs, free z.base) (hc : cells + 1 ≤ mc) (hs : slots + 6 ≤ ms) :
    W p l e R s m args below meth c H locs cells slots (vx_MQ below Qc XC args s mc ms free) (F0 m pc ls rest) := by
  obtain ⟨sa, hsa⟩ := hZ.2.2.2.1 _ htx
  exact vx_throwS (names := gNm) (A := A) G.1 G.2.1 hl G.2.2.2.2.1 hcls (by decide +kernel) (G.2.2.2.2.2.1 _ hk) (G.2.2.2.2.2.1 _ hini) hsa (vx_hat (fun w h => G.2.2.2.2.2.1 w (hat w h)) hnot (fun w h => va_Nw.use (gB_tab w h) (hZ.2.2.1 w h))) hgood hZ.1 hZ.2.1 hS (hsz.trans G.2.2.2.1.symm) d0 d3 d4 d6 d9 (fun x hx => (hx0 x hx).elim) hRf hRl hRc hRs G.2.2.2.2.2.2 hx hf hc hs
end GW
section GS
/-- swap: a row is written, its value before is the answer -/
theorem mX0_swap (l : Launch) (D : va_G) (a : Nat) (cI : ClassId) (n : Nat) (F : Nat → Nat) (i v : Nat) (hi : i < n) (hn : n < 2 ^ 31 := by decide) : Met l yX0_swap wsX0_swap { frames := 0, cells := 0, slots := 0, locals := 0 } (va_Pc [.ref a, .int (nI i), .int (nI v)] (fun U => rAt D a cI n F U U.heap)) (gQs D a cI n F i v) 0 0 (fun z => z = a) := by
  refine gc_met [.ref a, .int (nI i), .int (nI v)] (by decide) rfl (Nat.le_of_ble_eq_true rfl) rfl ?_
  intro p e s m below meth c ls G hl hX
  have hD : va_D (fun z => z = a) [(a, .inl (cI, n, .inl (gr F)))] := ⟨fun i j p q hi hj _ => by
      have h1 := (List.getElem?_eq_some_iff.mp hi).1
      have h2 := (List.getElem?_eq_some_iff.mp hj).1
      simp only [List.length_singleton] at h1 h2
      omega, fun k q hk => by
      have h1 := (List.getElem?_eq_some_iff.mp hk).1
      simp only [List.length_singleton] at h1
      obtain rfl : k = 0 := by omega
      cases hk
      rfl⟩
  refine lv_aload_n G.1 G.2.1 dX0_swap_0 rfl (lv_at hl 0 rfl) ?_
  refine lv_ifnull G.1 G.2.1 dX0_swap_1 ?_
  refine lv_iload_n G.1 G.2.1 dX0_swap_4 rfl (lv_at hl 1 rfl) ?_
  refine gn_ltz G (by omega) (tgt := 14) dX0_swap_5 (by decide) ?_
  refine lv_iload_n G.1 G.2.1 dX0_swap_8 rfl (lv_at hl 1 rfl) ?_
  refine lv_aload_n G.1 G.2.1 dX0_swap_9 rfl (lv_at hl 0 rfl) ?_
  refine va_alen (D := D) G.1 G.2.1 hX.2 hX.1 0 0 rfl rfl (v := nI n) rfl dX0_swap_10 ?_
  refine gn_lt G (by omega) (by omega) (tgt := 16) dX0_swap_11 (by decide) (fun h_11 => ?_) (fun h_11 => absurd h_11 (by omega))
  refine lv_aload_n G.1 G.2.1 dX0_swap_16 rfl (lv_at hl 0 rfl) ?_
  refine lv_iload_n G.1 G.2.1 dX0_swap_17 rfl (lv_at hl 1 rfl) ?_
  refine va_iald (D := D) G.1 G.2.1 hX.2 hX.1 0 0 (f := gr F) rfl rfl (vp_in_nI hi hn) dX0_swap_18 ?_
  rw [nI_clamp (by omega)]
  refine lv_istore_n (lv' := [(3, .int (nI (F i))), (0, .ref a), (1, .int (nI i)), (2, .int (nI v))]) G.1 G.2.1 dX0_swap_19 rfl hl (by decide) rfl (fun ls hl => ?_)
  refine lv_aload_n G.1 G.2.1 dX0_swap_20 rfl (lv_at hl 1 rfl) ?_
  refine lv_iload_n G.1 G.2.1 dX0_swap_21 rfl (lv_at hl 2 rfl) ?_
  refine lv_iload_n G.1 G.2.1 dX0_swap_22 rfl (lv_at hl 3 rfl) ?_
  refine va_iast (D := D) (A := fun z => z = a) (H0 := s.heap) G.1 G.2.1 hX.2 hX.1 hD va_S.rf 0 0 (f := gr F) rfl rfl (vp_in_nI hi hn) dX0_swap_23 (fun H1 locs1 hP1 _ hS1 => ?_)
  rw [nI_clamp (by omega), gr_upd] at hP1
  refine lv_iload_n G.1 G.2.1 dX0_swap_24 rfl (lv_at hl 0 rfl) ?_
  exact W.iret G.1 G.2.1 G.2.2.1 (fun t ht hW => ⟨rfl, by rw [ht]; exact hP1, by rw [ht]; exact hS1.1, fun z h1 h2 => by rw [ht]; exact hS1.2.1 z h1 h2⟩) hS1.2.2 dX0_swap_25 G.2.2.2.2.2.2
end GS
/-- what a public call of the class does when it returns, and when it throws -/
def gQx (D : va_G) (q : Nat → Nat) (cI : ClassId) (post : Int32 → (Nat → Nat) → (Nat → Nat → Nat) → Prop) (A : Nat → Prop) : Array Value → State → Outcome → State → Prop := fun _ st oc t =>
  ∃ (r : Int32) (N' : Nat → Nat) (S' : Nat → Nat → Nat) (tr' : Nat → Nat), oc = .returned (some (.int r)) ∧ post r N' S' ∧ va_P D vwCl (xw q cI N' S' tr') t.heap ∧ va_F A st t
def gXx (D : va_G) (q : Nat → Nat) (cI : ClassId) (N : Nat → Nat) (S : Nat → Nat → Nat) (A : Nat → Prop) (P : String → Prop) : String → State → State → Prop := fun E st t =>
  P E ∧ (∃ tr' : Nat → Nat, va_P D vwCl (xw q cI N S tr') t.heap) ∧ va_F A st t
theorem gXx_of {D : va_G} {q : Nat → Nat} {cI : ClassId} {N : Nat → Nat} {S : Nat → Nat → Nat} {tr : Nat → Nat} {A : Nat → Prop} {s t : State} {H : Heap} {locs : List Loc} (hX : xAt D q cI N S tr A s H) (hS : va_S A s.heap H locs) (hz : H.size ≤ t.heap.size) (hk : ∀ z : Nat, z < H.size → t.heap[z]? = H[z]?) :
    (∃ tr' : Nat → Nat, va_P D vwCl (xw q cI N S tr') t.heap) ∧ va_F A s t :=
  ⟨⟨tr, fun k x hx => (hX.1 k x hx).kept (hk _ (hX.1 k x hx).lt)⟩, Nat.le_trans hS.1 hz, fun z h1 h2 => by rw [hk z (Nat.lt_of_lt_of_le h1 hS.1)]; exact hS.2.1 z h1 h2⟩
theorem gQx_of {D : va_G} {q : Nat → Nat} {cI : ClassId} {N' : Nat → Nat} {S' : Nat → Nat → Nat} {tr' : Nat → Nat} {A : Nat → Prop} {s t : State} {H : Heap} {locs : List Loc} {post : Int32 → (Nat → Nat) → (Nat → Nat → Nat) → Prop} {r : Int32} {a : Array Value} (hX : xAt D q cI N' S' tr' A s H) (hS : va_S A s.heap H locs) (ht : t.heap = H) (hp : post r N' S') : gQx D q cI post A a s (.returned (some (.int r))) t :=
  ⟨r, N', S', tr', rfl, hp, by rw [ht]; exact hX.1, hS.F ht⟩
end
section
/-! WHAT THE PUBLIC CALLS DO, as naturals: tests in their order (sA, sB, sC), the answer (sR), the numbers and the rows behind it (sN, sS) -/
theorem gu_id {F : Nat → Nat} {k v : Nat} (h : F k = v) : gu F k v = F := by
  funext j
  unfold gu
  split
  · rename_i e
    rw [e, h]
  · rfl
theorem gu_ext {F G : Nat → Nat} (h : ∀ j, F j = G j) : F = G := funext h
/-- a new profile's curves and reaches -/
def sp_fill (F : Nat → Nat) (base : Nat) : Nat → Nat → Nat
  | 0 => F
  | k + 1 => gu (sp_fill F base k) (base + k) (sp_vop (k % 5))
def sp_fill2 (F : Nat → Nat) (base : Nat) : Nat → Nat → Nat
  | 0 => F
  | k + 1 => gu (sp_fill2 F base k) (base + k) 255
def sp_newS (N : Nat → Nat) (S : Nat → Nat → Nat) : Nat → Nat → Nat := gs (gs S 1 (sp_fill (S 1) (N 0 * 15) 15)) 3 (sp_fill2 (S 3) (N 0 * 3) 3)
/-- how far two numbers are apart -/
def sp_ap (a b : Nat) : Nat := if a < b then b - a else a - b
/-- the gap of a chain -/
def sp_gapAt (S : Nat → Nat → Nat) (ch b v : Nat) : Nat := sp_ap (sp_pass S ch b v) (sp_btw (fun k => sp_pass S ch b (sp_vop k)) 0 v)
def sp_gapTo (S : Nat → Nat → Nat) (ch : Nat) : Nat → Nat
  | 0 => 0
  | n + 1 => max (sp_gapTo S ch n) (sp_gapAt S ch (n / 256) (n % 256))
def sp_gap (S : Nat → Nat → Nat) (ch : Nat) : Nat := sp_gapTo S ch 768
/-- the grey gap -/
def sp_mn (S : Nat → Nat → Nat) (ch v : Nat) : Nat → Nat
  | 0 => 255
  | b + 1 => min (sp_mn S ch v b) (sp_pass S ch b v)
def sp_mx (S : Nat → Nat → Nat) (ch v : Nat) : Nat → Nat
  | 0 => 0
  | b + 1 => max (sp_mx S ch v b) (sp_pass S ch b v)
def sp_greyTo (S : Nat → Nat → Nat) (ch : Nat) : Nat → Nat
  | 0 => 0
  | v + 1 => max (sp_greyTo S ch v) (sp_mx S ch v 3 - sp_mn S ch v 3)
def sp_grey (S : Nat → Nat → Nat) (ch : Nat) : Nat := sp_greyTo S ch 256
/-- what a joining keeps -/
def sp_kpTo (S : Nat → Nat → Nat) (ch : Nat) : Nat → Nat → Nat
  | 0 => S 8
  | k + 1 => gu (sp_kpTo S ch k) (ch * 15 + k) (sp_pass S ch (k / 5) (sp_vop (k % 5)))
def sp_trTo (S : Nat → Nat → Nat) (ch : Nat) (tr : Nat → Nat) : Nat → Nat → Nat
  | 0 => tr
  | k + 1 => gu (sp_trTo S ch tr k) k (sp_pass S ch (k / 5) (sp_vop (k % 5)))
/-- what holds of numbers and rows beside the ranges -/
def sp_inv (N : Nat → Nat) (S : Nat → Nat → Nat) : Prop := (∀ j, 3 * N 0 ≤ j → S 2 j = 0) ∧ (∀ j, N 0 ≤ j → S 4 j = 0) ∧ N 9 < 64 ∧ N 10 < 64 ∧ (∀ c, N 5 ≤ c → sp_bit (N 9) c = 0 ∧ sp_bit (N 10) c = 0) ∧ (∀ c, c < 6 → S 9 c = sp_bit (N 9) c ∧ S 10 c = sp_bit (N 10) c) ∧ (∀ c k, c < 6 → k < S 7 c → S 6 (c * 6 + k) < N 0)
def sA_profile (N : Nat → Nat) (S : Nat → Nat → Nat) : Bool := true
def sB_profile (N : Nat → Nat) (S : Nat → Nat → Nat) : Bool := true
def sC_profile (N : Nat → Nat) (S : Nat → Nat → Nat) : Bool := decide (N 0 < 8)
def sR_profile (N : Nat → Nat) (S : Nat → Nat → Nat) : Nat := N 0
def sN_profile (N : Nat → Nat) (S : Nat → Nat → Nat) : Nat → Nat := gu N 0 (N 0 + 1)
def sS_profile (N : Nat → Nat) (S : Nat → Nat → Nat) : Nat → Nat → Nat := sp_newS N S
def sA_bend (N : Nat → Nat) (S : Nat → Nat → Nat) (i1 i2 i3 i4 : Int32) : Bool := gb i1 (N 0) && gb i2 3 && gb i3 5
def sB_bend (N : Nat → Nat) (S : Nat → Nat → Nat) (i1 i2 i3 i4 : Int32) : Bool := gb i4 256
def sC_bend (N : Nat → Nat) (S : Nat → Nat → Nat) (i1 i2 i3 i4 : Int32) : Bool := decide (sp_bit (sp_held N S) (gn i1) = 0)
def sR_bend (N : Nat → Nat) (S : Nat → Nat → Nat) (i1 i2 i3 i4 : Int32) : Nat := S 1 ((gn i1 * 3 + gn i2) * 5 + gn i3)
def sN_bend (N : Nat → Nat) (S : Nat → Nat → Nat) (i1 i2 i3 i4 : Int32) : Nat → Nat := N
def sS_bend (N : Nat → Nat) (S : Nat → Nat → Nat) (i1 i2 i3 i4 : Int32) : Nat → Nat → Nat := gs S 1 (gu (S 1) ((gn i1 * 3 + gn i2) * 5 + gn i3) (gn i4))
def sA_reach (N : Nat → Nat) (S : Nat → Nat → Nat) (i1 i2 i3 i4 : Int32) : Bool := gb i1 (N 0) && gb i2 3
def sB_reach (N : Nat → Nat) (S : Nat → Nat → Nat) (i1 i2 i3 i4 : Int32) : Bool := gb i3 256 && gb i4 256 && decide (gn i3 ≤ gn i4)
def sC_reach (N : Nat → Nat) (S : Nat → Nat → Nat) (i1 i2 i3 i4 : Int32) : Bool := decide (sp_bit (sp_held N S) (gn i1) = 0)
def sR_reach (N : Nat → Nat) (S : Nat → Nat → Nat) (i1 i2 i3 i4 : Int32) : Nat := S 3 (gn i1 * 3 + gn i2) - S 2 (gn i1 * 3 + gn i2) + 1
def sN_reach (N : Nat → Nat) (S : Nat → Nat → Nat) (i1 i2 i3 i4 : Int32) : Nat → Nat := N
def sS_reach (N : Nat → Nat) (S : Nat → Nat → Nat) (i1 i2 i3 i4 : Int32) : Nat → Nat → Nat := gs (gs S 2 (gu (S 2) (gn i1 * 3 + gn i2) (gn i3))) 3 (gu (S 3) (gn i1 * 3 + gn i2) (gn i4))
def sA_way (N : Nat → Nat) (S : Nat → Nat → Nat) (i1 i2 : Int32) : Bool := gb i1 (N 0)
def sB_way (N : Nat → Nat) (S : Nat → Nat → Nat) (i1 i2 : Int32) : Bool := gb i2 3
def sC_way (N : Nat → Nat) (S : Nat → Nat → Nat) (i1 i2 : Int32) : Bool := decide (sp_bit (sp_held N S) (gn i1) = 0)
def sR_way (N : Nat → Nat) (S : Nat → Nat → Nat) (i1 i2 : Int32) : Nat := S 4 (gn i1)
def sN_way (N : Nat → Nat) (S : Nat → Nat → Nat) (i1 i2 : Int32) : Nat → Nat := N
def sS_way (N : Nat → Nat) (S : Nat → Nat → Nat) (i1 i2 : Int32) : Nat → Nat → Nat := gs S 4 (gu (S 4) (gn i1) (gn i2))
def sA_curve (N : Nat → Nat) (S : Nat → Nat → Nat) (i1 i2 i3 : Int32) : Bool := gb i1 (N 0) && gb i2 3
def sB_curve (N : Nat → Nat) (S : Nat → Nat → Nat) (i1 i2 i3 : Int32) : Bool := gb i3 256
def sC_curve (N : Nat → Nat) (S : Nat → Nat → Nat) (i1 i2 i3 : Int32) : Bool := true
def sR_curve (N : Nat → Nat) (S : Nat → Nat → Nat) (i1 i2 i3 : Int32) : Nat := sp_curve S (gn i1) (gn i2) (gn i3)
def sN_curve (N : Nat → Nat) (S : Nat → Nat → Nat) (i1 i2 i3 : Int32) : Nat → Nat := N
def sS_curve (N : Nat → Nat) (S : Nat → Nat → Nat) (i1 i2 i3 : Int32) : Nat → Nat → Nat := S
def sA_taken (N : Nat → Nat) (S : Nat → Nat → Nat) (i1 i2 i3 : Int32) : Bool := gb i1 (N 0) && gb i2 3
def sB_taken (N : Nat → Nat) (S : Nat → Nat → Nat) (i1 i2 i3 : Int32) : Bool := gb i3 256
def sC_taken (N : Nat → Nat) (S : Nat → Nat → Nat) (i1 i2 i3 : Int32) : Bool := true
def sR_taken (N : Nat → Nat) (S : Nat → Nat → Nat) (i1 i2 i3 : Int32) : Nat := sp_tk S (gn i1) (gn i2) (gn i3)
def sN_taken (N : Nat → Nat) (S : Nat → Nat → Nat) (i1 i2 i3 : Int32) : Nat → Nat := N
def sS_taken (N : Nat → Nat) (S : Nat → Nat → Nat) (i1 i2 i3 : Int32) : Nat → Nat → Nat := S
def sA_chain (N : Nat → Nat) (S : Nat → Nat → Nat) : Bool := true
def sB_chain (N : Nat → Nat) (S : Nat → Nat → Nat) : Bool := true
def sC_chain (N : Nat → Nat) (S : Nat → Nat → Nat) : Bool := decide (N 5 < 6)
def sR_chain (N : Nat → Nat) (S : Nat → Nat → Nat) : Nat := N 5
def sN_chain (N : Nat → Nat) (S : Nat → Nat → Nat) : Nat → Nat := gu N 5 (N 5 + 1)
def sS_chain (N : Nat → Nat) (S : Nat → Nat → Nat) : Nat → Nat → Nat := S
def sA_add (N : Nat → Nat) (S : Nat → Nat → Nat) (i1 i2 : Int32) : Bool := gb i1 (N 5) && gb i2 (N 0)
def sB_add (N : Nat → Nat) (S : Nat → Nat → Nat) (i1 i2 : Int32) : Bool := true
def sC_add (N : Nat → Nat) (S : Nat → Nat → Nat) (i1 i2 : Int32) : Bool := decide (sp_bit (N 10) (gn i1) = 0) && decide (S 7 (gn i1) < 6)
def sR_add (N : Nat → Nat) (S : Nat → Nat → Nat) (i1 i2 : Int32) : Nat := S 7 (gn i1) + 1
def sN_add (N : Nat → Nat) (S : Nat → Nat → Nat) (i1 i2 : Int32) : Nat → Nat := N
def sS_add (N : Nat → Nat) (S : Nat → Nat → Nat) (i1 i2 : Int32) : Nat → Nat → Nat := gs (gs S 6 (gu (S 6) (gn i1 * 6 + S 7 (gn i1)) (gn i2))) 7 (gu (S 7) (gn i1) (S 7 (gn i1) + 1))
def sA_drop (N : Nat → Nat) (S : Nat → Nat → Nat) (i1 : Int32) : Bool := gb i1 (N 5)
def sB_drop (N : Nat → Nat) (S : Nat → Nat → Nat) (i1 : Int32) : Bool := true
def sC_drop (N : Nat → Nat) (S : Nat → Nat → Nat) (i1 : Int32) : Bool := decide (sp_bit (N 10) (gn i1) = 0) && decide (0 < S 7 (gn i1))
def sR_drop (N : Nat → Nat) (S : Nat → Nat → Nat) (i1 : Int32) : Nat := S 6 (gn i1 * 6 + S 7 (gn i1) - 1)
def sN_drop (N : Nat → Nat) (S : Nat → Nat → Nat) (i1 : Int32) : Nat → Nat := N
def sS_drop (N : Nat → Nat) (S : Nat → Nat → Nat) (i1 : Int32) : Nat → Nat → Nat := gs S 7 (gu (S 7) (gn i1) (S 7 (gn i1) - 1))
def sA_through (N : Nat → Nat) (S : Nat → Nat → Nat) (i1 i2 i3 : Int32) : Bool := gb i1 (N 5) && gb i2 3
def sB_through (N : Nat → Nat) (S : Nat → Nat → Nat) (i1 i2 i3 : Int32) : Bool := gb i3 256
def sC_through (N : Nat → Nat) (S : Nat → Nat → Nat) (i1 i2 i3 : Int32) : Bool := true
def sR_through (N : Nat → Nat) (S : Nat → Nat → Nat) (i1 i2 i3 : Int32) : Nat := sp_pass S (gn i1) (gn i2) (gn i3)
def sN_through (N : Nat → Nat) (S : Nat → Nat → Nat) (i1 i2 i3 : Int32) : Nat → Nat := N
def sS_through (N : Nat → Nat) (S : Nat → Nat → Nat) (i1 i2 i3 : Int32) : Nat → Nat → Nat := S
def sA_gap (N : Nat → Nat) (S : Nat → Nat → Nat) (i1 : Int32) : Bool := gb i1 (N 5)
def sB_gap (N : Nat → Nat) (S : Nat → Nat → Nat) (i1 : Int32) : Bool := true
def sC_gap (N : Nat → Nat) (S : Nat → Nat → Nat) (i1 : Int32) : Bool := true
def sR_gap (N : Nat → Nat) (S : Nat → Nat → Nat) (i1 : Int32) : Nat := sp_gap S (gn i1)
def sN_gap (N : Nat → Nat) (S : Nat → Nat → Nat) (i1 : Int32) : Nat → Nat := N
def sS_gap (N : Nat → Nat) (S : Nat → Nat → Nat) (i1 : Int32) : Nat → Nat → Nat := S
def sA_greyGap (N : Nat → Nat) (S : Nat → Nat → Nat) (i1 : Int32) : Bool := gb i1 (N 5)
def sB_greyGap (N : Nat → Nat) (S : Nat → Nat → Nat) (i1 : Int32) : Bool := true
def sC_greyGap (N : Nat → Nat) (S : Nat → Nat → Nat) (i1 : Int32) : Bool := true
def sR_greyGap (N : Nat → Nat) (S : Nat → Nat → Nat) (i1 : Int32) : Nat := sp_grey S (gn i1)
def sN_greyGap (N : Nat → Nat) (S : Nat → Nat → Nat) (i1 : Int32) : Nat → Nat := N
def sS_greyGap (N : Nat → Nat) (S : Nat → Nat → Nat) (i1 : Int32) : Nat → Nat → Nat := S
def sA_join (N : Nat → Nat) (S : Nat → Nat → Nat) (i1 i2 : Int32) : Bool := gb i1 (N 5)
def sB_join (N : Nat → Nat) (S : Nat → Nat → Nat) (i1 i2 : Int32) : Bool := gb i2 256
def sC_join (N : Nat → Nat) (S : Nat → Nat → Nat) (i1 i2 : Int32) : Bool := decide (sp_gap S (gn i1) ≤ gn i2)
def sR_join (N : Nat → Nat) (S : Nat → Nat → Nat) (i1 i2 : Int32) : Nat := sp_gap S (gn i1)
def sN_join (N : Nat → Nat) (S : Nat → Nat → Nat) (i1 i2 : Int32) : Nat → Nat := gu N 9 (N 9 ||| 2 ^ (gn i1))
def sS_join (N : Nat → Nat) (S : Nat → Nat → Nat) (i1 i2 : Int32) : Nat → Nat → Nat := gs (gs S 8 (sp_kpTo S (gn i1) 15)) 9 (gu (S 9) (gn i1) 1)
def sA_joined (N : Nat → Nat) (S : Nat → Nat → Nat) (i1 i2 i3 : Int32) : Bool := gb i1 (N 5) && gb i2 3
def sB_joined (N : Nat → Nat) (S : Nat → Nat → Nat) (i1 i2 i3 : Int32) : Bool := gb i3 256
def sC_joined (N : Nat → Nat) (S : Nat → Nat → Nat) (i1 i2 i3 : Int32) : Bool := decide (sp_bit (N 9) (gn i1) = 1)
def sR_joined (N : Nat → Nat) (S : Nat → Nat → Nat) (i1 i2 i3 : Int32) : Nat := sp_btw (S 8) ((gn i1 * 3 + gn i2) * 5) (gn i3)
def sN_joined (N : Nat → Nat) (S : Nat → Nat → Nat) (i1 i2 i3 : Int32) : Nat → Nat := N
def sS_joined (N : Nat → Nat) (S : Nat → Nat → Nat) (i1 i2 i3 : Int32) : Nat → Nat → Nat := S
def sA_sign (N : Nat → Nat) (S : Nat → Nat → Nat) (i1 : Int32) : Bool := gb i1 (N 5)
def sB_sign (N : Nat → Nat) (S : Nat → Nat → Nat) (i1 : Int32) : Bool := true
def sC_sign (N : Nat → Nat) (S : Nat → Nat → Nat) (i1 : Int32) : Bool := true
def sR_sign (N : Nat → Nat) (S : Nat → Nat → Nat) (i1 : Int32) : Nat := 1 - sp_bit (N 10) (gn i1)
def sN_sign (N : Nat → Nat) (S : Nat → Nat → Nat) (i1 : Int32) : Nat → Nat := gu N 10 (N 10 ^^^ 2 ^ (gn i1))
def sS_sign (N : Nat → Nat) (S : Nat → Nat → Nat) (i1 : Int32) : Nat → Nat → Nat := gs S 10 (gu (S 10) (gn i1) (1 - S 10 (gn i1)))
def sA_paint (N : Nat → Nat) (S : Nat → Nat → Nat) (i1 i2 i3 : Int32) : Bool := gb i1 6 && gb i2 3
def sB_paint (N : Nat → Nat) (S : Nat → Nat → Nat) (i1 i2 i3 : Int32) : Bool := gb i3 256
def sC_paint (N : Nat → Nat) (S : Nat → Nat → Nat) (i1 i2 i3 : Int32) : Bool := true
def sR_paint (N : Nat → Nat) (S : Nat → Nat → Nat) (i1 i2 i3 : Int32) : Nat := S 12 (gn i1 * 3 + gn i2)
def sN_paint (N : Nat → Nat) (S : Nat → Nat → Nat) (i1 i2 i3 : Int32) : Nat → Nat := N
def sS_paint (N : Nat → Nat) (S : Nat → Nat → Nat) (i1 i2 i3 : Int32) : Nat → Nat → Nat := gs S 12 (gu (S 12) (gn i1 * 3 + gn i2) (gn i3))
def sA_spot (N : Nat → Nat) (S : Nat → Nat → Nat) (i1 i2 i3 : Int32) : Bool := gb i1 6 && gb i2 3
def sB_spot (N : Nat → Nat) (S : Nat → Nat → Nat) (i1 i2 i3 : Int32) : Bool := gb i3 256
def sC_spot (N : Nat → Nat) (S : Nat → Nat → Nat) (i1 i2 i3 : Int32) : Bool := true
def sR_spot (N : Nat → Nat) (S : Nat → Nat → Nat) (i1 i2 i3 : Int32) : Nat := S 13 (gn i1 * 3 + gn i2)
def sN_spot (N : Nat → Nat) (S : Nat → Nat → Nat) (i1 i2 i3 : Int32) : Nat → Nat := N
def sS_spot (N : Nat → Nat) (S : Nat → Nat → Nat) (i1 i2 i3 : Int32) : Nat → Nat → Nat := gs S 13 (gu (S 13) (gn i1 * 3 + gn i2) (gn i3))
def sA_mix (N : Nat → Nat) (S : Nat → Nat → Nat) (i1 i2 i3 : Int32) : Bool := gb i1 3 && gb i2 3
def sB_mix (N : Nat → Nat) (S : Nat → Nat → Nat) (i1 i2 i3 : Int32) : Bool := gb i3 256
def sC_mix (N : Nat → Nat) (S : Nat → Nat → Nat) (i1 i2 i3 : Int32) : Bool := true
def sR_mix (N : Nat → Nat) (S : Nat → Nat → Nat) (i1 i2 i3 : Int32) : Nat := S 14 (gn i1 * 3 + gn i2)
def sN_mix (N : Nat → Nat) (S : Nat → Nat → Nat) (i1 i2 i3 : Int32) : Nat → Nat := N
def sS_mix (N : Nat → Nat) (S : Nat → Nat → Nat) (i1 i2 i3 : Int32) : Nat → Nat → Nat := gs S 14 (gu (S 14) (gn i1 * 3 + gn i2) (gn i3))
def sA_shown (N : Nat → Nat) (S : Nat → Nat → Nat) (i1 i2 i3 i4 : Int32) : Bool := gb i1 (N 5) && gb i2 6 && gb i3 3
def sB_shown (N : Nat → Nat) (S : Nat → Nat → Nat) (i1 i2 i3 i4 : Int32) : Bool := gb i4 8
def sC_shown (N : Nat → Nat) (S : Nat → Nat → Nat) (i1 i2 i3 i4 : Int32) : Bool := true
def sR_shown (N : Nat → Nat) (S : Nat → Nat → Nat) (i1 i2 i3 i4 : Int32) : Nat := sp_pass S (gn i1) (gn i3) (sp_ink S (gn i2) (gn i3) (gn i4))
def sN_shown (N : Nat → Nat) (S : Nat → Nat → Nat) (i1 i2 i3 i4 : Int32) : Nat → Nat := N
def sS_shown (N : Nat → Nat) (S : Nat → Nat → Nat) (i1 i2 i3 i4 : Int32) : Nat → Nat → Nat := S
end
section
/-! the class's checks: each returns with nothing changed, or throws -/
set_option maxRecDepth 100000 in
set_option maxHeartbeats 4000000 in
/-- a check: needBand -/
theorem mX0_needBand (l : Launch) (hst : l.stackTraces = false) (b : Int32) : vx_Met l yX0_needBand wsX0_needBand { frames := 6, cells := 1, slots := 6, locals := 82 } (va_Pc [.int b] (fun U => gZ (fun _ => False) U U.heap)) (va_Sv (fun _ => gb b 3 = true)) (gX (fun E => E = gIO ∧ gb b 3 = false)) 1 6 (fun _ => False) := by
  refine gc_vxmet [.int b] (by decide) rfl (Nat.le_of_ble_eq_true rfl) rfl ?_
  intro p e s m below meth c ls G hx0 hl hZ0
  have hS : va_S (fun _ => False) s.heap s.heap [] := va_S.rf
  refine lv_iload_n G.1 G.2.1 dX0_needBand_0 rfl (lv_at hl 0 rfl) ?_
  refine lv_if_lt (tgt := 9) G.1 G.2.1 dX0_needBand_1 (by decide) (fun h_1 => ?_) (fun h_1 => ?_)
  · exact gx_throw (text := "no such band") G hx0 hst (by decide +kernel) (by decide +kernel) (by decide +kernel) (by decide +kernel) gx_not_IO gx_good_IO (by decide +kernel) hZ0 hS hl.1 dX0_needBand_9 dX0_needBand_12 dX0_needBand_13 dX0_needBand_15 dX0_needBand_18 (Nat.le_of_ble_eq_true rfl) (Nat.le_of_ble_eq_true rfl) (Nat.le_of_ble_eq_true rfl) (Nat.le_of_ble_eq_true rfl) (fun t _ hz hk => ⟨⟨rfl, by first | exact gb_neg (by assumption) | exact gb_nlt (by decide) (by assumption) | exact gi_nle (by assumption)⟩, hz, hk⟩) (fun _ h => nomatch h) (by decide) (by decide)
  · refine lv_iload_n G.1 G.2.1 dX0_needBand_4 rfl (lv_at hl 0 rfl) ?_
    refine lv_iconst (v := nI 3) G.1 G.2.1 dX0_needBand_5 (by decide) ?_
    refine lv_icmp_lt (tgt := 19) G.1 G.2.1 dX0_needBand_6 (by decide) (fun h_6 => ?_) (fun h_6 => ?_)
    · exact vx_ret (W.widen (k := 1) (n := 6) (Nat.zero_le _) (Nat.zero_le _) (W.vret G.1 G.2.1 G.2.2.1 (fun t ht hW => ⟨rfl, by first | exact gb_in (by decide) (by assumption) (by assumption) | exact gi_le (by assumption) (by assumption), ht⟩) (fun q h => nomatch h) dX0_needBand_19 G.2.2.2.2.2.2))
    · exact gx_throw (text := "no such band") G hx0 hst (by decide +kernel) (by decide +kernel) (by decide +kernel) (by decide +kernel) gx_not_IO gx_good_IO (by decide +kernel) hZ0 hS hl.1 dX0_needBand_9 dX0_needBand_12 dX0_needBand_13 dX0_needBand_15 dX0_needBand_18 (Nat.le_of_ble_eq_true rfl) (Nat.le_of_ble_eq_true rfl) (Nat.le_of_ble_eq_true rfl) (Nat.le_of_ble_eq_true rfl) (fun t _ hz hk => ⟨⟨rfl, by first | exact gb_neg (by assumption) | exact gb_nlt (by decide) (by assumption) | exact gi_nle (by assumption)⟩, hz, hk⟩) (fun _ h => nomatch h) (by decide) (by decide)
set_option maxRecDepth 100000 in
set_option maxHeartbeats 4000000 in
/-- a check: needPixel -/
theorem mX0_needPixel (l : Launch) (hst : l.stackTraces = false) (b : Int32) : vx_Met l yX0_needPixel wsX0_needPixel { frames := 6, cells := 1, slots := 6, locals := 82 } (va_Pc [.int b] (fun U => gZ (fun _ => False) U U.heap)) (va_Sv (fun _ => gb b 6 = true)) (gX (fun E => E = gIO ∧ gb b 6 = false)) 1 6 (fun _ => False) := by
  refine gc_vxmet [.int b] (by decide) rfl (Nat.le_of_ble_eq_true rfl) rfl ?_
  intro p e s m below meth c ls G hx0 hl hZ0
  have hS : va_S (fun _ => False) s.heap s.heap [] := va_S.rf
  refine lv_iload_n G.1 G.2.1 dX0_needPixel_0 rfl (lv_at hl 0 rfl) ?_
  refine lv_if_lt (tgt := 10) G.1 G.2.1 dX0_needPixel_1 (by decide) (fun h_1 => ?_) (fun h_1 => ?_)
  · exact gx_throw (text := "no such pixel") G hx0 hst (by decide +kernel) (by decide +kernel) (by decide +kernel) (by decide +kernel) gx_not_IO gx_good_IO (by decide +kernel) hZ0 hS hl.1 dX0_needPixel_10 dX0_needPixel_13 dX0_needPixel_14 dX0_needPixel_16 dX0_needPixel_19 (Nat.le_of_ble_eq_true rfl) (Nat.le_of_ble_eq_true rfl) (Nat.le_of_ble_eq_true rfl) (Nat.le_of_ble_eq_true rfl) (fun t _ hz hk => ⟨⟨rfl, by first | exact gb_neg (by assumption) | exact gb_nlt (by decide) (by assumption) | exact gi_nle (by assumption)⟩, hz, hk⟩) (fun _ h => nomatch h) (by decide) (by decide)
  · refine lv_iload_n G.1 G.2.1 dX0_needPixel_4 rfl (lv_at hl 0 rfl) ?_
    refine lv_bipush (v := nI 6) G.1 G.2.1 dX0_needPixel_5 (by decide) ?_
    refine lv_icmp_lt (tgt := 20) G.1 G.2.1 dX0_needPixel_7 (by decide) (fun h_7 => ?_) (fun h_7 => ?_)
    · exact vx_ret (W.widen (k := 1) (n := 6) (Nat.zero_le _) (Nat.zero_le _) (W.vret G.1 G.2.1 G.2.2.1 (fun t ht hW => ⟨rfl, by first | exact gb_in (by decide) (by assumption) (by assumption) | exact gi_le (by assumption) (by assumption), ht⟩) (fun q h => nomatch h) dX0_needPixel_20 G.2.2.2.2.2.2))
    · exact gx_throw (text := "no such pixel") G hx0 hst (by decide +kernel) (by decide +kernel) (by decide +kernel) (by decide +kernel) gx_not_IO gx_good_IO (by decide +kernel) hZ0 hS hl.1 dX0_needPixel_10 dX0_needPixel_13 dX0_needPixel_14 dX0_needPixel_16 dX0_needPixel_19 (Nat.le_of_ble_eq_true rfl) (Nat.le_of_ble_eq_true rfl) (Nat.le_of_ble_eq_true rfl) (Nat.le_of_ble_eq_true rfl) (fun t _ hz hk => ⟨⟨rfl, by first | exact gb_neg (by assumption) | exact gb_nlt (by decide) (by assumption) | exact gi_nle (by assumption)⟩, hz, hk⟩) (fun _ h => nomatch h) (by decide) (by decide)
set_option maxRecDepth 100000 in
set_option maxHeartbeats 4000000 in
/-- a check: needInk -/
theorem mX0_needInk (l : Launch) (hst : l.stackTraces = false) (b : Int32) : vx_Met l yX0_needInk wsX0_needInk { frames := 6, cells := 1, slots := 6, locals := 82 } (va_Pc [.int b] (fun U => gZ (fun _ => False) U U.heap)) (va_Sv (fun _ => gb b 3 = true)) (gX (fun E => E = gIO ∧ gb b 3 = false)) 1 6 (fun _ => False) := by
  refine gc_vxmet [.int b] (by decide) rfl (Nat.le_of_ble_eq_true rfl) rfl ?_
  intro p e s m below meth c ls G hx0 hl hZ0
  have hS : va_S (fun _ => False) s.heap s.heap [] := va_S.rf
  refine lv_iload_n G.1 G.2.1 dX0_needInk_0 rfl (lv_at hl 0 rfl) ?_
  refine lv_if_lt (tgt := 9) G.1 G.2.1 dX0_needInk_1 (by decide) (fun h_1 => ?_) (fun h_1 => ?_)
  · exact gx_throw (text := "no such ink") G hx0 hst (by decide +kernel) (by decide +kernel) (by decide +kernel) (by decide +kernel) gx_not_IO gx_good_IO (by decide +kernel) hZ0 hS hl.1 dX0_needInk_9 dX0_needInk_12 dX0_needInk_13 dX0_needInk_15 dX0_needInk_18 (Nat.le_of_ble_eq_true rfl) (Nat.le_of_ble_eq_true rfl) (Nat.le_of_ble_eq_true rfl) (Nat.le_of_ble_eq_true rfl) (fun t _ hz hk => ⟨⟨rfl, by first | exact gb_neg (by assumption) | exact gb_nlt (by decide) (by assumption) | exact gi_nle (by assumption)⟩, hz, hk⟩) (fun _ h => nomatch h) (by decide) (by decide)
  · refine lv_iload_n G.1 G.2.1 dX0_needInk_4 rfl (lv_at hl 0 rfl) ?_
    refine lv_iconst (v := nI 3) G.1 G.2.1 dX0_needInk_5 (by decide) ?_
    refine lv_icmp_lt (tgt := 19) G.1 G.2.1 dX0_needInk_6 (by decide) (fun h_6 => ?_) (fun h_6 => ?_)
    · exact vx_ret (W.widen (k := 1) (n := 6) (Nat.zero_le _) (Nat.zero_le _) (W.vret G.1 G.2.1 G.2.2.1 (fun t ht hW => ⟨rfl, by first | exact gb_in (by decide) (by assumption) (by assumption) | exact gi_le (by assumption) (by assumption), ht⟩) (fun q h => nomatch h) dX0_needInk_19 G.2.2.2.2.2.2))
    · exact gx_throw (text := "no such ink") G hx0 hst (by decide +kernel) (by decide +kernel) (by decide +kernel) (by decide +kernel) gx_not_IO gx_good_IO (by decide +kernel) hZ0 hS hl.1 dX0_needInk_9 dX0_needInk_12 dX0_needInk_13 dX0_needInk_15 dX0_needInk_18 (Nat.le_of_ble_eq_true rfl) (Nat.le_of_ble_eq_true rfl) (Nat.le_of_ble_eq_true rfl) (Nat.le_of_ble_eq_true rfl) (fun t _ hz hk => ⟨⟨rfl, by first | exact gb_neg (by assumption) | exact gb_nlt (by decide) (by assumption) | exact gi_nle (by assumption)⟩, hz, hk⟩) (fun _ h => nomatch h) (by decide) (by decide)
set_option maxRecDepth 100000 in
set_option maxHeartbeats 4000000 in
/-- a check: needValue -/
theorem mX0_needValue (l : Launch) (hst : l.stackTraces = false) (b : Int32) : vx_Met l yX0_needValue wsX0_needValue { frames := 6, cells := 1, slots := 6, locals := 82 } (va_Pc [.int b] (fun U => gZ (fun _ => False) U U.heap)) (va_Sv (fun _ => gb b 256 = true)) (gX (fun E => E = gIA ∧ gb b 256 = false)) 1 6 (fun _ => False) := by
  refine gc_vxmet [.int b] (by decide) rfl (Nat.le_of_ble_eq_true rfl) rfl ?_
  intro p e s m below meth c ls G hx0 hl hZ0
  have hS : va_S (fun _ => False) s.heap s.heap [] := va_S.rf
  refine lv_iload_n G.1 G.2.1 dX0_needValue_0 rfl (lv_at hl 0 rfl) ?_
  refine lv_if_lt (tgt := 11) G.1 G.2.1 dX0_needValue_1 (by decide) (fun h_1 => ?_) (fun h_1 => ?_)
  · exact gx_throw (text := "out of 0 to 255") G hx0 hst (by decide +kernel) (by decide +kernel) (by decide +kernel) (by decide +kernel) gx_not_IA gx_good_IA (by decide +kernel) hZ0 hS hl.1 dX0_needValue_11 dX0_needValue_14 dX0_needValue_15 dX0_needValue_17 dX0_needValue_20 (Nat.le_of_ble_eq_true rfl) (Nat.le_of_ble_eq_true rfl) (Nat.le_of_ble_eq_true rfl) (Nat.le_of_ble_eq_true rfl) (fun t _ hz hk => ⟨⟨rfl, by first | exact gb_neg (by assumption) | exact gb_nlt (by decide) (by assumption) | exact gi_nle (by assumption)⟩, hz, hk⟩) (fun _ h => nomatch h) (by decide) (by decide)
  · refine lv_iload_n G.1 G.2.1 dX0_needValue_4 rfl (lv_at hl 0 rfl) ?_
    refine lv_sipush (v := nI 255) G.1 G.2.1 dX0_needValue_5 (by decide) ?_
    refine lv_icmp_le (tgt := 21) G.1 G.2.1 dX0_needValue_8 (by decide) (fun h_8 => ?_) (fun h_8 => ?_)
    · exact vx_ret (W.widen (k := 1) (n := 6) (Nat.zero_le _) (Nat.zero_le _) (W.vret G.1 G.2.1 G.2.2.1 (fun t ht hW => ⟨rfl, by first | exact gb_in (by decide) (by assumption) (by assumption) | exact gi_le (by assumption) (by assumption), ht⟩) (fun q h => nomatch h) dX0_needValue_21 G.2.2.2.2.2.2))
    · exact gx_throw (text := "out of 0 to 255") G hx0 hst (by decide +kernel) (by decide +kernel) (by decide +kernel) (by decide +kernel) gx_not_IA gx_good_IA (by decide +kernel) hZ0 hS hl.1 dX0_needValue_11 dX0_needValue_14 dX0_needValue_15 dX0_needValue_17 dX0_needValue_20 (Nat.le_of_ble_eq_true rfl) (Nat.le_of_ble_eq_true rfl) (Nat.le_of_ble_eq_true rfl) (Nat.le_of_ble_eq_true rfl) (fun t _ hz hk => ⟨⟨rfl, by first | exact gb_neg (by assumption) | exact gb_nlt (by decide) (by assumption) | exact gi_nle (by assumption)⟩, hz, hk⟩) (fun _ h => nomatch h) (by decide) (by decide)
set_option maxRecDepth 100000 in
set_option maxHeartbeats 4000000 in
/-- a check: needProfile -/
theorem mX0_needProfile (l : Launch) (hst : l.stackTraces = false) (D : va_G) (q : Nat → Nat) (cI : ClassId) (N : Nat → Nat) (S : Nat → Nat → Nat) (tr : Nat → Nat) (A : Nat → Prop) (hok : sp_ok N S) (b : Int32) : vx_Met l yX0_needProfile wsX0_needProfile { frames := 6, cells := 1, slots := 6, locals := 82 } (va_Pc [.ref (q 0), .int b] (fun U => xAt D q cI N S tr A U U.heap)) (va_Sv (fun _ => gb b (N 0) = true)) (gX (fun E => E = gIO ∧ gb b (N 0) = false)) 1 6 (fun _ => False) := by
  refine gc_vxmet [.ref (q 0), .int b] (by decide) rfl (Nat.le_of_ble_eq_true rfl) rfl ?_
  intro p e s m below meth c ls G hx0 hl hX
  have hZ0 := hX.2.2.2
  have hS : va_S A s.heap s.heap [] := va_S.rf
  have hn1 := hok.1.1
  have hn2 := hok.1.2
  refine lv_iload_n G.1 G.2.1 dX0_needProfile_0 rfl (lv_at hl 1 rfl) ?_
  refine lv_if_lt (tgt := 12) G.1 G.2.1 dX0_needProfile_1 (by decide) (fun h_1 => ?_) (fun h_1 => ?_)
  · exact gx_throw (text := "no such profile") G hx0 hst (by decide +kernel) (by decide +kernel) (by decide +kernel) (by decide +kernel) gx_not_IO gx_good_IO (by decide +kernel) hZ0 hS hl.1 dX0_needProfile_12 dX0_needProfile_15 dX0_needProfile_16 dX0_needProfile_18 dX0_needProfile_21 (Nat.le_of_ble_eq_true rfl) (Nat.le_of_ble_eq_true rfl) (Nat.le_of_ble_eq_true rfl) (Nat.le_of_ble_eq_true rfl) (fun t _ hz hk => ⟨⟨rfl, by first | exact gb_neg (by assumption) | exact gb_nlt (by omega) (by assumption)⟩, hz, hk⟩) (fun _ h => nomatch h) (by decide) (by decide)
  · refine lv_iload_n G.1 G.2.1 dX0_needProfile_4 rfl (lv_at hl 1 rfl) ?_
    refine lv_aload_n G.1 G.2.1 dX0_needProfile_5 rfl (lv_at hl 0 rfl) ?_
    refine gx_get G hX (by decide +kernel) 0 (by decide) (by decide +kernel) rfl rfl rfl dX0_needProfile_6 ?_
    refine lv_icmp_lt (tgt := 22) G.1 G.2.1 dX0_needProfile_9 (by decide) (fun h_9 => ?_) (fun h_9 => ?_)
    · exact vx_ret (W.widen (k := 1) (n := 6) (Nat.zero_le _) (Nat.zero_le _) (W.vret G.1 G.2.1 G.2.2.1 (fun t ht hW => ⟨rfl, gb_in (by omega) (by assumption) (by assumption), ht⟩) (fun q h => nomatch h) dX0_needProfile_22 G.2.2.2.2.2.2))
    · exact gx_throw (text := "no such profile") G hx0 hst (by decide +kernel) (by decide +kernel) (by decide +kernel) (by decide +kernel) gx_not_IO gx_good_IO (by decide +kernel) hZ0 hS hl.1 dX0_needProfile_12 dX0_needProfile_15 dX0_needProfile_16 dX0_needProfile_18 dX0_needProfile_21 (Nat.le_of_ble_eq_true rfl) (Nat.le_of_ble_eq_true rfl) (Nat.le_of_ble_eq_true rfl) (Nat.le_of_ble_eq_true rfl) (fun t _ hz hk => ⟨⟨rfl, by first | exact gb_neg (by assumption) | exact gb_nlt (by omega) (by assumption)⟩, hz, hk⟩) (fun _ h => nomatch h) (by decide) (by decide)
set_option maxRecDepth 100000 in
set_option maxHeartbeats 4000000 in
/-- a check: needChain -/
theorem mX0_needChain (l : Launch) (hst : l.stackTraces = false) (D : va_G) (q : Nat → Nat) (cI : ClassId) (N : Nat → Nat) (S : Nat → Nat → Nat) (tr : Nat → Nat) (A : Nat → Prop) (hok : sp_ok N S) (b : Int32) : vx_Met l yX0_needChain wsX0_needChain { frames := 6, cells := 1, slots := 6, locals := 82 } (va_Pc [.ref (q 0), .int b] (fun U => xAt D q cI N S tr A U U.heap)) (va_Sv (fun _ => gb b (N 5) = true)) (gX (fun E => E = gIO ∧ gb b (N 5) = false)) 1 6 (fun _ => False) := by
  refine gc_vxmet [.ref (q 0), .int b] (by decide) rfl (Nat.le_of_ble_eq_true rfl) rfl ?_
  intro p e s m below meth c ls G hx0 hl hX
  have hZ0 := hX.2.2.2
  have hS : va_S A s.heap s.heap [] := va_S.rf
  have hn1 := hok.1.1
  have hn2 := hok.1.2
  refine lv_iload_n G.1 G.2.1 dX0_needChain_0 rfl (lv_at hl 1 rfl) ?_
  refine lv_if_lt (tgt := 12) G.1 G.2.1 dX0_needChain_1 (by decide) (fun h_1 => ?_) (fun h_1 => ?_)
  · exact gx_throw (text := "no such chain") G hx0 hst (by decide +kernel) (by decide +kernel) (by decide +kernel) (by decide +kernel) gx_not_IO gx_good_IO (by decide +kernel) hZ0 hS hl.1 dX0_needChain_12 dX0_needChain_15 dX0_needChain_16 dX0_needChain_18 dX0_needChain_21 (Nat.le_of_ble_eq_true rfl) (Nat.le_of_ble_eq_true rfl) (Nat.le_of_ble_eq_true rfl) (Nat.le_of_ble_eq_true rfl) (fun t _ hz hk => ⟨⟨rfl, by first | exact gb_neg (by assumption) | exact gb_nlt (by omega) (by assumption)⟩, hz, hk⟩) (fun _ h => nomatch h) (by decide) (by decide)
  · refine lv_iload_n G.1 G.2.1 dX0_needChain_4 rfl (lv_at hl 1 rfl) ?_
    refine lv_aload_n G.1 G.2.1 dX0_needChain_5 rfl (lv_at hl 0 rfl) ?_
    refine gx_get G hX (by decide +kernel) 5 (by decide) (by decide +kernel) rfl rfl rfl dX0_needChain_6 ?_
    refine lv_icmp_lt (tgt := 22) G.1 G.2.1 dX0_needChain_9 (by decide) (fun h_9 => ?_) (fun h_9 => ?_)
    · exact vx_ret (W.widen (k := 1) (n := 6) (Nat.zero_le _) (Nat.zero_le _) (W.vret G.1 G.2.1 G.2.2.1 (fun t ht hW => ⟨rfl, gb_in (by omega) (by assumption) (by assumption), ht⟩) (fun q h => nomatch h) dX0_needChain_22 G.2.2.2.2.2.2))
    · exact gx_throw (text := "no such chain") G hx0 hst (by decide +kernel) (by decide +kernel) (by decide +kernel) (by decide +kernel) gx_not_IO gx_good_IO (by decide +kernel) hZ0 hS hl.1 dX0_needChain_12 dX0_needChain_15 dX0_needChain_16 dX0_needChain_18 dX0_needChain_21 (Nat.le_of_ble_eq_true rfl) (Nat.le_of_ble_eq_true rfl) (Nat.le_of_ble_eq_true rfl) (Nat.le_of_ble_eq_true rfl) (fun t _ hz hk => ⟨⟨rfl, by first | exact gb_neg (by assumption) | exact gb_nlt (by omega) (by assumption)⟩, hz, hk⟩) (fun _ h => nomatch h) (by decide) (by decide)
set_option maxRecDepth 100000 in
set_option maxHeartbeats 4000000 in
/-- a check: needFreeProfile -/
theorem mX0_needFreeProfile (l : Launch) (hst : l.stackTraces = false) (D : va_G) (q : Nat → Nat) (cI : ClassId) (N : Nat → Nat) (S : Nat → Nat → Nat) (tr : Nat → Nat) (A : Nat → Prop) (hok : sp_ok N S) (hN : N 10 < 64) (pf : Nat) (hb9 : pf < 8) : vx_Met l yX0_needFreeProfile wsX0_needFreeProfile { frames := 6, cells := 1, slots := 6, locals := 82 } (va_Pc [.ref (q 0), .int (nI pf)] (fun U => xAt D q cI N S tr A U U.heap)) (va_Sv (fun _ => sp_bit (sp_held N S) pf = 0)) (gX (fun E => E = gIS ∧ sp_bit (sp_held N S) pf ≠ 0)) 1 6 (fun _ => False) := by
  refine gc_vxmet [.ref (q 0), .int (nI pf)] (by decide) rfl (Nat.le_of_ble_eq_true rfl) rfl ?_
  intro p e s m below meth c ls G hx0 hl hX
  have hZ0 := hX.2.2.2
  have hS : va_S A s.heap s.heap [] := va_S.rf
  have hh := sp_held_lt hok
  refine lv_aload_n G.1 G.2.1 dX0_needFreeProfile_0 rfl (lv_at hl 0 rfl) ?_
  refine gc_v (As := []) (rest := []) G.fix (mX0_held l D q cI N S tr A  hok (by omega)) (cwV 0 G.2.2.2.2.2.1 gX0_needFreeProfile_X0_held rfl rfl rfl (by decide +kernel) ⟨Nat.le_of_ble_eq_true rfl, Nat.le_of_ble_eq_true rfl⟩) xAt_blind (va_recv hX.2.1 hX.1 (ci := 0) (q0 := 0) rfl rfl) (fun U hU hW => by rw [hU]; exact hX.moved hW) rfl hl.1 rfl (Nat.le_of_ble_eq_true rfl) dX0_needFreeProfile_1 (Nat.zero_le _) (Nat.zero_le _) (fun r hr => ?_)
  subst hr
  refine lv_iload_n G.1 G.2.1 dX0_needFreeProfile_4 rfl (lv_at hl 1 rfl) ?_
  refine gc_s (As := [.int (nI (sp_held N S)), .int (nI pf)]) (rest := []) G.fix (mX0_hasBit l (sp_held N S) pf (by first | omega | assumption | exact ok6 _ | apply hq) (by omega)) (va_cwS 2 G.2.2.2.2.2.1 gX0_needFreeProfile_X0_hasBit rfl rfl rfl (by decide +kernel) ⟨Nat.le_of_ble_eq_true rfl, Nat.le_of_ble_eq_true rfl⟩) gc_blindT (fun _ _ _ => trivial) rfl hl.1 rfl (Nat.le_of_ble_eq_true rfl) dX0_needFreeProfile_5 (Nat.zero_le _) (Nat.zero_le _) (fun r hr => ?_)
  subst hr
  refine gn_eqz G (by exact sp_b31 _ _) (tgt := 21) dX0_needFreeProfile_8 (by decide) (fun h_8 => ?_) (fun h_8 => ?_)
  · exact vx_ret (W.widen (k := 1) (n := 6) (Nat.zero_le _) (Nat.zero_le _) (W.vret G.1 G.2.1 G.2.2.1 (fun t ht hW => ⟨rfl, h_8, ht⟩) (fun q h => nomatch h) dX0_needFreeProfile_21 G.2.2.2.2.2.2))
  · exact gx_throw (text := "the profile is held") G hx0 hst (by decide +kernel) (by decide +kernel) (by decide +kernel) (by decide +kernel) gx_not_IS gx_good_IS (by decide +kernel) hZ0 hS hl.1 dX0_needFreeProfile_11 dX0_needFreeProfile_14 dX0_needFreeProfile_15 dX0_needFreeProfile_17 dX0_needFreeProfile_20 (Nat.le_of_ble_eq_true rfl) (Nat.le_of_ble_eq_true rfl) (Nat.le_of_ble_eq_true rfl) (Nat.le_of_ble_eq_true rfl) (fun t _ hz hk => ⟨⟨rfl, h_8⟩, hz, hk⟩) (fun _ h => nomatch h) (by decide) (by decide)
set_option maxRecDepth 100000 in
set_option maxHeartbeats 4000000 in
/-- a check: needFreeChain -/
theorem mX0_needFreeChain (l : Launch) (hst : l.stackTraces = false) (D : va_G) (q : Nat → Nat) (cI : ClassId) (N : Nat → Nat) (S : Nat → Nat → Nat) (tr : Nat → Nat) (A : Nat → Prop) (hok : sp_ok N S) (hN : N 10 < 64) (ch : Nat) (hb9 : ch < 6) : vx_Met l yX0_needFreeChain wsX0_needFreeChain { frames := 6, cells := 1, slots := 6, locals := 82 } (va_Pc [.ref (q 0), .int (nI ch)] (fun U => xAt D q cI N S tr A U U.heap)) (va_Sv (fun _ => sp_bit (N 10) ch = 0)) (gX (fun E => E = gIS ∧ sp_bit (N 10) ch ≠ 0)) 1 6 (fun _ => False) := by
  refine gc_vxmet [.ref (q 0), .int (nI ch)] (by decide) rfl (Nat.le_of_ble_eq_true rfl) rfl ?_
  intro p e s m below meth c ls G hx0 hl hX
  have hZ0 := hX.2.2.2
  have hS : va_S A s.heap s.heap [] := va_S.rf
  have hh := sp_held_lt hok
  refine lv_aload_n G.1 G.2.1 dX0_needFreeChain_0 rfl (lv_at hl 0 rfl) ?_
  refine gx_get G hX (by decide +kernel) 10 (by decide) (by decide +kernel) rfl rfl rfl dX0_needFreeChain_1 ?_
  refine lv_iload_n G.1 G.2.1 dX0_needFreeChain_4 rfl (lv_at hl 1 rfl) ?_
  refine gc_s (As := [.int (nI (N 10)), .int (nI ch)]) (rest := []) G.fix (mX0_hasBit l (N 10) ch (by first | omega | assumption | exact ok6 _ | apply hq) (by omega)) (va_cwS 2 G.2.2.2.2.2.1 gX0_needFreeChain_X0_hasBit rfl rfl rfl (by decide +kernel) ⟨Nat.le_of_ble_eq_true rfl, Nat.le_of_ble_eq_true rfl⟩) gc_blindT (fun _ _ _ => trivial) rfl hl.1 rfl (Nat.le_of_ble_eq_true rfl) dX0_needFreeChain_5 (Nat.zero_le _) (Nat.zero_le _) (fun r hr => ?_)
  subst hr
  refine gn_eqz G (by exact sp_b31 _ _) (tgt := 21) dX0_needFreeChain_8 (by decide) (fun h_8 => ?_) (fun h_8 => ?_)
  · exact vx_ret (W.widen (k := 1) (n := 6) (Nat.zero_le _) (Nat.zero_le _) (W.vret G.1 G.2.1 G.2.2.1 (fun t ht hW => ⟨rfl, h_8, ht⟩) (fun q h => nomatch h) dX0_needFreeChain_21 G.2.2.2.2.2.2))
  · exact gx_throw (text := "the chain is held") G hx0 hst (by decide +kernel) (by decide +kernel) (by decide +kernel) (by decide +kernel) gx_not_IS gx_good_IS (by decide +kernel) hZ0 hS hl.1 dX0_needFreeChain_11 dX0_needFreeChain_14 dX0_needFreeChain_15 dX0_needFreeChain_17 dX0_needFreeChain_20 (Nat.le_of_ble_eq_true rfl) (Nat.le_of_ble_eq_true rfl) (Nat.le_of_ble_eq_true rfl) (Nat.le_of_ble_eq_true rfl) (fun t _ hz hk => ⟨⟨rfl, h_8⟩, hz, hk⟩) (fun _ h => nomatch h) (by decide) (by decide)
end
section
/-! the class's public calls, but those with loops of their own */ -/
theorem gb_not3 {x : Int32} (h0 : ¬ x = 0) (h1 : ¬ x = nI 1) (h2 : ¬ x = nI 2) : gb x 3 = false := by
  cases hb : gb x 3 with
  | false => rfl
  | true =>
    obtain ⟨j, hj, rfl⟩ := gb_of (by decide) hb
    rcases (by omega : j = 0 ∨ j = 1 ∨ j = 2) with rfl | rfl | rfl
    · exact absurd rfl h0
    · exact absurd rfl h1
    · exact absurd rfl h2
theorem gb_is3 {x : Int32} (h : x = 0 ∨ x = nI 1 ∨ x = nI 2) : gb x 3 = true := by
  rcases h with rfl | rfl | rfl <;> decide
theorem gb_nle7 {x : Int32} (h : ¬ x ≤ nI 7) : gb x 8 = false := by
  have h1 : ¬ x.toInt ≤ (nI 7).toInt := fun z => h (Int32.le_iff_toInt_le.mpr z)
  rw [nI_toInt (by decide)] at h1
  simp only [gb, decide_eq_false_iff_not]
  omega
theorem gb_le7 {x : Int32} (h : ¬ x < 0) (h2 : x ≤ nI 7) : gb x 8 = true := by
  have h1 := Int32.le_iff_toInt_le.mp h2
  rw [nI_toInt (by decide)] at h1
  have h3 : ¬ x.toInt < 0 := fun z => h (Int32.lt_iff_toInt_lt.mpr (by simpa using z))
  simp only [gb, decide_eq_true_eq]
  omega
theorem sp_bit_test (x b : Nat) : sp_bit x b = if x.testBit b then 1 else 0 := by
  unfold sp_bit
  rw [← Nat.shiftRight_eq_div_pow]
  simp only [Nat.testBit, Nat.one_and_eq_mod_two]
  have h := Nat.mod_two_eq_zero_or_one (x >>> b)
  rcases h with h | h <;> simp [h]
theorem sp_xor_bit (x b : Nat) : sp_bit (x ^^^ 2 ^ b) b = 1 - sp_bit x b := by
  rw [sp_bit_test, sp_bit_test, Nat.testBit_xor, Nat.testBit_two_pow_self]
  cases x.testBit b <;> rfl
theorem xAt_free9 {D : va_G} {q : Nat → Nat} {cI : ClassId} {N : Nat → Nat} {S : Nat → Nat → Nat} {tr F : Nat → Nat} {A : Nat → Prop} {s : State} {H : Heap} (h : xAt D q cI N S tr A s H) : xAt D q cI N (gs S 9 F) tr A s H := by
  have e : xw q cI N (gs S 9 F) tr = xw q cI N S tr := rfl
  unfold xAt
  rw [e]
  exact h
theorem xAt_free10 {D : va_G} {q : Nat → Nat} {cI : ClassId} {N : Nat → Nat} {S : Nat → Nat → Nat} {tr F : Nat → Nat} {A : Nat → Prop} {s : State} {H : Heap} (h : xAt D q cI N S tr A s H) : xAt D q cI N (gs S 10 F) tr A s H := by
  have e : xw q cI N (gs S 10 F) tr = xw q cI N S tr := rfl
  unfold xAt
  rw [e]
  exact h
theorem gp_narrow_z (x b : Nat) : narrow .boolean (.int (nI (sp_bit x b))) = .int (nI (sp_bit x b)) := by
  have h := sp_bit_lt x b
  rcases (by omega : sp_bit x b = 0 ∨ sp_bit x b = 1) with e | e <;> rw [e] <;> rfl
set_option maxRecDepth 100000 in
set_option maxHeartbeats 4000000 in
/-- curve -/
theorem mX0_curve (l : Launch) (hst : l.stackTraces = false) (D : va_G) (q : Nat → Nat) (cI : ClassId) (N : Nat → Nat) (S : Nat → Nat → Nat) (tr : Nat → Nat) (A : Nat → Prop) (hok : sp_ok N S) (hinv : sp_inv N S) (i1 i2 i3 : Int32) : vx_Met l yX0_curve wsX0_curve { frames := 7, cells := 1, slots := 6, locals := 103 } (va_Pc [.ref (q 0), .int i1, .int i2, .int i3] (fun U => xAt D q cI N S tr A U U.heap)) (gQx D q cI (fun r N2 S2 => sA_curve N S i1 i2 i3 = true ∧ sB_curve N S i1 i2 i3 = true ∧ sC_curve N S i1 i2 i3 = true ∧ r = nI (sR_curve N S i1 i2 i3) ∧ N2 = sN_curve N S i1 i2 i3 ∧ S2 = sS_curve N S i1 i2 i3) A) (gXx D q cI N S A (gE3 (sA_curve N S i1 i2 i3) (sB_curve N S i1 i2 i3) (sC_curve N S i1 i2 i3))) 1 6 A := by
  refine gc_vxmet [.ref (q 0), .int i1, .int i2, .int i3] (by decide) rfl (Nat.le_of_ble_eq_true rfl) rfl ?_
  intro p e s m below meth c ls G hx0 hl hX
  have hZ0 := hX.2.2.2
  have hS : va_S A s.heap s.heap [] := va_S.rf
  have hok9 := hok
  obtain ⟨⟨ok0, ok5⟩, ok1, ok2, ok3, ok4, ok6, ok7, ok8, ok12, ok13, ok14⟩ := hok9
  have hN := hinv.2.2.2.1
  have hN9 := hinv.2.2.1
  refine lv_aload_n G.1 G.2.1 dX0_curve_0 rfl (lv_at hl 0 rfl) ?_
  refine lv_iload_n G.1 G.2.1 dX0_curve_1 rfl (lv_at hl 1 rfl) ?_
  refine gc_needT (vx_runV (As := [.int i1]) (rest := []) G.fix (mX0_needProfile l hst D q cI N S tr A hok i1) (cwV 1 G.2.2.2.2.2.1 gX0_curve_X0_needProfile rfl rfl rfl (by decide +kernel) ⟨Nat.le_of_ble_eq_true rfl, Nat.le_of_ble_eq_true rfl⟩) ⟨xAt_blind, va_recv hX.2.1 hX.1 (ci := 0) (q0 := 0) rfl rfl, fun U hU hW => ⟨rfl, by show xAt _ _ _ _ _ _ _ U U.heap; rw [hU]; exact hX.moved hW⟩⟩ rfl rfl hl.1 rfl (lv_room (Nat.le_of_ble_eq_true rfl)) dX0_curve_2 ⟨Nat.le_of_ble_eq_true rfl, Nat.le_of_ble_eq_true rfl⟩) hx0 G.2.2.2.2.2.2 (fun E t hE hz hk _ => ⟨Or.inl ⟨hE.1, (by simp [sA_curve, hE.2] <;> omega)⟩, gXx_of hX hS hz hk⟩) hS.2.2 (by decide) (by decide) (fun hA1 => ?_)
  obtain ⟨j1, hj1, rfl⟩ := gb_of (by omega) hA1
  have hg1 := gn_nI (show j1 < 2 ^ 31 by omega)
  refine lv_iload_n G.1 G.2.1 dX0_curve_5 rfl (lv_at hl 2 rfl) ?_
  refine gc_needT (vx_runS (As := [.int i2]) (rest := []) G.fix (mX0_needBand l hst i2) (va_cwS 1 G.2.2.2.2.2.1 gX0_curve_X0_needBand rfl rfl rfl (by decide +kernel) ⟨Nat.le_of_ble_eq_true rfl, Nat.le_of_ble_eq_true rfl⟩) ⟨gZ_blind, fun U hU hW => ⟨rfl, by show gZ _ U U.heap; rw [hU]; exact hX.2.2.2.none.moved hW⟩⟩ rfl rfl hl.1 rfl (lv_room (Nat.le_of_ble_eq_true rfl)) dX0_curve_6 ⟨Nat.le_of_ble_eq_true rfl, Nat.le_of_ble_eq_true rfl⟩) hx0 G.2.2.2.2.2.2 (fun E t hE hz hk _ => ⟨Or.inl ⟨hE.1, (by simp [sA_curve, hA1, hg1, hE.2] <;> omega)⟩, gXx_of hX hS hz hk⟩) hS.2.2 (by decide) (by decide) (fun hA2 => ?_)
  obtain ⟨j2, hj2, rfl⟩ := gb_of (by omega) hA2
  have hg2 := gn_nI (show j2 < 2 ^ 31 by omega)
  refine lv_iload_n G.1 G.2.1 dX0_curve_9 rfl (lv_at hl 3 rfl) ?_
  refine gc_needT (vx_runS (As := [.int i3]) (rest := []) G.fix (mX0_needValue l hst i3) (va_cwS 1 G.2.2.2.2.2.1 gX0_curve_X0_needValue rfl rfl rfl (by decide +kernel) ⟨Nat.le_of_ble_eq_true rfl, Nat.le_of_ble_eq_true rfl⟩) ⟨gZ_blind, fun U hU hW => ⟨rfl, by show gZ _ U U.heap; rw [hU]; exact hX.2.2.2.none.moved hW⟩⟩ rfl rfl hl.1 rfl (lv_room (Nat.le_of_ble_eq_true rfl)) dX0_curve_10 ⟨Nat.le_of_ble_eq_true rfl, Nat.le_of_ble_eq_true rfl⟩) hx0 G.2.2.2.2.2.2 (fun E t hE hz hk _ => ⟨Or.inr (Or.inl ⟨hE.1, (by simp [sA_curve, hA1, hA2, hg1, hg2]), (by simp [sB_curve, hg1, hg2, hE.2] <;> omega)⟩), gXx_of hX hS hz hk⟩) hS.2.2 (by decide) (by decide) (fun hB3 => ?_)
  obtain ⟨j3, hj3, rfl⟩ := gb_of (by omega) hB3
  have hg3 := gn_nI (show j3 < 2 ^ 31 by omega)
  refine lv_aload_n G.1 G.2.1 dX0_curve_13 rfl (lv_at hl 0 rfl) ?_
  refine lv_iload_n G.1 G.2.1 dX0_curve_14 rfl (lv_at hl 1 rfl) ?_
  refine lv_iload_n G.1 G.2.1 dX0_curve_15 rfl (lv_at hl 2 rfl) ?_
  refine lv_iload_n G.1 G.2.1 dX0_curve_16 rfl (lv_at hl 3 rfl) ?_
  refine gc_v (As := [.int (nI j1), .int (nI j2), .int (nI j3)]) (rest := []) G.fix (mX0_bent l D q cI N S tr A j1 j2 j3 hok (by first | omega | assumption | exact ok6 _ | apply hq) (by first | omega | assumption | exact ok6 _ | apply hq) (by first | omega | assumption | exact ok6 _ | apply hq)) (cwV 3 G.2.2.2.2.2.1 gX0_curve_X0_bent rfl rfl rfl (by decide +kernel) ⟨Nat.le_of_ble_eq_true rfl, Nat.le_of_ble_eq_true rfl⟩) xAt_blind (va_recv hX.2.1 hX.1 (ci := 0) (q0 := 0) rfl rfl) (fun U hU hW => by rw [hU]; exact hX.moved hW) rfl hl.1 rfl (Nat.le_of_ble_eq_true rfl) dX0_curve_17 (Nat.zero_le _) (Nat.zero_le _) (fun r hr => ?_)
  subst hr
  exact vx_ret (W.widen (k := 1) (n := 6) (Nat.zero_le _) (Nat.zero_le _) (W.iret G.1 G.2.1 G.2.2.1 (fun t ht hW => gQx_of hX hS ht ⟨(by simp [sA_curve, hA1, hA2, hg1, hg2, hg3]), (by simp [sB_curve, hB3, hg1, hg2, hg3]), rfl, (by show nI _ = nI _; simp only [sR_curve, hg1, hg2, hg3]), (by simp only [sN_curve, hg1, hg2, hg3]), (by simp only [sS_curve, hg1, hg2, hg3])⟩) hS.2.2 dX0_curve_20 G.2.2.2.2.2.2))
set_option maxRecDepth 100000 in
set_option maxHeartbeats 4000000 in
/-- taken -/
theorem mX0_taken (l : Launch) (hst : l.stackTraces = false) (D : va_G) (q : Nat → Nat) (cI : ClassId) (N : Nat → Nat) (S : Nat → Nat → Nat) (tr : Nat → Nat) (A : Nat → Prop) (hok : sp_ok N S) (hinv : sp_inv N S) (i1 i2 i3 : Int32) : vx_Met l yX0_taken wsX0_taken { frames := 7, cells := 1, slots := 6, locals := 103 } (va_Pc [.ref (q 0), .int i1, .int i2, .int i3] (fun U => xAt D q cI N S tr A U U.heap)) (gQx D q cI (fun r N2 S2 => sA_taken N S i1 i2 i3 = true ∧ sB_taken N S i1 i2 i3 = true ∧ sC_taken N S i1 i2 i3 = true ∧ r = nI (sR_taken N S i1 i2 i3) ∧ N2 = sN_taken N S i1 i2 i3 ∧ S2 = sS_taken N S i1 i2 i3) A) (gXx D q cI N S A (gE3 (sA_taken N S i1 i2 i3) (sB_taken N S i1 i2 i3) (sC_taken N S i1 i2 i3))) 1 6 A := by
  refine gc_vxmet [.ref (q 0), .int i1, .int i2, .int i3] (by decide) rfl (Nat.le_of_ble_eq_true rfl) rfl ?_
  intro p e s m below meth c ls G hx0 hl hX
  have hZ0 := hX.2.2.2
  have hS : va_S A s.heap s.heap [] := va_S.rf
  have hok9 := hok
  obtain ⟨⟨ok0, ok5⟩, ok1, ok2, ok3, ok4, ok6, ok7, ok8, ok12, ok13, ok14⟩ := hok9
  have hN := hinv.2.2.2.1
  have hN9 := hinv.2.2.1
  refine lv_aload_n G.1 G.2.1 dX0_taken_0 rfl (lv_at hl 0 rfl) ?_
  refine lv_iload_n G.1 G.2.1 dX0_taken_1 rfl (lv_at hl 1 rfl) ?_
  refine gc_needT (vx_runV (As := [.int i1]) (rest := []) G.fix (mX0_needProfile l hst D q cI N S tr A hok i1) (cwV 1 G.2.2.2.2.2.1 gX0_taken_X0_needProfile rfl rfl rfl (by decide +kernel) ⟨Nat.le_of_ble_eq_true rfl, Nat.le_of_ble_eq_true rfl⟩) ⟨xAt_blind, va_recv hX.2.1 hX.1 (ci := 0) (q0 := 0) rfl rfl, fun U hU hW => ⟨rfl, by show xAt _ _ _ _ _ _ _ U U.heap; rw [hU]; exact hX.moved hW⟩⟩ rfl rfl hl.1 rfl (lv_room (Nat.le_of_ble_eq_true rfl)) dX0_taken_2 ⟨Nat.le_of_ble_eq_true rfl, Nat.le_of_ble_eq_true rfl⟩) hx0 G.2.2.2.2.2.2 (fun E t hE hz hk _ => ⟨Or.inl ⟨hE.1, (by simp [sA_taken, hE.2] <;> omega)⟩, gXx_of hX hS hz hk⟩) hS.2.2 (by decide) (by decide) (fun hA1 => ?_)
  obtain ⟨j1, hj1, rfl⟩ := gb_of (by omega) hA1
  have hg1 := gn_nI (show j1 < 2 ^ 31 by omega)
  refine lv_iload_n G.1 G.2.1 dX0_taken_5 rfl (lv_at hl 2 rfl) ?_
  refine gc_needT (vx_runS (As := [.int i2]) (rest := []) G.fix (mX0_needBand l hst i2) (va_cwS 1 G.2.2.2.2.2.1 gX0_taken_X0_needBand rfl rfl rfl (by decide +kernel) ⟨Nat.le_of_ble_eq_true rfl, Nat.le_of_ble_eq_true rfl⟩) ⟨gZ_blind, fun U hU hW => ⟨rfl, by show gZ _ U U.heap; rw [hU]; exact hX.2.2.2.none.moved hW⟩⟩ rfl rfl hl.1 rfl (lv_room (Nat.le_of_ble_eq_true rfl)) dX0_taken_6 ⟨Nat.le_of_ble_eq_true rfl, Nat.le_of_ble_eq_true rfl⟩) hx0 G.2.2.2.2.2.2 (fun E t hE hz hk _ => ⟨Or.inl ⟨hE.1, (by simp [sA_taken, hA1, hg1, hE.2] <;> omega)⟩, gXx_of hX hS hz hk⟩) hS.2.2 (by decide) (by decide) (fun hA2 => ?_)
  obtain ⟨j2, hj2, rfl⟩ := gb_of (by omega) hA2
  have hg2 := gn_nI (show j2 < 2 ^ 31 by omega)
  refine lv_iload_n G.1 G.2.1 dX0_taken_9 rfl (lv_at hl 3 rfl) ?_
  refine gc_needT (vx_runS (As := [.int i3]) (rest := []) G.fix (mX0_needValue l hst i3) (va_cwS 1 G.2.2.2.2.2.1 gX0_taken_X0_needValue rfl rfl rfl (by decide +kernel) ⟨Nat.le_of_ble_eq_true rfl, Nat.le_of_ble_eq_true rfl⟩) ⟨gZ_blind, fun U hU hW => ⟨rfl, by show gZ _ U U.heap; rw [hU]; exact hX.2.2.2.none.moved hW⟩⟩ rfl rfl hl.1 rfl (lv_room (Nat.le_of_ble_eq_true rfl)) dX0_taken_10 ⟨Nat.le_of_ble_eq_true rfl, Nat.le_of_ble_eq_true rfl⟩) hx0 G.2.2.2.2.2.2 (fun E t hE hz hk _ => ⟨Or.inr (Or.inl ⟨hE.1, (by simp [sA_taken, hA1, hA2, hg1, hg2]), (by simp [sB_taken, hg1, hg2, hE.2] <;> omega)⟩), gXx_of hX hS hz hk⟩) hS.2.2 (by decide) (by decide) (fun hB3 => ?_)
  obtain ⟨j3, hj3, rfl⟩ := gb_of (by omega) hB3
  have hg3 := gn_nI (show j3 < 2 ^ 31 by omega)
  refine lv_aload_n G.1 G.2.1 dX0_taken_13 rfl (lv_at hl 0 rfl) ?_
  refine lv_iload_n G.1 G.2.1 dX0_taken_14 rfl (lv_at hl 1 rfl) ?_
  refine lv_iload_n G.1 G.2.1 dX0_taken_15 rfl (lv_at hl 2 rfl) ?_
  refine lv_iload_n G.1 G.2.1 dX0_taken_16 rfl (lv_at hl 3 rfl) ?_
  refine gc_v (As := [.int (nI j1), .int (nI j2), .int (nI j3)]) (rest := []) G.fix (mX0_take l D q cI N S tr A j1 j2 j3 hok (by first | omega | assumption | exact ok6 _ | apply hq) (by first | omega | assumption | exact ok6 _ | apply hq) (by first | omega | assumption | exact ok6 _ | apply hq)) (cwV 3 G.2.2.2.2.2.1 gX0_taken_X0_take rfl rfl rfl (by decide +kernel) ⟨Nat.le_of_ble_eq_true rfl, Nat.le_of_ble_eq_true rfl⟩) xAt_blind (va_recv hX.2.1 hX.1 (ci := 0) (q0 := 0) rfl rfl) (fun U hU hW => by rw [hU]; exact hX.moved hW) rfl hl.1 rfl (Nat.le_of_ble_eq_true rfl) dX0_taken_17 (Nat.zero_le _) (Nat.zero_le _) (fun r hr => ?_)
  subst hr
  exact vx_ret (W.widen (k := 1) (n := 6) (Nat.zero_le _) (Nat.zero_le _) (W.iret G.1 G.2.1 G.2.2.1 (fun t ht hW => gQx_of hX hS ht ⟨(by simp [sA_taken, hA1, hA2, hg1, hg2, hg3]), (by simp [sB_taken, hB3, hg1, hg2, hg3]), rfl, (by show nI _ = nI _; simp only [sR_taken, hg1, hg2, hg3]), (by simp only [sN_taken, hg1, hg2, hg3]), (by simp only [sS_taken, hg1, hg2, hg3])⟩) hS.2.2 dX0_taken_20 G.2.2.2.2.2.2))
set_option maxRecDepth 100000 in
set_option maxHeartbeats 4000000 in
/-- through -/
theorem mX0_through (l : Launch) (hst : l.stackTraces = false) (D : va_G) (q : Nat → Nat) (cI : ClassId) (N : Nat → Nat) (S : Nat → Nat → Nat) (tr : Nat → Nat) (A : Nat → Prop) (hok : sp_ok N S) (hinv : sp_inv N S) (i1 i2 i3 : Int32) : vx_Met l yX0_through wsX0_through { frames := 7, cells := 1, slots := 6, locals := 124 } (va_Pc [.ref (q 0), .int i1, .int i2, .int i3] (fun U => xAt D q cI N S tr A U U.heap)) (gQx D q cI (fun r N2 S2 => sA_through N S i1 i2 i3 = true ∧ sB_through N S i1 i2 i3 = true ∧ sC_through N S i1 i2 i3 = true ∧ r = nI (sR_through N S i1 i2 i3) ∧ N2 = sN_through N S i1 i2 i3 ∧ S2 = sS_through N S i1 i2 i3) A) (gXx D q cI N S A (gE3 (sA_through N S i1 i2 i3) (sB_through N S i1 i2 i3) (sC_through N S i1 i2 i3))) 1 6 A := by
  refine gc_vxmet [.ref (q 0), .int i1, .int i2, .int i3] (by decide) rfl (Nat.le_of_ble_eq_true rfl) rfl ?_
  intro p e s m below meth c ls G hx0 hl hX
  have hZ0 := hX.2.2.2
  have hS : va_S A s.heap s.heap [] := va_S.rf
  have hok9 := hok
  obtain ⟨⟨ok0, ok5⟩, ok1, ok2, ok3, ok4, ok6, ok7, ok8, ok12, ok13, ok14⟩ := hok9
  have hN := hinv.2.2.2.1
  have hN9 := hinv.2.2.1
  refine lv_aload_n G.1 G.2.1 dX0_through_0 rfl (lv_at hl 0 rfl) ?_
  refine lv_iload_n G.1 G.2.1 dX0_through_1 rfl (lv_at hl 1 rfl) ?_
  refine gc_needT (vx_runV (As := [.int i1]) (rest := []) G.fix (mX0_needChain l hst D q cI N S tr A hok i1) (cwV 1 G.2.2.2.2.2.1 gX0_through_X0_needChain rfl rfl rfl (by decide +kernel) ⟨Nat.le_of_ble_eq_true rfl, Nat.le_of_ble_eq_true rfl⟩) ⟨xAt_blind, va_recv hX.2.1 hX.1 (ci := 0) (q0 := 0) rfl rfl, fun U hU hW => ⟨rfl, by show xAt _ _ _ _ _ _ _ U U.heap; rw [hU]; exact hX.moved hW⟩⟩ rfl rfl hl.1 rfl (lv_room (Nat.le_of_ble_eq_true rfl)) dX0_through_2 ⟨Nat.le_of_ble_eq_true rfl, Nat.le_of_ble_eq_true rfl⟩) hx0 G.2.2.2.2.2.2 (fun E t hE hz hk _ => ⟨Or.inl ⟨hE.1, (by simp [sA_through, hE.2] <;> omega)⟩, gXx_of hX hS hz hk⟩) hS.2.2 (by decide) (by decide) (fun hA1 => ?_)
  obtain ⟨j1, hj1, rfl⟩ := gb_of (by omega) hA1
  have hg1 := gn_nI (show j1 < 2 ^ 31 by omega)
  refine lv_iload_n G.1 G.2.1 dX0_through_5 rfl (lv_at hl 2 rfl) ?_
  refine gc_needT (vx_runS (As := [.int i2]) (rest := []) G.fix (mX0_needBand l hst i2) (va_cwS 1 G.2.2.2.2.2.1 gX0_through_X0_needBand rfl rfl rfl (by decide +kernel) ⟨Nat.le_of_ble_eq_true rfl, Nat.le_of_ble_eq_true rfl⟩) ⟨gZ_blind, fun U hU hW => ⟨rfl, by show gZ _ U U.heap; rw [hU]; exact hX.2.2.2.none.moved hW⟩⟩ rfl rfl hl.1 rfl (lv_room (Nat.le_of_ble_eq_true rfl)) dX0_through_6 ⟨Nat.le_of_ble_eq_true rfl, Nat.le_of_ble_eq_true rfl⟩) hx0 G.2.2.2.2.2.2 (fun E t hE hz hk _ => ⟨Or.inl ⟨hE.1, (by simp [sA_through, hA1, hg1, hE.2] <;> omega)⟩, gXx_of hX hS hz hk⟩) hS.2.2 (by decide) (by decide) (fun hA2 => ?_)
  obtain ⟨j2, hj2, rfl⟩ := gb_of (by omega) hA2
  have hg2 := gn_nI (show j2 < 2 ^ 31 by omega)
  refine lv_iload_n G.1 G.2.1 dX0_through_9 rfl (lv_at hl 3 rfl) ?_
  refine gc_needT (vx_runS (As := [.int i3]) (rest := []) G.fix (mX0_needValue l hst i3) (va_cwS 1 G.2.2.2.2.2.1 gX0_through_X0_needValue rfl rfl rfl (by decide +kernel) ⟨Nat.le_of_ble_eq_true rfl, Nat.le_of_ble_eq_true rfl⟩) ⟨gZ_blind, fun U hU hW => ⟨rfl, by show gZ _ U U.heap; rw [hU]; exact hX.2.2.2.none.moved hW⟩⟩ rfl rfl hl.1 rfl (lv_room (Nat.le_of_ble_eq_true rfl)) dX0_through_10 ⟨Nat.le_of_ble_eq_true rfl, Nat.le_of_ble_eq_true rfl⟩) hx0 G.2.2.2.2.2.2 (fun E t hE hz hk _ => ⟨Or.inr (Or.inl ⟨hE.1, (by simp [sA_through, hA1, hA2, hg1, hg2]), (by simp [sB_through, hg1, hg2, hE.2] <;> omega)⟩), gXx_of hX hS hz hk⟩) hS.2.2 (by decide) (by decide) (fun hB3 => ?_)
  obtain ⟨j3, hj3, rfl⟩ := gb_of (by omega) hB3
  have hg3 := gn_nI (show j3 < 2 ^ 31 by omega)
  refine lv_aload_n G.1 G.2.1 dX0_through_13 rfl (lv_at hl 0 rfl) ?_
  refine lv_iload_n G.1 G.2.1 dX0_through_14 rfl (lv_at hl 1 rfl) ?_
  refine lv_iload_n G.1 G.2.1 dX0_through_15 rfl (lv_at hl 2 rfl) ?_
  refine lv_iload_n G.1 G.2.1 dX0_through_16 rfl (lv_at hl 3 rfl) ?_
  refine gc_v (As := [.int (nI j1), .int (nI j2), .int (nI j3)]) (rest := []) G.fix (mX0_pass l D q cI N S tr A j1 j2 j3 hok (by first | omega | assumption | exact ok6 _ | apply hq) (by first | omega | assumption | exact ok6 _ | apply hq) (by first | omega | assumption | exact ok6 _ | apply hq)) (cwV 3 G.2.2.2.2.2.1 gX0_through_X0_pass rfl rfl rfl (by decide +kernel) ⟨Nat.le_of_ble_eq_true rfl, Nat.le_of_ble_eq_true rfl⟩) xAt_blind (va_recv hX.2.1 hX.1 (ci := 0) (q0 := 0) rfl rfl) (fun U hU hW => by rw [hU]; exact hX.moved hW) rfl hl.1 rfl (Nat.le_of_ble_eq_true rfl) dX0_through_17 (Nat.zero_le _) (Nat.zero_le _) (fun r hr => ?_)
  subst hr
  exact vx_ret (W.widen (k := 1) (n := 6) (Nat.zero_le _) (Nat.zero_le _) (W.iret G.1 G.2.1 G.2.2.1 (fun t ht hW => gQx_of hX hS ht ⟨(by simp [sA_through, hA1, hA2, hg1, hg2, hg3]), (by simp [sB_through, hB3, hg1, hg2, hg3]), rfl, (by show nI _ = nI _; simp only [sR_through, hg1, hg2, hg3]), (by simp only [sN_through, hg1, hg2, hg3]), (by simp only [sS_through, hg1, hg2, hg3])⟩) hS.2.2 dX0_through_20 G.2.2.2.2.2.2))
set_option maxRecDepth 100000 in
set_option maxHeartbeats 4000000 in
/-- paint -/
theorem mX0_paint (l : Launch) (hst : l.stackTraces = false) (D : va_G) (q : Nat → Nat) (cI : ClassId) (N : Nat → Nat) (S : Nat → Nat → Nat) (tr : Nat → Nat) (A : Nat → Prop) (hok : sp_ok N S) (hinv : sp_inv N S) (i1 i2 i3 : Int32) : vx_Met l yX0_paint wsX0_paint { frames := 7, cells := 1, slots := 6, locals := 102 } (va_Pc [.ref (q 0), .int i1, .int i2, .int i3] (fun U => xAt D q cI N S tr A U U.heap)) (gQx D q cI (fun r N2 S2 => sA_paint N S i1 i2 i3 = true ∧ sB_paint N S i1 i2 i3 = true ∧ sC_paint N S i1 i2 i3 = true ∧ r = nI (sR_paint N S i1 i2 i3) ∧ N2 = sN_paint N S i1 i2 i3 ∧ S2 = sS_paint N S i1 i2 i3) A) (gXx D q cI N S A (gE3 (sA_paint N S i1 i2 i3) (sB_paint N S i1 i2 i3) (sC_paint N S i1 i2 i3))) 1 6 A := by
  refine gc_vxmet [.ref (q 0), .int i1, .int i2, .int i3] (by decide) rfl (Nat.le_of_ble_eq_true rfl) rfl ?_
  intro p e s m below meth c ls G hx0 hl hX
  have hZ0 := hX.2.2.2
  have hS : va_S A s.heap s.heap [] := va_S.rf
  have hok9 := hok
  obtain ⟨⟨ok0, ok5⟩, ok1, ok2, ok3, ok4, ok6, ok7, ok8, ok12, ok13, ok14⟩ := hok9
  have hN := hinv.2.2.2.1
  have hN9 := hinv.2.2.1
  refine lv_iload_n G.1 G.2.1 dX0_paint_0 rfl (lv_at hl 1 rfl) ?_
  refine gc_needT (vx_runS (As := [.int i1]) (rest := []) G.fix (mX0_needPixel l hst i1) (va_cwS 1 G.2.2.2.2.2.1 gX0_paint_X0_needPixel rfl rfl rfl (by decide +kernel) ⟨Nat.le_of_ble_eq_true rfl, Nat.le_of_ble_eq_true rfl⟩) ⟨gZ_blind, fun U hU hW => ⟨rfl, by show gZ _ U U.heap; rw [hU]; exact hX.2.2.2.none.moved hW⟩⟩ rfl rfl hl.1 rfl (lv_room (Nat.le_of_ble_eq_true rfl)) dX0_paint_1 ⟨Nat.le_of_ble_eq_true rfl, Nat.le_of_ble_eq_true rfl⟩) hx0 G.2.2.2.2.2.2 (fun E t hE hz hk _ => ⟨Or.inl ⟨hE.1, (by simp [sA_paint, hE.2] <;> omega)⟩, gXx_of hX hS hz hk⟩) hS.2.2 (by decide) (by decide) (fun hA1 => ?_)
  obtain ⟨j1, hj1, rfl⟩ := gb_of (by omega) hA1
  have hg1 := gn_nI (show j1 < 2 ^ 31 by omega)
  refine lv_iload_n G.1 G.2.1 dX0_paint_4 rfl (lv_at hl 2 rfl) ?_
  refine gc_needT (vx_runS (As := [.int i2]) (rest := []) G.fix (mX0_needBand l hst i2) (va_cwS 1 G.2.2.2.2.2.1 gX0_paint_X0_needBand rfl rfl rfl (by decide +kernel) ⟨Nat.le_of_ble_eq_true rfl, Nat.le_of_ble_eq_true rfl⟩) ⟨gZ_blind, fun U hU hW => ⟨rfl, by show gZ _ U U.heap; rw [hU]; exact hX.2.2.2.none.moved hW⟩⟩ rfl rfl hl.1 rfl (lv_room (Nat.le_of_ble_eq_true rfl)) dX0_paint_5 ⟨Nat.le_of_ble_eq_true rfl, Nat.le_of_ble_eq_true rfl⟩) hx0 G.2.2.2.2.2.2 (fun E t hE hz hk _ => ⟨Or.inl ⟨hE.1, (by simp [sA_paint, hA1, hg1, hE.2] <;> omega)⟩, gXx_of hX hS hz hk⟩) hS.2.2 (by decide) (by decide) (fun hA2 => ?_)
  obtain ⟨j2, hj2, rfl⟩ := gb_of (by omega) hA2
  have hg2 := gn_nI (show j2 < 2 ^ 31 by omega)
  refine lv_iload_n G.1 G.2.1 dX0_paint_8 rfl (lv_at hl 3 rfl) ?_
  refine gc_needT (vx_runS (As := [.int i3]) (rest := []) G.fix (mX0_needValue l hst i3) (va_cwS 1 G.2.2.2.2.2.1 gX0_paint_X0_needValue rfl rfl rfl (by decide +kernel) ⟨Nat.le_of_ble_eq_true rfl, Nat.le_of_ble_eq_true rfl⟩) ⟨gZ_blind, fun U hU hW => ⟨rfl, by show gZ _ U U.heap; rw [hU]; exact hX.2.2.2.none.moved hW⟩⟩ rfl rfl hl.1 rfl (lv_room (Nat.le_of_ble_eq_true rfl)) dX0_paint_9 ⟨Nat.le_of_ble_eq_true rfl, Nat.le_of_ble_eq_true rfl⟩) hx0 G.2.2.2.2.2.2 (fun E t hE hz hk _ => ⟨Or.inr (Or.inl ⟨hE.1, (by simp [sA_paint, hA1, hA2, hg1, hg2]), (by simp [sB_paint, hg1, hg2, hE.2] <;> omega)⟩), gXx_of hX hS hz hk⟩) hS.2.2 (by decide) (by decide) (fun hB3 => ?_)
  obtain ⟨j3, hj3, rfl⟩ := gb_of (by omega) hB3
  have hg3 := gn_nI (show j3 < 2 ^ 31 by omega)
  refine lv_aload_n G.1 G.2.1 dX0_paint_12 rfl (lv_at hl 0 rfl) ?_
  refine gx_get G hX (by decide +kernel) 12 (by decide) (by decide +kernel) rfl rfl rfl dX0_paint_13 ?_
  refine lv_iload_n G.1 G.2.1 dX0_paint_16 rfl (lv_at hl 1 rfl) ?_
  refine lv_iconst (v := nI 3) G.1 G.2.1 dX0_paint_17 (by decide) ?_
  refine gn_imul G dX0_paint_18 ?_
  refine lv_iload_n G.1 G.2.1 dX0_paint_19 rfl (lv_at hl 2 rfl) ?_
  refine gn_iadd G dX0_paint_20 ?_
  refine lv_iload_n G.1 G.2.1 dX0_paint_21 rfl (lv_at hl 3 rfl) ?_
  refine gx_swap (k := 12) (kp := 9) (len := 18) (F := S 12) (i := (j1 * 3) + j2) (v := j3) (S' := (gs S 12 (gu (S 12) ((j1 * 3) + j2) j3))) (tr' := tr) (rest := []) G.fix (mX0_swap l D (q 12) cI 18 (S 12) ((j1 * 3) + j2) j3 (by first | omega | assumption)) (va_cwS 3 G.2.2.2.2.2.1 gX0_paint_X0_swap rfl rfl rfl (by decide +kernel) ⟨Nat.le_of_ble_eq_true rfl, Nat.le_of_ble_eq_true rfl⟩) hX hS rfl (rfl) hl.1 rfl (Nat.le_of_ble_eq_true rfl) dX0_paint_22 (Nat.zero_le _) (Nat.zero_le _) (fun H1 locs1 hX hS => ?_)
  exact vx_ret (W.widen (k := 1) (n := 6) (Nat.zero_le _) (Nat.zero_le _) (W.iret G.1 G.2.1 G.2.2.1 (fun t ht hW => gQx_of hX hS ht ⟨(by simp [sA_paint, hA1, hA2, hg1, hg2, hg3]), (by simp [sB_paint, hB3, hg1, hg2, hg3]), rfl, (by show nI _ = nI _; simp only [sR_paint, hg1, hg2, hg3]), (by simp only [sN_paint, hg1, hg2, hg3]), (by simp only [sS_paint, hg1, hg2, hg3])⟩) hS.2.2 dX0_paint_25 G.2.2.2.2.2.2))
set_option maxRecDepth 100000 in
set_option maxHeartbeats 4000000 in
/-- spot -/
theorem mX0_spot (l : Launch) (hst : l.stackTraces = false) (D : va_G) (q : Nat → Nat) (cI : ClassId) (N : Nat → Nat) (S : Nat → Nat → Nat) (tr : Nat → Nat) (A : Nat → Prop) (hok : sp_ok N S) (hinv : sp_inv N S) (i1 i2 i3 : Int32) : vx_Met l yX0_spot wsX0_spot { frames := 7, cells := 1, slots := 6, locals := 102 } (va_Pc [.ref (q 0), .int i1, .int i2, .int i3] (fun U => xAt D q cI N S tr A U U.heap)) (gQx D q cI (fun r N2 S2 => sA_spot N S i1 i2 i3 = true ∧ sB_spot N S i1 i2 i3 = true ∧ sC_spot N S i1 i2 i3 = true ∧ r = nI (sR_spot N S i1 i2 i3) ∧ N2 = sN_spot N S i1 i2 i3 ∧ S2 = sS_spot N S i1 i2 i3) A) (gXx D q cI N S A (gE3 (sA_spot N S i1 i2 i3) (sB_spot N S i1 i2 i3) (sC_spot N S i1 i2 i3))) 1 6 A := by
  refine gc_vxmet [.ref (q 0), .int i1, .int i2, .int i3] (by decide) rfl (Nat.le_of_ble_eq_true rfl) rfl ?_
  intro p e s m below meth c ls G hx0 hl hX
  have hZ0 := hX.2.2.2
  have hS : va_S A s.heap s.heap [] := va_S.rf
  have hok9 := hok
  obtain ⟨⟨ok0, ok5⟩, ok1, ok2, ok3, ok4, ok6, ok7, ok8, ok12, ok13, ok14⟩ := hok9
  have hN := hinv.2.2.2.1
  have hN9 := hinv.2.2.1
  refine lv_iload_n G.1 G.2.1 dX0_spot_0 rfl (lv_at hl 1 rfl) ?_
  refine gc_needT (vx_runS (As := [.int i1]) (rest := []) G.fix (mX0_needPixel l hst i1) (va_cwS 1 G.2.2.2.2.2.1 gX0_spot_X0_needPixel rfl rfl rfl (by decide +kernel) ⟨Nat.le_of_ble_eq_true rfl, Nat.le_of_ble_eq_true rfl⟩) ⟨gZ_blind, fun U hU hW => ⟨rfl, by show gZ _ U U.heap; rw [hU]; exact hX.2.2.2.none.moved hW⟩⟩ rfl rfl hl.1 rfl (lv_room (Nat.le_of_ble_eq_true rfl)) dX0_spot_1 ⟨Nat.le_of_ble_eq_true rfl, Nat.le_of_ble_eq_true rfl⟩) hx0 G.2.2.2.2.2.2 (fun E t hE hz hk _ => ⟨Or.inl ⟨hE.1, (by simp [sA_spot, hE.2] <;> omega)⟩, gXx_of hX hS hz hk⟩) hS.2.2 (by decide) (by decide) (fun hA1 => ?_)
  obtain ⟨j1, hj1, rfl⟩ := gb_of (by omega) hA1
  have hg1 := gn_nI (show j1 < 2 ^ 31 by omega)
  refine lv_iload_n G.1 G.2.1 dX0_spot_4 rfl (lv_at hl 2 rfl) ?_
  refine gc_needT (vx_runS (As := [.int i2]) (rest := []) G.fix (mX0_needInk l hst i2) (va_cwS 1 G.2.2.2.2.2.1 gX0_spot_X0_needInk rfl rfl rfl (by decide +kernel) ⟨Nat.le_of_ble_eq_true rfl, Nat.le_of_ble_eq_true rfl⟩) ⟨gZ_blind, fun U hU hW => ⟨rfl, by show gZ _ U U.heap; rw [hU]; exact hX.2.2.2.none.moved hW⟩⟩ rfl rfl hl.1 rfl (lv_room (Nat.le_of_ble_eq_true rfl)) dX0_spot_5 ⟨Nat.le_of_ble_eq_true rfl, Nat.le_of_ble_eq_true rfl⟩) hx0 G.2.2.2.2.2.2 (fun E t hE hz hk _ => ⟨Or.inl ⟨hE.1, (by simp [sA_spot, hA1, hg1, hE.2] <;> omega)⟩, gXx_of hX hS hz hk⟩) hS.2.2 (by decide) (by decide) (fun hA2 => ?_)
  obtain ⟨j2, hj2, rfl⟩ := gb_of (by omega) hA2
  have hg2 := gn_nI (show j2 < 2 ^ 31 by omega)
  refine lv_iload_n G.1 G.2.1 dX0_spot_8 rfl (lv_at hl 3 rfl) ?_
  refine gc_needT (vx_runS (As := [.int i3]) (rest := []) G.fix (mX0_needValue l hst i3) (va_cwS 1 G.2.2.2.2.2.1 gX0_spot_X0_needValue rfl rfl rfl (by decide +kernel) ⟨Nat.le_of_ble_eq_true rfl, Nat.le_of_ble_eq_true rfl⟩) ⟨gZ_blind, fun U hU hW => ⟨rfl, by show gZ _ U U.heap; rw [hU]; exact hX.2.2.2.none.moved hW⟩⟩ rfl rfl hl.1 rfl (lv_room (Nat.le_of_ble_eq_true rfl)) dX0_spot_9 ⟨Nat.le_of_ble_eq_true rfl, Nat.le_of_ble_eq_true rfl⟩) hx0 G.2.2.2.2.2.2 (fun E t hE hz hk _ => ⟨Or.inr (Or.inl ⟨hE.1, (by simp [sA_spot, hA1, hA2, hg1, hg2]), (by simp [sB_spot, hg1, hg2, hE.2] <;> omega)⟩), gXx_of hX hS hz hk⟩) hS.2.2 (by decide) (by decide) (fun hB3 => ?_)
  obtain ⟨j3, hj3, rfl⟩ := gb_of (by omega) hB3
  have hg3 := gn_nI (show j3 < 2 ^ 31 by omega)
  refine lv_aload_n G.1 G.2.1 dX0_spot_12 rfl (lv_at hl 0 rfl) ?_
  refine gx_get G hX (by decide +kernel) 13 (by decide) (by decide +kernel) rfl rfl rfl dX0_spot_13 ?_
  refine lv_iload_n G.1 G.2.1 dX0_spot_16 rfl (lv_at hl 1 rfl) ?_
  refine lv_iconst (v := nI 3) G.1 G.2.1 dX0_spot_17 (by decide) ?_
  refine gn_imul G dX0_spot_18 ?_
  refine lv_iload_n G.1 G.2.1 dX0_spot_19 rfl (lv_at hl 2 rfl) ?_
  refine gn_iadd G dX0_spot_20 ?_
  refine lv_iload_n G.1 G.2.1 dX0_spot_21 rfl (lv_at hl 3 rfl) ?_
  refine gx_swap (k := 13) (kp := 10) (len := 18) (F := S 13) (i := (j1 * 3) + j2) (v := j3) (S' := (gs S 13 (gu (S 13) ((j1 * 3) + j2) j3))) (tr' := tr) (rest := []) G.fix (mX0_swap l D (q 13) cI 18 (S 13) ((j1 * 3) + j2) j3 (by first | omega | assumption)) (va_cwS 3 G.2.2.2.2.2.1 gX0_spot_X0_swap rfl rfl rfl (by decide +kernel) ⟨Nat.le_of_ble_eq_true rfl, Nat.le_of_ble_eq_true rfl⟩) hX hS rfl (rfl) hl.1 rfl (Nat.le_of_ble_eq_true rfl) dX0_spot_22 (Nat.zero_le _) (Nat.zero_le _) (fun H1 locs1 hX hS => ?_)
  exact vx_ret (W.widen (k := 1) (n := 6) (Nat.zero_le _) (Nat.zero_le _) (W.iret G.1 G.2.1 G.2.2.1 (fun t ht hW => gQx_of hX hS ht ⟨(by simp [sA_spot, hA1, hA2, hg1, hg2, hg3]), (by simp [sB_spot, hB3, hg1, hg2, hg3]), rfl, (by show nI _ = nI _; simp only [sR_spot, hg1, hg2, hg3]), (by simp only [sN_spot, hg1, hg2, hg3]), (by simp only [sS_spot, hg1, hg2, hg3])⟩) hS.2.2 dX0_spot_25 G.2.2.2.2.2.2))
set_option maxRecDepth 100000 in
set_option maxHeartbeats 4000000 in
/-- mix -/
theorem mX0_mix (l : Launch) (hst : l.stackTraces = false) (D : va_G) (q : Nat → Nat) (cI : ClassId) (N : Nat → Nat) (S : Nat → Nat → Nat) (tr : Nat → Nat) (A : Nat → Prop) (hok : sp_ok N S) (hinv : sp_inv N S) (i1 i2 i3 : Int32) : vx_Met l yX0_mix wsX0_mix { frames := 7, cells := 1, slots := 6, locals := 102 } (va_Pc [.ref (q 0), .int i1, .int i2, .int i3] (fun U => xAt D q cI N S tr A U U.heap)) (gQx D q cI (fun r N2 S2 => sA_mix N S i1 i2 i3 = true ∧ sB_mix N S i1 i2 i3 = true ∧ sC_mix N S i1 i2 i3 = true ∧ r = nI (sR_mix N S i1 i2 i3) ∧ N2 = sN_mix N S i1 i2 i3 ∧ S2 = sS_mix N S i1 i2 i3) A) (gXx D q cI N S A (gE3 (sA_mix N S i1 i2 i3) (sB_mix N S i1 i2 i3) (sC_mix N S i1 i2 i3))) 1 6 A := by
  refine gc_vxmet [.ref (q 0), .int i1, .int i2, .int i3] (by decide) rfl (Nat.le_of_ble_eq_true rfl) rfl ?_
  intro p e s m below meth c ls G hx0 hl hX
  have hZ0 := hX.2.2.2
  have hS : va_S A s.heap s.heap [] := va_S.rf
  have hok9 := hok
  obtain ⟨⟨ok0, ok5⟩, ok1, ok2, ok3, ok4, ok6, ok7, ok8, ok12, ok13, ok14⟩ := hok9
  have hN := hinv.2.2.2.1
  have hN9 := hinv.2.2.1
  refine lv_iload_n G.1 G.2.1 dX0_mix_0 rfl (lv_at hl 1 rfl) ?_
  refine gc_needT (vx_runS (As := [.int i1]) (rest := []) G.fix (mX0_needInk l hst i1) (va_cwS 1 G.2.2.2.2.2.1 gX0_mix_X0_needInk rfl rfl rfl (by decide +kernel) ⟨Nat.le_of_ble_eq_true rfl, Nat.le_of_ble_eq_true rfl⟩) ⟨gZ_blind, fun U hU hW => ⟨rfl, by show gZ _ U U.heap; rw [hU]; exact hX.2.2.2.none.moved hW⟩⟩ rfl rfl hl.1 rfl (lv_room (Nat.le_of_ble_eq_true rfl)) dX0_mix_1 ⟨Nat.le_of_ble_eq_true rfl, Nat.le_of_ble_eq_true rfl⟩) hx0 G.2.2.2.2.2.2 (fun E t hE hz hk _ => ⟨Or.inl ⟨hE.1, (by simp [sA_mix, hE.2] <;> omega)⟩, gXx_of hX hS hz hk⟩) hS.2.2 (by decide) (by decide) (fun hA1 => ?_)
  obtain ⟨j1, hj1, rfl⟩ := gb_of (by omega) hA1
  have hg1 := gn_nI (show j1 < 2 ^ 31 by omega)
  refine lv_iload_n G.1 G.2.1 dX0_mix_4 rfl (lv_at hl 2 rfl) ?_
  refine gc_needT (vx_runS (As := [.int i2]) (rest := []) G.fix (mX0_needBand l hst i2) (va_cwS 1 G.2.2.2.2.2.1 gX0_mix_X0_needBand rfl rfl rfl (by decide +kernel) ⟨Nat.le_of_ble_eq_true rfl, Nat.le_of_ble_eq_true rfl⟩) ⟨gZ_blind, fun U hU hW => ⟨rfl, by show gZ _ U U.heap; rw [hU]; exact hX.2.2.2.none.moved hW⟩⟩ rfl rfl hl.1 rfl (lv_room (Nat.le_of_ble_eq_true rfl)) dX0_mix_5 ⟨Nat.le_of_ble_eq_true rfl, Nat.le_of_ble_eq_true rfl⟩) hx0 G.2.2.2.2.2.2 (fun E t hE hz hk _ => ⟨Or.inl ⟨hE.1, (by simp [sA_mix, hA1, hg1, hE.2] <;> omega)⟩, gXx_of hX hS hz hk⟩) hS.2.2 (by decide) (by decide) (fun hA2 => ?_)
  obtain ⟨j2, hj2, rfl⟩ := gb_of (by omega) hA2
  have hg2 := gn_nI (show j2 < 2 ^ 31 by omega)
  refine lv_iload_n G.1 G.2.1 dX0_mix_8 rfl (lv_at hl 3 rfl) ?_
  refine gc_needT (vx_runS (As := [.int i3]) (rest := []) G.fix (mX0_needValue l hst i3) (va_cwS 1 G.2.2.2.2.2.1 gX0_mix_X0_needValue rfl rfl rfl (by decide +kernel) ⟨Nat.le_of_ble_eq_true rfl, Nat.le_of_ble_eq_true rfl⟩) ⟨gZ_blind, fun U hU hW => ⟨rfl, by show gZ _ U U.heap; rw [hU]; exact hX.2.2.2.none.moved hW⟩⟩ rfl rfl hl.1 rfl (lv_room (Nat.le_of_ble_eq_true rfl)) dX0_mix_9 ⟨Nat.le_of_ble_eq_true rfl, Nat.le_of_ble_eq_true rfl⟩) hx0 G.2.2.2.2.2.2 (fun E t hE hz hk _ => ⟨Or.inr (Or.inl ⟨hE.1, (by simp [sA_mix, hA1, hA2, hg1, hg2]), (by simp [sB_mix, hg1, hg2, hE.2] <;> omega)⟩), gXx_of hX hS hz hk⟩) hS.2.2 (by decide) (by decide) (fun hB3 => ?_)
  obtain ⟨j3, hj3, rfl⟩ := gb_of (by omega) hB3
  have hg3 := gn_nI (show j3 < 2 ^ 31 by omega)
  refine lv_aload_n G.1 G.2.1 dX0_mix_12 rfl (lv_at hl 0 rfl) ?_
  refine gx_get G hX (by decide +kernel) 14 (by decide) (by decide +kernel) rfl rfl rfl dX0_mix_13 ?_
  refine lv_iload_n G.1 G.2.1 dX0_mix_16 rfl (lv_at hl 1 rfl) ?_
  refine lv_iconst (v := nI 3) G.1 G.2.1 dX0_mix_17 (by decide) ?_
  refine gn_imul G dX0_mix_18 ?_
  refine lv_iload_n G.1 G.2.1 dX0_mix_19 rfl (lv_at hl 2 rfl) ?_
  refine gn_iadd G dX0_mix_20 ?_
  refine lv_iload_n G.1 G.2.1 dX0_mix_21 rfl (lv_at hl 3 rfl) ?_
  refine gx_swap (k := 14) (kp := 11) (len := 9) (F := S 14) (i := (j1 * 3) + j2) (v := j3) (S' := (gs S 14 (gu (S 14) ((j1 * 3) + j2) j3))) (tr' := tr) (rest := []) G.fix (mX0_swap l D (q 14) cI 9 (S 14) ((j1 * 3) + j2) j3 (by first | omega | assumption)) (va_cwS 3 G.2.2.2.2.2.1 gX0_mix_X0_swap rfl rfl rfl (by decide +kernel) ⟨Nat.le_of_ble_eq_true rfl, Nat.le_of_ble_eq_true rfl⟩) hX hS rfl (rfl) hl.1 rfl (Nat.le_of_ble_eq_true rfl) dX0_mix_22 (Nat.zero_le _) (Nat.zero_le _) (fun H1 locs1 hX hS => ?_)
  exact vx_ret (W.widen (k := 1) (n := 6) (Nat.zero_le _) (Nat.zero_le _) (W.iret G.1 G.2.1 G.2.2.1 (fun t ht hW => gQx_of hX hS ht ⟨(by simp [sA_mix, hA1, hA2, hg1, hg2, hg3]), (by simp [sB_mix, hB3, hg1, hg2, hg3]), rfl, (by show nI _ = nI _; simp only [sR_mix, hg1, hg2, hg3]), (by simp only [sN_mix, hg1, hg2, hg3]), (by simp only [sS_mix, hg1, hg2, hg3])⟩) hS.2.2 dX0_mix_25 G.2.2.2.2.2.2))
set_option maxRecDepth 100000 in
set_option maxHeartbeats 4000000 in
/-- bend -/
theorem mX0_bend (l : Launch) (hst : l.stackTraces = false) (D : va_G) (q : Nat → Nat) (cI : ClassId) (N : Nat → Nat) (S : Nat → Nat → Nat) (tr : Nat → Nat) (A : Nat → Prop) (hok : sp_ok N S) (hinv : sp_inv N S) (i1 i2 i3 i4 : Int32) : vx_Met l yX0_bend wsX0_bend { frames := 7, cells := 1, slots := 6, locals := 103 } (va_Pc [.ref (q 0), .int i1, .int i2, .int i3, .int i4] (fun U => xAt D q cI N S tr A U U.heap)) (gQx D q cI (fun r N2 S2 => sA_bend N S i1 i2 i3 i4 = true ∧ sB_bend N S i1 i2 i3 i4 = true ∧ sC_bend N S i1 i2 i3 i4 = true ∧ r = nI (sR_bend N S i1 i2 i3 i4) ∧ N2 = sN_bend N S i1 i2 i3 i4 ∧ S2 = sS_bend N S i1 i2 i3 i4) A) (gXx D q cI N S A (gE3 (sA_bend N S i1 i2 i3 i4) (sB_bend N S i1 i2 i3 i4) (sC_bend N S i1 i2 i3 i4))) 1 6 A := by
  refine gc_vxmet [.ref (q 0), .int i1, .int i2, .int i3, .int i4] (by decide) rfl (Nat.le_of_ble_eq_true rfl) rfl ?_
  intro p e s m below meth c ls G hx0 hl hX
  have hZ0 := hX.2.2.2
  have hS : va_S A s.heap s.heap [] := va_S.rf
  have hok9 := hok
  obtain ⟨⟨ok0, ok5⟩, ok1, ok2, ok3, ok4, ok6, ok7, ok8, ok12, ok13, ok14⟩ := hok9
  have hN := hinv.2.2.2.1
  have hN9 := hinv.2.2.1
  refine lv_aload_n G.1 G.2.1 dX0_bend_0 rfl (lv_at hl 0 rfl) ?_
  refine lv_iload_n G.1 G.2.1 dX0_bend_1 rfl (lv_at hl 1 rfl) ?_
  refine gc_needT (vx_runV (As := [.int i1]) (rest := []) G.fix (mX0_needProfile l hst D q cI N S tr A hok i1) (cwV 1 G.2.2.2.2.2.1 gX0_bend_X0_needProfile rfl rfl rfl (by decide +kernel) ⟨Nat.le_of_ble_eq_true rfl, Nat.le_of_ble_eq_true rfl⟩) ⟨xAt_blind, va_recv hX.2.1 hX.1 (ci := 0) (q0 := 0) rfl rfl, fun U hU hW => ⟨rfl, by show xAt _ _ _ _ _ _ _ U U.heap; rw [hU]; exact hX.moved hW⟩⟩ rfl rfl hl.1 rfl (lv_room (Nat.le_of_ble_eq_true rfl)) dX0_bend_2 ⟨Nat.le_of_ble_eq_true rfl, Nat.le_of_ble_eq_true rfl⟩) hx0 G.2.2.2.2.2.2 (fun E t hE hz hk _ => ⟨Or.inl ⟨hE.1, (by simp [sA_bend, hE.2] <;> omega)⟩, gXx_of hX hS hz hk⟩) hS.2.2 (by decide) (by decide) (fun hA1 => ?_)
  obtain ⟨j1, hj1, rfl⟩ := gb_of (by omega) hA1
  have hg1 := gn_nI (show j1 < 2 ^ 31 by omega)
  refine lv_iload_n G.1 G.2.1 dX0_bend_5 rfl (lv_at hl 2 rfl) ?_
  refine gc_needT (vx_runS (As := [.int i2]) (rest := []) G.fix (mX0_needBand l hst i2) (va_cwS 1 G.2.2.2.2.2.1 gX0_bend_X0_needBand rfl rfl rfl (by decide +kernel) ⟨Nat.le_of_ble_eq_true rfl, Nat.le_of_ble_eq_true rfl⟩) ⟨gZ_blind, fun U hU hW => ⟨rfl, by show gZ _ U U.heap; rw [hU]; exact hX.2.2.2.none.moved hW⟩⟩ rfl rfl hl.1 rfl (lv_room (Nat.le_of_ble_eq_true rfl)) dX0_bend_6 ⟨Nat.le_of_ble_eq_true rfl, Nat.le_of_ble_eq_true rfl⟩) hx0 G.2.2.2.2.2.2 (fun E t hE hz hk _ => ⟨Or.inl ⟨hE.1, (by simp [sA_bend, hA1, hg1, hE.2] <;> omega)⟩, gXx_of hX hS hz hk⟩) hS.2.2 (by decide) (by decide) (fun hA2 => ?_)
  obtain ⟨j2, hj2, rfl⟩ := gb_of (by omega) hA2
  have hg2 := gn_nI (show j2 < 2 ^ 31 by omega)
  refine lv_iload_n G.1 G.2.1 dX0_bend_9 rfl (lv_at hl 3 rfl) ?_
  refine lv_if_lt (tgt := 18) G.1 G.2.1 dX0_bend_10 (by decide) (fun h_10 => ?_) (fun h_10 => ?_)
  · exact gx_throw (text := "no such place") G hx0 hst (by decide +kernel) (by decide +kernel) (by decide +kernel) (by decide +kernel) gx_not_IO gx_good_IO (by decide +kernel) hZ0 hS hl.1 dX0_bend_18 dX0_bend_21 dX0_bend_22 dX0_bend_24 dX0_bend_27 (Nat.le_of_ble_eq_true rfl) (Nat.le_of_ble_eq_true rfl) (Nat.le_of_ble_eq_true rfl) (Nat.le_of_ble_eq_true rfl) (fun t _ hz hk => ⟨Or.inl ⟨rfl, by have h9 : gb i3 5 = false := (by first | exact gb_neg (by assumption) | exact gb_nlt (by decide) (by assumption)); simp [sA_bend, h9]⟩, gXx_of hX hS hz hk⟩) hS.2.2 (by decide) (by decide)
  · refine lv_iload_n G.1 G.2.1 dX0_bend_13 rfl (lv_at hl 3 rfl) ?_
    refine lv_iconst (v := nI 5) G.1 G.2.1 dX0_bend_14 (by decide) ?_
    refine lv_icmp_lt (tgt := 28) G.1 G.2.1 dX0_bend_15 (by decide) (fun h_15 => ?_) (fun h_15 => ?_)
    · have hA3 : gb i3 5 = true := gb_in (by decide) h_10 h_15
      obtain ⟨j3, hj3, rfl⟩ := gb_of (by omega) hA3
      have hg3 := gn_nI (show j3 < 2 ^ 31 by omega)
      refine lv_iload G.1 G.2.1 dX0_bend_28 (lv_at hl 4 rfl) ?_
      refine gc_needT (vx_runS (As := [.int i4]) (rest := []) G.fix (mX0_needValue l hst i4) (va_cwS 1 G.2.2.2.2.2.1 gX0_bend_X0_needValue rfl rfl rfl (by decide +kernel) ⟨Nat.le_of_ble_eq_true rfl, Nat.le_of_ble_eq_true rfl⟩) ⟨gZ_blind, fun U hU hW => ⟨rfl, by show gZ _ U U.heap; rw [hU]; exact hX.2.2.2.none.moved hW⟩⟩ rfl rfl hl.1 rfl (lv_room (Nat.le_of_ble_eq_true rfl)) dX0_bend_30 ⟨Nat.le_of_ble_eq_true rfl, Nat.le_of_ble_eq_true rfl⟩) hx0 G.2.2.2.2.2.2 (fun E t hE hz hk _ => ⟨Or.inr (Or.inl ⟨hE.1, (by simp [sA_bend, hA1, hA2, hA3, hg1, hg2, hg3]), (by simp [sB_bend, hg1, hg2, hg3, hE.2] <;> omega)⟩), gXx_of hX hS hz hk⟩) hS.2.2 (by decide) (by decide) (fun hB4 => ?_)
      obtain ⟨j4, hj4, rfl⟩ := gb_of (by omega) hB4
      have hg4 := gn_nI (show j4 < 2 ^ 31 by omega)
      refine lv_aload_n G.1 G.2.1 dX0_bend_33 rfl (lv_at hl 0 rfl) ?_
      refine lv_iload_n G.1 G.2.1 dX0_bend_34 rfl (lv_at hl 1 rfl) ?_
      refine gc_needT (vx_runV (As := [.int (nI j1)]) (rest := []) G.fix (mX0_needFreeProfile l hst D q cI N S tr A hok hN j1 (by omega)) (cwV 1 G.2.2.2.2.2.1 gX0_bend_X0_needFreeProfile rfl rfl rfl (by decide +kernel) ⟨Nat.le_of_ble_eq_true rfl, Nat.le_of_ble_eq_true rfl⟩) ⟨xAt_blind, va_recv hX.2.1 hX.1 (ci := 0) (q0 := 0) rfl rfl, fun U hU hW => ⟨rfl, by show xAt _ _ _ _ _ _ _ U U.heap; rw [hU]; exact hX.moved hW⟩⟩ rfl rfl hl.1 rfl (lv_room (Nat.le_of_ble_eq_true rfl)) dX0_bend_35 ⟨Nat.le_of_ble_eq_true rfl, Nat.le_of_ble_eq_true rfl⟩) hx0 G.2.2.2.2.2.2 (fun E t hE hz hk _ => ⟨Or.inr (Or.inr ⟨hE.1, (by simp [sA_bend, hA1, hA2, hA3, hg1, hg2, hg3, hg4]), (by simp [sB_bend, hB4, hg1, hg2, hg3, hg4]), (by simp [sC_bend, hg1, hg2, hg3, hg4, hE.2] <;> omega)⟩), gXx_of hX hS hz hk⟩) hS.2.2 (by decide) (by decide) (fun hC1 => ?_)
      refine lv_aload_n G.1 G.2.1 dX0_bend_38 rfl (lv_at hl 0 rfl) ?_
      refine gx_get G hX (by decide +kernel) 1 (by decide) (by decide +kernel) rfl rfl rfl dX0_bend_39 ?_
      refine lv_iload_n G.1 G.2.1 dX0_bend_42 rfl (lv_at hl 1 rfl) ?_
      refine lv_iconst (v := nI 3) G.1 G.2.1 dX0_bend_43 (by decide) ?_
      refine gn_imul G dX0_bend_44 ?_
      refine lv_iload_n G.1 G.2.1 dX0_bend_45 rfl (lv_at hl 2 rfl) ?_
      refine gn_iadd G dX0_bend_46 ?_
      refine lv_iconst (v := nI 5) G.1 G.2.1 dX0_bend_47 (by decide) ?_
      refine gn_imul G dX0_bend_48 ?_
      refine lv_iload_n G.1 G.2.1 dX0_bend_49 rfl (lv_at hl 3 rfl) ?_
      refine gn_iadd G dX0_bend_50 ?_
      refine lv_iload G.1 G.2.1 dX0_bend_51 (lv_at hl 4 rfl) ?_
      refine gx_swap (k := 1) (kp := 1) (len := 120) (F := S 1) (i := (((j1 * 3) + j2) * 5) + j3) (v := j4) (S' := (gs S 1 (gu (S 1) ((((j1 * 3) + j2) * 5) + j3) j4))) (tr' := tr) (rest := []) G.fix (mX0_swap l D (q 1) cI 120 (S 1) ((((j1 * 3) + j2) * 5) + j3) j4 (by first | omega | assumption)) (va_cwS 3 G.2.2.2.2.2.1 gX0_bend_X0_swap rfl rfl rfl (by decide +kernel) ⟨Nat.le_of_ble_eq_true rfl, Nat.le_of_ble_eq_true rfl⟩) hX hS rfl (rfl) hl.1 rfl (Nat.le_of_ble_eq_true rfl) dX0_bend_53 (Nat.zero_le _) (Nat.zero_le _) (fun H1 locs1 hX hS => ?_)
      exact vx_ret (W.widen (k := 1) (n := 6) (Nat.zero_le _) (Nat.zero_le _) (W.iret G.1 G.2.1 G.2.2.1 (fun t ht hW => gQx_of hX hS ht ⟨(by simp [sA_bend, hA1, hA2, hA3, hg1, hg2, hg3, hg4]), (by simp [sB_bend, hB4, hg1, hg2, hg3, hg4]), (by simp [sC_bend, hC1, hg1, hg2, hg3, hg4]), (by show nI _ = nI _; simp only [sR_bend, hg1, hg2, hg3, hg4]), (by simp only [sN_bend, hg1, hg2, hg3, hg4]), (by simp only [sS_bend, hg1, hg2, hg3, hg4])⟩) hS.2.2 dX0_bend_56 G.2.2.2.2.2.2))
    · exact gx_throw (text := "no such place") G hx0 hst (by decide +kernel) (by decide +kernel) (by decide +kernel) (by decide +kernel) gx_not_IO gx_good_IO (by decide +kernel) hZ0 hS hl.1 dX0_bend_18 dX0_bend_21 dX0_bend_22 dX0_bend_24 dX0_bend_27 (Nat.le_of_ble_eq_true rfl) (Nat.le_of_ble_eq_true rfl) (Nat.le_of_ble_eq_true rfl) (Nat.le_of_ble_eq_true rfl) (fun t _ hz hk => ⟨Or.inl ⟨rfl, by have h9 : gb i3 5 = false := (by first | exact gb_neg (by assumption) | exact gb_nlt (by decide) (by assumption)); simp [sA_bend, h9]⟩, gXx_of hX hS hz hk⟩) hS.2.2 (by decide) (by decide)
set_option maxRecDepth 100000 in
set_option maxHeartbeats 4000000 in
/-- reach -/
theorem mX0_reach (l : Launch) (hst : l.stackTraces = false) (D : va_G) (q : Nat → Nat) (cI : ClassId) (N : Nat → Nat) (S : Nat → Nat → Nat) (tr : Nat → Nat) (A : Nat → Prop) (hok : sp_ok N S) (hinv : sp_inv N S) (i1 i2 i3 i4 : Int32) : vx_Met l yX0_reach wsX0_reach { frames := 7, cells := 1, slots := 6, locals := 103 } (va_Pc [.ref (q 0), .int i1, .int i2, .int i3, .int i4] (fun U => xAt D q cI N S tr A U U.heap)) (gQx D q cI (fun r N2 S2 => sA_reach N S i1 i2 i3 i4 = true ∧ sB_reach N S i1 i2 i3 i4 = true ∧ sC_reach N S i1 i2 i3 i4 = true ∧ r = nI (sR_reach N S i1 i2 i3 i4) ∧ N2 = sN_reach N S i1 i2 i3 i4 ∧ S2 = sS_reach N S i1 i2 i3 i4) A) (gXx D q cI N S A (gE3 (sA_reach N S i1 i2 i3 i4) (sB_reach N S i1 i2 i3 i4) (sC_reach N S i1 i2 i3 i4))) 1 6 A := by
  refine gc_vxmet [.ref (q 0), .int i1, .int i2, .int i3, .int i4] (by decide) rfl (Nat.le_of_ble_eq_true rfl) rfl ?_
  intro p e s m below meth c ls G hx0 hl hX
  have hZ0 := hX.2.2.2
  have hS : va_S A s.heap s.heap [] := va_S.rf
  have hok9 := hok
  obtain ⟨⟨ok0, ok5⟩, ok1, ok2, ok3, ok4, ok6, ok7, ok8, ok12, ok13, ok14⟩ := hok9
  have hN := hinv.2.2.2.1
  have hN9 := hinv.2.2.1
  refine lv_aload_n G.1 G.2.1 dX0_reach_0 rfl (lv_at hl 0 rfl) ?_
  refine lv_iload_n G.1 G.2.1 dX0_reach_1 rfl (lv_at hl 1 rfl) ?_
  refine gc_needT (vx_runV (As := [.int i1]) (rest := []) G.fix (mX0_needProfile l hst D q cI N S tr A hok i1) (cwV 1 G.2.2.2.2.2.1 gX0_reach_X0_needProfile rfl rfl rfl (by decide +kernel) ⟨Nat.le_of_ble_eq_true rfl, Nat.le_of_ble_eq_true rfl⟩) ⟨xAt_blind, va_recv hX.2.1 hX.1 (ci := 0) (q0 := 0) rfl rfl, fun U hU hW => ⟨rfl, by show xAt _ _ _ _ _ _ _ U U.heap; rw [hU]; exact hX.moved hW⟩⟩ rfl rfl hl.1 rfl (lv_room (Nat.le_of_ble_eq_true rfl)) dX0_reach_2 ⟨Nat.le_of_ble_eq_true rfl, Nat.le_of_ble_eq_true rfl⟩) hx0 G.2.2.2.2.2.2 (fun E t hE hz hk _ => ⟨Or.inl ⟨hE.1, (by simp [sA_reach, hE.2] <;> omega)⟩, gXx_of hX hS hz hk⟩) hS.2.2 (by decide) (by decide) (fun hA1 => ?_)
  obtain ⟨j1, hj1, rfl⟩ := gb_of (by omega) hA1
  have hg1 := gn_nI (show j1 < 2 ^ 31 by omega)
  refine lv_iload_n G.1 G.2.1 dX0_reach_5 rfl (lv_at hl 2 rfl) ?_
  refine gc_needT (vx_runS (As := [.int i2]) (rest := []) G.fix (mX0_needBand l hst i2) (va_cwS 1 G.2.2.2.2.2.1 gX0_reach_X0_needBand rfl rfl rfl (by decide +kernel) ⟨Nat.le_of_ble_eq_true rfl, Nat.le_of_ble_eq_true rfl⟩) ⟨gZ_blind, fun U hU hW => ⟨rfl, by show gZ _ U U.heap; rw [hU]; exact hX.2.2.2.none.moved hW⟩⟩ rfl rfl hl.1 rfl (lv_room (Nat.le_of_ble_eq_true rfl)) dX0_reach_6 ⟨Nat.le_of_ble_eq_true rfl, Nat.le_of_ble_eq_true rfl⟩) hx0 G.2.2.2.2.2.2 (fun E t hE hz hk _ => ⟨Or.inl ⟨hE.1, (by simp [sA_reach, hA1, hg1, hE.2] <;> omega)⟩, gXx_of hX hS hz hk⟩) hS.2.2 (by decide) (by decide) (fun hA2 => ?_)
  obtain ⟨j2, hj2, rfl⟩ := gb_of (by omega) hA2
  have hg2 := gn_nI (show j2 < 2 ^ 31 by omega)
  refine lv_iload_n G.1 G.2.1 dX0_reach_9 rfl (lv_at hl 3 rfl) ?_
  refine gc_needT (vx_runS (As := [.int i3]) (rest := []) G.fix (mX0_needValue l hst i3) (va_cwS 1 G.2.2.2.2.2.1 gX0_reach_X0_needValue rfl rfl rfl (by decide +kernel) ⟨Nat.le_of_ble_eq_true rfl, Nat.le_of_ble_eq_true rfl⟩) ⟨gZ_blind, fun U hU hW => ⟨rfl, by show gZ _ U U.heap; rw [hU]; exact hX.2.2.2.none.moved hW⟩⟩ rfl rfl hl.1 rfl (lv_room (Nat.le_of_ble_eq_true rfl)) dX0_reach_10 ⟨Nat.le_of_ble_eq_true rfl, Nat.le_of_ble_eq_true rfl⟩) hx0 G.2.2.2.2.2.2 (fun E t hE hz hk _ => ⟨Or.inr (Or.inl ⟨hE.1, (by simp [sA_reach, hA1, hA2, hg1, hg2]), (by simp [sB_reach, hg1, hg2, hE.2] <;> omega)⟩), gXx_of hX hS hz hk⟩) hS.2.2 (by decide) (by decide) (fun hB3 => ?_)
  obtain ⟨j3, hj3, rfl⟩ := gb_of (by omega) hB3
  have hg3 := gn_nI (show j3 < 2 ^ 31 by omega)
  refine lv_iload G.1 G.2.1 dX0_reach_13 (lv_at hl 4 rfl) ?_
  refine gc_needT (vx_runS (As := [.int i4]) (rest := []) G.fix (mX0_needValue l hst i4) (va_cwS 1 G.2.2.2.2.2.1 gX0_reach_X0_needValue rfl rfl rfl (by decide +kernel) ⟨Nat.le_of_ble_eq_true rfl, Nat.le_of_ble_eq_true rfl⟩) ⟨gZ_blind, fun U hU hW => ⟨rfl, by show gZ _ U U.heap; rw [hU]; exact hX.2.2.2.none.moved hW⟩⟩ rfl rfl hl.1 rfl (lv_room (Nat.le_of_ble_eq_true rfl)) dX0_reach_15 ⟨Nat.le_of_ble_eq_true rfl, Nat.le_of_ble_eq_true rfl⟩) hx0 G.2.2.2.2.2.2 (fun E t hE hz hk _ => ⟨Or.inr (Or.inl ⟨hE.1, (by simp [sA_reach, hA1, hA2, hg1, hg2, hg3]), (by simp [sB_reach, hB3, hg1, hg2, hg3, hE.2] <;> omega)⟩), gXx_of hX hS hz hk⟩) hS.2.2 (by decide) (by decide) (fun hB4 => ?_)
  obtain ⟨j4, hj4, rfl⟩ := gb_of (by omega) hB4
  have hg4 := gn_nI (show j4 < 2 ^ 31 by omega)
  refine lv_iload G.1 G.2.1 dX0_reach_18 (lv_at hl 4 rfl) ?_
  refine lv_iload_n G.1 G.2.1 dX0_reach_20 rfl (lv_at hl 3 rfl) ?_
  refine gn_ge G (by omega) (by omega) (tgt := 34) dX0_reach_21 (by decide) (fun h_21 => ?_) (fun h_21 => ?_)
  · refine lv_aload_n G.1 G.2.1 dX0_reach_34 rfl (lv_at hl 0 rfl) ?_
    refine lv_iload_n G.1 G.2.1 dX0_reach_35 rfl (lv_at hl 1 rfl) ?_
    refine gc_needT (vx_runV (As := [.int (nI j1)]) (rest := []) G.fix (mX0_needFreeProfile l hst D q cI N S tr A hok hN j1 (by omega)) (cwV 1 G.2.2.2.2.2.1 gX0_reach_X0_needFreeProfile rfl rfl rfl (by decide +kernel) ⟨Nat.le_of_ble_eq_true rfl, Nat.le_of_ble_eq_true rfl⟩) ⟨xAt_blind, va_recv hX.2.1 hX.1 (ci := 0) (q0 := 0) rfl rfl, fun U hU hW => ⟨rfl, by show xAt _ _ _ _ _ _ _ U U.heap; rw [hU]; exact hX.moved hW⟩⟩ rfl rfl hl.1 rfl (lv_room (Nat.le_of_ble_eq_true rfl)) dX0_reach_36 ⟨Nat.le_of_ble_eq_true rfl, Nat.le_of_ble_eq_true rfl⟩) hx0 G.2.2.2.2.2.2 (fun E t hE hz hk _ => ⟨Or.inr (Or.inr ⟨hE.1, (by simp [sA_reach, hA1, hA2, hg1, hg2, hg3, hg4]), (by simp [sB_reach, hB3, hB4, h_21, hg1, hg2, hg3, hg4]), (by simp [sC_reach, hg1, hg2, hg3, hg4, hE.2] <;> omega)⟩), gXx_of hX hS hz hk⟩) hS.2.2 (by decide) (by decide) (fun hC1 => ?_)
    refine lv_iload_n G.1 G.2.1 dX0_reach_39 rfl (lv_at hl 1 rfl) ?_
    refine lv_iconst (v := nI 3) G.1 G.2.1 dX0_reach_40 (by decide) ?_
    refine gn_imul G dX0_reach_41 ?_
    refine lv_iload_n G.1 G.2.1 dX0_reach_42 rfl (lv_at hl 2 rfl) ?_
    refine gn_iadd G dX0_reach_43 ?_
    refine lv_istore (lv' := [(5, .int (nI ((j1 * 3) + j2))), (0, .ref (q 0)), (1, .int (nI j1)), (2, .int (nI j2)), (3, .int (nI j3)), (4, .int (nI j4))]) G.1 G.2.1 dX0_reach_44 hl (by decide) rfl (fun ls hl => ?_)
    have hlt := ok2 (j1 * 3 + j2)
    refine lv_aload_n G.1 G.2.1 dX0_reach_46 rfl (lv_at hl 1 rfl) ?_
    refine gx_get G hX (by decide +kernel) 2 (by decide) (by decide +kernel) rfl rfl rfl dX0_reach_47 ?_
    refine lv_iload G.1 G.2.1 dX0_reach_50 (lv_at hl 0 rfl) ?_
    refine lv_iload_n G.1 G.2.1 dX0_reach_52 rfl (lv_at hl 4 rfl) ?_
    refine gx_swap (k := 2) (kp := 2) (len := 24) (F := S 2) (i := (j1 * 3) + j2) (v := j3) (S' := (gs S 2 (gu (S 2) ((j1 * 3) + j2) j3))) (tr' := tr) (rest := []) G.fix (mX0_swap l D (q 2) cI 24 (S 2) ((j1 * 3) + j2) j3 (by first | omega | assumption)) (va_cwS 3 G.2.2.2.2.2.1 gX0_reach_X0_swap rfl rfl rfl (by decide +kernel) ⟨Nat.le_of_ble_eq_true rfl, Nat.le_of_ble_eq_true rfl⟩) hX hS rfl (rfl) hl.1 rfl (Nat.le_of_ble_eq_true rfl) dX0_reach_53 (Nat.zero_le _) (Nat.zero_le _) (fun H1 locs1 hX hS => ?_)
    refine lv_istore (lv' := [(6, .int (nI (S 2 ((j1 * 3) + j2)))), (5, .int (nI ((j1 * 3) + j2))), (0, .ref (q 0)), (1, .int (nI j1)), (2, .int (nI j2)), (3, .int (nI j3)), (4, .int (nI j4))]) G.1 G.2.1 dX0_reach_56 hl (by decide) rfl (fun ls hl => ?_)
    refine lv_aload_n G.1 G.2.1 dX0_reach_58 rfl (lv_at hl 2 rfl) ?_
    refine gx_get G hX (by decide +kernel) 3 (by decide) (by decide +kernel) rfl rfl rfl dX0_reach_59 ?_
    refine lv_iload G.1 G.2.1 dX0_reach_62 (lv_at hl 1 rfl) ?_
    refine lv_iload G.1 G.2.1 dX0_reach_64 (lv_at hl 6 rfl) ?_
    refine gx_swap (k := 3) (kp := 3) (len := 24) (F := S 3) (i := (j1 * 3) + j2) (v := j4) (S' := (gs (gs S 2 (gu (S 2) ((j1 * 3) + j2) j3)) 3 (gu (S 3) ((j1 * 3) + j2) j4))) (tr' := tr) (rest := []) G.fix (mX0_swap l D (q 3) cI 24 (S 3) ((j1 * 3) + j2) j4 (by first | omega | assumption)) (va_cwS 3 G.2.2.2.2.2.1 gX0_reach_X0_swap rfl rfl rfl (by decide +kernel) ⟨Nat.le_of_ble_eq_true rfl, Nat.le_of_ble_eq_true rfl⟩) hX hS rfl (rfl) hl.1 rfl (Nat.le_of_ble_eq_true rfl) dX0_reach_66 (Nat.zero_le _) (Nat.zero_le _) (fun H1 locs1 hX hS => ?_)
    refine lv_istore (lv' := [(7, .int (nI (S 3 ((j1 * 3) + j2)))), (6, .int (nI (S 2 ((j1 * 3) + j2)))), (5, .int (nI ((j1 * 3) + j2))), (0, .ref (q 0)), (1, .int (nI j1)), (2, .int (nI j2)), (3, .int (nI j3)), (4, .int (nI j4))]) G.1 G.2.1 dX0_reach_69 hl (by decide) rfl (fun ls hl => ?_)
    refine lv_iload G.1 G.2.1 dX0_reach_71 (lv_at hl 0 rfl) ?_
    refine lv_iload G.1 G.2.1 dX0_reach_73 (lv_at hl 1 rfl) ?_
    refine gn_isub G dX0_reach_75 (by omega) ?_
    refine lv_iconst (v := nI 1) G.1 G.2.1 dX0_reach_76 (by decide) ?_
    refine gn_iadd G dX0_reach_77 ?_
    exact vx_ret (W.widen (k := 1) (n := 6) (Nat.zero_le _) (Nat.zero_le _) (W.iret G.1 G.2.1 G.2.2.1 (fun t ht hW => gQx_of hX hS ht ⟨(by simp [sA_reach, hA1, hA2, hg1, hg2, hg3, hg4]), (by simp [sB_reach, hB3, hB4, h_21, hg1, hg2, hg3, hg4]), (by simp [sC_reach, hC1, hg1, hg2, hg3, hg4]), (by show nI _ = nI _; simp only [sR_reach, hg1, hg2, hg3, hg4]), (by simp only [sN_reach, hg1, hg2, hg3, hg4]), (by simp only [sS_reach, hg1, hg2, hg3, hg4])⟩) hS.2.2 dX0_reach_78 G.2.2.2.2.2.2))
  · exact gx_throw (text := "the greatest is below the least") G hx0 hst (by decide +kernel) (by decide +kernel) (by decide +kernel) (by decide +kernel) gx_not_IA gx_good_IA (by decide +kernel) hZ0 hS hl.1 dX0_reach_24 dX0_reach_27 dX0_reach_28 dX0_reach_30 dX0_reach_33 (Nat.le_of_ble_eq_true rfl) (Nat.le_of_ble_eq_true rfl) (Nat.le_of_ble_eq_true rfl) (Nat.le_of_ble_eq_true rfl) (fun t _ hz hk => ⟨Or.inr (Or.inl ⟨rfl, (by simp [sA_reach, hA1, hA2, hg1, hg2, hg3, hg4]), by simp [sB_reach, hg3, hg4]; omega⟩), gXx_of hX hS hz hk⟩) hS.2.2 (by decide) (by decide)
set_option maxRecDepth 100000 in
set_option maxHeartbeats 4000000 in
/-- way -/
theorem mX0_way (l : Launch) (hst : l.stackTraces = false) (D : va_G) (q : Nat → Nat) (cI : ClassId) (N : Nat → Nat) (S : Nat → Nat → Nat) (tr : Nat → Nat) (A : Nat → Prop) (hok : sp_ok N S) (hinv : sp_inv N S) (i1 i2 : Int32) : vx_Met l yX0_way wsX0_way { frames := 7, cells := 1, slots := 6, locals := 103 } (va_Pc [.ref (q 0), .int i1, .int i2] (fun U => xAt D q cI N S tr A U U.heap)) (gQx D q cI (fun r N2 S2 => sA_way N S i1 i2 = true ∧ sB_way N S i1 i2 = true ∧ sC_way N S i1 i2 = true ∧ r = nI (sR_way N S i1 i2) ∧ N2 = sN_way N S i1 i2 ∧ S2 = sS_way N S i1 i2) A) (gXx D q cI N S A (gE3 (sA_way N S i1 i2) (sB_way N S i1 i2) (sC_way N S i1 i2))) 1 6 A := by
  refine gc_vxmet [.ref (q 0), .int i1, .int i2] (by decide) rfl (Nat.le_of_ble_eq_true rfl) rfl ?_
  intro p e s m below meth c ls G hx0 hl hX
  have hZ0 := hX.2.2.2
  have hS : va_S A s.heap s.heap [] := va_S.rf
  have hok9 := hok
  obtain ⟨⟨ok0, ok5⟩, ok1, ok2, ok3, ok4, ok6, ok7, ok8, ok12, ok13, ok14⟩ := hok9
  have hN := hinv.2.2.2.1
  have hN9 := hinv.2.2.1
  refine lv_aload_n G.1 G.2.1 dX0_way_0 rfl (lv_at hl 0 rfl) ?_
  refine lv_iload_n G.1 G.2.1 dX0_way_1 rfl (lv_at hl 1 rfl) ?_
  refine gc_needT (vx_runV (As := [.int i1]) (rest := []) G.fix (mX0_needProfile l hst D q cI N S tr A hok i1) (cwV 1 G.2.2.2.2.2.1 gX0_way_X0_needProfile rfl rfl rfl (by decide +kernel) ⟨Nat.le_of_ble_eq_true rfl, Nat.le_of_ble_eq_true rfl⟩) ⟨xAt_blind, va_recv hX.2.1 hX.1 (ci := 0) (q0 := 0) rfl rfl, fun U hU hW => ⟨rfl, by show xAt _ _ _ _ _ _ _ U U.heap; rw [hU]; exact hX.moved hW⟩⟩ rfl rfl hl.1 rfl (lv_room (Nat.le_of_ble_eq_true rfl)) dX0_way_2 ⟨Nat.le_of_ble_eq_true rfl, Nat.le_of_ble_eq_true rfl⟩) hx0 G.2.2.2.2.2.2 (fun E t hE hz hk _ => ⟨Or.inl ⟨hE.1, (by simp [sA_way, hE.2] <;> omega)⟩, gXx_of hX hS hz hk⟩) hS.2.2 (by decide) (by decide) (fun hA1 => ?_)
  obtain ⟨j1, hj1, rfl⟩ := gb_of (by omega) hA1
  have hg1 := gn_nI (show j1 < 2 ^ 31 by omega)
  refine lv_iload_n G.1 G.2.1 dX0_way_5 rfl (lv_at hl 2 rfl) ?_
  refine lv_if_eq (tgt := 29) G.1 G.2.1 dX0_way_6 (by decide) (fun h_6 => ?_) (fun h_6 => ?_)
  · have hB2 : gb i2 3 = true := by first | exact gb_is3 (Or.inl (by assumption)) | exact gb_is3 (Or.inr (Or.inl (by assumption))) | exact gb_is3 (Or.inr (Or.inr (by assumption)))
    obtain ⟨j2, hj2, rfl⟩ := gb_of (by omega) hB2
    have hg2 := gn_nI (show j2 < 2 ^ 31 by omega)
    refine lv_aload_n G.1 G.2.1 dX0_way_29 rfl (lv_at hl 0 rfl) ?_
    refine lv_iload_n G.1 G.2.1 dX0_way_30 rfl (lv_at hl 1 rfl) ?_
    refine gc_needT (vx_runV (As := [.int (nI j1)]) (rest := []) G.fix (mX0_needFreeProfile l hst D q cI N S tr A hok hN j1 (by omega)) (cwV 1 G.2.2.2.2.2.1 gX0_way_X0_needFreeProfile rfl rfl rfl (by decide +kernel) ⟨Nat.le_of_ble_eq_true rfl, Nat.le_of_ble_eq_true rfl⟩) ⟨xAt_blind, va_recv hX.2.1 hX.1 (ci := 0) (q0 := 0) rfl rfl, fun U hU hW => ⟨rfl, by show xAt _ _ _ _ _ _ _ U U.heap; rw [hU]; exact hX.moved hW⟩⟩ rfl rfl hl.1 rfl (lv_room (Nat.le_of_ble_eq_true rfl)) dX0_way_31 ⟨Nat.le_of_ble_eq_true rfl, Nat.le_of_ble_eq_true rfl⟩) hx0 G.2.2.2.2.2.2 (fun E t hE hz hk _ => ⟨Or.inr (Or.inr ⟨hE.1, (by simp [sA_way, hA1, hg1, hg2]), (by simp [sB_way, hB2, hg1, hg2]), (by simp [sC_way, hg1, hg2, hE.2] <;> omega)⟩), gXx_of hX hS hz hk⟩) hS.2.2 (by decide) (by decide) (fun hC1 => ?_)
    refine lv_aload_n G.1 G.2.1 dX0_way_34 rfl (lv_at hl 0 rfl) ?_
    refine gx_get G hX (by decide +kernel) 4 (by decide) (by decide +kernel) rfl rfl rfl dX0_way_35 ?_
    refine lv_iload_n G.1 G.2.1 dX0_way_38 rfl (lv_at hl 1 rfl) ?_
    refine lv_iload_n G.1 G.2.1 dX0_way_39 rfl (lv_at hl 2 rfl) ?_
    refine gx_swap (k := 4) (kp := 4) (len := 8) (F := S 4) (i := j1) (v := j2) (S' := (gs S 4 (gu (S 4) j1 j2))) (tr' := tr) (rest := []) G.fix (mX0_swap l D (q 4) cI 8 (S 4) j1 j2 (by first | omega | assumption)) (va_cwS 3 G.2.2.2.2.2.1 gX0_way_X0_swap rfl rfl rfl (by decide +kernel) ⟨Nat.le_of_ble_eq_true rfl, Nat.le_of_ble_eq_true rfl⟩) hX hS rfl (rfl) hl.1 rfl (Nat.le_of_ble_eq_true rfl) dX0_way_40 (Nat.zero_le _) (Nat.zero_le _) (fun H1 locs1 hX hS => ?_)
    exact vx_ret (W.widen (k := 1) (n := 6) (Nat.zero_le _) (Nat.zero_le _) (W.iret G.1 G.2.1 G.2.2.1 (fun t ht hW => gQx_of hX hS ht ⟨(by simp [sA_way, hA1, hg1, hg2]), (by simp [sB_way, hB2, hg1, hg2]), (by simp [sC_way, hC1, hg1, hg2]), (by show nI _ = nI _; simp only [sR_way, hg1, hg2]), (by simp only [sN_way, hg1, hg2]), (by simp only [sS_way, hg1, hg2])⟩) hS.2.2 dX0_way_43 G.2.2.2.2.2.2))
  · refine lv_iload_n G.1 G.2.1 dX0_way_9 rfl (lv_at hl 2 rfl) ?_
    refine lv_iconst (v := nI 1) G.1 G.2.1 dX0_way_10 (by decide) ?_
    refine lv_icmp_eq (tgt := 29) G.1 G.2.1 dX0_way_11 (by decide) (fun h_11 => ?_) (fun h_11 => ?_)
    · have hB2 : gb i2 3 = true := by first | exact gb_is3 (Or.inl (by assumption)) | exact gb_is3 (Or.inr (Or.inl (by assumption))) | exact gb_is3 (Or.inr (Or.inr (by assumption)))
      obtain ⟨j2, hj2, rfl⟩ := gb_of (by omega) hB2
      have hg2 := gn_nI (show j2 < 2 ^ 31 by omega)
      refine lv_aload_n G.1 G.2.1 dX0_way_29 rfl (lv_at hl 0 rfl) ?_
      refine lv_iload_n G.1 G.2.1 dX0_way_30 rfl (lv_at hl 1 rfl) ?_
      refine gc_needT (vx_runV (As := [.int (nI j1)]) (rest := []) G.fix (mX0_needFreeProfile l hst D q cI N S tr A hok hN j1 (by omega)) (cwV 1 G.2.2.2.2.2.1 gX0_way_X0_needFreeProfile rfl rfl rfl (by decide +kernel) ⟨Nat.le_of_ble_eq_true rfl, Nat.le_of_ble_eq_true rfl⟩) ⟨xAt_blind, va_recv hX.2.1 hX.1 (ci := 0) (q0 := 0) rfl rfl, fun U hU hW => ⟨rfl, by show xAt _ _ _ _ _ _ _ U U.heap; rw [hU]; exact hX.moved hW⟩⟩ rfl rfl hl.1 rfl (lv_room (Nat.le_of_ble_eq_true rfl)) dX0_way_31 ⟨Nat.le_of_ble_eq_true rfl, Nat.le_of_ble_eq_true rfl⟩) hx0 G.2.2.2.2.2.2 (fun E t hE hz hk _ => ⟨Or.inr (Or.inr ⟨hE.1, (by simp [sA_way, hA1, hg1, hg2]), (by simp [sB_way, hB2, hg1, hg2]), (by simp [sC_way, hg1, hg2, hE.2] <;> omega)⟩), gXx_of hX hS hz hk⟩) hS.2.2 (by decide) (by decide) (fun hC1 => ?_)
      refine lv_aload_n G.1 G.2.1 dX0_way_34 rfl (lv_at hl 0 rfl) ?_
      refine gx_get G hX (by decide +kernel) 4 (by decide) (by decide +kernel) rfl rfl rfl dX0_way_35 ?_
      refine lv_iload_n G.1 G.2.1 dX0_way_38 rfl (lv_at hl 1 rfl) ?_
      refine lv_iload_n G.1 G.2.1 dX0_way_39 rfl (lv_at hl 2 rfl) ?_
      refine gx_swap (k := 4) (kp := 4) (len := 8) (F := S 4) (i := j1) (v := j2) (S' := (gs S 4 (gu (S 4) j1 j2))) (tr' := tr) (rest := []) G.fix (mX0_swap l D (q 4) cI 8 (S 4) j1 j2 (by first | omega | assumption)) (va_cwS 3 G.2.2.2.2.2.1 gX0_way_X0_swap rfl rfl rfl (by decide +kernel) ⟨Nat.le_of_ble_eq_true rfl, Nat.le_of_ble_eq_true rfl⟩) hX hS rfl (rfl) hl.1 rfl (Nat.le_of_ble_eq_true rfl) dX0_way_40 (Nat.zero_le _) (Nat.zero_le _) (fun H1 locs1 hX hS => ?_)
      exact vx_ret (W.widen (k := 1) (n := 6) (Nat.zero_le _) (Nat.zero_le _) (W.iret G.1 G.2.1 G.2.2.1 (fun t ht hW => gQx_of hX hS ht ⟨(by simp [sA_way, hA1, hg1, hg2]), (by simp [sB_way, hB2, hg1, hg2]), (by simp [sC_way, hC1, hg1, hg2]), (by show nI _ = nI _; simp only [sR_way, hg1, hg2]), (by simp only [sN_way, hg1, hg2]), (by simp only [sS_way, hg1, hg2])⟩) hS.2.2 dX0_way_43 G.2.2.2.2.2.2))
    · refine lv_iload_n G.1 G.2.1 dX0_way_14 rfl (lv_at hl 2 rfl) ?_
      refine lv_iconst (v := nI 2) G.1 G.2.1 dX0_way_15 (by decide) ?_
      refine lv_icmp_eq (tgt := 29) G.1 G.2.1 dX0_way_16 (by decide) (fun h_16 => ?_) (fun h_16 => ?_)
      · have hB2 : gb i2 3 = true := by first | exact gb_is3 (Or.inl (by assumption)) | exact gb_is3 (Or.inr (Or.inl (by assumption))) | exact gb_is3 (Or.inr (Or.inr (by assumption)))
        obtain ⟨j2, hj2, rfl⟩ := gb_of (by omega) hB2
        have hg2 := gn_nI (show j2 < 2 ^ 31 by omega)
        refine lv_aload_n G.1 G.2.1 dX0_way_29 rfl (lv_at hl 0 rfl) ?_
        refine lv_iload_n G.1 G.2.1 dX0_way_30 rfl (lv_at hl 1 rfl) ?_
        refine gc_needT (vx_runV (As := [.int (nI j1)]) (rest := []) G.fix (mX0_needFreeProfile l hst D q cI N S tr A hok hN j1 (by omega)) (cwV 1 G.2.2.2.2.2.1 gX0_way_X0_needFreeProfile rfl rfl rfl (by decide +kernel) ⟨Nat.le_of_ble_eq_true rfl, Nat.le_of_ble_eq_true rfl⟩) ⟨xAt_blind, va_recv hX.2.1 hX.1 (ci := 0) (q0 := 0) rfl rfl, fun U hU hW => ⟨rfl, by show xAt _ _ _ _ _ _ _ U U.heap; rw [hU]; exact hX.moved hW⟩⟩ rfl rfl hl.1 rfl (lv_room (Nat.le_of_ble_eq_true rfl)) dX0_way_31 ⟨Nat.le_of_ble_eq_true rfl, Nat.le_of_ble_eq_true rfl⟩) hx0 G.2.2.2.2.2.2 (fun E t hE hz hk _ => ⟨Or.inr (Or.inr ⟨hE.1, (by simp [sA_way, hA1, hg1, hg2]), (by simp [sB_way, hB2, hg1, hg2]), (by simp [sC_way, hg1, hg2, hE.2] <;> omega)⟩), gXx_of hX hS hz hk⟩) hS.2.2 (by decide) (by decide) (fun hC1 => ?_)
        refine lv_aload_n G.1 G.2.1 dX0_way_34 rfl (lv_at hl 0 rfl) ?_
        refine gx_get G hX (by decide +kernel) 4 (by decide) (by decide +kernel) rfl rfl rfl dX0_way_35 ?_
        refine lv_iload_n G.1 G.2.1 dX0_way_38 rfl (lv_at hl 1 rfl) ?_
        refine lv_iload_n G.1 G.2.1 dX0_way_39 rfl (lv_at hl 2 rfl) ?_
        refine gx_swap (k := 4) (kp := 4) (len := 8) (F := S 4) (i := j1) (v := j2) (S' := (gs S 4 (gu (S 4) j1 j2))) (tr' := tr) (rest := []) G.fix (mX0_swap l D (q 4) cI 8 (S 4) j1 j2 (by first | omega | assumption)) (va_cwS 3 G.2.2.2.2.2.1 gX0_way_X0_swap rfl rfl rfl (by decide +kernel) ⟨Nat.le_of_ble_eq_true rfl, Nat.le_of_ble_eq_true rfl⟩) hX hS rfl (rfl) hl.1 rfl (Nat.le_of_ble_eq_true rfl) dX0_way_40 (Nat.zero_le _) (Nat.zero_le _) (fun H1 locs1 hX hS => ?_)
        exact vx_ret (W.widen (k := 1) (n := 6) (Nat.zero_le _) (Nat.zero_le _) (W.iret G.1 G.2.1 G.2.2.1 (fun t ht hW => gQx_of hX hS ht ⟨(by simp [sA_way, hA1, hg1, hg2]), (by simp [sB_way, hB2, hg1, hg2]), (by simp [sC_way, hC1, hg1, hg2]), (by show nI _ = nI _; simp only [sR_way, hg1, hg2]), (by simp only [sN_way, hg1, hg2]), (by simp only [sS_way, hg1, hg2])⟩) hS.2.2 dX0_way_43 G.2.2.2.2.2.2))
      · exact gx_throw (text := "no such way") G hx0 hst (by decide +kernel) (by decide +kernel) (by decide +kernel) (by decide +kernel) gx_not_IA gx_good_IA (by decide +kernel) hZ0 hS hl.1 dX0_way_19 dX0_way_22 dX0_way_23 dX0_way_25 dX0_way_28 (Nat.le_of_ble_eq_true rfl) (Nat.le_of_ble_eq_true rfl) (Nat.le_of_ble_eq_true rfl) (Nat.le_of_ble_eq_true rfl) (fun t _ hz hk => ⟨Or.inr (Or.inl ⟨rfl, (by simp [sA_way, hA1, hg1]), by show gb i2 3 = false; exact gb_not3 h_6 h_11 h_16⟩), gXx_of hX hS hz hk⟩) hS.2.2 (by decide) (by decide)
set_option maxRecDepth 100000 in
set_option maxHeartbeats 4000000 in
/-- chain -/
theorem mX0_chain (l : Launch) (hst : l.stackTraces = false) (D : va_G) (q : Nat → Nat) (cI : ClassId) (N : Nat → Nat) (S : Nat → Nat → Nat) (tr : Nat → Nat) (A : Nat → Prop) (hok : sp_ok N S) (hinv : sp_inv N S) : vx_Met l yX0_chain wsX0_chain { frames := 6, cells := 1, slots := 6, locals := 82 } (va_Pc [.ref (q 0)] (fun U => xAt D q cI N S tr A U U.heap)) (gQx D q cI (fun r N2 S2 => sA_chain N S = true ∧ sB_chain N S = true ∧ sC_chain N S = true ∧ r = nI (sR_chain N S) ∧ N2 = sN_chain N S ∧ S2 = sS_chain N S) A) (gXx D q cI N S A (gE3 (sA_chain N S) (sB_chain N S) (sC_chain N S))) 1 6 A := by
  refine gc_vxmet [.ref (q 0)] (by decide) rfl (Nat.le_of_ble_eq_true rfl) rfl ?_
  intro p e s m below meth c ls G hx0 hl hX
  have hZ0 := hX.2.2.2
  have hS : va_S A s.heap s.heap [] := va_S.rf
  have hok9 := hok
  obtain ⟨⟨ok0, ok5⟩, ok1, ok2, ok3, ok4, ok6, ok7, ok8, ok12, ok13, ok14⟩ := hok9
  have hN := hinv.2.2.2.1
  have hN9 := hinv.2.2.1
  refine lv_aload_n G.1 G.2.1 dX0_chain_0 rfl (lv_at hl 0 rfl) ?_
  refine gx_get G hX (by decide +kernel) 5 (by decide) (by decide +kernel) rfl rfl rfl dX0_chain_1 ?_
  refine lv_bipush (v := nI 6) G.1 G.2.1 dX0_chain_4 (by decide) ?_
  refine gn_lt G (by omega) (by omega) (tgt := 19) dX0_chain_6 (by decide) (fun h_6 => ?_) (fun h_6 => ?_)
  · refine lv_aload_n G.1 G.2.1 dX0_chain_19 rfl (lv_at hl 0 rfl) ?_
    refine gx_get G hX (by decide +kernel) 5 (by decide) (by decide +kernel) rfl rfl rfl dX0_chain_20 ?_
    refine lv_istore_n (lv' := [(1, .int (nI (N 5))), (0, .ref (q 0))]) G.1 G.2.1 dX0_chain_23 rfl hl (by decide) rfl (fun ls hl => ?_)
    refine lv_aload_n G.1 G.2.1 dX0_chain_24 rfl (lv_at hl 1 rfl) ?_
    refine lv_dup G.1 G.2.1 dX0_chain_25 rfl ?_
    refine gx_get G hX (by decide +kernel) 5 (by decide) (by decide +kernel) rfl rfl rfl dX0_chain_26 ?_
    refine lv_iconst (v := nI 1) G.1 G.2.1 dX0_chain_29 (by decide) ?_
    refine gn_iadd G dX0_chain_30 ?_
    refine gx_put (k := 5) (N' := (gu N 5 ((N 5) + 1))) G hZ0 hX hS (by decide +kernel) (by decide) (by decide +kernel) rfl rfl (by decide +kernel) rfl (Nat.le_of_ble_eq_true rfl) rfl dX0_chain_31 (fun H1 locs1 hX hS => ?_)
    refine lv_iload_n G.1 G.2.1 dX0_chain_34 rfl (lv_at hl 0 rfl) ?_
    exact vx_ret (W.widen (k := 1) (n := 6) (Nat.zero_le _) (Nat.zero_le _) (W.iret G.1 G.2.1 G.2.2.1 (fun t ht hW => gQx_of hX hS ht ⟨rfl, rfl, (by simp [sC_chain, h_6]), (by show nI _ = nI _; simp only [sR_chain]), (by simp only [sN_chain]), (by simp only [sS_chain])⟩) hS.2.2 dX0_chain_35 G.2.2.2.2.2.2))
  · exact gx_throw (text := "there are 6 chains") G hx0 hst (by decide +kernel) (by decide +kernel) (by decide +kernel) (by decide +kernel) gx_not_IS gx_good_IS (by decide +kernel) hZ0 hS hl.1 dX0_chain_9 dX0_chain_12 dX0_chain_13 dX0_chain_15 dX0_chain_18 (Nat.le_of_ble_eq_true rfl) (Nat.le_of_ble_eq_true rfl) (Nat.le_of_ble_eq_true rfl) (Nat.le_of_ble_eq_true rfl) (fun t _ hz hk => ⟨Or.inr (Or.inr ⟨rfl, rfl, rfl, (by simp [sC_chain, h_6] <;> omega)⟩), gXx_of hX hS hz hk⟩) hS.2.2 (by decide) (by decide)
set_option maxRecDepth 100000 in
set_option maxHeartbeats 4000000 in
/-- add -/
theorem mX0_add (l : Launch) (hst : l.stackTraces = false) (D : va_G) (q : Nat → Nat) (cI : ClassId) (N : Nat → Nat) (S : Nat → Nat → Nat) (tr : Nat → Nat) (A : Nat → Prop) (hok : sp_ok N S) (hinv : sp_inv N S) (i1 i2 : Int32) : vx_Met l yX0_add wsX0_add { frames := 7, cells := 1, slots := 6, locals := 103 } (va_Pc [.ref (q 0), .int i1, .int i2] (fun U => xAt D q cI N S tr A U U.heap)) (gQx D q cI (fun r N2 S2 => sA_add N S i1 i2 = true ∧ sB_add N S i1 i2 = true ∧ sC_add N S i1 i2 = true ∧ r = nI (sR_add N S i1 i2) ∧ N2 = sN_add N S i1 i2 ∧ S2 = sS_add N S i1 i2) A) (gXx D q cI N S A (gE3 (sA_add N S i1 i2) (sB_add N S i1 i2) (sC_add N S i1 i2))) 1 6 A := by
  refine gc_vxmet [.ref (q 0), .int i1, .int i2] (by decide) rfl (Nat.le_of_ble_eq_true rfl) rfl ?_
  intro p e s m below meth c ls G hx0 hl hX
  have hZ0 := hX.2.2.2
  have hS : va_S A s.heap s.heap [] := va_S.rf
  have hok9 := hok
  obtain ⟨⟨ok0, ok5⟩, ok1, ok2, ok3, ok4, ok6, ok7, ok8, ok12, ok13, ok14⟩ := hok9
  have hN := hinv.2.2.2.1
  have hN9 := hinv.2.2.1
  refine lv_aload_n G.1 G.2.1 dX0_add_0 rfl (lv_at hl 0 rfl) ?_
  refine lv_iload_n G.1 G.2.1 dX0_add_1 rfl (lv_at hl 1 rfl) ?_
  refine gc_needT (vx_runV (As := [.int i1]) (rest := []) G.fix (mX0_needChain l hst D q cI N S tr A hok i1) (cwV 1 G.2.2.2.2.2.1 gX0_add_X0_needChain rfl rfl rfl (by decide +kernel) ⟨Nat.le_of_ble_eq_true rfl, Nat.le_of_ble_eq_true rfl⟩) ⟨xAt_blind, va_recv hX.2.1 hX.1 (ci := 0) (q0 := 0) rfl rfl, fun U hU hW => ⟨rfl, by show xAt _ _ _ _ _ _ _ U U.heap; rw [hU]; exact hX.moved hW⟩⟩ rfl rfl hl.1 rfl (lv_room (Nat.le_of_ble_eq_true rfl)) dX0_add_2 ⟨Nat.le_of_ble_eq_true rfl, Nat.le_of_ble_eq_true rfl⟩) hx0 G.2.2.2.2.2.2 (fun E t hE hz hk _ => ⟨Or.inl ⟨hE.1, (by simp [sA_add, hE.2] <;> omega)⟩, gXx_of hX hS hz hk⟩) hS.2.2 (by decide) (by decide) (fun hA1 => ?_)
  obtain ⟨j1, hj1, rfl⟩ := gb_of (by omega) hA1
  have hg1 := gn_nI (show j1 < 2 ^ 31 by omega)
  refine lv_aload_n G.1 G.2.1 dX0_add_5 rfl (lv_at hl 0 rfl) ?_
  refine lv_iload_n G.1 G.2.1 dX0_add_6 rfl (lv_at hl 2 rfl) ?_
  refine gc_needT (vx_runV (As := [.int i2]) (rest := []) G.fix (mX0_needProfile l hst D q cI N S tr A hok i2) (cwV 1 G.2.2.2.2.2.1 gX0_add_X0_needProfile rfl rfl rfl (by decide +kernel) ⟨Nat.le_of_ble_eq_true rfl, Nat.le_of_ble_eq_true rfl⟩) ⟨xAt_blind, va_recv hX.2.1 hX.1 (ci := 0) (q0 := 0) rfl rfl, fun U hU hW => ⟨rfl, by show xAt _ _ _ _ _ _ _ U U.heap; rw [hU]; exact hX.moved hW⟩⟩ rfl rfl hl.1 rfl (lv_room (Nat.le_of_ble_eq_true rfl)) dX0_add_7 ⟨Nat.le_of_ble_eq_true rfl, Nat.le_of_ble_eq_true rfl⟩) hx0 G.2.2.2.2.2.2 (fun E t hE hz hk _ => ⟨Or.inl ⟨hE.1, (by simp [sA_add, hA1, hg1, hE.2] <;> omega)⟩, gXx_of hX hS hz hk⟩) hS.2.2 (by decide) (by decide) (fun hA2 => ?_)
  obtain ⟨j2, hj2, rfl⟩ := gb_of (by omega) hA2
  have hg2 := gn_nI (show j2 < 2 ^ 31 by omega)
  refine lv_aload_n G.1 G.2.1 dX0_add_10 rfl (lv_at hl 0 rfl) ?_
  refine lv_iload_n G.1 G.2.1 dX0_add_11 rfl (lv_at hl 1 rfl) ?_
  refine gc_needT (vx_runV (As := [.int (nI j1)]) (rest := []) G.fix (mX0_needFreeChain l hst D q cI N S tr A hok hN j1 (by omega)) (cwV 1 G.2.2.2.2.2.1 gX0_add_X0_needFreeChain rfl rfl rfl (by decide +kernel) ⟨Nat.le_of_ble_eq_true rfl, Nat.le_of_ble_eq_true rfl⟩) ⟨xAt_blind, va_recv hX.2.1 hX.1 (ci := 0) (q0 := 0) rfl rfl, fun U hU hW => ⟨rfl, by show xAt _ _ _ _ _ _ _ U U.heap; rw [hU]; exact hX.moved hW⟩⟩ rfl rfl hl.1 rfl (lv_room (Nat.le_of_ble_eq_true rfl)) dX0_add_12 ⟨Nat.le_of_ble_eq_true rfl, Nat.le_of_ble_eq_true rfl⟩) hx0 G.2.2.2.2.2.2 (fun E t hE hz hk _ => ⟨Or.inr (Or.inr ⟨hE.1, (by simp [sA_add, hA1, hA2, hg1, hg2]), rfl, (by simp [sC_add, hg1, hg2, hE.2] <;> omega)⟩), gXx_of hX hS hz hk⟩) hS.2.2 (by decide) (by decide) (fun hC1 => ?_)
  refine lv_aload_n G.1 G.2.1 dX0_add_15 rfl (lv_at hl 0 rfl) ?_
  refine gx_get G hX (by decide +kernel) 7 (by decide) (by decide +kernel) rfl rfl rfl dX0_add_16 ?_
  refine lv_iload_n G.1 G.2.1 dX0_add_19 rfl (lv_at hl 1 rfl) ?_
  refine gc_s (As := [.ref (q 7), .int (nI j1)]) (rest := []) G.fix (mX0_read l D (q 7) cI 6 (S 7) (j1) (by first | omega | assumption | exact ok6 _ | apply hq)) (va_cwS 2 G.2.2.2.2.2.1 gX0_add_X0_read rfl rfl rfl (by decide +kernel) ⟨Nat.le_of_ble_eq_true rfl, Nat.le_of_ble_eq_true rfl⟩) rAt_blind (fun U hU hW => by rw [hU]; exact (hX.row 6 rfl).moved hW) rfl hl.1 rfl (Nat.le_of_ble_eq_true rfl) dX0_add_20 (Nat.zero_le _) (Nat.zero_le _) (fun r hr => ?_)
  subst hr
  refine lv_istore_n (lv' := [(3, .int (nI (S 7 j1))), (0, .ref (q 0)), (1, .int (nI j1)), (2, .int (nI j2))]) G.1 G.2.1 dX0_add_23 rfl hl (by decide) rfl (fun ls hl => ?_)
  have hl6 := ok7 j1
  refine lv_iload_n G.1 G.2.1 dX0_add_24 rfl (lv_at hl 0 rfl) ?_
  refine lv_bipush (v := nI 6) G.1 G.2.1 dX0_add_25 (by decide) ?_
  refine gn_lt G (by omega) (by omega) (tgt := 40) dX0_add_27 (by decide) (fun h_27 => ?_) (fun h_27 => ?_)
  · refine lv_aload_n G.1 G.2.1 dX0_add_40 rfl (lv_at hl 1 rfl) ?_
    refine gx_get G hX (by decide +kernel) 6 (by decide) (by decide +kernel) rfl rfl rfl dX0_add_41 ?_
    refine lv_iload_n G.1 G.2.1 dX0_add_44 rfl (lv_at hl 2 rfl) ?_
    refine lv_bipush (v := nI 6) G.1 G.2.1 dX0_add_45 (by decide) ?_
    refine gn_imul G dX0_add_47 ?_
    refine lv_iload_n G.1 G.2.1 dX0_add_48 rfl (lv_at hl 0 rfl) ?_
    refine gn_iadd G dX0_add_49 ?_
    refine lv_iload_n G.1 G.2.1 dX0_add_50 rfl (lv_at hl 3 rfl) ?_
    refine gx_swap (k := 6) (kp := 5) (len := 36) (F := S 6) (i := (j1 * 6) + (S 7 j1)) (v := j2) (S' := (gs S 6 (gu (S 6) ((j1 * 6) + (S 7 j1)) j2))) (tr' := tr) (rest := []) G.fix (mX0_swap l D (q 6) cI 36 (S 6) ((j1 * 6) + (S 7 j1)) j2 (by first | omega | assumption)) (va_cwS 3 G.2.2.2.2.2.1 gX0_add_X0_swap rfl rfl rfl (by decide +kernel) ⟨Nat.le_of_ble_eq_true rfl, Nat.le_of_ble_eq_true rfl⟩) hX hS rfl (rfl) hl.1 rfl (Nat.le_of_ble_eq_true rfl) dX0_add_51 (Nat.zero_le _) (Nat.zero_le _) (fun H1 locs1 hX hS => ?_)
    refine lv_pop G.1 G.2.1 dX0_add_54 rfl ?_
    refine lv_aload_n G.1 G.2.1 dX0_add_55 rfl (lv_at hl 1 rfl) ?_
    refine gx_get G hX (by decide +kernel) 7 (by decide) (by decide +kernel) rfl rfl rfl dX0_add_56 ?_
    refine lv_iload_n G.1 G.2.1 dX0_add_59 rfl (lv_at hl 2 rfl) ?_
    refine lv_iload_n G.1 G.2.1 dX0_add_60 rfl (lv_at hl 0 rfl) ?_
    refine lv_iconst (v := nI 1) G.1 G.2.1 dX0_add_61 (by decide) ?_
    refine gn_iadd G dX0_add_62 ?_
    refine gx_swap (k := 7) (kp := 6) (len := 6) (F := S 7) (i := j1) (v := (S 7 j1) + 1) (S' := (gs (gs S 6 (gu (S 6) ((j1 * 6) + (S 7 j1)) j2)) 7 (gu (S 7) j1 ((S 7 j1) + 1)))) (tr' := tr) (rest := []) G.fix (mX0_swap l D (q 7) cI 6 (S 7) j1 ((S 7 j1) + 1) (by first | omega | assumption)) (va_cwS 3 G.2.2.2.2.2.1 gX0_add_X0_swap rfl rfl rfl (by decide +kernel) ⟨Nat.le_of_ble_eq_true rfl, Nat.le_of_ble_eq_true rfl⟩) hX hS rfl (rfl) hl.1 rfl (Nat.le_of_ble_eq_true rfl) dX0_add_63 (Nat.zero_le _) (Nat.zero_le _) (fun H1 locs1 hX hS => ?_)
    refine lv_pop G.1 G.2.1 dX0_add_66 rfl ?_
    refine lv_iload_n G.1 G.2.1 dX0_add_67 rfl (lv_at hl 0 rfl) ?_
    refine lv_iconst (v := nI 1) G.1 G.2.1 dX0_add_68 (by decide) ?_
    refine gn_iadd G dX0_add_69 ?_
    exact vx_ret (W.widen (k := 1) (n := 6) (Nat.zero_le _) (Nat.zero_le _) (W.iret G.1 G.2.1 G.2.2.1 (fun t ht hW => gQx_of hX hS ht ⟨(by simp [sA_add, hA1, hA2, hg1, hg2]), rfl, (by simp [sC_add, hC1, h_27, hg1, hg2]), (by show nI _ = nI _; simp only [sR_add, hg1, hg2]), (by simp only [sN_add, hg1, hg2]), (by simp only [sS_add, hg1, hg2])⟩) hS.2.2 dX0_add_70 G.2.2.2.2.2.2))
  · exact gx_throw (text := "the chain has 6 profiles") G hx0 hst (by decide +kernel) (by decide +kernel) (by decide +kernel) (by decide +kernel) gx_not_IS gx_good_IS (by decide +kernel) hZ0 hS hl.1 dX0_add_30 dX0_add_33 dX0_add_34 dX0_add_36 dX0_add_39 (Nat.le_of_ble_eq_true rfl) (Nat.le_of_ble_eq_true rfl) (Nat.le_of_ble_eq_true rfl) (Nat.le_of_ble_eq_true rfl) (fun t _ hz hk => ⟨Or.inr (Or.inr ⟨rfl, (by simp [sA_add, hA1, hA2, hg1, hg2]), rfl, (by simp [sC_add, hC1, hg1, hg2, h_27] <;> omega)⟩), gXx_of hX hS hz hk⟩) hS.2.2 (by decide) (by decide)
set_option maxRecDepth 100000 in
set_option maxHeartbeats 4000000 in
/-- drop -/
theorem mX0_drop (l : Launch) (hst : l.stackTraces = false) (D : va_G) (q : Nat → Nat) (cI : ClassId) (N : Nat → Nat) (S : Nat → Nat → Nat) (tr : Nat → Nat) (A : Nat → Prop) (hok : sp_ok N S) (hinv : sp_inv N S) (i1 : Int32) : vx_Met l yX0_drop wsX0_drop { frames := 7, cells := 1, slots := 6, locals := 103 } (va_Pc [.ref (q 0), .int i1] (fun U => xAt D q cI N S tr A U U.heap)) (gQx D q cI (fun r N2 S2 => sA_drop N S i1 = true ∧ sB_drop N S i1 = true ∧ sC_drop N S i1 = true ∧ r = nI (sR_drop N S i1) ∧ N2 = sN_drop N S i1 ∧ S2 = sS_drop N S i1) A) (gXx D q cI N S A (gE3 (sA_drop N S i1) (sB_drop N S i1) (sC_drop N S i1))) 1 6 A := by
  refine gc_vxmet [.ref (q 0), .int i1] (by decide) rfl (Nat.le_of_ble_eq_true rfl) rfl ?_
  intro p e s m below meth c ls G hx0 hl hX
  have hZ0 := hX.2.2.2
  have hS : va_S A s.heap s.heap [] := va_S.rf
  have hok9 := hok
  obtain ⟨⟨ok0, ok5⟩, ok1, ok2, ok3, ok4, ok6, ok7, ok8, ok12, ok13, ok14⟩ := hok9
  have hN := hinv.2.2.2.1
  have hN9 := hinv.2.2.1
  refine lv_aload_n G.1 G.2.1 dX0_drop_0 rfl (lv_at hl 0 rfl) ?_
  refine lv_iload_n G.1 G.2.1 dX0_drop_1 rfl (lv_at hl 1 rfl) ?_
  refine gc_needT (vx_runV (As := [.int i1]) (rest := []) G.fix (mX0_needChain l hst D q cI N S tr A hok i1) (cwV 1 G.2.2.2.2.2.1 gX0_drop_X0_needChain rfl rfl rfl (by decide +kernel) ⟨Nat.le_of_ble_eq_true rfl, Nat.le_of_ble_eq_true rfl⟩) ⟨xAt_blind, va_recv hX.2.1 hX.1 (ci := 0) (q0 := 0) rfl rfl, fun U hU hW => ⟨rfl, by show xAt _ _ _ _ _ _ _ U U.heap; rw [hU]; exact hX.moved hW⟩⟩ rfl rfl hl.1 rfl (lv_room (Nat.le_of_ble_eq_true rfl)) dX0_drop_2 ⟨Nat.le_of_ble_eq_true rfl, Nat.le_of_ble_eq_true rfl⟩) hx0 G.2.2.2.2.2.2 (fun E t hE hz hk _ => ⟨Or.inl ⟨hE.1, (by simp [sA_drop, hE.2] <;> omega)⟩, gXx_of hX hS hz hk⟩) hS.2.2 (by decide) (by decide) (fun hA1 => ?_)
  obtain ⟨j1, hj1, rfl⟩ := gb_of (by omega) hA1
  have hg1 := gn_nI (show j1 < 2 ^ 31 by omega)
  refine lv_aload_n G.1 G.2.1 dX0_drop_5 rfl (lv_at hl 0 rfl) ?_
  refine lv_iload_n G.1 G.2.1 dX0_drop_6 rfl (lv_at hl 1 rfl) ?_
  refine gc_needT (vx_runV (As := [.int (nI j1)]) (rest := []) G.fix (mX0_needFreeChain l hst D q cI N S tr A hok hN j1 (by omega)) (cwV 1 G.2.2.2.2.2.1 gX0_drop_X0_needFreeChain rfl rfl rfl (by decide +kernel) ⟨Nat.le_of_ble_eq_true rfl, Nat.le_of_ble_eq_true rfl⟩) ⟨xAt_blind, va_recv hX.2.1 hX.1 (ci := 0) (q0 := 0) rfl rfl, fun U hU hW => ⟨rfl, by show xAt _ _ _ _ _ _ _ U U.heap; rw [hU]; exact hX.moved hW⟩⟩ rfl rfl hl.1 rfl (lv_room (Nat.le_of_ble_eq_true rfl)) dX0_drop_7 ⟨Nat.le_of_ble_eq_true rfl, Nat.le_of_ble_eq_true rfl⟩) hx0 G.2.2.2.2.2.2 (fun E t hE hz hk _ => ⟨Or.inr (Or.inr ⟨hE.1, (by simp [sA_drop, hA1, hg1]), rfl, (by simp [sC_drop, hg1, hE.2] <;> omega)⟩), gXx_of hX hS hz hk⟩) hS.2.2 (by decide) (by decide) (fun hC1 => ?_)
  refine lv_aload_n G.1 G.2.1 dX0_drop_10 rfl (lv_at hl 0 rfl) ?_
  refine gx_get G hX (by decide +kernel) 7 (by decide) (by decide +kernel) rfl rfl rfl dX0_drop_11 ?_
  refine lv_iload_n G.1 G.2.1 dX0_drop_14 rfl (lv_at hl 1 rfl) ?_
  refine gc_s (As := [.ref (q 7), .int (nI j1)]) (rest := []) G.fix (mX0_read l D (q 7) cI 6 (S 7) (j1) (by first | omega | assumption | exact ok6 _ | apply hq)) (va_cwS 2 G.2.2.2.2.2.1 gX0_drop_X0_read rfl rfl rfl (by decide +kernel) ⟨Nat.le_of_ble_eq_true rfl, Nat.le_of_ble_eq_true rfl⟩) rAt_blind (fun U hU hW => by rw [hU]; exact (hX.row 6 rfl).moved hW) rfl hl.1 rfl (Nat.le_of_ble_eq_true rfl) dX0_drop_15 (Nat.zero_le _) (Nat.zero_le _) (fun r hr => ?_)
  subst hr
  refine lv_istore_n (lv' := [(2, .int (nI (S 7 j1))), (0, .ref (q 0)), (1, .int (nI j1))]) G.1 G.2.1 dX0_drop_18 rfl hl (by decide) rfl (fun ls hl => ?_)
  have hl6 := ok7 j1
  refine lv_iload_n G.1 G.2.1 dX0_drop_19 rfl (lv_at hl 0 rfl) ?_
  refine gn_gtz G (by omega) (tgt := 33) dX0_drop_20 (by decide) (fun h_20 => ?_) (fun h_20 => ?_)
  · refine lv_aload_n G.1 G.2.1 dX0_drop_33 rfl (lv_at hl 1 rfl) ?_
    refine gx_get G hX (by decide +kernel) 7 (by decide) (by decide +kernel) rfl rfl rfl dX0_drop_34 ?_
    refine lv_iload_n G.1 G.2.1 dX0_drop_37 rfl (lv_at hl 2 rfl) ?_
    refine lv_iload_n G.1 G.2.1 dX0_drop_38 rfl (lv_at hl 0 rfl) ?_
    refine lv_iconst (v := nI 1) G.1 G.2.1 dX0_drop_39 (by decide) ?_
    refine gn_isub G dX0_drop_40 (by omega) ?_
    refine gx_swap (k := 7) (kp := 6) (len := 6) (F := S 7) (i := j1) (v := (S 7 j1) - 1) (S' := (gs S 7 (gu (S 7) j1 ((S 7 j1) - 1)))) (tr' := tr) (rest := []) G.fix (mX0_swap l D (q 7) cI 6 (S 7) j1 ((S 7 j1) - 1) (by first | omega | assumption)) (va_cwS 3 G.2.2.2.2.2.1 gX0_drop_X0_swap rfl rfl rfl (by decide +kernel) ⟨Nat.le_of_ble_eq_true rfl, Nat.le_of_ble_eq_true rfl⟩) hX hS rfl (rfl) hl.1 rfl (Nat.le_of_ble_eq_true rfl) dX0_drop_41 (Nat.zero_le _) (Nat.zero_le _) (fun H1 locs1 hX hS => ?_)
    refine lv_pop G.1 G.2.1 dX0_drop_44 rfl ?_
    refine lv_aload_n G.1 G.2.1 dX0_drop_45 rfl (lv_at hl 1 rfl) ?_
    refine gx_get G hX (by decide +kernel) 6 (by decide) (by decide +kernel) rfl rfl rfl dX0_drop_46 ?_
    refine lv_iload_n G.1 G.2.1 dX0_drop_49 rfl (lv_at hl 2 rfl) ?_
    refine lv_bipush (v := nI 6) G.1 G.2.1 dX0_drop_50 (by decide) ?_
    refine gn_imul G dX0_drop_52 ?_
    refine lv_iload_n G.1 G.2.1 dX0_drop_53 rfl (lv_at hl 0 rfl) ?_
    refine gn_iadd G dX0_drop_54 ?_
    refine lv_iconst (v := nI 1) G.1 G.2.1 dX0_drop_55 (by decide) ?_
    refine gn_isub G dX0_drop_56 (by omega) ?_
    refine gc_s (As := [.ref (q 6), .int (nI (((j1 * 6) + (S 7 j1)) - 1))]) (rest := []) G.fix (mX0_read l D (q 6) cI 36 (S 6) (((j1 * 6) + (S 7 j1)) - 1) (by first | omega | assumption | exact ok6 _ | apply hq)) (va_cwS 2 G.2.2.2.2.2.1 gX0_drop_X0_read rfl rfl rfl (by decide +kernel) ⟨Nat.le_of_ble_eq_true rfl, Nat.le_of_ble_eq_true rfl⟩) rAt_blind (fun U hU hW => by rw [hU]; exact (hX.row 5 rfl).moved hW) rfl hl.1 rfl (Nat.le_of_ble_eq_true rfl) dX0_drop_57 (Nat.zero_le _) (Nat.zero_le _) (fun r hr => ?_)
    subst hr
    exact vx_ret (W.widen (k := 1) (n := 6) (Nat.zero_le _) (Nat.zero_le _) (W.iret G.1 G.2.1 G.2.2.1 (fun t ht hW => gQx_of hX hS ht ⟨(by simp [sA_drop, hA1, hg1]), rfl, (by simp [sC_drop, hC1, h_20, hg1]), (by show nI _ = nI _; simp only [sR_drop, hg1]), (by simp only [sN_drop, hg1]), (by simp only [sS_drop, hg1])⟩) hS.2.2 dX0_drop_60 G.2.2.2.2.2.2))
  · exact gx_throw (text := "the chain has no profile") G hx0 hst (by decide +kernel) (by decide +kernel) (by decide +kernel) (by decide +kernel) gx_not_IS gx_good_IS (by decide +kernel) hZ0 hS hl.1 dX0_drop_23 dX0_drop_26 dX0_drop_27 dX0_drop_29 dX0_drop_32 (Nat.le_of_ble_eq_true rfl) (Nat.le_of_ble_eq_true rfl) (Nat.le_of_ble_eq_true rfl) (Nat.le_of_ble_eq_true rfl) (fun t _ hz hk => ⟨Or.inr (Or.inr ⟨rfl, (by simp [sA_drop, hA1, hg1]), rfl, (by simp [sC_drop, hC1, hg1, h_20] <;> omega)⟩), gXx_of hX hS hz hk⟩) hS.2.2 (by decide) (by decide)
set_option maxRecDepth 100000 in
set_option maxHeartbeats 4000000 in
/-- joined -/
theorem mX0_joined (l : Launch) (hst : l.stackTraces = false) (D : va_G) (q : Nat → Nat) (cI : ClassId) (N : Nat → Nat) (S : Nat → Nat → Nat) (tr : Nat → Nat) (A : Nat → Prop) (hok : sp_ok N S) (hinv : sp_inv N S) (i1 i2 i3 : Int32) : vx_Met l yX0_joined wsX0_joined { frames := 7, cells := 1, slots := 6, locals := 103 } (va_Pc [.ref (q 0), .int i1, .int i2, .int i3] (fun U => xAt D q cI N S tr A U U.heap)) (gQx D q cI (fun r N2 S2 => sA_joined N S i1 i2 i3 = true ∧ sB_joined N S i1 i2 i3 = true ∧ sC_joined N S i1 i2 i3 = true ∧ r = nI (sR_joined N S i1 i2 i3) ∧ N2 = sN_joined N S i1 i2 i3 ∧ S2 = sS_joined N S i1 i2 i3) A) (gXx D q cI N S A (gE3 (sA_joined N S i1 i2 i3) (sB_joined N S i1 i2 i3) (sC_joined N S i1 i2 i3))) 1 6 A := by
  refine gc_vxmet [.ref (q 0), .int i1, .int i2, .int i3] (by decide) rfl (Nat.le_of_ble_eq_true rfl) rfl ?_
  intro p e s m below meth c ls G hx0 hl hX
  have hZ0 := hX.2.2.2
  have hS : va_S A s.heap s.heap [] := va_S.rf
  have hok9 := hok
  obtain ⟨⟨ok0, ok5⟩, ok1, ok2, ok3, ok4, ok6, ok7, ok8, ok12, ok13, ok14⟩ := hok9
  have hN := hinv.2.2.2.1
  have hN9 := hinv.2.2.1
  refine lv_aload_n G.1 G.2.1 dX0_joined_0 rfl (lv_at hl 0 rfl) ?_
  refine lv_iload_n G.1 G.2.1 dX0_joined_1 rfl (lv_at hl 1 rfl) ?_
  refine gc_needT (vx_runV (As := [.int i1]) (rest := []) G.fix (mX0_needChain l hst D q cI N S tr A hok i1) (cwV 1 G.2.2.2.2.2.1 gX0_joined_X0_needChain rfl rfl rfl (by decide +kernel) ⟨Nat.le_of_ble_eq_true rfl, Nat.le_of_ble_eq_true rfl⟩) ⟨xAt_blind, va_recv hX.2.1 hX.1 (ci := 0) (q0 := 0) rfl rfl, fun U hU hW => ⟨rfl, by show xAt _ _ _ _ _ _ _ U U.heap; rw [hU]; exact hX.moved hW⟩⟩ rfl rfl hl.1 rfl (lv_room (Nat.le_of_ble_eq_true rfl)) dX0_joined_2 ⟨Nat.le_of_ble_eq_true rfl, Nat.le_of_ble_eq_true rfl⟩) hx0 G.2.2.2.2.2.2 (fun E t hE hz hk _ => ⟨Or.inl ⟨hE.1, (by simp [sA_joined, hE.2] <;> omega)⟩, gXx_of hX hS hz hk⟩) hS.2.2 (by decide) (by decide) (fun hA1 => ?_)
  obtain ⟨j1, hj1, rfl⟩ := gb_of (by omega) hA1
  have hg1 := gn_nI (show j1 < 2 ^ 31 by omega)
  refine lv_iload_n G.1 G.2.1 dX0_joined_5 rfl (lv_at hl 2 rfl) ?_
  refine gc_needT (vx_runS (As := [.int i2]) (rest := []) G.fix (mX0_needBand l hst i2) (va_cwS 1 G.2.2.2.2.2.1 gX0_joined_X0_needBand rfl rfl rfl (by decide +kernel) ⟨Nat.le_of_ble_eq_true rfl, Nat.le_of_ble_eq_true rfl⟩) ⟨gZ_blind, fun U hU hW => ⟨rfl, by show gZ _ U U.heap; rw [hU]; exact hX.2.2.2.none.moved hW⟩⟩ rfl rfl hl.1 rfl (lv_room (Nat.le_of_ble_eq_true rfl)) dX0_joined_6 ⟨Nat.le_of_ble_eq_true rfl, Nat.le_of_ble_eq_true rfl⟩) hx0 G.2.2.2.2.2.2 (fun E t hE hz hk _ => ⟨Or.inl ⟨hE.1, (by simp [sA_joined, hA1, hg1, hE.2] <;> omega)⟩, gXx_of hX hS hz hk⟩) hS.2.2 (by decide) (by decide) (fun hA2 => ?_)
  obtain ⟨j2, hj2, rfl⟩ := gb_of (by omega) hA2
  have hg2 := gn_nI (show j2 < 2 ^ 31 by omega)
  refine lv_iload_n G.1 G.2.1 dX0_joined_9 rfl (lv_at hl 3 rfl) ?_
  refine gc_needT (vx_runS (As := [.int i3]) (rest := []) G.fix (mX0_needValue l hst i3) (va_cwS 1 G.2.2.2.2.2.1 gX0_joined_X0_needValue rfl rfl rfl (by decide +kernel) ⟨Nat.le_of_ble_eq_true rfl, Nat.le_of_ble_eq_true rfl⟩) ⟨gZ_blind, fun U hU hW => ⟨rfl, by show gZ _ U U.heap; rw [hU]; exact hX.2.2.2.none.moved hW⟩⟩ rfl rfl hl.1 rfl (lv_room (Nat.le_of_ble_eq_true rfl)) dX0_joined_10 ⟨Nat.le_of_ble_eq_true rfl, Nat.le_of_ble_eq_true rfl⟩) hx0 G.2.2.2.2.2.2 (fun E t hE hz hk _ => ⟨Or.inr (Or.inl ⟨hE.1, (by simp [sA_joined, hA1, hA2, hg1, hg2]), (by simp [sB_joined, hg1, hg2, hE.2] <;> omega)⟩), gXx_of hX hS hz hk⟩) hS.2.2 (by decide) (by decide) (fun hB3 => ?_)
  obtain ⟨j3, hj3, rfl⟩ := gb_of (by omega) hB3
  have hg3 := gn_nI (show j3 < 2 ^ 31 by omega)
  refine lv_aload_n G.1 G.2.1 dX0_joined_13 rfl (lv_at hl 0 rfl) ?_
  refine gx_get G hX (by decide +kernel) 9 (by decide) (by decide +kernel) rfl rfl rfl dX0_joined_14 ?_
  refine lv_iload_n G.1 G.2.1 dX0_joined_17 rfl (lv_at hl 1 rfl) ?_
  refine gc_s (As := [.int (nI (N 9)), .int (nI j1)]) (rest := []) G.fix (mX0_hasBit l (N 9) j1 (by first | omega | assumption | exact ok6 _ | apply hq) (by omega)) (va_cwS 2 G.2.2.2.2.2.1 gX0_joined_X0_hasBit rfl rfl rfl (by decide +kernel) ⟨Nat.le_of_ble_eq_true rfl, Nat.le_of_ble_eq_true rfl⟩) gc_blindT (fun _ _ _ => trivial) rfl hl.1 rfl (Nat.le_of_ble_eq_true rfl) dX0_joined_18 (Nat.zero_le _) (Nat.zero_le _) (fun r hr => ?_)
  subst hr
  refine gn_nez G (by exact sp_b31 _ _) (tgt := 34) dX0_joined_21 (by decide) (fun h_21 => ?_) (fun h_21 => ?_)
  · have hb8 := sp_bit_lt (N 9) j1
    have hC1 : sp_bit (N 9) j1 = 1 := by omega
    have hb2 : S 8 ((j1 * 3 + j2) * 5 + j3 / 64) ≤ 255 ∧ S 8 ((j1 * 3 + j2) * 5 + j3 / 64 + 1) ≤ 255 := ⟨ok8 _, ok8 _⟩
    refine lv_aload_n G.1 G.2.1 dX0_joined_34 rfl (lv_at hl 0 rfl) ?_
    refine gx_get G hX (by decide +kernel) 8 (by decide) (by decide +kernel) rfl rfl rfl dX0_joined_35 ?_
    refine lv_iload_n G.1 G.2.1 dX0_joined_38 rfl (lv_at hl 1 rfl) ?_
    refine lv_iconst (v := nI 3) G.1 G.2.1 dX0_joined_39 (by decide) ?_
    refine gn_imul G dX0_joined_40 ?_
    refine lv_iload_n G.1 G.2.1 dX0_joined_41 rfl (lv_at hl 2 rfl) ?_
    refine gn_iadd G dX0_joined_42 ?_
    refine lv_iconst (v := nI 5) G.1 G.2.1 dX0_joined_43 (by decide) ?_
    refine gn_imul G dX0_joined_44 ?_
    refine lv_iload_n G.1 G.2.1 dX0_joined_45 rfl (lv_at hl 3 rfl) ?_
    refine gc_s (As := [.ref (q 8), .int (nI (((j1 * 3) + j2) * 5)), .int (nI j3)]) (rest := []) G.fix (mX0_between l D (q 8) cI 90 (S 8) (((j1 * 3) + j2) * 5) j3 (by first | omega | assumption | exact ok6 _ | apply hq) (by first | omega | assumption | exact ok6 _ | apply hq) (by first | assumption | (intro j; omega))) (va_cwS 3 G.2.2.2.2.2.1 gX0_joined_X0_between rfl rfl rfl (by decide +kernel) ⟨Nat.le_of_ble_eq_true rfl, Nat.le_of_ble_eq_true rfl⟩) rAt_blind (fun U hU hW => by rw [hU]; exact (hX.row 7 rfl).moved hW) rfl hl.1 rfl (Nat.le_of_ble_eq_true rfl) dX0_joined_46 (Nat.zero_le _) (Nat.zero_le _) (fun r hr => ?_)
    subst hr
    exact vx_ret (W.widen (k := 1) (n := 6) (Nat.zero_le _) (Nat.zero_le _) (W.iret G.1 G.2.1 G.2.2.1 (fun t ht hW => gQx_of hX hS ht ⟨(by simp [sA_joined, hA1, hA2, hg1, hg2, hg3]), (by simp [sB_joined, hB3, hg1, hg2, hg3]), (by simp [sC_joined, hC1, hg1, hg2, hg3]), (by show nI _ = nI _; simp only [sR_joined, hg1, hg2, hg3]), (by simp only [sN_joined, hg1, hg2, hg3]), (by simp only [sS_joined, hg1, hg2, hg3])⟩) hS.2.2 dX0_joined_49 G.2.2.2.2.2.2))
  · exact gx_throw (text := "the chain is not joined") G hx0 hst (by decide +kernel) (by decide +kernel) (by decide +kernel) (by decide +kernel) gx_not_IS gx_good_IS (by decide +kernel) hZ0 hS hl.1 dX0_joined_24 dX0_joined_27 dX0_joined_28 dX0_joined_30 dX0_joined_33 (Nat.le_of_ble_eq_true rfl) (Nat.le_of_ble_eq_true rfl) (Nat.le_of_ble_eq_true rfl) (Nat.le_of_ble_eq_true rfl) (fun t _ hz hk => ⟨Or.inr (Or.inr ⟨rfl, (by simp [sA_joined, hA1, hA2, hg1, hg2, hg3]), (by simp [sB_joined, hB3, hg1, hg2, hg3]), (by simp [sC_joined, hg1, hg2, hg3, h_21] <;> omega)⟩), gXx_of hX hS hz hk⟩) hS.2.2 (by decide) (by decide)
set_option maxRecDepth 100000 in
set_option maxHeartbeats 4000000 in
/-- sign -/
theorem mX0_sign (l : Launch) (hst : l.stackTraces = false) (D : va_G) (q : Nat → Nat) (cI : ClassId) (N : Nat → Nat) (S : Nat → Nat → Nat) (tr : Nat → Nat) (A : Nat → Prop) (hok : sp_ok N S) (hinv : sp_inv N S) (i1 : Int32) : vx_Met l yX0_sign wsX0_sign { frames := 7, cells := 1, slots := 6, locals := 103 } (va_Pc [.ref (q 0), .int i1] (fun U => xAt D q cI N S tr A U U.heap)) (gQx D q cI (fun r N2 S2 => sA_sign N S i1 = true ∧ sB_sign N S i1 = true ∧ sC_sign N S i1 = true ∧ r = nI (sR_sign N S i1) ∧ N2 = sN_sign N S i1 ∧ S2 = sS_sign N S i1) A) (gXx D q cI N S A (gE3 (sA_sign N S i1) (sB_sign N S i1) (sC_sign N S i1))) 1 6 A := by
  refine gc_vxmet [.ref (q 0), .int i1] (by decide) rfl (Nat.le_of_ble_eq_true rfl) rfl ?_
  intro p e s m below meth c ls G hx0 hl hX
  have hZ0 := hX.2.2.2
  have hS : va_S A s.heap s.heap [] := va_S.rf
  have hok9 := hok
  obtain ⟨⟨ok0, ok5⟩, ok1, ok2, ok3, ok4, ok6, ok7, ok8, ok12, ok13, ok14⟩ := hok9
  have hN := hinv.2.2.2.1
  have hN9 := hinv.2.2.1
  refine lv_aload_n G.1 G.2.1 dX0_sign_0 rfl (lv_at hl 0 rfl) ?_
  refine lv_iload_n G.1 G.2.1 dX0_sign_1 rfl (lv_at hl 1 rfl) ?_
  refine gc_needT (vx_runV (As := [.int i1]) (rest := []) G.fix (mX0_needChain l hst D q cI N S tr A hok i1) (cwV 1 G.2.2.2.2.2.1 gX0_sign_X0_needChain rfl rfl rfl (by decide +kernel) ⟨Nat.le_of_ble_eq_true rfl, Nat.le_of_ble_eq_true rfl⟩) ⟨xAt_blind, va_recv hX.2.1 hX.1 (ci := 0) (q0 := 0) rfl rfl, fun U hU hW => ⟨rfl, by show xAt _ _ _ _ _ _ _ U U.heap; rw [hU]; exact hX.moved hW⟩⟩ rfl rfl hl.1 rfl (lv_room (Nat.le_of_ble_eq_true rfl)) dX0_sign_2 ⟨Nat.le_of_ble_eq_true rfl, Nat.le_of_ble_eq_true rfl⟩) hx0 G.2.2.2.2.2.2 (fun E t hE hz hk _ => ⟨Or.inl ⟨hE.1, (by simp [sA_sign, hE.2] <;> omega)⟩, gXx_of hX hS hz hk⟩) hS.2.2 (by decide) (by decide) (fun hA1 => ?_)
  obtain ⟨j1, hj1, rfl⟩ := gb_of (by omega) hA1
  have hg1 := gn_nI (show j1 < 2 ^ 31 by omega)
  refine lv_aload_n G.1 G.2.1 dX0_sign_5 rfl (lv_at hl 0 rfl) ?_
  have hxl : N 10 ^^^ 2 ^ j1 < 2 ^ 31 := Nat.lt_trans (Nat.xor_lt_two_pow (n := 6) hN (Nat.pow_lt_pow_right (by decide) (by omega))) (by decide)
  refine lv_aload_n G.1 G.2.1 dX0_sign_6 rfl (lv_at hl 0 rfl) ?_
  refine gx_get G hX (by decide +kernel) 10 (by decide) (by decide +kernel) rfl rfl rfl dX0_sign_7 ?_
  refine lv_iconst (v := nI 1) G.1 G.2.1 dX0_sign_10 (by decide) ?_
  refine lv_iload_n G.1 G.2.1 dX0_sign_11 rfl (lv_at hl 1 rfl) ?_
  refine gn_ishl G dX0_sign_12 (by omega) ?_
  refine gn_ixor G dX0_sign_13 ?_
  refine gx_put (k := 10) (N' := (gu N 10 ((N 10) ^^^ (2 ^ j1)))) G hZ0 hX hS (by decide +kernel) (by decide) (by decide +kernel) rfl rfl (by decide +kernel) rfl (Nat.le_of_ble_eq_true rfl) rfl dX0_sign_14 (fun H1 locs1 hX hS => ?_)
  refine lv_aload_n G.1 G.2.1 dX0_sign_17 rfl (lv_at hl 0 rfl) ?_
  refine gx_get G hX (by decide +kernel) 10 (by decide) (by decide +kernel) rfl rfl rfl dX0_sign_18 ?_
  refine lv_iload_n G.1 G.2.1 dX0_sign_21 rfl (lv_at hl 1 rfl) ?_
  refine gc_s (As := [.int (nI (((N 10) ^^^ (2 ^ j1)))), .int (nI j1)]) (rest := []) G.fix (mX0_hasBit l (((N 10) ^^^ (2 ^ j1))) j1 (by first | omega | assumption | exact ok6 _ | apply hq) (by omega)) (va_cwS 2 G.2.2.2.2.2.1 gX0_sign_X0_hasBit rfl rfl rfl (by decide +kernel) ⟨Nat.le_of_ble_eq_true rfl, Nat.le_of_ble_eq_true rfl⟩) gc_blindT (fun _ _ _ => trivial) rfl hl.1 rfl (Nat.le_of_ble_eq_true rfl) dX0_sign_22 (Nat.zero_le _) (Nat.zero_le _) (fun r hr => ?_)
  subst hr
  have hX := xAt_free10 (F := gu (S 10) j1 (1 - S 10 j1)) hX
  exact vx_ret (W.widen (k := 1) (n := 6) (Nat.zero_le _) (Nat.zero_le _) (W.zret G.1 G.2.1 G.2.2.1 (gp_narrow_z _ _) (fun t ht hW => gQx_of hX hS ht ⟨(by simp [sA_sign, hA1, hg1]), rfl, rfl, (by show nI _ = nI _; rw [sR_sign, hg1]; exact congrArg nI (sp_xor_bit _ _)), (by simp only [sN_sign, hg1]), (by simp only [sS_sign, hg1])⟩) hS.2.2 dX0_sign_25 G.2.2.2.2.2.2))
set_option maxRecDepth 100000 in
set_option maxHeartbeats 4000000 in
/-- shown -/
theorem mX0_shown (l : Launch) (hst : l.stackTraces = false) (D : va_G) (q : Nat → Nat) (cI : ClassId) (N : Nat → Nat) (S : Nat → Nat → Nat) (tr : Nat → Nat) (A : Nat → Prop) (hok : sp_ok N S) (hinv : sp_inv N S) (i1 i2 i3 i4 : Int32) : vx_Met l yX0_shown wsX0_shown { frames := 7, cells := 1, slots := 6, locals := 124 } (va_Pc [.ref (q 0), .int i1, .int i2, .int i3, .int i4] (fun U => xAt D q cI N S tr A U U.heap)) (gQx D q cI (fun r N2 S2 => sA_shown N S i1 i2 i3 i4 = true ∧ sB_shown N S i1 i2 i3 i4 = true ∧ sC_shown N S i1 i2 i3 i4 = true ∧ r = nI (sR_shown N S i1 i2 i3 i4) ∧ N2 = sN_shown N S i1 i2 i3 i4 ∧ S2 = sS_shown N S i1 i2 i3 i4) A) (gXx D q cI N S A (gE3 (sA_shown N S i1 i2 i3 i4) (sB_shown N S i1 i2 i3 i4) (sC_shown N S i1 i2 i3 i4))) 1 6 A := by
  refine gc_vxmet [.ref (q 0), .int i1, .int i2, .int i3, .int i4] (by decide) rfl (Nat.le_of_ble_eq_true rfl) rfl ?_
  intro p e s m below meth c ls G hx0 hl hX
  have hZ0 := hX.2.2.2
  have hS : va_S A s.heap s.heap [] := va_S.rf
  have hok9 := hok
  obtain ⟨⟨ok0, ok5⟩, ok1, ok2, ok3, ok4, ok6, ok7, ok8, ok12, ok13, ok14⟩ := hok9
  have hN := hinv.2.2.2.1
  have hN9 := hinv.2.2.1
  refine lv_aload_n G.1 G.2.1 dX0_shown_0 rfl (lv_at hl 0 rfl) ?_
  refine lv_iload_n G.1 G.2.1 dX0_shown_1 rfl (lv_at hl 1 rfl) ?_
  refine gc_needT (vx_runV (As := [.int i1]) (rest := []) G.fix (mX0_needChain l hst D q cI N S tr A hok i1) (cwV 1 G.2.2.2.2.2.1 gX0_shown_X0_needChain rfl rfl rfl (by decide +kernel) ⟨Nat.le_of_ble_eq_true rfl, Nat.le_of_ble_eq_true rfl⟩) ⟨xAt_blind, va_recv hX.2.1 hX.1 (ci := 0) (q0 := 0) rfl rfl, fun U hU hW => ⟨rfl, by show xAt _ _ _ _ _ _ _ U U.heap; rw [hU]; exact hX.moved hW⟩⟩ rfl rfl hl.1 rfl (lv_room (Nat.le_of_ble_eq_true rfl)) dX0_shown_2 ⟨Nat.le_of_ble_eq_true rfl, Nat.le_of_ble_eq_true rfl⟩) hx0 G.2.2.2.2.2.2 (fun E t hE hz hk _ => ⟨Or.inl ⟨hE.1, (by simp [sA_shown, hE.2] <;> omega)⟩, gXx_of hX hS hz hk⟩) hS.2.2 (by decide) (by decide) (fun hA1 => ?_)
  obtain ⟨j1, hj1, rfl⟩ := gb_of (by omega) hA1
  have hg1 := gn_nI (show j1 < 2 ^ 31 by omega)
  refine lv_iload_n G.1 G.2.1 dX0_shown_5 rfl (lv_at hl 2 rfl) ?_
  refine gc_needT (vx_runS (As := [.int i2]) (rest := []) G.fix (mX0_needPixel l hst i2) (va_cwS 1 G.2.2.2.2.2.1 gX0_shown_X0_needPixel rfl rfl rfl (by decide +kernel) ⟨Nat.le_of_ble_eq_true rfl, Nat.le_of_ble_eq_true rfl⟩) ⟨gZ_blind, fun U hU hW => ⟨rfl, by show gZ _ U U.heap; rw [hU]; exact hX.2.2.2.none.moved hW⟩⟩ rfl rfl hl.1 rfl (lv_room (Nat.le_of_ble_eq_true rfl)) dX0_shown_6 ⟨Nat.le_of_ble_eq_true rfl, Nat.le_of_ble_eq_true rfl⟩) hx0 G.2.2.2.2.2.2 (fun E t hE hz hk _ => ⟨Or.inl ⟨hE.1, (by simp [sA_shown, hA1, hg1, hE.2] <;> omega)⟩, gXx_of hX hS hz hk⟩) hS.2.2 (by decide) (by decide) (fun hA2 => ?_)
  obtain ⟨j2, hj2, rfl⟩ := gb_of (by omega) hA2
  have hg2 := gn_nI (show j2 < 2 ^ 31 by omega)
  refine lv_iload_n G.1 G.2.1 dX0_shown_9 rfl (lv_at hl 3 rfl) ?_
  refine gc_needT (vx_runS (As := [.int i3]) (rest := []) G.fix (mX0_needBand l hst i3) (va_cwS 1 G.2.2.2.2.2.1 gX0_shown_X0_needBand rfl rfl rfl (by decide +kernel) ⟨Nat.le_of_ble_eq_true rfl, Nat.le_of_ble_eq_true rfl⟩) ⟨gZ_blind, fun U hU hW => ⟨rfl, by show gZ _ U U.heap; rw [hU]; exact hX.2.2.2.none.moved hW⟩⟩ rfl rfl hl.1 rfl (lv_room (Nat.le_of_ble_eq_true rfl)) dX0_shown_10 ⟨Nat.le_of_ble_eq_true rfl, Nat.le_of_ble_eq_true rfl⟩) hx0 G.2.2.2.2.2.2 (fun E t hE hz hk _ => ⟨Or.inl ⟨hE.1, (by simp [sA_shown, hA1, hA2, hg1, hg2, hE.2] <;> omega)⟩, gXx_of hX hS hz hk⟩) hS.2.2 (by decide) (by decide) (fun hA3 => ?_)
  obtain ⟨j3, hj3, rfl⟩ := gb_of (by omega) hA3
  have hg3 := gn_nI (show j3 < 2 ^ 31 by omega)
  refine lv_iload G.1 G.2.1 dX0_shown_13 (lv_at hl 4 rfl) ?_
  refine lv_if_lt (tgt := 25) G.1 G.2.1 dX0_shown_15 (by decide) (fun h_15 => ?_) (fun h_15 => ?_)
  · exact gx_throw (text := "no such set of inks") G hx0 hst (by decide +kernel) (by decide +kernel) (by decide +kernel) (by decide +kernel) gx_not_IA gx_good_IA (by decide +kernel) hZ0 hS hl.1 dX0_shown_25 dX0_shown_28 dX0_shown_29 dX0_shown_31 dX0_shown_34 (Nat.le_of_ble_eq_true rfl) (Nat.le_of_ble_eq_true rfl) (Nat.le_of_ble_eq_true rfl) (Nat.le_of_ble_eq_true rfl) (fun t _ hz hk => ⟨Or.inr (Or.inl ⟨rfl, (by simp [sA_shown, hA1, hA2, hA3, hg1, hg2, hg3]), by show gb i4 8 = false; first | exact gb_neg (by assumption) | exact gb_nle7 (by assumption)⟩), gXx_of hX hS hz hk⟩) hS.2.2 (by decide) (by decide)
  · refine lv_iload G.1 G.2.1 dX0_shown_18 (lv_at hl 4 rfl) ?_
    refine lv_bipush (v := nI 7) G.1 G.2.1 dX0_shown_20 (by decide) ?_
    refine lv_icmp_le (tgt := 35) G.1 G.2.1 dX0_shown_22 (by decide) (fun h_22 => ?_) (fun h_22 => ?_)
    · have hB4 : gb i4 8 = true := gb_le7 h_15 h_22
      obtain ⟨j4, hj4, rfl⟩ := gb_of (by omega) hB4
      have hg4 := gn_nI (show j4 < 2 ^ 31 by omega)
      have hq := sp_ink_le (px := j2) (bd := j3) (ks := j4) hok
      refine lv_aload_n G.1 G.2.1 dX0_shown_35 rfl (lv_at hl 0 rfl) ?_
      refine lv_iload_n G.1 G.2.1 dX0_shown_36 rfl (lv_at hl 1 rfl) ?_
      refine lv_iload_n G.1 G.2.1 dX0_shown_37 rfl (lv_at hl 3 rfl) ?_
      refine lv_aload_n G.1 G.2.1 dX0_shown_38 rfl (lv_at hl 0 rfl) ?_
      refine lv_iload_n G.1 G.2.1 dX0_shown_39 rfl (lv_at hl 2 rfl) ?_
      refine lv_iload_n G.1 G.2.1 dX0_shown_40 rfl (lv_at hl 3 rfl) ?_
      refine lv_iload G.1 G.2.1 dX0_shown_41 (lv_at hl 4 rfl) ?_
      refine gc_v (As := [.int (nI j2), .int (nI j3), .int (nI j4)]) (rest := [.int (nI j3), .int (nI j1), .ref (q 0)]) G.fix (mX0_inked l D q cI N S tr A j2 j3 j4 hok (by first | omega | assumption | exact ok6 _ | apply hq) (by first | omega | assumption | exact ok6 _ | apply hq) (by first | omega | assumption | exact ok6 _ | apply hq)) (cwV 3 G.2.2.2.2.2.1 gX0_shown_X0_inked rfl rfl rfl (by decide +kernel) ⟨Nat.le_of_ble_eq_true rfl, Nat.le_of_ble_eq_true rfl⟩) xAt_blind (va_recv hX.2.1 hX.1 (ci := 0) (q0 := 0) rfl rfl) (fun U hU hW => by rw [hU]; exact hX.moved hW) rfl hl.1 rfl (Nat.le_of_ble_eq_true rfl) dX0_shown_43 (Nat.zero_le _) (Nat.zero_le _) (fun r hr => ?_)
      subst hr
      refine gc_v (As := [.int (nI j1), .int (nI j3), .int (nI (sp_ink S j2 j3 j4))]) (rest := []) G.fix (mX0_pass l D q cI N S tr A j1 j3 (sp_ink S j2 j3 j4) hok (by first | omega | assumption | exact ok6 _ | apply hq) (by first | omega | assumption | exact ok6 _ | apply hq) (by first | omega | assumption | exact ok6 _ | apply hq)) (cwV 3 G.2.2.2.2.2.1 gX0_shown_X0_pass rfl rfl rfl (by decide +kernel) ⟨Nat.le_of_ble_eq_true rfl, Nat.le_of_ble_eq_true rfl⟩) xAt_blind (va_recv hX.2.1 hX.1 (ci := 0) (q0 := 0) rfl rfl) (fun U hU hW => by rw [hU]; exact hX.moved hW) rfl hl.1 rfl (Nat.le_of_ble_eq_true rfl) dX0_shown_46 (Nat.zero_le _) (Nat.zero_le _) (fun r hr => ?_)
      subst hr
      exact vx_ret (W.widen (k := 1) (n := 6) (Nat.zero_le _) (Nat.zero_le _) (W.iret G.1 G.2.1 G.2.2.1 (fun t ht hW => gQx_of hX hS ht ⟨(by simp [sA_shown, hA1, hA2, hA3, hg1, hg2, hg3, hg4]), (by simp [sB_shown, hB4, hg1, hg2, hg3, hg4]), rfl, (by show nI _ = nI _; simp only [sR_shown, hg1, hg2, hg3, hg4]), (by simp only [sN_shown, hg1, hg2, hg3, hg4]), (by simp only [sS_shown, hg1, hg2, hg3, hg4])⟩) hS.2.2 dX0_shown_49 G.2.2.2.2.2.2))
    · exact gx_throw (text := "no such set of inks") G hx0 hst (by decide +kernel) (by decide +kernel) (by decide +kernel) (by decide +kernel) gx_not_IA gx_good_IA (by decide +kernel) hZ0 hS hl.1 dX0_shown_25 dX0_shown_28 dX0_shown_29 dX0_shown_31 dX0_shown_34 (Nat.le_of_ble_eq_true rfl) (Nat.le_of_ble_eq_true rfl) (Nat.le_of_ble_eq_true rfl) (Nat.le_of_ble_eq_true rfl) (fun t _ hz hk => ⟨Or.inr (Or.inl ⟨rfl, (by simp [sA_shown, hA1, hA2, hA3, hg1, hg2, hg3]), by show gb i4 8 = false; first | exact gb_neg (by assumption) | exact gb_nle7 (by assumption)⟩), gXx_of hX hS hz hk⟩) hS.2.2 (by decide) (by decide)
end
section
/-! the class's calls with loops of their own -/
theorem xAt_cast {D : va_G} {q : Nat → Nat} {cI : ClassId} {N N' : Nat → Nat} {S S' : Nat → Nat → Nat} {tr tr' : Nat → Nat} {A : Nat → Prop} {s : State} {H : Heap} (e : xw q cI N S tr = xw q cI N' S' tr') (h : xAt D q cI N S tr A s H) : xAt D q cI N' S' tr' A s H := by
  unfold xAt at h ⊢
  rw [← e]
  exact h
theorem va_D_fst {A : Nat → Prop} {ws ws' : va_W} (e : ws.map (fun x => x.1) = ws'.map (fun x => x.1)) (h : va_D A ws) : va_D A ws' := by
  have at' : ∀ (i : Nat) (p : Nat × va_E), ws'[i]? = some p → ∃ p0, ws[i]? = some p0 ∧ p0.1 = p.1 := by
    intro i p hp
    have h1 : (ws.map (fun x => x.1))[i]? = some p.1 := by rw [e, List.getElem?_map, hp]; rfl
    rw [List.getElem?_map] at h1
    cases hi : ws[i]? with
    | none => rw [hi] at h1; cases h1
    | some p0 => rw [hi] at h1; exact ⟨p0, rfl, Option.some.inj h1⟩
  refine ⟨fun i j p q hi hj hpq => ?_, fun k q hk => ?_⟩
  · obtain ⟨p0, h1, e1⟩ := at' i p hi
    obtain ⟨q0, h2, e2⟩ := at' j q hj
    exact h.1 i j p0 q0 h1 h2 (by rw [e1, e2, hpq])
  · obtain ⟨q0, h1, e1⟩ := at' k q hk
    rw [← e1]
    exact h.2 k q0 h1
/-- what a call does that writes and doesn't throw -/
def gQt (D : va_G) (q : Nat → Nat) (cI : ClassId) (N : Nat → Nat) (S : Nat → Nat → Nat) (tr : Nat → Nat) (r : Int32) (A : Nat → Prop) : Array Value → State → Outcome → State → Prop := fun _ st oc t =>
  oc = .returned (some (.int r)) ∧ va_P D vwCl (xw q cI N S tr) t.heap ∧ va_F A st t
section GM
variable {p : Program} {l : Launch} {e : Env} {R : Room} {s : State} {m : MethodId} {args : Array Value} {below : List Frame} {meth : Method} {c : Code} {H : Heap} {locs : List Loc} {cells slots : Nat} {Q : State → Prop}
variable {y : MethodName} {bytes cc : ByteArray} {maxL nL n index pc : Nat} {ret : Option FieldType} {ws ws' : List Cond} {rm : Room} {Ts : List Cond} {own C : String} {As rest st0 : List Value} {ls : Array Slot} {a b : Nat}
variable {D : va_G} {q : Nat → Nat} {cI : ClassId} {N N' : Nat → Nat} {S S' : Nat → Nat → Nat} {tr tr' : Nat → Nat} {A : Nat → Prop} {r : Int32}
theorem gx_mut (G : CallFix p m c cc nL s args Ts own) (hM : Met l y ws rm (va_Pc (.ref (q 0) :: As) (fun U => xAt D q cI N S tr A U U.heap)) (gQt D q cI N' S' tr' r A) 0 0 A) (cw : CallW R s args own RX0 index y bytes maxL ret ws rm 0 0 n)
    (hZ0 : gZ A s s.heap) (hX : xAt D q cI N S tr A s H) (hS : va_S A s.heap H locs) (hn : As.length = n) (hsz : ls.size = nL) (hst : st0 = As.reverse ++ .ref (q 0) :: rest) (hW : (rest.map fun v => v.category).sum ≤ 8) (hdg : decode cc pc = .ok (.invokevirtual index, 3)) (hc : cells ≤ R.cells) (hs : slots ≤ R.slots)
    (kk : ∀ (H1 : Heap) (locs1 : List Loc), xAt D q cI N' S' tr' A s H1 → va_S A s.heap H1 locs1 → W p l e R s m args below meth c H1 locs1 cells slots Q (F0 m (pc + 3) ls (.int r :: rest))) : W p l e R s m args below meth c H locs cells slots Q (F0 m pc ls st0) := by
  intro T hT X
  obtain ⟨v9, st₀, t, T', L, h0, X', hL, e1, ⟨hv, hP1, hz, hk⟩, st⟩ := W.runV (As := As) (rest := rest) (g := F0 m pc ls st0) G hM cw ⟨xAt_blind, va_recv hX.2.1 hX.1 (ci := 0) (q0 := 0) rfl rfl, fun U hU hW => ⟨rfl, by show xAt _ _ _ _ _ _ _ U U.heap; rw [hU]; exact hX.moved hW⟩⟩ rfl hn hsz hst (lv_room hW) hdg ⟨hc, hs⟩ T hT X
  cases hv
  rw [h0] at hz hk
  have hS2 : va_S A s.heap t.heap (locs ++ L) := ⟨Nat.le_trans hS.1 hz, fun z h1 h2 => by rw [hk z (Nat.lt_of_lt_of_le h1 hS.1) h2]; exact hS.2.1 z h1 h2, fun z hz2 => by
    rcases List.mem_append.mp hz2 with h | h
    · exact hS.2.2 z h
    · exact hL z h⟩
  obtain ⟨t2, a1, b1⟩ := kk t.heap _ ⟨hP1, hX.2.1, va_D_fst (ws := xw q cI N S tr) rfl hX.2.2.1, hZ0.kept (fun z h1 h2 => hS2.2.1 z h1 h2)⟩ hS2 T' e1 X'
  exact ⟨t2, st t2 a1, b1⟩
theorem gr_absd (G : gF p s m args meth c cc ret nL RX0 ws) (hsz : ls.size = nL) {ix : Nat} (hlink : Cond.methodLink RX0 ix Lib.Math.abs.name ∈ ws) (hstat : Cond.static Lib.Math.abs.name ∈ ws) (hini : Cond.initialized "java/lang/Math" ∈ ws) (hcode : Cond.code Lib.Math.abs.name Lib.Math.abs.code 1 (some .int) ∈ ws)
    (hframes : 1 ≤ R.frames) (hlocals : (rest.map fun v => v.category).sum + 13 ≤ R.locals) (hc : cells ≤ R.cells) (hs : slots ≤ R.slots) (ha : a ≤ 255) (hb : b ≤ 255) (hdg : decode cc pc = .ok (.invokestatic ix, 3))
    (kk : W p l e R s m args below meth c H locs cells slots Q (F0 m (pc + 3) ls (.int (nI (sp_ap a b)) :: rest))) : W p l e R s m args below meth c H locs cells slots Q (F0 m pc ls (.int (nI a - nI b) :: rest)) :=
  va_mabs G.1 G.2.1 (G.2.2.2.1.trans hsz.symm) G.2.2.2.2.1 (G.2.2.2.2.2.1 _ hlink) (G.2.2.2.2.2.1 _ hstat) (G.2.2.2.2.2.1 _ hini) (G.2.2.2.2.2.1 _ hcode) hframes hlocals hc hs hdg (by
    have hd : (nI a - nI b).toInt = (a : Int) - b := pk_sub_toInt (by omega) (by omega)
    have e : (if 0 ≤ nI a - nI b then nI a - nI b else 0 - (nI a - nI b)) = nI (sp_ap a b) := by
      unfold sp_ap
      by_cases h : 0 ≤ nI a - nI b
      · have h2 := Int32.le_iff_toInt_le.mp h
        have h3 : (0 : Int32).toInt = 0 := rfl
        rw [if_pos h, if_neg (by omega), pk_sub (by omega)]
      · have h2 : ¬ (0 : Int32).toInt ≤ (nI a - nI b).toInt := fun z => h (Int32.le_iff_toInt_le.mpr z)
        have h3 : (0 : Int32).toInt = 0 := rfl
        rw [if_neg h, if_pos (by omega)]
        refine gp_nat (by omega) ?_
        rw [fb_subI (by omega) (by omega), hd]
        omega
    rw [e]; exact kk)
end GM
def sp_newTo (N : Nat → Nat) (S : Nat → Nat → Nat) (a b : Nat) : Nat → Nat → Nat := gs (gs S 1 (sp_fill (S 1) (N 0 * 15) a)) 3 (sp_fill2 (S 3) (N 0 * 3) b)
theorem sp_fill_s {F : Nat → Nat} {n x1 x2 : Nat} (h : x2 < 5) : gu (sp_fill F (n * 15) (x1 * 5 + x2)) ((n * 3 + x1) * 5 + x2) (sp_vop x2) = sp_fill F (n * 15) (x1 * 5 + (x2 + 1)) := by
  show _ = gu (sp_fill F (n * 15) (x1 * 5 + x2)) (n * 15 + (x1 * 5 + x2)) (sp_vop ((x1 * 5 + x2) % 5))
  rw [show n * 15 + (x1 * 5 + x2) = (n * 3 + x1) * 5 + x2 from by omega, show (x1 * 5 + x2) % 5 = x2 from by omega]
theorem sp_trTo_s {S : Nat → Nat → Nat} {ch x1 x2 : Nat} {tr : Nat → Nat} (h : x2 < 5) : gu (sp_trTo S ch tr (x1 * 5 + x2)) (x1 * 5 + x2) (sp_pass S ch x1 (sp_vop x2)) = sp_trTo S ch tr (x1 * 5 + (x2 + 1)) := by
  show _ = gu (sp_trTo S ch tr (x1 * 5 + x2)) (x1 * 5 + x2) (sp_pass S ch ((x1 * 5 + x2) / 5) (sp_vop ((x1 * 5 + x2) % 5)))
  rw [show (x1 * 5 + x2) / 5 = x1 from by omega, show (x1 * 5 + x2) % 5 = x2 from by omega]
theorem sp_trTo_at {S : Nat → Nat → Nat} {ch : Nat} {tr : Nat → Nat} : ∀ {n j : Nat}, j < n → sp_trTo S ch tr n j = sp_pass S ch (j / 5) (sp_vop (j % 5))
  | 0, j, h => absurd h (Nat.not_lt_zero j)
  | n + 1, j, h => by
    show gu (sp_trTo S ch tr n) n _ j = _
    by_cases e : j = n
    · rw [e, gu_same]
    · rw [gu_other _ _ e]
      exact sp_trTo_at (by omega)
theorem sp_btw_tr {S : Nat → Nat → Nat} {ch x1 v : Nat} {tr : Nat → Nat} (hv : v ≤ 255) : sp_btw (sp_trTo S ch tr (x1 * 5 + 5)) (x1 * 5) v = sp_btw (fun k => sp_pass S ch x1 (sp_vop k)) 0 v := by
  unfold sp_btw
  rw [sp_trTo_at (by omega), sp_trTo_at (by omega), show (x1 * 5 + v / 64) / 5 = x1 from by omega, show (x1 * 5 + v / 64) % 5 = 0 + v / 64 from by omega, show (x1 * 5 + v / 64 + 1) / 5 = x1 from by omega, show (x1 * 5 + v / 64 + 1) % 5 = 0 + v / 64 + 1 from by omega]
theorem sp_gapTo_s {S : Nat → Nat → Nat} {ch x1 x3 : Nat} {tr : Nat → Nat} (h : x3 < 256) : sp_gapTo S ch (x1 * 256 + (x3 + 1)) = max (sp_gapTo S ch (x1 * 256 + x3)) (sp_ap (sp_pass S ch x1 x3) (sp_btw (sp_trTo S ch tr (x1 * 5 + 5)) (x1 * 5) x3)) := by
  show max (sp_gapTo S ch (x1 * 256 + x3)) (sp_gapAt S ch ((x1 * 256 + x3) / 256) ((x1 * 256 + x3) % 256)) = _
  rw [show (x1 * 256 + x3) / 256 = x1 from by omega, show (x1 * 256 + x3) % 256 = x3 from by omega, sp_btw_tr (by omega)]
  rfl
theorem sp_ap_le {a b : Nat} (ha : a ≤ 255) (hb : b ≤ 255) : sp_ap a b ≤ 255 := by unfold sp_ap; split <;> omega
theorem sp_gapTo_le {N : Nat → Nat} {S : Nat → Nat → Nat} {ch : Nat} (h : sp_ok N S) : ∀ n, sp_gapTo S ch n ≤ 255
  | 0 => Nat.zero_le _
  | n + 1 => by
    have h1 := sp_gapTo_le (ch := ch) h n
    have h2 : sp_gapAt S ch (n / 256) (n % 256) ≤ 255 := sp_ap_le (sp_pass_le h (by omega)) (sp_btw_le (fun j => sp_pass_le h sp_vop_le) (by omega))
    exact Nat.max_le.mpr ⟨h1, h2⟩
theorem sp_mn_le (S : Nat → Nat → Nat) (ch v : Nat) : ∀ k, sp_mn S ch v k ≤ 255
  | 0 => Nat.le_refl _
  | k + 1 => Nat.le_trans (Nat.min_le_left _ _) (sp_mn_le S ch v k)
theorem sp_mx_le {N : Nat → Nat} {S : Nat → Nat → Nat} {ch v : Nat} (h : sp_ok N S) (hv : v ≤ 255) : ∀ k, sp_mx S ch v k ≤ 255
  | 0 => Nat.zero_le _
  | k + 1 => Nat.max_le.mpr ⟨sp_mx_le h hv k, sp_pass_le h hv⟩
theorem sp_mn_mx {N : Nat → Nat} {S : Nat → Nat → Nat} {ch v : Nat} (h : sp_ok N S) (hv : v ≤ 255) : ∀ {k : Nat}, 0 < k → sp_mn S ch v k ≤ sp_mx S ch v k
  | 0, h0 => absurd h0 (Nat.lt_irrefl 0)
  | k + 1, _ => Nat.le_trans (Nat.min_le_right _ _) (Nat.le_max_right _ _)
theorem sp_greyTo_le {N : Nat → Nat} {S : Nat → Nat → Nat} {ch : Nat} (h : sp_ok N S) : ∀ n, n ≤ 256 → sp_greyTo S ch n ≤ 255
  | 0, _ => Nat.zero_le _
  | n + 1, hn => Nat.max_le.mpr ⟨sp_greyTo_le h n (by omega), Nat.le_trans (Nat.sub_le _ _) (sp_mx_le h (by omega) 3)⟩
theorem sp_kp_s {S : Nat → Nat → Nat} {ch x1 : Nat} {tr : Nat → Nat} (h : x1 < 15) : gu (sp_kpTo S ch x1) (ch * 3 * 5 + x1) (sp_trTo S ch tr 15 x1) = sp_kpTo S ch (x1 + 1) := by
  show _ = gu (sp_kpTo S ch x1) (ch * 15 + x1) (sp_pass S ch (x1 / 5) (sp_vop (x1 % 5)))
  rw [sp_trTo_at h, show ch * 3 * 5 + x1 = ch * 15 + x1 from by omega]
set_option maxRecDepth 100000 in
set_option maxHeartbeats 4000000 in
/-- profile -/
theorem mX0_profile (l : Launch) (hst : l.stackTraces = false) (D : va_G) (q : Nat → Nat) (cI : ClassId) (N : Nat → Nat) (S : Nat → Nat → Nat) (tr : Nat → Nat) (A : Nat → Prop) (hok : sp_ok N S) (hinv : sp_inv N S) : vx_Met l yX0_profile wsX0_profile { frames := 6, cells := 1, slots := 6, locals := 82 } (va_Pc [.ref (q 0)] (fun U => xAt D q cI N S tr A U U.heap)) (gQx D q cI (fun r N2 S2 => sA_profile N S = true ∧ sB_profile N S = true ∧ sC_profile N S = true ∧ r = nI (sR_profile N S) ∧ N2 = sN_profile N S ∧ S2 = sS_profile N S) A) (gXx D q cI N S A (gE3 (sA_profile N S) (sB_profile N S) (sC_profile N S))) 1 6 A := by
  refine gc_vxmet [.ref (q 0)] (by decide) rfl (Nat.le_of_ble_eq_true rfl) rfl ?_
  intro p e s m below meth c ls G hx0 hl hX
  have hZ0 := hX.2.2.2
  have hS : va_S A s.heap s.heap [] := va_S.rf
  have hok9 := hok
  obtain ⟨⟨ok0, ok5⟩, ok1, ok2, ok3, ok4, ok6, ok7, ok8, ok12, ok13, ok14⟩ := hok9
  have hN := hinv.2.2.2.1
  have hN9 := hinv.2.2.1
  refine lv_aload_n G.1 G.2.1 dX0_profile_0 rfl (lv_at hl 0 rfl) ?_
  refine gx_get G hX (by decide +kernel) 0 (by decide) (by decide +kernel) rfl rfl rfl dX0_profile_1 ?_
  refine lv_bipush (v := nI 8) G.1 G.2.1 dX0_profile_4 (by decide) ?_
  refine gn_lt G (by omega) (by omega) (tgt := 19) dX0_profile_6 (by decide) (fun h_6 => ?_) (fun h_6 => ?_)
  · refine lv_aload_n G.1 G.2.1 dX0_profile_19 rfl (lv_at hl 0 rfl) ?_
    refine gx_get G hX (by decide +kernel) 0 (by decide) (by decide +kernel) rfl rfl rfl dX0_profile_20 ?_
    refine lv_istore_n (lv' := [(1, .int (nI (N 0))), (0, .ref (q 0))]) G.1 G.2.1 dX0_profile_23 rfl hl (by decide) rfl (fun ls hl => ?_)
    refine lv_iconst (v := nI 0) G.1 G.2.1 dX0_profile_24 (by decide) ?_
    refine lv_istore_n (lv' := [(2, .int (nI 0)), (1, .int (nI (N 0))), (0, .ref (q 0))]) G.1 G.2.1 dX0_profile_25 rfl hl (by decide) rfl (fun ls hl => ?_)
    have loop1 : ∀ (d1 x1 : Nat), x1 + d1 = 3 → ∀ (H9 : Heap) (locs9 : List Loc), xAt D q cI N ((sp_newTo N S (x1 * 5) (x1))) tr A s H9 → va_S A s.heap H9 locs9 → ∀ ls : Array Slot, lv_has ls 5 [(0, .ref (q 0)), (1, .int (nI (N 0))), (2, .int (nI x1))] → W p l e { frames := 6, cells := 1, slots := 6, locals := 82 } s m ([.ref (q 0)] : List Value).toArray below meth c H9 locs9 0 0 (vx_MQ below (gQx D q cI (fun r N2 S2 => sA_profile N S = true ∧ sB_profile N S = true ∧ sC_profile N S = true ∧ r = nI (sR_profile N S) ∧ N2 = sN_profile N S ∧ S2 = sS_profile N S) A) (gXx D q cI N S A (gE3 (sA_profile N S) (sB_profile N S) (sC_profile N S))) ([.ref (q 0)] : List Value).toArray s 1 6 A) (F0 m 26 ls []) := by
      intro d1
      induction d1 with
      | zero =>
        intro x1 hd1 H9 locs9 hX hS ls hl
        refine lv_iload_n G.1 G.2.1 dX0_profile_26 rfl (lv_at hl 2 rfl) ?_
        refine lv_iconst (v := nI 3) G.1 G.2.1 dX0_profile_27 (by decide) ?_
        refine gn_ge G (by omega) (by omega) (tgt := 99) dX0_profile_28 (by decide) (fun h_28 => ?_) (fun h_28 => absurd h_28 (by omega))
        refine lv_aload_n G.1 G.2.1 dX0_profile_99 rfl (lv_at hl 0 rfl) ?_
        refine gx_get G hX (by decide +kernel) 4 (by decide) (by decide +kernel) rfl rfl rfl dX0_profile_100 ?_
        refine lv_iload_n G.1 G.2.1 dX0_profile_103 rfl (lv_at hl 1 rfl) ?_
        refine lv_iconst (v := nI 0) G.1 G.2.1 dX0_profile_104 (by decide) ?_
        refine gx_swap (k := 4) (kp := 4) (len := 8) (F := S 4) (i := N 0) (v := 0) (S' := (sp_newTo N S (x1 * 5) (x1))) (tr' := tr) (rest := []) G.fix (mX0_swap l D (q 4) cI 8 (S 4) (N 0) 0 (by first | omega | assumption)) (va_cwS 3 G.2.2.2.2.2.1 gX0_profile_X0_swap rfl rfl rfl (by decide +kernel) ⟨Nat.le_of_ble_eq_true rfl, Nat.le_of_ble_eq_true rfl⟩) hX hS rfl (by rw [gu_id (hinv.2.1 _ (Nat.le_refl _))]; rfl) hl.1 rfl (Nat.le_of_ble_eq_true rfl) dX0_profile_105 (Nat.zero_le _) (Nat.zero_le _) (fun H1 locs1 hX hS => ?_)
        refine lv_pop G.1 G.2.1 dX0_profile_108 rfl ?_
        refine lv_aload_n G.1 G.2.1 dX0_profile_109 rfl (lv_at hl 0 rfl) ?_
        refine lv_dup G.1 G.2.1 dX0_profile_110 rfl ?_
        refine gx_get G hX (by decide +kernel) 0 (by decide) (by decide +kernel) rfl rfl rfl dX0_profile_111 ?_
        refine lv_iconst (v := nI 1) G.1 G.2.1 dX0_profile_114 (by decide) ?_
        refine gn_iadd G dX0_profile_115 ?_
        refine gx_put (k := 0) (N' := (gu N 0 ((N 0) + 1))) G hZ0 hX hS (by decide +kernel) (by decide) (by decide +kernel) rfl rfl (by decide +kernel) rfl (Nat.le_of_ble_eq_true rfl) rfl dX0_profile_116 (fun H1 locs1 hX hS => ?_)
        refine lv_iload_n G.1 G.2.1 dX0_profile_119 rfl (lv_at hl 1 rfl) ?_
        exact vx_ret (W.widen (k := 1) (n := 6) (Nat.zero_le _) (Nat.zero_le _) (W.iret G.1 G.2.1 G.2.2.1 (fun t ht hW => gQx_of hX hS ht ⟨rfl, rfl, (by simp [sC_profile, h_6]), (by show nI _ = nI _; simp only [sR_profile]), (by simp only [sN_profile]), (by rw [show x1 = 3 from by omega]; rfl)⟩) hS.2.2 dX0_profile_120 G.2.2.2.2.2.2))
      | succ d1 ih1 =>
        intro x1 hd1 H9 locs9 hX hS ls hl
        refine lv_iload_n G.1 G.2.1 dX0_profile_26 rfl (lv_at hl 2 rfl) ?_
        refine lv_iconst (v := nI 3) G.1 G.2.1 dX0_profile_27 (by decide) ?_
        refine gn_ge G (by omega) (by omega) (tgt := 99) dX0_profile_28 (by decide) (fun h_28 => absurd h_28 (by omega)) (fun h_28 => ?_)
        refine lv_iload_n G.1 G.2.1 dX0_profile_31 rfl (lv_at hl 1 rfl) ?_
        refine lv_iconst (v := nI 3) G.1 G.2.1 dX0_profile_32 (by decide) ?_
        refine gn_imul G dX0_profile_33 ?_
        refine lv_iload_n G.1 G.2.1 dX0_profile_34 rfl (lv_at hl 2 rfl) ?_
        refine gn_iadd G dX0_profile_35 ?_
        refine lv_istore_n (lv' := [(3, .int (nI (((N 0) * 3) + x1))), (0, .ref (q 0)), (1, .int (nI (N 0))), (2, .int (nI x1))]) G.1 G.2.1 dX0_profile_36 rfl hl (by decide) rfl (fun ls hl => ?_)
        refine lv_iconst (v := nI 0) G.1 G.2.1 dX0_profile_37 (by decide) ?_
        refine lv_istore (lv' := [(4, .int (nI 0)), (3, .int (nI (((N 0) * 3) + x1))), (0, .ref (q 0)), (1, .int (nI (N 0))), (2, .int (nI x1))]) G.1 G.2.1 dX0_profile_38 hl (by decide) rfl (fun ls hl => ?_)
        have loop2 : ∀ (d2 x2 : Nat), x2 + d2 = 5 → ∀ (H9 : Heap) (locs9 : List Loc), xAt D q cI N ((sp_newTo N S (x1 * 5 + x2) (x1))) tr A s H9 → va_S A s.heap H9 locs9 → ∀ ls : Array Slot, lv_has ls 5 [(0, .ref (q 0)), (1, .int (nI (N 0))), (2, .int (nI x1)), (3, .int (nI ((N 0) * 3 + x1))), (4, .int (nI x2))] → W p l e { frames := 6, cells := 1, slots := 6, locals := 82 } s m ([.ref (q 0)] : List Value).toArray below meth c H9 locs9 0 0 (vx_MQ below (gQx D q cI (fun r N2 S2 => sA_profile N S = true ∧ sB_profile N S = true ∧ sC_profile N S = true ∧ r = nI (sR_profile N S) ∧ N2 = sN_profile N S ∧ S2 = sS_profile N S) A) (gXx D q cI N S A (gE3 (sA_profile N S) (sB_profile N S) (sC_profile N S))) ([.ref (q 0)] : List Value).toArray s 1 6 A) (F0 m 40 ls []) := by
          intro d2
          induction d2 with
          | zero =>
            intro x2 hd2 H9 locs9 hX hS ls hl
            refine lv_iload G.1 G.2.1 dX0_profile_40 (lv_at hl 4 rfl) ?_
            refine lv_iconst (v := nI 5) G.1 G.2.1 dX0_profile_42 (by decide) ?_
            refine gn_ge G (by omega) (by omega) (tgt := 71) dX0_profile_43 (by decide) (fun h_43 => ?_) (fun h_43 => absurd h_43 (by omega))
            refine lv_aload_n G.1 G.2.1 dX0_profile_71 rfl (lv_at hl 0 rfl) ?_
            refine gx_get G hX (by decide +kernel) 2 (by decide) (by decide +kernel) rfl rfl rfl dX0_profile_72 ?_
            refine lv_iload_n G.1 G.2.1 dX0_profile_75 rfl (lv_at hl 3 rfl) ?_
            refine lv_iconst (v := nI 0) G.1 G.2.1 dX0_profile_76 (by decide) ?_
            refine gx_swap (k := 2) (kp := 2) (len := 24) (F := S 2) (i := (N 0) * 3 + x1) (v := 0) (S' := (sp_newTo N S (x1 * 5 + x2) (x1))) (tr' := tr) (rest := []) G.fix (mX0_swap l D (q 2) cI 24 (S 2) ((N 0) * 3 + x1) 0 (by first | omega | assumption)) (va_cwS 3 G.2.2.2.2.2.1 gX0_profile_X0_swap rfl rfl rfl (by decide +kernel) ⟨Nat.le_of_ble_eq_true rfl, Nat.le_of_ble_eq_true rfl⟩) hX hS rfl (by rw [gu_id (hinv.1 _ (by omega))]; rfl) hl.1 rfl (Nat.le_of_ble_eq_true rfl) dX0_profile_77 (Nat.zero_le _) (Nat.zero_le _) (fun H1 locs1 hX hS => ?_)
            refine lv_pop G.1 G.2.1 dX0_profile_80 rfl ?_
            refine lv_aload_n G.1 G.2.1 dX0_profile_81 rfl (lv_at hl 0 rfl) ?_
            refine gx_get G hX (by decide +kernel) 3 (by decide) (by decide +kernel) rfl rfl rfl dX0_profile_82 ?_
            refine lv_iload_n G.1 G.2.1 dX0_profile_85 rfl (lv_at hl 3 rfl) ?_
            refine lv_sipush (v := nI 255) G.1 G.2.1 dX0_profile_86 (by decide) ?_
            refine gx_swap (k := 3) (kp := 3) (len := 24) (F := (sp_fill2 (S 3) (N 0 * 3) (x1))) (i := (N 0) * 3 + x1) (v := 255) (S' := (sp_newTo N S (x1 * 5 + x2) (x1 + 1))) (tr' := tr) (rest := []) G.fix (mX0_swap l D (q 3) cI 24 ((sp_fill2 (S 3) (N 0 * 3) (x1))) ((N 0) * 3 + x1) 255 (by first | omega | assumption)) (va_cwS 3 G.2.2.2.2.2.1 gX0_profile_X0_swap rfl rfl rfl (by decide +kernel) ⟨Nat.le_of_ble_eq_true rfl, Nat.le_of_ble_eq_true rfl⟩) hX hS rfl (rfl) hl.1 rfl (Nat.le_of_ble_eq_true rfl) dX0_profile_89 (Nat.zero_le _) (Nat.zero_le _) (fun H1 locs1 hX hS => ?_)
            refine lv_pop G.1 G.2.1 dX0_profile_92 rfl ?_
            refine gn_iinc (lv' := [(2, .int (nI (x1 + 1))), (0, .ref (q 0)), (1, .int (nI (N 0))), (3, .int (nI ((N 0) * 3 + x1))), (4, .int (nI x2))]) (n := 1) G dX0_profile_93 hl (k := 2) rfl (by decide) rfl (fun ls hl => ?_)
            refine lv_goto (tgt := 26) G.1 G.2.1 dX0_profile_96 (by decide) ?_
            exact ih1 (x1 + 1) (by omega) _ _ (xAt_cast (by rw [show (x1 + 1) * 5 = x1 * 5 + x2 from by omega]) hX) hS _ (lv_sub hl [1, 2, 0] rfl)
          | succ d2 ih2 =>
            intro x2 hd2 H9 locs9 hX hS ls hl
            refine lv_iload G.1 G.2.1 dX0_profile_40 (lv_at hl 4 rfl) ?_
            refine lv_iconst (v := nI 5) G.1 G.2.1 dX0_profile_42 (by decide) ?_
            refine gn_ge G (by omega) (by omega) (tgt := 71) dX0_profile_43 (by decide) (fun h_43 => absurd h_43 (by omega)) (fun h_43 => ?_)
            refine lv_aload_n G.1 G.2.1 dX0_profile_46 rfl (lv_at hl 0 rfl) ?_
            refine gx_get G hX (by decide +kernel) 1 (by decide) (by decide +kernel) rfl rfl rfl dX0_profile_47 ?_
            refine lv_iload_n G.1 G.2.1 dX0_profile_50 rfl (lv_at hl 3 rfl) ?_
            refine lv_iconst (v := nI 5) G.1 G.2.1 dX0_profile_51 (by decide) ?_
            refine gn_imul G dX0_profile_52 ?_
            refine lv_iload G.1 G.2.1 dX0_profile_53 (lv_at hl 4 rfl) ?_
            refine gn_iadd G dX0_profile_55 ?_
            refine lv_iload G.1 G.2.1 dX0_profile_56 (lv_at hl 4 rfl) ?_
            refine gc_s (As := [.int (nI x2)]) (rest := [.int (nI ((((N 0) * 3 + x1) * 5) + x2)), .ref (q 1)]) G.fix (mX0_valueOfPlace l x2 (by omega)) (va_cwS 1 G.2.2.2.2.2.1 gX0_profile_X0_valueOfPlace rfl rfl rfl (by decide +kernel) ⟨Nat.le_of_ble_eq_true rfl, Nat.le_of_ble_eq_true rfl⟩) gc_blindT (fun _ _ _ => trivial) rfl hl.1 rfl (Nat.le_of_ble_eq_true rfl) dX0_profile_58 (Nat.zero_le _) (Nat.zero_le _) (fun r hr => ?_)
            subst hr
            refine gx_swap (k := 1) (kp := 1) (len := 120) (F := (sp_fill (S 1) (N 0 * 15) (x1 * 5 + x2))) (i := (((N 0) * 3 + x1) * 5) + x2) (v := sp_vop x2) (S' := (sp_newTo N S (x1 * 5 + (x2 + 1)) x1)) (tr' := tr) (rest := []) G.fix (mX0_swap l D (q 1) cI 120 ((sp_fill (S 1) (N 0 * 15) (x1 * 5 + x2))) ((((N 0) * 3 + x1) * 5) + x2) (sp_vop x2) (by first | omega | assumption)) (va_cwS 3 G.2.2.2.2.2.1 gX0_profile_X0_swap rfl rfl rfl (by decide +kernel) ⟨Nat.le_of_ble_eq_true rfl, Nat.le_of_ble_eq_true rfl⟩) hX hS rfl (by rw [sp_fill_s (by omega)]; rfl) hl.1 rfl (Nat.le_of_ble_eq_true rfl) dX0_profile_61 (Nat.zero_le _) (Nat.zero_le _) (fun H1 locs1 hX hS => ?_)
            refine lv_pop G.1 G.2.1 dX0_profile_64 rfl ?_
            refine gn_iinc (lv' := [(4, .int (nI (x2 + 1))), (0, .ref (q 0)), (1, .int (nI (N 0))), (2, .int (nI x1)), (3, .int (nI ((N 0) * 3 + x1)))]) (n := 1) G dX0_profile_65 hl (k := 4) rfl (by decide) rfl (fun ls hl => ?_)
            refine lv_goto (tgt := 40) G.1 G.2.1 dX0_profile_68 (by decide) ?_
            exact ih2 (x2 + 1) (by omega) _ _ (xAt_cast (rfl) hX) hS _ (lv_sub hl [1, 2, 3, 4, 0] rfl)
        exact loop2 5 0 (by omega) _ _ (xAt_cast (rfl) hX) hS _ (lv_sub hl [2, 3, 4, 1, 0] rfl)
    exact loop1 3 0 (by omega) _ _ (xAt_cast (rfl) hX) hS _ (lv_sub hl [2, 1, 0] rfl)
  · exact gx_throw (text := "there are 8 profiles") G hx0 hst (by decide +kernel) (by decide +kernel) (by decide +kernel) (by decide +kernel) gx_not_IS gx_good_IS (by decide +kernel) hZ0 hS hl.1 dX0_profile_9 dX0_profile_12 dX0_profile_13 dX0_profile_15 dX0_profile_18 (Nat.le_of_ble_eq_true rfl) (Nat.le_of_ble_eq_true rfl) (Nat.le_of_ble_eq_true rfl) (Nat.le_of_ble_eq_true rfl) (fun t _ hz hk => ⟨Or.inr (Or.inr ⟨rfl, rfl, rfl, (by simp [sC_profile, h_6] <;> omega)⟩), gXx_of hX hS hz hk⟩) hS.2.2 (by decide) (by decide)
set_option maxRecDepth 100000 in
set_option maxHeartbeats 4000000 in
/-- the gap, with the curves that would be kept in the trial row -/
theorem mX0_tryJoining (l : Launch) (D : va_G) (q : Nat → Nat) (cI : ClassId) (N : Nat → Nat) (S : Nat → Nat → Nat) (tr : Nat → Nat) (A : Nat → Prop) (hok : sp_ok N S) (ch : Nat) (hch : ch < 6) : Met l yX0_tryJoining wsX0_tryJoining { frames := 5, cells := 0, slots := 0, locals := 124 } (va_Pc [.ref (q 0), .int (nI ch)] (fun U => xAt D q cI N S tr A U U.heap)) (gQt D q cI N S (sp_trTo S ch tr 15) (nI (sp_gap S ch)) A) 0 0 A := by
  refine gc_met [.ref (q 0), .int (nI ch)] (by decide) rfl (Nat.le_of_ble_eq_true rfl) rfl ?_
  intro p e s m below meth c ls G hl hX
  have hZ0 := hX.2.2.2
  have hS : va_S A s.heap s.heap [] := va_S.rf
  have hq := fun k => @sp_vop_le k
  have hpl := fun b v (hv : v ≤ 255) => sp_pass_le (ch := ch) (b := b) hok hv
  refine lv_iconst (v := nI 0) G.1 G.2.1 dX0_tryJoining_0 (by decide) ?_
  refine lv_istore_n (lv' := [(2, .int (nI 0)), (0, .ref (q 0)), (1, .int (nI ch))]) G.1 G.2.1 dX0_tryJoining_1 rfl hl (by decide) rfl (fun ls hl => ?_)
  refine lv_iconst (v := nI 0) G.1 G.2.1 dX0_tryJoining_2 (by decide) ?_
  refine lv_istore_n (lv' := [(3, .int (nI 0)), (2, .int (nI 0)), (0, .ref (q 0)), (1, .int (nI ch))]) G.1 G.2.1 dX0_tryJoining_3 rfl hl (by decide) rfl (fun ls hl => ?_)
  have loop1 : ∀ (d1 x1 : Nat), x1 + d1 = 3 → ∀ (H9 : Heap) (locs9 : List Loc), xAt D q cI N S ((sp_trTo S ch tr (x1 * 5))) A s H9 → va_S A s.heap H9 locs9 → ∀ ls : Array Slot, lv_has ls 6 [(0, .ref (q 0)), (1, .int (nI ch)), (2, .int (nI (sp_gapTo S ch (x1 * 256)))), (3, .int (nI x1))] → W p l e { frames := 5, cells := 0, slots := 0, locals := 124 } s m ([.ref (q 0), .int (nI ch)] : List Value).toArray below meth c H9 locs9 0 0 (MQ below (gQt D q cI N S (sp_trTo S ch tr 15) (nI (sp_gap S ch)) A) ([.ref (q 0), .int (nI ch)] : List Value).toArray s 0 0 A) (F0 m 4 ls []) := by
    intro d1
    induction d1 with
    | zero =>
      intro x1 hd1 H9 locs9 hX hS ls hl
      refine lv_iload_n G.1 G.2.1 dX0_tryJoining_4 rfl (lv_at hl 3 rfl) ?_
      refine lv_iconst (v := nI 3) G.1 G.2.1 dX0_tryJoining_5 (by decide) ?_
      refine gn_ge G (by omega) (by omega) (tgt := 105) dX0_tryJoining_6 (by decide) (fun h_6 => ?_) (fun h_6 => absurd h_6 (by omega))
      refine lv_iload_n G.1 G.2.1 dX0_tryJoining_105 rfl (lv_at hl 2 rfl) ?_
      exact W.iret G.1 G.2.1 G.2.2.1 (fun t ht hW => ⟨by rw [show x1 = 3 from by omega]; rfl, by rw [ht]; have h9 := hX.1; rw [show x1 = 3 from by omega] at h9; exact h9, hS.F ht⟩) hS.2.2 dX0_tryJoining_106 G.2.2.2.2.2.2
    | succ d1 ih1 =>
      intro x1 hd1 H9 locs9 hX hS ls hl
      refine lv_iload_n G.1 G.2.1 dX0_tryJoining_4 rfl (lv_at hl 3 rfl) ?_
      refine lv_iconst (v := nI 3) G.1 G.2.1 dX0_tryJoining_5 (by decide) ?_
      refine gn_ge G (by omega) (by omega) (tgt := 105) dX0_tryJoining_6 (by decide) (fun h_6 => absurd h_6 (by omega)) (fun h_6 => ?_)
      refine lv_iconst (v := nI 0) G.1 G.2.1 dX0_tryJoining_9 (by decide) ?_
      refine lv_istore (lv' := [(4, .int (nI 0)), (0, .ref (q 0)), (1, .int (nI ch)), (2, .int (nI (sp_gapTo S ch (x1 * 256)))), (3, .int (nI x1))]) G.1 G.2.1 dX0_tryJoining_10 hl (by decide) rfl (fun ls hl => ?_)
      have loop2 : ∀ (d2 x2 : Nat), x2 + d2 = 5 → ∀ (H9 : Heap) (locs9 : List Loc), xAt D q cI N S ((sp_trTo S ch tr (x1 * 5 + x2))) A s H9 → va_S A s.heap H9 locs9 → ∀ ls : Array Slot, lv_has ls 6 [(0, .ref (q 0)), (1, .int (nI ch)), (2, .int (nI (sp_gapTo S ch (x1 * 256)))), (3, .int (nI x1)), (4, .int (nI x2))] → W p l e { frames := 5, cells := 0, slots := 0, locals := 124 } s m ([.ref (q 0), .int (nI ch)] : List Value).toArray below meth c H9 locs9 0 0 (MQ below (gQt D q cI N S (sp_trTo S ch tr 15) (nI (sp_gap S ch)) A) ([.ref (q 0), .int (nI ch)] : List Value).toArray s 0 0 A) (F0 m 12 ls []) := by
        intro d2
        induction d2 with
        | zero =>
          intro x2 hd2 H9 locs9 hX hS ls hl
          refine lv_iload G.1 G.2.1 dX0_tryJoining_12 (lv_at hl 4 rfl) ?_
          refine lv_iconst (v := nI 5) G.1 G.2.1 dX0_tryJoining_14 (by decide) ?_
          refine gn_ge G (by omega) (by omega) (tgt := 49) dX0_tryJoining_15 (by decide) (fun h_15 => ?_) (fun h_15 => absurd h_15 (by omega))
          refine lv_iconst (v := nI 0) G.1 G.2.1 dX0_tryJoining_49 (by decide) ?_
          refine lv_istore (lv' := [(4, .int (nI 0)), (0, .ref (q 0)), (1, .int (nI ch)), (2, .int (nI (sp_gapTo S ch (x1 * 256)))), (3, .int (nI x1))]) G.1 G.2.1 dX0_tryJoining_50 hl (by decide) rfl (fun ls hl => ?_)
          have loop3 : ∀ (d3 x3 : Nat), x3 + d3 = 256 → ∀ (H9 : Heap) (locs9 : List Loc), xAt D q cI N S ((sp_trTo S ch tr (x1 * 5 + 5))) A s H9 → va_S A s.heap H9 locs9 → ∀ ls : Array Slot, lv_has ls 6 [(0, .ref (q 0)), (1, .int (nI ch)), (2, .int (nI (sp_gapTo S ch (x1 * 256 + x3)))), (3, .int (nI x1)), (4, .int (nI x3))] → W p l e { frames := 5, cells := 0, slots := 0, locals := 124 } s m ([.ref (q 0), .int (nI ch)] : List Value).toArray below meth c H9 locs9 0 0 (MQ below (gQt D q cI N S (sp_trTo S ch tr 15) (nI (sp_gap S ch)) A) ([.ref (q 0), .int (nI ch)] : List Value).toArray s 0 0 A) (F0 m 52 ls []) := by
            intro d3
            induction d3 with
            | zero =>
              intro x3 hd3 H9 locs9 hX hS ls hl
              refine lv_iload G.1 G.2.1 dX0_tryJoining_52 (lv_at hl 4 rfl) ?_
              refine lv_sipush (v := nI 255) G.1 G.2.1 dX0_tryJoining_54 (by decide) ?_
              refine gn_gt G (by omega) (by omega) (tgt := 99) dX0_tryJoining_57 (by decide) (fun h_57 => ?_) (fun h_57 => absurd h_57 (by omega))
              refine gn_iinc (lv' := [(3, .int (nI (x1 + 1))), (0, .ref (q 0)), (1, .int (nI ch)), (2, .int (nI (sp_gapTo S ch (x1 * 256 + x3)))), (4, .int (nI x3))]) (n := 1) G dX0_tryJoining_99 hl (k := 3) rfl (by decide) rfl (fun ls hl => ?_)
              refine lv_goto (tgt := 4) G.1 G.2.1 dX0_tryJoining_102 (by decide) ?_
              exact ih1 (x1 + 1) (by omega) _ _ (xAt_cast (by rw [show (x1 + 1) * 5 = x1 * 5 + 5 from by omega]) hX) hS _ (by rw [show (x1 + 1) * 256 = x1 * 256 + x3 from by omega]; exact lv_sub hl [1, 2, 3, 0] rfl)
            | succ d3 ih3 =>
              intro x3 hd3 H9 locs9 hX hS ls hl
              refine lv_iload G.1 G.2.1 dX0_tryJoining_52 (lv_at hl 4 rfl) ?_
              refine lv_sipush (v := nI 255) G.1 G.2.1 dX0_tryJoining_54 (by decide) ?_
              refine gn_gt G (by omega) (by omega) (tgt := 99) dX0_tryJoining_57 (by decide) (fun h_57 => absurd h_57 (by omega)) (fun h_57 => ?_)
              have hta : sp_trTo S ch tr (x1 * 5 + 5) (x1 * 5 + x3 / 64) ≤ 255 := by rw [sp_trTo_at (by omega)]; exact hpl _ _ sp_vop_le
              have htb : sp_trTo S ch tr (x1 * 5 + 5) (x1 * 5 + x3 / 64 + 1) ≤ 255 := by rw [sp_trTo_at (by omega)]; exact hpl _ _ sp_vop_le
              have hb2 : sp_trTo S ch tr (x1 * 5 + 5) (x1 * 5 + x3 / 64) ≤ 255 ∧ sp_trTo S ch tr (x1 * 5 + 5) (x1 * 5 + x3 / 64 + 1) ≤ 255 := ⟨hta, htb⟩
              have hpa := hpl x1 x3 (by omega)
              have hpb : sp_btw (sp_trTo S ch tr (x1 * 5 + 5)) (x1 * 5) x3 ≤ 255 := sp_mix_le hta htb (sp_far (by omega)) (sp_w_pos _)
              have hgl := sp_gapTo_le hok (ch := ch) (x1 * 256 + x3)
              have hap := sp_ap_le hpa hpb
              refine lv_aload_n G.1 G.2.1 dX0_tryJoining_60 rfl (lv_at hl 0 rfl) ?_
              refine lv_iload_n G.1 G.2.1 dX0_tryJoining_61 rfl (lv_at hl 1 rfl) ?_
              refine lv_iload_n G.1 G.2.1 dX0_tryJoining_62 rfl (lv_at hl 3 rfl) ?_
              refine lv_iload G.1 G.2.1 dX0_tryJoining_63 (lv_at hl 4 rfl) ?_
              refine gc_v (As := [.int (nI ch), .int (nI x1), .int (nI x3)]) (rest := []) G.fix (mX0_pass l D q cI N S ((sp_trTo S ch tr (x1 * 5 + 5))) A ch x1 x3 hok (by first | omega | assumption | exact ok6 _ | apply hq) (by first | omega | assumption | exact ok6 _ | apply hq) (by first | omega | assumption | exact ok6 _ | apply hq)) (cwV 3 G.2.2.2.2.2.1 gX0_tryJoining_X0_pass rfl rfl rfl (by decide +kernel) ⟨Nat.le_of_ble_eq_true rfl, Nat.le_of_ble_eq_true rfl⟩) xAt_blind (va_recv hX.2.1 hX.1 (ci := 0) (q0 := 0) rfl rfl) (fun U hU hW => by rw [hU]; exact hX.moved hW) rfl hl.1 rfl (Nat.le_of_ble_eq_true rfl) dX0_tryJoining_65 (Nat.zero_le _) (Nat.zero_le _) (fun r hr => ?_)
              subst hr
              refine lv_aload_n G.1 G.2.1 dX0_tryJoining_68 rfl (lv_at hl 0 rfl) ?_
              refine gx_get G hX (by decide +kernel) 11 (by decide) (by decide +kernel) rfl rfl rfl dX0_tryJoining_69 ?_
              refine lv_iload_n G.1 G.2.1 dX0_tryJoining_72 rfl (lv_at hl 3 rfl) ?_
              refine lv_iconst (v := nI 5) G.1 G.2.1 dX0_tryJoining_73 (by decide) ?_
              refine gn_imul G dX0_tryJoining_74 ?_
              refine lv_iload G.1 G.2.1 dX0_tryJoining_75 (lv_at hl 4 rfl) ?_
              refine gc_s (As := [.ref (q 11), .int (nI (x1 * 5)), .int (nI x3)]) (rest := [.int (nI (sp_pass S ch x1 x3))]) G.fix (mX0_between l D (q 11) cI 15 ((sp_trTo S ch tr (x1 * 5 + 5))) (x1 * 5) x3 (by first | omega | assumption | exact ok6 _ | apply hq) (by first | omega | assumption | exact ok6 _ | apply hq) (by first | assumption | (intro j; omega))) (va_cwS 3 G.2.2.2.2.2.1 gX0_tryJoining_X0_between rfl rfl rfl (by decide +kernel) ⟨Nat.le_of_ble_eq_true rfl, Nat.le_of_ble_eq_true rfl⟩) rAt_blind (fun U hU hW => by rw [hU]; exact (hX.row 8 rfl).moved hW) rfl hl.1 rfl (Nat.le_of_ble_eq_true rfl) dX0_tryJoining_77 (Nat.zero_le _) (Nat.zero_le _) (fun r hr => ?_)
              subst hr
              refine lv_isub G.1 G.2.1 dX0_tryJoining_80 ?_
              refine lv_istore (lv' := [(5, .int (nI (sp_pass S ch x1 x3) - nI (sp_btw ((sp_trTo S ch tr (x1 * 5 + 5))) (x1 * 5) x3))), (0, .ref (q 0)), (1, .int (nI ch)), (2, .int (nI (sp_gapTo S ch (x1 * 256 + x3)))), (3, .int (nI x1)), (4, .int (nI x3))]) G.1 G.2.1 dX0_tryJoining_81 hl (by decide) rfl (fun ls hl => ?_)
              refine lv_iload_n G.1 G.2.1 dX0_tryJoining_83 rfl (lv_at hl 3 rfl) ?_
              refine lv_iload G.1 G.2.1 dX0_tryJoining_84 (lv_at hl 0 rfl) ?_
              refine gr_absd G hl.1 (ix := 189) (by decide +kernel) (by decide +kernel) (by decide +kernel) (by decide +kernel) (Nat.le_of_ble_eq_true rfl) (Nat.le_of_ble_eq_true rfl) (Nat.zero_le _) (Nat.zero_le _) hpa hpb dX0_tryJoining_86 ?_
              refine gr_max G hl.1 (ix := 125) (by decide +kernel) (by decide +kernel) (by decide +kernel) (by decide +kernel) (Nat.le_of_ble_eq_true rfl) (Nat.le_of_ble_eq_true rfl) (Nat.zero_le _) (Nat.zero_le _) (by omega) (by omega) dX0_tryJoining_89 ?_
              refine lv_istore_n (lv' := [(2, .int (nI (max (sp_gapTo S ch (x1 * 256 + x3)) (sp_ap (sp_pass S ch x1 x3) (sp_btw ((sp_trTo S ch tr (x1 * 5 + 5))) (x1 * 5) x3))))), (5, .int (nI (sp_pass S ch x1 x3) - nI (sp_btw ((sp_trTo S ch tr (x1 * 5 + 5))) (x1 * 5) x3))), (0, .ref (q 0)), (1, .int (nI ch)), (3, .int (nI x1)), (4, .int (nI x3))]) G.1 G.2.1 dX0_tryJoining_92 rfl hl (by decide) rfl (fun ls hl => ?_)
              refine gn_iinc (lv' := [(4, .int (nI (x3 + 1))), (2, .int (nI (max (sp_gapTo S ch (x1 * 256 + x3)) (sp_ap (sp_pass S ch x1 x3) (sp_btw ((sp_trTo S ch tr (x1 * 5 + 5))) (x1 * 5) x3))))), (5, .int (nI (sp_pass S ch x1 x3) - nI (sp_btw ((sp_trTo S ch tr (x1 * 5 + 5))) (x1 * 5) x3))), (0, .ref (q 0)), (1, .int (nI ch)), (3, .int (nI x1))]) (n := 1) G dX0_tryJoining_93 hl (k := 5) rfl (by decide) rfl (fun ls hl => ?_)
              refine lv_goto (tgt := 52) G.1 G.2.1 dX0_tryJoining_96 (by decide) ?_
              exact ih3 (x3 + 1) (by omega) _ _ (xAt_cast (rfl) hX) hS _ (by rw [sp_gapTo_s (tr := tr) (by omega)]; exact lv_sub hl [3, 4, 1, 5, 0] rfl)
          exact loop3 256 0 (by omega) _ _ (xAt_cast (by rw [show x2 = 5 from by omega]) hX) hS _ (lv_sub hl [1, 2, 3, 4, 0] rfl)
        | succ d2 ih2 =>
          intro x2 hd2 H9 locs9 hX hS ls hl
          refine lv_iload G.1 G.2.1 dX0_tryJoining_12 (lv_at hl 4 rfl) ?_
          refine lv_iconst (v := nI 5) G.1 G.2.1 dX0_tryJoining_14 (by decide) ?_
          refine gn_ge G (by omega) (by omega) (tgt := 49) dX0_tryJoining_15 (by decide) (fun h_15 => absurd h_15 (by omega)) (fun h_15 => ?_)
          refine lv_aload_n G.1 G.2.1 dX0_tryJoining_18 rfl (lv_at hl 0 rfl) ?_
          refine gx_get G hX (by decide +kernel) 11 (by decide) (by decide +kernel) rfl rfl rfl dX0_tryJoining_19 ?_
          refine lv_iload_n G.1 G.2.1 dX0_tryJoining_22 rfl (lv_at hl 3 rfl) ?_
          refine lv_iconst (v := nI 5) G.1 G.2.1 dX0_tryJoining_23 (by decide) ?_
          refine gn_imul G dX0_tryJoining_24 ?_
          refine lv_iload G.1 G.2.1 dX0_tryJoining_25 (lv_at hl 4 rfl) ?_
          refine gn_iadd G dX0_tryJoining_27 ?_
          refine lv_aload_n G.1 G.2.1 dX0_tryJoining_28 rfl (lv_at hl 0 rfl) ?_
          refine lv_iload_n G.1 G.2.1 dX0_tryJoining_29 rfl (lv_at hl 1 rfl) ?_
          refine lv_iload_n G.1 G.2.1 dX0_tryJoining_30 rfl (lv_at hl 3 rfl) ?_
          refine lv_iload G.1 G.2.1 dX0_tryJoining_31 (lv_at hl 4 rfl) ?_
          refine gc_s (As := [.int (nI x2)]) (rest := [.int (nI x1), .int (nI ch), .ref (q 0), .int (nI ((x1 * 5) + x2)), .ref (q 11)]) G.fix (mX0_valueOfPlace l x2 (by omega)) (va_cwS 1 G.2.2.2.2.2.1 gX0_tryJoining_X0_valueOfPlace rfl rfl rfl (by decide +kernel) ⟨Nat.le_of_ble_eq_true rfl, Nat.le_of_ble_eq_true rfl⟩) gc_blindT (fun _ _ _ => trivial) rfl hl.1 rfl (Nat.le_of_ble_eq_true rfl) dX0_tryJoining_33 (Nat.zero_le _) (Nat.zero_le _) (fun r hr => ?_)
          subst hr
          refine gc_v (As := [.int (nI ch), .int (nI x1), .int (nI (sp_vop x2))]) (rest := [.int (nI ((x1 * 5) + x2)), .ref (q 11)]) G.fix (mX0_pass l D q cI N S ((sp_trTo S ch tr (x1 * 5 + x2))) A ch x1 (sp_vop x2) hok (by first | omega | assumption | exact ok6 _ | apply hq) (by first | omega | assumption | exact ok6 _ | apply hq) (by first | omega | assumption | exact ok6 _ | apply hq)) (cwV 3 G.2.2.2.2.2.1 gX0_tryJoining_X0_pass rfl rfl rfl (by decide +kernel) ⟨Nat.le_of_ble_eq_true rfl, Nat.le_of_ble_eq_true rfl⟩) xAt_blind (va_recv hX.2.1 hX.1 (ci := 0) (q0 := 0) rfl rfl) (fun U hU hW => by rw [hU]; exact hX.moved hW) rfl hl.1 rfl (Nat.le_of_ble_eq_true rfl) dX0_tryJoining_36 (Nat.zero_le _) (Nat.zero_le _) (fun r hr => ?_)
          subst hr
          refine gx_swap (k := 11) (kp := 8) (len := 15) (F := (sp_trTo S ch tr (x1 * 5 + x2))) (i := (x1 * 5) + x2) (v := sp_pass S ch x1 (sp_vop x2)) (S' := S) (tr' := (sp_trTo S ch tr (x1 * 5 + (x2 + 1)))) (rest := []) G.fix (mX0_swap l D (q 11) cI 15 ((sp_trTo S ch tr (x1 * 5 + x2))) ((x1 * 5) + x2) (sp_pass S ch x1 (sp_vop x2)) (by first | omega | assumption)) (va_cwS 3 G.2.2.2.2.2.1 gX0_tryJoining_X0_swap rfl rfl rfl (by decide +kernel) ⟨Nat.le_of_ble_eq_true rfl, Nat.le_of_ble_eq_true rfl⟩) hX hS rfl (by rw [sp_trTo_s (by omega)]; rfl) hl.1 rfl (Nat.le_of_ble_eq_true rfl) dX0_tryJoining_39 (Nat.zero_le _) (Nat.zero_le _) (fun H1 locs1 hX hS => ?_)
          refine lv_pop G.1 G.2.1 dX0_tryJoining_42 rfl ?_
          refine gn_iinc (lv' := [(4, .int (nI (x2 + 1))), (0, .ref (q 0)), (1, .int (nI ch)), (2, .int (nI (sp_gapTo S ch (x1 * 256)))), (3, .int (nI x1))]) (n := 1) G dX0_tryJoining_43 hl (k := 4) rfl (by decide) rfl (fun ls hl => ?_)
          refine lv_goto (tgt := 12) G.1 G.2.1 dX0_tryJoining_46 (by decide) ?_
          exact ih2 (x2 + 1) (by omega) _ _ (xAt_cast (rfl) hX) hS _ (lv_sub hl [1, 2, 3, 4, 0] rfl)
      exact loop2 5 0 (by omega) _ _ (xAt_cast (rfl) hX) hS _ (lv_sub hl [1, 2, 3, 4, 0] rfl)
  exact loop1 3 0 (by omega) _ _ (xAt_cast (rfl) hX) hS _ (lv_sub hl [2, 3, 1, 0] rfl)
set_option maxRecDepth 100000 in
set_option maxHeartbeats 4000000 in
/-- gap -/
theorem mX0_gap (l : Launch) (hst : l.stackTraces = false) (D : va_G) (q : Nat → Nat) (cI : ClassId) (N : Nat → Nat) (S : Nat → Nat → Nat) (tr : Nat → Nat) (A : Nat → Prop) (hok : sp_ok N S) (hinv : sp_inv N S) (i1 : Int32) : vx_Met l yX0_gap wsX0_gap { frames := 7, cells := 1, slots := 6, locals := 149 } (va_Pc [.ref (q 0), .int i1] (fun U => xAt D q cI N S tr A U U.heap)) (gQx D q cI (fun r N2 S2 => sA_gap N S i1 = true ∧ sB_gap N S i1 = true ∧ sC_gap N S i1 = true ∧ r = nI (sR_gap N S i1) ∧ N2 = sN_gap N S i1 ∧ S2 = sS_gap N S i1) A) (gXx D q cI N S A (gE3 (sA_gap N S i1) (sB_gap N S i1) (sC_gap N S i1))) 1 6 A := by
  refine gc_vxmet [.ref (q 0), .int i1] (by decide) rfl (Nat.le_of_ble_eq_true rfl) rfl ?_
  intro p e s m below meth c ls G hx0 hl hX
  have hZ0 := hX.2.2.2
  have hS : va_S A s.heap s.heap [] := va_S.rf
  have hok9 := hok
  obtain ⟨⟨ok0, ok5⟩, ok1, ok2, ok3, ok4, ok6, ok7, ok8, ok12, ok13, ok14⟩ := hok9
  have hN := hinv.2.2.2.1
  have hN9 := hinv.2.2.1
  refine lv_aload_n G.1 G.2.1 dX0_gap_0 rfl (lv_at hl 0 rfl) ?_
  refine lv_iload_n G.1 G.2.1 dX0_gap_1 rfl (lv_at hl 1 rfl) ?_
  refine gc_needT (vx_runV (As := [.int i1]) (rest := []) G.fix (mX0_needChain l hst D q cI N S tr A hok i1) (cwV 1 G.2.2.2.2.2.1 gX0_gap_X0_needChain rfl rfl rfl (by decide +kernel) ⟨Nat.le_of_ble_eq_true rfl, Nat.le_of_ble_eq_true rfl⟩) ⟨xAt_blind, va_recv hX.2.1 hX.1 (ci := 0) (q0 := 0) rfl rfl, fun U hU hW => ⟨rfl, by show xAt _ _ _ _ _ _ _ U U.heap; rw [hU]; exact hX.moved hW⟩⟩ rfl rfl hl.1 rfl (lv_room (Nat.le_of_ble_eq_true rfl)) dX0_gap_2 ⟨Nat.le_of_ble_eq_true rfl, Nat.le_of_ble_eq_true rfl⟩) hx0 G.2.2.2.2.2.2 (fun E t hE hz hk _ => ⟨Or.inl ⟨hE.1, (by simp [sA_gap, hE.2] <;> omega)⟩, gXx_of hX hS hz hk⟩) hS.2.2 (by decide) (by decide) (fun hA1 => ?_)
  obtain ⟨j1, hj1, rfl⟩ := gb_of (by omega) hA1
  have hg1 := gn_nI (show j1 < 2 ^ 31 by omega)
  refine lv_aload_n G.1 G.2.1 dX0_gap_5 rfl (lv_at hl 0 rfl) ?_
  refine lv_iload_n G.1 G.2.1 dX0_gap_6 rfl (lv_at hl 1 rfl) ?_
  refine gx_mut (N' := N) (S' := S) (tr' := (sp_trTo S j1 tr 15)) (r := (nI (sp_gap S j1))) (As := [.int (nI j1)]) (rest := []) G.fix (mX0_tryJoining l D q cI N S tr A hok j1 (by omega)) (cwV 1 G.2.2.2.2.2.1 gX0_gap_X0_tryJoining rfl rfl rfl (by decide +kernel) ⟨Nat.le_of_ble_eq_true rfl, Nat.le_of_ble_eq_true rfl⟩) hZ0 hX hS rfl hl.1 rfl (Nat.le_of_ble_eq_true rfl) dX0_gap_7 (Nat.zero_le _) (Nat.zero_le _) (fun H1 locs1 hX hS => ?_)
  exact vx_ret (W.widen (k := 1) (n := 6) (Nat.zero_le _) (Nat.zero_le _) (W.iret G.1 G.2.1 G.2.2.1 (fun t ht hW => gQx_of hX hS ht ⟨(by simp [sA_gap, hA1, hg1]), rfl, rfl, (by show nI _ = nI _; simp only [sR_gap, hg1]), (by simp only [sN_gap, hg1]), (by simp only [sS_gap, hg1])⟩) hS.2.2 dX0_gap_10 G.2.2.2.2.2.2))
set_option maxRecDepth 100000 in
set_option maxHeartbeats 4000000 in
/-- greyGap -/
theorem mX0_greyGap (l : Launch) (hst : l.stackTraces = false) (D : va_G) (q : Nat → Nat) (cI : ClassId) (N : Nat → Nat) (S : Nat → Nat → Nat) (tr : Nat → Nat) (A : Nat → Prop) (hok : sp_ok N S) (hinv : sp_inv N S) (i1 : Int32) : vx_Met l yX0_greyGap wsX0_greyGap { frames := 7, cells := 1, slots := 6, locals := 124 } (va_Pc [.ref (q 0), .int i1] (fun U => xAt D q cI N S tr A U U.heap)) (gQx D q cI (fun r N2 S2 => sA_greyGap N S i1 = true ∧ sB_greyGap N S i1 = true ∧ sC_greyGap N S i1 = true ∧ r = nI (sR_greyGap N S i1) ∧ N2 = sN_greyGap N S i1 ∧ S2 = sS_greyGap N S i1) A) (gXx D q cI N S A (gE3 (sA_greyGap N S i1) (sB_greyGap N S i1) (sC_greyGap N S i1))) 1 6 A := by
  refine gc_vxmet [.ref (q 0), .int i1] (by decide) rfl (Nat.le_of_ble_eq_true rfl) rfl ?_
  intro p e s m below meth c ls G hx0 hl hX
  have hZ0 := hX.2.2.2
  have hS : va_S A s.heap s.heap [] := va_S.rf
  have hok9 := hok
  obtain ⟨⟨ok0, ok5⟩, ok1, ok2, ok3, ok4, ok6, ok7, ok8, ok12, ok13, ok14⟩ := hok9
  have hN := hinv.2.2.2.1
  have hN9 := hinv.2.2.1
  refine lv_aload_n G.1 G.2.1 dX0_greyGap_0 rfl (lv_at hl 0 rfl) ?_
  refine lv_iload_n G.1 G.2.1 dX0_greyGap_1 rfl (lv_at hl 1 rfl) ?_
  refine gc_needT (vx_runV (As := [.int i1]) (rest := []) G.fix (mX0_needChain l hst D q cI N S tr A hok i1) (cwV 1 G.2.2.2.2.2.1 gX0_greyGap_X0_needChain rfl rfl rfl (by decide +kernel) ⟨Nat.le_of_ble_eq_true rfl, Nat.le_of_ble_eq_true rfl⟩) ⟨xAt_blind, va_recv hX.2.1 hX.1 (ci := 0) (q0 := 0) rfl rfl, fun U hU hW => ⟨rfl, by show xAt _ _ _ _ _ _ _ U U.heap; rw [hU]; exact hX.moved hW⟩⟩ rfl rfl hl.1 rfl (lv_room (Nat.le_of_ble_eq_true rfl)) dX0_greyGap_2 ⟨Nat.le_of_ble_eq_true rfl, Nat.le_of_ble_eq_true rfl⟩) hx0 G.2.2.2.2.2.2 (fun E t hE hz hk _ => ⟨Or.inl ⟨hE.1, (by simp [sA_greyGap, hE.2] <;> omega)⟩, gXx_of hX hS hz hk⟩) hS.2.2 (by decide) (by decide) (fun hA1 => ?_)
  obtain ⟨j1, hj1, rfl⟩ := gb_of (by omega) hA1
  have hg1 := gn_nI (show j1 < 2 ^ 31 by omega)
  have hpl := fun b v (hv : v ≤ 255) => sp_pass_le (ch := j1) (b := b) hok hv
  refine lv_iconst (v := nI 0) G.1 G.2.1 dX0_greyGap_5 (by decide) ?_
  refine lv_istore_n (lv' := [(2, .int (nI 0)), (0, .ref (q 0)), (1, .int (nI j1))]) G.1 G.2.1 dX0_greyGap_6 rfl hl (by decide) rfl (fun ls hl => ?_)
  refine lv_iconst (v := nI 0) G.1 G.2.1 dX0_greyGap_7 (by decide) ?_
  refine lv_istore_n (lv' := [(3, .int (nI 0)), (2, .int (nI 0)), (0, .ref (q 0)), (1, .int (nI j1))]) G.1 G.2.1 dX0_greyGap_8 rfl hl (by decide) rfl (fun ls hl => ?_)
  have loop1 : ∀ (d1 x1 : Nat), x1 + d1 = 256 → ∀ (H9 : Heap) (locs9 : List Loc), xAt D q cI N S tr A s H9 → va_S A s.heap H9 locs9 → ∀ ls : Array Slot, lv_has ls 8 [(0, .ref (q 0)), (1, .int (nI j1)), (2, .int (nI (sp_greyTo S j1 x1))), (3, .int (nI x1))] → W p l e { frames := 7, cells := 1, slots := 6, locals := 124 } s m ([.ref (q 0), .int (nI j1)] : List Value).toArray below meth c H9 locs9 0 0 (vx_MQ below (gQx D q cI (fun r N2 S2 => sA_greyGap N S (nI j1) = true ∧ sB_greyGap N S (nI j1) = true ∧ sC_greyGap N S (nI j1) = true ∧ r = nI (sR_greyGap N S (nI j1)) ∧ N2 = sN_greyGap N S (nI j1) ∧ S2 = sS_greyGap N S (nI j1)) A) (gXx D q cI N S A (gE3 (sA_greyGap N S (nI j1)) (sB_greyGap N S (nI j1)) (sC_greyGap N S (nI j1)))) ([.ref (q 0), .int (nI j1)] : List Value).toArray s 1 6 A) (F0 m 9 ls []) := by
    intro d1
    induction d1 with
    | zero =>
      intro x1 hd1 H9 locs9 hX hS ls hl
      refine lv_iload_n G.1 G.2.1 dX0_greyGap_9 rfl (lv_at hl 3 rfl) ?_
      refine lv_sipush (v := nI 255) G.1 G.2.1 dX0_greyGap_10 (by decide) ?_
      refine gn_gt G (by omega) (by omega) (tgt := 83) dX0_greyGap_13 (by decide) (fun h_13 => ?_) (fun h_13 => absurd h_13 (by omega))
      refine lv_iload_n G.1 G.2.1 dX0_greyGap_83 rfl (lv_at hl 2 rfl) ?_
      exact vx_ret (W.widen (k := 1) (n := 6) (Nat.zero_le _) (Nat.zero_le _) (W.iret G.1 G.2.1 G.2.2.1 (fun t ht hW => gQx_of hX hS ht ⟨(by simp [sA_greyGap, hA1, hg1]), rfl, rfl, (by show nI _ = nI _; simp only [sR_greyGap, hg1]; unfold sp_grey; rw [show x1 = 256 from by omega]), (by simp only [sN_greyGap, hg1]), (by simp only [sS_greyGap, hg1])⟩) hS.2.2 dX0_greyGap_84 G.2.2.2.2.2.2))
    | succ d1 ih1 =>
      intro x1 hd1 H9 locs9 hX hS ls hl
      refine lv_iload_n G.1 G.2.1 dX0_greyGap_9 rfl (lv_at hl 3 rfl) ?_
      refine lv_sipush (v := nI 255) G.1 G.2.1 dX0_greyGap_10 (by decide) ?_
      refine gn_gt G (by omega) (by omega) (tgt := 83) dX0_greyGap_13 (by decide) (fun h_13 => absurd h_13 (by omega)) (fun h_13 => ?_)
      refine lv_sipush (v := nI 255) G.1 G.2.1 dX0_greyGap_16 (by decide) ?_
      refine lv_istore (lv' := [(4, .int (nI 255)), (0, .ref (q 0)), (1, .int (nI j1)), (2, .int (nI (sp_greyTo S j1 x1))), (3, .int (nI x1))]) G.1 G.2.1 dX0_greyGap_19 hl (by decide) rfl (fun ls hl => ?_)
      refine lv_iconst (v := nI 0) G.1 G.2.1 dX0_greyGap_21 (by decide) ?_
      refine lv_istore (lv' := [(5, .int (nI 0)), (4, .int (nI 255)), (0, .ref (q 0)), (1, .int (nI j1)), (2, .int (nI (sp_greyTo S j1 x1))), (3, .int (nI x1))]) G.1 G.2.1 dX0_greyGap_22 hl (by decide) rfl (fun ls hl => ?_)
      refine lv_iconst (v := nI 0) G.1 G.2.1 dX0_greyGap_24 (by decide) ?_
      refine lv_istore (lv' := [(6, .int (nI 0)), (5, .int (nI 0)), (4, .int (nI 255)), (0, .ref (q 0)), (1, .int (nI j1)), (2, .int (nI (sp_greyTo S j1 x1))), (3, .int (nI x1))]) G.1 G.2.1 dX0_greyGap_25 hl (by decide) rfl (fun ls hl => ?_)
      have loop2 : ∀ (d2 x2 : Nat), x2 + d2 = 3 → ∀ (H9 : Heap) (locs9 : List Loc), xAt D q cI N S tr A s H9 → va_S A s.heap H9 locs9 → ∀ ls : Array Slot, lv_has ls 8 [(0, .ref (q 0)), (1, .int (nI j1)), (2, .int (nI (sp_greyTo S j1 x1))), (3, .int (nI x1)), (4, .int (nI (sp_mn S j1 x1 x2))), (5, .int (nI (sp_mx S j1 x1 x2))), (6, .int (nI x2))] → W p l e { frames := 7, cells := 1, slots := 6, locals := 124 } s m ([.ref (q 0), .int (nI j1)] : List Value).toArray below meth c H9 locs9 0 0 (vx_MQ below (gQx D q cI (fun r N2 S2 => sA_greyGap N S (nI j1) = true ∧ sB_greyGap N S (nI j1) = true ∧ sC_greyGap N S (nI j1) = true ∧ r = nI (sR_greyGap N S (nI j1)) ∧ N2 = sN_greyGap N S (nI j1) ∧ S2 = sS_greyGap N S (nI j1)) A) (gXx D q cI N S A (gE3 (sA_greyGap N S (nI j1)) (sB_greyGap N S (nI j1)) (sC_greyGap N S (nI j1)))) ([.ref (q 0), .int (nI j1)] : List Value).toArray s 1 6 A) (F0 m 27 ls []) := by
        intro d2
        induction d2 with
        | zero =>
          intro x2 hd2 H9 locs9 hX hS ls hl
          refine lv_iload G.1 G.2.1 dX0_greyGap_27 (lv_at hl 6 rfl) ?_
          refine lv_iconst (v := nI 3) G.1 G.2.1 dX0_greyGap_29 (by decide) ?_
          refine gn_ge G (by omega) (by omega) (tgt := 67) dX0_greyGap_30 (by decide) (fun h_30 => ?_) (fun h_30 => absurd h_30 (by omega))
          have hm2 := sp_mx_le hok (ch := j1) (v := x1) (by omega) x2
          have hm3 := sp_mn_mx hok (ch := j1) (v := x1) (k := x2) (by omega) (by omega)
          have hgy := sp_greyTo_le hok (ch := j1) x1 (by omega)
          refine lv_iload_n G.1 G.2.1 dX0_greyGap_67 rfl (lv_at hl 2 rfl) ?_
          refine lv_iload G.1 G.2.1 dX0_greyGap_68 (lv_at hl 5 rfl) ?_
          refine lv_iload G.1 G.2.1 dX0_greyGap_70 (lv_at hl 4 rfl) ?_
          refine gn_isub G dX0_greyGap_72 (by omega) ?_
          refine gr_max G hl.1 (ix := 125) (by decide +kernel) (by decide +kernel) (by decide +kernel) (by decide +kernel) (Nat.le_of_ble_eq_true rfl) (Nat.le_of_ble_eq_true rfl) (Nat.zero_le _) (Nat.zero_le _) (by omega) (by omega) dX0_greyGap_73 ?_
          refine lv_istore_n (lv' := [(2, .int (nI (max (sp_greyTo S j1 x1) ((sp_mx S j1 x1 x2) - (sp_mn S j1 x1 x2))))), (0, .ref (q 0)), (1, .int (nI j1)), (3, .int (nI x1)), (4, .int (nI (sp_mn S j1 x1 x2))), (5, .int (nI (sp_mx S j1 x1 x2))), (6, .int (nI x2))]) G.1 G.2.1 dX0_greyGap_76 rfl hl (by decide) rfl (fun ls hl => ?_)
          refine gn_iinc (lv' := [(3, .int (nI (x1 + 1))), (2, .int (nI (max (sp_greyTo S j1 x1) ((sp_mx S j1 x1 x2) - (sp_mn S j1 x1 x2))))), (0, .ref (q 0)), (1, .int (nI j1)), (4, .int (nI (sp_mn S j1 x1 x2))), (5, .int (nI (sp_mx S j1 x1 x2))), (6, .int (nI x2))]) (n := 1) G dX0_greyGap_77 hl (k := 3) rfl (by decide) rfl (fun ls hl => ?_)
          refine lv_goto (tgt := 9) G.1 G.2.1 dX0_greyGap_80 (by decide) ?_
          exact ih1 (x1 + 1) (by omega) _ _ (xAt_cast (rfl) hX) hS _ (by rw [show sp_greyTo S j1 (x1 + 1) = max (sp_greyTo S j1 x1) (sp_mx S j1 x1 x2 - sp_mn S j1 x1 x2) from by rw [show x2 = 3 from by omega]; rfl]; exact lv_sub hl [2, 3, 1, 0] rfl)
        | succ d2 ih2 =>
          intro x2 hd2 H9 locs9 hX hS ls hl
          refine lv_iload G.1 G.2.1 dX0_greyGap_27 (lv_at hl 6 rfl) ?_
          refine lv_iconst (v := nI 3) G.1 G.2.1 dX0_greyGap_29 (by decide) ?_
          refine gn_ge G (by omega) (by omega) (tgt := 67) dX0_greyGap_30 (by decide) (fun h_30 => absurd h_30 (by omega)) (fun h_30 => ?_)
          have hp9 := hpl x2 x1 (by omega)
          have hm1 := sp_mn_le S j1 x1 x2
          have hm2 := sp_mx_le hok (ch := j1) (v := x1) (by omega) x2
          refine lv_aload_n G.1 G.2.1 dX0_greyGap_33 rfl (lv_at hl 0 rfl) ?_
          refine lv_iload_n G.1 G.2.1 dX0_greyGap_34 rfl (lv_at hl 1 rfl) ?_
          refine lv_iload G.1 G.2.1 dX0_greyGap_35 (lv_at hl 6 rfl) ?_
          refine lv_iload_n G.1 G.2.1 dX0_greyGap_37 rfl (lv_at hl 3 rfl) ?_
          refine gc_v (As := [.int (nI j1), .int (nI x2), .int (nI x1)]) (rest := []) G.fix (mX0_pass l D q cI N S tr A j1 x2 x1 hok (by first | omega | assumption | exact ok6 _ | apply hq) (by first | omega | assumption | exact ok6 _ | apply hq) (by first | omega | assumption | exact ok6 _ | apply hq)) (cwV 3 G.2.2.2.2.2.1 gX0_greyGap_X0_pass rfl rfl rfl (by decide +kernel) ⟨Nat.le_of_ble_eq_true rfl, Nat.le_of_ble_eq_true rfl⟩) xAt_blind (va_recv hX.2.1 hX.1 (ci := 0) (q0 := 0) rfl rfl) (fun U hU hW => by rw [hU]; exact hX.moved hW) rfl hl.1 rfl (Nat.le_of_ble_eq_true rfl) dX0_greyGap_38 (Nat.zero_le _) (Nat.zero_le _) (fun r hr => ?_)
          subst hr
          refine lv_istore (lv' := [(7, .int (nI (sp_pass S j1 x2 x1))), (0, .ref (q 0)), (1, .int (nI j1)), (2, .int (nI (sp_greyTo S j1 x1))), (3, .int (nI x1)), (4, .int (nI (sp_mn S j1 x1 x2))), (5, .int (nI (sp_mx S j1 x1 x2))), (6, .int (nI x2))]) G.1 G.2.1 dX0_greyGap_41 hl (by decide) rfl (fun ls hl => ?_)
          refine lv_iload G.1 G.2.1 dX0_greyGap_43 (lv_at hl 5 rfl) ?_
          refine lv_iload G.1 G.2.1 dX0_greyGap_45 (lv_at hl 0 rfl) ?_
          refine gr_min G hl.1 (ix := 119) (by decide +kernel) (by decide +kernel) (by decide +kernel) (by decide +kernel) (Nat.le_of_ble_eq_true rfl) (Nat.le_of_ble_eq_true rfl) (Nat.zero_le _) (Nat.zero_le _) (by omega) (by omega) dX0_greyGap_47 ?_
          refine lv_istore (lv' := [(4, .int (nI (min (sp_mn S j1 x1 x2) (sp_pass S j1 x2 x1)))), (7, .int (nI (sp_pass S j1 x2 x1))), (0, .ref (q 0)), (1, .int (nI j1)), (2, .int (nI (sp_greyTo S j1 x1))), (3, .int (nI x1)), (5, .int (nI (sp_mx S j1 x1 x2))), (6, .int (nI x2))]) G.1 G.2.1 dX0_greyGap_50 hl (by decide) rfl (fun ls hl => ?_)
          refine lv_iload G.1 G.2.1 dX0_greyGap_52 (lv_at hl 6 rfl) ?_
          refine lv_iload G.1 G.2.1 dX0_greyGap_54 (lv_at hl 1 rfl) ?_
          refine gr_max G hl.1 (ix := 125) (by decide +kernel) (by decide +kernel) (by decide +kernel) (by decide +kernel) (Nat.le_of_ble_eq_true rfl) (Nat.le_of_ble_eq_true rfl) (Nat.zero_le _) (Nat.zero_le _) (by omega) (by omega) dX0_greyGap_56 ?_
          refine lv_istore (lv' := [(5, .int (nI (max (sp_mx S j1 x1 x2) (sp_pass S j1 x2 x1)))), (4, .int (nI (min (sp_mn S j1 x1 x2) (sp_pass S j1 x2 x1)))), (7, .int (nI (sp_pass S j1 x2 x1))), (0, .ref (q 0)), (1, .int (nI j1)), (2, .int (nI (sp_greyTo S j1 x1))), (3, .int (nI x1)), (6, .int (nI x2))]) G.1 G.2.1 dX0_greyGap_59 hl (by decide) rfl (fun ls hl => ?_)
          refine gn_iinc (lv' := [(6, .int (nI (x2 + 1))), (5, .int (nI (max (sp_mx S j1 x1 x2) (sp_pass S j1 x2 x1)))), (4, .int (nI (min (sp_mn S j1 x1 x2) (sp_pass S j1 x2 x1)))), (7, .int (nI (sp_pass S j1 x2 x1))), (0, .ref (q 0)), (1, .int (nI j1)), (2, .int (nI (sp_greyTo S j1 x1))), (3, .int (nI x1))]) (n := 1) G dX0_greyGap_61 hl (k := 7) rfl (by decide) rfl (fun ls hl => ?_)
          refine lv_goto (tgt := 27) G.1 G.2.1 dX0_greyGap_64 (by decide) ?_
          exact ih2 (x2 + 1) (by omega) _ _ (xAt_cast (rfl) hX) hS _ (lv_sub hl [4, 5, 6, 7, 2, 1, 0] rfl)
      exact loop2 3 0 (by omega) _ _ (xAt_cast (rfl) hX) hS _ (lv_sub hl [3, 4, 5, 6, 2, 1, 0] rfl)
  exact loop1 256 0 (by omega) _ _ (xAt_cast (rfl) hX) hS _ (lv_sub hl [2, 3, 1, 0] rfl)
set_option maxRecDepth 100000 in
set_option maxHeartbeats 4000000 in
/-- join -/
theorem mX0_join (l : Launch) (hst : l.stackTraces = false) (D : va_G) (q : Nat → Nat) (cI : ClassId) (N : Nat → Nat) (S : Nat → Nat → Nat) (tr : Nat → Nat) (A : Nat → Prop) (hok : sp_ok N S) (hinv : sp_inv N S) (i1 i2 : Int32) : vx_Met l yX0_join wsX0_join { frames := 7, cells := 1, slots := 6, locals := 149 } (va_Pc [.ref (q 0), .int i1, .int i2] (fun U => xAt D q cI N S tr A U U.heap)) (gQx D q cI (fun r N2 S2 => sA_join N S i1 i2 = true ∧ sB_join N S i1 i2 = true ∧ sC_join N S i1 i2 = true ∧ r = nI (sR_join N S i1 i2) ∧ N2 = sN_join N S i1 i2 ∧ S2 = sS_join N S i1 i2) A) (gXx D q cI N S A (gE3 (sA_join N S i1 i2) (sB_join N S i1 i2) (sC_join N S i1 i2))) 1 6 A := by
  refine gc_vxmet [.ref (q 0), .int i1, .int i2] (by decide) rfl (Nat.le_of_ble_eq_true rfl) rfl ?_
  intro p e s m below meth c ls G hx0 hl hX
  have hZ0 := hX.2.2.2
  have hS : va_S A s.heap s.heap [] := va_S.rf
  have hok9 := hok
  obtain ⟨⟨ok0, ok5⟩, ok1, ok2, ok3, ok4, ok6, ok7, ok8, ok12, ok13, ok14⟩ := hok9
  have hN := hinv.2.2.2.1
  have hN9 := hinv.2.2.1
  refine lv_aload_n G.1 G.2.1 dX0_join_0 rfl (lv_at hl 0 rfl) ?_
  refine lv_iload_n G.1 G.2.1 dX0_join_1 rfl (lv_at hl 1 rfl) ?_
  refine gc_needT (vx_runV (As := [.int i1]) (rest := []) G.fix (mX0_needChain l hst D q cI N S tr A hok i1) (cwV 1 G.2.2.2.2.2.1 gX0_join_X0_needChain rfl rfl rfl (by decide +kernel) ⟨Nat.le_of_ble_eq_true rfl, Nat.le_of_ble_eq_true rfl⟩) ⟨xAt_blind, va_recv hX.2.1 hX.1 (ci := 0) (q0 := 0) rfl rfl, fun U hU hW => ⟨rfl, by show xAt _ _ _ _ _ _ _ U U.heap; rw [hU]; exact hX.moved hW⟩⟩ rfl rfl hl.1 rfl (lv_room (Nat.le_of_ble_eq_true rfl)) dX0_join_2 ⟨Nat.le_of_ble_eq_true rfl, Nat.le_of_ble_eq_true rfl⟩) hx0 G.2.2.2.2.2.2 (fun E t hE hz hk _ => ⟨Or.inl ⟨hE.1, (by simp [sA_join, hE.2] <;> omega)⟩, gXx_of hX hS hz hk⟩) hS.2.2 (by decide) (by decide) (fun hA1 => ?_)
  obtain ⟨j1, hj1, rfl⟩ := gb_of (by omega) hA1
  have hg1 := gn_nI (show j1 < 2 ^ 31 by omega)
  refine lv_iload_n G.1 G.2.1 dX0_join_5 rfl (lv_at hl 2 rfl) ?_
  refine gc_needT (vx_runS (As := [.int i2]) (rest := []) G.fix (mX0_needValue l hst i2) (va_cwS 1 G.2.2.2.2.2.1 gX0_join_X0_needValue rfl rfl rfl (by decide +kernel) ⟨Nat.le_of_ble_eq_true rfl, Nat.le_of_ble_eq_true rfl⟩) ⟨gZ_blind, fun U hU hW => ⟨rfl, by show gZ _ U U.heap; rw [hU]; exact hX.2.2.2.none.moved hW⟩⟩ rfl rfl hl.1 rfl (lv_room (Nat.le_of_ble_eq_true rfl)) dX0_join_6 ⟨Nat.le_of_ble_eq_true rfl, Nat.le_of_ble_eq_true rfl⟩) hx0 G.2.2.2.2.2.2 (fun E t hE hz hk _ => ⟨Or.inr (Or.inl ⟨hE.1, (by simp [sA_join, hA1, hg1]), (by simp [sB_join, hg1, hE.2] <;> omega)⟩), gXx_of hX hS hz hk⟩) hS.2.2 (by decide) (by decide) (fun hB2 => ?_)
  obtain ⟨j2, hj2, rfl⟩ := gb_of (by omega) hB2
  have hg2 := gn_nI (show j2 < 2 ^ 31 by omega)
  refine lv_aload_n G.1 G.2.1 dX0_join_9 rfl (lv_at hl 0 rfl) ?_
  refine lv_iload_n G.1 G.2.1 dX0_join_10 rfl (lv_at hl 1 rfl) ?_
  refine gx_mut (N' := N) (S' := S) (tr' := (sp_trTo S j1 tr 15)) (r := (nI (sp_gap S j1))) (As := [.int (nI j1)]) (rest := []) G.fix (mX0_tryJoining l D q cI N S tr A hok j1 (by omega)) (cwV 1 G.2.2.2.2.2.1 gX0_join_X0_tryJoining rfl rfl rfl (by decide +kernel) ⟨Nat.le_of_ble_eq_true rfl, Nat.le_of_ble_eq_true rfl⟩) hZ0 hX hS rfl hl.1 rfl (Nat.le_of_ble_eq_true rfl) dX0_join_11 (Nat.zero_le _) (Nat.zero_le _) (fun H1 locs1 hX hS => ?_)
  refine lv_istore_n (lv' := [(3, .int (nI (sp_gap S j1))), (0, .ref (q 0)), (1, .int (nI j1)), (2, .int (nI j2))]) G.1 G.2.1 dX0_join_14 rfl hl (by decide) rfl (fun ls hl => ?_)
  have hgl : sp_gap S j1 ≤ 255 := sp_gapTo_le hok _
  refine lv_iload_n G.1 G.2.1 dX0_join_15 rfl (lv_at hl 0 rfl) ?_
  refine lv_iload_n G.1 G.2.1 dX0_join_16 rfl (lv_at hl 3 rfl) ?_
  refine gn_le G (by omega) (by omega) (tgt := 30) dX0_join_17 (by decide) (fun h_17 => ?_) (fun h_17 => ?_)
  · refine lv_iconst (v := nI 0) G.1 G.2.1 dX0_join_30 (by decide) ?_
    refine lv_istore (lv' := [(4, .int (nI 0)), (3, .int (nI (sp_gap S j1))), (0, .ref (q 0)), (1, .int (nI j1)), (2, .int (nI j2))]) G.1 G.2.1 dX0_join_31 hl (by decide) rfl (fun ls hl => ?_)
    have loop1 : ∀ (d1 x1 : Nat), x1 + d1 = 15 → ∀ (H9 : Heap) (locs9 : List Loc), xAt D q cI N ((gs S 8 (sp_kpTo S j1 x1))) ((sp_trTo S j1 tr 15)) A s H9 → va_S A s.heap H9 locs9 → ∀ ls : Array Slot, lv_has ls 5 [(0, .ref (q 0)), (1, .int (nI j1)), (3, .int (nI (sp_gap S j1))), (4, .int (nI x1))] → W p l e { frames := 7, cells := 1, slots := 6, locals := 149 } s m ([.ref (q 0), .int (nI j1), .int (nI j2)] : List Value).toArray below meth c H9 locs9 0 0 (vx_MQ below (gQx D q cI (fun r N2 S2 => sA_join N S (nI j1) (nI j2) = true ∧ sB_join N S (nI j1) (nI j2) = true ∧ sC_join N S (nI j1) (nI j2) = true ∧ r = nI (sR_join N S (nI j1) (nI j2)) ∧ N2 = sN_join N S (nI j1) (nI j2) ∧ S2 = sS_join N S (nI j1) (nI j2)) A) (gXx D q cI N S A (gE3 (sA_join N S (nI j1) (nI j2)) (sB_join N S (nI j1) (nI j2)) (sC_join N S (nI j1) (nI j2)))) ([.ref (q 0), .int (nI j1), .int (nI j2)] : List Value).toArray s 1 6 A) (F0 m 33 ls []) := by
      intro d1
      induction d1 with
      | zero =>
        intro x1 hd1 H9 locs9 hX hS ls hl
        refine lv_iload G.1 G.2.1 dX0_join_33 (lv_at hl 3 rfl) ?_
        refine lv_bipush (v := nI 15) G.1 G.2.1 dX0_join_35 (by decide) ?_
        refine gn_ge G (by omega) (by omega) (tgt := 71) dX0_join_37 (by decide) (fun h_37 => ?_) (fun h_37 => absurd h_37 (by omega))
        have hxl : N 9 ||| 2 ^ j1 < 2 ^ 31 := Nat.lt_trans (Nat.or_lt_two_pow (n := 6) hN9 (Nat.pow_lt_pow_right (by decide) (by omega))) (by decide)
        refine lv_aload_n G.1 G.2.1 dX0_join_71 rfl (lv_at hl 0 rfl) ?_
        refine lv_aload_n G.1 G.2.1 dX0_join_72 rfl (lv_at hl 0 rfl) ?_
        refine gx_get G hX (by decide +kernel) 9 (by decide) (by decide +kernel) rfl rfl rfl dX0_join_73 ?_
        refine lv_iconst (v := nI 1) G.1 G.2.1 dX0_join_76 (by decide) ?_
        refine lv_iload_n G.1 G.2.1 dX0_join_77 rfl (lv_at hl 1 rfl) ?_
        refine gn_ishl G dX0_join_78 (by omega) ?_
        refine gn_ior G dX0_join_79 ?_
        refine gx_put (k := 9) (N' := (gu N 9 ((N 9) ||| (2 ^ j1)))) G hZ0 hX hS (by decide +kernel) (by decide) (by decide +kernel) rfl rfl (by decide +kernel) rfl (Nat.le_of_ble_eq_true rfl) rfl dX0_join_80 (fun H1 locs1 hX hS => ?_)
        refine lv_iload_n G.1 G.2.1 dX0_join_83 rfl (lv_at hl 2 rfl) ?_
        have hX := xAt_free9 (F := gu (S 9) j1 1) hX
        exact vx_ret (W.widen (k := 1) (n := 6) (Nat.zero_le _) (Nat.zero_le _) (W.iret G.1 G.2.1 G.2.2.1 (fun t ht hW => gQx_of hX hS ht ⟨(by simp [sA_join, hA1, hg1, hg2]), (by simp [sB_join, hB2, hg1, hg2]), (by simp [sC_join, h_17, hg1, hg2]), (by show nI _ = nI _; simp only [sR_join, hg1, hg2]), (by simp only [sN_join, hg1, hg2]), (by simp only [sS_join, hg1]; rw [show x1 = 15 from by omega])⟩) hS.2.2 dX0_join_84 G.2.2.2.2.2.2))
      | succ d1 ih1 =>
        intro x1 hd1 H9 locs9 hX hS ls hl
        refine lv_iload G.1 G.2.1 dX0_join_33 (lv_at hl 3 rfl) ?_
        refine lv_bipush (v := nI 15) G.1 G.2.1 dX0_join_35 (by decide) ?_
        refine gn_ge G (by omega) (by omega) (tgt := 71) dX0_join_37 (by decide) (fun h_37 => absurd h_37 (by omega)) (fun h_37 => ?_)
        refine lv_aload_n G.1 G.2.1 dX0_join_40 rfl (lv_at hl 0 rfl) ?_
        refine gx_get G hX (by decide +kernel) 8 (by decide) (by decide +kernel) rfl rfl rfl dX0_join_41 ?_
        refine lv_iload_n G.1 G.2.1 dX0_join_44 rfl (lv_at hl 1 rfl) ?_
        refine lv_iconst (v := nI 3) G.1 G.2.1 dX0_join_45 (by decide) ?_
        refine gn_imul G dX0_join_46 ?_
        refine lv_iconst (v := nI 5) G.1 G.2.1 dX0_join_47 (by decide) ?_
        refine gn_imul G dX0_join_48 ?_
        refine lv_iload G.1 G.2.1 dX0_join_49 (lv_at hl 3 rfl) ?_
        refine gn_iadd G dX0_join_51 ?_
        refine lv_aload_n G.1 G.2.1 dX0_join_52 rfl (lv_at hl 0 rfl) ?_
        refine gx_get G hX (by decide +kernel) 11 (by decide) (by decide +kernel) rfl rfl rfl dX0_join_53 ?_
        refine lv_iload G.1 G.2.1 dX0_join_56 (lv_at hl 3 rfl) ?_
        refine gc_s (As := [.ref (q 11), .int (nI x1)]) (rest := [.int (nI (((j1 * 3) * 5) + x1)), .ref (q 8)]) G.fix (mX0_read l D (q 11) cI 15 ((sp_trTo S j1 tr 15)) (x1) (by first | omega | assumption | exact ok6 _ | apply hq)) (va_cwS 2 G.2.2.2.2.2.1 gX0_join_X0_read rfl rfl rfl (by decide +kernel) ⟨Nat.le_of_ble_eq_true rfl, Nat.le_of_ble_eq_true rfl⟩) rAt_blind (fun U hU hW => by rw [hU]; exact (hX.row 8 rfl).moved hW) rfl hl.1 rfl (Nat.le_of_ble_eq_true rfl) dX0_join_58 (Nat.zero_le _) (Nat.zero_le _) (fun r hr => ?_)
        subst hr
        refine gx_swap (k := 8) (kp := 7) (len := 90) (F := (sp_kpTo S j1 x1)) (i := ((j1 * 3) * 5) + x1) (v := ((sp_trTo S j1 tr 15)) x1) (S' := (gs S 8 (sp_kpTo S j1 (x1 + 1)))) (tr' := (sp_trTo S j1 tr 15)) (rest := []) G.fix (mX0_swap l D (q 8) cI 90 ((sp_kpTo S j1 x1)) (((j1 * 3) * 5) + x1) (((sp_trTo S j1 tr 15)) x1) (by first | omega | assumption)) (va_cwS 3 G.2.2.2.2.2.1 gX0_join_X0_swap rfl rfl rfl (by decide +kernel) ⟨Nat.le_of_ble_eq_true rfl, Nat.le_of_ble_eq_true rfl⟩) hX hS rfl (by rw [sp_kp_s (by omega)]; rfl) hl.1 rfl (Nat.le_of_ble_eq_true rfl) dX0_join_61 (Nat.zero_le _) (Nat.zero_le _) (fun H1 locs1 hX hS => ?_)
        refine lv_pop G.1 G.2.1 dX0_join_64 rfl ?_
        refine gn_iinc (lv' := [(4, .int (nI (x1 + 1))), (0, .ref (q 0)), (1, .int (nI j1)), (3, .int (nI (sp_gap S j1)))]) (n := 1) G dX0_join_65 hl (k := 3) rfl (by decide) rfl (fun ls hl => ?_)
        refine lv_goto (tgt := 33) G.1 G.2.1 dX0_join_68 (by decide) ?_
        exact ih1 (x1 + 1) (by omega) _ _ (xAt_cast (rfl) hX) hS _ (lv_sub hl [1, 2, 3, 0] rfl)
    exact loop1 15 0 (by omega) _ _ (xAt_cast (rfl) hX) hS _ (lv_sub hl [2, 3, 1, 0] rfl)
  · exact gx_throw (text := "the gap is too great") G hx0 hst (by decide +kernel) (by decide +kernel) (by decide +kernel) (by decide +kernel) gx_not_IS gx_good_IS (by decide +kernel) hZ0 hS hl.1 dX0_join_20 dX0_join_23 dX0_join_24 dX0_join_26 dX0_join_29 (Nat.le_of_ble_eq_true rfl) (Nat.le_of_ble_eq_true rfl) (Nat.le_of_ble_eq_true rfl) (Nat.le_of_ble_eq_true rfl) (fun t _ hz hk => ⟨Or.inr (Or.inr ⟨rfl, (by simp [sA_join, hA1, hg1, hg2]), (by simp [sB_join, hB2, hg1, hg2]), (by simp [sC_join, hg1, hg2, h_17] <;> omega)⟩), gXx_of hX hS hz hk⟩) hS.2.2 (by decide) (by decide)
end
section
theorem dX1_init_0 : decode cX1_init 0 = .ok (.aload_n 0, 1) := by decide +kernel
theorem dX1_init_1 : decode cX1_init 1 = .ok (.invokespecial 1, 3) := by decide +kernel
theorem dX1_init_4 : decode cX1_init 4 = .ok (.aload_n 0, 1) := by decide +kernel
theorem dX1_init_5 : decode cX1_init 5 = .ok (.bipush 120, 2) := by decide +kernel
theorem dX1_init_7 : decode cX1_init 7 = .ok (.newarray .int, 2) := by decide +kernel
theorem dX1_init_9 : decode cX1_init 9 = .ok (.putfield 7, 3) := by decide +kernel
theorem dX1_init_12 : decode cX1_init 12 = .ok (.aload_n 0, 1) := by decide +kernel
theorem dX1_init_13 : decode cX1_init 13 = .ok (.bipush 24, 2) := by decide +kernel
theorem dX1_init_15 : decode cX1_init 15 = .ok (.newarray .int, 2) := by decide +kernel
theorem dX1_init_17 : decode cX1_init 17 = .ok (.putfield 13, 3) := by decide +kernel
theorem dX1_init_20 : decode cX1_init 20 = .ok (.aload_n 0, 1) := by decide +kernel
theorem dX1_init_21 : decode cX1_init 21 = .ok (.bipush 24, 2) := by decide +kernel
theorem dX1_init_23 : decode cX1_init 23 = .ok (.newarray .int, 2) := by decide +kernel
theorem dX1_init_25 : decode cX1_init 25 = .ok (.putfield 16, 3) := by decide +kernel
theorem dX1_init_28 : decode cX1_init 28 = .ok (.aload_n 0, 1) := by decide +kernel
theorem dX1_init_29 : decode cX1_init 29 = .ok (.bipush 8, 2) := by decide +kernel
theorem dX1_init_31 : decode cX1_init 31 = .ok (.newarray .int, 2) := by decide +kernel
theorem dX1_init_33 : decode cX1_init 33 = .ok (.putfield 19, 3) := by decide +kernel
theorem dX1_init_36 : decode cX1_init 36 = .ok (.aload_n 0, 1) := by decide +kernel
theorem dX1_init_37 : decode cX1_init 37 = .ok (.bipush 6, 2) := by decide +kernel
theorem dX1_init_39 : decode cX1_init 39 = .ok (.newarray .int, 2) := by decide +kernel
theorem dX1_init_41 : decode cX1_init 41 = .ok (.putfield 22, 3) := by decide +kernel
theorem dX1_init_44 : decode cX1_init 44 = .ok (.aload_n 0, 1) := by decide +kernel
theorem dX1_init_45 : decode cX1_init 45 = .ok (.bipush 36, 2) := by decide +kernel
theorem dX1_init_47 : decode cX1_init 47 = .ok (.newarray .int, 2) := by decide +kernel
theorem dX1_init_49 : decode cX1_init 49 = .ok (.putfield 25, 3) := by decide +kernel
theorem dX1_init_52 : decode cX1_init 52 = .ok (.aload_n 0, 1) := by decide +kernel
theorem dX1_init_53 : decode cX1_init 53 = .ok (.bipush 6, 2) := by decide +kernel
theorem dX1_init_55 : decode cX1_init 55 = .ok (.newarray .boolean, 2) := by decide +kernel
theorem dX1_init_57 : decode cX1_init 57 = .ok (.putfield 28, 3) := by decide +kernel
theorem dX1_init_60 : decode cX1_init 60 = .ok (.aload_n 0, 1) := by decide +kernel
theorem dX1_init_61 : decode cX1_init 61 = .ok (.bipush 6, 2) := by decide +kernel
theorem dX1_init_63 : decode cX1_init 63 = .ok (.newarray .boolean, 2) := by decide +kernel
theorem dX1_init_65 : decode cX1_init 65 = .ok (.putfield 32, 3) := by decide +kernel
theorem dX1_init_68 : decode cX1_init 68 = .ok (.aload_n 0, 1) := by decide +kernel
theorem dX1_init_69 : decode cX1_init 69 = .ok (.bipush 90, 2) := by decide +kernel
theorem dX1_init_71 : decode cX1_init 71 = .ok (.newarray .int, 2) := by decide +kernel
theorem dX1_init_73 : decode cX1_init 73 = .ok (.putfield 35, 3) := by decide +kernel
theorem dX1_init_76 : decode cX1_init 76 = .ok (.aload_n 0, 1) := by decide +kernel
theorem dX1_init_77 : decode cX1_init 77 = .ok (.bipush 18, 2) := by decide +kernel
theorem dX1_init_79 : decode cX1_init 79 = .ok (.newarray .int, 2) := by decide +kernel
theorem dX1_init_81 : decode cX1_init 81 = .ok (.putfield 38, 3) := by decide +kernel
theorem dX1_init_84 : decode cX1_init 84 = .ok (.aload_n 0, 1) := by decide +kernel
theorem dX1_init_85 : decode cX1_init 85 = .ok (.bipush 18, 2) := by decide +kernel
theorem dX1_init_87 : decode cX1_init 87 = .ok (.newarray .int, 2) := by decide +kernel
theorem dX1_init_89 : decode cX1_init 89 = .ok (.putfield 41, 3) := by decide +kernel
theorem dX1_init_92 : decode cX1_init 92 = .ok (.aload_n 0, 1) := by decide +kernel
theorem dX1_init_93 : decode cX1_init 93 = .ok (.bipush 9, 2) := by decide +kernel
theorem dX1_init_95 : decode cX1_init 95 = .ok (.newarray .int, 2) := by decide +kernel
theorem dX1_init_97 : decode cX1_init 97 = .ok (.putfield 44, 3) := by decide +kernel
theorem dX1_init_100 : decode cX1_init 100 = .ok (.aload_n 0, 1) := by decide +kernel
theorem dX1_init_101 : decode cX1_init 101 = .ok (.iconst 5, 1) := by decide +kernel
theorem dX1_init_102 : decode cX1_init 102 = .ok (.newarray .int, 2) := by decide +kernel
theorem dX1_init_104 : decode cX1_init 104 = .ok (.putfield 47, 3) := by decide +kernel
theorem dX1_init_107 : decode cX1_init 107 = .ok (.return_, 1) := by decide +kernel
theorem dX1_thrown_0 : decode cX1_thrown 0 = .ok (.aload_n 0, 1) := by decide +kernel
theorem dX1_thrown_1 : decode cX1_thrown 1 = .ok (.getfield 50, 3) := by decide +kernel
theorem dX1_thrown_4 : decode cX1_thrown 4 = .ok (.ireturn, 1) := by decide +kernel
theorem dX1_may_0 : decode cX1_may 0 = .ok (.aload_n 0, 1) := by decide +kernel
theorem dX1_may_1 : decode cX1_may 1 = .ok (.iload_n 1, 1) := by decide +kernel
theorem dX1_may_2 : decode cX1_may 2 = .ok (.ifCond .eq 7, 3) := by decide +kernel
theorem dX1_may_5 : decode cX1_may 5 = .ok (.iconst 0, 1) := by decide +kernel
theorem dX1_may_6 : decode cX1_may 6 = .ok (.goto 4, 3) := by decide +kernel
theorem dX1_may_9 : decode cX1_may 9 = .ok (.iconst 1, 1) := by decide +kernel
theorem dX1_may_10 : decode cX1_may 10 = .ok (.putfield 50, 3) := by decide +kernel
theorem dX1_may_13 : decode cX1_may 13 = .ok (.iload_n 1, 1) := by decide +kernel
theorem dX1_may_14 : decode cX1_may 14 = .ok (.ireturn, 1) := by decide +kernel
theorem dX1_mayBoth_0 : decode cX1_mayBoth 0 = .ok (.aload_n 0, 1) := by decide +kernel
theorem dX1_mayBoth_1 : decode cX1_mayBoth 1 = .ok (.iload_n 1, 1) := by decide +kernel
theorem dX1_mayBoth_2 : decode cX1_mayBoth 2 = .ok (.ifCond .ne 7, 3) := by decide +kernel
theorem dX1_mayBoth_5 : decode cX1_mayBoth 5 = .ok (.iconst 1, 1) := by decide +kernel
theorem dX1_mayBoth_6 : decode cX1_mayBoth 6 = .ok (.goto 12, 3) := by decide +kernel
theorem dX1_mayBoth_9 : decode cX1_mayBoth 9 = .ok (.iload_n 2, 1) := by decide +kernel
theorem dX1_mayBoth_10 : decode cX1_mayBoth 10 = .ok (.ifCond .ne 7, 3) := by decide +kernel
theorem dX1_mayBoth_13 : decode cX1_mayBoth 13 = .ok (.iconst 2, 1) := by decide +kernel
theorem dX1_mayBoth_14 : decode cX1_mayBoth 14 = .ok (.goto 4, 3) := by decide +kernel
theorem dX1_mayBoth_17 : decode cX1_mayBoth 17 = .ok (.iconst 0, 1) := by decide +kernel
theorem dX1_mayBoth_18 : decode cX1_mayBoth 18 = .ok (.putfield 50, 3) := by decide +kernel
theorem dX1_mayBoth_21 : decode cX1_mayBoth 21 = .ok (.aload_n 0, 1) := by decide +kernel
theorem dX1_mayBoth_22 : decode cX1_mayBoth 22 = .ok (.getfield 50, 3) := by decide +kernel
theorem dX1_mayBoth_25 : decode cX1_mayBoth 25 = .ok (.ifCond .ne 7, 3) := by decide +kernel
theorem dX1_mayBoth_28 : decode cX1_mayBoth 28 = .ok (.iconst 1, 1) := by decide +kernel
theorem dX1_mayBoth_29 : decode cX1_mayBoth 29 = .ok (.goto 4, 3) := by decide +kernel
theorem dX1_mayBoth_32 : decode cX1_mayBoth 32 = .ok (.iconst 0, 1) := by decide +kernel
theorem dX1_mayBoth_33 : decode cX1_mayBoth 33 = .ok (.ireturn, 1) := by decide +kernel
theorem dX1_mayAll_0 : decode cX1_mayAll 0 = .ok (.aload_n 0, 1) := by decide +kernel
theorem dX1_mayAll_1 : decode cX1_mayAll 1 = .ok (.iload_n 1, 1) := by decide +kernel
theorem dX1_mayAll_2 : decode cX1_mayAll 2 = .ok (.ifCond .ne 7, 3) := by decide +kernel
theorem dX1_mayAll_5 : decode cX1_mayAll 5 = .ok (.iconst 1, 1) := by decide +kernel
theorem dX1_mayAll_6 : decode cX1_mayAll 6 = .ok (.goto 20, 3) := by decide +kernel
theorem dX1_mayAll_9 : decode cX1_mayAll 9 = .ok (.iload_n 2, 1) := by decide +kernel
theorem dX1_mayAll_10 : decode cX1_mayAll 10 = .ok (.ifCond .ne 7, 3) := by decide +kernel
theorem dX1_mayAll_13 : decode cX1_mayAll 13 = .ok (.iconst 2, 1) := by decide +kernel
theorem dX1_mayAll_14 : decode cX1_mayAll 14 = .ok (.goto 12, 3) := by decide +kernel
theorem dX1_mayAll_17 : decode cX1_mayAll 17 = .ok (.iload_n 3, 1) := by decide +kernel
theorem dX1_mayAll_18 : decode cX1_mayAll 18 = .ok (.ifCond .ne 7, 3) := by decide +kernel
theorem dX1_mayAll_21 : decode cX1_mayAll 21 = .ok (.iconst 3, 1) := by decide +kernel
theorem dX1_mayAll_22 : decode cX1_mayAll 22 = .ok (.goto 4, 3) := by decide +kernel
theorem dX1_mayAll_25 : decode cX1_mayAll 25 = .ok (.iconst 0, 1) := by decide +kernel
theorem dX1_mayAll_26 : decode cX1_mayAll 26 = .ok (.putfield 50, 3) := by decide +kernel
theorem dX1_mayAll_29 : decode cX1_mayAll 29 = .ok (.aload_n 0, 1) := by decide +kernel
theorem dX1_mayAll_30 : decode cX1_mayAll 30 = .ok (.getfield 50, 3) := by decide +kernel
theorem dX1_mayAll_33 : decode cX1_mayAll 33 = .ok (.ifCond .ne 7, 3) := by decide +kernel
theorem dX1_mayAll_36 : decode cX1_mayAll 36 = .ok (.iconst 1, 1) := by decide +kernel
theorem dX1_mayAll_37 : decode cX1_mayAll 37 = .ok (.goto 4, 3) := by decide +kernel
theorem dX1_mayAll_40 : decode cX1_mayAll 40 = .ok (.iconst 0, 1) := by decide +kernel
theorem dX1_mayAll_41 : decode cX1_mayAll 41 = .ok (.ireturn, 1) := by decide +kernel
theorem dX1_isIn_0 : decode cX1_isIn 0 = .ok (.iload_n 0, 1) := by decide +kernel
theorem dX1_isIn_1 : decode cX1_isIn 1 = .ok (.iload_n 1, 1) := by decide +kernel
theorem dX1_isIn_2 : decode cX1_isIn 2 = .ok (.if_icmp .lt 12, 3) := by decide +kernel
theorem dX1_isIn_5 : decode cX1_isIn 5 = .ok (.iload_n 0, 1) := by decide +kernel
theorem dX1_isIn_6 : decode cX1_isIn 6 = .ok (.iload_n 2, 1) := by decide +kernel
theorem dX1_isIn_7 : decode cX1_isIn 7 = .ok (.if_icmp .gt 7, 3) := by decide +kernel
theorem dX1_isIn_10 : decode cX1_isIn 10 = .ok (.iconst 1, 1) := by decide +kernel
theorem dX1_isIn_11 : decode cX1_isIn 11 = .ok (.goto 4, 3) := by decide +kernel
theorem dX1_isIn_14 : decode cX1_isIn 14 = .ok (.iconst 0, 1) := by decide +kernel
theorem dX1_isIn_15 : decode cX1_isIn 15 = .ok (.ireturn, 1) := by decide +kernel
set_option maxRecDepth 20000 in
theorem ggX1_isByte_X1_isIn : GoodIn wsX1_isByte wsX1_isIn := goodIn_r _ [4] (by decide +kernel) (by decide +kernel)
set_option maxRecDepth 20000 in
theorem gX1_isByte_X1_isIn : GoodIn wsX1_isByte (va_wsS RX1 54 yX1_isIn wsX1_isIn) := goodIn_app (goodIn_of _ (by decide +kernel)) ggX1_isByte_X1_isIn
theorem dX1_isByte_0 : decode cX1_isByte 0 = .ok (.iload_n 0, 1) := by decide +kernel
theorem dX1_isByte_1 : decode cX1_isByte 1 = .ok (.iconst 0, 1) := by decide +kernel
theorem dX1_isByte_2 : decode cX1_isByte 2 = .ok (.sipush 255, 3) := by decide +kernel
theorem dX1_isByte_5 : decode cX1_isByte 5 = .ok (.invokestatic 54, 3) := by decide +kernel
theorem dX1_isByte_8 : decode cX1_isByte 8 = .ok (.ireturn, 1) := by decide +kernel
set_option maxRecDepth 20000 in
theorem ggX1_isThird_X1_isIn : GoodIn wsX1_isThird wsX1_isIn := goodIn_r _ [4] (by decide +kernel) (by decide +kernel)
set_option maxRecDepth 20000 in
theorem gX1_isThird_X1_isIn : GoodIn wsX1_isThird (va_wsS RX1 54 yX1_isIn wsX1_isIn) := goodIn_app (goodIn_of _ (by decide +kernel)) ggX1_isThird_X1_isIn
theorem dX1_isThird_0 : decode cX1_isThird 0 = .ok (.iload_n 0, 1) := by decide +kernel
theorem dX1_isThird_1 : decode cX1_isThird 1 = .ok (.iconst 0, 1) := by decide +kernel
theorem dX1_isThird_2 : decode cX1_isThird 2 = .ok (.iconst 2, 1) := by decide +kernel
theorem dX1_isThird_3 : decode cX1_isThird 3 = .ok (.invokestatic 54, 3) := by decide +kernel
theorem dX1_isThird_6 : decode cX1_isThird 6 = .ok (.ireturn, 1) := by decide +kernel
set_option maxRecDepth 20000 in
theorem ggX1_isProfile_X1_isIn : GoodIn wsX1_isProfile wsX1_isIn := goodIn_r _ [5] (by decide +kernel) (by decide +kernel)
set_option maxRecDepth 20000 in
theorem gX1_isProfile_X1_isIn : GoodIn wsX1_isProfile (va_wsS RX1 54 yX1_isIn wsX1_isIn) := goodIn_app (goodIn_of _ (by decide +kernel)) ggX1_isProfile_X1_isIn
theorem dX1_isProfile_0 : decode cX1_isProfile 0 = .ok (.iload_n 1, 1) := by decide +kernel
theorem dX1_isProfile_1 : decode cX1_isProfile 1 = .ok (.iconst 0, 1) := by decide +kernel
theorem dX1_isProfile_2 : decode cX1_isProfile 2 = .ok (.aload_n 0, 1) := by decide +kernel
theorem dX1_isProfile_3 : decode cX1_isProfile 3 = .ok (.getfield 58, 3) := by decide +kernel
theorem dX1_isProfile_6 : decode cX1_isProfile 6 = .ok (.iconst 1, 1) := by decide +kernel
theorem dX1_isProfile_7 : decode cX1_isProfile 7 = .ok (.isub, 1) := by decide +kernel
theorem dX1_isProfile_8 : decode cX1_isProfile 8 = .ok (.invokestatic 54, 3) := by decide +kernel
theorem dX1_isProfile_11 : decode cX1_isProfile 11 = .ok (.ireturn, 1) := by decide +kernel
set_option maxRecDepth 20000 in
theorem ggX1_isChain_X1_isIn : GoodIn wsX1_isChain wsX1_isIn := goodIn_r _ [5] (by decide +kernel) (by decide +kernel)
set_option maxRecDepth 20000 in
theorem gX1_isChain_X1_isIn : GoodIn wsX1_isChain (va_wsS RX1 54 yX1_isIn wsX1_isIn) := goodIn_app (goodIn_of _ (by decide +kernel)) ggX1_isChain_X1_isIn
theorem dX1_isChain_0 : decode cX1_isChain 0 = .ok (.iload_n 1, 1) := by decide +kernel
theorem dX1_isChain_1 : decode cX1_isChain 1 = .ok (.iconst 0, 1) := by decide +kernel
theorem dX1_isChain_2 : decode cX1_isChain 2 = .ok (.aload_n 0, 1) := by decide +kernel
theorem dX1_isChain_3 : decode cX1_isChain 3 = .ok (.getfield 61, 3) := by decide +kernel
theorem dX1_isChain_6 : decode cX1_isChain 6 = .ok (.iconst 1, 1) := by decide +kernel
theorem dX1_isChain_7 : decode cX1_isChain 7 = .ok (.isub, 1) := by decide +kernel
theorem dX1_isChain_8 : decode cX1_isChain 8 = .ok (.invokestatic 54, 3) := by decide +kernel
theorem dX1_isChain_11 : decode cX1_isChain 11 = .ok (.ireturn, 1) := by decide +kernel
theorem dX1_placeAt_0 : decode cX1_placeAt 0 = .ok (.iload_n 0, 1) := by decide +kernel
theorem dX1_placeAt_1 : decode cX1_placeAt 1 = .ok (.iconst 4, 1) := by decide +kernel
theorem dX1_placeAt_2 : decode cX1_placeAt 2 = .ok (.if_icmp .ne 9, 3) := by decide +kernel
theorem dX1_placeAt_5 : decode cX1_placeAt 5 = .ok (.sipush 255, 3) := by decide +kernel
theorem dX1_placeAt_8 : decode cX1_placeAt 8 = .ok (.goto 7, 3) := by decide +kernel
theorem dX1_placeAt_11 : decode cX1_placeAt 11 = .ok (.bipush 64, 2) := by decide +kernel
theorem dX1_placeAt_13 : decode cX1_placeAt 13 = .ok (.iload_n 0, 1) := by decide +kernel
theorem dX1_placeAt_14 : decode cX1_placeAt 14 = .ok (.imul, 1) := by decide +kernel
theorem dX1_placeAt_15 : decode cX1_placeAt 15 = .ok (.ireturn, 1) := by decide +kernel
theorem dX1_quotient_0 : decode cX1_quotient 0 = .ok (.iload_n 0, 1) := by decide +kernel
theorem dX1_quotient_1 : decode cX1_quotient 1 = .ok (.iload_n 1, 1) := by decide +kernel
theorem dX1_quotient_2 : decode cX1_quotient 2 = .ok (.idiv, 1) := by decide +kernel
theorem dX1_quotient_3 : decode cX1_quotient 3 = .ok (.istore_n 2, 1) := by decide +kernel
theorem dX1_quotient_4 : decode cX1_quotient 4 = .ok (.iload_n 2, 1) := by decide +kernel
theorem dX1_quotient_5 : decode cX1_quotient 5 = .ok (.iload_n 1, 1) := by decide +kernel
theorem dX1_quotient_6 : decode cX1_quotient 6 = .ok (.imul, 1) := by decide +kernel
theorem dX1_quotient_7 : decode cX1_quotient 7 = .ok (.iload_n 0, 1) := by decide +kernel
theorem dX1_quotient_8 : decode cX1_quotient 8 = .ok (.if_icmp .le 9, 3) := by decide +kernel
theorem dX1_quotient_11 : decode cX1_quotient 11 = .ok (.iload_n 2, 1) := by decide +kernel
theorem dX1_quotient_12 : decode cX1_quotient 12 = .ok (.iconst 1, 1) := by decide +kernel
theorem dX1_quotient_13 : decode cX1_quotient 13 = .ok (.isub, 1) := by decide +kernel
theorem dX1_quotient_14 : decode cX1_quotient 14 = .ok (.goto 4, 3) := by decide +kernel
theorem dX1_quotient_17 : decode cX1_quotient 17 = .ok (.iload_n 2, 1) := by decide +kernel
theorem dX1_quotient_18 : decode cX1_quotient 18 = .ok (.ireturn, 1) := by decide +kernel
set_option maxRecDepth 20000 in
theorem ggX1_between_X1_placeAt : GoodIn wsX1_between wsX1_placeAt := goodIn_r _ [5] (by decide +kernel) (by decide +kernel)
set_option maxRecDepth 20000 in
theorem gX1_between_X1_placeAt : GoodIn wsX1_between (va_wsS RX1 64 yX1_placeAt wsX1_placeAt) := goodIn_app (goodIn_of _ (by decide +kernel)) ggX1_between_X1_placeAt
set_option maxRecDepth 20000 in
theorem ggX1_between_X1_quotient : GoodIn wsX1_between wsX1_quotient := goodIn_r _ [8] (by decide +kernel) (by decide +kernel)
set_option maxRecDepth 20000 in
theorem gX1_between_X1_quotient : GoodIn wsX1_between (va_wsS RX1 68 yX1_quotient wsX1_quotient) := goodIn_app (goodIn_of _ (by decide +kernel)) ggX1_between_X1_quotient
theorem dX1_between_0 : decode cX1_between 0 = .ok (.iconst 0, 1) := by decide +kernel
theorem dX1_between_1 : decode cX1_between 1 = .ok (.istore_n 2, 1) := by decide +kernel
theorem dX1_between_2 : decode cX1_between 2 = .ok (.iload_n 2, 1) := by decide +kernel
theorem dX1_between_3 : decode cX1_between 3 = .ok (.iconst 4, 1) := by decide +kernel
theorem dX1_between_4 : decode cX1_between 4 = .ok (.if_icmp .ge 19, 3) := by decide +kernel
theorem dX1_between_7 : decode cX1_between 7 = .ok (.iload_n 2, 1) := by decide +kernel
theorem dX1_between_8 : decode cX1_between 8 = .ok (.iconst 1, 1) := by decide +kernel
theorem dX1_between_9 : decode cX1_between 9 = .ok (.iadd, 1) := by decide +kernel
theorem dX1_between_10 : decode cX1_between 10 = .ok (.invokestatic 64, 3) := by decide +kernel
theorem dX1_between_13 : decode cX1_between 13 = .ok (.iload_n 1, 1) := by decide +kernel
theorem dX1_between_14 : decode cX1_between 14 = .ok (.if_icmp .gt 9, 3) := by decide +kernel
theorem dX1_between_17 : decode cX1_between 17 = .ok (.iinc 2 1, 3) := by decide +kernel
theorem dX1_between_20 : decode cX1_between 20 = .ok (.goto (-18), 3) := by decide +kernel
theorem dX1_between_23 : decode cX1_between 23 = .ok (.iload_n 2, 1) := by decide +kernel
theorem dX1_between_24 : decode cX1_between 24 = .ok (.invokestatic 64, 3) := by decide +kernel
theorem dX1_between_27 : decode cX1_between 27 = .ok (.iload_n 1, 1) := by decide +kernel
theorem dX1_between_28 : decode cX1_between 28 = .ok (.if_icmp .ne 10, 3) := by decide +kernel
theorem dX1_between_31 : decode cX1_between 31 = .ok (.aload_n 0, 1) := by decide +kernel
theorem dX1_between_32 : decode cX1_between 32 = .ok (.getfield 47, 3) := by decide +kernel
theorem dX1_between_35 : decode cX1_between 35 = .ok (.iload_n 2, 1) := by decide +kernel
theorem dX1_between_36 : decode cX1_between 36 = .ok (.iaload, 1) := by decide +kernel
theorem dX1_between_37 : decode cX1_between 37 = .ok (.ireturn, 1) := by decide +kernel
theorem dX1_between_38 : decode cX1_between 38 = .ok (.aload_n 0, 1) := by decide +kernel
theorem dX1_between_39 : decode cX1_between 39 = .ok (.getfield 47, 3) := by decide +kernel
theorem dX1_between_42 : decode cX1_between 42 = .ok (.iload_n 2, 1) := by decide +kernel
theorem dX1_between_43 : decode cX1_between 43 = .ok (.iaload, 1) := by decide +kernel
theorem dX1_between_44 : decode cX1_between 44 = .ok (.aload_n 0, 1) := by decide +kernel
theorem dX1_between_45 : decode cX1_between 45 = .ok (.getfield 47, 3) := by decide +kernel
theorem dX1_between_48 : decode cX1_between 48 = .ok (.iload_n 2, 1) := by decide +kernel
theorem dX1_between_49 : decode cX1_between 49 = .ok (.iconst 1, 1) := by decide +kernel
theorem dX1_between_50 : decode cX1_between 50 = .ok (.iadd, 1) := by decide +kernel
theorem dX1_between_51 : decode cX1_between 51 = .ok (.iaload, 1) := by decide +kernel
theorem dX1_between_52 : decode cX1_between 52 = .ok (.aload_n 0, 1) := by decide +kernel
theorem dX1_between_53 : decode cX1_between 53 = .ok (.getfield 47, 3) := by decide +kernel
theorem dX1_between_56 : decode cX1_between 56 = .ok (.iload_n 2, 1) := by decide +kernel
theorem dX1_between_57 : decode cX1_between 57 = .ok (.iaload, 1) := by decide +kernel
theorem dX1_between_58 : decode cX1_between 58 = .ok (.isub, 1) := by decide +kernel
theorem dX1_between_59 : decode cX1_between 59 = .ok (.iload_n 1, 1) := by decide +kernel
theorem dX1_between_60 : decode cX1_between 60 = .ok (.iload_n 2, 1) := by decide +kernel
theorem dX1_between_61 : decode cX1_between 61 = .ok (.invokestatic 64, 3) := by decide +kernel
theorem dX1_between_64 : decode cX1_between 64 = .ok (.isub, 1) := by decide +kernel
theorem dX1_between_65 : decode cX1_between 65 = .ok (.imul, 1) := by decide +kernel
theorem dX1_between_66 : decode cX1_between 66 = .ok (.iload_n 2, 1) := by decide +kernel
theorem dX1_between_67 : decode cX1_between 67 = .ok (.iconst 1, 1) := by decide +kernel
theorem dX1_between_68 : decode cX1_between 68 = .ok (.iadd, 1) := by decide +kernel
theorem dX1_between_69 : decode cX1_between 69 = .ok (.invokestatic 64, 3) := by decide +kernel
theorem dX1_between_72 : decode cX1_between 72 = .ok (.iload_n 2, 1) := by decide +kernel
theorem dX1_between_73 : decode cX1_between 73 = .ok (.invokestatic 64, 3) := by decide +kernel
theorem dX1_between_76 : decode cX1_between 76 = .ok (.isub, 1) := by decide +kernel
theorem dX1_between_77 : decode cX1_between 77 = .ok (.invokestatic 68, 3) := by decide +kernel
theorem dX1_between_80 : decode cX1_between 80 = .ok (.iadd, 1) := by decide +kernel
theorem dX1_between_81 : decode cX1_between 81 = .ok (.ireturn, 1) := by decide +kernel
set_option maxRecDepth 20000 in
theorem ggX1_curveOf_X1_between : GoodIn wsX1_curveOf wsX1_between := goodIn_r _ [7, 1, 8, 9, 6, 10, 11, 12, 13, 14, 15, 16, 17, 18, 19, 20, 21, 22, 23, 24, 25, 26, 27, 28, 29] (by decide +kernel) (by decide +kernel)
set_option maxRecDepth 20000 in
theorem gX1_curveOf_X1_between : GoodIn wsX1_curveOf (wsV RX1 72 RX1 yX1_between wsX1_between) := goodIn_app (goodIn_of _ (by decide +kernel)) ggX1_curveOf_X1_between
theorem dX1_curveOf_0 : decode cX1_curveOf 0 = .ok (.iconst 0, 1) := by decide +kernel
theorem dX1_curveOf_1 : decode cX1_curveOf 1 = .ok (.istore 4, 2) := by decide +kernel
theorem dX1_curveOf_3 : decode cX1_curveOf 3 = .ok (.iload 4, 2) := by decide +kernel
theorem dX1_curveOf_5 : decode cX1_curveOf 5 = .ok (.iconst 5, 1) := by decide +kernel
theorem dX1_curveOf_6 : decode cX1_curveOf 6 = .ok (.if_icmp .ge 32, 3) := by decide +kernel
theorem dX1_curveOf_9 : decode cX1_curveOf 9 = .ok (.aload_n 0, 1) := by decide +kernel
theorem dX1_curveOf_10 : decode cX1_curveOf 10 = .ok (.getfield 47, 3) := by decide +kernel
theorem dX1_curveOf_13 : decode cX1_curveOf 13 = .ok (.iload 4, 2) := by decide +kernel
theorem dX1_curveOf_15 : decode cX1_curveOf 15 = .ok (.aload_n 0, 1) := by decide +kernel
theorem dX1_curveOf_16 : decode cX1_curveOf 16 = .ok (.getfield 7, 3) := by decide +kernel
theorem dX1_curveOf_19 : decode cX1_curveOf 19 = .ok (.bipush 15, 2) := by decide +kernel
theorem dX1_curveOf_21 : decode cX1_curveOf 21 = .ok (.iload_n 1, 1) := by decide +kernel
theorem dX1_curveOf_22 : decode cX1_curveOf 22 = .ok (.imul, 1) := by decide +kernel
theorem dX1_curveOf_23 : decode cX1_curveOf 23 = .ok (.iconst 5, 1) := by decide +kernel
theorem dX1_curveOf_24 : decode cX1_curveOf 24 = .ok (.iload_n 2, 1) := by decide +kernel
theorem dX1_curveOf_25 : decode cX1_curveOf 25 = .ok (.imul, 1) := by decide +kernel
theorem dX1_curveOf_26 : decode cX1_curveOf 26 = .ok (.iadd, 1) := by decide +kernel
theorem dX1_curveOf_27 : decode cX1_curveOf 27 = .ok (.iload 4, 2) := by decide +kernel
theorem dX1_curveOf_29 : decode cX1_curveOf 29 = .ok (.iadd, 1) := by decide +kernel
theorem dX1_curveOf_30 : decode cX1_curveOf 30 = .ok (.iaload, 1) := by decide +kernel
theorem dX1_curveOf_31 : decode cX1_curveOf 31 = .ok (.iastore, 1) := by decide +kernel
theorem dX1_curveOf_32 : decode cX1_curveOf 32 = .ok (.iinc 4 1, 3) := by decide +kernel
theorem dX1_curveOf_35 : decode cX1_curveOf 35 = .ok (.goto (-32), 3) := by decide +kernel
theorem dX1_curveOf_38 : decode cX1_curveOf 38 = .ok (.aload_n 0, 1) := by decide +kernel
theorem dX1_curveOf_39 : decode cX1_curveOf 39 = .ok (.iload_n 3, 1) := by decide +kernel
theorem dX1_curveOf_40 : decode cX1_curveOf 40 = .ok (.invokevirtual 72, 3) := by decide +kernel
theorem dX1_curveOf_43 : decode cX1_curveOf 43 = .ok (.ireturn, 1) := by decide +kernel
set_option maxRecDepth 20000 in
theorem ggX1_takenBy_X1_curveOf : GoodIn wsX1_takenBy wsX1_curveOf := goodIn_r _ [8, 9, 10, 11, 12, 13, 7, 14, 15, 16, 17, 18, 19, 20, 21, 22, 23, 24, 25, 26, 27, 28, 29, 30, 31, 32, 33, 34, 35, 36] (by decide +kernel) (by decide +kernel)
set_option maxRecDepth 20000 in
theorem gX1_takenBy_X1_curveOf : GoodIn wsX1_takenBy (wsV RX1 75 RX1 yX1_curveOf wsX1_curveOf) := goodIn_app (goodIn_of _ (by decide +kernel)) ggX1_takenBy_X1_curveOf
theorem dX1_takenBy_0 : decode cX1_takenBy 0 = .ok (.aload_n 0, 1) := by decide +kernel
theorem dX1_takenBy_1 : decode cX1_takenBy 1 = .ok (.getfield 13, 3) := by decide +kernel
theorem dX1_takenBy_4 : decode cX1_takenBy 4 = .ok (.iconst 3, 1) := by decide +kernel
theorem dX1_takenBy_5 : decode cX1_takenBy 5 = .ok (.iload_n 1, 1) := by decide +kernel
theorem dX1_takenBy_6 : decode cX1_takenBy 6 = .ok (.imul, 1) := by decide +kernel
theorem dX1_takenBy_7 : decode cX1_takenBy 7 = .ok (.iload_n 2, 1) := by decide +kernel
theorem dX1_takenBy_8 : decode cX1_takenBy 8 = .ok (.iadd, 1) := by decide +kernel
theorem dX1_takenBy_9 : decode cX1_takenBy 9 = .ok (.iaload, 1) := by decide +kernel
theorem dX1_takenBy_10 : decode cX1_takenBy 10 = .ok (.istore 4, 2) := by decide +kernel
theorem dX1_takenBy_12 : decode cX1_takenBy 12 = .ok (.aload_n 0, 1) := by decide +kernel
theorem dX1_takenBy_13 : decode cX1_takenBy 13 = .ok (.getfield 16, 3) := by decide +kernel
theorem dX1_takenBy_16 : decode cX1_takenBy 16 = .ok (.iconst 3, 1) := by decide +kernel
theorem dX1_takenBy_17 : decode cX1_takenBy 17 = .ok (.iload_n 1, 1) := by decide +kernel
theorem dX1_takenBy_18 : decode cX1_takenBy 18 = .ok (.imul, 1) := by decide +kernel
theorem dX1_takenBy_19 : decode cX1_takenBy 19 = .ok (.iload_n 2, 1) := by decide +kernel
theorem dX1_takenBy_20 : decode cX1_takenBy 20 = .ok (.iadd, 1) := by decide +kernel
theorem dX1_takenBy_21 : decode cX1_takenBy 21 = .ok (.iaload, 1) := by decide +kernel
theorem dX1_takenBy_22 : decode cX1_takenBy 22 = .ok (.istore 5, 2) := by decide +kernel
theorem dX1_takenBy_24 : decode cX1_takenBy 24 = .ok (.aload_n 0, 1) := by decide +kernel
theorem dX1_takenBy_25 : decode cX1_takenBy 25 = .ok (.iload_n 1, 1) := by decide +kernel
theorem dX1_takenBy_26 : decode cX1_takenBy 26 = .ok (.iload_n 2, 1) := by decide +kernel
theorem dX1_takenBy_27 : decode cX1_takenBy 27 = .ok (.iload_n 3, 1) := by decide +kernel
theorem dX1_takenBy_28 : decode cX1_takenBy 28 = .ok (.invokevirtual 75, 3) := by decide +kernel
theorem dX1_takenBy_31 : decode cX1_takenBy 31 = .ok (.istore 6, 2) := by decide +kernel
theorem dX1_takenBy_33 : decode cX1_takenBy 33 = .ok (.aload_n 0, 1) := by decide +kernel
theorem dX1_takenBy_34 : decode cX1_takenBy 34 = .ok (.getfield 19, 3) := by decide +kernel
theorem dX1_takenBy_37 : decode cX1_takenBy 37 = .ok (.iload_n 1, 1) := by decide +kernel
theorem dX1_takenBy_38 : decode cX1_takenBy 38 = .ok (.iaload, 1) := by decide +kernel
theorem dX1_takenBy_39 : decode cX1_takenBy 39 = .ok (.iconst 1, 1) := by decide +kernel
theorem dX1_takenBy_40 : decode cX1_takenBy 40 = .ok (.if_icmp .ne 19, 3) := by decide +kernel
theorem dX1_takenBy_43 : decode cX1_takenBy 43 = .ok (.iload 4, 2) := by decide +kernel
theorem dX1_takenBy_45 : decode cX1_takenBy 45 = .ok (.iload 6, 2) := by decide +kernel
theorem dX1_takenBy_47 : decode cX1_takenBy 47 = .ok (.iload 5, 2) := by decide +kernel
theorem dX1_takenBy_49 : decode cX1_takenBy 49 = .ok (.iload 4, 2) := by decide +kernel
theorem dX1_takenBy_51 : decode cX1_takenBy 51 = .ok (.isub, 1) := by decide +kernel
theorem dX1_takenBy_52 : decode cX1_takenBy 52 = .ok (.imul, 1) := by decide +kernel
theorem dX1_takenBy_53 : decode cX1_takenBy 53 = .ok (.sipush 255, 3) := by decide +kernel
theorem dX1_takenBy_56 : decode cX1_takenBy 56 = .ok (.idiv, 1) := by decide +kernel
theorem dX1_takenBy_57 : decode cX1_takenBy 57 = .ok (.iadd, 1) := by decide +kernel
theorem dX1_takenBy_58 : decode cX1_takenBy 58 = .ok (.ireturn, 1) := by decide +kernel
theorem dX1_takenBy_59 : decode cX1_takenBy 59 = .ok (.aload_n 0, 1) := by decide +kernel
theorem dX1_takenBy_60 : decode cX1_takenBy 60 = .ok (.getfield 19, 3) := by decide +kernel
theorem dX1_takenBy_63 : decode cX1_takenBy 63 = .ok (.iload_n 1, 1) := by decide +kernel
theorem dX1_takenBy_64 : decode cX1_takenBy 64 = .ok (.iaload, 1) := by decide +kernel
theorem dX1_takenBy_65 : decode cX1_takenBy 65 = .ok (.iconst 2, 1) := by decide +kernel
theorem dX1_takenBy_66 : decode cX1_takenBy 66 = .ok (.if_icmp .ne 41, 3) := by decide +kernel
theorem dX1_takenBy_69 : decode cX1_takenBy 69 = .ok (.iload 6, 2) := by decide +kernel
theorem dX1_takenBy_71 : decode cX1_takenBy 71 = .ok (.iload 5, 2) := by decide +kernel
theorem dX1_takenBy_73 : decode cX1_takenBy 73 = .ok (.if_icmp .le 13, 3) := by decide +kernel
theorem dX1_takenBy_76 : decode cX1_takenBy 76 = .ok (.iconst 2, 1) := by decide +kernel
theorem dX1_takenBy_77 : decode cX1_takenBy 77 = .ok (.iload 5, 2) := by decide +kernel
theorem dX1_takenBy_79 : decode cX1_takenBy 79 = .ok (.imul, 1) := by decide +kernel
theorem dX1_takenBy_80 : decode cX1_takenBy 80 = .ok (.iload 6, 2) := by decide +kernel
theorem dX1_takenBy_82 : decode cX1_takenBy 82 = .ok (.isub, 1) := by decide +kernel
theorem dX1_takenBy_83 : decode cX1_takenBy 83 = .ok (.goto 22, 3) := by decide +kernel
theorem dX1_takenBy_86 : decode cX1_takenBy 86 = .ok (.iload 6, 2) := by decide +kernel
theorem dX1_takenBy_88 : decode cX1_takenBy 88 = .ok (.iload 4, 2) := by decide +kernel
theorem dX1_takenBy_90 : decode cX1_takenBy 90 = .ok (.if_icmp .ge 13, 3) := by decide +kernel
theorem dX1_takenBy_93 : decode cX1_takenBy 93 = .ok (.iconst 2, 1) := by decide +kernel
theorem dX1_takenBy_94 : decode cX1_takenBy 94 = .ok (.iload 4, 2) := by decide +kernel
theorem dX1_takenBy_96 : decode cX1_takenBy 96 = .ok (.imul, 1) := by decide +kernel
theorem dX1_takenBy_97 : decode cX1_takenBy 97 = .ok (.iload 6, 2) := by decide +kernel
theorem dX1_takenBy_99 : decode cX1_takenBy 99 = .ok (.isub, 1) := by decide +kernel
theorem dX1_takenBy_100 : decode cX1_takenBy 100 = .ok (.goto 5, 3) := by decide +kernel
theorem dX1_takenBy_103 : decode cX1_takenBy 103 = .ok (.iload 6, 2) := by decide +kernel
theorem dX1_takenBy_105 : decode cX1_takenBy 105 = .ok (.istore 6, 2) := by decide +kernel
theorem dX1_takenBy_107 : decode cX1_takenBy 107 = .ok (.iload 6, 2) := by decide +kernel
theorem dX1_takenBy_109 : decode cX1_takenBy 109 = .ok (.iload 4, 2) := by decide +kernel
theorem dX1_takenBy_111 : decode cX1_takenBy 111 = .ok (.if_icmp .ge 8, 3) := by decide +kernel
theorem dX1_takenBy_114 : decode cX1_takenBy 114 = .ok (.iload 4, 2) := by decide +kernel
theorem dX1_takenBy_116 : decode cX1_takenBy 116 = .ok (.goto 17, 3) := by decide +kernel
theorem dX1_takenBy_119 : decode cX1_takenBy 119 = .ok (.iload 6, 2) := by decide +kernel
theorem dX1_takenBy_121 : decode cX1_takenBy 121 = .ok (.iload 5, 2) := by decide +kernel
theorem dX1_takenBy_123 : decode cX1_takenBy 123 = .ok (.if_icmp .le 8, 3) := by decide +kernel
theorem dX1_takenBy_126 : decode cX1_takenBy 126 = .ok (.iload 5, 2) := by decide +kernel
theorem dX1_takenBy_128 : decode cX1_takenBy 128 = .ok (.goto 5, 3) := by decide +kernel
theorem dX1_takenBy_131 : decode cX1_takenBy 131 = .ok (.iload 6, 2) := by decide +kernel
theorem dX1_takenBy_133 : decode cX1_takenBy 133 = .ok (.ireturn, 1) := by decide +kernel
set_option maxRecDepth 20000 in
theorem ggX1_throughOf_X1_takenBy : GoodIn wsX1_throughOf wsX1_takenBy := goodIn_r _ [7, 8, 9, 10, 11, 12, 13, 6, 14, 15, 16, 17, 18, 19, 20, 21, 22, 23, 24, 25, 26, 27, 28, 29, 30, 31, 32, 33, 34, 35, 36, 37, 38, 39, 40, 41, 42] (by decide +kernel) (by decide +kernel)
set_option maxRecDepth 20000 in
theorem gX1_throughOf_X1_takenBy : GoodIn wsX1_throughOf (wsV RX1 79 RX1 yX1_takenBy wsX1_takenBy) := goodIn_app (goodIn_of _ (by decide +kernel)) ggX1_throughOf_X1_takenBy
theorem dX1_throughOf_0 : decode cX1_throughOf 0 = .ok (.iload_n 3, 1) := by decide +kernel
theorem dX1_throughOf_1 : decode cX1_throughOf 1 = .ok (.istore 4, 2) := by decide +kernel
theorem dX1_throughOf_3 : decode cX1_throughOf 3 = .ok (.iconst 0, 1) := by decide +kernel
theorem dX1_throughOf_4 : decode cX1_throughOf 4 = .ok (.istore 5, 2) := by decide +kernel
theorem dX1_throughOf_6 : decode cX1_throughOf 6 = .ok (.iload 5, 2) := by decide +kernel
theorem dX1_throughOf_8 : decode cX1_throughOf 8 = .ok (.aload_n 0, 1) := by decide +kernel
theorem dX1_throughOf_9 : decode cX1_throughOf 9 = .ok (.getfield 22, 3) := by decide +kernel
theorem dX1_throughOf_12 : decode cX1_throughOf 12 = .ok (.iload_n 1, 1) := by decide +kernel
theorem dX1_throughOf_13 : decode cX1_throughOf 13 = .ok (.iaload, 1) := by decide +kernel
theorem dX1_throughOf_14 : decode cX1_throughOf 14 = .ok (.if_icmp .ge 30, 3) := by decide +kernel
theorem dX1_throughOf_17 : decode cX1_throughOf 17 = .ok (.aload_n 0, 1) := by decide +kernel
theorem dX1_throughOf_18 : decode cX1_throughOf 18 = .ok (.aload_n 0, 1) := by decide +kernel
theorem dX1_throughOf_19 : decode cX1_throughOf 19 = .ok (.getfield 25, 3) := by decide +kernel
theorem dX1_throughOf_22 : decode cX1_throughOf 22 = .ok (.bipush 6, 2) := by decide +kernel
theorem dX1_throughOf_24 : decode cX1_throughOf 24 = .ok (.iload_n 1, 1) := by decide +kernel
theorem dX1_throughOf_25 : decode cX1_throughOf 25 = .ok (.imul, 1) := by decide +kernel
theorem dX1_throughOf_26 : decode cX1_throughOf 26 = .ok (.iload 5, 2) := by decide +kernel
theorem dX1_throughOf_28 : decode cX1_throughOf 28 = .ok (.iadd, 1) := by decide +kernel
theorem dX1_throughOf_29 : decode cX1_throughOf 29 = .ok (.iaload, 1) := by decide +kernel
theorem dX1_throughOf_30 : decode cX1_throughOf 30 = .ok (.iload_n 2, 1) := by decide +kernel
theorem dX1_throughOf_31 : decode cX1_throughOf 31 = .ok (.iload 4, 2) := by decide +kernel
theorem dX1_throughOf_33 : decode cX1_throughOf 33 = .ok (.invokevirtual 79, 3) := by decide +kernel
theorem dX1_throughOf_36 : decode cX1_throughOf 36 = .ok (.istore 4, 2) := by decide +kernel
theorem dX1_throughOf_38 : decode cX1_throughOf 38 = .ok (.iinc 5 1, 3) := by decide +kernel
theorem dX1_throughOf_41 : decode cX1_throughOf 41 = .ok (.goto (-35), 3) := by decide +kernel
theorem dX1_throughOf_44 : decode cX1_throughOf 44 = .ok (.iload 4, 2) := by decide +kernel
theorem dX1_throughOf_46 : decode cX1_throughOf 46 = .ok (.ireturn, 1) := by decide +kernel
theorem dX1_isHeld_0 : decode cX1_isHeld 0 = .ok (.iconst 0, 1) := by decide +kernel
theorem dX1_isHeld_1 : decode cX1_isHeld 1 = .ok (.istore_n 2, 1) := by decide +kernel
theorem dX1_isHeld_2 : decode cX1_isHeld 2 = .ok (.iconst 0, 1) := by decide +kernel
theorem dX1_isHeld_3 : decode cX1_isHeld 3 = .ok (.istore_n 3, 1) := by decide +kernel
theorem dX1_isHeld_4 : decode cX1_isHeld 4 = .ok (.iload_n 3, 1) := by decide +kernel
theorem dX1_isHeld_5 : decode cX1_isHeld 5 = .ok (.aload_n 0, 1) := by decide +kernel
theorem dX1_isHeld_6 : decode cX1_isHeld 6 = .ok (.getfield 61, 3) := by decide +kernel
theorem dX1_isHeld_9 : decode cX1_isHeld 9 = .ok (.if_icmp .ge 64, 3) := by decide +kernel
theorem dX1_isHeld_12 : decode cX1_isHeld 12 = .ok (.iconst 0, 1) := by decide +kernel
theorem dX1_isHeld_13 : decode cX1_isHeld 13 = .ok (.istore 4, 2) := by decide +kernel
theorem dX1_isHeld_15 : decode cX1_isHeld 15 = .ok (.iload 4, 2) := by decide +kernel
theorem dX1_isHeld_17 : decode cX1_isHeld 17 = .ok (.aload_n 0, 1) := by decide +kernel
theorem dX1_isHeld_18 : decode cX1_isHeld 18 = .ok (.getfield 22, 3) := by decide +kernel
theorem dX1_isHeld_21 : decode cX1_isHeld 21 = .ok (.iload_n 3, 1) := by decide +kernel
theorem dX1_isHeld_22 : decode cX1_isHeld 22 = .ok (.iaload, 1) := by decide +kernel
theorem dX1_isHeld_23 : decode cX1_isHeld 23 = .ok (.if_icmp .ge 44, 3) := by decide +kernel
theorem dX1_isHeld_26 : decode cX1_isHeld 26 = .ok (.iload_n 2, 1) := by decide +kernel
theorem dX1_isHeld_27 : decode cX1_isHeld 27 = .ok (.ifCond .ne 28, 3) := by decide +kernel
theorem dX1_isHeld_30 : decode cX1_isHeld 30 = .ok (.aload_n 0, 1) := by decide +kernel
theorem dX1_isHeld_31 : decode cX1_isHeld 31 = .ok (.getfield 32, 3) := by decide +kernel
theorem dX1_isHeld_34 : decode cX1_isHeld 34 = .ok (.iload_n 3, 1) := by decide +kernel
theorem dX1_isHeld_35 : decode cX1_isHeld 35 = .ok (.baload, 1) := by decide +kernel
theorem dX1_isHeld_36 : decode cX1_isHeld 36 = .ok (.ifCond .eq 23, 3) := by decide +kernel
theorem dX1_isHeld_39 : decode cX1_isHeld 39 = .ok (.aload_n 0, 1) := by decide +kernel
theorem dX1_isHeld_40 : decode cX1_isHeld 40 = .ok (.getfield 25, 3) := by decide +kernel
theorem dX1_isHeld_43 : decode cX1_isHeld 43 = .ok (.bipush 6, 2) := by decide +kernel
theorem dX1_isHeld_45 : decode cX1_isHeld 45 = .ok (.iload_n 3, 1) := by decide +kernel
theorem dX1_isHeld_46 : decode cX1_isHeld 46 = .ok (.imul, 1) := by decide +kernel
theorem dX1_isHeld_47 : decode cX1_isHeld 47 = .ok (.iload 4, 2) := by decide +kernel
theorem dX1_isHeld_49 : decode cX1_isHeld 49 = .ok (.iadd, 1) := by decide +kernel
theorem dX1_isHeld_50 : decode cX1_isHeld 50 = .ok (.iaload, 1) := by decide +kernel
theorem dX1_isHeld_51 : decode cX1_isHeld 51 = .ok (.iload_n 1, 1) := by decide +kernel
theorem dX1_isHeld_52 : decode cX1_isHeld 52 = .ok (.if_icmp .ne 7, 3) := by decide +kernel
theorem dX1_isHeld_55 : decode cX1_isHeld 55 = .ok (.iconst 1, 1) := by decide +kernel
theorem dX1_isHeld_56 : decode cX1_isHeld 56 = .ok (.goto 4, 3) := by decide +kernel
theorem dX1_isHeld_59 : decode cX1_isHeld 59 = .ok (.iconst 0, 1) := by decide +kernel
theorem dX1_isHeld_60 : decode cX1_isHeld 60 = .ok (.istore_n 2, 1) := by decide +kernel
theorem dX1_isHeld_61 : decode cX1_isHeld 61 = .ok (.iinc 4 1, 3) := by decide +kernel
theorem dX1_isHeld_64 : decode cX1_isHeld 64 = .ok (.goto (-49), 3) := by decide +kernel
theorem dX1_isHeld_67 : decode cX1_isHeld 67 = .ok (.iinc 3 1, 3) := by decide +kernel
theorem dX1_isHeld_70 : decode cX1_isHeld 70 = .ok (.goto (-66), 3) := by decide +kernel
theorem dX1_isHeld_73 : decode cX1_isHeld 73 = .ok (.iload_n 2, 1) := by decide +kernel
theorem dX1_isHeld_74 : decode cX1_isHeld 74 = .ok (.ireturn, 1) := by decide +kernel
set_option maxRecDepth 20000 in
theorem ggX1_profile_X1_may : GoodIn wsX1_profile wsX1_may := goodIn_r _ [8, 9, 13, 14, 15, 16, 17, 18, 19, 20, 21, 22, 23, 24, 25, 26, 27, 28] (by decide +kernel) (by decide +kernel)
set_option maxRecDepth 20000 in
theorem gX1_profile_X1_may : GoodIn wsX1_profile (wsV RX1 82 RX1 yX1_may wsX1_may) := goodIn_app (goodIn_of _ (by decide +kernel)) ggX1_profile_X1_may
set_option maxRecDepth 20000 in
theorem ggX1_profile_X1_placeAt : GoodIn wsX1_profile wsX1_placeAt := goodIn_r _ [12] (by decide +kernel) (by decide +kernel)
set_option maxRecDepth 20000 in
theorem gX1_profile_X1_placeAt : GoodIn wsX1_profile (va_wsS RX1 64 yX1_placeAt wsX1_placeAt) := goodIn_app (goodIn_of _ (by decide +kernel)) ggX1_profile_X1_placeAt
theorem dX1_profile_0 : decode cX1_profile 0 = .ok (.aload_n 0, 1) := by decide +kernel
theorem dX1_profile_1 : decode cX1_profile 1 = .ok (.aload_n 0, 1) := by decide +kernel
theorem dX1_profile_2 : decode cX1_profile 2 = .ok (.getfield 58, 3) := by decide +kernel
theorem dX1_profile_5 : decode cX1_profile 5 = .ok (.bipush 8, 2) := by decide +kernel
end
section
theorem dX1_profile_7 : decode cX1_profile 7 = .ok (.if_icmp .ge 7, 3) := by decide +kernel
theorem dX1_profile_10 : decode cX1_profile 10 = .ok (.iconst 1, 1) := by decide +kernel
theorem dX1_profile_11 : decode cX1_profile 11 = .ok (.goto 4, 3) := by decide +kernel
theorem dX1_profile_14 : decode cX1_profile 14 = .ok (.iconst 0, 1) := by decide +kernel
theorem dX1_profile_15 : decode cX1_profile 15 = .ok (.invokevirtual 82, 3) := by decide +kernel
theorem dX1_profile_18 : decode cX1_profile 18 = .ok (.ifCond .ne 5, 3) := by decide +kernel
theorem dX1_profile_21 : decode cX1_profile 21 = .ok (.iconst 0, 1) := by decide +kernel
theorem dX1_profile_22 : decode cX1_profile 22 = .ok (.ireturn, 1) := by decide +kernel
theorem dX1_profile_23 : decode cX1_profile 23 = .ok (.iconst 0, 1) := by decide +kernel
theorem dX1_profile_24 : decode cX1_profile 24 = .ok (.istore_n 1, 1) := by decide +kernel
theorem dX1_profile_25 : decode cX1_profile 25 = .ok (.iload_n 1, 1) := by decide +kernel
theorem dX1_profile_26 : decode cX1_profile 26 = .ok (.iconst 3, 1) := by decide +kernel
theorem dX1_profile_27 : decode cX1_profile 27 = .ok (.if_icmp .ge 60, 3) := by decide +kernel
theorem dX1_profile_30 : decode cX1_profile 30 = .ok (.iconst 0, 1) := by decide +kernel
theorem dX1_profile_31 : decode cX1_profile 31 = .ok (.istore_n 2, 1) := by decide +kernel
theorem dX1_profile_32 : decode cX1_profile 32 = .ok (.iload_n 2, 1) := by decide +kernel
theorem dX1_profile_33 : decode cX1_profile 33 = .ok (.iconst 5, 1) := by decide +kernel
theorem dX1_profile_34 : decode cX1_profile 34 = .ok (.if_icmp .ge 31, 3) := by decide +kernel
theorem dX1_profile_37 : decode cX1_profile 37 = .ok (.aload_n 0, 1) := by decide +kernel
theorem dX1_profile_38 : decode cX1_profile 38 = .ok (.getfield 7, 3) := by decide +kernel
theorem dX1_profile_41 : decode cX1_profile 41 = .ok (.bipush 15, 2) := by decide +kernel
theorem dX1_profile_43 : decode cX1_profile 43 = .ok (.aload_n 0, 1) := by decide +kernel
theorem dX1_profile_44 : decode cX1_profile 44 = .ok (.getfield 58, 3) := by decide +kernel
theorem dX1_profile_47 : decode cX1_profile 47 = .ok (.imul, 1) := by decide +kernel
theorem dX1_profile_48 : decode cX1_profile 48 = .ok (.iconst 5, 1) := by decide +kernel
theorem dX1_profile_49 : decode cX1_profile 49 = .ok (.iload_n 1, 1) := by decide +kernel
theorem dX1_profile_50 : decode cX1_profile 50 = .ok (.imul, 1) := by decide +kernel
theorem dX1_profile_51 : decode cX1_profile 51 = .ok (.iadd, 1) := by decide +kernel
theorem dX1_profile_52 : decode cX1_profile 52 = .ok (.iload_n 2, 1) := by decide +kernel
theorem dX1_profile_53 : decode cX1_profile 53 = .ok (.iadd, 1) := by decide +kernel
theorem dX1_profile_54 : decode cX1_profile 54 = .ok (.iload_n 2, 1) := by decide +kernel
theorem dX1_profile_55 : decode cX1_profile 55 = .ok (.invokestatic 64, 3) := by decide +kernel
theorem dX1_profile_58 : decode cX1_profile 58 = .ok (.iastore, 1) := by decide +kernel
theorem dX1_profile_59 : decode cX1_profile 59 = .ok (.iinc 2 1, 3) := by decide +kernel
theorem dX1_profile_62 : decode cX1_profile 62 = .ok (.goto (-30), 3) := by decide +kernel
theorem dX1_profile_65 : decode cX1_profile 65 = .ok (.aload_n 0, 1) := by decide +kernel
theorem dX1_profile_66 : decode cX1_profile 66 = .ok (.getfield 16, 3) := by decide +kernel
theorem dX1_profile_69 : decode cX1_profile 69 = .ok (.iconst 3, 1) := by decide +kernel
theorem dX1_profile_70 : decode cX1_profile 70 = .ok (.aload_n 0, 1) := by decide +kernel
theorem dX1_profile_71 : decode cX1_profile 71 = .ok (.getfield 58, 3) := by decide +kernel
theorem dX1_profile_74 : decode cX1_profile 74 = .ok (.imul, 1) := by decide +kernel
theorem dX1_profile_75 : decode cX1_profile 75 = .ok (.iload_n 1, 1) := by decide +kernel
theorem dX1_profile_76 : decode cX1_profile 76 = .ok (.iadd, 1) := by decide +kernel
theorem dX1_profile_77 : decode cX1_profile 77 = .ok (.sipush 255, 3) := by decide +kernel
theorem dX1_profile_80 : decode cX1_profile 80 = .ok (.iastore, 1) := by decide +kernel
theorem dX1_profile_81 : decode cX1_profile 81 = .ok (.iinc 1 1, 3) := by decide +kernel
theorem dX1_profile_84 : decode cX1_profile 84 = .ok (.goto (-59), 3) := by decide +kernel
theorem dX1_profile_87 : decode cX1_profile 87 = .ok (.aload_n 0, 1) := by decide +kernel
theorem dX1_profile_88 : decode cX1_profile 88 = .ok (.dup, 1) := by decide +kernel
theorem dX1_profile_89 : decode cX1_profile 89 = .ok (.getfield 58, 3) := by decide +kernel
theorem dX1_profile_92 : decode cX1_profile 92 = .ok (.iconst 1, 1) := by decide +kernel
theorem dX1_profile_93 : decode cX1_profile 93 = .ok (.iadd, 1) := by decide +kernel
theorem dX1_profile_94 : decode cX1_profile 94 = .ok (.putfield 58, 3) := by decide +kernel
theorem dX1_profile_97 : decode cX1_profile 97 = .ok (.aload_n 0, 1) := by decide +kernel
theorem dX1_profile_98 : decode cX1_profile 98 = .ok (.getfield 58, 3) := by decide +kernel
theorem dX1_profile_101 : decode cX1_profile 101 = .ok (.iconst 1, 1) := by decide +kernel
theorem dX1_profile_102 : decode cX1_profile 102 = .ok (.isub, 1) := by decide +kernel
theorem dX1_profile_103 : decode cX1_profile 103 = .ok (.ireturn, 1) := by decide +kernel
set_option maxRecDepth 20000 in
theorem ggX1_bend_X1_isProfile : GoodIn wsX1_bend wsX1_isProfile := goodIn_r _ [6, 7, 8, 9, 5, 10, 30, 31, 32, 33, 34, 35, 36, 37, 38, 39, 40, 41, 42, 43, 44, 45] (by decide +kernel) (by decide +kernel)
set_option maxRecDepth 20000 in
theorem gX1_bend_X1_isProfile : GoodIn wsX1_bend (wsV RX1 86 RX1 yX1_isProfile wsX1_isProfile) := goodIn_app (goodIn_of _ (by decide +kernel)) ggX1_bend_X1_isProfile
set_option maxRecDepth 20000 in
theorem ggX1_bend_X1_isThird : GoodIn wsX1_bend wsX1_isThird := goodIn_r _ [13, 8, 9, 5, 10] (by decide +kernel) (by decide +kernel)
set_option maxRecDepth 20000 in
theorem gX1_bend_X1_isThird : GoodIn wsX1_bend (va_wsS RX1 90 yX1_isThird wsX1_isThird) := goodIn_app (goodIn_of _ (by decide +kernel)) ggX1_bend_X1_isThird
set_option maxRecDepth 20000 in
theorem ggX1_bend_X1_isIn : GoodIn wsX1_bend wsX1_isIn := goodIn_r _ [10] (by decide +kernel) (by decide +kernel)
set_option maxRecDepth 20000 in
theorem gX1_bend_X1_isIn : GoodIn wsX1_bend (va_wsS RX1 54 yX1_isIn wsX1_isIn) := goodIn_app (goodIn_of _ (by decide +kernel)) ggX1_bend_X1_isIn
set_option maxRecDepth 20000 in
theorem ggX1_bend_X1_isByte : GoodIn wsX1_bend wsX1_isByte := goodIn_r _ [16, 8, 9, 5, 10] (by decide +kernel) (by decide +kernel)
set_option maxRecDepth 20000 in
theorem gX1_bend_X1_isByte : GoodIn wsX1_bend (va_wsS RX1 93 yX1_isByte wsX1_isByte) := goodIn_app (goodIn_of _ (by decide +kernel)) ggX1_bend_X1_isByte
set_option maxRecDepth 20000 in
theorem ggX1_bend_X1_isHeld : GoodIn wsX1_bend wsX1_isHeld := goodIn_r _ [20, 21, 22, 23, 24, 30, 31, 32, 33, 34, 35, 36, 37, 38, 39, 40, 41, 42, 43, 44, 45] (by decide +kernel) (by decide +kernel)
set_option maxRecDepth 20000 in
theorem gX1_bend_X1_isHeld : GoodIn wsX1_bend (wsV RX1 96 RX1 yX1_isHeld wsX1_isHeld) := goodIn_app (goodIn_of _ (by decide +kernel)) ggX1_bend_X1_isHeld
set_option maxRecDepth 20000 in
theorem ggX1_bend_X1_mayAll : GoodIn wsX1_bend wsX1_mayAll := goodIn_r _ [28, 29, 30, 31, 32, 33, 34, 35, 36, 37, 38, 39, 40, 41, 42, 43, 44, 45] (by decide +kernel) (by decide +kernel)
set_option maxRecDepth 20000 in
theorem gX1_bend_X1_mayAll : GoodIn wsX1_bend (wsV RX1 99 RX1 yX1_mayAll wsX1_mayAll) := goodIn_app (goodIn_of _ (by decide +kernel)) ggX1_bend_X1_mayAll
theorem dX1_bend_0 : decode cX1_bend 0 = .ok (.aload_n 0, 1) := by decide +kernel
theorem dX1_bend_1 : decode cX1_bend 1 = .ok (.iload_n 1, 1) := by decide +kernel
theorem dX1_bend_2 : decode cX1_bend 2 = .ok (.invokevirtual 86, 3) := by decide +kernel
theorem dX1_bend_5 : decode cX1_bend 5 = .ok (.ifCond .eq 23, 3) := by decide +kernel
theorem dX1_bend_8 : decode cX1_bend 8 = .ok (.iload_n 2, 1) := by decide +kernel
theorem dX1_bend_9 : decode cX1_bend 9 = .ok (.invokestatic 90, 3) := by decide +kernel
theorem dX1_bend_12 : decode cX1_bend 12 = .ok (.ifCond .eq 16, 3) := by decide +kernel
theorem dX1_bend_15 : decode cX1_bend 15 = .ok (.iload_n 3, 1) := by decide +kernel
theorem dX1_bend_16 : decode cX1_bend 16 = .ok (.iconst 0, 1) := by decide +kernel
theorem dX1_bend_17 : decode cX1_bend 17 = .ok (.iconst 4, 1) := by decide +kernel
theorem dX1_bend_18 : decode cX1_bend 18 = .ok (.invokestatic 54, 3) := by decide +kernel
theorem dX1_bend_21 : decode cX1_bend 21 = .ok (.ifCond .eq 7, 3) := by decide +kernel
theorem dX1_bend_24 : decode cX1_bend 24 = .ok (.iconst 1, 1) := by decide +kernel
theorem dX1_bend_25 : decode cX1_bend 25 = .ok (.goto 4, 3) := by decide +kernel
theorem dX1_bend_28 : decode cX1_bend 28 = .ok (.iconst 0, 1) := by decide +kernel
theorem dX1_bend_29 : decode cX1_bend 29 = .ok (.istore 5, 2) := by decide +kernel
theorem dX1_bend_31 : decode cX1_bend 31 = .ok (.aload_n 0, 1) := by decide +kernel
theorem dX1_bend_32 : decode cX1_bend 32 = .ok (.iload 5, 2) := by decide +kernel
theorem dX1_bend_34 : decode cX1_bend 34 = .ok (.iload 4, 2) := by decide +kernel
theorem dX1_bend_36 : decode cX1_bend 36 = .ok (.invokestatic 93, 3) := by decide +kernel
theorem dX1_bend_39 : decode cX1_bend 39 = .ok (.iload 5, 2) := by decide +kernel
theorem dX1_bend_41 : decode cX1_bend 41 = .ok (.ifCond .eq 15, 3) := by decide +kernel
theorem dX1_bend_44 : decode cX1_bend 44 = .ok (.aload_n 0, 1) := by decide +kernel
theorem dX1_bend_45 : decode cX1_bend 45 = .ok (.iload_n 1, 1) := by decide +kernel
theorem dX1_bend_46 : decode cX1_bend 46 = .ok (.invokevirtual 96, 3) := by decide +kernel
theorem dX1_bend_49 : decode cX1_bend 49 = .ok (.ifCond .ne 7, 3) := by decide +kernel
theorem dX1_bend_52 : decode cX1_bend 52 = .ok (.iconst 1, 1) := by decide +kernel
theorem dX1_bend_53 : decode cX1_bend 53 = .ok (.goto 4, 3) := by decide +kernel
theorem dX1_bend_56 : decode cX1_bend 56 = .ok (.iconst 0, 1) := by decide +kernel
theorem dX1_bend_57 : decode cX1_bend 57 = .ok (.invokevirtual 99, 3) := by decide +kernel
theorem dX1_bend_60 : decode cX1_bend 60 = .ok (.ifCond .ne 5, 3) := by decide +kernel
theorem dX1_bend_63 : decode cX1_bend 63 = .ok (.iconst 0, 1) := by decide +kernel
theorem dX1_bend_64 : decode cX1_bend 64 = .ok (.ireturn, 1) := by decide +kernel
theorem dX1_bend_65 : decode cX1_bend 65 = .ok (.aload_n 0, 1) := by decide +kernel
theorem dX1_bend_66 : decode cX1_bend 66 = .ok (.getfield 7, 3) := by decide +kernel
theorem dX1_bend_69 : decode cX1_bend 69 = .ok (.bipush 15, 2) := by decide +kernel
theorem dX1_bend_71 : decode cX1_bend 71 = .ok (.iload_n 1, 1) := by decide +kernel
theorem dX1_bend_72 : decode cX1_bend 72 = .ok (.imul, 1) := by decide +kernel
theorem dX1_bend_73 : decode cX1_bend 73 = .ok (.iconst 5, 1) := by decide +kernel
theorem dX1_bend_74 : decode cX1_bend 74 = .ok (.iload_n 2, 1) := by decide +kernel
theorem dX1_bend_75 : decode cX1_bend 75 = .ok (.imul, 1) := by decide +kernel
theorem dX1_bend_76 : decode cX1_bend 76 = .ok (.iadd, 1) := by decide +kernel
theorem dX1_bend_77 : decode cX1_bend 77 = .ok (.iload_n 3, 1) := by decide +kernel
theorem dX1_bend_78 : decode cX1_bend 78 = .ok (.iadd, 1) := by decide +kernel
theorem dX1_bend_79 : decode cX1_bend 79 = .ok (.iaload, 1) := by decide +kernel
theorem dX1_bend_80 : decode cX1_bend 80 = .ok (.istore 6, 2) := by decide +kernel
theorem dX1_bend_82 : decode cX1_bend 82 = .ok (.aload_n 0, 1) := by decide +kernel
theorem dX1_bend_83 : decode cX1_bend 83 = .ok (.getfield 7, 3) := by decide +kernel
theorem dX1_bend_86 : decode cX1_bend 86 = .ok (.bipush 15, 2) := by decide +kernel
theorem dX1_bend_88 : decode cX1_bend 88 = .ok (.iload_n 1, 1) := by decide +kernel
theorem dX1_bend_89 : decode cX1_bend 89 = .ok (.imul, 1) := by decide +kernel
theorem dX1_bend_90 : decode cX1_bend 90 = .ok (.iconst 5, 1) := by decide +kernel
theorem dX1_bend_91 : decode cX1_bend 91 = .ok (.iload_n 2, 1) := by decide +kernel
theorem dX1_bend_92 : decode cX1_bend 92 = .ok (.imul, 1) := by decide +kernel
theorem dX1_bend_93 : decode cX1_bend 93 = .ok (.iadd, 1) := by decide +kernel
theorem dX1_bend_94 : decode cX1_bend 94 = .ok (.iload_n 3, 1) := by decide +kernel
theorem dX1_bend_95 : decode cX1_bend 95 = .ok (.iadd, 1) := by decide +kernel
theorem dX1_bend_96 : decode cX1_bend 96 = .ok (.iload 4, 2) := by decide +kernel
theorem dX1_bend_98 : decode cX1_bend 98 = .ok (.iastore, 1) := by decide +kernel
theorem dX1_bend_99 : decode cX1_bend 99 = .ok (.iload 6, 2) := by decide +kernel
theorem dX1_bend_101 : decode cX1_bend 101 = .ok (.ireturn, 1) := by decide +kernel
set_option maxRecDepth 20000 in
theorem ggX1_reach_X1_isProfile : GoodIn wsX1_reach wsX1_isProfile := goodIn_r _ [7, 8, 9, 10, 6, 11, 31, 32, 33, 34, 35, 36, 37, 38, 39, 40, 41, 42, 43, 44, 45, 46] (by decide +kernel) (by decide +kernel)
set_option maxRecDepth 20000 in
theorem gX1_reach_X1_isProfile : GoodIn wsX1_reach (wsV RX1 86 RX1 yX1_isProfile wsX1_isProfile) := goodIn_app (goodIn_of _ (by decide +kernel)) ggX1_reach_X1_isProfile
set_option maxRecDepth 20000 in
theorem ggX1_reach_X1_isThird : GoodIn wsX1_reach wsX1_isThird := goodIn_r _ [14, 9, 10, 6, 11] (by decide +kernel) (by decide +kernel)
set_option maxRecDepth 20000 in
theorem gX1_reach_X1_isThird : GoodIn wsX1_reach (va_wsS RX1 90 yX1_isThird wsX1_isThird) := goodIn_app (goodIn_of _ (by decide +kernel)) ggX1_reach_X1_isThird
set_option maxRecDepth 20000 in
theorem ggX1_reach_X1_isByte : GoodIn wsX1_reach wsX1_isByte := goodIn_r _ [17, 9, 10, 6, 11] (by decide +kernel) (by decide +kernel)
set_option maxRecDepth 20000 in
theorem gX1_reach_X1_isByte : GoodIn wsX1_reach (va_wsS RX1 93 yX1_isByte wsX1_isByte) := goodIn_app (goodIn_of _ (by decide +kernel)) ggX1_reach_X1_isByte
set_option maxRecDepth 20000 in
theorem ggX1_reach_X1_isIn : GoodIn wsX1_reach wsX1_isIn := goodIn_r _ [11] (by decide +kernel) (by decide +kernel)
set_option maxRecDepth 20000 in
theorem gX1_reach_X1_isIn : GoodIn wsX1_reach (va_wsS RX1 54 yX1_isIn wsX1_isIn) := goodIn_app (goodIn_of _ (by decide +kernel)) ggX1_reach_X1_isIn
set_option maxRecDepth 20000 in
theorem ggX1_reach_X1_isHeld : GoodIn wsX1_reach wsX1_isHeld := goodIn_r _ [21, 22, 23, 24, 25, 31, 32, 33, 34, 35, 36, 37, 38, 39, 40, 41, 42, 43, 44, 45, 46] (by decide +kernel) (by decide +kernel)
set_option maxRecDepth 20000 in
theorem gX1_reach_X1_isHeld : GoodIn wsX1_reach (wsV RX1 96 RX1 yX1_isHeld wsX1_isHeld) := goodIn_app (goodIn_of _ (by decide +kernel)) ggX1_reach_X1_isHeld
set_option maxRecDepth 20000 in
theorem ggX1_reach_X1_mayAll : GoodIn wsX1_reach wsX1_mayAll := goodIn_r _ [29, 30, 31, 32, 33, 34, 35, 36, 37, 38, 39, 40, 41, 42, 43, 44, 45, 46] (by decide +kernel) (by decide +kernel)
set_option maxRecDepth 20000 in
theorem gX1_reach_X1_mayAll : GoodIn wsX1_reach (wsV RX1 99 RX1 yX1_mayAll wsX1_mayAll) := goodIn_app (goodIn_of _ (by decide +kernel)) ggX1_reach_X1_mayAll
theorem dX1_reach_0 : decode cX1_reach 0 = .ok (.aload_n 0, 1) := by decide +kernel
theorem dX1_reach_1 : decode cX1_reach 1 = .ok (.iload_n 1, 1) := by decide +kernel
theorem dX1_reach_2 : decode cX1_reach 2 = .ok (.invokevirtual 86, 3) := by decide +kernel
theorem dX1_reach_5 : decode cX1_reach 5 = .ok (.ifCond .eq 14, 3) := by decide +kernel
theorem dX1_reach_8 : decode cX1_reach 8 = .ok (.iload_n 2, 1) := by decide +kernel
theorem dX1_reach_9 : decode cX1_reach 9 = .ok (.invokestatic 90, 3) := by decide +kernel
theorem dX1_reach_12 : decode cX1_reach 12 = .ok (.ifCond .eq 7, 3) := by decide +kernel
theorem dX1_reach_15 : decode cX1_reach 15 = .ok (.iconst 1, 1) := by decide +kernel
theorem dX1_reach_16 : decode cX1_reach 16 = .ok (.goto 4, 3) := by decide +kernel
theorem dX1_reach_19 : decode cX1_reach 19 = .ok (.iconst 0, 1) := by decide +kernel
theorem dX1_reach_20 : decode cX1_reach 20 = .ok (.istore 5, 2) := by decide +kernel
theorem dX1_reach_22 : decode cX1_reach 22 = .ok (.aload_n 0, 1) := by decide +kernel
theorem dX1_reach_23 : decode cX1_reach 23 = .ok (.iload 5, 2) := by decide +kernel
theorem dX1_reach_25 : decode cX1_reach 25 = .ok (.iload_n 3, 1) := by decide +kernel
theorem dX1_reach_26 : decode cX1_reach 26 = .ok (.invokestatic 93, 3) := by decide +kernel
theorem dX1_reach_29 : decode cX1_reach 29 = .ok (.ifCond .eq 19, 3) := by decide +kernel
theorem dX1_reach_32 : decode cX1_reach 32 = .ok (.iload 4, 2) := by decide +kernel
theorem dX1_reach_34 : decode cX1_reach 34 = .ok (.iload_n 3, 1) := by decide +kernel
theorem dX1_reach_35 : decode cX1_reach 35 = .ok (.sipush 255, 3) := by decide +kernel
theorem dX1_reach_38 : decode cX1_reach 38 = .ok (.invokestatic 54, 3) := by decide +kernel
theorem dX1_reach_41 : decode cX1_reach 41 = .ok (.ifCond .eq 7, 3) := by decide +kernel
theorem dX1_reach_44 : decode cX1_reach 44 = .ok (.iconst 1, 1) := by decide +kernel
theorem dX1_reach_45 : decode cX1_reach 45 = .ok (.goto 4, 3) := by decide +kernel
theorem dX1_reach_48 : decode cX1_reach 48 = .ok (.iconst 0, 1) := by decide +kernel
theorem dX1_reach_49 : decode cX1_reach 49 = .ok (.iload 5, 2) := by decide +kernel
theorem dX1_reach_51 : decode cX1_reach 51 = .ok (.ifCond .eq 15, 3) := by decide +kernel
theorem dX1_reach_54 : decode cX1_reach 54 = .ok (.aload_n 0, 1) := by decide +kernel
theorem dX1_reach_55 : decode cX1_reach 55 = .ok (.iload_n 1, 1) := by decide +kernel
theorem dX1_reach_56 : decode cX1_reach 56 = .ok (.invokevirtual 96, 3) := by decide +kernel
theorem dX1_reach_59 : decode cX1_reach 59 = .ok (.ifCond .ne 7, 3) := by decide +kernel
theorem dX1_reach_62 : decode cX1_reach 62 = .ok (.iconst 1, 1) := by decide +kernel
theorem dX1_reach_63 : decode cX1_reach 63 = .ok (.goto 4, 3) := by decide +kernel
theorem dX1_reach_66 : decode cX1_reach 66 = .ok (.iconst 0, 1) := by decide +kernel
theorem dX1_reach_67 : decode cX1_reach 67 = .ok (.invokevirtual 99, 3) := by decide +kernel
theorem dX1_reach_70 : decode cX1_reach 70 = .ok (.ifCond .ne 5, 3) := by decide +kernel
theorem dX1_reach_73 : decode cX1_reach 73 = .ok (.iconst 0, 1) := by decide +kernel
theorem dX1_reach_74 : decode cX1_reach 74 = .ok (.ireturn, 1) := by decide +kernel
theorem dX1_reach_75 : decode cX1_reach 75 = .ok (.aload_n 0, 1) := by decide +kernel
theorem dX1_reach_76 : decode cX1_reach 76 = .ok (.getfield 16, 3) := by decide +kernel
theorem dX1_reach_79 : decode cX1_reach 79 = .ok (.iconst 3, 1) := by decide +kernel
theorem dX1_reach_80 : decode cX1_reach 80 = .ok (.iload_n 1, 1) := by decide +kernel
theorem dX1_reach_81 : decode cX1_reach 81 = .ok (.imul, 1) := by decide +kernel
theorem dX1_reach_82 : decode cX1_reach 82 = .ok (.iload_n 2, 1) := by decide +kernel
theorem dX1_reach_83 : decode cX1_reach 83 = .ok (.iadd, 1) := by decide +kernel
theorem dX1_reach_84 : decode cX1_reach 84 = .ok (.iaload, 1) := by decide +kernel
theorem dX1_reach_85 : decode cX1_reach 85 = .ok (.aload_n 0, 1) := by decide +kernel
theorem dX1_reach_86 : decode cX1_reach 86 = .ok (.getfield 13, 3) := by decide +kernel
theorem dX1_reach_89 : decode cX1_reach 89 = .ok (.iconst 3, 1) := by decide +kernel
theorem dX1_reach_90 : decode cX1_reach 90 = .ok (.iload_n 1, 1) := by decide +kernel
theorem dX1_reach_91 : decode cX1_reach 91 = .ok (.imul, 1) := by decide +kernel
theorem dX1_reach_92 : decode cX1_reach 92 = .ok (.iload_n 2, 1) := by decide +kernel
theorem dX1_reach_93 : decode cX1_reach 93 = .ok (.iadd, 1) := by decide +kernel
theorem dX1_reach_94 : decode cX1_reach 94 = .ok (.iaload, 1) := by decide +kernel
theorem dX1_reach_95 : decode cX1_reach 95 = .ok (.isub, 1) := by decide +kernel
theorem dX1_reach_96 : decode cX1_reach 96 = .ok (.iconst 1, 1) := by decide +kernel
theorem dX1_reach_97 : decode cX1_reach 97 = .ok (.iadd, 1) := by decide +kernel
theorem dX1_reach_98 : decode cX1_reach 98 = .ok (.istore 6, 2) := by decide +kernel
theorem dX1_reach_100 : decode cX1_reach 100 = .ok (.aload_n 0, 1) := by decide +kernel
theorem dX1_reach_101 : decode cX1_reach 101 = .ok (.getfield 13, 3) := by decide +kernel
theorem dX1_reach_104 : decode cX1_reach 104 = .ok (.iconst 3, 1) := by decide +kernel
theorem dX1_reach_105 : decode cX1_reach 105 = .ok (.iload_n 1, 1) := by decide +kernel
theorem dX1_reach_106 : decode cX1_reach 106 = .ok (.imul, 1) := by decide +kernel
theorem dX1_reach_107 : decode cX1_reach 107 = .ok (.iload_n 2, 1) := by decide +kernel
theorem dX1_reach_108 : decode cX1_reach 108 = .ok (.iadd, 1) := by decide +kernel
theorem dX1_reach_109 : decode cX1_reach 109 = .ok (.iload_n 3, 1) := by decide +kernel
theorem dX1_reach_110 : decode cX1_reach 110 = .ok (.iastore, 1) := by decide +kernel
theorem dX1_reach_111 : decode cX1_reach 111 = .ok (.aload_n 0, 1) := by decide +kernel
theorem dX1_reach_112 : decode cX1_reach 112 = .ok (.getfield 16, 3) := by decide +kernel
theorem dX1_reach_115 : decode cX1_reach 115 = .ok (.iconst 3, 1) := by decide +kernel
theorem dX1_reach_116 : decode cX1_reach 116 = .ok (.iload_n 1, 1) := by decide +kernel
theorem dX1_reach_117 : decode cX1_reach 117 = .ok (.imul, 1) := by decide +kernel
theorem dX1_reach_118 : decode cX1_reach 118 = .ok (.iload_n 2, 1) := by decide +kernel
theorem dX1_reach_119 : decode cX1_reach 119 = .ok (.iadd, 1) := by decide +kernel
theorem dX1_reach_120 : decode cX1_reach 120 = .ok (.iload 4, 2) := by decide +kernel
theorem dX1_reach_122 : decode cX1_reach 122 = .ok (.iastore, 1) := by decide +kernel
theorem dX1_reach_123 : decode cX1_reach 123 = .ok (.iload 6, 2) := by decide +kernel
theorem dX1_reach_125 : decode cX1_reach 125 = .ok (.ireturn, 1) := by decide +kernel
set_option maxRecDepth 20000 in
theorem ggX1_way_X1_isProfile : GoodIn wsX1_way wsX1_isProfile := goodIn_r _ [6, 7, 8, 9, 5, 10, 24, 25, 26, 27, 28, 29, 30, 31, 32, 33, 34, 35, 36, 37, 38, 39] (by decide +kernel) (by decide +kernel)
set_option maxRecDepth 20000 in
theorem gX1_way_X1_isProfile : GoodIn wsX1_way (wsV RX1 86 RX1 yX1_isProfile wsX1_isProfile) := goodIn_app (goodIn_of _ (by decide +kernel)) ggX1_way_X1_isProfile
set_option maxRecDepth 20000 in
theorem ggX1_way_X1_isIn : GoodIn wsX1_way wsX1_isIn := goodIn_r _ [10] (by decide +kernel) (by decide +kernel)
set_option maxRecDepth 20000 in
theorem gX1_way_X1_isIn : GoodIn wsX1_way (va_wsS RX1 54 yX1_isIn wsX1_isIn) := goodIn_app (goodIn_of _ (by decide +kernel)) ggX1_way_X1_isIn
set_option maxRecDepth 20000 in
theorem ggX1_way_X1_isHeld : GoodIn wsX1_way wsX1_isHeld := goodIn_r _ [14, 15, 16, 17, 18, 24, 25, 26, 27, 28, 29, 30, 31, 32, 33, 34, 35, 36, 37, 38, 39] (by decide +kernel) (by decide +kernel)
set_option maxRecDepth 20000 in
theorem gX1_way_X1_isHeld : GoodIn wsX1_way (wsV RX1 96 RX1 yX1_isHeld wsX1_isHeld) := goodIn_app (goodIn_of _ (by decide +kernel)) ggX1_way_X1_isHeld
set_option maxRecDepth 20000 in
theorem ggX1_way_X1_mayAll : GoodIn wsX1_way wsX1_mayAll := goodIn_r _ [22, 23, 24, 25, 26, 27, 28, 29, 30, 31, 32, 33, 34, 35, 36, 37, 38, 39] (by decide +kernel) (by decide +kernel)
set_option maxRecDepth 20000 in
theorem gX1_way_X1_mayAll : GoodIn wsX1_way (wsV RX1 99 RX1 yX1_mayAll wsX1_mayAll) := goodIn_app (goodIn_of _ (by decide +kernel)) ggX1_way_X1_mayAll
theorem dX1_way_0 : decode cX1_way 0 = .ok (.aload_n 0, 1) := by decide +kernel
theorem dX1_way_1 : decode cX1_way 1 = .ok (.iload_n 1, 1) := by decide +kernel
theorem dX1_way_2 : decode cX1_way 2 = .ok (.invokevirtual 86, 3) := by decide +kernel
theorem dX1_way_5 : decode cX1_way 5 = .ok (.istore_n 3, 1) := by decide +kernel
theorem dX1_way_6 : decode cX1_way 6 = .ok (.aload_n 0, 1) := by decide +kernel
theorem dX1_way_7 : decode cX1_way 7 = .ok (.iload_n 3, 1) := by decide +kernel
theorem dX1_way_8 : decode cX1_way 8 = .ok (.iload_n 2, 1) := by decide +kernel
theorem dX1_way_9 : decode cX1_way 9 = .ok (.iconst 0, 1) := by decide +kernel
theorem dX1_way_10 : decode cX1_way 10 = .ok (.iconst 2, 1) := by decide +kernel
theorem dX1_way_11 : decode cX1_way 11 = .ok (.invokestatic 54, 3) := by decide +kernel
theorem dX1_way_14 : decode cX1_way 14 = .ok (.iload_n 3, 1) := by decide +kernel
theorem dX1_way_15 : decode cX1_way 15 = .ok (.ifCond .eq 15, 3) := by decide +kernel
theorem dX1_way_18 : decode cX1_way 18 = .ok (.aload_n 0, 1) := by decide +kernel
theorem dX1_way_19 : decode cX1_way 19 = .ok (.iload_n 1, 1) := by decide +kernel
theorem dX1_way_20 : decode cX1_way 20 = .ok (.invokevirtual 96, 3) := by decide +kernel
theorem dX1_way_23 : decode cX1_way 23 = .ok (.ifCond .ne 7, 3) := by decide +kernel
theorem dX1_way_26 : decode cX1_way 26 = .ok (.iconst 1, 1) := by decide +kernel
theorem dX1_way_27 : decode cX1_way 27 = .ok (.goto 4, 3) := by decide +kernel
theorem dX1_way_30 : decode cX1_way 30 = .ok (.iconst 0, 1) := by decide +kernel
theorem dX1_way_31 : decode cX1_way 31 = .ok (.invokevirtual 99, 3) := by decide +kernel
theorem dX1_way_34 : decode cX1_way 34 = .ok (.ifCond .ne 5, 3) := by decide +kernel
theorem dX1_way_37 : decode cX1_way 37 = .ok (.iconst 0, 1) := by decide +kernel
theorem dX1_way_38 : decode cX1_way 38 = .ok (.ireturn, 1) := by decide +kernel
theorem dX1_way_39 : decode cX1_way 39 = .ok (.aload_n 0, 1) := by decide +kernel
theorem dX1_way_40 : decode cX1_way 40 = .ok (.getfield 19, 3) := by decide +kernel
theorem dX1_way_43 : decode cX1_way 43 = .ok (.iload_n 1, 1) := by decide +kernel
theorem dX1_way_44 : decode cX1_way 44 = .ok (.iaload, 1) := by decide +kernel
theorem dX1_way_45 : decode cX1_way 45 = .ok (.istore 4, 2) := by decide +kernel
theorem dX1_way_47 : decode cX1_way 47 = .ok (.aload_n 0, 1) := by decide +kernel
theorem dX1_way_48 : decode cX1_way 48 = .ok (.getfield 19, 3) := by decide +kernel
theorem dX1_way_51 : decode cX1_way 51 = .ok (.iload_n 1, 1) := by decide +kernel
theorem dX1_way_52 : decode cX1_way 52 = .ok (.iload_n 2, 1) := by decide +kernel
theorem dX1_way_53 : decode cX1_way 53 = .ok (.iastore, 1) := by decide +kernel
theorem dX1_way_54 : decode cX1_way 54 = .ok (.iload 4, 2) := by decide +kernel
theorem dX1_way_56 : decode cX1_way 56 = .ok (.ireturn, 1) := by decide +kernel
set_option maxRecDepth 20000 in
theorem ggX1_curve_X1_isProfile : GoodIn wsX1_curve wsX1_isProfile := goodIn_r _ [5, 6, 7, 8, 4, 9, 37, 38, 39, 40, 41, 42, 43, 44, 45, 46, 47, 48, 49, 50, 51, 52] (by decide +kernel) (by decide +kernel)
set_option maxRecDepth 20000 in
theorem gX1_curve_X1_isProfile : GoodIn wsX1_curve (wsV RX1 86 RX1 yX1_isProfile wsX1_isProfile) := goodIn_app (goodIn_of _ (by decide +kernel)) ggX1_curve_X1_isProfile
set_option maxRecDepth 20000 in
theorem ggX1_curve_X1_isThird : GoodIn wsX1_curve wsX1_isThird := goodIn_r _ [12, 7, 8, 4, 9] (by decide +kernel) (by decide +kernel)
set_option maxRecDepth 20000 in
theorem gX1_curve_X1_isThird : GoodIn wsX1_curve (va_wsS RX1 90 yX1_isThird wsX1_isThird) := goodIn_app (goodIn_of _ (by decide +kernel)) ggX1_curve_X1_isThird
set_option maxRecDepth 20000 in
theorem ggX1_curve_X1_isByte : GoodIn wsX1_curve wsX1_isByte := goodIn_r _ [15, 7, 8, 4, 9] (by decide +kernel) (by decide +kernel)
set_option maxRecDepth 20000 in
theorem gX1_curve_X1_isByte : GoodIn wsX1_curve (va_wsS RX1 93 yX1_isByte wsX1_isByte) := goodIn_app (goodIn_of _ (by decide +kernel)) ggX1_curve_X1_isByte
set_option maxRecDepth 20000 in
theorem ggX1_curve_X1_mayBoth : GoodIn wsX1_curve wsX1_mayBoth := goodIn_r _ [19, 20, 37, 38, 39, 40, 41, 42, 43, 44, 45, 46, 47, 48, 49, 50, 51, 52] (by decide +kernel) (by decide +kernel)
set_option maxRecDepth 20000 in
theorem gX1_curve_X1_mayBoth : GoodIn wsX1_curve (wsV RX1 103 RX1 yX1_mayBoth wsX1_mayBoth) := goodIn_app (goodIn_of _ (by decide +kernel)) ggX1_curve_X1_mayBoth
set_option maxRecDepth 20000 in
theorem ggX1_curve_X1_curveOf : GoodIn wsX1_curve wsX1_curveOf := goodIn_r _ [24, 25, 26, 27, 28, 29, 4, 30, 31, 32, 33, 34, 35, 36, 37, 38, 39, 40, 41, 42, 43, 44, 45, 46, 47, 48, 49, 50, 51, 52] (by decide +kernel) (by decide +kernel)
set_option maxRecDepth 20000 in
theorem gX1_curve_X1_curveOf : GoodIn wsX1_curve (wsV RX1 75 RX1 yX1_curveOf wsX1_curveOf) := goodIn_app (goodIn_of _ (by decide +kernel)) ggX1_curve_X1_curveOf
theorem dX1_curve_0 : decode cX1_curve 0 = .ok (.aload_n 0, 1) := by decide +kernel
theorem dX1_curve_1 : decode cX1_curve 1 = .ok (.aload_n 0, 1) := by decide +kernel
theorem dX1_curve_2 : decode cX1_curve 2 = .ok (.iload_n 1, 1) := by decide +kernel
theorem dX1_curve_3 : decode cX1_curve 3 = .ok (.invokevirtual 86, 3) := by decide +kernel
theorem dX1_curve_6 : decode cX1_curve 6 = .ok (.ifCond .eq 14, 3) := by decide +kernel
theorem dX1_curve_9 : decode cX1_curve 9 = .ok (.iload_n 2, 1) := by decide +kernel
theorem dX1_curve_10 : decode cX1_curve 10 = .ok (.invokestatic 90, 3) := by decide +kernel
theorem dX1_curve_13 : decode cX1_curve 13 = .ok (.ifCond .eq 7, 3) := by decide +kernel
theorem dX1_curve_16 : decode cX1_curve 16 = .ok (.iconst 1, 1) := by decide +kernel
theorem dX1_curve_17 : decode cX1_curve 17 = .ok (.goto 4, 3) := by decide +kernel
theorem dX1_curve_20 : decode cX1_curve 20 = .ok (.iconst 0, 1) := by decide +kernel
theorem dX1_curve_21 : decode cX1_curve 21 = .ok (.iload_n 3, 1) := by decide +kernel
theorem dX1_curve_22 : decode cX1_curve 22 = .ok (.invokestatic 93, 3) := by decide +kernel
theorem dX1_curve_25 : decode cX1_curve 25 = .ok (.invokevirtual 103, 3) := by decide +kernel
theorem dX1_curve_28 : decode cX1_curve 28 = .ok (.ifCond .eq 13, 3) := by decide +kernel
theorem dX1_curve_31 : decode cX1_curve 31 = .ok (.aload_n 0, 1) := by decide +kernel
theorem dX1_curve_32 : decode cX1_curve 32 = .ok (.iload_n 1, 1) := by decide +kernel
theorem dX1_curve_33 : decode cX1_curve 33 = .ok (.iload_n 2, 1) := by decide +kernel
theorem dX1_curve_34 : decode cX1_curve 34 = .ok (.iload_n 3, 1) := by decide +kernel
theorem dX1_curve_35 : decode cX1_curve 35 = .ok (.invokevirtual 75, 3) := by decide +kernel
theorem dX1_curve_38 : decode cX1_curve 38 = .ok (.goto 4, 3) := by decide +kernel
theorem dX1_curve_41 : decode cX1_curve 41 = .ok (.iconst 0, 1) := by decide +kernel
theorem dX1_curve_42 : decode cX1_curve 42 = .ok (.ireturn, 1) := by decide +kernel
set_option maxRecDepth 20000 in
theorem ggX1_taken_X1_isProfile : GoodIn wsX1_taken wsX1_isProfile := goodIn_r _ [5, 6, 7, 8, 4, 9, 44, 45, 46, 47, 48, 49, 50, 51, 52, 53, 54, 55, 56, 57, 58, 59] (by decide +kernel) (by decide +kernel)
set_option maxRecDepth 20000 in
theorem gX1_taken_X1_isProfile : GoodIn wsX1_taken (wsV RX1 86 RX1 yX1_isProfile wsX1_isProfile) := goodIn_app (goodIn_of _ (by decide +kernel)) ggX1_taken_X1_isProfile
set_option maxRecDepth 20000 in
theorem ggX1_taken_X1_isThird : GoodIn wsX1_taken wsX1_isThird := goodIn_r _ [12, 7, 8, 4, 9] (by decide +kernel) (by decide +kernel)
set_option maxRecDepth 20000 in
theorem gX1_taken_X1_isThird : GoodIn wsX1_taken (va_wsS RX1 90 yX1_isThird wsX1_isThird) := goodIn_app (goodIn_of _ (by decide +kernel)) ggX1_taken_X1_isThird
set_option maxRecDepth 20000 in
theorem ggX1_taken_X1_isByte : GoodIn wsX1_taken wsX1_isByte := goodIn_r _ [15, 7, 8, 4, 9] (by decide +kernel) (by decide +kernel)
set_option maxRecDepth 20000 in
theorem gX1_taken_X1_isByte : GoodIn wsX1_taken (va_wsS RX1 93 yX1_isByte wsX1_isByte) := goodIn_app (goodIn_of _ (by decide +kernel)) ggX1_taken_X1_isByte
set_option maxRecDepth 20000 in
theorem ggX1_taken_X1_mayBoth : GoodIn wsX1_taken wsX1_mayBoth := goodIn_r _ [19, 20, 44, 45, 46, 47, 48, 49, 50, 51, 52, 53, 54, 55, 56, 57, 58, 59] (by decide +kernel) (by decide +kernel)
set_option maxRecDepth 20000 in
theorem gX1_taken_X1_mayBoth : GoodIn wsX1_taken (wsV RX1 103 RX1 yX1_mayBoth wsX1_mayBoth) := goodIn_app (goodIn_of _ (by decide +kernel)) ggX1_taken_X1_mayBoth
set_option maxRecDepth 20000 in
theorem ggX1_taken_X1_takenBy : GoodIn wsX1_taken wsX1_takenBy := goodIn_r _ [24, 25, 26, 27, 28, 29, 30, 4, 31, 32, 33, 34, 35, 36, 37, 38, 39, 40, 41, 42, 43, 44, 45, 46, 47, 48, 49, 50, 51, 52, 53, 54, 55, 56, 57, 58, 59] (by decide +kernel) (by decide +kernel)
set_option maxRecDepth 20000 in
theorem gX1_taken_X1_takenBy : GoodIn wsX1_taken (wsV RX1 79 RX1 yX1_takenBy wsX1_takenBy) := goodIn_app (goodIn_of _ (by decide +kernel)) ggX1_taken_X1_takenBy
theorem dX1_taken_0 : decode cX1_taken 0 = .ok (.aload_n 0, 1) := by decide +kernel
theorem dX1_taken_1 : decode cX1_taken 1 = .ok (.aload_n 0, 1) := by decide +kernel
theorem dX1_taken_2 : decode cX1_taken 2 = .ok (.iload_n 1, 1) := by decide +kernel
theorem dX1_taken_3 : decode cX1_taken 3 = .ok (.invokevirtual 86, 3) := by decide +kernel
theorem dX1_taken_6 : decode cX1_taken 6 = .ok (.ifCond .eq 14, 3) := by decide +kernel
theorem dX1_taken_9 : decode cX1_taken 9 = .ok (.iload_n 2, 1) := by decide +kernel
theorem dX1_taken_10 : decode cX1_taken 10 = .ok (.invokestatic 90, 3) := by decide +kernel
theorem dX1_taken_13 : decode cX1_taken 13 = .ok (.ifCond .eq 7, 3) := by decide +kernel
theorem dX1_taken_16 : decode cX1_taken 16 = .ok (.iconst 1, 1) := by decide +kernel
theorem dX1_taken_17 : decode cX1_taken 17 = .ok (.goto 4, 3) := by decide +kernel
theorem dX1_taken_20 : decode cX1_taken 20 = .ok (.iconst 0, 1) := by decide +kernel
theorem dX1_taken_21 : decode cX1_taken 21 = .ok (.iload_n 3, 1) := by decide +kernel
theorem dX1_taken_22 : decode cX1_taken 22 = .ok (.invokestatic 93, 3) := by decide +kernel
theorem dX1_taken_25 : decode cX1_taken 25 = .ok (.invokevirtual 103, 3) := by decide +kernel
theorem dX1_taken_28 : decode cX1_taken 28 = .ok (.ifCond .eq 13, 3) := by decide +kernel
theorem dX1_taken_31 : decode cX1_taken 31 = .ok (.aload_n 0, 1) := by decide +kernel
theorem dX1_taken_32 : decode cX1_taken 32 = .ok (.iload_n 1, 1) := by decide +kernel
theorem dX1_taken_33 : decode cX1_taken 33 = .ok (.iload_n 2, 1) := by decide +kernel
theorem dX1_taken_34 : decode cX1_taken 34 = .ok (.iload_n 3, 1) := by decide +kernel
theorem dX1_taken_35 : decode cX1_taken 35 = .ok (.invokevirtual 79, 3) := by decide +kernel
theorem dX1_taken_38 : decode cX1_taken 38 = .ok (.goto 4, 3) := by decide +kernel
theorem dX1_taken_41 : decode cX1_taken 41 = .ok (.iconst 0, 1) := by decide +kernel
theorem dX1_taken_42 : decode cX1_taken 42 = .ok (.ireturn, 1) := by decide +kernel
set_option maxRecDepth 20000 in
theorem ggX1_chain_X1_may : GoodIn wsX1_chain wsX1_may := goodIn_r _ [6, 7, 8, 9, 10, 11, 12, 13, 14, 15, 16, 17, 18, 19, 20, 21, 22, 23] (by decide +kernel) (by decide +kernel)
set_option maxRecDepth 20000 in
theorem gX1_chain_X1_may : GoodIn wsX1_chain (wsV RX1 82 RX1 yX1_may wsX1_may) := goodIn_app (goodIn_of _ (by decide +kernel)) ggX1_chain_X1_may
theorem dX1_chain_0 : decode cX1_chain 0 = .ok (.aload_n 0, 1) := by decide +kernel
theorem dX1_chain_1 : decode cX1_chain 1 = .ok (.aload_n 0, 1) := by decide +kernel
theorem dX1_chain_2 : decode cX1_chain 2 = .ok (.getfield 61, 3) := by decide +kernel
theorem dX1_chain_5 : decode cX1_chain 5 = .ok (.bipush 6, 2) := by decide +kernel
theorem dX1_chain_7 : decode cX1_chain 7 = .ok (.if_icmp .ge 7, 3) := by decide +kernel
theorem dX1_chain_10 : decode cX1_chain 10 = .ok (.iconst 1, 1) := by decide +kernel
theorem dX1_chain_11 : decode cX1_chain 11 = .ok (.goto 4, 3) := by decide +kernel
theorem dX1_chain_14 : decode cX1_chain 14 = .ok (.iconst 0, 1) := by decide +kernel
theorem dX1_chain_15 : decode cX1_chain 15 = .ok (.invokevirtual 82, 3) := by decide +kernel
theorem dX1_chain_18 : decode cX1_chain 18 = .ok (.ifCond .ne 5, 3) := by decide +kernel
theorem dX1_chain_21 : decode cX1_chain 21 = .ok (.iconst 0, 1) := by decide +kernel
theorem dX1_chain_22 : decode cX1_chain 22 = .ok (.ireturn, 1) := by decide +kernel
theorem dX1_chain_23 : decode cX1_chain 23 = .ok (.aload_n 0, 1) := by decide +kernel
theorem dX1_chain_24 : decode cX1_chain 24 = .ok (.dup, 1) := by decide +kernel
theorem dX1_chain_25 : decode cX1_chain 25 = .ok (.getfield 61, 3) := by decide +kernel
theorem dX1_chain_28 : decode cX1_chain 28 = .ok (.iconst 1, 1) := by decide +kernel
theorem dX1_chain_29 : decode cX1_chain 29 = .ok (.iadd, 1) := by decide +kernel
theorem dX1_chain_30 : decode cX1_chain 30 = .ok (.putfield 61, 3) := by decide +kernel
theorem dX1_chain_33 : decode cX1_chain 33 = .ok (.aload_n 0, 1) := by decide +kernel
theorem dX1_chain_34 : decode cX1_chain 34 = .ok (.getfield 61, 3) := by decide +kernel
theorem dX1_chain_37 : decode cX1_chain 37 = .ok (.iconst 1, 1) := by decide +kernel
theorem dX1_chain_38 : decode cX1_chain 38 = .ok (.isub, 1) := by decide +kernel
theorem dX1_chain_39 : decode cX1_chain 39 = .ok (.ireturn, 1) := by decide +kernel
set_option maxRecDepth 20000 in
theorem ggX1_add_X1_isChain : GoodIn wsX1_add wsX1_isChain := goodIn_r _ [8, 9, 10, 11, 7, 12, 23, 24, 25, 26, 27, 28, 29, 30, 31, 32, 33, 34, 35, 36, 37, 38] (by decide +kernel) (by decide +kernel)
set_option maxRecDepth 20000 in
theorem gX1_add_X1_isChain : GoodIn wsX1_add (wsV RX1 107 RX1 yX1_isChain wsX1_isChain) := goodIn_app (goodIn_of _ (by decide +kernel)) ggX1_add_X1_isChain
set_option maxRecDepth 20000 in
theorem ggX1_add_X1_isProfile : GoodIn wsX1_add wsX1_isProfile := goodIn_r _ [16, 17, 10, 11, 7, 12, 23, 24, 25, 26, 27, 28, 29, 30, 31, 32, 33, 34, 35, 36, 37, 38] (by decide +kernel) (by decide +kernel)
set_option maxRecDepth 20000 in
theorem gX1_add_X1_isProfile : GoodIn wsX1_add (wsV RX1 86 RX1 yX1_isProfile wsX1_isProfile) := goodIn_app (goodIn_of _ (by decide +kernel)) ggX1_add_X1_isProfile
set_option maxRecDepth 20000 in
theorem ggX1_add_X1_mayBoth : GoodIn wsX1_add wsX1_mayBoth := goodIn_r _ [21, 22, 23, 24, 25, 26, 27, 28, 29, 30, 31, 32, 33, 34, 35, 36, 37, 38] (by decide +kernel) (by decide +kernel)
set_option maxRecDepth 20000 in
theorem gX1_add_X1_mayBoth : GoodIn wsX1_add (wsV RX1 103 RX1 yX1_mayBoth wsX1_mayBoth) := goodIn_app (goodIn_of _ (by decide +kernel)) ggX1_add_X1_mayBoth
theorem dX1_add_0 : decode cX1_add 0 = .ok (.aload_n 0, 1) := by decide +kernel
theorem dX1_add_1 : decode cX1_add 1 = .ok (.iload_n 1, 1) := by decide +kernel
theorem dX1_add_2 : decode cX1_add 2 = .ok (.invokevirtual 107, 3) := by decide +kernel
theorem dX1_add_5 : decode cX1_add 5 = .ok (.ifCond .eq 15, 3) := by decide +kernel
theorem dX1_add_8 : decode cX1_add 8 = .ok (.aload_n 0, 1) := by decide +kernel
theorem dX1_add_9 : decode cX1_add 9 = .ok (.iload_n 2, 1) := by decide +kernel
theorem dX1_add_10 : decode cX1_add 10 = .ok (.invokevirtual 86, 3) := by decide +kernel
theorem dX1_add_13 : decode cX1_add 13 = .ok (.ifCond .eq 7, 3) := by decide +kernel
theorem dX1_add_16 : decode cX1_add 16 = .ok (.iconst 1, 1) := by decide +kernel
theorem dX1_add_17 : decode cX1_add 17 = .ok (.goto 4, 3) := by decide +kernel
theorem dX1_add_20 : decode cX1_add 20 = .ok (.iconst 0, 1) := by decide +kernel
theorem dX1_add_21 : decode cX1_add 21 = .ok (.istore_n 3, 1) := by decide +kernel
theorem dX1_add_22 : decode cX1_add 22 = .ok (.aload_n 0, 1) := by decide +kernel
theorem dX1_add_23 : decode cX1_add 23 = .ok (.iload_n 3, 1) := by decide +kernel
theorem dX1_add_24 : decode cX1_add 24 = .ok (.iload_n 3, 1) := by decide +kernel
theorem dX1_add_25 : decode cX1_add 25 = .ok (.ifCond .eq 27, 3) := by decide +kernel
theorem dX1_add_28 : decode cX1_add 28 = .ok (.aload_n 0, 1) := by decide +kernel
theorem dX1_add_29 : decode cX1_add 29 = .ok (.getfield 32, 3) := by decide +kernel
theorem dX1_add_32 : decode cX1_add 32 = .ok (.iload_n 1, 1) := by decide +kernel
theorem dX1_add_33 : decode cX1_add 33 = .ok (.baload, 1) := by decide +kernel
theorem dX1_add_34 : decode cX1_add 34 = .ok (.ifCond .ne 18, 3) := by decide +kernel
theorem dX1_add_37 : decode cX1_add 37 = .ok (.aload_n 0, 1) := by decide +kernel
theorem dX1_add_38 : decode cX1_add 38 = .ok (.getfield 22, 3) := by decide +kernel
theorem dX1_add_41 : decode cX1_add 41 = .ok (.iload_n 1, 1) := by decide +kernel
theorem dX1_add_42 : decode cX1_add 42 = .ok (.iaload, 1) := by decide +kernel
theorem dX1_add_43 : decode cX1_add 43 = .ok (.bipush 6, 2) := by decide +kernel
theorem dX1_add_45 : decode cX1_add 45 = .ok (.if_icmp .ge 7, 3) := by decide +kernel
theorem dX1_add_48 : decode cX1_add 48 = .ok (.iconst 1, 1) := by decide +kernel
theorem dX1_add_49 : decode cX1_add 49 = .ok (.goto 4, 3) := by decide +kernel
theorem dX1_add_52 : decode cX1_add 52 = .ok (.iconst 0, 1) := by decide +kernel
theorem dX1_add_53 : decode cX1_add 53 = .ok (.invokevirtual 103, 3) := by decide +kernel
theorem dX1_add_56 : decode cX1_add 56 = .ok (.ifCond .ne 5, 3) := by decide +kernel
theorem dX1_add_59 : decode cX1_add 59 = .ok (.iconst 0, 1) := by decide +kernel
theorem dX1_add_60 : decode cX1_add 60 = .ok (.ireturn, 1) := by decide +kernel
theorem dX1_add_61 : decode cX1_add 61 = .ok (.aload_n 0, 1) := by decide +kernel
theorem dX1_add_62 : decode cX1_add 62 = .ok (.getfield 25, 3) := by decide +kernel
theorem dX1_add_65 : decode cX1_add 65 = .ok (.bipush 6, 2) := by decide +kernel
theorem dX1_add_67 : decode cX1_add 67 = .ok (.iload_n 1, 1) := by decide +kernel
theorem dX1_add_68 : decode cX1_add 68 = .ok (.imul, 1) := by decide +kernel
theorem dX1_add_69 : decode cX1_add 69 = .ok (.aload_n 0, 1) := by decide +kernel
theorem dX1_add_70 : decode cX1_add 70 = .ok (.getfield 22, 3) := by decide +kernel
theorem dX1_add_73 : decode cX1_add 73 = .ok (.iload_n 1, 1) := by decide +kernel
theorem dX1_add_74 : decode cX1_add 74 = .ok (.iaload, 1) := by decide +kernel
theorem dX1_add_75 : decode cX1_add 75 = .ok (.iadd, 1) := by decide +kernel
theorem dX1_add_76 : decode cX1_add 76 = .ok (.iload_n 2, 1) := by decide +kernel
theorem dX1_add_77 : decode cX1_add 77 = .ok (.iastore, 1) := by decide +kernel
theorem dX1_add_78 : decode cX1_add 78 = .ok (.aload_n 0, 1) := by decide +kernel
theorem dX1_add_79 : decode cX1_add 79 = .ok (.getfield 22, 3) := by decide +kernel
theorem dX1_add_82 : decode cX1_add 82 = .ok (.iload_n 1, 1) := by decide +kernel
theorem dX1_add_83 : decode cX1_add 83 = .ok (.dup2, 1) := by decide +kernel
theorem dX1_add_84 : decode cX1_add 84 = .ok (.iaload, 1) := by decide +kernel
theorem dX1_add_85 : decode cX1_add 85 = .ok (.iconst 1, 1) := by decide +kernel
theorem dX1_add_86 : decode cX1_add 86 = .ok (.iadd, 1) := by decide +kernel
theorem dX1_add_87 : decode cX1_add 87 = .ok (.iastore, 1) := by decide +kernel
theorem dX1_add_88 : decode cX1_add 88 = .ok (.aload_n 0, 1) := by decide +kernel
theorem dX1_add_89 : decode cX1_add 89 = .ok (.getfield 22, 3) := by decide +kernel
theorem dX1_add_92 : decode cX1_add 92 = .ok (.iload_n 1, 1) := by decide +kernel
theorem dX1_add_93 : decode cX1_add 93 = .ok (.iaload, 1) := by decide +kernel
theorem dX1_add_94 : decode cX1_add 94 = .ok (.ireturn, 1) := by decide +kernel
set_option maxRecDepth 20000 in
theorem ggX1_drop_X1_isChain : GoodIn wsX1_drop wsX1_isChain := goodIn_r _ [8, 9, 10, 11, 7, 12, 18, 19, 20, 21, 22, 23, 24, 25, 26, 27, 28, 29, 30, 31, 32, 33] (by decide +kernel) (by decide +kernel)
end
section
set_option maxRecDepth 20000 in
theorem gX1_drop_X1_isChain : GoodIn wsX1_drop (wsV RX1 107 RX1 yX1_isChain wsX1_isChain) := goodIn_app (goodIn_of _ (by decide +kernel)) ggX1_drop_X1_isChain
set_option maxRecDepth 20000 in
theorem ggX1_drop_X1_mayBoth : GoodIn wsX1_drop wsX1_mayBoth := goodIn_r _ [16, 17, 18, 19, 20, 21, 22, 23, 24, 25, 26, 27, 28, 29, 30, 31, 32, 33] (by decide +kernel) (by decide +kernel)
set_option maxRecDepth 20000 in
theorem gX1_drop_X1_mayBoth : GoodIn wsX1_drop (wsV RX1 103 RX1 yX1_mayBoth wsX1_mayBoth) := goodIn_app (goodIn_of _ (by decide +kernel)) ggX1_drop_X1_mayBoth
theorem dX1_drop_0 : decode cX1_drop 0 = .ok (.aload_n 0, 1) := by decide +kernel
theorem dX1_drop_1 : decode cX1_drop 1 = .ok (.iload_n 1, 1) := by decide +kernel
theorem dX1_drop_2 : decode cX1_drop 2 = .ok (.invokevirtual 107, 3) := by decide +kernel
theorem dX1_drop_5 : decode cX1_drop 5 = .ok (.istore_n 2, 1) := by decide +kernel
theorem dX1_drop_6 : decode cX1_drop 6 = .ok (.aload_n 0, 1) := by decide +kernel
theorem dX1_drop_7 : decode cX1_drop 7 = .ok (.iload_n 2, 1) := by decide +kernel
theorem dX1_drop_8 : decode cX1_drop 8 = .ok (.iload_n 2, 1) := by decide +kernel
theorem dX1_drop_9 : decode cX1_drop 9 = .ok (.ifCond .eq 25, 3) := by decide +kernel
theorem dX1_drop_12 : decode cX1_drop 12 = .ok (.aload_n 0, 1) := by decide +kernel
theorem dX1_drop_13 : decode cX1_drop 13 = .ok (.getfield 32, 3) := by decide +kernel
theorem dX1_drop_16 : decode cX1_drop 16 = .ok (.iload_n 1, 1) := by decide +kernel
theorem dX1_drop_17 : decode cX1_drop 17 = .ok (.baload, 1) := by decide +kernel
theorem dX1_drop_18 : decode cX1_drop 18 = .ok (.ifCond .ne 16, 3) := by decide +kernel
theorem dX1_drop_21 : decode cX1_drop 21 = .ok (.aload_n 0, 1) := by decide +kernel
theorem dX1_drop_22 : decode cX1_drop 22 = .ok (.getfield 22, 3) := by decide +kernel
theorem dX1_drop_25 : decode cX1_drop 25 = .ok (.iload_n 1, 1) := by decide +kernel
theorem dX1_drop_26 : decode cX1_drop 26 = .ok (.iaload, 1) := by decide +kernel
theorem dX1_drop_27 : decode cX1_drop 27 = .ok (.ifCond .le 7, 3) := by decide +kernel
theorem dX1_drop_30 : decode cX1_drop 30 = .ok (.iconst 1, 1) := by decide +kernel
theorem dX1_drop_31 : decode cX1_drop 31 = .ok (.goto 4, 3) := by decide +kernel
theorem dX1_drop_34 : decode cX1_drop 34 = .ok (.iconst 0, 1) := by decide +kernel
theorem dX1_drop_35 : decode cX1_drop 35 = .ok (.invokevirtual 103, 3) := by decide +kernel
theorem dX1_drop_38 : decode cX1_drop 38 = .ok (.ifCond .ne 5, 3) := by decide +kernel
theorem dX1_drop_41 : decode cX1_drop 41 = .ok (.iconst 0, 1) := by decide +kernel
theorem dX1_drop_42 : decode cX1_drop 42 = .ok (.ireturn, 1) := by decide +kernel
theorem dX1_drop_43 : decode cX1_drop 43 = .ok (.aload_n 0, 1) := by decide +kernel
theorem dX1_drop_44 : decode cX1_drop 44 = .ok (.getfield 22, 3) := by decide +kernel
theorem dX1_drop_47 : decode cX1_drop 47 = .ok (.iload_n 1, 1) := by decide +kernel
theorem dX1_drop_48 : decode cX1_drop 48 = .ok (.dup2, 1) := by decide +kernel
theorem dX1_drop_49 : decode cX1_drop 49 = .ok (.iaload, 1) := by decide +kernel
theorem dX1_drop_50 : decode cX1_drop 50 = .ok (.iconst 1, 1) := by decide +kernel
theorem dX1_drop_51 : decode cX1_drop 51 = .ok (.isub, 1) := by decide +kernel
theorem dX1_drop_52 : decode cX1_drop 52 = .ok (.iastore, 1) := by decide +kernel
theorem dX1_drop_53 : decode cX1_drop 53 = .ok (.aload_n 0, 1) := by decide +kernel
theorem dX1_drop_54 : decode cX1_drop 54 = .ok (.getfield 25, 3) := by decide +kernel
theorem dX1_drop_57 : decode cX1_drop 57 = .ok (.bipush 6, 2) := by decide +kernel
theorem dX1_drop_59 : decode cX1_drop 59 = .ok (.iload_n 1, 1) := by decide +kernel
theorem dX1_drop_60 : decode cX1_drop 60 = .ok (.imul, 1) := by decide +kernel
theorem dX1_drop_61 : decode cX1_drop 61 = .ok (.aload_n 0, 1) := by decide +kernel
theorem dX1_drop_62 : decode cX1_drop 62 = .ok (.getfield 22, 3) := by decide +kernel
theorem dX1_drop_65 : decode cX1_drop 65 = .ok (.iload_n 1, 1) := by decide +kernel
theorem dX1_drop_66 : decode cX1_drop 66 = .ok (.iaload, 1) := by decide +kernel
theorem dX1_drop_67 : decode cX1_drop 67 = .ok (.iadd, 1) := by decide +kernel
theorem dX1_drop_68 : decode cX1_drop 68 = .ok (.iaload, 1) := by decide +kernel
theorem dX1_drop_69 : decode cX1_drop 69 = .ok (.ireturn, 1) := by decide +kernel
set_option maxRecDepth 20000 in
theorem ggX1_through_X1_isChain : GoodIn wsX1_through wsX1_isChain := goodIn_r _ [5, 6, 7, 8, 4, 9, 50, 51, 52, 53, 54, 55, 56, 57, 58, 59, 60, 61, 62, 63, 64, 65] (by decide +kernel) (by decide +kernel)
set_option maxRecDepth 20000 in
theorem gX1_through_X1_isChain : GoodIn wsX1_through (wsV RX1 107 RX1 yX1_isChain wsX1_isChain) := goodIn_app (goodIn_of _ (by decide +kernel)) ggX1_through_X1_isChain
set_option maxRecDepth 20000 in
theorem ggX1_through_X1_isThird : GoodIn wsX1_through wsX1_isThird := goodIn_r _ [12, 7, 8, 4, 9] (by decide +kernel) (by decide +kernel)
set_option maxRecDepth 20000 in
theorem gX1_through_X1_isThird : GoodIn wsX1_through (va_wsS RX1 90 yX1_isThird wsX1_isThird) := goodIn_app (goodIn_of _ (by decide +kernel)) ggX1_through_X1_isThird
set_option maxRecDepth 20000 in
theorem ggX1_through_X1_isByte : GoodIn wsX1_through wsX1_isByte := goodIn_r _ [15, 7, 8, 4, 9] (by decide +kernel) (by decide +kernel)
set_option maxRecDepth 20000 in
theorem gX1_through_X1_isByte : GoodIn wsX1_through (va_wsS RX1 93 yX1_isByte wsX1_isByte) := goodIn_app (goodIn_of _ (by decide +kernel)) ggX1_through_X1_isByte
set_option maxRecDepth 20000 in
theorem ggX1_through_X1_mayBoth : GoodIn wsX1_through wsX1_mayBoth := goodIn_r _ [19, 20, 50, 51, 52, 53, 54, 55, 56, 57, 58, 59, 60, 61, 62, 63, 64, 65] (by decide +kernel) (by decide +kernel)
set_option maxRecDepth 20000 in
theorem gX1_through_X1_mayBoth : GoodIn wsX1_through (wsV RX1 103 RX1 yX1_mayBoth wsX1_mayBoth) := goodIn_app (goodIn_of _ (by decide +kernel)) ggX1_through_X1_mayBoth
set_option maxRecDepth 20000 in
theorem ggX1_through_X1_throughOf : GoodIn wsX1_through wsX1_throughOf := goodIn_r _ [24, 25, 26, 27, 28, 29, 4, 30, 31, 32, 33, 34, 35, 36, 37, 38, 39, 40, 41, 42, 43, 44, 45, 46, 47, 48, 49, 50, 51, 52, 53, 54, 55, 56, 57, 58, 59, 60, 61, 62, 63, 64, 65] (by decide +kernel) (by decide +kernel)
set_option maxRecDepth 20000 in
theorem gX1_through_X1_throughOf : GoodIn wsX1_through (wsV RX1 110 RX1 yX1_throughOf wsX1_throughOf) := goodIn_app (goodIn_of _ (by decide +kernel)) ggX1_through_X1_throughOf
theorem dX1_through_0 : decode cX1_through 0 = .ok (.aload_n 0, 1) := by decide +kernel
theorem dX1_through_1 : decode cX1_through 1 = .ok (.aload_n 0, 1) := by decide +kernel
theorem dX1_through_2 : decode cX1_through 2 = .ok (.iload_n 1, 1) := by decide +kernel
theorem dX1_through_3 : decode cX1_through 3 = .ok (.invokevirtual 107, 3) := by decide +kernel
theorem dX1_through_6 : decode cX1_through 6 = .ok (.ifCond .eq 14, 3) := by decide +kernel
theorem dX1_through_9 : decode cX1_through 9 = .ok (.iload_n 2, 1) := by decide +kernel
theorem dX1_through_10 : decode cX1_through 10 = .ok (.invokestatic 90, 3) := by decide +kernel
theorem dX1_through_13 : decode cX1_through 13 = .ok (.ifCond .eq 7, 3) := by decide +kernel
theorem dX1_through_16 : decode cX1_through 16 = .ok (.iconst 1, 1) := by decide +kernel
theorem dX1_through_17 : decode cX1_through 17 = .ok (.goto 4, 3) := by decide +kernel
theorem dX1_through_20 : decode cX1_through 20 = .ok (.iconst 0, 1) := by decide +kernel
theorem dX1_through_21 : decode cX1_through 21 = .ok (.iload_n 3, 1) := by decide +kernel
theorem dX1_through_22 : decode cX1_through 22 = .ok (.invokestatic 93, 3) := by decide +kernel
theorem dX1_through_25 : decode cX1_through 25 = .ok (.invokevirtual 103, 3) := by decide +kernel
theorem dX1_through_28 : decode cX1_through 28 = .ok (.ifCond .eq 13, 3) := by decide +kernel
theorem dX1_through_31 : decode cX1_through 31 = .ok (.aload_n 0, 1) := by decide +kernel
theorem dX1_through_32 : decode cX1_through 32 = .ok (.iload_n 1, 1) := by decide +kernel
theorem dX1_through_33 : decode cX1_through 33 = .ok (.iload_n 2, 1) := by decide +kernel
theorem dX1_through_34 : decode cX1_through 34 = .ok (.iload_n 3, 1) := by decide +kernel
theorem dX1_through_35 : decode cX1_through 35 = .ok (.invokevirtual 110, 3) := by decide +kernel
theorem dX1_through_38 : decode cX1_through 38 = .ok (.goto 4, 3) := by decide +kernel
theorem dX1_through_41 : decode cX1_through 41 = .ok (.iconst 0, 1) := by decide +kernel
theorem dX1_through_42 : decode cX1_through 42 = .ok (.ireturn, 1) := by decide +kernel
theorem dX1_apart_0 : decode cX1_apart 0 = .ok (.iload_n 0, 1) := by decide +kernel
theorem dX1_apart_1 : decode cX1_apart 1 = .ok (.iload_n 1, 1) := by decide +kernel
theorem dX1_apart_2 : decode cX1_apart 2 = .ok (.if_icmp .le 9, 3) := by decide +kernel
theorem dX1_apart_5 : decode cX1_apart 5 = .ok (.iload_n 0, 1) := by decide +kernel
theorem dX1_apart_6 : decode cX1_apart 6 = .ok (.iload_n 1, 1) := by decide +kernel
theorem dX1_apart_7 : decode cX1_apart 7 = .ok (.isub, 1) := by decide +kernel
theorem dX1_apart_8 : decode cX1_apart 8 = .ok (.goto 6, 3) := by decide +kernel
theorem dX1_apart_11 : decode cX1_apart 11 = .ok (.iload_n 1, 1) := by decide +kernel
theorem dX1_apart_12 : decode cX1_apart 12 = .ok (.iload_n 0, 1) := by decide +kernel
theorem dX1_apart_13 : decode cX1_apart 13 = .ok (.isub, 1) := by decide +kernel
theorem dX1_apart_14 : decode cX1_apart 14 = .ok (.ireturn, 1) := by decide +kernel
set_option maxRecDepth 20000 in
theorem ggX1_gapOf_X1_throughOf : GoodIn wsX1_gapOf wsX1_throughOf := goodIn_r _ [5, 6, 7, 8, 9, 10, 4, 11, 12, 13, 14, 15, 16, 17, 18, 19, 20, 21, 22, 23, 24, 25, 26, 27, 28, 29, 30, 34, 35, 36, 37, 38, 39, 40, 41, 42, 43, 44, 45, 46, 47, 48, 49] (by decide +kernel) (by decide +kernel)
set_option maxRecDepth 20000 in
theorem gX1_gapOf_X1_throughOf : GoodIn wsX1_gapOf (wsV RX1 110 RX1 yX1_throughOf wsX1_throughOf) := goodIn_app (goodIn_of _ (by decide +kernel)) ggX1_gapOf_X1_throughOf
set_option maxRecDepth 20000 in
theorem ggX1_gapOf_X1_placeAt : GoodIn wsX1_gapOf wsX1_placeAt := goodIn_r _ [27] (by decide +kernel) (by decide +kernel)
set_option maxRecDepth 20000 in
theorem gX1_gapOf_X1_placeAt : GoodIn wsX1_gapOf (va_wsS RX1 64 yX1_placeAt wsX1_placeAt) := goodIn_app (goodIn_of _ (by decide +kernel)) ggX1_gapOf_X1_placeAt
set_option maxRecDepth 20000 in
theorem ggX1_gapOf_X1_quotient : GoodIn wsX1_gapOf wsX1_quotient := goodIn_r _ [30] (by decide +kernel) (by decide +kernel)
set_option maxRecDepth 20000 in
theorem gX1_gapOf_X1_quotient : GoodIn wsX1_gapOf (va_wsS RX1 68 yX1_quotient wsX1_quotient) := goodIn_app (goodIn_of _ (by decide +kernel)) ggX1_gapOf_X1_quotient
set_option maxRecDepth 20000 in
theorem ggX1_gapOf_X1_apart : GoodIn wsX1_gapOf wsX1_apart := goodIn_r _ [33] (by decide +kernel) (by decide +kernel)
set_option maxRecDepth 20000 in
theorem gX1_gapOf_X1_apart : GoodIn wsX1_gapOf (va_wsS RX1 113 yX1_apart wsX1_apart) := goodIn_app (goodIn_of _ (by decide +kernel)) ggX1_gapOf_X1_apart
theorem dX1_gapOf_0 : decode cX1_gapOf 0 = .ok (.iconst 0, 1) := by decide +kernel
theorem dX1_gapOf_1 : decode cX1_gapOf 1 = .ok (.istore_n 2, 1) := by decide +kernel
theorem dX1_gapOf_2 : decode cX1_gapOf 2 = .ok (.iconst 0, 1) := by decide +kernel
theorem dX1_gapOf_3 : decode cX1_gapOf 3 = .ok (.istore_n 3, 1) := by decide +kernel
theorem dX1_gapOf_4 : decode cX1_gapOf 4 = .ok (.iload_n 3, 1) := by decide +kernel
theorem dX1_gapOf_5 : decode cX1_gapOf 5 = .ok (.iconst 3, 1) := by decide +kernel
theorem dX1_gapOf_6 : decode cX1_gapOf 6 = .ok (.if_icmp .ge 168, 3) := by decide +kernel
theorem dX1_gapOf_9 : decode cX1_gapOf 9 = .ok (.iconst 0, 1) := by decide +kernel
theorem dX1_gapOf_10 : decode cX1_gapOf 10 = .ok (.istore 4, 2) := by decide +kernel
theorem dX1_gapOf_12 : decode cX1_gapOf 12 = .ok (.iload 4, 2) := by decide +kernel
theorem dX1_gapOf_14 : decode cX1_gapOf 14 = .ok (.sipush 256, 3) := by decide +kernel
theorem dX1_gapOf_17 : decode cX1_gapOf 17 = .ok (.if_icmp .ge 151, 3) := by decide +kernel
theorem dX1_gapOf_20 : decode cX1_gapOf 20 = .ok (.aload_n 0, 1) := by decide +kernel
theorem dX1_gapOf_21 : decode cX1_gapOf 21 = .ok (.iload_n 1, 1) := by decide +kernel
theorem dX1_gapOf_22 : decode cX1_gapOf 22 = .ok (.iload_n 3, 1) := by decide +kernel
theorem dX1_gapOf_23 : decode cX1_gapOf 23 = .ok (.iload 4, 2) := by decide +kernel
theorem dX1_gapOf_25 : decode cX1_gapOf 25 = .ok (.invokevirtual 110, 3) := by decide +kernel
theorem dX1_gapOf_28 : decode cX1_gapOf 28 = .ok (.istore 5, 2) := by decide +kernel
theorem dX1_gapOf_30 : decode cX1_gapOf 30 = .ok (.iload 4, 2) := by decide +kernel
theorem dX1_gapOf_32 : decode cX1_gapOf 32 = .ok (.sipush 255, 3) := by decide +kernel
theorem dX1_gapOf_35 : decode cX1_gapOf 35 = .ok (.if_icmp .ne 7, 3) := by decide +kernel
theorem dX1_gapOf_38 : decode cX1_gapOf 38 = .ok (.iconst 3, 1) := by decide +kernel
theorem dX1_gapOf_39 : decode cX1_gapOf 39 = .ok (.goto 8, 3) := by decide +kernel
theorem dX1_gapOf_42 : decode cX1_gapOf 42 = .ok (.iload 4, 2) := by decide +kernel
theorem dX1_gapOf_44 : decode cX1_gapOf 44 = .ok (.bipush 64, 2) := by decide +kernel
theorem dX1_gapOf_46 : decode cX1_gapOf 46 = .ok (.idiv, 1) := by decide +kernel
theorem dX1_gapOf_47 : decode cX1_gapOf 47 = .ok (.istore 6, 2) := by decide +kernel
theorem dX1_gapOf_49 : decode cX1_gapOf 49 = .ok (.aload_n 0, 1) := by decide +kernel
theorem dX1_gapOf_50 : decode cX1_gapOf 50 = .ok (.iload_n 1, 1) := by decide +kernel
theorem dX1_gapOf_51 : decode cX1_gapOf 51 = .ok (.iload_n 3, 1) := by decide +kernel
theorem dX1_gapOf_52 : decode cX1_gapOf 52 = .ok (.iload 6, 2) := by decide +kernel
theorem dX1_gapOf_54 : decode cX1_gapOf 54 = .ok (.invokestatic 64, 3) := by decide +kernel
theorem dX1_gapOf_57 : decode cX1_gapOf 57 = .ok (.invokevirtual 110, 3) := by decide +kernel
theorem dX1_gapOf_60 : decode cX1_gapOf 60 = .ok (.istore 7, 2) := by decide +kernel
theorem dX1_gapOf_62 : decode cX1_gapOf 62 = .ok (.aload_n 0, 1) := by decide +kernel
theorem dX1_gapOf_63 : decode cX1_gapOf 63 = .ok (.iload_n 1, 1) := by decide +kernel
theorem dX1_gapOf_64 : decode cX1_gapOf 64 = .ok (.iload_n 3, 1) := by decide +kernel
theorem dX1_gapOf_65 : decode cX1_gapOf 65 = .ok (.iload 6, 2) := by decide +kernel
theorem dX1_gapOf_67 : decode cX1_gapOf 67 = .ok (.iconst 1, 1) := by decide +kernel
theorem dX1_gapOf_68 : decode cX1_gapOf 68 = .ok (.iadd, 1) := by decide +kernel
theorem dX1_gapOf_69 : decode cX1_gapOf 69 = .ok (.invokestatic 64, 3) := by decide +kernel
theorem dX1_gapOf_72 : decode cX1_gapOf 72 = .ok (.invokevirtual 110, 3) := by decide +kernel
theorem dX1_gapOf_75 : decode cX1_gapOf 75 = .ok (.istore 8, 2) := by decide +kernel
theorem dX1_gapOf_77 : decode cX1_gapOf 77 = .ok (.iload 4, 2) := by decide +kernel
theorem dX1_gapOf_79 : decode cX1_gapOf 79 = .ok (.iload 6, 2) := by decide +kernel
theorem dX1_gapOf_81 : decode cX1_gapOf 81 = .ok (.invokestatic 64, 3) := by decide +kernel
theorem dX1_gapOf_84 : decode cX1_gapOf 84 = .ok (.isub, 1) := by decide +kernel
theorem dX1_gapOf_85 : decode cX1_gapOf 85 = .ok (.istore 9, 2) := by decide +kernel
theorem dX1_gapOf_87 : decode cX1_gapOf 87 = .ok (.iload 9, 2) := by decide +kernel
theorem dX1_gapOf_89 : decode cX1_gapOf 89 = .ok (.iload 6, 2) := by decide +kernel
theorem dX1_gapOf_91 : decode cX1_gapOf 91 = .ok (.iconst 1, 1) := by decide +kernel
theorem dX1_gapOf_92 : decode cX1_gapOf 92 = .ok (.iadd, 1) := by decide +kernel
theorem dX1_gapOf_93 : decode cX1_gapOf 93 = .ok (.invokestatic 64, 3) := by decide +kernel
theorem dX1_gapOf_96 : decode cX1_gapOf 96 = .ok (.iload 6, 2) := by decide +kernel
theorem dX1_gapOf_98 : decode cX1_gapOf 98 = .ok (.invokestatic 64, 3) := by decide +kernel
theorem dX1_gapOf_101 : decode cX1_gapOf 101 = .ok (.isub, 1) := by decide +kernel
theorem dX1_gapOf_102 : decode cX1_gapOf 102 = .ok (.if_icmp .ne 8, 3) := by decide +kernel
theorem dX1_gapOf_105 : decode cX1_gapOf 105 = .ok (.iload 8, 2) := by decide +kernel
theorem dX1_gapOf_107 : decode cX1_gapOf 107 = .ok (.goto 30, 3) := by decide +kernel
theorem dX1_gapOf_110 : decode cX1_gapOf 110 = .ok (.iload 7, 2) := by decide +kernel
theorem dX1_gapOf_112 : decode cX1_gapOf 112 = .ok (.iload 8, 2) := by decide +kernel
theorem dX1_gapOf_114 : decode cX1_gapOf 114 = .ok (.iload 7, 2) := by decide +kernel
theorem dX1_gapOf_116 : decode cX1_gapOf 116 = .ok (.isub, 1) := by decide +kernel
theorem dX1_gapOf_117 : decode cX1_gapOf 117 = .ok (.iload 9, 2) := by decide +kernel
theorem dX1_gapOf_119 : decode cX1_gapOf 119 = .ok (.imul, 1) := by decide +kernel
theorem dX1_gapOf_120 : decode cX1_gapOf 120 = .ok (.iload 6, 2) := by decide +kernel
theorem dX1_gapOf_122 : decode cX1_gapOf 122 = .ok (.iconst 1, 1) := by decide +kernel
theorem dX1_gapOf_123 : decode cX1_gapOf 123 = .ok (.iadd, 1) := by decide +kernel
theorem dX1_gapOf_124 : decode cX1_gapOf 124 = .ok (.invokestatic 64, 3) := by decide +kernel
theorem dX1_gapOf_127 : decode cX1_gapOf 127 = .ok (.iload 6, 2) := by decide +kernel
theorem dX1_gapOf_129 : decode cX1_gapOf 129 = .ok (.invokestatic 64, 3) := by decide +kernel
theorem dX1_gapOf_132 : decode cX1_gapOf 132 = .ok (.isub, 1) := by decide +kernel
theorem dX1_gapOf_133 : decode cX1_gapOf 133 = .ok (.invokestatic 68, 3) := by decide +kernel
theorem dX1_gapOf_136 : decode cX1_gapOf 136 = .ok (.iadd, 1) := by decide +kernel
theorem dX1_gapOf_137 : decode cX1_gapOf 137 = .ok (.istore 10, 2) := by decide +kernel
theorem dX1_gapOf_139 : decode cX1_gapOf 139 = .ok (.iload 5, 2) := by decide +kernel
theorem dX1_gapOf_141 : decode cX1_gapOf 141 = .ok (.iload 10, 2) := by decide +kernel
theorem dX1_gapOf_143 : decode cX1_gapOf 143 = .ok (.invokestatic 113, 3) := by decide +kernel
theorem dX1_gapOf_146 : decode cX1_gapOf 146 = .ok (.iload_n 2, 1) := by decide +kernel
theorem dX1_gapOf_147 : decode cX1_gapOf 147 = .ok (.if_icmp .le 13, 3) := by decide +kernel
theorem dX1_gapOf_150 : decode cX1_gapOf 150 = .ok (.iload 5, 2) := by decide +kernel
theorem dX1_gapOf_152 : decode cX1_gapOf 152 = .ok (.iload 10, 2) := by decide +kernel
theorem dX1_gapOf_154 : decode cX1_gapOf 154 = .ok (.invokestatic 113, 3) := by decide +kernel
theorem dX1_gapOf_157 : decode cX1_gapOf 157 = .ok (.goto 4, 3) := by decide +kernel
theorem dX1_gapOf_160 : decode cX1_gapOf 160 = .ok (.iload_n 2, 1) := by decide +kernel
theorem dX1_gapOf_161 : decode cX1_gapOf 161 = .ok (.istore_n 2, 1) := by decide +kernel
theorem dX1_gapOf_162 : decode cX1_gapOf 162 = .ok (.iinc 4 1, 3) := by decide +kernel
theorem dX1_gapOf_165 : decode cX1_gapOf 165 = .ok (.goto (-153), 3) := by decide +kernel
theorem dX1_gapOf_168 : decode cX1_gapOf 168 = .ok (.iinc 3 1, 3) := by decide +kernel
theorem dX1_gapOf_171 : decode cX1_gapOf 171 = .ok (.goto (-167), 3) := by decide +kernel
theorem dX1_gapOf_174 : decode cX1_gapOf 174 = .ok (.iload_n 2, 1) := by decide +kernel
theorem dX1_gapOf_175 : decode cX1_gapOf 175 = .ok (.ireturn, 1) := by decide +kernel
set_option maxRecDepth 20000 in
theorem ggX1_gap_X1_isChain : GoodIn wsX1_gap wsX1_isChain := goodIn_r _ [5, 6, 7, 8, 4, 9, 51, 52, 53, 54, 55, 56, 57, 58, 59, 60, 61, 62, 63, 64, 65, 66] (by decide +kernel) (by decide +kernel)
set_option maxRecDepth 20000 in
theorem gX1_gap_X1_isChain : GoodIn wsX1_gap (wsV RX1 107 RX1 yX1_isChain wsX1_isChain) := goodIn_app (goodIn_of _ (by decide +kernel)) ggX1_gap_X1_isChain
set_option maxRecDepth 20000 in
theorem ggX1_gap_X1_may : GoodIn wsX1_gap wsX1_may := goodIn_r _ [13, 14, 51, 52, 53, 54, 55, 56, 57, 58, 59, 60, 61, 62, 63, 64, 65, 66] (by decide +kernel) (by decide +kernel)
set_option maxRecDepth 20000 in
theorem gX1_gap_X1_may : GoodIn wsX1_gap (wsV RX1 82 RX1 yX1_may wsX1_may) := goodIn_app (goodIn_of _ (by decide +kernel)) ggX1_gap_X1_may
set_option maxRecDepth 20000 in
theorem ggX1_gap_X1_gapOf : GoodIn wsX1_gap wsX1_gapOf := goodIn_r _ [18, 19, 20, 21, 4, 22, 23, 24, 25, 26, 27, 28, 29, 30, 31, 32, 33, 34, 35, 36, 37, 38, 39, 40, 41, 42, 43, 44, 45, 46, 47, 48, 49, 50, 51, 52, 53, 54, 55, 56, 57, 58, 59, 60, 61, 62, 63, 64, 65, 66] (by decide +kernel) (by decide +kernel)
set_option maxRecDepth 20000 in
theorem gX1_gap_X1_gapOf : GoodIn wsX1_gap (wsV RX1 116 RX1 yX1_gapOf wsX1_gapOf) := goodIn_app (goodIn_of _ (by decide +kernel)) ggX1_gap_X1_gapOf
theorem dX1_gap_0 : decode cX1_gap 0 = .ok (.aload_n 0, 1) := by decide +kernel
theorem dX1_gap_1 : decode cX1_gap 1 = .ok (.aload_n 0, 1) := by decide +kernel
theorem dX1_gap_2 : decode cX1_gap 2 = .ok (.iload_n 1, 1) := by decide +kernel
theorem dX1_gap_3 : decode cX1_gap 3 = .ok (.invokevirtual 107, 3) := by decide +kernel
theorem dX1_gap_6 : decode cX1_gap 6 = .ok (.invokevirtual 82, 3) := by decide +kernel
theorem dX1_gap_9 : decode cX1_gap 9 = .ok (.ifCond .eq 11, 3) := by decide +kernel
theorem dX1_gap_12 : decode cX1_gap 12 = .ok (.aload_n 0, 1) := by decide +kernel
theorem dX1_gap_13 : decode cX1_gap 13 = .ok (.iload_n 1, 1) := by decide +kernel
theorem dX1_gap_14 : decode cX1_gap 14 = .ok (.invokevirtual 116, 3) := by decide +kernel
theorem dX1_gap_17 : decode cX1_gap 17 = .ok (.goto 4, 3) := by decide +kernel
theorem dX1_gap_20 : decode cX1_gap 20 = .ok (.iconst 0, 1) := by decide +kernel
theorem dX1_gap_21 : decode cX1_gap 21 = .ok (.ireturn, 1) := by decide +kernel
set_option maxRecDepth 20000 in
theorem ggX1_greyGap_X1_isChain : GoodIn wsX1_greyGap wsX1_isChain := goodIn_r _ [5, 6, 7, 8, 4, 9, 47, 48, 49, 50, 51, 52, 53, 54, 55, 56, 57, 58, 59, 60, 61, 62] (by decide +kernel) (by decide +kernel)
set_option maxRecDepth 20000 in
theorem gX1_greyGap_X1_isChain : GoodIn wsX1_greyGap (wsV RX1 107 RX1 yX1_isChain wsX1_isChain) := goodIn_app (goodIn_of _ (by decide +kernel)) ggX1_greyGap_X1_isChain
set_option maxRecDepth 20000 in
theorem ggX1_greyGap_X1_may : GoodIn wsX1_greyGap wsX1_may := goodIn_r _ [13, 14, 47, 48, 49, 50, 51, 52, 53, 54, 55, 56, 57, 58, 59, 60, 61, 62] (by decide +kernel) (by decide +kernel)
set_option maxRecDepth 20000 in
theorem gX1_greyGap_X1_may : GoodIn wsX1_greyGap (wsV RX1 82 RX1 yX1_may wsX1_may) := goodIn_app (goodIn_of _ (by decide +kernel)) ggX1_greyGap_X1_may
set_option maxRecDepth 20000 in
theorem ggX1_greyGap_X1_throughOf : GoodIn wsX1_greyGap wsX1_throughOf := goodIn_r _ [18, 19, 20, 21, 22, 23, 4, 24, 25, 26, 27, 28, 29, 30, 31, 32, 33, 34, 35, 36, 37, 38, 39, 40, 41, 42, 43, 47, 48, 49, 50, 51, 52, 53, 54, 55, 56, 57, 58, 59, 60, 61, 62] (by decide +kernel) (by decide +kernel)
set_option maxRecDepth 20000 in
theorem gX1_greyGap_X1_throughOf : GoodIn wsX1_greyGap (wsV RX1 110 RX1 yX1_throughOf wsX1_throughOf) := goodIn_app (goodIn_of _ (by decide +kernel)) ggX1_greyGap_X1_throughOf
set_option maxRecDepth 20000 in
theorem ggX1_greyGap_X1_apart : GoodIn wsX1_greyGap wsX1_apart := goodIn_r _ [46] (by decide +kernel) (by decide +kernel)
set_option maxRecDepth 20000 in
theorem gX1_greyGap_X1_apart : GoodIn wsX1_greyGap (va_wsS RX1 113 yX1_apart wsX1_apart) := goodIn_app (goodIn_of _ (by decide +kernel)) ggX1_greyGap_X1_apart
theorem dX1_greyGap_0 : decode cX1_greyGap 0 = .ok (.aload_n 0, 1) := by decide +kernel
theorem dX1_greyGap_1 : decode cX1_greyGap 1 = .ok (.aload_n 0, 1) := by decide +kernel
theorem dX1_greyGap_2 : decode cX1_greyGap 2 = .ok (.iload_n 1, 1) := by decide +kernel
theorem dX1_greyGap_3 : decode cX1_greyGap 3 = .ok (.invokevirtual 107, 3) := by decide +kernel
theorem dX1_greyGap_6 : decode cX1_greyGap 6 = .ok (.invokevirtual 82, 3) := by decide +kernel
theorem dX1_greyGap_9 : decode cX1_greyGap 9 = .ok (.ifCond .ne 5, 3) := by decide +kernel
theorem dX1_greyGap_12 : decode cX1_greyGap 12 = .ok (.iconst 0, 1) := by decide +kernel
theorem dX1_greyGap_13 : decode cX1_greyGap 13 = .ok (.ireturn, 1) := by decide +kernel
theorem dX1_greyGap_14 : decode cX1_greyGap 14 = .ok (.iconst 0, 1) := by decide +kernel
theorem dX1_greyGap_15 : decode cX1_greyGap 15 = .ok (.istore_n 2, 1) := by decide +kernel
theorem dX1_greyGap_16 : decode cX1_greyGap 16 = .ok (.iconst 0, 1) := by decide +kernel
theorem dX1_greyGap_17 : decode cX1_greyGap 17 = .ok (.istore_n 3, 1) := by decide +kernel
theorem dX1_greyGap_18 : decode cX1_greyGap 18 = .ok (.iload_n 3, 1) := by decide +kernel
theorem dX1_greyGap_19 : decode cX1_greyGap 19 = .ok (.sipush 256, 3) := by decide +kernel
theorem dX1_greyGap_22 : decode cX1_greyGap 22 = .ok (.if_icmp .ge 105, 3) := by decide +kernel
theorem dX1_greyGap_25 : decode cX1_greyGap 25 = .ok (.aload_n 0, 1) := by decide +kernel
theorem dX1_greyGap_26 : decode cX1_greyGap 26 = .ok (.iload_n 1, 1) := by decide +kernel
theorem dX1_greyGap_27 : decode cX1_greyGap 27 = .ok (.iconst 0, 1) := by decide +kernel
theorem dX1_greyGap_28 : decode cX1_greyGap 28 = .ok (.iload_n 3, 1) := by decide +kernel
theorem dX1_greyGap_29 : decode cX1_greyGap 29 = .ok (.invokevirtual 110, 3) := by decide +kernel
theorem dX1_greyGap_32 : decode cX1_greyGap 32 = .ok (.istore 4, 2) := by decide +kernel
theorem dX1_greyGap_34 : decode cX1_greyGap 34 = .ok (.aload_n 0, 1) := by decide +kernel
theorem dX1_greyGap_35 : decode cX1_greyGap 35 = .ok (.iload_n 1, 1) := by decide +kernel
theorem dX1_greyGap_36 : decode cX1_greyGap 36 = .ok (.iconst 1, 1) := by decide +kernel
theorem dX1_greyGap_37 : decode cX1_greyGap 37 = .ok (.iload_n 3, 1) := by decide +kernel
theorem dX1_greyGap_38 : decode cX1_greyGap 38 = .ok (.invokevirtual 110, 3) := by decide +kernel
theorem dX1_greyGap_41 : decode cX1_greyGap 41 = .ok (.istore 5, 2) := by decide +kernel
theorem dX1_greyGap_43 : decode cX1_greyGap 43 = .ok (.aload_n 0, 1) := by decide +kernel
theorem dX1_greyGap_44 : decode cX1_greyGap 44 = .ok (.iload_n 1, 1) := by decide +kernel
theorem dX1_greyGap_45 : decode cX1_greyGap 45 = .ok (.iconst 2, 1) := by decide +kernel
theorem dX1_greyGap_46 : decode cX1_greyGap 46 = .ok (.iload_n 3, 1) := by decide +kernel
theorem dX1_greyGap_47 : decode cX1_greyGap 47 = .ok (.invokevirtual 110, 3) := by decide +kernel
theorem dX1_greyGap_50 : decode cX1_greyGap 50 = .ok (.istore 6, 2) := by decide +kernel
theorem dX1_greyGap_52 : decode cX1_greyGap 52 = .ok (.iload 4, 2) := by decide +kernel
theorem dX1_greyGap_54 : decode cX1_greyGap 54 = .ok (.iload 5, 2) := by decide +kernel
theorem dX1_greyGap_56 : decode cX1_greyGap 56 = .ok (.invokestatic 113, 3) := by decide +kernel
theorem dX1_greyGap_59 : decode cX1_greyGap 59 = .ok (.iload_n 2, 1) := by decide +kernel
theorem dX1_greyGap_60 : decode cX1_greyGap 60 = .ok (.if_icmp .le 13, 3) := by decide +kernel
theorem dX1_greyGap_63 : decode cX1_greyGap 63 = .ok (.iload 4, 2) := by decide +kernel
theorem dX1_greyGap_65 : decode cX1_greyGap 65 = .ok (.iload 5, 2) := by decide +kernel
theorem dX1_greyGap_67 : decode cX1_greyGap 67 = .ok (.invokestatic 113, 3) := by decide +kernel
theorem dX1_greyGap_70 : decode cX1_greyGap 70 = .ok (.goto 4, 3) := by decide +kernel
theorem dX1_greyGap_73 : decode cX1_greyGap 73 = .ok (.iload_n 2, 1) := by decide +kernel
theorem dX1_greyGap_74 : decode cX1_greyGap 74 = .ok (.istore_n 2, 1) := by decide +kernel
theorem dX1_greyGap_75 : decode cX1_greyGap 75 = .ok (.iload 4, 2) := by decide +kernel
theorem dX1_greyGap_77 : decode cX1_greyGap 77 = .ok (.iload 6, 2) := by decide +kernel
theorem dX1_greyGap_79 : decode cX1_greyGap 79 = .ok (.invokestatic 113, 3) := by decide +kernel
theorem dX1_greyGap_82 : decode cX1_greyGap 82 = .ok (.iload_n 2, 1) := by decide +kernel
theorem dX1_greyGap_83 : decode cX1_greyGap 83 = .ok (.if_icmp .le 13, 3) := by decide +kernel
theorem dX1_greyGap_86 : decode cX1_greyGap 86 = .ok (.iload 4, 2) := by decide +kernel
theorem dX1_greyGap_88 : decode cX1_greyGap 88 = .ok (.iload 6, 2) := by decide +kernel
theorem dX1_greyGap_90 : decode cX1_greyGap 90 = .ok (.invokestatic 113, 3) := by decide +kernel
theorem dX1_greyGap_93 : decode cX1_greyGap 93 = .ok (.goto 4, 3) := by decide +kernel
theorem dX1_greyGap_96 : decode cX1_greyGap 96 = .ok (.iload_n 2, 1) := by decide +kernel
theorem dX1_greyGap_97 : decode cX1_greyGap 97 = .ok (.istore_n 2, 1) := by decide +kernel
theorem dX1_greyGap_98 : decode cX1_greyGap 98 = .ok (.iload 5, 2) := by decide +kernel
theorem dX1_greyGap_100 : decode cX1_greyGap 100 = .ok (.iload 6, 2) := by decide +kernel
theorem dX1_greyGap_102 : decode cX1_greyGap 102 = .ok (.invokestatic 113, 3) := by decide +kernel
theorem dX1_greyGap_105 : decode cX1_greyGap 105 = .ok (.iload_n 2, 1) := by decide +kernel
theorem dX1_greyGap_106 : decode cX1_greyGap 106 = .ok (.if_icmp .le 13, 3) := by decide +kernel
theorem dX1_greyGap_109 : decode cX1_greyGap 109 = .ok (.iload 5, 2) := by decide +kernel
theorem dX1_greyGap_111 : decode cX1_greyGap 111 = .ok (.iload 6, 2) := by decide +kernel
theorem dX1_greyGap_113 : decode cX1_greyGap 113 = .ok (.invokestatic 113, 3) := by decide +kernel
theorem dX1_greyGap_116 : decode cX1_greyGap 116 = .ok (.goto 4, 3) := by decide +kernel
theorem dX1_greyGap_119 : decode cX1_greyGap 119 = .ok (.iload_n 2, 1) := by decide +kernel
theorem dX1_greyGap_120 : decode cX1_greyGap 120 = .ok (.istore_n 2, 1) := by decide +kernel
theorem dX1_greyGap_121 : decode cX1_greyGap 121 = .ok (.iinc 3 1, 3) := by decide +kernel
theorem dX1_greyGap_124 : decode cX1_greyGap 124 = .ok (.goto (-106), 3) := by decide +kernel
theorem dX1_greyGap_127 : decode cX1_greyGap 127 = .ok (.iload_n 2, 1) := by decide +kernel
theorem dX1_greyGap_128 : decode cX1_greyGap 128 = .ok (.ireturn, 1) := by decide +kernel
set_option maxRecDepth 20000 in
theorem ggX1_join_X1_isChain : GoodIn wsX1_join wsX1_isChain := goodIn_r _ [7, 8, 9, 10, 6, 11, 56, 57, 58, 59, 60, 61, 62, 63, 64, 65, 66, 67, 68, 69, 70, 71] (by decide +kernel) (by decide +kernel)
set_option maxRecDepth 20000 in
theorem gX1_join_X1_isChain : GoodIn wsX1_join (wsV RX1 107 RX1 yX1_isChain wsX1_isChain) := goodIn_app (goodIn_of _ (by decide +kernel)) ggX1_join_X1_isChain
set_option maxRecDepth 20000 in
theorem ggX1_join_X1_gapOf : GoodIn wsX1_join wsX1_gapOf := goodIn_r _ [15, 16, 17, 18, 6, 19, 20, 21, 22, 23, 24, 25, 26, 27, 28, 29, 30, 31, 32, 33, 34, 35, 36, 37, 38, 39, 40, 41, 42, 43, 44, 45, 46, 47, 56, 57, 58, 59, 60, 61, 62, 63, 64, 65, 66, 67, 68, 69, 70, 71] (by decide +kernel) (by decide +kernel)
set_option maxRecDepth 20000 in
theorem gX1_join_X1_gapOf : GoodIn wsX1_join (wsV RX1 116 RX1 yX1_gapOf wsX1_gapOf) := goodIn_app (goodIn_of _ (by decide +kernel)) ggX1_join_X1_gapOf
set_option maxRecDepth 20000 in
theorem ggX1_join_X1_isByte : GoodIn wsX1_join wsX1_isByte := goodIn_r _ [50, 9, 10, 6, 11] (by decide +kernel) (by decide +kernel)
set_option maxRecDepth 20000 in
theorem gX1_join_X1_isByte : GoodIn wsX1_join (va_wsS RX1 93 yX1_isByte wsX1_isByte) := goodIn_app (goodIn_of _ (by decide +kernel)) ggX1_join_X1_isByte
set_option maxRecDepth 20000 in
theorem ggX1_join_X1_mayAll : GoodIn wsX1_join wsX1_mayAll := goodIn_r _ [54, 55, 56, 57, 58, 59, 60, 61, 62, 63, 64, 65, 66, 67, 68, 69, 70, 71] (by decide +kernel) (by decide +kernel)
set_option maxRecDepth 20000 in
theorem gX1_join_X1_mayAll : GoodIn wsX1_join (wsV RX1 99 RX1 yX1_mayAll wsX1_mayAll) := goodIn_app (goodIn_of _ (by decide +kernel)) ggX1_join_X1_mayAll
set_option maxRecDepth 20000 in
theorem ggX1_join_X1_placeAt : GoodIn wsX1_join wsX1_placeAt := goodIn_r _ [41] (by decide +kernel) (by decide +kernel)
set_option maxRecDepth 20000 in
theorem gX1_join_X1_placeAt : GoodIn wsX1_join (va_wsS RX1 64 yX1_placeAt wsX1_placeAt) := goodIn_app (goodIn_of _ (by decide +kernel)) ggX1_join_X1_placeAt
set_option maxRecDepth 20000 in
theorem ggX1_join_X1_throughOf : GoodIn wsX1_join wsX1_throughOf := goodIn_r _ [19, 20, 21, 22, 23, 24, 6, 25, 26, 27, 28, 29, 30, 31, 32, 33, 34, 35, 36, 37, 38, 39, 40, 41, 42, 43, 44, 56, 57, 58, 59, 60, 61, 62, 63, 64, 65, 66, 67, 68, 69, 70, 71] (by decide +kernel) (by decide +kernel)
set_option maxRecDepth 20000 in
theorem gX1_join_X1_throughOf : GoodIn wsX1_join (wsV RX1 110 RX1 yX1_throughOf wsX1_throughOf) := goodIn_app (goodIn_of _ (by decide +kernel)) ggX1_join_X1_throughOf
theorem dX1_join_0 : decode cX1_join 0 = .ok (.aload_n 0, 1) := by decide +kernel
theorem dX1_join_1 : decode cX1_join 1 = .ok (.iload_n 1, 1) := by decide +kernel
theorem dX1_join_2 : decode cX1_join 2 = .ok (.invokevirtual 107, 3) := by decide +kernel
theorem dX1_join_5 : decode cX1_join 5 = .ok (.istore_n 3, 1) := by decide +kernel
theorem dX1_join_6 : decode cX1_join 6 = .ok (.iload_n 3, 1) := by decide +kernel
theorem dX1_join_7 : decode cX1_join 7 = .ok (.ifCond .eq 11, 3) := by decide +kernel
theorem dX1_join_10 : decode cX1_join 10 = .ok (.aload_n 0, 1) := by decide +kernel
theorem dX1_join_11 : decode cX1_join 11 = .ok (.iload_n 1, 1) := by decide +kernel
theorem dX1_join_12 : decode cX1_join 12 = .ok (.invokevirtual 116, 3) := by decide +kernel
theorem dX1_join_15 : decode cX1_join 15 = .ok (.goto 4, 3) := by decide +kernel
theorem dX1_join_18 : decode cX1_join 18 = .ok (.iconst 0, 1) := by decide +kernel
theorem dX1_join_19 : decode cX1_join 19 = .ok (.istore 4, 2) := by decide +kernel
theorem dX1_join_21 : decode cX1_join 21 = .ok (.aload_n 0, 1) := by decide +kernel
theorem dX1_join_22 : decode cX1_join 22 = .ok (.iload_n 3, 1) := by decide +kernel
theorem dX1_join_23 : decode cX1_join 23 = .ok (.iload_n 2, 1) := by decide +kernel
theorem dX1_join_24 : decode cX1_join 24 = .ok (.invokestatic 93, 3) := by decide +kernel
theorem dX1_join_27 : decode cX1_join 27 = .ok (.iload 4, 2) := by decide +kernel
theorem dX1_join_29 : decode cX1_join 29 = .ok (.iload_n 2, 1) := by decide +kernel
theorem dX1_join_30 : decode cX1_join 30 = .ok (.if_icmp .gt 7, 3) := by decide +kernel
theorem dX1_join_33 : decode cX1_join 33 = .ok (.iconst 1, 1) := by decide +kernel
theorem dX1_join_34 : decode cX1_join 34 = .ok (.goto 4, 3) := by decide +kernel
theorem dX1_join_37 : decode cX1_join 37 = .ok (.iconst 0, 1) := by decide +kernel
theorem dX1_join_38 : decode cX1_join 38 = .ok (.invokevirtual 99, 3) := by decide +kernel
theorem dX1_join_41 : decode cX1_join 41 = .ok (.ifCond .ne 5, 3) := by decide +kernel
theorem dX1_join_44 : decode cX1_join 44 = .ok (.iconst 0, 1) := by decide +kernel
theorem dX1_join_45 : decode cX1_join 45 = .ok (.ireturn, 1) := by decide +kernel
theorem dX1_join_46 : decode cX1_join 46 = .ok (.iconst 0, 1) := by decide +kernel
theorem dX1_join_47 : decode cX1_join 47 = .ok (.istore 5, 2) := by decide +kernel
theorem dX1_join_49 : decode cX1_join 49 = .ok (.iload 5, 2) := by decide +kernel
theorem dX1_join_51 : decode cX1_join 51 = .ok (.iconst 3, 1) := by decide +kernel
theorem dX1_join_52 : decode cX1_join 52 = .ok (.if_icmp .ge 53, 3) := by decide +kernel
theorem dX1_join_55 : decode cX1_join 55 = .ok (.iconst 0, 1) := by decide +kernel
theorem dX1_join_56 : decode cX1_join 56 = .ok (.istore 6, 2) := by decide +kernel
theorem dX1_join_58 : decode cX1_join 58 = .ok (.iload 6, 2) := by decide +kernel
theorem dX1_join_60 : decode cX1_join 60 = .ok (.iconst 5, 1) := by decide +kernel
theorem dX1_join_61 : decode cX1_join 61 = .ok (.if_icmp .ge 38, 3) := by decide +kernel
theorem dX1_join_64 : decode cX1_join 64 = .ok (.aload_n 0, 1) := by decide +kernel
theorem dX1_join_65 : decode cX1_join 65 = .ok (.getfield 35, 3) := by decide +kernel
theorem dX1_join_68 : decode cX1_join 68 = .ok (.bipush 15, 2) := by decide +kernel
theorem dX1_join_70 : decode cX1_join 70 = .ok (.iload_n 1, 1) := by decide +kernel
theorem dX1_join_71 : decode cX1_join 71 = .ok (.imul, 1) := by decide +kernel
theorem dX1_join_72 : decode cX1_join 72 = .ok (.iconst 5, 1) := by decide +kernel
theorem dX1_join_73 : decode cX1_join 73 = .ok (.iload 5, 2) := by decide +kernel
theorem dX1_join_75 : decode cX1_join 75 = .ok (.imul, 1) := by decide +kernel
theorem dX1_join_76 : decode cX1_join 76 = .ok (.iadd, 1) := by decide +kernel
theorem dX1_join_77 : decode cX1_join 77 = .ok (.iload 6, 2) := by decide +kernel
theorem dX1_join_79 : decode cX1_join 79 = .ok (.iadd, 1) := by decide +kernel
theorem dX1_join_80 : decode cX1_join 80 = .ok (.aload_n 0, 1) := by decide +kernel
theorem dX1_join_81 : decode cX1_join 81 = .ok (.iload_n 1, 1) := by decide +kernel
theorem dX1_join_82 : decode cX1_join 82 = .ok (.iload 5, 2) := by decide +kernel
theorem dX1_join_84 : decode cX1_join 84 = .ok (.iload 6, 2) := by decide +kernel
theorem dX1_join_86 : decode cX1_join 86 = .ok (.invokestatic 64, 3) := by decide +kernel
theorem dX1_join_89 : decode cX1_join 89 = .ok (.invokevirtual 110, 3) := by decide +kernel
theorem dX1_join_92 : decode cX1_join 92 = .ok (.iastore, 1) := by decide +kernel
theorem dX1_join_93 : decode cX1_join 93 = .ok (.iinc 6 1, 3) := by decide +kernel
theorem dX1_join_96 : decode cX1_join 96 = .ok (.goto (-38), 3) := by decide +kernel
theorem dX1_join_99 : decode cX1_join 99 = .ok (.iinc 5 1, 3) := by decide +kernel
theorem dX1_join_102 : decode cX1_join 102 = .ok (.goto (-53), 3) := by decide +kernel
theorem dX1_join_105 : decode cX1_join 105 = .ok (.aload_n 0, 1) := by decide +kernel
theorem dX1_join_106 : decode cX1_join 106 = .ok (.getfield 28, 3) := by decide +kernel
theorem dX1_join_109 : decode cX1_join 109 = .ok (.iload_n 1, 1) := by decide +kernel
theorem dX1_join_110 : decode cX1_join 110 = .ok (.iconst 1, 1) := by decide +kernel
theorem dX1_join_111 : decode cX1_join 111 = .ok (.bastore, 1) := by decide +kernel
theorem dX1_join_112 : decode cX1_join 112 = .ok (.iload 4, 2) := by decide +kernel
theorem dX1_join_114 : decode cX1_join 114 = .ok (.ireturn, 1) := by decide +kernel
set_option maxRecDepth 20000 in
theorem ggX1_joined_X1_isChain : GoodIn wsX1_joined wsX1_isChain := goodIn_r _ [8, 9, 10, 11, 7, 12, 34, 35, 36, 37, 38, 39, 40, 41, 42, 43, 44, 45, 46, 47, 48, 49] (by decide +kernel) (by decide +kernel)
set_option maxRecDepth 20000 in
theorem gX1_joined_X1_isChain : GoodIn wsX1_joined (wsV RX1 107 RX1 yX1_isChain wsX1_isChain) := goodIn_app (goodIn_of _ (by decide +kernel)) ggX1_joined_X1_isChain
set_option maxRecDepth 20000 in
theorem ggX1_joined_X1_isThird : GoodIn wsX1_joined wsX1_isThird := goodIn_r _ [15, 10, 11, 7, 12] (by decide +kernel) (by decide +kernel)
set_option maxRecDepth 20000 in
theorem gX1_joined_X1_isThird : GoodIn wsX1_joined (va_wsS RX1 90 yX1_isThird wsX1_isThird) := goodIn_app (goodIn_of _ (by decide +kernel)) ggX1_joined_X1_isThird
set_option maxRecDepth 20000 in
theorem ggX1_joined_X1_isByte : GoodIn wsX1_joined wsX1_isByte := goodIn_r _ [18, 10, 11, 7, 12] (by decide +kernel) (by decide +kernel)
set_option maxRecDepth 20000 in
theorem gX1_joined_X1_isByte : GoodIn wsX1_joined (va_wsS RX1 93 yX1_isByte wsX1_isByte) := goodIn_app (goodIn_of _ (by decide +kernel)) ggX1_joined_X1_isByte
set_option maxRecDepth 20000 in
theorem ggX1_joined_X1_mayAll : GoodIn wsX1_joined wsX1_mayAll := goodIn_r _ [22, 23, 34, 35, 36, 37, 38, 39, 40, 41, 42, 43, 44, 45, 46, 47, 48, 49] (by decide +kernel) (by decide +kernel)
set_option maxRecDepth 20000 in
theorem gX1_joined_X1_mayAll : GoodIn wsX1_joined (wsV RX1 99 RX1 yX1_mayAll wsX1_mayAll) := goodIn_app (goodIn_of _ (by decide +kernel)) ggX1_joined_X1_mayAll
set_option maxRecDepth 20000 in
theorem ggX1_joined_X1_between : GoodIn wsX1_joined wsX1_between := goodIn_r _ [27, 2, 28, 29, 7, 30, 31, 32, 33, 34, 35, 36, 37, 38, 39, 40, 41, 42, 43, 44, 45, 46, 47, 48, 49] (by decide +kernel) (by decide +kernel)
set_option maxRecDepth 20000 in
theorem gX1_joined_X1_between : GoodIn wsX1_joined (wsV RX1 72 RX1 yX1_between wsX1_between) := goodIn_app (goodIn_of _ (by decide +kernel)) ggX1_joined_X1_between
theorem dX1_joined_0 : decode cX1_joined 0 = .ok (.aload_n 0, 1) := by decide +kernel
theorem dX1_joined_1 : decode cX1_joined 1 = .ok (.iload_n 1, 1) := by decide +kernel
theorem dX1_joined_2 : decode cX1_joined 2 = .ok (.invokevirtual 107, 3) := by decide +kernel
theorem dX1_joined_5 : decode cX1_joined 5 = .ok (.ifCond .eq 14, 3) := by decide +kernel
theorem dX1_joined_8 : decode cX1_joined 8 = .ok (.iload_n 2, 1) := by decide +kernel
theorem dX1_joined_9 : decode cX1_joined 9 = .ok (.invokestatic 90, 3) := by decide +kernel
theorem dX1_joined_12 : decode cX1_joined 12 = .ok (.ifCond .eq 7, 3) := by decide +kernel
theorem dX1_joined_15 : decode cX1_joined 15 = .ok (.iconst 1, 1) := by decide +kernel
theorem dX1_joined_16 : decode cX1_joined 16 = .ok (.goto 4, 3) := by decide +kernel
theorem dX1_joined_19 : decode cX1_joined 19 = .ok (.iconst 0, 1) := by decide +kernel
theorem dX1_joined_20 : decode cX1_joined 20 = .ok (.istore 4, 2) := by decide +kernel
theorem dX1_joined_22 : decode cX1_joined 22 = .ok (.aload_n 0, 1) := by decide +kernel
theorem dX1_joined_23 : decode cX1_joined 23 = .ok (.iload 4, 2) := by decide +kernel
theorem dX1_joined_25 : decode cX1_joined 25 = .ok (.iload_n 3, 1) := by decide +kernel
theorem dX1_joined_26 : decode cX1_joined 26 = .ok (.invokestatic 93, 3) := by decide +kernel
theorem dX1_joined_29 : decode cX1_joined 29 = .ok (.iload 4, 2) := by decide +kernel
theorem dX1_joined_31 : decode cX1_joined 31 = .ok (.ifCond .eq 16, 3) := by decide +kernel
theorem dX1_joined_34 : decode cX1_joined 34 = .ok (.aload_n 0, 1) := by decide +kernel
theorem dX1_joined_35 : decode cX1_joined 35 = .ok (.getfield 28, 3) := by decide +kernel
theorem dX1_joined_38 : decode cX1_joined 38 = .ok (.iload_n 1, 1) := by decide +kernel
theorem dX1_joined_39 : decode cX1_joined 39 = .ok (.baload, 1) := by decide +kernel
theorem dX1_joined_40 : decode cX1_joined 40 = .ok (.ifCond .eq 7, 3) := by decide +kernel
theorem dX1_joined_43 : decode cX1_joined 43 = .ok (.iconst 1, 1) := by decide +kernel
theorem dX1_joined_44 : decode cX1_joined 44 = .ok (.goto 4, 3) := by decide +kernel
theorem dX1_joined_47 : decode cX1_joined 47 = .ok (.iconst 0, 1) := by decide +kernel
theorem dX1_joined_48 : decode cX1_joined 48 = .ok (.invokevirtual 99, 3) := by decide +kernel
theorem dX1_joined_51 : decode cX1_joined 51 = .ok (.ifCond .ne 5, 3) := by decide +kernel
theorem dX1_joined_54 : decode cX1_joined 54 = .ok (.iconst 0, 1) := by decide +kernel
theorem dX1_joined_55 : decode cX1_joined 55 = .ok (.ireturn, 1) := by decide +kernel
theorem dX1_joined_56 : decode cX1_joined 56 = .ok (.iconst 0, 1) := by decide +kernel
theorem dX1_joined_57 : decode cX1_joined 57 = .ok (.istore 5, 2) := by decide +kernel
theorem dX1_joined_59 : decode cX1_joined 59 = .ok (.iload 5, 2) := by decide +kernel
theorem dX1_joined_61 : decode cX1_joined 61 = .ok (.iconst 5, 1) := by decide +kernel
theorem dX1_joined_62 : decode cX1_joined 62 = .ok (.if_icmp .ge 32, 3) := by decide +kernel
theorem dX1_joined_65 : decode cX1_joined 65 = .ok (.aload_n 0, 1) := by decide +kernel
theorem dX1_joined_66 : decode cX1_joined 66 = .ok (.getfield 47, 3) := by decide +kernel
theorem dX1_joined_69 : decode cX1_joined 69 = .ok (.iload 5, 2) := by decide +kernel
theorem dX1_joined_71 : decode cX1_joined 71 = .ok (.aload_n 0, 1) := by decide +kernel
theorem dX1_joined_72 : decode cX1_joined 72 = .ok (.getfield 35, 3) := by decide +kernel
theorem dX1_joined_75 : decode cX1_joined 75 = .ok (.bipush 15, 2) := by decide +kernel
theorem dX1_joined_77 : decode cX1_joined 77 = .ok (.iload_n 1, 1) := by decide +kernel
theorem dX1_joined_78 : decode cX1_joined 78 = .ok (.imul, 1) := by decide +kernel
theorem dX1_joined_79 : decode cX1_joined 79 = .ok (.iconst 5, 1) := by decide +kernel
theorem dX1_joined_80 : decode cX1_joined 80 = .ok (.iload_n 2, 1) := by decide +kernel
theorem dX1_joined_81 : decode cX1_joined 81 = .ok (.imul, 1) := by decide +kernel
end
section
theorem dX1_joined_82 : decode cX1_joined 82 = .ok (.iadd, 1) := by decide +kernel
theorem dX1_joined_83 : decode cX1_joined 83 = .ok (.iload 5, 2) := by decide +kernel
theorem dX1_joined_85 : decode cX1_joined 85 = .ok (.iadd, 1) := by decide +kernel
theorem dX1_joined_86 : decode cX1_joined 86 = .ok (.iaload, 1) := by decide +kernel
theorem dX1_joined_87 : decode cX1_joined 87 = .ok (.iastore, 1) := by decide +kernel
theorem dX1_joined_88 : decode cX1_joined 88 = .ok (.iinc 5 1, 3) := by decide +kernel
theorem dX1_joined_91 : decode cX1_joined 91 = .ok (.goto (-32), 3) := by decide +kernel
theorem dX1_joined_94 : decode cX1_joined 94 = .ok (.aload_n 0, 1) := by decide +kernel
theorem dX1_joined_95 : decode cX1_joined 95 = .ok (.iload_n 3, 1) := by decide +kernel
theorem dX1_joined_96 : decode cX1_joined 96 = .ok (.invokevirtual 72, 3) := by decide +kernel
theorem dX1_joined_99 : decode cX1_joined 99 = .ok (.ireturn, 1) := by decide +kernel
set_option maxRecDepth 20000 in
theorem ggX1_stale_X1_placeAt : GoodIn wsX1_stale wsX1_placeAt := goodIn_r _ [8] (by decide +kernel) (by decide +kernel)
set_option maxRecDepth 20000 in
theorem gX1_stale_X1_placeAt : GoodIn wsX1_stale (va_wsS RX1 64 yX1_placeAt wsX1_placeAt) := goodIn_app (goodIn_of _ (by decide +kernel)) ggX1_stale_X1_placeAt
set_option maxRecDepth 20000 in
theorem ggX1_stale_X1_throughOf : GoodIn wsX1_stale wsX1_throughOf := goodIn_r _ [12, 13, 14, 15, 16, 17, 7, 18, 19, 20, 21, 22, 23, 24, 25, 26, 27, 28, 29, 30, 31, 5, 6, 8, 32, 33, 34, 35, 36, 37, 38, 39, 40, 41, 42, 43, 44, 45, 46, 47, 48, 49, 50] (by decide +kernel) (by decide +kernel)
set_option maxRecDepth 20000 in
theorem gX1_stale_X1_throughOf : GoodIn wsX1_stale (wsV RX1 110 RX1 yX1_throughOf wsX1_throughOf) := goodIn_app (goodIn_of _ (by decide +kernel)) ggX1_stale_X1_throughOf
theorem dX1_stale_0 : decode cX1_stale 0 = .ok (.aload_n 0, 1) := by decide +kernel
theorem dX1_stale_1 : decode cX1_stale 1 = .ok (.iconst 0, 1) := by decide +kernel
theorem dX1_stale_2 : decode cX1_stale 2 = .ok (.putfield 50, 3) := by decide +kernel
theorem dX1_stale_5 : decode cX1_stale 5 = .ok (.iconst 0, 1) := by decide +kernel
theorem dX1_stale_6 : decode cX1_stale 6 = .ok (.istore_n 1, 1) := by decide +kernel
theorem dX1_stale_7 : decode cX1_stale 7 = .ok (.iconst 0, 1) := by decide +kernel
theorem dX1_stale_8 : decode cX1_stale 8 = .ok (.istore_n 2, 1) := by decide +kernel
theorem dX1_stale_9 : decode cX1_stale 9 = .ok (.iload_n 2, 1) := by decide +kernel
theorem dX1_stale_10 : decode cX1_stale 10 = .ok (.aload_n 0, 1) := by decide +kernel
theorem dX1_stale_11 : decode cX1_stale 11 = .ok (.getfield 61, 3) := by decide +kernel
theorem dX1_stale_14 : decode cX1_stale 14 = .ok (.if_icmp .ge 91, 3) := by decide +kernel
theorem dX1_stale_17 : decode cX1_stale 17 = .ok (.iconst 0, 1) := by decide +kernel
theorem dX1_stale_18 : decode cX1_stale 18 = .ok (.istore_n 3, 1) := by decide +kernel
theorem dX1_stale_19 : decode cX1_stale 19 = .ok (.iconst 0, 1) := by decide +kernel
theorem dX1_stale_20 : decode cX1_stale 20 = .ok (.istore 4, 2) := by decide +kernel
theorem dX1_stale_22 : decode cX1_stale 22 = .ok (.iload 4, 2) := by decide +kernel
theorem dX1_stale_24 : decode cX1_stale 24 = .ok (.bipush 15, 2) := by decide +kernel
theorem dX1_stale_26 : decode cX1_stale 26 = .ok (.if_icmp .ge 50, 3) := by decide +kernel
theorem dX1_stale_29 : decode cX1_stale 29 = .ok (.iload_n 3, 1) := by decide +kernel
theorem dX1_stale_30 : decode cX1_stale 30 = .ok (.ifCond .ne 34, 3) := by decide +kernel
theorem dX1_stale_33 : decode cX1_stale 33 = .ok (.aload_n 0, 1) := by decide +kernel
theorem dX1_stale_34 : decode cX1_stale 34 = .ok (.getfield 35, 3) := by decide +kernel
theorem dX1_stale_37 : decode cX1_stale 37 = .ok (.bipush 15, 2) := by decide +kernel
theorem dX1_stale_39 : decode cX1_stale 39 = .ok (.iload_n 2, 1) := by decide +kernel
theorem dX1_stale_40 : decode cX1_stale 40 = .ok (.imul, 1) := by decide +kernel
theorem dX1_stale_41 : decode cX1_stale 41 = .ok (.iload 4, 2) := by decide +kernel
theorem dX1_stale_43 : decode cX1_stale 43 = .ok (.iadd, 1) := by decide +kernel
theorem dX1_stale_44 : decode cX1_stale 44 = .ok (.iaload, 1) := by decide +kernel
theorem dX1_stale_45 : decode cX1_stale 45 = .ok (.aload_n 0, 1) := by decide +kernel
theorem dX1_stale_46 : decode cX1_stale 46 = .ok (.iload_n 2, 1) := by decide +kernel
theorem dX1_stale_47 : decode cX1_stale 47 = .ok (.iload 4, 2) := by decide +kernel
theorem dX1_stale_49 : decode cX1_stale 49 = .ok (.iconst 5, 1) := by decide +kernel
theorem dX1_stale_50 : decode cX1_stale 50 = .ok (.idiv, 1) := by decide +kernel
theorem dX1_stale_51 : decode cX1_stale 51 = .ok (.iload 4, 2) := by decide +kernel
theorem dX1_stale_53 : decode cX1_stale 53 = .ok (.iconst 5, 1) := by decide +kernel
theorem dX1_stale_54 : decode cX1_stale 54 = .ok (.irem, 1) := by decide +kernel
theorem dX1_stale_55 : decode cX1_stale 55 = .ok (.invokestatic 64, 3) := by decide +kernel
theorem dX1_stale_58 : decode cX1_stale 58 = .ok (.invokevirtual 110, 3) := by decide +kernel
theorem dX1_stale_61 : decode cX1_stale 61 = .ok (.if_icmp .eq 7, 3) := by decide +kernel
theorem dX1_stale_64 : decode cX1_stale 64 = .ok (.iconst 1, 1) := by decide +kernel
theorem dX1_stale_65 : decode cX1_stale 65 = .ok (.goto 4, 3) := by decide +kernel
theorem dX1_stale_68 : decode cX1_stale 68 = .ok (.iconst 0, 1) := by decide +kernel
theorem dX1_stale_69 : decode cX1_stale 69 = .ok (.istore_n 3, 1) := by decide +kernel
theorem dX1_stale_70 : decode cX1_stale 70 = .ok (.iinc 4 1, 3) := by decide +kernel
theorem dX1_stale_73 : decode cX1_stale 73 = .ok (.goto (-51), 3) := by decide +kernel
theorem dX1_stale_76 : decode cX1_stale 76 = .ok (.iload_n 1, 1) := by decide +kernel
theorem dX1_stale_77 : decode cX1_stale 77 = .ok (.aload_n 0, 1) := by decide +kernel
theorem dX1_stale_78 : decode cX1_stale 78 = .ok (.getfield 28, 3) := by decide +kernel
theorem dX1_stale_81 : decode cX1_stale 81 = .ok (.iload_n 2, 1) := by decide +kernel
theorem dX1_stale_82 : decode cX1_stale 82 = .ok (.baload, 1) := by decide +kernel
theorem dX1_stale_83 : decode cX1_stale 83 = .ok (.ifCond .eq 13, 3) := by decide +kernel
theorem dX1_stale_86 : decode cX1_stale 86 = .ok (.iload_n 3, 1) := by decide +kernel
theorem dX1_stale_87 : decode cX1_stale 87 = .ok (.ifCond .eq 9, 3) := by decide +kernel
theorem dX1_stale_90 : decode cX1_stale 90 = .ok (.iconst 1, 1) := by decide +kernel
theorem dX1_stale_91 : decode cX1_stale 91 = .ok (.iload_n 2, 1) := by decide +kernel
theorem dX1_stale_92 : decode cX1_stale 92 = .ok (.ishl, 1) := by decide +kernel
theorem dX1_stale_93 : decode cX1_stale 93 = .ok (.goto 4, 3) := by decide +kernel
theorem dX1_stale_96 : decode cX1_stale 96 = .ok (.iconst 0, 1) := by decide +kernel
theorem dX1_stale_97 : decode cX1_stale 97 = .ok (.ior, 1) := by decide +kernel
theorem dX1_stale_98 : decode cX1_stale 98 = .ok (.istore_n 1, 1) := by decide +kernel
theorem dX1_stale_99 : decode cX1_stale 99 = .ok (.iinc 2 1, 3) := by decide +kernel
theorem dX1_stale_102 : decode cX1_stale 102 = .ok (.goto (-93), 3) := by decide +kernel
theorem dX1_stale_105 : decode cX1_stale 105 = .ok (.iload_n 1, 1) := by decide +kernel
theorem dX1_stale_106 : decode cX1_stale 106 = .ok (.ireturn, 1) := by decide +kernel
set_option maxRecDepth 20000 in
theorem ggX1_sign_X1_isChain : GoodIn wsX1_sign wsX1_isChain := goodIn_r _ [6, 7, 8, 9, 5, 10, 16, 17, 18, 19, 20, 21, 22, 23, 24, 25, 26, 27, 28, 29, 30, 31] (by decide +kernel) (by decide +kernel)
set_option maxRecDepth 20000 in
theorem gX1_sign_X1_isChain : GoodIn wsX1_sign (wsV RX1 107 RX1 yX1_isChain wsX1_isChain) := goodIn_app (goodIn_of _ (by decide +kernel)) ggX1_sign_X1_isChain
set_option maxRecDepth 20000 in
theorem ggX1_sign_X1_may : GoodIn wsX1_sign wsX1_may := goodIn_r _ [14, 15, 16, 17, 18, 19, 20, 21, 22, 23, 24, 25, 26, 27, 28, 29, 30, 31] (by decide +kernel) (by decide +kernel)
set_option maxRecDepth 20000 in
theorem gX1_sign_X1_may : GoodIn wsX1_sign (wsV RX1 82 RX1 yX1_may wsX1_may) := goodIn_app (goodIn_of _ (by decide +kernel)) ggX1_sign_X1_may
theorem dX1_sign_0 : decode cX1_sign 0 = .ok (.aload_n 0, 1) := by decide +kernel
theorem dX1_sign_1 : decode cX1_sign 1 = .ok (.aload_n 0, 1) := by decide +kernel
theorem dX1_sign_2 : decode cX1_sign 2 = .ok (.iload_n 1, 1) := by decide +kernel
theorem dX1_sign_3 : decode cX1_sign 3 = .ok (.invokevirtual 107, 3) := by decide +kernel
theorem dX1_sign_6 : decode cX1_sign 6 = .ok (.invokevirtual 82, 3) := by decide +kernel
theorem dX1_sign_9 : decode cX1_sign 9 = .ok (.ifCond .ne 5, 3) := by decide +kernel
theorem dX1_sign_12 : decode cX1_sign 12 = .ok (.iconst 0, 1) := by decide +kernel
theorem dX1_sign_13 : decode cX1_sign 13 = .ok (.ireturn, 1) := by decide +kernel
theorem dX1_sign_14 : decode cX1_sign 14 = .ok (.aload_n 0, 1) := by decide +kernel
theorem dX1_sign_15 : decode cX1_sign 15 = .ok (.getfield 32, 3) := by decide +kernel
theorem dX1_sign_18 : decode cX1_sign 18 = .ok (.iload_n 1, 1) := by decide +kernel
theorem dX1_sign_19 : decode cX1_sign 19 = .ok (.aload_n 0, 1) := by decide +kernel
theorem dX1_sign_20 : decode cX1_sign 20 = .ok (.getfield 32, 3) := by decide +kernel
theorem dX1_sign_23 : decode cX1_sign 23 = .ok (.iload_n 1, 1) := by decide +kernel
theorem dX1_sign_24 : decode cX1_sign 24 = .ok (.baload, 1) := by decide +kernel
theorem dX1_sign_25 : decode cX1_sign 25 = .ok (.ifCond .ne 7, 3) := by decide +kernel
theorem dX1_sign_28 : decode cX1_sign 28 = .ok (.iconst 1, 1) := by decide +kernel
theorem dX1_sign_29 : decode cX1_sign 29 = .ok (.goto 4, 3) := by decide +kernel
theorem dX1_sign_32 : decode cX1_sign 32 = .ok (.iconst 0, 1) := by decide +kernel
theorem dX1_sign_33 : decode cX1_sign 33 = .ok (.bastore, 1) := by decide +kernel
theorem dX1_sign_34 : decode cX1_sign 34 = .ok (.aload_n 0, 1) := by decide +kernel
theorem dX1_sign_35 : decode cX1_sign 35 = .ok (.getfield 32, 3) := by decide +kernel
theorem dX1_sign_38 : decode cX1_sign 38 = .ok (.iload_n 1, 1) := by decide +kernel
theorem dX1_sign_39 : decode cX1_sign 39 = .ok (.baload, 1) := by decide +kernel
theorem dX1_sign_40 : decode cX1_sign 40 = .ok (.ireturn, 1) := by decide +kernel
set_option maxRecDepth 20000 in
theorem ggX1_held_X1_isHeld : GoodIn wsX1_held wsX1_isHeld := goodIn_r _ [7, 8, 9, 10, 11, 12, 13, 14, 15, 16, 17, 18, 19, 20, 21, 22, 23, 24, 25, 26, 27] (by decide +kernel) (by decide +kernel)
set_option maxRecDepth 20000 in
theorem gX1_held_X1_isHeld : GoodIn wsX1_held (wsV RX1 96 RX1 yX1_isHeld wsX1_isHeld) := goodIn_app (goodIn_of _ (by decide +kernel)) ggX1_held_X1_isHeld
theorem dX1_held_0 : decode cX1_held 0 = .ok (.aload_n 0, 1) := by decide +kernel
theorem dX1_held_1 : decode cX1_held 1 = .ok (.iconst 0, 1) := by decide +kernel
theorem dX1_held_2 : decode cX1_held 2 = .ok (.putfield 50, 3) := by decide +kernel
theorem dX1_held_5 : decode cX1_held 5 = .ok (.iconst 0, 1) := by decide +kernel
theorem dX1_held_6 : decode cX1_held 6 = .ok (.istore_n 1, 1) := by decide +kernel
theorem dX1_held_7 : decode cX1_held 7 = .ok (.iconst 0, 1) := by decide +kernel
theorem dX1_held_8 : decode cX1_held 8 = .ok (.istore_n 2, 1) := by decide +kernel
theorem dX1_held_9 : decode cX1_held 9 = .ok (.iload_n 2, 1) := by decide +kernel
theorem dX1_held_10 : decode cX1_held 10 = .ok (.aload_n 0, 1) := by decide +kernel
theorem dX1_held_11 : decode cX1_held 11 = .ok (.getfield 58, 3) := by decide +kernel
theorem dX1_held_14 : decode cX1_held 14 = .ok (.if_icmp .ge 27, 3) := by decide +kernel
theorem dX1_held_17 : decode cX1_held 17 = .ok (.iload_n 1, 1) := by decide +kernel
theorem dX1_held_18 : decode cX1_held 18 = .ok (.aload_n 0, 1) := by decide +kernel
theorem dX1_held_19 : decode cX1_held 19 = .ok (.iload_n 2, 1) := by decide +kernel
theorem dX1_held_20 : decode cX1_held 20 = .ok (.invokevirtual 96, 3) := by decide +kernel
theorem dX1_held_23 : decode cX1_held 23 = .ok (.ifCond .eq 9, 3) := by decide +kernel
theorem dX1_held_26 : decode cX1_held 26 = .ok (.iconst 1, 1) := by decide +kernel
theorem dX1_held_27 : decode cX1_held 27 = .ok (.iload_n 2, 1) := by decide +kernel
theorem dX1_held_28 : decode cX1_held 28 = .ok (.ishl, 1) := by decide +kernel
theorem dX1_held_29 : decode cX1_held 29 = .ok (.goto 4, 3) := by decide +kernel
theorem dX1_held_32 : decode cX1_held 32 = .ok (.iconst 0, 1) := by decide +kernel
theorem dX1_held_33 : decode cX1_held 33 = .ok (.ior, 1) := by decide +kernel
theorem dX1_held_34 : decode cX1_held 34 = .ok (.istore_n 1, 1) := by decide +kernel
theorem dX1_held_35 : decode cX1_held 35 = .ok (.iinc 2 1, 3) := by decide +kernel
theorem dX1_held_38 : decode cX1_held 38 = .ok (.goto (-29), 3) := by decide +kernel
theorem dX1_held_41 : decode cX1_held 41 = .ok (.iload_n 1, 1) := by decide +kernel
theorem dX1_held_42 : decode cX1_held 42 = .ok (.ireturn, 1) := by decide +kernel
set_option maxRecDepth 20000 in
theorem ggX1_isPixel_X1_isIn : GoodIn wsX1_isPixel wsX1_isIn := goodIn_r _ [4] (by decide +kernel) (by decide +kernel)
set_option maxRecDepth 20000 in
theorem gX1_isPixel_X1_isIn : GoodIn wsX1_isPixel (va_wsS RX1 54 yX1_isIn wsX1_isIn) := goodIn_app (goodIn_of _ (by decide +kernel)) ggX1_isPixel_X1_isIn
theorem dX1_isPixel_0 : decode cX1_isPixel 0 = .ok (.iload_n 0, 1) := by decide +kernel
theorem dX1_isPixel_1 : decode cX1_isPixel 1 = .ok (.iconst 0, 1) := by decide +kernel
theorem dX1_isPixel_2 : decode cX1_isPixel 2 = .ok (.iconst 5, 1) := by decide +kernel
theorem dX1_isPixel_3 : decode cX1_isPixel 3 = .ok (.invokestatic 54, 3) := by decide +kernel
theorem dX1_isPixel_6 : decode cX1_isPixel 6 = .ok (.ireturn, 1) := by decide +kernel
set_option maxRecDepth 20000 in
theorem ggX1_paint_X1_isPixel : GoodIn wsX1_paint wsX1_isPixel := goodIn_r _ [5, 6, 7, 4, 8] (by decide +kernel) (by decide +kernel)
set_option maxRecDepth 20000 in
theorem gX1_paint_X1_isPixel : GoodIn wsX1_paint (va_wsS RX1 119 yX1_isPixel wsX1_isPixel) := goodIn_app (goodIn_of _ (by decide +kernel)) ggX1_paint_X1_isPixel
set_option maxRecDepth 20000 in
theorem ggX1_paint_X1_isThird : GoodIn wsX1_paint wsX1_isThird := goodIn_r _ [11, 6, 7, 4, 8] (by decide +kernel) (by decide +kernel)
set_option maxRecDepth 20000 in
theorem gX1_paint_X1_isThird : GoodIn wsX1_paint (va_wsS RX1 90 yX1_isThird wsX1_isThird) := goodIn_app (goodIn_of _ (by decide +kernel)) ggX1_paint_X1_isThird
set_option maxRecDepth 20000 in
theorem ggX1_paint_X1_isByte : GoodIn wsX1_paint wsX1_isByte := goodIn_r _ [14, 6, 7, 4, 8] (by decide +kernel) (by decide +kernel)
set_option maxRecDepth 20000 in
theorem gX1_paint_X1_isByte : GoodIn wsX1_paint (va_wsS RX1 93 yX1_isByte wsX1_isByte) := goodIn_app (goodIn_of _ (by decide +kernel)) ggX1_paint_X1_isByte
set_option maxRecDepth 20000 in
theorem ggX1_paint_X1_mayBoth : GoodIn wsX1_paint wsX1_mayBoth := goodIn_r _ [18, 19, 20, 21, 22, 23, 24, 25, 26, 27, 28, 29, 30, 31, 32, 33, 34, 35] (by decide +kernel) (by decide +kernel)
set_option maxRecDepth 20000 in
theorem gX1_paint_X1_mayBoth : GoodIn wsX1_paint (wsV RX1 103 RX1 yX1_mayBoth wsX1_mayBoth) := goodIn_app (goodIn_of _ (by decide +kernel)) ggX1_paint_X1_mayBoth
theorem dX1_paint_0 : decode cX1_paint 0 = .ok (.aload_n 0, 1) := by decide +kernel
theorem dX1_paint_1 : decode cX1_paint 1 = .ok (.iload_n 1, 1) := by decide +kernel
theorem dX1_paint_2 : decode cX1_paint 2 = .ok (.invokestatic 119, 3) := by decide +kernel
theorem dX1_paint_5 : decode cX1_paint 5 = .ok (.ifCond .eq 14, 3) := by decide +kernel
theorem dX1_paint_8 : decode cX1_paint 8 = .ok (.iload_n 2, 1) := by decide +kernel
theorem dX1_paint_9 : decode cX1_paint 9 = .ok (.invokestatic 90, 3) := by decide +kernel
theorem dX1_paint_12 : decode cX1_paint 12 = .ok (.ifCond .eq 7, 3) := by decide +kernel
theorem dX1_paint_15 : decode cX1_paint 15 = .ok (.iconst 1, 1) := by decide +kernel
theorem dX1_paint_16 : decode cX1_paint 16 = .ok (.goto 4, 3) := by decide +kernel
theorem dX1_paint_19 : decode cX1_paint 19 = .ok (.iconst 0, 1) := by decide +kernel
theorem dX1_paint_20 : decode cX1_paint 20 = .ok (.iload_n 3, 1) := by decide +kernel
theorem dX1_paint_21 : decode cX1_paint 21 = .ok (.invokestatic 93, 3) := by decide +kernel
theorem dX1_paint_24 : decode cX1_paint 24 = .ok (.invokevirtual 103, 3) := by decide +kernel
theorem dX1_paint_27 : decode cX1_paint 27 = .ok (.ifCond .ne 5, 3) := by decide +kernel
theorem dX1_paint_30 : decode cX1_paint 30 = .ok (.iconst 0, 1) := by decide +kernel
theorem dX1_paint_31 : decode cX1_paint 31 = .ok (.ireturn, 1) := by decide +kernel
theorem dX1_paint_32 : decode cX1_paint 32 = .ok (.aload_n 0, 1) := by decide +kernel
theorem dX1_paint_33 : decode cX1_paint 33 = .ok (.getfield 38, 3) := by decide +kernel
theorem dX1_paint_36 : decode cX1_paint 36 = .ok (.iconst 3, 1) := by decide +kernel
theorem dX1_paint_37 : decode cX1_paint 37 = .ok (.iload_n 1, 1) := by decide +kernel
theorem dX1_paint_38 : decode cX1_paint 38 = .ok (.imul, 1) := by decide +kernel
theorem dX1_paint_39 : decode cX1_paint 39 = .ok (.iload_n 2, 1) := by decide +kernel
theorem dX1_paint_40 : decode cX1_paint 40 = .ok (.iadd, 1) := by decide +kernel
theorem dX1_paint_41 : decode cX1_paint 41 = .ok (.iaload, 1) := by decide +kernel
theorem dX1_paint_42 : decode cX1_paint 42 = .ok (.istore 4, 2) := by decide +kernel
theorem dX1_paint_44 : decode cX1_paint 44 = .ok (.aload_n 0, 1) := by decide +kernel
theorem dX1_paint_45 : decode cX1_paint 45 = .ok (.getfield 38, 3) := by decide +kernel
theorem dX1_paint_48 : decode cX1_paint 48 = .ok (.iconst 3, 1) := by decide +kernel
theorem dX1_paint_49 : decode cX1_paint 49 = .ok (.iload_n 1, 1) := by decide +kernel
theorem dX1_paint_50 : decode cX1_paint 50 = .ok (.imul, 1) := by decide +kernel
theorem dX1_paint_51 : decode cX1_paint 51 = .ok (.iload_n 2, 1) := by decide +kernel
theorem dX1_paint_52 : decode cX1_paint 52 = .ok (.iadd, 1) := by decide +kernel
theorem dX1_paint_53 : decode cX1_paint 53 = .ok (.iload_n 3, 1) := by decide +kernel
theorem dX1_paint_54 : decode cX1_paint 54 = .ok (.iastore, 1) := by decide +kernel
theorem dX1_paint_55 : decode cX1_paint 55 = .ok (.iload 4, 2) := by decide +kernel
theorem dX1_paint_57 : decode cX1_paint 57 = .ok (.ireturn, 1) := by decide +kernel
set_option maxRecDepth 20000 in
theorem ggX1_spot_X1_isPixel : GoodIn wsX1_spot wsX1_isPixel := goodIn_r _ [5, 6, 7, 4, 8] (by decide +kernel) (by decide +kernel)
set_option maxRecDepth 20000 in
theorem gX1_spot_X1_isPixel : GoodIn wsX1_spot (va_wsS RX1 119 yX1_isPixel wsX1_isPixel) := goodIn_app (goodIn_of _ (by decide +kernel)) ggX1_spot_X1_isPixel
set_option maxRecDepth 20000 in
theorem ggX1_spot_X1_isThird : GoodIn wsX1_spot wsX1_isThird := goodIn_r _ [11, 6, 7, 4, 8] (by decide +kernel) (by decide +kernel)
set_option maxRecDepth 20000 in
theorem gX1_spot_X1_isThird : GoodIn wsX1_spot (va_wsS RX1 90 yX1_isThird wsX1_isThird) := goodIn_app (goodIn_of _ (by decide +kernel)) ggX1_spot_X1_isThird
set_option maxRecDepth 20000 in
theorem ggX1_spot_X1_isByte : GoodIn wsX1_spot wsX1_isByte := goodIn_r _ [14, 6, 7, 4, 8] (by decide +kernel) (by decide +kernel)
set_option maxRecDepth 20000 in
theorem gX1_spot_X1_isByte : GoodIn wsX1_spot (va_wsS RX1 93 yX1_isByte wsX1_isByte) := goodIn_app (goodIn_of _ (by decide +kernel)) ggX1_spot_X1_isByte
set_option maxRecDepth 20000 in
theorem ggX1_spot_X1_mayBoth : GoodIn wsX1_spot wsX1_mayBoth := goodIn_r _ [18, 19, 20, 21, 22, 23, 24, 25, 26, 27, 28, 29, 30, 31, 32, 33, 34, 35] (by decide +kernel) (by decide +kernel)
set_option maxRecDepth 20000 in
theorem gX1_spot_X1_mayBoth : GoodIn wsX1_spot (wsV RX1 103 RX1 yX1_mayBoth wsX1_mayBoth) := goodIn_app (goodIn_of _ (by decide +kernel)) ggX1_spot_X1_mayBoth
theorem dX1_spot_0 : decode cX1_spot 0 = .ok (.aload_n 0, 1) := by decide +kernel
theorem dX1_spot_1 : decode cX1_spot 1 = .ok (.iload_n 1, 1) := by decide +kernel
theorem dX1_spot_2 : decode cX1_spot 2 = .ok (.invokestatic 119, 3) := by decide +kernel
theorem dX1_spot_5 : decode cX1_spot 5 = .ok (.ifCond .eq 14, 3) := by decide +kernel
theorem dX1_spot_8 : decode cX1_spot 8 = .ok (.iload_n 2, 1) := by decide +kernel
theorem dX1_spot_9 : decode cX1_spot 9 = .ok (.invokestatic 90, 3) := by decide +kernel
theorem dX1_spot_12 : decode cX1_spot 12 = .ok (.ifCond .eq 7, 3) := by decide +kernel
theorem dX1_spot_15 : decode cX1_spot 15 = .ok (.iconst 1, 1) := by decide +kernel
theorem dX1_spot_16 : decode cX1_spot 16 = .ok (.goto 4, 3) := by decide +kernel
theorem dX1_spot_19 : decode cX1_spot 19 = .ok (.iconst 0, 1) := by decide +kernel
theorem dX1_spot_20 : decode cX1_spot 20 = .ok (.iload_n 3, 1) := by decide +kernel
theorem dX1_spot_21 : decode cX1_spot 21 = .ok (.invokestatic 93, 3) := by decide +kernel
theorem dX1_spot_24 : decode cX1_spot 24 = .ok (.invokevirtual 103, 3) := by decide +kernel
theorem dX1_spot_27 : decode cX1_spot 27 = .ok (.ifCond .ne 5, 3) := by decide +kernel
theorem dX1_spot_30 : decode cX1_spot 30 = .ok (.iconst 0, 1) := by decide +kernel
theorem dX1_spot_31 : decode cX1_spot 31 = .ok (.ireturn, 1) := by decide +kernel
theorem dX1_spot_32 : decode cX1_spot 32 = .ok (.aload_n 0, 1) := by decide +kernel
theorem dX1_spot_33 : decode cX1_spot 33 = .ok (.getfield 41, 3) := by decide +kernel
theorem dX1_spot_36 : decode cX1_spot 36 = .ok (.iconst 3, 1) := by decide +kernel
theorem dX1_spot_37 : decode cX1_spot 37 = .ok (.iload_n 1, 1) := by decide +kernel
theorem dX1_spot_38 : decode cX1_spot 38 = .ok (.imul, 1) := by decide +kernel
theorem dX1_spot_39 : decode cX1_spot 39 = .ok (.iload_n 2, 1) := by decide +kernel
theorem dX1_spot_40 : decode cX1_spot 40 = .ok (.iadd, 1) := by decide +kernel
theorem dX1_spot_41 : decode cX1_spot 41 = .ok (.iaload, 1) := by decide +kernel
theorem dX1_spot_42 : decode cX1_spot 42 = .ok (.istore 4, 2) := by decide +kernel
theorem dX1_spot_44 : decode cX1_spot 44 = .ok (.aload_n 0, 1) := by decide +kernel
theorem dX1_spot_45 : decode cX1_spot 45 = .ok (.getfield 41, 3) := by decide +kernel
theorem dX1_spot_48 : decode cX1_spot 48 = .ok (.iconst 3, 1) := by decide +kernel
theorem dX1_spot_49 : decode cX1_spot 49 = .ok (.iload_n 1, 1) := by decide +kernel
theorem dX1_spot_50 : decode cX1_spot 50 = .ok (.imul, 1) := by decide +kernel
theorem dX1_spot_51 : decode cX1_spot 51 = .ok (.iload_n 2, 1) := by decide +kernel
theorem dX1_spot_52 : decode cX1_spot 52 = .ok (.iadd, 1) := by decide +kernel
theorem dX1_spot_53 : decode cX1_spot 53 = .ok (.iload_n 3, 1) := by decide +kernel
theorem dX1_spot_54 : decode cX1_spot 54 = .ok (.iastore, 1) := by decide +kernel
theorem dX1_spot_55 : decode cX1_spot 55 = .ok (.iload 4, 2) := by decide +kernel
theorem dX1_spot_57 : decode cX1_spot 57 = .ok (.ireturn, 1) := by decide +kernel
set_option maxRecDepth 20000 in
theorem ggX1_mix_X1_isThird : GoodIn wsX1_mix wsX1_isThird := goodIn_r _ [5, 6, 7, 4, 8] (by decide +kernel) (by decide +kernel)
set_option maxRecDepth 20000 in
theorem gX1_mix_X1_isThird : GoodIn wsX1_mix (va_wsS RX1 90 yX1_isThird wsX1_isThird) := goodIn_app (goodIn_of _ (by decide +kernel)) ggX1_mix_X1_isThird
set_option maxRecDepth 20000 in
theorem ggX1_mix_X1_isByte : GoodIn wsX1_mix wsX1_isByte := goodIn_r _ [11, 6, 7, 4, 8] (by decide +kernel) (by decide +kernel)
set_option maxRecDepth 20000 in
theorem gX1_mix_X1_isByte : GoodIn wsX1_mix (va_wsS RX1 93 yX1_isByte wsX1_isByte) := goodIn_app (goodIn_of _ (by decide +kernel)) ggX1_mix_X1_isByte
set_option maxRecDepth 20000 in
theorem ggX1_mix_X1_mayBoth : GoodIn wsX1_mix wsX1_mayBoth := goodIn_r _ [15, 16, 17, 18, 19, 20, 21, 22, 23, 24, 25, 26, 27, 28, 29, 30, 31, 32] (by decide +kernel) (by decide +kernel)
set_option maxRecDepth 20000 in
theorem gX1_mix_X1_mayBoth : GoodIn wsX1_mix (wsV RX1 103 RX1 yX1_mayBoth wsX1_mayBoth) := goodIn_app (goodIn_of _ (by decide +kernel)) ggX1_mix_X1_mayBoth
theorem dX1_mix_0 : decode cX1_mix 0 = .ok (.aload_n 0, 1) := by decide +kernel
theorem dX1_mix_1 : decode cX1_mix 1 = .ok (.iload_n 1, 1) := by decide +kernel
theorem dX1_mix_2 : decode cX1_mix 2 = .ok (.invokestatic 90, 3) := by decide +kernel
theorem dX1_mix_5 : decode cX1_mix 5 = .ok (.ifCond .eq 14, 3) := by decide +kernel
theorem dX1_mix_8 : decode cX1_mix 8 = .ok (.iload_n 2, 1) := by decide +kernel
theorem dX1_mix_9 : decode cX1_mix 9 = .ok (.invokestatic 90, 3) := by decide +kernel
theorem dX1_mix_12 : decode cX1_mix 12 = .ok (.ifCond .eq 7, 3) := by decide +kernel
theorem dX1_mix_15 : decode cX1_mix 15 = .ok (.iconst 1, 1) := by decide +kernel
theorem dX1_mix_16 : decode cX1_mix 16 = .ok (.goto 4, 3) := by decide +kernel
theorem dX1_mix_19 : decode cX1_mix 19 = .ok (.iconst 0, 1) := by decide +kernel
theorem dX1_mix_20 : decode cX1_mix 20 = .ok (.iload_n 3, 1) := by decide +kernel
theorem dX1_mix_21 : decode cX1_mix 21 = .ok (.invokestatic 93, 3) := by decide +kernel
theorem dX1_mix_24 : decode cX1_mix 24 = .ok (.invokevirtual 103, 3) := by decide +kernel
theorem dX1_mix_27 : decode cX1_mix 27 = .ok (.ifCond .ne 5, 3) := by decide +kernel
theorem dX1_mix_30 : decode cX1_mix 30 = .ok (.iconst 0, 1) := by decide +kernel
theorem dX1_mix_31 : decode cX1_mix 31 = .ok (.ireturn, 1) := by decide +kernel
theorem dX1_mix_32 : decode cX1_mix 32 = .ok (.aload_n 0, 1) := by decide +kernel
theorem dX1_mix_33 : decode cX1_mix 33 = .ok (.getfield 44, 3) := by decide +kernel
theorem dX1_mix_36 : decode cX1_mix 36 = .ok (.iconst 3, 1) := by decide +kernel
theorem dX1_mix_37 : decode cX1_mix 37 = .ok (.iload_n 1, 1) := by decide +kernel
theorem dX1_mix_38 : decode cX1_mix 38 = .ok (.imul, 1) := by decide +kernel
theorem dX1_mix_39 : decode cX1_mix 39 = .ok (.iload_n 2, 1) := by decide +kernel
theorem dX1_mix_40 : decode cX1_mix 40 = .ok (.iadd, 1) := by decide +kernel
theorem dX1_mix_41 : decode cX1_mix 41 = .ok (.iaload, 1) := by decide +kernel
theorem dX1_mix_42 : decode cX1_mix 42 = .ok (.istore 4, 2) := by decide +kernel
theorem dX1_mix_44 : decode cX1_mix 44 = .ok (.aload_n 0, 1) := by decide +kernel
theorem dX1_mix_45 : decode cX1_mix 45 = .ok (.getfield 44, 3) := by decide +kernel
theorem dX1_mix_48 : decode cX1_mix 48 = .ok (.iconst 3, 1) := by decide +kernel
theorem dX1_mix_49 : decode cX1_mix 49 = .ok (.iload_n 1, 1) := by decide +kernel
theorem dX1_mix_50 : decode cX1_mix 50 = .ok (.imul, 1) := by decide +kernel
theorem dX1_mix_51 : decode cX1_mix 51 = .ok (.iload_n 2, 1) := by decide +kernel
theorem dX1_mix_52 : decode cX1_mix 52 = .ok (.iadd, 1) := by decide +kernel
theorem dX1_mix_53 : decode cX1_mix 53 = .ok (.iload_n 3, 1) := by decide +kernel
theorem dX1_mix_54 : decode cX1_mix 54 = .ok (.iastore, 1) := by decide +kernel
theorem dX1_mix_55 : decode cX1_mix 55 = .ok (.iload 4, 2) := by decide +kernel
theorem dX1_mix_57 : decode cX1_mix 57 = .ok (.ireturn, 1) := by decide +kernel
set_option maxRecDepth 20000 in
theorem ggX1_shown_X1_isChain : GoodIn wsX1_shown wsX1_isChain := goodIn_r _ [8, 9, 10, 11, 7, 12, 53, 54, 55, 56, 57, 58, 59, 60, 61, 62, 63, 64, 65, 66, 67, 68] (by decide +kernel) (by decide +kernel)
set_option maxRecDepth 20000 in
theorem gX1_shown_X1_isChain : GoodIn wsX1_shown (wsV RX1 107 RX1 yX1_isChain wsX1_isChain) := goodIn_app (goodIn_of _ (by decide +kernel)) ggX1_shown_X1_isChain
set_option maxRecDepth 20000 in
theorem ggX1_shown_X1_isPixel : GoodIn wsX1_shown wsX1_isPixel := goodIn_r _ [15, 10, 11, 7, 12] (by decide +kernel) (by decide +kernel)
set_option maxRecDepth 20000 in
theorem gX1_shown_X1_isPixel : GoodIn wsX1_shown (va_wsS RX1 119 yX1_isPixel wsX1_isPixel) := goodIn_app (goodIn_of _ (by decide +kernel)) ggX1_shown_X1_isPixel
set_option maxRecDepth 20000 in
theorem ggX1_shown_X1_isThird : GoodIn wsX1_shown wsX1_isThird := goodIn_r _ [18, 10, 11, 7, 12] (by decide +kernel) (by decide +kernel)
set_option maxRecDepth 20000 in
theorem gX1_shown_X1_isThird : GoodIn wsX1_shown (va_wsS RX1 90 yX1_isThird wsX1_isThird) := goodIn_app (goodIn_of _ (by decide +kernel)) ggX1_shown_X1_isThird
set_option maxRecDepth 20000 in
theorem ggX1_shown_X1_isIn : GoodIn wsX1_shown wsX1_isIn := goodIn_r _ [12] (by decide +kernel) (by decide +kernel)
set_option maxRecDepth 20000 in
theorem gX1_shown_X1_isIn : GoodIn wsX1_shown (va_wsS RX1 54 yX1_isIn wsX1_isIn) := goodIn_app (goodIn_of _ (by decide +kernel)) ggX1_shown_X1_isIn
set_option maxRecDepth 20000 in
theorem ggX1_shown_X1_mayBoth : GoodIn wsX1_shown wsX1_mayBoth := goodIn_r _ [22, 23, 53, 54, 55, 56, 57, 58, 59, 60, 61, 62, 63, 64, 65, 66, 67, 68] (by decide +kernel) (by decide +kernel)
set_option maxRecDepth 20000 in
theorem gX1_shown_X1_mayBoth : GoodIn wsX1_shown (wsV RX1 103 RX1 yX1_mayBoth wsX1_mayBoth) := goodIn_app (goodIn_of _ (by decide +kernel)) ggX1_shown_X1_mayBoth
set_option maxRecDepth 20000 in
theorem ggX1_shown_X1_throughOf : GoodIn wsX1_shown wsX1_throughOf := goodIn_r _ [27, 28, 29, 30, 31, 32, 7, 33, 34, 35, 36, 37, 38, 39, 40, 41, 42, 43, 44, 45, 46, 47, 48, 49, 50, 51, 52, 53, 54, 55, 56, 57, 58, 59, 60, 61, 62, 63, 64, 65, 66, 67, 68] (by decide +kernel) (by decide +kernel)
set_option maxRecDepth 20000 in
theorem gX1_shown_X1_throughOf : GoodIn wsX1_shown (wsV RX1 110 RX1 yX1_throughOf wsX1_throughOf) := goodIn_app (goodIn_of _ (by decide +kernel)) ggX1_shown_X1_throughOf
theorem dX1_shown_0 : decode cX1_shown 0 = .ok (.aload_n 0, 1) := by decide +kernel
theorem dX1_shown_1 : decode cX1_shown 1 = .ok (.aload_n 0, 1) := by decide +kernel
theorem dX1_shown_2 : decode cX1_shown 2 = .ok (.iload_n 1, 1) := by decide +kernel
theorem dX1_shown_3 : decode cX1_shown 3 = .ok (.invokevirtual 107, 3) := by decide +kernel
theorem dX1_shown_6 : decode cX1_shown 6 = .ok (.ifCond .eq 21, 3) := by decide +kernel
theorem dX1_shown_9 : decode cX1_shown 9 = .ok (.iload_n 2, 1) := by decide +kernel
theorem dX1_shown_10 : decode cX1_shown 10 = .ok (.invokestatic 119, 3) := by decide +kernel
theorem dX1_shown_13 : decode cX1_shown 13 = .ok (.ifCond .eq 14, 3) := by decide +kernel
theorem dX1_shown_16 : decode cX1_shown 16 = .ok (.iload_n 3, 1) := by decide +kernel
theorem dX1_shown_17 : decode cX1_shown 17 = .ok (.invokestatic 90, 3) := by decide +kernel
theorem dX1_shown_20 : decode cX1_shown 20 = .ok (.ifCond .eq 7, 3) := by decide +kernel
theorem dX1_shown_23 : decode cX1_shown 23 = .ok (.iconst 1, 1) := by decide +kernel
theorem dX1_shown_24 : decode cX1_shown 24 = .ok (.goto 4, 3) := by decide +kernel
theorem dX1_shown_27 : decode cX1_shown 27 = .ok (.iconst 0, 1) := by decide +kernel
theorem dX1_shown_28 : decode cX1_shown 28 = .ok (.iload 4, 2) := by decide +kernel
theorem dX1_shown_30 : decode cX1_shown 30 = .ok (.iconst 0, 1) := by decide +kernel
theorem dX1_shown_31 : decode cX1_shown 31 = .ok (.bipush 7, 2) := by decide +kernel
theorem dX1_shown_33 : decode cX1_shown 33 = .ok (.invokestatic 54, 3) := by decide +kernel
theorem dX1_shown_36 : decode cX1_shown 36 = .ok (.invokevirtual 103, 3) := by decide +kernel
theorem dX1_shown_39 : decode cX1_shown 39 = .ok (.ifCond .ne 5, 3) := by decide +kernel
theorem dX1_shown_42 : decode cX1_shown 42 = .ok (.iconst 0, 1) := by decide +kernel
theorem dX1_shown_43 : decode cX1_shown 43 = .ok (.ireturn, 1) := by decide +kernel
theorem dX1_shown_44 : decode cX1_shown 44 = .ok (.aload_n 0, 1) := by decide +kernel
theorem dX1_shown_45 : decode cX1_shown 45 = .ok (.getfield 38, 3) := by decide +kernel
theorem dX1_shown_48 : decode cX1_shown 48 = .ok (.iconst 3, 1) := by decide +kernel
theorem dX1_shown_49 : decode cX1_shown 49 = .ok (.iload_n 2, 1) := by decide +kernel
theorem dX1_shown_50 : decode cX1_shown 50 = .ok (.imul, 1) := by decide +kernel
theorem dX1_shown_51 : decode cX1_shown 51 = .ok (.iload_n 3, 1) := by decide +kernel
theorem dX1_shown_52 : decode cX1_shown 52 = .ok (.iadd, 1) := by decide +kernel
theorem dX1_shown_53 : decode cX1_shown 53 = .ok (.iaload, 1) := by decide +kernel
theorem dX1_shown_54 : decode cX1_shown 54 = .ok (.istore 5, 2) := by decide +kernel
theorem dX1_shown_56 : decode cX1_shown 56 = .ok (.iconst 0, 1) := by decide +kernel
theorem dX1_shown_57 : decode cX1_shown 57 = .ok (.istore 6, 2) := by decide +kernel
theorem dX1_shown_59 : decode cX1_shown 59 = .ok (.iload 6, 2) := by decide +kernel
theorem dX1_shown_61 : decode cX1_shown 61 = .ok (.iconst 3, 1) := by decide +kernel
theorem dX1_shown_62 : decode cX1_shown 62 = .ok (.if_icmp .ge 69, 3) := by decide +kernel
theorem dX1_shown_65 : decode cX1_shown 65 = .ok (.iload 4, 2) := by decide +kernel
theorem dX1_shown_67 : decode cX1_shown 67 = .ok (.iload 6, 2) := by decide +kernel
theorem dX1_shown_69 : decode cX1_shown 69 = .ok (.ishr, 1) := by decide +kernel
theorem dX1_shown_70 : decode cX1_shown 70 = .ok (.iconst 1, 1) := by decide +kernel
theorem dX1_shown_71 : decode cX1_shown 71 = .ok (.iand, 1) := by decide +kernel
theorem dX1_shown_72 : decode cX1_shown 72 = .ok (.ifCond .ne 53, 3) := by decide +kernel
theorem dX1_shown_75 : decode cX1_shown 75 = .ok (.iload 5, 2) := by decide +kernel
theorem dX1_shown_77 : decode cX1_shown 77 = .ok (.aload_n 0, 1) := by decide +kernel
theorem dX1_shown_78 : decode cX1_shown 78 = .ok (.getfield 44, 3) := by decide +kernel
theorem dX1_shown_81 : decode cX1_shown 81 = .ok (.iconst 3, 1) := by decide +kernel
theorem dX1_shown_82 : decode cX1_shown 82 = .ok (.iload 6, 2) := by decide +kernel
theorem dX1_shown_84 : decode cX1_shown 84 = .ok (.imul, 1) := by decide +kernel
theorem dX1_shown_85 : decode cX1_shown 85 = .ok (.iload_n 3, 1) := by decide +kernel
theorem dX1_shown_86 : decode cX1_shown 86 = .ok (.iadd, 1) := by decide +kernel
theorem dX1_shown_87 : decode cX1_shown 87 = .ok (.iaload, 1) := by decide +kernel
theorem dX1_shown_88 : decode cX1_shown 88 = .ok (.aload_n 0, 1) := by decide +kernel
theorem dX1_shown_89 : decode cX1_shown 89 = .ok (.getfield 41, 3) := by decide +kernel
theorem dX1_shown_92 : decode cX1_shown 92 = .ok (.iconst 3, 1) := by decide +kernel
theorem dX1_shown_93 : decode cX1_shown 93 = .ok (.iload_n 2, 1) := by decide +kernel
theorem dX1_shown_94 : decode cX1_shown 94 = .ok (.imul, 1) := by decide +kernel
theorem dX1_shown_95 : decode cX1_shown 95 = .ok (.iload 6, 2) := by decide +kernel
theorem dX1_shown_97 : decode cX1_shown 97 = .ok (.iadd, 1) := by decide +kernel
theorem dX1_shown_98 : decode cX1_shown 98 = .ok (.iaload, 1) := by decide +kernel
theorem dX1_shown_99 : decode cX1_shown 99 = .ok (.imul, 1) := by decide +kernel
theorem dX1_shown_100 : decode cX1_shown 100 = .ok (.sipush 255, 3) := by decide +kernel
theorem dX1_shown_103 : decode cX1_shown 103 = .ok (.idiv, 1) := by decide +kernel
theorem dX1_shown_104 : decode cX1_shown 104 = .ok (.iadd, 1) := by decide +kernel
theorem dX1_shown_105 : decode cX1_shown 105 = .ok (.istore 5, 2) := by decide +kernel
theorem dX1_shown_107 : decode cX1_shown 107 = .ok (.iload 5, 2) := by decide +kernel
theorem dX1_shown_109 : decode cX1_shown 109 = .ok (.sipush 255, 3) := by decide +kernel
theorem dX1_shown_112 : decode cX1_shown 112 = .ok (.if_icmp .le 9, 3) := by decide +kernel
theorem dX1_shown_115 : decode cX1_shown 115 = .ok (.sipush 255, 3) := by decide +kernel
theorem dX1_shown_118 : decode cX1_shown 118 = .ok (.goto 5, 3) := by decide +kernel
theorem dX1_shown_121 : decode cX1_shown 121 = .ok (.iload 5, 2) := by decide +kernel
theorem dX1_shown_123 : decode cX1_shown 123 = .ok (.istore 5, 2) := by decide +kernel
theorem dX1_shown_125 : decode cX1_shown 125 = .ok (.iinc 6 1, 3) := by decide +kernel
theorem dX1_shown_128 : decode cX1_shown 128 = .ok (.goto (-69), 3) := by decide +kernel
theorem dX1_shown_131 : decode cX1_shown 131 = .ok (.aload_n 0, 1) := by decide +kernel
theorem dX1_shown_132 : decode cX1_shown 132 = .ok (.iload_n 1, 1) := by decide +kernel
theorem dX1_shown_133 : decode cX1_shown 133 = .ok (.iload_n 3, 1) := by decide +kernel
theorem dX1_shown_134 : decode cX1_shown 134 = .ok (.iload 5, 2) := by decide +kernel
theorem dX1_shown_136 : decode cX1_shown 136 = .ok (.invokevirtual 110, 3) := by decide +kernel
theorem dX1_shown_139 : decode cX1_shown 139 = .ok (.ireturn, 1) := by decide +kernel
end
section
/-! THE REFERENCE's LAYER: its world, reads and writes of its rows, its calls */ -/
/-- the world of the reference: its object and its thirteen rows; fv: the row 'five', th: the number of the latest exception -/
def mw (q : Nat → Nat) (cI cZ : ClassId) (N : Nat → Nat) (S : Nat → Nat → Nat) (fv : Nat → Nat) (th : Nat) : va_W := [
  (q 0, .inr (1, [.int (nI (N 0)), .ref (q 1), .ref (q 2), .ref (q 3), .ref (q 4), .int (nI (N 5)), .ref (q 6), .ref (q 7), .ref (q 8), .ref (q 9), .ref (q 10), .ref (q 11), .ref (q 12), .ref (q 13), .ref (q 14), .int (nI th)])),
  (q 1, .inl (cI, 120, .inl (gr (S 1)))), (q 2, .inl (cI, 24, .inl (gr (S 2)))), (q 3, .inl (cI, 24, .inl (gr (S 3)))), (q 4, .inl (cI, 8, .inl (gr (S 4)))),
  (q 6, .inl (cI, 6, .inl (gr (S 7)))), (q 7, .inl (cI, 36, .inl (gr (S 6)))), (q 8, .inl (cZ, 6, .inl (gr (S 9)))), (q 9, .inl (cZ, 6, .inl (gr (S 10)))), (q 10, .inl (cI, 90, .inl (gr (S 8)))),
  (q 11, .inl (cI, 18, .inl (gr (S 12)))), (q 12, .inl (cI, 18, .inl (gr (S 13)))), (q 13, .inl (cI, 9, .inl (gr (S 14)))), (q 14, .inl (cI, 5, .inl (gr fv)))]
def mAt (D : va_G) (q : Nat → Nat) (cI cZ : ClassId) (N : Nat → Nat) (S : Nat → Nat → Nat) (fv : Nat → Nat) (th : Nat) (A : Nat → Prop) (U : State) (H : Heap) : Prop := va_P D vwCl (mw q cI cZ N S fv th) H ∧ va_K D vwCl [(cI, .int), (cZ, .boolean)] U ∧ va_D A (mw q cI cZ N S fv th)
theorem mAt.moved {D : va_G} {q : Nat → Nat} {cI cZ : ClassId} {N : Nat → Nat} {S : Nat → Nat → Nat} {fv : Nat → Nat} {th : Nat} {A : Nat → Prop} {s U : State} {H : Heap} (hW : s.WarmedH U.vm) (h : mAt D q cI cZ N S fv th A s H) : mAt D q cI cZ N S fv th A U H := ⟨h.1, h.2.1.moved hW.alike, h.2.2⟩
theorem mAt_blind {D : va_G} {q : Nat → Nat} {cI cZ : ClassId} {N : Nat → Nat} {S : Nat → Nat → Nat} {fv : Nat → Nat} {th : Nat} {A : Nat → Prop} {av : List Value} : FrameBlind (va_Pc av (fun U => mAt D q cI cZ N S fv th A U U.heap)) := fun a U g mk hq => ⟨hq.1, hq.2.1, va_K.moved (u := U) (U := U.calling g mk a) (Vm.Alike.refl U.vm) hq.2.2.1, hq.2.2.2⟩
theorem mAt_cast {D : va_G} {q : Nat → Nat} {cI cZ : ClassId} {N N' : Nat → Nat} {S S' : Nat → Nat → Nat} {fv fv' : Nat → Nat} {th th' : Nat} {A : Nat → Prop} {s : State} {H : Heap} (e : mw q cI cZ N S fv th = mw q cI cZ N' S' fv' th') (h : mAt D q cI cZ N S fv th A s H) : mAt D q cI cZ N' S' fv' th' A s H := by
  unfold mAt at h ⊢
  rw [← e]
  exact h
/-- a truth as a number, and back -/
def gbn (b : Bool) : Nat := if b then 1 else 0
theorem gbn_t {b : Bool} (h : gbn b ≠ 0) : b = true := by cases b; exact absurd rfl h; rfl
theorem gbn_f {b : Bool} (h : gbn b = 0) : b = false := by cases b; rfl; exact absurd h (by decide)
theorem gbn_lt (b : Bool) : gbn b < 2 ^ 31 := by cases b <;> decide
theorem gbn_le (b : Bool) : gbn b ≤ 1 := by cases b <;> decide
def gin (x lo hi : Int32) : Bool := decide (lo.toInt ≤ x.toInt ∧ x.toInt ≤ hi.toInt)
theorem gin_k {x : Int32} {k : Nat} (hk : k < 1000) : gin x (nI 0) (nI k) = gb x (k + 1) := by
  unfold gin gb
  rw [nI_toInt (by decide), nI_toInt (by omega)]
  apply decide_eq_decide.mpr
  omega
theorem gin_n {x : Int32} {n : Nat} (hn : n < 1000) : gin x (nI 0) (nI n - nI 1) = gb x n := by
  unfold gin gb
  rw [nI_toInt (by decide), pk_sub_toInt (by omega) (by decide)]
  apply decide_eq_decide.mpr
  omega
/-- the number of the exception by three numbers that are truths -/
def sp_m3 (a b c : Nat) : Nat := if a = 0 then 1 else if b = 0 then 2 else if c = 0 then 3 else 0
def sp_z (t : Nat) : Nat := if t = 0 then 1 else 0
theorem sp_z_t {t : Nat} (h : sp_z t ≠ 0) : t = 0 := by
  unfold sp_z at h
  split at h
  · assumption
  · exact absurd rfl h
theorem sp_z_f {t : Nat} (h : sp_z t = 0) : t ≠ 0 := by
  unfold sp_z at h
  split at h
  · exact absurd h (by decide)
  · assumption
theorem sp_z_lt (t : Nat) : sp_z t < 2 ^ 31 := by unfold sp_z; split <;> decide
theorem sp_z_bit (t : Nat) : sp_z t = 0 ∨ sp_z t = 1 := by unfold sp_z; split <;> simp
theorem sp_m3_a {a b c : Nat} (h : sp_m3 a b c = 0) : a ≠ 0 := by
  unfold sp_m3 at h
  intro z
  rw [if_pos z] at h
  exact absurd h (by decide)
theorem sp_m3_b {a b c : Nat} (h : sp_m3 a b c = 0) : b ≠ 0 := by
  have ha := sp_m3_a h
  unfold sp_m3 at h
  intro z
  rw [if_neg ha, if_pos z] at h
  exact absurd h (by decide)
theorem sp_m3_c {a b c : Nat} (h : sp_m3 a b c = 0) : c ≠ 0 := by
  have ha := sp_m3_a h
  have hb := sp_m3_b h
  unfold sp_m3 at h
  intro z
  rw [if_neg ha, if_neg hb, if_pos z] at h
  exact absurd h (by decide)
theorem sp_m3_gk (a b c : Bool) : sp_m3 (gbn a) (gbn b) (gbn c) = gk a b c := by cases a <;> cases b <;> cases c <;> rfl
theorem gp_nz {v : Nat} (h : v = 0 ∨ v = 1) : narrow .boolean (.int (nI v)) = .int (nI v) := by rcases h with e | e <;> rw [e] <;> rfl
/-- a call that writes the reference's world and doesn't throw: its answer, its numbers and rows are told -/
def gQd (D : va_G) (q : Nat → Nat) (cI cZ : ClassId) (N : Nat → Nat) (S : Nat → Nat → Nat) (th : Nat) (r : Int32) (A : Nat → Prop) : Array Value → State → Outcome → State → Prop := fun _ st oc t =>
  ∃ fv' : Nat → Nat, oc = .returned (some (.int r)) ∧ va_P D vwCl (mw q cI cZ N S fv' th) t.heap ∧ va_F A st t
/-- .. its answer by a predicate -/
def gQm (D : va_G) (q : Nat → Nat) (cI cZ : ClassId) (post : Int32 → (Nat → Nat) → (Nat → Nat → Nat) → Nat → Prop) (A : Nat → Prop) : Array Value → State → Outcome → State → Prop := fun _ st oc t =>
  ∃ (r : Int32) (N' : Nat → Nat) (S' : Nat → Nat → Nat) (fv' : Nat → Nat) (th' : Nat), oc = .returned (some (.int r)) ∧ post r N' S' th' ∧ va_P D vwCl (mw q cI cZ N' S' fv' th') t.heap ∧ va_F A st t
section MW
variable {p : Program} {l : Launch} {e : Env} {R : Room} {s : State} {m : MethodId} {args : Array Value} {below : List Frame} {meth : Method} {c : Code} {H : Heap} {locs : List Loc} {cells slots : Nat} {Q : State → Prop}
variable {y : MethodName} {bytes cc : ByteArray} {maxL nL n index pc : Nat} {ret : Option FieldType} {ws ws' : List Cond} {rm : Room} {Ts : List Cond} {own C : String} {As rest st0 : List Value} {ls : Array Slot} {a b : Nat}
variable {D : va_G} {q : Nat → Nat} {cI cZ : ClassId} {N N' : Nat → Nat} {S S' : Nat → Nat → Nat} {fv fv' : Nat → Nat} {th th' : Nat} {A : Nat → Prop} {r : Int32}
theorem gQm_of {post : Int32 → (Nat → Nat) → (Nat → Nat → Nat) → Nat → Prop} {t : State} {av : Array Value} (hX : mAt D q cI cZ N S fv th A s H) (hS : va_S A s.heap H locs) (ht : t.heap = H) (hp : post r N S th) : gQm D q cI cZ post A av s (.returned (some (.int r))) t :=
  ⟨r, N, S, fv, th, rfl, hp, by rw [ht]; exact hX.1, hS.F ht⟩
theorem gQd_of {t : State} {av : Array Value} (hX : mAt D q cI cZ N S fv th A s H) (hS : va_S A s.heap H locs) (ht : t.heap = H) : gQd D q cI cZ N S th r A av s (.returned (some (.int r))) t :=
  ⟨fv, rfl, by rw [ht]; exact hX.1, hS.F ht⟩
theorem gm_get (G : gF p s m args meth c cc ret nL RX1 ws) (hX : mAt D q cI cZ N S fv th A s H) (hin : ∀ w ∈ wsX10, w ∈ ws) (k : Nat) (hk : k < 16)
    (hlink : Cond.fieldLink RX1 index "GamutChainModel" (TX1 k).2.1 (TX1 k).2.2.1 ∈ ws) (hsame : (TX1 k).1 = "GamutChainModel") {v : Value} {fs : List Value} (hf : (mw q cI cZ N S fv th)[0]? = some (q 0, .inr (1, fs))) (hv : fs[k]? = some v) (hdg : decode cc pc = .ok (.getfield index, 3))
    (kk : W p l e R s m args below meth c H locs cells slots Q (F0 m (pc + 3) ls (v :: rest))) : W p l e R s m args below meth c H locs cells slots Q (F0 m pc ls (.ref (q 0) :: rest)) :=
  va_get (D := D) (ci := 1) (v := v) (C := RX1) (T := TX1) (N := 16) G.1 G.2.1 G.2.2.2.2.2.1 hin G.2.2.2.2.1 hX.2.1 hX.1 0 hf rfl k hk (G.2.2.2.2.2.1 _ hlink) (fun x h => by rw [hsame] at h; exact h) hv hdg kk
theorem gm_put {k v : Nat} {fs : List Value} (G : gF p s m args meth c cc ret nL RX1 ws) (hX : mAt D q cI cZ N S fv th A s H) (hS : va_S A s.heap H locs) (hin : ∀ w ∈ wsX10, w ∈ ws) (hk : k < 16)
    (hlink : Cond.fieldLink RX1 index "GamutChainModel" (TX1 k).2.1 (TX1 k).2.2.1 ∈ ws) (hsame : (TX1 k).1 = "GamutChainModel") (hfin : (TX1 k).2.2.2 = false) (hd : parseFieldDescriptor (TX1 k).2.2.1 = some .int) (hf : (mw q cI cZ N S fv th)[0]? = some (q 0, .inr (1, fs))) (hlen : k < fs.length)
    (hnew : (mw q cI cZ N S fv th).set 0 (q 0, .inr (1, fs.set k (.int (nI v)))) = mw q cI cZ N' S fv th') (hdg : decode cc pc = .ok (.putfield index, 3))
    (kk : ∀ (H1 : Heap) (locs1 : List Loc), mAt D q cI cZ N' S fv th' A s H1 → va_S A s.heap H1 locs1 → W p l e R s m args below meth c H1 locs1 cells slots Q (F0 m (pc + 3) ls rest)) : W p l e R s m args below meth c H locs cells slots Q (F0 m pc ls (.int (nI v) :: .ref (q 0) :: rest)) := by
  refine va_put (D := D) (ci := 1) (v := .int (nI v)) (ty := .int) (C := RX1) (T := TX1) (N := 16) (A := A) (H0 := s.heap) G.1 G.2.1 G.2.2.2.2.2.1 hin tyX1 tyX1_ok nmX1 G.2.2.2.2.1 hX.2.1 hX.1 hX.2.2 hS 0 hf rfl k hk (G.2.2.2.2.2.1 _ hlink) (fun x h => by rw [hsame] at h; exact h) hfin hd rfl rfl hlen hdg (fun H1 locs1 hP hD hS1 => ?_)
  rw [hnew] at hP hD
  exact kk H1 locs1 ⟨hP, hX.2.1, hD⟩ hS1
theorem gm_ald {k len i kp : Nat} {F : Nat → Nat} (G : gF p s m args meth c cc ret nL RX1 ws) (hX : mAt D q cI cZ N S fv th A s H) (hkp : (mw q cI cZ N S fv th)[kp]? = some (q k, .inl (cI, len, .inl (gr F)))) (hi : i < len) (hlen : len < 2 ^ 31) (hdg : decode cc pc = .ok (.iaload, 1))
    (kk : W p l e R s m args below meth c H locs cells slots Q (F0 m (pc + 1) ls (.int (nI (F i)) :: rest))) : W p l e R s m args below meth c H locs cells slots Q (F0 m pc ls (.int (nI i) :: .ref (q k) :: rest)) := by
  refine va_iald (D := D) G.1 G.2.1 hX.2.1 hX.1 kp 0 (f := gr F) hkp rfl (vp_in_nI hi hlen) hdg ?_
  rw [nI_clamp (by omega)]
  exact kk
theorem gm_zld {k len i kp : Nat} {F : Nat → Nat} (G : gF p s m args meth c cc ret nL RX1 ws) (hX : mAt D q cI cZ N S fv th A s H) (hkp : (mw q cI cZ N S fv th)[kp]? = some (q k, .inl (cZ, len, .inl (gr F)))) (hi : i < len) (hlen : len < 2 ^ 31) (hdg : decode cc pc = .ok (.baload, 1))
    (kk : W p l e R s m args below meth c H locs cells slots Q (F0 m (pc + 1) ls (.int (nI (F i)) :: rest))) : W p l e R s m args below meth c H locs cells slots Q (F0 m pc ls (.int (nI i) :: .ref (q k) :: rest)) := by
  refine va_zald (D := D) G.1 G.2.1 hX.2.1 hX.1 kp 1 (f := gr F) hkp rfl (vp_in_nI hi hlen) hdg ?_
  rw [nI_clamp (by omega)]
  exact kk
theorem gm_ast {k len i kp v : Nat} {F : Nat → Nat} (G : gF p s m args meth c cc ret nL RX1 ws) (hX : mAt D q cI cZ N S fv th A s H) (hS : va_S A s.heap H locs) (hkp : (mw q cI cZ N S fv th)[kp]? = some (q k, .inl (cI, len, .inl (gr F)))) (hnew : (mw q cI cZ N S fv th).set kp (q k, .inl (cI, len, .inl (gr (gu F i v)))) = mw q cI cZ N S' fv' th) (hi : i < len) (hlen : len < 2 ^ 31) (hdg : decode cc pc = .ok (.iastore, 1))
    (kk : ∀ (H1 : Heap) (locs1 : List Loc), mAt D q cI cZ N S' fv' th A s H1 → va_S A s.heap H1 locs1 → W p l e R s m args below meth c H1 locs1 cells slots Q (F0 m (pc + 1) ls rest)) : W p l e R s m args below meth c H locs cells slots Q (F0 m pc ls (.int (nI v) :: .int (nI i) :: .ref (q k) :: rest)) := by
  refine va_iast (D := D) (A := A) (H0 := s.heap) G.1 G.2.1 hX.2.1 hX.1 hX.2.2 hS kp 0 (f := gr F) hkp rfl (vp_in_nI hi hlen) hdg (fun H1 locs1 hP hD hS1 => ?_)
  rw [nI_clamp (by omega), gr_upd, hnew] at hP hD
  exact kk H1 locs1 ⟨hP, hX.2.1, hD⟩ hS1
theorem gm_zst {k len i kp v : Nat} {F : Nat → Nat} (G : gF p s m args meth c cc ret nL RX1 ws) (hX : mAt D q cI cZ N S fv th A s H) (hS : va_S A s.heap H locs) (hkp : (mw q cI cZ N S fv th)[kp]? = some (q k, .inl (cZ, len, .inl (gr F)))) (hnew : (mw q cI cZ N S fv th).set kp (q k, .inl (cZ, len, .inl (gr (gu F i v)))) = mw q cI cZ N S' fv' th) (hv : v = 0 ∨ v = 1) (hi : i < len) (hlen : len < 2 ^ 31) (hdg : decode cc pc = .ok (.bastore, 1))
    (kk : ∀ (H1 : Heap) (locs1 : List Loc), mAt D q cI cZ N S' fv' th A s H1 → va_S A s.heap H1 locs1 → W p l e R s m args below meth c H1 locs1 cells slots Q (F0 m (pc + 1) ls rest)) : W p l e R s m args below meth c H locs cells slots Q (F0 m pc ls (.int (nI v) :: .int (nI i) :: .ref (q k) :: rest)) := by
  refine va_zast (D := D) (A := A) (H0 := s.heap) G.1 G.2.1 hX.2.1 hX.1 hX.2.2 hS kp 1 (f := gr F) hkp rfl (vp_in_nI hi hlen) hdg (fun H1 locs1 hP hD hS1 => ?_)
  have e : vp_nar .boolean (nI v) = nI v := by
    rcases hv with e | e <;> rw [e] <;> rfl
  rw [nI_clamp (by omega), e, gr_upd, hnew] at hP hD
  exact kk H1 locs1 ⟨hP, hX.2.1, hD⟩ hS1
/-- a call of the reference's own that writes -/
theorem gm_mut (G : CallFix p m c cc nL s args Ts own) (hM : Met l y ws rm (va_Pc (.ref (q 0) :: As) (fun U => mAt D q cI cZ N S fv th A U U.heap)) (gQd D q cI cZ N' S' th' r A) 0 0 A) (cw : CallW R s args own RX1 index y bytes maxL ret ws rm 0 0 n)
    (hX : mAt D q cI cZ N S fv th A s H) (hS : va_S A s.heap H locs) (hn : As.length = n) (hsz : ls.size = nL) (hst : st0 = As.reverse ++ .ref (q 0) :: rest) (hW : (rest.map fun v => v.category).sum ≤ 8) (hdg : decode cc pc = .ok (.invokevirtual index, 3)) (hc : cells ≤ R.cells) (hs : slots ≤ R.slots)
    (kk : ∀ (fv' : Nat → Nat) (H1 : Heap) (locs1 : List Loc), mAt D q cI cZ N' S' fv' th' A s H1 → va_S A s.heap H1 locs1 → W p l e R s m args below meth c H1 locs1 cells slots Q (F0 m (pc + 3) ls (.int r :: rest))) : W p l e R s m args below meth c H locs cells slots Q (F0 m pc ls st0) := by
  intro T hT X
  obtain ⟨v9, st₀, t, T', L, h0, X', hL, e1, ⟨fv9, hv, hP1, hz, hk⟩, st⟩ := W.runV (As := As) (rest := rest) (g := F0 m pc ls st0) G hM cw ⟨mAt_blind, va_recv hX.2.1 hX.1 (ci := 1) (q0 := 0) rfl rfl, fun U hU hW => ⟨rfl, by show mAt _ _ _ _ _ _ _ _ _ U U.heap; rw [hU]; exact hX.moved hW⟩⟩ rfl hn hsz hst (lv_room hW) hdg ⟨hc, hs⟩ T hT X
  cases hv
  rw [h0] at hz hk
  have hS2 : va_S A s.heap t.heap (locs ++ L) := ⟨Nat.le_trans hS.1 hz, fun z h1 h2 => by rw [hk z (Nat.lt_of_lt_of_le h1 hS.1) h2]; exact hS.2.1 z h1 h2, fun z hz2 => by
    rcases List.mem_append.mp hz2 with h | h
    · exact hS.2.2 z h
    · exact hL z h⟩
  obtain ⟨t2, a1, b1⟩ := kk fv9 t.heap _ ⟨hP1, hX.2.1, va_D_fst (ws := mw q cI cZ N S fv th) rfl hX.2.2⟩ hS2 T' e1 X'
  exact ⟨t2, st t2 a1, b1⟩
end MW
end
section
/-! the reference's small methods -/
theorem gbn_bit (b : Bool) : gbn b = 0 ∨ gbn b = 1 := by cases b <;> simp [gbn]
theorem gin_y {x lo hi : Int32} (h1 : ¬ x < lo) (h2 : ¬ hi < x) : 1 = gbn (gin x lo hi) := by
  have a1 : ¬ x.toInt < lo.toInt := fun z => h1 (Int32.lt_iff_toInt_lt.mpr z)
  have a2 : ¬ hi.toInt < x.toInt := fun z => h2 (Int32.lt_iff_toInt_lt.mpr z)
  have e : gin x lo hi = true := by unfold gin; exact decide_eq_true ⟨by omega, by omega⟩
  rw [e]; rfl
theorem gin_lo {x lo hi : Int32} (h1 : x < lo) : 0 = gbn (gin x lo hi) := by
  have a1 := Int32.lt_iff_toInt_lt.mp h1
  have e : gin x lo hi = false := by unfold gin; exact decide_eq_false (fun z => by omega)
  rw [e]; rfl
theorem gin_hi {x lo hi : Int32} (h1 : hi < x) : 0 = gbn (gin x lo hi) := by
  have a1 := Int32.lt_iff_toInt_lt.mp h1
  have e : gin x lo hi = false := by unfold gin; exact decide_eq_false (fun z => by omega)
  rw [e]; rfl
set_option maxRecDepth 100000 in
set_option maxHeartbeats 4000000 in
/-- in a range -/
theorem mX1_isIn (l : Launch) (x lo hi : Int32) : Met l yX1_isIn wsX1_isIn { frames := 0, cells := 0, slots := 0, locals := 0 } (va_Pc [.int x, .int lo, .int hi] (fun _ => True)) (vp_Si (fun r => r = nI (gbn (gin x lo hi)))) 0 0 (fun _ => False) := by
  refine gc_met [.int x, .int lo, .int hi] (by decide) rfl (Nat.le_of_ble_eq_true rfl) rfl ?_
  intro p e s m below meth c ls G hl _
  refine lv_iload_n G.1 G.2.1 dX1_isIn_0 rfl (lv_at hl 0 rfl) ?_
  refine lv_iload_n G.1 G.2.1 dX1_isIn_1 rfl (lv_at hl 1 rfl) ?_
  refine lv_icmp_lt (tgt := 14) G.1 G.2.1 dX1_isIn_2 (by decide) (fun h_2 => ?_) (fun h_2 => ?_)
  · refine lv_iconst (v := nI 0) G.1 G.2.1 dX1_isIn_14 (by decide) ?_
    exact W.zret G.1 G.2.1 G.2.2.1 rfl (fun t ht hW => ⟨_, rfl, by show nI _ = nI _; first | exact congrArg nI (gin_y (by assumption) (by assumption)) | exact congrArg nI (gin_lo (by assumption)) | exact congrArg nI (gin_hi (by assumption)), ht⟩) (fun q h => nomatch h) dX1_isIn_15 G.2.2.2.2.2.2
  · refine lv_iload_n G.1 G.2.1 dX1_isIn_5 rfl (lv_at hl 0 rfl) ?_
    refine lv_iload_n G.1 G.2.1 dX1_isIn_6 rfl (lv_at hl 2 rfl) ?_
    refine lv_icmp_gt (tgt := 14) G.1 G.2.1 dX1_isIn_7 (by decide) (fun h_7 => ?_) (fun h_7 => ?_)
    · refine lv_iconst (v := nI 0) G.1 G.2.1 dX1_isIn_14 (by decide) ?_
      exact W.zret G.1 G.2.1 G.2.2.1 rfl (fun t ht hW => ⟨_, rfl, by show nI _ = nI _; first | exact congrArg nI (gin_y (by assumption) (by assumption)) | exact congrArg nI (gin_lo (by assumption)) | exact congrArg nI (gin_hi (by assumption)), ht⟩) (fun q h => nomatch h) dX1_isIn_15 G.2.2.2.2.2.2
    · refine lv_iconst (v := nI 1) G.1 G.2.1 dX1_isIn_10 (by decide) ?_
      refine lv_goto (tgt := 15) G.1 G.2.1 dX1_isIn_11 (by decide) ?_
      exact W.zret G.1 G.2.1 G.2.2.1 rfl (fun t ht hW => ⟨_, rfl, by show nI _ = nI _; first | exact congrArg nI (gin_y (by assumption) (by assumption)) | exact congrArg nI (gin_lo (by assumption)) | exact congrArg nI (gin_hi (by assumption)), ht⟩) (fun q h => nomatch h) dX1_isIn_15 G.2.2.2.2.2.2
set_option maxRecDepth 100000 in
set_option maxHeartbeats 4000000 in
/-- isByte -/
theorem mX1_isByte (l : Launch) (x : Int32) : Met l yX1_isByte wsX1_isByte { frames := 1, cells := 0, slots := 0, locals := 22 } (va_Pc [.int x] (fun _ => True)) (vp_Si (fun r => r = nI (gbn (gb x 256)))) 0 0 (fun _ => False) := by
  refine gc_met [.int x] (by decide) rfl (Nat.le_of_ble_eq_true rfl) rfl ?_
  intro p e s m below meth c ls G hl _
  refine lv_iload_n G.1 G.2.1 dX1_isByte_0 rfl (lv_at hl 0 rfl) ?_
  refine lv_iconst (v := nI 0) G.1 G.2.1 dX1_isByte_1 (by decide) ?_
  refine lv_sipush (v := nI 255) G.1 G.2.1 dX1_isByte_2 (by decide) ?_
  refine gc_s (As := [.int x, .int (nI 0), .int (nI 255)]) (rest := []) G.fix (mX1_isIn l x (nI 0) (nI 255)) (va_cwS 3 G.2.2.2.2.2.1 gX1_isByte_X1_isIn rfl rfl rfl (by decide +kernel) ⟨Nat.le_of_ble_eq_true rfl, Nat.le_of_ble_eq_true rfl⟩) gc_blindT (fun _ _ _ => trivial) rfl hl.1 rfl (Nat.le_of_ble_eq_true rfl) dX1_isByte_5 (Nat.zero_le _) (Nat.zero_le _) (fun r hr => ?_)
  subst hr
  rw [gin_k (by decide)]
  exact W.zret G.1 G.2.1 G.2.2.1 (gp_nz (gbn_bit _)) (fun t ht hW => ⟨_, rfl, rfl, ht⟩) (fun q h => nomatch h) dX1_isByte_8 G.2.2.2.2.2.2
set_option maxRecDepth 100000 in
set_option maxHeartbeats 4000000 in
/-- isThird -/
theorem mX1_isThird (l : Launch) (x : Int32) : Met l yX1_isThird wsX1_isThird { frames := 1, cells := 0, slots := 0, locals := 22 } (va_Pc [.int x] (fun _ => True)) (vp_Si (fun r => r = nI (gbn (gb x 3)))) 0 0 (fun _ => False) := by
  refine gc_met [.int x] (by decide) rfl (Nat.le_of_ble_eq_true rfl) rfl ?_
  intro p e s m below meth c ls G hl _
  refine lv_iload_n G.1 G.2.1 dX1_isThird_0 rfl (lv_at hl 0 rfl) ?_
  refine lv_iconst (v := nI 0) G.1 G.2.1 dX1_isThird_1 (by decide) ?_
  refine lv_iconst (v := nI 2) G.1 G.2.1 dX1_isThird_2 (by decide) ?_
  refine gc_s (As := [.int x, .int (nI 0), .int (nI 2)]) (rest := []) G.fix (mX1_isIn l x (nI 0) (nI 2)) (va_cwS 3 G.2.2.2.2.2.1 gX1_isThird_X1_isIn rfl rfl rfl (by decide +kernel) ⟨Nat.le_of_ble_eq_true rfl, Nat.le_of_ble_eq_true rfl⟩) gc_blindT (fun _ _ _ => trivial) rfl hl.1 rfl (Nat.le_of_ble_eq_true rfl) dX1_isThird_3 (Nat.zero_le _) (Nat.zero_le _) (fun r hr => ?_)
  subst hr
  rw [gin_k (by decide)]
  exact W.zret G.1 G.2.1 G.2.2.1 (gp_nz (gbn_bit _)) (fun t ht hW => ⟨_, rfl, rfl, ht⟩) (fun q h => nomatch h) dX1_isThird_6 G.2.2.2.2.2.2
set_option maxRecDepth 100000 in
set_option maxHeartbeats 4000000 in
/-- isPixel -/
theorem mX1_isPixel (l : Launch) (x : Int32) : Met l yX1_isPixel wsX1_isPixel { frames := 1, cells := 0, slots := 0, locals := 22 } (va_Pc [.int x] (fun _ => True)) (vp_Si (fun r => r = nI (gbn (gb x 6)))) 0 0 (fun _ => False) := by
  refine gc_met [.int x] (by decide) rfl (Nat.le_of_ble_eq_true rfl) rfl ?_
  intro p e s m below meth c ls G hl _
  refine lv_iload_n G.1 G.2.1 dX1_isPixel_0 rfl (lv_at hl 0 rfl) ?_
  refine lv_iconst (v := nI 0) G.1 G.2.1 dX1_isPixel_1 (by decide) ?_
  refine lv_iconst (v := nI 5) G.1 G.2.1 dX1_isPixel_2 (by decide) ?_
  refine gc_s (As := [.int x, .int (nI 0), .int (nI 5)]) (rest := []) G.fix (mX1_isIn l x (nI 0) (nI 5)) (va_cwS 3 G.2.2.2.2.2.1 gX1_isPixel_X1_isIn rfl rfl rfl (by decide +kernel) ⟨Nat.le_of_ble_eq_true rfl, Nat.le_of_ble_eq_true rfl⟩) gc_blindT (fun _ _ _ => trivial) rfl hl.1 rfl (Nat.le_of_ble_eq_true rfl) dX1_isPixel_3 (Nat.zero_le _) (Nat.zero_le _) (fun r hr => ?_)
  subst hr
  rw [gin_k (by decide)]
  exact W.zret G.1 G.2.1 G.2.2.1 (gp_nz (gbn_bit _)) (fun t ht hW => ⟨_, rfl, rfl, ht⟩) (fun q h => nomatch h) dX1_isPixel_6 G.2.2.2.2.2.2
set_option maxRecDepth 100000 in
set_option maxHeartbeats 4000000 in
/-- a place -/
theorem mX1_placeAt (l : Launch) (k : Nat) (hk : k ≤ 4) : Met l yX1_placeAt wsX1_placeAt { frames := 0, cells := 0, slots := 0, locals := 0 } (va_Pc [.int (nI k)] (fun _ => True)) (vp_Si (fun r => r = nI (sp_vop k))) 0 0 (fun _ => False) := by
  refine gc_met [.int (nI k)] (by decide) rfl (Nat.le_of_ble_eq_true rfl) rfl ?_
  intro p e s m below meth c ls G hl _
  refine lv_iload_n G.1 G.2.1 dX1_placeAt_0 rfl (lv_at hl 0 rfl) ?_
  refine lv_iconst (v := nI 4) G.1 G.2.1 dX1_placeAt_1 (by decide) ?_
  refine gn_ne G (by first | omega | assumption) (by first | omega | assumption) (tgt := 11) dX1_placeAt_2 (by decide) (fun h_2 => ?_) (fun h_2 => ?_)
  · refine lv_bipush (v := nI 64) G.1 G.2.1 dX1_placeAt_11 (by decide) ?_
    refine lv_iload_n G.1 G.2.1 dX1_placeAt_13 rfl (lv_at hl 0 rfl) ?_
    refine gn_imul G dX1_placeAt_14 ?_
    exact W.iret G.1 G.2.1 G.2.2.1 (fun t ht hW => ⟨_, rfl, by show nI _ = nI _; unfold sp_vop; congr 1; omega, ht⟩) (fun q h => nomatch h) dX1_placeAt_15 G.2.2.2.2.2.2
  · refine lv_sipush (v := nI 255) G.1 G.2.1 dX1_placeAt_5 (by decide) ?_
    refine lv_goto (tgt := 15) G.1 G.2.1 dX1_placeAt_8 (by decide) ?_
    exact W.iret G.1 G.2.1 G.2.2.1 (fun t ht hW => ⟨_, rfl, by show nI _ = nI _; unfold sp_vop; congr 1; omega, ht⟩) (fun q h => nomatch h) dX1_placeAt_15 G.2.2.2.2.2.2
set_option maxRecDepth 100000 in
set_option maxHeartbeats 4000000 in
/-- a quotient rounded down -/
theorem mX1_quotient (l : Launch) (x y : Int32) (hx : -1073741824 ≤ x.toInt ∧ x.toInt < 1073741824) (hy : 0 < y.toInt) : Met l yX1_quotient wsX1_quotient { frames := 0, cells := 0, slots := 0, locals := 0 } (va_Pc [.int x, .int y] (fun _ => True)) (vp_Si (fun r => r.toInt = x.toInt / y.toInt)) 0 0 (fun _ => False) := by
  refine gc_met [.int x, .int y] (by decide) rfl (Nat.le_of_ble_eq_true rfl) rfl ?_
  intro p e s m below meth c ls G hl _
  have hy0 : ¬ y = 0 := fun z => by rw [z] at hy; exact absurd hy (by decide)
  obtain ⟨e1, e2, e3⟩ := gp_divT hx hy
  obtain ⟨f1, f2, f3⟩ := gp_floor (a := x.toInt) hy
  refine lv_iload_n G.1 G.2.1 dX1_quotient_0 rfl (lv_at hl 0 rfl) ?_
  refine lv_iload_n G.1 G.2.1 dX1_quotient_1 rfl (lv_at hl 1 rfl) ?_
  refine lv_idiv G.1 G.2.1 dX1_quotient_2 hy0 ?_
  refine lv_topi (fun d ed => ?_)
  have ed1 : d.toInt = x.toInt.tdiv y.toInt := by rw [ed]; exact e1
  refine lv_istore_n (lv' := [(2, .int d), (0, .int x), (1, .int y)]) G.1 G.2.1 dX1_quotient_3 rfl hl (by decide) rfl (fun ls hl => ?_)
  have em : (d * y).toInt = x.toInt.tdiv y.toInt * y.toInt := by
    rw [Int32.toInt_mul, ed1]
    have hb := gp_mulback x.toInt y.toInt hx hy
    exact fb_bmod (by omega) (by omega)
  refine lv_iload_n G.1 G.2.1 dX1_quotient_4 rfl (lv_at hl 0 rfl) ?_
  refine lv_iload_n G.1 G.2.1 dX1_quotient_5 rfl (lv_at hl 2 rfl) ?_
  refine lv_imul G.1 G.2.1 dX1_quotient_6 ?_
  refine lv_iload_n G.1 G.2.1 dX1_quotient_7 rfl (lv_at hl 1 rfl) ?_
  refine lv_icmp_le (tgt := 17) G.1 G.2.1 dX1_quotient_8 (by decide) (fun h => ?_) (fun h => ?_)
  · have h1 := Int32.le_iff_toInt_le.mp h
    rw [em] at h1
    have hq : x.toInt.tdiv y.toInt = x.toInt / y.toInt := by
      rcases (by omega : x.toInt < 0 ∨ 0 ≤ x.toInt) with g | g
      · rcases Int.decEq (x.toInt.tdiv y.toInt * y.toInt) x.toInt with g2 | g2
        · exact absurd (f3 g g2).2 (by omega)
        · exact f2 g g2
      · exact (f1 g).1
    refine lv_iload_n G.1 G.2.1 dX1_quotient_17 rfl (lv_at hl 0 rfl) ?_
    exact W.iret G.1 G.2.1 G.2.2.1 (fun t ht hW => ⟨_, rfl, by show d.toInt = _; rw [ed1]; exact hq, ht⟩) (fun q h => nomatch h) dX1_quotient_18 G.2.2.2.2.2.2
  · have h1 : ¬ (d * y).toInt ≤ x.toInt := fun z => h (Int32.le_iff_toInt_le.mpr z)
    rw [em] at h1
    have hq : x.toInt.tdiv y.toInt - 1 = x.toInt / y.toInt := by
      rcases (by omega : x.toInt < 0 ∨ 0 ≤ x.toInt) with g | g
      · exact (f3 g (by omega)).1
      · exact absurd (f1 g).2 (by omega)
    refine lv_iload_n G.1 G.2.1 dX1_quotient_11 rfl (lv_at hl 0 rfl) ?_
    refine lv_iconst (v := 1) G.1 G.2.1 dX1_quotient_12 (by decide) ?_
    refine lv_isub G.1 G.2.1 dX1_quotient_13 ?_
    refine lv_goto (tgt := 18) G.1 G.2.1 dX1_quotient_14 (by decide) ?_
    exact W.iret G.1 G.2.1 G.2.2.1 (fun t ht hW => ⟨_, rfl, by show (d - 1).toInt = _; rw [fb_subI (by rw [ed1]; show -2147483648 ≤ x.toInt.tdiv y.toInt - 1; omega) (by rw [ed1]; show x.toInt.tdiv y.toInt - 1 < 2147483648; omega), ed1]; exact hq, ht⟩) (fun q h => nomatch h) dX1_quotient_18 G.2.2.2.2.2.2
set_option maxRecDepth 100000 in
set_option maxHeartbeats 4000000 in
/-- how far apart -/
theorem mX1_apart (l : Launch) (a b : Nat) (ha : a ≤ 255) (hb : b ≤ 255) : Met l yX1_apart wsX1_apart { frames := 0, cells := 0, slots := 0, locals := 0 } (va_Pc [.int (nI a), .int (nI b)] (fun _ => True)) (vp_Si (fun r => r = nI (sp_ap a b))) 0 0 (fun _ => False) := by
  refine gc_met [.int (nI a), .int (nI b)] (by decide) rfl (Nat.le_of_ble_eq_true rfl) rfl ?_
  intro p e s m below meth c ls G hl _
  refine lv_iload_n G.1 G.2.1 dX1_apart_0 rfl (lv_at hl 0 rfl) ?_
  refine lv_iload_n G.1 G.2.1 dX1_apart_1 rfl (lv_at hl 1 rfl) ?_
  refine gn_le G (by first | omega | assumption) (by first | omega | assumption) (tgt := 11) dX1_apart_2 (by decide) (fun h_2 => ?_) (fun h_2 => ?_)
  · refine lv_iload_n G.1 G.2.1 dX1_apart_11 rfl (lv_at hl 1 rfl) ?_
    refine lv_iload_n G.1 G.2.1 dX1_apart_12 rfl (lv_at hl 0 rfl) ?_
    refine gn_isub G dX1_apart_13 (by first | omega | assumption) ?_
    exact W.iret G.1 G.2.1 G.2.2.1 (fun t ht hW => ⟨_, rfl, by show nI _ = nI _; unfold sp_ap; congr 1; split <;> omega, ht⟩) (fun q h => nomatch h) dX1_apart_14 G.2.2.2.2.2.2
  · refine lv_iload_n G.1 G.2.1 dX1_apart_5 rfl (lv_at hl 0 rfl) ?_
    refine lv_iload_n G.1 G.2.1 dX1_apart_6 rfl (lv_at hl 1 rfl) ?_
    refine gn_isub G dX1_apart_7 (by first | omega | assumption) ?_
    refine lv_goto (tgt := 14) G.1 G.2.1 dX1_apart_8 (by decide) ?_
    exact W.iret G.1 G.2.1 G.2.2.1 (fun t ht hW => ⟨_, rfl, by show nI _ = nI _; unfold sp_ap; congr 1; split <;> omega, ht⟩) (fun q h => nomatch h) dX1_apart_14 G.2.2.2.2.2.2
set_option maxRecDepth 100000 in
set_option maxHeartbeats 4000000 in
/-- the number of the exception -/
theorem mX1_thrown (l : Launch) (D : va_G) (q : Nat → Nat) (cI cZ : ClassId) (N : Nat → Nat) (S : Nat → Nat → Nat) (fv : Nat → Nat) (th : Nat) (A : Nat → Prop) : Met l yX1_thrown wsX1_thrown { frames := 0, cells := 0, slots := 0, locals := 0 } (va_Pc [.ref (q 0)] (fun U => mAt D q cI cZ N S fv th A U U.heap)) (vp_Si (fun r => r = nI th)) 0 0 (fun _ => False) := by
  refine gc_met [.ref (q 0)] (by decide) rfl (Nat.le_of_ble_eq_true rfl) rfl ?_
  intro p e s m below meth c ls G hl hX
  have hS : va_S A s.heap s.heap [] := va_S.rf
  refine lv_aload_n G.1 G.2.1 dX1_thrown_0 rfl (lv_at hl 0 rfl) ?_
  refine gm_get G hX (by decide +kernel) 15 (by decide) (by decide +kernel) rfl rfl rfl dX1_thrown_1 ?_
  exact W.iret G.1 G.2.1 G.2.2.1 (fun t ht hW => ⟨_, rfl, rfl, ht⟩) (fun q h => nomatch h) dX1_thrown_4 G.2.2.2.2.2.2
set_option maxRecDepth 100000 in
set_option maxHeartbeats 4000000 in
/-- isProfile -/
theorem mX1_isProfile (l : Launch) (D : va_G) (q : Nat → Nat) (cI cZ : ClassId) (N : Nat → Nat) (S : Nat → Nat → Nat) (fv : Nat → Nat) (th : Nat) (A : Nat → Prop) (hok : sp_ok N S) (x : Int32) : Met l yX1_isProfile wsX1_isProfile { frames := 1, cells := 0, slots := 0, locals := 22 } (va_Pc [.ref (q 0), .int x] (fun U => mAt D q cI cZ N S fv th A U U.heap)) (vp_Si (fun r => r = nI (gbn (gb x (N 0))))) 0 0 (fun _ => False) := by
  refine gc_met [.ref (q 0), .int x] (by decide) rfl (Nat.le_of_ble_eq_true rfl) rfl ?_
  intro p e s m below meth c ls G hl hX
  have hS : va_S A s.heap s.heap [] := va_S.rf
  have hok9 := hok
  obtain ⟨⟨ok0, ok5⟩, ok1, ok2, ok3, ok4, ok6, ok7, ok8, ok12, ok13, ok14⟩ := hok9
  refine lv_iload_n G.1 G.2.1 dX1_isProfile_0 rfl (lv_at hl 1 rfl) ?_
  refine lv_iconst (v := nI 0) G.1 G.2.1 dX1_isProfile_1 (by decide) ?_
  refine lv_aload_n G.1 G.2.1 dX1_isProfile_2 rfl (lv_at hl 0 rfl) ?_
  refine gm_get G hX (by decide +kernel) 0 (by decide) (by decide +kernel) rfl rfl rfl dX1_isProfile_3 ?_
  refine lv_iconst (v := nI 1) G.1 G.2.1 dX1_isProfile_6 (by decide) ?_
  refine lv_isub G.1 G.2.1 dX1_isProfile_7 ?_
  refine gc_s (As := [.int x, .int (nI 0), .int (nI (N 0) - nI 1)]) (rest := []) G.fix (mX1_isIn l x (nI 0) (nI (N 0) - nI 1)) (va_cwS 3 G.2.2.2.2.2.1 gX1_isProfile_X1_isIn rfl rfl rfl (by decide +kernel) ⟨Nat.le_of_ble_eq_true rfl, Nat.le_of_ble_eq_true rfl⟩) gc_blindT (fun _ _ _ => trivial) rfl hl.1 rfl (Nat.le_of_ble_eq_true rfl) dX1_isProfile_8 (Nat.zero_le _) (Nat.zero_le _) (fun r hr => ?_)
  subst hr
  rw [gin_n (by omega)]
  exact W.zret G.1 G.2.1 G.2.2.1 (gp_nz (gbn_bit _)) (fun t ht hW => ⟨_, rfl, rfl, ht⟩) (fun q h => nomatch h) dX1_isProfile_11 G.2.2.2.2.2.2
set_option maxRecDepth 100000 in
set_option maxHeartbeats 4000000 in
/-- isChain -/
theorem mX1_isChain (l : Launch) (D : va_G) (q : Nat → Nat) (cI cZ : ClassId) (N : Nat → Nat) (S : Nat → Nat → Nat) (fv : Nat → Nat) (th : Nat) (A : Nat → Prop) (hok : sp_ok N S) (x : Int32) : Met l yX1_isChain wsX1_isChain { frames := 1, cells := 0, slots := 0, locals := 22 } (va_Pc [.ref (q 0), .int x] (fun U => mAt D q cI cZ N S fv th A U U.heap)) (vp_Si (fun r => r = nI (gbn (gb x (N 5))))) 0 0 (fun _ => False) := by
  refine gc_met [.ref (q 0), .int x] (by decide) rfl (Nat.le_of_ble_eq_true rfl) rfl ?_
  intro p e s m below meth c ls G hl hX
  have hS : va_S A s.heap s.heap [] := va_S.rf
  have hok9 := hok
  obtain ⟨⟨ok0, ok5⟩, ok1, ok2, ok3, ok4, ok6, ok7, ok8, ok12, ok13, ok14⟩ := hok9
  refine lv_iload_n G.1 G.2.1 dX1_isChain_0 rfl (lv_at hl 1 rfl) ?_
  refine lv_iconst (v := nI 0) G.1 G.2.1 dX1_isChain_1 (by decide) ?_
  refine lv_aload_n G.1 G.2.1 dX1_isChain_2 rfl (lv_at hl 0 rfl) ?_
  refine gm_get G hX (by decide +kernel) 5 (by decide) (by decide +kernel) rfl rfl rfl dX1_isChain_3 ?_
  refine lv_iconst (v := nI 1) G.1 G.2.1 dX1_isChain_6 (by decide) ?_
  refine lv_isub G.1 G.2.1 dX1_isChain_7 ?_
  refine gc_s (As := [.int x, .int (nI 0), .int (nI (N 5) - nI 1)]) (rest := []) G.fix (mX1_isIn l x (nI 0) (nI (N 5) - nI 1)) (va_cwS 3 G.2.2.2.2.2.1 gX1_isChain_X1_isIn rfl rfl rfl (by decide +kernel) ⟨Nat.le_of_ble_eq_true rfl, Nat.le_of_ble_eq_true rfl⟩) gc_blindT (fun _ _ _ => trivial) rfl hl.1 rfl (Nat.le_of_ble_eq_true rfl) dX1_isChain_8 (Nat.zero_le _) (Nat.zero_le _) (fun r hr => ?_)
  subst hr
  rw [gin_n (by omega)]
  exact W.zret G.1 G.2.1 G.2.2.1 (gp_nz (gbn_bit _)) (fun t ht hW => ⟨_, rfl, rfl, ht⟩) (fun q h => nomatch h) dX1_isChain_11 G.2.2.2.2.2.2
set_option maxRecDepth 100000 in
set_option maxHeartbeats 4000000 in
/-- may -/
theorem mX1_may (l : Launch) (D : va_G) (q : Nat → Nat) (cI cZ : ClassId) (N : Nat → Nat) (S : Nat → Nat → Nat) (fv : Nat → Nat) (th : Nat) (A : Nat → Prop) (ka : Nat) (ha : ka ≤ 1) : Met l yX1_may wsX1_may { frames := 0, cells := 0, slots := 0, locals := 0 } (va_Pc [.ref (q 0), .int (nI ka)] (fun U => mAt D q cI cZ N S fv th A U U.heap)) (gQd D q cI cZ N S (sp_m3 ka 1 1) (nI (sp_z (sp_m3 ka 1 1))) A) 0 0 A := by
  refine gc_met [.ref (q 0), .int (nI ka)] (by decide) rfl (Nat.le_of_ble_eq_true rfl) rfl ?_
  intro p e s m below meth c ls G hl hX
  have hS : va_S A s.heap s.heap [] := va_S.rf
  refine lv_aload_n G.1 G.2.1 dX1_may_0 rfl (lv_at hl 0 rfl) ?_
  refine lv_iload_n G.1 G.2.1 dX1_may_1 rfl (lv_at hl 1 rfl) ?_
  refine gn_eqz G (by first | omega | assumption) (tgt := 9) dX1_may_2 (by decide) (fun h_2 => ?_) (fun h_2 => ?_)
  · refine lv_iconst (v := nI 1) G.1 G.2.1 dX1_may_9 (by decide) ?_
    refine gm_put (k := 15) (v := 1) (N' := N) (th' := 1) G hX hS (by decide +kernel) (by decide) (by decide +kernel) rfl rfl (by decide +kernel) rfl (Nat.le_of_ble_eq_true rfl) rfl dX1_may_10 (fun H1 locs1 hX hS => ?_)
    refine lv_iload_n G.1 G.2.1 dX1_may_13 rfl (lv_at hl 1 rfl) ?_
    have eT : sp_m3 ka 1 1 = 1 := by unfold sp_m3; simp [h_2]
    have eR : sp_z (sp_m3 ka 1 1) = ka := by rw [eT]; unfold sp_z; (try simp only [*]); simp [h_2] <;> omega
    rw [eT] at eR ⊢
    rw [eR]
    exact W.zret G.1 G.2.1 G.2.2.1 (gp_nz (by first | exact Or.inl rfl | exact Or.inr rfl | omega)) (fun t ht hW => gQd_of hX hS ht) hS.2.2 dX1_may_14 G.2.2.2.2.2.2
  · refine lv_iconst (v := nI 0) G.1 G.2.1 dX1_may_5 (by decide) ?_
    refine lv_goto (tgt := 10) G.1 G.2.1 dX1_may_6 (by decide) ?_
    refine gm_put (k := 15) (v := 0) (N' := N) (th' := 0) G hX hS (by decide +kernel) (by decide) (by decide +kernel) rfl rfl (by decide +kernel) rfl (Nat.le_of_ble_eq_true rfl) rfl dX1_may_10 (fun H1 locs1 hX hS => ?_)
    refine lv_iload_n G.1 G.2.1 dX1_may_13 rfl (lv_at hl 1 rfl) ?_
    have eT : sp_m3 ka 1 1 = 0 := by unfold sp_m3; simp [h_2]
    have eR : sp_z (sp_m3 ka 1 1) = ka := by rw [eT]; unfold sp_z; (try simp only [*]); simp [h_2] <;> omega
    rw [eT] at eR ⊢
    rw [eR]
    exact W.zret G.1 G.2.1 G.2.2.1 (gp_nz (by first | exact Or.inl rfl | exact Or.inr rfl | omega)) (fun t ht hW => gQd_of hX hS ht) hS.2.2 dX1_may_14 G.2.2.2.2.2.2
set_option maxRecDepth 100000 in
set_option maxHeartbeats 4000000 in
/-- mayBoth -/
theorem mX1_mayBoth (l : Launch) (D : va_G) (q : Nat → Nat) (cI cZ : ClassId) (N : Nat → Nat) (S : Nat → Nat → Nat) (fv : Nat → Nat) (th : Nat) (A : Nat → Prop) (ka kb : Nat) (ha : ka < 2 ^ 31) (hb : kb < 2 ^ 31) : Met l yX1_mayBoth wsX1_mayBoth { frames := 0, cells := 0, slots := 0, locals := 0 } (va_Pc [.ref (q 0), .int (nI ka), .int (nI kb)] (fun U => mAt D q cI cZ N S fv th A U U.heap)) (gQd D q cI cZ N S (sp_m3 ka kb 1) (nI (sp_z (sp_m3 ka kb 1))) A) 0 0 A := by
  refine gc_met [.ref (q 0), .int (nI ka), .int (nI kb)] (by decide) rfl (Nat.le_of_ble_eq_true rfl) rfl ?_
  intro p e s m below meth c ls G hl hX
  have hS : va_S A s.heap s.heap [] := va_S.rf
  refine lv_aload_n G.1 G.2.1 dX1_mayBoth_0 rfl (lv_at hl 0 rfl) ?_
  refine lv_iload_n G.1 G.2.1 dX1_mayBoth_1 rfl (lv_at hl 1 rfl) ?_
  refine gn_nez G (by first | omega | assumption) (tgt := 9) dX1_mayBoth_2 (by decide) (fun h_2 => ?_) (fun h_2 => ?_)
  · refine lv_iload_n G.1 G.2.1 dX1_mayBoth_9 rfl (lv_at hl 2 rfl) ?_
    refine gn_nez G (by first | omega | assumption) (tgt := 17) dX1_mayBoth_10 (by decide) (fun h_10 => ?_) (fun h_10 => ?_)
    · refine lv_iconst (v := nI 0) G.1 G.2.1 dX1_mayBoth_17 (by decide) ?_
      refine gm_put (k := 15) (v := 0) (N' := N) (th' := 0) G hX hS (by decide +kernel) (by decide) (by decide +kernel) rfl rfl (by decide +kernel) rfl (Nat.le_of_ble_eq_true rfl) rfl dX1_mayBoth_18 (fun H1 locs1 hX hS => ?_)
      refine lv_aload_n G.1 G.2.1 dX1_mayBoth_21 rfl (lv_at hl 0 rfl) ?_
      refine gm_get G hX (by decide +kernel) 15 (by decide) (by decide +kernel) rfl rfl rfl dX1_mayBoth_22 ?_
      refine gn_nez G (by decide) (tgt := 32) dX1_mayBoth_25 (by decide) (fun h_25 => absurd h_25 (by decide)) (fun h_25 => ?_)
      refine lv_iconst (v := nI 1) G.1 G.2.1 dX1_mayBoth_28 (by decide) ?_
      refine lv_goto (tgt := 33) G.1 G.2.1 dX1_mayBoth_29 (by decide) ?_
      have eT : sp_m3 ka kb 1 = 0 := by unfold sp_m3; simp [h_2, h_10]
      have eR : sp_z (sp_m3 ka kb 1) = 1 := by rw [eT]; rfl
      rw [eT] at eR ⊢
      rw [eR]
      exact W.zret G.1 G.2.1 G.2.2.1 (gp_nz (by first | exact Or.inl rfl | exact Or.inr rfl | omega)) (fun t ht hW => gQd_of hX hS ht) hS.2.2 dX1_mayBoth_33 G.2.2.2.2.2.2
    · refine lv_iconst (v := nI 2) G.1 G.2.1 dX1_mayBoth_13 (by decide) ?_
      refine lv_goto (tgt := 18) G.1 G.2.1 dX1_mayBoth_14 (by decide) ?_
      refine gm_put (k := 15) (v := 2) (N' := N) (th' := 2) G hX hS (by decide +kernel) (by decide) (by decide +kernel) rfl rfl (by decide +kernel) rfl (Nat.le_of_ble_eq_true rfl) rfl dX1_mayBoth_18 (fun H1 locs1 hX hS => ?_)
      refine lv_aload_n G.1 G.2.1 dX1_mayBoth_21 rfl (lv_at hl 0 rfl) ?_
      refine gm_get G hX (by decide +kernel) 15 (by decide) (by decide +kernel) rfl rfl rfl dX1_mayBoth_22 ?_
      refine gn_nez G (by decide) (tgt := 32) dX1_mayBoth_25 (by decide) (fun h_25 => ?_) (fun h_25 => absurd h_25 (by decide))
      refine lv_iconst (v := nI 0) G.1 G.2.1 dX1_mayBoth_32 (by decide) ?_
      have eT : sp_m3 ka kb 1 = 2 := by unfold sp_m3; simp [h_2, h_10]
      have eR : sp_z (sp_m3 ka kb 1) = 0 := by rw [eT]; rfl
      rw [eT] at eR ⊢
      rw [eR]
      exact W.zret G.1 G.2.1 G.2.2.1 (gp_nz (by first | exact Or.inl rfl | exact Or.inr rfl | omega)) (fun t ht hW => gQd_of hX hS ht) hS.2.2 dX1_mayBoth_33 G.2.2.2.2.2.2
  · refine lv_iconst (v := nI 1) G.1 G.2.1 dX1_mayBoth_5 (by decide) ?_
    refine lv_goto (tgt := 18) G.1 G.2.1 dX1_mayBoth_6 (by decide) ?_
    refine gm_put (k := 15) (v := 1) (N' := N) (th' := 1) G hX hS (by decide +kernel) (by decide) (by decide +kernel) rfl rfl (by decide +kernel) rfl (Nat.le_of_ble_eq_true rfl) rfl dX1_mayBoth_18 (fun H1 locs1 hX hS => ?_)
    refine lv_aload_n G.1 G.2.1 dX1_mayBoth_21 rfl (lv_at hl 0 rfl) ?_
    refine gm_get G hX (by decide +kernel) 15 (by decide) (by decide +kernel) rfl rfl rfl dX1_mayBoth_22 ?_
    refine gn_nez G (by decide) (tgt := 32) dX1_mayBoth_25 (by decide) (fun h_25 => ?_) (fun h_25 => absurd h_25 (by decide))
    refine lv_iconst (v := nI 0) G.1 G.2.1 dX1_mayBoth_32 (by decide) ?_
    have eT : sp_m3 ka kb 1 = 1 := by unfold sp_m3; simp [h_2]
    have eR : sp_z (sp_m3 ka kb 1) = 0 := by rw [eT]; rfl
    rw [eT] at eR ⊢
    rw [eR]
    exact W.zret G.1 G.2.1 G.2.2.1 (gp_nz (by first | exact Or.inl rfl | exact Or.inr rfl | omega)) (fun t ht hW => gQd_of hX hS ht) hS.2.2 dX1_mayBoth_33 G.2.2.2.2.2.2
set_option maxRecDepth 100000 in
set_option maxHeartbeats 4000000 in
/-- mayAll -/
theorem mX1_mayAll (l : Launch) (D : va_G) (q : Nat → Nat) (cI cZ : ClassId) (N : Nat → Nat) (S : Nat → Nat → Nat) (fv : Nat → Nat) (th : Nat) (A : Nat → Prop) (ka kb kc : Nat) (ha : ka < 2 ^ 31) (hb : kb < 2 ^ 31) (hc : kc < 2 ^ 31) : Met l yX1_mayAll wsX1_mayAll { frames := 0, cells := 0, slots := 0, locals := 0 } (va_Pc [.ref (q 0), .int (nI ka), .int (nI kb), .int (nI kc)] (fun U => mAt D q cI cZ N S fv th A U U.heap)) (gQd D q cI cZ N S (sp_m3 ka kb kc) (nI (sp_z (sp_m3 ka kb kc))) A) 0 0 A := by
  refine gc_met [.ref (q 0), .int (nI ka), .int (nI kb), .int (nI kc)] (by decide) rfl (Nat.le_of_ble_eq_true rfl) rfl ?_
  intro p e s m below meth c ls G hl hX
  have hS : va_S A s.heap s.heap [] := va_S.rf
  refine lv_aload_n G.1 G.2.1 dX1_mayAll_0 rfl (lv_at hl 0 rfl) ?_
  refine lv_iload_n G.1 G.2.1 dX1_mayAll_1 rfl (lv_at hl 1 rfl) ?_
  refine gn_nez G (by first | omega | assumption) (tgt := 9) dX1_mayAll_2 (by decide) (fun h_2 => ?_) (fun h_2 => ?_)
  · refine lv_iload_n G.1 G.2.1 dX1_mayAll_9 rfl (lv_at hl 2 rfl) ?_
    refine gn_nez G (by first | omega | assumption) (tgt := 17) dX1_mayAll_10 (by decide) (fun h_10 => ?_) (fun h_10 => ?_)
    · refine lv_iload_n G.1 G.2.1 dX1_mayAll_17 rfl (lv_at hl 3 rfl) ?_
      refine gn_nez G (by first | omega | assumption) (tgt := 25) dX1_mayAll_18 (by decide) (fun h_18 => ?_) (fun h_18 => ?_)
      · refine lv_iconst (v := nI 0) G.1 G.2.1 dX1_mayAll_25 (by decide) ?_
        refine gm_put (k := 15) (v := 0) (N' := N) (th' := 0) G hX hS (by decide +kernel) (by decide) (by decide +kernel) rfl rfl (by decide +kernel) rfl (Nat.le_of_ble_eq_true rfl) rfl dX1_mayAll_26 (fun H1 locs1 hX hS => ?_)
        refine lv_aload_n G.1 G.2.1 dX1_mayAll_29 rfl (lv_at hl 0 rfl) ?_
        refine gm_get G hX (by decide +kernel) 15 (by decide) (by decide +kernel) rfl rfl rfl dX1_mayAll_30 ?_
        refine gn_nez G (by decide) (tgt := 40) dX1_mayAll_33 (by decide) (fun h_33 => absurd h_33 (by decide)) (fun h_33 => ?_)
        refine lv_iconst (v := nI 1) G.1 G.2.1 dX1_mayAll_36 (by decide) ?_
        refine lv_goto (tgt := 41) G.1 G.2.1 dX1_mayAll_37 (by decide) ?_
        have eT : sp_m3 ka kb kc = 0 := by unfold sp_m3; simp [h_2, h_10, h_18]
        have eR : sp_z (sp_m3 ka kb kc) = 1 := by rw [eT]; rfl
        rw [eT] at eR ⊢
        rw [eR]
        exact W.zret G.1 G.2.1 G.2.2.1 (gp_nz (by first | exact Or.inl rfl | exact Or.inr rfl | omega)) (fun t ht hW => gQd_of hX hS ht) hS.2.2 dX1_mayAll_41 G.2.2.2.2.2.2
      · refine lv_iconst (v := nI 3) G.1 G.2.1 dX1_mayAll_21 (by decide) ?_
        refine lv_goto (tgt := 26) G.1 G.2.1 dX1_mayAll_22 (by decide) ?_
        refine gm_put (k := 15) (v := 3) (N' := N) (th' := 3) G hX hS (by decide +kernel) (by decide) (by decide +kernel) rfl rfl (by decide +kernel) rfl (Nat.le_of_ble_eq_true rfl) rfl dX1_mayAll_26 (fun H1 locs1 hX hS => ?_)
        refine lv_aload_n G.1 G.2.1 dX1_mayAll_29 rfl (lv_at hl 0 rfl) ?_
        refine gm_get G hX (by decide +kernel) 15 (by decide) (by decide +kernel) rfl rfl rfl dX1_mayAll_30 ?_
        refine gn_nez G (by decide) (tgt := 40) dX1_mayAll_33 (by decide) (fun h_33 => ?_) (fun h_33 => absurd h_33 (by decide))
        refine lv_iconst (v := nI 0) G.1 G.2.1 dX1_mayAll_40 (by decide) ?_
        have eT : sp_m3 ka kb kc = 3 := by unfold sp_m3; simp [h_2, h_10, h_18]
        have eR : sp_z (sp_m3 ka kb kc) = 0 := by rw [eT]; rfl
        rw [eT] at eR ⊢
        rw [eR]
        exact W.zret G.1 G.2.1 G.2.2.1 (gp_nz (by first | exact Or.inl rfl | exact Or.inr rfl | omega)) (fun t ht hW => gQd_of hX hS ht) hS.2.2 dX1_mayAll_41 G.2.2.2.2.2.2
    · refine lv_iconst (v := nI 2) G.1 G.2.1 dX1_mayAll_13 (by decide) ?_
      refine lv_goto (tgt := 26) G.1 G.2.1 dX1_mayAll_14 (by decide) ?_
      refine gm_put (k := 15) (v := 2) (N' := N) (th' := 2) G hX hS (by decide +kernel) (by decide) (by decide +kernel) rfl rfl (by decide +kernel) rfl (Nat.le_of_ble_eq_true rfl) rfl dX1_mayAll_26 (fun H1 locs1 hX hS => ?_)
      refine lv_aload_n G.1 G.2.1 dX1_mayAll_29 rfl (lv_at hl 0 rfl) ?_
      refine gm_get G hX (by decide +kernel) 15 (by decide) (by decide +kernel) rfl rfl rfl dX1_mayAll_30 ?_
      refine gn_nez G (by decide) (tgt := 40) dX1_mayAll_33 (by decide) (fun h_33 => ?_) (fun h_33 => absurd h_33 (by decide))
      refine lv_iconst (v := nI 0) G.1 G.2.1 dX1_mayAll_40 (by decide) ?_
      have eT : sp_m3 ka kb kc = 2 := by unfold sp_m3; simp [h_2, h_10]
      have eR : sp_z (sp_m3 ka kb kc) = 0 := by rw [eT]; rfl
      rw [eT] at eR ⊢
      rw [eR]
      exact W.zret G.1 G.2.1 G.2.2.1 (gp_nz (by first | exact Or.inl rfl | exact Or.inr rfl | omega)) (fun t ht hW => gQd_of hX hS ht) hS.2.2 dX1_mayAll_41 G.2.2.2.2.2.2
  · refine lv_iconst (v := nI 1) G.1 G.2.1 dX1_mayAll_5 (by decide) ?_
    refine lv_goto (tgt := 26) G.1 G.2.1 dX1_mayAll_6 (by decide) ?_
    refine gm_put (k := 15) (v := 1) (N' := N) (th' := 1) G hX hS (by decide +kernel) (by decide) (by decide +kernel) rfl rfl (by decide +kernel) rfl (Nat.le_of_ble_eq_true rfl) rfl dX1_mayAll_26 (fun H1 locs1 hX hS => ?_)
    refine lv_aload_n G.1 G.2.1 dX1_mayAll_29 rfl (lv_at hl 0 rfl) ?_
    refine gm_get G hX (by decide +kernel) 15 (by decide) (by decide +kernel) rfl rfl rfl dX1_mayAll_30 ?_
    refine gn_nez G (by decide) (tgt := 40) dX1_mayAll_33 (by decide) (fun h_33 => ?_) (fun h_33 => absurd h_33 (by decide))
    refine lv_iconst (v := nI 0) G.1 G.2.1 dX1_mayAll_40 (by decide) ?_
    have eT : sp_m3 ka kb kc = 1 := by unfold sp_m3; simp [h_2]
    have eR : sp_z (sp_m3 ka kb kc) = 0 := by rw [eT]; rfl
    rw [eT] at eR ⊢
    rw [eR]
    exact W.zret G.1 G.2.1 G.2.2.1 (gp_nz (by first | exact Or.inl rfl | exact Or.inr rfl | omega)) (fun t ht hW => gQd_of hX hS ht) hS.2.2 dX1_mayAll_41 G.2.2.2.2.2.2
end
