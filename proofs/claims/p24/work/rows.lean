section
-- ===== PART A: goes FIRST, ahead of the names: the tables' words, and 'selects' of the private methods out of them =====
/-- a private method of a class that the tables say can be made, by its rows of tables_1 -/
def lw_okq (q : MethodName × Nat) : Prop := (q.1.cls ≠ "java/lang/invoke/MethodHandle" ∧ q.1.cls ≠ "java/lang/invoke/VarHandle") ∧ Cond.instantiable q.1.cls q.2 ∈ tables_1 ∧ Cond.privateMethod q.1 ∈ tables_1 ∧ Cond.instanceMethod q.1 ∈ tables_1
theorem lw_p0 : lw_okq (⟨"java/lang/Throwable", "fillInStackTrace", "(I)Ljava/lang/Throwable;"⟩, 6) := ⟨⟨by decide +kernel, by decide +kernel⟩, List.mem_of_getElem? (i := 107) (by decide +kernel), List.mem_of_getElem? (i := 105) (by decide +kernel), List.mem_of_getElem? (i := 106) (by decide +kernel)⟩
theorem lw_p1 : lw_okq (⟨"GamutChain", "needProfile", "(I)V"⟩, 15) := ⟨⟨by decide +kernel, by decide +kernel⟩, List.mem_of_getElem? (i := 10) (by decide +kernel), List.mem_of_getElem? (i := 180) (by decide +kernel), List.mem_of_getElem? (i := 181) (by decide +kernel)⟩
theorem lw_p2 : lw_okq (⟨"GamutChain", "needFreeProfile", "(I)V"⟩, 15) := ⟨⟨by decide +kernel, by decide +kernel⟩, List.mem_of_getElem? (i := 10) (by decide +kernel), List.mem_of_getElem? (i := 224) (by decide +kernel), List.mem_of_getElem? (i := 225) (by decide +kernel)⟩
theorem lw_p3 : lw_okq (⟨"GamutChain", "profilesOf", "(I)I"⟩, 15) := ⟨⟨by decide +kernel, by decide +kernel⟩, List.mem_of_getElem? (i := 10) (by decide +kernel), List.mem_of_getElem? (i := 235) (by decide +kernel), List.mem_of_getElem? (i := 236) (by decide +kernel)⟩
theorem lw_p4 : lw_okq (⟨"GamutChain", "needChain", "(I)V"⟩, 15) := ⟨⟨by decide +kernel, by decide +kernel⟩, List.mem_of_getElem? (i := 10) (by decide +kernel), List.mem_of_getElem? (i := 263) (by decide +kernel), List.mem_of_getElem? (i := 264) (by decide +kernel)⟩
theorem lw_p5 : lw_okq (⟨"GamutChain", "needFreeChain", "(I)V"⟩, 15) := ⟨⟨by decide +kernel, by decide +kernel⟩, List.mem_of_getElem? (i := 10) (by decide +kernel), List.mem_of_getElem? (i := 268) (by decide +kernel), List.mem_of_getElem? (i := 269) (by decide +kernel)⟩
theorem lw_p6 : lw_okq (⟨"GamutChain", "tryJoining", "(I)I"⟩, 15) := ⟨⟨by decide +kernel, by decide +kernel⟩, List.mem_of_getElem? (i := 10) (by decide +kernel), List.mem_of_getElem? (i := 278) (by decide +kernel), List.mem_of_getElem? (i := 279) (by decide +kernel)⟩
theorem lw_p7 : lw_okq (⟨"GamutChain", "pass", "(III)I"⟩, 15) := ⟨⟨by decide +kernel, by decide +kernel⟩, List.mem_of_getElem? (i := 10) (by decide +kernel), List.mem_of_getElem? (i := 282) (by decide +kernel), List.mem_of_getElem? (i := 283) (by decide +kernel)⟩
theorem lw_p8 : lw_okq (⟨"GamutChain", "take", "(III)I"⟩, 15) := ⟨⟨by decide +kernel, by decide +kernel⟩, List.mem_of_getElem? (i := 10) (by decide +kernel), List.mem_of_getElem? (i := 286) (by decide +kernel), List.mem_of_getElem? (i := 287) (by decide +kernel)⟩
theorem lw_p9 : lw_okq (⟨"GamutChain", "bent", "(III)I"⟩, 15) := ⟨⟨by decide +kernel, by decide +kernel⟩, List.mem_of_getElem? (i := 10) (by decide +kernel), List.mem_of_getElem? (i := 290) (by decide +kernel), List.mem_of_getElem? (i := 291) (by decide +kernel)⟩
theorem lw_p10 : lw_okq (⟨"GamutChain", "differsFromKept", "(I)Z"⟩, 15) := ⟨⟨by decide +kernel, by decide +kernel⟩, List.mem_of_getElem? (i := 10) (by decide +kernel), List.mem_of_getElem? (i := 401) (by decide +kernel), List.mem_of_getElem? (i := 402) (by decide +kernel)⟩
theorem lw_p11 : lw_okq (⟨"GamutChain", "inked", "(III)I"⟩, 15) := ⟨⟨by decide +kernel, by decide +kernel⟩, List.mem_of_getElem? (i := 10) (by decide +kernel), List.mem_of_getElem? (i := 414) (by decide +kernel), List.mem_of_getElem? (i := 415) (by decide +kernel)⟩
def lw_privs_1 : List (MethodName × Nat) := [(⟨"java/lang/Throwable", "fillInStackTrace", "(I)Ljava/lang/Throwable;"⟩, 6), (⟨"GamutChain", "needProfile", "(I)V"⟩, 15), (⟨"GamutChain", "needFreeProfile", "(I)V"⟩, 15), (⟨"GamutChain", "profilesOf", "(I)I"⟩, 15), (⟨"GamutChain", "needChain", "(I)V"⟩, 15), (⟨"GamutChain", "needFreeChain", "(I)V"⟩, 15), (⟨"GamutChain", "tryJoining", "(I)I"⟩, 15), (⟨"GamutChain", "pass", "(III)I"⟩, 15), (⟨"GamutChain", "take", "(III)I"⟩, 15), (⟨"GamutChain", "bent", "(III)I"⟩, 15), (⟨"GamutChain", "differsFromKept", "(I)Z"⟩, 15), (⟨"GamutChain", "inked", "(III)I"⟩, 15)]
theorem lw_r1 : ∀ q ∈ lw_privs_1, lw_okq q := List.forall_mem_cons.mpr ⟨lw_p0, List.forall_mem_cons.mpr ⟨lw_p1, List.forall_mem_cons.mpr ⟨lw_p2, List.forall_mem_cons.mpr ⟨lw_p3, List.forall_mem_cons.mpr ⟨lw_p4, List.forall_mem_cons.mpr ⟨lw_p5, List.forall_mem_cons.mpr ⟨lw_p6, List.forall_mem_cons.mpr ⟨lw_p7, List.forall_mem_cons.mpr ⟨lw_p8, List.forall_mem_cons.mpr ⟨lw_p9, List.forall_mem_cons.mpr ⟨lw_p10, List.forall_mem_cons.mpr ⟨lw_p11, fun _ h => absurd h List.not_mem_nil⟩⟩⟩⟩⟩⟩⟩⟩⟩⟩⟩⟩
def lw_privs : List (MethodName × Nat) := lw_privs_1
def lw_tbl : List Cond := k2_sels lw_privs ++ tables_1
theorem lw_privs_ok : ∀ q ∈ lw_privs, lw_okq q := lw_r1
end
section
/-! ===== BEGIN words of one list among another's, by their places ===== -/
theorem goodIn_r {big : List Cond} (ws : List Cond) (ps : List Nat) (hp : ws = ps.filterMap (fun i => big[i]?)) (h : ws.all goodWord = true) : GoodIn big ws := by
  intro w hw
  have h1 := List.all_eq_true.mp h w hw
  rw [hp] at hw
  obtain ⟨i, -, hi⟩ := List.mem_filterMap.mp hw
  have hm : w ∈ big := by first | exact List.mem_of_getElem? hi | exact List.getElem?_mem hi
  exact ⟨hm, good_of_word h1⟩
theorem goodIn_app {big a b : List Cond} (ha : GoodIn big a) (hb : GoodIn big b) : GoodIn big (a ++ b) := fun w h => (List.mem_append.mp h).elim (ha w) (hb w)
theorem goodIn_ca {big a b : List Cond} {c : Cond} (ha : GoodIn big (c :: a)) (hb : GoodIn big b) : GoodIn big (c :: (a ++ b)) := fun w h => (List.mem_cons.mp h).elim (fun e => ha w (List.mem_cons.mpr (Or.inl e))) (fun h => (List.mem_append.mp h).elim (fun h => ha w (List.mem_cons.mpr (Or.inr h))) (hb w))
theorem goodIn_sub {big ws : List Cond} (hm : ∀ w ∈ ws, w ∈ big) (h : ws.all goodWord = true) : GoodIn big ws := fun w hw => ⟨hm w hw, good_of_word (List.all_eq_true.mp h w hw)⟩
/-! ===== END ===== -/

/-! ===== BEGIN exceptions that leave a method, and their catching by the caller (launches without stack traces) ===== -/
section VXA
/-! The laws vx_back, vx_callV, vx_callS, vx_callSW, vx_throw0, vx_throwS follow proofs of the library, with one case more: JvmDerived/Free/Laws.lean (Back.of_free), Shelf42/LK1.lean (callV, callS), Shelf/KitTraced.lean (throwNew0V, throwNewS). -/
/-- where a method has thrown q: the class by its name, the cell, what was written, the world -/
def vx_T (XC : String → State → State → Prop) (st : State) (q : Addr) (t : State) (mc ms : Nat) (free : Addr → Prop) : Prop :=
  ∃ (E : String) (ce : Cell) (L : List Loc), XC E st t ∧ t.heap[q]? = some ce ∧ ce.vm = .none ∧ st.vm.findClass E = some ce.cls ∧ st.WarmedH t.vm ∧ st.sameButNew ({ t with vm := st.vm } : State) L mc ms ∧ ∀ z ∈ L, free z.base
def vx_Q (Qc : Array Value → State → Outcome → State → Prop) (XC : String → State → State → Prop) (mc ms : Nat) (free : Addr → Prop) : Array Value → State → Outcome → State → Prop := fun a st o t =>
  (Qc a st o t ∧ ∃ L, FrameEnd st o t L mc ms ∧ ∀ q ∈ L, free q.base) ∨ ∃ q, o = .threw q ∧ vx_T XC st q t mc ms free
/-- a callee that returns or throws -/
def vx_Met (l : Launch) (y : MethodName) (ws : List Cond) (rm : Room) (Pc : Array Value → State → Prop) (Qc : Array Value → State → Outcome → State → Prop) (XC : String → State → State → Prop) (mc ms : Nat) (free : Addr → Prop) : Prop :=
  MetFree l y (headSpec ws rm) Pc (fun _ _ _ _ _ => True) (vx_Q Qc XC mc ms free)
def vx_Post (XC : String → State → State → Prop) (mc ms : Nat) (free : Addr → Prop) : Pt → Array Value → Addr → Pt → Prop := fun A a q B =>
  ∃ (g : JFrame) (mk : MethodId) (t : State) (L : List Loc) (E : String) (ce : Cell), B.U.heap = t.heap ∧ B.U.vm = t.vm ∧ XC E (A.U.calling g mk a) t ∧ t.heap[q]? = some ce ∧ ce.vm = .none ∧ A.U.vm.findClass E = some ce.cls ∧ B.locs = A.locs ++ L ∧ (∀ z ∈ L, free z.base) ∧ B.cells = A.cells + mc ∧ B.slots = A.slots + ms
def vx_Back (l : Launch) (R : Room) (p : Program) (e : Env) (below : List Frame) (s : State) (sargs : Array Value) (y : MethodName) (len W9 : Nat)
    (Pre : Pt → Array Value → Prop) (Post : Pt → Array Value → Option Value → Pt → Prop) (PostX : Pt → Array Value → Addr → Pt → Prop) : Prop :=
  ∀ (m : MethodId) (meth : Method) (c : Code) (A : Pt) (g : JFrame) (ig : Instr) (mk : MethodId) (a : Array Value),
    Stand p l e R s m sargs below meth c A.U A.locs A.cells A.slots → g.method = m → g.locals.size = c.maxLocals → decode c.code g.pc = .ok (ig, len) →
    2 * g.monitorRoom + (g.stack.map fun v => v.category).sum ≤ W9 → A.U.methodNamed? y = some mk → Pre A a →
    (∃ (v : Option Value) (B : Pt), Stand p l e R s m sargs below meth c B.U B.locs B.cells B.slots ∧ Post A a v B ∧
      Steps p.tables e below (doInvoke e (A.U.setTop g) [] mk a).1 (B.U.setTop { g with pc := g.pc + len, stack := v.toList ++ g.stack })) ∨
    (∃ (q : Addr) (B : Pt), Stand p l e R s m sargs below meth c B.U B.locs B.cells B.slots ∧ PostX A a q B ∧
      Steps p.tables e below (doInvoke e (A.U.setTop g) [] mk a).1 ((B.U.setTop g).pushFrame (.throwing q)))
section Payer
variable {l : Launch} {R : Room} {p : Program} {e : Env} {below : List Frame} {s : State} {sargs : Array Value} {y : MethodName} {len W9 : Nat}
theorem vx_back {ws : List Cond} {rm : Room} {Pc : Array Value → State → Prop} {Qc : Array Value → State → Outcome → State → Prop} {XC : String → State → State → Prop} {mc ms : Nat} {free : Addr → Prop} {bytes : ByteArray} {maxL : Nat} {ret : Option FieldType}
    (hM : vx_Met l y ws rm Pc Qc XC mc ms free) (hblind : FrameBlind Pc) (hrc : rm.cells = mc) (hrs : rm.slots = ms)
    (hframes : rm.frames + 1 ≤ R.frames) (hlocals : W9 + (maxL + 11) + rm.locals ≤ R.locals)
    (hws : ∀ w ∈ ws, ∀ a' U, s.WarmedH U.vm → w.before a' U = true) (hcode : Cond.code y bytes maxL ret ∈ ws) (hinit : ∀ a' U, s.WarmedH U.vm → (Cond.initialized y.cls).before a' U = true) :
    vx_Back l R p e below s sargs y len W9 (PreOf R mc ms Pc) (PostOf Qc mc ms free) (vx_Post XC mc ms free) := by
  intro m meth c A g ig mk a X hg hsize hdg hW hn hp
  have h1 : (headSpec ws rm).pre.before a A.U = true := atoms_intro fun w hw => hws w hw _ _ X.warmed
  have h2 : (Cond.code y bytes maxL ret).before a A.U = true := hws _ hcode _ _ X.warmed
  have h3 : (Cond.initialized y.cls).before a A.U = true := hinit _ _ X.warmed
  have h4 : A.cells + (headSpec ws rm).room.cells ≤ R.cells := by rw [show (headSpec ws rm).room.cells = mc from hrc]; exact hp.1
  have h5 : A.slots + (headSpec ws rm).room.slots ≤ R.slots := by rw [show (headSpec ws rm).room.slots = ms from hrs]; exact hp.2.1
  have hPc : Pc a (A.U.calling g mk a) := hblind _ _ _ _ hp.2.2
  obtain ⟨U, Ls, c0, s0⟩ := A
  dsimp only [Pt.U, Pt.locs, Pt.cells, Pt.slots] at h1 h2 h3 h4 h5 X hn hPc ⊢
  obtain ⟨methY, cY, hmY, hcY, -, hlY, -, -, -, -⟩ := Cond.code_spec hn h2
  obtain ⟨kY, hkY, -⟩ := className_of_methodNamed hn
  have hinitY : kY.init = .initialized := Cond.initialized_spec (findClass_of_methodNamed hn) hkY h3
  have h : At U g.method c below := by rw [hg]; exact X.here
  have hlocals9 : W9 + (maxL + 11) + (headSpec ws rm).room.locals ≤ R.locals := hlocals
  have happ : (headSpec ws rm).appliesLoose y e.platform (U.calling g mk a) = true :=
    Spec.appliesLoose_calling (g := g) h hdg hn hkY hinitY
      (X.room_calling (g := g) (R' := (headSpec ws rm).room) hsize hmY hcY hframes (by rw [hlY]; omega) h4 h5) h1
  obtain ⟨mid, hmid⟩ := h.above
  have hfr : (U.setTop g).frames = (.java g :: mid) ++ below := by rw [State.frames_setTop' g h.top, hmid]; rfl
  obtain ⟨o, s₂, hsteps, -, hend, hq⟩ := Steps.callFree hM p X.admits X.cas X.clock (acts := []) hfr happ hPc trivial
  have hq' : vx_Q Qc XC mc ms free a (U.calling g mk a) o s₂ := hq
  rw [State.frames_setTop' g h.top] at hend
  obtain ⟨g₀, hg0⟩ := Option.isSome_iff_exists.mp h.top
  obtain ⟨r, hr⟩ := State.topJava?_eq_some.mp hg0
  have hr' : (({ U with heap := s₂.heap, slotsUsed := s₂.slotsUsed } : State).setVm s₂.vm).frames = .java g₀ :: r := hr
  rcases hq' with ⟨hqc, L, hfe, hL⟩ | ⟨q, rfl, E, ce, L, hx, hce, hcv, hcl, hW₂, hsm, hL⟩
  · obtain ⟨⟨v, rfl⟩, hW₂, e2, q2, q3, q4, q5, q6⟩ := id hfe
    have e3 : s₂ = ({ (U.calling g mk a).setFrames s₂.frames with heap := s₂.heap, slotsUsed := s₂.slotsUsed } : State).setVm s₂.vm := by
      have : s₂ = ({ s₂ with vm := (U.calling g mk a).vm } : State).setVm s₂.vm := rfl
      rw [e2] at this
      exact this
    obtain ⟨c₂, i₂, len₂, hc₂, hd₂, hf₂⟩ := hend
    have hW' : U.WarmedH s₂.vm := hW₂
    have hcc : c₂ = c := by
      have h1 : s₂.code? g.method = U.code? g.method := by
        rw [State.code?_eq, State.code?_eq, hW'.alike.method?]
      exact Option.some.inj (hc₂.symm.trans (h1.trans h.code))
    subst hcc
    have hlen : len₂ = len := by rw [hdg] at hd₂; cases hd₂; rfl
    subst hlen
    have hs₂ : s₂ = (({ U with heap := s₂.heap, slotsUsed := s₂.slotsUsed } : State).setVm s₂.vm).setTop { g with pc := g.pc + len₂, stack := v.toList ++ g.stack } := by
      refine e3.trans ?_
      rw [hf₂, State.calling_eq h.top, State.setFrames_setFrames, State.setTop_of_frames _ hr', hr]
      rfl
    have hsame : U.sameButNew ({ U with heap := s₂.heap, slotsUsed := s₂.slotsUsed } : State) L mc ms := by
      refine ⟨?_, q2, q3, q4, q5, q6⟩
      obtain ⟨t, ht, -⟩ := State.frames_cons hr
      show ({ U with heap := s₂.heap, slotsUsed := s₂.slotsUsed } : State) = { U.setFrames U.frames with heap := s₂.heap, slotsUsed := s₂.slotsUsed }
      rw [State.setFrames_self ht]
    subst hg
    refine Or.inl ⟨v, ⟨(({ U with heap := s₂.heap, slotsUsed := s₂.slotsUsed } : State).setVm s₂.vm), Ls ++ L, c0 + mc, s0 + ms⟩,
      ⟨X.admits, X.cas, X.clock, X.frames, X.room, X.hears, X.method, X.code, (X.here.setHeapUsed s₂.heap s₂.slotsUsed).setVm hW'.alike, X.tail, State.WarmedH.trans X.warmed hW', X.limits, X.bytes, X.same.trans (hsame.setVm s.vm)⟩,
      ⟨g, mk, s₂, L, rfl, rfl, hqc, rfl, hL, rfl, rfl⟩, ?_⟩
    show Steps p.tables e below _ ((({ U with heap := s₂.heap, slotsUsed := s₂.slotsUsed } : State).setVm s₂.vm).setTop { g with pc := g.pc + len₂, stack := v.toList ++ g.stack })
    rw [← hs₂]
    exact hsteps
  · obtain ⟨e2, q2, q3, q4, q5, q6⟩ := id hsm
    have e3 : s₂ = ({ (U.calling g mk a).setFrames s₂.frames with heap := s₂.heap, slotsUsed := s₂.slotsUsed } : State).setVm s₂.vm := by
      have : s₂ = ({ s₂ with vm := (U.calling g mk a).vm } : State).setVm s₂.vm := rfl
      rw [e2] at this
      exact this
    have hf₂ : s₂.frames = .throwing q :: .java g :: U.frames.tail := hend
    have hW' : U.WarmedH s₂.vm := hW₂
    have hs₂ : s₂ = ((({ U with heap := s₂.heap, slotsUsed := s₂.slotsUsed } : State).setVm s₂.vm).setTop g).pushFrame (.throwing q) := by
      refine e3.trans ?_
      rw [hf₂, State.calling_eq h.top, State.setFrames_setFrames, State.pushFrame, State.frames_setTop _ hr', State.setTop_of_frames _ hr', State.setFrames_setFrames, hr]
      rfl
    have hsame : U.sameButNew ({ U with heap := s₂.heap, slotsUsed := s₂.slotsUsed } : State) L mc ms := by
      refine ⟨?_, q2, q3, q4, q5, q6⟩
      obtain ⟨t, ht, -⟩ := State.frames_cons hr
      show ({ U with heap := s₂.heap, slotsUsed := s₂.slotsUsed } : State) = { U.setFrames U.frames with heap := s₂.heap, slotsUsed := s₂.slotsUsed }
      rw [State.setFrames_self ht]
    subst hg
    refine Or.inr ⟨q, ⟨(({ U with heap := s₂.heap, slotsUsed := s₂.slotsUsed } : State).setVm s₂.vm), Ls ++ L, c0 + mc, s0 + ms⟩,
      ⟨X.admits, X.cas, X.clock, X.frames, X.room, X.hears, X.method, X.code, (X.here.setHeapUsed s₂.heap s₂.slotsUsed).setVm hW'.alike, X.tail, State.WarmedH.trans X.warmed hW', X.limits, X.bytes, X.same.trans (hsame.setVm s.vm)⟩,
      ⟨g, mk, s₂, L, E, ce, rfl, rfl, hx, hce, hcv, hcl, rfl, hL, rfl, rfl⟩, ?_⟩
    show Steps p.tables e below _ (((({ U with heap := s₂.heap, slotsUsed := s₂.slotsUsed } : State).setVm s₂.vm).setTop g).pushFrame (.throwing q))
    rw [← hs₂]
    exact hsteps
end Payer
section Calls
variable {p : Program} {l : Launch} {e : Env} {R : Room} {s : State} {m : MethodId} {args : Array Value} {below : List Frame} {meth : Method} {c : Code} {T : State} {locs : List Loc} {cells slots : Nat}
theorem vx_callV (X : Stand p l e R s m args below meth c T locs cells slots) (hexec : p.tables.exec = Jvm.exec) {own C : String} {index : Nat} {y : MethodName} {bytes : ByteArray} {maxL : Nat} {ret : Option FieldType}
    (hown : s.vm.findClass own = some m.cls) (hlink : (Cond.methodLink own index y).before args s = true) (hinst : (Cond.instanceMethod y).before args s = true) (hsel : (Cond.selects C y y).before args s = true)
    (hcode : (Cond.code y bytes maxL ret).before args s = true) (hy : y.cls ≠ "java/lang/invoke/MethodHandle" ∧ y.cls ≠ "java/lang/invoke/VarHandle")
    {W9 : Nat} {Pre : Pt → Array Value → Prop} {Post : Pt → Array Value → Option Value → Pt → Prop} {PostX : Pt → Array Value → Addr → Pt → Prop} (hK : vx_Back l R p e below s args y 3 W9 Pre Post PostX)
    {b : Addr} {cellB : Cell} (hcell : T.heap[b]? = some cellB) (hobj : cellB.vm.isStatics = false) (hcls : s.vm.findClass C = some cellB.cls)
    {g : JFrame} (hg : g.method = m) (hsize : g.locals.size = c.maxLocals) {argsL rest : List Value} (hlen : ∀ sig, parseMethodDescriptor y.desc = some sig → argsL.length = sig.parameters.length)
    (hstack : g.stack = argsL.reverse ++ .ref b :: rest) (hW : 2 * g.monitorRoom + (rest.map fun v => v.category).sum ≤ W9) (hdg : decode c.code g.pc = .ok (.invokevirtual index, 3))
    (hpre : ∀ vm₁, s.WarmedH vm₁ → Pre ⟨T.setVm vm₁, locs, cells, slots⟩ (Value.ref b :: argsL).toArray) :
    (∃ (v : Option Value) (vm₁ : Vm) (B : Pt), s.WarmedH vm₁ ∧ Stand p l e R s m args below meth c B.U B.locs B.cells B.slots ∧ Post ⟨T.setVm vm₁, locs, cells, slots⟩ (Value.ref b :: argsL).toArray v B ∧
      ∀ target, Steps p.tables e below (B.U.setTop { g with pc := g.pc + 3, stack := v.toList ++ rest }) target → Steps p.tables e below (T.setTop g) target) ∨
    (∃ (q : Addr) (vm₁ : Vm) (B : Pt), s.WarmedH vm₁ ∧ Stand p l e R s m args below meth c B.U B.locs B.cells B.slots ∧ PostX ⟨T.setVm vm₁, locs, cells, slots⟩ (Value.ref b :: argsL).toArray q B ∧
      Steps p.tables e below (T.setTop g) ((B.U.setTop { g with stack := rest }).pushFrame (.throwing q))) := by
  obtain ⟨mk, methM, hnamed, hmethM, hstM, habM⟩ := Cond.instanceMethod_spec hinst
  obtain ⟨methM', cM, hmethM', -, -, -, -, -, -, hsigM⟩ := Cond.code_spec hnamed hcode
  cases hmethM.symm.trans hmethM'
  obtain ⟨c2, r2, m2, q1, q2, q3, q4, kP, hkP, hkPi⟩ := Cond.selects_spec hsel
  cases hcls.symm.trans q1
  cases (State.methodFound?_of_named hnamed hy).symm.trans q2
  cases hnamed.symm.trans q3
  have hselP : selectMethod e.platform s.vm cellB.cls mk = .method mk := by rw [Launch.admits_selectMethod X.admits]; exact q4
  obtain ⟨vm₁, X₁, hstep₁⟩ := X.invokevirtual hexec hown hlink hnamed hmethM hstM hkP hkPi hy (a := b) (cell := cellB) hcell
    (fun z h => by rw [h] at hobj; cases hobj) hselP hmethM habM hkP hkPi (g := g) hg (argsL := argsL) (rest := rest) (hlen _ hsigM) hstack hdg
  rcases hK m meth c ⟨T.setVm vm₁, locs, cells, slots⟩ { g with stack := rest } (.invokevirtual index) mk (Value.ref b :: argsL).toArray X₁ hg hsize hdg hW (X₁.named hnamed) (hpre vm₁ X₁.warmed) with ⟨v, B, X', hpost, hsteps⟩ | ⟨q, B, X', hpost, hsteps⟩
  · exact Or.inl ⟨v, vm₁, B, X₁.warmed, X', hpost, fun target h => hstep₁ _ fun acts => by rw [doInvoke_state]; exact hsteps.trans h⟩
  · exact Or.inr ⟨q, vm₁, B, X₁.warmed, X', hpost, hstep₁ _ fun acts => by rw [doInvoke_state]; exact hsteps⟩
theorem vx_callS (X : Stand p l e R s m args below meth c T locs cells slots) (hexec : p.tables.exec = Jvm.exec) {own : String} {index : Nat} {y : MethodName} {bytes : ByteArray} {maxL : Nat} {ret : Option FieldType}
    (hown : s.vm.findClass own = some m.cls) (hlink : (Cond.methodLink own index y).before args s = true) (hstat : (Cond.static y).before args s = true) (hinit : (Cond.initialized y.cls).before args s = true)
    (hcode : (Cond.code y bytes maxL ret).before args s = true) (hy : y.cls ≠ "java/lang/invoke/MethodHandle" ∧ y.cls ≠ "java/lang/invoke/VarHandle")
    {W9 : Nat} {Pre : Pt → Array Value → Prop} {Post : Pt → Array Value → Option Value → Pt → Prop} {PostX : Pt → Array Value → Addr → Pt → Prop} (hK : vx_Back l R p e below s args y 3 W9 Pre Post PostX)
    {g : JFrame} (hg : g.method = m) (hsize : g.locals.size = c.maxLocals) {argsL rest : List Value} (hlen : ∀ sig, parseMethodDescriptor y.desc = some sig → argsL.length = sig.parameters.length)
    (hstack : g.stack = argsL.reverse ++ rest) (hW : 2 * g.monitorRoom + (rest.map fun v => v.category).sum ≤ W9) (hdg : decode c.code g.pc = .ok (.invokestatic index, 3))
    (hpre : ∀ vm₁, s.WarmedH vm₁ → Pre ⟨T.setVm vm₁, locs, cells, slots⟩ argsL.toArray) :
    (∃ (v : Option Value) (vm₁ : Vm) (B : Pt), s.WarmedH vm₁ ∧ Stand p l e R s m args below meth c B.U B.locs B.cells B.slots ∧ Post ⟨T.setVm vm₁, locs, cells, slots⟩ argsL.toArray v B ∧
      ∀ target, Steps p.tables e below (B.U.setTop { g with pc := g.pc + 3, stack := v.toList ++ rest }) target → Steps p.tables e below (T.setTop g) target) ∨
    (∃ (q : Addr) (vm₁ : Vm) (B : Pt), s.WarmedH vm₁ ∧ Stand p l e R s m args below meth c B.U B.locs B.cells B.slots ∧ PostX ⟨T.setVm vm₁, locs, cells, slots⟩ argsL.toArray q B ∧
      Steps p.tables e below (T.setTop g) ((B.U.setTop { g with stack := rest }).pushFrame (.throwing q))) := by
  obtain ⟨mk, hnamed⟩ := Cond.code_named hcode
  obtain ⟨methM, cM, hmethM, -, -, -, -, -, -, hsigM⟩ := Cond.code_spec hnamed hcode
  have hstatic : methM.isStatic = true := Cond.static_spec hnamed hmethM hstat
  obtain ⟨kP, hkP, -⟩ := className_of_methodNamed hnamed
  have hinitP : kP.init = .initialized := Cond.initialized_spec (findClass_of_methodNamed hnamed) hkP hinit
  obtain ⟨vm₁, X₁, hstep₁⟩ := X.invokestatic hexec hown hlink hnamed hmethM hstatic hkP hinitP hy (g := g) hg (argsL := argsL) (rest := rest) (hlen _ hsigM) hstack hdg
  rcases hK m meth c ⟨T.setVm vm₁, locs, cells, slots⟩ { g with stack := rest } (.invokestatic index) mk argsL.toArray X₁ hg hsize hdg hW (X₁.named hnamed) (hpre vm₁ X₁.warmed) with ⟨v, B, X', hpost, hsteps⟩ | ⟨q, B, X', hpost, hsteps⟩
  · exact Or.inl ⟨v, vm₁, B, X₁.warmed, X', hpost, fun target h => hstep₁ _ fun acts => by rw [doInvoke_state]; exact hsteps.trans h⟩
  · exact Or.inr ⟨q, vm₁, B, X₁.warmed, X', hpost, hstep₁ _ fun acts => by rw [doInvoke_state]; exact hsteps⟩
end Calls
theorem vx_cls {s : State} {T : State} {vm₁ : Vm} {E : String} {k : ClassId} (hW : s.WarmedH vm₁) (h : (T.setVm vm₁).vm.findClass E = some k) : s.vm.findClass E = some k := by
  have h1 : vm₁.findClass E = some k := h
  rw [hW.alike.findClass] at h1
  exact h1
/-- the method's frame g, with q thrown over it -/
def vx_W (p : Program) (l : Launch) (e : Env) (R : Room) (s : State) (m : MethodId) (args : Array Value) (below : List Frame) (meth : Method) (c : Code) (H : Heap) (locs : List Loc) (cells slots : Nat) (Q : State → Prop) (g : JFrame) (q : Addr) : Prop :=
  ∀ T : State, T.heap = H → Stand p l e R s m args below meth c T locs cells slots → ∃ t, Steps p.tables e below ((T.setTop g).pushFrame (.throwing q)) t ∧ Q t
def vx_Run (p : Program) (l : Launch) (e : Env) (R : Room) (s : State) (m : MethodId) (args : Array Value) (below : List Frame) (meth : Method) (c : Code) (H : Heap) (locs : List Loc) (cells slots mc ms : Nat) (g : JFrame) (rest : List Value) (Qa : State → Outcome → State → Prop) (XC : String → State → State → Prop) (free : Addr → Prop) : Prop :=
  ∀ T : State, T.heap = H → Stand p l e R s m args below meth c T locs cells slots →
    (∃ (v : Option Value) (st₀ t T' : State) (L : List Loc), st₀.heap = H ∧ Stand p l e R s m args below meth c T' (locs ++ L) (cells + mc) (slots + ms) ∧ (∀ q ∈ L, free q.base) ∧ T'.heap = t.heap ∧ T'.vm = t.vm ∧ Qa st₀ (.returned v) t ∧
      Goes p e below T g T' { g with pc := g.pc + 3, stack := v.toList ++ rest }) ∨
    (∃ (q : Addr) (st₀ t T' : State) (L : List Loc) (E : String) (ce : Cell), st₀.heap = H ∧ Stand p l e R s m args below meth c T' (locs ++ L) (cells + mc) (slots + ms) ∧ (∀ z ∈ L, free z.base) ∧ T'.heap = t.heap ∧ T'.vm = t.vm ∧ XC E st₀ t ∧ t.heap[q]? = some ce ∧ ce.vm = .none ∧ s.vm.findClass E = some ce.cls ∧
      Steps p.tables e below (T.setTop g) ((T'.setTop { g with stack := rest }).pushFrame (.throwing q)))
def vx_X {S : Type} (px : S → Prop) (B : String → S → State → Prop) (A : Nat → Prop) : String → State → State → Prop := fun E st t => ∃ u : S, px u ∧ B E u t ∧ va_F A st t
section Runs
variable {p : Program} {l : Launch} {e : Env} {R : Room} {s : State} {m : MethodId} {args : Array Value} {below : List Frame} {meth : Method} {c : Code} {H : Heap} {locs : List Loc} {cells slots : Nat}
variable {y : MethodName} {bytes cc : ByteArray} {maxL nL mc ms n index : Nat} {ret : Option FieldType} {ws : List Cond} {rm : Room} {Pc : Array Value → State → Prop} {Qc : Array Value → State → Outcome → State → Prop} {XC : String → State → State → Prop} {free : Addr → Prop} {Ts : List Cond} {own C : String} {b : Addr} {As rest : List Value} {g : JFrame}
theorem vx_callBack (cb : CallB R s args own index y bytes maxL ret ws rm mc ms n) (hM : vx_Met l y ws rm Pc Qc XC mc ms free) (hbl : FrameBlind Pc) : vx_Back l R p e below s args y 3 8 (PreOf R mc ms Pc) (PostOf Qc mc ms free) (vx_Post XC mc ms free) := by
  obtain ⟨hrc, hrs, hfr, hlo, hws, hcw, -, hini, -⟩ := cb
  exact vx_back (bytes := bytes) (maxL := maxL) (ret := ret) hM hbl hrc hrs hfr hlo hws hcw (fun a' U hW => word_at hW (Or.inl (by first | rfl | simp [Cond.onTables, Cond.keeps, Cond.steady])) hini)
theorem vx_runV (S : CallFix p m c cc nL s args Ts own) (hM : vx_Met l y ws rm Pc Qc XC mc ms free) (cw : CallW R s args own C index y bytes maxL ret ws rm mc ms n) (hp : PreV s H C b Pc As)
    (hg : g.method = m) (hn : As.length = n) (hsize : g.locals.size = nL) (hstack : g.stack = As.reverse ++ .ref b :: rest) (hW : 2 * g.monitorRoom + (rest.map fun v => v.category).sum ≤ 8) (hdg : decode cc g.pc = .ok (.invokevirtual index, 3)) (hf : cells + mc ≤ R.cells ∧ slots + ms ≤ R.slots) :
    vx_Run p l e R s m args below meth c H locs cells slots mc ms g rest (Qc (Value.ref b :: As).toArray) XC free := by
  have hK : vx_Back l R p e below s args y 3 8 (PreOf R mc ms Pc) (PostOf Qc mc ms free) (vx_Post XC mc ms free) := vx_callBack cw.1 hM hp.1
  obtain ⟨⟨-, -, -, -, -, -, hcode, -, hy, hlen, hl⟩, hin, hse⟩ := cw
  obtain ⟨hx, hb, hml, ho, -⟩ := S
  obtain ⟨-, ⟨cellB, hcB, hoB, hclB⟩, hPc⟩ := hp
  intro T hT X
  rcases vx_callV X hx (C := C) (bytes := bytes) (maxL := maxL) (ret := ret) ho hl hin hse hcode hy hK (by rw [hT]; exact hcB) hoB hclB hg (hsize.trans hml.symm) (argsL := As) (rest := rest) (fun sig h => hn.trans (hlen sig h)) hstack hW (by rw [hb]; exact hdg)
    (fun vm₁ hW₁ => ⟨hf.1, hf.2, hPc (T.setVm vm₁) hT hW₁⟩) with ⟨v, vm₁, ⟨U', l2, c2, s2⟩, hW₁, X', ⟨g', mk, t, L, e1, e2, hq, h1, hL, h2, h3⟩, st⟩ | ⟨q, vm₁, ⟨U', l2, c2, s2⟩, hW₁, X', ⟨g', mk, t, L, E, ce, e1, e2, hq, hce, hcv, hcl, h1, hL, h2, h3⟩, st⟩
  · dsimp only [Pt.U, Pt.locs, Pt.cells, Pt.slots] at X' e1 e2 h1 h2 h3 st
    subst h1; subst h2; subst h3
    exact Or.inl ⟨v, (T.setVm vm₁).calling g' mk (Value.ref b :: As).toArray, t, U', L, hT, X', hL, e1, e2, hq, st⟩
  · dsimp only [Pt.U, Pt.locs, Pt.cells, Pt.slots] at X' e1 e2 h1 h2 h3 st hcl
    subst h1; subst h2; subst h3
    exact Or.inr ⟨q, (T.setVm vm₁).calling g' mk (Value.ref b :: As).toArray, t, U', L, E, ce, hT, X', hL, e1, e2, hq, hce, hcv, vx_cls hW₁ hcl, st⟩
theorem vx_runS (S : CallFix p m c cc nL s args Ts own) (hM : vx_Met l y ws rm Pc Qc XC mc ms free) (cw : CallB R s args own index y bytes maxL ret ws rm mc ms n ∧ (Cond.static y).before args s = true) (hp : PreS s H Pc As)
    (hg : g.method = m) (hn : As.length = n) (hsize : g.locals.size = nL) (hstack : g.stack = As.reverse ++ rest) (hW : 2 * g.monitorRoom + (rest.map fun v => v.category).sum ≤ 8) (hdg : decode cc g.pc = .ok (.invokestatic index, 3)) (hf : cells + mc ≤ R.cells ∧ slots + ms ≤ R.slots) :
    vx_Run p l e R s m args below meth c H locs cells slots mc ms g rest (Qc As.toArray) XC free := by
  have hK : vx_Back l R p e below s args y 3 8 (PreOf R mc ms Pc) (PostOf Qc mc ms free) (vx_Post XC mc ms free) := vx_callBack cw.1 hM hp.1
  obtain ⟨⟨-, -, -, -, -, -, hcode, hini, hy, hlen, hl⟩, hstt⟩ := cw
  obtain ⟨hx, hb, hml, ho, -⟩ := S
  intro T hT X
  rcases vx_callS X hx (bytes := bytes) (maxL := maxL) (ret := ret) ho hl hstt hini hcode hy hK hg (hsize.trans hml.symm) (argsL := As) (rest := rest) (fun sig h => hn.trans (hlen sig h)) hstack hW (by rw [hb]; exact hdg)
    (fun vm₁ hW₁ => ⟨hf.1, hf.2, hp.2 (T.setVm vm₁) hT hW₁⟩) with ⟨v, vm₁, ⟨U', l2, c2, s2⟩, hW₁, X', ⟨g', mk, t, L, e1, e2, hq, h1, hL, h2, h3⟩, st⟩ | ⟨q, vm₁, ⟨U', l2, c2, s2⟩, hW₁, X', ⟨g', mk, t, L, E, ce, e1, e2, hq, hce, hcv, hcl, h1, hL, h2, h3⟩, st⟩
  · dsimp only [Pt.U, Pt.locs, Pt.cells, Pt.slots] at X' e1 e2 h1 h2 h3 st
    subst h1; subst h2; subst h3
    exact Or.inl ⟨v, (T.setVm vm₁).calling g' mk As.toArray, t, U', L, hT, X', hL, e1, e2, hq, st⟩
  · dsimp only [Pt.U, Pt.locs, Pt.cells, Pt.slots] at X' e1 e2 h1 h2 h3 st hcl
    subst h1; subst h2; subst h3
    exact Or.inr ⟨q, (T.setVm vm₁).calling g' mk As.toArray, t, U', L, E, ce, hT, X', hL, e1, e2, hq, hce, hcv, vx_cls hW₁ hcl, st⟩
end Runs
section Rows
variable {p : Program} {l : Launch} {e : Env} {R : Room} {s : State} {m : MethodId} {args : Array Value} {below : List Frame} {meth : Method} {c : Code} {H : Heap} {locs : List Loc} {cells slots : Nat} {Q : State → Prop}
variable {mc ms : Nat} {free : Addr → Prop} {A0 A1 : Nat → Prop} {H0 : Heap} {a : Array Value} {pc : Nat} {ls : Array Slot} {st0 rest : List Value}
theorem vx_keep {st₀ t T' : State} {L : List Loc} (h0 : st₀.heap = H) (e1 : T'.heap = t.heap) (hS : va_S A0 H0 H locs) (hA : ∀ q, q < H.size → A1 q → A0 q) (hf : ∀ q, free q → A0 q) (hL : ∀ q ∈ L, free q.base) (hF : va_F A1 st₀ t) :
    H.size ≤ T'.heap.size ∧ (∀ q : Nat, q < H.size → ¬ A1 q → T'.heap[q]? = H[q]?) ∧ va_S A0 H0 T'.heap (locs ++ L) := by
  obtain ⟨hz, hk⟩ := hF
  rw [h0] at hz hk
  exact ⟨by rw [e1]; exact hz, fun q h1 h2 => by rw [e1]; exact hk q h1 h2,
    ⟨Nat.le_trans hS.1 (by rw [e1]; exact hz), fun q h1 h2 => by rw [e1, hk q (Nat.lt_of_lt_of_le h1 hS.1) (fun z => h2 (hA q (Nat.lt_of_lt_of_le h1 hS.1) z))]; exact hS.2.1 q h1 h2, fun q hq => by
      rcases List.mem_append.mp hq with h | h
      · exact hS.2.2 q h
      · exact hf _ (hL q h)⟩⟩
theorem vx_calli {S SX : Type} {post : Int32 → S → Prop} {px : SX → Prop} {B : S → State → Prop} {BX : String → SX → State → Prop} {AX : Nat → Prop} (hr : vx_Run p l e R s m args below meth c H locs cells slots mc ms (F0 m pc ls st0) rest (va_Qi post B A1 a) (vx_X px BX AX) free) (hS : va_S A0 H0 H locs) (hA : ∀ q, q < H.size → A1 q → A0 q) (hf : ∀ q, free q → A0 q) (hAX : ∀ q, q < H.size → AX q → A0 q)
    (kx : ∀ (E : String) (ce : Cell) (q9 : Addr) (u : SX) (t : State) (H1 : Heap) (locs1 : List Loc), t.heap = H1 → s.vm.Alike t.vm → px u → BX E u t → H.size ≤ H1.size → (∀ q : Nat, q < H.size → ¬ AX q → H1[q]? = H[q]?) → va_S A0 H0 H1 locs1 → H1[q9]? = some ce → ce.vm = .none → s.vm.findClass E = some ce.cls → vx_W p l e R s m args below meth c H1 locs1 (cells + mc) (slots + ms) Q (F0 m pc ls rest) q9)
    (kk : ∀ (r : Int32) (u : S) (t : State) (H1 : Heap) (locs1 : List Loc), t.heap = H1 → s.vm.Alike t.vm → post r u → B u t → H.size ≤ H1.size → (∀ q : Nat, q < H.size → ¬ A1 q → H1[q]? = H[q]?) → va_S A0 H0 H1 locs1 → W p l e R s m args below meth c H1 locs1 (cells + mc) (slots + ms) Q (F0 m (pc + 3) ls (.int r :: rest))) : W p l e R s m args below meth c H locs cells slots Q (F0 m pc ls st0) := by
  intro T hT X
  rcases hr T hT X with ⟨v, st₀, t, T', L, h0, X', hL, e1, e2, ⟨⟨r, u, hv, hp, hb⟩, hF⟩, st⟩ | ⟨q, st₀, t, T', L, E, ce, h0, X', hL, e1, e2, ⟨u, hp, hb, hF⟩, hce, hcv, hcl, st⟩
  · cases hv
    obtain ⟨k1, k2, k3⟩ := vx_keep h0 e1 hS hA hf hL hF
    obtain ⟨t2, a1, b1⟩ := kk r u t T'.heap (locs ++ L) e1.symm (by rw [← e2]; exact X'.warmed.alike) hp hb k1 k2 k3 T' rfl X'
    exact ⟨t2, st t2 a1, b1⟩
  · obtain ⟨k1, k2, k3⟩ := vx_keep h0 e1 hS hAX hf hL hF
    obtain ⟨t2, a1, b1⟩ := kx E ce q u t T'.heap (locs ++ L) e1.symm (by rw [← e2]; exact X'.warmed.alike) hp hb k1 k2 k3 (by rw [e1]; exact hce) hcv hcl T' rfl X'
    exact ⟨t2, st.trans a1, b1⟩
theorem vx_calll {S SX : Type} {post : Int64 → S → Prop} {px : SX → Prop} {B : S → State → Prop} {BX : String → SX → State → Prop} {AX : Nat → Prop} (hr : vx_Run p l e R s m args below meth c H locs cells slots mc ms (F0 m pc ls st0) rest (va_Ql post B A1 a) (vx_X px BX AX) free) (hS : va_S A0 H0 H locs) (hA : ∀ q, q < H.size → A1 q → A0 q) (hf : ∀ q, free q → A0 q) (hAX : ∀ q, q < H.size → AX q → A0 q)
    (kx : ∀ (E : String) (ce : Cell) (q9 : Addr) (u : SX) (t : State) (H1 : Heap) (locs1 : List Loc), t.heap = H1 → s.vm.Alike t.vm → px u → BX E u t → H.size ≤ H1.size → (∀ q : Nat, q < H.size → ¬ AX q → H1[q]? = H[q]?) → va_S A0 H0 H1 locs1 → H1[q9]? = some ce → ce.vm = .none → s.vm.findClass E = some ce.cls → vx_W p l e R s m args below meth c H1 locs1 (cells + mc) (slots + ms) Q (F0 m pc ls rest) q9)
    (kk : ∀ (r : Int64) (u : S) (t : State) (H1 : Heap) (locs1 : List Loc), t.heap = H1 → s.vm.Alike t.vm → post r u → B u t → H.size ≤ H1.size → (∀ q : Nat, q < H.size → ¬ A1 q → H1[q]? = H[q]?) → va_S A0 H0 H1 locs1 → W p l e R s m args below meth c H1 locs1 (cells + mc) (slots + ms) Q (F0 m (pc + 3) ls (.long r :: rest))) : W p l e R s m args below meth c H locs cells slots Q (F0 m pc ls st0) := by
  intro T hT X
  rcases hr T hT X with ⟨v, st₀, t, T', L, h0, X', hL, e1, e2, ⟨⟨r, u, hv, hp, hb⟩, hF⟩, st⟩ | ⟨q, st₀, t, T', L, E, ce, h0, X', hL, e1, e2, ⟨u, hp, hb, hF⟩, hce, hcv, hcl, st⟩
  · cases hv
    obtain ⟨k1, k2, k3⟩ := vx_keep h0 e1 hS hA hf hL hF
    obtain ⟨t2, a1, b1⟩ := kk r u t T'.heap (locs ++ L) e1.symm (by rw [← e2]; exact X'.warmed.alike) hp hb k1 k2 k3 T' rfl X'
    exact ⟨t2, st t2 a1, b1⟩
  · obtain ⟨k1, k2, k3⟩ := vx_keep h0 e1 hS hAX hf hL hF
    obtain ⟨t2, a1, b1⟩ := kx E ce q u t T'.heap (locs ++ L) e1.symm (by rw [← e2]; exact X'.warmed.alike) hp hb k1 k2 k3 (by rw [e1]; exact hce) hcv hcl T' rfl X'
    exact ⟨t2, st.trans a1, b1⟩
theorem vx_callf {S SX : Type} {post : UInt32 → S → Prop} {px : SX → Prop} {B : S → State → Prop} {BX : String → SX → State → Prop} {AX : Nat → Prop} (hr : vx_Run p l e R s m args below meth c H locs cells slots mc ms (F0 m pc ls st0) rest (va_Qf post B A1 a) (vx_X px BX AX) free) (hS : va_S A0 H0 H locs) (hA : ∀ q, q < H.size → A1 q → A0 q) (hf : ∀ q, free q → A0 q) (hAX : ∀ q, q < H.size → AX q → A0 q)
    (kx : ∀ (E : String) (ce : Cell) (q9 : Addr) (u : SX) (t : State) (H1 : Heap) (locs1 : List Loc), t.heap = H1 → s.vm.Alike t.vm → px u → BX E u t → H.size ≤ H1.size → (∀ q : Nat, q < H.size → ¬ AX q → H1[q]? = H[q]?) → va_S A0 H0 H1 locs1 → H1[q9]? = some ce → ce.vm = .none → s.vm.findClass E = some ce.cls → vx_W p l e R s m args below meth c H1 locs1 (cells + mc) (slots + ms) Q (F0 m pc ls rest) q9)
    (kk : ∀ (r : UInt32) (u : S) (t : State) (H1 : Heap) (locs1 : List Loc), t.heap = H1 → s.vm.Alike t.vm → post r u → B u t → H.size ≤ H1.size → (∀ q : Nat, q < H.size → ¬ A1 q → H1[q]? = H[q]?) → va_S A0 H0 H1 locs1 → W p l e R s m args below meth c H1 locs1 (cells + mc) (slots + ms) Q (F0 m (pc + 3) ls (.float r :: rest))) : W p l e R s m args below meth c H locs cells slots Q (F0 m pc ls st0) := by
  intro T hT X
  rcases hr T hT X with ⟨v, st₀, t, T', L, h0, X', hL, e1, e2, ⟨⟨r, u, hv, hp, hb⟩, hF⟩, st⟩ | ⟨q, st₀, t, T', L, E, ce, h0, X', hL, e1, e2, ⟨u, hp, hb, hF⟩, hce, hcv, hcl, st⟩
  · cases hv
    obtain ⟨k1, k2, k3⟩ := vx_keep h0 e1 hS hA hf hL hF
    obtain ⟨t2, a1, b1⟩ := kk r u t T'.heap (locs ++ L) e1.symm (by rw [← e2]; exact X'.warmed.alike) hp hb k1 k2 k3 T' rfl X'
    exact ⟨t2, st t2 a1, b1⟩
  · obtain ⟨k1, k2, k3⟩ := vx_keep h0 e1 hS hAX hf hL hF
    obtain ⟨t2, a1, b1⟩ := kx E ce q u t T'.heap (locs ++ L) e1.symm (by rw [← e2]; exact X'.warmed.alike) hp hb k1 k2 k3 (by rw [e1]; exact hce) hcv hcl T' rfl X'
    exact ⟨t2, st.trans a1, b1⟩
theorem vx_calld {S SX : Type} {post : UInt64 → S → Prop} {px : SX → Prop} {B : S → State → Prop} {BX : String → SX → State → Prop} {AX : Nat → Prop} (hr : vx_Run p l e R s m args below meth c H locs cells slots mc ms (F0 m pc ls st0) rest (va_Qd post B A1 a) (vx_X px BX AX) free) (hS : va_S A0 H0 H locs) (hA : ∀ q, q < H.size → A1 q → A0 q) (hf : ∀ q, free q → A0 q) (hAX : ∀ q, q < H.size → AX q → A0 q)
    (kx : ∀ (E : String) (ce : Cell) (q9 : Addr) (u : SX) (t : State) (H1 : Heap) (locs1 : List Loc), t.heap = H1 → s.vm.Alike t.vm → px u → BX E u t → H.size ≤ H1.size → (∀ q : Nat, q < H.size → ¬ AX q → H1[q]? = H[q]?) → va_S A0 H0 H1 locs1 → H1[q9]? = some ce → ce.vm = .none → s.vm.findClass E = some ce.cls → vx_W p l e R s m args below meth c H1 locs1 (cells + mc) (slots + ms) Q (F0 m pc ls rest) q9)
    (kk : ∀ (r : UInt64) (u : S) (t : State) (H1 : Heap) (locs1 : List Loc), t.heap = H1 → s.vm.Alike t.vm → post r u → B u t → H.size ≤ H1.size → (∀ q : Nat, q < H.size → ¬ A1 q → H1[q]? = H[q]?) → va_S A0 H0 H1 locs1 → W p l e R s m args below meth c H1 locs1 (cells + mc) (slots + ms) Q (F0 m (pc + 3) ls (.double r :: rest))) : W p l e R s m args below meth c H locs cells slots Q (F0 m pc ls st0) := by
  intro T hT X
  rcases hr T hT X with ⟨v, st₀, t, T', L, h0, X', hL, e1, e2, ⟨⟨r, u, hv, hp, hb⟩, hF⟩, st⟩ | ⟨q, st₀, t, T', L, E, ce, h0, X', hL, e1, e2, ⟨u, hp, hb, hF⟩, hce, hcv, hcl, st⟩
  · cases hv
    obtain ⟨k1, k2, k3⟩ := vx_keep h0 e1 hS hA hf hL hF
    obtain ⟨t2, a1, b1⟩ := kk r u t T'.heap (locs ++ L) e1.symm (by rw [← e2]; exact X'.warmed.alike) hp hb k1 k2 k3 T' rfl X'
    exact ⟨t2, st t2 a1, b1⟩
  · obtain ⟨k1, k2, k3⟩ := vx_keep h0 e1 hS hAX hf hL hF
    obtain ⟨t2, a1, b1⟩ := kx E ce q u t T'.heap (locs ++ L) e1.symm (by rw [← e2]; exact X'.warmed.alike) hp hb k1 k2 k3 (by rw [e1]; exact hce) hcv hcl T' rfl X'
    exact ⟨t2, st.trans a1, b1⟩
theorem vx_callv {S SX : Type} {post : S → Prop} {px : SX → Prop} {B : S → State → Prop} {BX : String → SX → State → Prop} {AX : Nat → Prop} (hr : vx_Run p l e R s m args below meth c H locs cells slots mc ms (F0 m pc ls st0) rest (va_Qv post B A1 a) (vx_X px BX AX) free) (hS : va_S A0 H0 H locs) (hA : ∀ q, q < H.size → A1 q → A0 q) (hf : ∀ q, free q → A0 q) (hAX : ∀ q, q < H.size → AX q → A0 q)
    (kx : ∀ (E : String) (ce : Cell) (q9 : Addr) (u : SX) (t : State) (H1 : Heap) (locs1 : List Loc), t.heap = H1 → s.vm.Alike t.vm → px u → BX E u t → H.size ≤ H1.size → (∀ q : Nat, q < H.size → ¬ AX q → H1[q]? = H[q]?) → va_S A0 H0 H1 locs1 → H1[q9]? = some ce → ce.vm = .none → s.vm.findClass E = some ce.cls → vx_W p l e R s m args below meth c H1 locs1 (cells + mc) (slots + ms) Q (F0 m pc ls rest) q9)
    (kk : ∀ (u : S) (t : State) (H1 : Heap) (locs1 : List Loc), t.heap = H1 → s.vm.Alike t.vm → post u → B u t → H.size ≤ H1.size → (∀ q : Nat, q < H.size → ¬ A1 q → H1[q]? = H[q]?) → va_S A0 H0 H1 locs1 → W p l e R s m args below meth c H1 locs1 (cells + mc) (slots + ms) Q (F0 m (pc + 3) ls (rest))) : W p l e R s m args below meth c H locs cells slots Q (F0 m pc ls st0) := by
  intro T hT X
  rcases hr T hT X with ⟨v, st₀, t, T', L, h0, X', hL, e1, e2, ⟨⟨u, hv, hp, hb⟩, hF⟩, st⟩ | ⟨q, st₀, t, T', L, E, ce, h0, X', hL, e1, e2, ⟨u, hp, hb, hF⟩, hce, hcv, hcl, st⟩
  · cases hv
    obtain ⟨k1, k2, k3⟩ := vx_keep h0 e1 hS hA hf hL hF
    obtain ⟨t2, a1, b1⟩ := kk u t T'.heap (locs ++ L) e1.symm (by rw [← e2]; exact X'.warmed.alike) hp hb k1 k2 k3 T' rfl X'
    exact ⟨t2, st t2 a1, b1⟩
  · obtain ⟨k1, k2, k3⟩ := vx_keep h0 e1 hS hAX hf hL hF
    obtain ⟨t2, a1, b1⟩ := kx E ce q u t T'.heap (locs ++ L) e1.symm (by rw [← e2]; exact X'.warmed.alike) hp hb k1 k2 k3 (by rw [e1]; exact hce) hcv hcl T' rfl X'
    exact ⟨t2, st.trans a1, b1⟩
/-- caught by the row x of this method's table; the rows ahead don't take it -/
theorem vx_catch {own name : String} {E : String} {ce : Cell} {q : Addr} (hown : s.vm.findClass own = some m.cls) (pre : List ExceptionTableEntry) (x : ExceptionTableEntry) (suf : List ExceptionTableEntry) (hsplit : c.exceptionTable.toList = pre ++ x :: suf)
    (hpass : ∀ z ∈ pre, covers z pc = false ∨ (z.catchType ≠ 0 ∧ ∃ nm : String, (Cond.classLink own z.catchType nm).before args s = true ∧ va_Nc E nm s)) (hx : covers x pc = true) (h0 : x.catchType ≠ 0)
    (hlink : (Cond.classLink own x.catchType name).before args s = true) (hcast : (Cond.castable E name).before args s = true) (hcell : H[q]? = some ce) (hv : ce.vm = .none) (hcl : s.vm.findClass E = some ce.cls)
    (kk : W p l e R s m args below meth c H locs cells slots Q (F0 m x.handlerPc ls [.ref q])) : vx_W p l e R s m args below meth c H locs cells slots Q (F0 m pc ls rest) q := by
  intro T hT X
  have hpl : e.platform.magicAccessors = ({} : Platform).magicAccessors := by rw [X.admits.platform]
  obtain ⟨c3, c4, hc3, hc4, hasg⟩ := Cond.castable_spec hcast
  cases Option.some.inj (hc3.symm.trans hcl)
  obtain ⟨c5, hc5, hcl5⟩ := Cond.classLink_spec hown hlink e.platform hpl
  cases Option.some.inj (hc4.symm.trans hc5)
  obtain ⟨vm', X', st⟩ := X.thenCaughtThrough q (g := F0 m pc ls rest) rfl (Steps.refl _) (by rw [hT]; exact hcell) (by rw [hv]; rfl) (by obtain ⟨k9, h9, -⟩ := Vm.findClass_spec hcl; exact ⟨k9, h9⟩) pre x suf hsplit
    (fun z hz => by
      rcases hpass z hz with h | ⟨hz0, nm, hl1, hn1⟩
      · exact Or.inl h
      · obtain ⟨c6, hc6, hcl6⟩ := Cond.classLink_spec hown hl1 e.platform hpl
        obtain ⟨a8, b8, h1, h2, h3⟩ := hn1
        cases Option.some.inj (h1.symm.trans hcl)
        cases Option.some.inj (h2.symm.trans hc6)
        exact Or.inr ⟨hz0, _, hcl6, h3⟩) hx (Or.inr ⟨h0, c4, hcl5, hasg⟩)
  obtain ⟨t, a1, b1⟩ := kk (T.setVm vm') hT X'
  exact ⟨t, st.trans a1, b1⟩
end Rows
section Ends
variable {p : Program} {l : Launch} {e : Env} {R : Room} {s : State} {m : MethodId} {args : Array Value} {below : List Frame} {meth : Method} {c : Code} {H : Heap} {locs : List Loc} {cells slots : Nat} {Q : State → Prop}
variable {mc ms : Nat} {free : Addr → Prop} {A0 A1 : Nat → Prop} {H0 : Heap} {a : Array Value} {ls : Array Slot} {st0 rest : List Value}
variable {Qc : Array Value → State → Outcome → State → Prop} {XC : String → State → State → Prop}
/-- what a body that may throw owes at its end -/
def vx_MQ (below : List Frame) (Qc : Array Value → State → Outcome → State → Prop) (XC : String → State → State → Prop) (a : Array Value) (s : State) (mc ms : Nat) (free : Addr → Prop) : State → Prop := fun t =>
  ∃ o, t.status = .running ∧ Ended t below o ∧ vx_Q Qc XC mc ms free a s o t
theorem vx_ret {g : JFrame} {mc ms : Nat} (k : W p l e R s m args below meth c H locs cells slots (MQ below Qc args s mc ms free) g) : W p l e R s m args below meth c H locs cells slots (vx_MQ below Qc XC args s mc ms free) g := by
  intro T hT X
  obtain ⟨t, a1, o, b1, b2, b3, b4⟩ := k T hT X
  exact ⟨t, a1, o, b1, b2, Or.inl ⟨b3, b4⟩⟩
/-- not caught here: it goes on to the caller -/
theorem vx_widen {g : JFrame} {q : Addr} {k n : Nat} (h1 : cells ≤ k) (h2 : slots ≤ n) (kk : vx_W p l e R s m args below meth c H locs k n Q g q) : vx_W p l e R s m args below meth c H locs cells slots Q g q := fun T hT X => kk T hT (stand_widen X h1 h2)
theorem vx_out {pc : Nat} {E : String} {ce : Cell} {q : Addr} {mc ms : Nat} (hout : ∀ x ∈ c.exceptionTable.toList, covers x pc = false) (hlocks : meth.locks = false) (hcell : H[q]? = some ce) (hv : ce.vm = .none) (hcl : s.vm.findClass E = some ce.cls)
    (hx : ∀ t : State, t.heap = H → s.vm.Alike t.vm → XC E s t) (hf : ∀ z ∈ locs, free z.base) (hc : cells ≤ mc) (hs : slots ≤ ms) :
    vx_W p l e R s m args below meth c H locs cells slots (vx_MQ below Qc XC args s mc ms free) (F0 m pc ls rest) q := by
  intro T hT X
  obtain ⟨st1, hrun, hend, hW, hsm⟩ := X.leaveThrown q (g := F0 m pc ls rest) rfl rfl rfl hout hlocks
  have hcell9 : (T.setFrames (.throwing q :: below)).heap[q]? = some ce := by
    show T.heap[q]? = some ce
    rw [hT]; exact hcell
  exact ⟨_, st1, .threw q, hrun, hend, Or.inr ⟨q, rfl, E, ce, locs, hx _ hT hW.alike, hcell9, hv, hcl, hW, hsm.mono hc hs, hf⟩⟩
theorem vx_frame {U : State} {k n : Nat} (h : s.sameButNew ({ U with vm := s.vm } : State) locs k n) : s.heap.size ≤ U.heap.size ∧ ∀ q : Nat, q < s.heap.size → (∀ z ∈ locs, z.base ≠ q) → U.heap[q]? = s.heap[q]? := by
  obtain ⟨-, h2, -, -, -, h6⟩ := h
  refine ⟨h2, fun q hq hz => ?_⟩
  obtain ⟨c9, e1, e2, e3, e4⟩ := h6 q _ (Array.getElem?_eq_getElem hq)
  have hs : c9.slots = (s.heap[q]).slots := Array.ext_getElem? fun i => e4 i fun hm => hz _ hm rfl
  have h9 : c9 = s.heap[q] := by
    rw [hs] at e2
    exact e2
  have e5 : U.heap[q]? = some c9 := e1
  rw [e5, h9, Array.getElem?_eq_getElem hq]
/-- the words of a throw but the four that speak of the heap -/
def vx_no (w : Cond) : Bool := decide (w ≠ .isRef (.static Bundle.tN "UNASSIGNED_STACK" Bundle.steD)) && decide (w ≠ .isRef (.static Bundle.tN "SUPPRESSED_SENTINEL" Bundle.listD)) && decide (w ≠ .laysStatic Bundle.tN "UNASSIGNED_STACK" Bundle.steD) && decide (w ≠ .laysStatic Bundle.tN "SUPPRESSED_SENTINEL" Bundle.listD)
def vx_at0 (own : String) (ic : Nat) (X : String) (names : List String) : List Cond := (Bundle.ownAtoms0 own ic X names).filter vx_no
def vx_atS (own : String) (ic : Nat) (X : String) (names : List String) : List Cond := (Bundle.ownAtoms own ic X names).filter vx_no
/-- a word that the tables alone decide, or a good one -/
def vx_ot (w : Cond) : Bool := w.onTables || goodWord w
theorem vx_ot_at {args a' : Array Value} {s U : State} {w : Cond} (hW : s.WarmedH U.vm) (hvm : s.vm = U.vm) (hg : vx_ot w = true) (h : w.before args s = true) : w.before a' U = true := by
  simp only [vx_ot, Bool.or_eq_true] at hg
  rcases hg with hg | hg
  · exact va_tabs hg hvm h
  · exact word_at hW (good_of_word hg) h
/-- a list's words: the good ones out of the method's own list, the others by premises of their own -/
theorem vx_hat {args : Array Value} {s : State} {L B : List Cond} (h1 : ∀ w ∈ L.filter goodWord, w.before args s = true) (h2 : ∀ w ∈ L.filter (fun w => !goodWord w), w ∈ B) (h3 : ∀ w ∈ B, w.before args s = true) : ∀ w ∈ L, w.before args s = true := by
  intro w hw
  by_cases g : goodWord w = true
  · exact h1 w (List.mem_filter.mpr ⟨hw, g⟩)
  · refine h3 w (h2 w (List.mem_filter.mpr ⟨hw, ?_⟩))
    show (!goodWord w) = true
    cases hgw : goodWord w
    · rfl
    · exact absurd hgw g
theorem vx_c {args : Array Value} {s : State} {w : Cond} {B : List Cond} (h : w.before args s = true) (t : ∀ w ∈ B, w.before args s = true) : ∀ w' ∈ w :: B, w'.before args s = true := fun w' h' => (List.mem_cons.mp h').elim (fun e => by rw [e]; exact h) (t w')
theorem vx_n {args : Array Value} {s : State} : ∀ w ∈ ([] : List Cond), w.before args s = true := fun _ h => nomatch h
theorem vx_own {args : Array Value} {s : State} {L : List Cond} (h1 : ∀ w ∈ L.filter vx_no, w.before args s = true)
    (hU : (Cond.isRef (.static Bundle.tN "UNASSIGNED_STACK" Bundle.steD)).before args s = true) (hN : (Cond.isRef (.static Bundle.tN "SUPPRESSED_SENTINEL" Bundle.listD)).before args s = true)
    (lU : (Cond.laysStatic Bundle.tN "UNASSIGNED_STACK" Bundle.steD).before args s = true) (lN : (Cond.laysStatic Bundle.tN "SUPPRESSED_SENTINEL" Bundle.listD).before args s = true) : ∀ w ∈ L, w.before args s = true := by
  intro w hw
  by_cases e1 : w = .isRef (.static Bundle.tN "UNASSIGNED_STACK" Bundle.steD)
  · rw [e1]; exact hU
  · by_cases e2 : w = .isRef (.static Bundle.tN "SUPPRESSED_SENTINEL" Bundle.listD)
    · rw [e2]; exact hN
    · by_cases e3 : w = .laysStatic Bundle.tN "UNASSIGNED_STACK" Bundle.steD
      · rw [e3]; exact lU
      · by_cases e4 : w = .laysStatic Bundle.tN "SUPPRESSED_SENTINEL" Bundle.listD
        · rw [e4]; exact lN
        · exact h1 w (List.mem_filter.mpr ⟨hw, by unfold vx_no; rw [decide_eq_true e1, decide_eq_true e2, decide_eq_true e3, decide_eq_true e4]; rfl⟩)
/-- where a static field lies, its class's statics cell in H -/
def vx_L (C n d : String) (A : Nat → Prop) (U : State) (H : Heap) : Prop := ∃ (c : ClassId) (k : Class) (i : Nat) (f : Field) (a : Nat) (cell : Cell), U.vm.findClass C = some c ∧ U.fieldFound? C n d = some (c, k, i, f) ∧ f.isStatic = true ∧ k.statics = some a ∧ H[a]? = some cell ∧ cell.vm.isStatics = true ∧ cell.cls = c ∧ f.slot < cell.slots.size ∧ k.staticTypes[f.slot]? = some f.type ∧ ¬ A a
theorem vx_L.moved {C n d : String} {A : Nat → Prop} {u U : State} {H : Heap} (hvm : u.vm.Alike U.vm) (h : vx_L C n d A u H) : vx_L C n d A U H := by
  obtain ⟨c, k, i, f, a, cell, h1, h2, h3, h4, h5, h6, h7, h8, h9, h10⟩ := h
  obtain ⟨k', hi', he⟩ := State.fieldFound?_setVm hvm h2
  exact ⟨c, k', i, f, a, cell, by rw [hvm.findClass]; exact h1, hi', h3, by rw [he]; exact h4, h5, h6, h7, h8, by rw [he]; exact h9, h10⟩
theorem vx_L.kept {C n d : String} {A : Nat → Prop} {U : State} {H H1 : Heap} (h : vx_L C n d A U H) (hq : ∀ a : Nat, a < H.size → ¬ A a → H1[a]? = H[a]?) : vx_L C n d A U H1 := by
  obtain ⟨c, k, i, f, a, cell, h1, h2, h3, h4, h5, h6, h7, h8, h9, h10⟩ := h
  exact ⟨c, k, i, f, a, cell, h1, h2, h3, h4, by rw [hq a (Array.getElem?_eq_some_iff.mp h5).1 h10]; exact h5, h6, h7, h8, h9, h10⟩
theorem vx_L.narrow {C n d : String} {A B : Nat → Prop} {U : State} {H : Heap} (h : vx_L C n d A U H) (hAB : ∀ q, B q → A q) : vx_L C n d B U H := by
  obtain ⟨c, k, i, f, a, cell, h1, h2, h3, h4, h5, h6, h7, h8, h9, h10⟩ := h
  exact ⟨c, k, i, f, a, cell, h1, h2, h3, h4, h5, h6, h7, h8, h9, fun z => h10 (hAB _ z)⟩
theorem vx_L.word {C n d : String} {A : Nat → Prop} {s : State} {args : Array Value} (h : vx_L C n d A s s.heap) : (Cond.laysStatic C n d).before args s = true := by
  obtain ⟨c, k, i, f, a, cell, h1, h2, h3, h4, h5, h6, h7, h8, h9, -⟩ := h
  show (Cond.laysStatic C n d).holds args s none s [] = true
  exact Cond.laysStatic_of h1 h2 h3 h4 h5 h6 h7 h8 h9
/-- .. and what it holds: null or some reference -/
def vx_Zq (C n d : String) (A : Nat → Prop) (U : State) (H : Heap) : Prop := va_Zq C n d A U H ∧ vx_L C n d A U H
theorem vx_Zq.moved {C n d : String} {A : Nat → Prop} {u U : State} {H : Heap} (hvm : u.vm.Alike U.vm) (h : vx_Zq C n d A u H) : vx_Zq C n d A U H := ⟨va_Zq.moved hvm h.1, vx_L.moved hvm h.2⟩
theorem vx_Zq.kept {C n d : String} {A : Nat → Prop} {U : State} {H H1 : Heap} (h : vx_Zq C n d A U H) (hq : ∀ a : Nat, a < H.size → ¬ A a → H1[a]? = H[a]?) : vx_Zq C n d A U H1 := ⟨va_Zq.kept h.1 hq, vx_L.kept h.2 hq⟩
theorem vx_Zq.narrow {C n d : String} {A B : Nat → Prop} {U : State} {H : Heap} (h : vx_Zq C n d A U H) (hAB : ∀ q, B q → A q) : vx_Zq C n d B U H := ⟨va_Zq.narrow h.1 hAB, vx_L.narrow h.2 hAB⟩
theorem vx_Zqof {args : Array Value} {s : State} {C n d : String} {A : Nat → Prop} (hl : (Cond.laysStatic C n d).before args s = true) (hini : (Cond.initialized C).before args s = true) (h : (Cond.isRef (.static C n d)).before args s = true) (hA : ∀ a : Nat, a < s.heap.size → ¬ A a) : vx_Zq C n d A s s.heap := by
  refine ⟨va_Zqof hl hini h hA, ?_⟩
  obtain ⟨c, k, i, f, a, cell, h1, h2, h3, h4, h5, h6, h7, h8, h9⟩ := Cond.laysStatic_spec hl
  exact ⟨c, k, i, f, a, cell, h1, h2, h3, h4, h5, h6, h7, h8, h9, hA a (Array.getElem?_eq_some_iff.mp h5).1⟩
theorem vx_isRef {C n d : String} {v : Value} {A : Nat → Prop} {s : State} {args : Array Value} (h : va_Z C n d v A s s.heap) (hv : v.isRef = true) : (Cond.isRef (.static C n d)).before args s = true := by
  obtain ⟨cf, kf, fi, f, a, cell, h1, h2, h3, h4, h5, h6, h7, -⟩ := h
  have he : (Term.static C n d).eval args s none [] s = some v := by
    simp [Term.eval, State.fieldNamed?, h1, h2, h4, h5, h6, h7]
  simp only [Cond.before, Cond.holds, Cond.value, he]
  cases v <;> simp_all [Value.isRef]
theorem vx_isRefq {C n d : String} {A : Nat → Prop} {s : State} {args : Array Value} (h : va_Zq C n d A s s.heap) : (Cond.isRef (.static C n d)).before args s = true := by
  rcases h with h | ⟨t, h⟩
  · exact vx_isRef h rfl
  · exact vx_isRef h rfl
/-- the same frame, seen from here: as if the method were called anew in this heap -/
theorem vx_rebase {T : State} (X : Stand p l e R s m args below meth c T locs cells slots) {R' : Room} (hf : R'.frames ≤ R.frames) (hl : R'.locals ≤ R.locals) (hc : cells + R'.cells ≤ R.cells) (hs : slots + R'.slots ≤ R.slots) :
    Stand p l e R' ((T.setVm s.vm).setFrames (.invoking m args :: below)) m args below meth c T [] 0 0 := by
  have htop : (T.setVm s.vm).topJava?.isSome := X.here.top
  have hF : ((T.setVm s.vm).setFrames (.invoking m args :: below)).frames = .invoking m args :: below := State.frames_setFrames _ (State.cur_lt_of_top htop)
  obtain ⟨g₀, hg0⟩ := Option.isSome_iff_exists.mp htop
  obtain ⟨r, hr⟩ := State.topJava?_eq_some.mp hg0
  have hl9 : e.platform.stackLimits (T.setVm s.vm).me = e.platform.stackLimits s.me := X.limits
  have hb9 : (T.setVm s.vm).me.stackBytes = s.me.stackBytes := X.bytes
  refine ⟨X.admits, X.cas, X.clock, hF, ?_, X.hears, X.method, X.code, X.here, X.tail, X.warmed, ?_, ?_, ?_⟩
  · have h := X.room
    have hU : ((T.setVm s.vm).setFrames (.invoking m args :: below)).localsInUse = s.localsInUse := by
      rw [State.localsInUse_invoking hF (meth := meth) (c := c) X.method X.code, State.localsInUse_invoking X.frames X.method X.code]
    simp only [State.hasRoom, Bool.and_eq_true, decide_eq_true_eq] at h ⊢
    obtain ⟨⟨⟨⟨h1, h2, h3, h4, h5, h6⟩, h7⟩, h8⟩, h9⟩ := h
    rw [X.frames, List.length_cons] at h2 h3
    have q1 := X.heapSize
    have q2 := X.used
    simp only [hF, hU, List.length_cons, State.stackLimits_setFrames, State.stackBytes_setFrames, hl9, hb9]
    refine ⟨⟨⟨⟨by omega, by omega, by omega, by omega, by omega, h6⟩, ?_⟩, ?_⟩, X.book⟩
    · show T.heap.size + R'.cells ≤ e.platform.maxCells
      omega
    · show T.slotsUsed + R'.slots ≤ e.platform.maxSlots
      omega
  · rw [State.stackLimits_setFrames]; rfl
  · rw [State.stackBytes_setFrames]; rfl
  · refine ⟨?_, Nat.le_refl _, Nat.le_refl _, ?_, ?_, fun a c9 h9 => ⟨c9, h9, rfl, rfl, fun _ _ => rfl⟩⟩
    · obtain ⟨t, ht, -⟩ := State.frames_cons hr
      show T.setVm s.vm = { ((T.setVm s.vm).setFrames (.invoking m args :: below)).setFrames (T.setVm s.vm).frames with heap := T.heap, slotsUsed := T.slotsUsed }
      rw [State.setFrames_setFrames, State.setFrames_self ht]
      rfl
    · show T.slotsUsed = T.slotsUsed + ((T.heap.toList.drop T.heap.size).map (·.slots.size)).sum
      rw [List.drop_eq_nil_of_le (Nat.le_of_eq Array.length_toList)]
      rfl
    · show ((T.heap.toList.drop T.heap.size).map (·.slots.size)).sum ≤ 0
      rw [List.drop_eq_nil_of_le (Nat.le_of_eq Array.length_toList)]
      exact Nat.le_refl _
/-- 'throw new E()': new; dup; invokespecial; athrow -/
theorem vx_throw0 {cc : ByteArray} {pc : Nat} (hexec : p.tables.exec = Jvm.exec) (hb : c.code = cc) (hl : l.stackTraces = false) {own cls : String} {names : List String} {ik ic mc ms : Nat} {A : Nat → Prop}
    (hown : s.vm.findClass own = some m.cls) (hcls : Bundle.fit cls = true) (hnames : ∀ n ∈ names, Bundle.fit n = true)
    (hk : (Cond.classLink own ik cls).before args s = true) (hini : (Cond.initialized cls).before args s = true) (hat : ∀ w ∈ vx_at0 own ic cls names, w.before args s = true)
    (hgood : ∀ w ∈ Cond.classLink own ik cls :: Cond.initialized cls :: vx_at0 own ic cls names, vx_ot w = true)
    (hU : vx_Zq Bundle.tN "UNASSIGNED_STACK" Bundle.steD A s s.heap) (hN : vx_Zq Bundle.tN "SUPPRESSED_SENTINEL" Bundle.listD A s s.heap) (hS : va_S A s.heap H locs) (hsize : ls.size = c.maxLocals)
    (d0 : decode cc pc = .ok (.new ik, 3)) (d3 : decode cc (pc + 3) = .ok (.dup, 1)) (d4 : decode cc (pc + 4) = .ok (.invokespecial ic, 3)) (d7 : decode cc (pc + 7) = .ok (.athrow, 1))
    (hout : ∀ x ∈ c.exceptionTable.toList, covers x (pc + 7) = false)
    (hRframes : names.length + 3 < R.frames) (hRlocals : (rest.map fun v => v.category).sum + (13 * (names.length + 1) + 42) ≤ R.locals) (hRcells : cells + 1 ≤ R.cells) (hRslots : slots + 6 ≤ R.slots) (hlocks : meth.locks = false)
    (hx : ∀ t : State, s.vm.Alike t.vm → H.size ≤ t.heap.size → (∀ q : Nat, q < H.size → t.heap[q]? = H[q]?) → XC cls s t)
    (hf : ∀ z ∈ locs, free z.base) (hc : cells + 1 ≤ mc) (hs : slots + 6 ≤ ms) :
    W p l e R s m args below meth c H locs cells slots (vx_MQ below Qc XC args s mc ms free) (F0 m pc ls rest) := by
  intro T hT X
  have htr : e.platform.stackTraces = false := (show e.platform.stackTraces = l.stackTraces by rw [X.admits.platform]).trans hl
  have Y := vx_rebase X (R' := { frames := R.frames, locals := R.locals, cells := 1, slots := 6 }) (Nat.le_refl _) (Nat.le_refl _) hRcells hRslots
  obtain ⟨s', hA⟩ : ∃ z, z = (T.setVm s.vm).setFrames (.invoking m args :: below) := ⟨_, rfl⟩
  rw [← hA] at Y
  have hvm : s'.vm = s.vm := by rw [hA]; rfl
  have hhp : s'.heap = H := by rw [hA]; exact hT
  have hW0 : s.WarmedH s'.vm := by rw [hvm]; exact State.WarmedH.refl s
  have hat' : ∀ w ∈ vx_at0 own ic cls names, w.before args s' = true := fun w hw => vx_ot_at hW0 hvm.symm (hgood w (List.mem_cons_of_mem _ (List.mem_cons_of_mem _ hw))) (hat w hw)
  have hk' : (Cond.classLink own ik cls).before args s' = true := vx_ot_at hW0 hvm.symm (hgood _ List.mem_cons_self) hk
  have hini' : (Cond.initialized cls).before args s' = true := vx_ot_at hW0 hvm.symm (hgood _ (List.mem_cons_of_mem _ List.mem_cons_self)) hini
  have hU' : vx_Zq Bundle.tN "UNASSIGNED_STACK" Bundle.steD A s' s'.heap := by rw [hhp]; exact vx_Zq.moved hW0.alike (hU.kept hS.2.1)
  have hN' : vx_Zq Bundle.tN "SUPPRESSED_SENTINEL" Bundle.listD A s' s'.heap := by rw [hhp]; exact vx_Zq.moved hW0.alike (hN.kept hS.2.1)
  have h : ∀ w ∈ Bundle.ownAtoms0 own ic cls names, w.before args s' = true := vx_own hat' (vx_isRefq hU'.1) (vx_isRefq hN'.1) hU'.2.word hN'.2.word
  have hown' : s'.vm.findClass own = some m.cls := by rw [hvm]; exact hown
  have hins : (Cond.instantiable cls 6).before args s' = true := h _ (by simp [Bundle.ownAtoms0])
  obtain ⟨vm₁, cX, kX, hfX, hkX, -, -, X₁, st1⟩ := Y.newCold hexec (own := own) (C := cls) (index := ik) (n := 6) hown' hk' hins hini'
    (g := F0 m pc ls rest) rfl (by rw [hb]; exact d0) (Nat.le_refl _) (Nat.le_refl _)
  generalize hT1 : (T.setVm vm₁).pushCell { cls := cX, slots := kX.instanceTypes.map defaultValue, vm := .none } = T1 at X₁ st1
  have hcat : (Value.ref T.heap.size).category = 1 := rfl
  have hcellA : T1.heap[T.heap.size]? = some (freshCell cX kX) := by rw [← hT1]; exact State.heap_pushCell_size _ _
  have d3' : decode c.code (pc + 3) = .ok (.dup, 1) := by rw [hb]; exact d3
  obtain ⟨U, hsteps, hrun, hend, hW, hsame, ce, hce, hO⟩ := X₁.ctorThrow0 hexec htr (own := own) (cls := cls) (names := names) (ic := ic) hown' hcls hnames h (fun x hx => nomatch hx) hfX hkX hcellA (by rw [hhp, hT]; exact Nat.le_refl _)
    (g := { method := m, pc := pc + 4, locals := ls, stack := .ref T.heap.size :: .ref T.heap.size :: rest, locked := none }) rfl hsize rfl rfl (rest := rest) rfl
    (by rw [hb]; exact d4) (by rw [hb]; exact d7) hout hRframes (by simp only [List.map_cons, List.sum_cons, hcat]; omega) hlocks
  obtain ⟨f1, f2⟩ := vx_frame hsame
  rw [hhp] at f1 f2
  have hWs : s.WarmedH U.vm := State.WarmedH.trans hW0 hW
  have hcl : s.vm.findClass cls = some ce.cls := by
    have h9 := hO.cls
    rw [hvm] at h9
    exact h9
  have hall : s.sameButNew ({ U with vm := s.vm } : State) locs mc ms := by
    subst hA
    obtain ⟨e1, e2⟩ := hsame
    rw [State.setFrames_setFrames] at e1
    have h2 : (T.setVm s.vm).sameButNew ({ U with vm := s.vm } : State) [] (0 + 1) (0 + 6) := ⟨e1, e2⟩
    have h3 := X.same.trans h2
    rw [List.append_nil] at h3
    exact h3.mono hc hs
  refine ⟨U, ?_, .threw T.heap.size, hrun, hend, Or.inr ⟨T.heap.size, rfl, cls, ce, locs, hx U hWs.alike f1 (fun q hq => f2 q hq (fun z hz => nomatch hz)), hce, hO.vm, hcl, hWs, hall, hf⟩⟩
  refine st1 _ ?_
  show Steps p.tables e below (T1.setTop { method := m, pc := pc + 3, locals := ls, stack := .ref T.heap.size :: rest, locked := none }) _
  jvm_step X₁.here [X₁.here.top, hexec, d3', Value.category]
  exact hsteps
/-- 'throw new E("text")': new; dup; ldc; invokespecial; athrow -/
theorem vx_throwS {cc : ByteArray} {pc : Nat} (hexec : p.tables.exec = Jvm.exec) (hb : c.code = cc) (hl : l.stackTraces = false) {own cls text : String} {names : List String} {ik is ic mc ms sa : Nat} {A : Nat → Prop}
    (hown : s.vm.findClass own = some m.cls) (hcls : Bundle.fit cls = true) (hnames : ∀ n ∈ names, Bundle.fit n = true)
    (hk : (Cond.classLink own ik cls).before args s = true) (hini : (Cond.initialized cls).before args s = true) (hstr : vk_R own is text sa s) (hat : ∀ w ∈ vx_atS own ic cls names, w.before args s = true)
    (hgood : ∀ w ∈ Cond.classLink own ik cls :: Cond.initialized cls :: vx_atS own ic cls names, vx_ot w = true)
    (hU : vx_Zq Bundle.tN "UNASSIGNED_STACK" Bundle.steD A s s.heap) (hN : vx_Zq Bundle.tN "SUPPRESSED_SENTINEL" Bundle.listD A s s.heap) (hS : va_S A s.heap H locs) (hsize : ls.size = c.maxLocals)
    (d0 : decode cc pc = .ok (.new ik, 3)) (d3 : decode cc (pc + 3) = .ok (.dup, 1)) (d4 : decode cc (pc + 4) = .ok (.ldc is, 2)) (d6 : decode cc (pc + 6) = .ok (.invokespecial ic, 3)) (d9 : decode cc (pc + 9) = .ok (.athrow, 1))
    (hout : ∀ x ∈ c.exceptionTable.toList, covers x (pc + 9) = false)
    (hRframes : names.length + 3 < R.frames) (hRlocals : (rest.map fun v => v.category).sum + (13 * (names.length + 1) + 43) ≤ R.locals) (hRcells : cells + 1 ≤ R.cells) (hRslots : slots + 6 ≤ R.slots) (hlocks : meth.locks = false)
    (hx : ∀ t : State, s.vm.Alike t.vm → H.size ≤ t.heap.size → (∀ q : Nat, q < H.size → t.heap[q]? = H[q]?) → XC cls s t)
    (hf : ∀ z ∈ locs, free z.base) (hc : cells + 1 ≤ mc) (hs : slots + 6 ≤ ms) :
    W p l e R s m args below meth c H locs cells slots (vx_MQ below Qc XC args s mc ms free) (F0 m pc ls rest) := by
  intro T hT X
  have htr : e.platform.stackTraces = false := (show e.platform.stackTraces = l.stackTraces by rw [X.admits.platform]).trans hl
  have Y := vx_rebase X (R' := { frames := R.frames, locals := R.locals, cells := 1, slots := 6 }) (Nat.le_refl _) (Nat.le_refl _) hRcells hRslots
  obtain ⟨s', hA⟩ : ∃ z, z = (T.setVm s.vm).setFrames (.invoking m args :: below) := ⟨_, rfl⟩
  rw [← hA] at Y
  have hvm : s'.vm = s.vm := by rw [hA]; rfl
  have hhp : s'.heap = H := by rw [hA]; exact hT
  have hW0 : s.WarmedH s'.vm := by rw [hvm]; exact State.WarmedH.refl s
  have hat' : ∀ w ∈ vx_atS own ic cls names, w.before args s' = true := fun w hw => vx_ot_at hW0 hvm.symm (hgood w (List.mem_cons_of_mem _ (List.mem_cons_of_mem _ hw))) (hat w hw)
  have hk' : (Cond.classLink own ik cls).before args s' = true := vx_ot_at hW0 hvm.symm (hgood _ List.mem_cons_self) hk
  have hini' : (Cond.initialized cls).before args s' = true := vx_ot_at hW0 hvm.symm (hgood _ (List.mem_cons_of_mem _ List.mem_cons_self)) hini
  have hU' : vx_Zq Bundle.tN "UNASSIGNED_STACK" Bundle.steD A s' s'.heap := by rw [hhp]; exact vx_Zq.moved hW0.alike (hU.kept hS.2.1)
  have hN' : vx_Zq Bundle.tN "SUPPRESSED_SENTINEL" Bundle.listD A s' s'.heap := by rw [hhp]; exact vx_Zq.moved hW0.alike (hN.kept hS.2.1)
  have h : ∀ w ∈ Bundle.ownAtoms own ic cls names, w.before args s' = true := vx_own hat' (vx_isRefq hU'.1) (vx_isRefq hN'.1) hU'.2.word hN'.2.word
  have hown' : s'.vm.findClass own = some m.cls := by rw [hvm]; exact hown
  have hins : (Cond.instantiable cls 6).before args s' = true := h _ (by simp [Bundle.ownAtoms])
  obtain ⟨vm₁, cX, kX, hfX, hkX, -, -, X₁, st1⟩ := Y.newCold hexec (own := own) (C := cls) (index := ik) (n := 6) hown' hk' hins hini'
    (g := F0 m pc ls rest) rfl (by rw [hb]; exact d0) (Nat.le_refl _) (Nat.le_refl _)
  generalize hT1 : (T.setVm vm₁).pushCell { cls := cX, slots := kX.instanceTypes.map defaultValue, vm := .none } = T1 at X₁ st1
  have hcat : (Value.ref T.heap.size).category = 1 := rfl
  have hcellA : T1.heap[T.heap.size]? = some (freshCell cX kX) := by rw [← hT1]; exact State.heap_pushCell_size _ _
  have d3' : decode c.code (pc + 3) = .ok (.dup, 1) := by rw [hb]; exact d3
  have d4' : decode c.code (pc + 4) = .ok (.ldc is, 2) := by rw [hb]; exact d4
  have hstr' : vk_R own is text sa s' := vk_R.warm hW0 hstr
  obtain ⟨U, hsteps, hrun, hend, hW, hsame, ce, hce, hO⟩ := X₁.ctorThrowS hexec htr (own := own) (cls := cls) (names := names) (ic := ic) hown' hcls hnames h (fun x hx => nomatch hx) hfX hkX hcellA (by rw [hhp, hT]; exact Nat.le_refl _) (msg := .ref sa) rfl
    (g := { method := m, pc := pc + 6, locals := ls, stack := .ref sa :: .ref T.heap.size :: .ref T.heap.size :: rest, locked := none }) rfl hsize rfl rfl (rest := rest) rfl
    (by rw [hb]; exact d6) (by rw [hb]; exact d9) hout hRframes (by simp only [List.map_cons, List.sum_cons, hcat]; omega) hlocks
  obtain ⟨f1, f2⟩ := vx_frame hsame
  rw [hhp] at f1 f2
  have hWs : s.WarmedH U.vm := State.WarmedH.trans hW0 hW
  have hcl : s.vm.findClass cls = some ce.cls := by
    have h9 := hO.cls
    rw [hvm] at h9
    exact h9
  have hall : s.sameButNew ({ U with vm := s.vm } : State) locs mc ms := by
    subst hA
    obtain ⟨e1, e2⟩ := hsame
    rw [State.setFrames_setFrames] at e1
    have h2 : (T.setVm s.vm).sameButNew ({ U with vm := s.vm } : State) [] (0 + 1) (0 + 6) := ⟨e1, e2⟩
    have h3 := X.same.trans h2
    rw [List.append_nil] at h3
    exact h3.mono hc hs
  refine ⟨U, ?_, .threw T.heap.size, hrun, hend, Or.inr ⟨T.heap.size, rfl, cls, ce, locs, hx U hWs.alike f1 (fun q hq => f2 q hq (fun z hz => nomatch hz)), hce, hO.vm, hcl, hWs, hall, hf⟩⟩
  refine st1 _ ?_
  show Steps p.tables e below (T1.setTop { method := m, pc := pc + 3, locals := ls, stack := .ref T.heap.size :: rest, locked := none }) _
  jvm_step X₁.here [X₁.here.top, hexec, d3', Value.category]
  exact X₁.ldcString hexec (own := own) (text := text) (index := is) (a := sa) hown' hstr'.1 hstr'.2
    (g := { method := m, pc := pc + 4, locals := ls, stack := .ref T.heap.size :: .ref T.heap.size :: rest, locked := none }) rfl d4' _ hsteps
/-- 'throw new E("text")', the text by a wide index -/
theorem vx_throwSW {cc : ByteArray} {pc : Nat} (hexec : p.tables.exec = Jvm.exec) (hb : c.code = cc) (hl : l.stackTraces = false) {own cls text : String} {names : List String} {ik is ic mc ms sa : Nat} {A : Nat → Prop}
    (hown : s.vm.findClass own = some m.cls) (hcls : Bundle.fit cls = true) (hnames : ∀ n ∈ names, Bundle.fit n = true)
    (hk : (Cond.classLink own ik cls).before args s = true) (hini : (Cond.initialized cls).before args s = true) (hstr : vk_R own is text sa s) (hat : ∀ w ∈ vx_atS own ic cls names, w.before args s = true)
    (hgood : ∀ w ∈ Cond.classLink own ik cls :: Cond.initialized cls :: vx_atS own ic cls names, vx_ot w = true)
    (hU : vx_Zq Bundle.tN "UNASSIGNED_STACK" Bundle.steD A s s.heap) (hN : vx_Zq Bundle.tN "SUPPRESSED_SENTINEL" Bundle.listD A s s.heap) (hS : va_S A s.heap H locs) (hsize : ls.size = c.maxLocals)
    (d0 : decode cc pc = .ok (.new ik, 3)) (d3 : decode cc (pc + 3) = .ok (.dup, 1)) (d4 : decode cc (pc + 4) = .ok (.ldc_w is, 3)) (d7 : decode cc (pc + 7) = .ok (.invokespecial ic, 3)) (d10 : decode cc (pc + 10) = .ok (.athrow, 1))
    (hout : ∀ x ∈ c.exceptionTable.toList, covers x (pc + 10) = false)
    (hRframes : names.length + 3 < R.frames) (hRlocals : (rest.map fun v => v.category).sum + (13 * (names.length + 1) + 43) ≤ R.locals) (hRcells : cells + 1 ≤ R.cells) (hRslots : slots + 6 ≤ R.slots) (hlocks : meth.locks = false)
    (hx : ∀ t : State, s.vm.Alike t.vm → H.size ≤ t.heap.size → (∀ q : Nat, q < H.size → t.heap[q]? = H[q]?) → XC cls s t)
    (hf : ∀ z ∈ locs, free z.base) (hc : cells + 1 ≤ mc) (hs : slots + 6 ≤ ms) :
    W p l e R s m args below meth c H locs cells slots (vx_MQ below Qc XC args s mc ms free) (F0 m pc ls rest) := by
  intro T hT X
  have htr : e.platform.stackTraces = false := (show e.platform.stackTraces = l.stackTraces by rw [X.admits.platform]).trans hl
  have Y := vx_rebase X (R' := { frames := R.frames, locals := R.locals, cells := 1, slots := 6 }) (Nat.le_refl _) (Nat.le_refl _) hRcells hRslots
  obtain ⟨s', hA⟩ : ∃ z, z = (T.setVm s.vm).setFrames (.invoking m args :: below) := ⟨_, rfl⟩
  rw [← hA] at Y
  have hvm : s'.vm = s.vm := by rw [hA]; rfl
  have hhp : s'.heap = H := by rw [hA]; exact hT
  have hW0 : s.WarmedH s'.vm := by rw [hvm]; exact State.WarmedH.refl s
  have hat' : ∀ w ∈ vx_atS own ic cls names, w.before args s' = true := fun w hw => vx_ot_at hW0 hvm.symm (hgood w (List.mem_cons_of_mem _ (List.mem_cons_of_mem _ hw))) (hat w hw)
  have hk' : (Cond.classLink own ik cls).before args s' = true := vx_ot_at hW0 hvm.symm (hgood _ List.mem_cons_self) hk
  have hini' : (Cond.initialized cls).before args s' = true := vx_ot_at hW0 hvm.symm (hgood _ (List.mem_cons_of_mem _ List.mem_cons_self)) hini
  have hU' : vx_Zq Bundle.tN "UNASSIGNED_STACK" Bundle.steD A s' s'.heap := by rw [hhp]; exact vx_Zq.moved hW0.alike (hU.kept hS.2.1)
  have hN' : vx_Zq Bundle.tN "SUPPRESSED_SENTINEL" Bundle.listD A s' s'.heap := by rw [hhp]; exact vx_Zq.moved hW0.alike (hN.kept hS.2.1)
  have h : ∀ w ∈ Bundle.ownAtoms own ic cls names, w.before args s' = true := vx_own hat' (vx_isRefq hU'.1) (vx_isRefq hN'.1) hU'.2.word hN'.2.word
  have hown' : s'.vm.findClass own = some m.cls := by rw [hvm]; exact hown
  have hins : (Cond.instantiable cls 6).before args s' = true := h _ (by simp [Bundle.ownAtoms])
  obtain ⟨vm₁, cX, kX, hfX, hkX, -, -, X₁, st1⟩ := Y.newCold hexec (own := own) (C := cls) (index := ik) (n := 6) hown' hk' hins hini'
    (g := F0 m pc ls rest) rfl (by rw [hb]; exact d0) (Nat.le_refl _) (Nat.le_refl _)
  generalize hT1 : (T.setVm vm₁).pushCell { cls := cX, slots := kX.instanceTypes.map defaultValue, vm := .none } = T1 at X₁ st1
  have hcat : (Value.ref T.heap.size).category = 1 := rfl
  have hcellA : T1.heap[T.heap.size]? = some (freshCell cX kX) := by rw [← hT1]; exact State.heap_pushCell_size _ _
  have d3' : decode c.code (pc + 3) = .ok (.dup, 1) := by rw [hb]; exact d3
  have d4' : decode c.code (pc + 4) = .ok (.ldc_w is, 3) := by rw [hb]; exact d4
  have hstr' : vk_R own is text sa s' := vk_R.warm hW0 hstr
  obtain ⟨U, hsteps, hrun, hend, hW, hsame, ce, hce, hO⟩ := X₁.ctorThrowS hexec htr (own := own) (cls := cls) (names := names) (ic := ic) hown' hcls hnames h (fun x hx => nomatch hx) hfX hkX hcellA (by rw [hhp, hT]; exact Nat.le_refl _) (msg := .ref sa) rfl
    (g := { method := m, pc := pc + 7, locals := ls, stack := .ref sa :: .ref T.heap.size :: .ref T.heap.size :: rest, locked := none }) rfl hsize rfl rfl (rest := rest) rfl
    (by rw [hb]; exact d7) (by rw [hb]; exact d10) hout hRframes (by simp only [List.map_cons, List.sum_cons, hcat]; omega) hlocks
  obtain ⟨f1, f2⟩ := vx_frame hsame
  rw [hhp] at f1 f2
  have hWs : s.WarmedH U.vm := State.WarmedH.trans hW0 hW
  have hcl : s.vm.findClass cls = some ce.cls := by
    have h9 := hO.cls
    rw [hvm] at h9
    exact h9
  have hall : s.sameButNew ({ U with vm := s.vm } : State) locs mc ms := by
    subst hA
    obtain ⟨e1, e2⟩ := hsame
    rw [State.setFrames_setFrames] at e1
    have h2 : (T.setVm s.vm).sameButNew ({ U with vm := s.vm } : State) [] (0 + 1) (0 + 6) := ⟨e1, e2⟩
    have h3 := X.same.trans h2
    rw [List.append_nil] at h3
    exact h3.mono hc hs
  refine ⟨U, ?_, .threw T.heap.size, hrun, hend, Or.inr ⟨T.heap.size, rfl, cls, ce, locs, hx U hWs.alike f1 (fun q hq => f2 q hq (fun z hz => nomatch hz)), hce, hO.vm, hcl, hWs, hall, hf⟩⟩
  refine st1 _ ?_
  show Steps p.tables e below (T1.setTop { method := m, pc := pc + 3, locals := ls, stack := .ref T.heap.size :: rest, locked := none }) _
  jvm_step X₁.here [X₁.here.top, hexec, d3', Value.category]
  exact X₁.ldcStringW hexec (own := own) (text := text) (index := is) (a := sa) hown' hstr'.1 hstr'.2
    (g := { method := m, pc := pc + 4, locals := ls, stack := .ref T.heap.size :: .ref T.heap.size :: rest, locked := none }) rfl d4' _ hsteps
end Ends
section Bodies
variable {l : Launch}
theorem vx_ofW {y : MethodName} {ws ws' : List Cond} {rm : Room} {Pc : Array Value → State → Prop} {Qc : Array Value → State → Outcome → State → Prop} {XC : String → State → State → Prop} {mc ms : Nat} {free : Addr → Prop} {cc : ByteArray} {maxL : Nat} {ret : Option FieldType}
    (hy : plainName y.cls = true) (hw : ws = Cond.code y cc maxL ret :: ws')
    (body : ∀ p e s m args below meth c s₁, BodyLoose p l y (headSpec ws rm) cc maxL ret e s m args below meth c s₁ → c.maxLocals = maxL → (∀ x ∈ c.exceptionTable.toList, False) → Pc args s →
      W p l e (headSpec ws rm).room s m args below meth c s.heap [] 0 0 (vx_MQ below Qc XC args s mc ms free) (entryFrame m args maxL)) : vx_Met l y ws rm Pc Qc XC mc ms free := by
  refine MetFree.of_bodyS (code := cc) (maxLocals := maxL) (ret := ret) hy ?_ ?_
  · intro args s m h hn
    obtain ⟨meth, c, h1, h2, h3, h4, h5, h6, -, -⟩ := Cond.code_spec hn (atoms_spec (ws := ws) h _ (by rw [hw]; exact List.mem_cons_self))
    exact ⟨meth, c, h1, h2, h3, h4, h5, h6⟩
  · intro p e s m args below meth c s₁ B hml hP _
    have hh0 : s₁.heap = s.heap := by rw [B.state]; rfl
    have ht : ∀ x ∈ c.exceptionTable.toList, False := by
      obtain ⟨meth9, c9, h1, h2, -, -, -, -, h7, -⟩ := Cond.code_spec B.named (atoms_spec (ws := ws) B.pre _ (by rw [hw]; exact List.mem_cons_self))
      cases Option.some.inj (h1.symm.trans B.method)
      cases Option.some.inj (h2.symm.trans (Stand.of_body B).code)
      intro x hx
      rw [Array.isEmpty_iff.mp h7] at hx
      cases hx
    obtain ⟨t, a1, o, b1, b2, b3⟩ := body p e s m args below meth c s₁ B hml ht hP s₁ hh0 (Stand.of_body B)
    exact ⟨t, o, a1, b1, b2, b3⟩
/-- the table of a body with handlers -/
theorem vx_table {p : Program} {x y : MethodName} {S : Spec} {cc bytes : ByteArray} {maxL maxL' : Nat} {ret ret' : Option FieldType} {e : Env} {s s₁ : State} {m : MethodId} {args : Array Value} {below : List Frame} {meth : Method} {c : Code} {hh : List (Nat × Nat × Nat × Nat)}
    (B : BodyLoose p l y S cc maxL ret e s m args below meth c s₁) (h : (Cond.codeWith y bytes maxL' ret' hh).before args s = true) : c.exceptionTable.toList = tableOf hh := by
  obtain ⟨m9, meth9, c9, hn9, h1, h2, -, -, h6, -⟩ := Cond.codeWith_spec h
  cases Option.some.inj (hn9.symm.trans B.named)
  cases Option.some.inj (h1.symm.trans B.method)
  cases Option.some.inj (h2.symm.trans (Stand.of_body B).code)
  rw [← h6, table_eq]
end Bodies
end VXA
/-! ===== END ===== -/
/-! ===== BEGIN a static call of a method with an exception table ===== -/
section VXS
variable {p : Program} {l : Launch} {e : Env} {R : Room} {s : State} {m : MethodId} {args : Array Value} {below : List Frame} {meth : Method} {c : Code} {T : State} {H : Heap} {locs : List Loc} {cells slots : Nat}
abbrev vx_CSW (R : Room) (s : State) (args : Array Value) (own : String) (index : Nat) (y : MethodName) (bytes : ByteArray) (maxL : Nat) (ret : Option FieldType) (hh : List (Nat × Nat × Nat × Nat)) (ws : List Cond) (rm : Room) (mc ms n : Nat) : Prop :=
  (rm.cells = mc ∧ rm.slots = ms ∧ rm.frames + 1 ≤ R.frames ∧ 8 + (maxL + 11) + rm.locals ≤ R.locals ∧ (∀ w ∈ ws, ∀ (a' : Array Value) (U : State), s.WarmedH U.vm → w.before a' U = true) ∧ Cond.codeWith y bytes maxL ret hh ∈ ws) ∧
  (Cond.codeWith y bytes maxL ret hh).before args s = true ∧ (Cond.initialized y.cls).before args s = true ∧ (y.cls ≠ "java/lang/invoke/MethodHandle" ∧ y.cls ≠ "java/lang/invoke/VarHandle") ∧
  (∀ sig, parseMethodDescriptor y.desc = some sig → n = sig.parameters.length) ∧ (Cond.methodLink own index y).before args s = true ∧ (Cond.static y).before args s = true
theorem vx_cwSW {own : String} {index maxL mc ms : Nat} {y : MethodName} {bytes : ByteArray} {ret : Option FieldType} {hh : List (Nat × Nat × Nat × Nat)} {Ts ws ws' : List Cond} {rm : Room} (n : Nat) (ht : ∀ w ∈ Ts, w.before args s = true) (hT : GoodIn Ts (va_wsS own index y ws)) (hw : ws = Cond.codeWith y bytes maxL ret hh :: ws') (hrc : rm.cells = mc) (hrs : rm.slots = ms)
    (hd : y.cls ≠ "java/lang/invoke/MethodHandle" ∧ y.cls ≠ "java/lang/invoke/VarHandle" ∧ (parseMethodDescriptor y.desc).map (fun d => d.parameters.length) = some n) (hR : rm.frames + 1 ≤ R.frames ∧ 8 + (maxL + 11) + rm.locals ≤ R.locals) :
    vx_CSW R s args own index y bytes maxL ret hh ws rm mc ms n := by
  have ok : ∀ w ∈ va_wsS own index y ws, w.before args s = true := fun w h => ht w (hT w h).1
  have hG : GoodIn Ts ws := fun w h => hT w (by unfold va_wsS; exact List.mem_append_right _ h)
  have hc : Cond.codeWith y bytes maxL ret hh ∈ ws := by rw [hw]; exact List.mem_cons_self
  refine ⟨⟨hrc, hrs, hR.1, hR.2, pay_in ht hG, hc⟩, ht _ (hG _ hc).1, ok _ (by simp [va_wsS]), ⟨hd.1, hd.2.1⟩, fun sig h => ?_, ok _ (by simp [va_wsS]), ok _ (by simp [va_wsS])⟩
  have h2 := hd.2.2
  rw [h] at h2
  exact (Option.some.inj h2).symm
theorem vx_callSW (X : Stand p l e R s m args below meth c T locs cells slots) (hexec : p.tables.exec = Jvm.exec) {own : String} {index : Nat} {y : MethodName} {bytes : ByteArray} {maxL : Nat} {ret : Option FieldType} {hh : List (Nat × Nat × Nat × Nat)}
    (hown : s.vm.findClass own = some m.cls) (hlink : (Cond.methodLink own index y).before args s = true) (hstat : (Cond.static y).before args s = true) (hinit : (Cond.initialized y.cls).before args s = true)
    (hcode : (Cond.codeWith y bytes maxL ret hh).before args s = true) (hy : y.cls ≠ "java/lang/invoke/MethodHandle" ∧ y.cls ≠ "java/lang/invoke/VarHandle")
    {W9 : Nat} {Pre : Pt → Array Value → Prop} {Post : Pt → Array Value → Option Value → Pt → Prop} (hK : Back l R p e below s args y 3 W9 Pre Post)
    {g : JFrame} (hg : g.method = m) (hsize : g.locals.size = c.maxLocals) {argsL rest : List Value} (hlen : ∀ sig, parseMethodDescriptor y.desc = some sig → argsL.length = sig.parameters.length)
    (hstack : g.stack = argsL.reverse ++ rest) (hW : 2 * g.monitorRoom + (rest.map fun v => v.category).sum ≤ W9) (hdg : decode c.code g.pc = .ok (.invokestatic index, 3))
    (hpre : ∀ vm₁, s.WarmedH vm₁ → Pre ⟨T.setVm vm₁, locs, cells, slots⟩ argsL.toArray) :
    ∃ (v : Option Value) (vm₁ : Vm) (B : Pt), s.WarmedH vm₁ ∧ Stand p l e R s m args below meth c B.U B.locs B.cells B.slots ∧ Post ⟨T.setVm vm₁, locs, cells, slots⟩ argsL.toArray v B ∧
      ∀ target, Steps p.tables e below (B.U.setTop { g with pc := g.pc + 3, stack := v.toList ++ rest }) target → Steps p.tables e below (T.setTop g) target := by
  obtain ⟨mk, methM, cM, hnamed, hmethM, -, -, -, -, -, -, hsigM⟩ := Cond.codeWith_spec hcode
  have hstatic : methM.isStatic = true := Cond.static_spec hnamed hmethM hstat
  obtain ⟨kP, hkP, -⟩ := className_of_methodNamed hnamed
  have hinitP : kP.init = .initialized := Cond.initialized_spec (findClass_of_methodNamed hnamed) hkP hinit
  obtain ⟨vm₁, X₁, hstep₁⟩ := X.invokestatic hexec hown hlink hnamed hmethM hstatic hkP hinitP hy (g := g) hg (argsL := argsL) (rest := rest) (hlen _ hsigM) hstack hdg
  obtain ⟨v, B, X', hpost, hsteps⟩ := hK m meth c ⟨T.setVm vm₁, locs, cells, slots⟩ { g with stack := rest } (.invokestatic index) mk argsL.toArray X₁ hg hsize hdg hW (X₁.named hnamed) (hpre vm₁ X₁.warmed)
  exact ⟨v, vm₁, B, X₁.warmed, X', hpost, fun target h => hstep₁ _ fun acts => by rw [doInvoke_state]; exact hsteps.trans h⟩
theorem vx_runSW {y : MethodName} {bytes cc : ByteArray} {maxL nL mc ms n index : Nat} {ret : Option FieldType} {hh : List (Nat × Nat × Nat × Nat)} {ws : List Cond} {rm : Room} {Pc : Array Value → State → Prop} {Qc : Array Value → State → Outcome → State → Prop} {free : Addr → Prop} {Ts : List Cond} {own : String} {As rest : List Value} {g : JFrame}
    (S : CallFix p m c cc nL s args Ts own) (hM : Met l y ws rm Pc Qc mc ms free) (cw : vx_CSW R s args own index y bytes maxL ret hh ws rm mc ms n) (hp : PreS s H Pc As)
    (hg : g.method = m) (hn : As.length = n) (hsize : g.locals.size = nL) (hstack : g.stack = As.reverse ++ rest) (hW : 2 * g.monitorRoom + (rest.map fun v => v.category).sum ≤ 8) (hdg : decode cc g.pc = .ok (.invokestatic index, 3)) (hf : cells + mc ≤ R.cells ∧ slots + ms ≤ R.slots) :
    va_Run p l e R s m args below meth c H locs cells slots mc ms g rest (Qc As.toArray) (free) := by
  obtain ⟨⟨hrc, hrs, hfr, hlo, hws, hcw⟩, hcode, hini, hy, hlen, hl, hstt⟩ := cw
  have hK : Back l R p e below s args y 3 8 (PreOf R mc ms Pc) (PostOf Qc mc ms free) := va_backW (hh := hh) (bytes := bytes) (maxL := maxL) (ret := ret) hM hp.1 hrc hrs hfr hlo hws hcw (fun a' U hW => word_at hW (Or.inl (by first | rfl | simp [Cond.onTables, Cond.keeps, Cond.steady])) hini)
  obtain ⟨hx, hb, hml, ho, -⟩ := S
  intro T hT X
  obtain ⟨v, vm₁, ⟨U', l2, c2, s2⟩, hW₁, X', ⟨g', mk, t, L, e1, e2, hq, h1, hL, h2, h3⟩, st⟩ := vx_callSW X hx (hh := hh) (bytes := bytes) (maxL := maxL) (ret := ret) ho hl hstt hini hcode hy hK hg (hsize.trans hml.symm) (argsL := As) (rest := rest) (fun sig h => hn.trans (hlen sig h)) hstack hW (by rw [hb]; exact hdg)
    (fun vm₁ hW₁ => ⟨hf.1, hf.2, hp.2 (T.setVm vm₁) hT hW₁⟩)
  dsimp only [Pt.U, Pt.locs, Pt.cells, Pt.slots] at X' e1 e2 h1 h2 h3 st
  subst h1; subst h2; subst h3
  exact ⟨v, (T.setVm vm₁).calling g' mk As.toArray, t, U', L, hT, X', hL, e1, e2, hq, st⟩
/-- not caught here, past rows that name other classes: it goes on to the caller -/
theorem vx_outP {p : Program} {l : Launch} {e : Env} {R : Room} {s : State} {m : MethodId} {args : Array Value} {below : List Frame} {meth : Method} {c : Code} {H : Heap} {locs : List Loc} {cells slots : Nat} {free : Addr → Prop} {ls : Array Slot} {rest : List Value} {Qc : Array Value → State → Outcome → State → Prop} {XC : String → State → State → Prop}
    {pc : Nat} {own E : String} {ce : Cell} {q : Addr} {mc ms : Nat} (hown : s.vm.findClass own = some m.cls) (hlocks : meth.locks = false)
    (hpass : ∀ z ∈ c.exceptionTable.toList, covers z pc = false ∨ (z.catchType ≠ 0 ∧ ∃ nm : String, (Cond.classLink own z.catchType nm).before args s = true ∧ va_Nc E nm s)) (hcell : H[q]? = some ce) (hv : ce.vm = .none) (hcl : s.vm.findClass E = some ce.cls)
    (hx : ∀ t : State, t.heap = H → s.vm.Alike t.vm → XC E s t) (hf : ∀ z ∈ locs, free z.base) (hc : cells ≤ mc) (hs : slots ≤ ms) :
    vx_W p l e R s m args below meth c H locs cells slots (vx_MQ below Qc XC args s mc ms free) (F0 m pc ls rest) q := by
  intro T hT X
  have hpl : e.platform.magicAccessors = ({} : Platform).magicAccessors := by rw [X.admits.platform]
  obtain ⟨vm', hW', X', st⟩ := X.outThrough hlocks q (g := F0 m pc ls rest) rfl rfl rfl (cell := ce) (by rw [hT]; exact hcell) (by rw [hv]; rfl)
    (by obtain ⟨k9, h9, -⟩ := Vm.findClass_spec hcl; exact ⟨k9, h9⟩) (fun z hz => by
      rcases hpass z hz with h | ⟨hz0, nm, hl1, hn1⟩
      · exact Or.inl h
      · obtain ⟨c6, hc6, hcl6⟩ := Cond.classLink_spec hown hl1 e.platform hpl
        obtain ⟨a8, b8, h1, h2, h3⟩ := hn1
        cases Option.some.inj (h1.symm.trans hcl)
        cases Option.some.inj (h2.symm.trans hc6)
        exact Or.inr ⟨hz0, _, hcl6, h3⟩)
  obtain ⟨g₀, hfr⟩ := X'.frames_eq
  have hcell9 : ((T.setVm vm').setFrames (.throwing q :: below)).heap[q]? = some ce := by
    show T.heap[q]? = some ce
    rw [hT]; exact hcell
  have hend : Ended ((T.setVm vm').setFrames (.throwing q :: below)) below (.threw q) := State.frames_setFrames _ (State.cur_lt_of_frames hfr)
  refine ⟨(T.setVm vm').setFrames (.throwing q :: below), ?_, .threw q, X'.here.running, hend, Or.inr ⟨q, rfl, E, ce, locs, hx _ hT (X'.ends _).1.alike, hcell9, hv, hcl, (X'.ends _).1, (X'.ends _).2.mono hc hs, hf⟩⟩
  rw [X.pushThrowing_eq]
  exact st
/-- a thing of a world lies in the heap -/
theorem vx_lt {D : va_G} {cl : List vw_C} {ws : va_W} {H1 : Heap} (h : va_P D cl ws H1) {k : Nat} {q : Nat × va_E} (hk : ws[k]? = some q) : q.1 < H1.size := (h k q hk).lt
end VXS
/-! ===== END ===== -/
/-! ===== BEGIN methods with a table of their own: called by a name, returning or throwing ===== -/
section VXH
/-! vx_backW, vx_callVX, vx_callSX, vx_callVW, vx_runVW, vx_runVX, vx_runSX, vx_ofWH follow the same proofs as their sisters above (Free/Laws.lean, Shelf42/LK1.lean); vx_outP calls Shelf42/NT130.lean (outThrough). -/
section
variable {l : Launch} {R : Room} {p : Program} {e : Env} {below : List Frame} {s : State} {sargs : Array Value} {y : MethodName} {len W9 : Nat}
theorem vx_backW {ws : List Cond} {rm : Room} {Pc : Array Value → State → Prop} {Qc : Array Value → State → Outcome → State → Prop} {XC : String → State → State → Prop} {mc ms : Nat} {free : Addr → Prop} {bytes : ByteArray} {maxL : Nat} {ret : Option FieldType} {hh : List (Nat × Nat × Nat × Nat)}
    (hM : vx_Met l y ws rm Pc Qc XC mc ms free) (hblind : FrameBlind Pc) (hrc : rm.cells = mc) (hrs : rm.slots = ms)
    (hframes : rm.frames + 1 ≤ R.frames) (hlocals : W9 + (maxL + 11) + rm.locals ≤ R.locals)
    (hws : ∀ w ∈ ws, ∀ a' U, s.WarmedH U.vm → w.before a' U = true) (hcode : Cond.codeWith y bytes maxL ret hh ∈ ws) (hinit : ∀ a' U, s.WarmedH U.vm → (Cond.initialized y.cls).before a' U = true) :
    vx_Back l R p e below s sargs y len W9 (PreOf R mc ms Pc) (PostOf Qc mc ms free) (vx_Post XC mc ms free) := by
  intro m meth c A g ig mk a X hg hsize hdg hW hn hp
  have h1 : (headSpec ws rm).pre.before a A.U = true := atoms_intro fun w hw => hws w hw _ _ X.warmed
  have h2 : (Cond.codeWith y bytes maxL ret hh).before a A.U = true := hws _ hcode _ _ X.warmed
  have h3 : (Cond.initialized y.cls).before a A.U = true := hinit _ _ X.warmed
  have h4 : A.cells + (headSpec ws rm).room.cells ≤ R.cells := by rw [show (headSpec ws rm).room.cells = mc from hrc]; exact hp.1
  have h5 : A.slots + (headSpec ws rm).room.slots ≤ R.slots := by rw [show (headSpec ws rm).room.slots = ms from hrs]; exact hp.2.1
  have hPc : Pc a (A.U.calling g mk a) := hblind _ _ _ _ hp.2.2
  obtain ⟨U, Ls, c0, s0⟩ := A
  dsimp only [Pt.U, Pt.locs, Pt.cells, Pt.slots] at h1 h2 h3 h4 h5 X hn hPc ⊢
  obtain ⟨m9, methY, cY, hn9, hmY, hcY, -, hlY, -⟩ := Cond.codeWith_spec h2
  cases Option.some.inj (hn9.symm.trans hn)
  obtain ⟨kY, hkY, -⟩ := className_of_methodNamed hn
  have hinitY : kY.init = .initialized := Cond.initialized_spec (findClass_of_methodNamed hn) hkY h3
  have h : At U g.method c below := by rw [hg]; exact X.here
  have hlocals9 : W9 + (maxL + 11) + (headSpec ws rm).room.locals ≤ R.locals := hlocals
  have happ : (headSpec ws rm).appliesLoose y e.platform (U.calling g mk a) = true :=
    Spec.appliesLoose_calling (g := g) h hdg hn hkY hinitY
      (X.room_calling (g := g) (R' := (headSpec ws rm).room) hsize hmY hcY hframes (by rw [hlY]; omega) h4 h5) h1
  obtain ⟨mid, hmid⟩ := h.above
  have hfr : (U.setTop g).frames = (.java g :: mid) ++ below := by rw [State.frames_setTop' g h.top, hmid]; rfl
  obtain ⟨o, s₂, hsteps, -, hend, hq⟩ := Steps.callFree hM p X.admits X.cas X.clock (acts := []) hfr happ hPc trivial
  have hq' : vx_Q Qc XC mc ms free a (U.calling g mk a) o s₂ := hq
  rw [State.frames_setTop' g h.top] at hend
  obtain ⟨g₀, hg0⟩ := Option.isSome_iff_exists.mp h.top
  obtain ⟨r, hr⟩ := State.topJava?_eq_some.mp hg0
  have hr' : (({ U with heap := s₂.heap, slotsUsed := s₂.slotsUsed } : State).setVm s₂.vm).frames = .java g₀ :: r := hr
  rcases hq' with ⟨hqc, L, hfe, hL⟩ | ⟨q, rfl, E, ce, L, hx, hce, hcv, hcl, hW₂, hsm, hL⟩
  · obtain ⟨⟨v, rfl⟩, hW₂, e2, q2, q3, q4, q5, q6⟩ := id hfe
    have e3 : s₂ = ({ (U.calling g mk a).setFrames s₂.frames with heap := s₂.heap, slotsUsed := s₂.slotsUsed } : State).setVm s₂.vm := by
      have : s₂ = ({ s₂ with vm := (U.calling g mk a).vm } : State).setVm s₂.vm := rfl
      rw [e2] at this
      exact this
    obtain ⟨c₂, i₂, len₂, hc₂, hd₂, hf₂⟩ := hend
    have hW' : U.WarmedH s₂.vm := hW₂
    have hcc : c₂ = c := by
      have h1 : s₂.code? g.method = U.code? g.method := by
        rw [State.code?_eq, State.code?_eq, hW'.alike.method?]
      exact Option.some.inj (hc₂.symm.trans (h1.trans h.code))
    subst hcc
    have hlen : len₂ = len := by rw [hdg] at hd₂; cases hd₂; rfl
    subst hlen
    have hs₂ : s₂ = (({ U with heap := s₂.heap, slotsUsed := s₂.slotsUsed } : State).setVm s₂.vm).setTop { g with pc := g.pc + len₂, stack := v.toList ++ g.stack } := by
      refine e3.trans ?_
      rw [hf₂, State.calling_eq h.top, State.setFrames_setFrames, State.setTop_of_frames _ hr', hr]
      rfl
    have hsame : U.sameButNew ({ U with heap := s₂.heap, slotsUsed := s₂.slotsUsed } : State) L mc ms := by
      refine ⟨?_, q2, q3, q4, q5, q6⟩
      obtain ⟨t, ht, -⟩ := State.frames_cons hr
      show ({ U with heap := s₂.heap, slotsUsed := s₂.slotsUsed } : State) = { U.setFrames U.frames with heap := s₂.heap, slotsUsed := s₂.slotsUsed }
      rw [State.setFrames_self ht]
    subst hg
    refine Or.inl ⟨v, ⟨(({ U with heap := s₂.heap, slotsUsed := s₂.slotsUsed } : State).setVm s₂.vm), Ls ++ L, c0 + mc, s0 + ms⟩,
      ⟨X.admits, X.cas, X.clock, X.frames, X.room, X.hears, X.method, X.code, (X.here.setHeapUsed s₂.heap s₂.slotsUsed).setVm hW'.alike, X.tail, State.WarmedH.trans X.warmed hW', X.limits, X.bytes, X.same.trans (hsame.setVm s.vm)⟩,
      ⟨g, mk, s₂, L, rfl, rfl, hqc, rfl, hL, rfl, rfl⟩, ?_⟩
    show Steps p.tables e below _ ((({ U with heap := s₂.heap, slotsUsed := s₂.slotsUsed } : State).setVm s₂.vm).setTop { g with pc := g.pc + len₂, stack := v.toList ++ g.stack })
    rw [← hs₂]
    exact hsteps
  · obtain ⟨e2, q2, q3, q4, q5, q6⟩ := id hsm
    have e3 : s₂ = ({ (U.calling g mk a).setFrames s₂.frames with heap := s₂.heap, slotsUsed := s₂.slotsUsed } : State).setVm s₂.vm := by
      have : s₂ = ({ s₂ with vm := (U.calling g mk a).vm } : State).setVm s₂.vm := rfl
      rw [e2] at this
      exact this
    have hf₂ : s₂.frames = .throwing q :: .java g :: U.frames.tail := hend
    have hW' : U.WarmedH s₂.vm := hW₂
    have hs₂ : s₂ = ((({ U with heap := s₂.heap, slotsUsed := s₂.slotsUsed } : State).setVm s₂.vm).setTop g).pushFrame (.throwing q) := by
      refine e3.trans ?_
      rw [hf₂, State.calling_eq h.top, State.setFrames_setFrames, State.pushFrame, State.frames_setTop _ hr', State.setTop_of_frames _ hr', State.setFrames_setFrames, hr]
      rfl
    have hsame : U.sameButNew ({ U with heap := s₂.heap, slotsUsed := s₂.slotsUsed } : State) L mc ms := by
      refine ⟨?_, q2, q3, q4, q5, q6⟩
      obtain ⟨t, ht, -⟩ := State.frames_cons hr
      show ({ U with heap := s₂.heap, slotsUsed := s₂.slotsUsed } : State) = { U.setFrames U.frames with heap := s₂.heap, slotsUsed := s₂.slotsUsed }
      rw [State.setFrames_self ht]
    subst hg
    refine Or.inr ⟨q, ⟨(({ U with heap := s₂.heap, slotsUsed := s₂.slotsUsed } : State).setVm s₂.vm), Ls ++ L, c0 + mc, s0 + ms⟩,
      ⟨X.admits, X.cas, X.clock, X.frames, X.room, X.hears, X.method, X.code, (X.here.setHeapUsed s₂.heap s₂.slotsUsed).setVm hW'.alike, X.tail, State.WarmedH.trans X.warmed hW', X.limits, X.bytes, X.same.trans (hsame.setVm s.vm)⟩,
      ⟨g, mk, s₂, L, E, ce, rfl, rfl, hx, hce, hcv, hcl, rfl, hL, rfl, rfl⟩, ?_⟩
    show Steps p.tables e below _ (((({ U with heap := s₂.heap, slotsUsed := s₂.slotsUsed } : State).setVm s₂.vm).setTop g).pushFrame (.throwing q))
    rw [← hs₂]
    exact hsteps
end
variable {p : Program} {l : Launch} {e : Env} {R : Room} {s : State} {m : MethodId} {args : Array Value} {below : List Frame} {meth : Method} {c : Code} {T : State} {H : Heap} {locs : List Loc} {cells slots : Nat}
theorem vx_callVX (X : Stand p l e R s m args below meth c T locs cells slots) (hexec : p.tables.exec = Jvm.exec) {own C : String} {index : Nat} {y : MethodName} {bytes : ByteArray} {maxL : Nat} {ret : Option FieldType} {hh : List (Nat × Nat × Nat × Nat)}
    (hown : s.vm.findClass own = some m.cls) (hlink : (Cond.methodLink own index y).before args s = true) (hinst : (Cond.instanceMethod y).before args s = true) (hsel : (Cond.selects C y y).before args s = true)
    (hcode : (Cond.codeWith y bytes maxL ret hh).before args s = true) (hy : y.cls ≠ "java/lang/invoke/MethodHandle" ∧ y.cls ≠ "java/lang/invoke/VarHandle")
    {W9 : Nat} {Pre : Pt → Array Value → Prop} {Post : Pt → Array Value → Option Value → Pt → Prop} {PostX : Pt → Array Value → Addr → Pt → Prop} (hK : vx_Back l R p e below s args y 3 W9 Pre Post PostX)
    {b : Addr} {cellB : Cell} (hcell : T.heap[b]? = some cellB) (hobj : cellB.vm.isStatics = false) (hcls : s.vm.findClass C = some cellB.cls)
    {g : JFrame} (hg : g.method = m) (hsize : g.locals.size = c.maxLocals) {argsL rest : List Value} (hlen : ∀ sig, parseMethodDescriptor y.desc = some sig → argsL.length = sig.parameters.length)
    (hstack : g.stack = argsL.reverse ++ .ref b :: rest) (hW : 2 * g.monitorRoom + (rest.map fun v => v.category).sum ≤ W9) (hdg : decode c.code g.pc = .ok (.invokevirtual index, 3))
    (hpre : ∀ vm₁, s.WarmedH vm₁ → Pre ⟨T.setVm vm₁, locs, cells, slots⟩ (Value.ref b :: argsL).toArray) :
    (∃ (v : Option Value) (vm₁ : Vm) (B : Pt), s.WarmedH vm₁ ∧ Stand p l e R s m args below meth c B.U B.locs B.cells B.slots ∧ Post ⟨T.setVm vm₁, locs, cells, slots⟩ (Value.ref b :: argsL).toArray v B ∧
      ∀ target, Steps p.tables e below (B.U.setTop { g with pc := g.pc + 3, stack := v.toList ++ rest }) target → Steps p.tables e below (T.setTop g) target) ∨
    (∃ (q : Addr) (vm₁ : Vm) (B : Pt), s.WarmedH vm₁ ∧ Stand p l e R s m args below meth c B.U B.locs B.cells B.slots ∧ PostX ⟨T.setVm vm₁, locs, cells, slots⟩ (Value.ref b :: argsL).toArray q B ∧
      Steps p.tables e below (T.setTop g) ((B.U.setTop { g with stack := rest }).pushFrame (.throwing q))) := by
  obtain ⟨mk, methM, hnamed, hmethM, hstM, habM⟩ := Cond.instanceMethod_spec hinst
  obtain ⟨m8, methM', cM, hn8, hmethM', -, -, -, -, -, -, hsigM⟩ := Cond.codeWith_spec hcode
  cases Option.some.inj (hn8.symm.trans hnamed)
  cases hmethM.symm.trans hmethM'
  obtain ⟨c2, r2, m2, q1, q2, q3, q4, kP, hkP, hkPi⟩ := Cond.selects_spec hsel
  cases hcls.symm.trans q1
  cases (State.methodFound?_of_named hnamed hy).symm.trans q2
  cases hnamed.symm.trans q3
  have hselP : selectMethod e.platform s.vm cellB.cls mk = .method mk := by rw [Launch.admits_selectMethod X.admits]; exact q4
  obtain ⟨vm₁, X₁, hstep₁⟩ := X.invokevirtual hexec hown hlink hnamed hmethM hstM hkP hkPi hy (a := b) (cell := cellB) hcell
    (fun z h => by rw [h] at hobj; cases hobj) hselP hmethM habM hkP hkPi (g := g) hg (argsL := argsL) (rest := rest) (hlen _ hsigM) hstack hdg
  rcases hK m meth c ⟨T.setVm vm₁, locs, cells, slots⟩ { g with stack := rest } (.invokevirtual index) mk (Value.ref b :: argsL).toArray X₁ hg hsize hdg hW (X₁.named hnamed) (hpre vm₁ X₁.warmed) with ⟨v, B, X', hpost, hsteps⟩ | ⟨q, B, X', hpost, hsteps⟩
  · exact Or.inl ⟨v, vm₁, B, X₁.warmed, X', hpost, fun target h => hstep₁ _ fun acts => by rw [doInvoke_state]; exact hsteps.trans h⟩
  · exact Or.inr ⟨q, vm₁, B, X₁.warmed, X', hpost, hstep₁ _ fun acts => by rw [doInvoke_state]; exact hsteps⟩
theorem vx_callSX (X : Stand p l e R s m args below meth c T locs cells slots) (hexec : p.tables.exec = Jvm.exec) {own : String} {index : Nat} {y : MethodName} {bytes : ByteArray} {maxL : Nat} {ret : Option FieldType} {hh : List (Nat × Nat × Nat × Nat)}
    (hown : s.vm.findClass own = some m.cls) (hlink : (Cond.methodLink own index y).before args s = true) (hstat : (Cond.static y).before args s = true) (hinit : (Cond.initialized y.cls).before args s = true)
    (hcode : (Cond.codeWith y bytes maxL ret hh).before args s = true) (hy : y.cls ≠ "java/lang/invoke/MethodHandle" ∧ y.cls ≠ "java/lang/invoke/VarHandle")
    {W9 : Nat} {Pre : Pt → Array Value → Prop} {Post : Pt → Array Value → Option Value → Pt → Prop} {PostX : Pt → Array Value → Addr → Pt → Prop} (hK : vx_Back l R p e below s args y 3 W9 Pre Post PostX)
    {g : JFrame} (hg : g.method = m) (hsize : g.locals.size = c.maxLocals) {argsL rest : List Value} (hlen : ∀ sig, parseMethodDescriptor y.desc = some sig → argsL.length = sig.parameters.length)
    (hstack : g.stack = argsL.reverse ++ rest) (hW : 2 * g.monitorRoom + (rest.map fun v => v.category).sum ≤ W9) (hdg : decode c.code g.pc = .ok (.invokestatic index, 3))
    (hpre : ∀ vm₁, s.WarmedH vm₁ → Pre ⟨T.setVm vm₁, locs, cells, slots⟩ argsL.toArray) :
    (∃ (v : Option Value) (vm₁ : Vm) (B : Pt), s.WarmedH vm₁ ∧ Stand p l e R s m args below meth c B.U B.locs B.cells B.slots ∧ Post ⟨T.setVm vm₁, locs, cells, slots⟩ argsL.toArray v B ∧
      ∀ target, Steps p.tables e below (B.U.setTop { g with pc := g.pc + 3, stack := v.toList ++ rest }) target → Steps p.tables e below (T.setTop g) target) ∨
    (∃ (q : Addr) (vm₁ : Vm) (B : Pt), s.WarmedH vm₁ ∧ Stand p l e R s m args below meth c B.U B.locs B.cells B.slots ∧ PostX ⟨T.setVm vm₁, locs, cells, slots⟩ argsL.toArray q B ∧
      Steps p.tables e below (T.setTop g) ((B.U.setTop { g with stack := rest }).pushFrame (.throwing q))) := by
  obtain ⟨mk, methM, cM, hnamed, hmethM, -, -, -, -, -, -, hsigM⟩ := Cond.codeWith_spec hcode
  have hstatic : methM.isStatic = true := Cond.static_spec hnamed hmethM hstat
  obtain ⟨kP, hkP, -⟩ := className_of_methodNamed hnamed
  have hinitP : kP.init = .initialized := Cond.initialized_spec (findClass_of_methodNamed hnamed) hkP hinit
  obtain ⟨vm₁, X₁, hstep₁⟩ := X.invokestatic hexec hown hlink hnamed hmethM hstatic hkP hinitP hy (g := g) hg (argsL := argsL) (rest := rest) (hlen _ hsigM) hstack hdg
  rcases hK m meth c ⟨T.setVm vm₁, locs, cells, slots⟩ { g with stack := rest } (.invokestatic index) mk argsL.toArray X₁ hg hsize hdg hW (X₁.named hnamed) (hpre vm₁ X₁.warmed) with ⟨v, B, X', hpost, hsteps⟩ | ⟨q, B, X', hpost, hsteps⟩
  · exact Or.inl ⟨v, vm₁, B, X₁.warmed, X', hpost, fun target h => hstep₁ _ fun acts => by rw [doInvoke_state]; exact hsteps.trans h⟩
  · exact Or.inr ⟨q, vm₁, B, X₁.warmed, X', hpost, hstep₁ _ fun acts => by rw [doInvoke_state]; exact hsteps⟩
theorem vx_callVW (X : Stand p l e R s m args below meth c T locs cells slots) (hexec : p.tables.exec = Jvm.exec) {own C : String} {index : Nat} {y : MethodName} {bytes : ByteArray} {maxL : Nat} {ret : Option FieldType} {hh : List (Nat × Nat × Nat × Nat)}
    (hown : s.vm.findClass own = some m.cls) (hlink : (Cond.methodLink own index y).before args s = true) (hinst : (Cond.instanceMethod y).before args s = true) (hsel : (Cond.selects C y y).before args s = true)
    (hcode : (Cond.codeWith y bytes maxL ret hh).before args s = true) (hy : y.cls ≠ "java/lang/invoke/MethodHandle" ∧ y.cls ≠ "java/lang/invoke/VarHandle")
    {W9 : Nat} {Pre : Pt → Array Value → Prop} {Post : Pt → Array Value → Option Value → Pt → Prop} (hK : Back l R p e below s args y 3 W9 Pre Post)
    {b : Addr} {cellB : Cell} (hcell : T.heap[b]? = some cellB) (hobj : cellB.vm.isStatics = false) (hcls : s.vm.findClass C = some cellB.cls)
    {g : JFrame} (hg : g.method = m) (hsize : g.locals.size = c.maxLocals) {argsL rest : List Value} (hlen : ∀ sig, parseMethodDescriptor y.desc = some sig → argsL.length = sig.parameters.length)
    (hstack : g.stack = argsL.reverse ++ .ref b :: rest) (hW : 2 * g.monitorRoom + (rest.map fun v => v.category).sum ≤ W9) (hdg : decode c.code g.pc = .ok (.invokevirtual index, 3))
    (hpre : ∀ vm₁, s.WarmedH vm₁ → Pre ⟨T.setVm vm₁, locs, cells, slots⟩ (Value.ref b :: argsL).toArray) :
    ∃ (v : Option Value) (vm₁ : Vm) (B : Pt), s.WarmedH vm₁ ∧ Stand p l e R s m args below meth c B.U B.locs B.cells B.slots ∧ Post ⟨T.setVm vm₁, locs, cells, slots⟩ (Value.ref b :: argsL).toArray v B ∧
      ∀ target, Steps p.tables e below (B.U.setTop { g with pc := g.pc + 3, stack := v.toList ++ rest }) target → Steps p.tables e below (T.setTop g) target := by
  obtain ⟨mk, methM, hnamed, hmethM, hstM, habM⟩ := Cond.instanceMethod_spec hinst
  obtain ⟨m8, methM', cM, hn8, hmethM', -, -, -, -, -, -, hsigM⟩ := Cond.codeWith_spec hcode
  cases Option.some.inj (hn8.symm.trans hnamed)
  cases hmethM.symm.trans hmethM'
  obtain ⟨c2, r2, m2, q1, q2, q3, q4, kP, hkP, hkPi⟩ := Cond.selects_spec hsel
  cases hcls.symm.trans q1
  cases (State.methodFound?_of_named hnamed hy).symm.trans q2
  cases hnamed.symm.trans q3
  have hselP : selectMethod e.platform s.vm cellB.cls mk = .method mk := by rw [Launch.admits_selectMethod X.admits]; exact q4
  obtain ⟨vm₁, X₁, hstep₁⟩ := X.invokevirtual hexec hown hlink hnamed hmethM hstM hkP hkPi hy (a := b) (cell := cellB) hcell
    (fun z h => by rw [h] at hobj; cases hobj) hselP hmethM habM hkP hkPi (g := g) hg (argsL := argsL) (rest := rest) (hlen _ hsigM) hstack hdg
  obtain ⟨v, B, X', hpost, hsteps⟩ := hK m meth c ⟨T.setVm vm₁, locs, cells, slots⟩ { g with stack := rest } (.invokevirtual index) mk (Value.ref b :: argsL).toArray X₁ hg hsize hdg hW (X₁.named hnamed) (hpre vm₁ X₁.warmed)
  exact ⟨v, vm₁, B, X₁.warmed, X', hpost, fun target h => hstep₁ _ fun acts => by rw [doInvoke_state]; exact hsteps.trans h⟩
abbrev vx_CVW (R : Room) (s : State) (args : Array Value) (own C : String) (index : Nat) (y : MethodName) (bytes : ByteArray) (maxL : Nat) (ret : Option FieldType) (hh : List (Nat × Nat × Nat × Nat)) (ws : List Cond) (rm : Room) (mc ms n : Nat) : Prop :=
  (rm.cells = mc ∧ rm.slots = ms ∧ rm.frames + 1 ≤ R.frames ∧ 8 + (maxL + 11) + rm.locals ≤ R.locals ∧ (∀ w ∈ ws, ∀ (a' : Array Value) (U : State), s.WarmedH U.vm → w.before a' U = true) ∧ Cond.codeWith y bytes maxL ret hh ∈ ws) ∧
  (Cond.codeWith y bytes maxL ret hh).before args s = true ∧ (Cond.initialized y.cls).before args s = true ∧ (y.cls ≠ "java/lang/invoke/MethodHandle" ∧ y.cls ≠ "java/lang/invoke/VarHandle") ∧
  (∀ sig, parseMethodDescriptor y.desc = some sig → n = sig.parameters.length) ∧ (Cond.methodLink own index y).before args s = true ∧ (Cond.instanceMethod y).before args s = true ∧ (Cond.selects C y y).before args s = true
theorem vx_cwVW {own C : String} {index maxL mc ms : Nat} {y : MethodName} {bytes : ByteArray} {ret : Option FieldType} {hh : List (Nat × Nat × Nat × Nat)} {Ts ws ws' : List Cond} {rm : Room} (n : Nat) (ht : ∀ w ∈ Ts, w.before args s = true) (hT : GoodIn Ts (wsV own index C y ws)) (hw : ws = Cond.codeWith y bytes maxL ret hh :: ws') (hrc : rm.cells = mc) (hrs : rm.slots = ms)
    (hd : y.cls = C ∧ y.cls ≠ "java/lang/invoke/MethodHandle" ∧ y.cls ≠ "java/lang/invoke/VarHandle" ∧ (parseMethodDescriptor y.desc).map (fun d => d.parameters.length) = some n) (hR : rm.frames + 1 ≤ R.frames ∧ 8 + (maxL + 11) + rm.locals ≤ R.locals) :
    vx_CVW R s args own C index y bytes maxL ret hh ws rm mc ms n := by
  obtain ⟨hC, hd⟩ := hd
  subst hC
  have ok : ∀ w ∈ wsV own index y.cls y ws, w.before args s = true := fun w h => ht w (hT w h).1
  have hG : GoodIn Ts ws := fun w h => hT w (by unfold wsV; exact List.mem_append_right _ h)
  have hc : Cond.codeWith y bytes maxL ret hh ∈ ws := by rw [hw]; exact List.mem_cons_self
  refine ⟨⟨hrc, hrs, hR.1, hR.2, pay_in ht hG, hc⟩, ht _ (hG _ hc).1, ok _ (by simp [wsV]), ⟨hd.1, hd.2.1⟩, fun sig h => ?_, ok _ (by simp [wsV]), ok _ (by simp [wsV]), ok _ (by simp [wsV])⟩
  have h2 := hd.2.2
  rw [h] at h2
  exact (Option.some.inj h2).symm
theorem vx_runVW {y : MethodName} {bytes cc : ByteArray} {maxL nL mc ms n index : Nat} {ret : Option FieldType} {hh : List (Nat × Nat × Nat × Nat)} {ws : List Cond} {rm : Room} {Pc : Array Value → State → Prop} {Qc : Array Value → State → Outcome → State → Prop} {free : Addr → Prop} {Ts : List Cond} {own C : String} {b : Addr} {As rest : List Value} {g : JFrame}
    (S : CallFix p m c cc nL s args Ts own) (hM : Met l y ws rm Pc Qc mc ms free) (cw : vx_CVW R s args own C index y bytes maxL ret hh ws rm mc ms n) (hp : PreV s H C b Pc As)
    (hg : g.method = m) (hn : As.length = n) (hsize : g.locals.size = nL) (hstack : g.stack = As.reverse ++ .ref b :: rest) (hW : 2 * g.monitorRoom + (rest.map fun v => v.category).sum ≤ 8) (hdg : decode cc g.pc = .ok (.invokevirtual index, 3)) (hf : cells + mc ≤ R.cells ∧ slots + ms ≤ R.slots) :
    va_Run p l e R s m args below meth c H locs cells slots mc ms g rest (Qc (Value.ref b :: As).toArray) free := by
  obtain ⟨⟨hrc, hrs, hfr, hlo, hws, hcw⟩, hcode, hini, hy, hlen, hl, hin, hse⟩ := cw
  have hK : Back l R p e below s args y 3 8 (PreOf R mc ms Pc) (PostOf Qc mc ms free) := va_backW (hh := hh) (bytes := bytes) (maxL := maxL) (ret := ret) hM hp.1 hrc hrs hfr hlo hws hcw (fun a' U hW => word_at hW (Or.inl (by first | rfl | simp [Cond.onTables, Cond.keeps, Cond.steady])) hini)
  obtain ⟨hx, hb, hml, ho, -⟩ := S
  obtain ⟨-, ⟨cellB, hcB, hoB, hclB⟩, hPc⟩ := hp
  intro T hT X
  obtain ⟨v, vm₁, ⟨U', l2, c2, s2⟩, hW₁, X', ⟨g', mk, t, L, e1, e2, hq, h1, hL, h2, h3⟩, st⟩ := vx_callVW X hx (C := C) (hh := hh) (bytes := bytes) (maxL := maxL) (ret := ret) ho hl hin hse hcode hy hK (by rw [hT]; exact hcB) hoB hclB hg (hsize.trans hml.symm) (argsL := As) (rest := rest) (fun sig h => hn.trans (hlen sig h)) hstack hW (by rw [hb]; exact hdg)
    (fun vm₁ hW₁ => ⟨hf.1, hf.2, hPc (T.setVm vm₁) hT hW₁⟩)
  dsimp only [Pt.U, Pt.locs, Pt.cells, Pt.slots] at X' e1 e2 h1 h2 h3 st
  subst h1; subst h2; subst h3
  exact ⟨v, (T.setVm vm₁).calling g' mk (Value.ref b :: As).toArray, t, U', L, hT, X', hL, e1, e2, hq, st⟩
section
variable {y : MethodName} {bytes cc : ByteArray} {maxL nL mc ms n index : Nat} {ret : Option FieldType} {ws : List Cond} {rm : Room} {Pc : Array Value → State → Prop} {Qc : Array Value → State → Outcome → State → Prop} {XC : String → State → State → Prop} {free : Addr → Prop} {Ts : List Cond} {own C : String} {b : Addr} {As rest : List Value} {g : JFrame}
theorem vx_runVX {hh : List (Nat × Nat × Nat × Nat)} (S : CallFix p m c cc nL s args Ts own) (hM : vx_Met l y ws rm Pc Qc XC mc ms free) (cw : vx_CVW R s args own C index y bytes maxL ret hh ws rm mc ms n) (hp : PreV s H C b Pc As)
    (hg : g.method = m) (hn : As.length = n) (hsize : g.locals.size = nL) (hstack : g.stack = As.reverse ++ .ref b :: rest) (hW : 2 * g.monitorRoom + (rest.map fun v => v.category).sum ≤ 8) (hdg : decode cc g.pc = .ok (.invokevirtual index, 3)) (hf : cells + mc ≤ R.cells ∧ slots + ms ≤ R.slots) :
    vx_Run p l e R s m args below meth c H locs cells slots mc ms g rest (Qc (Value.ref b :: As).toArray) XC free := by
  obtain ⟨⟨hrc, hrs, hfr, hlo, hws, hcw⟩, hcode, hini, hy, hlen, hl, hin, hse⟩ := cw
  have hK : vx_Back l R p e below s args y 3 8 (PreOf R mc ms Pc) (PostOf Qc mc ms free) (vx_Post XC mc ms free) := vx_backW (hh := hh) (bytes := bytes) (maxL := maxL) (ret := ret) hM hp.1 hrc hrs hfr hlo hws hcw (fun a' U hW => word_at hW (Or.inl (by first | rfl | simp [Cond.onTables, Cond.keeps, Cond.steady])) hini)
  obtain ⟨hx, hb, hml, ho, -⟩ := S
  obtain ⟨-, ⟨cellB, hcB, hoB, hclB⟩, hPc⟩ := hp
  intro T hT X
  rcases vx_callVX X hx (C := C) (hh := hh) (bytes := bytes) (maxL := maxL) (ret := ret) ho hl hin hse hcode hy hK (by rw [hT]; exact hcB) hoB hclB hg (hsize.trans hml.symm) (argsL := As) (rest := rest) (fun sig h => hn.trans (hlen sig h)) hstack hW (by rw [hb]; exact hdg)
    (fun vm₁ hW₁ => ⟨hf.1, hf.2, hPc (T.setVm vm₁) hT hW₁⟩) with ⟨v, vm₁, ⟨U', l2, c2, s2⟩, hW₁, X', ⟨g', mk, t, L, e1, e2, hq, h1, hL, h2, h3⟩, st⟩ | ⟨q, vm₁, ⟨U', l2, c2, s2⟩, hW₁, X', ⟨g', mk, t, L, E, ce, e1, e2, hq, hce, hcv, hcl, h1, hL, h2, h3⟩, st⟩
  · dsimp only [Pt.U, Pt.locs, Pt.cells, Pt.slots] at X' e1 e2 h1 h2 h3 st
    subst h1; subst h2; subst h3
    exact Or.inl ⟨v, (T.setVm vm₁).calling g' mk (Value.ref b :: As).toArray, t, U', L, hT, X', hL, e1, e2, hq, st⟩
  · dsimp only [Pt.U, Pt.locs, Pt.cells, Pt.slots] at X' e1 e2 h1 h2 h3 st hcl
    subst h1; subst h2; subst h3
    exact Or.inr ⟨q, (T.setVm vm₁).calling g' mk (Value.ref b :: As).toArray, t, U', L, E, ce, hT, X', hL, e1, e2, hq, hce, hcv, vx_cls hW₁ hcl, st⟩
theorem vx_runSX {hh : List (Nat × Nat × Nat × Nat)} (S : CallFix p m c cc nL s args Ts own) (hM : vx_Met l y ws rm Pc Qc XC mc ms free) (cw : vx_CSW R s args own index y bytes maxL ret hh ws rm mc ms n) (hp : PreS s H Pc As)
    (hg : g.method = m) (hn : As.length = n) (hsize : g.locals.size = nL) (hstack : g.stack = As.reverse ++ rest) (hW : 2 * g.monitorRoom + (rest.map fun v => v.category).sum ≤ 8) (hdg : decode cc g.pc = .ok (.invokestatic index, 3)) (hf : cells + mc ≤ R.cells ∧ slots + ms ≤ R.slots) :
    vx_Run p l e R s m args below meth c H locs cells slots mc ms g rest (Qc As.toArray) XC free := by
  obtain ⟨⟨hrc, hrs, hfr, hlo, hws, hcw⟩, hcode, hini, hy, hlen, hl, hstt⟩ := cw
  have hK : vx_Back l R p e below s args y 3 8 (PreOf R mc ms Pc) (PostOf Qc mc ms free) (vx_Post XC mc ms free) := vx_backW (hh := hh) (bytes := bytes) (maxL := maxL) (ret := ret) hM hp.1 hrc hrs hfr hlo hws hcw (fun a' U hW => word_at hW (Or.inl (by first | rfl | simp [Cond.onTables, Cond.keeps, Cond.steady])) hini)
  obtain ⟨hx, hb, hml, ho, -⟩ := S
  intro T hT X
  rcases vx_callSX X hx (hh := hh) (bytes := bytes) (maxL := maxL) (ret := ret) ho hl hstt hini hcode hy hK hg (hsize.trans hml.symm) (argsL := As) (rest := rest) (fun sig h => hn.trans (hlen sig h)) hstack hW (by rw [hb]; exact hdg)
    (fun vm₁ hW₁ => ⟨hf.1, hf.2, hp.2 (T.setVm vm₁) hT hW₁⟩) with ⟨v, vm₁, ⟨U', l2, c2, s2⟩, hW₁, X', ⟨g', mk, t, L, e1, e2, hq, h1, hL, h2, h3⟩, st⟩ | ⟨q, vm₁, ⟨U', l2, c2, s2⟩, hW₁, X', ⟨g', mk, t, L, E, ce, e1, e2, hq, hce, hcv, hcl, h1, hL, h2, h3⟩, st⟩
  · dsimp only [Pt.U, Pt.locs, Pt.cells, Pt.slots] at X' e1 e2 h1 h2 h3 st
    subst h1; subst h2; subst h3
    exact Or.inl ⟨v, (T.setVm vm₁).calling g' mk As.toArray, t, U', L, hT, X', hL, e1, e2, hq, st⟩
  · dsimp only [Pt.U, Pt.locs, Pt.cells, Pt.slots] at X' e1 e2 h1 h2 h3 st hcl
    subst h1; subst h2; subst h3
    exact Or.inr ⟨q, (T.setVm vm₁).calling g' mk As.toArray, t, U', L, E, ce, hT, X', hL, e1, e2, hq, hce, hcv, vx_cls hW₁ hcl, st⟩
end
end VXH
theorem vx_ofWH {l : Launch} {y : MethodName} {ws ws' : List Cond} {rm : Room} {Pc : Array Value → State → Prop} {Qc : Array Value → State → Outcome → State → Prop} {XC : String → State → State → Prop} {mc ms : Nat} {free : Addr → Prop} {cc : ByteArray} {maxL : Nat} {ret : Option FieldType} {hh : List (Nat × Nat × Nat × Nat)}
    (hy : plainName y.cls = true) (hw : ws = Cond.codeWith y cc maxL ret hh :: ws')
    (body : ∀ p e s m args below meth c s₁, BodyLoose p l y (headSpec ws rm) cc maxL ret e s m args below meth c s₁ → c.maxLocals = maxL → Pc args s →
      W p l e (headSpec ws rm).room s m args below meth c s.heap [] 0 0 (vx_MQ below Qc XC args s mc ms free) (entryFrame m args maxL)) : vx_Met l y ws rm Pc Qc XC mc ms free := by
  refine MetFree.of_bodyS (code := cc) (maxLocals := maxL) (ret := ret) hy ?_ ?_
  · intro args s m h hn
    obtain ⟨m9, meth, c, hn9, h1, h2, h3, h4, -, h5, h6, -⟩ := Cond.codeWith_spec (atoms_spec (ws := ws) h _ (by rw [hw]; exact List.mem_cons_self))
    cases hn.symm.trans hn9
    exact ⟨meth, c, h1, h2, h3, h4, h5, h6⟩
  · intro p e s m args below meth c s₁ B hml hP _
    have hh0 : s₁.heap = s.heap := by rw [B.state]; rfl
    obtain ⟨t, a1, o, b1, b2, b3⟩ := body p e s m args below meth c s₁ B hml hP s₁ hh0 (Stand.of_body B)
    exact ⟨t, o, a1, b1, b2, b3⟩
/-! ===== END ===== -/
end
section
def RX0 : String := "GamutChain"
def TX0 : u_T := fun k => match k with
  | 0 => ("GamutChain", "profiles", "I", false)
  | 1 => ("GamutChain", "bends", "[I", true)
  | 2 => ("GamutChain", "leasts", "[I", true)
  | 3 => ("GamutChain", "greatests", "[I", true)
  | 4 => ("GamutChain", "ways", "[I", true)
  | 5 => ("GamutChain", "chains", "I", false)
  | 6 => ("GamutChain", "links", "[I", true)
  | 7 => ("GamutChain", "lengths", "[I", true)
  | 8 => ("GamutChain", "kept", "[I", true)
  | 9 => ("GamutChain", "joinedChains", "I", false)
  | 10 => ("GamutChain", "signedChains", "I", false)
  | 11 => ("GamutChain", "trial", "[I", true)
  | 12 => ("GamutChain", "colours", "[I", true)
  | 13 => ("GamutChain", "amounts", "[I", true)
  | _ => ("GamutChain", "mixes", "[I", true)
def tyX0 : Nat → FieldType := fun k => match k with
  | 0 => .int
  | 1 => .array .int
  | 2 => .array .int
  | 3 => .array .int
  | 4 => .array .int
  | 5 => .int
  | 6 => .array .int
  | 7 => .array .int
  | 8 => .array .int
  | 9 => .int
  | 10 => .int
  | 11 => .array .int
  | 12 => .array .int
  | 13 => .array .int
  | _ => .array .int
abbrev wsX00 : List Cond := u_ws RX0 TX0 15
theorem nmX0 : ∀ a, a < 15 → ∀ b, b < 15 → a ≠ b → (TX0 a).2.1 ≠ (TX0 b).2.1 := by decide +kernel
theorem tyX0_ok : ∀ k, k < 15 → parseFieldDescriptor (TX0 k).2.2.1 = some (tyX0 k) := by decide +kernel
abbrev cX0_init : ByteArray := prog_1_method_1_code
def yX0_init : MethodName := ⟨RX0, "<init>", "()V"⟩
abbrev cX0_profile : ByteArray := prog_1_method_2_code
def yX0_profile : MethodName := ⟨RX0, "profile", "()I"⟩
abbrev cX0_bend : ByteArray := prog_1_method_3_code
def yX0_bend : MethodName := ⟨RX0, "bend", "(IIII)I"⟩
abbrev cX0_reach : ByteArray := prog_1_method_4_code
def yX0_reach : MethodName := ⟨RX0, "reach", "(IIII)I"⟩
abbrev cX0_way : ByteArray := prog_1_method_5_code
def yX0_way : MethodName := ⟨RX0, "way", "(II)I"⟩
abbrev cX0_curve : ByteArray := prog_1_method_6_code
def yX0_curve : MethodName := ⟨RX0, "curve", "(III)I"⟩
abbrev cX0_taken : ByteArray := prog_1_method_7_code
def yX0_taken : MethodName := ⟨RX0, "taken", "(III)I"⟩
abbrev cX0_chain : ByteArray := prog_1_method_8_code
def yX0_chain : MethodName := ⟨RX0, "chain", "()I"⟩
abbrev cX0_add : ByteArray := prog_1_method_9_code
def yX0_add : MethodName := ⟨RX0, "add", "(II)I"⟩
abbrev cX0_drop : ByteArray := prog_1_method_10_code
def yX0_drop : MethodName := ⟨RX0, "drop", "(I)I"⟩
abbrev cX0_through : ByteArray := prog_1_method_11_code
def yX0_through : MethodName := ⟨RX0, "through", "(III)I"⟩
abbrev cX0_gap : ByteArray := prog_1_method_12_code
def yX0_gap : MethodName := ⟨RX0, "gap", "(I)I"⟩
abbrev cX0_greyGap : ByteArray := prog_1_method_13_code
def yX0_greyGap : MethodName := ⟨RX0, "greyGap", "(I)I"⟩
abbrev cX0_join : ByteArray := prog_1_method_14_code
def yX0_join : MethodName := ⟨RX0, "join", "(II)I"⟩
abbrev cX0_joined : ByteArray := prog_1_method_15_code
def yX0_joined : MethodName := ⟨RX0, "joined", "(III)I"⟩
abbrev cX0_stale : ByteArray := prog_1_method_16_code
def yX0_stale : MethodName := ⟨RX0, "stale", "()I"⟩
abbrev cX0_sign : ByteArray := prog_1_method_17_code
def yX0_sign : MethodName := ⟨RX0, "sign", "(I)Z"⟩
abbrev cX0_held : ByteArray := prog_1_method_18_code
def yX0_held : MethodName := ⟨RX0, "held", "()I"⟩
abbrev cX0_paint : ByteArray := prog_1_method_19_code
def yX0_paint : MethodName := ⟨RX0, "paint", "(III)I"⟩
abbrev cX0_spot : ByteArray := prog_1_method_20_code
def yX0_spot : MethodName := ⟨RX0, "spot", "(III)I"⟩
abbrev cX0_mix : ByteArray := prog_1_method_21_code
def yX0_mix : MethodName := ⟨RX0, "mix", "(III)I"⟩
abbrev cX0_shown : ByteArray := prog_1_method_22_code
def yX0_shown : MethodName := ⟨RX0, "shown", "(IIII)I"⟩
abbrev cX0_needProfile : ByteArray := prog_1_method_23_code
def yX0_needProfile : MethodName := ⟨RX0, "needProfile", "(I)V"⟩
abbrev cX0_needChain : ByteArray := prog_1_method_24_code
def yX0_needChain : MethodName := ⟨RX0, "needChain", "(I)V"⟩
abbrev cX0_needBand : ByteArray := prog_1_method_25_code
def yX0_needBand : MethodName := ⟨RX0, "needBand", "(I)V"⟩
abbrev cX0_needPixel : ByteArray := prog_1_method_26_code
def yX0_needPixel : MethodName := ⟨RX0, "needPixel", "(I)V"⟩
abbrev cX0_needInk : ByteArray := prog_1_method_27_code
def yX0_needInk : MethodName := ⟨RX0, "needInk", "(I)V"⟩
abbrev cX0_needValue : ByteArray := prog_1_method_28_code
def yX0_needValue : MethodName := ⟨RX0, "needValue", "(I)V"⟩
abbrev cX0_needFreeProfile : ByteArray := prog_1_method_29_code
def yX0_needFreeProfile : MethodName := ⟨RX0, "needFreeProfile", "(I)V"⟩
abbrev cX0_needFreeChain : ByteArray := prog_1_method_30_code
def yX0_needFreeChain : MethodName := ⟨RX0, "needFreeChain", "(I)V"⟩
abbrev cX0_valueOfPlace : ByteArray := prog_1_method_31_code
def yX0_valueOfPlace : MethodName := ⟨RX0, "valueOfPlace", "(I)I"⟩
abbrev cX0_between : ByteArray := prog_1_method_32_code
def yX0_between : MethodName := ⟨RX0, "between", "([III)I"⟩
abbrev cX0_bent : ByteArray := prog_1_method_33_code
def yX0_bent : MethodName := ⟨RX0, "bent", "(III)I"⟩
abbrev cX0_take : ByteArray := prog_1_method_34_code
def yX0_take : MethodName := ⟨RX0, "take", "(III)I"⟩
abbrev cX0_fold : ByteArray := prog_1_method_35_code
def yX0_fold : MethodName := ⟨RX0, "fold", "(III)I"⟩
abbrev cX0_pass : ByteArray := prog_1_method_36_code
def yX0_pass : MethodName := ⟨RX0, "pass", "(III)I"⟩
abbrev cX0_tryJoining : ByteArray := prog_1_method_37_code
def yX0_tryJoining : MethodName := ⟨RX0, "tryJoining", "(I)I"⟩
abbrev cX0_differsFromKept : ByteArray := prog_1_method_38_code
def yX0_differsFromKept : MethodName := ⟨RX0, "differsFromKept", "(I)Z"⟩
abbrev cX0_profilesOf : ByteArray := prog_1_method_39_code
def yX0_profilesOf : MethodName := ⟨RX0, "profilesOf", "(I)I"⟩
abbrev cX0_inked : ByteArray := prog_1_method_40_code
def yX0_inked : MethodName := ⟨RX0, "inked", "(III)I"⟩
abbrev cX0_read : ByteArray := prog_1_method_41_code
def yX0_read : MethodName := ⟨RX0, "read", "([II)I"⟩
abbrev cX0_swap : ByteArray := prog_1_method_42_code
def yX0_swap : MethodName := ⟨RX0, "swap", "([III)I"⟩
abbrev cX0_hasBit : ByteArray := prog_1_method_43_code
def yX0_hasBit : MethodName := ⟨RX0, "hasBit", "(II)Z"⟩
def RX1 : String := "GamutChainModel"
def TX1 : u_T := fun k => match k with
  | _ => ("", "", "", false)
def tyX1 : Nat → FieldType := fun k => match k with
  | _ => .int
abbrev wsX10 : List Cond := u_ws RX1 TX1 0
theorem nmX1 : ∀ a, a < 0 → ∀ b, b < 0 → a ≠ b → (TX1 a).2.1 ≠ (TX1 b).2.1 := by decide +kernel
theorem tyX1_ok : ∀ k, k < 0 → parseFieldDescriptor (TX1 k).2.2.1 = some (tyX1 k) := by decide +kernel
def RJ9 : String := "java/lang/Math"
def TJ9 : u_T := fun k => match k with
  | _ => ("", "", "", false)
def tyJ9 : Nat → FieldType := fun k => match k with
  | _ => .int
abbrev wsJ90 : List Cond := u_ws RJ9 TJ9 0
theorem nmJ9 : ∀ a, a < 0 → ∀ b, b < 0 → a ≠ b → (TJ9 a).2.1 ≠ (TJ9 b).2.1 := by decide +kernel
theorem tyJ9_ok : ∀ k, k < 0 → parseFieldDescriptor (TJ9 k).2.2.1 = some (tyJ9 k) := by decide +kernel
abbrev cJ9_floorDiv_7cf53 : ByteArray := prog_8_method_47_code
def yJ9_floorDiv_7cf53 : MethodName := ⟨RJ9, "floorDiv", "(II)I"⟩
abbrev cJ9_abs_0f7a4 : ByteArray := prog_8_method_59_code
def yJ9_abs_0f7a4 : MethodName := ⟨RJ9, "abs", "(I)I"⟩
abbrev cJ9_max_7cf53 : ByteArray := prog_8_method_65_code
def yJ9_max_7cf53 : MethodName := ⟨RJ9, "max", "(II)I"⟩
abbrev cJ9_min_7cf53 : ByteArray := prog_8_method_69_code
def yJ9_min_7cf53 : MethodName := ⟨RJ9, "min", "(II)I"⟩
def RJ0 : String := "java/lang/String"
def TJ0 : u_T := fun k => match k with
  | _ => ("", "", "", false)
def tyJ0 : Nat → FieldType := fun k => match k with
  | _ => .int
abbrev wsJ00 : List Cond := u_ws RJ0 TJ0 0
theorem nmJ0 : ∀ a, a < 0 → ∀ b, b < 0 → a ≠ b → (TJ0 a).2.1 ≠ (TJ0 b).2.1 := by decide +kernel
theorem tyJ0_ok : ∀ k, k < 0 → parseFieldDescriptor (TJ0 k).2.2.1 = some (tyJ0 k) := by decide +kernel
def RL : String := "GamutChainLaw"
abbrev cL_cell : ByteArray := method_2_code
def yL_cell : MethodName := ⟨RL, "cell", "([II)I"⟩
abbrev cL_some : ByteArray := method_3_code
def yL_some : MethodName := ⟨RL, "some", "(II)I"⟩
abbrev cL_at : ByteArray := method_4_code
def yL_at : MethodName := ⟨RL, "at", "(I)I"⟩
abbrev cL_between : ByteArray := method_5_code
def yL_between : MethodName := ⟨RL, "between", "([III)I"⟩
abbrev cL_taken : ByteArray := method_6_code
def yL_taken : MethodName := ⟨RL, "taken", "([I[I[IIII)I"⟩
abbrev cL_through : ByteArray := method_7_code
def yL_through : MethodName := ⟨RL, "through", "([I[I[I[IIII)I"⟩
abbrev cL_apart : ByteArray := method_8_code
def yL_apart : MethodName := ⟨RL, "apart", "(II)I"⟩
abbrev cL_gap : ByteArray := method_9_code
def yL_gap : MethodName := ⟨RL, "gap", "([I[I[I[II)I"⟩
abbrev cL_greys : ByteArray := method_10_code
def yL_greys : MethodName := ⟨RL, "greys", "([I[I[I[II)I"⟩
abbrev cL_held : ByteArray := method_11_code
def yL_held : MethodName := ⟨RL, "held", "([I[I)I"⟩
abbrev cL_bends : ByteArray := method_12_code
def yL_bends : MethodName := ⟨RL, "bends", "(LGamutChain;IIII)I"⟩
abbrev cL_reaches : ByteArray := method_13_code
def yL_reaches : MethodName := ⟨RL, "reaches", "(LGamutChain;IIII)I"⟩
abbrev cL_sets : ByteArray := method_14_code
def yL_sets : MethodName := ⟨RL, "sets", "(LGamutChain;III)I"⟩
abbrev cL_chains : ByteArray := method_15_code
def yL_chains : MethodName := ⟨RL, "chains", "(LGamutChain;II)I"⟩
abbrev cL_of : ByteArray := method_16_code
def yL_of : MethodName := ⟨RL, "of", "(LGamutChain;IIII)I"⟩
abbrev cL_paints : ByteArray := method_17_code
def yL_paints : MethodName := ⟨RL, "paints", "(LGamutChain;IIII)I"⟩
abbrev cL_shows : ByteArray := method_18_code
def yL_shows : MethodName := ⟨RL, "shows", "(LGamutChain;IIII)I"⟩
abbrev cL_value : ByteArray := method_19_code
def yL_value : MethodName := ⟨RL, "value", "(I)I"⟩
abbrev cL_profiles : ByteArray := method_20_code
def yL_profiles : MethodName := ⟨RL, "profiles", "(LGamutChain;II[I[I[I[I)Z"⟩
abbrev cL_rows : ByteArray := method_21_code
def yL_rows : MethodName := ⟨RL, "rows", "(LGamutChain;II[I[I[I[I[I)Z"⟩
abbrev cL_colours : ByteArray := method_22_code
def yL_colours : MethodName := ⟨RL, "colours", "(LGamutChain;II[I)Z"⟩
abbrev cL_asks : ByteArray := method_23_code
def yL_asks : MethodName := ⟨RL, "asks", "(LGamutChain;II[I[I[I[I[I[I)Z"⟩
abbrev cL_law : ByteArray := code
def yL_law : MethodName := ⟨RL, "law", "([I)Z"⟩
def wsX0_init : List Cond := .code yX0_init cX0_init 1 none :: ([.methodLink RX0 1 objectInit, .instanceMethod objectInit, .code objectInit ⟨#[0xb1]⟩ 1 none, .arrayClass .int, .fieldLink RX0 9 "GamutChain" "bends" "[I", .fieldLink RX0 13 "GamutChain" "leasts" "[I", .fieldLink RX0 16 "GamutChain" "greatests" "[I", .fieldLink RX0 19 "GamutChain" "ways" "[I", .fieldLink RX0 22 "GamutChain" "links" "[I", .fieldLink RX0 25 "GamutChain" "lengths" "[I", .fieldLink RX0 28 "GamutChain" "kept" "[I", .fieldLink RX0 31 "GamutChain" "trial" "[I", .fieldLink RX0 34 "GamutChain" "colours" "[I", .fieldLink RX0 37 "GamutChain" "amounts" "[I", .fieldLink RX0 40 "GamutChain" "mixes" "[I"] ++ wsX00)
def wsX0_valueOfPlace : List Cond := .code yX0_valueOfPlace cX0_valueOfPlace 1 (some .int) :: ([.methodLink RX0 119 Lib.Math.min.name, .static Lib.Math.min.name, .initialized "java/lang/Math", .code Lib.Math.min.name Lib.Math.min.code 2 (some .int)])
def wsX0_swap : List Cond := .code yX0_swap cX0_swap 4 (some .int) :: ([])
def wsX0_profile : List Cond := .code yX0_profile cX0_profile 5 (some .int) :: ([.classLink RX0 47 "java/lang/IllegalStateException", .initialized "java/lang/IllegalStateException", .fieldLink RX0 43 "GamutChain" "profiles" "I", .fieldLink RX0 9 "GamutChain" "bends" "[I", .fieldLink RX0 13 "GamutChain" "leasts" "[I", .fieldLink RX0 16 "GamutChain" "greatests" "[I", .fieldLink RX0 19 "GamutChain" "ways" "[I", .methodLink RX0 54 yX0_valueOfPlace, .static yX0_valueOfPlace, .initialized RX0, .code yX0_valueOfPlace cX0_valueOfPlace 1 (some .int), .methodLink RX0 119 Lib.Math.min.name, .static Lib.Math.min.name, .initialized "java/lang/Math", .code Lib.Math.min.name Lib.Math.min.code 2 (some .int), .methodLink RX0 58 yX0_swap, .static yX0_swap, .code yX0_swap cX0_swap 4 (some .int)] ++ wsX00 ++ (vx_atS RX0 51 "java/lang/IllegalStateException" ["java/lang/RuntimeException", "java/lang/Exception"]).filter goodWord)
def wsX0_needProfile : List Cond := .code yX0_needProfile cX0_needProfile 2 none :: ([.classLink RX0 69 "java/lang/IndexOutOfBoundsException", .initialized "java/lang/IndexOutOfBoundsException", .fieldLink RX0 43 "GamutChain" "profiles" "I"] ++ wsX00 ++ (vx_atS RX0 73 "java/lang/IndexOutOfBoundsException" ["java/lang/RuntimeException", "java/lang/Exception"]).filter goodWord)
def wsX0_needBand : List Cond := .code yX0_needBand cX0_needBand 1 none :: ([.classLink RX0 69 "java/lang/IndexOutOfBoundsException", .initialized "java/lang/IndexOutOfBoundsException"] ++ (vx_atS RX0 73 "java/lang/IndexOutOfBoundsException" ["java/lang/RuntimeException", "java/lang/Exception"]).filter goodWord)
def wsX0_needValue : List Cond := .code yX0_needValue cX0_needValue 1 none :: ([.classLink RX0 80 "java/lang/IllegalArgumentException", .initialized "java/lang/IllegalArgumentException"] ++ (vx_atS RX0 84 "java/lang/IllegalArgumentException" ["java/lang/RuntimeException", "java/lang/Exception"]).filter goodWord)
def wsX0_hasBit : List Cond := .code yX0_hasBit cX0_hasBit 2 (some .boolean) :: ([])
def wsX0_read : List Cond := .code yX0_read cX0_read 2 (some .int) :: ([])
def wsX0_profilesOf : List Cond := .code yX0_profilesOf cX0_profilesOf 5 (some .int) :: ([.fieldLink RX0 25 "GamutChain" "lengths" "[I", .fieldLink RX0 22 "GamutChain" "links" "[I", .methodLink RX0 105 yX0_read, .static yX0_read, .initialized RX0, .code yX0_read cX0_read 2 (some .int)] ++ wsX00)
def wsX0_held : List Cond := .code yX0_held cX0_held 3 (some .int) :: ([.fieldLink RX0 146 "GamutChain" "signedChains" "I", .methodLink RX0 133 yX0_hasBit, .static yX0_hasBit, .initialized RX0, .code yX0_hasBit cX0_hasBit 2 (some .boolean), .methodLink RX0 149 yX0_profilesOf, .instanceMethod yX0_profilesOf, .selects RX0 yX0_profilesOf yX0_profilesOf, .code yX0_profilesOf cX0_profilesOf 5 (some .int), .fieldLink RX0 25 "GamutChain" "lengths" "[I", .fieldLink RX0 22 "GamutChain" "links" "[I", .methodLink RX0 105 yX0_read, .static yX0_read, .code yX0_read cX0_read 2 (some .int)] ++ wsX00)
def wsX0_needFreeProfile : List Cond := .code yX0_needFreeProfile cX0_needFreeProfile 2 none :: ([.classLink RX0 47 "java/lang/IllegalStateException", .initialized "java/lang/IllegalStateException", .methodLink RX0 175 yX0_held, .instanceMethod yX0_held, .selects RX0 yX0_held yX0_held, .initialized RX0, .code yX0_held cX0_held 3 (some .int), .fieldLink RX0 146 "GamutChain" "signedChains" "I", .methodLink RX0 133 yX0_hasBit, .static yX0_hasBit, .code yX0_hasBit cX0_hasBit 2 (some .boolean), .methodLink RX0 149 yX0_profilesOf, .instanceMethod yX0_profilesOf, .selects RX0 yX0_profilesOf yX0_profilesOf, .code yX0_profilesOf cX0_profilesOf 5 (some .int), .fieldLink RX0 25 "GamutChain" "lengths" "[I", .fieldLink RX0 22 "GamutChain" "links" "[I", .methodLink RX0 105 yX0_read, .static yX0_read, .code yX0_read cX0_read 2 (some .int)] ++ wsX00 ++ (vx_atS RX0 51 "java/lang/IllegalStateException" ["java/lang/RuntimeException", "java/lang/Exception"]).filter goodWord)
def wsX0_bend_r1 : List Cond := [Cond.classLink RX0 69 "java/lang/IndexOutOfBoundsException", Cond.initialized "java/lang/IndexOutOfBoundsException", Cond.fieldLink RX0 9 "GamutChain" "bends" "[I", Cond.methodLink RX0 62 yX0_needProfile, Cond.instanceMethod yX0_needProfile, Cond.selects RX0 yX0_needProfile yX0_needProfile, Cond.initialized RX0, Cond.code yX0_needProfile cX0_needProfile 2 none, Cond.fieldLink RX0 43 "GamutChain" "profiles" "I", Cond.methodLink RX0 66 yX0_needBand, Cond.static yX0_needBand, Cond.code yX0_needBand cX0_needBand 1 none, Cond.methodLink RX0 74 yX0_needValue, Cond.static yX0_needValue, Cond.code yX0_needValue cX0_needValue 1 none, Cond.classLink RX0 80 "java/lang/IllegalArgumentException", Cond.initialized "java/lang/IllegalArgumentException", Cond.methodLink RX0 77 yX0_needFreeProfile, Cond.instanceMethod yX0_needFreeProfile, Cond.selects RX0 yX0_needFreeProfile yX0_needFreeProfile, Cond.code yX0_needFreeProfile cX0_needFreeProfile 2 none, Cond.classLink RX0 47 "java/lang/IllegalStateException", Cond.initialized "java/lang/IllegalStateException", Cond.methodLink RX0 175 yX0_held]
def wsX0_bend_r2 : List Cond := [Cond.instanceMethod yX0_held, Cond.selects RX0 yX0_held yX0_held, Cond.code yX0_held cX0_held 3 (some .int), Cond.fieldLink RX0 146 "GamutChain" "signedChains" "I", Cond.methodLink RX0 133 yX0_hasBit, Cond.static yX0_hasBit, Cond.code yX0_hasBit cX0_hasBit 2 (some .boolean), Cond.methodLink RX0 149 yX0_profilesOf, Cond.instanceMethod yX0_profilesOf, Cond.selects RX0 yX0_profilesOf yX0_profilesOf, Cond.code yX0_profilesOf cX0_profilesOf 5 (some .int), Cond.fieldLink RX0 25 "GamutChain" "lengths" "[I", Cond.fieldLink RX0 22 "GamutChain" "links" "[I", Cond.methodLink RX0 105 yX0_read, Cond.static yX0_read, Cond.code yX0_read cX0_read 2 (some .int), Cond.methodLink RX0 58 yX0_swap, Cond.static yX0_swap, Cond.code yX0_swap cX0_swap 4 (some .int)]
def wsX0_bend : List Cond := .code yX0_bend cX0_bend 5 (some .int) :: ((wsX0_bend_r1 ++ wsX0_bend_r2) ++ wsX00 ++ (vx_atS RX0 73 "java/lang/IndexOutOfBoundsException" ["java/lang/RuntimeException", "java/lang/Exception"]).filter goodWord ++ (vx_atS RX0 84 "java/lang/IllegalArgumentException" ["java/lang/RuntimeException", "java/lang/Exception"]).filter goodWord ++ (vx_atS RX0 51 "java/lang/IllegalStateException" ["java/lang/RuntimeException", "java/lang/Exception"]).filter goodWord)
def wsX0_reach_r1 : List Cond := [Cond.classLink RX0 80 "java/lang/IllegalArgumentException", Cond.initialized "java/lang/IllegalArgumentException", Cond.fieldLink RX0 13 "GamutChain" "leasts" "[I", Cond.fieldLink RX0 16 "GamutChain" "greatests" "[I", Cond.methodLink RX0 62 yX0_needProfile, Cond.instanceMethod yX0_needProfile, Cond.selects RX0 yX0_needProfile yX0_needProfile, Cond.initialized RX0, Cond.code yX0_needProfile cX0_needProfile 2 none, Cond.classLink RX0 69 "java/lang/IndexOutOfBoundsException", Cond.initialized "java/lang/IndexOutOfBoundsException", Cond.fieldLink RX0 43 "GamutChain" "profiles" "I", Cond.methodLink RX0 66 yX0_needBand, Cond.static yX0_needBand, Cond.code yX0_needBand cX0_needBand 1 none, Cond.methodLink RX0 74 yX0_needValue, Cond.static yX0_needValue, Cond.code yX0_needValue cX0_needValue 1 none, Cond.methodLink RX0 77 yX0_needFreeProfile, Cond.instanceMethod yX0_needFreeProfile, Cond.selects RX0 yX0_needFreeProfile yX0_needFreeProfile, Cond.code yX0_needFreeProfile cX0_needFreeProfile 2 none, Cond.classLink RX0 47 "java/lang/IllegalStateException", Cond.initialized "java/lang/IllegalStateException"]
def wsX0_reach_r2 : List Cond := [Cond.methodLink RX0 175 yX0_held, Cond.instanceMethod yX0_held, Cond.selects RX0 yX0_held yX0_held, Cond.code yX0_held cX0_held 3 (some .int), Cond.fieldLink RX0 146 "GamutChain" "signedChains" "I", Cond.methodLink RX0 133 yX0_hasBit, Cond.static yX0_hasBit, Cond.code yX0_hasBit cX0_hasBit 2 (some .boolean), Cond.methodLink RX0 149 yX0_profilesOf, Cond.instanceMethod yX0_profilesOf, Cond.selects RX0 yX0_profilesOf yX0_profilesOf, Cond.code yX0_profilesOf cX0_profilesOf 5 (some .int), Cond.fieldLink RX0 25 "GamutChain" "lengths" "[I", Cond.fieldLink RX0 22 "GamutChain" "links" "[I", Cond.methodLink RX0 105 yX0_read, Cond.static yX0_read, Cond.code yX0_read cX0_read 2 (some .int), Cond.methodLink RX0 58 yX0_swap, Cond.static yX0_swap, Cond.code yX0_swap cX0_swap 4 (some .int)]
def wsX0_reach : List Cond := .code yX0_reach cX0_reach 8 (some .int) :: ((wsX0_reach_r1 ++ wsX0_reach_r2) ++ wsX00 ++ (vx_atS RX0 84 "java/lang/IllegalArgumentException" ["java/lang/RuntimeException", "java/lang/Exception"]).filter goodWord ++ (vx_atS RX0 73 "java/lang/IndexOutOfBoundsException" ["java/lang/RuntimeException", "java/lang/Exception"]).filter goodWord ++ (vx_atS RX0 51 "java/lang/IllegalStateException" ["java/lang/RuntimeException", "java/lang/Exception"]).filter goodWord)
def wsX0_way_r1 : List Cond := [Cond.classLink RX0 80 "java/lang/IllegalArgumentException", Cond.initialized "java/lang/IllegalArgumentException", Cond.fieldLink RX0 19 "GamutChain" "ways" "[I", Cond.methodLink RX0 62 yX0_needProfile, Cond.instanceMethod yX0_needProfile, Cond.selects RX0 yX0_needProfile yX0_needProfile, Cond.initialized RX0, Cond.code yX0_needProfile cX0_needProfile 2 none, Cond.classLink RX0 69 "java/lang/IndexOutOfBoundsException", Cond.initialized "java/lang/IndexOutOfBoundsException", Cond.fieldLink RX0 43 "GamutChain" "profiles" "I", Cond.methodLink RX0 77 yX0_needFreeProfile, Cond.instanceMethod yX0_needFreeProfile, Cond.selects RX0 yX0_needFreeProfile yX0_needFreeProfile, Cond.code yX0_needFreeProfile cX0_needFreeProfile 2 none, Cond.classLink RX0 47 "java/lang/IllegalStateException", Cond.initialized "java/lang/IllegalStateException", Cond.methodLink RX0 175 yX0_held, Cond.instanceMethod yX0_held, Cond.selects RX0 yX0_held yX0_held, Cond.code yX0_held cX0_held 3 (some .int), Cond.fieldLink RX0 146 "GamutChain" "signedChains" "I", Cond.methodLink RX0 133 yX0_hasBit, Cond.static yX0_hasBit]
def wsX0_way_r2 : List Cond := [Cond.code yX0_hasBit cX0_hasBit 2 (some .boolean), Cond.methodLink RX0 149 yX0_profilesOf, Cond.instanceMethod yX0_profilesOf, Cond.selects RX0 yX0_profilesOf yX0_profilesOf, Cond.code yX0_profilesOf cX0_profilesOf 5 (some .int), Cond.fieldLink RX0 25 "GamutChain" "lengths" "[I", Cond.fieldLink RX0 22 "GamutChain" "links" "[I", Cond.methodLink RX0 105 yX0_read, Cond.static yX0_read, Cond.code yX0_read cX0_read 2 (some .int), Cond.methodLink RX0 58 yX0_swap, Cond.static yX0_swap, Cond.code yX0_swap cX0_swap 4 (some .int)]
def wsX0_way : List Cond := .code yX0_way cX0_way 3 (some .int) :: ((wsX0_way_r1 ++ wsX0_way_r2) ++ wsX00 ++ (vx_atS RX0 84 "java/lang/IllegalArgumentException" ["java/lang/RuntimeException", "java/lang/Exception"]).filter goodWord ++ (vx_atS RX0 73 "java/lang/IndexOutOfBoundsException" ["java/lang/RuntimeException", "java/lang/Exception"]).filter goodWord ++ (vx_atS RX0 51 "java/lang/IllegalStateException" ["java/lang/RuntimeException", "java/lang/Exception"]).filter goodWord)
def wsJ9_floorDiv_7cf53 : List Cond := .code yJ9_floorDiv_7cf53 cJ9_floorDiv_7cf53 3 (some .int) :: ([])
def wsX0_between : List Cond := .code yX0_between cX0_between 7 (some .int) :: ([.methodLink RX0 105 yX0_read, .static yX0_read, .initialized RX0, .code yX0_read cX0_read 2 (some .int), .methodLink RX0 183 yJ9_floorDiv_7cf53, .static yJ9_floorDiv_7cf53, .initialized RJ9, .code yJ9_floorDiv_7cf53 cJ9_floorDiv_7cf53 3 (some .int)])
def wsX0_bent : List Cond := .code yX0_bent cX0_bent 4 (some .int) :: ([.fieldLink RX0 9 "GamutChain" "bends" "[I", .methodLink RX0 139 yX0_between, .static yX0_between, .initialized RX0, .code yX0_between cX0_between 7 (some .int), .methodLink RX0 105 yX0_read, .static yX0_read, .code yX0_read cX0_read 2 (some .int), .methodLink RX0 183 yJ9_floorDiv_7cf53, .static yJ9_floorDiv_7cf53, .initialized RJ9, .code yJ9_floorDiv_7cf53 cJ9_floorDiv_7cf53 3 (some .int)] ++ wsX00)
def wsX0_curve_r1 : List Cond := [Cond.methodLink RX0 62 yX0_needProfile, Cond.instanceMethod yX0_needProfile, Cond.selects RX0 yX0_needProfile yX0_needProfile, Cond.initialized RX0, Cond.code yX0_needProfile cX0_needProfile 2 none, Cond.classLink RX0 69 "java/lang/IndexOutOfBoundsException", Cond.initialized "java/lang/IndexOutOfBoundsException", Cond.fieldLink RX0 43 "GamutChain" "profiles" "I", Cond.methodLink RX0 66 yX0_needBand, Cond.static yX0_needBand, Cond.code yX0_needBand cX0_needBand 1 none, Cond.methodLink RX0 74 yX0_needValue, Cond.static yX0_needValue, Cond.code yX0_needValue cX0_needValue 1 none, Cond.classLink RX0 80 "java/lang/IllegalArgumentException", Cond.initialized "java/lang/IllegalArgumentException", Cond.methodLink RX0 87 yX0_bent, Cond.instanceMethod yX0_bent, Cond.selects RX0 yX0_bent yX0_bent, Cond.code yX0_bent cX0_bent 4 (some .int), Cond.fieldLink RX0 9 "GamutChain" "bends" "[I", Cond.methodLink RX0 139 yX0_between, Cond.static yX0_between, Cond.code yX0_between cX0_between 7 (some .int)]
def wsX0_curve_r2 : List Cond := [Cond.methodLink RX0 105 yX0_read, Cond.static yX0_read, Cond.code yX0_read cX0_read 2 (some .int), Cond.methodLink RX0 183 yJ9_floorDiv_7cf53, Cond.static yJ9_floorDiv_7cf53, Cond.initialized RJ9, Cond.code yJ9_floorDiv_7cf53 cJ9_floorDiv_7cf53 3 (some .int)]
def wsX0_curve : List Cond := .code yX0_curve cX0_curve 4 (some .int) :: ((wsX0_curve_r1 ++ wsX0_curve_r2) ++ wsX00 ++ (vx_atS RX0 73 "java/lang/IndexOutOfBoundsException" ["java/lang/RuntimeException", "java/lang/Exception"]).filter goodWord ++ (vx_atS RX0 84 "java/lang/IllegalArgumentException" ["java/lang/RuntimeException", "java/lang/Exception"]).filter goodWord)
def wsX0_fold : List Cond := .code yX0_fold cX0_fold 3 (some .int) :: ([])
def wsX0_take_r1 : List Cond := [Cond.fieldLink RX0 13 "GamutChain" "leasts" "[I", Cond.fieldLink RX0 16 "GamutChain" "greatests" "[I", Cond.fieldLink RX0 19 "GamutChain" "ways" "[I", Cond.methodLink RX0 119 Lib.Math.min.name, Cond.static Lib.Math.min.name, Cond.initialized "java/lang/Math", Cond.code Lib.Math.min.name Lib.Math.min.code 2 (some .int), Cond.methodLink RX0 125 Lib.Math.max.name, Cond.static Lib.Math.max.name, Cond.code Lib.Math.max.name Lib.Math.max.code 2 (some .int), Cond.methodLink RX0 105 yX0_read, Cond.static yX0_read, Cond.initialized RX0, Cond.code yX0_read cX0_read 2 (some .int), Cond.methodLink RX0 87 yX0_bent, Cond.instanceMethod yX0_bent, Cond.selects RX0 yX0_bent yX0_bent, Cond.code yX0_bent cX0_bent 4 (some .int), Cond.fieldLink RX0 9 "GamutChain" "bends" "[I", Cond.methodLink RX0 139 yX0_between, Cond.static yX0_between, Cond.code yX0_between cX0_between 7 (some .int), Cond.methodLink RX0 183 yJ9_floorDiv_7cf53, Cond.static yJ9_floorDiv_7cf53]
def wsX0_take_r2 : List Cond := [Cond.initialized RJ9, Cond.code yJ9_floorDiv_7cf53 cJ9_floorDiv_7cf53 3 (some .int), Cond.methodLink RX0 186 yX0_fold, Cond.static yX0_fold, Cond.code yX0_fold cX0_fold 3 (some .int)]
def wsX0_take : List Cond := .code yX0_take cX0_take 8 (some .int) :: ((wsX0_take_r1 ++ wsX0_take_r2) ++ wsX00)
def wsX0_taken_r1 : List Cond := [Cond.methodLink RX0 62 yX0_needProfile, Cond.instanceMethod yX0_needProfile, Cond.selects RX0 yX0_needProfile yX0_needProfile, Cond.initialized RX0, Cond.code yX0_needProfile cX0_needProfile 2 none, Cond.classLink RX0 69 "java/lang/IndexOutOfBoundsException", Cond.initialized "java/lang/IndexOutOfBoundsException", Cond.fieldLink RX0 43 "GamutChain" "profiles" "I", Cond.methodLink RX0 66 yX0_needBand, Cond.static yX0_needBand, Cond.code yX0_needBand cX0_needBand 1 none, Cond.methodLink RX0 74 yX0_needValue, Cond.static yX0_needValue, Cond.code yX0_needValue cX0_needValue 1 none, Cond.classLink RX0 80 "java/lang/IllegalArgumentException", Cond.initialized "java/lang/IllegalArgumentException", Cond.methodLink RX0 91 yX0_take, Cond.instanceMethod yX0_take, Cond.selects RX0 yX0_take yX0_take, Cond.code yX0_take cX0_take 8 (some .int), Cond.fieldLink RX0 13 "GamutChain" "leasts" "[I", Cond.fieldLink RX0 16 "GamutChain" "greatests" "[I", Cond.fieldLink RX0 19 "GamutChain" "ways" "[I", Cond.methodLink RX0 119 Lib.Math.min.name]
def wsX0_taken_r2 : List Cond := [Cond.static Lib.Math.min.name, Cond.initialized "java/lang/Math", Cond.code Lib.Math.min.name Lib.Math.min.code 2 (some .int), Cond.methodLink RX0 125 Lib.Math.max.name, Cond.static Lib.Math.max.name, Cond.code Lib.Math.max.name Lib.Math.max.code 2 (some .int), Cond.methodLink RX0 105 yX0_read, Cond.static yX0_read, Cond.code yX0_read cX0_read 2 (some .int), Cond.methodLink RX0 87 yX0_bent, Cond.instanceMethod yX0_bent, Cond.selects RX0 yX0_bent yX0_bent, Cond.code yX0_bent cX0_bent 4 (some .int), Cond.fieldLink RX0 9 "GamutChain" "bends" "[I", Cond.methodLink RX0 139 yX0_between, Cond.static yX0_between, Cond.code yX0_between cX0_between 7 (some .int), Cond.methodLink RX0 183 yJ9_floorDiv_7cf53, Cond.static yJ9_floorDiv_7cf53, Cond.initialized RJ9, Cond.code yJ9_floorDiv_7cf53 cJ9_floorDiv_7cf53 3 (some .int), Cond.methodLink RX0 186 yX0_fold, Cond.static yX0_fold, Cond.code yX0_fold cX0_fold 3 (some .int)]
def wsX0_taken : List Cond := .code yX0_taken cX0_taken 4 (some .int) :: ((wsX0_taken_r1 ++ wsX0_taken_r2) ++ wsX00 ++ (vx_atS RX0 73 "java/lang/IndexOutOfBoundsException" ["java/lang/RuntimeException", "java/lang/Exception"]).filter goodWord ++ (vx_atS RX0 84 "java/lang/IllegalArgumentException" ["java/lang/RuntimeException", "java/lang/Exception"]).filter goodWord)
def wsX0_chain : List Cond := .code yX0_chain cX0_chain 2 (some .int) :: ([.classLink RX0 47 "java/lang/IllegalStateException", .initialized "java/lang/IllegalStateException", .fieldLink RX0 94 "GamutChain" "chains" "I"] ++ wsX00 ++ (vx_atS RX0 51 "java/lang/IllegalStateException" ["java/lang/RuntimeException", "java/lang/Exception"]).filter goodWord)
def wsX0_needChain : List Cond := .code yX0_needChain cX0_needChain 2 none :: ([.classLink RX0 69 "java/lang/IndexOutOfBoundsException", .initialized "java/lang/IndexOutOfBoundsException", .fieldLink RX0 94 "GamutChain" "chains" "I"] ++ wsX00 ++ (vx_atS RX0 73 "java/lang/IndexOutOfBoundsException" ["java/lang/RuntimeException", "java/lang/Exception"]).filter goodWord)
def wsX0_needFreeChain : List Cond := .code yX0_needFreeChain cX0_needFreeChain 2 none :: ([.classLink RX0 47 "java/lang/IllegalStateException", .initialized "java/lang/IllegalStateException", .fieldLink RX0 146 "GamutChain" "signedChains" "I", .methodLink RX0 133 yX0_hasBit, .static yX0_hasBit, .initialized RX0, .code yX0_hasBit cX0_hasBit 2 (some .boolean)] ++ wsX00 ++ (vx_atS RX0 51 "java/lang/IllegalStateException" ["java/lang/RuntimeException", "java/lang/Exception"]).filter goodWord)
def wsX0_add_r1 : List Cond := [Cond.classLink RX0 47 "java/lang/IllegalStateException", Cond.initialized "java/lang/IllegalStateException", Cond.fieldLink RX0 25 "GamutChain" "lengths" "[I", Cond.fieldLink RX0 22 "GamutChain" "links" "[I", Cond.methodLink RX0 99 yX0_needChain, Cond.instanceMethod yX0_needChain, Cond.selects RX0 yX0_needChain yX0_needChain, Cond.initialized RX0, Cond.code yX0_needChain cX0_needChain 2 none, Cond.classLink RX0 69 "java/lang/IndexOutOfBoundsException", Cond.initialized "java/lang/IndexOutOfBoundsException", Cond.fieldLink RX0 94 "GamutChain" "chains" "I", Cond.methodLink RX0 62 yX0_needProfile, Cond.instanceMethod yX0_needProfile, Cond.selects RX0 yX0_needProfile yX0_needProfile, Cond.code yX0_needProfile cX0_needProfile 2 none, Cond.fieldLink RX0 43 "GamutChain" "profiles" "I", Cond.methodLink RX0 102 yX0_needFreeChain, Cond.instanceMethod yX0_needFreeChain, Cond.selects RX0 yX0_needFreeChain yX0_needFreeChain, Cond.code yX0_needFreeChain cX0_needFreeChain 2 none, Cond.fieldLink RX0 146 "GamutChain" "signedChains" "I", Cond.methodLink RX0 133 yX0_hasBit, Cond.static yX0_hasBit]
def wsX0_add_r2 : List Cond := [Cond.code yX0_hasBit cX0_hasBit 2 (some .boolean), Cond.methodLink RX0 105 yX0_read, Cond.static yX0_read, Cond.code yX0_read cX0_read 2 (some .int), Cond.methodLink RX0 58 yX0_swap, Cond.static yX0_swap, Cond.code yX0_swap cX0_swap 4 (some .int)]
def wsX0_add : List Cond := .code yX0_add cX0_add 4 (some .int) :: ((wsX0_add_r1 ++ wsX0_add_r2) ++ wsX00 ++ (vx_atS RX0 51 "java/lang/IllegalStateException" ["java/lang/RuntimeException", "java/lang/Exception"]).filter goodWord ++ (vx_atS RX0 73 "java/lang/IndexOutOfBoundsException" ["java/lang/RuntimeException", "java/lang/Exception"]).filter goodWord)
def wsX0_drop_r1 : List Cond := [Cond.classLink RX0 47 "java/lang/IllegalStateException", Cond.initialized "java/lang/IllegalStateException", Cond.fieldLink RX0 25 "GamutChain" "lengths" "[I", Cond.fieldLink RX0 22 "GamutChain" "links" "[I", Cond.methodLink RX0 99 yX0_needChain, Cond.instanceMethod yX0_needChain, Cond.selects RX0 yX0_needChain yX0_needChain, Cond.initialized RX0, Cond.code yX0_needChain cX0_needChain 2 none, Cond.classLink RX0 69 "java/lang/IndexOutOfBoundsException", Cond.initialized "java/lang/IndexOutOfBoundsException", Cond.fieldLink RX0 94 "GamutChain" "chains" "I", Cond.methodLink RX0 102 yX0_needFreeChain, Cond.instanceMethod yX0_needFreeChain, Cond.selects RX0 yX0_needFreeChain yX0_needFreeChain, Cond.code yX0_needFreeChain cX0_needFreeChain 2 none, Cond.fieldLink RX0 146 "GamutChain" "signedChains" "I", Cond.methodLink RX0 133 yX0_hasBit, Cond.static yX0_hasBit, Cond.code yX0_hasBit cX0_hasBit 2 (some .boolean), Cond.methodLink RX0 105 yX0_read, Cond.static yX0_read, Cond.code yX0_read cX0_read 2 (some .int), Cond.methodLink RX0 58 yX0_swap]
def wsX0_drop_r2 : List Cond := [Cond.static yX0_swap, Cond.code yX0_swap cX0_swap 4 (some .int)]
def wsX0_drop : List Cond := .code yX0_drop cX0_drop 3 (some .int) :: ((wsX0_drop_r1 ++ wsX0_drop_r2) ++ wsX00 ++ (vx_atS RX0 51 "java/lang/IllegalStateException" ["java/lang/RuntimeException", "java/lang/Exception"]).filter goodWord ++ (vx_atS RX0 73 "java/lang/IndexOutOfBoundsException" ["java/lang/RuntimeException", "java/lang/Exception"]).filter goodWord)
def wsX0_pass_r1 : List Cond := [Cond.fieldLink RX0 25 "GamutChain" "lengths" "[I", Cond.fieldLink RX0 22 "GamutChain" "links" "[I", Cond.methodLink RX0 105 yX0_read, Cond.static yX0_read, Cond.initialized RX0, Cond.code yX0_read cX0_read 2 (some .int), Cond.methodLink RX0 91 yX0_take, Cond.instanceMethod yX0_take, Cond.selects RX0 yX0_take yX0_take, Cond.code yX0_take cX0_take 8 (some .int), Cond.fieldLink RX0 13 "GamutChain" "leasts" "[I", Cond.fieldLink RX0 16 "GamutChain" "greatests" "[I", Cond.fieldLink RX0 19 "GamutChain" "ways" "[I", Cond.methodLink RX0 119 Lib.Math.min.name, Cond.static Lib.Math.min.name, Cond.initialized "java/lang/Math", Cond.code Lib.Math.min.name Lib.Math.min.code 2 (some .int), Cond.methodLink RX0 125 Lib.Math.max.name, Cond.static Lib.Math.max.name, Cond.code Lib.Math.max.name Lib.Math.max.code 2 (some .int), Cond.methodLink RX0 87 yX0_bent, Cond.instanceMethod yX0_bent, Cond.selects RX0 yX0_bent yX0_bent, Cond.code yX0_bent cX0_bent 4 (some .int)]
def wsX0_pass_r2 : List Cond := [Cond.fieldLink RX0 9 "GamutChain" "bends" "[I", Cond.methodLink RX0 139 yX0_between, Cond.static yX0_between, Cond.code yX0_between cX0_between 7 (some .int), Cond.methodLink RX0 183 yJ9_floorDiv_7cf53, Cond.static yJ9_floorDiv_7cf53, Cond.initialized RJ9, Cond.code yJ9_floorDiv_7cf53 cJ9_floorDiv_7cf53 3 (some .int), Cond.methodLink RX0 186 yX0_fold, Cond.static yX0_fold, Cond.code yX0_fold cX0_fold 3 (some .int)]
def wsX0_pass : List Cond := .code yX0_pass cX0_pass 7 (some .int) :: ((wsX0_pass_r1 ++ wsX0_pass_r2) ++ wsX00)
def wsX0_through_r1 : List Cond := [Cond.methodLink RX0 99 yX0_needChain, Cond.instanceMethod yX0_needChain, Cond.selects RX0 yX0_needChain yX0_needChain, Cond.initialized RX0, Cond.code yX0_needChain cX0_needChain 2 none, Cond.classLink RX0 69 "java/lang/IndexOutOfBoundsException", Cond.initialized "java/lang/IndexOutOfBoundsException", Cond.fieldLink RX0 94 "GamutChain" "chains" "I", Cond.methodLink RX0 66 yX0_needBand, Cond.static yX0_needBand, Cond.code yX0_needBand cX0_needBand 1 none, Cond.methodLink RX0 74 yX0_needValue, Cond.static yX0_needValue, Cond.code yX0_needValue cX0_needValue 1 none, Cond.classLink RX0 80 "java/lang/IllegalArgumentException", Cond.initialized "java/lang/IllegalArgumentException", Cond.methodLink RX0 113 yX0_pass, Cond.instanceMethod yX0_pass, Cond.selects RX0 yX0_pass yX0_pass, Cond.code yX0_pass cX0_pass 7 (some .int), Cond.fieldLink RX0 25 "GamutChain" "lengths" "[I", Cond.fieldLink RX0 22 "GamutChain" "links" "[I", Cond.methodLink RX0 105 yX0_read, Cond.static yX0_read]
def wsX0_through_r2 : List Cond := [Cond.code yX0_read cX0_read 2 (some .int), Cond.methodLink RX0 91 yX0_take, Cond.instanceMethod yX0_take, Cond.selects RX0 yX0_take yX0_take, Cond.code yX0_take cX0_take 8 (some .int), Cond.fieldLink RX0 13 "GamutChain" "leasts" "[I", Cond.fieldLink RX0 16 "GamutChain" "greatests" "[I", Cond.fieldLink RX0 19 "GamutChain" "ways" "[I", Cond.methodLink RX0 119 Lib.Math.min.name, Cond.static Lib.Math.min.name, Cond.initialized "java/lang/Math", Cond.code Lib.Math.min.name Lib.Math.min.code 2 (some .int), Cond.methodLink RX0 125 Lib.Math.max.name, Cond.static Lib.Math.max.name, Cond.code Lib.Math.max.name Lib.Math.max.code 2 (some .int), Cond.methodLink RX0 87 yX0_bent, Cond.instanceMethod yX0_bent, Cond.selects RX0 yX0_bent yX0_bent, Cond.code yX0_bent cX0_bent 4 (some .int), Cond.fieldLink RX0 9 "GamutChain" "bends" "[I", Cond.methodLink RX0 139 yX0_between, Cond.static yX0_between, Cond.code yX0_between cX0_between 7 (some .int), Cond.methodLink RX0 183 yJ9_floorDiv_7cf53]
def wsX0_through_r3 : List Cond := [Cond.static yJ9_floorDiv_7cf53, Cond.initialized RJ9, Cond.code yJ9_floorDiv_7cf53 cJ9_floorDiv_7cf53 3 (some .int), Cond.methodLink RX0 186 yX0_fold, Cond.static yX0_fold, Cond.code yX0_fold cX0_fold 3 (some .int)]
def wsX0_through : List Cond := .code yX0_through cX0_through 4 (some .int) :: ((wsX0_through_r1 ++ (wsX0_through_r2 ++ wsX0_through_r3)) ++ wsX00 ++ (vx_atS RX0 73 "java/lang/IndexOutOfBoundsException" ["java/lang/RuntimeException", "java/lang/Exception"]).filter goodWord ++ (vx_atS RX0 84 "java/lang/IllegalArgumentException" ["java/lang/RuntimeException", "java/lang/Exception"]).filter goodWord)
def wsX0_tryJoining_r1 : List Cond := [Cond.fieldLink RX0 31 "GamutChain" "trial" "[I", Cond.methodLink RX0 189 Lib.Math.abs.name, Cond.static Lib.Math.abs.name, Cond.initialized "java/lang/Math", Cond.code Lib.Math.abs.name Lib.Math.abs.code 1 (some .int), Cond.methodLink RX0 125 Lib.Math.max.name, Cond.static Lib.Math.max.name, Cond.code Lib.Math.max.name Lib.Math.max.code 2 (some .int), Cond.methodLink RX0 54 yX0_valueOfPlace, Cond.static yX0_valueOfPlace, Cond.initialized RX0, Cond.code yX0_valueOfPlace cX0_valueOfPlace 1 (some .int), Cond.methodLink RX0 119 Lib.Math.min.name, Cond.static Lib.Math.min.name, Cond.code Lib.Math.min.name Lib.Math.min.code 2 (some .int), Cond.methodLink RX0 113 yX0_pass, Cond.instanceMethod yX0_pass, Cond.selects RX0 yX0_pass yX0_pass, Cond.code yX0_pass cX0_pass 7 (some .int), Cond.fieldLink RX0 25 "GamutChain" "lengths" "[I", Cond.fieldLink RX0 22 "GamutChain" "links" "[I", Cond.methodLink RX0 105 yX0_read, Cond.static yX0_read, Cond.code yX0_read cX0_read 2 (some .int)]
def wsX0_tryJoining_r2 : List Cond := [Cond.methodLink RX0 91 yX0_take, Cond.instanceMethod yX0_take, Cond.selects RX0 yX0_take yX0_take, Cond.code yX0_take cX0_take 8 (some .int), Cond.fieldLink RX0 13 "GamutChain" "leasts" "[I", Cond.fieldLink RX0 16 "GamutChain" "greatests" "[I", Cond.fieldLink RX0 19 "GamutChain" "ways" "[I", Cond.methodLink RX0 87 yX0_bent, Cond.instanceMethod yX0_bent, Cond.selects RX0 yX0_bent yX0_bent, Cond.code yX0_bent cX0_bent 4 (some .int), Cond.fieldLink RX0 9 "GamutChain" "bends" "[I", Cond.methodLink RX0 139 yX0_between, Cond.static yX0_between, Cond.code yX0_between cX0_between 7 (some .int), Cond.methodLink RX0 183 yJ9_floorDiv_7cf53, Cond.static yJ9_floorDiv_7cf53, Cond.initialized RJ9, Cond.code yJ9_floorDiv_7cf53 cJ9_floorDiv_7cf53 3 (some .int), Cond.methodLink RX0 186 yX0_fold, Cond.static yX0_fold, Cond.code yX0_fold cX0_fold 3 (some .int), Cond.methodLink RX0 58 yX0_swap, Cond.static yX0_swap]
def wsX0_tryJoining_r3 : List Cond := [Cond.code yX0_swap cX0_swap 4 (some .int)]
def wsX0_tryJoining : List Cond := .code yX0_tryJoining cX0_tryJoining 6 (some .int) :: ((wsX0_tryJoining_r1 ++ (wsX0_tryJoining_r2 ++ wsX0_tryJoining_r3)) ++ wsX00)
def wsX0_gap_r1 : List Cond := [Cond.methodLink RX0 99 yX0_needChain, Cond.instanceMethod yX0_needChain, Cond.selects RX0 yX0_needChain yX0_needChain, Cond.initialized RX0, Cond.code yX0_needChain cX0_needChain 2 none, Cond.classLink RX0 69 "java/lang/IndexOutOfBoundsException", Cond.initialized "java/lang/IndexOutOfBoundsException", Cond.fieldLink RX0 94 "GamutChain" "chains" "I", Cond.methodLink RX0 116 yX0_tryJoining, Cond.instanceMethod yX0_tryJoining, Cond.selects RX0 yX0_tryJoining yX0_tryJoining, Cond.code yX0_tryJoining cX0_tryJoining 6 (some .int), Cond.fieldLink RX0 31 "GamutChain" "trial" "[I", Cond.methodLink RX0 189 Lib.Math.abs.name, Cond.static Lib.Math.abs.name, Cond.initialized "java/lang/Math", Cond.code Lib.Math.abs.name Lib.Math.abs.code 1 (some .int), Cond.methodLink RX0 125 Lib.Math.max.name, Cond.static Lib.Math.max.name, Cond.code Lib.Math.max.name Lib.Math.max.code 2 (some .int), Cond.methodLink RX0 54 yX0_valueOfPlace, Cond.static yX0_valueOfPlace, Cond.code yX0_valueOfPlace cX0_valueOfPlace 1 (some .int), Cond.methodLink RX0 119 Lib.Math.min.name]
def wsX0_gap_r2 : List Cond := [Cond.static Lib.Math.min.name, Cond.code Lib.Math.min.name Lib.Math.min.code 2 (some .int), Cond.methodLink RX0 113 yX0_pass, Cond.instanceMethod yX0_pass, Cond.selects RX0 yX0_pass yX0_pass, Cond.code yX0_pass cX0_pass 7 (some .int), Cond.fieldLink RX0 25 "GamutChain" "lengths" "[I", Cond.fieldLink RX0 22 "GamutChain" "links" "[I", Cond.methodLink RX0 105 yX0_read, Cond.static yX0_read, Cond.code yX0_read cX0_read 2 (some .int), Cond.methodLink RX0 91 yX0_take, Cond.instanceMethod yX0_take, Cond.selects RX0 yX0_take yX0_take, Cond.code yX0_take cX0_take 8 (some .int), Cond.fieldLink RX0 13 "GamutChain" "leasts" "[I", Cond.fieldLink RX0 16 "GamutChain" "greatests" "[I", Cond.fieldLink RX0 19 "GamutChain" "ways" "[I", Cond.methodLink RX0 87 yX0_bent, Cond.instanceMethod yX0_bent, Cond.selects RX0 yX0_bent yX0_bent, Cond.code yX0_bent cX0_bent 4 (some .int), Cond.fieldLink RX0 9 "GamutChain" "bends" "[I", Cond.methodLink RX0 139 yX0_between]
def wsX0_gap_r3 : List Cond := [Cond.static yX0_between, Cond.code yX0_between cX0_between 7 (some .int), Cond.methodLink RX0 183 yJ9_floorDiv_7cf53, Cond.static yJ9_floorDiv_7cf53, Cond.initialized RJ9, Cond.code yJ9_floorDiv_7cf53 cJ9_floorDiv_7cf53 3 (some .int), Cond.methodLink RX0 186 yX0_fold, Cond.static yX0_fold, Cond.code yX0_fold cX0_fold 3 (some .int), Cond.methodLink RX0 58 yX0_swap, Cond.static yX0_swap, Cond.code yX0_swap cX0_swap 4 (some .int)]
def wsX0_gap : List Cond := .code yX0_gap cX0_gap 2 (some .int) :: ((wsX0_gap_r1 ++ (wsX0_gap_r2 ++ wsX0_gap_r3)) ++ wsX00 ++ (vx_atS RX0 73 "java/lang/IndexOutOfBoundsException" ["java/lang/RuntimeException", "java/lang/Exception"]).filter goodWord)
def wsX0_greyGap_r1 : List Cond := [Cond.methodLink RX0 119 Lib.Math.min.name, Cond.static Lib.Math.min.name, Cond.initialized "java/lang/Math", Cond.code Lib.Math.min.name Lib.Math.min.code 2 (some .int), Cond.methodLink RX0 125 Lib.Math.max.name, Cond.static Lib.Math.max.name, Cond.code Lib.Math.max.name Lib.Math.max.code 2 (some .int), Cond.methodLink RX0 99 yX0_needChain, Cond.instanceMethod yX0_needChain, Cond.selects RX0 yX0_needChain yX0_needChain, Cond.initialized RX0, Cond.code yX0_needChain cX0_needChain 2 none, Cond.classLink RX0 69 "java/lang/IndexOutOfBoundsException", Cond.initialized "java/lang/IndexOutOfBoundsException", Cond.fieldLink RX0 94 "GamutChain" "chains" "I", Cond.methodLink RX0 113 yX0_pass, Cond.instanceMethod yX0_pass, Cond.selects RX0 yX0_pass yX0_pass, Cond.code yX0_pass cX0_pass 7 (some .int), Cond.fieldLink RX0 25 "GamutChain" "lengths" "[I", Cond.fieldLink RX0 22 "GamutChain" "links" "[I", Cond.methodLink RX0 105 yX0_read, Cond.static yX0_read, Cond.code yX0_read cX0_read 2 (some .int)]
def wsX0_greyGap_r2 : List Cond := [Cond.methodLink RX0 91 yX0_take, Cond.instanceMethod yX0_take, Cond.selects RX0 yX0_take yX0_take, Cond.code yX0_take cX0_take 8 (some .int), Cond.fieldLink RX0 13 "GamutChain" "leasts" "[I", Cond.fieldLink RX0 16 "GamutChain" "greatests" "[I", Cond.fieldLink RX0 19 "GamutChain" "ways" "[I", Cond.methodLink RX0 87 yX0_bent, Cond.instanceMethod yX0_bent, Cond.selects RX0 yX0_bent yX0_bent, Cond.code yX0_bent cX0_bent 4 (some .int), Cond.fieldLink RX0 9 "GamutChain" "bends" "[I", Cond.methodLink RX0 139 yX0_between, Cond.static yX0_between, Cond.code yX0_between cX0_between 7 (some .int), Cond.methodLink RX0 183 yJ9_floorDiv_7cf53, Cond.static yJ9_floorDiv_7cf53, Cond.initialized RJ9, Cond.code yJ9_floorDiv_7cf53 cJ9_floorDiv_7cf53 3 (some .int), Cond.methodLink RX0 186 yX0_fold, Cond.static yX0_fold, Cond.code yX0_fold cX0_fold 3 (some .int)]
def wsX0_greyGap : List Cond := .code yX0_greyGap cX0_greyGap 8 (some .int) :: ((wsX0_greyGap_r1 ++ wsX0_greyGap_r2) ++ wsX00 ++ (vx_atS RX0 73 "java/lang/IndexOutOfBoundsException" ["java/lang/RuntimeException", "java/lang/Exception"]).filter goodWord)
def wsX0_join_r1 : List Cond := [Cond.classLink RX0 47 "java/lang/IllegalStateException", Cond.initialized "java/lang/IllegalStateException", Cond.fieldLink RX0 28 "GamutChain" "kept" "[I", Cond.fieldLink RX0 31 "GamutChain" "trial" "[I", Cond.fieldLink RX0 130 "GamutChain" "joinedChains" "I", Cond.methodLink RX0 99 yX0_needChain, Cond.instanceMethod yX0_needChain, Cond.selects RX0 yX0_needChain yX0_needChain, Cond.initialized RX0, Cond.code yX0_needChain cX0_needChain 2 none, Cond.classLink RX0 69 "java/lang/IndexOutOfBoundsException", Cond.initialized "java/lang/IndexOutOfBoundsException", Cond.fieldLink RX0 94 "GamutChain" "chains" "I", Cond.methodLink RX0 74 yX0_needValue, Cond.static yX0_needValue, Cond.code yX0_needValue cX0_needValue 1 none, Cond.classLink RX0 80 "java/lang/IllegalArgumentException", Cond.initialized "java/lang/IllegalArgumentException", Cond.methodLink RX0 116 yX0_tryJoining, Cond.instanceMethod yX0_tryJoining, Cond.selects RX0 yX0_tryJoining yX0_tryJoining, Cond.code yX0_tryJoining cX0_tryJoining 6 (some .int), Cond.methodLink RX0 189 Lib.Math.abs.name, Cond.static Lib.Math.abs.name]
def wsX0_join_r2 : List Cond := [Cond.initialized "java/lang/Math", Cond.code Lib.Math.abs.name Lib.Math.abs.code 1 (some .int), Cond.methodLink RX0 125 Lib.Math.max.name, Cond.static Lib.Math.max.name, Cond.code Lib.Math.max.name Lib.Math.max.code 2 (some .int), Cond.methodLink RX0 54 yX0_valueOfPlace, Cond.static yX0_valueOfPlace, Cond.code yX0_valueOfPlace cX0_valueOfPlace 1 (some .int), Cond.methodLink RX0 119 Lib.Math.min.name, Cond.static Lib.Math.min.name, Cond.code Lib.Math.min.name Lib.Math.min.code 2 (some .int), Cond.methodLink RX0 113 yX0_pass, Cond.instanceMethod yX0_pass, Cond.selects RX0 yX0_pass yX0_pass, Cond.code yX0_pass cX0_pass 7 (some .int), Cond.fieldLink RX0 25 "GamutChain" "lengths" "[I", Cond.fieldLink RX0 22 "GamutChain" "links" "[I", Cond.methodLink RX0 105 yX0_read, Cond.static yX0_read, Cond.code yX0_read cX0_read 2 (some .int), Cond.methodLink RX0 91 yX0_take, Cond.instanceMethod yX0_take, Cond.selects RX0 yX0_take yX0_take, Cond.code yX0_take cX0_take 8 (some .int)]
def wsX0_join_r3 : List Cond := [Cond.fieldLink RX0 13 "GamutChain" "leasts" "[I", Cond.fieldLink RX0 16 "GamutChain" "greatests" "[I", Cond.fieldLink RX0 19 "GamutChain" "ways" "[I", Cond.methodLink RX0 87 yX0_bent, Cond.instanceMethod yX0_bent, Cond.selects RX0 yX0_bent yX0_bent, Cond.code yX0_bent cX0_bent 4 (some .int), Cond.fieldLink RX0 9 "GamutChain" "bends" "[I", Cond.methodLink RX0 139 yX0_between, Cond.static yX0_between, Cond.code yX0_between cX0_between 7 (some .int), Cond.methodLink RX0 183 yJ9_floorDiv_7cf53, Cond.static yJ9_floorDiv_7cf53, Cond.initialized RJ9, Cond.code yJ9_floorDiv_7cf53 cJ9_floorDiv_7cf53 3 (some .int), Cond.methodLink RX0 186 yX0_fold, Cond.static yX0_fold, Cond.code yX0_fold cX0_fold 3 (some .int), Cond.methodLink RX0 58 yX0_swap, Cond.static yX0_swap, Cond.code yX0_swap cX0_swap 4 (some .int)]
def wsX0_join : List Cond := .code yX0_join cX0_join 5 (some .int) :: ((wsX0_join_r1 ++ (wsX0_join_r2 ++ wsX0_join_r3)) ++ wsX00 ++ (vx_atS RX0 51 "java/lang/IllegalStateException" ["java/lang/RuntimeException", "java/lang/Exception"]).filter goodWord ++ (vx_atS RX0 73 "java/lang/IndexOutOfBoundsException" ["java/lang/RuntimeException", "java/lang/Exception"]).filter goodWord ++ (vx_atS RX0 84 "java/lang/IllegalArgumentException" ["java/lang/RuntimeException", "java/lang/Exception"]).filter goodWord)
def wsX0_joined_r1 : List Cond := [Cond.classLink RX0 47 "java/lang/IllegalStateException", Cond.initialized "java/lang/IllegalStateException", Cond.fieldLink RX0 130 "GamutChain" "joinedChains" "I", Cond.fieldLink RX0 28 "GamutChain" "kept" "[I", Cond.methodLink RX0 99 yX0_needChain, Cond.instanceMethod yX0_needChain, Cond.selects RX0 yX0_needChain yX0_needChain, Cond.initialized RX0, Cond.code yX0_needChain cX0_needChain 2 none, Cond.classLink RX0 69 "java/lang/IndexOutOfBoundsException", Cond.initialized "java/lang/IndexOutOfBoundsException", Cond.fieldLink RX0 94 "GamutChain" "chains" "I", Cond.methodLink RX0 66 yX0_needBand, Cond.static yX0_needBand, Cond.code yX0_needBand cX0_needBand 1 none, Cond.methodLink RX0 74 yX0_needValue, Cond.static yX0_needValue, Cond.code yX0_needValue cX0_needValue 1 none, Cond.classLink RX0 80 "java/lang/IllegalArgumentException", Cond.initialized "java/lang/IllegalArgumentException", Cond.methodLink RX0 133 yX0_hasBit, Cond.static yX0_hasBit, Cond.code yX0_hasBit cX0_hasBit 2 (some .boolean), Cond.methodLink RX0 139 yX0_between]
def wsX0_joined_r2 : List Cond := [Cond.static yX0_between, Cond.code yX0_between cX0_between 7 (some .int), Cond.methodLink RX0 105 yX0_read, Cond.static yX0_read, Cond.code yX0_read cX0_read 2 (some .int), Cond.methodLink RX0 183 yJ9_floorDiv_7cf53, Cond.static yJ9_floorDiv_7cf53, Cond.initialized RJ9, Cond.code yJ9_floorDiv_7cf53 cJ9_floorDiv_7cf53 3 (some .int)]
def wsX0_joined : List Cond := .code yX0_joined cX0_joined 4 (some .int) :: ((wsX0_joined_r1 ++ wsX0_joined_r2) ++ wsX00 ++ (vx_atS RX0 51 "java/lang/IllegalStateException" ["java/lang/RuntimeException", "java/lang/Exception"]).filter goodWord ++ (vx_atS RX0 73 "java/lang/IndexOutOfBoundsException" ["java/lang/RuntimeException", "java/lang/Exception"]).filter goodWord ++ (vx_atS RX0 84 "java/lang/IllegalArgumentException" ["java/lang/RuntimeException", "java/lang/Exception"]).filter goodWord)
def wsX0_differsFromKept_r1 : List Cond := [Cond.fieldLink RX0 28 "GamutChain" "kept" "[I", Cond.methodLink RX0 105 yX0_read, Cond.static yX0_read, Cond.initialized RX0, Cond.code yX0_read cX0_read 2 (some .int), Cond.methodLink RX0 54 yX0_valueOfPlace, Cond.static yX0_valueOfPlace, Cond.code yX0_valueOfPlace cX0_valueOfPlace 1 (some .int), Cond.methodLink RX0 119 Lib.Math.min.name, Cond.static Lib.Math.min.name, Cond.initialized "java/lang/Math", Cond.code Lib.Math.min.name Lib.Math.min.code 2 (some .int), Cond.methodLink RX0 113 yX0_pass, Cond.instanceMethod yX0_pass, Cond.selects RX0 yX0_pass yX0_pass, Cond.code yX0_pass cX0_pass 7 (some .int), Cond.fieldLink RX0 25 "GamutChain" "lengths" "[I", Cond.fieldLink RX0 22 "GamutChain" "links" "[I", Cond.methodLink RX0 91 yX0_take, Cond.instanceMethod yX0_take, Cond.selects RX0 yX0_take yX0_take, Cond.code yX0_take cX0_take 8 (some .int), Cond.fieldLink RX0 13 "GamutChain" "leasts" "[I", Cond.fieldLink RX0 16 "GamutChain" "greatests" "[I"]
def wsX0_differsFromKept_r2 : List Cond := [Cond.fieldLink RX0 19 "GamutChain" "ways" "[I", Cond.methodLink RX0 125 Lib.Math.max.name, Cond.static Lib.Math.max.name, Cond.code Lib.Math.max.name Lib.Math.max.code 2 (some .int), Cond.methodLink RX0 87 yX0_bent, Cond.instanceMethod yX0_bent, Cond.selects RX0 yX0_bent yX0_bent, Cond.code yX0_bent cX0_bent 4 (some .int), Cond.fieldLink RX0 9 "GamutChain" "bends" "[I", Cond.methodLink RX0 139 yX0_between, Cond.static yX0_between, Cond.code yX0_between cX0_between 7 (some .int), Cond.methodLink RX0 183 yJ9_floorDiv_7cf53, Cond.static yJ9_floorDiv_7cf53, Cond.initialized RJ9, Cond.code yJ9_floorDiv_7cf53 cJ9_floorDiv_7cf53 3 (some .int), Cond.methodLink RX0 186 yX0_fold, Cond.static yX0_fold, Cond.code yX0_fold cX0_fold 3 (some .int)]
def wsX0_differsFromKept : List Cond := .code yX0_differsFromKept cX0_differsFromKept 5 (some .boolean) :: ((wsX0_differsFromKept_r1 ++ wsX0_differsFromKept_r2) ++ wsX00)
def wsX0_stale_r1 : List Cond := [Cond.fieldLink RX0 130 "GamutChain" "joinedChains" "I", Cond.methodLink RX0 133 yX0_hasBit, Cond.static yX0_hasBit, Cond.initialized RX0, Cond.code yX0_hasBit cX0_hasBit 2 (some .boolean), Cond.methodLink RX0 142 yX0_differsFromKept, Cond.instanceMethod yX0_differsFromKept, Cond.selects RX0 yX0_differsFromKept yX0_differsFromKept, Cond.code yX0_differsFromKept cX0_differsFromKept 5 (some .boolean), Cond.fieldLink RX0 28 "GamutChain" "kept" "[I", Cond.methodLink RX0 105 yX0_read, Cond.static yX0_read, Cond.code yX0_read cX0_read 2 (some .int), Cond.methodLink RX0 54 yX0_valueOfPlace, Cond.static yX0_valueOfPlace, Cond.code yX0_valueOfPlace cX0_valueOfPlace 1 (some .int), Cond.methodLink RX0 119 Lib.Math.min.name, Cond.static Lib.Math.min.name, Cond.initialized "java/lang/Math", Cond.code Lib.Math.min.name Lib.Math.min.code 2 (some .int), Cond.methodLink RX0 113 yX0_pass, Cond.instanceMethod yX0_pass, Cond.selects RX0 yX0_pass yX0_pass, Cond.code yX0_pass cX0_pass 7 (some .int)]
def wsX0_stale_r2 : List Cond := [Cond.fieldLink RX0 25 "GamutChain" "lengths" "[I", Cond.fieldLink RX0 22 "GamutChain" "links" "[I", Cond.methodLink RX0 91 yX0_take, Cond.instanceMethod yX0_take, Cond.selects RX0 yX0_take yX0_take, Cond.code yX0_take cX0_take 8 (some .int), Cond.fieldLink RX0 13 "GamutChain" "leasts" "[I", Cond.fieldLink RX0 16 "GamutChain" "greatests" "[I", Cond.fieldLink RX0 19 "GamutChain" "ways" "[I", Cond.methodLink RX0 125 Lib.Math.max.name, Cond.static Lib.Math.max.name, Cond.code Lib.Math.max.name Lib.Math.max.code 2 (some .int), Cond.methodLink RX0 87 yX0_bent, Cond.instanceMethod yX0_bent, Cond.selects RX0 yX0_bent yX0_bent, Cond.code yX0_bent cX0_bent 4 (some .int), Cond.fieldLink RX0 9 "GamutChain" "bends" "[I", Cond.methodLink RX0 139 yX0_between, Cond.static yX0_between, Cond.code yX0_between cX0_between 7 (some .int), Cond.methodLink RX0 183 yJ9_floorDiv_7cf53, Cond.static yJ9_floorDiv_7cf53, Cond.initialized RJ9, Cond.code yJ9_floorDiv_7cf53 cJ9_floorDiv_7cf53 3 (some .int)]
def wsX0_stale_r3 : List Cond := [Cond.methodLink RX0 186 yX0_fold, Cond.static yX0_fold, Cond.code yX0_fold cX0_fold 3 (some .int)]
def wsX0_stale : List Cond := .code yX0_stale cX0_stale 3 (some .int) :: ((wsX0_stale_r1 ++ (wsX0_stale_r2 ++ wsX0_stale_r3)) ++ wsX00)
def wsX0_sign : List Cond := .code yX0_sign cX0_sign 2 (some .boolean) :: ([.fieldLink RX0 146 "GamutChain" "signedChains" "I", .methodLink RX0 99 yX0_needChain, .instanceMethod yX0_needChain, .selects RX0 yX0_needChain yX0_needChain, .initialized RX0, .code yX0_needChain cX0_needChain 2 none, .classLink RX0 69 "java/lang/IndexOutOfBoundsException", .initialized "java/lang/IndexOutOfBoundsException", .fieldLink RX0 94 "GamutChain" "chains" "I", .methodLink RX0 133 yX0_hasBit, .static yX0_hasBit, .code yX0_hasBit cX0_hasBit 2 (some .boolean)] ++ wsX00 ++ (vx_atS RX0 73 "java/lang/IndexOutOfBoundsException" ["java/lang/RuntimeException", "java/lang/Exception"]).filter goodWord)
def wsX0_needPixel : List Cond := .code yX0_needPixel cX0_needPixel 1 none :: ([.classLink RX0 69 "java/lang/IndexOutOfBoundsException", .initialized "java/lang/IndexOutOfBoundsException"] ++ (vx_atS RX0 73 "java/lang/IndexOutOfBoundsException" ["java/lang/RuntimeException", "java/lang/Exception"]).filter goodWord)
def wsX0_paint : List Cond := .code yX0_paint cX0_paint 4 (some .int) :: ([.fieldLink RX0 34 "GamutChain" "colours" "[I", .methodLink RX0 152 yX0_needPixel, .static yX0_needPixel, .initialized RX0, .code yX0_needPixel cX0_needPixel 1 none, .classLink RX0 69 "java/lang/IndexOutOfBoundsException", .initialized "java/lang/IndexOutOfBoundsException", .methodLink RX0 66 yX0_needBand, .static yX0_needBand, .code yX0_needBand cX0_needBand 1 none, .methodLink RX0 74 yX0_needValue, .static yX0_needValue, .code yX0_needValue cX0_needValue 1 none, .classLink RX0 80 "java/lang/IllegalArgumentException", .initialized "java/lang/IllegalArgumentException", .methodLink RX0 58 yX0_swap, .static yX0_swap, .code yX0_swap cX0_swap 4 (some .int)] ++ wsX00 ++ (vx_atS RX0 73 "java/lang/IndexOutOfBoundsException" ["java/lang/RuntimeException", "java/lang/Exception"]).filter goodWord ++ (vx_atS RX0 84 "java/lang/IllegalArgumentException" ["java/lang/RuntimeException", "java/lang/Exception"]).filter goodWord)
def wsX0_needInk : List Cond := .code yX0_needInk cX0_needInk 1 none :: ([.classLink RX0 69 "java/lang/IndexOutOfBoundsException", .initialized "java/lang/IndexOutOfBoundsException"] ++ (vx_atS RX0 73 "java/lang/IndexOutOfBoundsException" ["java/lang/RuntimeException", "java/lang/Exception"]).filter goodWord)
def wsX0_spot : List Cond := .code yX0_spot cX0_spot 4 (some .int) :: ([.fieldLink RX0 37 "GamutChain" "amounts" "[I", .methodLink RX0 152 yX0_needPixel, .static yX0_needPixel, .initialized RX0, .code yX0_needPixel cX0_needPixel 1 none, .classLink RX0 69 "java/lang/IndexOutOfBoundsException", .initialized "java/lang/IndexOutOfBoundsException", .methodLink RX0 155 yX0_needInk, .static yX0_needInk, .code yX0_needInk cX0_needInk 1 none, .methodLink RX0 74 yX0_needValue, .static yX0_needValue, .code yX0_needValue cX0_needValue 1 none, .classLink RX0 80 "java/lang/IllegalArgumentException", .initialized "java/lang/IllegalArgumentException", .methodLink RX0 58 yX0_swap, .static yX0_swap, .code yX0_swap cX0_swap 4 (some .int)] ++ wsX00 ++ (vx_atS RX0 73 "java/lang/IndexOutOfBoundsException" ["java/lang/RuntimeException", "java/lang/Exception"]).filter goodWord ++ (vx_atS RX0 84 "java/lang/IllegalArgumentException" ["java/lang/RuntimeException", "java/lang/Exception"]).filter goodWord)
def wsX0_mix : List Cond := .code yX0_mix cX0_mix 4 (some .int) :: ([.fieldLink RX0 40 "GamutChain" "mixes" "[I", .methodLink RX0 155 yX0_needInk, .static yX0_needInk, .initialized RX0, .code yX0_needInk cX0_needInk 1 none, .classLink RX0 69 "java/lang/IndexOutOfBoundsException", .initialized "java/lang/IndexOutOfBoundsException", .methodLink RX0 66 yX0_needBand, .static yX0_needBand, .code yX0_needBand cX0_needBand 1 none, .methodLink RX0 74 yX0_needValue, .static yX0_needValue, .code yX0_needValue cX0_needValue 1 none, .classLink RX0 80 "java/lang/IllegalArgumentException", .initialized "java/lang/IllegalArgumentException", .methodLink RX0 58 yX0_swap, .static yX0_swap, .code yX0_swap cX0_swap 4 (some .int)] ++ wsX00 ++ (vx_atS RX0 73 "java/lang/IndexOutOfBoundsException" ["java/lang/RuntimeException", "java/lang/Exception"]).filter goodWord ++ (vx_atS RX0 84 "java/lang/IllegalArgumentException" ["java/lang/RuntimeException", "java/lang/Exception"]).filter goodWord)
def wsX0_inked : List Cond := .code yX0_inked cX0_inked 7 (some .int) :: ([.fieldLink RX0 34 "GamutChain" "colours" "[I", .fieldLink RX0 40 "GamutChain" "mixes" "[I", .fieldLink RX0 37 "GamutChain" "amounts" "[I", .methodLink RX0 119 Lib.Math.min.name, .static Lib.Math.min.name, .initialized "java/lang/Math", .code Lib.Math.min.name Lib.Math.min.code 2 (some .int), .methodLink RX0 105 yX0_read, .static yX0_read, .initialized RX0, .code yX0_read cX0_read 2 (some .int), .methodLink RX0 133 yX0_hasBit, .static yX0_hasBit, .code yX0_hasBit cX0_hasBit 2 (some .boolean)] ++ wsX00)
def wsX0_shown_r1 : List Cond := [Cond.classLink RX0 80 "java/lang/IllegalArgumentException", Cond.initialized "java/lang/IllegalArgumentException", Cond.methodLink RX0 99 yX0_needChain, Cond.instanceMethod yX0_needChain, Cond.selects RX0 yX0_needChain yX0_needChain, Cond.initialized RX0, Cond.code yX0_needChain cX0_needChain 2 none, Cond.classLink RX0 69 "java/lang/IndexOutOfBoundsException", Cond.initialized "java/lang/IndexOutOfBoundsException", Cond.fieldLink RX0 94 "GamutChain" "chains" "I", Cond.methodLink RX0 152 yX0_needPixel, Cond.static yX0_needPixel, Cond.code yX0_needPixel cX0_needPixel 1 none, Cond.methodLink RX0 66 yX0_needBand, Cond.static yX0_needBand, Cond.code yX0_needBand cX0_needBand 1 none, Cond.methodLink RX0 160 yX0_inked, Cond.instanceMethod yX0_inked, Cond.selects RX0 yX0_inked yX0_inked, Cond.code yX0_inked cX0_inked 7 (some .int), Cond.fieldLink RX0 34 "GamutChain" "colours" "[I", Cond.fieldLink RX0 40 "GamutChain" "mixes" "[I", Cond.fieldLink RX0 37 "GamutChain" "amounts" "[I", Cond.methodLink RX0 119 Lib.Math.min.name]
def wsX0_shown_r2 : List Cond := [Cond.static Lib.Math.min.name, Cond.initialized "java/lang/Math", Cond.code Lib.Math.min.name Lib.Math.min.code 2 (some .int), Cond.methodLink RX0 105 yX0_read, Cond.static yX0_read, Cond.code yX0_read cX0_read 2 (some .int), Cond.methodLink RX0 133 yX0_hasBit, Cond.static yX0_hasBit, Cond.code yX0_hasBit cX0_hasBit 2 (some .boolean), Cond.methodLink RX0 113 yX0_pass, Cond.instanceMethod yX0_pass, Cond.selects RX0 yX0_pass yX0_pass, Cond.code yX0_pass cX0_pass 7 (some .int), Cond.fieldLink RX0 25 "GamutChain" "lengths" "[I", Cond.fieldLink RX0 22 "GamutChain" "links" "[I", Cond.methodLink RX0 91 yX0_take, Cond.instanceMethod yX0_take, Cond.selects RX0 yX0_take yX0_take, Cond.code yX0_take cX0_take 8 (some .int), Cond.fieldLink RX0 13 "GamutChain" "leasts" "[I", Cond.fieldLink RX0 16 "GamutChain" "greatests" "[I", Cond.fieldLink RX0 19 "GamutChain" "ways" "[I", Cond.methodLink RX0 125 Lib.Math.max.name, Cond.static Lib.Math.max.name]
def wsX0_shown_r3 : List Cond := [Cond.code Lib.Math.max.name Lib.Math.max.code 2 (some .int), Cond.methodLink RX0 87 yX0_bent, Cond.instanceMethod yX0_bent, Cond.selects RX0 yX0_bent yX0_bent, Cond.code yX0_bent cX0_bent 4 (some .int), Cond.fieldLink RX0 9 "GamutChain" "bends" "[I", Cond.methodLink RX0 139 yX0_between, Cond.static yX0_between, Cond.code yX0_between cX0_between 7 (some .int), Cond.methodLink RX0 183 yJ9_floorDiv_7cf53, Cond.static yJ9_floorDiv_7cf53, Cond.initialized RJ9, Cond.code yJ9_floorDiv_7cf53 cJ9_floorDiv_7cf53 3 (some .int), Cond.methodLink RX0 186 yX0_fold, Cond.static yX0_fold, Cond.code yX0_fold cX0_fold 3 (some .int)]
def wsX0_shown : List Cond := .code yX0_shown cX0_shown 5 (some .int) :: ((wsX0_shown_r1 ++ (wsX0_shown_r2 ++ wsX0_shown_r3)) ++ wsX00 ++ (vx_atS RX0 84 "java/lang/IllegalArgumentException" ["java/lang/RuntimeException", "java/lang/Exception"]).filter goodWord ++ (vx_atS RX0 73 "java/lang/IndexOutOfBoundsException" ["java/lang/RuntimeException", "java/lang/Exception"]).filter goodWord)
def wsJ9_abs_0f7a4 : List Cond := .code yJ9_abs_0f7a4 cJ9_abs_0f7a4 1 (some .int) :: ([])
def wsJ9_max_7cf53 : List Cond := .code yJ9_max_7cf53 cJ9_max_7cf53 2 (some .int) :: ([])
def wsJ9_min_7cf53 : List Cond := .code yJ9_min_7cf53 cJ9_min_7cf53 2 (some .int) :: ([])
def wsL_cell : List Cond := .code yL_cell cL_cell 2 (some .int) :: ([.constantLong RL 7 (3266489917)])
def wsL_some : List Cond := .code yL_some cL_some 2 (some .int) :: ([])
def wsL_at : List Cond := .code yL_at cL_at 1 (some .int) :: ([])
def wsL_between : List Cond := .code yL_between cL_between 7 (some .int) :: ([.methodLink RL 9 yL_at, .static yL_at, .initialized RL, .code yL_at cL_at 1 (some .int)])
def wsL_taken : List Cond := .code yL_taken cL_taken 11 (some .int) :: ([.methodLink RL 15 yL_between, .static yL_between, .initialized RL, .code yL_between cL_between 7 (some .int), .methodLink RL 9 yL_at, .static yL_at, .code yL_at cL_at 1 (some .int)])
def wsL_through : List Cond := .code yL_through cL_through 9 (some .int) :: ([.methodLink RL 19 yL_taken, .static yL_taken, .initialized RL, .code yL_taken cL_taken 11 (some .int), .methodLink RL 15 yL_between, .static yL_between, .code yL_between cL_between 7 (some .int), .methodLink RL 9 yL_at, .static yL_at, .code yL_at cL_at 1 (some .int)])
def wsL_apart : List Cond := .code yL_apart cL_apart 2 (some .int) :: ([])
def wsL_gap : List Cond := .code yL_gap cL_gap 10 (some .int) :: ([.arrayClass .int, .methodLink RL 9 yL_at, .static yL_at, .initialized RL, .code yL_at cL_at 1 (some .int), .methodLink RL 23 yL_through, .static yL_through, .code yL_through cL_through 9 (some .int), .methodLink RL 19 yL_taken, .static yL_taken, .code yL_taken cL_taken 11 (some .int), .methodLink RL 15 yL_between, .static yL_between, .code yL_between cL_between 7 (some .int), .methodLink RL 27 yL_apart, .static yL_apart, .code yL_apart cL_apart 2 (some .int)])
def wsL_greys : List Cond := .code yL_greys cL_greys 11 (some .int) :: ([.methodLink RL 23 yL_through, .static yL_through, .initialized RL, .code yL_through cL_through 9 (some .int), .methodLink RL 19 yL_taken, .static yL_taken, .code yL_taken cL_taken 11 (some .int), .methodLink RL 15 yL_between, .static yL_between, .code yL_between cL_between 7 (some .int), .methodLink RL 9 yL_at, .static yL_at, .code yL_at cL_at 1 (some .int)])
def wsL_held : List Cond := .code yL_held cL_held 4 (some .int) :: ([])
def wsL_bends_r1 : List Cond := [Cond.classLink RL 37 "java/lang/IndexOutOfBoundsException", Cond.classLink RL 39 "java/lang/IllegalArgumentException", Cond.classLink RL 41 "java/lang/IllegalStateException", Cond.methodLink RL 31 yX0_bend, Cond.instanceMethod yX0_bend, Cond.selects RX0 yX0_bend yX0_bend, Cond.initialized RX0, Cond.code yX0_bend cX0_bend 5 (some .int), Cond.classLink RX0 69 "java/lang/IndexOutOfBoundsException", Cond.initialized "java/lang/IndexOutOfBoundsException", Cond.fieldLink RX0 9 "GamutChain" "bends" "[I", Cond.methodLink RX0 62 yX0_needProfile, Cond.instanceMethod yX0_needProfile, Cond.selects RX0 yX0_needProfile yX0_needProfile, Cond.code yX0_needProfile cX0_needProfile 2 none, Cond.fieldLink RX0 43 "GamutChain" "profiles" "I", Cond.methodLink RX0 66 yX0_needBand, Cond.static yX0_needBand, Cond.code yX0_needBand cX0_needBand 1 none, Cond.methodLink RX0 74 yX0_needValue, Cond.static yX0_needValue, Cond.code yX0_needValue cX0_needValue 1 none, Cond.classLink RX0 80 "java/lang/IllegalArgumentException", Cond.initialized "java/lang/IllegalArgumentException"]
def wsL_bends_r2 : List Cond := [Cond.methodLink RX0 77 yX0_needFreeProfile, Cond.instanceMethod yX0_needFreeProfile, Cond.selects RX0 yX0_needFreeProfile yX0_needFreeProfile, Cond.code yX0_needFreeProfile cX0_needFreeProfile 2 none, Cond.classLink RX0 47 "java/lang/IllegalStateException", Cond.initialized "java/lang/IllegalStateException", Cond.methodLink RX0 175 yX0_held, Cond.instanceMethod yX0_held, Cond.selects RX0 yX0_held yX0_held, Cond.code yX0_held cX0_held 3 (some .int), Cond.fieldLink RX0 146 "GamutChain" "signedChains" "I", Cond.methodLink RX0 133 yX0_hasBit, Cond.static yX0_hasBit, Cond.code yX0_hasBit cX0_hasBit 2 (some .boolean), Cond.methodLink RX0 149 yX0_profilesOf, Cond.instanceMethod yX0_profilesOf, Cond.selects RX0 yX0_profilesOf yX0_profilesOf, Cond.code yX0_profilesOf cX0_profilesOf 5 (some .int), Cond.fieldLink RX0 25 "GamutChain" "lengths" "[I", Cond.fieldLink RX0 22 "GamutChain" "links" "[I", Cond.methodLink RX0 105 yX0_read, Cond.static yX0_read, Cond.code yX0_read cX0_read 2 (some .int), Cond.methodLink RX0 58 yX0_swap]
def wsL_bends_r3 : List Cond := [Cond.static yX0_swap, Cond.code yX0_swap cX0_swap 4 (some .int)]
def wsL_bends : List Cond := .codeWith yL_bends cL_bends 6 (some .int) [(0, 9, 10, 37), (0, 9, 15, 39), (0, 9, 20, 41)] :: ((wsL_bends_r1 ++ (wsL_bends_r2 ++ wsL_bends_r3)) ++ wsX00 ++ (vx_atS RX0 73 "java/lang/IndexOutOfBoundsException" ["java/lang/RuntimeException", "java/lang/Exception"]).filter goodWord ++ (vx_atS RX0 84 "java/lang/IllegalArgumentException" ["java/lang/RuntimeException", "java/lang/Exception"]).filter goodWord ++ (vx_atS RX0 51 "java/lang/IllegalStateException" ["java/lang/RuntimeException", "java/lang/Exception"]).filter goodWord)
def wsL_reaches_r1 : List Cond := [Cond.classLink RL 37 "java/lang/IndexOutOfBoundsException", Cond.classLink RL 39 "java/lang/IllegalArgumentException", Cond.classLink RL 41 "java/lang/IllegalStateException", Cond.methodLink RL 43 yX0_reach, Cond.instanceMethod yX0_reach, Cond.selects RX0 yX0_reach yX0_reach, Cond.initialized RX0, Cond.code yX0_reach cX0_reach 8 (some .int), Cond.classLink RX0 80 "java/lang/IllegalArgumentException", Cond.initialized "java/lang/IllegalArgumentException", Cond.fieldLink RX0 13 "GamutChain" "leasts" "[I", Cond.fieldLink RX0 16 "GamutChain" "greatests" "[I", Cond.methodLink RX0 62 yX0_needProfile, Cond.instanceMethod yX0_needProfile, Cond.selects RX0 yX0_needProfile yX0_needProfile, Cond.code yX0_needProfile cX0_needProfile 2 none, Cond.classLink RX0 69 "java/lang/IndexOutOfBoundsException", Cond.initialized "java/lang/IndexOutOfBoundsException", Cond.fieldLink RX0 43 "GamutChain" "profiles" "I", Cond.methodLink RX0 66 yX0_needBand, Cond.static yX0_needBand, Cond.code yX0_needBand cX0_needBand 1 none, Cond.methodLink RX0 74 yX0_needValue, Cond.static yX0_needValue]
def wsL_reaches_r2 : List Cond := [Cond.code yX0_needValue cX0_needValue 1 none, Cond.methodLink RX0 77 yX0_needFreeProfile, Cond.instanceMethod yX0_needFreeProfile, Cond.selects RX0 yX0_needFreeProfile yX0_needFreeProfile, Cond.code yX0_needFreeProfile cX0_needFreeProfile 2 none, Cond.classLink RX0 47 "java/lang/IllegalStateException", Cond.initialized "java/lang/IllegalStateException", Cond.methodLink RX0 175 yX0_held, Cond.instanceMethod yX0_held, Cond.selects RX0 yX0_held yX0_held, Cond.code yX0_held cX0_held 3 (some .int), Cond.fieldLink RX0 146 "GamutChain" "signedChains" "I", Cond.methodLink RX0 133 yX0_hasBit, Cond.static yX0_hasBit, Cond.code yX0_hasBit cX0_hasBit 2 (some .boolean), Cond.methodLink RX0 149 yX0_profilesOf, Cond.instanceMethod yX0_profilesOf, Cond.selects RX0 yX0_profilesOf yX0_profilesOf, Cond.code yX0_profilesOf cX0_profilesOf 5 (some .int), Cond.fieldLink RX0 25 "GamutChain" "lengths" "[I", Cond.fieldLink RX0 22 "GamutChain" "links" "[I", Cond.methodLink RX0 105 yX0_read, Cond.static yX0_read, Cond.code yX0_read cX0_read 2 (some .int)]
def wsL_reaches_r3 : List Cond := [Cond.methodLink RX0 58 yX0_swap, Cond.static yX0_swap, Cond.code yX0_swap cX0_swap 4 (some .int)]
def wsL_reaches : List Cond := .codeWith yL_reaches cL_reaches 6 (some .int) [(0, 9, 10, 37), (0, 9, 15, 39), (0, 9, 20, 41)] :: ((wsL_reaches_r1 ++ (wsL_reaches_r2 ++ wsL_reaches_r3)) ++ wsX00 ++ (vx_atS RX0 84 "java/lang/IllegalArgumentException" ["java/lang/RuntimeException", "java/lang/Exception"]).filter goodWord ++ (vx_atS RX0 73 "java/lang/IndexOutOfBoundsException" ["java/lang/RuntimeException", "java/lang/Exception"]).filter goodWord ++ (vx_atS RX0 51 "java/lang/IllegalStateException" ["java/lang/RuntimeException", "java/lang/Exception"]).filter goodWord)
def wsL_sets_r1 : List Cond := [Cond.classLink RL 37 "java/lang/IndexOutOfBoundsException", Cond.classLink RL 39 "java/lang/IllegalArgumentException", Cond.classLink RL 41 "java/lang/IllegalStateException", Cond.methodLink RL 46 yX0_way, Cond.instanceMethod yX0_way, Cond.selects RX0 yX0_way yX0_way, Cond.initialized RX0, Cond.code yX0_way cX0_way 3 (some .int), Cond.classLink RX0 80 "java/lang/IllegalArgumentException", Cond.initialized "java/lang/IllegalArgumentException", Cond.fieldLink RX0 19 "GamutChain" "ways" "[I", Cond.methodLink RX0 62 yX0_needProfile, Cond.instanceMethod yX0_needProfile, Cond.selects RX0 yX0_needProfile yX0_needProfile, Cond.code yX0_needProfile cX0_needProfile 2 none, Cond.classLink RX0 69 "java/lang/IndexOutOfBoundsException", Cond.initialized "java/lang/IndexOutOfBoundsException", Cond.fieldLink RX0 43 "GamutChain" "profiles" "I", Cond.methodLink RX0 77 yX0_needFreeProfile, Cond.instanceMethod yX0_needFreeProfile, Cond.selects RX0 yX0_needFreeProfile yX0_needFreeProfile, Cond.code yX0_needFreeProfile cX0_needFreeProfile 2 none, Cond.classLink RX0 47 "java/lang/IllegalStateException", Cond.initialized "java/lang/IllegalStateException"]
def wsL_sets_r2 : List Cond := [Cond.methodLink RX0 175 yX0_held, Cond.instanceMethod yX0_held, Cond.selects RX0 yX0_held yX0_held, Cond.code yX0_held cX0_held 3 (some .int), Cond.fieldLink RX0 146 "GamutChain" "signedChains" "I", Cond.methodLink RX0 133 yX0_hasBit, Cond.static yX0_hasBit, Cond.code yX0_hasBit cX0_hasBit 2 (some .boolean), Cond.methodLink RX0 149 yX0_profilesOf, Cond.instanceMethod yX0_profilesOf, Cond.selects RX0 yX0_profilesOf yX0_profilesOf, Cond.code yX0_profilesOf cX0_profilesOf 5 (some .int), Cond.fieldLink RX0 25 "GamutChain" "lengths" "[I", Cond.fieldLink RX0 22 "GamutChain" "links" "[I", Cond.methodLink RX0 105 yX0_read, Cond.static yX0_read, Cond.code yX0_read cX0_read 2 (some .int), Cond.methodLink RX0 58 yX0_swap, Cond.static yX0_swap, Cond.code yX0_swap cX0_swap 4 (some .int), Cond.methodLink RL 49 yX0_add, Cond.instanceMethod yX0_add, Cond.selects RX0 yX0_add yX0_add, Cond.code yX0_add cX0_add 4 (some .int)]
def wsL_sets_r3 : List Cond := [Cond.methodLink RX0 99 yX0_needChain, Cond.instanceMethod yX0_needChain, Cond.selects RX0 yX0_needChain yX0_needChain, Cond.code yX0_needChain cX0_needChain 2 none, Cond.fieldLink RX0 94 "GamutChain" "chains" "I", Cond.methodLink RX0 102 yX0_needFreeChain, Cond.instanceMethod yX0_needFreeChain, Cond.selects RX0 yX0_needFreeChain yX0_needFreeChain, Cond.code yX0_needFreeChain cX0_needFreeChain 2 none, Cond.methodLink RL 52 yX0_join, Cond.instanceMethod yX0_join, Cond.selects RX0 yX0_join yX0_join, Cond.code yX0_join cX0_join 5 (some .int), Cond.fieldLink RX0 28 "GamutChain" "kept" "[I", Cond.fieldLink RX0 31 "GamutChain" "trial" "[I", Cond.fieldLink RX0 130 "GamutChain" "joinedChains" "I", Cond.methodLink RX0 74 yX0_needValue, Cond.static yX0_needValue, Cond.code yX0_needValue cX0_needValue 1 none, Cond.methodLink RX0 116 yX0_tryJoining, Cond.instanceMethod yX0_tryJoining, Cond.selects RX0 yX0_tryJoining yX0_tryJoining, Cond.code yX0_tryJoining cX0_tryJoining 6 (some .int), Cond.methodLink RX0 189 Lib.Math.abs.name]
def wsL_sets_r4 : List Cond := [Cond.static Lib.Math.abs.name, Cond.initialized "java/lang/Math", Cond.code Lib.Math.abs.name Lib.Math.abs.code 1 (some .int), Cond.methodLink RX0 125 Lib.Math.max.name, Cond.static Lib.Math.max.name, Cond.code Lib.Math.max.name Lib.Math.max.code 2 (some .int), Cond.methodLink RX0 54 yX0_valueOfPlace, Cond.static yX0_valueOfPlace, Cond.code yX0_valueOfPlace cX0_valueOfPlace 1 (some .int), Cond.methodLink RX0 119 Lib.Math.min.name, Cond.static Lib.Math.min.name, Cond.code Lib.Math.min.name Lib.Math.min.code 2 (some .int), Cond.methodLink RX0 113 yX0_pass, Cond.instanceMethod yX0_pass, Cond.selects RX0 yX0_pass yX0_pass, Cond.code yX0_pass cX0_pass 7 (some .int), Cond.methodLink RX0 91 yX0_take, Cond.instanceMethod yX0_take, Cond.selects RX0 yX0_take yX0_take, Cond.code yX0_take cX0_take 8 (some .int), Cond.fieldLink RX0 13 "GamutChain" "leasts" "[I", Cond.fieldLink RX0 16 "GamutChain" "greatests" "[I", Cond.methodLink RX0 87 yX0_bent, Cond.instanceMethod yX0_bent]
def wsL_sets_r5 : List Cond := [Cond.selects RX0 yX0_bent yX0_bent, Cond.code yX0_bent cX0_bent 4 (some .int), Cond.fieldLink RX0 9 "GamutChain" "bends" "[I", Cond.methodLink RX0 139 yX0_between, Cond.static yX0_between, Cond.code yX0_between cX0_between 7 (some .int), Cond.methodLink RX0 183 yJ9_floorDiv_7cf53, Cond.static yJ9_floorDiv_7cf53, Cond.initialized RJ9, Cond.code yJ9_floorDiv_7cf53 cJ9_floorDiv_7cf53 3 (some .int), Cond.methodLink RX0 186 yX0_fold, Cond.static yX0_fold, Cond.code yX0_fold cX0_fold 3 (some .int)]
def wsL_sets : List Cond := .codeWith yL_sets cL_sets 5 (some .int) [(0, 33, 34, 37), (0, 33, 39, 39), (0, 33, 44, 41)] :: ((wsL_sets_r1 ++ (wsL_sets_r2 ++ (wsL_sets_r3 ++ (wsL_sets_r4 ++ wsL_sets_r5)))) ++ wsX00 ++ (vx_atS RX0 84 "java/lang/IllegalArgumentException" ["java/lang/RuntimeException", "java/lang/Exception"]).filter goodWord ++ (vx_atS RX0 73 "java/lang/IndexOutOfBoundsException" ["java/lang/RuntimeException", "java/lang/Exception"]).filter goodWord ++ (vx_atS RX0 51 "java/lang/IllegalStateException" ["java/lang/RuntimeException", "java/lang/Exception"]).filter goodWord)
def wsL_chains_r1 : List Cond := [Cond.classLink RL 37 "java/lang/IndexOutOfBoundsException", Cond.classLink RL 41 "java/lang/IllegalStateException", Cond.methodLink RL 55 yX0_drop, Cond.instanceMethod yX0_drop, Cond.selects RX0 yX0_drop yX0_drop, Cond.initialized RX0, Cond.code yX0_drop cX0_drop 3 (some .int), Cond.classLink RX0 47 "java/lang/IllegalStateException", Cond.initialized "java/lang/IllegalStateException", Cond.fieldLink RX0 25 "GamutChain" "lengths" "[I", Cond.fieldLink RX0 22 "GamutChain" "links" "[I", Cond.methodLink RX0 99 yX0_needChain, Cond.instanceMethod yX0_needChain, Cond.selects RX0 yX0_needChain yX0_needChain, Cond.code yX0_needChain cX0_needChain 2 none, Cond.classLink RX0 69 "java/lang/IndexOutOfBoundsException", Cond.initialized "java/lang/IndexOutOfBoundsException", Cond.fieldLink RX0 94 "GamutChain" "chains" "I", Cond.methodLink RX0 102 yX0_needFreeChain, Cond.instanceMethod yX0_needFreeChain, Cond.selects RX0 yX0_needFreeChain yX0_needFreeChain, Cond.code yX0_needFreeChain cX0_needFreeChain 2 none, Cond.fieldLink RX0 146 "GamutChain" "signedChains" "I", Cond.methodLink RX0 133 yX0_hasBit]
def wsL_chains_r2 : List Cond := [Cond.static yX0_hasBit, Cond.code yX0_hasBit cX0_hasBit 2 (some .boolean), Cond.methodLink RX0 105 yX0_read, Cond.static yX0_read, Cond.code yX0_read cX0_read 2 (some .int), Cond.methodLink RX0 58 yX0_swap, Cond.static yX0_swap, Cond.code yX0_swap cX0_swap 4 (some .int), Cond.methodLink RL 58 yX0_sign, Cond.instanceMethod yX0_sign, Cond.selects RX0 yX0_sign yX0_sign, Cond.code yX0_sign cX0_sign 2 (some .boolean), Cond.methodLink RL 62 yX0_gap, Cond.instanceMethod yX0_gap, Cond.selects RX0 yX0_gap yX0_gap, Cond.code yX0_gap cX0_gap 2 (some .int), Cond.methodLink RX0 116 yX0_tryJoining, Cond.instanceMethod yX0_tryJoining, Cond.selects RX0 yX0_tryJoining yX0_tryJoining, Cond.code yX0_tryJoining cX0_tryJoining 6 (some .int), Cond.fieldLink RX0 31 "GamutChain" "trial" "[I", Cond.methodLink RX0 189 Lib.Math.abs.name, Cond.static Lib.Math.abs.name, Cond.initialized "java/lang/Math"]
def wsL_chains_r3 : List Cond := [Cond.code Lib.Math.abs.name Lib.Math.abs.code 1 (some .int), Cond.methodLink RX0 125 Lib.Math.max.name, Cond.static Lib.Math.max.name, Cond.code Lib.Math.max.name Lib.Math.max.code 2 (some .int), Cond.methodLink RX0 54 yX0_valueOfPlace, Cond.static yX0_valueOfPlace, Cond.code yX0_valueOfPlace cX0_valueOfPlace 1 (some .int), Cond.methodLink RX0 119 Lib.Math.min.name, Cond.static Lib.Math.min.name, Cond.code Lib.Math.min.name Lib.Math.min.code 2 (some .int), Cond.methodLink RX0 113 yX0_pass, Cond.instanceMethod yX0_pass, Cond.selects RX0 yX0_pass yX0_pass, Cond.code yX0_pass cX0_pass 7 (some .int), Cond.methodLink RX0 91 yX0_take, Cond.instanceMethod yX0_take, Cond.selects RX0 yX0_take yX0_take, Cond.code yX0_take cX0_take 8 (some .int), Cond.fieldLink RX0 13 "GamutChain" "leasts" "[I", Cond.fieldLink RX0 16 "GamutChain" "greatests" "[I", Cond.fieldLink RX0 19 "GamutChain" "ways" "[I", Cond.methodLink RX0 87 yX0_bent, Cond.instanceMethod yX0_bent, Cond.selects RX0 yX0_bent yX0_bent]
def wsL_chains_r4 : List Cond := [Cond.code yX0_bent cX0_bent 4 (some .int), Cond.fieldLink RX0 9 "GamutChain" "bends" "[I", Cond.methodLink RX0 139 yX0_between, Cond.static yX0_between, Cond.code yX0_between cX0_between 7 (some .int), Cond.methodLink RX0 183 yJ9_floorDiv_7cf53, Cond.static yJ9_floorDiv_7cf53, Cond.initialized RJ9, Cond.code yJ9_floorDiv_7cf53 cJ9_floorDiv_7cf53 3 (some .int), Cond.methodLink RX0 186 yX0_fold, Cond.static yX0_fold, Cond.code yX0_fold cX0_fold 3 (some .int), Cond.methodLink RL 65 yX0_greyGap, Cond.instanceMethod yX0_greyGap, Cond.selects RX0 yX0_greyGap yX0_greyGap, Cond.code yX0_greyGap cX0_greyGap 8 (some .int)]
def wsL_chains : List Cond := .codeWith yL_chains cL_chains 4 (some .int) [(0, 51, 52, 37), (0, 51, 56, 41)] :: ((wsL_chains_r1 ++ (wsL_chains_r2 ++ (wsL_chains_r3 ++ wsL_chains_r4))) ++ wsX00 ++ (vx_atS RX0 51 "java/lang/IllegalStateException" ["java/lang/RuntimeException", "java/lang/Exception"]).filter goodWord ++ (vx_atS RX0 73 "java/lang/IndexOutOfBoundsException" ["java/lang/RuntimeException", "java/lang/Exception"]).filter goodWord)
def wsL_of_r1 : List Cond := [Cond.classLink RL 37 "java/lang/IndexOutOfBoundsException", Cond.classLink RL 39 "java/lang/IllegalArgumentException", Cond.classLink RL 41 "java/lang/IllegalStateException", Cond.methodLink RL 68 yX0_curve, Cond.instanceMethod yX0_curve, Cond.selects RX0 yX0_curve yX0_curve, Cond.initialized RX0, Cond.code yX0_curve cX0_curve 4 (some .int), Cond.methodLink RX0 62 yX0_needProfile, Cond.instanceMethod yX0_needProfile, Cond.selects RX0 yX0_needProfile yX0_needProfile, Cond.code yX0_needProfile cX0_needProfile 2 none, Cond.classLink RX0 69 "java/lang/IndexOutOfBoundsException", Cond.initialized "java/lang/IndexOutOfBoundsException", Cond.fieldLink RX0 43 "GamutChain" "profiles" "I", Cond.methodLink RX0 66 yX0_needBand, Cond.static yX0_needBand, Cond.code yX0_needBand cX0_needBand 1 none, Cond.methodLink RX0 74 yX0_needValue, Cond.static yX0_needValue, Cond.code yX0_needValue cX0_needValue 1 none, Cond.classLink RX0 80 "java/lang/IllegalArgumentException", Cond.initialized "java/lang/IllegalArgumentException", Cond.methodLink RX0 87 yX0_bent]
def wsL_of_r2 : List Cond := [Cond.instanceMethod yX0_bent, Cond.selects RX0 yX0_bent yX0_bent, Cond.code yX0_bent cX0_bent 4 (some .int), Cond.fieldLink RX0 9 "GamutChain" "bends" "[I", Cond.methodLink RX0 139 yX0_between, Cond.static yX0_between, Cond.code yX0_between cX0_between 7 (some .int), Cond.methodLink RX0 105 yX0_read, Cond.static yX0_read, Cond.code yX0_read cX0_read 2 (some .int), Cond.methodLink RX0 183 yJ9_floorDiv_7cf53, Cond.static yJ9_floorDiv_7cf53, Cond.initialized RJ9, Cond.code yJ9_floorDiv_7cf53 cJ9_floorDiv_7cf53 3 (some .int), Cond.methodLink RL 72 yX0_taken, Cond.instanceMethod yX0_taken, Cond.selects RX0 yX0_taken yX0_taken, Cond.code yX0_taken cX0_taken 4 (some .int), Cond.methodLink RX0 91 yX0_take, Cond.instanceMethod yX0_take, Cond.selects RX0 yX0_take yX0_take, Cond.code yX0_take cX0_take 8 (some .int), Cond.fieldLink RX0 13 "GamutChain" "leasts" "[I", Cond.fieldLink RX0 16 "GamutChain" "greatests" "[I"]
def wsL_of_r3 : List Cond := [Cond.fieldLink RX0 19 "GamutChain" "ways" "[I", Cond.methodLink RX0 119 Lib.Math.min.name, Cond.static Lib.Math.min.name, Cond.initialized "java/lang/Math", Cond.code Lib.Math.min.name Lib.Math.min.code 2 (some .int), Cond.methodLink RX0 125 Lib.Math.max.name, Cond.static Lib.Math.max.name, Cond.code Lib.Math.max.name Lib.Math.max.code 2 (some .int), Cond.methodLink RX0 186 yX0_fold, Cond.static yX0_fold, Cond.code yX0_fold cX0_fold 3 (some .int), Cond.methodLink RL 74 yX0_through, Cond.instanceMethod yX0_through, Cond.selects RX0 yX0_through yX0_through, Cond.code yX0_through cX0_through 4 (some .int), Cond.methodLink RX0 99 yX0_needChain, Cond.instanceMethod yX0_needChain, Cond.selects RX0 yX0_needChain yX0_needChain, Cond.code yX0_needChain cX0_needChain 2 none, Cond.fieldLink RX0 94 "GamutChain" "chains" "I", Cond.methodLink RX0 113 yX0_pass, Cond.instanceMethod yX0_pass, Cond.selects RX0 yX0_pass yX0_pass, Cond.code yX0_pass cX0_pass 7 (some .int)]
def wsL_of_r4 : List Cond := [Cond.fieldLink RX0 25 "GamutChain" "lengths" "[I", Cond.fieldLink RX0 22 "GamutChain" "links" "[I", Cond.methodLink RL 76 yX0_joined, Cond.instanceMethod yX0_joined, Cond.selects RX0 yX0_joined yX0_joined, Cond.code yX0_joined cX0_joined 4 (some .int), Cond.classLink RX0 47 "java/lang/IllegalStateException", Cond.initialized "java/lang/IllegalStateException", Cond.fieldLink RX0 130 "GamutChain" "joinedChains" "I", Cond.fieldLink RX0 28 "GamutChain" "kept" "[I", Cond.methodLink RX0 133 yX0_hasBit, Cond.static yX0_hasBit, Cond.code yX0_hasBit cX0_hasBit 2 (some .boolean)]
def wsL_of : List Cond := .codeWith yL_of cL_of 6 (some .int) [(0, 55, 56, 37), (0, 55, 61, 39), (0, 55, 66, 41)] :: ((wsL_of_r1 ++ (wsL_of_r2 ++ (wsL_of_r3 ++ wsL_of_r4))) ++ wsX00 ++ (vx_atS RX0 73 "java/lang/IndexOutOfBoundsException" ["java/lang/RuntimeException", "java/lang/Exception"]).filter goodWord ++ (vx_atS RX0 84 "java/lang/IllegalArgumentException" ["java/lang/RuntimeException", "java/lang/Exception"]).filter goodWord ++ (vx_atS RX0 51 "java/lang/IllegalStateException" ["java/lang/RuntimeException", "java/lang/Exception"]).filter goodWord)
def wsL_paints_r1 : List Cond := [Cond.classLink RL 37 "java/lang/IndexOutOfBoundsException", Cond.classLink RL 39 "java/lang/IllegalArgumentException", Cond.methodLink RL 79 yX0_paint, Cond.instanceMethod yX0_paint, Cond.selects RX0 yX0_paint yX0_paint, Cond.initialized RX0, Cond.code yX0_paint cX0_paint 4 (some .int), Cond.fieldLink RX0 34 "GamutChain" "colours" "[I", Cond.methodLink RX0 152 yX0_needPixel, Cond.static yX0_needPixel, Cond.code yX0_needPixel cX0_needPixel 1 none, Cond.classLink RX0 69 "java/lang/IndexOutOfBoundsException", Cond.initialized "java/lang/IndexOutOfBoundsException", Cond.methodLink RX0 66 yX0_needBand, Cond.static yX0_needBand, Cond.code yX0_needBand cX0_needBand 1 none, Cond.methodLink RX0 74 yX0_needValue, Cond.static yX0_needValue, Cond.code yX0_needValue cX0_needValue 1 none, Cond.classLink RX0 80 "java/lang/IllegalArgumentException", Cond.initialized "java/lang/IllegalArgumentException", Cond.methodLink RX0 58 yX0_swap, Cond.static yX0_swap, Cond.code yX0_swap cX0_swap 4 (some .int)]
def wsL_paints_r2 : List Cond := [Cond.methodLink RL 82 yX0_spot, Cond.instanceMethod yX0_spot, Cond.selects RX0 yX0_spot yX0_spot, Cond.code yX0_spot cX0_spot 4 (some .int), Cond.fieldLink RX0 37 "GamutChain" "amounts" "[I", Cond.methodLink RX0 155 yX0_needInk, Cond.static yX0_needInk, Cond.code yX0_needInk cX0_needInk 1 none, Cond.methodLink RL 85 yX0_mix, Cond.instanceMethod yX0_mix, Cond.selects RX0 yX0_mix yX0_mix, Cond.code yX0_mix cX0_mix 4 (some .int), Cond.fieldLink RX0 40 "GamutChain" "mixes" "[I"]
def wsL_paints : List Cond := .codeWith yL_paints cL_paints 6 (some .int) [(0, 39, 40, 37), (0, 39, 45, 39)] :: ((wsL_paints_r1 ++ wsL_paints_r2) ++ wsX00 ++ (vx_atS RX0 73 "java/lang/IndexOutOfBoundsException" ["java/lang/RuntimeException", "java/lang/Exception"]).filter goodWord ++ (vx_atS RX0 84 "java/lang/IllegalArgumentException" ["java/lang/RuntimeException", "java/lang/Exception"]).filter goodWord)
def wsL_shows_r1 : List Cond := [Cond.classLink RL 37 "java/lang/IndexOutOfBoundsException", Cond.classLink RL 39 "java/lang/IllegalArgumentException", Cond.methodLink RL 88 yX0_shown, Cond.instanceMethod yX0_shown, Cond.selects RX0 yX0_shown yX0_shown, Cond.initialized RX0, Cond.code yX0_shown cX0_shown 5 (some .int), Cond.classLink RX0 80 "java/lang/IllegalArgumentException", Cond.initialized "java/lang/IllegalArgumentException", Cond.methodLink RX0 99 yX0_needChain, Cond.instanceMethod yX0_needChain, Cond.selects RX0 yX0_needChain yX0_needChain, Cond.code yX0_needChain cX0_needChain 2 none, Cond.classLink RX0 69 "java/lang/IndexOutOfBoundsException", Cond.initialized "java/lang/IndexOutOfBoundsException", Cond.fieldLink RX0 94 "GamutChain" "chains" "I", Cond.methodLink RX0 152 yX0_needPixel, Cond.static yX0_needPixel, Cond.code yX0_needPixel cX0_needPixel 1 none, Cond.methodLink RX0 66 yX0_needBand, Cond.static yX0_needBand, Cond.code yX0_needBand cX0_needBand 1 none, Cond.methodLink RX0 160 yX0_inked, Cond.instanceMethod yX0_inked]
def wsL_shows_r2 : List Cond := [Cond.selects RX0 yX0_inked yX0_inked, Cond.code yX0_inked cX0_inked 7 (some .int), Cond.fieldLink RX0 34 "GamutChain" "colours" "[I", Cond.fieldLink RX0 40 "GamutChain" "mixes" "[I", Cond.fieldLink RX0 37 "GamutChain" "amounts" "[I", Cond.methodLink RX0 119 Lib.Math.min.name, Cond.static Lib.Math.min.name, Cond.initialized "java/lang/Math", Cond.code Lib.Math.min.name Lib.Math.min.code 2 (some .int), Cond.methodLink RX0 105 yX0_read, Cond.static yX0_read, Cond.code yX0_read cX0_read 2 (some .int), Cond.methodLink RX0 133 yX0_hasBit, Cond.static yX0_hasBit, Cond.code yX0_hasBit cX0_hasBit 2 (some .boolean), Cond.methodLink RX0 113 yX0_pass, Cond.instanceMethod yX0_pass, Cond.selects RX0 yX0_pass yX0_pass, Cond.code yX0_pass cX0_pass 7 (some .int), Cond.fieldLink RX0 25 "GamutChain" "lengths" "[I", Cond.fieldLink RX0 22 "GamutChain" "links" "[I", Cond.methodLink RX0 91 yX0_take, Cond.instanceMethod yX0_take, Cond.selects RX0 yX0_take yX0_take]
def wsL_shows_r3 : List Cond := [Cond.code yX0_take cX0_take 8 (some .int), Cond.fieldLink RX0 13 "GamutChain" "leasts" "[I", Cond.fieldLink RX0 16 "GamutChain" "greatests" "[I", Cond.fieldLink RX0 19 "GamutChain" "ways" "[I", Cond.methodLink RX0 125 Lib.Math.max.name, Cond.static Lib.Math.max.name, Cond.code Lib.Math.max.name Lib.Math.max.code 2 (some .int), Cond.methodLink RX0 87 yX0_bent, Cond.instanceMethod yX0_bent, Cond.selects RX0 yX0_bent yX0_bent, Cond.code yX0_bent cX0_bent 4 (some .int), Cond.fieldLink RX0 9 "GamutChain" "bends" "[I", Cond.methodLink RX0 139 yX0_between, Cond.static yX0_between, Cond.code yX0_between cX0_between 7 (some .int), Cond.methodLink RX0 183 yJ9_floorDiv_7cf53, Cond.static yJ9_floorDiv_7cf53, Cond.initialized RJ9, Cond.code yJ9_floorDiv_7cf53 cJ9_floorDiv_7cf53 3 (some .int), Cond.methodLink RX0 186 yX0_fold, Cond.static yX0_fold, Cond.code yX0_fold cX0_fold 3 (some .int)]
def wsL_shows : List Cond := .codeWith yL_shows cL_shows 6 (some .int) [(0, 9, 10, 37), (0, 9, 15, 39)] :: ((wsL_shows_r1 ++ (wsL_shows_r2 ++ wsL_shows_r3)) ++ wsX00 ++ (vx_atS RX0 84 "java/lang/IllegalArgumentException" ["java/lang/RuntimeException", "java/lang/Exception"]).filter goodWord ++ (vx_atS RX0 73 "java/lang/IndexOutOfBoundsException" ["java/lang/RuntimeException", "java/lang/Exception"]).filter goodWord)
def wsL_value : List Cond := .code yL_value cL_value 1 (some .int) :: ([.methodLink RL 91 yL_some, .static yL_some, .initialized RL, .code yL_some cL_some 2 (some .int)])
def wsL_profiles_r1 : List Cond := [Cond.methodLink RL 91 yL_some, Cond.static yL_some, Cond.initialized RL, Cond.code yL_some cL_some 2 (some .int), Cond.methodLink RL 94 yL_held, Cond.static yL_held, Cond.code yL_held cL_held 4 (some .int), Cond.methodLink RL 98 yL_value, Cond.static yL_value, Cond.code yL_value cL_value 1 (some .int), Cond.methodLink RL 101 yL_bends, Cond.static yL_bends, Cond.codeWith yL_bends cL_bends 6 (some .int) [(0, 9, 10, 37), (0, 9, 15, 39), (0, 9, 20, 41)], Cond.classLink RL 37 "java/lang/IndexOutOfBoundsException", Cond.classLink RL 39 "java/lang/IllegalArgumentException", Cond.classLink RL 41 "java/lang/IllegalStateException", Cond.methodLink RL 31 yX0_bend, Cond.instanceMethod yX0_bend, Cond.selects RX0 yX0_bend yX0_bend, Cond.initialized RX0, Cond.code yX0_bend cX0_bend 5 (some .int), Cond.classLink RX0 69 "java/lang/IndexOutOfBoundsException", Cond.initialized "java/lang/IndexOutOfBoundsException", Cond.fieldLink RX0 9 "GamutChain" "bends" "[I"]
def wsL_profiles_r2 : List Cond := [Cond.methodLink RX0 62 yX0_needProfile, Cond.instanceMethod yX0_needProfile, Cond.selects RX0 yX0_needProfile yX0_needProfile, Cond.code yX0_needProfile cX0_needProfile 2 none, Cond.fieldLink RX0 43 "GamutChain" "profiles" "I", Cond.methodLink RX0 66 yX0_needBand, Cond.static yX0_needBand, Cond.code yX0_needBand cX0_needBand 1 none, Cond.methodLink RX0 74 yX0_needValue, Cond.static yX0_needValue, Cond.code yX0_needValue cX0_needValue 1 none, Cond.classLink RX0 80 "java/lang/IllegalArgumentException", Cond.initialized "java/lang/IllegalArgumentException", Cond.methodLink RX0 77 yX0_needFreeProfile, Cond.instanceMethod yX0_needFreeProfile, Cond.selects RX0 yX0_needFreeProfile yX0_needFreeProfile, Cond.code yX0_needFreeProfile cX0_needFreeProfile 2 none, Cond.classLink RX0 47 "java/lang/IllegalStateException", Cond.initialized "java/lang/IllegalStateException", Cond.methodLink RX0 175 yX0_held, Cond.instanceMethod yX0_held, Cond.selects RX0 yX0_held yX0_held, Cond.code yX0_held cX0_held 3 (some .int), Cond.fieldLink RX0 146 "GamutChain" "signedChains" "I"]
def wsL_profiles_r3 : List Cond := [Cond.methodLink RX0 133 yX0_hasBit, Cond.static yX0_hasBit, Cond.code yX0_hasBit cX0_hasBit 2 (some .boolean), Cond.methodLink RX0 149 yX0_profilesOf, Cond.instanceMethod yX0_profilesOf, Cond.selects RX0 yX0_profilesOf yX0_profilesOf, Cond.code yX0_profilesOf cX0_profilesOf 5 (some .int), Cond.fieldLink RX0 25 "GamutChain" "lengths" "[I", Cond.fieldLink RX0 22 "GamutChain" "links" "[I", Cond.methodLink RX0 105 yX0_read, Cond.static yX0_read, Cond.code yX0_read cX0_read 2 (some .int), Cond.methodLink RX0 58 yX0_swap, Cond.static yX0_swap, Cond.code yX0_swap cX0_swap 4 (some .int), Cond.methodLink RL 105 yL_reaches, Cond.static yL_reaches, Cond.codeWith yL_reaches cL_reaches 6 (some .int) [(0, 9, 10, 37), (0, 9, 15, 39), (0, 9, 20, 41)], Cond.methodLink RL 43 yX0_reach, Cond.instanceMethod yX0_reach, Cond.selects RX0 yX0_reach yX0_reach, Cond.code yX0_reach cX0_reach 8 (some .int), Cond.fieldLink RX0 13 "GamutChain" "leasts" "[I", Cond.fieldLink RX0 16 "GamutChain" "greatests" "[I"]
def wsL_profiles_r4 : List Cond := [Cond.methodLink RL 108 yL_sets, Cond.static yL_sets, Cond.codeWith yL_sets cL_sets 5 (some .int) [(0, 33, 34, 37), (0, 33, 39, 39), (0, 33, 44, 41)], Cond.methodLink RL 46 yX0_way, Cond.instanceMethod yX0_way, Cond.selects RX0 yX0_way yX0_way, Cond.code yX0_way cX0_way 3 (some .int), Cond.fieldLink RX0 19 "GamutChain" "ways" "[I", Cond.methodLink RL 49 yX0_add, Cond.instanceMethod yX0_add, Cond.selects RX0 yX0_add yX0_add, Cond.code yX0_add cX0_add 4 (some .int), Cond.methodLink RX0 99 yX0_needChain, Cond.instanceMethod yX0_needChain, Cond.selects RX0 yX0_needChain yX0_needChain, Cond.code yX0_needChain cX0_needChain 2 none, Cond.fieldLink RX0 94 "GamutChain" "chains" "I", Cond.methodLink RX0 102 yX0_needFreeChain, Cond.instanceMethod yX0_needFreeChain, Cond.selects RX0 yX0_needFreeChain yX0_needFreeChain, Cond.code yX0_needFreeChain cX0_needFreeChain 2 none, Cond.methodLink RL 52 yX0_join, Cond.instanceMethod yX0_join, Cond.selects RX0 yX0_join yX0_join]
def wsL_profiles_r5 : List Cond := [Cond.code yX0_join cX0_join 5 (some .int), Cond.fieldLink RX0 28 "GamutChain" "kept" "[I", Cond.fieldLink RX0 31 "GamutChain" "trial" "[I", Cond.fieldLink RX0 130 "GamutChain" "joinedChains" "I", Cond.methodLink RX0 116 yX0_tryJoining, Cond.instanceMethod yX0_tryJoining, Cond.selects RX0 yX0_tryJoining yX0_tryJoining, Cond.code yX0_tryJoining cX0_tryJoining 6 (some .int), Cond.methodLink RX0 189 Lib.Math.abs.name, Cond.static Lib.Math.abs.name, Cond.initialized "java/lang/Math", Cond.code Lib.Math.abs.name Lib.Math.abs.code 1 (some .int), Cond.methodLink RX0 125 Lib.Math.max.name, Cond.static Lib.Math.max.name, Cond.code Lib.Math.max.name Lib.Math.max.code 2 (some .int), Cond.methodLink RX0 54 yX0_valueOfPlace, Cond.static yX0_valueOfPlace, Cond.code yX0_valueOfPlace cX0_valueOfPlace 1 (some .int), Cond.methodLink RX0 119 Lib.Math.min.name, Cond.static Lib.Math.min.name, Cond.code Lib.Math.min.name Lib.Math.min.code 2 (some .int), Cond.methodLink RX0 113 yX0_pass, Cond.instanceMethod yX0_pass, Cond.selects RX0 yX0_pass yX0_pass]
def wsL_profiles_r6 : List Cond := [Cond.code yX0_pass cX0_pass 7 (some .int), Cond.methodLink RX0 91 yX0_take, Cond.instanceMethod yX0_take, Cond.selects RX0 yX0_take yX0_take, Cond.code yX0_take cX0_take 8 (some .int), Cond.methodLink RX0 87 yX0_bent, Cond.instanceMethod yX0_bent, Cond.selects RX0 yX0_bent yX0_bent, Cond.code yX0_bent cX0_bent 4 (some .int), Cond.methodLink RX0 139 yX0_between, Cond.static yX0_between, Cond.code yX0_between cX0_between 7 (some .int), Cond.methodLink RX0 183 yJ9_floorDiv_7cf53, Cond.static yJ9_floorDiv_7cf53, Cond.initialized RJ9, Cond.code yJ9_floorDiv_7cf53 cJ9_floorDiv_7cf53 3 (some .int), Cond.methodLink RX0 186 yX0_fold, Cond.static yX0_fold, Cond.code yX0_fold cX0_fold 3 (some .int)]
def wsL_profiles : List Cond := .code yL_profiles cL_profiles 14 (some .boolean) :: ((wsL_profiles_r1 ++ (wsL_profiles_r2 ++ (wsL_profiles_r3 ++ (wsL_profiles_r4 ++ (wsL_profiles_r5 ++ wsL_profiles_r6))))) ++ wsX00 ++ (vx_atS RX0 73 "java/lang/IndexOutOfBoundsException" ["java/lang/RuntimeException", "java/lang/Exception"]).filter goodWord ++ (vx_atS RX0 84 "java/lang/IllegalArgumentException" ["java/lang/RuntimeException", "java/lang/Exception"]).filter goodWord ++ (vx_atS RX0 51 "java/lang/IllegalStateException" ["java/lang/RuntimeException", "java/lang/Exception"]).filter goodWord)
def wsL_rows_r1 : List Cond := [Cond.methodLink RL 91 yL_some, Cond.static yL_some, Cond.initialized RL, Cond.code yL_some cL_some 2 (some .int), Cond.methodLink RL 108 yL_sets, Cond.static yL_sets, Cond.codeWith yL_sets cL_sets 5 (some .int) [(0, 33, 34, 37), (0, 33, 39, 39), (0, 33, 44, 41)], Cond.classLink RL 37 "java/lang/IndexOutOfBoundsException", Cond.classLink RL 39 "java/lang/IllegalArgumentException", Cond.classLink RL 41 "java/lang/IllegalStateException", Cond.methodLink RL 46 yX0_way, Cond.instanceMethod yX0_way, Cond.selects RX0 yX0_way yX0_way, Cond.initialized RX0, Cond.code yX0_way cX0_way 3 (some .int), Cond.classLink RX0 80 "java/lang/IllegalArgumentException", Cond.initialized "java/lang/IllegalArgumentException", Cond.fieldLink RX0 19 "GamutChain" "ways" "[I", Cond.methodLink RX0 62 yX0_needProfile, Cond.instanceMethod yX0_needProfile, Cond.selects RX0 yX0_needProfile yX0_needProfile, Cond.code yX0_needProfile cX0_needProfile 2 none, Cond.classLink RX0 69 "java/lang/IndexOutOfBoundsException", Cond.initialized "java/lang/IndexOutOfBoundsException"]
def wsL_rows_r2 : List Cond := [Cond.fieldLink RX0 43 "GamutChain" "profiles" "I", Cond.methodLink RX0 77 yX0_needFreeProfile, Cond.instanceMethod yX0_needFreeProfile, Cond.selects RX0 yX0_needFreeProfile yX0_needFreeProfile, Cond.code yX0_needFreeProfile cX0_needFreeProfile 2 none, Cond.classLink RX0 47 "java/lang/IllegalStateException", Cond.initialized "java/lang/IllegalStateException", Cond.methodLink RX0 175 yX0_held, Cond.instanceMethod yX0_held, Cond.selects RX0 yX0_held yX0_held, Cond.code yX0_held cX0_held 3 (some .int), Cond.fieldLink RX0 146 "GamutChain" "signedChains" "I", Cond.methodLink RX0 133 yX0_hasBit, Cond.static yX0_hasBit, Cond.code yX0_hasBit cX0_hasBit 2 (some .boolean), Cond.methodLink RX0 149 yX0_profilesOf, Cond.instanceMethod yX0_profilesOf, Cond.selects RX0 yX0_profilesOf yX0_profilesOf, Cond.code yX0_profilesOf cX0_profilesOf 5 (some .int), Cond.fieldLink RX0 25 "GamutChain" "lengths" "[I", Cond.fieldLink RX0 22 "GamutChain" "links" "[I", Cond.methodLink RX0 105 yX0_read, Cond.static yX0_read, Cond.code yX0_read cX0_read 2 (some .int)]
def wsL_rows_r3 : List Cond := [Cond.methodLink RX0 58 yX0_swap, Cond.static yX0_swap, Cond.code yX0_swap cX0_swap 4 (some .int), Cond.methodLink RL 49 yX0_add, Cond.instanceMethod yX0_add, Cond.selects RX0 yX0_add yX0_add, Cond.code yX0_add cX0_add 4 (some .int), Cond.methodLink RX0 99 yX0_needChain, Cond.instanceMethod yX0_needChain, Cond.selects RX0 yX0_needChain yX0_needChain, Cond.code yX0_needChain cX0_needChain 2 none, Cond.fieldLink RX0 94 "GamutChain" "chains" "I", Cond.methodLink RX0 102 yX0_needFreeChain, Cond.instanceMethod yX0_needFreeChain, Cond.selects RX0 yX0_needFreeChain yX0_needFreeChain, Cond.code yX0_needFreeChain cX0_needFreeChain 2 none, Cond.methodLink RL 52 yX0_join, Cond.instanceMethod yX0_join, Cond.selects RX0 yX0_join yX0_join, Cond.code yX0_join cX0_join 5 (some .int), Cond.fieldLink RX0 28 "GamutChain" "kept" "[I", Cond.fieldLink RX0 31 "GamutChain" "trial" "[I", Cond.fieldLink RX0 130 "GamutChain" "joinedChains" "I", Cond.methodLink RX0 74 yX0_needValue]
def wsL_rows_r4 : List Cond := [Cond.static yX0_needValue, Cond.code yX0_needValue cX0_needValue 1 none, Cond.methodLink RX0 116 yX0_tryJoining, Cond.instanceMethod yX0_tryJoining, Cond.selects RX0 yX0_tryJoining yX0_tryJoining, Cond.code yX0_tryJoining cX0_tryJoining 6 (some .int), Cond.methodLink RX0 189 Lib.Math.abs.name, Cond.static Lib.Math.abs.name, Cond.initialized "java/lang/Math", Cond.code Lib.Math.abs.name Lib.Math.abs.code 1 (some .int), Cond.methodLink RX0 125 Lib.Math.max.name, Cond.static Lib.Math.max.name, Cond.code Lib.Math.max.name Lib.Math.max.code 2 (some .int), Cond.methodLink RX0 54 yX0_valueOfPlace, Cond.static yX0_valueOfPlace, Cond.code yX0_valueOfPlace cX0_valueOfPlace 1 (some .int), Cond.methodLink RX0 119 Lib.Math.min.name, Cond.static Lib.Math.min.name, Cond.code Lib.Math.min.name Lib.Math.min.code 2 (some .int), Cond.methodLink RX0 113 yX0_pass, Cond.instanceMethod yX0_pass, Cond.selects RX0 yX0_pass yX0_pass, Cond.code yX0_pass cX0_pass 7 (some .int), Cond.methodLink RX0 91 yX0_take]
def wsL_rows_r5 : List Cond := [Cond.instanceMethod yX0_take, Cond.selects RX0 yX0_take yX0_take, Cond.code yX0_take cX0_take 8 (some .int), Cond.fieldLink RX0 13 "GamutChain" "leasts" "[I", Cond.fieldLink RX0 16 "GamutChain" "greatests" "[I", Cond.methodLink RX0 87 yX0_bent, Cond.instanceMethod yX0_bent, Cond.selects RX0 yX0_bent yX0_bent, Cond.code yX0_bent cX0_bent 4 (some .int), Cond.fieldLink RX0 9 "GamutChain" "bends" "[I", Cond.methodLink RX0 139 yX0_between, Cond.static yX0_between, Cond.code yX0_between cX0_between 7 (some .int), Cond.methodLink RX0 183 yJ9_floorDiv_7cf53, Cond.static yJ9_floorDiv_7cf53, Cond.initialized RJ9, Cond.code yJ9_floorDiv_7cf53 cJ9_floorDiv_7cf53 3 (some .int), Cond.methodLink RX0 186 yX0_fold, Cond.static yX0_fold, Cond.code yX0_fold cX0_fold 3 (some .int), Cond.methodLink RL 112 yL_chains, Cond.static yL_chains, Cond.codeWith yL_chains cL_chains 4 (some .int) [(0, 51, 52, 37), (0, 51, 56, 41)], Cond.methodLink RL 55 yX0_drop]
def wsL_rows_r6 : List Cond := [Cond.instanceMethod yX0_drop, Cond.selects RX0 yX0_drop yX0_drop, Cond.code yX0_drop cX0_drop 3 (some .int), Cond.methodLink RL 58 yX0_sign, Cond.instanceMethod yX0_sign, Cond.selects RX0 yX0_sign yX0_sign, Cond.code yX0_sign cX0_sign 2 (some .boolean), Cond.methodLink RL 62 yX0_gap, Cond.instanceMethod yX0_gap, Cond.selects RX0 yX0_gap yX0_gap, Cond.code yX0_gap cX0_gap 2 (some .int), Cond.methodLink RL 65 yX0_greyGap, Cond.instanceMethod yX0_greyGap, Cond.selects RX0 yX0_greyGap yX0_greyGap, Cond.code yX0_greyGap cX0_greyGap 8 (some .int), Cond.methodLink RL 116 yL_gap, Cond.static yL_gap, Cond.code yL_gap cL_gap 10 (some .int), Cond.arrayClass .int, Cond.methodLink RL 9 yL_at, Cond.static yL_at, Cond.code yL_at cL_at 1 (some .int), Cond.methodLink RL 23 yL_through, Cond.static yL_through]
def wsL_rows_r7 : List Cond := [Cond.code yL_through cL_through 9 (some .int), Cond.methodLink RL 19 yL_taken, Cond.static yL_taken, Cond.code yL_taken cL_taken 11 (some .int), Cond.methodLink RL 15 yL_between, Cond.static yL_between, Cond.code yL_between cL_between 7 (some .int), Cond.methodLink RL 27 yL_apart, Cond.static yL_apart, Cond.code yL_apart cL_apart 2 (some .int)]
def wsL_rows : List Cond := .code yL_rows cL_rows 14 (some .boolean) :: ((wsL_rows_r1 ++ (wsL_rows_r2 ++ (wsL_rows_r3 ++ (wsL_rows_r4 ++ (wsL_rows_r5 ++ (wsL_rows_r6 ++ wsL_rows_r7)))))) ++ wsX00 ++ (vx_atS RX0 84 "java/lang/IllegalArgumentException" ["java/lang/RuntimeException", "java/lang/Exception"]).filter goodWord ++ (vx_atS RX0 73 "java/lang/IndexOutOfBoundsException" ["java/lang/RuntimeException", "java/lang/Exception"]).filter goodWord ++ (vx_atS RX0 51 "java/lang/IllegalStateException" ["java/lang/RuntimeException", "java/lang/Exception"]).filter goodWord)
def wsL_colours_r1 : List Cond := [Cond.methodLink RL 91 yL_some, Cond.static yL_some, Cond.initialized RL, Cond.code yL_some cL_some 2 (some .int), Cond.methodLink RL 98 yL_value, Cond.static yL_value, Cond.code yL_value cL_value 1 (some .int), Cond.methodLink RL 119 yL_paints, Cond.static yL_paints, Cond.codeWith yL_paints cL_paints 6 (some .int) [(0, 39, 40, 37), (0, 39, 45, 39)], Cond.classLink RL 37 "java/lang/IndexOutOfBoundsException", Cond.classLink RL 39 "java/lang/IllegalArgumentException", Cond.methodLink RL 79 yX0_paint, Cond.instanceMethod yX0_paint, Cond.selects RX0 yX0_paint yX0_paint, Cond.initialized RX0, Cond.code yX0_paint cX0_paint 4 (some .int), Cond.fieldLink RX0 34 "GamutChain" "colours" "[I", Cond.methodLink RX0 152 yX0_needPixel, Cond.static yX0_needPixel, Cond.code yX0_needPixel cX0_needPixel 1 none, Cond.classLink RX0 69 "java/lang/IndexOutOfBoundsException", Cond.initialized "java/lang/IndexOutOfBoundsException", Cond.methodLink RX0 66 yX0_needBand]
def wsL_colours_r2 : List Cond := [Cond.static yX0_needBand, Cond.code yX0_needBand cX0_needBand 1 none, Cond.methodLink RX0 74 yX0_needValue, Cond.static yX0_needValue, Cond.code yX0_needValue cX0_needValue 1 none, Cond.classLink RX0 80 "java/lang/IllegalArgumentException", Cond.initialized "java/lang/IllegalArgumentException", Cond.methodLink RX0 58 yX0_swap, Cond.static yX0_swap, Cond.code yX0_swap cX0_swap 4 (some .int), Cond.methodLink RL 82 yX0_spot, Cond.instanceMethod yX0_spot, Cond.selects RX0 yX0_spot yX0_spot, Cond.code yX0_spot cX0_spot 4 (some .int), Cond.fieldLink RX0 37 "GamutChain" "amounts" "[I", Cond.methodLink RX0 155 yX0_needInk, Cond.static yX0_needInk, Cond.code yX0_needInk cX0_needInk 1 none, Cond.methodLink RL 85 yX0_mix, Cond.instanceMethod yX0_mix, Cond.selects RX0 yX0_mix yX0_mix, Cond.code yX0_mix cX0_mix 4 (some .int), Cond.fieldLink RX0 40 "GamutChain" "mixes" "[I"]
def wsL_colours : List Cond := .code yL_colours cL_colours 10 (some .boolean) :: ((wsL_colours_r1 ++ wsL_colours_r2) ++ wsX00 ++ (vx_atS RX0 73 "java/lang/IndexOutOfBoundsException" ["java/lang/RuntimeException", "java/lang/Exception"]).filter goodWord ++ (vx_atS RX0 84 "java/lang/IllegalArgumentException" ["java/lang/RuntimeException", "java/lang/Exception"]).filter goodWord)
def wsL_asks_r1 : List Cond := [Cond.methodLink RL 98 yL_value, Cond.static yL_value, Cond.initialized RL, Cond.code yL_value cL_value 1 (some .int), Cond.methodLink RL 91 yL_some, Cond.static yL_some, Cond.code yL_some cL_some 2 (some .int), Cond.methodLink RL 122 yL_of, Cond.static yL_of, Cond.codeWith yL_of cL_of 6 (some .int) [(0, 55, 56, 37), (0, 55, 61, 39), (0, 55, 66, 41)], Cond.classLink RL 37 "java/lang/IndexOutOfBoundsException", Cond.classLink RL 39 "java/lang/IllegalArgumentException", Cond.classLink RL 41 "java/lang/IllegalStateException", Cond.methodLink RL 68 yX0_curve, Cond.instanceMethod yX0_curve, Cond.selects RX0 yX0_curve yX0_curve, Cond.initialized RX0, Cond.code yX0_curve cX0_curve 4 (some .int), Cond.methodLink RX0 62 yX0_needProfile, Cond.instanceMethod yX0_needProfile, Cond.selects RX0 yX0_needProfile yX0_needProfile, Cond.code yX0_needProfile cX0_needProfile 2 none, Cond.classLink RX0 69 "java/lang/IndexOutOfBoundsException", Cond.initialized "java/lang/IndexOutOfBoundsException"]
def wsL_asks_r2 : List Cond := [Cond.fieldLink RX0 43 "GamutChain" "profiles" "I", Cond.methodLink RX0 66 yX0_needBand, Cond.static yX0_needBand, Cond.code yX0_needBand cX0_needBand 1 none, Cond.methodLink RX0 74 yX0_needValue, Cond.static yX0_needValue, Cond.code yX0_needValue cX0_needValue 1 none, Cond.classLink RX0 80 "java/lang/IllegalArgumentException", Cond.initialized "java/lang/IllegalArgumentException", Cond.methodLink RX0 87 yX0_bent, Cond.instanceMethod yX0_bent, Cond.selects RX0 yX0_bent yX0_bent, Cond.code yX0_bent cX0_bent 4 (some .int), Cond.fieldLink RX0 9 "GamutChain" "bends" "[I", Cond.methodLink RX0 139 yX0_between, Cond.static yX0_between, Cond.code yX0_between cX0_between 7 (some .int), Cond.methodLink RX0 105 yX0_read, Cond.static yX0_read, Cond.code yX0_read cX0_read 2 (some .int), Cond.methodLink RX0 183 yJ9_floorDiv_7cf53, Cond.static yJ9_floorDiv_7cf53, Cond.initialized RJ9, Cond.code yJ9_floorDiv_7cf53 cJ9_floorDiv_7cf53 3 (some .int)]
def wsL_asks_r3 : List Cond := [Cond.methodLink RL 72 yX0_taken, Cond.instanceMethod yX0_taken, Cond.selects RX0 yX0_taken yX0_taken, Cond.code yX0_taken cX0_taken 4 (some .int), Cond.methodLink RX0 91 yX0_take, Cond.instanceMethod yX0_take, Cond.selects RX0 yX0_take yX0_take, Cond.code yX0_take cX0_take 8 (some .int), Cond.fieldLink RX0 13 "GamutChain" "leasts" "[I", Cond.fieldLink RX0 16 "GamutChain" "greatests" "[I", Cond.fieldLink RX0 19 "GamutChain" "ways" "[I", Cond.methodLink RX0 119 Lib.Math.min.name, Cond.static Lib.Math.min.name, Cond.initialized "java/lang/Math", Cond.code Lib.Math.min.name Lib.Math.min.code 2 (some .int), Cond.methodLink RX0 125 Lib.Math.max.name, Cond.static Lib.Math.max.name, Cond.code Lib.Math.max.name Lib.Math.max.code 2 (some .int), Cond.methodLink RX0 186 yX0_fold, Cond.static yX0_fold, Cond.code yX0_fold cX0_fold 3 (some .int), Cond.methodLink RL 74 yX0_through, Cond.instanceMethod yX0_through, Cond.selects RX0 yX0_through yX0_through]
def wsL_asks_r4 : List Cond := [Cond.code yX0_through cX0_through 4 (some .int), Cond.methodLink RX0 99 yX0_needChain, Cond.instanceMethod yX0_needChain, Cond.selects RX0 yX0_needChain yX0_needChain, Cond.code yX0_needChain cX0_needChain 2 none, Cond.fieldLink RX0 94 "GamutChain" "chains" "I", Cond.methodLink RX0 113 yX0_pass, Cond.instanceMethod yX0_pass, Cond.selects RX0 yX0_pass yX0_pass, Cond.code yX0_pass cX0_pass 7 (some .int), Cond.fieldLink RX0 25 "GamutChain" "lengths" "[I", Cond.fieldLink RX0 22 "GamutChain" "links" "[I", Cond.methodLink RL 76 yX0_joined, Cond.instanceMethod yX0_joined, Cond.selects RX0 yX0_joined yX0_joined, Cond.code yX0_joined cX0_joined 4 (some .int), Cond.classLink RX0 47 "java/lang/IllegalStateException", Cond.initialized "java/lang/IllegalStateException", Cond.fieldLink RX0 130 "GamutChain" "joinedChains" "I", Cond.fieldLink RX0 28 "GamutChain" "kept" "[I", Cond.methodLink RX0 133 yX0_hasBit, Cond.static yX0_hasBit, Cond.code yX0_hasBit cX0_hasBit 2 (some .boolean), Cond.methodLink RL 15 yL_between]
def wsL_asks_r5 : List Cond := [Cond.static yL_between, Cond.code yL_between cL_between 7 (some .int), Cond.methodLink RL 9 yL_at, Cond.static yL_at, Cond.code yL_at cL_at 1 (some .int), Cond.methodLink RL 19 yL_taken, Cond.static yL_taken, Cond.code yL_taken cL_taken 11 (some .int), Cond.methodLink RL 23 yL_through, Cond.static yL_through, Cond.code yL_through cL_through 9 (some .int), Cond.methodLink RL 125 yX0_stale, Cond.instanceMethod yX0_stale, Cond.selects RX0 yX0_stale yX0_stale, Cond.code yX0_stale cX0_stale 3 (some .int), Cond.methodLink RX0 142 yX0_differsFromKept, Cond.instanceMethod yX0_differsFromKept, Cond.selects RX0 yX0_differsFromKept yX0_differsFromKept, Cond.code yX0_differsFromKept cX0_differsFromKept 5 (some .boolean), Cond.methodLink RX0 54 yX0_valueOfPlace, Cond.static yX0_valueOfPlace, Cond.code yX0_valueOfPlace cX0_valueOfPlace 1 (some .int), Cond.methodLink RL 129 yX0_held, Cond.instanceMethod yX0_held]
def wsL_asks_r6 : List Cond := [Cond.selects RX0 yX0_held yX0_held, Cond.code yX0_held cX0_held 3 (some .int), Cond.fieldLink RX0 146 "GamutChain" "signedChains" "I", Cond.methodLink RX0 149 yX0_profilesOf, Cond.instanceMethod yX0_profilesOf, Cond.selects RX0 yX0_profilesOf yX0_profilesOf, Cond.code yX0_profilesOf cX0_profilesOf 5 (some .int), Cond.methodLink RL 94 yL_held, Cond.static yL_held, Cond.code yL_held cL_held 4 (some .int), Cond.methodLink RL 131 yL_shows, Cond.static yL_shows, Cond.codeWith yL_shows cL_shows 6 (some .int) [(0, 9, 10, 37), (0, 9, 15, 39)], Cond.methodLink RL 88 yX0_shown, Cond.instanceMethod yX0_shown, Cond.selects RX0 yX0_shown yX0_shown, Cond.code yX0_shown cX0_shown 5 (some .int), Cond.methodLink RX0 152 yX0_needPixel, Cond.static yX0_needPixel, Cond.code yX0_needPixel cX0_needPixel 1 none, Cond.methodLink RX0 160 yX0_inked, Cond.instanceMethod yX0_inked, Cond.selects RX0 yX0_inked yX0_inked, Cond.code yX0_inked cX0_inked 7 (some .int)]
def wsL_asks_r7 : List Cond := [Cond.fieldLink RX0 34 "GamutChain" "colours" "[I", Cond.fieldLink RX0 40 "GamutChain" "mixes" "[I", Cond.fieldLink RX0 37 "GamutChain" "amounts" "[I", Cond.methodLink RL 112 yL_chains, Cond.static yL_chains, Cond.codeWith yL_chains cL_chains 4 (some .int) [(0, 51, 52, 37), (0, 51, 56, 41)], Cond.methodLink RL 55 yX0_drop, Cond.instanceMethod yX0_drop, Cond.selects RX0 yX0_drop yX0_drop, Cond.code yX0_drop cX0_drop 3 (some .int), Cond.methodLink RX0 102 yX0_needFreeChain, Cond.instanceMethod yX0_needFreeChain, Cond.selects RX0 yX0_needFreeChain yX0_needFreeChain, Cond.code yX0_needFreeChain cX0_needFreeChain 2 none, Cond.methodLink RX0 58 yX0_swap, Cond.static yX0_swap, Cond.code yX0_swap cX0_swap 4 (some .int), Cond.methodLink RL 58 yX0_sign, Cond.instanceMethod yX0_sign, Cond.selects RX0 yX0_sign yX0_sign, Cond.code yX0_sign cX0_sign 2 (some .boolean), Cond.methodLink RL 62 yX0_gap, Cond.instanceMethod yX0_gap, Cond.selects RX0 yX0_gap yX0_gap]
def wsL_asks_r8 : List Cond := [Cond.code yX0_gap cX0_gap 2 (some .int), Cond.methodLink RX0 116 yX0_tryJoining, Cond.instanceMethod yX0_tryJoining, Cond.selects RX0 yX0_tryJoining yX0_tryJoining, Cond.code yX0_tryJoining cX0_tryJoining 6 (some .int), Cond.fieldLink RX0 31 "GamutChain" "trial" "[I", Cond.methodLink RX0 189 Lib.Math.abs.name, Cond.static Lib.Math.abs.name, Cond.code Lib.Math.abs.name Lib.Math.abs.code 1 (some .int), Cond.methodLink RL 65 yX0_greyGap, Cond.instanceMethod yX0_greyGap, Cond.selects RX0 yX0_greyGap yX0_greyGap, Cond.code yX0_greyGap cX0_greyGap 8 (some .int), Cond.methodLink RL 116 yL_gap, Cond.static yL_gap, Cond.code yL_gap cL_gap 10 (some .int), Cond.arrayClass .int, Cond.methodLink RL 27 yL_apart, Cond.static yL_apart, Cond.code yL_apart cL_apart 2 (some .int), Cond.methodLink RL 134 yL_greys, Cond.static yL_greys, Cond.code yL_greys cL_greys 11 (some .int)]
def wsL_asks : List Cond := .code yL_asks cL_asks 20 (some .boolean) :: ((wsL_asks_r1 ++ (wsL_asks_r2 ++ (wsL_asks_r3 ++ (wsL_asks_r4 ++ (wsL_asks_r5 ++ (wsL_asks_r6 ++ (wsL_asks_r7 ++ wsL_asks_r8))))))) ++ wsX00 ++ (vx_atS RX0 73 "java/lang/IndexOutOfBoundsException" ["java/lang/RuntimeException", "java/lang/Exception"]).filter goodWord ++ (vx_atS RX0 84 "java/lang/IllegalArgumentException" ["java/lang/RuntimeException", "java/lang/Exception"]).filter goodWord ++ (vx_atS RX0 51 "java/lang/IllegalStateException" ["java/lang/RuntimeException", "java/lang/Exception"]).filter goodWord)
def wsL_law0_r1 : List Cond := [Cond.classLink RL 32 RX0, Cond.instantiable RX0 15, Cond.initialized RX0, Cond.arrayClass .int, Cond.constant RL 142 (11184811), Cond.methodLink RL 137 yX0_init, Cond.instanceMethod yX0_init, Cond.code yX0_init cX0_init 1 none, Cond.methodLink RX0 1 objectInit, Cond.instanceMethod objectInit, Cond.code objectInit ⟨#[0xb1]⟩ 1 none, Cond.fieldLink RX0 9 "GamutChain" "bends" "[I", Cond.fieldLink RX0 13 "GamutChain" "leasts" "[I", Cond.fieldLink RX0 16 "GamutChain" "greatests" "[I", Cond.fieldLink RX0 19 "GamutChain" "ways" "[I", Cond.fieldLink RX0 22 "GamutChain" "links" "[I", Cond.fieldLink RX0 25 "GamutChain" "lengths" "[I", Cond.fieldLink RX0 28 "GamutChain" "kept" "[I", Cond.fieldLink RX0 31 "GamutChain" "trial" "[I", Cond.fieldLink RX0 34 "GamutChain" "colours" "[I", Cond.fieldLink RX0 37 "GamutChain" "amounts" "[I", Cond.fieldLink RX0 40 "GamutChain" "mixes" "[I", Cond.methodLink RL 138 yL_cell, Cond.static yL_cell]
def wsL_law0_r2 : List Cond := [Cond.initialized RL, Cond.code yL_cell cL_cell 2 (some .int), Cond.constantLong RL 7 (3266489917), Cond.methodLink RL 91 yL_some, Cond.static yL_some, Cond.code yL_some cL_some 2 (some .int), Cond.methodLink RL 9 yL_at, Cond.static yL_at, Cond.code yL_at cL_at 1 (some .int), Cond.methodLink RL 143 yX0_profile, Cond.instanceMethod yX0_profile, Cond.selects RX0 yX0_profile yX0_profile, Cond.code yX0_profile cX0_profile 5 (some .int), Cond.classLink RX0 47 "java/lang/IllegalStateException", Cond.initialized "java/lang/IllegalStateException", Cond.fieldLink RX0 43 "GamutChain" "profiles" "I", Cond.methodLink RX0 54 yX0_valueOfPlace, Cond.static yX0_valueOfPlace, Cond.code yX0_valueOfPlace cX0_valueOfPlace 1 (some .int), Cond.methodLink RX0 119 Lib.Math.min.name, Cond.static Lib.Math.min.name, Cond.initialized "java/lang/Math", Cond.code Lib.Math.min.name Lib.Math.min.code 2 (some .int), Cond.methodLink RX0 58 yX0_swap]
def wsL_law0_r3 : List Cond := [Cond.static yX0_swap, Cond.code yX0_swap cX0_swap 4 (some .int), Cond.methodLink RL 146 yX0_chain, Cond.instanceMethod yX0_chain, Cond.selects RX0 yX0_chain yX0_chain, Cond.code yX0_chain cX0_chain 2 (some .int), Cond.fieldLink RX0 94 "GamutChain" "chains" "I", Cond.methodLink RL 149 yL_profiles, Cond.static yL_profiles, Cond.code yL_profiles cL_profiles 14 (some .boolean), Cond.methodLink RL 94 yL_held, Cond.static yL_held, Cond.code yL_held cL_held 4 (some .int), Cond.methodLink RL 98 yL_value, Cond.static yL_value, Cond.code yL_value cL_value 1 (some .int), Cond.methodLink RL 101 yL_bends, Cond.static yL_bends, Cond.codeWith yL_bends cL_bends 6 (some .int) [(0, 9, 10, 37), (0, 9, 15, 39), (0, 9, 20, 41)], Cond.classLink RL 37 "java/lang/IndexOutOfBoundsException", Cond.classLink RL 39 "java/lang/IllegalArgumentException", Cond.classLink RL 41 "java/lang/IllegalStateException", Cond.methodLink RL 31 yX0_bend, Cond.instanceMethod yX0_bend]
def wsL_law0_r4 : List Cond := [Cond.selects RX0 yX0_bend yX0_bend, Cond.code yX0_bend cX0_bend 5 (some .int), Cond.classLink RX0 69 "java/lang/IndexOutOfBoundsException", Cond.initialized "java/lang/IndexOutOfBoundsException", Cond.methodLink RX0 62 yX0_needProfile, Cond.instanceMethod yX0_needProfile, Cond.selects RX0 yX0_needProfile yX0_needProfile, Cond.code yX0_needProfile cX0_needProfile 2 none, Cond.methodLink RX0 66 yX0_needBand, Cond.static yX0_needBand, Cond.code yX0_needBand cX0_needBand 1 none, Cond.methodLink RX0 74 yX0_needValue, Cond.static yX0_needValue, Cond.code yX0_needValue cX0_needValue 1 none, Cond.classLink RX0 80 "java/lang/IllegalArgumentException", Cond.initialized "java/lang/IllegalArgumentException", Cond.methodLink RX0 77 yX0_needFreeProfile, Cond.instanceMethod yX0_needFreeProfile, Cond.selects RX0 yX0_needFreeProfile yX0_needFreeProfile, Cond.code yX0_needFreeProfile cX0_needFreeProfile 2 none, Cond.methodLink RX0 175 yX0_held, Cond.instanceMethod yX0_held, Cond.selects RX0 yX0_held yX0_held, Cond.code yX0_held cX0_held 3 (some .int)]
def wsL_law0_r5 : List Cond := [Cond.fieldLink RX0 146 "GamutChain" "signedChains" "I", Cond.methodLink RX0 133 yX0_hasBit, Cond.static yX0_hasBit, Cond.code yX0_hasBit cX0_hasBit 2 (some .boolean), Cond.methodLink RX0 149 yX0_profilesOf, Cond.instanceMethod yX0_profilesOf, Cond.selects RX0 yX0_profilesOf yX0_profilesOf, Cond.code yX0_profilesOf cX0_profilesOf 5 (some .int), Cond.methodLink RX0 105 yX0_read, Cond.static yX0_read, Cond.code yX0_read cX0_read 2 (some .int), Cond.methodLink RL 105 yL_reaches, Cond.static yL_reaches, Cond.codeWith yL_reaches cL_reaches 6 (some .int) [(0, 9, 10, 37), (0, 9, 15, 39), (0, 9, 20, 41)], Cond.methodLink RL 43 yX0_reach, Cond.instanceMethod yX0_reach, Cond.selects RX0 yX0_reach yX0_reach, Cond.code yX0_reach cX0_reach 8 (some .int), Cond.methodLink RL 108 yL_sets, Cond.static yL_sets, Cond.codeWith yL_sets cL_sets 5 (some .int) [(0, 33, 34, 37), (0, 33, 39, 39), (0, 33, 44, 41)], Cond.methodLink RL 46 yX0_way, Cond.instanceMethod yX0_way, Cond.selects RX0 yX0_way yX0_way]
def wsL_law0_r6 : List Cond := [Cond.code yX0_way cX0_way 3 (some .int), Cond.methodLink RL 49 yX0_add, Cond.instanceMethod yX0_add, Cond.selects RX0 yX0_add yX0_add, Cond.code yX0_add cX0_add 4 (some .int), Cond.methodLink RX0 99 yX0_needChain, Cond.instanceMethod yX0_needChain, Cond.selects RX0 yX0_needChain yX0_needChain, Cond.code yX0_needChain cX0_needChain 2 none, Cond.methodLink RX0 102 yX0_needFreeChain, Cond.instanceMethod yX0_needFreeChain, Cond.selects RX0 yX0_needFreeChain yX0_needFreeChain, Cond.code yX0_needFreeChain cX0_needFreeChain 2 none, Cond.methodLink RL 52 yX0_join, Cond.instanceMethod yX0_join, Cond.selects RX0 yX0_join yX0_join, Cond.code yX0_join cX0_join 5 (some .int), Cond.fieldLink RX0 130 "GamutChain" "joinedChains" "I", Cond.methodLink RX0 116 yX0_tryJoining, Cond.instanceMethod yX0_tryJoining, Cond.selects RX0 yX0_tryJoining yX0_tryJoining, Cond.code yX0_tryJoining cX0_tryJoining 6 (some .int), Cond.methodLink RX0 189 Lib.Math.abs.name, Cond.static Lib.Math.abs.name]
def wsL_law0_r7 : List Cond := [Cond.code Lib.Math.abs.name Lib.Math.abs.code 1 (some .int), Cond.methodLink RX0 125 Lib.Math.max.name, Cond.static Lib.Math.max.name, Cond.code Lib.Math.max.name Lib.Math.max.code 2 (some .int), Cond.methodLink RX0 113 yX0_pass, Cond.instanceMethod yX0_pass, Cond.selects RX0 yX0_pass yX0_pass, Cond.code yX0_pass cX0_pass 7 (some .int), Cond.methodLink RX0 91 yX0_take, Cond.instanceMethod yX0_take, Cond.selects RX0 yX0_take yX0_take, Cond.code yX0_take cX0_take 8 (some .int), Cond.methodLink RX0 87 yX0_bent, Cond.instanceMethod yX0_bent, Cond.selects RX0 yX0_bent yX0_bent, Cond.code yX0_bent cX0_bent 4 (some .int), Cond.methodLink RX0 139 yX0_between, Cond.static yX0_between, Cond.code yX0_between cX0_between 7 (some .int), Cond.methodLink RX0 183 yJ9_floorDiv_7cf53, Cond.static yJ9_floorDiv_7cf53, Cond.initialized RJ9, Cond.code yJ9_floorDiv_7cf53 cJ9_floorDiv_7cf53 3 (some .int), Cond.methodLink RX0 186 yX0_fold]
def wsL_law0_r8 : List Cond := [Cond.static yX0_fold, Cond.code yX0_fold cX0_fold 3 (some .int), Cond.methodLink RL 153 yL_rows, Cond.static yL_rows, Cond.code yL_rows cL_rows 14 (some .boolean), Cond.methodLink RL 112 yL_chains, Cond.static yL_chains, Cond.codeWith yL_chains cL_chains 4 (some .int) [(0, 51, 52, 37), (0, 51, 56, 41)], Cond.methodLink RL 55 yX0_drop, Cond.instanceMethod yX0_drop, Cond.selects RX0 yX0_drop yX0_drop, Cond.code yX0_drop cX0_drop 3 (some .int), Cond.methodLink RL 58 yX0_sign, Cond.instanceMethod yX0_sign, Cond.selects RX0 yX0_sign yX0_sign, Cond.code yX0_sign cX0_sign 2 (some .boolean), Cond.methodLink RL 62 yX0_gap, Cond.instanceMethod yX0_gap, Cond.selects RX0 yX0_gap yX0_gap, Cond.code yX0_gap cX0_gap 2 (some .int), Cond.methodLink RL 65 yX0_greyGap, Cond.instanceMethod yX0_greyGap, Cond.selects RX0 yX0_greyGap yX0_greyGap, Cond.code yX0_greyGap cX0_greyGap 8 (some .int)]
def wsL_law0_r9 : List Cond := [Cond.methodLink RL 116 yL_gap, Cond.static yL_gap, Cond.code yL_gap cL_gap 10 (some .int), Cond.methodLink RL 23 yL_through, Cond.static yL_through, Cond.code yL_through cL_through 9 (some .int), Cond.methodLink RL 19 yL_taken, Cond.static yL_taken, Cond.code yL_taken cL_taken 11 (some .int), Cond.methodLink RL 15 yL_between, Cond.static yL_between, Cond.code yL_between cL_between 7 (some .int), Cond.methodLink RL 27 yL_apart, Cond.static yL_apart, Cond.code yL_apart cL_apart 2 (some .int), Cond.methodLink RL 157 yL_colours, Cond.static yL_colours, Cond.code yL_colours cL_colours 10 (some .boolean), Cond.methodLink RL 119 yL_paints, Cond.static yL_paints, Cond.codeWith yL_paints cL_paints 6 (some .int) [(0, 39, 40, 37), (0, 39, 45, 39)], Cond.methodLink RL 79 yX0_paint, Cond.instanceMethod yX0_paint, Cond.selects RX0 yX0_paint yX0_paint]
def wsL_law0_r10 : List Cond := [Cond.code yX0_paint cX0_paint 4 (some .int), Cond.methodLink RX0 152 yX0_needPixel, Cond.static yX0_needPixel, Cond.code yX0_needPixel cX0_needPixel 1 none, Cond.methodLink RL 82 yX0_spot, Cond.instanceMethod yX0_spot, Cond.selects RX0 yX0_spot yX0_spot, Cond.code yX0_spot cX0_spot 4 (some .int), Cond.methodLink RX0 155 yX0_needInk, Cond.static yX0_needInk, Cond.code yX0_needInk cX0_needInk 1 none, Cond.methodLink RL 85 yX0_mix, Cond.instanceMethod yX0_mix, Cond.selects RX0 yX0_mix yX0_mix, Cond.code yX0_mix cX0_mix 4 (some .int), Cond.methodLink RL 161 yL_asks, Cond.static yL_asks, Cond.code yL_asks cL_asks 20 (some .boolean), Cond.methodLink RL 122 yL_of, Cond.static yL_of, Cond.codeWith yL_of cL_of 6 (some .int) [(0, 55, 56, 37), (0, 55, 61, 39), (0, 55, 66, 41)], Cond.methodLink RL 68 yX0_curve, Cond.instanceMethod yX0_curve, Cond.selects RX0 yX0_curve yX0_curve]
def wsL_law0_r11 : List Cond := [Cond.code yX0_curve cX0_curve 4 (some .int), Cond.methodLink RL 72 yX0_taken, Cond.instanceMethod yX0_taken, Cond.selects RX0 yX0_taken yX0_taken, Cond.code yX0_taken cX0_taken 4 (some .int), Cond.methodLink RL 74 yX0_through, Cond.instanceMethod yX0_through, Cond.selects RX0 yX0_through yX0_through, Cond.code yX0_through cX0_through 4 (some .int), Cond.methodLink RL 76 yX0_joined, Cond.instanceMethod yX0_joined, Cond.selects RX0 yX0_joined yX0_joined, Cond.code yX0_joined cX0_joined 4 (some .int), Cond.methodLink RL 125 yX0_stale, Cond.instanceMethod yX0_stale, Cond.selects RX0 yX0_stale yX0_stale, Cond.code yX0_stale cX0_stale 3 (some .int), Cond.methodLink RX0 142 yX0_differsFromKept, Cond.instanceMethod yX0_differsFromKept, Cond.selects RX0 yX0_differsFromKept yX0_differsFromKept, Cond.code yX0_differsFromKept cX0_differsFromKept 5 (some .boolean), Cond.methodLink RL 129 yX0_held, Cond.methodLink RL 131 yL_shows, Cond.static yL_shows]
def wsL_law0_r12 : List Cond := [Cond.codeWith yL_shows cL_shows 6 (some .int) [(0, 9, 10, 37), (0, 9, 15, 39)], Cond.methodLink RL 88 yX0_shown, Cond.instanceMethod yX0_shown, Cond.selects RX0 yX0_shown yX0_shown, Cond.code yX0_shown cX0_shown 5 (some .int), Cond.methodLink RX0 160 yX0_inked, Cond.instanceMethod yX0_inked, Cond.selects RX0 yX0_inked yX0_inked, Cond.code yX0_inked cX0_inked 7 (some .int), Cond.methodLink RL 134 yL_greys, Cond.static yL_greys, Cond.code yL_greys cL_greys 11 (some .int)]
def wsL_law0 : List Cond := (wsL_law0_r1 ++ (wsL_law0_r2 ++ (wsL_law0_r3 ++ (wsL_law0_r4 ++ (wsL_law0_r5 ++ (wsL_law0_r6 ++ (wsL_law0_r7 ++ (wsL_law0_r8 ++ (wsL_law0_r9 ++ (wsL_law0_r10 ++ (wsL_law0_r11 ++ wsL_law0_r12))))))))))) ++ wsX00 ++ ([] : List Cond)
def wsL_law : List Cond := wsL_law0 ++ (vx_atS RX0 51 "java/lang/IllegalStateException" ["java/lang/RuntimeException", "java/lang/Exception"]).filter goodWord ++ (vx_atS RX0 73 "java/lang/IndexOutOfBoundsException" ["java/lang/RuntimeException", "java/lang/Exception"]).filter goodWord ++ (vx_atS RX0 84 "java/lang/IllegalArgumentException" ["java/lang/RuntimeException", "java/lang/Exception"]).filter goodWord
abbrev vwCl : List vw_C := [(RX0, TX0, 15)]
end
section
theorem dJ9_floorDiv_7cf53_0 : decode cJ9_floorDiv_7cf53 0 = .ok (.iload_n 0, 1) := by decide +kernel
theorem dJ9_floorDiv_7cf53_1 : decode cJ9_floorDiv_7cf53 1 = .ok (.iload_n 1, 1) := by decide +kernel
theorem dJ9_floorDiv_7cf53_2 : decode cJ9_floorDiv_7cf53 2 = .ok (.idiv, 1) := by decide +kernel
theorem dJ9_floorDiv_7cf53_3 : decode cJ9_floorDiv_7cf53 3 = .ok (.istore_n 2, 1) := by decide +kernel
theorem dJ9_floorDiv_7cf53_4 : decode cJ9_floorDiv_7cf53 4 = .ok (.iload_n 0, 1) := by decide +kernel
theorem dJ9_floorDiv_7cf53_5 : decode cJ9_floorDiv_7cf53 5 = .ok (.iload_n 1, 1) := by decide +kernel
theorem dJ9_floorDiv_7cf53_6 : decode cJ9_floorDiv_7cf53 6 = .ok (.ixor, 1) := by decide +kernel
theorem dJ9_floorDiv_7cf53_7 : decode cJ9_floorDiv_7cf53 7 = .ok (.ifCond .ge 14, 3) := by decide +kernel
theorem dJ9_floorDiv_7cf53_10 : decode cJ9_floorDiv_7cf53 10 = .ok (.iload_n 2, 1) := by decide +kernel
theorem dJ9_floorDiv_7cf53_11 : decode cJ9_floorDiv_7cf53 11 = .ok (.iload_n 1, 1) := by decide +kernel
theorem dJ9_floorDiv_7cf53_12 : decode cJ9_floorDiv_7cf53 12 = .ok (.imul, 1) := by decide +kernel
theorem dJ9_floorDiv_7cf53_13 : decode cJ9_floorDiv_7cf53 13 = .ok (.iload_n 0, 1) := by decide +kernel
theorem dJ9_floorDiv_7cf53_14 : decode cJ9_floorDiv_7cf53 14 = .ok (.if_icmp .eq 7, 3) := by decide +kernel
theorem dJ9_floorDiv_7cf53_17 : decode cJ9_floorDiv_7cf53 17 = .ok (.iload_n 2, 1) := by decide +kernel
theorem dJ9_floorDiv_7cf53_18 : decode cJ9_floorDiv_7cf53 18 = .ok (.iconst 1, 1) := by decide +kernel
theorem dJ9_floorDiv_7cf53_19 : decode cJ9_floorDiv_7cf53 19 = .ok (.isub, 1) := by decide +kernel
theorem dJ9_floorDiv_7cf53_20 : decode cJ9_floorDiv_7cf53 20 = .ok (.ireturn, 1) := by decide +kernel
theorem dJ9_floorDiv_7cf53_21 : decode cJ9_floorDiv_7cf53 21 = .ok (.iload_n 2, 1) := by decide +kernel
theorem dJ9_floorDiv_7cf53_22 : decode cJ9_floorDiv_7cf53 22 = .ok (.ireturn, 1) := by decide +kernel
theorem dJ9_abs_0f7a4_0 : decode cJ9_abs_0f7a4 0 = .ok (.iload_n 0, 1) := by decide +kernel
theorem dJ9_abs_0f7a4_1 : decode cJ9_abs_0f7a4 1 = .ok (.ifCond .ge 8, 3) := by decide +kernel
theorem dJ9_abs_0f7a4_4 : decode cJ9_abs_0f7a4 4 = .ok (.iload_n 0, 1) := by decide +kernel
theorem dJ9_abs_0f7a4_5 : decode cJ9_abs_0f7a4 5 = .ok (.ineg, 1) := by decide +kernel
theorem dJ9_abs_0f7a4_6 : decode cJ9_abs_0f7a4 6 = .ok (.goto 4, 3) := by decide +kernel
theorem dJ9_abs_0f7a4_9 : decode cJ9_abs_0f7a4 9 = .ok (.iload_n 0, 1) := by decide +kernel
theorem dJ9_abs_0f7a4_10 : decode cJ9_abs_0f7a4 10 = .ok (.ireturn, 1) := by decide +kernel
theorem dJ9_max_7cf53_0 : decode cJ9_max_7cf53 0 = .ok (.iload_n 0, 1) := by decide +kernel
theorem dJ9_max_7cf53_1 : decode cJ9_max_7cf53 1 = .ok (.iload_n 1, 1) := by decide +kernel
theorem dJ9_max_7cf53_2 : decode cJ9_max_7cf53 2 = .ok (.if_icmp .lt 7, 3) := by decide +kernel
theorem dJ9_max_7cf53_5 : decode cJ9_max_7cf53 5 = .ok (.iload_n 0, 1) := by decide +kernel
theorem dJ9_max_7cf53_6 : decode cJ9_max_7cf53 6 = .ok (.goto 4, 3) := by decide +kernel
theorem dJ9_max_7cf53_9 : decode cJ9_max_7cf53 9 = .ok (.iload_n 1, 1) := by decide +kernel
theorem dJ9_max_7cf53_10 : decode cJ9_max_7cf53 10 = .ok (.ireturn, 1) := by decide +kernel
theorem dJ9_min_7cf53_0 : decode cJ9_min_7cf53 0 = .ok (.iload_n 0, 1) := by decide +kernel
theorem dJ9_min_7cf53_1 : decode cJ9_min_7cf53 1 = .ok (.iload_n 1, 1) := by decide +kernel
theorem dJ9_min_7cf53_2 : decode cJ9_min_7cf53 2 = .ok (.if_icmp .gt 7, 3) := by decide +kernel
theorem dJ9_min_7cf53_5 : decode cJ9_min_7cf53 5 = .ok (.iload_n 0, 1) := by decide +kernel
theorem dJ9_min_7cf53_6 : decode cJ9_min_7cf53 6 = .ok (.goto 4, 3) := by decide +kernel
theorem dJ9_min_7cf53_9 : decode cJ9_min_7cf53 9 = .ok (.iload_n 1, 1) := by decide +kernel
theorem dJ9_min_7cf53_10 : decode cJ9_min_7cf53 10 = .ok (.ireturn, 1) := by decide +kernel
end
section
theorem dX0_init_0 : decode cX0_init 0 = .ok (.aload_n 0, 1) := by decide +kernel
theorem dX0_init_1 : decode cX0_init 1 = .ok (.invokespecial 1, 3) := by decide +kernel
theorem dX0_init_4 : decode cX0_init 4 = .ok (.aload_n 0, 1) := by decide +kernel
theorem dX0_init_5 : decode cX0_init 5 = .ok (.bipush 120, 2) := by decide +kernel
theorem dX0_init_7 : decode cX0_init 7 = .ok (.newarray .int, 2) := by decide +kernel
theorem dX0_init_9 : decode cX0_init 9 = .ok (.putfield 9, 3) := by decide +kernel
theorem dX0_init_12 : decode cX0_init 12 = .ok (.aload_n 0, 1) := by decide +kernel
theorem dX0_init_13 : decode cX0_init 13 = .ok (.bipush 24, 2) := by decide +kernel
theorem dX0_init_15 : decode cX0_init 15 = .ok (.newarray .int, 2) := by decide +kernel
theorem dX0_init_17 : decode cX0_init 17 = .ok (.putfield 13, 3) := by decide +kernel
theorem dX0_init_20 : decode cX0_init 20 = .ok (.aload_n 0, 1) := by decide +kernel
theorem dX0_init_21 : decode cX0_init 21 = .ok (.bipush 24, 2) := by decide +kernel
theorem dX0_init_23 : decode cX0_init 23 = .ok (.newarray .int, 2) := by decide +kernel
theorem dX0_init_25 : decode cX0_init 25 = .ok (.putfield 16, 3) := by decide +kernel
theorem dX0_init_28 : decode cX0_init 28 = .ok (.aload_n 0, 1) := by decide +kernel
theorem dX0_init_29 : decode cX0_init 29 = .ok (.bipush 8, 2) := by decide +kernel
theorem dX0_init_31 : decode cX0_init 31 = .ok (.newarray .int, 2) := by decide +kernel
theorem dX0_init_33 : decode cX0_init 33 = .ok (.putfield 19, 3) := by decide +kernel
theorem dX0_init_36 : decode cX0_init 36 = .ok (.aload_n 0, 1) := by decide +kernel
theorem dX0_init_37 : decode cX0_init 37 = .ok (.bipush 36, 2) := by decide +kernel
theorem dX0_init_39 : decode cX0_init 39 = .ok (.newarray .int, 2) := by decide +kernel
theorem dX0_init_41 : decode cX0_init 41 = .ok (.putfield 22, 3) := by decide +kernel
theorem dX0_init_44 : decode cX0_init 44 = .ok (.aload_n 0, 1) := by decide +kernel
theorem dX0_init_45 : decode cX0_init 45 = .ok (.bipush 6, 2) := by decide +kernel
theorem dX0_init_47 : decode cX0_init 47 = .ok (.newarray .int, 2) := by decide +kernel
theorem dX0_init_49 : decode cX0_init 49 = .ok (.putfield 25, 3) := by decide +kernel
theorem dX0_init_52 : decode cX0_init 52 = .ok (.aload_n 0, 1) := by decide +kernel
theorem dX0_init_53 : decode cX0_init 53 = .ok (.bipush 90, 2) := by decide +kernel
theorem dX0_init_55 : decode cX0_init 55 = .ok (.newarray .int, 2) := by decide +kernel
theorem dX0_init_57 : decode cX0_init 57 = .ok (.putfield 28, 3) := by decide +kernel
theorem dX0_init_60 : decode cX0_init 60 = .ok (.aload_n 0, 1) := by decide +kernel
theorem dX0_init_61 : decode cX0_init 61 = .ok (.bipush 15, 2) := by decide +kernel
theorem dX0_init_63 : decode cX0_init 63 = .ok (.newarray .int, 2) := by decide +kernel
theorem dX0_init_65 : decode cX0_init 65 = .ok (.putfield 31, 3) := by decide +kernel
theorem dX0_init_68 : decode cX0_init 68 = .ok (.aload_n 0, 1) := by decide +kernel
theorem dX0_init_69 : decode cX0_init 69 = .ok (.bipush 18, 2) := by decide +kernel
theorem dX0_init_71 : decode cX0_init 71 = .ok (.newarray .int, 2) := by decide +kernel
theorem dX0_init_73 : decode cX0_init 73 = .ok (.putfield 34, 3) := by decide +kernel
theorem dX0_init_76 : decode cX0_init 76 = .ok (.aload_n 0, 1) := by decide +kernel
theorem dX0_init_77 : decode cX0_init 77 = .ok (.bipush 18, 2) := by decide +kernel
theorem dX0_init_79 : decode cX0_init 79 = .ok (.newarray .int, 2) := by decide +kernel
theorem dX0_init_81 : decode cX0_init 81 = .ok (.putfield 37, 3) := by decide +kernel
theorem dX0_init_84 : decode cX0_init 84 = .ok (.aload_n 0, 1) := by decide +kernel
theorem dX0_init_85 : decode cX0_init 85 = .ok (.bipush 9, 2) := by decide +kernel
theorem dX0_init_87 : decode cX0_init 87 = .ok (.newarray .int, 2) := by decide +kernel
theorem dX0_init_89 : decode cX0_init 89 = .ok (.putfield 40, 3) := by decide +kernel
theorem dX0_init_92 : decode cX0_init 92 = .ok (.return_, 1) := by decide +kernel
set_option maxRecDepth 20000 in
theorem ggX0_profile_X0_valueOfPlace : GoodIn wsX0_profile wsX0_valueOfPlace := goodIn_r _ [11, 12, 13, 14, 15] (by decide +kernel) (by decide +kernel)
set_option maxRecDepth 20000 in
theorem gX0_profile_X0_valueOfPlace : GoodIn wsX0_profile (va_wsS RX0 54 yX0_valueOfPlace wsX0_valueOfPlace) := goodIn_app (goodIn_of _ (by decide +kernel)) ggX0_profile_X0_valueOfPlace
set_option maxRecDepth 20000 in
theorem ggX0_profile_X0_swap : GoodIn wsX0_profile wsX0_swap := goodIn_r _ [18] (by decide +kernel) (by decide +kernel)
set_option maxRecDepth 20000 in
theorem gX0_profile_X0_swap : GoodIn wsX0_profile (va_wsS RX0 58 yX0_swap wsX0_swap) := goodIn_app (goodIn_of _ (by decide +kernel)) ggX0_profile_X0_swap
theorem dX0_profile_0 : decode cX0_profile 0 = .ok (.aload_n 0, 1) := by decide +kernel
theorem dX0_profile_1 : decode cX0_profile 1 = .ok (.getfield 43, 3) := by decide +kernel
theorem dX0_profile_4 : decode cX0_profile 4 = .ok (.bipush 8, 2) := by decide +kernel
theorem dX0_profile_6 : decode cX0_profile 6 = .ok (.if_icmp .lt 13, 3) := by decide +kernel
theorem dX0_profile_9 : decode cX0_profile 9 = .ok (.new 47, 3) := by decide +kernel
theorem dX0_profile_12 : decode cX0_profile 12 = .ok (.dup, 1) := by decide +kernel
theorem dX0_profile_13 : decode cX0_profile 13 = .ok (.ldc 49, 2) := by decide +kernel
theorem dX0_profile_15 : decode cX0_profile 15 = .ok (.invokespecial 51, 3) := by decide +kernel
theorem dX0_profile_18 : decode cX0_profile 18 = .ok (.athrow, 1) := by decide +kernel
theorem dX0_profile_19 : decode cX0_profile 19 = .ok (.aload_n 0, 1) := by decide +kernel
theorem dX0_profile_20 : decode cX0_profile 20 = .ok (.getfield 43, 3) := by decide +kernel
theorem dX0_profile_23 : decode cX0_profile 23 = .ok (.istore_n 1, 1) := by decide +kernel
theorem dX0_profile_24 : decode cX0_profile 24 = .ok (.iconst 0, 1) := by decide +kernel
theorem dX0_profile_25 : decode cX0_profile 25 = .ok (.istore_n 2, 1) := by decide +kernel
theorem dX0_profile_26 : decode cX0_profile 26 = .ok (.iload_n 2, 1) := by decide +kernel
theorem dX0_profile_27 : decode cX0_profile 27 = .ok (.iconst 3, 1) := by decide +kernel
theorem dX0_profile_28 : decode cX0_profile 28 = .ok (.if_icmp .ge 71, 3) := by decide +kernel
theorem dX0_profile_31 : decode cX0_profile 31 = .ok (.iload_n 1, 1) := by decide +kernel
theorem dX0_profile_32 : decode cX0_profile 32 = .ok (.iconst 3, 1) := by decide +kernel
theorem dX0_profile_33 : decode cX0_profile 33 = .ok (.imul, 1) := by decide +kernel
theorem dX0_profile_34 : decode cX0_profile 34 = .ok (.iload_n 2, 1) := by decide +kernel
theorem dX0_profile_35 : decode cX0_profile 35 = .ok (.iadd, 1) := by decide +kernel
theorem dX0_profile_36 : decode cX0_profile 36 = .ok (.istore_n 3, 1) := by decide +kernel
theorem dX0_profile_37 : decode cX0_profile 37 = .ok (.iconst 0, 1) := by decide +kernel
theorem dX0_profile_38 : decode cX0_profile 38 = .ok (.istore 4, 2) := by decide +kernel
theorem dX0_profile_40 : decode cX0_profile 40 = .ok (.iload 4, 2) := by decide +kernel
theorem dX0_profile_42 : decode cX0_profile 42 = .ok (.iconst 5, 1) := by decide +kernel
theorem dX0_profile_43 : decode cX0_profile 43 = .ok (.if_icmp .ge 28, 3) := by decide +kernel
theorem dX0_profile_46 : decode cX0_profile 46 = .ok (.aload_n 0, 1) := by decide +kernel
theorem dX0_profile_47 : decode cX0_profile 47 = .ok (.getfield 9, 3) := by decide +kernel
theorem dX0_profile_50 : decode cX0_profile 50 = .ok (.iload_n 3, 1) := by decide +kernel
theorem dX0_profile_51 : decode cX0_profile 51 = .ok (.iconst 5, 1) := by decide +kernel
theorem dX0_profile_52 : decode cX0_profile 52 = .ok (.imul, 1) := by decide +kernel
theorem dX0_profile_53 : decode cX0_profile 53 = .ok (.iload 4, 2) := by decide +kernel
theorem dX0_profile_55 : decode cX0_profile 55 = .ok (.iadd, 1) := by decide +kernel
theorem dX0_profile_56 : decode cX0_profile 56 = .ok (.iload 4, 2) := by decide +kernel
theorem dX0_profile_58 : decode cX0_profile 58 = .ok (.invokestatic 54, 3) := by decide +kernel
theorem dX0_profile_61 : decode cX0_profile 61 = .ok (.invokestatic 58, 3) := by decide +kernel
theorem dX0_profile_64 : decode cX0_profile 64 = .ok (.pop, 1) := by decide +kernel
theorem dX0_profile_65 : decode cX0_profile 65 = .ok (.iinc 4 1, 3) := by decide +kernel
theorem dX0_profile_68 : decode cX0_profile 68 = .ok (.goto (-28), 3) := by decide +kernel
theorem dX0_profile_71 : decode cX0_profile 71 = .ok (.aload_n 0, 1) := by decide +kernel
theorem dX0_profile_72 : decode cX0_profile 72 = .ok (.getfield 13, 3) := by decide +kernel
theorem dX0_profile_75 : decode cX0_profile 75 = .ok (.iload_n 3, 1) := by decide +kernel
theorem dX0_profile_76 : decode cX0_profile 76 = .ok (.iconst 0, 1) := by decide +kernel
theorem dX0_profile_77 : decode cX0_profile 77 = .ok (.invokestatic 58, 3) := by decide +kernel
theorem dX0_profile_80 : decode cX0_profile 80 = .ok (.pop, 1) := by decide +kernel
theorem dX0_profile_81 : decode cX0_profile 81 = .ok (.aload_n 0, 1) := by decide +kernel
theorem dX0_profile_82 : decode cX0_profile 82 = .ok (.getfield 16, 3) := by decide +kernel
theorem dX0_profile_85 : decode cX0_profile 85 = .ok (.iload_n 3, 1) := by decide +kernel
theorem dX0_profile_86 : decode cX0_profile 86 = .ok (.sipush 255, 3) := by decide +kernel
theorem dX0_profile_89 : decode cX0_profile 89 = .ok (.invokestatic 58, 3) := by decide +kernel
theorem dX0_profile_92 : decode cX0_profile 92 = .ok (.pop, 1) := by decide +kernel
theorem dX0_profile_93 : decode cX0_profile 93 = .ok (.iinc 2 1, 3) := by decide +kernel
theorem dX0_profile_96 : decode cX0_profile 96 = .ok (.goto (-70), 3) := by decide +kernel
theorem dX0_profile_99 : decode cX0_profile 99 = .ok (.aload_n 0, 1) := by decide +kernel
theorem dX0_profile_100 : decode cX0_profile 100 = .ok (.getfield 19, 3) := by decide +kernel
theorem dX0_profile_103 : decode cX0_profile 103 = .ok (.iload_n 1, 1) := by decide +kernel
theorem dX0_profile_104 : decode cX0_profile 104 = .ok (.iconst 0, 1) := by decide +kernel
theorem dX0_profile_105 : decode cX0_profile 105 = .ok (.invokestatic 58, 3) := by decide +kernel
theorem dX0_profile_108 : decode cX0_profile 108 = .ok (.pop, 1) := by decide +kernel
theorem dX0_profile_109 : decode cX0_profile 109 = .ok (.aload_n 0, 1) := by decide +kernel
theorem dX0_profile_110 : decode cX0_profile 110 = .ok (.dup, 1) := by decide +kernel
theorem dX0_profile_111 : decode cX0_profile 111 = .ok (.getfield 43, 3) := by decide +kernel
theorem dX0_profile_114 : decode cX0_profile 114 = .ok (.iconst 1, 1) := by decide +kernel
theorem dX0_profile_115 : decode cX0_profile 115 = .ok (.iadd, 1) := by decide +kernel
theorem dX0_profile_116 : decode cX0_profile 116 = .ok (.putfield 43, 3) := by decide +kernel
theorem dX0_profile_119 : decode cX0_profile 119 = .ok (.iload_n 1, 1) := by decide +kernel
theorem dX0_profile_120 : decode cX0_profile 120 = .ok (.ireturn, 1) := by decide +kernel
set_option maxRecDepth 20000 in
theorem ggX0_bend_X0_needProfile : GoodIn wsX0_bend wsX0_needProfile := goodIn_ca (goodIn_r _ [8, 1, 2, 9, 44, 45, 46, 47, 48, 49, 50, 51, 52, 53, 54, 55, 56, 57, 58] (by decide +kernel) (by decide +kernel)) (goodIn_sub (fun _ h => List.mem_cons_of_mem _ (List.mem_append_left _ (List.mem_append_left _ (List.mem_append_right _ h)))) (by decide +kernel))
set_option maxRecDepth 20000 in
theorem gX0_bend_X0_needProfile : GoodIn wsX0_bend (wsV RX0 62 RX0 yX0_needProfile wsX0_needProfile) := goodIn_app (goodIn_of _ (by decide +kernel)) ggX0_bend_X0_needProfile
set_option maxRecDepth 20000 in
theorem ggX0_bend_X0_needBand : GoodIn wsX0_bend wsX0_needBand := goodIn_ca (goodIn_r _ [12, 1, 2] (by decide +kernel) (by decide +kernel)) (goodIn_sub (fun _ h => List.mem_cons_of_mem _ (List.mem_append_left _ (List.mem_append_left _ (List.mem_append_right _ h)))) (by decide +kernel))
set_option maxRecDepth 20000 in
theorem gX0_bend_X0_needBand : GoodIn wsX0_bend (va_wsS RX0 66 yX0_needBand wsX0_needBand) := goodIn_app (goodIn_of _ (by decide +kernel)) ggX0_bend_X0_needBand
set_option maxRecDepth 20000 in
theorem ggX0_bend_X0_needValue : GoodIn wsX0_bend wsX0_needValue := goodIn_ca (goodIn_r _ [15, 16, 17] (by decide +kernel) (by decide +kernel)) (goodIn_sub (fun _ h => List.mem_cons_of_mem _ (List.mem_append_left _ (List.mem_append_right _ h))) (by decide +kernel))
set_option maxRecDepth 20000 in
theorem gX0_bend_X0_needValue : GoodIn wsX0_bend (va_wsS RX0 74 yX0_needValue wsX0_needValue) := goodIn_app (goodIn_of _ (by decide +kernel)) ggX0_bend_X0_needValue
set_option maxRecDepth 20000 in
theorem ggX0_bend_X0_needFreeProfile : GoodIn wsX0_bend wsX0_needFreeProfile := goodIn_ca (goodIn_r _ [21, 22, 23, 24, 25, 26, 7, 27, 28, 29, 30, 31, 32, 33, 34, 35, 36, 37, 38, 39, 40, 44, 45, 46, 47, 48, 49, 50, 51, 52, 53, 54, 55, 56, 57, 58] (by decide +kernel) (by decide +kernel)) (goodIn_sub (fun _ h => List.mem_cons_of_mem _ (List.mem_append_right _ h)) (by decide +kernel))
set_option maxRecDepth 20000 in
theorem gX0_bend_X0_needFreeProfile : GoodIn wsX0_bend (wsV RX0 77 RX0 yX0_needFreeProfile wsX0_needFreeProfile) := goodIn_app (goodIn_of _ (by decide +kernel)) ggX0_bend_X0_needFreeProfile
set_option maxRecDepth 20000 in
theorem ggX0_bend_X0_swap : GoodIn wsX0_bend wsX0_swap := goodIn_r _ [43] (by decide +kernel) (by decide +kernel)
set_option maxRecDepth 20000 in
theorem gX0_bend_X0_swap : GoodIn wsX0_bend (va_wsS RX0 58 yX0_swap wsX0_swap) := goodIn_app (goodIn_of _ (by decide +kernel)) ggX0_bend_X0_swap
theorem dX0_bend_0 : decode cX0_bend 0 = .ok (.aload_n 0, 1) := by decide +kernel
theorem dX0_bend_1 : decode cX0_bend 1 = .ok (.iload_n 1, 1) := by decide +kernel
theorem dX0_bend_2 : decode cX0_bend 2 = .ok (.invokevirtual 62, 3) := by decide +kernel
theorem dX0_bend_5 : decode cX0_bend 5 = .ok (.iload_n 2, 1) := by decide +kernel
theorem dX0_bend_6 : decode cX0_bend 6 = .ok (.invokestatic 66, 3) := by decide +kernel
theorem dX0_bend_9 : decode cX0_bend 9 = .ok (.iload_n 3, 1) := by decide +kernel
theorem dX0_bend_10 : decode cX0_bend 10 = .ok (.ifCond .lt 8, 3) := by decide +kernel
theorem dX0_bend_13 : decode cX0_bend 13 = .ok (.iload_n 3, 1) := by decide +kernel
theorem dX0_bend_14 : decode cX0_bend 14 = .ok (.iconst 5, 1) := by decide +kernel
theorem dX0_bend_15 : decode cX0_bend 15 = .ok (.if_icmp .lt 13, 3) := by decide +kernel
theorem dX0_bend_18 : decode cX0_bend 18 = .ok (.new 69, 3) := by decide +kernel
theorem dX0_bend_21 : decode cX0_bend 21 = .ok (.dup, 1) := by decide +kernel
theorem dX0_bend_22 : decode cX0_bend 22 = .ok (.ldc 71, 2) := by decide +kernel
theorem dX0_bend_24 : decode cX0_bend 24 = .ok (.invokespecial 73, 3) := by decide +kernel
theorem dX0_bend_27 : decode cX0_bend 27 = .ok (.athrow, 1) := by decide +kernel
theorem dX0_bend_28 : decode cX0_bend 28 = .ok (.iload 4, 2) := by decide +kernel
theorem dX0_bend_30 : decode cX0_bend 30 = .ok (.invokestatic 74, 3) := by decide +kernel
theorem dX0_bend_33 : decode cX0_bend 33 = .ok (.aload_n 0, 1) := by decide +kernel
theorem dX0_bend_34 : decode cX0_bend 34 = .ok (.iload_n 1, 1) := by decide +kernel
theorem dX0_bend_35 : decode cX0_bend 35 = .ok (.invokevirtual 77, 3) := by decide +kernel
theorem dX0_bend_38 : decode cX0_bend 38 = .ok (.aload_n 0, 1) := by decide +kernel
theorem dX0_bend_39 : decode cX0_bend 39 = .ok (.getfield 9, 3) := by decide +kernel
theorem dX0_bend_42 : decode cX0_bend 42 = .ok (.iload_n 1, 1) := by decide +kernel
theorem dX0_bend_43 : decode cX0_bend 43 = .ok (.iconst 3, 1) := by decide +kernel
theorem dX0_bend_44 : decode cX0_bend 44 = .ok (.imul, 1) := by decide +kernel
theorem dX0_bend_45 : decode cX0_bend 45 = .ok (.iload_n 2, 1) := by decide +kernel
theorem dX0_bend_46 : decode cX0_bend 46 = .ok (.iadd, 1) := by decide +kernel
theorem dX0_bend_47 : decode cX0_bend 47 = .ok (.iconst 5, 1) := by decide +kernel
theorem dX0_bend_48 : decode cX0_bend 48 = .ok (.imul, 1) := by decide +kernel
theorem dX0_bend_49 : decode cX0_bend 49 = .ok (.iload_n 3, 1) := by decide +kernel
theorem dX0_bend_50 : decode cX0_bend 50 = .ok (.iadd, 1) := by decide +kernel
theorem dX0_bend_51 : decode cX0_bend 51 = .ok (.iload 4, 2) := by decide +kernel
theorem dX0_bend_53 : decode cX0_bend 53 = .ok (.invokestatic 58, 3) := by decide +kernel
theorem dX0_bend_56 : decode cX0_bend 56 = .ok (.ireturn, 1) := by decide +kernel
set_option maxRecDepth 20000 in
theorem ggX0_reach_X0_needProfile : GoodIn wsX0_reach wsX0_needProfile := goodIn_ca (goodIn_r _ [9, 10, 11, 12, 45, 46, 47, 48, 49, 50, 51, 52, 53, 54, 55, 56, 57, 58, 59] (by decide +kernel) (by decide +kernel)) (goodIn_sub (fun _ h => List.mem_cons_of_mem _ (List.mem_append_left _ (List.mem_append_right _ h))) (by decide +kernel))
set_option maxRecDepth 20000 in
theorem gX0_reach_X0_needProfile : GoodIn wsX0_reach (wsV RX0 62 RX0 yX0_needProfile wsX0_needProfile) := goodIn_app (goodIn_of _ (by decide +kernel)) ggX0_reach_X0_needProfile
set_option maxRecDepth 20000 in
theorem ggX0_reach_X0_needBand : GoodIn wsX0_reach wsX0_needBand := goodIn_ca (goodIn_r _ [15, 10, 11] (by decide +kernel) (by decide +kernel)) (goodIn_sub (fun _ h => List.mem_cons_of_mem _ (List.mem_append_left _ (List.mem_append_right _ h))) (by decide +kernel))
set_option maxRecDepth 20000 in
theorem gX0_reach_X0_needBand : GoodIn wsX0_reach (va_wsS RX0 66 yX0_needBand wsX0_needBand) := goodIn_app (goodIn_of _ (by decide +kernel)) ggX0_reach_X0_needBand
set_option maxRecDepth 20000 in
theorem ggX0_reach_X0_needValue : GoodIn wsX0_reach wsX0_needValue := goodIn_ca (goodIn_r _ [18, 1, 2] (by decide +kernel) (by decide +kernel)) (goodIn_sub (fun _ h => List.mem_cons_of_mem _ (List.mem_append_left _ (List.mem_append_left _ (List.mem_append_right _ h)))) (by decide +kernel))
set_option maxRecDepth 20000 in
theorem gX0_reach_X0_needValue : GoodIn wsX0_reach (va_wsS RX0 74 yX0_needValue wsX0_needValue) := goodIn_app (goodIn_of _ (by decide +kernel)) ggX0_reach_X0_needValue
set_option maxRecDepth 20000 in
theorem ggX0_reach_X0_needFreeProfile : GoodIn wsX0_reach wsX0_needFreeProfile := goodIn_ca (goodIn_r _ [22, 23, 24, 25, 26, 27, 8, 28, 29, 30, 31, 32, 33, 34, 35, 36, 37, 38, 39, 40, 41, 45, 46, 47, 48, 49, 50, 51, 52, 53, 54, 55, 56, 57, 58, 59] (by decide +kernel) (by decide +kernel)) (goodIn_sub (fun _ h => List.mem_cons_of_mem _ (List.mem_append_right _ h)) (by decide +kernel))
set_option maxRecDepth 20000 in
theorem gX0_reach_X0_needFreeProfile : GoodIn wsX0_reach (wsV RX0 77 RX0 yX0_needFreeProfile wsX0_needFreeProfile) := goodIn_app (goodIn_of _ (by decide +kernel)) ggX0_reach_X0_needFreeProfile
set_option maxRecDepth 20000 in
theorem ggX0_reach_X0_swap : GoodIn wsX0_reach wsX0_swap := goodIn_r _ [44] (by decide +kernel) (by decide +kernel)
set_option maxRecDepth 20000 in
theorem gX0_reach_X0_swap : GoodIn wsX0_reach (va_wsS RX0 58 yX0_swap wsX0_swap) := goodIn_app (goodIn_of _ (by decide +kernel)) ggX0_reach_X0_swap
theorem dX0_reach_0 : decode cX0_reach 0 = .ok (.aload_n 0, 1) := by decide +kernel
theorem dX0_reach_1 : decode cX0_reach 1 = .ok (.iload_n 1, 1) := by decide +kernel
theorem dX0_reach_2 : decode cX0_reach 2 = .ok (.invokevirtual 62, 3) := by decide +kernel
theorem dX0_reach_5 : decode cX0_reach 5 = .ok (.iload_n 2, 1) := by decide +kernel
theorem dX0_reach_6 : decode cX0_reach 6 = .ok (.invokestatic 66, 3) := by decide +kernel
theorem dX0_reach_9 : decode cX0_reach 9 = .ok (.iload_n 3, 1) := by decide +kernel
theorem dX0_reach_10 : decode cX0_reach 10 = .ok (.invokestatic 74, 3) := by decide +kernel
theorem dX0_reach_13 : decode cX0_reach 13 = .ok (.iload 4, 2) := by decide +kernel
theorem dX0_reach_15 : decode cX0_reach 15 = .ok (.invokestatic 74, 3) := by decide +kernel
theorem dX0_reach_18 : decode cX0_reach 18 = .ok (.iload 4, 2) := by decide +kernel
theorem dX0_reach_20 : decode cX0_reach 20 = .ok (.iload_n 3, 1) := by decide +kernel
theorem dX0_reach_21 : decode cX0_reach 21 = .ok (.if_icmp .ge 13, 3) := by decide +kernel
theorem dX0_reach_24 : decode cX0_reach 24 = .ok (.new 80, 3) := by decide +kernel
theorem dX0_reach_27 : decode cX0_reach 27 = .ok (.dup, 1) := by decide +kernel
theorem dX0_reach_28 : decode cX0_reach 28 = .ok (.ldc 82, 2) := by decide +kernel
theorem dX0_reach_30 : decode cX0_reach 30 = .ok (.invokespecial 84, 3) := by decide +kernel
theorem dX0_reach_33 : decode cX0_reach 33 = .ok (.athrow, 1) := by decide +kernel
theorem dX0_reach_34 : decode cX0_reach 34 = .ok (.aload_n 0, 1) := by decide +kernel
theorem dX0_reach_35 : decode cX0_reach 35 = .ok (.iload_n 1, 1) := by decide +kernel
theorem dX0_reach_36 : decode cX0_reach 36 = .ok (.invokevirtual 77, 3) := by decide +kernel
theorem dX0_reach_39 : decode cX0_reach 39 = .ok (.iload_n 1, 1) := by decide +kernel
theorem dX0_reach_40 : decode cX0_reach 40 = .ok (.iconst 3, 1) := by decide +kernel
theorem dX0_reach_41 : decode cX0_reach 41 = .ok (.imul, 1) := by decide +kernel
theorem dX0_reach_42 : decode cX0_reach 42 = .ok (.iload_n 2, 1) := by decide +kernel
theorem dX0_reach_43 : decode cX0_reach 43 = .ok (.iadd, 1) := by decide +kernel
theorem dX0_reach_44 : decode cX0_reach 44 = .ok (.istore 5, 2) := by decide +kernel
theorem dX0_reach_46 : decode cX0_reach 46 = .ok (.aload_n 0, 1) := by decide +kernel
theorem dX0_reach_47 : decode cX0_reach 47 = .ok (.getfield 13, 3) := by decide +kernel
theorem dX0_reach_50 : decode cX0_reach 50 = .ok (.iload 5, 2) := by decide +kernel
theorem dX0_reach_52 : decode cX0_reach 52 = .ok (.iload_n 3, 1) := by decide +kernel
theorem dX0_reach_53 : decode cX0_reach 53 = .ok (.invokestatic 58, 3) := by decide +kernel
theorem dX0_reach_56 : decode cX0_reach 56 = .ok (.istore 6, 2) := by decide +kernel
theorem dX0_reach_58 : decode cX0_reach 58 = .ok (.aload_n 0, 1) := by decide +kernel
theorem dX0_reach_59 : decode cX0_reach 59 = .ok (.getfield 16, 3) := by decide +kernel
theorem dX0_reach_62 : decode cX0_reach 62 = .ok (.iload 5, 2) := by decide +kernel
theorem dX0_reach_64 : decode cX0_reach 64 = .ok (.iload 4, 2) := by decide +kernel
theorem dX0_reach_66 : decode cX0_reach 66 = .ok (.invokestatic 58, 3) := by decide +kernel
theorem dX0_reach_69 : decode cX0_reach 69 = .ok (.istore 7, 2) := by decide +kernel
theorem dX0_reach_71 : decode cX0_reach 71 = .ok (.iload 7, 2) := by decide +kernel
theorem dX0_reach_73 : decode cX0_reach 73 = .ok (.iload 6, 2) := by decide +kernel
theorem dX0_reach_75 : decode cX0_reach 75 = .ok (.isub, 1) := by decide +kernel
theorem dX0_reach_76 : decode cX0_reach 76 = .ok (.iconst 1, 1) := by decide +kernel
theorem dX0_reach_77 : decode cX0_reach 77 = .ok (.iadd, 1) := by decide +kernel
theorem dX0_reach_78 : decode cX0_reach 78 = .ok (.ireturn, 1) := by decide +kernel
set_option maxRecDepth 20000 in
theorem ggX0_way_X0_needProfile : GoodIn wsX0_way wsX0_needProfile := goodIn_ca (goodIn_r _ [8, 9, 10, 11, 38, 39, 40, 41, 42, 43, 44, 45, 46, 47, 48, 49, 50, 51, 52] (by decide +kernel) (by decide +kernel)) (goodIn_sub (fun _ h => List.mem_cons_of_mem _ (List.mem_append_left _ (List.mem_append_right _ h))) (by decide +kernel))
set_option maxRecDepth 20000 in
theorem gX0_way_X0_needProfile : GoodIn wsX0_way (wsV RX0 62 RX0 yX0_needProfile wsX0_needProfile) := goodIn_app (goodIn_of _ (by decide +kernel)) ggX0_way_X0_needProfile
set_option maxRecDepth 20000 in
theorem ggX0_way_X0_needFreeProfile : GoodIn wsX0_way wsX0_needFreeProfile := goodIn_ca (goodIn_r _ [15, 16, 17, 18, 19, 20, 7, 21, 22, 23, 24, 25, 26, 27, 28, 29, 30, 31, 32, 33, 34, 38, 39, 40, 41, 42, 43, 44, 45, 46, 47, 48, 49, 50, 51, 52] (by decide +kernel) (by decide +kernel)) (goodIn_sub (fun _ h => List.mem_cons_of_mem _ (List.mem_append_right _ h)) (by decide +kernel))
set_option maxRecDepth 20000 in
theorem gX0_way_X0_needFreeProfile : GoodIn wsX0_way (wsV RX0 77 RX0 yX0_needFreeProfile wsX0_needFreeProfile) := goodIn_app (goodIn_of _ (by decide +kernel)) ggX0_way_X0_needFreeProfile
set_option maxRecDepth 20000 in
theorem ggX0_way_X0_swap : GoodIn wsX0_way wsX0_swap := goodIn_r _ [37] (by decide +kernel) (by decide +kernel)
set_option maxRecDepth 20000 in
theorem gX0_way_X0_swap : GoodIn wsX0_way (va_wsS RX0 58 yX0_swap wsX0_swap) := goodIn_app (goodIn_of _ (by decide +kernel)) ggX0_way_X0_swap
theorem dX0_way_0 : decode cX0_way 0 = .ok (.aload_n 0, 1) := by decide +kernel
theorem dX0_way_1 : decode cX0_way 1 = .ok (.iload_n 1, 1) := by decide +kernel
theorem dX0_way_2 : decode cX0_way 2 = .ok (.invokevirtual 62, 3) := by decide +kernel
theorem dX0_way_5 : decode cX0_way 5 = .ok (.iload_n 2, 1) := by decide +kernel
theorem dX0_way_6 : decode cX0_way 6 = .ok (.ifCond .eq 23, 3) := by decide +kernel
theorem dX0_way_9 : decode cX0_way 9 = .ok (.iload_n 2, 1) := by decide +kernel
theorem dX0_way_10 : decode cX0_way 10 = .ok (.iconst 1, 1) := by decide +kernel
theorem dX0_way_11 : decode cX0_way 11 = .ok (.if_icmp .eq 18, 3) := by decide +kernel
theorem dX0_way_14 : decode cX0_way 14 = .ok (.iload_n 2, 1) := by decide +kernel
theorem dX0_way_15 : decode cX0_way 15 = .ok (.iconst 2, 1) := by decide +kernel
theorem dX0_way_16 : decode cX0_way 16 = .ok (.if_icmp .eq 13, 3) := by decide +kernel
theorem dX0_way_19 : decode cX0_way 19 = .ok (.new 80, 3) := by decide +kernel
theorem dX0_way_22 : decode cX0_way 22 = .ok (.dup, 1) := by decide +kernel
theorem dX0_way_23 : decode cX0_way 23 = .ok (.ldc 85, 2) := by decide +kernel
theorem dX0_way_25 : decode cX0_way 25 = .ok (.invokespecial 84, 3) := by decide +kernel
theorem dX0_way_28 : decode cX0_way 28 = .ok (.athrow, 1) := by decide +kernel
theorem dX0_way_29 : decode cX0_way 29 = .ok (.aload_n 0, 1) := by decide +kernel
theorem dX0_way_30 : decode cX0_way 30 = .ok (.iload_n 1, 1) := by decide +kernel
theorem dX0_way_31 : decode cX0_way 31 = .ok (.invokevirtual 77, 3) := by decide +kernel
theorem dX0_way_34 : decode cX0_way 34 = .ok (.aload_n 0, 1) := by decide +kernel
theorem dX0_way_35 : decode cX0_way 35 = .ok (.getfield 19, 3) := by decide +kernel
theorem dX0_way_38 : decode cX0_way 38 = .ok (.iload_n 1, 1) := by decide +kernel
theorem dX0_way_39 : decode cX0_way 39 = .ok (.iload_n 2, 1) := by decide +kernel
theorem dX0_way_40 : decode cX0_way 40 = .ok (.invokestatic 58, 3) := by decide +kernel
theorem dX0_way_43 : decode cX0_way 43 = .ok (.ireturn, 1) := by decide +kernel
set_option maxRecDepth 20000 in
theorem ggX0_curve_X0_needProfile : GoodIn wsX0_curve wsX0_needProfile := goodIn_ca (goodIn_r _ [5, 6, 7, 8, 32, 33, 34, 35, 36, 37, 38, 39, 40, 41, 42, 43, 44, 45, 46] (by decide +kernel) (by decide +kernel)) (goodIn_sub (fun _ h => List.mem_cons_of_mem _ (List.mem_append_left _ (List.mem_append_right _ h))) (by decide +kernel))
set_option maxRecDepth 20000 in
theorem gX0_curve_X0_needProfile : GoodIn wsX0_curve (wsV RX0 62 RX0 yX0_needProfile wsX0_needProfile) := goodIn_app (goodIn_of _ (by decide +kernel)) ggX0_curve_X0_needProfile
set_option maxRecDepth 20000 in
theorem ggX0_curve_X0_needBand : GoodIn wsX0_curve wsX0_needBand := goodIn_ca (goodIn_r _ [11, 6, 7] (by decide +kernel) (by decide +kernel)) (goodIn_sub (fun _ h => List.mem_cons_of_mem _ (List.mem_append_left _ (List.mem_append_right _ h))) (by decide +kernel))
set_option maxRecDepth 20000 in
theorem gX0_curve_X0_needBand : GoodIn wsX0_curve (va_wsS RX0 66 yX0_needBand wsX0_needBand) := goodIn_app (goodIn_of _ (by decide +kernel)) ggX0_curve_X0_needBand
set_option maxRecDepth 20000 in
theorem ggX0_curve_X0_needValue : GoodIn wsX0_curve wsX0_needValue := goodIn_ca (goodIn_r _ [14, 15, 16] (by decide +kernel) (by decide +kernel)) (goodIn_sub (fun _ h => List.mem_cons_of_mem _ (List.mem_append_right _ h)) (by decide +kernel))
set_option maxRecDepth 20000 in
theorem gX0_curve_X0_needValue : GoodIn wsX0_curve (va_wsS RX0 74 yX0_needValue wsX0_needValue) := goodIn_app (goodIn_of _ (by decide +kernel)) ggX0_curve_X0_needValue
set_option maxRecDepth 20000 in
theorem ggX0_curve_X0_bent : GoodIn wsX0_curve wsX0_bent := goodIn_r _ [20, 21, 22, 23, 4, 24, 25, 26, 27, 28, 29, 30, 31, 32, 33, 34, 35, 36, 37, 38, 39, 40, 41, 42, 43, 44, 45, 46] (by decide +kernel) (by decide +kernel)
set_option maxRecDepth 20000 in
theorem gX0_curve_X0_bent : GoodIn wsX0_curve (wsV RX0 87 RX0 yX0_bent wsX0_bent) := goodIn_app (goodIn_of _ (by decide +kernel)) ggX0_curve_X0_bent
theorem dX0_curve_0 : decode cX0_curve 0 = .ok (.aload_n 0, 1) := by decide +kernel
theorem dX0_curve_1 : decode cX0_curve 1 = .ok (.iload_n 1, 1) := by decide +kernel
theorem dX0_curve_2 : decode cX0_curve 2 = .ok (.invokevirtual 62, 3) := by decide +kernel
theorem dX0_curve_5 : decode cX0_curve 5 = .ok (.iload_n 2, 1) := by decide +kernel
theorem dX0_curve_6 : decode cX0_curve 6 = .ok (.invokestatic 66, 3) := by decide +kernel
theorem dX0_curve_9 : decode cX0_curve 9 = .ok (.iload_n 3, 1) := by decide +kernel
theorem dX0_curve_10 : decode cX0_curve 10 = .ok (.invokestatic 74, 3) := by decide +kernel
theorem dX0_curve_13 : decode cX0_curve 13 = .ok (.aload_n 0, 1) := by decide +kernel
theorem dX0_curve_14 : decode cX0_curve 14 = .ok (.iload_n 1, 1) := by decide +kernel
theorem dX0_curve_15 : decode cX0_curve 15 = .ok (.iload_n 2, 1) := by decide +kernel
theorem dX0_curve_16 : decode cX0_curve 16 = .ok (.iload_n 3, 1) := by decide +kernel
theorem dX0_curve_17 : decode cX0_curve 17 = .ok (.invokevirtual 87, 3) := by decide +kernel
theorem dX0_curve_20 : decode cX0_curve 20 = .ok (.ireturn, 1) := by decide +kernel
set_option maxRecDepth 20000 in
theorem ggX0_taken_X0_needProfile : GoodIn wsX0_taken wsX0_needProfile := goodIn_ca (goodIn_r _ [5, 6, 7, 8, 49, 50, 51, 52, 53, 54, 55, 56, 57, 58, 59, 60, 61, 62, 63] (by decide +kernel) (by decide +kernel)) (goodIn_sub (fun _ h => List.mem_cons_of_mem _ (List.mem_append_left _ (List.mem_append_right _ h))) (by decide +kernel))
set_option maxRecDepth 20000 in
theorem gX0_taken_X0_needProfile : GoodIn wsX0_taken (wsV RX0 62 RX0 yX0_needProfile wsX0_needProfile) := goodIn_app (goodIn_of _ (by decide +kernel)) ggX0_taken_X0_needProfile
set_option maxRecDepth 20000 in
theorem ggX0_taken_X0_needBand : GoodIn wsX0_taken wsX0_needBand := goodIn_ca (goodIn_r _ [11, 6, 7] (by decide +kernel) (by decide +kernel)) (goodIn_sub (fun _ h => List.mem_cons_of_mem _ (List.mem_append_left _ (List.mem_append_right _ h))) (by decide +kernel))
set_option maxRecDepth 20000 in
theorem gX0_taken_X0_needBand : GoodIn wsX0_taken (va_wsS RX0 66 yX0_needBand wsX0_needBand) := goodIn_app (goodIn_of _ (by decide +kernel)) ggX0_taken_X0_needBand
set_option maxRecDepth 20000 in
theorem ggX0_taken_X0_needValue : GoodIn wsX0_taken wsX0_needValue := goodIn_ca (goodIn_r _ [14, 15, 16] (by decide +kernel) (by decide +kernel)) (goodIn_sub (fun _ h => List.mem_cons_of_mem _ (List.mem_append_right _ h)) (by decide +kernel))
set_option maxRecDepth 20000 in
theorem gX0_taken_X0_needValue : GoodIn wsX0_taken (va_wsS RX0 74 yX0_needValue wsX0_needValue) := goodIn_app (goodIn_of _ (by decide +kernel)) ggX0_taken_X0_needValue
set_option maxRecDepth 20000 in
theorem ggX0_taken_X0_take : GoodIn wsX0_taken wsX0_take := goodIn_r _ [20, 21, 22, 23, 24, 25, 26, 27, 28, 29, 30, 31, 32, 4, 33, 34, 35, 36, 37, 38, 39, 40, 41, 42, 43, 44, 45, 46, 47, 48, 49, 50, 51, 52, 53, 54, 55, 56, 57, 58, 59, 60, 61, 62, 63] (by decide +kernel) (by decide +kernel)
set_option maxRecDepth 20000 in
theorem gX0_taken_X0_take : GoodIn wsX0_taken (wsV RX0 91 RX0 yX0_take wsX0_take) := goodIn_app (goodIn_of _ (by decide +kernel)) ggX0_taken_X0_take
theorem dX0_taken_0 : decode cX0_taken 0 = .ok (.aload_n 0, 1) := by decide +kernel
theorem dX0_taken_1 : decode cX0_taken 1 = .ok (.iload_n 1, 1) := by decide +kernel
theorem dX0_taken_2 : decode cX0_taken 2 = .ok (.invokevirtual 62, 3) := by decide +kernel
theorem dX0_taken_5 : decode cX0_taken 5 = .ok (.iload_n 2, 1) := by decide +kernel
theorem dX0_taken_6 : decode cX0_taken 6 = .ok (.invokestatic 66, 3) := by decide +kernel
theorem dX0_taken_9 : decode cX0_taken 9 = .ok (.iload_n 3, 1) := by decide +kernel
theorem dX0_taken_10 : decode cX0_taken 10 = .ok (.invokestatic 74, 3) := by decide +kernel
theorem dX0_taken_13 : decode cX0_taken 13 = .ok (.aload_n 0, 1) := by decide +kernel
theorem dX0_taken_14 : decode cX0_taken 14 = .ok (.iload_n 1, 1) := by decide +kernel
theorem dX0_taken_15 : decode cX0_taken 15 = .ok (.iload_n 2, 1) := by decide +kernel
theorem dX0_taken_16 : decode cX0_taken 16 = .ok (.iload_n 3, 1) := by decide +kernel
theorem dX0_taken_17 : decode cX0_taken 17 = .ok (.invokevirtual 91, 3) := by decide +kernel
theorem dX0_taken_20 : decode cX0_taken 20 = .ok (.ireturn, 1) := by decide +kernel
theorem dX0_chain_0 : decode cX0_chain 0 = .ok (.aload_n 0, 1) := by decide +kernel
theorem dX0_chain_1 : decode cX0_chain 1 = .ok (.getfield 94, 3) := by decide +kernel
theorem dX0_chain_4 : decode cX0_chain 4 = .ok (.bipush 6, 2) := by decide +kernel
theorem dX0_chain_6 : decode cX0_chain 6 = .ok (.if_icmp .lt 13, 3) := by decide +kernel
theorem dX0_chain_9 : decode cX0_chain 9 = .ok (.new 47, 3) := by decide +kernel
theorem dX0_chain_12 : decode cX0_chain 12 = .ok (.dup, 1) := by decide +kernel
theorem dX0_chain_13 : decode cX0_chain 13 = .ok (.ldc 97, 2) := by decide +kernel
theorem dX0_chain_15 : decode cX0_chain 15 = .ok (.invokespecial 51, 3) := by decide +kernel
theorem dX0_chain_18 : decode cX0_chain 18 = .ok (.athrow, 1) := by decide +kernel
theorem dX0_chain_19 : decode cX0_chain 19 = .ok (.aload_n 0, 1) := by decide +kernel
theorem dX0_chain_20 : decode cX0_chain 20 = .ok (.getfield 94, 3) := by decide +kernel
theorem dX0_chain_23 : decode cX0_chain 23 = .ok (.istore_n 1, 1) := by decide +kernel
theorem dX0_chain_24 : decode cX0_chain 24 = .ok (.aload_n 0, 1) := by decide +kernel
theorem dX0_chain_25 : decode cX0_chain 25 = .ok (.dup, 1) := by decide +kernel
theorem dX0_chain_26 : decode cX0_chain 26 = .ok (.getfield 94, 3) := by decide +kernel
theorem dX0_chain_29 : decode cX0_chain 29 = .ok (.iconst 1, 1) := by decide +kernel
theorem dX0_chain_30 : decode cX0_chain 30 = .ok (.iadd, 1) := by decide +kernel
theorem dX0_chain_31 : decode cX0_chain 31 = .ok (.putfield 94, 3) := by decide +kernel
theorem dX0_chain_34 : decode cX0_chain 34 = .ok (.iload_n 1, 1) := by decide +kernel
theorem dX0_chain_35 : decode cX0_chain 35 = .ok (.ireturn, 1) := by decide +kernel
set_option maxRecDepth 20000 in
theorem ggX0_add_X0_needChain : GoodIn wsX0_add wsX0_needChain := goodIn_ca (goodIn_r _ [9, 10, 11, 12, 32, 33, 34, 35, 36, 37, 38, 39, 40, 41, 42, 43, 44, 45, 46] (by decide +kernel) (by decide +kernel)) (goodIn_sub (fun _ h => List.mem_cons_of_mem _ (List.mem_append_right _ h)) (by decide +kernel))
set_option maxRecDepth 20000 in
theorem gX0_add_X0_needChain : GoodIn wsX0_add (wsV RX0 99 RX0 yX0_needChain wsX0_needChain) := goodIn_app (goodIn_of _ (by decide +kernel)) ggX0_add_X0_needChain
set_option maxRecDepth 20000 in
theorem ggX0_add_X0_needProfile : GoodIn wsX0_add wsX0_needProfile := goodIn_ca (goodIn_r _ [16, 10, 11, 17, 32, 33, 34, 35, 36, 37, 38, 39, 40, 41, 42, 43, 44, 45, 46] (by decide +kernel) (by decide +kernel)) (goodIn_sub (fun _ h => List.mem_cons_of_mem _ (List.mem_append_right _ h)) (by decide +kernel))
set_option maxRecDepth 20000 in
theorem gX0_add_X0_needProfile : GoodIn wsX0_add (wsV RX0 62 RX0 yX0_needProfile wsX0_needProfile) := goodIn_app (goodIn_of _ (by decide +kernel)) ggX0_add_X0_needProfile
set_option maxRecDepth 20000 in
theorem ggX0_add_X0_needFreeChain : GoodIn wsX0_add wsX0_needFreeChain := goodIn_ca (goodIn_r _ [21, 1, 2, 22, 23, 24, 8, 25, 32, 33, 34, 35, 36, 37, 38, 39, 40, 41, 42, 43, 44, 45, 46] (by decide +kernel) (by decide +kernel)) (goodIn_sub (fun _ h => List.mem_cons_of_mem _ (List.mem_append_left _ (List.mem_append_right _ h))) (by decide +kernel))
set_option maxRecDepth 20000 in
theorem gX0_add_X0_needFreeChain : GoodIn wsX0_add (wsV RX0 102 RX0 yX0_needFreeChain wsX0_needFreeChain) := goodIn_app (goodIn_of _ (by decide +kernel)) ggX0_add_X0_needFreeChain
set_option maxRecDepth 20000 in
theorem ggX0_add_X0_read : GoodIn wsX0_add wsX0_read := goodIn_r _ [28] (by decide +kernel) (by decide +kernel)
set_option maxRecDepth 20000 in
theorem gX0_add_X0_read : GoodIn wsX0_add (va_wsS RX0 105 yX0_read wsX0_read) := goodIn_app (goodIn_of _ (by decide +kernel)) ggX0_add_X0_read
set_option maxRecDepth 20000 in
theorem ggX0_add_X0_swap : GoodIn wsX0_add wsX0_swap := goodIn_r _ [31] (by decide +kernel) (by decide +kernel)
set_option maxRecDepth 20000 in
theorem gX0_add_X0_swap : GoodIn wsX0_add (va_wsS RX0 58 yX0_swap wsX0_swap) := goodIn_app (goodIn_of _ (by decide +kernel)) ggX0_add_X0_swap
theorem dX0_add_0 : decode cX0_add 0 = .ok (.aload_n 0, 1) := by decide +kernel
theorem dX0_add_1 : decode cX0_add 1 = .ok (.iload_n 1, 1) := by decide +kernel
theorem dX0_add_2 : decode cX0_add 2 = .ok (.invokevirtual 99, 3) := by decide +kernel
theorem dX0_add_5 : decode cX0_add 5 = .ok (.aload_n 0, 1) := by decide +kernel
theorem dX0_add_6 : decode cX0_add 6 = .ok (.iload_n 2, 1) := by decide +kernel
theorem dX0_add_7 : decode cX0_add 7 = .ok (.invokevirtual 62, 3) := by decide +kernel
theorem dX0_add_10 : decode cX0_add 10 = .ok (.aload_n 0, 1) := by decide +kernel
theorem dX0_add_11 : decode cX0_add 11 = .ok (.iload_n 1, 1) := by decide +kernel
theorem dX0_add_12 : decode cX0_add 12 = .ok (.invokevirtual 102, 3) := by decide +kernel
theorem dX0_add_15 : decode cX0_add 15 = .ok (.aload_n 0, 1) := by decide +kernel
theorem dX0_add_16 : decode cX0_add 16 = .ok (.getfield 25, 3) := by decide +kernel
theorem dX0_add_19 : decode cX0_add 19 = .ok (.iload_n 1, 1) := by decide +kernel
theorem dX0_add_20 : decode cX0_add 20 = .ok (.invokestatic 105, 3) := by decide +kernel
theorem dX0_add_23 : decode cX0_add 23 = .ok (.istore_n 3, 1) := by decide +kernel
theorem dX0_add_24 : decode cX0_add 24 = .ok (.iload_n 3, 1) := by decide +kernel
theorem dX0_add_25 : decode cX0_add 25 = .ok (.bipush 6, 2) := by decide +kernel
theorem dX0_add_27 : decode cX0_add 27 = .ok (.if_icmp .lt 13, 3) := by decide +kernel
theorem dX0_add_30 : decode cX0_add 30 = .ok (.new 47, 3) := by decide +kernel
theorem dX0_add_33 : decode cX0_add 33 = .ok (.dup, 1) := by decide +kernel
theorem dX0_add_34 : decode cX0_add 34 = .ok (.ldc 109, 2) := by decide +kernel
theorem dX0_add_36 : decode cX0_add 36 = .ok (.invokespecial 51, 3) := by decide +kernel
theorem dX0_add_39 : decode cX0_add 39 = .ok (.athrow, 1) := by decide +kernel
theorem dX0_add_40 : decode cX0_add 40 = .ok (.aload_n 0, 1) := by decide +kernel
theorem dX0_add_41 : decode cX0_add 41 = .ok (.getfield 22, 3) := by decide +kernel
theorem dX0_add_44 : decode cX0_add 44 = .ok (.iload_n 1, 1) := by decide +kernel
theorem dX0_add_45 : decode cX0_add 45 = .ok (.bipush 6, 2) := by decide +kernel
theorem dX0_add_47 : decode cX0_add 47 = .ok (.imul, 1) := by decide +kernel
theorem dX0_add_48 : decode cX0_add 48 = .ok (.iload_n 3, 1) := by decide +kernel
theorem dX0_add_49 : decode cX0_add 49 = .ok (.iadd, 1) := by decide +kernel
theorem dX0_add_50 : decode cX0_add 50 = .ok (.iload_n 2, 1) := by decide +kernel
theorem dX0_add_51 : decode cX0_add 51 = .ok (.invokestatic 58, 3) := by decide +kernel
theorem dX0_add_54 : decode cX0_add 54 = .ok (.pop, 1) := by decide +kernel
theorem dX0_add_55 : decode cX0_add 55 = .ok (.aload_n 0, 1) := by decide +kernel
theorem dX0_add_56 : decode cX0_add 56 = .ok (.getfield 25, 3) := by decide +kernel
theorem dX0_add_59 : decode cX0_add 59 = .ok (.iload_n 1, 1) := by decide +kernel
theorem dX0_add_60 : decode cX0_add 60 = .ok (.iload_n 3, 1) := by decide +kernel
theorem dX0_add_61 : decode cX0_add 61 = .ok (.iconst 1, 1) := by decide +kernel
theorem dX0_add_62 : decode cX0_add 62 = .ok (.iadd, 1) := by decide +kernel
theorem dX0_add_63 : decode cX0_add 63 = .ok (.invokestatic 58, 3) := by decide +kernel
theorem dX0_add_66 : decode cX0_add 66 = .ok (.pop, 1) := by decide +kernel
theorem dX0_add_67 : decode cX0_add 67 = .ok (.iload_n 3, 1) := by decide +kernel
theorem dX0_add_68 : decode cX0_add 68 = .ok (.iconst 1, 1) := by decide +kernel
theorem dX0_add_69 : decode cX0_add 69 = .ok (.iadd, 1) := by decide +kernel
theorem dX0_add_70 : decode cX0_add 70 = .ok (.ireturn, 1) := by decide +kernel
set_option maxRecDepth 20000 in
theorem ggX0_drop_X0_needChain : GoodIn wsX0_drop wsX0_needChain := goodIn_ca (goodIn_r _ [9, 10, 11, 12, 27, 28, 29, 30, 31, 32, 33, 34, 35, 36, 37, 38, 39, 40, 41] (by decide +kernel) (by decide +kernel)) (goodIn_sub (fun _ h => List.mem_cons_of_mem _ (List.mem_append_right _ h)) (by decide +kernel))
set_option maxRecDepth 20000 in
theorem gX0_drop_X0_needChain : GoodIn wsX0_drop (wsV RX0 99 RX0 yX0_needChain wsX0_needChain) := goodIn_app (goodIn_of _ (by decide +kernel)) ggX0_drop_X0_needChain
set_option maxRecDepth 20000 in
theorem ggX0_drop_X0_needFreeChain : GoodIn wsX0_drop wsX0_needFreeChain := goodIn_ca (goodIn_r _ [16, 1, 2, 17, 18, 19, 8, 20, 27, 28, 29, 30, 31, 32, 33, 34, 35, 36, 37, 38, 39, 40, 41] (by decide +kernel) (by decide +kernel)) (goodIn_sub (fun _ h => List.mem_cons_of_mem _ (List.mem_append_left _ (List.mem_append_right _ h))) (by decide +kernel))
set_option maxRecDepth 20000 in
theorem gX0_drop_X0_needFreeChain : GoodIn wsX0_drop (wsV RX0 102 RX0 yX0_needFreeChain wsX0_needFreeChain) := goodIn_app (goodIn_of _ (by decide +kernel)) ggX0_drop_X0_needFreeChain
set_option maxRecDepth 20000 in
theorem ggX0_drop_X0_read : GoodIn wsX0_drop wsX0_read := goodIn_r _ [23] (by decide +kernel) (by decide +kernel)
set_option maxRecDepth 20000 in
theorem gX0_drop_X0_read : GoodIn wsX0_drop (va_wsS RX0 105 yX0_read wsX0_read) := goodIn_app (goodIn_of _ (by decide +kernel)) ggX0_drop_X0_read
set_option maxRecDepth 20000 in
theorem ggX0_drop_X0_swap : GoodIn wsX0_drop wsX0_swap := goodIn_r _ [26] (by decide +kernel) (by decide +kernel)
set_option maxRecDepth 20000 in
theorem gX0_drop_X0_swap : GoodIn wsX0_drop (va_wsS RX0 58 yX0_swap wsX0_swap) := goodIn_app (goodIn_of _ (by decide +kernel)) ggX0_drop_X0_swap
theorem dX0_drop_0 : decode cX0_drop 0 = .ok (.aload_n 0, 1) := by decide +kernel
theorem dX0_drop_1 : decode cX0_drop 1 = .ok (.iload_n 1, 1) := by decide +kernel
theorem dX0_drop_2 : decode cX0_drop 2 = .ok (.invokevirtual 99, 3) := by decide +kernel
theorem dX0_drop_5 : decode cX0_drop 5 = .ok (.aload_n 0, 1) := by decide +kernel
theorem dX0_drop_6 : decode cX0_drop 6 = .ok (.iload_n 1, 1) := by decide +kernel
theorem dX0_drop_7 : decode cX0_drop 7 = .ok (.invokevirtual 102, 3) := by decide +kernel
theorem dX0_drop_10 : decode cX0_drop 10 = .ok (.aload_n 0, 1) := by decide +kernel
theorem dX0_drop_11 : decode cX0_drop 11 = .ok (.getfield 25, 3) := by decide +kernel
theorem dX0_drop_14 : decode cX0_drop 14 = .ok (.iload_n 1, 1) := by decide +kernel
theorem dX0_drop_15 : decode cX0_drop 15 = .ok (.invokestatic 105, 3) := by decide +kernel
theorem dX0_drop_18 : decode cX0_drop 18 = .ok (.istore_n 2, 1) := by decide +kernel
theorem dX0_drop_19 : decode cX0_drop 19 = .ok (.iload_n 2, 1) := by decide +kernel
theorem dX0_drop_20 : decode cX0_drop 20 = .ok (.ifCond .gt 13, 3) := by decide +kernel
theorem dX0_drop_23 : decode cX0_drop 23 = .ok (.new 47, 3) := by decide +kernel
theorem dX0_drop_26 : decode cX0_drop 26 = .ok (.dup, 1) := by decide +kernel
theorem dX0_drop_27 : decode cX0_drop 27 = .ok (.ldc 111, 2) := by decide +kernel
theorem dX0_drop_29 : decode cX0_drop 29 = .ok (.invokespecial 51, 3) := by decide +kernel
theorem dX0_drop_32 : decode cX0_drop 32 = .ok (.athrow, 1) := by decide +kernel
theorem dX0_drop_33 : decode cX0_drop 33 = .ok (.aload_n 0, 1) := by decide +kernel
theorem dX0_drop_34 : decode cX0_drop 34 = .ok (.getfield 25, 3) := by decide +kernel
theorem dX0_drop_37 : decode cX0_drop 37 = .ok (.iload_n 1, 1) := by decide +kernel
theorem dX0_drop_38 : decode cX0_drop 38 = .ok (.iload_n 2, 1) := by decide +kernel
theorem dX0_drop_39 : decode cX0_drop 39 = .ok (.iconst 1, 1) := by decide +kernel
theorem dX0_drop_40 : decode cX0_drop 40 = .ok (.isub, 1) := by decide +kernel
theorem dX0_drop_41 : decode cX0_drop 41 = .ok (.invokestatic 58, 3) := by decide +kernel
theorem dX0_drop_44 : decode cX0_drop 44 = .ok (.pop, 1) := by decide +kernel
theorem dX0_drop_45 : decode cX0_drop 45 = .ok (.aload_n 0, 1) := by decide +kernel
theorem dX0_drop_46 : decode cX0_drop 46 = .ok (.getfield 22, 3) := by decide +kernel
theorem dX0_drop_49 : decode cX0_drop 49 = .ok (.iload_n 1, 1) := by decide +kernel
theorem dX0_drop_50 : decode cX0_drop 50 = .ok (.bipush 6, 2) := by decide +kernel
theorem dX0_drop_52 : decode cX0_drop 52 = .ok (.imul, 1) := by decide +kernel
theorem dX0_drop_53 : decode cX0_drop 53 = .ok (.iload_n 2, 1) := by decide +kernel
theorem dX0_drop_54 : decode cX0_drop 54 = .ok (.iadd, 1) := by decide +kernel
theorem dX0_drop_55 : decode cX0_drop 55 = .ok (.iconst 1, 1) := by decide +kernel
theorem dX0_drop_56 : decode cX0_drop 56 = .ok (.isub, 1) := by decide +kernel
theorem dX0_drop_57 : decode cX0_drop 57 = .ok (.invokestatic 105, 3) := by decide +kernel
theorem dX0_drop_60 : decode cX0_drop 60 = .ok (.ireturn, 1) := by decide +kernel
set_option maxRecDepth 20000 in
theorem ggX0_through_X0_needChain : GoodIn wsX0_through wsX0_needChain := goodIn_ca (goodIn_r _ [5, 6, 7, 8, 55, 56, 57, 58, 59, 60, 61, 62, 63, 64, 65, 66, 67, 68, 69] (by decide +kernel) (by decide +kernel)) (goodIn_sub (fun _ h => List.mem_cons_of_mem _ (List.mem_append_left _ (List.mem_append_right _ h))) (by decide +kernel))
set_option maxRecDepth 20000 in
theorem gX0_through_X0_needChain : GoodIn wsX0_through (wsV RX0 99 RX0 yX0_needChain wsX0_needChain) := goodIn_app (goodIn_of _ (by decide +kernel)) ggX0_through_X0_needChain
set_option maxRecDepth 20000 in
theorem ggX0_through_X0_needBand : GoodIn wsX0_through wsX0_needBand := goodIn_ca (goodIn_r _ [11, 6, 7] (by decide +kernel) (by decide +kernel)) (goodIn_sub (fun _ h => List.mem_cons_of_mem _ (List.mem_append_left _ (List.mem_append_right _ h))) (by decide +kernel))
set_option maxRecDepth 20000 in
theorem gX0_through_X0_needBand : GoodIn wsX0_through (va_wsS RX0 66 yX0_needBand wsX0_needBand) := goodIn_app (goodIn_of _ (by decide +kernel)) ggX0_through_X0_needBand
set_option maxRecDepth 20000 in
theorem ggX0_through_X0_needValue : GoodIn wsX0_through wsX0_needValue := goodIn_ca (goodIn_r _ [14, 15, 16] (by decide +kernel) (by decide +kernel)) (goodIn_sub (fun _ h => List.mem_cons_of_mem _ (List.mem_append_right _ h)) (by decide +kernel))
set_option maxRecDepth 20000 in
theorem gX0_through_X0_needValue : GoodIn wsX0_through (va_wsS RX0 74 yX0_needValue wsX0_needValue) := goodIn_app (goodIn_of _ (by decide +kernel)) ggX0_through_X0_needValue
set_option maxRecDepth 20000 in
theorem ggX0_through_X0_pass : GoodIn wsX0_through wsX0_pass := goodIn_r _ [20, 21, 22, 23, 24, 4, 25, 26, 27, 28, 29, 30, 31, 32, 33, 34, 35, 36, 37, 38, 39, 40, 41, 42, 43, 44, 45, 46, 47, 48, 49, 50, 51, 52, 53, 54, 55, 56, 57, 58, 59, 60, 61, 62, 63, 64, 65, 66, 67, 68, 69] (by decide +kernel) (by decide +kernel)
set_option maxRecDepth 20000 in
theorem gX0_through_X0_pass : GoodIn wsX0_through (wsV RX0 113 RX0 yX0_pass wsX0_pass) := goodIn_app (goodIn_of _ (by decide +kernel)) ggX0_through_X0_pass
theorem dX0_through_0 : decode cX0_through 0 = .ok (.aload_n 0, 1) := by decide +kernel
theorem dX0_through_1 : decode cX0_through 1 = .ok (.iload_n 1, 1) := by decide +kernel
end
section
theorem dX0_through_2 : decode cX0_through 2 = .ok (.invokevirtual 99, 3) := by decide +kernel
theorem dX0_through_5 : decode cX0_through 5 = .ok (.iload_n 2, 1) := by decide +kernel
theorem dX0_through_6 : decode cX0_through 6 = .ok (.invokestatic 66, 3) := by decide +kernel
theorem dX0_through_9 : decode cX0_through 9 = .ok (.iload_n 3, 1) := by decide +kernel
theorem dX0_through_10 : decode cX0_through 10 = .ok (.invokestatic 74, 3) := by decide +kernel
theorem dX0_through_13 : decode cX0_through 13 = .ok (.aload_n 0, 1) := by decide +kernel
theorem dX0_through_14 : decode cX0_through 14 = .ok (.iload_n 1, 1) := by decide +kernel
theorem dX0_through_15 : decode cX0_through 15 = .ok (.iload_n 2, 1) := by decide +kernel
theorem dX0_through_16 : decode cX0_through 16 = .ok (.iload_n 3, 1) := by decide +kernel
theorem dX0_through_17 : decode cX0_through 17 = .ok (.invokevirtual 113, 3) := by decide +kernel
theorem dX0_through_20 : decode cX0_through 20 = .ok (.ireturn, 1) := by decide +kernel
set_option maxRecDepth 20000 in
theorem ggX0_gap_X0_needChain : GoodIn wsX0_gap wsX0_needChain := goodIn_ca (goodIn_r _ [5, 6, 7, 8, 61, 62, 63, 64, 65, 66, 67, 68, 69, 70, 71, 72, 73, 74, 75] (by decide +kernel) (by decide +kernel)) (goodIn_sub (fun _ h => List.mem_cons_of_mem _ (List.mem_append_right _ h)) (by decide +kernel))
set_option maxRecDepth 20000 in
theorem gX0_gap_X0_needChain : GoodIn wsX0_gap (wsV RX0 99 RX0 yX0_needChain wsX0_needChain) := goodIn_app (goodIn_of _ (by decide +kernel)) ggX0_gap_X0_needChain
set_option maxRecDepth 20000 in
theorem ggX0_gap_X0_tryJoining : GoodIn wsX0_gap wsX0_tryJoining := goodIn_r _ [12, 13, 14, 15, 16, 17, 18, 19, 20, 21, 22, 4, 23, 24, 25, 26, 27, 28, 29, 30, 31, 32, 33, 34, 35, 36, 37, 38, 39, 40, 41, 42, 43, 44, 45, 46, 47, 48, 49, 50, 51, 52, 53, 54, 55, 56, 57, 58, 59, 60, 61, 62, 63, 64, 65, 66, 67, 68, 69, 70, 71, 72, 73, 74, 75] (by decide +kernel) (by decide +kernel)
set_option maxRecDepth 20000 in
theorem gX0_gap_X0_tryJoining : GoodIn wsX0_gap (wsV RX0 116 RX0 yX0_tryJoining wsX0_tryJoining) := goodIn_app (goodIn_of _ (by decide +kernel)) ggX0_gap_X0_tryJoining
theorem dX0_gap_0 : decode cX0_gap 0 = .ok (.aload_n 0, 1) := by decide +kernel
theorem dX0_gap_1 : decode cX0_gap 1 = .ok (.iload_n 1, 1) := by decide +kernel
theorem dX0_gap_2 : decode cX0_gap 2 = .ok (.invokevirtual 99, 3) := by decide +kernel
theorem dX0_gap_5 : decode cX0_gap 5 = .ok (.aload_n 0, 1) := by decide +kernel
theorem dX0_gap_6 : decode cX0_gap 6 = .ok (.iload_n 1, 1) := by decide +kernel
theorem dX0_gap_7 : decode cX0_gap 7 = .ok (.invokevirtual 116, 3) := by decide +kernel
theorem dX0_gap_10 : decode cX0_gap 10 = .ok (.ireturn, 1) := by decide +kernel
set_option maxRecDepth 20000 in
theorem ggX0_greyGap_X0_needChain : GoodIn wsX0_greyGap wsX0_needChain := goodIn_ca (goodIn_r _ [12, 13, 14, 15, 47, 48, 49, 50, 51, 52, 53, 54, 55, 56, 57, 58, 59, 60, 61] (by decide +kernel) (by decide +kernel)) (goodIn_sub (fun _ h => List.mem_cons_of_mem _ (List.mem_append_right _ h)) (by decide +kernel))
set_option maxRecDepth 20000 in
theorem gX0_greyGap_X0_needChain : GoodIn wsX0_greyGap (wsV RX0 99 RX0 yX0_needChain wsX0_needChain) := goodIn_app (goodIn_of _ (by decide +kernel)) ggX0_greyGap_X0_needChain
set_option maxRecDepth 20000 in
theorem ggX0_greyGap_X0_pass : GoodIn wsX0_greyGap wsX0_pass := goodIn_r _ [19, 20, 21, 22, 23, 11, 24, 25, 26, 27, 28, 29, 30, 31, 1, 2, 3, 4, 5, 6, 7, 32, 33, 34, 35, 36, 37, 38, 39, 40, 41, 42, 43, 44, 45, 46, 47, 48, 49, 50, 51, 52, 53, 54, 55, 56, 57, 58, 59, 60, 61] (by decide +kernel) (by decide +kernel)
set_option maxRecDepth 20000 in
theorem gX0_greyGap_X0_pass : GoodIn wsX0_greyGap (wsV RX0 113 RX0 yX0_pass wsX0_pass) := goodIn_app (goodIn_of _ (by decide +kernel)) ggX0_greyGap_X0_pass
theorem dX0_greyGap_0 : decode cX0_greyGap 0 = .ok (.aload_n 0, 1) := by decide +kernel
theorem dX0_greyGap_1 : decode cX0_greyGap 1 = .ok (.iload_n 1, 1) := by decide +kernel
theorem dX0_greyGap_2 : decode cX0_greyGap 2 = .ok (.invokevirtual 99, 3) := by decide +kernel
theorem dX0_greyGap_5 : decode cX0_greyGap 5 = .ok (.iconst 0, 1) := by decide +kernel
theorem dX0_greyGap_6 : decode cX0_greyGap 6 = .ok (.istore_n 2, 1) := by decide +kernel
theorem dX0_greyGap_7 : decode cX0_greyGap 7 = .ok (.iconst 0, 1) := by decide +kernel
theorem dX0_greyGap_8 : decode cX0_greyGap 8 = .ok (.istore_n 3, 1) := by decide +kernel
theorem dX0_greyGap_9 : decode cX0_greyGap 9 = .ok (.iload_n 3, 1) := by decide +kernel
theorem dX0_greyGap_10 : decode cX0_greyGap 10 = .ok (.sipush 255, 3) := by decide +kernel
theorem dX0_greyGap_13 : decode cX0_greyGap 13 = .ok (.if_icmp .gt 70, 3) := by decide +kernel
theorem dX0_greyGap_16 : decode cX0_greyGap 16 = .ok (.sipush 255, 3) := by decide +kernel
theorem dX0_greyGap_19 : decode cX0_greyGap 19 = .ok (.istore 4, 2) := by decide +kernel
theorem dX0_greyGap_21 : decode cX0_greyGap 21 = .ok (.iconst 0, 1) := by decide +kernel
theorem dX0_greyGap_22 : decode cX0_greyGap 22 = .ok (.istore 5, 2) := by decide +kernel
theorem dX0_greyGap_24 : decode cX0_greyGap 24 = .ok (.iconst 0, 1) := by decide +kernel
theorem dX0_greyGap_25 : decode cX0_greyGap 25 = .ok (.istore 6, 2) := by decide +kernel
theorem dX0_greyGap_27 : decode cX0_greyGap 27 = .ok (.iload 6, 2) := by decide +kernel
theorem dX0_greyGap_29 : decode cX0_greyGap 29 = .ok (.iconst 3, 1) := by decide +kernel
theorem dX0_greyGap_30 : decode cX0_greyGap 30 = .ok (.if_icmp .ge 37, 3) := by decide +kernel
theorem dX0_greyGap_33 : decode cX0_greyGap 33 = .ok (.aload_n 0, 1) := by decide +kernel
theorem dX0_greyGap_34 : decode cX0_greyGap 34 = .ok (.iload_n 1, 1) := by decide +kernel
theorem dX0_greyGap_35 : decode cX0_greyGap 35 = .ok (.iload 6, 2) := by decide +kernel
theorem dX0_greyGap_37 : decode cX0_greyGap 37 = .ok (.iload_n 3, 1) := by decide +kernel
theorem dX0_greyGap_38 : decode cX0_greyGap 38 = .ok (.invokevirtual 113, 3) := by decide +kernel
theorem dX0_greyGap_41 : decode cX0_greyGap 41 = .ok (.istore 7, 2) := by decide +kernel
theorem dX0_greyGap_43 : decode cX0_greyGap 43 = .ok (.iload 4, 2) := by decide +kernel
theorem dX0_greyGap_45 : decode cX0_greyGap 45 = .ok (.iload 7, 2) := by decide +kernel
theorem dX0_greyGap_47 : decode cX0_greyGap 47 = .ok (.invokestatic 119, 3) := by decide +kernel
theorem dX0_greyGap_50 : decode cX0_greyGap 50 = .ok (.istore 4, 2) := by decide +kernel
theorem dX0_greyGap_52 : decode cX0_greyGap 52 = .ok (.iload 5, 2) := by decide +kernel
theorem dX0_greyGap_54 : decode cX0_greyGap 54 = .ok (.iload 7, 2) := by decide +kernel
theorem dX0_greyGap_56 : decode cX0_greyGap 56 = .ok (.invokestatic 125, 3) := by decide +kernel
theorem dX0_greyGap_59 : decode cX0_greyGap 59 = .ok (.istore 5, 2) := by decide +kernel
theorem dX0_greyGap_61 : decode cX0_greyGap 61 = .ok (.iinc 6 1, 3) := by decide +kernel
theorem dX0_greyGap_64 : decode cX0_greyGap 64 = .ok (.goto (-37), 3) := by decide +kernel
theorem dX0_greyGap_67 : decode cX0_greyGap 67 = .ok (.iload_n 2, 1) := by decide +kernel
theorem dX0_greyGap_68 : decode cX0_greyGap 68 = .ok (.iload 5, 2) := by decide +kernel
theorem dX0_greyGap_70 : decode cX0_greyGap 70 = .ok (.iload 4, 2) := by decide +kernel
theorem dX0_greyGap_72 : decode cX0_greyGap 72 = .ok (.isub, 1) := by decide +kernel
theorem dX0_greyGap_73 : decode cX0_greyGap 73 = .ok (.invokestatic 125, 3) := by decide +kernel
theorem dX0_greyGap_76 : decode cX0_greyGap 76 = .ok (.istore_n 2, 1) := by decide +kernel
theorem dX0_greyGap_77 : decode cX0_greyGap 77 = .ok (.iinc 3 1, 3) := by decide +kernel
theorem dX0_greyGap_80 : decode cX0_greyGap 80 = .ok (.goto (-71), 3) := by decide +kernel
theorem dX0_greyGap_83 : decode cX0_greyGap 83 = .ok (.iload_n 2, 1) := by decide +kernel
theorem dX0_greyGap_84 : decode cX0_greyGap 84 = .ok (.ireturn, 1) := by decide +kernel
set_option maxRecDepth 20000 in
theorem ggX0_join_X0_needChain : GoodIn wsX0_join wsX0_needChain := goodIn_ca (goodIn_r _ [10, 11, 12, 13, 70, 71, 72, 73, 74, 75, 76, 77, 78, 79, 80, 81, 82, 83, 84] (by decide +kernel) (by decide +kernel)) (goodIn_sub (fun _ h => List.mem_cons_of_mem _ (List.mem_append_left _ (List.mem_append_right _ h))) (by decide +kernel))
set_option maxRecDepth 20000 in
theorem gX0_join_X0_needChain : GoodIn wsX0_join (wsV RX0 99 RX0 yX0_needChain wsX0_needChain) := goodIn_app (goodIn_of _ (by decide +kernel)) ggX0_join_X0_needChain
set_option maxRecDepth 20000 in
theorem ggX0_join_X0_needValue : GoodIn wsX0_join wsX0_needValue := goodIn_ca (goodIn_r _ [16, 17, 18] (by decide +kernel) (by decide +kernel)) (goodIn_sub (fun _ h => List.mem_cons_of_mem _ (List.mem_append_right _ h)) (by decide +kernel))
set_option maxRecDepth 20000 in
theorem gX0_join_X0_needValue : GoodIn wsX0_join (va_wsS RX0 74 yX0_needValue wsX0_needValue) := goodIn_app (goodIn_of _ (by decide +kernel)) ggX0_join_X0_needValue
set_option maxRecDepth 20000 in
theorem ggX0_join_X0_tryJoining : GoodIn wsX0_join wsX0_tryJoining := goodIn_r _ [22, 4, 23, 24, 25, 26, 27, 28, 29, 30, 31, 9, 32, 33, 34, 35, 36, 37, 38, 39, 40, 41, 42, 43, 44, 45, 46, 47, 48, 49, 50, 51, 52, 53, 54, 55, 56, 57, 58, 59, 60, 61, 62, 63, 64, 65, 66, 67, 68, 69, 70, 71, 72, 73, 74, 75, 76, 77, 78, 79, 80, 81, 82, 83, 84] (by decide +kernel) (by decide +kernel)
set_option maxRecDepth 20000 in
theorem gX0_join_X0_tryJoining : GoodIn wsX0_join (wsV RX0 116 RX0 yX0_tryJoining wsX0_tryJoining) := goodIn_app (goodIn_of _ (by decide +kernel)) ggX0_join_X0_tryJoining
set_option maxRecDepth 20000 in
theorem ggX0_join_X0_read : GoodIn wsX0_join wsX0_read := goodIn_r _ [44] (by decide +kernel) (by decide +kernel)
set_option maxRecDepth 20000 in
theorem gX0_join_X0_read : GoodIn wsX0_join (va_wsS RX0 105 yX0_read wsX0_read) := goodIn_app (goodIn_of _ (by decide +kernel)) ggX0_join_X0_read
set_option maxRecDepth 20000 in
theorem ggX0_join_X0_swap : GoodIn wsX0_join wsX0_swap := goodIn_r _ [69] (by decide +kernel) (by decide +kernel)
set_option maxRecDepth 20000 in
theorem gX0_join_X0_swap : GoodIn wsX0_join (va_wsS RX0 58 yX0_swap wsX0_swap) := goodIn_app (goodIn_of _ (by decide +kernel)) ggX0_join_X0_swap
theorem dX0_join_0 : decode cX0_join 0 = .ok (.aload_n 0, 1) := by decide +kernel
theorem dX0_join_1 : decode cX0_join 1 = .ok (.iload_n 1, 1) := by decide +kernel
theorem dX0_join_2 : decode cX0_join 2 = .ok (.invokevirtual 99, 3) := by decide +kernel
theorem dX0_join_5 : decode cX0_join 5 = .ok (.iload_n 2, 1) := by decide +kernel
theorem dX0_join_6 : decode cX0_join 6 = .ok (.invokestatic 74, 3) := by decide +kernel
theorem dX0_join_9 : decode cX0_join 9 = .ok (.aload_n 0, 1) := by decide +kernel
theorem dX0_join_10 : decode cX0_join 10 = .ok (.iload_n 1, 1) := by decide +kernel
theorem dX0_join_11 : decode cX0_join 11 = .ok (.invokevirtual 116, 3) := by decide +kernel
theorem dX0_join_14 : decode cX0_join 14 = .ok (.istore_n 3, 1) := by decide +kernel
theorem dX0_join_15 : decode cX0_join 15 = .ok (.iload_n 3, 1) := by decide +kernel
theorem dX0_join_16 : decode cX0_join 16 = .ok (.iload_n 2, 1) := by decide +kernel
theorem dX0_join_17 : decode cX0_join 17 = .ok (.if_icmp .le 13, 3) := by decide +kernel
theorem dX0_join_20 : decode cX0_join 20 = .ok (.new 47, 3) := by decide +kernel
theorem dX0_join_23 : decode cX0_join 23 = .ok (.dup, 1) := by decide +kernel
theorem dX0_join_24 : decode cX0_join 24 = .ok (.ldc 128, 2) := by decide +kernel
theorem dX0_join_26 : decode cX0_join 26 = .ok (.invokespecial 51, 3) := by decide +kernel
theorem dX0_join_29 : decode cX0_join 29 = .ok (.athrow, 1) := by decide +kernel
theorem dX0_join_30 : decode cX0_join 30 = .ok (.iconst 0, 1) := by decide +kernel
theorem dX0_join_31 : decode cX0_join 31 = .ok (.istore 4, 2) := by decide +kernel
theorem dX0_join_33 : decode cX0_join 33 = .ok (.iload 4, 2) := by decide +kernel
theorem dX0_join_35 : decode cX0_join 35 = .ok (.bipush 15, 2) := by decide +kernel
theorem dX0_join_37 : decode cX0_join 37 = .ok (.if_icmp .ge 34, 3) := by decide +kernel
theorem dX0_join_40 : decode cX0_join 40 = .ok (.aload_n 0, 1) := by decide +kernel
theorem dX0_join_41 : decode cX0_join 41 = .ok (.getfield 28, 3) := by decide +kernel
theorem dX0_join_44 : decode cX0_join 44 = .ok (.iload_n 1, 1) := by decide +kernel
theorem dX0_join_45 : decode cX0_join 45 = .ok (.iconst 3, 1) := by decide +kernel
theorem dX0_join_46 : decode cX0_join 46 = .ok (.imul, 1) := by decide +kernel
theorem dX0_join_47 : decode cX0_join 47 = .ok (.iconst 5, 1) := by decide +kernel
theorem dX0_join_48 : decode cX0_join 48 = .ok (.imul, 1) := by decide +kernel
theorem dX0_join_49 : decode cX0_join 49 = .ok (.iload 4, 2) := by decide +kernel
theorem dX0_join_51 : decode cX0_join 51 = .ok (.iadd, 1) := by decide +kernel
theorem dX0_join_52 : decode cX0_join 52 = .ok (.aload_n 0, 1) := by decide +kernel
theorem dX0_join_53 : decode cX0_join 53 = .ok (.getfield 31, 3) := by decide +kernel
theorem dX0_join_56 : decode cX0_join 56 = .ok (.iload 4, 2) := by decide +kernel
theorem dX0_join_58 : decode cX0_join 58 = .ok (.invokestatic 105, 3) := by decide +kernel
theorem dX0_join_61 : decode cX0_join 61 = .ok (.invokestatic 58, 3) := by decide +kernel
theorem dX0_join_64 : decode cX0_join 64 = .ok (.pop, 1) := by decide +kernel
theorem dX0_join_65 : decode cX0_join 65 = .ok (.iinc 4 1, 3) := by decide +kernel
theorem dX0_join_68 : decode cX0_join 68 = .ok (.goto (-35), 3) := by decide +kernel
theorem dX0_join_71 : decode cX0_join 71 = .ok (.aload_n 0, 1) := by decide +kernel
theorem dX0_join_72 : decode cX0_join 72 = .ok (.aload_n 0, 1) := by decide +kernel
theorem dX0_join_73 : decode cX0_join 73 = .ok (.getfield 130, 3) := by decide +kernel
theorem dX0_join_76 : decode cX0_join 76 = .ok (.iconst 1, 1) := by decide +kernel
theorem dX0_join_77 : decode cX0_join 77 = .ok (.iload_n 1, 1) := by decide +kernel
theorem dX0_join_78 : decode cX0_join 78 = .ok (.ishl, 1) := by decide +kernel
theorem dX0_join_79 : decode cX0_join 79 = .ok (.ior, 1) := by decide +kernel
theorem dX0_join_80 : decode cX0_join 80 = .ok (.putfield 130, 3) := by decide +kernel
theorem dX0_join_83 : decode cX0_join 83 = .ok (.iload_n 3, 1) := by decide +kernel
theorem dX0_join_84 : decode cX0_join 84 = .ok (.ireturn, 1) := by decide +kernel
set_option maxRecDepth 20000 in
theorem ggX0_joined_X0_needChain : GoodIn wsX0_joined wsX0_needChain := goodIn_ca (goodIn_r _ [9, 10, 11, 12, 34, 35, 36, 37, 38, 39, 40, 41, 42, 43, 44, 45, 46, 47, 48] (by decide +kernel) (by decide +kernel)) (goodIn_sub (fun _ h => List.mem_cons_of_mem _ (List.mem_append_left _ (List.mem_append_right _ h))) (by decide +kernel))
set_option maxRecDepth 20000 in
theorem gX0_joined_X0_needChain : GoodIn wsX0_joined (wsV RX0 99 RX0 yX0_needChain wsX0_needChain) := goodIn_app (goodIn_of _ (by decide +kernel)) ggX0_joined_X0_needChain
set_option maxRecDepth 20000 in
theorem ggX0_joined_X0_needBand : GoodIn wsX0_joined wsX0_needBand := goodIn_ca (goodIn_r _ [15, 10, 11] (by decide +kernel) (by decide +kernel)) (goodIn_sub (fun _ h => List.mem_cons_of_mem _ (List.mem_append_left _ (List.mem_append_right _ h))) (by decide +kernel))
set_option maxRecDepth 20000 in
theorem gX0_joined_X0_needBand : GoodIn wsX0_joined (va_wsS RX0 66 yX0_needBand wsX0_needBand) := goodIn_app (goodIn_of _ (by decide +kernel)) ggX0_joined_X0_needBand
set_option maxRecDepth 20000 in
theorem ggX0_joined_X0_needValue : GoodIn wsX0_joined wsX0_needValue := goodIn_ca (goodIn_r _ [18, 19, 20] (by decide +kernel) (by decide +kernel)) (goodIn_sub (fun _ h => List.mem_cons_of_mem _ (List.mem_append_right _ h)) (by decide +kernel))
set_option maxRecDepth 20000 in
theorem gX0_joined_X0_needValue : GoodIn wsX0_joined (va_wsS RX0 74 yX0_needValue wsX0_needValue) := goodIn_app (goodIn_of _ (by decide +kernel)) ggX0_joined_X0_needValue
set_option maxRecDepth 20000 in
theorem ggX0_joined_X0_hasBit : GoodIn wsX0_joined wsX0_hasBit := goodIn_r _ [23] (by decide +kernel) (by decide +kernel)
set_option maxRecDepth 20000 in
theorem gX0_joined_X0_hasBit : GoodIn wsX0_joined (va_wsS RX0 133 yX0_hasBit wsX0_hasBit) := goodIn_app (goodIn_of _ (by decide +kernel)) ggX0_joined_X0_hasBit
set_option maxRecDepth 20000 in
theorem ggX0_joined_X0_between : GoodIn wsX0_joined wsX0_between := goodIn_r _ [26, 27, 28, 8, 29, 30, 31, 32, 33] (by decide +kernel) (by decide +kernel)
set_option maxRecDepth 20000 in
theorem gX0_joined_X0_between : GoodIn wsX0_joined (va_wsS RX0 139 yX0_between wsX0_between) := goodIn_app (goodIn_of _ (by decide +kernel)) ggX0_joined_X0_between
theorem dX0_joined_0 : decode cX0_joined 0 = .ok (.aload_n 0, 1) := by decide +kernel
theorem dX0_joined_1 : decode cX0_joined 1 = .ok (.iload_n 1, 1) := by decide +kernel
theorem dX0_joined_2 : decode cX0_joined 2 = .ok (.invokevirtual 99, 3) := by decide +kernel
theorem dX0_joined_5 : decode cX0_joined 5 = .ok (.iload_n 2, 1) := by decide +kernel
theorem dX0_joined_6 : decode cX0_joined 6 = .ok (.invokestatic 66, 3) := by decide +kernel
theorem dX0_joined_9 : decode cX0_joined 9 = .ok (.iload_n 3, 1) := by decide +kernel
theorem dX0_joined_10 : decode cX0_joined 10 = .ok (.invokestatic 74, 3) := by decide +kernel
theorem dX0_joined_13 : decode cX0_joined 13 = .ok (.aload_n 0, 1) := by decide +kernel
theorem dX0_joined_14 : decode cX0_joined 14 = .ok (.getfield 130, 3) := by decide +kernel
theorem dX0_joined_17 : decode cX0_joined 17 = .ok (.iload_n 1, 1) := by decide +kernel
theorem dX0_joined_18 : decode cX0_joined 18 = .ok (.invokestatic 133, 3) := by decide +kernel
theorem dX0_joined_21 : decode cX0_joined 21 = .ok (.ifCond .ne 13, 3) := by decide +kernel
theorem dX0_joined_24 : decode cX0_joined 24 = .ok (.new 47, 3) := by decide +kernel
theorem dX0_joined_27 : decode cX0_joined 27 = .ok (.dup, 1) := by decide +kernel
theorem dX0_joined_28 : decode cX0_joined 28 = .ok (.ldc 137, 2) := by decide +kernel
theorem dX0_joined_30 : decode cX0_joined 30 = .ok (.invokespecial 51, 3) := by decide +kernel
theorem dX0_joined_33 : decode cX0_joined 33 = .ok (.athrow, 1) := by decide +kernel
theorem dX0_joined_34 : decode cX0_joined 34 = .ok (.aload_n 0, 1) := by decide +kernel
theorem dX0_joined_35 : decode cX0_joined 35 = .ok (.getfield 28, 3) := by decide +kernel
theorem dX0_joined_38 : decode cX0_joined 38 = .ok (.iload_n 1, 1) := by decide +kernel
theorem dX0_joined_39 : decode cX0_joined 39 = .ok (.iconst 3, 1) := by decide +kernel
theorem dX0_joined_40 : decode cX0_joined 40 = .ok (.imul, 1) := by decide +kernel
theorem dX0_joined_41 : decode cX0_joined 41 = .ok (.iload_n 2, 1) := by decide +kernel
theorem dX0_joined_42 : decode cX0_joined 42 = .ok (.iadd, 1) := by decide +kernel
theorem dX0_joined_43 : decode cX0_joined 43 = .ok (.iconst 5, 1) := by decide +kernel
theorem dX0_joined_44 : decode cX0_joined 44 = .ok (.imul, 1) := by decide +kernel
theorem dX0_joined_45 : decode cX0_joined 45 = .ok (.iload_n 3, 1) := by decide +kernel
theorem dX0_joined_46 : decode cX0_joined 46 = .ok (.invokestatic 139, 3) := by decide +kernel
theorem dX0_joined_49 : decode cX0_joined 49 = .ok (.ireturn, 1) := by decide +kernel
set_option maxRecDepth 20000 in
theorem ggX0_stale_X0_hasBit : GoodIn wsX0_stale wsX0_hasBit := goodIn_r _ [5] (by decide +kernel) (by decide +kernel)
set_option maxRecDepth 20000 in
theorem gX0_stale_X0_hasBit : GoodIn wsX0_stale (va_wsS RX0 133 yX0_hasBit wsX0_hasBit) := goodIn_app (goodIn_of _ (by decide +kernel)) ggX0_stale_X0_hasBit
set_option maxRecDepth 20000 in
theorem ggX0_stale_X0_differsFromKept : GoodIn wsX0_stale wsX0_differsFromKept := goodIn_r _ [9, 10, 11, 12, 4, 13, 14, 15, 16, 17, 18, 19, 20, 21, 22, 23, 24, 25, 26, 27, 28, 29, 30, 31, 32, 33, 34, 35, 36, 37, 38, 39, 40, 41, 42, 43, 44, 45, 46, 47, 48, 49, 50, 51, 52, 53, 54, 55, 56, 57, 58, 59, 60, 61, 62, 63, 64, 65, 66] (by decide +kernel) (by decide +kernel)
set_option maxRecDepth 20000 in
theorem gX0_stale_X0_differsFromKept : GoodIn wsX0_stale (wsV RX0 142 RX0 yX0_differsFromKept wsX0_differsFromKept) := goodIn_app (goodIn_of _ (by decide +kernel)) ggX0_stale_X0_differsFromKept
theorem dX0_stale_0 : decode cX0_stale 0 = .ok (.iconst 0, 1) := by decide +kernel
theorem dX0_stale_1 : decode cX0_stale 1 = .ok (.istore_n 1, 1) := by decide +kernel
theorem dX0_stale_2 : decode cX0_stale 2 = .ok (.iconst 0, 1) := by decide +kernel
theorem dX0_stale_3 : decode cX0_stale 3 = .ok (.istore_n 2, 1) := by decide +kernel
theorem dX0_stale_4 : decode cX0_stale 4 = .ok (.iload_n 2, 1) := by decide +kernel
theorem dX0_stale_5 : decode cX0_stale 5 = .ok (.bipush 6, 2) := by decide +kernel
theorem dX0_stale_7 : decode cX0_stale 7 = .ok (.if_icmp .ge 34, 3) := by decide +kernel
theorem dX0_stale_10 : decode cX0_stale 10 = .ok (.aload_n 0, 1) := by decide +kernel
theorem dX0_stale_11 : decode cX0_stale 11 = .ok (.getfield 130, 3) := by decide +kernel
theorem dX0_stale_14 : decode cX0_stale 14 = .ok (.iload_n 2, 1) := by decide +kernel
theorem dX0_stale_15 : decode cX0_stale 15 = .ok (.invokestatic 133, 3) := by decide +kernel
theorem dX0_stale_18 : decode cX0_stale 18 = .ok (.ifCond .eq 17, 3) := by decide +kernel
theorem dX0_stale_21 : decode cX0_stale 21 = .ok (.aload_n 0, 1) := by decide +kernel
theorem dX0_stale_22 : decode cX0_stale 22 = .ok (.iload_n 2, 1) := by decide +kernel
theorem dX0_stale_23 : decode cX0_stale 23 = .ok (.invokevirtual 142, 3) := by decide +kernel
theorem dX0_stale_26 : decode cX0_stale 26 = .ok (.ifCond .eq 9, 3) := by decide +kernel
theorem dX0_stale_29 : decode cX0_stale 29 = .ok (.iload_n 1, 1) := by decide +kernel
theorem dX0_stale_30 : decode cX0_stale 30 = .ok (.iconst 1, 1) := by decide +kernel
theorem dX0_stale_31 : decode cX0_stale 31 = .ok (.iload_n 2, 1) := by decide +kernel
theorem dX0_stale_32 : decode cX0_stale 32 = .ok (.ishl, 1) := by decide +kernel
theorem dX0_stale_33 : decode cX0_stale 33 = .ok (.ior, 1) := by decide +kernel
theorem dX0_stale_34 : decode cX0_stale 34 = .ok (.istore_n 1, 1) := by decide +kernel
theorem dX0_stale_35 : decode cX0_stale 35 = .ok (.iinc 2 1, 3) := by decide +kernel
theorem dX0_stale_38 : decode cX0_stale 38 = .ok (.goto (-34), 3) := by decide +kernel
theorem dX0_stale_41 : decode cX0_stale 41 = .ok (.iload_n 1, 1) := by decide +kernel
theorem dX0_stale_42 : decode cX0_stale 42 = .ok (.ireturn, 1) := by decide +kernel
set_option maxRecDepth 20000 in
theorem ggX0_sign_X0_needChain : GoodIn wsX0_sign wsX0_needChain := goodIn_ca (goodIn_r _ [6, 7, 8, 9, 13, 14, 15, 16, 17, 18, 19, 20, 21, 22, 23, 24, 25, 26, 27] (by decide +kernel) (by decide +kernel)) (goodIn_sub (fun _ h => List.mem_cons_of_mem _ (List.mem_append_right _ h)) (by decide +kernel))
set_option maxRecDepth 20000 in
theorem gX0_sign_X0_needChain : GoodIn wsX0_sign (wsV RX0 99 RX0 yX0_needChain wsX0_needChain) := goodIn_app (goodIn_of _ (by decide +kernel)) ggX0_sign_X0_needChain
set_option maxRecDepth 20000 in
theorem ggX0_sign_X0_hasBit : GoodIn wsX0_sign wsX0_hasBit := goodIn_r _ [12] (by decide +kernel) (by decide +kernel)
set_option maxRecDepth 20000 in
theorem gX0_sign_X0_hasBit : GoodIn wsX0_sign (va_wsS RX0 133 yX0_hasBit wsX0_hasBit) := goodIn_app (goodIn_of _ (by decide +kernel)) ggX0_sign_X0_hasBit
theorem dX0_sign_0 : decode cX0_sign 0 = .ok (.aload_n 0, 1) := by decide +kernel
theorem dX0_sign_1 : decode cX0_sign 1 = .ok (.iload_n 1, 1) := by decide +kernel
theorem dX0_sign_2 : decode cX0_sign 2 = .ok (.invokevirtual 99, 3) := by decide +kernel
theorem dX0_sign_5 : decode cX0_sign 5 = .ok (.aload_n 0, 1) := by decide +kernel
theorem dX0_sign_6 : decode cX0_sign 6 = .ok (.aload_n 0, 1) := by decide +kernel
theorem dX0_sign_7 : decode cX0_sign 7 = .ok (.getfield 146, 3) := by decide +kernel
theorem dX0_sign_10 : decode cX0_sign 10 = .ok (.iconst 1, 1) := by decide +kernel
theorem dX0_sign_11 : decode cX0_sign 11 = .ok (.iload_n 1, 1) := by decide +kernel
theorem dX0_sign_12 : decode cX0_sign 12 = .ok (.ishl, 1) := by decide +kernel
theorem dX0_sign_13 : decode cX0_sign 13 = .ok (.ixor, 1) := by decide +kernel
theorem dX0_sign_14 : decode cX0_sign 14 = .ok (.putfield 146, 3) := by decide +kernel
theorem dX0_sign_17 : decode cX0_sign 17 = .ok (.aload_n 0, 1) := by decide +kernel
theorem dX0_sign_18 : decode cX0_sign 18 = .ok (.getfield 146, 3) := by decide +kernel
theorem dX0_sign_21 : decode cX0_sign 21 = .ok (.iload_n 1, 1) := by decide +kernel
theorem dX0_sign_22 : decode cX0_sign 22 = .ok (.invokestatic 133, 3) := by decide +kernel
theorem dX0_sign_25 : decode cX0_sign 25 = .ok (.ireturn, 1) := by decide +kernel
set_option maxRecDepth 20000 in
theorem ggX0_held_X0_hasBit : GoodIn wsX0_held wsX0_hasBit := goodIn_r _ [5] (by decide +kernel) (by decide +kernel)
set_option maxRecDepth 20000 in
theorem gX0_held_X0_hasBit : GoodIn wsX0_held (va_wsS RX0 133 yX0_hasBit wsX0_hasBit) := goodIn_app (goodIn_of _ (by decide +kernel)) ggX0_held_X0_hasBit
set_option maxRecDepth 20000 in
theorem ggX0_held_X0_profilesOf : GoodIn wsX0_held wsX0_profilesOf := goodIn_r _ [9, 10, 11, 12, 13, 4, 14, 15, 16, 17, 18, 19, 20, 21, 22, 23, 24, 25, 26, 27, 28, 29] (by decide +kernel) (by decide +kernel)
set_option maxRecDepth 20000 in
theorem gX0_held_X0_profilesOf : GoodIn wsX0_held (wsV RX0 149 RX0 yX0_profilesOf wsX0_profilesOf) := goodIn_app (goodIn_of _ (by decide +kernel)) ggX0_held_X0_profilesOf
theorem dX0_held_0 : decode cX0_held 0 = .ok (.iconst 0, 1) := by decide +kernel
theorem dX0_held_1 : decode cX0_held 1 = .ok (.istore_n 1, 1) := by decide +kernel
theorem dX0_held_2 : decode cX0_held 2 = .ok (.iconst 0, 1) := by decide +kernel
theorem dX0_held_3 : decode cX0_held 3 = .ok (.istore_n 2, 1) := by decide +kernel
theorem dX0_held_4 : decode cX0_held 4 = .ok (.iload_n 2, 1) := by decide +kernel
theorem dX0_held_5 : decode cX0_held 5 = .ok (.bipush 6, 2) := by decide +kernel
theorem dX0_held_7 : decode cX0_held 7 = .ok (.if_icmp .ge 28, 3) := by decide +kernel
theorem dX0_held_10 : decode cX0_held 10 = .ok (.aload_n 0, 1) := by decide +kernel
theorem dX0_held_11 : decode cX0_held 11 = .ok (.getfield 146, 3) := by decide +kernel
theorem dX0_held_14 : decode cX0_held 14 = .ok (.iload_n 2, 1) := by decide +kernel
theorem dX0_held_15 : decode cX0_held 15 = .ok (.invokestatic 133, 3) := by decide +kernel
theorem dX0_held_18 : decode cX0_held 18 = .ok (.ifCond .eq 11, 3) := by decide +kernel
theorem dX0_held_21 : decode cX0_held 21 = .ok (.iload_n 1, 1) := by decide +kernel
theorem dX0_held_22 : decode cX0_held 22 = .ok (.aload_n 0, 1) := by decide +kernel
theorem dX0_held_23 : decode cX0_held 23 = .ok (.iload_n 2, 1) := by decide +kernel
theorem dX0_held_24 : decode cX0_held 24 = .ok (.invokevirtual 149, 3) := by decide +kernel
theorem dX0_held_27 : decode cX0_held 27 = .ok (.ior, 1) := by decide +kernel
theorem dX0_held_28 : decode cX0_held 28 = .ok (.istore_n 1, 1) := by decide +kernel
theorem dX0_held_29 : decode cX0_held 29 = .ok (.iinc 2 1, 3) := by decide +kernel
theorem dX0_held_32 : decode cX0_held 32 = .ok (.goto (-28), 3) := by decide +kernel
theorem dX0_held_35 : decode cX0_held 35 = .ok (.iload_n 1, 1) := by decide +kernel
theorem dX0_held_36 : decode cX0_held 36 = .ok (.ireturn, 1) := by decide +kernel
set_option maxRecDepth 20000 in
theorem ggX0_paint_X0_needPixel : GoodIn wsX0_paint wsX0_needPixel := goodIn_ca (goodIn_r _ [5, 6, 7] (by decide +kernel) (by decide +kernel)) (goodIn_sub (fun _ h => List.mem_cons_of_mem _ (List.mem_append_left _ (List.mem_append_right _ h))) (by decide +kernel))
set_option maxRecDepth 20000 in
theorem gX0_paint_X0_needPixel : GoodIn wsX0_paint (va_wsS RX0 152 yX0_needPixel wsX0_needPixel) := goodIn_app (goodIn_of _ (by decide +kernel)) ggX0_paint_X0_needPixel
set_option maxRecDepth 20000 in
theorem ggX0_paint_X0_needBand : GoodIn wsX0_paint wsX0_needBand := goodIn_ca (goodIn_r _ [10, 6, 7] (by decide +kernel) (by decide +kernel)) (goodIn_sub (fun _ h => List.mem_cons_of_mem _ (List.mem_append_left _ (List.mem_append_right _ h))) (by decide +kernel))
set_option maxRecDepth 20000 in
theorem gX0_paint_X0_needBand : GoodIn wsX0_paint (va_wsS RX0 66 yX0_needBand wsX0_needBand) := goodIn_app (goodIn_of _ (by decide +kernel)) ggX0_paint_X0_needBand
set_option maxRecDepth 20000 in
theorem ggX0_paint_X0_needValue : GoodIn wsX0_paint wsX0_needValue := goodIn_ca (goodIn_r _ [13, 14, 15] (by decide +kernel) (by decide +kernel)) (goodIn_sub (fun _ h => List.mem_cons_of_mem _ (List.mem_append_right _ h)) (by decide +kernel))
set_option maxRecDepth 20000 in
theorem gX0_paint_X0_needValue : GoodIn wsX0_paint (va_wsS RX0 74 yX0_needValue wsX0_needValue) := goodIn_app (goodIn_of _ (by decide +kernel)) ggX0_paint_X0_needValue
set_option maxRecDepth 20000 in
theorem ggX0_paint_X0_swap : GoodIn wsX0_paint wsX0_swap := goodIn_r _ [18] (by decide +kernel) (by decide +kernel)
set_option maxRecDepth 20000 in
theorem gX0_paint_X0_swap : GoodIn wsX0_paint (va_wsS RX0 58 yX0_swap wsX0_swap) := goodIn_app (goodIn_of _ (by decide +kernel)) ggX0_paint_X0_swap
theorem dX0_paint_0 : decode cX0_paint 0 = .ok (.iload_n 1, 1) := by decide +kernel
theorem dX0_paint_1 : decode cX0_paint 1 = .ok (.invokestatic 152, 3) := by decide +kernel
theorem dX0_paint_4 : decode cX0_paint 4 = .ok (.iload_n 2, 1) := by decide +kernel
theorem dX0_paint_5 : decode cX0_paint 5 = .ok (.invokestatic 66, 3) := by decide +kernel
theorem dX0_paint_8 : decode cX0_paint 8 = .ok (.iload_n 3, 1) := by decide +kernel
theorem dX0_paint_9 : decode cX0_paint 9 = .ok (.invokestatic 74, 3) := by decide +kernel
theorem dX0_paint_12 : decode cX0_paint 12 = .ok (.aload_n 0, 1) := by decide +kernel
theorem dX0_paint_13 : decode cX0_paint 13 = .ok (.getfield 34, 3) := by decide +kernel
theorem dX0_paint_16 : decode cX0_paint 16 = .ok (.iload_n 1, 1) := by decide +kernel
theorem dX0_paint_17 : decode cX0_paint 17 = .ok (.iconst 3, 1) := by decide +kernel
theorem dX0_paint_18 : decode cX0_paint 18 = .ok (.imul, 1) := by decide +kernel
theorem dX0_paint_19 : decode cX0_paint 19 = .ok (.iload_n 2, 1) := by decide +kernel
theorem dX0_paint_20 : decode cX0_paint 20 = .ok (.iadd, 1) := by decide +kernel
theorem dX0_paint_21 : decode cX0_paint 21 = .ok (.iload_n 3, 1) := by decide +kernel
theorem dX0_paint_22 : decode cX0_paint 22 = .ok (.invokestatic 58, 3) := by decide +kernel
theorem dX0_paint_25 : decode cX0_paint 25 = .ok (.ireturn, 1) := by decide +kernel
set_option maxRecDepth 20000 in
theorem ggX0_spot_X0_needPixel : GoodIn wsX0_spot wsX0_needPixel := goodIn_ca (goodIn_r _ [5, 6, 7] (by decide +kernel) (by decide +kernel)) (goodIn_sub (fun _ h => List.mem_cons_of_mem _ (List.mem_append_left _ (List.mem_append_right _ h))) (by decide +kernel))
set_option maxRecDepth 20000 in
theorem gX0_spot_X0_needPixel : GoodIn wsX0_spot (va_wsS RX0 152 yX0_needPixel wsX0_needPixel) := goodIn_app (goodIn_of _ (by decide +kernel)) ggX0_spot_X0_needPixel
set_option maxRecDepth 20000 in
theorem ggX0_spot_X0_needInk : GoodIn wsX0_spot wsX0_needInk := goodIn_ca (goodIn_r _ [10, 6, 7] (by decide +kernel) (by decide +kernel)) (goodIn_sub (fun _ h => List.mem_cons_of_mem _ (List.mem_append_left _ (List.mem_append_right _ h))) (by decide +kernel))
set_option maxRecDepth 20000 in
theorem gX0_spot_X0_needInk : GoodIn wsX0_spot (va_wsS RX0 155 yX0_needInk wsX0_needInk) := goodIn_app (goodIn_of _ (by decide +kernel)) ggX0_spot_X0_needInk
set_option maxRecDepth 20000 in
theorem ggX0_spot_X0_needValue : GoodIn wsX0_spot wsX0_needValue := goodIn_ca (goodIn_r _ [13, 14, 15] (by decide +kernel) (by decide +kernel)) (goodIn_sub (fun _ h => List.mem_cons_of_mem _ (List.mem_append_right _ h)) (by decide +kernel))
set_option maxRecDepth 20000 in
theorem gX0_spot_X0_needValue : GoodIn wsX0_spot (va_wsS RX0 74 yX0_needValue wsX0_needValue) := goodIn_app (goodIn_of _ (by decide +kernel)) ggX0_spot_X0_needValue
set_option maxRecDepth 20000 in
theorem ggX0_spot_X0_swap : GoodIn wsX0_spot wsX0_swap := goodIn_r _ [18] (by decide +kernel) (by decide +kernel)
set_option maxRecDepth 20000 in
theorem gX0_spot_X0_swap : GoodIn wsX0_spot (va_wsS RX0 58 yX0_swap wsX0_swap) := goodIn_app (goodIn_of _ (by decide +kernel)) ggX0_spot_X0_swap
theorem dX0_spot_0 : decode cX0_spot 0 = .ok (.iload_n 1, 1) := by decide +kernel
theorem dX0_spot_1 : decode cX0_spot 1 = .ok (.invokestatic 152, 3) := by decide +kernel
theorem dX0_spot_4 : decode cX0_spot 4 = .ok (.iload_n 2, 1) := by decide +kernel
theorem dX0_spot_5 : decode cX0_spot 5 = .ok (.invokestatic 155, 3) := by decide +kernel
theorem dX0_spot_8 : decode cX0_spot 8 = .ok (.iload_n 3, 1) := by decide +kernel
theorem dX0_spot_9 : decode cX0_spot 9 = .ok (.invokestatic 74, 3) := by decide +kernel
theorem dX0_spot_12 : decode cX0_spot 12 = .ok (.aload_n 0, 1) := by decide +kernel
theorem dX0_spot_13 : decode cX0_spot 13 = .ok (.getfield 37, 3) := by decide +kernel
theorem dX0_spot_16 : decode cX0_spot 16 = .ok (.iload_n 1, 1) := by decide +kernel
theorem dX0_spot_17 : decode cX0_spot 17 = .ok (.iconst 3, 1) := by decide +kernel
theorem dX0_spot_18 : decode cX0_spot 18 = .ok (.imul, 1) := by decide +kernel
theorem dX0_spot_19 : decode cX0_spot 19 = .ok (.iload_n 2, 1) := by decide +kernel
theorem dX0_spot_20 : decode cX0_spot 20 = .ok (.iadd, 1) := by decide +kernel
theorem dX0_spot_21 : decode cX0_spot 21 = .ok (.iload_n 3, 1) := by decide +kernel
theorem dX0_spot_22 : decode cX0_spot 22 = .ok (.invokestatic 58, 3) := by decide +kernel
theorem dX0_spot_25 : decode cX0_spot 25 = .ok (.ireturn, 1) := by decide +kernel
set_option maxRecDepth 20000 in
theorem ggX0_mix_X0_needInk : GoodIn wsX0_mix wsX0_needInk := goodIn_ca (goodIn_r _ [5, 6, 7] (by decide +kernel) (by decide +kernel)) (goodIn_sub (fun _ h => List.mem_cons_of_mem _ (List.mem_append_left _ (List.mem_append_right _ h))) (by decide +kernel))
set_option maxRecDepth 20000 in
theorem gX0_mix_X0_needInk : GoodIn wsX0_mix (va_wsS RX0 155 yX0_needInk wsX0_needInk) := goodIn_app (goodIn_of _ (by decide +kernel)) ggX0_mix_X0_needInk
set_option maxRecDepth 20000 in
theorem ggX0_mix_X0_needBand : GoodIn wsX0_mix wsX0_needBand := goodIn_ca (goodIn_r _ [10, 6, 7] (by decide +kernel) (by decide +kernel)) (goodIn_sub (fun _ h => List.mem_cons_of_mem _ (List.mem_append_left _ (List.mem_append_right _ h))) (by decide +kernel))
set_option maxRecDepth 20000 in
theorem gX0_mix_X0_needBand : GoodIn wsX0_mix (va_wsS RX0 66 yX0_needBand wsX0_needBand) := goodIn_app (goodIn_of _ (by decide +kernel)) ggX0_mix_X0_needBand
set_option maxRecDepth 20000 in
theorem ggX0_mix_X0_needValue : GoodIn wsX0_mix wsX0_needValue := goodIn_ca (goodIn_r _ [13, 14, 15] (by decide +kernel) (by decide +kernel)) (goodIn_sub (fun _ h => List.mem_cons_of_mem _ (List.mem_append_right _ h)) (by decide +kernel))
set_option maxRecDepth 20000 in
theorem gX0_mix_X0_needValue : GoodIn wsX0_mix (va_wsS RX0 74 yX0_needValue wsX0_needValue) := goodIn_app (goodIn_of _ (by decide +kernel)) ggX0_mix_X0_needValue
set_option maxRecDepth 20000 in
theorem ggX0_mix_X0_swap : GoodIn wsX0_mix wsX0_swap := goodIn_r _ [18] (by decide +kernel) (by decide +kernel)
set_option maxRecDepth 20000 in
theorem gX0_mix_X0_swap : GoodIn wsX0_mix (va_wsS RX0 58 yX0_swap wsX0_swap) := goodIn_app (goodIn_of _ (by decide +kernel)) ggX0_mix_X0_swap
theorem dX0_mix_0 : decode cX0_mix 0 = .ok (.iload_n 1, 1) := by decide +kernel
theorem dX0_mix_1 : decode cX0_mix 1 = .ok (.invokestatic 155, 3) := by decide +kernel
theorem dX0_mix_4 : decode cX0_mix 4 = .ok (.iload_n 2, 1) := by decide +kernel
theorem dX0_mix_5 : decode cX0_mix 5 = .ok (.invokestatic 66, 3) := by decide +kernel
theorem dX0_mix_8 : decode cX0_mix 8 = .ok (.iload_n 3, 1) := by decide +kernel
theorem dX0_mix_9 : decode cX0_mix 9 = .ok (.invokestatic 74, 3) := by decide +kernel
theorem dX0_mix_12 : decode cX0_mix 12 = .ok (.aload_n 0, 1) := by decide +kernel
theorem dX0_mix_13 : decode cX0_mix 13 = .ok (.getfield 40, 3) := by decide +kernel
theorem dX0_mix_16 : decode cX0_mix 16 = .ok (.iload_n 1, 1) := by decide +kernel
theorem dX0_mix_17 : decode cX0_mix 17 = .ok (.iconst 3, 1) := by decide +kernel
theorem dX0_mix_18 : decode cX0_mix 18 = .ok (.imul, 1) := by decide +kernel
theorem dX0_mix_19 : decode cX0_mix 19 = .ok (.iload_n 2, 1) := by decide +kernel
theorem dX0_mix_20 : decode cX0_mix 20 = .ok (.iadd, 1) := by decide +kernel
theorem dX0_mix_21 : decode cX0_mix 21 = .ok (.iload_n 3, 1) := by decide +kernel
theorem dX0_mix_22 : decode cX0_mix 22 = .ok (.invokestatic 58, 3) := by decide +kernel
theorem dX0_mix_25 : decode cX0_mix 25 = .ok (.ireturn, 1) := by decide +kernel
set_option maxRecDepth 20000 in
theorem ggX0_shown_X0_needChain : GoodIn wsX0_shown wsX0_needChain := goodIn_ca (goodIn_r _ [7, 8, 9, 10, 65, 66, 67, 68, 69, 70, 71, 72, 73, 74, 75, 76, 77, 78, 79] (by decide +kernel) (by decide +kernel)) (goodIn_sub (fun _ h => List.mem_cons_of_mem _ (List.mem_append_right _ h)) (by decide +kernel))
set_option maxRecDepth 20000 in
theorem gX0_shown_X0_needChain : GoodIn wsX0_shown (wsV RX0 99 RX0 yX0_needChain wsX0_needChain) := goodIn_app (goodIn_of _ (by decide +kernel)) ggX0_shown_X0_needChain
set_option maxRecDepth 20000 in
theorem ggX0_shown_X0_needPixel : GoodIn wsX0_shown wsX0_needPixel := goodIn_ca (goodIn_r _ [13, 8, 9] (by decide +kernel) (by decide +kernel)) (goodIn_sub (fun _ h => List.mem_cons_of_mem _ (List.mem_append_right _ h)) (by decide +kernel))
set_option maxRecDepth 20000 in
theorem gX0_shown_X0_needPixel : GoodIn wsX0_shown (va_wsS RX0 152 yX0_needPixel wsX0_needPixel) := goodIn_app (goodIn_of _ (by decide +kernel)) ggX0_shown_X0_needPixel
set_option maxRecDepth 20000 in
theorem ggX0_shown_X0_needBand : GoodIn wsX0_shown wsX0_needBand := goodIn_ca (goodIn_r _ [16, 8, 9] (by decide +kernel) (by decide +kernel)) (goodIn_sub (fun _ h => List.mem_cons_of_mem _ (List.mem_append_right _ h)) (by decide +kernel))
set_option maxRecDepth 20000 in
theorem gX0_shown_X0_needBand : GoodIn wsX0_shown (va_wsS RX0 66 yX0_needBand wsX0_needBand) := goodIn_app (goodIn_of _ (by decide +kernel)) ggX0_shown_X0_needBand
set_option maxRecDepth 20000 in
theorem ggX0_shown_X0_inked : GoodIn wsX0_shown wsX0_inked := goodIn_r _ [20, 21, 22, 23, 24, 25, 26, 27, 28, 29, 6, 30, 31, 32, 33, 65, 66, 67, 68, 69, 70, 71, 72, 73, 74, 75, 76, 77, 78, 79] (by decide +kernel) (by decide +kernel)
set_option maxRecDepth 20000 in
theorem gX0_shown_X0_inked : GoodIn wsX0_shown (wsV RX0 160 RX0 yX0_inked wsX0_inked) := goodIn_app (goodIn_of _ (by decide +kernel)) ggX0_shown_X0_inked
set_option maxRecDepth 20000 in
theorem ggX0_shown_X0_pass : GoodIn wsX0_shown wsX0_pass := goodIn_r _ [37, 38, 39, 28, 29, 6, 30, 40, 41, 42, 43, 44, 45, 46, 24, 25, 26, 27, 47, 48, 49, 50, 51, 52, 53, 54, 55, 56, 57, 58, 59, 60, 61, 62, 63, 64, 65, 66, 67, 68, 69, 70, 71, 72, 73, 74, 75, 76, 77, 78, 79] (by decide +kernel) (by decide +kernel)
set_option maxRecDepth 20000 in
theorem gX0_shown_X0_pass : GoodIn wsX0_shown (wsV RX0 113 RX0 yX0_pass wsX0_pass) := goodIn_app (goodIn_of _ (by decide +kernel)) ggX0_shown_X0_pass
theorem dX0_shown_0 : decode cX0_shown 0 = .ok (.aload_n 0, 1) := by decide +kernel
theorem dX0_shown_1 : decode cX0_shown 1 = .ok (.iload_n 1, 1) := by decide +kernel
theorem dX0_shown_2 : decode cX0_shown 2 = .ok (.invokevirtual 99, 3) := by decide +kernel
theorem dX0_shown_5 : decode cX0_shown 5 = .ok (.iload_n 2, 1) := by decide +kernel
theorem dX0_shown_6 : decode cX0_shown 6 = .ok (.invokestatic 152, 3) := by decide +kernel
theorem dX0_shown_9 : decode cX0_shown 9 = .ok (.iload_n 3, 1) := by decide +kernel
theorem dX0_shown_10 : decode cX0_shown 10 = .ok (.invokestatic 66, 3) := by decide +kernel
theorem dX0_shown_13 : decode cX0_shown 13 = .ok (.iload 4, 2) := by decide +kernel
theorem dX0_shown_15 : decode cX0_shown 15 = .ok (.ifCond .lt 10, 3) := by decide +kernel
theorem dX0_shown_18 : decode cX0_shown 18 = .ok (.iload 4, 2) := by decide +kernel
theorem dX0_shown_20 : decode cX0_shown 20 = .ok (.bipush 7, 2) := by decide +kernel
theorem dX0_shown_22 : decode cX0_shown 22 = .ok (.if_icmp .le 13, 3) := by decide +kernel
theorem dX0_shown_25 : decode cX0_shown 25 = .ok (.new 80, 3) := by decide +kernel
theorem dX0_shown_28 : decode cX0_shown 28 = .ok (.dup, 1) := by decide +kernel
theorem dX0_shown_29 : decode cX0_shown 29 = .ok (.ldc 158, 2) := by decide +kernel
theorem dX0_shown_31 : decode cX0_shown 31 = .ok (.invokespecial 84, 3) := by decide +kernel
theorem dX0_shown_34 : decode cX0_shown 34 = .ok (.athrow, 1) := by decide +kernel
theorem dX0_shown_35 : decode cX0_shown 35 = .ok (.aload_n 0, 1) := by decide +kernel
theorem dX0_shown_36 : decode cX0_shown 36 = .ok (.iload_n 1, 1) := by decide +kernel
theorem dX0_shown_37 : decode cX0_shown 37 = .ok (.iload_n 3, 1) := by decide +kernel
theorem dX0_shown_38 : decode cX0_shown 38 = .ok (.aload_n 0, 1) := by decide +kernel
theorem dX0_shown_39 : decode cX0_shown 39 = .ok (.iload_n 2, 1) := by decide +kernel
theorem dX0_shown_40 : decode cX0_shown 40 = .ok (.iload_n 3, 1) := by decide +kernel
theorem dX0_shown_41 : decode cX0_shown 41 = .ok (.iload 4, 2) := by decide +kernel
theorem dX0_shown_43 : decode cX0_shown 43 = .ok (.invokevirtual 160, 3) := by decide +kernel
theorem dX0_shown_46 : decode cX0_shown 46 = .ok (.invokevirtual 113, 3) := by decide +kernel
theorem dX0_shown_49 : decode cX0_shown 49 = .ok (.ireturn, 1) := by decide +kernel
theorem dX0_needProfile_0 : decode cX0_needProfile 0 = .ok (.iload_n 1, 1) := by decide +kernel
theorem dX0_needProfile_1 : decode cX0_needProfile 1 = .ok (.ifCond .lt 11, 3) := by decide +kernel
theorem dX0_needProfile_4 : decode cX0_needProfile 4 = .ok (.iload_n 1, 1) := by decide +kernel
theorem dX0_needProfile_5 : decode cX0_needProfile 5 = .ok (.aload_n 0, 1) := by decide +kernel
theorem dX0_needProfile_6 : decode cX0_needProfile 6 = .ok (.getfield 43, 3) := by decide +kernel
theorem dX0_needProfile_9 : decode cX0_needProfile 9 = .ok (.if_icmp .lt 13, 3) := by decide +kernel
theorem dX0_needProfile_12 : decode cX0_needProfile 12 = .ok (.new 69, 3) := by decide +kernel
theorem dX0_needProfile_15 : decode cX0_needProfile 15 = .ok (.dup, 1) := by decide +kernel
theorem dX0_needProfile_16 : decode cX0_needProfile 16 = .ok (.ldc 163, 2) := by decide +kernel
theorem dX0_needProfile_18 : decode cX0_needProfile 18 = .ok (.invokespecial 73, 3) := by decide +kernel
theorem dX0_needProfile_21 : decode cX0_needProfile 21 = .ok (.athrow, 1) := by decide +kernel
theorem dX0_needProfile_22 : decode cX0_needProfile 22 = .ok (.return_, 1) := by decide +kernel
theorem dX0_needChain_0 : decode cX0_needChain 0 = .ok (.iload_n 1, 1) := by decide +kernel
theorem dX0_needChain_1 : decode cX0_needChain 1 = .ok (.ifCond .lt 11, 3) := by decide +kernel
theorem dX0_needChain_4 : decode cX0_needChain 4 = .ok (.iload_n 1, 1) := by decide +kernel
theorem dX0_needChain_5 : decode cX0_needChain 5 = .ok (.aload_n 0, 1) := by decide +kernel
theorem dX0_needChain_6 : decode cX0_needChain 6 = .ok (.getfield 94, 3) := by decide +kernel
theorem dX0_needChain_9 : decode cX0_needChain 9 = .ok (.if_icmp .lt 13, 3) := by decide +kernel
theorem dX0_needChain_12 : decode cX0_needChain 12 = .ok (.new 69, 3) := by decide +kernel
theorem dX0_needChain_15 : decode cX0_needChain 15 = .ok (.dup, 1) := by decide +kernel
theorem dX0_needChain_16 : decode cX0_needChain 16 = .ok (.ldc 165, 2) := by decide +kernel
theorem dX0_needChain_18 : decode cX0_needChain 18 = .ok (.invokespecial 73, 3) := by decide +kernel
theorem dX0_needChain_21 : decode cX0_needChain 21 = .ok (.athrow, 1) := by decide +kernel
theorem dX0_needChain_22 : decode cX0_needChain 22 = .ok (.return_, 1) := by decide +kernel
theorem dX0_needBand_0 : decode cX0_needBand 0 = .ok (.iload_n 0, 1) := by decide +kernel
theorem dX0_needBand_1 : decode cX0_needBand 1 = .ok (.ifCond .lt 8, 3) := by decide +kernel
theorem dX0_needBand_4 : decode cX0_needBand 4 = .ok (.iload_n 0, 1) := by decide +kernel
theorem dX0_needBand_5 : decode cX0_needBand 5 = .ok (.iconst 3, 1) := by decide +kernel
theorem dX0_needBand_6 : decode cX0_needBand 6 = .ok (.if_icmp .lt 13, 3) := by decide +kernel
theorem dX0_needBand_9 : decode cX0_needBand 9 = .ok (.new 69, 3) := by decide +kernel
theorem dX0_needBand_12 : decode cX0_needBand 12 = .ok (.dup, 1) := by decide +kernel
theorem dX0_needBand_13 : decode cX0_needBand 13 = .ok (.ldc 167, 2) := by decide +kernel
theorem dX0_needBand_15 : decode cX0_needBand 15 = .ok (.invokespecial 73, 3) := by decide +kernel
theorem dX0_needBand_18 : decode cX0_needBand 18 = .ok (.athrow, 1) := by decide +kernel
theorem dX0_needBand_19 : decode cX0_needBand 19 = .ok (.return_, 1) := by decide +kernel
theorem dX0_needPixel_0 : decode cX0_needPixel 0 = .ok (.iload_n 0, 1) := by decide +kernel
theorem dX0_needPixel_1 : decode cX0_needPixel 1 = .ok (.ifCond .lt 9, 3) := by decide +kernel
theorem dX0_needPixel_4 : decode cX0_needPixel 4 = .ok (.iload_n 0, 1) := by decide +kernel
theorem dX0_needPixel_5 : decode cX0_needPixel 5 = .ok (.bipush 6, 2) := by decide +kernel
theorem dX0_needPixel_7 : decode cX0_needPixel 7 = .ok (.if_icmp .lt 13, 3) := by decide +kernel
theorem dX0_needPixel_10 : decode cX0_needPixel 10 = .ok (.new 69, 3) := by decide +kernel
theorem dX0_needPixel_13 : decode cX0_needPixel 13 = .ok (.dup, 1) := by decide +kernel
theorem dX0_needPixel_14 : decode cX0_needPixel 14 = .ok (.ldc 169, 2) := by decide +kernel
theorem dX0_needPixel_16 : decode cX0_needPixel 16 = .ok (.invokespecial 73, 3) := by decide +kernel
theorem dX0_needPixel_19 : decode cX0_needPixel 19 = .ok (.athrow, 1) := by decide +kernel
theorem dX0_needPixel_20 : decode cX0_needPixel 20 = .ok (.return_, 1) := by decide +kernel
theorem dX0_needInk_0 : decode cX0_needInk 0 = .ok (.iload_n 0, 1) := by decide +kernel
theorem dX0_needInk_1 : decode cX0_needInk 1 = .ok (.ifCond .lt 8, 3) := by decide +kernel
theorem dX0_needInk_4 : decode cX0_needInk 4 = .ok (.iload_n 0, 1) := by decide +kernel
theorem dX0_needInk_5 : decode cX0_needInk 5 = .ok (.iconst 3, 1) := by decide +kernel
theorem dX0_needInk_6 : decode cX0_needInk 6 = .ok (.if_icmp .lt 13, 3) := by decide +kernel
theorem dX0_needInk_9 : decode cX0_needInk 9 = .ok (.new 69, 3) := by decide +kernel
theorem dX0_needInk_12 : decode cX0_needInk 12 = .ok (.dup, 1) := by decide +kernel
theorem dX0_needInk_13 : decode cX0_needInk 13 = .ok (.ldc 171, 2) := by decide +kernel
theorem dX0_needInk_15 : decode cX0_needInk 15 = .ok (.invokespecial 73, 3) := by decide +kernel
theorem dX0_needInk_18 : decode cX0_needInk 18 = .ok (.athrow, 1) := by decide +kernel
theorem dX0_needInk_19 : decode cX0_needInk 19 = .ok (.return_, 1) := by decide +kernel
theorem dX0_needValue_0 : decode cX0_needValue 0 = .ok (.iload_n 0, 1) := by decide +kernel
theorem dX0_needValue_1 : decode cX0_needValue 1 = .ok (.ifCond .lt 10, 3) := by decide +kernel
theorem dX0_needValue_4 : decode cX0_needValue 4 = .ok (.iload_n 0, 1) := by decide +kernel
theorem dX0_needValue_5 : decode cX0_needValue 5 = .ok (.sipush 255, 3) := by decide +kernel
theorem dX0_needValue_8 : decode cX0_needValue 8 = .ok (.if_icmp .le 13, 3) := by decide +kernel
theorem dX0_needValue_11 : decode cX0_needValue 11 = .ok (.new 80, 3) := by decide +kernel
theorem dX0_needValue_14 : decode cX0_needValue 14 = .ok (.dup, 1) := by decide +kernel
theorem dX0_needValue_15 : decode cX0_needValue 15 = .ok (.ldc 173, 2) := by decide +kernel
theorem dX0_needValue_17 : decode cX0_needValue 17 = .ok (.invokespecial 84, 3) := by decide +kernel
end
section
theorem dX0_needValue_20 : decode cX0_needValue 20 = .ok (.athrow, 1) := by decide +kernel
theorem dX0_needValue_21 : decode cX0_needValue 21 = .ok (.return_, 1) := by decide +kernel
set_option maxRecDepth 20000 in
theorem ggX0_needFreeProfile_X0_held : GoodIn wsX0_needFreeProfile wsX0_held := goodIn_r _ [7, 8, 9, 10, 6, 11, 12, 13, 14, 15, 16, 17, 18, 19, 20, 21, 22, 23, 24, 25, 26, 27, 28, 29, 30, 31, 32, 33, 34, 35] (by decide +kernel) (by decide +kernel)
set_option maxRecDepth 20000 in
theorem gX0_needFreeProfile_X0_held : GoodIn wsX0_needFreeProfile (wsV RX0 175 RX0 yX0_held wsX0_held) := goodIn_app (goodIn_of _ (by decide +kernel)) ggX0_needFreeProfile_X0_held
set_option maxRecDepth 20000 in
theorem ggX0_needFreeProfile_X0_hasBit : GoodIn wsX0_needFreeProfile wsX0_hasBit := goodIn_r _ [11] (by decide +kernel) (by decide +kernel)
set_option maxRecDepth 20000 in
theorem gX0_needFreeProfile_X0_hasBit : GoodIn wsX0_needFreeProfile (va_wsS RX0 133 yX0_hasBit wsX0_hasBit) := goodIn_app (goodIn_of _ (by decide +kernel)) ggX0_needFreeProfile_X0_hasBit
theorem dX0_needFreeProfile_0 : decode cX0_needFreeProfile 0 = .ok (.aload_n 0, 1) := by decide +kernel
theorem dX0_needFreeProfile_1 : decode cX0_needFreeProfile 1 = .ok (.invokevirtual 175, 3) := by decide +kernel
theorem dX0_needFreeProfile_4 : decode cX0_needFreeProfile 4 = .ok (.iload_n 1, 1) := by decide +kernel
theorem dX0_needFreeProfile_5 : decode cX0_needFreeProfile 5 = .ok (.invokestatic 133, 3) := by decide +kernel
theorem dX0_needFreeProfile_8 : decode cX0_needFreeProfile 8 = .ok (.ifCond .eq 13, 3) := by decide +kernel
theorem dX0_needFreeProfile_11 : decode cX0_needFreeProfile 11 = .ok (.new 47, 3) := by decide +kernel
theorem dX0_needFreeProfile_14 : decode cX0_needFreeProfile 14 = .ok (.dup, 1) := by decide +kernel
theorem dX0_needFreeProfile_15 : decode cX0_needFreeProfile 15 = .ok (.ldc 179, 2) := by decide +kernel
theorem dX0_needFreeProfile_17 : decode cX0_needFreeProfile 17 = .ok (.invokespecial 51, 3) := by decide +kernel
theorem dX0_needFreeProfile_20 : decode cX0_needFreeProfile 20 = .ok (.athrow, 1) := by decide +kernel
theorem dX0_needFreeProfile_21 : decode cX0_needFreeProfile 21 = .ok (.return_, 1) := by decide +kernel
set_option maxRecDepth 20000 in
theorem ggX0_needFreeChain_X0_hasBit : GoodIn wsX0_needFreeChain wsX0_hasBit := goodIn_r _ [7] (by decide +kernel) (by decide +kernel)
set_option maxRecDepth 20000 in
theorem gX0_needFreeChain_X0_hasBit : GoodIn wsX0_needFreeChain (va_wsS RX0 133 yX0_hasBit wsX0_hasBit) := goodIn_app (goodIn_of _ (by decide +kernel)) ggX0_needFreeChain_X0_hasBit
theorem dX0_needFreeChain_0 : decode cX0_needFreeChain 0 = .ok (.aload_n 0, 1) := by decide +kernel
theorem dX0_needFreeChain_1 : decode cX0_needFreeChain 1 = .ok (.getfield 146, 3) := by decide +kernel
theorem dX0_needFreeChain_4 : decode cX0_needFreeChain 4 = .ok (.iload_n 1, 1) := by decide +kernel
theorem dX0_needFreeChain_5 : decode cX0_needFreeChain 5 = .ok (.invokestatic 133, 3) := by decide +kernel
theorem dX0_needFreeChain_8 : decode cX0_needFreeChain 8 = .ok (.ifCond .eq 13, 3) := by decide +kernel
theorem dX0_needFreeChain_11 : decode cX0_needFreeChain 11 = .ok (.new 47, 3) := by decide +kernel
theorem dX0_needFreeChain_14 : decode cX0_needFreeChain 14 = .ok (.dup, 1) := by decide +kernel
theorem dX0_needFreeChain_15 : decode cX0_needFreeChain 15 = .ok (.ldc 181, 2) := by decide +kernel
theorem dX0_needFreeChain_17 : decode cX0_needFreeChain 17 = .ok (.invokespecial 51, 3) := by decide +kernel
theorem dX0_needFreeChain_20 : decode cX0_needFreeChain 20 = .ok (.athrow, 1) := by decide +kernel
theorem dX0_needFreeChain_21 : decode cX0_needFreeChain 21 = .ok (.return_, 1) := by decide +kernel
theorem dX0_valueOfPlace_0 : decode cX0_valueOfPlace 0 = .ok (.iload_n 0, 1) := by decide +kernel
theorem dX0_valueOfPlace_1 : decode cX0_valueOfPlace 1 = .ok (.bipush 64, 2) := by decide +kernel
theorem dX0_valueOfPlace_3 : decode cX0_valueOfPlace 3 = .ok (.imul, 1) := by decide +kernel
theorem dX0_valueOfPlace_4 : decode cX0_valueOfPlace 4 = .ok (.sipush 255, 3) := by decide +kernel
theorem dX0_valueOfPlace_7 : decode cX0_valueOfPlace 7 = .ok (.invokestatic 119, 3) := by decide +kernel
theorem dX0_valueOfPlace_10 : decode cX0_valueOfPlace 10 = .ok (.ireturn, 1) := by decide +kernel
set_option maxRecDepth 20000 in
theorem ggX0_between_X0_read : GoodIn wsX0_between wsX0_read := goodIn_r _ [4] (by decide +kernel) (by decide +kernel)
set_option maxRecDepth 20000 in
theorem gX0_between_X0_read : GoodIn wsX0_between (va_wsS RX0 105 yX0_read wsX0_read) := goodIn_app (goodIn_of _ (by decide +kernel)) ggX0_between_X0_read
set_option maxRecDepth 20000 in
theorem ggX0_between_J9_floorDiv_7cf53 : GoodIn wsX0_between wsJ9_floorDiv_7cf53 := goodIn_r _ [8] (by decide +kernel) (by decide +kernel)
set_option maxRecDepth 20000 in
theorem gX0_between_J9_floorDiv_7cf53 : GoodIn wsX0_between (va_wsS RX0 183 yJ9_floorDiv_7cf53 wsJ9_floorDiv_7cf53) := goodIn_app (goodIn_of _ (by decide +kernel)) ggX0_between_J9_floorDiv_7cf53
theorem dX0_between_0 : decode cX0_between 0 = .ok (.iload_n 2, 1) := by decide +kernel
theorem dX0_between_1 : decode cX0_between 1 = .ok (.bipush 64, 2) := by decide +kernel
theorem dX0_between_3 : decode cX0_between 3 = .ok (.idiv, 1) := by decide +kernel
theorem dX0_between_4 : decode cX0_between 4 = .ok (.istore_n 3, 1) := by decide +kernel
theorem dX0_between_5 : decode cX0_between 5 = .ok (.aload_n 0, 1) := by decide +kernel
theorem dX0_between_6 : decode cX0_between 6 = .ok (.iload_n 1, 1) := by decide +kernel
theorem dX0_between_7 : decode cX0_between 7 = .ok (.iload_n 3, 1) := by decide +kernel
theorem dX0_between_8 : decode cX0_between 8 = .ok (.iadd, 1) := by decide +kernel
theorem dX0_between_9 : decode cX0_between 9 = .ok (.invokestatic 105, 3) := by decide +kernel
theorem dX0_between_12 : decode cX0_between 12 = .ok (.istore 4, 2) := by decide +kernel
theorem dX0_between_14 : decode cX0_between 14 = .ok (.aload_n 0, 1) := by decide +kernel
theorem dX0_between_15 : decode cX0_between 15 = .ok (.iload_n 1, 1) := by decide +kernel
theorem dX0_between_16 : decode cX0_between 16 = .ok (.iload_n 3, 1) := by decide +kernel
theorem dX0_between_17 : decode cX0_between 17 = .ok (.iadd, 1) := by decide +kernel
theorem dX0_between_18 : decode cX0_between 18 = .ok (.iconst 1, 1) := by decide +kernel
theorem dX0_between_19 : decode cX0_between 19 = .ok (.iadd, 1) := by decide +kernel
theorem dX0_between_20 : decode cX0_between 20 = .ok (.invokestatic 105, 3) := by decide +kernel
theorem dX0_between_23 : decode cX0_between 23 = .ok (.istore 5, 2) := by decide +kernel
theorem dX0_between_25 : decode cX0_between 25 = .ok (.iload_n 3, 1) := by decide +kernel
theorem dX0_between_26 : decode cX0_between 26 = .ok (.iconst 3, 1) := by decide +kernel
theorem dX0_between_27 : decode cX0_between 27 = .ok (.if_icmp .ne 8, 3) := by decide +kernel
theorem dX0_between_30 : decode cX0_between 30 = .ok (.bipush 63, 2) := by decide +kernel
theorem dX0_between_32 : decode cX0_between 32 = .ok (.goto 5, 3) := by decide +kernel
theorem dX0_between_35 : decode cX0_between 35 = .ok (.bipush 64, 2) := by decide +kernel
theorem dX0_between_37 : decode cX0_between 37 = .ok (.istore 6, 2) := by decide +kernel
theorem dX0_between_39 : decode cX0_between 39 = .ok (.iload 4, 2) := by decide +kernel
theorem dX0_between_41 : decode cX0_between 41 = .ok (.iload 5, 2) := by decide +kernel
theorem dX0_between_43 : decode cX0_between 43 = .ok (.iload 4, 2) := by decide +kernel
theorem dX0_between_45 : decode cX0_between 45 = .ok (.isub, 1) := by decide +kernel
theorem dX0_between_46 : decode cX0_between 46 = .ok (.iload_n 2, 1) := by decide +kernel
theorem dX0_between_47 : decode cX0_between 47 = .ok (.iload_n 3, 1) := by decide +kernel
theorem dX0_between_48 : decode cX0_between 48 = .ok (.bipush 64, 2) := by decide +kernel
theorem dX0_between_50 : decode cX0_between 50 = .ok (.imul, 1) := by decide +kernel
theorem dX0_between_51 : decode cX0_between 51 = .ok (.isub, 1) := by decide +kernel
theorem dX0_between_52 : decode cX0_between 52 = .ok (.imul, 1) := by decide +kernel
theorem dX0_between_53 : decode cX0_between 53 = .ok (.iload 6, 2) := by decide +kernel
theorem dX0_between_55 : decode cX0_between 55 = .ok (.invokestatic 183, 3) := by decide +kernel
theorem dX0_between_58 : decode cX0_between 58 = .ok (.iadd, 1) := by decide +kernel
theorem dX0_between_59 : decode cX0_between 59 = .ok (.ireturn, 1) := by decide +kernel
set_option maxRecDepth 20000 in
theorem ggX0_bent_X0_between : GoodIn wsX0_bent wsX0_between := goodIn_r _ [5, 6, 7, 4, 8, 9, 10, 11, 12] (by decide +kernel) (by decide +kernel)
set_option maxRecDepth 20000 in
theorem gX0_bent_X0_between : GoodIn wsX0_bent (va_wsS RX0 139 yX0_between wsX0_between) := goodIn_app (goodIn_of _ (by decide +kernel)) ggX0_bent_X0_between
theorem dX0_bent_0 : decode cX0_bent 0 = .ok (.aload_n 0, 1) := by decide +kernel
theorem dX0_bent_1 : decode cX0_bent 1 = .ok (.getfield 9, 3) := by decide +kernel
theorem dX0_bent_4 : decode cX0_bent 4 = .ok (.iload_n 1, 1) := by decide +kernel
theorem dX0_bent_5 : decode cX0_bent 5 = .ok (.iconst 3, 1) := by decide +kernel
theorem dX0_bent_6 : decode cX0_bent 6 = .ok (.imul, 1) := by decide +kernel
theorem dX0_bent_7 : decode cX0_bent 7 = .ok (.iload_n 2, 1) := by decide +kernel
theorem dX0_bent_8 : decode cX0_bent 8 = .ok (.iadd, 1) := by decide +kernel
theorem dX0_bent_9 : decode cX0_bent 9 = .ok (.iconst 5, 1) := by decide +kernel
theorem dX0_bent_10 : decode cX0_bent 10 = .ok (.imul, 1) := by decide +kernel
theorem dX0_bent_11 : decode cX0_bent 11 = .ok (.iload_n 3, 1) := by decide +kernel
theorem dX0_bent_12 : decode cX0_bent 12 = .ok (.invokestatic 139, 3) := by decide +kernel
theorem dX0_bent_15 : decode cX0_bent 15 = .ok (.ireturn, 1) := by decide +kernel
set_option maxRecDepth 20000 in
theorem ggX0_take_X0_read : GoodIn wsX0_take wsX0_read := goodIn_r _ [14] (by decide +kernel) (by decide +kernel)
set_option maxRecDepth 20000 in
theorem gX0_take_X0_read : GoodIn wsX0_take (va_wsS RX0 105 yX0_read wsX0_read) := goodIn_app (goodIn_of _ (by decide +kernel)) ggX0_take_X0_read
set_option maxRecDepth 20000 in
theorem ggX0_take_X0_bent : GoodIn wsX0_take wsX0_bent := goodIn_r _ [18, 19, 20, 21, 13, 22, 11, 12, 14, 23, 24, 25, 26, 30, 31, 32, 33, 34, 35, 36, 37, 38, 39, 40, 41, 42, 43, 44] (by decide +kernel) (by decide +kernel)
set_option maxRecDepth 20000 in
theorem gX0_take_X0_bent : GoodIn wsX0_take (wsV RX0 87 RX0 yX0_bent wsX0_bent) := goodIn_app (goodIn_of _ (by decide +kernel)) ggX0_take_X0_bent
set_option maxRecDepth 20000 in
theorem ggX0_take_X0_fold : GoodIn wsX0_take wsX0_fold := goodIn_r _ [29] (by decide +kernel) (by decide +kernel)
set_option maxRecDepth 20000 in
theorem gX0_take_X0_fold : GoodIn wsX0_take (va_wsS RX0 186 yX0_fold wsX0_fold) := goodIn_app (goodIn_of _ (by decide +kernel)) ggX0_take_X0_fold
theorem dX0_take_0 : decode cX0_take 0 = .ok (.aload_n 0, 1) := by decide +kernel
theorem dX0_take_1 : decode cX0_take 1 = .ok (.getfield 13, 3) := by decide +kernel
theorem dX0_take_4 : decode cX0_take 4 = .ok (.iload_n 1, 1) := by decide +kernel
theorem dX0_take_5 : decode cX0_take 5 = .ok (.iconst 3, 1) := by decide +kernel
theorem dX0_take_6 : decode cX0_take 6 = .ok (.imul, 1) := by decide +kernel
theorem dX0_take_7 : decode cX0_take 7 = .ok (.iload_n 2, 1) := by decide +kernel
theorem dX0_take_8 : decode cX0_take 8 = .ok (.iadd, 1) := by decide +kernel
theorem dX0_take_9 : decode cX0_take 9 = .ok (.invokestatic 105, 3) := by decide +kernel
theorem dX0_take_12 : decode cX0_take 12 = .ok (.istore 4, 2) := by decide +kernel
theorem dX0_take_14 : decode cX0_take 14 = .ok (.aload_n 0, 1) := by decide +kernel
theorem dX0_take_15 : decode cX0_take 15 = .ok (.getfield 16, 3) := by decide +kernel
theorem dX0_take_18 : decode cX0_take 18 = .ok (.iload_n 1, 1) := by decide +kernel
theorem dX0_take_19 : decode cX0_take 19 = .ok (.iconst 3, 1) := by decide +kernel
theorem dX0_take_20 : decode cX0_take 20 = .ok (.imul, 1) := by decide +kernel
theorem dX0_take_21 : decode cX0_take 21 = .ok (.iload_n 2, 1) := by decide +kernel
theorem dX0_take_22 : decode cX0_take 22 = .ok (.iadd, 1) := by decide +kernel
theorem dX0_take_23 : decode cX0_take 23 = .ok (.invokestatic 105, 3) := by decide +kernel
theorem dX0_take_26 : decode cX0_take 26 = .ok (.istore 5, 2) := by decide +kernel
theorem dX0_take_28 : decode cX0_take 28 = .ok (.aload_n 0, 1) := by decide +kernel
theorem dX0_take_29 : decode cX0_take 29 = .ok (.iload_n 1, 1) := by decide +kernel
theorem dX0_take_30 : decode cX0_take 30 = .ok (.iload_n 2, 1) := by decide +kernel
theorem dX0_take_31 : decode cX0_take 31 = .ok (.iload_n 3, 1) := by decide +kernel
theorem dX0_take_32 : decode cX0_take 32 = .ok (.invokevirtual 87, 3) := by decide +kernel
theorem dX0_take_35 : decode cX0_take 35 = .ok (.istore 6, 2) := by decide +kernel
theorem dX0_take_37 : decode cX0_take 37 = .ok (.aload_n 0, 1) := by decide +kernel
theorem dX0_take_38 : decode cX0_take 38 = .ok (.getfield 19, 3) := by decide +kernel
theorem dX0_take_41 : decode cX0_take 41 = .ok (.iload_n 1, 1) := by decide +kernel
theorem dX0_take_42 : decode cX0_take 42 = .ok (.invokestatic 105, 3) := by decide +kernel
theorem dX0_take_45 : decode cX0_take 45 = .ok (.istore 7, 2) := by decide +kernel
theorem dX0_take_47 : decode cX0_take 47 = .ok (.iload 7, 2) := by decide +kernel
theorem dX0_take_49 : decode cX0_take 49 = .ok (.iconst 1, 1) := by decide +kernel
theorem dX0_take_50 : decode cX0_take 50 = .ok (.if_icmp .ne 19, 3) := by decide +kernel
theorem dX0_take_53 : decode cX0_take 53 = .ok (.iload 4, 2) := by decide +kernel
theorem dX0_take_55 : decode cX0_take 55 = .ok (.iload 6, 2) := by decide +kernel
theorem dX0_take_57 : decode cX0_take 57 = .ok (.iload 5, 2) := by decide +kernel
theorem dX0_take_59 : decode cX0_take 59 = .ok (.iload 4, 2) := by decide +kernel
theorem dX0_take_61 : decode cX0_take 61 = .ok (.isub, 1) := by decide +kernel
theorem dX0_take_62 : decode cX0_take 62 = .ok (.imul, 1) := by decide +kernel
theorem dX0_take_63 : decode cX0_take 63 = .ok (.sipush 255, 3) := by decide +kernel
theorem dX0_take_66 : decode cX0_take 66 = .ok (.idiv, 1) := by decide +kernel
theorem dX0_take_67 : decode cX0_take 67 = .ok (.iadd, 1) := by decide +kernel
theorem dX0_take_68 : decode cX0_take 68 = .ok (.ireturn, 1) := by decide +kernel
theorem dX0_take_69 : decode cX0_take 69 = .ok (.iload 7, 2) := by decide +kernel
theorem dX0_take_71 : decode cX0_take 71 = .ok (.iconst 2, 1) := by decide +kernel
theorem dX0_take_72 : decode cX0_take 72 = .ok (.if_icmp .ne 14, 3) := by decide +kernel
theorem dX0_take_75 : decode cX0_take 75 = .ok (.iload 6, 2) := by decide +kernel
theorem dX0_take_77 : decode cX0_take 77 = .ok (.iload 4, 2) := by decide +kernel
theorem dX0_take_79 : decode cX0_take 79 = .ok (.iload 5, 2) := by decide +kernel
theorem dX0_take_81 : decode cX0_take 81 = .ok (.invokestatic 186, 3) := by decide +kernel
theorem dX0_take_84 : decode cX0_take 84 = .ok (.istore 6, 2) := by decide +kernel
theorem dX0_take_86 : decode cX0_take 86 = .ok (.iload 4, 2) := by decide +kernel
theorem dX0_take_88 : decode cX0_take 88 = .ok (.iload 5, 2) := by decide +kernel
theorem dX0_take_90 : decode cX0_take 90 = .ok (.iload 6, 2) := by decide +kernel
theorem dX0_take_92 : decode cX0_take 92 = .ok (.invokestatic 119, 3) := by decide +kernel
theorem dX0_take_95 : decode cX0_take 95 = .ok (.invokestatic 125, 3) := by decide +kernel
theorem dX0_take_98 : decode cX0_take 98 = .ok (.ireturn, 1) := by decide +kernel
theorem dX0_fold_0 : decode cX0_fold 0 = .ok (.iload_n 0, 1) := by decide +kernel
theorem dX0_fold_1 : decode cX0_fold 1 = .ok (.iload_n 2, 1) := by decide +kernel
theorem dX0_fold_2 : decode cX0_fold 2 = .ok (.if_icmp .le 9, 3) := by decide +kernel
theorem dX0_fold_5 : decode cX0_fold 5 = .ok (.iload_n 2, 1) := by decide +kernel
theorem dX0_fold_6 : decode cX0_fold 6 = .ok (.iload_n 0, 1) := by decide +kernel
theorem dX0_fold_7 : decode cX0_fold 7 = .ok (.iload_n 2, 1) := by decide +kernel
theorem dX0_fold_8 : decode cX0_fold 8 = .ok (.isub, 1) := by decide +kernel
theorem dX0_fold_9 : decode cX0_fold 9 = .ok (.isub, 1) := by decide +kernel
theorem dX0_fold_10 : decode cX0_fold 10 = .ok (.ireturn, 1) := by decide +kernel
theorem dX0_fold_11 : decode cX0_fold 11 = .ok (.iload_n 0, 1) := by decide +kernel
theorem dX0_fold_12 : decode cX0_fold 12 = .ok (.iload_n 1, 1) := by decide +kernel
theorem dX0_fold_13 : decode cX0_fold 13 = .ok (.if_icmp .ge 9, 3) := by decide +kernel
theorem dX0_fold_16 : decode cX0_fold 16 = .ok (.iload_n 1, 1) := by decide +kernel
theorem dX0_fold_17 : decode cX0_fold 17 = .ok (.iload_n 1, 1) := by decide +kernel
theorem dX0_fold_18 : decode cX0_fold 18 = .ok (.iload_n 0, 1) := by decide +kernel
theorem dX0_fold_19 : decode cX0_fold 19 = .ok (.isub, 1) := by decide +kernel
theorem dX0_fold_20 : decode cX0_fold 20 = .ok (.iadd, 1) := by decide +kernel
theorem dX0_fold_21 : decode cX0_fold 21 = .ok (.ireturn, 1) := by decide +kernel
theorem dX0_fold_22 : decode cX0_fold 22 = .ok (.iload_n 0, 1) := by decide +kernel
theorem dX0_fold_23 : decode cX0_fold 23 = .ok (.ireturn, 1) := by decide +kernel
set_option maxRecDepth 20000 in
theorem ggX0_pass_X0_read : GoodIn wsX0_pass wsX0_read := goodIn_r _ [6] (by decide +kernel) (by decide +kernel)
set_option maxRecDepth 20000 in
theorem gX0_pass_X0_read : GoodIn wsX0_pass (va_wsS RX0 105 yX0_read wsX0_read) := goodIn_app (goodIn_of _ (by decide +kernel)) ggX0_pass_X0_read
set_option maxRecDepth 20000 in
theorem ggX0_pass_X0_take : GoodIn wsX0_pass wsX0_take := goodIn_r _ [10, 11, 12, 13, 14, 15, 16, 17, 18, 19, 20, 3, 4, 5, 6, 21, 22, 23, 24, 25, 26, 27, 28, 29, 30, 31, 32, 33, 34, 35, 36, 37, 38, 39, 40, 41, 42, 43, 44, 45, 46, 47, 48, 49, 50] (by decide +kernel) (by decide +kernel)
set_option maxRecDepth 20000 in
theorem gX0_pass_X0_take : GoodIn wsX0_pass (wsV RX0 91 RX0 yX0_take wsX0_take) := goodIn_app (goodIn_of _ (by decide +kernel)) ggX0_pass_X0_take
theorem dX0_pass_0 : decode cX0_pass 0 = .ok (.aload_n 0, 1) := by decide +kernel
theorem dX0_pass_1 : decode cX0_pass 1 = .ok (.getfield 25, 3) := by decide +kernel
theorem dX0_pass_4 : decode cX0_pass 4 = .ok (.iload_n 1, 1) := by decide +kernel
theorem dX0_pass_5 : decode cX0_pass 5 = .ok (.invokestatic 105, 3) := by decide +kernel
theorem dX0_pass_8 : decode cX0_pass 8 = .ok (.istore 4, 2) := by decide +kernel
theorem dX0_pass_10 : decode cX0_pass 10 = .ok (.iload_n 3, 1) := by decide +kernel
theorem dX0_pass_11 : decode cX0_pass 11 = .ok (.istore 5, 2) := by decide +kernel
theorem dX0_pass_13 : decode cX0_pass 13 = .ok (.iconst 0, 1) := by decide +kernel
theorem dX0_pass_14 : decode cX0_pass 14 = .ok (.istore 6, 2) := by decide +kernel
theorem dX0_pass_16 : decode cX0_pass 16 = .ok (.iload 6, 2) := by decide +kernel
theorem dX0_pass_18 : decode cX0_pass 18 = .ok (.iload 4, 2) := by decide +kernel
theorem dX0_pass_20 : decode cX0_pass 20 = .ok (.if_icmp .ge 32, 3) := by decide +kernel
theorem dX0_pass_23 : decode cX0_pass 23 = .ok (.aload_n 0, 1) := by decide +kernel
theorem dX0_pass_24 : decode cX0_pass 24 = .ok (.aload_n 0, 1) := by decide +kernel
theorem dX0_pass_25 : decode cX0_pass 25 = .ok (.getfield 22, 3) := by decide +kernel
theorem dX0_pass_28 : decode cX0_pass 28 = .ok (.iload_n 1, 1) := by decide +kernel
theorem dX0_pass_29 : decode cX0_pass 29 = .ok (.bipush 6, 2) := by decide +kernel
theorem dX0_pass_31 : decode cX0_pass 31 = .ok (.imul, 1) := by decide +kernel
theorem dX0_pass_32 : decode cX0_pass 32 = .ok (.iload 6, 2) := by decide +kernel
theorem dX0_pass_34 : decode cX0_pass 34 = .ok (.iadd, 1) := by decide +kernel
theorem dX0_pass_35 : decode cX0_pass 35 = .ok (.invokestatic 105, 3) := by decide +kernel
theorem dX0_pass_38 : decode cX0_pass 38 = .ok (.iload_n 2, 1) := by decide +kernel
theorem dX0_pass_39 : decode cX0_pass 39 = .ok (.iload 5, 2) := by decide +kernel
theorem dX0_pass_41 : decode cX0_pass 41 = .ok (.invokevirtual 91, 3) := by decide +kernel
theorem dX0_pass_44 : decode cX0_pass 44 = .ok (.istore 5, 2) := by decide +kernel
theorem dX0_pass_46 : decode cX0_pass 46 = .ok (.iinc 6 1, 3) := by decide +kernel
theorem dX0_pass_49 : decode cX0_pass 49 = .ok (.goto (-33), 3) := by decide +kernel
theorem dX0_pass_52 : decode cX0_pass 52 = .ok (.iload 5, 2) := by decide +kernel
theorem dX0_pass_54 : decode cX0_pass 54 = .ok (.ireturn, 1) := by decide +kernel
set_option maxRecDepth 20000 in
theorem ggX0_tryJoining_X0_valueOfPlace : GoodIn wsX0_tryJoining wsX0_valueOfPlace := goodIn_r _ [12, 13, 14, 4, 15] (by decide +kernel) (by decide +kernel)
set_option maxRecDepth 20000 in
theorem gX0_tryJoining_X0_valueOfPlace : GoodIn wsX0_tryJoining (va_wsS RX0 54 yX0_valueOfPlace wsX0_valueOfPlace) := goodIn_app (goodIn_of _ (by decide +kernel)) ggX0_tryJoining_X0_valueOfPlace
set_option maxRecDepth 20000 in
theorem ggX0_tryJoining_X0_pass : GoodIn wsX0_tryJoining wsX0_pass := goodIn_r _ [19, 20, 21, 22, 23, 11, 24, 25, 26, 27, 28, 29, 30, 31, 13, 14, 4, 15, 6, 7, 8, 32, 33, 34, 35, 36, 37, 38, 39, 40, 41, 42, 43, 44, 45, 46, 50, 51, 52, 53, 54, 55, 56, 57, 58, 59, 60, 61, 62, 63, 64] (by decide +kernel) (by decide +kernel)
set_option maxRecDepth 20000 in
theorem gX0_tryJoining_X0_pass : GoodIn wsX0_tryJoining (wsV RX0 113 RX0 yX0_pass wsX0_pass) := goodIn_app (goodIn_of _ (by decide +kernel)) ggX0_tryJoining_X0_pass
set_option maxRecDepth 20000 in
theorem ggX0_tryJoining_X0_swap : GoodIn wsX0_tryJoining wsX0_swap := goodIn_r _ [49] (by decide +kernel) (by decide +kernel)
set_option maxRecDepth 20000 in
theorem gX0_tryJoining_X0_swap : GoodIn wsX0_tryJoining (va_wsS RX0 58 yX0_swap wsX0_swap) := goodIn_app (goodIn_of _ (by decide +kernel)) ggX0_tryJoining_X0_swap
set_option maxRecDepth 20000 in
theorem ggX0_tryJoining_X0_between : GoodIn wsX0_tryJoining wsX0_between := goodIn_r _ [39, 22, 23, 11, 24, 40, 41, 42, 43] (by decide +kernel) (by decide +kernel)
set_option maxRecDepth 20000 in
theorem gX0_tryJoining_X0_between : GoodIn wsX0_tryJoining (va_wsS RX0 139 yX0_between wsX0_between) := goodIn_app (goodIn_of _ (by decide +kernel)) ggX0_tryJoining_X0_between
theorem dX0_tryJoining_0 : decode cX0_tryJoining 0 = .ok (.iconst 0, 1) := by decide +kernel
theorem dX0_tryJoining_1 : decode cX0_tryJoining 1 = .ok (.istore_n 2, 1) := by decide +kernel
theorem dX0_tryJoining_2 : decode cX0_tryJoining 2 = .ok (.iconst 0, 1) := by decide +kernel
theorem dX0_tryJoining_3 : decode cX0_tryJoining 3 = .ok (.istore_n 3, 1) := by decide +kernel
theorem dX0_tryJoining_4 : decode cX0_tryJoining 4 = .ok (.iload_n 3, 1) := by decide +kernel
theorem dX0_tryJoining_5 : decode cX0_tryJoining 5 = .ok (.iconst 3, 1) := by decide +kernel
theorem dX0_tryJoining_6 : decode cX0_tryJoining 6 = .ok (.if_icmp .ge 99, 3) := by decide +kernel
theorem dX0_tryJoining_9 : decode cX0_tryJoining 9 = .ok (.iconst 0, 1) := by decide +kernel
theorem dX0_tryJoining_10 : decode cX0_tryJoining 10 = .ok (.istore 4, 2) := by decide +kernel
theorem dX0_tryJoining_12 : decode cX0_tryJoining 12 = .ok (.iload 4, 2) := by decide +kernel
theorem dX0_tryJoining_14 : decode cX0_tryJoining 14 = .ok (.iconst 5, 1) := by decide +kernel
theorem dX0_tryJoining_15 : decode cX0_tryJoining 15 = .ok (.if_icmp .ge 34, 3) := by decide +kernel
theorem dX0_tryJoining_18 : decode cX0_tryJoining 18 = .ok (.aload_n 0, 1) := by decide +kernel
theorem dX0_tryJoining_19 : decode cX0_tryJoining 19 = .ok (.getfield 31, 3) := by decide +kernel
theorem dX0_tryJoining_22 : decode cX0_tryJoining 22 = .ok (.iload_n 3, 1) := by decide +kernel
theorem dX0_tryJoining_23 : decode cX0_tryJoining 23 = .ok (.iconst 5, 1) := by decide +kernel
theorem dX0_tryJoining_24 : decode cX0_tryJoining 24 = .ok (.imul, 1) := by decide +kernel
theorem dX0_tryJoining_25 : decode cX0_tryJoining 25 = .ok (.iload 4, 2) := by decide +kernel
theorem dX0_tryJoining_27 : decode cX0_tryJoining 27 = .ok (.iadd, 1) := by decide +kernel
theorem dX0_tryJoining_28 : decode cX0_tryJoining 28 = .ok (.aload_n 0, 1) := by decide +kernel
theorem dX0_tryJoining_29 : decode cX0_tryJoining 29 = .ok (.iload_n 1, 1) := by decide +kernel
theorem dX0_tryJoining_30 : decode cX0_tryJoining 30 = .ok (.iload_n 3, 1) := by decide +kernel
theorem dX0_tryJoining_31 : decode cX0_tryJoining 31 = .ok (.iload 4, 2) := by decide +kernel
theorem dX0_tryJoining_33 : decode cX0_tryJoining 33 = .ok (.invokestatic 54, 3) := by decide +kernel
theorem dX0_tryJoining_36 : decode cX0_tryJoining 36 = .ok (.invokevirtual 113, 3) := by decide +kernel
theorem dX0_tryJoining_39 : decode cX0_tryJoining 39 = .ok (.invokestatic 58, 3) := by decide +kernel
theorem dX0_tryJoining_42 : decode cX0_tryJoining 42 = .ok (.pop, 1) := by decide +kernel
theorem dX0_tryJoining_43 : decode cX0_tryJoining 43 = .ok (.iinc 4 1, 3) := by decide +kernel
theorem dX0_tryJoining_46 : decode cX0_tryJoining 46 = .ok (.goto (-34), 3) := by decide +kernel
theorem dX0_tryJoining_49 : decode cX0_tryJoining 49 = .ok (.iconst 0, 1) := by decide +kernel
theorem dX0_tryJoining_50 : decode cX0_tryJoining 50 = .ok (.istore 4, 2) := by decide +kernel
theorem dX0_tryJoining_52 : decode cX0_tryJoining 52 = .ok (.iload 4, 2) := by decide +kernel
theorem dX0_tryJoining_54 : decode cX0_tryJoining 54 = .ok (.sipush 255, 3) := by decide +kernel
theorem dX0_tryJoining_57 : decode cX0_tryJoining 57 = .ok (.if_icmp .gt 42, 3) := by decide +kernel
theorem dX0_tryJoining_60 : decode cX0_tryJoining 60 = .ok (.aload_n 0, 1) := by decide +kernel
theorem dX0_tryJoining_61 : decode cX0_tryJoining 61 = .ok (.iload_n 1, 1) := by decide +kernel
theorem dX0_tryJoining_62 : decode cX0_tryJoining 62 = .ok (.iload_n 3, 1) := by decide +kernel
theorem dX0_tryJoining_63 : decode cX0_tryJoining 63 = .ok (.iload 4, 2) := by decide +kernel
theorem dX0_tryJoining_65 : decode cX0_tryJoining 65 = .ok (.invokevirtual 113, 3) := by decide +kernel
theorem dX0_tryJoining_68 : decode cX0_tryJoining 68 = .ok (.aload_n 0, 1) := by decide +kernel
theorem dX0_tryJoining_69 : decode cX0_tryJoining 69 = .ok (.getfield 31, 3) := by decide +kernel
theorem dX0_tryJoining_72 : decode cX0_tryJoining 72 = .ok (.iload_n 3, 1) := by decide +kernel
theorem dX0_tryJoining_73 : decode cX0_tryJoining 73 = .ok (.iconst 5, 1) := by decide +kernel
theorem dX0_tryJoining_74 : decode cX0_tryJoining 74 = .ok (.imul, 1) := by decide +kernel
theorem dX0_tryJoining_75 : decode cX0_tryJoining 75 = .ok (.iload 4, 2) := by decide +kernel
theorem dX0_tryJoining_77 : decode cX0_tryJoining 77 = .ok (.invokestatic 139, 3) := by decide +kernel
theorem dX0_tryJoining_80 : decode cX0_tryJoining 80 = .ok (.isub, 1) := by decide +kernel
theorem dX0_tryJoining_81 : decode cX0_tryJoining 81 = .ok (.istore 5, 2) := by decide +kernel
theorem dX0_tryJoining_83 : decode cX0_tryJoining 83 = .ok (.iload_n 2, 1) := by decide +kernel
theorem dX0_tryJoining_84 : decode cX0_tryJoining 84 = .ok (.iload 5, 2) := by decide +kernel
theorem dX0_tryJoining_86 : decode cX0_tryJoining 86 = .ok (.invokestatic 189, 3) := by decide +kernel
theorem dX0_tryJoining_89 : decode cX0_tryJoining 89 = .ok (.invokestatic 125, 3) := by decide +kernel
theorem dX0_tryJoining_92 : decode cX0_tryJoining 92 = .ok (.istore_n 2, 1) := by decide +kernel
theorem dX0_tryJoining_93 : decode cX0_tryJoining 93 = .ok (.iinc 4 1, 3) := by decide +kernel
theorem dX0_tryJoining_96 : decode cX0_tryJoining 96 = .ok (.goto (-44), 3) := by decide +kernel
theorem dX0_tryJoining_99 : decode cX0_tryJoining 99 = .ok (.iinc 3 1, 3) := by decide +kernel
theorem dX0_tryJoining_102 : decode cX0_tryJoining 102 = .ok (.goto (-98), 3) := by decide +kernel
theorem dX0_tryJoining_105 : decode cX0_tryJoining 105 = .ok (.iload_n 2, 1) := by decide +kernel
theorem dX0_tryJoining_106 : decode cX0_tryJoining 106 = .ok (.ireturn, 1) := by decide +kernel
set_option maxRecDepth 20000 in
theorem ggX0_differsFromKept_X0_read : GoodIn wsX0_differsFromKept wsX0_read := goodIn_r _ [5] (by decide +kernel) (by decide +kernel)
set_option maxRecDepth 20000 in
theorem gX0_differsFromKept_X0_read : GoodIn wsX0_differsFromKept (va_wsS RX0 105 yX0_read wsX0_read) := goodIn_app (goodIn_of _ (by decide +kernel)) ggX0_differsFromKept_X0_read
set_option maxRecDepth 20000 in
theorem ggX0_differsFromKept_X0_valueOfPlace : GoodIn wsX0_differsFromKept wsX0_valueOfPlace := goodIn_r _ [8, 9, 10, 11, 12] (by decide +kernel) (by decide +kernel)
set_option maxRecDepth 20000 in
theorem gX0_differsFromKept_X0_valueOfPlace : GoodIn wsX0_differsFromKept (va_wsS RX0 54 yX0_valueOfPlace wsX0_valueOfPlace) := goodIn_app (goodIn_of _ (by decide +kernel)) ggX0_differsFromKept_X0_valueOfPlace
set_option maxRecDepth 20000 in
theorem ggX0_differsFromKept_X0_pass : GoodIn wsX0_differsFromKept wsX0_pass := goodIn_r _ [16, 17, 18, 2, 3, 4, 5, 19, 20, 21, 22, 23, 24, 25, 9, 10, 11, 12, 26, 27, 28, 29, 30, 31, 32, 33, 34, 35, 36, 37, 38, 39, 40, 41, 42, 43, 44, 45, 46, 47, 48, 49, 50, 51, 52, 53, 54, 55, 56, 57, 58] (by decide +kernel) (by decide +kernel)
set_option maxRecDepth 20000 in
theorem gX0_differsFromKept_X0_pass : GoodIn wsX0_differsFromKept (wsV RX0 113 RX0 yX0_pass wsX0_pass) := goodIn_app (goodIn_of _ (by decide +kernel)) ggX0_differsFromKept_X0_pass
theorem dX0_differsFromKept_0 : decode cX0_differsFromKept 0 = .ok (.iconst 0, 1) := by decide +kernel
theorem dX0_differsFromKept_1 : decode cX0_differsFromKept 1 = .ok (.istore_n 2, 1) := by decide +kernel
theorem dX0_differsFromKept_2 : decode cX0_differsFromKept 2 = .ok (.iload_n 2, 1) := by decide +kernel
theorem dX0_differsFromKept_3 : decode cX0_differsFromKept 3 = .ok (.iconst 3, 1) := by decide +kernel
theorem dX0_differsFromKept_4 : decode cX0_differsFromKept 4 = .ok (.if_icmp .ge 57, 3) := by decide +kernel
theorem dX0_differsFromKept_7 : decode cX0_differsFromKept 7 = .ok (.iconst 0, 1) := by decide +kernel
theorem dX0_differsFromKept_8 : decode cX0_differsFromKept 8 = .ok (.istore_n 3, 1) := by decide +kernel
theorem dX0_differsFromKept_9 : decode cX0_differsFromKept 9 = .ok (.iload_n 3, 1) := by decide +kernel
theorem dX0_differsFromKept_10 : decode cX0_differsFromKept 10 = .ok (.iconst 5, 1) := by decide +kernel
theorem dX0_differsFromKept_11 : decode cX0_differsFromKept 11 = .ok (.if_icmp .ge 44, 3) := by decide +kernel
theorem dX0_differsFromKept_14 : decode cX0_differsFromKept 14 = .ok (.aload_n 0, 1) := by decide +kernel
theorem dX0_differsFromKept_15 : decode cX0_differsFromKept 15 = .ok (.getfield 28, 3) := by decide +kernel
theorem dX0_differsFromKept_18 : decode cX0_differsFromKept 18 = .ok (.iload_n 1, 1) := by decide +kernel
theorem dX0_differsFromKept_19 : decode cX0_differsFromKept 19 = .ok (.iconst 3, 1) := by decide +kernel
theorem dX0_differsFromKept_20 : decode cX0_differsFromKept 20 = .ok (.imul, 1) := by decide +kernel
theorem dX0_differsFromKept_21 : decode cX0_differsFromKept 21 = .ok (.iload_n 2, 1) := by decide +kernel
theorem dX0_differsFromKept_22 : decode cX0_differsFromKept 22 = .ok (.iadd, 1) := by decide +kernel
theorem dX0_differsFromKept_23 : decode cX0_differsFromKept 23 = .ok (.iconst 5, 1) := by decide +kernel
theorem dX0_differsFromKept_24 : decode cX0_differsFromKept 24 = .ok (.imul, 1) := by decide +kernel
theorem dX0_differsFromKept_25 : decode cX0_differsFromKept 25 = .ok (.iload_n 3, 1) := by decide +kernel
theorem dX0_differsFromKept_26 : decode cX0_differsFromKept 26 = .ok (.iadd, 1) := by decide +kernel
theorem dX0_differsFromKept_27 : decode cX0_differsFromKept 27 = .ok (.invokestatic 105, 3) := by decide +kernel
theorem dX0_differsFromKept_30 : decode cX0_differsFromKept 30 = .ok (.istore 4, 2) := by decide +kernel
theorem dX0_differsFromKept_32 : decode cX0_differsFromKept 32 = .ok (.aload_n 0, 1) := by decide +kernel
theorem dX0_differsFromKept_33 : decode cX0_differsFromKept 33 = .ok (.iload_n 1, 1) := by decide +kernel
theorem dX0_differsFromKept_34 : decode cX0_differsFromKept 34 = .ok (.iload_n 2, 1) := by decide +kernel
theorem dX0_differsFromKept_35 : decode cX0_differsFromKept 35 = .ok (.iload_n 3, 1) := by decide +kernel
theorem dX0_differsFromKept_36 : decode cX0_differsFromKept 36 = .ok (.invokestatic 54, 3) := by decide +kernel
theorem dX0_differsFromKept_39 : decode cX0_differsFromKept 39 = .ok (.invokevirtual 113, 3) := by decide +kernel
theorem dX0_differsFromKept_42 : decode cX0_differsFromKept 42 = .ok (.iload 4, 2) := by decide +kernel
theorem dX0_differsFromKept_44 : decode cX0_differsFromKept 44 = .ok (.if_icmp .eq 5, 3) := by decide +kernel
theorem dX0_differsFromKept_47 : decode cX0_differsFromKept 47 = .ok (.iconst 1, 1) := by decide +kernel
theorem dX0_differsFromKept_48 : decode cX0_differsFromKept 48 = .ok (.ireturn, 1) := by decide +kernel
theorem dX0_differsFromKept_49 : decode cX0_differsFromKept 49 = .ok (.iinc 3 1, 3) := by decide +kernel
theorem dX0_differsFromKept_52 : decode cX0_differsFromKept 52 = .ok (.goto (-43), 3) := by decide +kernel
theorem dX0_differsFromKept_55 : decode cX0_differsFromKept 55 = .ok (.iinc 2 1, 3) := by decide +kernel
theorem dX0_differsFromKept_58 : decode cX0_differsFromKept 58 = .ok (.goto (-56), 3) := by decide +kernel
theorem dX0_differsFromKept_61 : decode cX0_differsFromKept 61 = .ok (.iconst 0, 1) := by decide +kernel
theorem dX0_differsFromKept_62 : decode cX0_differsFromKept 62 = .ok (.ireturn, 1) := by decide +kernel
set_option maxRecDepth 20000 in
theorem ggX0_profilesOf_X0_read : GoodIn wsX0_profilesOf wsX0_read := goodIn_r _ [6] (by decide +kernel) (by decide +kernel)
set_option maxRecDepth 20000 in
theorem gX0_profilesOf_X0_read : GoodIn wsX0_profilesOf (va_wsS RX0 105 yX0_read wsX0_read) := goodIn_app (goodIn_of _ (by decide +kernel)) ggX0_profilesOf_X0_read
theorem dX0_profilesOf_0 : decode cX0_profilesOf 0 = .ok (.aload_n 0, 1) := by decide +kernel
theorem dX0_profilesOf_1 : decode cX0_profilesOf 1 = .ok (.getfield 25, 3) := by decide +kernel
theorem dX0_profilesOf_4 : decode cX0_profilesOf 4 = .ok (.iload_n 1, 1) := by decide +kernel
theorem dX0_profilesOf_5 : decode cX0_profilesOf 5 = .ok (.invokestatic 105, 3) := by decide +kernel
theorem dX0_profilesOf_8 : decode cX0_profilesOf 8 = .ok (.istore_n 2, 1) := by decide +kernel
theorem dX0_profilesOf_9 : decode cX0_profilesOf 9 = .ok (.iconst 0, 1) := by decide +kernel
theorem dX0_profilesOf_10 : decode cX0_profilesOf 10 = .ok (.istore_n 3, 1) := by decide +kernel
theorem dX0_profilesOf_11 : decode cX0_profilesOf 11 = .ok (.iconst 0, 1) := by decide +kernel
theorem dX0_profilesOf_12 : decode cX0_profilesOf 12 = .ok (.istore 4, 2) := by decide +kernel
theorem dX0_profilesOf_14 : decode cX0_profilesOf 14 = .ok (.iload 4, 2) := by decide +kernel
theorem dX0_profilesOf_16 : decode cX0_profilesOf 16 = .ok (.iload_n 2, 1) := by decide +kernel
theorem dX0_profilesOf_17 : decode cX0_profilesOf 17 = .ok (.if_icmp .ge 28, 3) := by decide +kernel
theorem dX0_profilesOf_20 : decode cX0_profilesOf 20 = .ok (.iload_n 3, 1) := by decide +kernel
theorem dX0_profilesOf_21 : decode cX0_profilesOf 21 = .ok (.iconst 1, 1) := by decide +kernel
theorem dX0_profilesOf_22 : decode cX0_profilesOf 22 = .ok (.aload_n 0, 1) := by decide +kernel
theorem dX0_profilesOf_23 : decode cX0_profilesOf 23 = .ok (.getfield 22, 3) := by decide +kernel
theorem dX0_profilesOf_26 : decode cX0_profilesOf 26 = .ok (.iload_n 1, 1) := by decide +kernel
theorem dX0_profilesOf_27 : decode cX0_profilesOf 27 = .ok (.bipush 6, 2) := by decide +kernel
theorem dX0_profilesOf_29 : decode cX0_profilesOf 29 = .ok (.imul, 1) := by decide +kernel
theorem dX0_profilesOf_30 : decode cX0_profilesOf 30 = .ok (.iload 4, 2) := by decide +kernel
theorem dX0_profilesOf_32 : decode cX0_profilesOf 32 = .ok (.iadd, 1) := by decide +kernel
theorem dX0_profilesOf_33 : decode cX0_profilesOf 33 = .ok (.invokestatic 105, 3) := by decide +kernel
theorem dX0_profilesOf_36 : decode cX0_profilesOf 36 = .ok (.ishl, 1) := by decide +kernel
theorem dX0_profilesOf_37 : decode cX0_profilesOf 37 = .ok (.ior, 1) := by decide +kernel
theorem dX0_profilesOf_38 : decode cX0_profilesOf 38 = .ok (.istore_n 3, 1) := by decide +kernel
theorem dX0_profilesOf_39 : decode cX0_profilesOf 39 = .ok (.iinc 4 1, 3) := by decide +kernel
theorem dX0_profilesOf_42 : decode cX0_profilesOf 42 = .ok (.goto (-28), 3) := by decide +kernel
theorem dX0_profilesOf_45 : decode cX0_profilesOf 45 = .ok (.iload_n 3, 1) := by decide +kernel
theorem dX0_profilesOf_46 : decode cX0_profilesOf 46 = .ok (.ireturn, 1) := by decide +kernel
set_option maxRecDepth 20000 in
theorem ggX0_inked_X0_read : GoodIn wsX0_inked wsX0_read := goodIn_r _ [11] (by decide +kernel) (by decide +kernel)
set_option maxRecDepth 20000 in
theorem gX0_inked_X0_read : GoodIn wsX0_inked (va_wsS RX0 105 yX0_read wsX0_read) := goodIn_app (goodIn_of _ (by decide +kernel)) ggX0_inked_X0_read
set_option maxRecDepth 20000 in
theorem ggX0_inked_X0_hasBit : GoodIn wsX0_inked wsX0_hasBit := goodIn_r _ [14] (by decide +kernel) (by decide +kernel)
set_option maxRecDepth 20000 in
theorem gX0_inked_X0_hasBit : GoodIn wsX0_inked (va_wsS RX0 133 yX0_hasBit wsX0_hasBit) := goodIn_app (goodIn_of _ (by decide +kernel)) ggX0_inked_X0_hasBit
theorem dX0_inked_0 : decode cX0_inked 0 = .ok (.aload_n 0, 1) := by decide +kernel
theorem dX0_inked_1 : decode cX0_inked 1 = .ok (.getfield 34, 3) := by decide +kernel
theorem dX0_inked_4 : decode cX0_inked 4 = .ok (.iload_n 1, 1) := by decide +kernel
theorem dX0_inked_5 : decode cX0_inked 5 = .ok (.iconst 3, 1) := by decide +kernel
theorem dX0_inked_6 : decode cX0_inked 6 = .ok (.imul, 1) := by decide +kernel
theorem dX0_inked_7 : decode cX0_inked 7 = .ok (.iload_n 2, 1) := by decide +kernel
theorem dX0_inked_8 : decode cX0_inked 8 = .ok (.iadd, 1) := by decide +kernel
theorem dX0_inked_9 : decode cX0_inked 9 = .ok (.invokestatic 105, 3) := by decide +kernel
theorem dX0_inked_12 : decode cX0_inked 12 = .ok (.istore 4, 2) := by decide +kernel
theorem dX0_inked_14 : decode cX0_inked 14 = .ok (.iconst 0, 1) := by decide +kernel
theorem dX0_inked_15 : decode cX0_inked 15 = .ok (.istore 5, 2) := by decide +kernel
theorem dX0_inked_17 : decode cX0_inked 17 = .ok (.iload 5, 2) := by decide +kernel
theorem dX0_inked_19 : decode cX0_inked 19 = .ok (.iconst 3, 1) := by decide +kernel
theorem dX0_inked_20 : decode cX0_inked 20 = .ok (.if_icmp .ge 64, 3) := by decide +kernel
theorem dX0_inked_23 : decode cX0_inked 23 = .ok (.iload_n 3, 1) := by decide +kernel
theorem dX0_inked_24 : decode cX0_inked 24 = .ok (.iload 5, 2) := by decide +kernel
theorem dX0_inked_26 : decode cX0_inked 26 = .ok (.invokestatic 133, 3) := by decide +kernel
theorem dX0_inked_29 : decode cX0_inked 29 = .ok (.ifCond .ne 49, 3) := by decide +kernel
theorem dX0_inked_32 : decode cX0_inked 32 = .ok (.aload_n 0, 1) := by decide +kernel
theorem dX0_inked_33 : decode cX0_inked 33 = .ok (.getfield 40, 3) := by decide +kernel
theorem dX0_inked_36 : decode cX0_inked 36 = .ok (.iload 5, 2) := by decide +kernel
theorem dX0_inked_38 : decode cX0_inked 38 = .ok (.iconst 3, 1) := by decide +kernel
theorem dX0_inked_39 : decode cX0_inked 39 = .ok (.imul, 1) := by decide +kernel
theorem dX0_inked_40 : decode cX0_inked 40 = .ok (.iload_n 2, 1) := by decide +kernel
theorem dX0_inked_41 : decode cX0_inked 41 = .ok (.iadd, 1) := by decide +kernel
theorem dX0_inked_42 : decode cX0_inked 42 = .ok (.invokestatic 105, 3) := by decide +kernel
theorem dX0_inked_45 : decode cX0_inked 45 = .ok (.aload_n 0, 1) := by decide +kernel
theorem dX0_inked_46 : decode cX0_inked 46 = .ok (.getfield 37, 3) := by decide +kernel
theorem dX0_inked_49 : decode cX0_inked 49 = .ok (.iload_n 1, 1) := by decide +kernel
theorem dX0_inked_50 : decode cX0_inked 50 = .ok (.iconst 3, 1) := by decide +kernel
theorem dX0_inked_51 : decode cX0_inked 51 = .ok (.imul, 1) := by decide +kernel
theorem dX0_inked_52 : decode cX0_inked 52 = .ok (.iload 5, 2) := by decide +kernel
theorem dX0_inked_54 : decode cX0_inked 54 = .ok (.iadd, 1) := by decide +kernel
theorem dX0_inked_55 : decode cX0_inked 55 = .ok (.invokestatic 105, 3) := by decide +kernel
theorem dX0_inked_58 : decode cX0_inked 58 = .ok (.imul, 1) := by decide +kernel
theorem dX0_inked_59 : decode cX0_inked 59 = .ok (.sipush 255, 3) := by decide +kernel
theorem dX0_inked_62 : decode cX0_inked 62 = .ok (.idiv, 1) := by decide +kernel
theorem dX0_inked_63 : decode cX0_inked 63 = .ok (.istore 6, 2) := by decide +kernel
theorem dX0_inked_65 : decode cX0_inked 65 = .ok (.sipush 255, 3) := by decide +kernel
theorem dX0_inked_68 : decode cX0_inked 68 = .ok (.iload 4, 2) := by decide +kernel
theorem dX0_inked_70 : decode cX0_inked 70 = .ok (.iload 6, 2) := by decide +kernel
theorem dX0_inked_72 : decode cX0_inked 72 = .ok (.iadd, 1) := by decide +kernel
theorem dX0_inked_73 : decode cX0_inked 73 = .ok (.invokestatic 119, 3) := by decide +kernel
theorem dX0_inked_76 : decode cX0_inked 76 = .ok (.istore 4, 2) := by decide +kernel
theorem dX0_inked_78 : decode cX0_inked 78 = .ok (.iinc 5 1, 3) := by decide +kernel
theorem dX0_inked_81 : decode cX0_inked 81 = .ok (.goto (-64), 3) := by decide +kernel
theorem dX0_inked_84 : decode cX0_inked 84 = .ok (.iload 4, 2) := by decide +kernel
theorem dX0_inked_86 : decode cX0_inked 86 = .ok (.ireturn, 1) := by decide +kernel
theorem dX0_read_0 : decode cX0_read 0 = .ok (.aload_n 0, 1) := by decide +kernel
theorem dX0_read_1 : decode cX0_read 1 = .ok (.ifnull 19, 3) := by decide +kernel
theorem dX0_read_4 : decode cX0_read 4 = .ok (.iload_n 1, 1) := by decide +kernel
theorem dX0_read_5 : decode cX0_read 5 = .ok (.ifCond .lt 15, 3) := by decide +kernel
theorem dX0_read_8 : decode cX0_read 8 = .ok (.iload_n 1, 1) := by decide +kernel
theorem dX0_read_9 : decode cX0_read 9 = .ok (.aload_n 0, 1) := by decide +kernel
theorem dX0_read_10 : decode cX0_read 10 = .ok (.arraylength, 1) := by decide +kernel
theorem dX0_read_11 : decode cX0_read 11 = .ok (.if_icmp .ge 9, 3) := by decide +kernel
theorem dX0_read_14 : decode cX0_read 14 = .ok (.aload_n 0, 1) := by decide +kernel
theorem dX0_read_15 : decode cX0_read 15 = .ok (.iload_n 1, 1) := by decide +kernel
theorem dX0_read_16 : decode cX0_read 16 = .ok (.iaload, 1) := by decide +kernel
theorem dX0_read_17 : decode cX0_read 17 = .ok (.goto 4, 3) := by decide +kernel
theorem dX0_read_20 : decode cX0_read 20 = .ok (.iconst 0, 1) := by decide +kernel
theorem dX0_read_21 : decode cX0_read 21 = .ok (.ireturn, 1) := by decide +kernel
theorem dX0_swap_0 : decode cX0_swap 0 = .ok (.aload_n 0, 1) := by decide +kernel
theorem dX0_swap_1 : decode cX0_swap 1 = .ok (.ifnull 13, 3) := by decide +kernel
theorem dX0_swap_4 : decode cX0_swap 4 = .ok (.iload_n 1, 1) := by decide +kernel
end
section
theorem dX0_swap_5 : decode cX0_swap 5 = .ok (.ifCond .lt 9, 3) := by decide +kernel
theorem dX0_swap_8 : decode cX0_swap 8 = .ok (.iload_n 1, 1) := by decide +kernel
theorem dX0_swap_9 : decode cX0_swap 9 = .ok (.aload_n 0, 1) := by decide +kernel
theorem dX0_swap_10 : decode cX0_swap 10 = .ok (.arraylength, 1) := by decide +kernel
theorem dX0_swap_11 : decode cX0_swap 11 = .ok (.if_icmp .lt 5, 3) := by decide +kernel
theorem dX0_swap_14 : decode cX0_swap 14 = .ok (.iconst 0, 1) := by decide +kernel
theorem dX0_swap_15 : decode cX0_swap 15 = .ok (.ireturn, 1) := by decide +kernel
theorem dX0_swap_16 : decode cX0_swap 16 = .ok (.aload_n 0, 1) := by decide +kernel
theorem dX0_swap_17 : decode cX0_swap 17 = .ok (.iload_n 1, 1) := by decide +kernel
theorem dX0_swap_18 : decode cX0_swap 18 = .ok (.iaload, 1) := by decide +kernel
theorem dX0_swap_19 : decode cX0_swap 19 = .ok (.istore_n 3, 1) := by decide +kernel
theorem dX0_swap_20 : decode cX0_swap 20 = .ok (.aload_n 0, 1) := by decide +kernel
theorem dX0_swap_21 : decode cX0_swap 21 = .ok (.iload_n 1, 1) := by decide +kernel
theorem dX0_swap_22 : decode cX0_swap 22 = .ok (.iload_n 2, 1) := by decide +kernel
theorem dX0_swap_23 : decode cX0_swap 23 = .ok (.iastore, 1) := by decide +kernel
theorem dX0_swap_24 : decode cX0_swap 24 = .ok (.iload_n 3, 1) := by decide +kernel
theorem dX0_swap_25 : decode cX0_swap 25 = .ok (.ireturn, 1) := by decide +kernel
theorem dX0_hasBit_0 : decode cX0_hasBit 0 = .ok (.iload_n 0, 1) := by decide +kernel
theorem dX0_hasBit_1 : decode cX0_hasBit 1 = .ok (.iload_n 1, 1) := by decide +kernel
theorem dX0_hasBit_2 : decode cX0_hasBit 2 = .ok (.ishr, 1) := by decide +kernel
theorem dX0_hasBit_3 : decode cX0_hasBit 3 = .ok (.iconst 1, 1) := by decide +kernel
theorem dX0_hasBit_4 : decode cX0_hasBit 4 = .ok (.iand, 1) := by decide +kernel
theorem dX0_hasBit_5 : decode cX0_hasBit 5 = .ok (.iconst 1, 1) := by decide +kernel
theorem dX0_hasBit_6 : decode cX0_hasBit 6 = .ok (.if_icmp .ne 7, 3) := by decide +kernel
theorem dX0_hasBit_9 : decode cX0_hasBit 9 = .ok (.iconst 1, 1) := by decide +kernel
theorem dX0_hasBit_10 : decode cX0_hasBit 10 = .ok (.goto 4, 3) := by decide +kernel
theorem dX0_hasBit_13 : decode cX0_hasBit 13 = .ok (.iconst 0, 1) := by decide +kernel
theorem dX0_hasBit_14 : decode cX0_hasBit 14 = .ok (.ireturn, 1) := by decide +kernel
end
section
/-! THE LAYER: numbers as naturals, the worlds of the class and of the reference, calls that only read, calls that check and throw -/
/-- a row's contents as naturals -/
def gr (F : Nat → Nat) : Nat → Int32 := fun j => nI (F j)
def gu (F : Nat → Nat) (k v : Nat) : Nat → Nat := fun j => if j = k then v else F j
theorem gr_upd (F : Nat → Nat) (k v : Nat) : upd (gr F) k (nI v) = gr (gu F k v) := by
  funext j
  unfold upd gr gu
  split <;> rfl
theorem gu_same (F : Nat → Nat) (k v : Nat) : gu F k v k = v := by simp [gu]
theorem gu_other (F : Nat → Nat) {k j : Nat} (v : Nat) (h : j ≠ k) : gu F k v j = F j := by simp [gu, h]
def gs (S : Nat → Nat → Nat) (k : Nat) (F : Nat → Nat) : Nat → Nat → Nat := fun j => if j = k then F else S j
theorem gs_same (S : Nat → Nat → Nat) (k : Nat) (F : Nat → Nat) : gs S k F k = F := by simp [gs]
theorem gs_other (S : Nat → Nat → Nat) {k j : Nat} (F : Nat → Nat) (h : j ≠ k) : gs S k F j = S j := by simp [gs, h]
/-- an int in the range 0 to n - 1 -/
def gb (x : Int32) (n : Nat) : Bool := decide (0 ≤ x.toInt ∧ x.toInt < (n : Int))
theorem gb_neg {x : Int32} {n : Nat} (h : x < 0) : gb x n = false := by
  have h1 : x.toInt < 0 := by
    have h2 := Int32.lt_iff_toInt_lt.mp h
    simpa using h2
  simp only [gb, decide_eq_false_iff_not]
  omega
theorem gb_big {x : Int32} {n : Nat} (hn : n < 2 ^ 31) (h : nI n ≤ x) : gb x n = false := by
  have h1 := Int32.le_iff_toInt_le.mp h
  rw [nI_toInt hn] at h1
  simp only [gb, decide_eq_false_iff_not]
  omega
theorem gb_in {x : Int32} {n : Nat} (hn : n < 2 ^ 31) (h0 : ¬ x < 0) (h : x < nI n) : gb x n = true := by
  have h1 := Int32.lt_iff_toInt_lt.mp h
  rw [nI_toInt hn] at h1
  have h2 : ¬ x.toInt < 0 := fun z => h0 (Int32.lt_iff_toInt_lt.mpr (by simpa using z))
  simp only [gb, decide_eq_true_eq]
  omega
theorem gb_of {x : Int32} {n : Nat} (hn : n ≤ 2 ^ 31) (h : gb x n = true) : ∃ j : Nat, j < n ∧ x = nI j := by
  simp only [gb, decide_eq_true_eq] at h
  refine ⟨x.toInt.toNat, by omega, ?_⟩
  have h3 : (nI x.toInt.toNat).toInt = x.toInt := by
    rw [nI_toInt (by omega)]
    omega
  exact (Int32.toInt_inj.mp h3).symm
theorem gb_nI {j n : Nat} (hj : j < 2 ^ 31) : gb (nI j) n = decide (j < n) := by
  unfold gb
  rw [nI_toInt hj]
  apply decide_eq_decide.mpr
  omega
theorem gi_le {x : Int32} (h : ¬ x < 0) (h2 : x ≤ nI 255) : gb x 256 = true := by
  have h1 := Int32.le_iff_toInt_le.mp h2
  rw [nI_toInt (by decide)] at h1
  have h3 : ¬ x.toInt < 0 := fun z => h (Int32.lt_iff_toInt_lt.mpr (by simpa using z))
  simp only [gb, decide_eq_true_eq]
  omega
theorem gi_nle {x : Int32} (h2 : ¬ x ≤ nI 255) : gb x 256 = false := by
  have h1 : ¬ x.toInt ≤ (nI 255).toInt := fun z => h2 (Int32.le_iff_toInt_le.mpr z)
  rw [nI_toInt (by decide)] at h1
  simp only [gb, decide_eq_false_iff_not]
  omega
/-- the world of a GamutChain: its object and its eleven rows -/
def xw (q : Nat → Nat) (cI : ClassId) (N : Nat → Nat) (S : Nat → Nat → Nat) (tr : Nat → Nat) : va_W := [
  (q 0, .inr (0, [.int (nI (N 0)), .ref (q 1), .ref (q 2), .ref (q 3), .ref (q 4), .int (nI (N 5)), .ref (q 6), .ref (q 7), .ref (q 8), .int (nI (N 9)), .int (nI (N 10)), .ref (q 11), .ref (q 12), .ref (q 13), .ref (q 14)])),
  (q 1, .inl (cI, 120, .inl (gr (S 1)))), (q 2, .inl (cI, 24, .inl (gr (S 2)))), (q 3, .inl (cI, 24, .inl (gr (S 3)))), (q 4, .inl (cI, 8, .inl (gr (S 4)))),
  (q 6, .inl (cI, 36, .inl (gr (S 6)))), (q 7, .inl (cI, 6, .inl (gr (S 7)))), (q 8, .inl (cI, 90, .inl (gr (S 8)))), (q 11, .inl (cI, 15, .inl (gr tr))),
  (q 12, .inl (cI, 18, .inl (gr (S 12)))), (q 13, .inl (cI, 18, .inl (gr (S 13)))), (q 14, .inl (cI, 9, .inl (gr (S 14))))]
def gB : List Cond := [.declares (Bundle.initS "java/lang/RuntimeException"), .declares (Bundle.initS "java/lang/Exception"), .declares (Bundle.initS Bundle.tN), .castable "java/lang/IndexOutOfBoundsException" "java/lang/IndexOutOfBoundsException", .castable "java/lang/IllegalArgumentException" "java/lang/IllegalArgumentException", .castable "java/lang/IllegalStateException" "java/lang/IllegalStateException"]
def gTx : List (Nat × String) := [(49, "there are 8 profiles"), (163, "no such profile"), (167, "no such band"), (71, "no such place"), (173, "out of 0 to 255"), (179, "the profile is held"), (82, "the greatest is below the least"), (85, "no such way"), (97, "there are 6 chains"), (165, "no such chain"), (181, "the chain is held"), (109, "the chain has 6 profiles"), (111, "the chain has no profile"), (128, "the gap is too great"), (137, "the chain is not joined"), (169, "no such pixel"), (171, "no such ink"), (158, "no such set of inks")]
/-- what a throw needs of the start: two statics, six words, the texts, and which class isn't another -/
def gZ (A : Nat → Prop) (U : State) (H : Heap) : Prop := vx_Zq Bundle.tN "UNASSIGNED_STACK" Bundle.steD A U H ∧ vx_Zq Bundle.tN "SUPPRESSED_SENTINEL" Bundle.listD A U H ∧ (∀ w ∈ gB, va_Nw w U) ∧ (∀ x ∈ gTx, ∃ a, vk_R RX0 x.1 x.2 a U) ∧
  va_Nc "java/lang/IllegalArgumentException" "java/lang/IndexOutOfBoundsException" U ∧ va_Nc "java/lang/IllegalStateException" "java/lang/IndexOutOfBoundsException" U ∧ va_Nc "java/lang/IllegalStateException" "java/lang/IllegalArgumentException" U
theorem gZ.moved {A : Nat → Prop} {s U : State} {H : Heap} (hW : s.WarmedH U.vm) (h : gZ A s H) : gZ A U H := by
  obtain ⟨h1, h2, h3, h4, h5, h6, h7⟩ := h
  refine ⟨h1.moved hW.alike, h2.moved hW.alike, ?_, fun x hx => ?_, h5.moved hW.alike, h6.moved hW.alike, h7.moved hW.alike⟩
  · simp only [gB, List.forall_mem_cons] at h3 ⊢
    exact ⟨h3.1.warmD hW, h3.2.1.warmD hW, h3.2.2.1.warmD hW, h3.2.2.2.1.warmC hW, h3.2.2.2.2.1.warmC hW, h3.2.2.2.2.2.1.warmC hW, fun _ z => nomatch z⟩
  · obtain ⟨a, ha⟩ := h4 x hx
    exact ⟨a, ha.warm hW⟩
theorem gZ.kept {A : Nat → Prop} {U : State} {H H1 : Heap} (h : gZ A U H) (hq : ∀ a : Nat, a < H.size → ¬ A a → H1[a]? = H[a]?) : gZ A U H1 := ⟨h.1.kept hq, h.2.1.kept hq, h.2.2⟩
theorem gZ.narrow {A B : Nat → Prop} {U : State} {H : Heap} (h : gZ A U H) (hAB : ∀ q, B q → A q) : gZ B U H := ⟨h.1.narrow hAB, h.2.1.narrow hAB, h.2.2⟩
theorem gZ.none {A : Nat → Prop} {U : State} {H : Heap} (h : gZ A U H) : gZ (fun _ => False) U H := h.narrow (fun _ z => z.elim)
/-- a GamutChain in the heap -/
def xAt (D : va_G) (q : Nat → Nat) (cI : ClassId) (N : Nat → Nat) (S : Nat → Nat → Nat) (tr : Nat → Nat) (A : Nat → Prop) (U : State) (H : Heap) : Prop := va_P D vwCl (xw q cI N S tr) H ∧ va_K D vwCl [(cI, .int)] U ∧ va_D A (xw q cI N S tr) ∧ gZ A U H
theorem xAt.moved {D : va_G} {q : Nat → Nat} {cI : ClassId} {N : Nat → Nat} {S : Nat → Nat → Nat} {tr : Nat → Nat} {A : Nat → Prop} {s U : State} {H : Heap} (hW : s.WarmedH U.vm) (h : xAt D q cI N S tr A s H) : xAt D q cI N S tr A U H := ⟨h.1, h.2.1.moved hW.alike, h.2.2.1, h.2.2.2.moved hW⟩
/-- one row in the heap -/
def rAt (D : va_G) (a : Nat) (cI : ClassId) (n : Nat) (F : Nat → Nat) (U : State) (H : Heap) : Prop := va_P D vwCl [(a, .inl (cI, n, .inl (gr F)))] H ∧ va_K D vwCl [(cI, .int)] U
theorem rAt.moved {D : va_G} {a : Nat} {cI : ClassId} {n : Nat} {F : Nat → Nat} {s U : State} {H : Heap} (hW : s.WarmedH U.vm) (h : rAt D a cI n F s H) : rAt D a cI n F U H := ⟨h.1, h.2.moved hW.alike⟩
theorem xAt.row {D : va_G} {q : Nat → Nat} {cI : ClassId} {N : Nat → Nat} {S : Nat → Nat → Nat} {tr : Nat → Nat} {A : Nat → Prop} {s : State} {H : Heap} (h : xAt D q cI N S tr A s H) (k : Nat) {a n : Nat} {F : Nat → Nat} (hk : (xw q cI N S tr)[k]? = some (a, .inl (cI, n, .inl (gr F)))) : rAt D a cI n F s H := ⟨h.1.sub [k] (by simp [hk]), h.2.1⟩
/-- what a thrown exception leaves: all that was there -/
def gX (P : String → Prop) : String → State → State → Prop := fun E st t => P E ∧ st.heap.size ≤ t.heap.size ∧ ∀ q : Nat, q < st.heap.size → t.heap[q]? = st.heap[q]?
section GC
variable {p : Program} {l : Launch} {e : Env} {R : Room} {s : State} {m : MethodId} {args : Array Value} {below : List Frame} {meth : Method} {c : Code} {H : Heap} {locs : List Loc} {cells slots : Nat} {Q : State → Prop}
variable {y : MethodName} {bytes cc : ByteArray} {maxL nL mc ms n index pc : Nat} {ret : Option FieldType} {ws ws' : List Cond} {rm : Room} {Qc : Array Value → State → Outcome → State → Prop} {XC : String → State → State → Prop} {free : Addr → Prop} {Ts : List Cond} {own : String} {As rest st0 : List Value} {ls : Array Slot} {Bp : State → Prop} {b : Nat}
/-- what stands in a method: the machine, the bytes, the answer's type, the locals' number, the class, the words, no lock -/
def gF (p : Program) (s : State) (m : MethodId) (args : Array Value) (meth : Method) (c : Code) (cc : ByteArray) (ret : Option FieldType) (nL : Nat) (own : String) (ws : List Cond) : Prop :=
  p.tables.exec = Jvm.exec ∧ c.code = cc ∧ meth.sig.returnType = ret ∧ c.maxLocals = nL ∧ s.vm.findClass own = some m.cls ∧ (∀ w ∈ ws, w.before args s = true) ∧ meth.locks = false
theorem gF.fix (G : gF p s m args meth c cc ret nL own ws) : CallFix p m c cc nL s args ws own := ⟨G.1, G.2.1, G.2.2.2.1, G.2.2.2.2.1, G.2.2.2.2.2.1⟩
theorem gc_blind {av : List Value} (h : ∀ (U : State) (g : JFrame) (mk : MethodId) (a : Array Value), Bp U → Bp (U.calling g mk a)) : FrameBlind (va_Pc av Bp) := fun a U g mk hq => ⟨hq.1, h U g mk a hq.2⟩
theorem gc_met (av : List Value) (hy : plainName y.cls = true) (hw : ws = Cond.code y cc nL ret :: ws') (hlen : (lg_sl av).length ≤ nL) {lv0 : List (Nat × Value)} (hlv : lv_args 0 av = lv0)
    (body : ∀ (p : Program) (e : Env) (s : State) (m : MethodId) (below : List Frame) (meth : Method) (c : Code) (ls : Array Slot), gF p s m av.toArray meth c cc ret nL y.cls ws → lv_has ls nL lv0 → Bp s →
      W p l e rm s m av.toArray below meth c s.heap [] 0 0 (MQ below Qc av.toArray s mc ms free) (F0 m 0 ls [])) : Met l y ws rm (va_Pc av Bp) Qc mc ms free := by
  refine Met.ofW (cc := cc) (maxL := nL) (ret := ret) hy hw ?_
  intro p e s m args below meth c s₁ B hml hv
  obtain ⟨rfl, hX⟩ := hv
  have hl := lv_entry av (n := nL) hlen
  rw [lg_entry_eq]
  rw [hlv] at hl
  exact body p e s m below meth c _ ⟨B.exec, B.bytes, B.returns, hml, findClass_of_methodNamed B.named, atoms_spec (ws := ws) B.pre, B.notSynchronized⟩ hl hX
/-- the same for a method of a class that has natives of other names -/
theorem gc_metF (av : List Value) (hy : plainFor y = true) (hw : ws = Cond.code y cc nL ret :: ws') (hlen : (lg_sl av).length ≤ nL) {lv0 : List (Nat × Value)} (hlv : lv_args 0 av = lv0)
    (body : ∀ (p : Program) (e : Env) (s : State) (m : MethodId) (below : List Frame) (meth : Method) (c : Code) (ls : Array Slot), gF p s m av.toArray meth c cc ret nL y.cls ws → lv_has ls nL lv0 → Bp s →
      W p l e rm s m av.toArray below meth c s.heap [] 0 0 (MQ below Qc av.toArray s mc ms free) (F0 m 0 ls [])) : Met l y ws rm (va_Pc av Bp) Qc mc ms free := by
  refine MetFree.of_bodySF (code := cc) (maxLocals := nL) (ret := ret) hy ?_ ?_
  · intro args s m h hn
    obtain ⟨meth, c, h1, h2, h3, h4, h5, h6, -, -⟩ := Cond.code_spec hn (atoms_spec (ws := ws) h _ (by rw [hw]; exact List.mem_cons_self))
    exact ⟨meth, c, h1, h2, h3, h4, h5, h6⟩
  · intro p e s m args below meth c s₁ B hml hP _
    have hh0 : s₁.heap = s.heap := by rw [B.state]; rfl
    obtain ⟨rfl, hX⟩ := hP
    have hl := lv_entry av (n := nL) hlen
    rw [hlv] at hl
    have hb := body p e s m below meth c _ ⟨B.exec, B.bytes, B.returns, hml, findClass_of_methodNamed B.named, atoms_spec (ws := ws) B.pre, B.notSynchronized⟩ hl hX
    rw [← lg_entry_eq] at hb
    obtain ⟨t, a1, o, b1, b2, b3⟩ := hb s₁ hh0 (Stand.of_body B)
    exact ⟨t, o, a1, b1, b2, ⟨b3.1, b3.2⟩⟩
theorem gc_vxmet (av : List Value) (hy : plainName y.cls = true) (hw : ws = Cond.code y cc nL ret :: ws') (hlen : (lg_sl av).length ≤ nL) {lv0 : List (Nat × Value)} (hlv : lv_args 0 av = lv0)
    (body : ∀ (p : Program) (e : Env) (s : State) (m : MethodId) (below : List Frame) (meth : Method) (c : Code) (ls : Array Slot), gF p s m av.toArray meth c cc ret nL y.cls ws → (∀ x ∈ c.exceptionTable.toList, False) → lv_has ls nL lv0 → Bp s →
      W p l e rm s m av.toArray below meth c s.heap [] 0 0 (vx_MQ below Qc XC av.toArray s mc ms free) (F0 m 0 ls [])) : vx_Met l y ws rm (va_Pc av Bp) Qc XC mc ms free := by
  refine vx_ofW (cc := cc) (maxL := nL) (ret := ret) hy hw ?_
  intro p e s m args below meth c s₁ B hml hx0 hv
  obtain ⟨rfl, hX⟩ := hv
  have hl := lv_entry av (n := nL) hlen
  rw [lg_entry_eq]
  rw [hlv] at hl
  exact body p e s m below meth c _ ⟨B.exec, B.bytes, B.returns, hml, findClass_of_methodNamed B.named, atoms_spec (ws := ws) B.pre, B.notSynchronized⟩ hx0 hl hX
/-- a call of an object's own method that only reads -/
theorem gc_v {post : Int32 → Prop} {C : String} (G : CallFix p m c cc nL s args Ts own) (hM : Met l y ws rm (va_Pc (.ref b :: As) Bp) (vp_Si post) 0 0 (fun _ => False)) (cw : CallW R s args own C index y bytes maxL ret ws rm 0 0 n)
    (hbl : FrameBlind (va_Pc (.ref b :: As) Bp)) (hrc : ∃ cellB : Cell, H[b]? = some cellB ∧ cellB.vm.isStatics = false ∧ s.vm.findClass C = some cellB.cls) (hB : ∀ U : State, U.heap = H → s.WarmedH U.vm → Bp U)
    (hn : As.length = n) (hsz : ls.size = nL) (hst : st0 = As.reverse ++ .ref b :: rest) (hW : (rest.map fun v => v.category).sum ≤ 8) (hdg : decode cc pc = .ok (.invokevirtual index, 3)) (hc : cells ≤ R.cells) (hs : slots ≤ R.slots)
    (kk : ∀ r : Int32, post r → W p l e R s m args below meth c H locs cells slots Q (F0 m (pc + 3) ls (.int r :: rest))) : W p l e R s m args below meth c H locs cells slots Q (F0 m pc ls st0) :=
  vp_callSi (W.runV G hM cw ⟨hbl, hrc, fun U hU hW => ⟨rfl, hB U hU hW⟩⟩ rfl hn hsz hst (lv_room hW) hdg ⟨hc, hs⟩) kk
/-- a static call that only reads -/
theorem gc_s {post : Int32 → Prop} (G : CallFix p m c cc nL s args Ts own) (hM : Met l y ws rm (va_Pc As Bp) (vp_Si post) 0 0 (fun _ => False)) (cw : CallB R s args own index y bytes maxL ret ws rm 0 0 n ∧ (Cond.static y).before args s = true)
    (hbl : FrameBlind (va_Pc As Bp)) (hB : ∀ U : State, U.heap = H → s.WarmedH U.vm → Bp U)
    (hn : As.length = n) (hsz : ls.size = nL) (hst : st0 = As.reverse ++ rest) (hW : (rest.map fun v => v.category).sum ≤ 8) (hdg : decode cc pc = .ok (.invokestatic index, 3)) (hc : cells ≤ R.cells) (hs : slots ≤ R.slots)
    (kk : ∀ r : Int32, post r → W p l e R s m args below meth c H locs cells slots Q (F0 m (pc + 3) ls (.int r :: rest))) : W p l e R s m args below meth c H locs cells slots Q (F0 m pc ls st0) :=
  vp_callSi (W.runS G hM cw ⟨hbl, fun U hU hW => ⟨rfl, hB U hU hW⟩⟩ rfl hn hsz hst (lv_room hW) hdg ⟨hc, hs⟩) kk
theorem gc_tight {T T' : State} {k2 n2 : Nat} {locs2 : List Loc} (X : Stand p l e R s m args below meth c T locs2 cells slots) (X' : Stand p l e R s m args below meth c T' locs k2 n2) (h : T'.heap = T.heap) : Stand p l e R s m args below meth c T' locs cells slots := by
  have h1 := X.same
  have h2 := X'.same
  have e1 : (T'.setVm s.vm).heap = (T.setVm s.vm).heap := h
  obtain ⟨a1, a2, a3, a4, a5, a6⟩ := h1
  obtain ⟨b1, b2, b3, b4, b5, b6⟩ := h2
  exact { X' with same := ⟨b1, b2, by rw [e1]; exact a3, b4, by rw [e1]; exact a5, b6⟩ }
/-- a call that checks: it returns with nothing changed, or throws with one cell more -/
theorem gc_need {post : Unit → Prop} {PX : String → Prop} {a : Array Value} (hr : vx_Run p l e R s m args below meth c H locs cells slots 1 6 (F0 m pc ls st0) rest (va_Sv post a) (gX PX) (fun _ => False))
    (kx : ∀ (E : String) (ce : Cell) (q9 : Addr) (H1 : Heap), PX E → H.size ≤ H1.size → (∀ q : Nat, q < H.size → H1[q]? = H[q]?) → H1[q9]? = some ce → ce.vm = .none → s.vm.findClass E = some ce.cls → vx_W p l e R s m args below meth c H1 locs (cells + 1) (slots + 6) Q (F0 m pc ls rest) q9)
    (kk : post () → W p l e R s m args below meth c H locs cells slots Q (F0 m (pc + 3) ls rest)) : W p l e R s m args below meth c H locs cells slots Q (F0 m pc ls st0) := by
  intro T hT X
  rcases hr T hT X with ⟨v, st₀, t, T', L, h0, X', hL, e1, e2, ⟨hv, hp, hh⟩, st⟩ | ⟨q, st₀, t, T', L, E, ce, h0, X', hL, e1, e2, ⟨hp, hz, hk⟩, hce, hcv, hcl, st⟩
  · cases hv
    have e9 : T'.heap = H := by rw [e1, hh, h0]
    have X2 := Stand.forget (locs := locs) X' (fun q h => (hL q h).elim)
    obtain ⟨t2, a1, b1⟩ := kk hp T' e9 (gc_tight X X2 (by rw [e9, hT]))
    exact ⟨t2, st t2 a1, b1⟩
  · rw [h0] at hz hk
    have X2 := Stand.forget (locs := locs) X' (fun q h => (hL q h).elim)
    obtain ⟨t2, a1, b1⟩ := kx E ce q T'.heap hp (by rw [e1]; exact hz) (fun q h => by rw [e1]; exact hk q h) (by rw [e1]; exact hce) hcv hcl T' rfl X2
    exact ⟨t2, st.trans a1, b1⟩
/-- .. in a method without a table: what it throws goes on -/
theorem gc_needT {post : Unit → Prop} {PX : String → Prop} {a : Array Value} (hr : vx_Run p l e R s m args below meth c H locs cells slots 1 6 (F0 m pc ls st0) rest (va_Sv post a) (gX PX) (fun _ => False)) (hx0 : ∀ x ∈ c.exceptionTable.toList, False) (hlocks : meth.locks = false)
    (hXC : ∀ (E : String) (t : State), PX E → H.size ≤ t.heap.size → (∀ q : Nat, q < H.size → t.heap[q]? = H[q]?) → s.vm.Alike t.vm → XC E s t) (hf : ∀ z ∈ locs, free z.base) (hc : cells + 1 ≤ mc) (hs : slots + 6 ≤ ms)
    (kk : post () → W p l e R s m args below meth c H locs cells slots (vx_MQ below Qc XC args s mc ms free) (F0 m (pc + 3) ls rest)) : W p l e R s m args below meth c H locs cells slots (vx_MQ below Qc XC args s mc ms free) (F0 m pc ls st0) :=
  gc_need hr (fun E ce q9 H1 hp hz hk hce hcv hcl => vx_out (fun x hx => (hx0 x hx).elim) hlocks hce hcv hcl (fun t ht hal => hXC E t hp (by rw [ht]; exact hz) (fun q h => by rw [ht]; exact hk q h) hal) hf hc hs) kk
end GC
section GN
variable {p : Program} {l : Launch} {e : Env} {R : Room} {s : State} {m : MethodId} {args : Array Value} {below : List Frame} {meth : Method} {c : Code} {H : Heap} {locs : List Loc} {cells slots : Nat} {Q : State → Prop}
variable {cc : ByteArray} {nL pc index : Nat} {ret : Option FieldType} {ws : List Cond} {own : String} {rest : List Value} {ls : Array Slot} {a b : Nat}
theorem gn_iadd (G : gF p s m args meth c cc ret nL own ws) (d : decode cc pc = .ok (.iadd, 1)) (k : W p l e R s m args below meth c H locs cells slots Q (F0 m (pc + 1) ls (.int (nI (a + b)) :: rest))) : W p l e R s m args below meth c H locs cells slots Q (F0 m pc ls (.int (nI b) :: .int (nI a) :: rest)) :=
  lv_iadd G.1 G.2.1 d (by rw [nI_add]; exact k)
theorem gn_imul (G : gF p s m args meth c cc ret nL own ws) (d : decode cc pc = .ok (.imul, 1)) (k : W p l e R s m args below meth c H locs cells slots Q (F0 m (pc + 1) ls (.int (nI (a * b)) :: rest))) : W p l e R s m args below meth c H locs cells slots Q (F0 m pc ls (.int (nI b) :: .int (nI a) :: rest)) :=
  lv_imul G.1 G.2.1 d (by rw [pk_mul]; exact k)
theorem gn_isub (G : gF p s m args meth c cc ret nL own ws) (d : decode cc pc = .ok (.isub, 1)) (h : b ≤ a) (k : W p l e R s m args below meth c H locs cells slots Q (F0 m (pc + 1) ls (.int (nI (a - b)) :: rest))) : W p l e R s m args below meth c H locs cells slots Q (F0 m pc ls (.int (nI b) :: .int (nI a) :: rest)) :=
  lv_isub G.1 G.2.1 d (by rw [pk_sub h]; exact k)
theorem gn_idiv (G : gF p s m args meth c cc ret nL own ws) (d : decode cc pc = .ok (.idiv, 1)) (ha : a < 2 ^ 31) (h0 : 0 < b) (hb : b < 2 ^ 31) (k : W p l e R s m args below meth c H locs cells slots Q (F0 m (pc + 1) ls (.int (nI (a / b)) :: rest))) : W p l e R s m args below meth c H locs cells slots Q (F0 m pc ls (.int (nI b) :: .int (nI a) :: rest)) :=
  lv_idiv G.1 G.2.1 d (nI_ne0 h0 hb) (by rw [pk_div ha h0 hb]; exact k)
theorem gn_iinc (G : gF p s m args meth c cc ret nL own ws) {i k n : Nat} {lv lv' : List (Nat × Value)} (d : decode cc pc = .ok (.iinc i (n : Int), 3)) (h : lv_has ls nL lv) (hk : lv[k]? = some (i, .int (nI a))) (hn : i < nL) (hl : (i, Value.int (nI (a + n))) :: lv.filter (fun q => !(q.1 == i) && !(q.1 + 1 == i && q.2.category == 2)) = lv')
    (kk : ∀ ls' : Array Slot, lv_has ls' nL lv' → W p l e R s m args below meth c H locs cells slots Q (F0 m (pc + 3) ls' rest)) : W p l e R s m args below meth c H locs cells slots Q (F0 m pc ls rest) :=
  lv_iinc G.1 G.2.1 d h hk (by rw [show Int32.ofInt (n : Int) = nI n from rfl, nI_add]) hn hl kk
theorem gn_lt (G : gF p s m args meth c cc ret nL own ws) (ha : a < 2 ^ 31) (hb : b < 2 ^ 31) {off : Int} {tgt : Nat} (d : decode cc pc = .ok (.if_icmp .lt off, 3)) (ht : (pc : Int) + off = (tgt : Int))
    (kt : a < b → W p l e R s m args below meth c H locs cells slots Q (F0 m tgt ls rest)) (kf : b ≤ a → W p l e R s m args below meth c H locs cells slots Q (F0 m (pc + 3) ls rest)) : W p l e R s m args below meth c H locs cells slots Q (F0 m pc ls (.int (nI b) :: .int (nI a) :: rest)) :=
  lv_icmp_lt G.1 G.2.1 d ht (fun h => kt ((nI_ltI ha hb).mp h)) (fun h => kf (by have h2 : ¬ (a < b) := fun z => h ((nI_ltI ha hb).mpr z); omega))
theorem gn_ge (G : gF p s m args meth c cc ret nL own ws) (ha : a < 2 ^ 31) (hb : b < 2 ^ 31) {off : Int} {tgt : Nat} (d : decode cc pc = .ok (.if_icmp .ge off, 3)) (ht : (pc : Int) + off = (tgt : Int))
    (kt : b ≤ a → W p l e R s m args below meth c H locs cells slots Q (F0 m tgt ls rest)) (kf : a < b → W p l e R s m args below meth c H locs cells slots Q (F0 m (pc + 3) ls rest)) : W p l e R s m args below meth c H locs cells slots Q (F0 m pc ls (.int (nI b) :: .int (nI a) :: rest)) :=
  lv_icmp_ge G.1 G.2.1 d ht (fun h => kt ((nI_leI hb ha).mp h)) (fun h => kf (by have h2 : ¬ (b ≤ a) := fun z => h ((nI_leI hb ha).mpr z); omega))
theorem gn_le (G : gF p s m args meth c cc ret nL own ws) (ha : a < 2 ^ 31) (hb : b < 2 ^ 31) {off : Int} {tgt : Nat} (d : decode cc pc = .ok (.if_icmp .le off, 3)) (ht : (pc : Int) + off = (tgt : Int))
    (kt : a ≤ b → W p l e R s m args below meth c H locs cells slots Q (F0 m tgt ls rest)) (kf : b < a → W p l e R s m args below meth c H locs cells slots Q (F0 m (pc + 3) ls rest)) : W p l e R s m args below meth c H locs cells slots Q (F0 m pc ls (.int (nI b) :: .int (nI a) :: rest)) :=
  lv_icmp_le G.1 G.2.1 d ht (fun h => kt ((nI_leI ha hb).mp h)) (fun h => kf (by have h2 : ¬ (a ≤ b) := fun z => h ((nI_leI ha hb).mpr z); omega))
theorem gn_gt (G : gF p s m args meth c cc ret nL own ws) (ha : a < 2 ^ 31) (hb : b < 2 ^ 31) {off : Int} {tgt : Nat} (d : decode cc pc = .ok (.if_icmp .gt off, 3)) (ht : (pc : Int) + off = (tgt : Int))
    (kt : b < a → W p l e R s m args below meth c H locs cells slots Q (F0 m tgt ls rest)) (kf : a ≤ b → W p l e R s m args below meth c H locs cells slots Q (F0 m (pc + 3) ls rest)) : W p l e R s m args below meth c H locs cells slots Q (F0 m pc ls (.int (nI b) :: .int (nI a) :: rest)) :=
  lv_icmp_gt G.1 G.2.1 d ht (fun h => kt ((nI_ltI hb ha).mp h)) (fun h => kf (by have h2 : ¬ (b < a) := fun z => h ((nI_ltI hb ha).mpr z); omega))
theorem gn_eq (G : gF p s m args meth c cc ret nL own ws) (ha : a < 2 ^ 31) (hb : b < 2 ^ 31) {off : Int} {tgt : Nat} (d : decode cc pc = .ok (.if_icmp .eq off, 3)) (ht : (pc : Int) + off = (tgt : Int))
    (kt : a = b → W p l e R s m args below meth c H locs cells slots Q (F0 m tgt ls rest)) (kf : a ≠ b → W p l e R s m args below meth c H locs cells slots Q (F0 m (pc + 3) ls rest)) : W p l e R s m args below meth c H locs cells slots Q (F0 m pc ls (.int (nI b) :: .int (nI a) :: rest)) :=
  lv_icmp_eq G.1 G.2.1 d ht (fun h => kt ((nI_eq ha hb).mp h)) (fun h => kf (fun z => h ((nI_eq ha hb).mpr z)))
theorem gn_ne (G : gF p s m args meth c cc ret nL own ws) (ha : a < 2 ^ 31) (hb : b < 2 ^ 31) {off : Int} {tgt : Nat} (d : decode cc pc = .ok (.if_icmp .ne off, 3)) (ht : (pc : Int) + off = (tgt : Int))
    (kt : a ≠ b → W p l e R s m args below meth c H locs cells slots Q (F0 m tgt ls rest)) (kf : a = b → W p l e R s m args below meth c H locs cells slots Q (F0 m (pc + 3) ls rest)) : W p l e R s m args below meth c H locs cells slots Q (F0 m pc ls (.int (nI b) :: .int (nI a) :: rest)) :=
  lv_icmp_ne G.1 G.2.1 d ht (fun h => kt (fun z => h ((nI_eq ha hb).mpr z))) (fun h => kf ((nI_eq ha hb).mp h))
theorem gn_ltz (G : gF p s m args meth c cc ret nL own ws) (ha : a < 2 ^ 31) {off : Int} {tgt : Nat} (d : decode cc pc = .ok (.ifCond .lt off, 3)) (ht : (pc : Int) + off = (tgt : Int))
    (kf : W p l e R s m args below meth c H locs cells slots Q (F0 m (pc + 3) ls rest)) : W p l e R s m args below meth c H locs cells slots Q (F0 m pc ls (.int (nI a) :: rest)) :=
  lv_if_lt G.1 G.2.1 d ht (fun h => absurd h (nI_pos ha)) (fun _ => kf)
theorem gn_gtz (G : gF p s m args meth c cc ret nL own ws) (ha : a < 2 ^ 31) {off : Int} {tgt : Nat} (d : decode cc pc = .ok (.ifCond .gt off, 3)) (ht : (pc : Int) + off = (tgt : Int))
    (kt : 0 < a → W p l e R s m args below meth c H locs cells slots Q (F0 m tgt ls rest)) (kf : a = 0 → W p l e R s m args below meth c H locs cells slots Q (F0 m (pc + 3) ls rest)) : W p l e R s m args below meth c H locs cells slots Q (F0 m pc ls (.int (nI a) :: rest)) :=
  lv_if_gt G.1 G.2.1 d ht (fun h => kt (Nat.pos_of_ne_zero (fun z => by rw [z] at h; exact absurd h (by decide)))) (fun h => kf (Decidable.byContradiction (fun z => h ((nI_ltI (a := 0) (by decide) ha).mpr (Nat.pos_of_ne_zero z)))))
theorem gn_eqz (G : gF p s m args meth c cc ret nL own ws) (ha : a < 2 ^ 31) {off : Int} {tgt : Nat} (d : decode cc pc = .ok (.ifCond .eq off, 3)) (ht : (pc : Int) + off = (tgt : Int))
    (kt : a = 0 → W p l e R s m args below meth c H locs cells slots Q (F0 m tgt ls rest)) (kf : a ≠ 0 → W p l e R s m args below meth c H locs cells slots Q (F0 m (pc + 3) ls rest)) : W p l e R s m args below meth c H locs cells slots Q (F0 m pc ls (.int (nI a) :: rest)) :=
  lv_if_eq G.1 G.2.1 d ht (fun h => kt ((nI_eq ha (by decide)).mp (show nI a = nI 0 from h))) (fun h => kf (fun z => h (by rw [z]; rfl)))
theorem gn_nez (G : gF p s m args meth c cc ret nL own ws) (ha : a < 2 ^ 31) {off : Int} {tgt : Nat} (d : decode cc pc = .ok (.ifCond .ne off, 3)) (ht : (pc : Int) + off = (tgt : Int))
    (kt : a ≠ 0 → W p l e R s m args below meth c H locs cells slots Q (F0 m tgt ls rest)) (kf : a = 0 → W p l e R s m args below meth c H locs cells slots Q (F0 m (pc + 3) ls rest)) : W p l e R s m args below meth c H locs cells slots Q (F0 m pc ls (.int (nI a) :: rest)) :=
  lv_if_ne G.1 G.2.1 d ht (fun h => kt (fun z => h (by rw [z]; rfl))) (fun h => kf ((nI_eq ha (by decide)).mp (show nI a = nI 0 from h)))
/-- a field of the class's object -/
theorem gx_get {D : va_G} {q : Nat → Nat} {cI : ClassId} {N : Nat → Nat} {S : Nat → Nat → Nat} {tr : Nat → Nat} {A : Nat → Prop} (G : gF p s m args meth c cc ret nL RX0 ws) (hX : xAt D q cI N S tr A s H) (hin : ∀ w ∈ wsX00, w ∈ ws) (k : Nat) (hk : k < 15)
    (hlink : Cond.fieldLink RX0 index "GamutChain" (TX0 k).2.1 (TX0 k).2.2.1 ∈ ws) (hsame : (TX0 k).1 = "GamutChain") {v : Value} {fs : List Value} (hf : (xw q cI N S tr)[0]? = some (q 0, .inr (0, fs))) (hv : fs[k]? = some v) (hdg : decode cc pc = .ok (.getfield index, 3))
    (kk : W p l e R s m args below meth c H locs cells slots Q (F0 m (pc + 3) ls (v :: rest))) : W p l e R s m args below meth c H locs cells slots Q (F0 m pc ls (.ref (q 0) :: rest)) :=
  va_get (D := D) (ci := 0) (v := v) (C := RX0) (T := TX0) (N := 15) G.1 G.2.1 G.2.2.2.2.2.1 hin G.2.2.2.2.1 hX.2.1 hX.1 0 hf rfl k hk (G.2.2.2.2.2.1 _ hlink) (fun x h => by rw [hsame] at h; exact h) hv hdg kk
theorem gr_min (G : gF p s m args meth c cc ret nL RX0 ws) (hsz : ls.size = nL) {ix : Nat} (hlink : Cond.methodLink RX0 ix Lib.Math.min.name ∈ ws) (hstat : Cond.static Lib.Math.min.name ∈ ws) (hini : Cond.initialized "java/lang/Math" ∈ ws) (hcode : Cond.code Lib.Math.min.name Lib.Math.min.code 2 (some .int) ∈ ws)
    (hframes : 1 ≤ R.frames) (hlocals : (rest.map fun v => v.category).sum + 13 ≤ R.locals) (hc : cells ≤ R.cells) (hs : slots ≤ R.slots) (ha : a < 2 ^ 31) (hb : b < 2 ^ 31) (hdg : decode cc pc = .ok (.invokestatic ix, 3))
    (kk : W p l e R s m args below meth c H locs cells slots Q (F0 m (pc + 3) ls (.int (nI (min a b)) :: rest))) : W p l e R s m args below meth c H locs cells slots Q (F0 m pc ls (.int (nI b) :: .int (nI a) :: rest)) :=
  va_mmin G.1 G.2.1 (G.2.2.2.1.trans hsz.symm) G.2.2.2.2.1 (G.2.2.2.2.2.1 _ hlink) (G.2.2.2.2.2.1 _ hstat) (G.2.2.2.2.2.1 _ hini) (G.2.2.2.2.2.1 _ hcode) hframes hlocals hc hs hdg (by
    have e : (if nI b < nI a then nI b else nI a) = nI (min a b) := by
      rcases Nat.lt_or_ge b a with q | q
      · rw [if_pos ((nI_ltI hb ha).mpr q), Nat.min_eq_right (Nat.le_of_lt q)]
      · rw [if_neg (fun z => absurd ((nI_ltI hb ha).mp z) (Nat.not_lt.mpr q)), Nat.min_eq_left q]
    rw [e]; exact kk)
theorem gr_max (G : gF p s m args meth c cc ret nL RX0 ws) (hsz : ls.size = nL) {ix : Nat} (hlink : Cond.methodLink RX0 ix Lib.Math.max.name ∈ ws) (hstat : Cond.static Lib.Math.max.name ∈ ws) (hini : Cond.initialized "java/lang/Math" ∈ ws) (hcode : Cond.code Lib.Math.max.name Lib.Math.max.code 2 (some .int) ∈ ws)
    (hframes : 1 ≤ R.frames) (hlocals : (rest.map fun v => v.category).sum + 13 ≤ R.locals) (hc : cells ≤ R.cells) (hs : slots ≤ R.slots) (ha : a < 2 ^ 31) (hb : b < 2 ^ 31) (hdg : decode cc pc = .ok (.invokestatic ix, 3))
    (kk : W p l e R s m args below meth c H locs cells slots Q (F0 m (pc + 3) ls (.int (nI (max a b)) :: rest))) : W p l e R s m args below meth c H locs cells slots Q (F0 m pc ls (.int (nI b) :: .int (nI a) :: rest)) :=
  va_mmax G.1 G.2.1 (G.2.2.2.1.trans hsz.symm) G.2.2.2.2.1 (G.2.2.2.2.2.1 _ hlink) (G.2.2.2.2.2.1 _ hstat) (G.2.2.2.2.2.1 _ hini) (G.2.2.2.2.2.1 _ hcode) hframes hlocals hc hs hdg (by
    have e : (if nI a < nI b then nI b else nI a) = nI (max a b) := by
      rcases Nat.lt_or_ge a b with q | q
      · rw [if_pos ((nI_ltI ha hb).mpr q), Nat.max_eq_right (Nat.le_of_lt q)]
      · rw [if_neg (fun z => absurd ((nI_ltI ha hb).mp z) (Nat.not_lt.mpr q)), Nat.max_eq_left q]
    rw [e]; exact kk)
end GN
theorem gc_blindT {av : List Value} : FrameBlind (va_Pc av (fun _ => True)) := fun _ _ _ _ hq => ⟨hq.1, trivial⟩
theorem rAt_blind {D : va_G} {a : Nat} {cI : ClassId} {n : Nat} {F : Nat → Nat} {av : List Value} : FrameBlind (va_Pc av (fun U => rAt D a cI n F U U.heap)) := fun a U g mk hq => ⟨hq.1, hq.2.1, va_K.moved (u := U) (U := U.calling g mk a) (Vm.Alike.refl U.vm) hq.2.2⟩
theorem gZ.call {A : Nat → Prop} {U : State} {g : JFrame} {mk : MethodId} {a : Array Value} {H : Heap} (h : gZ A U H) : gZ A (U.calling g mk a) H := h.moved (State.WarmedH.refl U)
theorem xAt_blind {D : va_G} {q : Nat → Nat} {cI : ClassId} {N : Nat → Nat} {S : Nat → Nat → Nat} {tr : Nat → Nat} {A : Nat → Prop} {av : List Value} : FrameBlind (va_Pc av (fun U => xAt D q cI N S tr A U U.heap)) := fun a U g mk hq => ⟨hq.1, hq.2.1, va_K.moved (u := U) (U := U.calling g mk a) (Vm.Alike.refl U.vm) hq.2.2.1, hq.2.2.2.1, gZ.call hq.2.2.2.2⟩
theorem gZ_blind {A : Nat → Prop} {av : List Value} : FrameBlind (va_Pc av (fun U => gZ A U U.heap)) := fun a U g mk hq => ⟨hq.1, gZ.call hq.2⟩
end
section
/-! NUMBERS: what the class and the reference compute, as naturals -/
theorem fb_bmod {z : Int} (h1 : -2147483648 ≤ z) (h2 : z < 2147483648) : z.bmod (2 ^ 32) = z := by
  rw [Int.bmod_eq_of_le (by omega) (by omega)]
theorem fb_addI {x y : Int32} (h1 : -2147483648 ≤ x.toInt + y.toInt) (h2 : x.toInt + y.toInt < 2147483648) : (x + y).toInt = x.toInt + y.toInt := by
  rw [Int32.toInt_add, fb_bmod h1 h2]
theorem fb_subI {x y : Int32} (h1 : -2147483648 ≤ x.toInt - y.toInt) (h2 : x.toInt - y.toInt < 2147483648) : (x - y).toInt = x.toInt - y.toInt := by
  rw [Int32.toInt_sub, fb_bmod h1 h2]
theorem fb_mulI {x y : Int32} (h1 : -2147483648 ≤ x.toInt * y.toInt) (h2 : x.toInt * y.toInt < 2147483648) : (x * y).toInt = x.toInt * y.toInt := by
  rw [Int32.toInt_mul, fb_bmod h1 h2]
theorem fa_and (a b : Nat) : nI a &&& nI b = nI (a &&& b) := by
  apply Int32.toBitVec_inj.1
  show BitVec.ofNat 32 a &&& BitVec.ofNat 32 b = BitVec.ofNat 32 (a &&& b)
  apply BitVec.eq_of_getLsbD_eq
  intro i hi
  simp [hi]
theorem fa_or (a b : Nat) : nI a ||| nI b = nI (a ||| b) := by
  apply Int32.toBitVec_inj.1
  show BitVec.ofNat 32 a ||| BitVec.ofNat 32 b = BitVec.ofNat 32 (a ||| b)
  apply BitVec.eq_of_getLsbD_eq
  intro i hi
  simp [hi]
theorem fa_mask (n k : Nat) : nI n &&& nI (2 ^ k - 1) = nI (n % 2 ^ k) := by rw [fa_and, Nat.and_two_pow_sub_one_eq_mod]
theorem fb_xorI (a b : Nat) : nI a ^^^ nI b = nI (a ^^^ b) := by
  apply Int32.toBitVec_inj.1
  show BitVec.ofNat 32 a ^^^ BitVec.ofNat 32 b = BitVec.ofNat 32 (a ^^^ b)
  apply BitVec.eq_of_getLsbD_eq
  intro i hi
  simp [hi]
/-- an int that is a natural -/
theorem gp_nat {x : Int32} {n : Nat} (hn : n < 2 ^ 31) (h : x.toInt = (n : Int)) : x = nI n := Int32.toInt_inj.mp (by rw [h, nI_toInt hn])
def sp_vop (k : Nat) : Nat := min (k * 64) 255
def sp_w (k : Nat) : Nat := if k = 3 then 63 else 64
theorem sp_w_pos (k : Nat) : 0 < sp_w k := by unfold sp_w; split <;> decide
theorem sp_w_le (k : Nat) : sp_w k ≤ 64 := by unfold sp_w; split <;> decide
/-- the value between two places -/
def sp_btw (g : Nat → Nat) (o v : Nat) : Nat := (g (o + v / 64) * (sp_w (v / 64) - (v - v / 64 * 64)) + g (o + v / 64 + 1) * (v - v / 64 * 64)) / sp_w (v / 64)
theorem sp_far {v : Nat} (hv : v ≤ 255) : v - v / 64 * 64 ≤ sp_w (v / 64) := by
  unfold sp_w
  split <;> omega
theorem sp_mix_le {C D t w : Nat} (hC : C ≤ 255) (hD : D ≤ 255) (ht : t ≤ w) (hw : 0 < w) : (C * (w - t) + D * t) / w ≤ 255 := by
  have h1 : C * (w - t) ≤ 255 * (w - t) := Nat.mul_le_mul_right _ hC
  have h2 : D * t ≤ 255 * t := Nat.mul_le_mul_right _ hD
  have h3 : C * (w - t) + D * t ≤ w * 255 := by omega
  exact Nat.div_le_of_le_mul h3
theorem sp_btw_le {g : Nat → Nat} {o v : Nat} (hg : ∀ j, g j ≤ 255) (hv : v ≤ 255) : sp_btw g o v ≤ 255 := sp_mix_le (hg _) (hg _) (sp_far hv) (sp_w_pos _)
theorem gp_mix {C D t w : Nat} (hw : 0 < w) (ht : t ≤ w) : (C : Int) + (((D : Int) - C) * t) / w = ((C * (w - t) + D * t) / w : Nat) := by
  have e : ((C * (w - t) + D * t : Nat) : Int) = ((D : Int) - C) * t + (C : Int) * w := by
    have h1 : ((w - t : Nat) : Int) = (w : Int) - t := Int.ofNat_sub ht
    rw [Int.natCast_add, Int.natCast_mul, Int.natCast_mul, h1, Int.mul_sub, Int.sub_mul]
    omega
  rw [Int.natCast_ediv, e, Int.add_mul_ediv_right _ _ (by omega)]
  omega
theorem gp_tdivN (n b : Nat) (hb : 0 < b) : (-(n : Int)).tdiv b = -((n / b : Nat) : Int) := by
  rw [Int.neg_tdiv, Int.tdiv_eq_ediv_of_nonneg (by omega), Int.natCast_ediv]
theorem gp_edivN (n b : Nat) (hb : 0 < b) : (-(n : Int)) / b = if n % b = 0 then -((n / b : Nat) : Int) else -((n / b : Nat) : Int) - 1 := by
  have h1 : b * (n / b) + n % b = n := Nat.div_add_mod n b
  have h2 : n % b < b := Nat.mod_lt n hb
  have h3 : (n : Int) = (b : Int) * ((n / b : Nat) : Int) + ((n % b : Nat) : Int) := by rw [← Int.natCast_mul, ← Int.natCast_add, h1]
  split
  · rename_i h
    refine ((Int.ediv_emod_unique (r := 0) (by omega)).mpr ⟨?_, by omega, by omega⟩).1
    rw [h3, h, Int.mul_neg]
    omega
  · rename_i h
    refine ((Int.ediv_emod_unique (r := (b : Int) - ((n % b : Nat) : Int)) (by omega)).mpr ⟨?_, by omega, by omega⟩).1
    rw [h3, Int.mul_sub, Int.mul_neg]
    omega
/-- the quotient rounded to zero, mended -/
theorem gp_floor {a b : Int} (hb : 0 < b) : (0 ≤ a → a.tdiv b = a / b ∧ ¬ a < a.tdiv b * b) ∧ (a < 0 → a.tdiv b * b = a → a.tdiv b = a / b) ∧ (a < 0 → a.tdiv b * b ≠ a → a.tdiv b - 1 = a / b ∧ a < a.tdiv b * b) := by
  obtain ⟨b, rfl⟩ : ∃ k : Nat, b = k := ⟨b.toNat, by omega⟩
  refine ⟨fun h => ⟨Int.tdiv_eq_ediv_of_nonneg h, ?_⟩, fun h h2 => ?_, fun h h2 => ?_⟩
  · rw [Int.tdiv_eq_ediv_of_nonneg h]
    have := Int.ediv_mul_le a (b := (b : Int)) (by omega)
    omega
  all_goals
    obtain ⟨n, rfl⟩ : ∃ k : Nat, a = -(k : Int) := ⟨(-a).toNat, by omega⟩
    have hb' : 0 < b := by omega
    have h1 : b * (n / b) + n % b = n := Nat.div_add_mod n b
    have h3 : (n : Int) = ((n / b : Nat) : Int) * (b : Int) + ((n % b : Nat) : Int) := by rw [← Int.natCast_mul, ← Int.natCast_add, Nat.mul_comm, h1]
    rw [gp_tdivN n b hb', Int.neg_mul] at h2
    rw [gp_tdivN n b hb', gp_edivN n b hb']
  · rw [if_pos (by omega)]
  · rw [if_neg (by omega), Int.neg_mul]
    omega
theorem gp_xneg (x y : Int32) (hy : 0 ≤ y.toInt) : (x ^^^ y) < 0 ↔ x.toInt < 0 := by
  rw [Int32.lt_iff_toInt_lt]
  show (x ^^^ y).toBitVec.toInt < (0 : Int32).toInt ↔ x.toBitVec.toInt < 0
  have h0 : (0 : Int32).toInt = 0 := rfl
  have hy' : y.toBitVec.msb = false := by rw [BitVec.msb_eq_toInt]; simpa using hy
  have e : (x ^^^ y).toBitVec.msb = x.toBitVec.msb := by
    show (x.toBitVec ^^^ y.toBitVec).msb = _
    rw [BitVec.msb_xor, hy', Bool.xor_false]
  rw [BitVec.msb_eq_toInt, BitVec.msb_eq_toInt] at e
  rw [h0]
  exact decide_eq_decide.mp e
theorem gp_divT {x y : Int32} (hx : -1073741824 ≤ x.toInt ∧ x.toInt < 1073741824) (hy : 0 < y.toInt) : (x / y).toInt = x.toInt.tdiv y.toInt ∧ -1073741824 ≤ x.toInt.tdiv y.toInt ∧ x.toInt.tdiv y.toInt < 1073741824 := by
  have hb : -1073741824 ≤ x.toInt.tdiv y.toInt ∧ x.toInt.tdiv y.toInt < 1073741824 := by
    obtain ⟨b, hbe⟩ : ∃ k : Nat, y.toInt = k := ⟨y.toInt.toNat, by omega⟩
    rw [hbe] at hy ⊢
    rcases (by omega : x.toInt < 0 ∨ 0 ≤ x.toInt) with h | h
    · obtain ⟨n, hn⟩ : ∃ k : Nat, x.toInt = -(k : Int) := ⟨(-x.toInt).toNat, by omega⟩
      rw [hn, gp_tdivN n b (by omega)]
      have h9 := Nat.div_le_self n b
      generalize n / b = k at h9 ⊢
      omega
    · obtain ⟨n, hn⟩ : ∃ k : Nat, x.toInt = (k : Int) := ⟨x.toInt.toNat, by omega⟩
      rw [hn, Int.tdiv_eq_ediv_of_nonneg (by omega), ← Int.natCast_ediv]
      have h9 := Nat.div_le_self n b
      generalize n / b = k at h9 ⊢
      omega
  refine ⟨?_, hb⟩
  rw [Int32.toInt_div, fb_bmod (by omega) (by omega)]
/-- what a profile's way makes of a value of its curve -/
def sp_take (l g w f : Nat) : Nat := if w = 1 then l + f * (g - l) / 255 else max l (min g (if w = 2 then (if g < f then 2 * g - f else if f < l then 2 * l - f else f) else f))
theorem sp_take_le {l g w f : Nat} (hl : l ≤ g) (hg : g ≤ 255) (hf : f ≤ 255) : sp_take l g w f ≤ 255 := by
  unfold sp_take
  split
  · have h1 : f * (g - l) ≤ 255 * (g - l) := Nat.mul_le_mul_right _ hf
    have h2 : f * (g - l) / 255 ≤ g - l := Nat.div_le_of_le_mul h1
    omega
  · omega
def sp_curve (S : Nat → Nat → Nat) (p b v : Nat) : Nat := sp_btw (S 1) ((p * 3 + b) * 5) v
def sp_tk (S : Nat → Nat → Nat) (p b v : Nat) : Nat := sp_take (S 2 (p * 3 + b)) (S 3 (p * 3 + b)) (S 4 p) (sp_curve S p b v)
def sp_passTo (S : Nat → Nat → Nat) (ch b v : Nat) : Nat → Nat
  | 0 => v
  | k + 1 => sp_tk S (S 6 (ch * 6 + k)) b (sp_passTo S ch b v k)
def sp_pass (S : Nat → Nat → Nat) (ch b v : Nat) : Nat := sp_passTo S ch b v (S 7 ch)
/-- what holds of the rows at any time -/
def sp_ok (N : Nat → Nat) (S : Nat → Nat → Nat) : Prop := (N 0 ≤ 8 ∧ N 5 ≤ 6) ∧ (∀ j, S 1 j ≤ 255) ∧ (∀ j, S 2 j ≤ S 3 j) ∧ (∀ j, S 3 j ≤ 255) ∧ (∀ j, S 4 j ≤ 2) ∧ (∀ j, S 6 j < 8) ∧ (∀ j, S 7 j ≤ 6) ∧ (∀ j, S 8 j ≤ 255) ∧ (∀ j, S 12 j ≤ 255) ∧ (∀ j, S 13 j ≤ 255) ∧ (∀ j, S 14 j ≤ 255)
theorem sp_curve_le {N : Nat → Nat} {S : Nat → Nat → Nat} {p b v : Nat} (h : sp_ok N S) (hv : v ≤ 255) : sp_curve S p b v ≤ 255 := sp_btw_le h.2.1 hv
theorem sp_tk_le {N : Nat → Nat} {S : Nat → Nat → Nat} {p b v : Nat} (h : sp_ok N S) (hv : v ≤ 255) : sp_tk S p b v ≤ 255 := sp_take_le (h.2.2.1 _) (h.2.2.2.1 _) (sp_curve_le h hv)
theorem sp_passTo_le {N : Nat → Nat} {S : Nat → Nat → Nat} {ch b v : Nat} (h : sp_ok N S) (hv : v ≤ 255) : ∀ k, sp_passTo S ch b v k ≤ 255
  | 0 => hv
  | k + 1 => sp_tk_le h (sp_passTo_le h hv k)
theorem sp_pass_le {N : Nat → Nat} {S : Nat → Nat → Nat} {ch b v : Nat} (h : sp_ok N S) (hv : v ≤ 255) : sp_pass S ch b v ≤ 255 := sp_passTo_le h hv _
/-- the bit b of a set -/
def sp_bit (x b : Nat) : Nat := x / 2 ^ b % 2
theorem s_l : ∀ n, n < 32 → ((nI n &&& 31).toBitVec.smod 32).toNat = n := by decide +kernel
theorem gp_mulback (a b : Int) (ha : -1073741824 ≤ a ∧ a < 1073741824) (hb : 0 < b) : -1073741824 ≤ a.tdiv b * b ∧ a.tdiv b * b < 1073741824 := by
  obtain ⟨b, rfl⟩ : ∃ k : Nat, b = k := ⟨b.toNat, by omega⟩
  rcases (by omega : a < 0 ∨ 0 ≤ a) with h | h
  · obtain ⟨n, rfl⟩ : ∃ k : Nat, a = -(k : Int) := ⟨(-a).toNat, by omega⟩
    rw [gp_tdivN n b (by omega), Int.neg_mul, ← Int.natCast_mul]
    have h9 := Nat.div_mul_le_self n b
    generalize n / b * b = k at h9 ⊢
    omega
  · obtain ⟨n, rfl⟩ : ∃ k : Nat, a = (k : Int) := ⟨a.toNat, by omega⟩
    rw [Int.tdiv_eq_ediv_of_nonneg (by omega), ← Int.natCast_ediv, ← Int.natCast_mul]
    have h9 := Nat.div_mul_le_self n b
    generalize n / b * b = k at h9 ⊢
    omega
/-- the profiles of a chain, and those of the signed chains, as sets -/
def sp_ofTo (S : Nat → Nat → Nat) (ch : Nat) : Nat → Nat
  | 0 => 0
  | k + 1 => sp_ofTo S ch k ||| 2 ^ (S 6 (ch * 6 + k))
def sp_of (S : Nat → Nat → Nat) (ch : Nat) : Nat := sp_ofTo S ch (S 7 ch)
def sp_heldTo (N : Nat → Nat) (S : Nat → Nat → Nat) : Nat → Nat
  | 0 => 0
  | c + 1 => if sp_bit (N 10) c = 1 then sp_heldTo N S c ||| sp_of S c else sp_heldTo N S c
def sp_held (N : Nat → Nat) (S : Nat → Nat → Nat) : Nat := sp_heldTo N S 6
/-- a pixel's band with the inks that the device has not -/
def sp_inkTo (S : Nat → Nat → Nat) (px bd ks : Nat) : Nat → Nat
  | 0 => S 12 (px * 3 + bd)
  | k + 1 => if sp_bit ks k = 1 then sp_inkTo S px bd ks k else min 255 (sp_inkTo S px bd ks k + S 14 (k * 3 + bd) * S 13 (px * 3 + k) / 255)
def sp_ink (S : Nat → Nat → Nat) (px bd ks : Nat) : Nat := sp_inkTo S px bd ks 3
/-- whether a chain differs from what is kept of it, at the first k of its fifteen places -/
def sp_difTo (S : Nat → Nat → Nat) (ch : Nat) : Nat → Nat
  | 0 => 0
  | k + 1 => if sp_difTo S ch k = 1 then 1 else if sp_pass S ch (k / 5) (sp_vop (k % 5)) = S 8 (ch * 15 + k) then 0 else 1
def sp_dif (S : Nat → Nat → Nat) (ch : Nat) : Nat := sp_difTo S ch 15
def sp_staleTo (N : Nat → Nat) (S : Nat → Nat → Nat) : Nat → Nat
  | 0 => 0
  | c + 1 => if sp_bit (N 9) c = 1 ∧ sp_dif S c = 1 then sp_staleTo N S c ||| 2 ^ c else sp_staleTo N S c
def sp_stale (N : Nat → Nat) (S : Nat → Nat → Nat) : Nat := sp_staleTo N S 6
theorem sp_bit_lt (x b : Nat) : sp_bit x b < 2 := Nat.mod_lt _ (by decide)
theorem sp_or_lt {a b k : Nat} (ha : a < 2 ^ k) (hb : b < 2 ^ k) : a ||| b < 2 ^ k := Nat.or_lt_two_pow ha hb
theorem sp_ofTo_lt {N : Nat → Nat} {S : Nat → Nat → Nat} {ch : Nat} (h : sp_ok N S) : ∀ k, sp_ofTo S ch k < 2 ^ 8
  | 0 => Nat.le_of_ble_eq_true rfl
  | k + 1 => sp_or_lt (sp_ofTo_lt h k) (Nat.pow_lt_pow_right (by decide) (h.2.2.2.2.2.1 _))
theorem sp_of_lt {N : Nat → Nat} {S : Nat → Nat → Nat} {ch : Nat} (h : sp_ok N S) : sp_of S ch < 2 ^ 8 := sp_ofTo_lt h _
theorem sp_heldTo_lt {N : Nat → Nat} {S : Nat → Nat → Nat} (h : sp_ok N S) : ∀ k, sp_heldTo N S k < 2 ^ 8
  | 0 => Nat.le_of_ble_eq_true rfl
  | k + 1 => by
    unfold sp_heldTo
    split
    · exact sp_or_lt (sp_heldTo_lt h k) (sp_of_lt h)
    · exact sp_heldTo_lt h k
theorem sp_held_lt {N : Nat → Nat} {S : Nat → Nat → Nat} (h : sp_ok N S) : sp_held N S < 2 ^ 8 := sp_heldTo_lt h _
theorem sp_inkTo_le {N : Nat → Nat} {S : Nat → Nat → Nat} {px bd ks : Nat} (h : sp_ok N S) : ∀ k, sp_inkTo S px bd ks k ≤ 255
  | 0 => h.2.2.2.2.2.2.2.2.1 _
  | k + 1 => by
    unfold sp_inkTo
    split
    · exact sp_inkTo_le h k
    · omega
theorem sp_ink_le {N : Nat → Nat} {S : Nat → Nat → Nat} {px bd ks : Nat} (h : sp_ok N S) : sp_ink S px bd ks ≤ 255 := sp_inkTo_le h _
theorem sp_difTo_lt (S : Nat → Nat → Nat) (ch : Nat) : ∀ k, sp_difTo S ch k < 2
  | 0 => Nat.le_of_ble_eq_true rfl
  | k + 1 => by
    unfold sp_difTo
    split
    · decide
    · split <;> decide
theorem sp_difTo_up {S : Nat → Nat → Nat} {ch : Nat} : ∀ {k n : Nat}, k ≤ n → sp_difTo S ch k = 1 → sp_difTo S ch n = 1
  | k, n, hk, h => by
    induction hk with
    | refl => exact h
    | step _ ih => unfold sp_difTo; rw [if_pos ih]
theorem sp_staleTo_lt (N : Nat → Nat) (S : Nat → Nat → Nat) : ∀ k, k ≤ 6 → sp_staleTo N S k < 2 ^ 6
  | 0, _ => by show (0 : Nat) < 2 ^ 6; decide
  | k + 1, hk => by
    unfold sp_staleTo
    split
    · exact sp_or_lt (sp_staleTo_lt N S k (by omega)) (Nat.pow_lt_pow_right (by decide) (by omega))
    · exact sp_staleTo_lt N S k (by omega)
theorem gp_prod {C D t : Nat} (hC : C ≤ 255) (hD : D ≤ 255) (ht : t ≤ 64) : ((nI D - nI C) * nI t).toInt = ((D : Int) - C) * (t : Int) ∧ -16320 ≤ ((nI D - nI C) * nI t).toInt ∧ ((nI D - nI C) * nI t).toInt ≤ 16320 := by
  have h1 : (nI D - nI C).toInt = (D : Int) - C := pk_sub_toInt (by omega) (by omega)
  have h2 : (nI t).toInt = (t : Int) := nI_toInt (by omega)
  have hb : -16320 ≤ ((D : Int) - C) * (t : Int) ∧ ((D : Int) - C) * (t : Int) ≤ 16320 := by
    rcases Nat.le_total C D with h | h
    · have e : ((D : Int) - C) * (t : Int) = (((D - C) * t : Nat) : Int) := by rw [Int.natCast_mul, Int.ofNat_sub h]
      have h3 : (D - C) * t ≤ 255 * 64 := Nat.mul_le_mul (by omega) ht
      rw [e]
      omega
    · have e : ((D : Int) - C) * (t : Int) = -(((C - D) * t : Nat) : Int) := by
        rw [Int.natCast_mul, Int.ofNat_sub h, ← Int.neg_mul]
        congr 1
        omega
      have h3 : (C - D) * t ≤ 255 * 64 := Nat.mul_le_mul (by omega) ht
      rw [e]
      omega
  have e : ((nI D - nI C) * nI t).toInt = ((D : Int) - C) * (t : Int) := by
    rw [fb_mulI (by rw [h1, h2]; omega) (by rw [h1, h2]; omega), h1, h2]
  exact ⟨e, by rw [e]; exact hb.1, by rw [e]; exact hb.2⟩
theorem gp_btwR {C D t w sw X : Nat} {r z : Int32} (hS : X = (C * (sw - t) + D * t) / sw) (hw : w = sw) (hr : r.toInt = z.toInt / (nI w).toInt) (hz : z.toInt = ((D : Int) - C) * (t : Int)) (h0 : 0 < sw) (h1 : sw ≤ 64) (ht : t ≤ sw) (hC : C ≤ 255) (hD : D ≤ 255) : nI C + r = nI X := by
  have hX := sp_mix_le hC hD ht h0
  rw [← hS] at hX
  have e1 : (C : Int) + r.toInt = (X : Int) := by
    rw [hr, hz, hw, nI_toInt (by omega), gp_mix h0 ht, hS]
  have hc : (nI C).toInt = (C : Int) := nI_toInt (by omega)
  refine gp_nat (by omega) ?_
  rw [fb_addI (by rw [hc]; omega) (by rw [hc]; omega), hc, e1]
theorem gp_clamp {l g f : Nat} {y z : Int32} (hl : l ≤ g) (hg : g ≤ 255) (hf : f ≤ 255) (hz : z.toInt = if g < f then 2 * (g : Int) - f else if f < l then 2 * (l : Int) - f else f) (ey : y = if z < nI g then z else nI g) :
    (if nI l < y then y else nI l) = nI (max l (min g (if g < f then 2 * g - f else if f < l then 2 * l - f else f))) := by
  have tl : (nI l).toInt = (l : Int) := nI_toInt (by omega)
  have tg : (nI g).toInt = (g : Int) := nI_toInt (by omega)
  have hy : y.toInt = min z.toInt (g : Int) := by
    rw [ey]
    by_cases h : z < nI g
    · rw [if_pos h]
      have h2 := Int32.lt_iff_toInt_lt.mp h
      omega
    · rw [if_neg h, tg]
      have h2 : ¬ z.toInt < (nI g).toInt := fun q => h (Int32.lt_iff_toInt_lt.mpr q)
      omega
  refine gp_nat ?_ ?_
  · split <;> first | omega | (split <;> omega)
  by_cases h : nI l < y
  · rw [if_pos h]
    have h2 := Int32.lt_iff_toInt_lt.mp h
    rw [hy] at h2 ⊢
    rw [tl] at h2
    rw [hz] at h2 ⊢
    by_cases c1 : g < f
    · rw [if_pos c1] at h2 ⊢
      rw [if_pos c1]
      omega
    · rw [if_neg c1] at h2 ⊢
      rw [if_neg c1]
      by_cases c2 : f < l
      · rw [if_pos c2] at h2 ⊢
        rw [if_pos c2]
        omega
      · rw [if_neg c2] at h2 ⊢
        rw [if_neg c2]
        omega
  · rw [if_neg h, tl]
    have h2 : ¬ (nI l).toInt < y.toInt := fun q => h (Int32.lt_iff_toInt_lt.mpr q)
    rw [hy, tl, hz] at h2
    by_cases c1 : g < f
    · rw [if_pos c1] at h2
      rw [if_pos c1]
      omega
    · rw [if_neg c1] at h2
      rw [if_neg c1]
      by_cases c2 : f < l
      · rw [if_pos c2] at h2
        rw [if_pos c2]
        omega
      · rw [if_neg c2] at h2
        rw [if_neg c2]
        omega
theorem sp_b31 (x b : Nat) : sp_bit x b < 2 ^ 31 := Nat.lt_trans (sp_bit_lt x b) (by decide)
theorem sp_dif_lt (S : Nat → Nat → Nat) (ch : Nat) : sp_dif S ch < 2 := sp_difTo_lt S ch 15
theorem sp_d31 (S : Nat → Nat → Nat) (ch : Nat) : sp_dif S ch < 2 ^ 31 := Nat.lt_trans (sp_dif_lt S ch) (by decide)
theorem sp_stale_y {N : Nat → Nat} {S : Nat → Nat → Nat} {c : Nat} (h : sp_bit (N 9) c = 1 ∧ sp_dif S c = 1) : sp_staleTo N S (c + 1) = sp_staleTo N S c ||| 2 ^ c := if_pos h
theorem sp_stale_n {N : Nat → Nat} {S : Nat → Nat → Nat} {c : Nat} (h : ¬ (sp_bit (N 9) c = 1 ∧ sp_dif S c = 1)) : sp_staleTo N S (c + 1) = sp_staleTo N S c := if_neg h
theorem sp_held_y {N : Nat → Nat} {S : Nat → Nat → Nat} {c : Nat} (h : sp_bit (N 10) c = 1) : sp_heldTo N S (c + 1) = sp_heldTo N S c ||| sp_of S c := if_pos h
theorem sp_held_n {N : Nat → Nat} {S : Nat → Nat → Nat} {c : Nat} (h : ¬ sp_bit (N 10) c = 1) : sp_heldTo N S (c + 1) = sp_heldTo N S c := if_neg h
theorem sp_ink_y {S : Nat → Nat → Nat} {px bd ks k : Nat} (h : sp_bit ks k = 1) : sp_inkTo S px bd ks (k + 1) = sp_inkTo S px bd ks k := if_pos h
theorem sp_ink_n {S : Nat → Nat → Nat} {px bd ks k : Nat} (h : ¬ sp_bit ks k = 1) : sp_inkTo S px bd ks (k + 1) = min 255 (sp_inkTo S px bd ks k + S 14 (k * 3 + bd) * S 13 (px * 3 + k) / 255) := if_neg h
theorem sp_dif_e {S : Nat → Nat → Nat} {ch b k : Nat} (h : sp_difTo S ch (b * 5 + k) = 0) (hk : k < 5) (he : sp_pass S ch b (sp_vop k) = S 8 ((ch * 3 + b) * 5 + k)) : sp_difTo S ch (b * 5 + (k + 1)) = 0 := by
  show (if sp_difTo S ch (b * 5 + k) = 1 then 1 else if sp_pass S ch ((b * 5 + k) / 5) (sp_vop ((b * 5 + k) % 5)) = S 8 (ch * 15 + (b * 5 + k)) then 0 else 1) = 0
  rw [if_neg (by omega), show (b * 5 + k) / 5 = b from by omega, show (b * 5 + k) % 5 = k from by omega, show ch * 15 + (b * 5 + k) = (ch * 3 + b) * 5 + k from by omega, if_pos he]
theorem sp_dif_d {S : Nat → Nat → Nat} {ch b k : Nat} (h : sp_difTo S ch (b * 5 + k) = 0) (hk : k < 5) (hb : b < 3) (he : sp_pass S ch b (sp_vop k) ≠ S 8 ((ch * 3 + b) * 5 + k)) : sp_dif S ch = 1 := by
  refine sp_difTo_up (k := b * 5 + k + 1) (by omega) ?_
  show (if sp_difTo S ch (b * 5 + k) = 1 then 1 else if sp_pass S ch ((b * 5 + k) / 5) (sp_vop ((b * 5 + k) % 5)) = S 8 (ch * 15 + (b * 5 + k)) then 0 else 1) = 1
  rw [if_neg (by omega), show (b * 5 + k) / 5 = b from by omega, show (b * 5 + k) % 5 = k from by omega, show ch * 15 + (b * 5 + k) = (ch * 3 + b) * 5 + k from by omega, if_neg he]
theorem sp_vop_le {k : Nat} : sp_vop k ≤ 255 := Nat.min_le_right _ _
section GN2
variable {p : Program} {l : Launch} {e : Env} {R : Room} {s : State} {m : MethodId} {args : Array Value} {below : List Frame} {meth : Method} {c : Code} {H : Heap} {locs : List Loc} {cells slots : Nat} {Q : State → Prop}
variable {cc : ByteArray} {nL pc index : Nat} {ret : Option FieldType} {ws : List Cond} {own : String} {rest : List Value} {ls : Array Slot} {a b : Nat}
theorem gn_ior (G : gF p s m args meth c cc ret nL own ws) (d : decode cc pc = .ok (.ior, 1)) (k : W p l e R s m args below meth c H locs cells slots Q (F0 m (pc + 1) ls (.int (nI (a ||| b)) :: rest))) : W p l e R s m args below meth c H locs cells slots Q (F0 m pc ls (.int (nI b) :: .int (nI a) :: rest)) :=
  lv_ior G.1 G.2.1 d (by rw [fa_or]; exact k)
theorem gn_ixor (G : gF p s m args meth c cc ret nL own ws) (d : decode cc pc = .ok (.ixor, 1)) (k : W p l e R s m args below meth c H locs cells slots Q (F0 m (pc + 1) ls (.int (nI (a ^^^ b)) :: rest))) : W p l e R s m args below meth c H locs cells slots Q (F0 m pc ls (.int (nI b) :: .int (nI a) :: rest)) :=
  lv_ixor G.1 G.2.1 d (by rw [fb_xorI]; exact k)
theorem gn_ishl (G : gF p s m args meth c cc ret nL own ws) (d : decode cc pc = .ok (.ishl, 1)) (hb : b < 31) (k : W p l e R s m args below meth c H locs cells slots Q (F0 m (pc + 1) ls (.int (nI (2 ^ b)) :: rest))) : W p l e R s m args below meth c H locs cells slots Q (F0 m pc ls (.int (nI b) :: .int (nI 1) :: rest)) :=
  lv_ishl G.1 G.2.1 d (by
    rw [pk_shlN _ b (s_l b (by omega)) (by rw [Nat.one_mul]; exact Nat.pow_lt_pow_right (by decide) (by omega)), Nat.one_mul]
    exact k)
end GN2
end
section
/-! the class's small static methods -/
set_option maxRecDepth 100000 in
set_option maxHeartbeats 4000000 in
/-- a row is read -/
theorem mX0_read (l : Launch) (D : va_G) (a : Nat) (cI : ClassId) (n : Nat) (F : Nat → Nat) (i : Nat) (hi : i < n) (hn : n < 2 ^ 31 := by decide) : Met l yX0_read wsX0_read { frames := 0, cells := 0, slots := 0, locals := 0 } (va_Pc [.ref a, .int (nI i)] (fun U => rAt D a cI n F U U.heap)) (vp_Si (fun r => r = nI (F i))) 0 0 (fun _ => False) := by
  refine gc_met [.ref a, .int (nI i)] (by decide) rfl (Nat.le_of_ble_eq_true rfl) rfl ?_
  intro p e s m below meth c ls G hl hX
  refine lv_aload_n G.1 G.2.1 dX0_read_0 rfl (lv_at hl 0 rfl) ?_
  refine lv_ifnull G.1 G.2.1 dX0_read_1 ?_
  refine lv_iload_n G.1 G.2.1 dX0_read_4 rfl (lv_at hl 1 rfl) ?_
  refine gn_ltz G (by omega) (tgt := 20) dX0_read_5 (by decide) ?_
  refine lv_iload_n G.1 G.2.1 dX0_read_8 rfl (lv_at hl 1 rfl) ?_
  refine lv_aload_n G.1 G.2.1 dX0_read_9 rfl (lv_at hl 0 rfl) ?_
  refine va_alen (D := D) G.1 G.2.1 hX.2 hX.1 0 0 rfl rfl (v := nI n) rfl dX0_read_10 ?_
  refine gn_ge G (by omega) (by omega) (tgt := 20) dX0_read_11 (by decide) (fun h_11 => absurd h_11 (by omega)) (fun h_11 => ?_)
  refine lv_aload_n G.1 G.2.1 dX0_read_14 rfl (lv_at hl 0 rfl) ?_
  refine lv_iload_n G.1 G.2.1 dX0_read_15 rfl (lv_at hl 1 rfl) ?_
  refine va_iald (D := D) G.1 G.2.1 hX.2 hX.1 0 0 (f := gr F) rfl rfl (vp_in_nI hi hn) dX0_read_16 ?_
  rw [nI_clamp (by omega)]
  refine lv_goto (tgt := 21) G.1 G.2.1 dX0_read_17 (by decide) ?_
  exact W.iret G.1 G.2.1 G.2.2.1 (fun t ht hW => ⟨_, rfl, rfl, ht⟩) (fun q h => nomatch h) dX0_read_21 G.2.2.2.2.2.2
set_option maxRecDepth 100000 in
set_option maxHeartbeats 4000000 in
/-- a bit is read -/
theorem mX0_hasBit (l : Launch) (x b : Nat) (hx : x < 2 ^ 31) (hb : b < 32) : Met l yX0_hasBit wsX0_hasBit { frames := 0, cells := 0, slots := 0, locals := 0 } (va_Pc [.int (nI x), .int (nI b)] (fun _ => True)) (vp_Si (fun r => r = nI (sp_bit x b))) 0 0 (fun _ => False) := by
  refine gc_met [.int (nI x), .int (nI b)] (by decide) rfl (Nat.le_of_ble_eq_true rfl) rfl ?_
  intro p e s m below meth c ls G hl _
  refine lv_iload_n G.1 G.2.1 dX0_hasBit_0 rfl (lv_at hl 0 rfl) ?_
  refine lv_iload_n G.1 G.2.1 dX0_hasBit_1 rfl (lv_at hl 1 rfl) ?_
  refine lv_ishr G.1 G.2.1 dX0_hasBit_2 ?_
  rw [pk_shrN hx _ b (s_l b hb)]
  refine lv_iconst (v := nI 1) G.1 G.2.1 dX0_hasBit_3 (by decide) ?_
  refine lv_iand G.1 G.2.1 dX0_hasBit_4 ?_
  rw [show nI 1 = nI (2 ^ 1 - 1) from rfl, fa_mask]
  refine lv_iconst (v := nI 1) G.1 G.2.1 dX0_hasBit_5 (by decide) ?_
  refine gn_ne G (by omega) (by omega) (tgt := 13) dX0_hasBit_6 (by decide) (fun h_6 => ?_) (fun h_6 => ?_)
  · refine lv_iconst (v := nI 0) G.1 G.2.1 dX0_hasBit_13 (by decide) ?_
    exact W.zret G.1 G.2.1 G.2.2.1 rfl (fun t ht hW => ⟨_, rfl, by have h9 := h_6; unfold sp_bit; first | (rw [show x / 2 ^ b % 2 = 1 from h9]) | (rw [show x / 2 ^ b % 2 = 0 from by have h8 : ¬ x / 2 ^ b % 2 = 1 := h9; omega]), ht⟩) (fun q h => nomatch h) dX0_hasBit_14 G.2.2.2.2.2.2
  · refine lv_iconst (v := nI 1) G.1 G.2.1 dX0_hasBit_9 (by decide) ?_
    refine lv_goto (tgt := 14) G.1 G.2.1 dX0_hasBit_10 (by decide) ?_
    exact W.zret G.1 G.2.1 G.2.2.1 rfl (fun t ht hW => ⟨_, rfl, by have h9 := h_6; unfold sp_bit; first | (rw [show x / 2 ^ b % 2 = 1 from h9]) | (rw [show x / 2 ^ b % 2 = 0 from by have h8 : ¬ x / 2 ^ b % 2 = 1 := h9; omega]), ht⟩) (fun q h => nomatch h) dX0_hasBit_14 G.2.2.2.2.2.2
set_option maxRecDepth 100000 in
set_option maxHeartbeats 4000000 in
/-- the value of a place -/
theorem mX0_valueOfPlace (l : Launch) (k : Nat) (hk : k < 5) : Met l yX0_valueOfPlace wsX0_valueOfPlace { frames := 1, cells := 0, slots := 0, locals := 13 } (va_Pc [.int (nI k)] (fun _ => True)) (vp_Si (fun r => r = nI (sp_vop k))) 0 0 (fun _ => False) := by
  refine gc_met [.int (nI k)] (by decide) rfl (Nat.le_of_ble_eq_true rfl) rfl ?_
  intro p e s m below meth c ls G hl _
  refine lv_iload_n G.1 G.2.1 dX0_valueOfPlace_0 rfl (lv_at hl 0 rfl) ?_
  refine lv_bipush (v := nI 64) G.1 G.2.1 dX0_valueOfPlace_1 (by decide) ?_
  refine gn_imul G dX0_valueOfPlace_3 ?_
  refine lv_sipush (v := nI 255) G.1 G.2.1 dX0_valueOfPlace_4 (by decide) ?_
  refine gr_min G hl.1 (ix := 119) (by decide +kernel) (by decide +kernel) (by decide +kernel) (by decide +kernel) (Nat.le_of_ble_eq_true rfl) (Nat.le_of_ble_eq_true rfl) (Nat.zero_le _) (Nat.zero_le _) (by omega) (by omega) dX0_valueOfPlace_7 ?_
  exact W.iret G.1 G.2.1 G.2.2.1 (fun t ht hW => ⟨_, rfl, rfl, ht⟩) (fun q h => nomatch h) dX0_valueOfPlace_10 G.2.2.2.2.2.2
set_option maxRecDepth 100000 in
set_option maxHeartbeats 4000000 in
/-- Math.floorDiv of small ints, by a positive one: the quotient rounded down -/
theorem mJ9_floorDiv (l : Launch) (x y : Int32) (hx : -1073741824 ≤ x.toInt ∧ x.toInt < 1073741824) (hy : 0 < y.toInt) : Met l yJ9_floorDiv_7cf53 wsJ9_floorDiv_7cf53 { frames := 0, cells := 0, slots := 0, locals := 0 } (va_Pc [.int x, .int y] (fun _ => True)) (vp_Si (fun r => r.toInt = x.toInt / y.toInt)) 0 0 (fun _ => False) := by
  refine gc_metF [.int x, .int y] (by decide +kernel) rfl (Nat.le_of_ble_eq_true rfl) rfl ?_
  intro p e s m below meth c ls G hl _
  have hy0 : ¬ y = 0 := fun z => by rw [z] at hy; exact absurd hy (by decide)
  obtain ⟨e1, e2, e3⟩ := gp_divT hx hy
  obtain ⟨f1, f2, f3⟩ := gp_floor (a := x.toInt) hy
  refine lv_iload_n G.1 G.2.1 dJ9_floorDiv_7cf53_0 rfl (lv_at hl 0 rfl) ?_
  refine lv_iload_n G.1 G.2.1 dJ9_floorDiv_7cf53_1 rfl (lv_at hl 1 rfl) ?_
  refine lv_idiv G.1 G.2.1 dJ9_floorDiv_7cf53_2 hy0 ?_
  refine lv_topi (fun d ed => ?_)
  have ed1 : d.toInt = x.toInt.tdiv y.toInt := by rw [ed]; exact e1
  refine lv_istore_n (lv' := [(2, .int d), (0, .int x), (1, .int y)]) G.1 G.2.1 dJ9_floorDiv_7cf53_3 rfl hl (by decide) rfl (fun ls hl => ?_)
  refine lv_iload_n G.1 G.2.1 dJ9_floorDiv_7cf53_4 rfl (lv_at hl 1 rfl) ?_
  refine lv_iload_n G.1 G.2.1 dJ9_floorDiv_7cf53_5 rfl (lv_at hl 2 rfl) ?_
  refine lv_ixor G.1 G.2.1 dJ9_floorDiv_7cf53_6 ?_
  have em : (d * y).toInt = x.toInt.tdiv y.toInt * y.toInt := by
    rw [Int32.toInt_mul, ed1]
    have hb := gp_mulback x.toInt y.toInt hx hy
    exact fb_bmod (by omega) (by omega)
  refine lv_if_ge (tgt := 21) G.1 G.2.1 dJ9_floorDiv_7cf53_7 (by decide) (fun h => ?_) (fun h => ?_)
  · have hn : ¬ x.toInt < 0 := fun z => by
      have h1 := (gp_xneg x y (by omega)).mpr z
      have h2 := Int32.lt_iff_toInt_lt.mp h1
      have h3 := Int32.le_iff_toInt_le.mp h
      omega
    refine lv_iload_n G.1 G.2.1 dJ9_floorDiv_7cf53_21 rfl (lv_at hl 0 rfl) ?_
    exact W.iret G.1 G.2.1 G.2.2.1 (fun t ht hW => ⟨_, rfl, by show d.toInt = _; rw [ed1]; exact (f1 (by omega)).1, ht⟩) (fun q h => nomatch h) dJ9_floorDiv_7cf53_22 G.2.2.2.2.2.2
  · have hn : x.toInt < 0 := by
      refine (gp_xneg x y (by omega)).mp ?_
      rw [Int32.lt_iff_toInt_lt]
      have h3 : ¬ (0 : Int32).toInt ≤ (x ^^^ y).toInt := fun z => h (Int32.le_iff_toInt_le.mpr z)
      omega
    refine lv_iload_n G.1 G.2.1 dJ9_floorDiv_7cf53_10 rfl (lv_at hl 0 rfl) ?_
    refine lv_iload_n G.1 G.2.1 dJ9_floorDiv_7cf53_11 rfl (lv_at hl 2 rfl) ?_
    refine lv_imul G.1 G.2.1 dJ9_floorDiv_7cf53_12 ?_
    refine lv_iload_n G.1 G.2.1 dJ9_floorDiv_7cf53_13 rfl (lv_at hl 1 rfl) ?_
    refine lv_icmp_eq (tgt := 21) G.1 G.2.1 dJ9_floorDiv_7cf53_14 (by decide) (fun h2 => ?_) (fun h2 => ?_)
    · have h3 : x.toInt.tdiv y.toInt * y.toInt = x.toInt := by rw [← em, h2]
      refine lv_iload_n G.1 G.2.1 dJ9_floorDiv_7cf53_21 rfl (lv_at hl 0 rfl) ?_
      exact W.iret G.1 G.2.1 G.2.2.1 (fun t ht hW => ⟨_, rfl, by show d.toInt = _; rw [ed1]; exact f2 hn h3, ht⟩) (fun q h => nomatch h) dJ9_floorDiv_7cf53_22 G.2.2.2.2.2.2
    · have h3 : x.toInt.tdiv y.toInt * y.toInt ≠ x.toInt := fun z => h2 (Int32.toInt_inj.mp (by rw [em, z]))
      refine lv_iload_n G.1 G.2.1 dJ9_floorDiv_7cf53_17 rfl (lv_at hl 0 rfl) ?_
      refine lv_iconst (v := 1) G.1 G.2.1 dJ9_floorDiv_7cf53_18 (by decide) ?_
      refine lv_isub G.1 G.2.1 dJ9_floorDiv_7cf53_19 ?_
      exact W.iret G.1 G.2.1 G.2.2.1 (fun t ht hW => ⟨_, rfl, by show (d - 1).toInt = _; rw [fb_subI (by rw [ed1]; show -2147483648 ≤ x.toInt.tdiv y.toInt - 1; omega) (by rw [ed1]; show x.toInt.tdiv y.toInt - 1 < 2147483648; omega), ed1]; exact (f3 hn h3).1, ht⟩) (fun q h => nomatch h) dJ9_floorDiv_7cf53_20 G.2.2.2.2.2.2
set_option maxRecDepth 100000 in
set_option maxHeartbeats 4000000 in
/-- fold of three bytes -/
theorem mX0_fold (l : Launch) (v a b : Nat) (hv : v ≤ 255) (ha : a ≤ 255) (hb : b ≤ 255) : Met l yX0_fold wsX0_fold { frames := 0, cells := 0, slots := 0, locals := 0 } (va_Pc [.int (nI v), .int (nI a), .int (nI b)] (fun _ => True)) (vp_Si (fun r => r.toInt = if b < v then 2 * (b : Int) - v else if v < a then 2 * (a : Int) - v else v)) 0 0 (fun _ => False) := by
  refine gc_met [.int (nI v), .int (nI a), .int (nI b)] (by decide) rfl (Nat.le_of_ble_eq_true rfl) rfl ?_
  intro p e s m below meth c ls G hl _
  have tv := nI_toInt (n := v) (by omega)
  have ta := nI_toInt (n := a) (by omega)
  have tb := nI_toInt (n := b) (by omega)
  refine lv_iload_n G.1 G.2.1 dX0_fold_0 rfl (lv_at hl 0 rfl) ?_
  refine lv_iload_n G.1 G.2.1 dX0_fold_1 rfl (lv_at hl 2 rfl) ?_
  refine gn_le G (by omega) (by omega) (tgt := 11) dX0_fold_2 (by decide) (fun h1 => ?_) (fun h1 => ?_)
  · refine lv_iload_n G.1 G.2.1 dX0_fold_11 rfl (lv_at hl 0 rfl) ?_
    refine lv_iload_n G.1 G.2.1 dX0_fold_12 rfl (lv_at hl 1 rfl) ?_
    refine gn_ge G (by omega) (by omega) (tgt := 22) dX0_fold_13 (by decide) (fun h2 => ?_) (fun h2 => ?_)
    · refine lv_iload_n G.1 G.2.1 dX0_fold_22 rfl (lv_at hl 0 rfl) ?_
      exact W.iret G.1 G.2.1 G.2.2.1 (fun t ht hW => ⟨_, rfl, by show (nI v).toInt = _; rw [tv, if_neg (by omega), if_neg (by omega)], ht⟩) (fun q h => nomatch h) dX0_fold_23 G.2.2.2.2.2.2
    · refine lv_iload_n G.1 G.2.1 dX0_fold_16 rfl (lv_at hl 1 rfl) ?_
      refine lv_iload_n G.1 G.2.1 dX0_fold_17 rfl (lv_at hl 1 rfl) ?_
      refine lv_iload_n G.1 G.2.1 dX0_fold_18 rfl (lv_at hl 0 rfl) ?_
      refine gn_isub G dX0_fold_19 (by omega) ?_
      refine gn_iadd G dX0_fold_20 ?_
      exact W.iret G.1 G.2.1 G.2.2.1 (fun t ht hW => ⟨_, rfl, by show (nI (a + (a - v))).toInt = _; rw [nI_toInt (by omega), if_neg (by omega), if_pos (by omega)]; omega, ht⟩) (fun q h => nomatch h) dX0_fold_21 G.2.2.2.2.2.2
  · refine lv_iload_n G.1 G.2.1 dX0_fold_5 rfl (lv_at hl 2 rfl) ?_
    refine lv_iload_n G.1 G.2.1 dX0_fold_6 rfl (lv_at hl 0 rfl) ?_
    refine lv_iload_n G.1 G.2.1 dX0_fold_7 rfl (lv_at hl 2 rfl) ?_
    refine gn_isub G dX0_fold_8 (by omega) ?_
    refine lv_isub G.1 G.2.1 dX0_fold_9 ?_
    exact W.iret G.1 G.2.1 G.2.2.1 (fun t ht hW => ⟨_, rfl, by show (nI b - nI (v - b)).toInt = _; rw [if_pos (by omega), pk_sub_toInt (by omega) (by omega)]; omega, ht⟩) (fun q h => nomatch h) dX0_fold_10 G.2.2.2.2.2.2
end
section
/-! the class's own methods that only read -/
set_option maxRecDepth 100000 in
set_option maxHeartbeats 4000000 in
/-- the value between two places of a row -/
theorem mX0_between (l : Launch) (D : va_G) (a : Nat) (cI : ClassId) (n : Nat) (F : Nat → Nat) (o v : Nat) (ho : o + 4 < n) (hv : v ≤ 255) (hF : F (o + v / 64) ≤ 255 ∧ F (o + v / 64 + 1) ≤ 255) (hn : n < 2 ^ 31 := by decide) : Met l yX0_between wsX0_between { frames := 1, cells := 0, slots := 0, locals := 22 } (va_Pc [.ref a, .int (nI o), .int (nI v)] (fun U => rAt D a cI n F U U.heap)) (vp_Si (fun r => r = nI (sp_btw F o v))) 0 0 (fun _ => False) := by
  refine gc_met [.ref a, .int (nI o), .int (nI v)] (by decide) rfl (Nat.le_of_ble_eq_true rfl) rfl ?_
  intro p e s m below meth c ls G hl hX
  have hFa := hF.1
  have hFb := hF.2
  refine lv_iload_n G.1 G.2.1 dX0_between_0 rfl (lv_at hl 2 rfl) ?_
  refine lv_bipush (v := nI 64) G.1 G.2.1 dX0_between_1 (by decide) ?_
  refine gn_idiv G dX0_between_3 (by omega) (by decide) (by decide) ?_
  refine lv_istore_n (lv' := [(3, .int (nI (v / 64))), (0, .ref a), (1, .int (nI o)), (2, .int (nI v))]) G.1 G.2.1 dX0_between_4 rfl hl (by decide) rfl (fun ls hl => ?_)
  refine lv_aload_n G.1 G.2.1 dX0_between_5 rfl (lv_at hl 1 rfl) ?_
  refine lv_iload_n G.1 G.2.1 dX0_between_6 rfl (lv_at hl 2 rfl) ?_
  refine lv_iload_n G.1 G.2.1 dX0_between_7 rfl (lv_at hl 0 rfl) ?_
  refine gn_iadd G dX0_between_8 ?_
  refine gc_s (As := [.ref a, .int (nI (o + (v / 64)))]) (rest := []) G.fix (mX0_read l D a cI n F (o + (v / 64)) (by omega) hn) (va_cwS 2 G.2.2.2.2.2.1 gX0_between_X0_read rfl rfl rfl (by decide +kernel) ⟨Nat.le_of_ble_eq_true rfl, Nat.le_of_ble_eq_true rfl⟩) rAt_blind (fun U hU hW => by rw [hU]; exact hX.moved hW) rfl hl.1 rfl (Nat.le_of_ble_eq_true rfl) dX0_between_9 (Nat.zero_le _) (Nat.zero_le _) (fun r hr => ?_)
  subst hr
  refine lv_istore (lv' := [(4, .int (nI (F (o + (v / 64))))), (3, .int (nI (v / 64))), (0, .ref a), (1, .int (nI o)), (2, .int (nI v))]) G.1 G.2.1 dX0_between_12 hl (by decide) rfl (fun ls hl => ?_)
  refine lv_aload_n G.1 G.2.1 dX0_between_14 rfl (lv_at hl 2 rfl) ?_
  refine lv_iload_n G.1 G.2.1 dX0_between_15 rfl (lv_at hl 3 rfl) ?_
  refine lv_iload_n G.1 G.2.1 dX0_between_16 rfl (lv_at hl 1 rfl) ?_
  refine gn_iadd G dX0_between_17 ?_
  refine lv_iconst (v := nI 1) G.1 G.2.1 dX0_between_18 (by decide) ?_
  refine gn_iadd G dX0_between_19 ?_
  refine gc_s (As := [.ref a, .int (nI ((o + (v / 64)) + 1))]) (rest := []) G.fix (mX0_read l D a cI n F ((o + (v / 64)) + 1) (by omega) hn) (va_cwS 2 G.2.2.2.2.2.1 gX0_between_X0_read rfl rfl rfl (by decide +kernel) ⟨Nat.le_of_ble_eq_true rfl, Nat.le_of_ble_eq_true rfl⟩) rAt_blind (fun U hU hW => by rw [hU]; exact hX.moved hW) rfl hl.1 rfl (Nat.le_of_ble_eq_true rfl) dX0_between_20 (Nat.zero_le _) (Nat.zero_le _) (fun r hr => ?_)
  subst hr
  refine lv_istore (lv' := [(5, .int (nI (F ((o + (v / 64)) + 1)))), (4, .int (nI (F (o + (v / 64))))), (3, .int (nI (v / 64))), (0, .ref a), (1, .int (nI o)), (2, .int (nI v))]) G.1 G.2.1 dX0_between_23 hl (by decide) rfl (fun ls hl => ?_)
  refine lv_iload_n G.1 G.2.1 dX0_between_25 rfl (lv_at hl 2 rfl) ?_
  refine lv_iconst (v := nI 3) G.1 G.2.1 dX0_between_26 (by decide) ?_
  refine gn_ne G (by omega) (by omega) (tgt := 35) dX0_between_27 (by decide) (fun h_27 => ?_) (fun h_27 => ?_)
  · refine lv_bipush (v := nI 64) G.1 G.2.1 dX0_between_35 (by decide) ?_
    refine lv_istore (lv' := [(6, .int (nI 64)), (5, .int (nI (F ((o + (v / 64)) + 1)))), (4, .int (nI (F (o + (v / 64))))), (3, .int (nI (v / 64))), (0, .ref a), (1, .int (nI o)), (2, .int (nI v))]) G.1 G.2.1 dX0_between_37 hl (by decide) rfl (fun ls hl => ?_)
    refine lv_iload G.1 G.2.1 dX0_between_39 (lv_at hl 2 rfl) ?_
    refine lv_iload G.1 G.2.1 dX0_between_41 (lv_at hl 1 rfl) ?_
    refine lv_iload G.1 G.2.1 dX0_between_43 (lv_at hl 2 rfl) ?_
    refine lv_isub G.1 G.2.1 dX0_between_45 ?_
    refine lv_iload_n G.1 G.2.1 dX0_between_46 rfl (lv_at hl 6 rfl) ?_
    refine lv_iload_n G.1 G.2.1 dX0_between_47 rfl (lv_at hl 3 rfl) ?_
    refine lv_bipush (v := nI 64) G.1 G.2.1 dX0_between_48 (by decide) ?_
    refine gn_imul G dX0_between_50 ?_
    refine gn_isub G dX0_between_51 (by omega) ?_
    refine lv_imul G.1 G.2.1 dX0_between_52 ?_
    refine lv_topi (fun z ez => ?_)
    refine lv_iload G.1 G.2.1 dX0_between_53 (lv_at hl 0 rfl) ?_
    have hw : 64 = sp_w (v / 64) := by unfold sp_w; first | rw [if_pos h_27] | rw [if_neg h_27]
    have hC := hFa
    have hDD := hFb
    have hSS : sp_btw F o v = (F (o + v / 64) * (sp_w (v / 64) - (v - v / 64 * 64)) + F (o + v / 64 + 1) * (v - v / 64 * 64)) / sp_w (v / 64) := rfl
    clear hF hFa hFb
    generalize F (o + v / 64) = C at ez hC hSS hl ⊢
    generalize F (o + v / 64 + 1) = E9 at ez hDD hSS hl
    have ht9 := sp_far hv
    have hzt : z.toInt = ((E9 : Int) - C) * ((v - v / 64 * 64 : Nat) : Int) ∧ -16320 ≤ z.toInt ∧ z.toInt ≤ 16320 := by rw [ez]; exact gp_prod (by omega) (by omega) (by have := sp_w_le (v / 64); omega)
    refine gc_s (As := [.int z, .int (nI 64)]) (rest := [.int (nI C)]) G.fix (mJ9_floorDiv l z (nI 64) (by omega) (by rw [nI_toInt (by decide)]; omega)) (va_cwS 2 G.2.2.2.2.2.1 gX0_between_J9_floorDiv_7cf53 rfl rfl rfl (by decide +kernel) ⟨Nat.le_of_ble_eq_true rfl, Nat.le_of_ble_eq_true rfl⟩) gc_blindT (fun _ _ _ => trivial) rfl hl.1 rfl (Nat.le_of_ble_eq_true rfl) dX0_between_55 (Nat.zero_le _) (Nat.zero_le _) (fun r hr => ?_)
    refine lv_iadd G.1 G.2.1 dX0_between_58 ?_
    exact W.iret G.1 G.2.1 G.2.2.1 (fun t ht hW => ⟨_, rfl, gp_btwR (w := 64) hSS hw hr hzt.1 (sp_w_pos _) (sp_w_le _) ht9 hC hDD, ht⟩) (fun q h => nomatch h) dX0_between_59 G.2.2.2.2.2.2
  · refine lv_bipush (v := nI 63) G.1 G.2.1 dX0_between_30 (by decide) ?_
    refine lv_goto (tgt := 37) G.1 G.2.1 dX0_between_32 (by decide) ?_
    refine lv_istore (lv' := [(6, .int (nI 63)), (5, .int (nI (F ((o + (v / 64)) + 1)))), (4, .int (nI (F (o + (v / 64))))), (3, .int (nI (v / 64))), (0, .ref a), (1, .int (nI o)), (2, .int (nI v))]) G.1 G.2.1 dX0_between_37 hl (by decide) rfl (fun ls hl => ?_)
    refine lv_iload G.1 G.2.1 dX0_between_39 (lv_at hl 2 rfl) ?_
    refine lv_iload G.1 G.2.1 dX0_between_41 (lv_at hl 1 rfl) ?_
    refine lv_iload G.1 G.2.1 dX0_between_43 (lv_at hl 2 rfl) ?_
    refine lv_isub G.1 G.2.1 dX0_between_45 ?_
    refine lv_iload_n G.1 G.2.1 dX0_between_46 rfl (lv_at hl 6 rfl) ?_
    refine lv_iload_n G.1 G.2.1 dX0_between_47 rfl (lv_at hl 3 rfl) ?_
    refine lv_bipush (v := nI 64) G.1 G.2.1 dX0_between_48 (by decide) ?_
    refine gn_imul G dX0_between_50 ?_
    refine gn_isub G dX0_between_51 (by omega) ?_
    refine lv_imul G.1 G.2.1 dX0_between_52 ?_
    refine lv_topi (fun z ez => ?_)
    refine lv_iload G.1 G.2.1 dX0_between_53 (lv_at hl 0 rfl) ?_
    have hw : 63 = sp_w (v / 64) := by unfold sp_w; first | rw [if_pos h_27] | rw [if_neg h_27]
    have hC := hFa
    have hDD := hFb
    have hSS : sp_btw F o v = (F (o + v / 64) * (sp_w (v / 64) - (v - v / 64 * 64)) + F (o + v / 64 + 1) * (v - v / 64 * 64)) / sp_w (v / 64) := rfl
    clear hF hFa hFb
    generalize F (o + v / 64) = C at ez hC hSS hl ⊢
    generalize F (o + v / 64 + 1) = E9 at ez hDD hSS hl
    have ht9 := sp_far hv
    have hzt : z.toInt = ((E9 : Int) - C) * ((v - v / 64 * 64 : Nat) : Int) ∧ -16320 ≤ z.toInt ∧ z.toInt ≤ 16320 := by rw [ez]; exact gp_prod (by omega) (by omega) (by have := sp_w_le (v / 64); omega)
    refine gc_s (As := [.int z, .int (nI 63)]) (rest := [.int (nI C)]) G.fix (mJ9_floorDiv l z (nI 63) (by omega) (by rw [nI_toInt (by decide)]; omega)) (va_cwS 2 G.2.2.2.2.2.1 gX0_between_J9_floorDiv_7cf53 rfl rfl rfl (by decide +kernel) ⟨Nat.le_of_ble_eq_true rfl, Nat.le_of_ble_eq_true rfl⟩) gc_blindT (fun _ _ _ => trivial) rfl hl.1 rfl (Nat.le_of_ble_eq_true rfl) dX0_between_55 (Nat.zero_le _) (Nat.zero_le _) (fun r hr => ?_)
    refine lv_iadd G.1 G.2.1 dX0_between_58 ?_
    exact W.iret G.1 G.2.1 G.2.2.1 (fun t ht hW => ⟨_, rfl, gp_btwR (w := 63) hSS hw hr hzt.1 (sp_w_pos _) (sp_w_le _) ht9 hC hDD, ht⟩) (fun q h => nomatch h) dX0_between_59 G.2.2.2.2.2.2
set_option maxRecDepth 100000 in
set_option maxHeartbeats 4000000 in
/-- the value of a curve -/
theorem mX0_bent (l : Launch) (D : va_G) (q : Nat → Nat) (cI : ClassId) (N : Nat → Nat) (S : Nat → Nat → Nat) (tr : Nat → Nat) (A : Nat → Prop) (pf bd vl : Nat) (hok : sp_ok N S) (hpf : pf < 8) (hbd : bd < 3) (hvl : vl ≤ 255) : Met l yX0_bent wsX0_bent { frames := 2, cells := 0, slots := 0, locals := 48 } (va_Pc [.ref (q 0), .int (nI pf), .int (nI bd), .int (nI vl)] (fun U => xAt D q cI N S tr A U U.heap)) (vp_Si (fun r => r = nI (sp_curve S pf bd vl))) 0 0 (fun _ => False) := by
  refine gc_met [.ref (q 0), .int (nI pf), .int (nI bd), .int (nI vl)] (by decide) rfl (Nat.le_of_ble_eq_true rfl) rfl ?_
  intro p e s m below meth c ls G hl hX
  have hok9 := hok
  obtain ⟨⟨ok0, ok5⟩, ok1, ok2, ok3, ok4, ok6, ok7, ok8, ok12, ok13, ok14⟩ := hok9
  have hb2 : S 1 ((pf * 3 + bd) * 5 + vl / 64) ≤ 255 ∧ S 1 ((pf * 3 + bd) * 5 + vl / 64 + 1) ≤ 255 := ⟨ok1 _, ok1 _⟩
  refine lv_aload_n G.1 G.2.1 dX0_bent_0 rfl (lv_at hl 0 rfl) ?_
  refine gx_get G hX (by decide +kernel) 1 (by decide) (by decide +kernel) rfl rfl rfl dX0_bent_1 ?_
  refine lv_iload_n G.1 G.2.1 dX0_bent_4 rfl (lv_at hl 1 rfl) ?_
  refine lv_iconst (v := nI 3) G.1 G.2.1 dX0_bent_5 (by decide) ?_
  refine gn_imul G dX0_bent_6 ?_
  refine lv_iload_n G.1 G.2.1 dX0_bent_7 rfl (lv_at hl 2 rfl) ?_
  refine gn_iadd G dX0_bent_8 ?_
  refine lv_iconst (v := nI 5) G.1 G.2.1 dX0_bent_9 (by decide) ?_
  refine gn_imul G dX0_bent_10 ?_
  refine lv_iload_n G.1 G.2.1 dX0_bent_11 rfl (lv_at hl 3 rfl) ?_
  refine gc_s (As := [.ref (q 1), .int (nI (((pf * 3) + bd) * 5)), .int (nI vl)]) (rest := []) G.fix (mX0_between l D (q 1) cI 120 (S 1) (((pf * 3) + bd) * 5) vl (by first | omega | assumption | exact ok6 _ | apply hq) (by first | omega | assumption | exact ok6 _ | apply hq) (by first | assumption | (intro j; omega))) (va_cwS 3 G.2.2.2.2.2.1 gX0_bent_X0_between rfl rfl rfl (by decide +kernel) ⟨Nat.le_of_ble_eq_true rfl, Nat.le_of_ble_eq_true rfl⟩) rAt_blind (fun U hU hW => by rw [hU]; exact (hX.row 1 rfl).moved hW) rfl hl.1 rfl (Nat.le_of_ble_eq_true rfl) dX0_bent_12 (Nat.zero_le _) (Nat.zero_le _) (fun r hr => ?_)
  subst hr
  exact W.iret G.1 G.2.1 G.2.2.1 (fun t ht hW => ⟨_, rfl, rfl, ht⟩) (fun q h => nomatch h) dX0_bent_15 G.2.2.2.2.2.2
set_option maxRecDepth 100000 in
set_option maxHeartbeats 4000000 in
/-- what a profile makes of a value -/
theorem mX0_take (l : Launch) (D : va_G) (q : Nat → Nat) (cI : ClassId) (N : Nat → Nat) (S : Nat → Nat → Nat) (tr : Nat → Nat) (A : Nat → Prop) (pf bd vl : Nat) (hok : sp_ok N S) (hpf : pf < 8) (hbd : bd < 3) (hvl : vl ≤ 255) : Met l yX0_take wsX0_take { frames := 3, cells := 0, slots := 0, locals := 71 } (va_Pc [.ref (q 0), .int (nI pf), .int (nI bd), .int (nI vl)] (fun U => xAt D q cI N S tr A U U.heap)) (vp_Si (fun r => r = nI (sp_tk S pf bd vl))) 0 0 (fun _ => False) := by
  refine gc_met [.ref (q 0), .int (nI pf), .int (nI bd), .int (nI vl)] (by decide) rfl (Nat.le_of_ble_eq_true rfl) rfl ?_
  intro p e s m below meth c ls G hl hX
  have hok9 := hok
  obtain ⟨⟨ok0, ok5⟩, ok1, ok2, ok3, ok4, ok6, ok7, ok8, ok12, ok13, ok14⟩ := hok9
  have h2 := ok2 (pf * 3 + bd)
  have h3 := ok3 (pf * 3 + bd)
  have h4 := ok4 pf
  have hc := sp_curve_le (p := pf) (b := bd) hok hvl
  have hmul : sp_curve S pf bd vl * (S 3 (pf * 3 + bd) - S 2 (pf * 3 + bd)) ≤ 255 * 255 := Nat.mul_le_mul hc (by omega)
  refine lv_aload_n G.1 G.2.1 dX0_take_0 rfl (lv_at hl 0 rfl) ?_
  refine gx_get G hX (by decide +kernel) 2 (by decide) (by decide +kernel) rfl rfl rfl dX0_take_1 ?_
  refine lv_iload_n G.1 G.2.1 dX0_take_4 rfl (lv_at hl 1 rfl) ?_
  refine lv_iconst (v := nI 3) G.1 G.2.1 dX0_take_5 (by decide) ?_
  refine gn_imul G dX0_take_6 ?_
  refine lv_iload_n G.1 G.2.1 dX0_take_7 rfl (lv_at hl 2 rfl) ?_
  refine gn_iadd G dX0_take_8 ?_
  refine gc_s (As := [.ref (q 2), .int (nI ((pf * 3) + bd))]) (rest := []) G.fix (mX0_read l D (q 2) cI 24 (S 2) ((pf * 3) + bd) (by first | omega | assumption | exact ok6 _ | apply hq)) (va_cwS 2 G.2.2.2.2.2.1 gX0_take_X0_read rfl rfl rfl (by decide +kernel) ⟨Nat.le_of_ble_eq_true rfl, Nat.le_of_ble_eq_true rfl⟩) rAt_blind (fun U hU hW => by rw [hU]; exact (hX.row 2 rfl).moved hW) rfl hl.1 rfl (Nat.le_of_ble_eq_true rfl) dX0_take_9 (Nat.zero_le _) (Nat.zero_le _) (fun r hr => ?_)
  subst hr
  refine lv_istore (lv' := [(4, .int (nI (S 2 ((pf * 3) + bd)))), (0, .ref (q 0)), (1, .int (nI pf)), (2, .int (nI bd)), (3, .int (nI vl))]) G.1 G.2.1 dX0_take_12 hl (by decide) rfl (fun ls hl => ?_)
  refine lv_aload_n G.1 G.2.1 dX0_take_14 rfl (lv_at hl 1 rfl) ?_
  refine gx_get G hX (by decide +kernel) 3 (by decide) (by decide +kernel) rfl rfl rfl dX0_take_15 ?_
  refine lv_iload_n G.1 G.2.1 dX0_take_18 rfl (lv_at hl 2 rfl) ?_
  refine lv_iconst (v := nI 3) G.1 G.2.1 dX0_take_19 (by decide) ?_
  refine gn_imul G dX0_take_20 ?_
  refine lv_iload_n G.1 G.2.1 dX0_take_21 rfl (lv_at hl 3 rfl) ?_
  refine gn_iadd G dX0_take_22 ?_
  refine gc_s (As := [.ref (q 3), .int (nI ((pf * 3) + bd))]) (rest := []) G.fix (mX0_read l D (q 3) cI 24 (S 3) ((pf * 3) + bd) (by first | omega | assumption | exact ok6 _ | apply hq)) (va_cwS 2 G.2.2.2.2.2.1 gX0_take_X0_read rfl rfl rfl (by decide +kernel) ⟨Nat.le_of_ble_eq_true rfl, Nat.le_of_ble_eq_true rfl⟩) rAt_blind (fun U hU hW => by rw [hU]; exact (hX.row 3 rfl).moved hW) rfl hl.1 rfl (Nat.le_of_ble_eq_true rfl) dX0_take_23 (Nat.zero_le _) (Nat.zero_le _) (fun r hr => ?_)
  subst hr
  refine lv_istore (lv' := [(5, .int (nI (S 3 ((pf * 3) + bd)))), (4, .int (nI (S 2 ((pf * 3) + bd)))), (0, .ref (q 0)), (1, .int (nI pf)), (2, .int (nI bd)), (3, .int (nI vl))]) G.1 G.2.1 dX0_take_26 hl (by decide) rfl (fun ls hl => ?_)
  refine lv_aload_n G.1 G.2.1 dX0_take_28 rfl (lv_at hl 2 rfl) ?_
  refine lv_iload_n G.1 G.2.1 dX0_take_29 rfl (lv_at hl 3 rfl) ?_
  refine lv_iload_n G.1 G.2.1 dX0_take_30 rfl (lv_at hl 4 rfl) ?_
  refine lv_iload_n G.1 G.2.1 dX0_take_31 rfl (lv_at hl 5 rfl) ?_
  refine gc_v (As := [.int (nI pf), .int (nI bd), .int (nI vl)]) (rest := []) G.fix (mX0_bent l D q cI N S tr A pf bd vl hok (by first | omega | assumption | exact ok6 _ | apply hq) (by first | omega | assumption | exact ok6 _ | apply hq) (by first | omega | assumption | exact ok6 _ | apply hq)) (cwV 3 G.2.2.2.2.2.1 gX0_take_X0_bent rfl rfl rfl (by decide +kernel) ⟨Nat.le_of_ble_eq_true rfl, Nat.le_of_ble_eq_true rfl⟩) xAt_blind (va_recv hX.2.1 hX.1 (ci := 0) (q0 := 0) rfl rfl) (fun U hU hW => by rw [hU]; exact hX.moved hW) rfl hl.1 rfl (Nat.le_of_ble_eq_true rfl) dX0_take_32 (Nat.zero_le _) (Nat.zero_le _) (fun r hr => ?_)
  subst hr
  refine lv_istore (lv' := [(6, .int (nI (sp_curve S pf bd vl))), (5, .int (nI (S 3 ((pf * 3) + bd)))), (4, .int (nI (S 2 ((pf * 3) + bd)))), (0, .ref (q 0)), (1, .int (nI pf)), (2, .int (nI bd)), (3, .int (nI vl))]) G.1 G.2.1 dX0_take_35 hl (by decide) rfl (fun ls hl => ?_)
  refine lv_aload_n G.1 G.2.1 dX0_take_37 rfl (lv_at hl 3 rfl) ?_
  refine gx_get G hX (by decide +kernel) 4 (by decide) (by decide +kernel) rfl rfl rfl dX0_take_38 ?_
  refine lv_iload_n G.1 G.2.1 dX0_take_41 rfl (lv_at hl 4 rfl) ?_
  refine gc_s (As := [.ref (q 4), .int (nI pf)]) (rest := []) G.fix (mX0_read l D (q 4) cI 8 (S 4) (pf) (by first | omega | assumption | exact ok6 _ | apply hq)) (va_cwS 2 G.2.2.2.2.2.1 gX0_take_X0_read rfl rfl rfl (by decide +kernel) ⟨Nat.le_of_ble_eq_true rfl, Nat.le_of_ble_eq_true rfl⟩) rAt_blind (fun U hU hW => by rw [hU]; exact (hX.row 4 rfl).moved hW) rfl hl.1 rfl (Nat.le_of_ble_eq_true rfl) dX0_take_42 (Nat.zero_le _) (Nat.zero_le _) (fun r hr => ?_)
  subst hr
  refine lv_istore (lv' := [(7, .int (nI (S 4 pf))), (6, .int (nI (sp_curve S pf bd vl))), (5, .int (nI (S 3 ((pf * 3) + bd)))), (4, .int (nI (S 2 ((pf * 3) + bd)))), (0, .ref (q 0)), (1, .int (nI pf)), (2, .int (nI bd)), (3, .int (nI vl))]) G.1 G.2.1 dX0_take_45 hl (by decide) rfl (fun ls hl => ?_)
  refine lv_iload G.1 G.2.1 dX0_take_47 (lv_at hl 0 rfl) ?_
  refine lv_iconst (v := nI 1) G.1 G.2.1 dX0_take_49 (by decide) ?_
  refine gn_ne G (by omega) (by omega) (tgt := 69) dX0_take_50 (by decide) (fun h_50 => ?_) (fun h_50 => ?_)
  · refine lv_iload G.1 G.2.1 dX0_take_69 (lv_at hl 0 rfl) ?_
    refine lv_iconst (v := nI 2) G.1 G.2.1 dX0_take_71 (by decide) ?_
    refine gn_ne G (by omega) (by omega) (tgt := 86) dX0_take_72 (by decide) (fun h_72 => ?_) (fun h_72 => ?_)
    · refine lv_iload G.1 G.2.1 dX0_take_86 (lv_at hl 3 rfl) ?_
      refine lv_iload G.1 G.2.1 dX0_take_88 (lv_at hl 2 rfl) ?_
      refine lv_iload G.1 G.2.1 dX0_take_90 (lv_at hl 1 rfl) ?_
      refine gr_min G hl.1 (ix := 119) (by decide +kernel) (by decide +kernel) (by decide +kernel) (by decide +kernel) (Nat.le_of_ble_eq_true rfl) (Nat.le_of_ble_eq_true rfl) (Nat.zero_le _) (Nat.zero_le _) (by omega) (by omega) dX0_take_92 ?_
      refine gr_max G hl.1 (ix := 125) (by decide +kernel) (by decide +kernel) (by decide +kernel) (by decide +kernel) (Nat.le_of_ble_eq_true rfl) (Nat.le_of_ble_eq_true rfl) (Nat.zero_le _) (Nat.zero_le _) (by omega) (by omega) dX0_take_95 ?_
      exact W.iret G.1 G.2.1 G.2.2.1 (fun t ht hW => ⟨_, rfl, by show nI _ = nI _; unfold sp_tk sp_take; rw [if_neg h_50, if_neg h_72], ht⟩) (fun q h => nomatch h) dX0_take_98 G.2.2.2.2.2.2
    · refine lv_iload G.1 G.2.1 dX0_take_75 (lv_at hl 1 rfl) ?_
      refine lv_iload G.1 G.2.1 dX0_take_77 (lv_at hl 3 rfl) ?_
      refine lv_iload G.1 G.2.1 dX0_take_79 (lv_at hl 2 rfl) ?_
      refine gc_s (As := [.int (nI (sp_curve S pf bd vl)), .int (nI (S 2 ((pf * 3) + bd))), .int (nI (S 3 ((pf * 3) + bd)))]) (rest := []) G.fix (mX0_fold l (sp_curve S pf bd vl) (S 2 (pf * 3 + bd)) (S 3 (pf * 3 + bd)) (by omega) (by omega) (by omega)) (va_cwS 3 G.2.2.2.2.2.1 gX0_take_X0_fold rfl rfl rfl (by decide +kernel) ⟨Nat.le_of_ble_eq_true rfl, Nat.le_of_ble_eq_true rfl⟩) gc_blindT (fun _ _ _ => trivial) rfl hl.1 rfl (Nat.le_of_ble_eq_true rfl) dX0_take_81 (Nat.zero_le _) (Nat.zero_le _) (fun z hz => ?_)
      refine lv_istore (lv' := [(6, .int z), (7, .int (nI (S 4 pf))), (5, .int (nI (S 3 ((pf * 3) + bd)))), (4, .int (nI (S 2 ((pf * 3) + bd)))), (0, .ref (q 0)), (1, .int (nI pf)), (2, .int (nI bd)), (3, .int (nI vl))]) G.1 G.2.1 dX0_take_84 hl (by decide) rfl (fun ls hl => ?_)
      refine lv_iload G.1 G.2.1 dX0_take_86 (lv_at hl 3 rfl) ?_
      refine lv_iload G.1 G.2.1 dX0_take_88 (lv_at hl 2 rfl) ?_
      refine lv_iload G.1 G.2.1 dX0_take_90 (lv_at hl 0 rfl) ?_
      refine va_mmin G.1 G.2.1 (G.2.2.2.1.trans hl.1.symm) G.2.2.2.2.1 (G.2.2.2.2.2.1 (.methodLink RX0 119 Lib.Math.min.name) (by decide +kernel)) (G.2.2.2.2.2.1 _ (by decide +kernel)) (G.2.2.2.2.2.1 _ (by decide +kernel)) (G.2.2.2.2.2.1 _ (by decide +kernel)) (Nat.le_of_ble_eq_true rfl) (Nat.le_of_ble_eq_true rfl) (Nat.zero_le _) (Nat.zero_le _) dX0_take_92 ?_
      refine lv_topi (fun y ey => ?_)
      refine va_mmax G.1 G.2.1 (G.2.2.2.1.trans hl.1.symm) G.2.2.2.2.1 (G.2.2.2.2.2.1 (.methodLink RX0 125 Lib.Math.max.name) (by decide +kernel)) (G.2.2.2.2.2.1 _ (by decide +kernel)) (G.2.2.2.2.2.1 _ (by decide +kernel)) (G.2.2.2.2.2.1 _ (by decide +kernel)) (Nat.le_of_ble_eq_true rfl) (Nat.le_of_ble_eq_true rfl) (Nat.zero_le _) (Nat.zero_le _) dX0_take_95 ?_
      exact W.iret G.1 G.2.1 G.2.2.1 (fun t ht hW => ⟨_, rfl, by show (if nI _ < y then y else nI _) = nI _; unfold sp_tk sp_take; rw [if_neg h_50, if_pos h_72]; exact gp_clamp h2 h3 hc hz ey, ht⟩) (fun q h => nomatch h) dX0_take_98 G.2.2.2.2.2.2
  · refine lv_iload G.1 G.2.1 dX0_take_53 (lv_at hl 3 rfl) ?_
    refine lv_iload G.1 G.2.1 dX0_take_55 (lv_at hl 1 rfl) ?_
    refine lv_iload G.1 G.2.1 dX0_take_57 (lv_at hl 2 rfl) ?_
    refine lv_iload G.1 G.2.1 dX0_take_59 (lv_at hl 3 rfl) ?_
    refine gn_isub G dX0_take_61 (by omega) ?_
    refine gn_imul G dX0_take_62 ?_
    refine lv_sipush (v := nI 255) G.1 G.2.1 dX0_take_63 (by decide) ?_
    refine gn_idiv G dX0_take_66 (by omega) (by decide) (by decide) ?_
    refine gn_iadd G dX0_take_67 ?_
    exact W.iret G.1 G.2.1 G.2.2.1 (fun t ht hW => ⟨_, rfl, by show nI _ = nI _; unfold sp_tk sp_take; rw [if_pos h_50], ht⟩) (fun q h => nomatch h) dX0_take_68 G.2.2.2.2.2.2
set_option maxRecDepth 100000 in
set_option maxHeartbeats 4000000 in
/-- a value through a chain -/
theorem mX0_pass (l : Launch) (D : va_G) (q : Nat → Nat) (cI : ClassId) (N : Nat → Nat) (S : Nat → Nat → Nat) (tr : Nat → Nat) (A : Nat → Prop) (ch bd vl : Nat) (hok : sp_ok N S) (hch : ch < 6) (hbd : bd < 3) (hvl : vl ≤ 255) : Met l yX0_pass wsX0_pass { frames := 4, cells := 0, slots := 0, locals := 98 } (va_Pc [.ref (q 0), .int (nI ch), .int (nI bd), .int (nI vl)] (fun U => xAt D q cI N S tr A U U.heap)) (vp_Si (fun r => r = nI (sp_pass S ch bd vl))) 0 0 (fun _ => False) := by
  refine gc_met [.ref (q 0), .int (nI ch), .int (nI bd), .int (nI vl)] (by decide) rfl (Nat.le_of_ble_eq_true rfl) rfl ?_
  intro p e s m below meth c ls G hl hX
  have hok9 := hok
  obtain ⟨⟨ok0, ok5⟩, ok1, ok2, ok3, ok4, ok6, ok7, ok8, ok12, ok13, ok14⟩ := hok9
  have h7 := ok7 ch
  have hq := fun k => sp_passTo_le (ch := ch) (b := bd) hok hvl k
  have h6 := fun k => ok6 (ch * 6 + k)
  refine lv_aload_n G.1 G.2.1 dX0_pass_0 rfl (lv_at hl 0 rfl) ?_
  refine gx_get G hX (by decide +kernel) 7 (by decide) (by decide +kernel) rfl rfl rfl dX0_pass_1 ?_
  refine lv_iload_n G.1 G.2.1 dX0_pass_4 rfl (lv_at hl 1 rfl) ?_
  refine gc_s (As := [.ref (q 7), .int (nI ch)]) (rest := []) G.fix (mX0_read l D (q 7) cI 6 (S 7) (ch) (by first | omega | assumption | exact ok6 _ | apply hq)) (va_cwS 2 G.2.2.2.2.2.1 gX0_pass_X0_read rfl rfl rfl (by decide +kernel) ⟨Nat.le_of_ble_eq_true rfl, Nat.le_of_ble_eq_true rfl⟩) rAt_blind (fun U hU hW => by rw [hU]; exact (hX.row 6 rfl).moved hW) rfl hl.1 rfl (Nat.le_of_ble_eq_true rfl) dX0_pass_5 (Nat.zero_le _) (Nat.zero_le _) (fun r hr => ?_)
  subst hr
  refine lv_istore (lv' := [(4, .int (nI (S 7 ch))), (0, .ref (q 0)), (1, .int (nI ch)), (2, .int (nI bd)), (3, .int (nI vl))]) G.1 G.2.1 dX0_pass_8 hl (by decide) rfl (fun ls hl => ?_)
  refine lv_iload_n G.1 G.2.1 dX0_pass_10 rfl (lv_at hl 4 rfl) ?_
  refine lv_istore (lv' := [(5, .int (nI vl)), (4, .int (nI (S 7 ch))), (0, .ref (q 0)), (1, .int (nI ch)), (2, .int (nI bd)), (3, .int (nI vl))]) G.1 G.2.1 dX0_pass_11 hl (by decide) rfl (fun ls hl => ?_)
  refine lv_iconst (v := nI 0) G.1 G.2.1 dX0_pass_13 (by decide) ?_
  refine lv_istore (lv' := [(6, .int (nI 0)), (5, .int (nI vl)), (4, .int (nI (S 7 ch))), (0, .ref (q 0)), (1, .int (nI ch)), (2, .int (nI bd)), (3, .int (nI vl))]) G.1 G.2.1 dX0_pass_14 hl (by decide) rfl (fun ls hl => ?_)
  have loop1 : ∀ (d1 x1 : Nat), x1 + d1 = S 7 ch → ∀ ls : Array Slot, lv_has ls 7 [(0, .ref (q 0)), (1, .int (nI ch)), (2, .int (nI bd)), (4, .int (nI (S 7 ch))), (5, .int (nI (sp_passTo S ch bd vl x1))), (6, .int (nI x1))] → W p l e { frames := 4, cells := 0, slots := 0, locals := 98 } s m ([.ref (q 0), .int (nI ch), .int (nI bd), .int (nI vl)] : List Value).toArray below meth c s.heap [] 0 0 (MQ below (vp_Si (fun r => r = nI (sp_pass S ch bd vl))) ([.ref (q 0), .int (nI ch), .int (nI bd), .int (nI vl)] : List Value).toArray s 0 0 (fun _ => False)) (F0 m 16 ls []) := by
    intro d1
    induction d1 with
    | zero =>
      intro x1 hd1 ls hl
      refine lv_iload G.1 G.2.1 dX0_pass_16 (lv_at hl 5 rfl) ?_
      refine lv_iload G.1 G.2.1 dX0_pass_18 (lv_at hl 3 rfl) ?_
      refine gn_ge G (by omega) (by omega) (tgt := 52) dX0_pass_20 (by decide) (fun h_20 => ?_) (fun h_20 => absurd h_20 (by omega))
      refine lv_iload G.1 G.2.1 dX0_pass_52 (lv_at hl 4 rfl) ?_
      exact W.iret G.1 G.2.1 G.2.2.1 (fun t ht hW => ⟨_, rfl, by show nI _ = nI _; unfold sp_pass; rw [show x1 = S 7 ch from by omega], ht⟩) (fun q h => nomatch h) dX0_pass_54 G.2.2.2.2.2.2
    | succ d1 ih1 =>
      intro x1 hd1 ls hl
      refine lv_iload G.1 G.2.1 dX0_pass_16 (lv_at hl 5 rfl) ?_
      refine lv_iload G.1 G.2.1 dX0_pass_18 (lv_at hl 3 rfl) ?_
      refine gn_ge G (by omega) (by omega) (tgt := 52) dX0_pass_20 (by decide) (fun h_20 => absurd h_20 (by omega)) (fun h_20 => ?_)
      refine lv_aload_n G.1 G.2.1 dX0_pass_23 rfl (lv_at hl 0 rfl) ?_
      refine lv_aload_n G.1 G.2.1 dX0_pass_24 rfl (lv_at hl 0 rfl) ?_
      refine gx_get G hX (by decide +kernel) 6 (by decide) (by decide +kernel) rfl rfl rfl dX0_pass_25 ?_
      refine lv_iload_n G.1 G.2.1 dX0_pass_28 rfl (lv_at hl 1 rfl) ?_
      refine lv_bipush (v := nI 6) G.1 G.2.1 dX0_pass_29 (by decide) ?_
      refine gn_imul G dX0_pass_31 ?_
      refine lv_iload G.1 G.2.1 dX0_pass_32 (lv_at hl 5 rfl) ?_
      refine gn_iadd G dX0_pass_34 ?_
      refine gc_s (As := [.ref (q 6), .int (nI ((ch * 6) + x1))]) (rest := [.ref (q 0)]) G.fix (mX0_read l D (q 6) cI 36 (S 6) ((ch * 6) + x1) (by first | omega | assumption | exact ok6 _ | apply hq)) (va_cwS 2 G.2.2.2.2.2.1 gX0_pass_X0_read rfl rfl rfl (by decide +kernel) ⟨Nat.le_of_ble_eq_true rfl, Nat.le_of_ble_eq_true rfl⟩) rAt_blind (fun U hU hW => by rw [hU]; exact (hX.row 5 rfl).moved hW) rfl hl.1 rfl (Nat.le_of_ble_eq_true rfl) dX0_pass_35 (Nat.zero_le _) (Nat.zero_le _) (fun r hr => ?_)
      subst hr
      refine lv_iload_n G.1 G.2.1 dX0_pass_38 rfl (lv_at hl 2 rfl) ?_
      refine lv_iload G.1 G.2.1 dX0_pass_39 (lv_at hl 4 rfl) ?_
      refine gc_v (As := [.int (nI (S 6 ((ch * 6) + x1))), .int (nI bd), .int (nI (sp_passTo S ch bd vl x1))]) (rest := []) G.fix (mX0_take l D q cI N S tr A (S 6 ((ch * 6) + x1)) bd (sp_passTo S ch bd vl x1) hok (by first | omega | assumption | exact ok6 _ | apply hq) (by first | omega | assumption | exact ok6 _ | apply hq) (by first | omega | assumption | exact ok6 _ | apply hq)) (cwV 3 G.2.2.2.2.2.1 gX0_pass_X0_take rfl rfl rfl (by decide +kernel) ⟨Nat.le_of_ble_eq_true rfl, Nat.le_of_ble_eq_true rfl⟩) xAt_blind (va_recv hX.2.1 hX.1 (ci := 0) (q0 := 0) rfl rfl) (fun U hU hW => by rw [hU]; exact hX.moved hW) rfl hl.1 rfl (Nat.le_of_ble_eq_true rfl) dX0_pass_41 (Nat.zero_le _) (Nat.zero_le _) (fun r hr => ?_)
      subst hr
      refine lv_istore (lv' := [(5, .int (nI (sp_tk S (S 6 ((ch * 6) + x1)) bd (sp_passTo S ch bd vl x1)))), (0, .ref (q 0)), (1, .int (nI ch)), (2, .int (nI bd)), (4, .int (nI (S 7 ch))), (6, .int (nI x1))]) G.1 G.2.1 dX0_pass_44 hl (by decide) rfl (fun ls hl => ?_)
      refine gn_iinc (lv' := [(6, .int (nI (x1 + 1))), (5, .int (nI (sp_tk S (S 6 ((ch * 6) + x1)) bd (sp_passTo S ch bd vl x1)))), (0, .ref (q 0)), (1, .int (nI ch)), (2, .int (nI bd)), (4, .int (nI (S 7 ch)))]) (n := 1) G dX0_pass_46 hl (k := 5) rfl (by decide) rfl (fun ls hl => ?_)
      refine lv_goto (tgt := 16) G.1 G.2.1 dX0_pass_49 (by decide) ?_
      exact ih1 (x1 + 1) (by omega) _ (lv_sub hl [2, 3, 4, 5, 1, 0] rfl)
  exact loop1 (S 7 ch) 0 (by omega) _ (lv_sub hl [3, 4, 5, 2, 1, 0] rfl)
set_option maxRecDepth 100000 in
set_option maxHeartbeats 4000000 in
/-- the profiles of a chain, as a set -/
theorem mX0_profilesOf (l : Launch) (D : va_G) (q : Nat → Nat) (cI : ClassId) (N : Nat → Nat) (S : Nat → Nat → Nat) (tr : Nat → Nat) (A : Nat → Prop) (ch : Nat) (hok : sp_ok N S) (hch : ch < 6) : Met l yX0_profilesOf wsX0_profilesOf { frames := 1, cells := 0, slots := 0, locals := 21 } (va_Pc [.ref (q 0), .int (nI ch)] (fun U => xAt D q cI N S tr A U U.heap)) (vp_Si (fun r => r = nI (sp_of S ch))) 0 0 (fun _ => False) := by
  refine gc_met [.ref (q 0), .int (nI ch)] (by decide) rfl (Nat.le_of_ble_eq_true rfl) rfl ?_
  intro p e s m below meth c ls G hl hX
  have hok9 := hok
  obtain ⟨⟨ok0, ok5⟩, ok1, ok2, ok3, ok4, ok6, ok7, ok8, ok12, ok13, ok14⟩ := hok9
  have h7 := ok7 ch
  refine lv_aload_n G.1 G.2.1 dX0_profilesOf_0 rfl (lv_at hl 0 rfl) ?_
  refine gx_get G hX (by decide +kernel) 7 (by decide) (by decide +kernel) rfl rfl rfl dX0_profilesOf_1 ?_
  refine lv_iload_n G.1 G.2.1 dX0_profilesOf_4 rfl (lv_at hl 1 rfl) ?_
  refine gc_s (As := [.ref (q 7), .int (nI ch)]) (rest := []) G.fix (mX0_read l D (q 7) cI 6 (S 7) (ch) (by first | omega | assumption | exact ok6 _ | apply hq)) (va_cwS 2 G.2.2.2.2.2.1 gX0_profilesOf_X0_read rfl rfl rfl (by decide +kernel) ⟨Nat.le_of_ble_eq_true rfl, Nat.le_of_ble_eq_true rfl⟩) rAt_blind (fun U hU hW => by rw [hU]; exact (hX.row 6 rfl).moved hW) rfl hl.1 rfl (Nat.le_of_ble_eq_true rfl) dX0_profilesOf_5 (Nat.zero_le _) (Nat.zero_le _) (fun r hr => ?_)
  subst hr
  refine lv_istore_n (lv' := [(2, .int (nI (S 7 ch))), (0, .ref (q 0)), (1, .int (nI ch))]) G.1 G.2.1 dX0_profilesOf_8 rfl hl (by decide) rfl (fun ls hl => ?_)
  refine lv_iconst (v := nI 0) G.1 G.2.1 dX0_profilesOf_9 (by decide) ?_
  refine lv_istore_n (lv' := [(3, .int (nI 0)), (2, .int (nI (S 7 ch))), (0, .ref (q 0)), (1, .int (nI ch))]) G.1 G.2.1 dX0_profilesOf_10 rfl hl (by decide) rfl (fun ls hl => ?_)
  refine lv_iconst (v := nI 0) G.1 G.2.1 dX0_profilesOf_11 (by decide) ?_
  refine lv_istore (lv' := [(4, .int (nI 0)), (3, .int (nI 0)), (2, .int (nI (S 7 ch))), (0, .ref (q 0)), (1, .int (nI ch))]) G.1 G.2.1 dX0_profilesOf_12 hl (by decide) rfl (fun ls hl => ?_)
  have loop1 : ∀ (d1 x1 : Nat), x1 + d1 = S 7 ch → ∀ ls : Array Slot, lv_has ls 5 [(0, .ref (q 0)), (1, .int (nI ch)), (2, .int (nI (S 7 ch))), (3, .int (nI (sp_ofTo S ch x1))), (4, .int (nI x1))] → W p l e { frames := 1, cells := 0, slots := 0, locals := 21 } s m ([.ref (q 0), .int (nI ch)] : List Value).toArray below meth c s.heap [] 0 0 (MQ below (vp_Si (fun r => r = nI (sp_of S ch))) ([.ref (q 0), .int (nI ch)] : List Value).toArray s 0 0 (fun _ => False)) (F0 m 14 ls []) := by
    intro d1
    induction d1 with
    | zero =>
      intro x1 hd1 ls hl
      refine lv_iload G.1 G.2.1 dX0_profilesOf_14 (lv_at hl 4 rfl) ?_
      refine lv_iload_n G.1 G.2.1 dX0_profilesOf_16 rfl (lv_at hl 2 rfl) ?_
      refine gn_ge G (by first | omega | exact Nat.lt_trans (ok6 _) (by decide)) (by first | omega | exact Nat.lt_trans (ok6 _) (by decide)) (tgt := 45) dX0_profilesOf_17 (by decide) (fun h_17 => ?_) (fun h_17 => absurd h_17 (by omega))
      refine lv_iload_n G.1 G.2.1 dX0_profilesOf_45 rfl (lv_at hl 3 rfl) ?_
      exact W.iret G.1 G.2.1 G.2.2.1 (fun t ht hW => ⟨_, rfl, by show nI _ = nI _; unfold sp_of; rw [show x1 = S 7 ch from by omega], ht⟩) (fun q h => nomatch h) dX0_profilesOf_46 G.2.2.2.2.2.2
    | succ d1 ih1 =>
      intro x1 hd1 ls hl
      refine lv_iload G.1 G.2.1 dX0_profilesOf_14 (lv_at hl 4 rfl) ?_
      refine lv_iload_n G.1 G.2.1 dX0_profilesOf_16 rfl (lv_at hl 2 rfl) ?_
      refine gn_ge G (by first | omega | exact Nat.lt_trans (ok6 _) (by decide)) (by first | omega | exact Nat.lt_trans (ok6 _) (by decide)) (tgt := 45) dX0_profilesOf_17 (by decide) (fun h_17 => absurd h_17 (by omega)) (fun h_17 => ?_)
      refine lv_iload_n G.1 G.2.1 dX0_profilesOf_20 rfl (lv_at hl 3 rfl) ?_
      refine lv_iconst (v := nI 1) G.1 G.2.1 dX0_profilesOf_21 (by decide) ?_
      refine lv_aload_n G.1 G.2.1 dX0_profilesOf_22 rfl (lv_at hl 0 rfl) ?_
      refine gx_get G hX (by decide +kernel) 6 (by decide) (by decide +kernel) rfl rfl rfl dX0_profilesOf_23 ?_
      refine lv_iload_n G.1 G.2.1 dX0_profilesOf_26 rfl (lv_at hl 1 rfl) ?_
      refine lv_bipush (v := nI 6) G.1 G.2.1 dX0_profilesOf_27 (by decide) ?_
      refine gn_imul G dX0_profilesOf_29 ?_
      refine lv_iload G.1 G.2.1 dX0_profilesOf_30 (lv_at hl 4 rfl) ?_
      refine gn_iadd G dX0_profilesOf_32 ?_
      refine gc_s (As := [.ref (q 6), .int (nI ((ch * 6) + x1))]) (rest := [.int (nI 1), .int (nI (sp_ofTo S ch x1))]) G.fix (mX0_read l D (q 6) cI 36 (S 6) ((ch * 6) + x1) (by first | omega | assumption | exact ok6 _ | apply hq)) (va_cwS 2 G.2.2.2.2.2.1 gX0_profilesOf_X0_read rfl rfl rfl (by decide +kernel) ⟨Nat.le_of_ble_eq_true rfl, Nat.le_of_ble_eq_true rfl⟩) rAt_blind (fun U hU hW => by rw [hU]; exact (hX.row 5 rfl).moved hW) rfl hl.1 rfl (Nat.le_of_ble_eq_true rfl) dX0_profilesOf_33 (Nat.zero_le _) (Nat.zero_le _) (fun r hr => ?_)
      subst hr
      refine gn_ishl G dX0_profilesOf_36 (by first | omega | exact Nat.lt_trans (ok6 _) (by decide)) ?_
      refine gn_ior G dX0_profilesOf_37 ?_
      refine lv_istore_n (lv' := [(3, .int (nI ((sp_ofTo S ch x1) ||| (2 ^ (S 6 ((ch * 6) + x1)))))), (0, .ref (q 0)), (1, .int (nI ch)), (2, .int (nI (S 7 ch))), (4, .int (nI x1))]) G.1 G.2.1 dX0_profilesOf_38 rfl hl (by decide) rfl (fun ls hl => ?_)
      refine gn_iinc (lv' := [(4, .int (nI (x1 + 1))), (3, .int (nI ((sp_ofTo S ch x1) ||| (2 ^ (S 6 ((ch * 6) + x1)))))), (0, .ref (q 0)), (1, .int (nI ch)), (2, .int (nI (S 7 ch)))]) (n := 1) G dX0_profilesOf_39 hl (k := 4) rfl (by decide) rfl (fun ls hl => ?_)
      refine lv_goto (tgt := 14) G.1 G.2.1 dX0_profilesOf_42 (by decide) ?_
      exact ih1 (x1 + 1) (by omega) _ (lv_sub hl [2, 3, 4, 1, 0] rfl)
  exact loop1 (S 7 ch) 0 (by omega) _ (lv_sub hl [3, 4, 2, 1, 0] rfl)
set_option maxRecDepth 100000 in
set_option maxHeartbeats 4000000 in
/-- the profiles that are held, as a set -/
theorem mX0_held (l : Launch) (D : va_G) (q : Nat → Nat) (cI : ClassId) (N : Nat → Nat) (S : Nat → Nat → Nat) (tr : Nat → Nat) (A : Nat → Prop) (hok : sp_ok N S) (hN : N 10 < 64) : Met l yX0_held wsX0_held { frames := 2, cells := 0, slots := 0, locals := 45 } (va_Pc [.ref (q 0)] (fun U => xAt D q cI N S tr A U U.heap)) (vp_Si (fun r => r = nI (sp_held N S))) 0 0 (fun _ => False) := by
  refine gc_met [.ref (q 0)] (by decide) rfl (Nat.le_of_ble_eq_true rfl) rfl ?_
  intro p e s m below meth c ls G hl hX
  have hok9 := hok
  obtain ⟨⟨ok0, ok5⟩, ok1, ok2, ok3, ok4, ok6, ok7, ok8, ok12, ok13, ok14⟩ := hok9
  refine lv_iconst (v := nI 0) G.1 G.2.1 dX0_held_0 (by decide) ?_
  refine lv_istore_n (lv' := [(1, .int (nI 0)), (0, .ref (q 0))]) G.1 G.2.1 dX0_held_1 rfl hl (by decide) rfl (fun ls hl => ?_)
  refine lv_iconst (v := nI 0) G.1 G.2.1 dX0_held_2 (by decide) ?_
  refine lv_istore_n (lv' := [(2, .int (nI 0)), (1, .int (nI 0)), (0, .ref (q 0))]) G.1 G.2.1 dX0_held_3 rfl hl (by decide) rfl (fun ls hl => ?_)
  have loop1 : ∀ (d1 x1 : Nat), x1 + d1 = 6 → ∀ ls : Array Slot, lv_has ls 3 [(0, .ref (q 0)), (1, .int (nI (sp_heldTo N S x1))), (2, .int (nI x1))] → W p l e { frames := 2, cells := 0, slots := 0, locals := 45 } s m ([.ref (q 0)] : List Value).toArray below meth c s.heap [] 0 0 (MQ below (vp_Si (fun r => r = nI (sp_held N S))) ([.ref (q 0)] : List Value).toArray s 0 0 (fun _ => False)) (F0 m 4 ls []) := by
    intro d1
    induction d1 with
    | zero =>
      intro x1 hd1 ls hl
      refine lv_iload_n G.1 G.2.1 dX0_held_4 rfl (lv_at hl 2 rfl) ?_
      refine lv_bipush (v := nI 6) G.1 G.2.1 dX0_held_5 (by decide) ?_
      refine gn_ge G (by omega) (by omega) (tgt := 35) dX0_held_7 (by decide) (fun h_7 => ?_) (fun h_7 => absurd h_7 (by omega))
      refine lv_iload_n G.1 G.2.1 dX0_held_35 rfl (lv_at hl 1 rfl) ?_
      exact W.iret G.1 G.2.1 G.2.2.1 (fun t ht hW => ⟨_, rfl, by show nI _ = nI _; unfold sp_held; rw [show x1 = 6 from by omega], ht⟩) (fun q h => nomatch h) dX0_held_36 G.2.2.2.2.2.2
    | succ d1 ih1 =>
      intro x1 hd1 ls hl
      refine lv_iload_n G.1 G.2.1 dX0_held_4 rfl (lv_at hl 2 rfl) ?_
      refine lv_bipush (v := nI 6) G.1 G.2.1 dX0_held_5 (by decide) ?_
      refine gn_ge G (by omega) (by omega) (tgt := 35) dX0_held_7 (by decide) (fun h_7 => absurd h_7 (by omega)) (fun h_7 => ?_)
      refine lv_aload_n G.1 G.2.1 dX0_held_10 rfl (lv_at hl 0 rfl) ?_
      refine gx_get G hX (by decide +kernel) 10 (by decide) (by decide +kernel) rfl rfl rfl dX0_held_11 ?_
      refine lv_iload_n G.1 G.2.1 dX0_held_14 rfl (lv_at hl 2 rfl) ?_
      refine gc_s (As := [.int (nI (N 10)), .int (nI x1)]) (rest := []) G.fix (mX0_hasBit l (N 10) x1 (by first | omega | assumption | exact ok6 _ | apply hq) (by omega)) (va_cwS 2 G.2.2.2.2.2.1 gX0_held_X0_hasBit rfl rfl rfl (by decide +kernel) ⟨Nat.le_of_ble_eq_true rfl, Nat.le_of_ble_eq_true rfl⟩) gc_blindT (fun _ _ _ => trivial) rfl hl.1 rfl (Nat.le_of_ble_eq_true rfl) dX0_held_15 (Nat.zero_le _) (Nat.zero_le _) (fun r hr => ?_)
      subst hr
      refine gn_eqz G (by exact sp_b31 _ _) (tgt := 29) dX0_held_18 (by decide) (fun h_18 => ?_) (fun h_18 => ?_)
      · refine gn_iinc (lv' := [(2, .int (nI (x1 + 1))), (0, .ref (q 0)), (1, .int (nI (sp_heldTo N S x1)))]) (n := 1) G dX0_held_29 hl (k := 2) rfl (by decide) rfl (fun ls hl => ?_)
        refine lv_goto (tgt := 4) G.1 G.2.1 dX0_held_32 (by decide) ?_
        exact ih1 (x1 + 1) (by omega) _ (by have hb9 := sp_bit_lt (N 10) x1; have e9 : sp_heldTo N S (x1 + 1) = sp_heldTo N S x1 := (by first | exact sp_held_y (by omega) | exact sp_held_n (by omega)); rw [e9]; exact lv_sub hl [1, 2, 0] rfl)
      · refine lv_iload_n G.1 G.2.1 dX0_held_21 rfl (lv_at hl 1 rfl) ?_
        refine lv_aload_n G.1 G.2.1 dX0_held_22 rfl (lv_at hl 0 rfl) ?_
        refine lv_iload_n G.1 G.2.1 dX0_held_23 rfl (lv_at hl 2 rfl) ?_
        refine gc_v (As := [.int (nI x1)]) (rest := [.int (nI (sp_heldTo N S x1))]) G.fix (mX0_profilesOf l D q cI N S tr A x1 hok (by first | omega | assumption | exact ok6 _ | apply hq)) (cwV 1 G.2.2.2.2.2.1 gX0_held_X0_profilesOf rfl rfl rfl (by decide +kernel) ⟨Nat.le_of_ble_eq_true rfl, Nat.le_of_ble_eq_true rfl⟩) xAt_blind (va_recv hX.2.1 hX.1 (ci := 0) (q0 := 0) rfl rfl) (fun U hU hW => by rw [hU]; exact hX.moved hW) rfl hl.1 rfl (Nat.le_of_ble_eq_true rfl) dX0_held_24 (Nat.zero_le _) (Nat.zero_le _) (fun r hr => ?_)
        subst hr
        refine gn_ior G dX0_held_27 ?_
        refine lv_istore_n (lv' := [(1, .int (nI ((sp_heldTo N S x1) ||| (sp_of S x1)))), (0, .ref (q 0)), (2, .int (nI x1))]) G.1 G.2.1 dX0_held_28 rfl hl (by decide) rfl (fun ls hl => ?_)
        refine gn_iinc (lv' := [(2, .int (nI (x1 + 1))), (1, .int (nI ((sp_heldTo N S x1) ||| (sp_of S x1)))), (0, .ref (q 0))]) (n := 1) G dX0_held_29 hl (k := 2) rfl (by decide) rfl (fun ls hl => ?_)
        refine lv_goto (tgt := 4) G.1 G.2.1 dX0_held_32 (by decide) ?_
        exact ih1 (x1 + 1) (by omega) _ (by have hb9 := sp_bit_lt (N 10) x1; have e9 : sp_heldTo N S (x1 + 1) = (sp_heldTo N S x1) ||| (sp_of S x1) := (by first | exact sp_held_y (by omega) | exact sp_held_n (by omega)); rw [e9]; exact lv_sub hl [2, 1, 0] rfl)
  exact loop1 6 0 (by omega) _ (lv_sub hl [2, 1, 0] rfl)
set_option maxRecDepth 100000 in
set_option maxHeartbeats 4000000 in
/-- a band of a pixel with inks -/
theorem mX0_inked (l : Launch) (D : va_G) (q : Nat → Nat) (cI : ClassId) (N : Nat → Nat) (S : Nat → Nat → Nat) (tr : Nat → Nat) (A : Nat → Prop) (px bd ks : Nat) (hok : sp_ok N S) (hpx : px < 6) (hbd : bd < 3) (hks : ks ≤ 7) : Met l yX0_inked wsX0_inked { frames := 1, cells := 0, slots := 0, locals := 21 } (va_Pc [.ref (q 0), .int (nI px), .int (nI bd), .int (nI ks)] (fun U => xAt D q cI N S tr A U U.heap)) (vp_Si (fun r => r = nI (sp_ink S px bd ks))) 0 0 (fun _ => False) := by
  refine gc_met [.ref (q 0), .int (nI px), .int (nI bd), .int (nI ks)] (by decide) rfl (Nat.le_of_ble_eq_true rfl) rfl ?_
  intro p e s m below meth c ls G hl hX
  have hok9 := hok
  obtain ⟨⟨ok0, ok5⟩, ok1, ok2, ok3, ok4, ok6, ok7, ok8, ok12, ok13, ok14⟩ := hok9
  have hm := fun i j => Nat.mul_le_mul (ok14 i) (ok13 j)
  have hi := fun k => sp_inkTo_le (px := px) (bd := bd) (ks := ks) hok k
  refine lv_aload_n G.1 G.2.1 dX0_inked_0 rfl (lv_at hl 0 rfl) ?_
  refine gx_get G hX (by decide +kernel) 12 (by decide) (by decide +kernel) rfl rfl rfl dX0_inked_1 ?_
  refine lv_iload_n G.1 G.2.1 dX0_inked_4 rfl (lv_at hl 1 rfl) ?_
  refine lv_iconst (v := nI 3) G.1 G.2.1 dX0_inked_5 (by decide) ?_
  refine gn_imul G dX0_inked_6 ?_
  refine lv_iload_n G.1 G.2.1 dX0_inked_7 rfl (lv_at hl 2 rfl) ?_
  refine gn_iadd G dX0_inked_8 ?_
  refine gc_s (As := [.ref (q 12), .int (nI ((px * 3) + bd))]) (rest := []) G.fix (mX0_read l D (q 12) cI 18 (S 12) ((px * 3) + bd) (by first | omega | assumption | exact ok6 _ | apply hq)) (va_cwS 2 G.2.2.2.2.2.1 gX0_inked_X0_read rfl rfl rfl (by decide +kernel) ⟨Nat.le_of_ble_eq_true rfl, Nat.le_of_ble_eq_true rfl⟩) rAt_blind (fun U hU hW => by rw [hU]; exact (hX.row 9 rfl).moved hW) rfl hl.1 rfl (Nat.le_of_ble_eq_true rfl) dX0_inked_9 (Nat.zero_le _) (Nat.zero_le _) (fun r hr => ?_)
  subst hr
  refine lv_istore (lv' := [(4, .int (nI (S 12 ((px * 3) + bd)))), (0, .ref (q 0)), (1, .int (nI px)), (2, .int (nI bd)), (3, .int (nI ks))]) G.1 G.2.1 dX0_inked_12 hl (by decide) rfl (fun ls hl => ?_)
  refine lv_iconst (v := nI 0) G.1 G.2.1 dX0_inked_14 (by decide) ?_
  refine lv_istore (lv' := [(5, .int (nI 0)), (4, .int (nI (S 12 ((px * 3) + bd)))), (0, .ref (q 0)), (1, .int (nI px)), (2, .int (nI bd)), (3, .int (nI ks))]) G.1 G.2.1 dX0_inked_15 hl (by decide) rfl (fun ls hl => ?_)
  have loop1 : ∀ (d1 x1 : Nat), x1 + d1 = 3 → ∀ ls : Array Slot, lv_has ls 7 [(0, .ref (q 0)), (1, .int (nI px)), (2, .int (nI bd)), (3, .int (nI ks)), (4, .int (nI (sp_inkTo S px bd ks x1))), (5, .int (nI x1))] → W p l e { frames := 1, cells := 0, slots := 0, locals := 21 } s m ([.ref (q 0), .int (nI px), .int (nI bd), .int (nI ks)] : List Value).toArray below meth c s.heap [] 0 0 (MQ below (vp_Si (fun r => r = nI (sp_ink S px bd ks))) ([.ref (q 0), .int (nI px), .int (nI bd), .int (nI ks)] : List Value).toArray s 0 0 (fun _ => False)) (F0 m 17 ls []) := by
    intro d1
    induction d1 with
    | zero =>
      intro x1 hd1 ls hl
      refine lv_iload G.1 G.2.1 dX0_inked_17 (lv_at hl 5 rfl) ?_
      refine lv_iconst (v := nI 3) G.1 G.2.1 dX0_inked_19 (by decide) ?_
      refine gn_ge G (by first | omega | exact sp_b31 _ _ | exact Nat.lt_of_le_of_lt (hm _ _) (by decide) | (have h91 := hm (x1 * 3 + bd) (px * 3 + x1); have h92 := hi x1; have h93 := Nat.div_le_self (S 14 (x1 * 3 + bd) * S 13 (px * 3 + x1)) 255; omega)) (by first | omega | exact sp_b31 _ _ | exact Nat.lt_of_le_of_lt (hm _ _) (by decide) | (have h91 := hm (x1 * 3 + bd) (px * 3 + x1); have h92 := hi x1; have h93 := Nat.div_le_self (S 14 (x1 * 3 + bd) * S 13 (px * 3 + x1)) 255; omega)) (tgt := 84) dX0_inked_20 (by decide) (fun h_20 => ?_) (fun h_20 => absurd h_20 (by omega))
      refine lv_iload G.1 G.2.1 dX0_inked_84 (lv_at hl 4 rfl) ?_
      exact W.iret G.1 G.2.1 G.2.2.1 (fun t ht hW => ⟨_, rfl, by show nI _ = nI _; unfold sp_ink; rw [show x1 = 3 from by omega], ht⟩) (fun q h => nomatch h) dX0_inked_86 G.2.2.2.2.2.2
    | succ d1 ih1 =>
      intro x1 hd1 ls hl
      refine lv_iload G.1 G.2.1 dX0_inked_17 (lv_at hl 5 rfl) ?_
      refine lv_iconst (v := nI 3) G.1 G.2.1 dX0_inked_19 (by decide) ?_
      refine gn_ge G (by first | omega | exact sp_b31 _ _ | exact Nat.lt_of_le_of_lt (hm _ _) (by decide) | (have h91 := hm (x1 * 3 + bd) (px * 3 + x1); have h92 := hi x1; have h93 := Nat.div_le_self (S 14 (x1 * 3 + bd) * S 13 (px * 3 + x1)) 255; omega)) (by first | omega | exact sp_b31 _ _ | exact Nat.lt_of_le_of_lt (hm _ _) (by decide) | (have h91 := hm (x1 * 3 + bd) (px * 3 + x1); have h92 := hi x1; have h93 := Nat.div_le_self (S 14 (x1 * 3 + bd) * S 13 (px * 3 + x1)) 255; omega)) (tgt := 84) dX0_inked_20 (by decide) (fun h_20 => absurd h_20 (by omega)) (fun h_20 => ?_)
      refine lv_iload_n G.1 G.2.1 dX0_inked_23 rfl (lv_at hl 3 rfl) ?_
      refine lv_iload G.1 G.2.1 dX0_inked_24 (lv_at hl 5 rfl) ?_
      refine gc_s (As := [.int (nI ks), .int (nI x1)]) (rest := []) G.fix (mX0_hasBit l ks x1 (by first | omega | assumption | exact ok6 _ | apply hq) (by omega)) (va_cwS 2 G.2.2.2.2.2.1 gX0_inked_X0_hasBit rfl rfl rfl (by decide +kernel) ⟨Nat.le_of_ble_eq_true rfl, Nat.le_of_ble_eq_true rfl⟩) gc_blindT (fun _ _ _ => trivial) rfl hl.1 rfl (Nat.le_of_ble_eq_true rfl) dX0_inked_26 (Nat.zero_le _) (Nat.zero_le _) (fun r hr => ?_)
      subst hr
      refine gn_nez G (by first | omega | exact sp_b31 _ _ | exact Nat.lt_of_le_of_lt (hm _ _) (by decide) | (have h91 := hm (x1 * 3 + bd) (px * 3 + x1); have h92 := hi x1; have h93 := Nat.div_le_self (S 14 (x1 * 3 + bd) * S 13 (px * 3 + x1)) 255; omega)) (tgt := 78) dX0_inked_29 (by decide) (fun h_29 => ?_) (fun h_29 => ?_)
      · refine gn_iinc (lv' := [(5, .int (nI (x1 + 1))), (0, .ref (q 0)), (1, .int (nI px)), (2, .int (nI bd)), (3, .int (nI ks)), (4, .int (nI (sp_inkTo S px bd ks x1)))]) (n := 1) G dX0_inked_78 hl (k := 5) rfl (by decide) rfl (fun ls hl => ?_)
        refine lv_goto (tgt := 17) G.1 G.2.1 dX0_inked_81 (by decide) ?_
        exact ih1 (x1 + 1) (by omega) _ (by have hb9 := sp_bit_lt ks x1; have e9 : sp_inkTo S px bd ks (x1 + 1) = sp_inkTo S px bd ks x1 := (by first | exact sp_ink_y (by omega) | exact sp_ink_n (by omega)); rw [e9]; exact lv_sub hl [1, 2, 3, 4, 5, 0] rfl)
      · refine lv_aload_n G.1 G.2.1 dX0_inked_32 rfl (lv_at hl 0 rfl) ?_
        refine gx_get G hX (by decide +kernel) 14 (by decide) (by decide +kernel) rfl rfl rfl dX0_inked_33 ?_
        refine lv_iload G.1 G.2.1 dX0_inked_36 (lv_at hl 5 rfl) ?_
        refine lv_iconst (v := nI 3) G.1 G.2.1 dX0_inked_38 (by decide) ?_
        refine gn_imul G dX0_inked_39 ?_
        refine lv_iload_n G.1 G.2.1 dX0_inked_40 rfl (lv_at hl 2 rfl) ?_
        refine gn_iadd G dX0_inked_41 ?_
        refine gc_s (As := [.ref (q 14), .int (nI ((x1 * 3) + bd))]) (rest := []) G.fix (mX0_read l D (q 14) cI 9 (S 14) ((x1 * 3) + bd) (by first | omega | assumption | exact ok6 _ | apply hq)) (va_cwS 2 G.2.2.2.2.2.1 gX0_inked_X0_read rfl rfl rfl (by decide +kernel) ⟨Nat.le_of_ble_eq_true rfl, Nat.le_of_ble_eq_true rfl⟩) rAt_blind (fun U hU hW => by rw [hU]; exact (hX.row 11 rfl).moved hW) rfl hl.1 rfl (Nat.le_of_ble_eq_true rfl) dX0_inked_42 (Nat.zero_le _) (Nat.zero_le _) (fun r hr => ?_)
        subst hr
        refine lv_aload_n G.1 G.2.1 dX0_inked_45 rfl (lv_at hl 0 rfl) ?_
        refine gx_get G hX (by decide +kernel) 13 (by decide) (by decide +kernel) rfl rfl rfl dX0_inked_46 ?_
        refine lv_iload_n G.1 G.2.1 dX0_inked_49 rfl (lv_at hl 1 rfl) ?_
        refine lv_iconst (v := nI 3) G.1 G.2.1 dX0_inked_50 (by decide) ?_
        refine gn_imul G dX0_inked_51 ?_
        refine lv_iload G.1 G.2.1 dX0_inked_52 (lv_at hl 5 rfl) ?_
        refine gn_iadd G dX0_inked_54 ?_
        refine gc_s (As := [.ref (q 13), .int (nI ((px * 3) + x1))]) (rest := [.int (nI (S 14 ((x1 * 3) + bd)))]) G.fix (mX0_read l D (q 13) cI 18 (S 13) ((px * 3) + x1) (by first | omega | assumption | exact ok6 _ | apply hq)) (va_cwS 2 G.2.2.2.2.2.1 gX0_inked_X0_read rfl rfl rfl (by decide +kernel) ⟨Nat.le_of_ble_eq_true rfl, Nat.le_of_ble_eq_true rfl⟩) rAt_blind (fun U hU hW => by rw [hU]; exact (hX.row 10 rfl).moved hW) rfl hl.1 rfl (Nat.le_of_ble_eq_true rfl) dX0_inked_55 (Nat.zero_le _) (Nat.zero_le _) (fun r hr => ?_)
        subst hr
        refine gn_imul G dX0_inked_58 ?_
        refine lv_sipush (v := nI 255) G.1 G.2.1 dX0_inked_59 (by decide) ?_
        refine gn_idiv G dX0_inked_62 (by first | omega | exact sp_b31 _ _ | exact Nat.lt_of_le_of_lt (hm _ _) (by decide) | (have h91 := hm (x1 * 3 + bd) (px * 3 + x1); have h92 := hi x1; have h93 := Nat.div_le_self (S 14 (x1 * 3 + bd) * S 13 (px * 3 + x1)) 255; omega)) (by decide) (by decide) ?_
        refine lv_istore (lv' := [(6, .int (nI (((S 14 ((x1 * 3) + bd)) * (S 13 ((px * 3) + x1))) / 255))), (0, .ref (q 0)), (1, .int (nI px)), (2, .int (nI bd)), (3, .int (nI ks)), (4, .int (nI (sp_inkTo S px bd ks x1))), (5, .int (nI x1))]) G.1 G.2.1 dX0_inked_63 hl (by decide) rfl (fun ls hl => ?_)
        refine lv_sipush (v := nI 255) G.1 G.2.1 dX0_inked_65 (by decide) ?_
        refine lv_iload G.1 G.2.1 dX0_inked_68 (lv_at hl 5 rfl) ?_
        refine lv_iload G.1 G.2.1 dX0_inked_70 (lv_at hl 0 rfl) ?_
        refine gn_iadd G dX0_inked_72 ?_
        refine gr_min G hl.1 (ix := 119) (by decide +kernel) (by decide +kernel) (by decide +kernel) (by decide +kernel) (Nat.le_of_ble_eq_true rfl) (Nat.le_of_ble_eq_true rfl) (Nat.zero_le _) (Nat.zero_le _) (by first | omega | exact sp_b31 _ _ | exact Nat.lt_of_le_of_lt (hm _ _) (by decide) | (have h91 := hm (x1 * 3 + bd) (px * 3 + x1); have h92 := hi x1; have h93 := Nat.div_le_self (S 14 (x1 * 3 + bd) * S 13 (px * 3 + x1)) 255; omega)) (by first | omega | exact sp_b31 _ _ | exact Nat.lt_of_le_of_lt (hm _ _) (by decide) | (have h91 := hm (x1 * 3 + bd) (px * 3 + x1); have h92 := hi x1; have h93 := Nat.div_le_self (S 14 (x1 * 3 + bd) * S 13 (px * 3 + x1)) 255; omega)) dX0_inked_73 ?_
        refine lv_istore (lv' := [(4, .int (nI (min 255 ((sp_inkTo S px bd ks x1) + (((S 14 ((x1 * 3) + bd)) * (S 13 ((px * 3) + x1))) / 255))))), (6, .int (nI (((S 14 ((x1 * 3) + bd)) * (S 13 ((px * 3) + x1))) / 255))), (0, .ref (q 0)), (1, .int (nI px)), (2, .int (nI bd)), (3, .int (nI ks)), (5, .int (nI x1))]) G.1 G.2.1 dX0_inked_76 hl (by decide) rfl (fun ls hl => ?_)
        refine gn_iinc (lv' := [(5, .int (nI (x1 + 1))), (4, .int (nI (min 255 ((sp_inkTo S px bd ks x1) + (((S 14 ((x1 * 3) + bd)) * (S 13 ((px * 3) + x1))) / 255))))), (6, .int (nI (((S 14 ((x1 * 3) + bd)) * (S 13 ((px * 3) + x1))) / 255))), (0, .ref (q 0)), (1, .int (nI px)), (2, .int (nI bd)), (3, .int (nI ks))]) (n := 1) G dX0_inked_78 hl (k := 6) rfl (by decide) rfl (fun ls hl => ?_)
        refine lv_goto (tgt := 17) G.1 G.2.1 dX0_inked_81 (by decide) ?_
        exact ih1 (x1 + 1) (by omega) _ (by have hb9 := sp_bit_lt ks x1; have e9 : sp_inkTo S px bd ks (x1 + 1) = min 255 ((sp_inkTo S px bd ks x1) + (((S 14 ((x1 * 3) + bd)) * (S 13 ((px * 3) + x1))) / 255)) := (by first | exact sp_ink_y (by omega) | exact sp_ink_n (by omega)); rw [e9]; exact lv_sub hl [3, 4, 5, 6, 1, 0] rfl)
  exact loop1 3 0 (by omega) _ (lv_sub hl [2, 3, 4, 5, 1, 0] rfl)
set_option maxRecDepth 100000 in
set_option maxHeartbeats 4000000 in
/-- whether a chain differs from what is kept -/
theorem mX0_differsFromKept (l : Launch) (D : va_G) (q : Nat → Nat) (cI : ClassId) (N : Nat → Nat) (S : Nat → Nat → Nat) (tr : Nat → Nat) (A : Nat → Prop) (ch : Nat) (hok : sp_ok N S) (hch : ch < 6) : Met l yX0_differsFromKept wsX0_differsFromKept { frames := 5, cells := 0, slots := 0, locals := 124 } (va_Pc [.ref (q 0), .int (nI ch)] (fun U => xAt D q cI N S tr A U U.heap)) (vp_Si (fun r => r = nI (sp_dif S ch))) 0 0 (fun _ => False) := by
  refine gc_met [.ref (q 0), .int (nI ch)] (by decide) rfl (Nat.le_of_ble_eq_true rfl) rfl ?_
  intro p e s m below meth c ls G hl hX
  have hok9 := hok
  obtain ⟨⟨ok0, ok5⟩, ok1, ok2, ok3, ok4, ok6, ok7, ok8, ok12, ok13, ok14⟩ := hok9
  have hq := fun k => @sp_vop_le k
  refine lv_iconst (v := nI 0) G.1 G.2.1 dX0_differsFromKept_0 (by decide) ?_
  refine lv_istore_n (lv' := [(2, .int (nI 0)), (0, .ref (q 0)), (1, .int (nI ch))]) G.1 G.2.1 dX0_differsFromKept_1 rfl hl (by decide) rfl (fun ls hl => ?_)
  have loop1 : ∀ (d1 x1 : Nat), x1 + d1 = 3 → sp_difTo S ch (x1 * 5) = 0 → ∀ ls : Array Slot, lv_has ls 5 [(0, .ref (q 0)), (1, .int (nI ch)), (2, .int (nI x1))] → W p l e { frames := 5, cells := 0, slots := 0, locals := 124 } s m ([.ref (q 0), .int (nI ch)] : List Value).toArray below meth c s.heap [] 0 0 (MQ below (vp_Si (fun r => r = nI (sp_dif S ch))) ([.ref (q 0), .int (nI ch)] : List Value).toArray s 0 0 (fun _ => False)) (F0 m 2 ls []) := by
    intro d1
    induction d1 with
    | zero =>
      intro x1 hd1 hv1 ls hl
      refine lv_iload_n G.1 G.2.1 dX0_differsFromKept_2 rfl (lv_at hl 2 rfl) ?_
      refine lv_iconst (v := nI 3) G.1 G.2.1 dX0_differsFromKept_3 (by decide) ?_
      refine gn_ge G (by first | omega | exact Nat.lt_of_le_of_lt (sp_pass_le hok sp_vop_le) (by decide) | exact Nat.lt_of_le_of_lt (ok8 _) (by decide)) (by first | omega | exact Nat.lt_of_le_of_lt (sp_pass_le hok sp_vop_le) (by decide) | exact Nat.lt_of_le_of_lt (ok8 _) (by decide)) (tgt := 61) dX0_differsFromKept_4 (by decide) (fun h_4 => ?_) (fun h_4 => absurd h_4 (by omega))
      refine lv_iconst (v := nI 0) G.1 G.2.1 dX0_differsFromKept_61 (by decide) ?_
      exact W.zret G.1 G.2.1 G.2.2.1 rfl (fun t ht hW => ⟨_, rfl, by show nI _ = nI _; unfold sp_dif; rw [show 15 = x1 * 5 from by omega, hv1], ht⟩) (fun q h => nomatch h) dX0_differsFromKept_62 G.2.2.2.2.2.2
    | succ d1 ih1 =>
      intro x1 hd1 hv1 ls hl
      refine lv_iload_n G.1 G.2.1 dX0_differsFromKept_2 rfl (lv_at hl 2 rfl) ?_
      refine lv_iconst (v := nI 3) G.1 G.2.1 dX0_differsFromKept_3 (by decide) ?_
      refine gn_ge G (by first | omega | exact Nat.lt_of_le_of_lt (sp_pass_le hok sp_vop_le) (by decide) | exact Nat.lt_of_le_of_lt (ok8 _) (by decide)) (by first | omega | exact Nat.lt_of_le_of_lt (sp_pass_le hok sp_vop_le) (by decide) | exact Nat.lt_of_le_of_lt (ok8 _) (by decide)) (tgt := 61) dX0_differsFromKept_4 (by decide) (fun h_4 => absurd h_4 (by omega)) (fun h_4 => ?_)
      refine lv_iconst (v := nI 0) G.1 G.2.1 dX0_differsFromKept_7 (by decide) ?_
      refine lv_istore_n (lv' := [(3, .int (nI 0)), (0, .ref (q 0)), (1, .int (nI ch)), (2, .int (nI x1))]) G.1 G.2.1 dX0_differsFromKept_8 rfl hl (by decide) rfl (fun ls hl => ?_)
      have loop2 : ∀ (d2 x2 : Nat), x2 + d2 = 5 → sp_difTo S ch (x1 * 5 + x2) = 0 → ∀ ls : Array Slot, lv_has ls 5 [(0, .ref (q 0)), (1, .int (nI ch)), (2, .int (nI x1)), (3, .int (nI x2))] → W p l e { frames := 5, cells := 0, slots := 0, locals := 124 } s m ([.ref (q 0), .int (nI ch)] : List Value).toArray below meth c s.heap [] 0 0 (MQ below (vp_Si (fun r => r = nI (sp_dif S ch))) ([.ref (q 0), .int (nI ch)] : List Value).toArray s 0 0 (fun _ => False)) (F0 m 9 ls []) := by
        intro d2
        induction d2 with
        | zero =>
          intro x2 hd2 hv2 ls hl
          refine lv_iload_n G.1 G.2.1 dX0_differsFromKept_9 rfl (lv_at hl 3 rfl) ?_
          refine lv_iconst (v := nI 5) G.1 G.2.1 dX0_differsFromKept_10 (by decide) ?_
          refine gn_ge G (by first | omega | exact Nat.lt_of_le_of_lt (sp_pass_le hok sp_vop_le) (by decide) | exact Nat.lt_of_le_of_lt (ok8 _) (by decide)) (by first | omega | exact Nat.lt_of_le_of_lt (sp_pass_le hok sp_vop_le) (by decide) | exact Nat.lt_of_le_of_lt (ok8 _) (by decide)) (tgt := 55) dX0_differsFromKept_11 (by decide) (fun h_11 => ?_) (fun h_11 => absurd h_11 (by omega))
          refine gn_iinc (lv' := [(2, .int (nI (x1 + 1))), (0, .ref (q 0)), (1, .int (nI ch)), (3, .int (nI x2))]) (n := 1) G dX0_differsFromKept_55 hl (k := 2) rfl (by decide) rfl (fun ls hl => ?_)
          refine lv_goto (tgt := 2) G.1 G.2.1 dX0_differsFromKept_58 (by decide) ?_
          exact ih1 (x1 + 1) (by omega) (by rw [show (x1 + 1) * 5 = x1 * 5 + x2 from by omega]; exact hv2) _ (lv_sub hl [1, 2, 0] rfl)
        | succ d2 ih2 =>
          intro x2 hd2 hv2 ls hl
          refine lv_iload_n G.1 G.2.1 dX0_differsFromKept_9 rfl (lv_at hl 3 rfl) ?_
          refine lv_iconst (v := nI 5) G.1 G.2.1 dX0_differsFromKept_10 (by decide) ?_
          refine gn_ge G (by first | omega | exact Nat.lt_of_le_of_lt (sp_pass_le hok sp_vop_le) (by decide) | exact Nat.lt_of_le_of_lt (ok8 _) (by decide)) (by first | omega | exact Nat.lt_of_le_of_lt (sp_pass_le hok sp_vop_le) (by decide) | exact Nat.lt_of_le_of_lt (ok8 _) (by decide)) (tgt := 55) dX0_differsFromKept_11 (by decide) (fun h_11 => absurd h_11 (by omega)) (fun h_11 => ?_)
          refine lv_aload_n G.1 G.2.1 dX0_differsFromKept_14 rfl (lv_at hl 0 rfl) ?_
          refine gx_get G hX (by decide +kernel) 8 (by decide) (by decide +kernel) rfl rfl rfl dX0_differsFromKept_15 ?_
          refine lv_iload_n G.1 G.2.1 dX0_differsFromKept_18 rfl (lv_at hl 1 rfl) ?_
          refine lv_iconst (v := nI 3) G.1 G.2.1 dX0_differsFromKept_19 (by decide) ?_
          refine gn_imul G dX0_differsFromKept_20 ?_
          refine lv_iload_n G.1 G.2.1 dX0_differsFromKept_21 rfl (lv_at hl 2 rfl) ?_
          refine gn_iadd G dX0_differsFromKept_22 ?_
          refine lv_iconst (v := nI 5) G.1 G.2.1 dX0_differsFromKept_23 (by decide) ?_
          refine gn_imul G dX0_differsFromKept_24 ?_
          refine lv_iload_n G.1 G.2.1 dX0_differsFromKept_25 rfl (lv_at hl 3 rfl) ?_
          refine gn_iadd G dX0_differsFromKept_26 ?_
          refine gc_s (As := [.ref (q 8), .int (nI ((((ch * 3) + x1) * 5) + x2))]) (rest := []) G.fix (mX0_read l D (q 8) cI 90 (S 8) ((((ch * 3) + x1) * 5) + x2) (by first | omega | assumption | exact ok6 _ | apply hq)) (va_cwS 2 G.2.2.2.2.2.1 gX0_differsFromKept_X0_read rfl rfl rfl (by decide +kernel) ⟨Nat.le_of_ble_eq_true rfl, Nat.le_of_ble_eq_true rfl⟩) rAt_blind (fun U hU hW => by rw [hU]; exact (hX.row 7 rfl).moved hW) rfl hl.1 rfl (Nat.le_of_ble_eq_true rfl) dX0_differsFromKept_27 (Nat.zero_le _) (Nat.zero_le _) (fun r hr => ?_)
          subst hr
          refine lv_istore (lv' := [(4, .int (nI (S 8 ((((ch * 3) + x1) * 5) + x2)))), (0, .ref (q 0)), (1, .int (nI ch)), (2, .int (nI x1)), (3, .int (nI x2))]) G.1 G.2.1 dX0_differsFromKept_30 hl (by decide) rfl (fun ls hl => ?_)
          refine lv_aload_n G.1 G.2.1 dX0_differsFromKept_32 rfl (lv_at hl 1 rfl) ?_
          refine lv_iload_n G.1 G.2.1 dX0_differsFromKept_33 rfl (lv_at hl 2 rfl) ?_
          refine lv_iload_n G.1 G.2.1 dX0_differsFromKept_34 rfl (lv_at hl 3 rfl) ?_
          refine lv_iload_n G.1 G.2.1 dX0_differsFromKept_35 rfl (lv_at hl 4 rfl) ?_
          refine gc_s (As := [.int (nI x2)]) (rest := [.int (nI x1), .int (nI ch), .ref (q 0)]) G.fix (mX0_valueOfPlace l x2 (by omega)) (va_cwS 1 G.2.2.2.2.2.1 gX0_differsFromKept_X0_valueOfPlace rfl rfl rfl (by decide +kernel) ⟨Nat.le_of_ble_eq_true rfl, Nat.le_of_ble_eq_true rfl⟩) gc_blindT (fun _ _ _ => trivial) rfl hl.1 rfl (Nat.le_of_ble_eq_true rfl) dX0_differsFromKept_36 (Nat.zero_le _) (Nat.zero_le _) (fun r hr => ?_)
          subst hr
          refine gc_v (As := [.int (nI ch), .int (nI x1), .int (nI (sp_vop x2))]) (rest := []) G.fix (mX0_pass l D q cI N S tr A ch x1 (sp_vop x2) hok (by first | omega | assumption | exact ok6 _ | apply hq) (by first | omega | assumption | exact ok6 _ | apply hq) (by first | omega | assumption | exact ok6 _ | apply hq)) (cwV 3 G.2.2.2.2.2.1 gX0_differsFromKept_X0_pass rfl rfl rfl (by decide +kernel) ⟨Nat.le_of_ble_eq_true rfl, Nat.le_of_ble_eq_true rfl⟩) xAt_blind (va_recv hX.2.1 hX.1 (ci := 0) (q0 := 0) rfl rfl) (fun U hU hW => by rw [hU]; exact hX.moved hW) rfl hl.1 rfl (Nat.le_of_ble_eq_true rfl) dX0_differsFromKept_39 (Nat.zero_le _) (Nat.zero_le _) (fun r hr => ?_)
          subst hr
          refine lv_iload G.1 G.2.1 dX0_differsFromKept_42 (lv_at hl 0 rfl) ?_
          refine gn_eq G (by first | omega | exact Nat.lt_of_le_of_lt (sp_pass_le hok sp_vop_le) (by decide) | exact Nat.lt_of_le_of_lt (ok8 _) (by decide)) (by first | omega | exact Nat.lt_of_le_of_lt (sp_pass_le hok sp_vop_le) (by decide) | exact Nat.lt_of_le_of_lt (ok8 _) (by decide)) (tgt := 49) dX0_differsFromKept_44 (by decide) (fun h_44 => ?_) (fun h_44 => ?_)
          · refine gn_iinc (lv' := [(3, .int (nI (x2 + 1))), (4, .int (nI (S 8 ((((ch * 3) + x1) * 5) + x2)))), (0, .ref (q 0)), (1, .int (nI ch)), (2, .int (nI x1))]) (n := 1) G dX0_differsFromKept_49 hl (k := 4) rfl (by decide) rfl (fun ls hl => ?_)
            refine lv_goto (tgt := 9) G.1 G.2.1 dX0_differsFromKept_52 (by decide) ?_
            exact ih2 (x2 + 1) (by omega) (sp_dif_e hv2 (by omega) h_44) _ (lv_sub hl [2, 3, 4, 0] rfl)
          · refine lv_iconst (v := nI 1) G.1 G.2.1 dX0_differsFromKept_47 (by decide) ?_
            exact W.zret G.1 G.2.1 G.2.2.1 rfl (fun t ht hW => ⟨_, rfl, by show nI _ = nI _; rw [sp_dif_d hv2 (by omega) (by omega) h_44], ht⟩) (fun q h => nomatch h) dX0_differsFromKept_48 G.2.2.2.2.2.2
      exact loop2 5 0 (by omega) (hv1) _ (lv_sub hl [1, 2, 3, 0] rfl)
  exact loop1 3 0 (by omega) (rfl) _ (lv_sub hl [1, 2, 0] rfl)
set_option maxRecDepth 100000 in
set_option maxHeartbeats 4000000 in
/-- the chains that are joined and stale -/
theorem mX0_stale (l : Launch) (D : va_G) (q : Nat → Nat) (cI : ClassId) (N : Nat → Nat) (S : Nat → Nat → Nat) (tr : Nat → Nat) (A : Nat → Prop) (hok : sp_ok N S) (hN : N 9 < 64) : Met l yX0_stale wsX0_stale { frames := 6, cells := 0, slots := 0, locals := 148 } (va_Pc [.ref (q 0)] (fun U => xAt D q cI N S tr A U U.heap)) (vp_Si (fun r => r = nI (sp_stale N S))) 0 0 (fun _ => False) := by
  refine gc_met [.ref (q 0)] (by decide) rfl (Nat.le_of_ble_eq_true rfl) rfl ?_
  intro p e s m below meth c ls G hl hX
  have hok9 := hok
  obtain ⟨⟨ok0, ok5⟩, ok1, ok2, ok3, ok4, ok6, ok7, ok8, ok12, ok13, ok14⟩ := hok9
  refine lv_iconst (v := nI 0) G.1 G.2.1 dX0_stale_0 (by decide) ?_
  refine lv_istore_n (lv' := [(1, .int (nI 0)), (0, .ref (q 0))]) G.1 G.2.1 dX0_stale_1 rfl hl (by decide) rfl (fun ls hl => ?_)
  refine lv_iconst (v := nI 0) G.1 G.2.1 dX0_stale_2 (by decide) ?_
  refine lv_istore_n (lv' := [(2, .int (nI 0)), (1, .int (nI 0)), (0, .ref (q 0))]) G.1 G.2.1 dX0_stale_3 rfl hl (by decide) rfl (fun ls hl => ?_)
  have loop1 : ∀ (d1 x1 : Nat), x1 + d1 = 6 → ∀ ls : Array Slot, lv_has ls 3 [(0, .ref (q 0)), (1, .int (nI (sp_staleTo N S x1))), (2, .int (nI x1))] → W p l e { frames := 6, cells := 0, slots := 0, locals := 148 } s m ([.ref (q 0)] : List Value).toArray below meth c s.heap [] 0 0 (MQ below (vp_Si (fun r => r = nI (sp_stale N S))) ([.ref (q 0)] : List Value).toArray s 0 0 (fun _ => False)) (F0 m 4 ls []) := by
    intro d1
    induction d1 with
    | zero =>
      intro x1 hd1 ls hl
      refine lv_iload_n G.1 G.2.1 dX0_stale_4 rfl (lv_at hl 2 rfl) ?_
      refine lv_bipush (v := nI 6) G.1 G.2.1 dX0_stale_5 (by decide) ?_
      refine gn_ge G (by omega) (by omega) (tgt := 41) dX0_stale_7 (by decide) (fun h_7 => ?_) (fun h_7 => absurd h_7 (by omega))
      refine lv_iload_n G.1 G.2.1 dX0_stale_41 rfl (lv_at hl 1 rfl) ?_
      exact W.iret G.1 G.2.1 G.2.2.1 (fun t ht hW => ⟨_, rfl, by show nI _ = nI _; unfold sp_stale; rw [show x1 = 6 from by omega], ht⟩) (fun q h => nomatch h) dX0_stale_42 G.2.2.2.2.2.2
    | succ d1 ih1 =>
      intro x1 hd1 ls hl
      refine lv_iload_n G.1 G.2.1 dX0_stale_4 rfl (lv_at hl 2 rfl) ?_
      refine lv_bipush (v := nI 6) G.1 G.2.1 dX0_stale_5 (by decide) ?_
      refine gn_ge G (by omega) (by omega) (tgt := 41) dX0_stale_7 (by decide) (fun h_7 => absurd h_7 (by omega)) (fun h_7 => ?_)
      refine lv_aload_n G.1 G.2.1 dX0_stale_10 rfl (lv_at hl 0 rfl) ?_
      refine gx_get G hX (by decide +kernel) 9 (by decide) (by decide +kernel) rfl rfl rfl dX0_stale_11 ?_
      refine lv_iload_n G.1 G.2.1 dX0_stale_14 rfl (lv_at hl 2 rfl) ?_
      refine gc_s (As := [.int (nI (N 9)), .int (nI x1)]) (rest := []) G.fix (mX0_hasBit l (N 9) x1 (by first | omega | assumption | exact ok6 _ | apply hq) (by omega)) (va_cwS 2 G.2.2.2.2.2.1 gX0_stale_X0_hasBit rfl rfl rfl (by decide +kernel) ⟨Nat.le_of_ble_eq_true rfl, Nat.le_of_ble_eq_true rfl⟩) gc_blindT (fun _ _ _ => trivial) rfl hl.1 rfl (Nat.le_of_ble_eq_true rfl) dX0_stale_15 (Nat.zero_le _) (Nat.zero_le _) (fun r hr => ?_)
      subst hr
      refine gn_eqz G (by exact sp_b31 _ _) (tgt := 35) dX0_stale_18 (by decide) (fun h_18 => ?_) (fun h_18 => ?_)
      · refine gn_iinc (lv' := [(2, .int (nI (x1 + 1))), (0, .ref (q 0)), (1, .int (nI (sp_staleTo N S x1)))]) (n := 1) G dX0_stale_35 hl (k := 2) rfl (by decide) rfl (fun ls hl => ?_)
        refine lv_goto (tgt := 4) G.1 G.2.1 dX0_stale_38 (by decide) ?_
        exact ih1 (x1 + 1) (by omega) _ (by have hb9 := sp_bit_lt (N 9) x1; have hd9 := sp_dif_lt S x1; have e9 : sp_staleTo N S (x1 + 1) = sp_staleTo N S x1 := (by first | exact sp_stale_y (by omega) | exact sp_stale_n (by omega)); rw [e9]; exact lv_sub hl [1, 2, 0] rfl)
      · refine lv_aload_n G.1 G.2.1 dX0_stale_21 rfl (lv_at hl 0 rfl) ?_
        refine lv_iload_n G.1 G.2.1 dX0_stale_22 rfl (lv_at hl 2 rfl) ?_
        refine gc_v (As := [.int (nI x1)]) (rest := []) G.fix (mX0_differsFromKept l D q cI N S tr A x1 hok (by first | omega | assumption | exact ok6 _ | apply hq)) (cwV 1 G.2.2.2.2.2.1 gX0_stale_X0_differsFromKept rfl rfl rfl (by decide +kernel) ⟨Nat.le_of_ble_eq_true rfl, Nat.le_of_ble_eq_true rfl⟩) xAt_blind (va_recv hX.2.1 hX.1 (ci := 0) (q0 := 0) rfl rfl) (fun U hU hW => by rw [hU]; exact hX.moved hW) rfl hl.1 rfl (Nat.le_of_ble_eq_true rfl) dX0_stale_23 (Nat.zero_le _) (Nat.zero_le _) (fun r hr => ?_)
        subst hr
        refine gn_eqz G (by exact sp_d31 _ _) (tgt := 35) dX0_stale_26 (by decide) (fun h_26 => ?_) (fun h_26 => ?_)
        · refine gn_iinc (lv' := [(2, .int (nI (x1 + 1))), (0, .ref (q 0)), (1, .int (nI (sp_staleTo N S x1)))]) (n := 1) G dX0_stale_35 hl (k := 2) rfl (by decide) rfl (fun ls hl => ?_)
          refine lv_goto (tgt := 4) G.1 G.2.1 dX0_stale_38 (by decide) ?_
          exact ih1 (x1 + 1) (by omega) _ (by have hb9 := sp_bit_lt (N 9) x1; have hd9 := sp_dif_lt S x1; have e9 : sp_staleTo N S (x1 + 1) = sp_staleTo N S x1 := (by first | exact sp_stale_y (by omega) | exact sp_stale_n (by omega)); rw [e9]; exact lv_sub hl [1, 2, 0] rfl)
        · refine lv_iload_n G.1 G.2.1 dX0_stale_29 rfl (lv_at hl 1 rfl) ?_
          refine lv_iconst (v := nI 1) G.1 G.2.1 dX0_stale_30 (by decide) ?_
          refine lv_iload_n G.1 G.2.1 dX0_stale_31 rfl (lv_at hl 2 rfl) ?_
          refine gn_ishl G dX0_stale_32 (by omega) ?_
          refine gn_ior G dX0_stale_33 ?_
          refine lv_istore_n (lv' := [(1, .int (nI ((sp_staleTo N S x1) ||| (2 ^ x1)))), (0, .ref (q 0)), (2, .int (nI x1))]) G.1 G.2.1 dX0_stale_34 rfl hl (by decide) rfl (fun ls hl => ?_)
          refine gn_iinc (lv' := [(2, .int (nI (x1 + 1))), (1, .int (nI ((sp_staleTo N S x1) ||| (2 ^ x1)))), (0, .ref (q 0))]) (n := 1) G dX0_stale_35 hl (k := 2) rfl (by decide) rfl (fun ls hl => ?_)
          refine lv_goto (tgt := 4) G.1 G.2.1 dX0_stale_38 (by decide) ?_
          exact ih1 (x1 + 1) (by omega) _ (by have hb9 := sp_bit_lt (N 9) x1; have hd9 := sp_dif_lt S x1; have e9 : sp_staleTo N S (x1 + 1) = (sp_staleTo N S x1) ||| (2 ^ x1) := (by first | exact sp_stale_y (by omega) | exact sp_stale_n (by omega)); rw [e9]; exact lv_sub hl [2, 1, 0] rfl)
  exact loop1 6 0 (by omega) _ (lv_sub hl [2, 1, 0] rfl)
end
section
/-! THE LAYER, SECOND PART: writes of rows and fields, throws, what a public call's exceptions mean -/
abbrev gIO : String := "java/lang/IndexOutOfBoundsException"
abbrev gIA : String := "java/lang/IllegalArgumentException"
abbrev gIS : String := "java/lang/IllegalStateException"
abbrev gNm : List String := ["java/lang/RuntimeException", "java/lang/Exception"]
def gn (x : Int32) : Nat := x.toInt.toNat
theorem gn_nI {j : Nat} (h : j < 2 ^ 31) : gn (nI j) = j := by unfold gn; rw [nI_toInt h]; omega
theorem gb_nlt {x : Int32} {n : Nat} (hn : n < 2 ^ 31) (h : ¬ x < nI n) : gb x n = false := gb_big hn (by
  rw [Int32.le_iff_toInt_le]
  have h2 : ¬ x.toInt < (nI n).toInt := fun q => h (Int32.lt_iff_toInt_lt.mpr q)
  omega)
/-- which exception, by three tests in their order -/
def gE3 (a b c : Bool) (E : String) : Prop := (E = gIO ∧ a = false) ∨ (E = gIA ∧ a = true ∧ b = false) ∨ (E = gIS ∧ a = true ∧ b = true ∧ c = false)
/-- the number of a call's exception, by three tests in their order -/
def gk (a b c : Bool) : Nat := if a then (if b then (if c then 0 else 3) else 2) else 1
theorem gx_good_IS : ∀ w ∈ Cond.classLink RX0 47 gIS :: Cond.initialized gIS :: vx_atS RX0 51 gIS gNm, vx_ot w = true := by decide +kernel
theorem gx_good_IO : ∀ w ∈ Cond.classLink RX0 69 gIO :: Cond.initialized gIO :: vx_atS RX0 73 gIO gNm, vx_ot w = true := by decide +kernel
theorem gx_good_IA : ∀ w ∈ Cond.classLink RX0 80 gIA :: Cond.initialized gIA :: vx_atS RX0 84 gIA gNm, vx_ot w = true := by decide +kernel
theorem gx_not_IS : ∀ w ∈ (vx_atS RX0 51 gIS gNm).filter (fun w => !goodWord w), w ∈ gB := by decide +kernel
theorem gx_not_IO : ∀ w ∈ (vx_atS RX0 73 gIO gNm).filter (fun w => !goodWord w), w ∈ gB := by decide +kernel
theorem gx_not_IA : ∀ w ∈ (vx_atS RX0 84 gIA gNm).filter (fun w => !goodWord w), w ∈ gB := by decide +kernel
theorem gB_tab : ∀ w ∈ gB, w.onTables = true := by decide +kernel
theorem gb_in0 {D : va_G} {cl : List vw_C} {q : Nat × va_E} {H : Heap} (h : va_at D cl q H) : q.1 < H.size := h.lt
theorem gp_setP {D : va_G} {cl : List vw_C} {A : Nat → Prop} {kp : Nat} {ws : va_W} {a : Nat} {e0 e1 : va_E} {H H1 : Heap} (hP : va_P D cl ws H) (hD : va_D A ws) (hk : ws[kp]? = some (a, e0)) (hP1 : va_P D cl [(a, e1)] H1) (oq : ∀ z : Nat, z < H.size → z ≠ a → H1[z]? = H[z]?) : va_P D cl (ws.set kp (a, e1)) H1 := by
  intro k x hx
  rw [List.getElem?_set] at hx
  split at hx
  · split at hx
    · obtain rfl := Option.some.inj hx
      exact hP1 0 _ rfl
    · cases hx
  · rename_i hne
    have h1 := hP k x hx
    refine h1.kept (oq _ h1.lt (fun z => hne ?_))
    exact hD.1 kp k _ _ hk hx z.symm
theorem gp_setS {A : Nat → Prop} {H0 H H1 : Heap} {locs L : List Loc} {a : Nat} (hS : va_S A H0 H locs) (hz : H.size ≤ H1.size) (oq : ∀ z : Nat, z < H.size → z ≠ a → H1[z]? = H[z]?) (ha : A a) (hL : ∀ z ∈ L, z.base = a) : va_S A H0 H1 (locs ++ L) := by
  refine ⟨Nat.le_trans hS.1 hz, fun z h1 h2 => ?_, fun z hz => ?_⟩
  · rw [oq z (Nat.lt_of_lt_of_le h1 hS.1) (fun q => h2 (q ▸ ha))]
    exact hS.2.1 z h1 h2
  · rcases List.mem_append.mp hz with h | h
    · exact hS.2.2 z h
    · rw [hL z h]; exact ha
/-- what swap does -/
def gQs (D : va_G) (a : Nat) (cI : ClassId) (n : Nat) (F : Nat → Nat) (i v : Nat) : Array Value → State → Outcome → State → Prop := fun _ st oc t =>
  oc = .returned (some (.int (nI (F i)))) ∧ va_P D vwCl [(a, .inl (cI, n, .inl (gr (gu F i v))))] t.heap ∧ st.heap.size ≤ t.heap.size ∧ ∀ z : Nat, z < st.heap.size → z ≠ a → t.heap[z]? = st.heap[z]?
section GW
variable {p : Program} {l : Launch} {e : Env} {R : Room} {s : State} {m : MethodId} {args : Array Value} {below : List Frame} {meth : Method} {c : Code} {H : Heap} {locs : List Loc} {cells slots : Nat} {Q : State → Prop}
variable {y : MethodName} {bytes cc : ByteArray} {maxL nL mc ms n index pc : Nat} {ret : Option FieldType} {ws ws' : List Cond} {rm : Room} {Qc : Array Value → State → Outcome → State → Prop} {XC : String → State → State → Prop} {free : Addr → Prop} {Ts : List Cond} {own : String} {As rest st0 : List Value} {ls : Array Slot} {Bp : State → Prop} {b : Nat}
variable {D : va_G} {q : Nat → Nat} {cI : ClassId} {N N' : Nat → Nat} {S S' : Nat → Nat → Nat} {tr tr' : Nat → Nat} {A : Nat → Prop}
/-- a row of the object's is written by swap -/
theorem gx_swap {F : Nat → Nat} {i v k len kp : Nat} (G : CallFix p m c cc nL s args Ts own) (hM : Met l y ws rm (va_Pc [.ref (q k), .int (nI i), .int (nI v)] (fun U => rAt D (q k) cI len F U U.heap)) (gQs D (q k) cI len F i v) 0 0 (fun z => z = q k)) (cw : CallB R s args own index y bytes maxL ret ws rm 0 0 3 ∧ (Cond.static y).before args s = true)
    (hX : xAt D q cI N S tr A s H) (hS : va_S A s.heap H locs) (hkp : (xw q cI N S tr)[kp]? = some (q k, .inl (cI, len, .inl (gr F)))) (hnew : (xw q cI N S tr).set kp (q k, .inl (cI, len, .inl (gr (gu F i v)))) = xw q cI N S' tr')
    (hsz : ls.size = nL) (hst : st0 = [.int (nI v), .int (nI i), .ref (q k)] ++ rest) (hW : (rest.map fun v => v.category).sum ≤ 8) (hdg : decode cc pc = .ok (.invokestatic index, 3)) (hc : cells ≤ R.cells) (hs : slots ≤ R.slots)
    (kk : ∀ (H1 : Heap) (locs1 : List Loc), xAt D q cI N S' tr' A s H1 → va_S A s.heap H1 locs1 → W p l e R s m args below meth c H1 locs1 cells slots Q (F0 m (pc + 3) ls (.int (nI (F i)) :: rest))) : W p l e R s m args below meth c H locs cells slots Q (F0 m pc ls st0) := by
  intro T hT X
  obtain ⟨v9, st₀, t, T', L, h0, X', hL, e1, ⟨hv, hP1, hz, oq⟩, st⟩ := W.runS (As := [.ref (q k), .int (nI i), .int (nI v)]) (rest := rest) (g := F0 m pc ls st0) G hM cw ⟨rAt_blind, fun U hU hW => ⟨rfl, by show rAt _ _ _ _ _ U U.heap; rw [hU]; exact (hX.row kp hkp).moved hW⟩⟩ rfl rfl hsz hst (lv_room hW) hdg ⟨hc, hs⟩ T hT X
  cases hv
  rw [h0] at hz oq
  have hP2 := gp_setP hX.1 hX.2.2.1 hkp hP1 oq
  rw [hnew] at hP2
  have hD2 : va_D A (xw q cI N S' tr') := hnew ▸ (hX.2.2.1.set hkp)
  have ha : A (q k) := hX.2.2.1.2 kp _ hkp
  have hS2 := gp_setS hS hz oq ha hL
  obtain ⟨t2, a1, b1⟩ := kk t.heap _ ⟨hP2, hX.2.1, hD2, hX.2.2.2.kept (fun z h1 h2 => oq z h1 (fun q => h2 (q ▸ ha)))⟩ hS2 T' e1 X'
  exact ⟨t2, st t2 a1, b1⟩
/-- a number of the object's is written -/
theorem gx_put {k v : Nat} {fs : List Value} (G : gF p s m args meth c cc ret nL RX0 ws) (hZ0 : gZ A s s.heap) (hX : xAt D q cI N S tr A s H) (hS : va_S A s.heap H locs) (hin : ∀ w ∈ wsX00, w ∈ ws) (hk : k < 15)
    (hlink : Cond.fieldLink RX0 index "GamutChain" (TX0 k).2.1 (TX0 k).2.2.1 ∈ ws) (hsame : (TX0 k).1 = "GamutChain") (hfin : (TX0 k).2.2.2 = false) (hd : parseFieldDescriptor (TX0 k).2.2.1 = some .int) (hf : (xw q cI N S tr)[0]? = some (q 0, .inr (0, fs))) (hlen : k < fs.length)
    (hnew : (xw q cI N S tr).set 0 (q 0, .inr (0, fs.set k (.int (nI v)))) = xw q cI N' S tr) (hdg : decode cc pc = .ok (.putfield index, 3))
    (kk : ∀ (H1 : Heap) (locs1 : List Loc), xAt D q cI N' S tr A s H1 → va_S A s.heap H1 locs1 → W p l e R s m args below meth c H1 locs1 cells slots Q (F0 m (pc + 3) ls rest)) : W p l e R s m args below meth c H locs cells slots Q (F0 m pc ls (.int (nI v) :: .ref (q 0) :: rest)) := by
  refine va_put (D := D) (ci := 0) (v := .int (nI v)) (ty := .int) (C := RX0) (T := TX0) (N := 15) (A := A) (H0 := s.heap) G.1 G.2.1 G.2.2.2.2.2.1 hin tyX0 tyX0_ok nmX0 G.2.2.2.2.1 hX.2.1 hX.1 hX.2.2.1 hS 0 hf rfl k hk (G.2.2.2.2.2.1 _ hlink) (fun x h => by rw [hsame] at h; exact h) hfin hd rfl rfl hlen hdg (fun H1 locs1 hP hD hS1 => ?_)
  rw [hnew] at hP hD
  exact kk H1 locs1 ⟨hP, hX.2.1, hD, hZ0.kept (fun z h1 h2 => hS1.2.1 z h1 h2)⟩ hS1
/-- a written throw, in a method of the class without a table -/
theorem gx_throw {ik is ic : Nat} {cls text : String} (G : gF p s m args meth c cc ret nL RX0 ws) (hx0 : ∀ x ∈ c.exceptionTable.toList, False) (hl : l.stackTraces = false) (hcls : Bundle.fit cls = true) (hk : Cond.classLink RX0 ik cls ∈ ws) (hini : Cond.initialized cls ∈ ws)
    (hat : ∀ w ∈ (vx_atS RX0 ic cls gNm).filter goodWord, w ∈ ws) (hnot : ∀ w ∈ (vx_atS RX0 ic cls gNm).filter (fun w => !goodWord w), w ∈ gB) (hgood : ∀ w ∈ Cond.classLink RX0 ik cls :: Cond.initialized cls :: vx_atS RX0 ic cls gNm, vx_ot w = true)
    (htx : (is, text) ∈ gTx) (hZ : gZ A s s.heap) (hS : va_S A s.heap H locs) (hsz : ls.size = nL)
    (d0 : decode cc pc = .ok (.new ik, 3)) (d3 : decode cc (pc + 3) = .ok (.dup, 1)) (d4 : decode cc (pc + 4) = .ok (.ldc is, 2)) (d6 : decode cc (pc + 6) = .ok (.invokespecial ic, 3)) (d9 : decode cc (pc + 9) = .ok (.athrow, 1))
    (hRf : 5 < R.frames) (hRl : (rest.map fun v => v.category).sum + 82 ≤ R.locals) (hRc : cells + 1 ≤ R.cells) (hRs : slots + 6 ≤ R.slots)
    (hx : ∀ t : State, s.vm.Alike t.vm → H.size ≤ t.heap.size → (∀ q : Nat, q < H.size → t.heap[q]? = H[q]?) → XC cls s t) (hf : ∀ z ∈ locs, free z.base) (hc : cells + 1 ≤ mc) (hs : slots + 6 ≤ ms) :
    W p l e R s m args below meth c H locs cells slots (vx_MQ below Qc XC args s mc ms free) (F0 m pc ls rest) := by
  obtain ⟨sa, hsa⟩ := hZ.2.2.2.1 _ htx
  exact vx_throwS (names := gNm) (A := A) G.1 G.2.1 hl G.2.2.2.2.1 hcls (by decide +kernel) (G.2.2.2.2.2.1 _ hk) (G.2.2.2.2.2.1 _ hini) hsa (vx_hat (fun w h => G.2.2.2.2.2.1 w (hat w h)) hnot (fun w h => va_Nw.use (gB_tab w h) (hZ.2.2.1 w h))) hgood hZ.1 hZ.2.1 hS (hsz.trans G.2.2.2.1.symm) d0 d3 d4 d6 d9 (fun x hx => (hx0 x hx).elim) hRf hRl hRc hRs G.2.2.2.2.2.2 hx hf hc hs
end GW
section GS
/-- swap: a row is written, its value before is the answer -/
theorem mX0_swap (l : Launch) (D : va_G) (a : Nat) (cI : ClassId) (n : Nat) (F : Nat → Nat) (i v : Nat) (hi : i < n) (hn : n < 2 ^ 31 := by decide) : Met l yX0_swap wsX0_swap { frames := 0, cells := 0, slots := 0, locals := 0 } (va_Pc [.ref a, .int (nI i), .int (nI v)] (fun U => rAt D a cI n F U U.heap)) (gQs D a cI n F i v) 0 0 (fun z => z = a) := by
  refine gc_met [.ref a, .int (nI i), .int (nI v)] (by decide) rfl (Nat.le_of_ble_eq_true rfl) rfl ?_
  intro p e s m below meth c ls G hl hX
  have hD : va_D (fun z => z = a) [(a, .inl (cI, n, .inl (gr F)))] := ⟨fun i j p q hi hj _ => by
      have h1 := (List.getElem?_eq_some_iff.mp hi).1
      have h2 := (List.getElem?_eq_some_iff.mp hj).1
      simp only [List.length_singleton] at h1 h2
      omega, fun k q hk => by
      have h1 := (List.getElem?_eq_some_iff.mp hk).1
      simp only [List.length_singleton] at h1
      obtain rfl : k = 0 := by omega
      cases hk
      rfl⟩
  refine lv_aload_n G.1 G.2.1 dX0_swap_0 rfl (lv_at hl 0 rfl) ?_
  refine lv_ifnull G.1 G.2.1 dX0_swap_1 ?_
  refine lv_iload_n G.1 G.2.1 dX0_swap_4 rfl (lv_at hl 1 rfl) ?_
  refine gn_ltz G (by omega) (tgt := 14) dX0_swap_5 (by decide) ?_
  refine lv_iload_n G.1 G.2.1 dX0_swap_8 rfl (lv_at hl 1 rfl) ?_
  refine lv_aload_n G.1 G.2.1 dX0_swap_9 rfl (lv_at hl 0 rfl) ?_
  refine va_alen (D := D) G.1 G.2.1 hX.2 hX.1 0 0 rfl rfl (v := nI n) rfl dX0_swap_10 ?_
  refine gn_lt G (by omega) (by omega) (tgt := 16) dX0_swap_11 (by decide) (fun h_11 => ?_) (fun h_11 => absurd h_11 (by omega))
  refine lv_aload_n G.1 G.2.1 dX0_swap_16 rfl (lv_at hl 0 rfl) ?_
  refine lv_iload_n G.1 G.2.1 dX0_swap_17 rfl (lv_at hl 1 rfl) ?_
  refine va_iald (D := D) G.1 G.2.1 hX.2 hX.1 0 0 (f := gr F) rfl rfl (vp_in_nI hi hn) dX0_swap_18 ?_
  rw [nI_clamp (by omega)]
  refine lv_istore_n (lv' := [(3, .int (nI (F i))), (0, .ref a), (1, .int (nI i)), (2, .int (nI v))]) G.1 G.2.1 dX0_swap_19 rfl hl (by decide) rfl (fun ls hl => ?_)
  refine lv_aload_n G.1 G.2.1 dX0_swap_20 rfl (lv_at hl 1 rfl) ?_
  refine lv_iload_n G.1 G.2.1 dX0_swap_21 rfl (lv_at hl 2 rfl) ?_
  refine lv_iload_n G.1 G.2.1 dX0_swap_22 rfl (lv_at hl 3 rfl) ?_
  refine va_iast (D := D) (A := fun z => z = a) (H0 := s.heap) G.1 G.2.1 hX.2 hX.1 hD va_S.rf 0 0 (f := gr F) rfl rfl (vp_in_nI hi hn) dX0_swap_23 (fun H1 locs1 hP1 _ hS1 => ?_)
  rw [nI_clamp (by omega), gr_upd] at hP1
  refine lv_iload_n G.1 G.2.1 dX0_swap_24 rfl (lv_at hl 0 rfl) ?_
  exact W.iret G.1 G.2.1 G.2.2.1 (fun t ht hW => ⟨rfl, by rw [ht]; exact hP1, by rw [ht]; exact hS1.1, fun z h1 h2 => by rw [ht]; exact hS1.2.1 z h1 h2⟩) hS1.2.2 dX0_swap_25 G.2.2.2.2.2.2
end GS
/-- what a public call of the class does when it returns, and when it throws -/
def gQx (D : va_G) (q : Nat → Nat) (cI : ClassId) (post : Int32 → (Nat → Nat) → (Nat → Nat → Nat) → Prop) (A : Nat → Prop) : Array Value → State → Outcome → State → Prop := fun _ st oc t =>
  ∃ (r : Int32) (N' : Nat → Nat) (S' : Nat → Nat → Nat) (tr' : Nat → Nat), oc = .returned (some (.int r)) ∧ post r N' S' ∧ va_P D vwCl (xw q cI N' S' tr') t.heap ∧ va_F A st t
def gXx (D : va_G) (q : Nat → Nat) (cI : ClassId) (N : Nat → Nat) (S : Nat → Nat → Nat) (A : Nat → Prop) (P : String → Prop) : String → State → State → Prop := fun E st t =>
  P E ∧ (∃ tr' : Nat → Nat, va_P D vwCl (xw q cI N S tr') t.heap) ∧ va_F A st t
theorem gXx_of {D : va_G} {q : Nat → Nat} {cI : ClassId} {N : Nat → Nat} {S : Nat → Nat → Nat} {tr : Nat → Nat} {A : Nat → Prop} {s t : State} {H : Heap} {locs : List Loc} (hX : xAt D q cI N S tr A s H) (hS : va_S A s.heap H locs) (hz : H.size ≤ t.heap.size) (hk : ∀ z : Nat, z < H.size → t.heap[z]? = H[z]?) :
    (∃ tr' : Nat → Nat, va_P D vwCl (xw q cI N S tr') t.heap) ∧ va_F A s t :=
  ⟨⟨tr, fun k x hx => (hX.1 k x hx).kept (hk _ (hX.1 k x hx).lt)⟩, Nat.le_trans hS.1 hz, fun z h1 h2 => by rw [hk z (Nat.lt_of_lt_of_le h1 hS.1)]; exact hS.2.1 z h1 h2⟩
theorem gQx_of {D : va_G} {q : Nat → Nat} {cI : ClassId} {N' : Nat → Nat} {S' : Nat → Nat → Nat} {tr' : Nat → Nat} {A : Nat → Prop} {s t : State} {H : Heap} {locs : List Loc} {post : Int32 → (Nat → Nat) → (Nat → Nat → Nat) → Prop} {r : Int32} {a : Array Value} (hX : xAt D q cI N' S' tr' A s H) (hS : va_S A s.heap H locs) (ht : t.heap = H) (hp : post r N' S') : gQx D q cI post A a s (.returned (some (.int r))) t :=
  ⟨r, N', S', tr', rfl, hp, by rw [ht]; exact hX.1, hS.F ht⟩
end
section
/-! WHAT THE PUBLIC CALLS DO, as naturals: tests in their order (sA, sB, sC), the answer (sR), the numbers and the rows behind it (sN, sS) -/
theorem gu_id {F : Nat → Nat} {k v : Nat} (h : F k = v) : gu F k v = F := by
  funext j
  unfold gu
  split
  · rename_i e
    rw [e, h]
  · rfl
theorem gu_ext {F G : Nat → Nat} (h : ∀ j, F j = G j) : F = G := funext h
/-- a new profile's curves and reaches -/
def sp_fill (F : Nat → Nat) (base : Nat) : Nat → Nat → Nat
  | 0 => F
  | k + 1 => gu (sp_fill F base k) (base + k) (sp_vop (k % 5))
def sp_fill2 (F : Nat → Nat) (base : Nat) : Nat → Nat → Nat
  | 0 => F
  | k + 1 => gu (sp_fill2 F base k) (base + k) 255
def sp_newS (N : Nat → Nat) (S : Nat → Nat → Nat) : Nat → Nat → Nat := gs (gs S 1 (sp_fill (S 1) (N 0 * 15) 15)) 3 (sp_fill2 (S 3) (N 0 * 3) 3)
/-- how far two numbers are apart -/
def sp_ap (a b : Nat) : Nat := if a < b then b - a else a - b
/-- the gap of a chain -/
def sp_gapAt (S : Nat → Nat → Nat) (ch b v : Nat) : Nat := sp_ap (sp_pass S ch b v) (sp_btw (fun k => sp_pass S ch b (sp_vop k)) 0 v)
def sp_gapTo (S : Nat → Nat → Nat) (ch : Nat) : Nat → Nat
  | 0 => 0
  | n + 1 => max (sp_gapTo S ch n) (sp_gapAt S ch (n / 256) (n % 256))
def sp_gap (S : Nat → Nat → Nat) (ch : Nat) : Nat := sp_gapTo S ch 768
/-- the grey gap -/
def sp_mn (S : Nat → Nat → Nat) (ch v : Nat) : Nat → Nat
  | 0 => 255
  | b + 1 => min (sp_mn S ch v b) (sp_pass S ch b v)
def sp_mx (S : Nat → Nat → Nat) (ch v : Nat) : Nat → Nat
  | 0 => 0
  | b + 1 => max (sp_mx S ch v b) (sp_pass S ch b v)
def sp_greyTo (S : Nat → Nat → Nat) (ch : Nat) : Nat → Nat
  | 0 => 0
  | v + 1 => max (sp_greyTo S ch v) (sp_mx S ch v 3 - sp_mn S ch v 3)
def sp_grey (S : Nat → Nat → Nat) (ch : Nat) : Nat := sp_greyTo S ch 256
/-- what a joining keeps -/
def sp_kpTo (S : Nat → Nat → Nat) (ch : Nat) : Nat → Nat → Nat
  | 0 => S 8
  | k + 1 => gu (sp_kpTo S ch k) (ch * 15 + k) (sp_pass S ch (k / 5) (sp_vop (k % 5)))
def sp_trTo (S : Nat → Nat → Nat) (ch : Nat) (tr : Nat → Nat) : Nat → Nat → Nat
  | 0 => tr
  | k + 1 => gu (sp_trTo S ch tr k) k (sp_pass S ch (k / 5) (sp_vop (k % 5)))
/-- what holds of numbers and rows beside the ranges -/
def sp_inv (N : Nat → Nat) (S : Nat → Nat → Nat) : Prop := (∀ j, 3 * N 0 ≤ j → S 2 j = 0) ∧ (∀ j, N 0 ≤ j → S 4 j = 0) ∧ N 9 < 64 ∧ N 10 < 64 ∧ (∀ c, N 5 ≤ c → sp_bit (N 9) c = 0 ∧ sp_bit (N 10) c = 0) ∧ (∀ c, c < 6 → S 9 c = sp_bit (N 9) c ∧ S 10 c = sp_bit (N 10) c) ∧ (∀ c k, c < 6 → k < S 7 c → S 6 (c * 6 + k) < N 0)
def sA_profile (N : Nat → Nat) (S : Nat → Nat → Nat) : Bool := true
def sB_profile (N : Nat → Nat) (S : Nat → Nat → Nat) : Bool := true
def sC_profile (N : Nat → Nat) (S : Nat → Nat → Nat) : Bool := decide (N 0 < 8)
def sR_profile (N : Nat → Nat) (S : Nat → Nat → Nat) : Nat := N 0
def sN_profile (N : Nat → Nat) (S : Nat → Nat → Nat) : Nat → Nat := gu N 0 (N 0 + 1)
def sS_profile (N : Nat → Nat) (S : Nat → Nat → Nat) : Nat → Nat → Nat := sp_newS N S
def sA_bend (N : Nat → Nat) (S : Nat → Nat → Nat) (i1 i2 i3 i4 : Int32) : Bool := gb i1 (N 0) && gb i2 3 && gb i3 5
def sB_bend (N : Nat → Nat) (S : Nat → Nat → Nat) (i1 i2 i3 i4 : Int32) : Bool := gb i4 256
def sC_bend (N : Nat → Nat) (S : Nat → Nat → Nat) (i1 i2 i3 i4 : Int32) : Bool := decide (sp_bit (sp_held N S) (gn i1) = 0)
def sR_bend (N : Nat → Nat) (S : Nat → Nat → Nat) (i1 i2 i3 i4 : Int32) : Nat := S 1 ((gn i1 * 3 + gn i2) * 5 + gn i3)
def sN_bend (N : Nat → Nat) (S : Nat → Nat → Nat) (i1 i2 i3 i4 : Int32) : Nat → Nat := N
def sS_bend (N : Nat → Nat) (S : Nat → Nat → Nat) (i1 i2 i3 i4 : Int32) : Nat → Nat → Nat := gs S 1 (gu (S 1) ((gn i1 * 3 + gn i2) * 5 + gn i3) (gn i4))
def sA_reach (N : Nat → Nat) (S : Nat → Nat → Nat) (i1 i2 i3 i4 : Int32) : Bool := gb i1 (N 0) && gb i2 3
def sB_reach (N : Nat → Nat) (S : Nat → Nat → Nat) (i1 i2 i3 i4 : Int32) : Bool := gb i3 256 && gb i4 256 && decide (gn i3 ≤ gn i4)
def sC_reach (N : Nat → Nat) (S : Nat → Nat → Nat) (i1 i2 i3 i4 : Int32) : Bool := decide (sp_bit (sp_held N S) (gn i1) = 0)
def sR_reach (N : Nat → Nat) (S : Nat → Nat → Nat) (i1 i2 i3 i4 : Int32) : Nat := S 3 (gn i1 * 3 + gn i2) - S 2 (gn i1 * 3 + gn i2) + 1
def sN_reach (N : Nat → Nat) (S : Nat → Nat → Nat) (i1 i2 i3 i4 : Int32) : Nat → Nat := N
def sS_reach (N : Nat → Nat) (S : Nat → Nat → Nat) (i1 i2 i3 i4 : Int32) : Nat → Nat → Nat := gs (gs S 2 (gu (S 2) (gn i1 * 3 + gn i2) (gn i3))) 3 (gu (S 3) (gn i1 * 3 + gn i2) (gn i4))
def sA_way (N : Nat → Nat) (S : Nat → Nat → Nat) (i1 i2 : Int32) : Bool := gb i1 (N 0)
def sB_way (N : Nat → Nat) (S : Nat → Nat → Nat) (i1 i2 : Int32) : Bool := gb i2 3
def sC_way (N : Nat → Nat) (S : Nat → Nat → Nat) (i1 i2 : Int32) : Bool := decide (sp_bit (sp_held N S) (gn i1) = 0)
def sR_way (N : Nat → Nat) (S : Nat → Nat → Nat) (i1 i2 : Int32) : Nat := S 4 (gn i1)
def sN_way (N : Nat → Nat) (S : Nat → Nat → Nat) (i1 i2 : Int32) : Nat → Nat := N
def sS_way (N : Nat → Nat) (S : Nat → Nat → Nat) (i1 i2 : Int32) : Nat → Nat → Nat := gs S 4 (gu (S 4) (gn i1) (gn i2))
def sA_curve (N : Nat → Nat) (S : Nat → Nat → Nat) (i1 i2 i3 : Int32) : Bool := gb i1 (N 0) && gb i2 3
def sB_curve (N : Nat → Nat) (S : Nat → Nat → Nat) (i1 i2 i3 : Int32) : Bool := gb i3 256
def sC_curve (N : Nat → Nat) (S : Nat → Nat → Nat) (i1 i2 i3 : Int32) : Bool := true
def sR_curve (N : Nat → Nat) (S : Nat → Nat → Nat) (i1 i2 i3 : Int32) : Nat := sp_curve S (gn i1) (gn i2) (gn i3)
def sN_curve (N : Nat → Nat) (S : Nat → Nat → Nat) (i1 i2 i3 : Int32) : Nat → Nat := N
def sS_curve (N : Nat → Nat) (S : Nat → Nat → Nat) (i1 i2 i3 : Int32) : Nat → Nat → Nat := S
def sA_taken (N : Nat → Nat) (S : Nat → Nat → Nat) (i1 i2 i3 : Int32) : Bool := gb i1 (N 0) && gb i2 3
def sB_taken (N : Nat → Nat) (S : Nat → Nat → Nat) (i1 i2 i3 : Int32) : Bool := gb i3 256
def sC_taken (N : Nat → Nat) (S : Nat → Nat → Nat) (i1 i2 i3 : Int32) : Bool := true
def sR_taken (N : Nat → Nat) (S : Nat → Nat → Nat) (i1 i2 i3 : Int32) : Nat := sp_tk S (gn i1) (gn i2) (gn i3)
def sN_taken (N : Nat → Nat) (S : Nat → Nat → Nat) (i1 i2 i3 : Int32) : Nat → Nat := N
def sS_taken (N : Nat → Nat) (S : Nat → Nat → Nat) (i1 i2 i3 : Int32) : Nat → Nat → Nat := S
def sA_chain (N : Nat → Nat) (S : Nat → Nat → Nat) : Bool := true
def sB_chain (N : Nat → Nat) (S : Nat → Nat → Nat) : Bool := true
def sC_chain (N : Nat → Nat) (S : Nat → Nat → Nat) : Bool := decide (N 5 < 6)
def sR_chain (N : Nat → Nat) (S : Nat → Nat → Nat) : Nat := N 5
def sN_chain (N : Nat → Nat) (S : Nat → Nat → Nat) : Nat → Nat := gu N 5 (N 5 + 1)
def sS_chain (N : Nat → Nat) (S : Nat → Nat → Nat) : Nat → Nat → Nat := S
def sA_add (N : Nat → Nat) (S : Nat → Nat → Nat) (i1 i2 : Int32) : Bool := gb i1 (N 5) && gb i2 (N 0)
def sB_add (N : Nat → Nat) (S : Nat → Nat → Nat) (i1 i2 : Int32) : Bool := true
def sC_add (N : Nat → Nat) (S : Nat → Nat → Nat) (i1 i2 : Int32) : Bool := decide (sp_bit (N 10) (gn i1) = 0) && decide (S 7 (gn i1) < 6)
def sR_add (N : Nat → Nat) (S : Nat → Nat → Nat) (i1 i2 : Int32) : Nat := S 7 (gn i1) + 1
def sN_add (N : Nat → Nat) (S : Nat → Nat → Nat) (i1 i2 : Int32) : Nat → Nat := N
def sS_add (N : Nat → Nat) (S : Nat → Nat → Nat) (i1 i2 : Int32) : Nat → Nat → Nat := gs (gs S 6 (gu (S 6) (gn i1 * 6 + S 7 (gn i1)) (gn i2))) 7 (gu (S 7) (gn i1) (S 7 (gn i1) + 1))
def sA_drop (N : Nat → Nat) (S : Nat → Nat → Nat) (i1 : Int32) : Bool := gb i1 (N 5)
def sB_drop (N : Nat → Nat) (S : Nat → Nat → Nat) (i1 : Int32) : Bool := true
def sC_drop (N : Nat → Nat) (S : Nat → Nat → Nat) (i1 : Int32) : Bool := decide (sp_bit (N 10) (gn i1) = 0) && decide (0 < S 7 (gn i1))
def sR_drop (N : Nat → Nat) (S : Nat → Nat → Nat) (i1 : Int32) : Nat := S 6 (gn i1 * 6 + S 7 (gn i1) - 1)
def sN_drop (N : Nat → Nat) (S : Nat → Nat → Nat) (i1 : Int32) : Nat → Nat := N
def sS_drop (N : Nat → Nat) (S : Nat → Nat → Nat) (i1 : Int32) : Nat → Nat → Nat := gs S 7 (gu (S 7) (gn i1) (S 7 (gn i1) - 1))
def sA_through (N : Nat → Nat) (S : Nat → Nat → Nat) (i1 i2 i3 : Int32) : Bool := gb i1 (N 5) && gb i2 3
def sB_through (N : Nat → Nat) (S : Nat → Nat → Nat) (i1 i2 i3 : Int32) : Bool := gb i3 256
def sC_through (N : Nat → Nat) (S : Nat → Nat → Nat) (i1 i2 i3 : Int32) : Bool := true
def sR_through (N : Nat → Nat) (S : Nat → Nat → Nat) (i1 i2 i3 : Int32) : Nat := sp_pass S (gn i1) (gn i2) (gn i3)
def sN_through (N : Nat → Nat) (S : Nat → Nat → Nat) (i1 i2 i3 : Int32) : Nat → Nat := N
def sS_through (N : Nat → Nat) (S : Nat → Nat → Nat) (i1 i2 i3 : Int32) : Nat → Nat → Nat := S
def sA_gap (N : Nat → Nat) (S : Nat → Nat → Nat) (i1 : Int32) : Bool := gb i1 (N 5)
def sB_gap (N : Nat → Nat) (S : Nat → Nat → Nat) (i1 : Int32) : Bool := true
def sC_gap (N : Nat → Nat) (S : Nat → Nat → Nat) (i1 : Int32) : Bool := true
def sR_gap (N : Nat → Nat) (S : Nat → Nat → Nat) (i1 : Int32) : Nat := sp_gap S (gn i1)
def sN_gap (N : Nat → Nat) (S : Nat → Nat → Nat) (i1 : Int32) : Nat → Nat := N
def sS_gap (N : Nat → Nat) (S : Nat → Nat → Nat) (i1 : Int32) : Nat → Nat → Nat := S
def sA_greyGap (N : Nat → Nat) (S : Nat → Nat → Nat) (i1 : Int32) : Bool := gb i1 (N 5)
def sB_greyGap (N : Nat → Nat) (S : Nat → Nat → Nat) (i1 : Int32) : Bool := true
def sC_greyGap (N : Nat → Nat) (S : Nat → Nat → Nat) (i1 : Int32) : Bool := true
def sR_greyGap (N : Nat → Nat) (S : Nat → Nat → Nat) (i1 : Int32) : Nat := sp_grey S (gn i1)
def sN_greyGap (N : Nat → Nat) (S : Nat → Nat → Nat) (i1 : Int32) : Nat → Nat := N
def sS_greyGap (N : Nat → Nat) (S : Nat → Nat → Nat) (i1 : Int32) : Nat → Nat → Nat := S
def sA_join (N : Nat → Nat) (S : Nat → Nat → Nat) (i1 i2 : Int32) : Bool := gb i1 (N 5)
def sB_join (N : Nat → Nat) (S : Nat → Nat → Nat) (i1 i2 : Int32) : Bool := gb i2 256
def sC_join (N : Nat → Nat) (S : Nat → Nat → Nat) (i1 i2 : Int32) : Bool := decide (sp_gap S (gn i1) ≤ gn i2)
def sR_join (N : Nat → Nat) (S : Nat → Nat → Nat) (i1 i2 : Int32) : Nat := sp_gap S (gn i1)
def sN_join (N : Nat → Nat) (S : Nat → Nat → Nat) (i1 i2 : Int32) : Nat → Nat := gu N 9 (N 9 ||| 2 ^ (gn i1))
def sS_join (N : Nat → Nat) (S : Nat → Nat → Nat) (i1 i2 : Int32) : Nat → Nat → Nat := gs (gs S 8 (sp_kpTo S (gn i1) 15)) 9 (gu (S 9) (gn i1) 1)
def sA_joined (N : Nat → Nat) (S : Nat → Nat → Nat) (i1 i2 i3 : Int32) : Bool := gb i1 (N 5) && gb i2 3
def sB_joined (N : Nat → Nat) (S : Nat → Nat → Nat) (i1 i2 i3 : Int32) : Bool := gb i3 256
def sC_joined (N : Nat → Nat) (S : Nat → Nat → Nat) (i1 i2 i3 : Int32) : Bool := decide (sp_bit (N 9) (gn i1) = 1)
def sR_joined (N : Nat → Nat) (S : Nat → Nat → Nat) (i1 i2 i3 : Int32) : Nat := sp_btw (S 8) ((gn i1 * 3 + gn i2) * 5) (gn i3)
def sN_joined (N : Nat → Nat) (S : Nat → Nat → Nat) (i1 i2 i3 : Int32) : Nat → Nat := N
def sS_joined (N : Nat → Nat) (S : Nat → Nat → Nat) (i1 i2 i3 : Int32) : Nat → Nat → Nat := S
def sA_sign (N : Nat → Nat) (S : Nat → Nat → Nat) (i1 : Int32) : Bool := gb i1 (N 5)
def sB_sign (N : Nat → Nat) (S : Nat → Nat → Nat) (i1 : Int32) : Bool := true
def sC_sign (N : Nat → Nat) (S : Nat → Nat → Nat) (i1 : Int32) : Bool := true
def sR_sign (N : Nat → Nat) (S : Nat → Nat → Nat) (i1 : Int32) : Nat := 1 - sp_bit (N 10) (gn i1)
def sN_sign (N : Nat → Nat) (S : Nat → Nat → Nat) (i1 : Int32) : Nat → Nat := gu N 10 (N 10 ^^^ 2 ^ (gn i1))
def sS_sign (N : Nat → Nat) (S : Nat → Nat → Nat) (i1 : Int32) : Nat → Nat → Nat := gs S 10 (gu (S 10) (gn i1) (1 - S 10 (gn i1)))
def sA_paint (N : Nat → Nat) (S : Nat → Nat → Nat) (i1 i2 i3 : Int32) : Bool := gb i1 6 && gb i2 3
def sB_paint (N : Nat → Nat) (S : Nat → Nat → Nat) (i1 i2 i3 : Int32) : Bool := gb i3 256
def sC_paint (N : Nat → Nat) (S : Nat → Nat → Nat) (i1 i2 i3 : Int32) : Bool := true
def sR_paint (N : Nat → Nat) (S : Nat → Nat → Nat) (i1 i2 i3 : Int32) : Nat := S 12 (gn i1 * 3 + gn i2)
def sN_paint (N : Nat → Nat) (S : Nat → Nat → Nat) (i1 i2 i3 : Int32) : Nat → Nat := N
def sS_paint (N : Nat → Nat) (S : Nat → Nat → Nat) (i1 i2 i3 : Int32) : Nat → Nat → Nat := gs S 12 (gu (S 12) (gn i1 * 3 + gn i2) (gn i3))
def sA_spot (N : Nat → Nat) (S : Nat → Nat → Nat) (i1 i2 i3 : Int32) : Bool := gb i1 6 && gb i2 3
def sB_spot (N : Nat → Nat) (S : Nat → Nat → Nat) (i1 i2 i3 : Int32) : Bool := gb i3 256
def sC_spot (N : Nat → Nat) (S : Nat → Nat → Nat) (i1 i2 i3 : Int32) : Bool := true
def sR_spot (N : Nat → Nat) (S : Nat → Nat → Nat) (i1 i2 i3 : Int32) : Nat := S 13 (gn i1 * 3 + gn i2)
def sN_spot (N : Nat → Nat) (S : Nat → Nat → Nat) (i1 i2 i3 : Int32) : Nat → Nat := N
def sS_spot (N : Nat → Nat) (S : Nat → Nat → Nat) (i1 i2 i3 : Int32) : Nat → Nat → Nat := gs S 13 (gu (S 13) (gn i1 * 3 + gn i2) (gn i3))
def sA_mix (N : Nat → Nat) (S : Nat → Nat → Nat) (i1 i2 i3 : Int32) : Bool := gb i1 3 && gb i2 3
def sB_mix (N : Nat → Nat) (S : Nat → Nat → Nat) (i1 i2 i3 : Int32) : Bool := gb i3 256
def sC_mix (N : Nat → Nat) (S : Nat → Nat → Nat) (i1 i2 i3 : Int32) : Bool := true
def sR_mix (N : Nat → Nat) (S : Nat → Nat → Nat) (i1 i2 i3 : Int32) : Nat := S 14 (gn i1 * 3 + gn i2)
def sN_mix (N : Nat → Nat) (S : Nat → Nat → Nat) (i1 i2 i3 : Int32) : Nat → Nat := N
def sS_mix (N : Nat → Nat) (S : Nat → Nat → Nat) (i1 i2 i3 : Int32) : Nat → Nat → Nat := gs S 14 (gu (S 14) (gn i1 * 3 + gn i2) (gn i3))
def sA_shown (N : Nat → Nat) (S : Nat → Nat → Nat) (i1 i2 i3 i4 : Int32) : Bool := gb i1 (N 5) && gb i2 6 && gb i3 3
def sB_shown (N : Nat → Nat) (S : Nat → Nat → Nat) (i1 i2 i3 i4 : Int32) : Bool := gb i4 8
def sC_shown (N : Nat → Nat) (S : Nat → Nat → Nat) (i1 i2 i3 i4 : Int32) : Bool := true
def sR_shown (N : Nat → Nat) (S : Nat → Nat → Nat) (i1 i2 i3 i4 : Int32) : Nat := sp_pass S (gn i1) (gn i3) (sp_ink S (gn i2) (gn i3) (gn i4))
def sN_shown (N : Nat → Nat) (S : Nat → Nat → Nat) (i1 i2 i3 i4 : Int32) : Nat → Nat := N
def sS_shown (N : Nat → Nat) (S : Nat → Nat → Nat) (i1 i2 i3 i4 : Int32) : Nat → Nat → Nat := S
end
section
/-! the class's checks: each returns with nothing changed, or throws -/
set_option maxRecDepth 100000 in
set_option maxHeartbeats 4000000 in
/-- a check: needBand -/
theorem mX0_needBand (l : Launch) (hst : l.stackTraces = false) (b : Int32) : vx_Met l yX0_needBand wsX0_needBand { frames := 6, cells := 1, slots := 6, locals := 82 } (va_Pc [.int b] (fun U => gZ (fun _ => False) U U.heap)) (va_Sv (fun _ => gb b 3 = true)) (gX (fun E => E = gIO ∧ gb b 3 = false)) 1 6 (fun _ => False) := by
  refine gc_vxmet [.int b] (by decide) rfl (Nat.le_of_ble_eq_true rfl) rfl ?_
  intro p e s m below meth c ls G hx0 hl hZ0
  have hS : va_S (fun _ => False) s.heap s.heap [] := va_S.rf
  refine lv_iload_n G.1 G.2.1 dX0_needBand_0 rfl (lv_at hl 0 rfl) ?_
  refine lv_if_lt (tgt := 9) G.1 G.2.1 dX0_needBand_1 (by decide) (fun h_1 => ?_) (fun h_1 => ?_)
  · exact gx_throw (text := "no such band") G hx0 hst (by decide +kernel) (by decide +kernel) (by decide +kernel) (by decide +kernel) gx_not_IO gx_good_IO (by decide +kernel) hZ0 hS hl.1 dX0_needBand_9 dX0_needBand_12 dX0_needBand_13 dX0_needBand_15 dX0_needBand_18 (Nat.le_of_ble_eq_true rfl) (Nat.le_of_ble_eq_true rfl) (Nat.le_of_ble_eq_true rfl) (Nat.le_of_ble_eq_true rfl) (fun t _ hz hk => ⟨⟨rfl, by first | exact gb_neg (by assumption) | exact gb_nlt (by decide) (by assumption) | exact gi_nle (by assumption)⟩, hz, hk⟩) (fun _ h => nomatch h) (by decide) (by decide)
  · refine lv_iload_n G.1 G.2.1 dX0_needBand_4 rfl (lv_at hl 0 rfl) ?_
    refine lv_iconst (v := nI 3) G.1 G.2.1 dX0_needBand_5 (by decide) ?_
    refine lv_icmp_lt (tgt := 19) G.1 G.2.1 dX0_needBand_6 (by decide) (fun h_6 => ?_) (fun h_6 => ?_)
    · exact vx_ret (W.widen (k := 1) (n := 6) (Nat.zero_le _) (Nat.zero_le _) (W.vret G.1 G.2.1 G.2.2.1 (fun t ht hW => ⟨rfl, by first | exact gb_in (by decide) (by assumption) (by assumption) | exact gi_le (by assumption) (by assumption), ht⟩) (fun q h => nomatch h) dX0_needBand_19 G.2.2.2.2.2.2))
    · exact gx_throw (text := "no such band") G hx0 hst (by decide +kernel) (by decide +kernel) (by decide +kernel) (by decide +kernel) gx_not_IO gx_good_IO (by decide +kernel) hZ0 hS hl.1 dX0_needBand_9 dX0_needBand_12 dX0_needBand_13 dX0_needBand_15 dX0_needBand_18 (Nat.le_of_ble_eq_true rfl) (Nat.le_of_ble_eq_true rfl) (Nat.le_of_ble_eq_true rfl) (Nat.le_of_ble_eq_true rfl) (fun t _ hz hk => ⟨⟨rfl, by first | exact gb_neg (by assumption) | exact gb_nlt (by decide) (by assumption) | exact gi_nle (by assumption)⟩, hz, hk⟩) (fun _ h => nomatch h) (by decide) (by decide)
set_option maxRecDepth 100000 in
set_option maxHeartbeats 4000000 in
/-- a check: needPixel -/
theorem mX0_needPixel (l : Launch) (hst : l.stackTraces = false) (b : Int32) : vx_Met l yX0_needPixel wsX0_needPixel { frames := 6, cells := 1, slots := 6, locals := 82 } (va_Pc [.int b] (fun U => gZ (fun _ => False) U U.heap)) (va_Sv (fun _ => gb b 6 = true)) (gX (fun E => E = gIO ∧ gb b 6 = false)) 1 6 (fun _ => False) := by
  refine gc_vxmet [.int b] (by decide) rfl (Nat.le_of_ble_eq_true rfl) rfl ?_
  intro p e s m below meth c ls G hx0 hl hZ0
  have hS : va_S (fun _ => False) s.heap s.heap [] := va_S.rf
  refine lv_iload_n G.1 G.2.1 dX0_needPixel_0 rfl (lv_at hl 0 rfl) ?_
  refine lv_if_lt (tgt := 10) G.1 G.2.1 dX0_needPixel_1 (by decide) (fun h_1 => ?_) (fun h_1 => ?_)
  · exact gx_throw (text := "no such pixel") G hx0 hst (by decide +kernel) (by decide +kernel) (by decide +kernel) (by decide +kernel) gx_not_IO gx_good_IO (by decide +kernel) hZ0 hS hl.1 dX0_needPixel_10 dX0_needPixel_13 dX0_needPixel_14 dX0_needPixel_16 dX0_needPixel_19 (Nat.le_of_ble_eq_true rfl) (Nat.le_of_ble_eq_true rfl) (Nat.le_of_ble_eq_true rfl) (Nat.le_of_ble_eq_true rfl) (fun t _ hz hk => ⟨⟨rfl, by first | exact gb_neg (by assumption) | exact gb_nlt (by decide) (by assumption) | exact gi_nle (by assumption)⟩, hz, hk⟩) (fun _ h => nomatch h) (by decide) (by decide)
  · refine lv_iload_n G.1 G.2.1 dX0_needPixel_4 rfl (lv_at hl 0 rfl) ?_
    refine lv_bipush (v := nI 6) G.1 G.2.1 dX0_needPixel_5 (by decide) ?_
    refine lv_icmp_lt (tgt := 20) G.1 G.2.1 dX0_needPixel_7 (by decide) (fun h_7 => ?_) (fun h_7 => ?_)
    · exact vx_ret (W.widen (k := 1) (n := 6) (Nat.zero_le _) (Nat.zero_le _) (W.vret G.1 G.2.1 G.2.2.1 (fun t ht hW => ⟨rfl, by first | exact gb_in (by decide) (by assumption) (by assumption) | exact gi_le (by assumption) (by assumption), ht⟩) (fun q h => nomatch h) dX0_needPixel_20 G.2.2.2.2.2.2))
    · exact gx_throw (text := "no such pixel") G hx0 hst (by decide +kernel) (by decide +kernel) (by decide +kernel) (by decide +kernel) gx_not_IO gx_good_IO (by decide +kernel) hZ0 hS hl.1 dX0_needPixel_10 dX0_needPixel_13 dX0_needPixel_14 dX0_needPixel_16 dX0_needPixel_19 (Nat.le_of_ble_eq_true rfl) (Nat.le_of_ble_eq_true rfl) (Nat.le_of_ble_eq_true rfl) (Nat.le_of_ble_eq_true rfl) (fun t _ hz hk => ⟨⟨rfl, by first | exact gb_neg (by assumption) | exact gb_nlt (by decide) (by assumption) | exact gi_nle (by assumption)⟩, hz, hk⟩) (fun _ h => nomatch h) (by decide) (by decide)
set_option maxRecDepth 100000 in
set_option maxHeartbeats 4000000 in
/-- a check: needInk -/
theorem mX0_needInk (l : Launch) (hst : l.stackTraces = false) (b : Int32) : vx_Met l yX0_needInk wsX0_needInk { frames := 6, cells := 1, slots := 6, locals := 82 } (va_Pc [.int b] (fun U => gZ (fun _ => False) U U.heap)) (va_Sv (fun _ => gb b 3 = true)) (gX (fun E => E = gIO ∧ gb b 3 = false)) 1 6 (fun _ => False) := by
  refine gc_vxmet [.int b] (by decide) rfl (Nat.le_of_ble_eq_true rfl) rfl ?_
  intro p e s m below meth c ls G hx0 hl hZ0
  have hS : va_S (fun _ => False) s.heap s.heap [] := va_S.rf
  refine lv_iload_n G.1 G.2.1 dX0_needInk_0 rfl (lv_at hl 0 rfl) ?_
  refine lv_if_lt (tgt := 9) G.1 G.2.1 dX0_needInk_1 (by decide) (fun h_1 => ?_) (fun h_1 => ?_)
  · exact gx_throw (text := "no such ink") G hx0 hst (by decide +kernel) (by decide +kernel) (by decide +kernel) (by decide +kernel) gx_not_IO gx_good_IO (by decide +kernel) hZ0 hS hl.1 dX0_needInk_9 dX0_needInk_12 dX0_needInk_13 dX0_needInk_15 dX0_needInk_18 (Nat.le_of_ble_eq_true rfl) (Nat.le_of_ble_eq_true rfl) (Nat.le_of_ble_eq_true rfl) (Nat.le_of_ble_eq_true rfl) (fun t _ hz hk => ⟨⟨rfl, by first | exact gb_neg (by assumption) | exact gb_nlt (by decide) (by assumption) | exact gi_nle (by assumption)⟩, hz, hk⟩) (fun _ h => nomatch h) (by decide) (by decide)
  · refine lv_iload_n G.1 G.2.1 dX0_needInk_4 rfl (lv_at hl 0 rfl) ?_
    refine lv_iconst (v := nI 3) G.1 G.2.1 dX0_needInk_5 (by decide) ?_
    refine lv_icmp_lt (tgt := 19) G.1 G.2.1 dX0_needInk_6 (by decide) (fun h_6 => ?_) (fun h_6 => ?_)
    · exact vx_ret (W.widen (k := 1) (n := 6) (Nat.zero_le _) (Nat.zero_le _) (W.vret G.1 G.2.1 G.2.2.1 (fun t ht hW => ⟨rfl, by first | exact gb_in (by decide) (by assumption) (by assumption) | exact gi_le (by assumption) (by assumption), ht⟩) (fun q h => nomatch h) dX0_needInk_19 G.2.2.2.2.2.2))
    · exact gx_throw (text := "no such ink") G hx0 hst (by decide +kernel) (by decide +kernel) (by decide +kernel) (by decide +kernel) gx_not_IO gx_good_IO (by decide +kernel) hZ0 hS hl.1 dX0_needInk_9 dX0_needInk_12 dX0_needInk_13 dX0_needInk_15 dX0_needInk_18 (Nat.le_of_ble_eq_true rfl) (Nat.le_of_ble_eq_true rfl) (Nat.le_of_ble_eq_true rfl) (Nat.le_of_ble_eq_true rfl) (fun t _ hz hk => ⟨⟨rfl, by first | exact gb_neg (by assumption) | exact gb_nlt (by decide) (by assumption) | exact gi_nle (by assumption)⟩, hz, hk⟩) (fun _ h => nomatch h) (by decide) (by decide)
set_option maxRecDepth 100000 in
set_option maxHeartbeats 4000000 in
/-- a check: needValue -/
theorem mX0_needValue (l : Launch) (hst : l.stackTraces = false) (b : Int32) : vx_Met l yX0_needValue wsX0_needValue { frames := 6, cells := 1, slots := 6, locals := 82 } (va_Pc [.int b] (fun U => gZ (fun _ => False) U U.heap)) (va_Sv (fun _ => gb b 256 = true)) (gX (fun E => E = gIA ∧ gb b 256 = false)) 1 6 (fun _ => False) := by
  refine gc_vxmet [.int b] (by decide) rfl (Nat.le_of_ble_eq_true rfl) rfl ?_
  intro p e s m below meth c ls G hx0 hl hZ0
  have hS : va_S (fun _ => False) s.heap s.heap [] := va_S.rf
  refine lv_iload_n G.1 G.2.1 dX0_needValue_0 rfl (lv_at hl 0 rfl) ?_
  refine lv_if_lt (tgt := 11) G.1 G.2.1 dX0_needValue_1 (by decide) (fun h_1 => ?_) (fun h_1 => ?_)
  · exact gx_throw (text := "out of 0 to 255") G hx0 hst (by decide +kernel) (by decide +kernel) (by decide +kernel) (by decide +kernel) gx_not_IA gx_good_IA (by decide +kernel) hZ0 hS hl.1 dX0_needValue_11 dX0_needValue_14 dX0_needValue_15 dX0_needValue_17 dX0_needValue_20 (Nat.le_of_ble_eq_true rfl) (Nat.le_of_ble_eq_true rfl) (Nat.le_of_ble_eq_true rfl) (Nat.le_of_ble_eq_true rfl) (fun t _ hz hk => ⟨⟨rfl, by first | exact gb_neg (by assumption) | exact gb_nlt (by decide) (by assumption) | exact gi_nle (by assumption)⟩, hz, hk⟩) (fun _ h => nomatch h) (by decide) (by decide)
  · refine lv_iload_n G.1 G.2.1 dX0_needValue_4 rfl (lv_at hl 0 rfl) ?_
    refine lv_sipush (v := nI 255) G.1 G.2.1 dX0_needValue_5 (by decide) ?_
    refine lv_icmp_le (tgt := 21) G.1 G.2.1 dX0_needValue_8 (by decide) (fun h_8 => ?_) (fun h_8 => ?_)
    · exact vx_ret (W.widen (k := 1) (n := 6) (Nat.zero_le _) (Nat.zero_le _) (W.vret G.1 G.2.1 G.2.2.1 (fun t ht hW => ⟨rfl, by first | exact gb_in (by decide) (by assumption) (by assumption) | exact gi_le (by assumption) (by assumption), ht⟩) (fun q h => nomatch h) dX0_needValue_21 G.2.2.2.2.2.2))
    · exact gx_throw (text := "out of 0 to 255") G hx0 hst (by decide +kernel) (by decide +kernel) (by decide +kernel) (by decide +kernel) gx_not_IA gx_good_IA (by decide +kernel) hZ0 hS hl.1 dX0_needValue_11 dX0_needValue_14 dX0_needValue_15 dX0_needValue_17 dX0_needValue_20 (Nat.le_of_ble_eq_true rfl) (Nat.le_of_ble_eq_true rfl) (Nat.le_of_ble_eq_true rfl) (Nat.le_of_ble_eq_true rfl) (fun t _ hz hk => ⟨⟨rfl, by first | exact gb_neg (by assumption) | exact gb_nlt (by decide) (by assumption) | exact gi_nle (by assumption)⟩, hz, hk⟩) (fun _ h => nomatch h) (by decide) (by decide)
set_option maxRecDepth 100000 in
set_option maxHeartbeats 4000000 in
/-- a check: needProfile -/
theorem mX0_needProfile (l : Launch) (hst : l.stackTraces = false) (D : va_G) (q : Nat → Nat) (cI : ClassId) (N : Nat → Nat) (S : Nat → Nat → Nat) (tr : Nat → Nat) (A : Nat → Prop) (hok : sp_ok N S) (b : Int32) : vx_Met l yX0_needProfile wsX0_needProfile { frames := 6, cells := 1, slots := 6, locals := 82 } (va_Pc [.ref (q 0), .int b] (fun U => xAt D q cI N S tr A U U.heap)) (va_Sv (fun _ => gb b (N 0) = true)) (gX (fun E => E = gIO ∧ gb b (N 0) = false)) 1 6 (fun _ => False) := by
  refine gc_vxmet [.ref (q 0), .int b] (by decide) rfl (Nat.le_of_ble_eq_true rfl) rfl ?_
  intro p e s m below meth c ls G hx0 hl hX
  have hZ0 := hX.2.2.2
  have hS : va_S A s.heap s.heap [] := va_S.rf
  have hn1 := hok.1.1
  have hn2 := hok.1.2
  refine lv_iload_n G.1 G.2.1 dX0_needProfile_0 rfl (lv_at hl 1 rfl) ?_
  refine lv_if_lt (tgt := 12) G.1 G.2.1 dX0_needProfile_1 (by decide) (fun h_1 => ?_) (fun h_1 => ?_)
  · exact gx_throw (text := "no such profile") G hx0 hst (by decide +kernel) (by decide +kernel) (by decide +kernel) (by decide +kernel) gx_not_IO gx_good_IO (by decide +kernel) hZ0 hS hl.1 dX0_needProfile_12 dX0_needProfile_15 dX0_needProfile_16 dX0_needProfile_18 dX0_needProfile_21 (Nat.le_of_ble_eq_true rfl) (Nat.le_of_ble_eq_true rfl) (Nat.le_of_ble_eq_true rfl) (Nat.le_of_ble_eq_true rfl) (fun t _ hz hk => ⟨⟨rfl, by first | exact gb_neg (by assumption) | exact gb_nlt (by omega) (by assumption)⟩, hz, hk⟩) (fun _ h => nomatch h) (by decide) (by decide)
  · refine lv_iload_n G.1 G.2.1 dX0_needProfile_4 rfl (lv_at hl 1 rfl) ?_
    refine lv_aload_n G.1 G.2.1 dX0_needProfile_5 rfl (lv_at hl 0 rfl) ?_
    refine gx_get G hX (by decide +kernel) 0 (by decide) (by decide +kernel) rfl rfl rfl dX0_needProfile_6 ?_
    refine lv_icmp_lt (tgt := 22) G.1 G.2.1 dX0_needProfile_9 (by decide) (fun h_9 => ?_) (fun h_9 => ?_)
    · exact vx_ret (W.widen (k := 1) (n := 6) (Nat.zero_le _) (Nat.zero_le _) (W.vret G.1 G.2.1 G.2.2.1 (fun t ht hW => ⟨rfl, gb_in (by omega) (by assumption) (by assumption), ht⟩) (fun q h => nomatch h) dX0_needProfile_22 G.2.2.2.2.2.2))
    · exact gx_throw (text := "no such profile") G hx0 hst (by decide +kernel) (by decide +kernel) (by decide +kernel) (by decide +kernel) gx_not_IO gx_good_IO (by decide +kernel) hZ0 hS hl.1 dX0_needProfile_12 dX0_needProfile_15 dX0_needProfile_16 dX0_needProfile_18 dX0_needProfile_21 (Nat.le_of_ble_eq_true rfl) (Nat.le_of_ble_eq_true rfl) (Nat.le_of_ble_eq_true rfl) (Nat.le_of_ble_eq_true rfl) (fun t _ hz hk => ⟨⟨rfl, by first | exact gb_neg (by assumption) | exact gb_nlt (by omega) (by assumption)⟩, hz, hk⟩) (fun _ h => nomatch h) (by decide) (by decide)
set_option maxRecDepth 100000 in
set_option maxHeartbeats 4000000 in
/-- a check: needChain -/
theorem mX0_needChain (l : Launch) (hst : l.stackTraces = false) (D : va_G) (q : Nat → Nat) (cI : ClassId) (N : Nat → Nat) (S : Nat → Nat → Nat) (tr : Nat → Nat) (A : Nat → Prop) (hok : sp_ok N S) (b : Int32) : vx_Met l yX0_needChain wsX0_needChain { frames := 6, cells := 1, slots := 6, locals := 82 } (va_Pc [.ref (q 0), .int b] (fun U => xAt D q cI N S tr A U U.heap)) (va_Sv (fun _ => gb b (N 5) = true)) (gX (fun E => E = gIO ∧ gb b (N 5) = false)) 1 6 (fun _ => False) := by
  refine gc_vxmet [.ref (q 0), .int b] (by decide) rfl (Nat.le_of_ble_eq_true rfl) rfl ?_
  intro p e s m below meth c ls G hx0 hl hX
  have hZ0 := hX.2.2.2
  have hS : va_S A s.heap s.heap [] := va_S.rf
  have hn1 := hok.1.1
  have hn2 := hok.1.2
  refine lv_iload_n G.1 G.2.1 dX0_needChain_0 rfl (lv_at hl 1 rfl) ?_
  refine lv_if_lt (tgt := 12) G.1 G.2.1 dX0_needChain_1 (by decide) (fun h_1 => ?_) (fun h_1 => ?_)
  · exact gx_throw (text := "no such chain") G hx0 hst (by decide +kernel) (by decide +kernel) (by decide +kernel) (by decide +kernel) gx_not_IO gx_good_IO (by decide +kernel) hZ0 hS hl.1 dX0_needChain_12 dX0_needChain_15 dX0_needChain_16 dX0_needChain_18 dX0_needChain_21 (Nat.le_of_ble_eq_true rfl) (Nat.le_of_ble_eq_true rfl) (Nat.le_of_ble_eq_true rfl) (Nat.le_of_ble_eq_true rfl) (fun t _ hz hk => ⟨⟨rfl, by first | exact gb_neg (by assumption) | exact gb_nlt (by omega) (by assumption)⟩, hz, hk⟩) (fun _ h => nomatch h) (by decide) (by decide)
  · refine lv_iload_n G.1 G.2.1 dX0_needChain_4 rfl (lv_at hl 1 rfl) ?_
    refine lv_aload_n G.1 G.2.1 dX0_needChain_5 rfl (lv_at hl 0 rfl) ?_
    refine gx_get G hX (by decide +kernel) 5 (by decide) (by decide +kernel) rfl rfl rfl dX0_needChain_6 ?_
    refine lv_icmp_lt (tgt := 22) G.1 G.2.1 dX0_needChain_9 (by decide) (fun h_9 => ?_) (fun h_9 => ?_)
    · exact vx_ret (W.widen (k := 1) (n := 6) (Nat.zero_le _) (Nat.zero_le _) (W.vret G.1 G.2.1 G.2.2.1 (fun t ht hW => ⟨rfl, gb_in (by omega) (by assumption) (by assumption), ht⟩) (fun q h => nomatch h) dX0_needChain_22 G.2.2.2.2.2.2))
    · exact gx_throw (text := "no such chain") G hx0 hst (by decide +kernel) (by decide +kernel) (by decide +kernel) (by decide +kernel) gx_not_IO gx_good_IO (by decide +kernel) hZ0 hS hl.1 dX0_needChain_12 dX0_needChain_15 dX0_needChain_16 dX0_needChain_18 dX0_needChain_21 (Nat.le_of_ble_eq_true rfl) (Nat.le_of_ble_eq_true rfl) (Nat.le_of_ble_eq_true rfl) (Nat.le_of_ble_eq_true rfl) (fun t _ hz hk => ⟨⟨rfl, by first | exact gb_neg (by assumption) | exact gb_nlt (by omega) (by assumption)⟩, hz, hk⟩) (fun _ h => nomatch h) (by decide) (by decide)
set_option maxRecDepth 100000 in
set_option maxHeartbeats 4000000 in
/-- a check: needFreeProfile -/
theorem mX0_needFreeProfile (l : Launch) (hst : l.stackTraces = false) (D : va_G) (q : Nat → Nat) (cI : ClassId) (N : Nat → Nat) (S : Nat → Nat → Nat) (tr : Nat → Nat) (A : Nat → Prop) (hok : sp_ok N S) (hN : N 10 < 64) (pf : Nat) (hb9 : pf < 8) : vx_Met l yX0_needFreeProfile wsX0_needFreeProfile { frames := 6, cells := 1, slots := 6, locals := 82 } (va_Pc [.ref (q 0), .int (nI pf)] (fun U => xAt D q cI N S tr A U U.heap)) (va_Sv (fun _ => sp_bit (sp_held N S) pf = 0)) (gX (fun E => E = gIS ∧ sp_bit (sp_held N S) pf ≠ 0)) 1 6 (fun _ => False) := by
  refine gc_vxmet [.ref (q 0), .int (nI pf)] (by decide) rfl (Nat.le_of_ble_eq_true rfl) rfl ?_
  intro p e s m below meth c ls G hx0 hl hX
  have hZ0 := hX.2.2.2
  have hS : va_S A s.heap s.heap [] := va_S.rf
  have hh := sp_held_lt hok
  refine lv_aload_n G.1 G.2.1 dX0_needFreeProfile_0 rfl (lv_at hl 0 rfl) ?_
  refine gc_v (As := []) (rest := []) G.fix (mX0_held l D q cI N S tr A  hok (by omega)) (cwV 0 G.2.2.2.2.2.1 gX0_needFreeProfile_X0_held rfl rfl rfl (by decide +kernel) ⟨Nat.le_of_ble_eq_true rfl, Nat.le_of_ble_eq_true rfl⟩) xAt_blind (va_recv hX.2.1 hX.1 (ci := 0) (q0 := 0) rfl rfl) (fun U hU hW => by rw [hU]; exact hX.moved hW) rfl hl.1 rfl (Nat.le_of_ble_eq_true rfl) dX0_needFreeProfile_1 (Nat.zero_le _) (Nat.zero_le _) (fun r hr => ?_)
  subst hr
  refine lv_iload_n G.1 G.2.1 dX0_needFreeProfile_4 rfl (lv_at hl 1 rfl) ?_
  refine gc_s (As := [.int (nI (sp_held N S)), .int (nI pf)]) (rest := []) G.fix (mX0_hasBit l (sp_held N S) pf (by first | omega | assumption | exact ok6 _ | apply hq) (by omega)) (va_cwS 2 G.2.2.2.2.2.1 gX0_needFreeProfile_X0_hasBit rfl rfl rfl (by decide +kernel) ⟨Nat.le_of_ble_eq_true rfl, Nat.le_of_ble_eq_true rfl⟩) gc_blindT (fun _ _ _ => trivial) rfl hl.1 rfl (Nat.le_of_ble_eq_true rfl) dX0_needFreeProfile_5 (Nat.zero_le _) (Nat.zero_le _) (fun r hr => ?_)
  subst hr
  refine gn_eqz G (by exact sp_b31 _ _) (tgt := 21) dX0_needFreeProfile_8 (by decide) (fun h_8 => ?_) (fun h_8 => ?_)
  · exact vx_ret (W.widen (k := 1) (n := 6) (Nat.zero_le _) (Nat.zero_le _) (W.vret G.1 G.2.1 G.2.2.1 (fun t ht hW => ⟨rfl, h_8, ht⟩) (fun q h => nomatch h) dX0_needFreeProfile_21 G.2.2.2.2.2.2))
  · exact gx_throw (text := "the profile is held") G hx0 hst (by decide +kernel) (by decide +kernel) (by decide +kernel) (by decide +kernel) gx_not_IS gx_good_IS (by decide +kernel) hZ0 hS hl.1 dX0_needFreeProfile_11 dX0_needFreeProfile_14 dX0_needFreeProfile_15 dX0_needFreeProfile_17 dX0_needFreeProfile_20 (Nat.le_of_ble_eq_true rfl) (Nat.le_of_ble_eq_true rfl) (Nat.le_of_ble_eq_true rfl) (Nat.le_of_ble_eq_true rfl) (fun t _ hz hk => ⟨⟨rfl, h_8⟩, hz, hk⟩) (fun _ h => nomatch h) (by decide) (by decide)
set_option maxRecDepth 100000 in
set_option maxHeartbeats 4000000 in
/-- a check: needFreeChain -/
theorem mX0_needFreeChain (l : Launch) (hst : l.stackTraces = false) (D : va_G) (q : Nat → Nat) (cI : ClassId) (N : Nat → Nat) (S : Nat → Nat → Nat) (tr : Nat → Nat) (A : Nat → Prop) (hok : sp_ok N S) (hN : N 10 < 64) (ch : Nat) (hb9 : ch < 6) : vx_Met l yX0_needFreeChain wsX0_needFreeChain { frames := 6, cells := 1, slots := 6, locals := 82 } (va_Pc [.ref (q 0), .int (nI ch)] (fun U => xAt D q cI N S tr A U U.heap)) (va_Sv (fun _ => sp_bit (N 10) ch = 0)) (gX (fun E => E = gIS ∧ sp_bit (N 10) ch ≠ 0)) 1 6 (fun _ => False) := by
  refine gc_vxmet [.ref (q 0), .int (nI ch)] (by decide) rfl (Nat.le_of_ble_eq_true rfl) rfl ?_
  intro p e s m below meth c ls G hx0 hl hX
  have hZ0 := hX.2.2.2
  have hS : va_S A s.heap s.heap [] := va_S.rf
  have hh := sp_held_lt hok
  refine lv_aload_n G.1 G.2.1 dX0_needFreeChain_0 rfl (lv_at hl 0 rfl) ?_
  refine gx_get G hX (by decide +kernel) 10 (by decide) (by decide +kernel) rfl rfl rfl dX0_needFreeChain_1 ?_
  refine lv_iload_n G.1 G.2.1 dX0_needFreeChain_4 rfl (lv_at hl 1 rfl) ?_
  refine gc_s (As := [.int (nI (N 10)), .int (nI ch)]) (rest := []) G.fix (mX0_hasBit l (N 10) ch (by first | omega | assumption | exact ok6 _ | apply hq) (by omega)) (va_cwS 2 G.2.2.2.2.2.1 gX0_needFreeChain_X0_hasBit rfl rfl rfl (by decide +kernel) ⟨Nat.le_of_ble_eq_true rfl, Nat.le_of_ble_eq_true rfl⟩) gc_blindT (fun _ _ _ => trivial) rfl hl.1 rfl (Nat.le_of_ble_eq_true rfl) dX0_needFreeChain_5 (Nat.zero_le _) (Nat.zero_le _) (fun r hr => ?_)
  subst hr
  refine gn_eqz G (by exact sp_b31 _ _) (tgt := 21) dX0_needFreeChain_8 (by decide) (fun h_8 => ?_) (fun h_8 => ?_)
  · exact vx_ret (W.widen (k := 1) (n := 6) (Nat.zero_le _) (Nat.zero_le _) (W.vret G.1 G.2.1 G.2.2.1 (fun t ht hW => ⟨rfl, h_8, ht⟩) (fun q h => nomatch h) dX0_needFreeChain_21 G.2.2.2.2.2.2))
  · exact gx_throw (text := "the chain is held") G hx0 hst (by decide +kernel) (by decide +kernel) (by decide +kernel) (by decide +kernel) gx_not_IS gx_good_IS (by decide +kernel) hZ0 hS hl.1 dX0_needFreeChain_11 dX0_needFreeChain_14 dX0_needFreeChain_15 dX0_needFreeChain_17 dX0_needFreeChain_20 (Nat.le_of_ble_eq_true rfl) (Nat.le_of_ble_eq_true rfl) (Nat.le_of_ble_eq_true rfl) (Nat.le_of_ble_eq_true rfl) (fun t _ hz hk => ⟨⟨rfl, h_8⟩, hz, hk⟩) (fun _ h => nomatch h) (by decide) (by decide)
end
section
/-! the class's public calls, but those with loops of their own */ -/
theorem gb_not3 {x : Int32} (h0 : ¬ x = 0) (h1 : ¬ x = nI 1) (h2 : ¬ x = nI 2) : gb x 3 = false := by
  cases hb : gb x 3 with
  | false => rfl
  | true =>
    obtain ⟨j, hj, rfl⟩ := gb_of (by decide) hb
    rcases (by omega : j = 0 ∨ j = 1 ∨ j = 2) with rfl | rfl | rfl
    · exact absurd rfl h0
    · exact absurd rfl h1
    · exact absurd rfl h2
theorem gb_is3 {x : Int32} (h : x = 0 ∨ x = nI 1 ∨ x = nI 2) : gb x 3 = true := by
  rcases h with rfl | rfl | rfl <;> decide
theorem gb_nle7 {x : Int32} (h : ¬ x ≤ nI 7) : gb x 8 = false := by
  have h1 : ¬ x.toInt ≤ (nI 7).toInt := fun z => h (Int32.le_iff_toInt_le.mpr z)
  rw [nI_toInt (by decide)] at h1
  simp only [gb, decide_eq_false_iff_not]
  omega
theorem gb_le7 {x : Int32} (h : ¬ x < 0) (h2 : x ≤ nI 7) : gb x 8 = true := by
  have h1 := Int32.le_iff_toInt_le.mp h2
  rw [nI_toInt (by decide)] at h1
  have h3 : ¬ x.toInt < 0 := fun z => h (Int32.lt_iff_toInt_lt.mpr (by simpa using z))
  simp only [gb, decide_eq_true_eq]
  omega
theorem sp_bit_test (x b : Nat) : sp_bit x b = if x.testBit b then 1 else 0 := by
  unfold sp_bit
  rw [← Nat.shiftRight_eq_div_pow]
  simp only [Nat.testBit, Nat.one_and_eq_mod_two]
  have h := Nat.mod_two_eq_zero_or_one (x >>> b)
  rcases h with h | h <;> simp [h]
theorem sp_xor_bit (x b : Nat) : sp_bit (x ^^^ 2 ^ b) b = 1 - sp_bit x b := by
  rw [sp_bit_test, sp_bit_test, Nat.testBit_xor, Nat.testBit_two_pow_self]
  cases x.testBit b <;> rfl
theorem xAt_free9 {D : va_G} {q : Nat → Nat} {cI : ClassId} {N : Nat → Nat} {S : Nat → Nat → Nat} {tr F : Nat → Nat} {A : Nat → Prop} {s : State} {H : Heap} (h : xAt D q cI N S tr A s H) : xAt D q cI N (gs S 9 F) tr A s H := by
  have e : xw q cI N (gs S 9 F) tr = xw q cI N S tr := rfl
  unfold xAt
  rw [e]
  exact h
theorem xAt_free10 {D : va_G} {q : Nat → Nat} {cI : ClassId} {N : Nat → Nat} {S : Nat → Nat → Nat} {tr F : Nat → Nat} {A : Nat → Prop} {s : State} {H : Heap} (h : xAt D q cI N S tr A s H) : xAt D q cI N (gs S 10 F) tr A s H := by
  have e : xw q cI N (gs S 10 F) tr = xw q cI N S tr := rfl
  unfold xAt
  rw [e]
  exact h
theorem gp_narrow_z (x b : Nat) : narrow .boolean (.int (nI (sp_bit x b))) = .int (nI (sp_bit x b)) := by
  have h := sp_bit_lt x b
  rcases (by omega : sp_bit x b = 0 ∨ sp_bit x b = 1) with e | e <;> rw [e] <;> rfl
set_option maxRecDepth 100000 in
set_option maxHeartbeats 4000000 in
/-- curve -/
theorem mX0_curve (l : Launch) (hst : l.stackTraces = false) (D : va_G) (q : Nat → Nat) (cI : ClassId) (N : Nat → Nat) (S : Nat → Nat → Nat) (tr : Nat → Nat) (A : Nat → Prop) (hok : sp_ok N S) (hinv : sp_inv N S) (i1 i2 i3 : Int32) : vx_Met l yX0_curve wsX0_curve { frames := 7, cells := 1, slots := 6, locals := 103 } (va_Pc [.ref (q 0), .int i1, .int i2, .int i3] (fun U => xAt D q cI N S tr A U U.heap)) (gQx D q cI (fun r N2 S2 => sA_curve N S i1 i2 i3 = true ∧ sB_curve N S i1 i2 i3 = true ∧ sC_curve N S i1 i2 i3 = true ∧ r = nI (sR_curve N S i1 i2 i3) ∧ N2 = sN_curve N S i1 i2 i3 ∧ S2 = sS_curve N S i1 i2 i3) A) (gXx D q cI N S A (gE3 (sA_curve N S i1 i2 i3) (sB_curve N S i1 i2 i3) (sC_curve N S i1 i2 i3))) 1 6 A := by
  refine gc_vxmet [.ref (q 0), .int i1, .int i2, .int i3] (by decide) rfl (Nat.le_of_ble_eq_true rfl) rfl ?_
  intro p e s m below meth c ls G hx0 hl hX
  have hZ0 := hX.2.2.2
  have hS : va_S A s.heap s.heap [] := va_S.rf
  have hok9 := hok
  obtain ⟨⟨ok0, ok5⟩, ok1, ok2, ok3, ok4, ok6, ok7, ok8, ok12, ok13, ok14⟩ := hok9
  have hN := hinv.2.2.2.1
  have hN9 := hinv.2.2.1
  refine lv_aload_n G.1 G.2.1 dX0_curve_0 rfl (lv_at hl 0 rfl) ?_
  refine lv_iload_n G.1 G.2.1 dX0_curve_1 rfl (lv_at hl 1 rfl) ?_
  refine gc_needT (vx_runV (As := [.int i1]) (rest := []) G.fix (mX0_needProfile l hst D q cI N S tr A hok i1) (cwV 1 G.2.2.2.2.2.1 gX0_curve_X0_needProfile rfl rfl rfl (by decide +kernel) ⟨Nat.le_of_ble_eq_true rfl, Nat.le_of_ble_eq_true rfl⟩) ⟨xAt_blind, va_recv hX.2.1 hX.1 (ci := 0) (q0 := 0) rfl rfl, fun U hU hW => ⟨rfl, by show xAt _ _ _ _ _ _ _ U U.heap; rw [hU]; exact hX.moved hW⟩⟩ rfl rfl hl.1 rfl (lv_room (Nat.le_of_ble_eq_true rfl)) dX0_curve_2 ⟨Nat.le_of_ble_eq_true rfl, Nat.le_of_ble_eq_true rfl⟩) hx0 G.2.2.2.2.2.2 (fun E t hE hz hk _ => ⟨Or.inl ⟨hE.1, (by simp [sA_curve, hE.2] <;> omega)⟩, gXx_of hX hS hz hk⟩) hS.2.2 (by decide) (by decide) (fun hA1 => ?_)
  obtain ⟨j1, hj1, rfl⟩ := gb_of (by omega) hA1
  have hg1 := gn_nI (show j1 < 2 ^ 31 by omega)
  refine lv_iload_n G.1 G.2.1 dX0_curve_5 rfl (lv_at hl 2 rfl) ?_
  refine gc_needT (vx_runS (As := [.int i2]) (rest := []) G.fix (mX0_needBand l hst i2) (va_cwS 1 G.2.2.2.2.2.1 gX0_curve_X0_needBand rfl rfl rfl (by decide +kernel) ⟨Nat.le_of_ble_eq_true rfl, Nat.le_of_ble_eq_true rfl⟩) ⟨gZ_blind, fun U hU hW => ⟨rfl, by show gZ _ U U.heap; rw [hU]; exact hX.2.2.2.none.moved hW⟩⟩ rfl rfl hl.1 rfl (lv_room (Nat.le_of_ble_eq_true rfl)) dX0_curve_6 ⟨Nat.le_of_ble_eq_true rfl, Nat.le_of_ble_eq_true rfl⟩) hx0 G.2.2.2.2.2.2 (fun E t hE hz hk _ => ⟨Or.inl ⟨hE.1, (by simp [sA_curve, hA1, hg1, hE.2] <;> omega)⟩, gXx_of hX hS hz hk⟩) hS.2.2 (by decide) (by decide) (fun hA2 => ?_)
  obtain ⟨j2, hj2, rfl⟩ := gb_of (by omega) hA2
  have hg2 := gn_nI (show j2 < 2 ^ 31 by omega)
  refine lv_iload_n G.1 G.2.1 dX0_curve_9 rfl (lv_at hl 3 rfl) ?_
  refine gc_needT (vx_runS (As := [.int i3]) (rest := []) G.fix (mX0_needValue l hst i3) (va_cwS 1 G.2.2.2.2.2.1 gX0_curve_X0_needValue rfl rfl rfl (by decide +kernel) ⟨Nat.le_of_ble_eq_true rfl, Nat.le_of_ble_eq_true rfl⟩) ⟨gZ_blind, fun U hU hW => ⟨rfl, by show gZ _ U U.heap; rw [hU]; exact hX.2.2.2.none.moved hW⟩⟩ rfl rfl hl.1 rfl (lv_room (Nat.le_of_ble_eq_true rfl)) dX0_curve_10 ⟨Nat.le_of_ble_eq_true rfl, Nat.le_of_ble_eq_true rfl⟩) hx0 G.2.2.2.2.2.2 (fun E t hE hz hk _ => ⟨Or.inr (Or.inl ⟨hE.1, (by simp [sA_curve, hA1, hA2, hg1, hg2]), (by simp [sB_curve, hg1, hg2, hE.2] <;> omega)⟩), gXx_of hX hS hz hk⟩) hS.2.2 (by decide) (by decide) (fun hB3 => ?_)
  obtain ⟨j3, hj3, rfl⟩ := gb_of (by omega) hB3
  have hg3 := gn_nI (show j3 < 2 ^ 31 by omega)
  refine lv_aload_n G.1 G.2.1 dX0_curve_13 rfl (lv_at hl 0 rfl) ?_
  refine lv_iload_n G.1 G.2.1 dX0_curve_14 rfl (lv_at hl 1 rfl) ?_
  refine lv_iload_n G.1 G.2.1 dX0_curve_15 rfl (lv_at hl 2 rfl) ?_
  refine lv_iload_n G.1 G.2.1 dX0_curve_16 rfl (lv_at hl 3 rfl) ?_
  refine gc_v (As := [.int (nI j1), .int (nI j2), .int (nI j3)]) (rest := []) G.fix (mX0_bent l D q cI N S tr A j1 j2 j3 hok (by first | omega | assumption | exact ok6 _ | apply hq) (by first | omega | assumption | exact ok6 _ | apply hq) (by first | omega | assumption | exact ok6 _ | apply hq)) (cwV 3 G.2.2.2.2.2.1 gX0_curve_X0_bent rfl rfl rfl (by decide +kernel) ⟨Nat.le_of_ble_eq_true rfl, Nat.le_of_ble_eq_true rfl⟩) xAt_blind (va_recv hX.2.1 hX.1 (ci := 0) (q0 := 0) rfl rfl) (fun U hU hW => by rw [hU]; exact hX.moved hW) rfl hl.1 rfl (Nat.le_of_ble_eq_true rfl) dX0_curve_17 (Nat.zero_le _) (Nat.zero_le _) (fun r hr => ?_)
  subst hr
  exact vx_ret (W.widen (k := 1) (n := 6) (Nat.zero_le _) (Nat.zero_le _) (W.iret G.1 G.2.1 G.2.2.1 (fun t ht hW => gQx_of hX hS ht ⟨(by simp [sA_curve, hA1, hA2, hg1, hg2, hg3]), (by simp [sB_curve, hB3, hg1, hg2, hg3]), rfl, (by show nI _ = nI _; simp only [sR_curve, hg1, hg2, hg3]), (by simp only [sN_curve, hg1, hg2, hg3]), (by simp only [sS_curve, hg1, hg2, hg3])⟩) hS.2.2 dX0_curve_20 G.2.2.2.2.2.2))
set_option maxRecDepth 100000 in
set_option maxHeartbeats 4000000 in
/-- taken -/
theorem mX0_taken (l : Launch) (hst : l.stackTraces = false) (D : va_G) (q : Nat → Nat) (cI : ClassId) (N : Nat → Nat) (S : Nat → Nat → Nat) (tr : Nat → Nat) (A : Nat → Prop) (hok : sp_ok N S) (hinv : sp_inv N S) (i1 i2 i3 : Int32) : vx_Met l yX0_taken wsX0_taken { frames := 7, cells := 1, slots := 6, locals := 103 } (va_Pc [.ref (q 0), .int i1, .int i2, .int i3] (fun U => xAt D q cI N S tr A U U.heap)) (gQx D q cI (fun r N2 S2 => sA_taken N S i1 i2 i3 = true ∧ sB_taken N S i1 i2 i3 = true ∧ sC_taken N S i1 i2 i3 = true ∧ r = nI (sR_taken N S i1 i2 i3) ∧ N2 = sN_taken N S i1 i2 i3 ∧ S2 = sS_taken N S i1 i2 i3) A) (gXx D q cI N S A (gE3 (sA_taken N S i1 i2 i3) (sB_taken N S i1 i2 i3) (sC_taken N S i1 i2 i3))) 1 6 A := by
  refine gc_vxmet [.ref (q 0), .int i1, .int i2, .int i3] (by decide) rfl (Nat.le_of_ble_eq_true rfl) rfl ?_
  intro p e s m below meth c ls G hx0 hl hX
  have hZ0 := hX.2.2.2
  have hS : va_S A s.heap s.heap [] := va_S.rf
  have hok9 := hok
  obtain ⟨⟨ok0, ok5⟩, ok1, ok2, ok3, ok4, ok6, ok7, ok8, ok12, ok13, ok14⟩ := hok9
  have hN := hinv.2.2.2.1
  have hN9 := hinv.2.2.1
  refine lv_aload_n G.1 G.2.1 dX0_taken_0 rfl (lv_at hl 0 rfl) ?_
  refine lv_iload_n G.1 G.2.1 dX0_taken_1 rfl (lv_at hl 1 rfl) ?_
  refine gc_needT (vx_runV (As := [.int i1]) (rest := []) G.fix (mX0_needProfile l hst D q cI N S tr A hok i1) (cwV 1 G.2.2.2.2.2.1 gX0_taken_X0_needProfile rfl rfl rfl (by decide +kernel) ⟨Nat.le_of_ble_eq_true rfl, Nat.le_of_ble_eq_true rfl⟩) ⟨xAt_blind, va_recv hX.2.1 hX.1 (ci := 0) (q0 := 0) rfl rfl, fun U hU hW => ⟨rfl, by show xAt _ _ _ _ _ _ _ U U.heap; rw [hU]; exact hX.moved hW⟩⟩ rfl rfl hl.1 rfl (lv_room (Nat.le_of_ble_eq_true rfl)) dX0_taken_2 ⟨Nat.le_of_ble_eq_true rfl, Nat.le_of_ble_eq_true rfl⟩) hx0 G.2.2.2.2.2.2 (fun E t hE hz hk _ => ⟨Or.inl ⟨hE.1, (by simp [sA_taken, hE.2] <;> omega)⟩, gXx_of hX hS hz hk⟩) hS.2.2 (by decide) (by decide) (fun hA1 => ?_)
  obtain ⟨j1, hj1, rfl⟩ := gb_of (by omega) hA1
  have hg1 := gn_nI (show j1 < 2 ^ 31 by omega)
  refine lv_iload_n G.1 G.2.1 dX0_taken_5 rfl (lv_at hl 2 rfl) ?_
  refine gc_needT (vx_runS (As := [.int i2]) (rest := []) G.fix (mX0_needBand l hst i2) (va_cwS 1 G.2.2.2.2.2.1 gX0_taken_X0_needBand rfl rfl rfl (by decide +kernel) ⟨Nat.le_of_ble_eq_true rfl, Nat.le_of_ble_eq_true rfl⟩) ⟨gZ_blind, fun U hU hW => ⟨rfl, by show gZ _ U U.heap; rw [hU]; exact hX.2.2.2.none.moved hW⟩⟩ rfl rfl hl.1 rfl (lv_room (Nat.le_of_ble_eq_true rfl)) dX0_taken_6 ⟨Nat.le_of_ble_eq_true rfl, Nat.le_of_ble_eq_true rfl⟩) hx0 G.2.2.2.2.2.2 (fun E t hE hz hk _ => ⟨Or.inl ⟨hE.1, (by simp [sA_taken, hA1, hg1, hE.2] <;> omega)⟩, gXx_of hX hS hz hk⟩) hS.2.2 (by decide) (by decide) (fun hA2 => ?_)
  obtain ⟨j2, hj2, rfl⟩ := gb_of (by omega) hA2
  have hg2 := gn_nI (show j2 < 2 ^ 31 by omega)
  refine lv_iload_n G.1 G.2.1 dX0_taken_9 rfl (lv_at hl 3 rfl) ?_
  refine gc_needT (vx_runS (As := [.int i3]) (rest := []) G.fix (mX0_needValue l hst i3) (va_cwS 1 G.2.2.2.2.2.1 gX0_taken_X0_needValue rfl rfl rfl (by decide +kernel) ⟨Nat.le_of_ble_eq_true rfl, Nat.le_of_ble_eq_true rfl⟩) ⟨gZ_blind, fun U hU hW => ⟨rfl, by show gZ _ U U.heap; rw [hU]; exact hX.2.2.2.none.moved hW⟩⟩ rfl rfl hl.1 rfl (lv_room (Nat.le_of_ble_eq_true rfl)) dX0_taken_10 ⟨Nat.le_of_ble_eq_true rfl, Nat.le_of_ble_eq_true rfl⟩) hx0 G.2.2.2.2.2.2 (fun E t hE hz hk _ => ⟨Or.inr (Or.inl ⟨hE.1, (by simp [sA_taken, hA1, hA2, hg1, hg2]), (by simp [sB_taken, hg1, hg2, hE.2] <;> omega)⟩), gXx_of hX hS hz hk⟩) hS.2.2 (by decide) (by decide) (fun hB3 => ?_)
  obtain ⟨j3, hj3, rfl⟩ := gb_of (by omega) hB3
  have hg3 := gn_nI (show j3 < 2 ^ 31 by omega)
  refine lv_aload_n G.1 G.2.1 dX0_taken_13 rfl (lv_at hl 0 rfl) ?_
  refine lv_iload_n G.1 G.2.1 dX0_taken_14 rfl (lv_at hl 1 rfl) ?_
  refine lv_iload_n G.1 G.2.1 dX0_taken_15 rfl (lv_at hl 2 rfl) ?_
  refine lv_iload_n G.1 G.2.1 dX0_taken_16 rfl (lv_at hl 3 rfl) ?_
  refine gc_v (As := [.int (nI j1), .int (nI j2), .int (nI j3)]) (rest := []) G.fix (mX0_take l D q cI N S tr A j1 j2 j3 hok (by first | omega | assumption | exact ok6 _ | apply hq) (by first | omega | assumption | exact ok6 _ | apply hq) (by first | omega | assumption | exact ok6 _ | apply hq)) (cwV 3 G.2.2.2.2.2.1 gX0_taken_X0_take rfl rfl rfl (by decide +kernel) ⟨Nat.le_of_ble_eq_true rfl, Nat.le_of_ble_eq_true rfl⟩) xAt_blind (va_recv hX.2.1 hX.1 (ci := 0) (q0 := 0) rfl rfl) (fun U hU hW => by rw [hU]; exact hX.moved hW) rfl hl.1 rfl (Nat.le_of_ble_eq_true rfl) dX0_taken_17 (Nat.zero_le _) (Nat.zero_le _) (fun r hr => ?_)
  subst hr
  exact vx_ret (W.widen (k := 1) (n := 6) (Nat.zero_le _) (Nat.zero_le _) (W.iret G.1 G.2.1 G.2.2.1 (fun t ht hW => gQx_of hX hS ht ⟨(by simp [sA_taken, hA1, hA2, hg1, hg2, hg3]), (by simp [sB_taken, hB3, hg1, hg2, hg3]), rfl, (by show nI _ = nI _; simp only [sR_taken, hg1, hg2, hg3]), (by simp only [sN_taken, hg1, hg2, hg3]), (by simp only [sS_taken, hg1, hg2, hg3])⟩) hS.2.2 dX0_taken_20 G.2.2.2.2.2.2))
set_option maxRecDepth 100000 in
set_option maxHeartbeats 4000000 in
/-- through -/
theorem mX0_through (l : Launch) (hst : l.stackTraces = false) (D : va_G) (q : Nat → Nat) (cI : ClassId) (N : Nat → Nat) (S : Nat → Nat → Nat) (tr : Nat → Nat) (A : Nat → Prop) (hok : sp_ok N S) (hinv : sp_inv N S) (i1 i2 i3 : Int32) : vx_Met l yX0_through wsX0_through { frames := 7, cells := 1, slots := 6, locals := 124 } (va_Pc [.ref (q 0), .int i1, .int i2, .int i3] (fun U => xAt D q cI N S tr A U U.heap)) (gQx D q cI (fun r N2 S2 => sA_through N S i1 i2 i3 = true ∧ sB_through N S i1 i2 i3 = true ∧ sC_through N S i1 i2 i3 = true ∧ r = nI (sR_through N S i1 i2 i3) ∧ N2 = sN_through N S i1 i2 i3 ∧ S2 = sS_through N S i1 i2 i3) A) (gXx D q cI N S A (gE3 (sA_through N S i1 i2 i3) (sB_through N S i1 i2 i3) (sC_through N S i1 i2 i3))) 1 6 A := by
  refine gc_vxmet [.ref (q 0), .int i1, .int i2, .int i3] (by decide) rfl (Nat.le_of_ble_eq_true rfl) rfl ?_
  intro p e s m below meth c ls G hx0 hl hX
  have hZ0 := hX.2.2.2
  have hS : va_S A s.heap s.heap [] := va_S.rf
  have hok9 := hok
  obtain ⟨⟨ok0, ok5⟩, ok1, ok2, ok3, ok4, ok6, ok7, ok8, ok12, ok13, ok14⟩ := hok9
  have hN := hinv.2.2.2.1
  have hN9 := hinv.2.2.1
  refine lv_aload_n G.1 G.2.1 dX0_through_0 rfl (lv_at hl 0 rfl) ?_
  refine lv_iload_n G.1 G.2.1 dX0_through_1 rfl (lv_at hl 1 rfl) ?_
  refine gc_needT (vx_runV (As := [.int i1]) (rest := []) G.fix (mX0_needChain l hst D q cI N S tr A hok i1) (cwV 1 G.2.2.2.2.2.1 gX0_through_X0_needChain rfl rfl rfl (by decide +kernel) ⟨Nat.le_of_ble_eq_true rfl, Nat.le_of_ble_eq_true rfl⟩) ⟨xAt_blind, va_recv hX.2.1 hX.1 (ci := 0) (q0 := 0) rfl rfl, fun U hU hW => ⟨rfl, by show xAt _ _ _ _ _ _ _ U U.heap; rw [hU]; exact hX.moved hW⟩⟩ rfl rfl hl.1 rfl (lv_room (Nat.le_of_ble_eq_true rfl)) dX0_through_2 ⟨Nat.le_of_ble_eq_true rfl, Nat.le_of_ble_eq_true rfl⟩) hx0 G.2.2.2.2.2.2 (fun E t hE hz hk _ => ⟨Or.inl ⟨hE.1, (by simp [sA_through, hE.2] <;> omega)⟩, gXx_of hX hS hz hk⟩) hS.2.2 (by decide) (by decide) (fun hA1 => ?_)
  obtain ⟨j1, hj1, rfl⟩ := gb_of (by omega) hA1
  have hg1 := gn_nI (show j1 < 2 ^ 31 by omega)
  refine lv_iload_n G.1 G.2.1 dX0_through_5 rfl (lv_at hl 2 rfl) ?_
  refine gc_needT (vx_runS (As := [.int i2]) (rest := []) G.fix (mX0_needBand l hst i2) (va_cwS 1 G.2.2.2.2.2.1 gX0_through_X0_needBand rfl rfl rfl (by decide +kernel) ⟨Nat.le_of_ble_eq_true rfl, Nat.le_of_ble_eq_true rfl⟩) ⟨gZ_blind, fun U hU hW => ⟨rfl, by show gZ _ U U.heap; rw [hU]; exact hX.2.2.2.none.moved hW⟩⟩ rfl rfl hl.1 rfl (lv_room (Nat.le_of_ble_eq_true rfl)) dX0_through_6 ⟨Nat.le_of_ble_eq_true rfl, Nat.le_of_ble_eq_true rfl⟩) hx0 G.2.2.2.2.2.2 (fun E t hE hz hk _ => ⟨Or.inl ⟨hE.1, (by simp [sA_through, hA1, hg1, hE.2] <;> omega)⟩, gXx_of hX hS hz hk⟩) hS.2.2 (by decide) (by decide) (fun hA2 => ?_)
  obtain ⟨j2, hj2, rfl⟩ := gb_of (by omega) hA2
  have hg2 := gn_nI (show j2 < 2 ^ 31 by omega)
  refine lv_iload_n G.1 G.2.1 dX0_through_9 rfl (lv_at hl 3 rfl) ?_
  refine gc_needT (vx_runS (As := [.int i3]) (rest := []) G.fix (mX0_needValue l hst i3) (va_cwS 1 G.2.2.2.2.2.1 gX0_through_X0_needValue rfl rfl rfl (by decide +kernel) ⟨Nat.le_of_ble_eq_true rfl, Nat.le_of_ble_eq_true rfl⟩) ⟨gZ_blind, fun U hU hW => ⟨rfl, by show gZ _ U U.heap; rw [hU]; exact hX.2.2.2.none.moved hW⟩⟩ rfl rfl hl.1 rfl (lv_room (Nat.le_of_ble_eq_true rfl)) dX0_through_10 ⟨Nat.le_of_ble_eq_true rfl, Nat.le_of_ble_eq_true rfl⟩) hx0 G.2.2.2.2.2.2 (fun E t hE hz hk _ => ⟨Or.inr (Or.inl ⟨hE.1, (by simp [sA_through, hA1, hA2, hg1, hg2]), (by simp [sB_through, hg1, hg2, hE.2] <;> omega)⟩), gXx_of hX hS hz hk⟩) hS.2.2 (by decide) (by decide) (fun hB3 => ?_)
  obtain ⟨j3, hj3, rfl⟩ := gb_of (by omega) hB3
  have hg3 := gn_nI (show j3 < 2 ^ 31 by omega)
  refine lv_aload_n G.1 G.2.1 dX0_through_13 rfl (lv_at hl 0 rfl) ?_
  refine lv_iload_n G.1 G.2.1 dX0_through_14 rfl (lv_at hl 1 rfl) ?_
  refine lv_iload_n G.1 G.2.1 dX0_through_15 rfl (lv_at hl 2 rfl) ?_
  refine lv_iload_n G.1 G.2.1 dX0_through_16 rfl (lv_at hl 3 rfl) ?_
  refine gc_v (As := [.int (nI j1), .int (nI j2), .int (nI j3)]) (rest := []) G.fix (mX0_pass l D q cI N S tr A j1 j2 j3 hok (by first | omega | assumption | exact ok6 _ | apply hq) (by first | omega | assumption | exact ok6 _ | apply hq) (by first | omega | assumption | exact ok6 _ | apply hq)) (cwV 3 G.2.2.2.2.2.1 gX0_through_X0_pass rfl rfl rfl (by decide +kernel) ⟨Nat.le_of_ble_eq_true rfl, Nat.le_of_ble_eq_true rfl⟩) xAt_blind (va_recv hX.2.1 hX.1 (ci := 0) (q0 := 0) rfl rfl) (fun U hU hW => by rw [hU]; exact hX.moved hW) rfl hl.1 rfl (Nat.le_of_ble_eq_true rfl) dX0_through_17 (Nat.zero_le _) (Nat.zero_le _) (fun r hr => ?_)
  subst hr
  exact vx_ret (W.widen (k := 1) (n := 6) (Nat.zero_le _) (Nat.zero_le _) (W.iret G.1 G.2.1 G.2.2.1 (fun t ht hW => gQx_of hX hS ht ⟨(by simp [sA_through, hA1, hA2, hg1, hg2, hg3]), (by simp [sB_through, hB3, hg1, hg2, hg3]), rfl, (by show nI _ = nI _; simp only [sR_through, hg1, hg2, hg3]), (by simp only [sN_through, hg1, hg2, hg3]), (by simp only [sS_through, hg1, hg2, hg3])⟩) hS.2.2 dX0_through_20 G.2.2.2.2.2.2))
set_option maxRecDepth 100000 in
set_option maxHeartbeats 4000000 in
/-- paint -/
theorem mX0_paint (l : Launch) (hst : l.stackTraces = false) (D : va_G) (q : Nat → Nat) (cI : ClassId) (N : Nat → Nat) (S : Nat → Nat → Nat) (tr : Nat → Nat) (A : Nat → Prop) (hok : sp_ok N S) (hinv : sp_inv N S) (i1 i2 i3 : Int32) : vx_Met l yX0_paint wsX0_paint { frames := 7, cells := 1, slots := 6, locals := 102 } (va_Pc [.ref (q 0), .int i1, .int i2, .int i3] (fun U => xAt D q cI N S tr A U U.heap)) (gQx D q cI (fun r N2 S2 => sA_paint N S i1 i2 i3 = true ∧ sB_paint N S i1 i2 i3 = true ∧ sC_paint N S i1 i2 i3 = true ∧ r = nI (sR_paint N S i1 i2 i3) ∧ N2 = sN_paint N S i1 i2 i3 ∧ S2 = sS_paint N S i1 i2 i3) A) (gXx D q cI N S A (gE3 (sA_paint N S i1 i2 i3) (sB_paint N S i1 i2 i3) (sC_paint N S i1 i2 i3))) 1 6 A := by
  refine gc_vxmet [.ref (q 0), .int i1, .int i2, .int i3] (by decide) rfl (Nat.le_of_ble_eq_true rfl) rfl ?_
  intro p e s m below meth c ls G hx0 hl hX
  have hZ0 := hX.2.2.2
  have hS : va_S A s.heap s.heap [] := va_S.rf
  have hok9 := hok
  obtain ⟨⟨ok0, ok5⟩, ok1, ok2, ok3, ok4, ok6, ok7, ok8, ok12, ok13, ok14⟩ := hok9
  have hN := hinv.2.2.2.1
  have hN9 := hinv.2.2.1
  refine lv_iload_n G.1 G.2.1 dX0_paint_0 rfl (lv_at hl 1 rfl) ?_
  refine gc_needT (vx_runS (As := [.int i1]) (rest := []) G.fix (mX0_needPixel l hst i1) (va_cwS 1 G.2.2.2.2.2.1 gX0_paint_X0_needPixel rfl rfl rfl (by decide +kernel) ⟨Nat.le_of_ble_eq_true rfl, Nat.le_of_ble_eq_true rfl⟩) ⟨gZ_blind, fun U hU hW => ⟨rfl, by show gZ _ U U.heap; rw [hU]; exact hX.2.2.2.none.moved hW⟩⟩ rfl rfl hl.1 rfl (lv_room (Nat.le_of_ble_eq_true rfl)) dX0_paint_1 ⟨Nat.le_of_ble_eq_true rfl, Nat.le_of_ble_eq_true rfl⟩) hx0 G.2.2.2.2.2.2 (fun E t hE hz hk _ => ⟨Or.inl ⟨hE.1, (by simp [sA_paint, hE.2] <;> omega)⟩, gXx_of hX hS hz hk⟩) hS.2.2 (by decide) (by decide) (fun hA1 => ?_)
  obtain ⟨j1, hj1, rfl⟩ := gb_of (by omega) hA1
  have hg1 := gn_nI (show j1 < 2 ^ 31 by omega)
  refine lv_iload_n G.1 G.2.1 dX0_paint_4 rfl (lv_at hl 2 rfl) ?_
  refine gc_needT (vx_runS (As := [.int i2]) (rest := []) G.fix (mX0_needBand l hst i2) (va_cwS 1 G.2.2.2.2.2.1 gX0_paint_X0_needBand rfl rfl rfl (by decide +kernel) ⟨Nat.le_of_ble_eq_true rfl, Nat.le_of_ble_eq_true rfl⟩) ⟨gZ_blind, fun U hU hW => ⟨rfl, by show gZ _ U U.heap; rw [hU]; exact hX.2.2.2.none.moved hW⟩⟩ rfl rfl hl.1 rfl (lv_room (Nat.le_of_ble_eq_true rfl)) dX0_paint_5 ⟨Nat.le_of_ble_eq_true rfl, Nat.le_of_ble_eq_true rfl⟩) hx0 G.2.2.2.2.2.2 (fun E t hE hz hk _ => ⟨Or.inl ⟨hE.1, (by simp [sA_paint, hA1, hg1, hE.2] <;> omega)⟩, gXx_of hX hS hz hk⟩) hS.2.2 (by decide) (by decide) (fun hA2 => ?_)
  obtain ⟨j2, hj2, rfl⟩ := gb_of (by omega) hA2
  have hg2 := gn_nI (show j2 < 2 ^ 31 by omega)
  refine lv_iload_n G.1 G.2.1 dX0_paint_8 rfl (lv_at hl 3 rfl) ?_
  refine gc_needT (vx_runS (As := [.int i3]) (rest := []) G.fix (mX0_needValue l hst i3) (va_cwS 1 G.2.2.2.2.2.1 gX0_paint_X0_needValue rfl rfl rfl (by decide +kernel) ⟨Nat.le_of_ble_eq_true rfl, Nat.le_of_ble_eq_true rfl⟩) ⟨gZ_blind, fun U hU hW => ⟨rfl, by show gZ _ U U.heap; rw [hU]; exact hX.2.2.2.none.moved hW⟩⟩ rfl rfl hl.1 rfl (lv_room (Nat.le_of_ble_eq_true rfl)) dX0_paint_9 ⟨Nat.le_of_ble_eq_true rfl, Nat.le_of_ble_eq_true rfl⟩) hx0 G.2.2.2.2.2.2 (fun E t hE hz hk _ => ⟨Or.inr (Or.inl ⟨hE.1, (by simp [sA_paint, hA1, hA2, hg1, hg2]), (by simp [sB_paint, hg1, hg2, hE.2] <;> omega)⟩), gXx_of hX hS hz hk⟩) hS.2.2 (by decide) (by decide) (fun hB3 => ?_)
  obtain ⟨j3, hj3, rfl⟩ := gb_of (by omega) hB3
  have hg3 := gn_nI (show j3 < 2 ^ 31 by omega)
  refine lv_aload_n G.1 G.2.1 dX0_paint_12 rfl (lv_at hl 0 rfl) ?_
  refine gx_get G hX (by decide +kernel) 12 (by decide) (by decide +kernel) rfl rfl rfl dX0_paint_13 ?_
  refine lv_iload_n G.1 G.2.1 dX0_paint_16 rfl (lv_at hl 1 rfl) ?_
  refine lv_iconst (v := nI 3) G.1 G.2.1 dX0_paint_17 (by decide) ?_
  refine gn_imul G dX0_paint_18 ?_
  refine lv_iload_n G.1 G.2.1 dX0_paint_19 rfl (lv_at hl 2 rfl) ?_
  refine gn_iadd G dX0_paint_20 ?_
  refine lv_iload_n G.1 G.2.1 dX0_paint_21 rfl (lv_at hl 3 rfl) ?_
  refine gx_swap (k := 12) (kp := 9) (len := 18) (F := S 12) (i := (j1 * 3) + j2) (v := j3) (S' := (gs S 12 (gu (S 12) ((j1 * 3) + j2) j3))) (tr' := tr) (rest := []) G.fix (mX0_swap l D (q 12) cI 18 (S 12) ((j1 * 3) + j2) j3 (by first | omega | assumption)) (va_cwS 3 G.2.2.2.2.2.1 gX0_paint_X0_swap rfl rfl rfl (by decide +kernel) ⟨Nat.le_of_ble_eq_true rfl, Nat.le_of_ble_eq_true rfl⟩) hX hS rfl (rfl) hl.1 rfl (Nat.le_of_ble_eq_true rfl) dX0_paint_22 (Nat.zero_le _) (Nat.zero_le _) (fun H1 locs1 hX hS => ?_)
  exact vx_ret (W.widen (k := 1) (n := 6) (Nat.zero_le _) (Nat.zero_le _) (W.iret G.1 G.2.1 G.2.2.1 (fun t ht hW => gQx_of hX hS ht ⟨(by simp [sA_paint, hA1, hA2, hg1, hg2, hg3]), (by simp [sB_paint, hB3, hg1, hg2, hg3]), rfl, (by show nI _ = nI _; simp only [sR_paint, hg1, hg2, hg3]), (by simp only [sN_paint, hg1, hg2, hg3]), (by simp only [sS_paint, hg1, hg2, hg3])⟩) hS.2.2 dX0_paint_25 G.2.2.2.2.2.2))
set_option maxRecDepth 100000 in
set_option maxHeartbeats 4000000 in
/-- spot -/
theorem mX0_spot (l : Launch) (hst : l.stackTraces = false) (D : va_G) (q : Nat → Nat) (cI : ClassId) (N : Nat → Nat) (S : Nat → Nat → Nat) (tr : Nat → Nat) (A : Nat → Prop) (hok : sp_ok N S) (hinv : sp_inv N S) (i1 i2 i3 : Int32) : vx_Met l yX0_spot wsX0_spot { frames := 7, cells := 1, slots := 6, locals := 102 } (va_Pc [.ref (q 0), .int i1, .int i2, .int i3] (fun U => xAt D q cI N S tr A U U.heap)) (gQx D q cI (fun r N2 S2 => sA_spot N S i1 i2 i3 = true ∧ sB_spot N S i1 i2 i3 = true ∧ sC_spot N S i1 i2 i3 = true ∧ r = nI (sR_spot N S i1 i2 i3) ∧ N2 = sN_spot N S i1 i2 i3 ∧ S2 = sS_spot N S i1 i2 i3) A) (gXx D q cI N S A (gE3 (sA_spot N S i1 i2 i3) (sB_spot N S i1 i2 i3) (sC_spot N S i1 i2 i3))) 1 6 A := by
  refine gc_vxmet [.ref (q 0), .int i1, .int i2, .int i3] (by decide) rfl (Nat.le_of_ble_eq_true rfl) rfl ?_
  intro p e s m below meth c ls G hx0 hl hX
  have hZ0 := hX.2.2.2
  have hS : va_S A s.heap s.heap [] := va_S.rf
  have hok9 := hok
  obtain ⟨⟨ok0, ok5⟩, ok1, ok2, ok3, ok4, ok6, ok7, ok8, ok12, ok13, ok14⟩ := hok9
  have hN := hinv.2.2.2.1
  have hN9 := hinv.2.2.1
  refine lv_iload_n G.1 G.2.1 dX0_spot_0 rfl (lv_at hl 1 rfl) ?_
  refine gc_needT (vx_runS (As := [.int i1]) (rest := []) G.fix (mX0_needPixel l hst i1) (va_cwS 1 G.2.2.2.2.2.1 gX0_spot_X0_needPixel rfl rfl rfl (by decide +kernel) ⟨Nat.le_of_ble_eq_true rfl, Nat.le_of_ble_eq_true rfl⟩) ⟨gZ_blind, fun U hU hW => ⟨rfl, by show gZ _ U U.heap; rw [hU]; exact hX.2.2.2.none.moved hW⟩⟩ rfl rfl hl.1 rfl (lv_room (Nat.le_of_ble_eq_true rfl)) dX0_spot_1 ⟨Nat.le_of_ble_eq_true rfl, Nat.le_of_ble_eq_true rfl⟩) hx0 G.2.2.2.2.2.2 (fun E t hE hz hk _ => ⟨Or.inl ⟨hE.1, (by simp [sA_spot, hE.2] <;> omega)⟩, gXx_of hX hS hz hk⟩) hS.2.2 (by decide) (by decide) (fun hA1 => ?_)
  obtain ⟨j1, hj1, rfl⟩ := gb_of (by omega) hA1
  have hg1 := gn_nI (show j1 < 2 ^ 31 by omega)
  refine lv_iload_n G.1 G.2.1 dX0_spot_4 rfl (lv_at hl 2 rfl) ?_
  refine gc_needT (vx_runS (As := [.int i2]) (rest := []) G.fix (mX0_needInk l hst i2) (va_cwS 1 G.2.2.2.2.2.1 gX0_spot_X0_needInk rfl rfl rfl (by decide +kernel) ⟨Nat.le_of_ble_eq_true rfl, Nat.le_of_ble_eq_true rfl⟩) ⟨gZ_blind, fun U hU hW => ⟨rfl, by show gZ _ U U.heap; rw [hU]; exact hX.2.2.2.none.moved hW⟩⟩ rfl rfl hl.1 rfl (lv_room (Nat.le_of_ble_eq_true rfl)) dX0_spot_5 ⟨Nat.le_of_ble_eq_true rfl, Nat.le_of_ble_eq_true rfl⟩) hx0 G.2.2.2.2.2.2 (fun E t hE hz hk _ => ⟨Or.inl ⟨hE.1, (by simp [sA_spot, hA1, hg1, hE.2] <;> omega)⟩, gXx_of hX hS hz hk⟩) hS.2.2 (by decide) (by decide) (fun hA2 => ?_)
  obtain ⟨j2, hj2, rfl⟩ := gb_of (by omega) hA2
  have hg2 := gn_nI (show j2 < 2 ^ 31 by omega)
  refine lv_iload_n G.1 G.2.1 dX0_spot_8 rfl (lv_at hl 3 rfl) ?_
  refine gc_needT (vx_runS (As := [.int i3]) (rest := []) G.fix (mX0_needValue l hst i3) (va_cwS 1 G.2.2.2.2.2.1 gX0_spot_X0_needValue rfl rfl rfl (by decide +kernel) ⟨Nat.le_of_ble_eq_true rfl, Nat.le_of_ble_eq_true rfl⟩) ⟨gZ_blind, fun U hU hW => ⟨rfl, by show gZ _ U U.heap; rw [hU]; exact hX.2.2.2.none.moved hW⟩⟩ rfl rfl hl.1 rfl (lv_room (Nat.le_of_ble_eq_true rfl)) dX0_spot_9 ⟨Nat.le_of_ble_eq_true rfl, Nat.le_of_ble_eq_true rfl⟩) hx0 G.2.2.2.2.2.2 (fun E t hE hz hk _ => ⟨Or.inr (Or.inl ⟨hE.1, (by simp [sA_spot, hA1, hA2, hg1, hg2]), (by simp [sB_spot, hg1, hg2, hE.2] <;> omega)⟩), gXx_of hX hS hz hk⟩) hS.2.2 (by decide) (by decide) (fun hB3 => ?_)
  obtain ⟨j3, hj3, rfl⟩ := gb_of (by omega) hB3
  have hg3 := gn_nI (show j3 < 2 ^ 31 by omega)
  refine lv_aload_n G.1 G.2.1 dX0_spot_12 rfl (lv_at hl 0 rfl) ?_
  refine gx_get G hX (by decide +kernel) 13 (by decide) (by decide +kernel) rfl rfl rfl dX0_spot_13 ?_
  refine lv_iload_n G.1 G.2.1 dX0_spot_16 rfl (lv_at hl 1 rfl) ?_
  refine lv_iconst (v := nI 3) G.1 G.2.1 dX0_spot_17 (by decide) ?_
  refine gn_imul G dX0_spot_18 ?_
  refine lv_iload_n G.1 G.2.1 dX0_spot_19 rfl (lv_at hl 2 rfl) ?_
  refine gn_iadd G dX0_spot_20 ?_
  refine lv_iload_n G.1 G.2.1 dX0_spot_21 rfl (lv_at hl 3 rfl) ?_
  refine gx_swap (k := 13) (kp := 10) (len := 18) (F := S 13) (i := (j1 * 3) + j2) (v := j3) (S' := (gs S 13 (gu (S 13) ((j1 * 3) + j2) j3))) (tr' := tr) (rest := []) G.fix (mX0_swap l D (q 13) cI 18 (S 13) ((j1 * 3) + j2) j3 (by first | omega | assumption)) (va_cwS 3 G.2.2.2.2.2.1 gX0_spot_X0_swap rfl rfl rfl (by decide +kernel) ⟨Nat.le_of_ble_eq_true rfl, Nat.le_of_ble_eq_true rfl⟩) hX hS rfl (rfl) hl.1 rfl (Nat.le_of_ble_eq_true rfl) dX0_spot_22 (Nat.zero_le _) (Nat.zero_le _) (fun H1 locs1 hX hS => ?_)
  exact vx_ret (W.widen (k := 1) (n := 6) (Nat.zero_le _) (Nat.zero_le _) (W.iret G.1 G.2.1 G.2.2.1 (fun t ht hW => gQx_of hX hS ht ⟨(by simp [sA_spot, hA1, hA2, hg1, hg2, hg3]), (by simp [sB_spot, hB3, hg1, hg2, hg3]), rfl, (by show nI _ = nI _; simp only [sR_spot, hg1, hg2, hg3]), (by simp only [sN_spot, hg1, hg2, hg3]), (by simp only [sS_spot, hg1, hg2, hg3])⟩) hS.2.2 dX0_spot_25 G.2.2.2.2.2.2))
set_option maxRecDepth 100000 in
set_option maxHeartbeats 4000000 in
/-- mix -/
theorem mX0_mix (l : Launch) (hst : l.stackTraces = false) (D : va_G) (q : Nat → Nat) (cI : ClassId) (N : Nat → Nat) (S : Nat → Nat → Nat) (tr : Nat → Nat) (A : Nat → Prop) (hok : sp_ok N S) (hinv : sp_inv N S) (i1 i2 i3 : Int32) : vx_Met l yX0_mix wsX0_mix { frames := 7, cells := 1, slots := 6, locals := 102 } (va_Pc [.ref (q 0), .int i1, .int i2, .int i3] (fun U => xAt D q cI N S tr A U U.heap)) (gQx D q cI (fun r N2 S2 => sA_mix N S i1 i2 i3 = true ∧ sB_mix N S i1 i2 i3 = true ∧ sC_mix N S i1 i2 i3 = true ∧ r = nI (sR_mix N S i1 i2 i3) ∧ N2 = sN_mix N S i1 i2 i3 ∧ S2 = sS_mix N S i1 i2 i3) A) (gXx D q cI N S A (gE3 (sA_mix N S i1 i2 i3) (sB_mix N S i1 i2 i3) (sC_mix N S i1 i2 i3))) 1 6 A := by
  refine gc_vxmet [.ref (q 0), .int i1, .int i2, .int i3] (by decide) rfl (Nat.le_of_ble_eq_true rfl) rfl ?_
  intro p e s m below meth c ls G hx0 hl hX
  have hZ0 := hX.2.2.2
  have hS : va_S A s.heap s.heap [] := va_S.rf
  have hok9 := hok
  obtain ⟨⟨ok0, ok5⟩, ok1, ok2, ok3, ok4, ok6, ok7, ok8, ok12, ok13, ok14⟩ := hok9
  have hN := hinv.2.2.2.1
  have hN9 := hinv.2.2.1
  refine lv_iload_n G.1 G.2.1 dX0_mix_0 rfl (lv_at hl 1 rfl) ?_
  refine gc_needT (vx_runS (As := [.int i1]) (rest := []) G.fix (mX0_needInk l hst i1) (va_cwS 1 G.2.2.2.2.2.1 gX0_mix_X0_needInk rfl rfl rfl (by decide +kernel) ⟨Nat.le_of_ble_eq_true rfl, Nat.le_of_ble_eq_true rfl⟩) ⟨gZ_blind, fun U hU hW => ⟨rfl, by show gZ _ U U.heap; rw [hU]; exact hX.2.2.2.none.moved hW⟩⟩ rfl rfl hl.1 rfl (lv_room (Nat.le_of_ble_eq_true rfl)) dX0_mix_1 ⟨Nat.le_of_ble_eq_true rfl, Nat.le_of_ble_eq_true rfl⟩) hx0 G.2.2.2.2.2.2 (fun E t hE hz hk _ => ⟨Or.inl ⟨hE.1, (by simp [sA_mix, hE.2] <;> omega)⟩, gXx_of hX hS hz hk⟩) hS.2.2 (by decide) (by decide) (fun hA1 => ?_)
  obtain ⟨j1, hj1, rfl⟩ := gb_of (by omega) hA1
  have hg1 := gn_nI (show j1 < 2 ^ 31 by omega)
  refine lv_iload_n G.1 G.2.1 dX0_mix_4 rfl (lv_at hl 2 rfl) ?_
  refine gc_needT (vx_runS (As := [.int i2]) (rest := []) G.fix (mX0_needBand l hst i2) (va_cwS 1 G.2.2.2.2.2.1 gX0_mix_X0_needBand rfl rfl rfl (by decide +kernel) ⟨Nat.le_of_ble_eq_true rfl, Nat.le_of_ble_eq_true rfl⟩) ⟨gZ_blind, fun U hU hW => ⟨rfl, by show gZ _ U U.heap; rw [hU]; exact hX.2.2.2.none.moved hW⟩⟩ rfl rfl hl.1 rfl (lv_room (Nat.le_of_ble_eq_true rfl)) dX0_mix_5 ⟨Nat.le_of_ble_eq_true rfl, Nat.le_of_ble_eq_true rfl⟩) hx0 G.2.2.2.2.2.2 (fun E t hE hz hk _ => ⟨Or.inl ⟨hE.1, (by simp [sA_mix, hA1, hg1, hE.2] <;> omega)⟩, gXx_of hX hS hz hk⟩) hS.2.2 (by decide) (by decide) (fun hA2 => ?_)
  obtain ⟨j2, hj2, rfl⟩ := gb_of (by omega) hA2
  have hg2 := gn_nI (show j2 < 2 ^ 31 by omega)
  refine lv_iload_n G.1 G.2.1 dX0_mix_8 rfl (lv_at hl 3 rfl) ?_
  refine gc_needT (vx_runS (As := [.int i3]) (rest := []) G.fix (mX0_needValue l hst i3) (va_cwS 1 G.2.2.2.2.2.1 gX0_mix_X0_needValue rfl rfl rfl (by decide +kernel) ⟨Nat.le_of_ble_eq_true rfl, Nat.le_of_ble_eq_true rfl⟩) ⟨gZ_blind, fun U hU hW => ⟨rfl, by show gZ _ U U.heap; rw [hU]; exact hX.2.2.2.none.moved hW⟩⟩ rfl rfl hl.1 rfl (lv_room (Nat.le_of_ble_eq_true rfl)) dX0_mix_9 ⟨Nat.le_of_ble_eq_true rfl, Nat.le_of_ble_eq_true rfl⟩) hx0 G.2.2.2.2.2.2 (fun E t hE hz hk _ => ⟨Or.inr (Or.inl ⟨hE.1, (by simp [sA_mix, hA1, hA2, hg1, hg2]), (by simp [sB_mix, hg1, hg2, hE.2] <;> omega)⟩), gXx_of hX hS hz hk⟩) hS.2.2 (by decide) (by decide) (fun hB3 => ?_)
  obtain ⟨j3, hj3, rfl⟩ := gb_of (by omega) hB3
  have hg3 := gn_nI (show j3 < 2 ^ 31 by omega)
  refine lv_aload_n G.1 G.2.1 dX0_mix_12 rfl (lv_at hl 0 rfl) ?_
  refine gx_get G hX (by decide +kernel) 14 (by decide) (by decide +kernel) rfl rfl rfl dX0_mix_13 ?_
  refine lv_iload_n G.1 G.2.1 dX0_mix_16 rfl (lv_at hl 1 rfl) ?_
  refine lv_iconst (v := nI 3) G.1 G.2.1 dX0_mix_17 (by decide) ?_
  refine gn_imul G dX0_mix_18 ?_
  refine lv_iload_n G.1 G.2.1 dX0_mix_19 rfl (lv_at hl 2 rfl) ?_
  refine gn_iadd G dX0_mix_20 ?_
  refine lv_iload_n G.1 G.2.1 dX0_mix_21 rfl (lv_at hl 3 rfl) ?_
  refine gx_swap (k := 14) (kp := 11) (len := 9) (F := S 14) (i := (j1 * 3) + j2) (v := j3) (S' := (gs S 14 (gu (S 14) ((j1 * 3) + j2) j3))) (tr' := tr) (rest := []) G.fix (mX0_swap l D (q 14) cI 9 (S 14) ((j1 * 3) + j2) j3 (by first | omega | assumption)) (va_cwS 3 G.2.2.2.2.2.1 gX0_mix_X0_swap rfl rfl rfl (by decide +kernel) ⟨Nat.le_of_ble_eq_true rfl, Nat.le_of_ble_eq_true rfl⟩) hX hS rfl (rfl) hl.1 rfl (Nat.le_of_ble_eq_true rfl) dX0_mix_22 (Nat.zero_le _) (Nat.zero_le _) (fun H1 locs1 hX hS => ?_)
  exact vx_ret (W.widen (k := 1) (n := 6) (Nat.zero_le _) (Nat.zero_le _) (W.iret G.1 G.2.1 G.2.2.1 (fun t ht hW => gQx_of hX hS ht ⟨(by simp [sA_mix, hA1, hA2, hg1, hg2, hg3]), (by simp [sB_mix, hB3, hg1, hg2, hg3]), rfl, (by show nI _ = nI _; simp only [sR_mix, hg1, hg2, hg3]), (by simp only [sN_mix, hg1, hg2, hg3]), (by simp only [sS_mix, hg1, hg2, hg3])⟩) hS.2.2 dX0_mix_25 G.2.2.2.2.2.2))
set_option maxRecDepth 100000 in
set_option maxHeartbeats 4000000 in
/-- bend -/
theorem mX0_bend (l : Launch) (hst : l.stackTraces = false) (D : va_G) (q : Nat → Nat) (cI : ClassId) (N : Nat → Nat) (S : Nat → Nat → Nat) (tr : Nat → Nat) (A : Nat → Prop) (hok : sp_ok N S) (hinv : sp_inv N S) (i1 i2 i3 i4 : Int32) : vx_Met l yX0_bend wsX0_bend { frames := 7, cells := 1, slots := 6, locals := 103 } (va_Pc [.ref (q 0), .int i1, .int i2, .int i3, .int i4] (fun U => xAt D q cI N S tr A U U.heap)) (gQx D q cI (fun r N2 S2 => sA_bend N S i1 i2 i3 i4 = true ∧ sB_bend N S i1 i2 i3 i4 = true ∧ sC_bend N S i1 i2 i3 i4 = true ∧ r = nI (sR_bend N S i1 i2 i3 i4) ∧ N2 = sN_bend N S i1 i2 i3 i4 ∧ S2 = sS_bend N S i1 i2 i3 i4) A) (gXx D q cI N S A (gE3 (sA_bend N S i1 i2 i3 i4) (sB_bend N S i1 i2 i3 i4) (sC_bend N S i1 i2 i3 i4))) 1 6 A := by
  refine gc_vxmet [.ref (q 0), .int i1, .int i2, .int i3, .int i4] (by decide) rfl (Nat.le_of_ble_eq_true rfl) rfl ?_
  intro p e s m below meth c ls G hx0 hl hX
  have hZ0 := hX.2.2.2
  have hS : va_S A s.heap s.heap [] := va_S.rf
  have hok9 := hok
  obtain ⟨⟨ok0, ok5⟩, ok1, ok2, ok3, ok4, ok6, ok7, ok8, ok12, ok13, ok14⟩ := hok9
  have hN := hinv.2.2.2.1
  have hN9 := hinv.2.2.1
  refine lv_aload_n G.1 G.2.1 dX0_bend_0 rfl (lv_at hl 0 rfl) ?_
  refine lv_iload_n G.1 G.2.1 dX0_bend_1 rfl (lv_at hl 1 rfl) ?_
  refine gc_needT (vx_runV (As := [.int i1]) (rest := []) G.fix (mX0_needProfile l hst D q cI N S tr A hok i1) (cwV 1 G.2.2.2.2.2.1 gX0_bend_X0_needProfile rfl rfl rfl (by decide +kernel) ⟨Nat.le_of_ble_eq_true rfl, Nat.le_of_ble_eq_true rfl⟩) ⟨xAt_blind, va_recv hX.2.1 hX.1 (ci := 0) (q0 := 0) rfl rfl, fun U hU hW => ⟨rfl, by show xAt _ _ _ _ _ _ _ U U.heap; rw [hU]; exact hX.moved hW⟩⟩ rfl rfl hl.1 rfl (lv_room (Nat.le_of_ble_eq_true rfl)) dX0_bend_2 ⟨Nat.le_of_ble_eq_true rfl, Nat.le_of_ble_eq_true rfl⟩) hx0 G.2.2.2.2.2.2 (fun E t hE hz hk _ => ⟨Or.inl ⟨hE.1, (by simp [sA_bend, hE.2] <;> omega)⟩, gXx_of hX hS hz hk⟩) hS.2.2 (by decide) (by decide) (fun hA1 => ?_)
  obtain ⟨j1, hj1, rfl⟩ := gb_of (by omega) hA1
  have hg1 := gn_nI (show j1 < 2 ^ 31 by omega)
  refine lv_iload_n G.1 G.2.1 dX0_bend_5 rfl (lv_at hl 2 rfl) ?_
  refine gc_needT (vx_runS (As := [.int i2]) (rest := []) G.fix (mX0_needBand l hst i2) (va_cwS 1 G.2.2.2.2.2.1 gX0_bend_X0_needBand rfl rfl rfl (by decide +kernel) ⟨Nat.le_of_ble_eq_true rfl, Nat.le_of_ble_eq_true rfl⟩) ⟨gZ_blind, fun U hU hW => ⟨rfl, by show gZ _ U U.heap; rw [hU]; exact hX.2.2.2.none.moved hW⟩⟩ rfl rfl hl.1 rfl (lv_room (Nat.le_of_ble_eq_true rfl)) dX0_bend_6 ⟨Nat.le_of_ble_eq_true rfl, Nat.le_of_ble_eq_true rfl⟩) hx0 G.2.2.2.2.2.2 (fun E t hE hz hk _ => ⟨Or.inl ⟨hE.1, (by simp [sA_bend, hA1, hg1, hE.2] <;> omega)⟩, gXx_of hX hS hz hk⟩) hS.2.2 (by decide) (by decide) (fun hA2 => ?_)
  obtain ⟨j2, hj2, rfl⟩ := gb_of (by omega) hA2
  have hg2 := gn_nI (show j2 < 2 ^ 31 by omega)
  refine lv_iload_n G.1 G.2.1 dX0_bend_9 rfl (lv_at hl 3 rfl) ?_
  refine lv_if_lt (tgt := 18) G.1 G.2.1 dX0_bend_10 (by decide) (fun h_10 => ?_) (fun h_10 => ?_)
  · exact gx_throw (text := "no such place") G hx0 hst (by decide +kernel) (by decide +kernel) (by decide +kernel) (by decide +kernel) gx_not_IO gx_good_IO (by decide +kernel) hZ0 hS hl.1 dX0_bend_18 dX0_bend_21 dX0_bend_22 dX0_bend_24 dX0_bend_27 (Nat.le_of_ble_eq_true rfl) (Nat.le_of_ble_eq_true rfl) (Nat.le_of_ble_eq_true rfl) (Nat.le_of_ble_eq_true rfl) (fun t _ hz hk => ⟨Or.inl ⟨rfl, by have h9 : gb i3 5 = false := (by first | exact gb_neg (by assumption) | exact gb_nlt (by decide) (by assumption)); simp [sA_bend, h9]⟩, gXx_of hX hS hz hk⟩) hS.2.2 (by decide) (by decide)
  · refine lv_iload_n G.1 G.2.1 dX0_bend_13 rfl (lv_at hl 3 rfl) ?_
    refine lv_iconst (v := nI 5) G.1 G.2.1 dX0_bend_14 (by decide) ?_
    refine lv_icmp_lt (tgt := 28) G.1 G.2.1 dX0_bend_15 (by decide) (fun h_15 => ?_) (fun h_15 => ?_)
    · have hA3 : gb i3 5 = true := gb_in (by decide) h_10 h_15
      obtain ⟨j3, hj3, rfl⟩ := gb_of (by omega) hA3
      have hg3 := gn_nI (show j3 < 2 ^ 31 by omega)
      refine lv_iload G.1 G.2.1 dX0_bend_28 (lv_at hl 4 rfl) ?_
      refine gc_needT (vx_runS (As := [.int i4]) (rest := []) G.fix (mX0_needValue l hst i4) (va_cwS 1 G.2.2.2.2.2.1 gX0_bend_X0_needValue rfl rfl rfl (by decide +kernel) ⟨Nat.le_of_ble_eq_true rfl, Nat.le_of_ble_eq_true rfl⟩) ⟨gZ_blind, fun U hU hW => ⟨rfl, by show gZ _ U U.heap; rw [hU]; exact hX.2.2.2.none.moved hW⟩⟩ rfl rfl hl.1 rfl (lv_room (Nat.le_of_ble_eq_true rfl)) dX0_bend_30 ⟨Nat.le_of_ble_eq_true rfl, Nat.le_of_ble_eq_true rfl⟩) hx0 G.2.2.2.2.2.2 (fun E t hE hz hk _ => ⟨Or.inr (Or.inl ⟨hE.1, (by simp [sA_bend, hA1, hA2, hA3, hg1, hg2, hg3]), (by simp [sB_bend, hg1, hg2, hg3, hE.2] <;> omega)⟩), gXx_of hX hS hz hk⟩) hS.2.2 (by decide) (by decide) (fun hB4 => ?_)
      obtain ⟨j4, hj4, rfl⟩ := gb_of (by omega) hB4
      have hg4 := gn_nI (show j4 < 2 ^ 31 by omega)
      refine lv_aload_n G.1 G.2.1 dX0_bend_33 rfl (lv_at hl 0 rfl) ?_
      refine lv_iload_n G.1 G.2.1 dX0_bend_34 rfl (lv_at hl 1 rfl) ?_
      refine gc_needT (vx_runV (As := [.int (nI j1)]) (rest := []) G.fix (mX0_needFreeProfile l hst D q cI N S tr A hok hN j1 (by omega)) (cwV 1 G.2.2.2.2.2.1 gX0_bend_X0_needFreeProfile rfl rfl rfl (by decide +kernel) ⟨Nat.le_of_ble_eq_true rfl, Nat.le_of_ble_eq_true rfl⟩) ⟨xAt_blind, va_recv hX.2.1 hX.1 (ci := 0) (q0 := 0) rfl rfl, fun U hU hW => ⟨rfl, by show xAt _ _ _ _ _ _ _ U U.heap; rw [hU]; exact hX.moved hW⟩⟩ rfl rfl hl.1 rfl (lv_room (Nat.le_of_ble_eq_true rfl)) dX0_bend_35 ⟨Nat.le_of_ble_eq_true rfl, Nat.le_of_ble_eq_true rfl⟩) hx0 G.2.2.2.2.2.2 (fun E t hE hz hk _ => ⟨Or.inr (Or.inr ⟨hE.1, (by simp [sA_bend, hA1, hA2, hA3, hg1, hg2, hg3, hg4]), (by simp [sB_bend, hB4, hg1, hg2, hg3, hg4]), (by simp [sC_bend, hg1, hg2, hg3, hg4, hE.2] <;> omega)⟩), gXx_of hX hS hz hk⟩) hS.2.2 (by decide) (by decide) (fun hC1 => ?_)
      refine lv_aload_n G.1 G.2.1 dX0_bend_38 rfl (lv_at hl 0 rfl) ?_
      refine gx_get G hX (by decide +kernel) 1 (by decide) (by decide +kernel) rfl rfl rfl dX0_bend_39 ?_
      refine lv_iload_n G.1 G.2.1 dX0_bend_42 rfl (lv_at hl 1 rfl) ?_
      refine lv_iconst (v := nI 3) G.1 G.2.1 dX0_bend_43 (by decide) ?_
      refine gn_imul G dX0_bend_44 ?_
      refine lv_iload_n G.1 G.2.1 dX0_bend_45 rfl (lv_at hl 2 rfl) ?_
      refine gn_iadd G dX0_bend_46 ?_
      refine lv_iconst (v := nI 5) G.1 G.2.1 dX0_bend_47 (by decide) ?_
      refine gn_imul G dX0_bend_48 ?_
      refine lv_iload_n G.1 G.2.1 dX0_bend_49 rfl (lv_at hl 3 rfl) ?_
      refine gn_iadd G dX0_bend_50 ?_
      refine lv_iload G.1 G.2.1 dX0_bend_51 (lv_at hl 4 rfl) ?_
      refine gx_swap (k := 1) (kp := 1) (len := 120) (F := S 1) (i := (((j1 * 3) + j2) * 5) + j3) (v := j4) (S' := (gs S 1 (gu (S 1) ((((j1 * 3) + j2) * 5) + j3) j4))) (tr' := tr) (rest := []) G.fix (mX0_swap l D (q 1) cI 120 (S 1) ((((j1 * 3) + j2) * 5) + j3) j4 (by first | omega | assumption)) (va_cwS 3 G.2.2.2.2.2.1 gX0_bend_X0_swap rfl rfl rfl (by decide +kernel) ⟨Nat.le_of_ble_eq_true rfl, Nat.le_of_ble_eq_true rfl⟩) hX hS rfl (rfl) hl.1 rfl (Nat.le_of_ble_eq_true rfl) dX0_bend_53 (Nat.zero_le _) (Nat.zero_le _) (fun H1 locs1 hX hS => ?_)
      exact vx_ret (W.widen (k := 1) (n := 6) (Nat.zero_le _) (Nat.zero_le _) (W.iret G.1 G.2.1 G.2.2.1 (fun t ht hW => gQx_of hX hS ht ⟨(by simp [sA_bend, hA1, hA2, hA3, hg1, hg2, hg3, hg4]), (by simp [sB_bend, hB4, hg1, hg2, hg3, hg4]), (by simp [sC_bend, hC1, hg1, hg2, hg3, hg4]), (by show nI _ = nI _; simp only [sR_bend, hg1, hg2, hg3, hg4]), (by simp only [sN_bend, hg1, hg2, hg3, hg4]), (by simp only [sS_bend, hg1, hg2, hg3, hg4])⟩) hS.2.2 dX0_bend_56 G.2.2.2.2.2.2))
    · exact gx_throw (text := "no such place") G hx0 hst (by decide +kernel) (by decide +kernel) (by decide +kernel) (by decide +kernel) gx_not_IO gx_good_IO (by decide +kernel) hZ0 hS hl.1 dX0_bend_18 dX0_bend_21 dX0_bend_22 dX0_bend_24 dX0_bend_27 (Nat.le_of_ble_eq_true rfl) (Nat.le_of_ble_eq_true rfl) (Nat.le_of_ble_eq_true rfl) (Nat.le_of_ble_eq_true rfl) (fun t _ hz hk => ⟨Or.inl ⟨rfl, by have h9 : gb i3 5 = false := (by first | exact gb_neg (by assumption) | exact gb_nlt (by decide) (by assumption)); simp [sA_bend, h9]⟩, gXx_of hX hS hz hk⟩) hS.2.2 (by decide) (by decide)
set_option maxRecDepth 100000 in
set_option maxHeartbeats 4000000 in
/-- reach -/
theorem mX0_reach (l : Launch) (hst : l.stackTraces = false) (D : va_G) (q : Nat → Nat) (cI : ClassId) (N : Nat → Nat) (S : Nat → Nat → Nat) (tr : Nat → Nat) (A : Nat → Prop) (hok : sp_ok N S) (hinv : sp_inv N S) (i1 i2 i3 i4 : Int32) : vx_Met l yX0_reach wsX0_reach { frames := 7, cells := 1, slots := 6, locals := 103 } (va_Pc [.ref (q 0), .int i1, .int i2, .int i3, .int i4] (fun U => xAt D q cI N S tr A U U.heap)) (gQx D q cI (fun r N2 S2 => sA_reach N S i1 i2 i3 i4 = true ∧ sB_reach N S i1 i2 i3 i4 = true ∧ sC_reach N S i1 i2 i3 i4 = true ∧ r = nI (sR_reach N S i1 i2 i3 i4) ∧ N2 = sN_reach N S i1 i2 i3 i4 ∧ S2 = sS_reach N S i1 i2 i3 i4) A) (gXx D q cI N S A (gE3 (sA_reach N S i1 i2 i3 i4) (sB_reach N S i1 i2 i3 i4) (sC_reach N S i1 i2 i3 i4))) 1 6 A := by
  refine gc_vxmet [.ref (q 0), .int i1, .int i2, .int i3, .int i4] (by decide) rfl (Nat.le_of_ble_eq_true rfl) rfl ?_
  intro p e s m below meth c ls G hx0 hl hX
  have hZ0 := hX.2.2.2
  have hS : va_S A s.heap s.heap [] := va_S.rf
  have hok9 := hok
  obtain ⟨⟨ok0, ok5⟩, ok1, ok2, ok3, ok4, ok6, ok7, ok8, ok12, ok13, ok14⟩ := hok9
  have hN := hinv.2.2.2.1
  have hN9 := hinv.2.2.1
  refine lv_aload_n G.1 G.2.1 dX0_reach_0 rfl (lv_at hl 0 rfl) ?_
  refine lv_iload_n G.1 G.2.1 dX0_reach_1 rfl (lv_at hl 1 rfl) ?_
  refine gc_needT (vx_runV (As := [.int i1]) (rest := []) G.fix (mX0_needProfile l hst D q cI N S tr A hok i1) (cwV 1 G.2.2.2.2.2.1 gX0_reach_X0_needProfile rfl rfl rfl (by decide +kernel) ⟨Nat.le_of_ble_eq_true rfl, Nat.le_of_ble_eq_true rfl⟩) ⟨xAt_blind, va_recv hX.2.1 hX.1 (ci := 0) (q0 := 0) rfl rfl, fun U hU hW => ⟨rfl, by show xAt _ _ _ _ _ _ _ U U.heap; rw [hU]; exact hX.moved hW⟩⟩ rfl rfl hl.1 rfl (lv_room (Nat.le_of_ble_eq_true rfl)) dX0_reach_2 ⟨Nat.le_of_ble_eq_true rfl, Nat.le_of_ble_eq_true rfl⟩) hx0 G.2.2.2.2.2.2 (fun E t hE hz hk _ => ⟨Or.inl ⟨hE.1, (by simp [sA_reach, hE.2] <;> omega)⟩, gXx_of hX hS hz hk⟩) hS.2.2 (by decide) (by decide) (fun hA1 => ?_)
  obtain ⟨j1, hj1, rfl⟩ := gb_of (by omega) hA1
  have hg1 := gn_nI (show j1 < 2 ^ 31 by omega)
  refine lv_iload_n G.1 G.2.1 dX0_reach_5 rfl (lv_at hl 2 rfl) ?_
  refine gc_needT (vx_runS (As := [.int i2]) (rest := []) G.fix (mX0_needBand l hst i2) (va_cwS 1 G.2.2.2.2.2.1 gX0_reach_X0_needBand rfl rfl rfl (by decide +kernel) ⟨Nat.le_of_ble_eq_true rfl, Nat.le_of_ble_eq_true rfl⟩) ⟨gZ_blind, fun U hU hW => ⟨rfl, by show gZ _ U U.heap; rw [hU]; exact hX.2.2.2.none.moved hW⟩⟩ rfl rfl hl.1 rfl (lv_room (Nat.le_of_ble_eq_true rfl)) dX0_reach_6 ⟨Nat.le_of_ble_eq_true rfl, Nat.le_of_ble_eq_true rfl⟩) hx0 G.2.2.2.2.2.2 (fun E t hE hz hk _ => ⟨Or.inl ⟨hE.1, (by simp [sA_reach, hA1, hg1, hE.2] <;> omega)⟩, gXx_of hX hS hz hk⟩) hS.2.2 (by decide) (by decide) (fun hA2 => ?_)
  obtain ⟨j2, hj2, rfl⟩ := gb_of (by omega) hA2
  have hg2 := gn_nI (show j2 < 2 ^ 31 by omega)
  refine lv_iload_n G.1 G.2.1 dX0_reach_9 rfl (lv_at hl 3 rfl) ?_
  refine gc_needT (vx_runS (As := [.int i3]) (rest := []) G.fix (mX0_needValue l hst i3) (va_cwS 1 G.2.2.2.2.2.1 gX0_reach_X0_needValue rfl rfl rfl (by decide +kernel) ⟨Nat.le_of_ble_eq_true rfl, Nat.le_of_ble_eq_true rfl⟩) ⟨gZ_blind, fun U hU hW => ⟨rfl, by show gZ _ U U.heap; rw [hU]; exact hX.2.2.2.none.moved hW⟩⟩ rfl rfl hl.1 rfl (lv_room (Nat.le_of_ble_eq_true rfl)) dX0_reach_10 ⟨Nat.le_of_ble_eq_true rfl, Nat.le_of_ble_eq_true rfl⟩) hx0 G.2.2.2.2.2.2 (fun E t hE hz hk _ => ⟨Or.inr (Or.inl ⟨hE.1, (by simp [sA_reach, hA1, hA2, hg1, hg2]), (by simp [sB_reach, hg1, hg2, hE.2] <;> omega)⟩), gXx_of hX hS hz hk⟩) hS.2.2 (by decide) (by decide) (fun hB3 => ?_)
  obtain ⟨j3, hj3, rfl⟩ := gb_of (by omega) hB3
  have hg3 := gn_nI (show j3 < 2 ^ 31 by omega)
  refine lv_iload G.1 G.2.1 dX0_reach_13 (lv_at hl 4 rfl) ?_
  refine gc_needT (vx_runS (As := [.int i4]) (rest := []) G.fix (mX0_needValue l hst i4) (va_cwS 1 G.2.2.2.2.2.1 gX0_reach_X0_needValue rfl rfl rfl (by decide +kernel) ⟨Nat.le_of_ble_eq_true rfl, Nat.le_of_ble_eq_true rfl⟩) ⟨gZ_blind, fun U hU hW => ⟨rfl, by show gZ _ U U.heap; rw [hU]; exact hX.2.2.2.none.moved hW⟩⟩ rfl rfl hl.1 rfl (lv_room (Nat.le_of_ble_eq_true rfl)) dX0_reach_15 ⟨Nat.le_of_ble_eq_true rfl, Nat.le_of_ble_eq_true rfl⟩) hx0 G.2.2.2.2.2.2 (fun E t hE hz hk _ => ⟨Or.inr (Or.inl ⟨hE.1, (by simp [sA_reach, hA1, hA2, hg1, hg2, hg3]), (by simp [sB_reach, hB3, hg1, hg2, hg3, hE.2] <;> omega)⟩), gXx_of hX hS hz hk⟩) hS.2.2 (by decide) (by decide) (fun hB4 => ?_)
  obtain ⟨j4, hj4, rfl⟩ := gb_of (by omega) hB4
  have hg4 := gn_nI (show j4 < 2 ^ 31 by omega)
  refine lv_iload G.1 G.2.1 dX0_reach_18 (lv_at hl 4 rfl) ?_
  refine lv_iload_n G.1 G.2.1 dX0_reach_20 rfl (lv_at hl 3 rfl) ?_
  refine gn_ge G (by omega) (by omega) (tgt := 34) dX0_reach_21 (by decide) (fun h_21 => ?_) (fun h_21 => ?_)
  · refine lv_aload_n G.1 G.2.1 dX0_reach_34 rfl (lv_at hl 0 rfl) ?_
    refine lv_iload_n G.1 G.2.1 dX0_reach_35 rfl (lv_at hl 1 rfl) ?_
    refine gc_needT (vx_runV (As := [.int (nI j1)]) (rest := []) G.fix (mX0_needFreeProfile l hst D q cI N S tr A hok hN j1 (by omega)) (cwV 1 G.2.2.2.2.2.1 gX0_reach_X0_needFreeProfile rfl rfl rfl (by decide +kernel) ⟨Nat.le_of_ble_eq_true rfl, Nat.le_of_ble_eq_true rfl⟩) ⟨xAt_blind, va_recv hX.2.1 hX.1 (ci := 0) (q0 := 0) rfl rfl, fun U hU hW => ⟨rfl, by show xAt _ _ _ _ _ _ _ U U.heap; rw [hU]; exact hX.moved hW⟩⟩ rfl rfl hl.1 rfl (lv_room (Nat.le_of_ble_eq_true rfl)) dX0_reach_36 ⟨Nat.le_of_ble_eq_true rfl, Nat.le_of_ble_eq_true rfl⟩) hx0 G.2.2.2.2.2.2 (fun E t hE hz hk _ => ⟨Or.inr (Or.inr ⟨hE.1, (by simp [sA_reach, hA1, hA2, hg1, hg2, hg3, hg4]), (by simp [sB_reach, hB3, hB4, h_21, hg1, hg2, hg3, hg4]), (by simp [sC_reach, hg1, hg2, hg3, hg4, hE.2] <;> omega)⟩), gXx_of hX hS hz hk⟩) hS.2.2 (by decide) (by decide) (fun hC1 => ?_)
    refine lv_iload_n G.1 G.2.1 dX0_reach_39 rfl (lv_at hl 1 rfl) ?_
    refine lv_iconst (v := nI 3) G.1 G.2.1 dX0_reach_40 (by decide) ?_
    refine gn_imul G dX0_reach_41 ?_
    refine lv_iload_n G.1 G.2.1 dX0_reach_42 rfl (lv_at hl 2 rfl) ?_
    refine gn_iadd G dX0_reach_43 ?_
    refine lv_istore (lv' := [(5, .int (nI ((j1 * 3) + j2))), (0, .ref (q 0)), (1, .int (nI j1)), (2, .int (nI j2)), (3, .int (nI j3)), (4, .int (nI j4))]) G.1 G.2.1 dX0_reach_44 hl (by decide) rfl (fun ls hl => ?_)
    have hlt := ok2 (j1 * 3 + j2)
    refine lv_aload_n G.1 G.2.1 dX0_reach_46 rfl (lv_at hl 1 rfl) ?_
    refine gx_get G hX (by decide +kernel) 2 (by decide) (by decide +kernel) rfl rfl rfl dX0_reach_47 ?_
    refine lv_iload G.1 G.2.1 dX0_reach_50 (lv_at hl 0 rfl) ?_
    refine lv_iload_n G.1 G.2.1 dX0_reach_52 rfl (lv_at hl 4 rfl) ?_
    refine gx_swap (k := 2) (kp := 2) (len := 24) (F := S 2) (i := (j1 * 3) + j2) (v := j3) (S' := (gs S 2 (gu (S 2) ((j1 * 3) + j2) j3))) (tr' := tr) (rest := []) G.fix (mX0_swap l D (q 2) cI 24 (S 2) ((j1 * 3) + j2) j3 (by first | omega | assumption)) (va_cwS 3 G.2.2.2.2.2.1 gX0_reach_X0_swap rfl rfl rfl (by decide +kernel) ⟨Nat.le_of_ble_eq_true rfl, Nat.le_of_ble_eq_true rfl⟩) hX hS rfl (rfl) hl.1 rfl (Nat.le_of_ble_eq_true rfl) dX0_reach_53 (Nat.zero_le _) (Nat.zero_le _) (fun H1 locs1 hX hS => ?_)
    refine lv_istore (lv' := [(6, .int (nI (S 2 ((j1 * 3) + j2)))), (5, .int (nI ((j1 * 3) + j2))), (0, .ref (q 0)), (1, .int (nI j1)), (2, .int (nI j2)), (3, .int (nI j3)), (4, .int (nI j4))]) G.1 G.2.1 dX0_reach_56 hl (by decide) rfl (fun ls hl => ?_)
    refine lv_aload_n G.1 G.2.1 dX0_reach_58 rfl (lv_at hl 2 rfl) ?_
    refine gx_get G hX (by decide +kernel) 3 (by decide) (by decide +kernel) rfl rfl rfl dX0_reach_59 ?_
    refine lv_iload G.1 G.2.1 dX0_reach_62 (lv_at hl 1 rfl) ?_
    refine lv_iload G.1 G.2.1 dX0_reach_64 (lv_at hl 6 rfl) ?_
    refine gx_swap (k := 3) (kp := 3) (len := 24) (F := S 3) (i := (j1 * 3) + j2) (v := j4) (S' := (gs (gs S 2 (gu (S 2) ((j1 * 3) + j2) j3)) 3 (gu (S 3) ((j1 * 3) + j2) j4))) (tr' := tr) (rest := []) G.fix (mX0_swap l D (q 3) cI 24 (S 3) ((j1 * 3) + j2) j4 (by first | omega | assumption)) (va_cwS 3 G.2.2.2.2.2.1 gX0_reach_X0_swap rfl rfl rfl (by decide +kernel) ⟨Nat.le_of_ble_eq_true rfl, Nat.le_of_ble_eq_true rfl⟩) hX hS rfl (rfl) hl.1 rfl (Nat.le_of_ble_eq_true rfl) dX0_reach_66 (Nat.zero_le _) (Nat.zero_le _) (fun H1 locs1 hX hS => ?_)
    refine lv_istore (lv' := [(7, .int (nI (S 3 ((j1 * 3) + j2)))), (6, .int (nI (S 2 ((j1 * 3) + j2)))), (5, .int (nI ((j1 * 3) + j2))), (0, .ref (q 0)), (1, .int (nI j1)), (2, .int (nI j2)), (3, .int (nI j3)), (4, .int (nI j4))]) G.1 G.2.1 dX0_reach_69 hl (by decide) rfl (fun ls hl => ?_)
    refine lv_iload G.1 G.2.1 dX0_reach_71 (lv_at hl 0 rfl) ?_
    refine lv_iload G.1 G.2.1 dX0_reach_73 (lv_at hl 1 rfl) ?_
    refine gn_isub G dX0_reach_75 (by omega) ?_
    refine lv_iconst (v := nI 1) G.1 G.2.1 dX0_reach_76 (by decide) ?_
    refine gn_iadd G dX0_reach_77 ?_
    exact vx_ret (W.widen (k := 1) (n := 6) (Nat.zero_le _) (Nat.zero_le _) (W.iret G.1 G.2.1 G.2.2.1 (fun t ht hW => gQx_of hX hS ht ⟨(by simp [sA_reach, hA1, hA2, hg1, hg2, hg3, hg4]), (by simp [sB_reach, hB3, hB4, h_21, hg1, hg2, hg3, hg4]), (by simp [sC_reach, hC1, hg1, hg2, hg3, hg4]), (by show nI _ = nI _; simp only [sR_reach, hg1, hg2, hg3, hg4]), (by simp only [sN_reach, hg1, hg2, hg3, hg4]), (by simp only [sS_reach, hg1, hg2, hg3, hg4])⟩) hS.2.2 dX0_reach_78 G.2.2.2.2.2.2))
  · exact gx_throw (text := "the greatest is below the least") G hx0 hst (by decide +kernel) (by decide +kernel) (by decide +kernel) (by decide +kernel) gx_not_IA gx_good_IA (by decide +kernel) hZ0 hS hl.1 dX0_reach_24 dX0_reach_27 dX0_reach_28 dX0_reach_30 dX0_reach_33 (Nat.le_of_ble_eq_true rfl) (Nat.le_of_ble_eq_true rfl) (Nat.le_of_ble_eq_true rfl) (Nat.le_of_ble_eq_true rfl) (fun t _ hz hk => ⟨Or.inr (Or.inl ⟨rfl, (by simp [sA_reach, hA1, hA2, hg1, hg2, hg3, hg4]), by simp [sB_reach, hg3, hg4]; omega⟩), gXx_of hX hS hz hk⟩) hS.2.2 (by decide) (by decide)
set_option maxRecDepth 100000 in
set_option maxHeartbeats 4000000 in
/-- way -/
theorem mX0_way (l : Launch) (hst : l.stackTraces = false) (D : va_G) (q : Nat → Nat) (cI : ClassId) (N : Nat → Nat) (S : Nat → Nat → Nat) (tr : Nat → Nat) (A : Nat → Prop) (hok : sp_ok N S) (hinv : sp_inv N S) (i1 i2 : Int32) : vx_Met l yX0_way wsX0_way { frames := 7, cells := 1, slots := 6, locals := 103 } (va_Pc [.ref (q 0), .int i1, .int i2] (fun U => xAt D q cI N S tr A U U.heap)) (gQx D q cI (fun r N2 S2 => sA_way N S i1 i2 = true ∧ sB_way N S i1 i2 = true ∧ sC_way N S i1 i2 = true ∧ r = nI (sR_way N S i1 i2) ∧ N2 = sN_way N S i1 i2 ∧ S2 = sS_way N S i1 i2) A) (gXx D q cI N S A (gE3 (sA_way N S i1 i2) (sB_way N S i1 i2) (sC_way N S i1 i2))) 1 6 A := by
  refine gc_vxmet [.ref (q 0), .int i1, .int i2] (by decide) rfl (Nat.le_of_ble_eq_true rfl) rfl ?_
  intro p e s m below meth c ls G hx0 hl hX
  have hZ0 := hX.2.2.2
  have hS : va_S A s.heap s.heap [] := va_S.rf
  have hok9 := hok
  obtain ⟨⟨ok0, ok5⟩, ok1, ok2, ok3, ok4, ok6, ok7, ok8, ok12, ok13, ok14⟩ := hok9
  have hN := hinv.2.2.2.1
  have hN9 := hinv.2.2.1
  refine lv_aload_n G.1 G.2.1 dX0_way_0 rfl (lv_at hl 0 rfl) ?_
  refine lv_iload_n G.1 G.2.1 dX0_way_1 rfl (lv_at hl 1 rfl) ?_
  refine gc_needT (vx_runV (As := [.int i1]) (rest := []) G.fix (mX0_needProfile l hst D q cI N S tr A hok i1) (cwV 1 G.2.2.2.2.2.1 gX0_way_X0_needProfile rfl rfl rfl (by decide +kernel) ⟨Nat.le_of_ble_eq_true rfl, Nat.le_of_ble_eq_true rfl⟩) ⟨xAt_blind, va_recv hX.2.1 hX.1 (ci := 0) (q0 := 0) rfl rfl, fun U hU hW => ⟨rfl, by show xAt _ _ _ _ _ _ _ U U.heap; rw [hU]; exact hX.moved hW⟩⟩ rfl rfl hl.1 rfl (lv_room (Nat.le_of_ble_eq_true rfl)) dX0_way_2 ⟨Nat.le_of_ble_eq_true rfl, Nat.le_of_ble_eq_true rfl⟩) hx0 G.2.2.2.2.2.2 (fun E t hE hz hk _ => ⟨Or.inl ⟨hE.1, (by simp [sA_way, hE.2] <;> omega)⟩, gXx_of hX hS hz hk⟩) hS.2.2 (by decide) (by decide) (fun hA1 => ?_)
  obtain ⟨j1, hj1, rfl⟩ := gb_of (by omega) hA1
  have hg1 := gn_nI (show j1 < 2 ^ 31 by omega)
  refine lv_iload_n G.1 G.2.1 dX0_way_5 rfl (lv_at hl 2 rfl) ?_
  refine lv_if_eq (tgt := 29) G.1 G.2.1 dX0_way_6 (by decide) (fun h_6 => ?_) (fun h_6 => ?_)
  · have hB2 : gb i2 3 = true := by first | exact gb_is3 (Or.inl (by assumption)) | exact gb_is3 (Or.inr (Or.inl (by assumption))) | exact gb_is3 (Or.inr (Or.inr (by assumption)))
    obtain ⟨j2, hj2, rfl⟩ := gb_of (by omega) hB2
    have hg2 := gn_nI (show j2 < 2 ^ 31 by omega)
    refine lv_aload_n G.1 G.2.1 dX0_way_29 rfl (lv_at hl 0 rfl) ?_
    refine lv_iload_n G.1 G.2.1 dX0_way_30 rfl (lv_at hl 1 rfl) ?_
    refine gc_needT (vx_runV (As := [.int (nI j1)]) (rest := []) G.fix (mX0_needFreeProfile l hst D q cI N S tr A hok hN j1 (by omega)) (cwV 1 G.2.2.2.2.2.1 gX0_way_X0_needFreeProfile rfl rfl rfl (by decide +kernel) ⟨Nat.le_of_ble_eq_true rfl, Nat.le_of_ble_eq_true rfl⟩) ⟨xAt_blind, va_recv hX.2.1 hX.1 (ci := 0) (q0 := 0) rfl rfl, fun U hU hW => ⟨rfl, by show xAt _ _ _ _ _ _ _ U U.heap; rw [hU]; exact hX.moved hW⟩⟩ rfl rfl hl.1 rfl (lv_room (Nat.le_of_ble_eq_true rfl)) dX0_way_31 ⟨Nat.le_of_ble_eq_true rfl, Nat.le_of_ble_eq_true rfl⟩) hx0 G.2.2.2.2.2.2 (fun E t hE hz hk _ => ⟨Or.inr (Or.inr ⟨hE.1, (by simp [sA_way, hA1, hg1, hg2]), (by simp [sB_way, hB2, hg1, hg2]), (by simp [sC_way, hg1, hg2, hE.2] <;> omega)⟩), gXx_of hX hS hz hk⟩) hS.2.2 (by decide) (by decide) (fun hC1 => ?_)
    refine lv_aload_n G.1 G.2.1 dX0_way_34 rfl (lv_at hl 0 rfl) ?_
    refine gx_get G hX (by decide +kernel) 4 (by decide) (by decide +kernel) rfl rfl rfl dX0_way_35 ?_
    refine lv_iload_n G.1 G.2.1 dX0_way_38 rfl (lv_at hl 1 rfl) ?_
    refine lv_iload_n G.1 G.2.1 dX0_way_39 rfl (lv_at hl 2 rfl) ?_
    refine gx_swap (k := 4) (kp := 4) (len := 8) (F := S 4) (i := j1) (v := j2) (S' := (gs S 4 (gu (S 4) j1 j2))) (tr' := tr) (rest := []) G.fix (mX0_swap l D (q 4) cI 8 (S 4) j1 j2 (by first | omega | assumption)) (va_cwS 3 G.2.2.2.2.2.1 gX0_way_X0_swap rfl rfl rfl (by decide +kernel) ⟨Nat.le_of_ble_eq_true rfl, Nat.le_of_ble_eq_true rfl⟩) hX hS rfl (rfl) hl.1 rfl (Nat.le_of_ble_eq_true rfl) dX0_way_40 (Nat.zero_le _) (Nat.zero_le _) (fun H1 locs1 hX hS => ?_)
    exact vx_ret (W.widen (k := 1) (n := 6) (Nat.zero_le _) (Nat.zero_le _) (W.iret G.1 G.2.1 G.2.2.1 (fun t ht hW => gQx_of hX hS ht ⟨(by simp [sA_way, hA1, hg1, hg2]), (by simp [sB_way, hB2, hg1, hg2]), (by simp [sC_way, hC1, hg1, hg2]), (by show nI _ = nI _; simp only [sR_way, hg1, hg2]), (by simp only [sN_way, hg1, hg2]), (by simp only [sS_way, hg1, hg2])⟩) hS.2.2 dX0_way_43 G.2.2.2.2.2.2))
  · refine lv_iload_n G.1 G.2.1 dX0_way_9 rfl (lv_at hl 2 rfl) ?_
    refine lv_iconst (v := nI 1) G.1 G.2.1 dX0_way_10 (by decide) ?_
    refine lv_icmp_eq (tgt := 29) G.1 G.2.1 dX0_way_11 (by decide) (fun h_11 => ?_) (fun h_11 => ?_)
    · have hB2 : gb i2 3 = true := by first | exact gb_is3 (Or.inl (by assumption)) | exact gb_is3 (Or.inr (Or.inl (by assumption))) | exact gb_is3 (Or.inr (Or.inr (by assumption)))
      obtain ⟨j2, hj2, rfl⟩ := gb_of (by omega) hB2
      have hg2 := gn_nI (show j2 < 2 ^ 31 by omega)
      refine lv_aload_n G.1 G.2.1 dX0_way_29 rfl (lv_at hl 0 rfl) ?_
      refine lv_iload_n G.1 G.2.1 dX0_way_30 rfl (lv_at hl 1 rfl) ?_
      refine gc_needT (vx_runV (As := [.int (nI j1)]) (rest := []) G.fix (mX0_needFreeProfile l hst D q cI N S tr A hok hN j1 (by omega)) (cwV 1 G.2.2.2.2.2.1 gX0_way_X0_needFreeProfile rfl rfl rfl (by decide +kernel) ⟨Nat.le_of_ble_eq_true rfl, Nat.le_of_ble_eq_true rfl⟩) ⟨xAt_blind, va_recv hX.2.1 hX.1 (ci := 0) (q0 := 0) rfl rfl, fun U hU hW => ⟨rfl, by show xAt _ _ _ _ _ _ _ U U.heap; rw [hU]; exact hX.moved hW⟩⟩ rfl rfl hl.1 rfl (lv_room (Nat.le_of_ble_eq_true rfl)) dX0_way_31 ⟨Nat.le_of_ble_eq_true rfl, Nat.le_of_ble_eq_true rfl⟩) hx0 G.2.2.2.2.2.2 (fun E t hE hz hk _ => ⟨Or.inr (Or.inr ⟨hE.1, (by simp [sA_way, hA1, hg1, hg2]), (by simp [sB_way, hB2, hg1, hg2]), (by simp [sC_way, hg1, hg2, hE.2] <;> omega)⟩), gXx_of hX hS hz hk⟩) hS.2.2 (by decide) (by decide) (fun hC1 => ?_)
      refine lv_aload_n G.1 G.2.1 dX0_way_34 rfl (lv_at hl 0 rfl) ?_
      refine gx_get G hX (by decide +kernel) 4 (by decide) (by decide +kernel) rfl rfl rfl dX0_way_35 ?_
      refine lv_iload_n G.1 G.2.1 dX0_way_38 rfl (lv_at hl 1 rfl) ?_
      refine lv_iload_n G.1 G.2.1 dX0_way_39 rfl (lv_at hl 2 rfl) ?_
      refine gx_swap (k := 4) (kp := 4) (len := 8) (F := S 4) (i := j1) (v := j2) (S' := (gs S 4 (gu (S 4) j1 j2))) (tr' := tr) (rest := []) G.fix (mX0_swap l D (q 4) cI 8 (S 4) j1 j2 (by first | omega | assumption)) (va_cwS 3 G.2.2.2.2.2.1 gX0_way_X0_swap rfl rfl rfl (by decide +kernel) ⟨Nat.le_of_ble_eq_true rfl, Nat.le_of_ble_eq_true rfl⟩) hX hS rfl (rfl) hl.1 rfl (Nat.le_of_ble_eq_true rfl) dX0_way_40 (Nat.zero_le _) (Nat.zero_le _) (fun H1 locs1 hX hS => ?_)
      exact vx_ret (W.widen (k := 1) (n := 6) (Nat.zero_le _) (Nat.zero_le _) (W.iret G.1 G.2.1 G.2.2.1 (fun t ht hW => gQx_of hX hS ht ⟨(by simp [sA_way, hA1, hg1, hg2]), (by simp [sB_way, hB2, hg1, hg2]), (by simp [sC_way, hC1, hg1, hg2]), (by show nI _ = nI _; simp only [sR_way, hg1, hg2]), (by simp only [sN_way, hg1, hg2]), (by simp only [sS_way, hg1, hg2])⟩) hS.2.2 dX0_way_43 G.2.2.2.2.2.2))
    · refine lv_iload_n G.1 G.2.1 dX0_way_14 rfl (lv_at hl 2 rfl) ?_
      refine lv_iconst (v := nI 2) G.1 G.2.1 dX0_way_15 (by decide) ?_
      refine lv_icmp_eq (tgt := 29) G.1 G.2.1 dX0_way_16 (by decide) (fun h_16 => ?_) (fun h_16 => ?_)
      · have hB2 : gb i2 3 = true := by first | exact gb_is3 (Or.inl (by assumption)) | exact gb_is3 (Or.inr (Or.inl (by assumption))) | exact gb_is3 (Or.inr (Or.inr (by assumption)))
        obtain ⟨j2, hj2, rfl⟩ := gb_of (by omega) hB2
        have hg2 := gn_nI (show j2 < 2 ^ 31 by omega)
        refine lv_aload_n G.1 G.2.1 dX0_way_29 rfl (lv_at hl 0 rfl) ?_
        refine lv_iload_n G.1 G.2.1 dX0_way_30 rfl (lv_at hl 1 rfl) ?_
        refine gc_needT (vx_runV (As := [.int (nI j1)]) (rest := []) G.fix (mX0_needFreeProfile l hst D q cI N S tr A hok hN j1 (by omega)) (cwV 1 G.2.2.2.2.2.1 gX0_way_X0_needFreeProfile rfl rfl rfl (by decide +kernel) ⟨Nat.le_of_ble_eq_true rfl, Nat.le_of_ble_eq_true rfl⟩) ⟨xAt_blind, va_recv hX.2.1 hX.1 (ci := 0) (q0 := 0) rfl rfl, fun U hU hW => ⟨rfl, by show xAt _ _ _ _ _ _ _ U U.heap; rw [hU]; exact hX.moved hW⟩⟩ rfl rfl hl.1 rfl (lv_room (Nat.le_of_ble_eq_true rfl)) dX0_way_31 ⟨Nat.le_of_ble_eq_true rfl, Nat.le_of_ble_eq_true rfl⟩) hx0 G.2.2.2.2.2.2 (fun E t hE hz hk _ => ⟨Or.inr (Or.inr ⟨hE.1, (by simp [sA_way, hA1, hg1, hg2]), (by simp [sB_way, hB2, hg1, hg2]), (by simp [sC_way, hg1, hg2, hE.2] <;> omega)⟩), gXx_of hX hS hz hk⟩) hS.2.2 (by decide) (by decide) (fun hC1 => ?_)
        refine lv_aload_n G.1 G.2.1 dX0_way_34 rfl (lv_at hl 0 rfl) ?_
        refine gx_get G hX (by decide +kernel) 4 (by decide) (by decide +kernel) rfl rfl rfl dX0_way_35 ?_
        refine lv_iload_n G.1 G.2.1 dX0_way_38 rfl (lv_at hl 1 rfl) ?_
        refine lv_iload_n G.1 G.2.1 dX0_way_39 rfl (lv_at hl 2 rfl) ?_
        refine gx_swap (k := 4) (kp := 4) (len := 8) (F := S 4) (i := j1) (v := j2) (S' := (gs S 4 (gu (S 4) j1 j2))) (tr' := tr) (rest := []) G.fix (mX0_swap l D (q 4) cI 8 (S 4) j1 j2 (by first | omega | assumption)) (va_cwS 3 G.2.2.2.2.2.1 gX0_way_X0_swap rfl rfl rfl (by decide +kernel) ⟨Nat.le_of_ble_eq_true rfl, Nat.le_of_ble_eq_true rfl⟩) hX hS rfl (rfl) hl.1 rfl (Nat.le_of_ble_eq_true rfl) dX0_way_40 (Nat.zero_le _) (Nat.zero_le _) (fun H1 locs1 hX hS => ?_)
        exact vx_ret (W.widen (k := 1) (n := 6) (Nat.zero_le _) (Nat.zero_le _) (W.iret G.1 G.2.1 G.2.2.1 (fun t ht hW => gQx_of hX hS ht ⟨(by simp [sA_way, hA1, hg1, hg2]), (by simp [sB_way, hB2, hg1, hg2]), (by simp [sC_way, hC1, hg1, hg2]), (by show nI _ = nI _; simp only [sR_way, hg1, hg2]), (by simp only [sN_way, hg1, hg2]), (by simp only [sS_way, hg1, hg2])⟩) hS.2.2 dX0_way_43 G.2.2.2.2.2.2))
      · exact gx_throw (text := "no such way") G hx0 hst (by decide +kernel) (by decide +kernel) (by decide +kernel) (by decide +kernel) gx_not_IA gx_good_IA (by decide +kernel) hZ0 hS hl.1 dX0_way_19 dX0_way_22 dX0_way_23 dX0_way_25 dX0_way_28 (Nat.le_of_ble_eq_true rfl) (Nat.le_of_ble_eq_true rfl) (Nat.le_of_ble_eq_true rfl) (Nat.le_of_ble_eq_true rfl) (fun t _ hz hk => ⟨Or.inr (Or.inl ⟨rfl, (by simp [sA_way, hA1, hg1]), by show gb i2 3 = false; exact gb_not3 h_6 h_11 h_16⟩), gXx_of hX hS hz hk⟩) hS.2.2 (by decide) (by decide)
set_option maxRecDepth 100000 in
set_option maxHeartbeats 4000000 in
/-- chain -/
theorem mX0_chain (l : Launch) (hst : l.stackTraces = false) (D : va_G) (q : Nat → Nat) (cI : ClassId) (N : Nat → Nat) (S : Nat → Nat → Nat) (tr : Nat → Nat) (A : Nat → Prop) (hok : sp_ok N S) (hinv : sp_inv N S) : vx_Met l yX0_chain wsX0_chain { frames := 6, cells := 1, slots := 6, locals := 82 } (va_Pc [.ref (q 0)] (fun U => xAt D q cI N S tr A U U.heap)) (gQx D q cI (fun r N2 S2 => sA_chain N S = true ∧ sB_chain N S = true ∧ sC_chain N S = true ∧ r = nI (sR_chain N S) ∧ N2 = sN_chain N S ∧ S2 = sS_chain N S) A) (gXx D q cI N S A (gE3 (sA_chain N S) (sB_chain N S) (sC_chain N S))) 1 6 A := by
  refine gc_vxmet [.ref (q 0)] (by decide) rfl (Nat.le_of_ble_eq_true rfl) rfl ?_
  intro p e s m below meth c ls G hx0 hl hX
  have hZ0 := hX.2.2.2
  have hS : va_S A s.heap s.heap [] := va_S.rf
  have hok9 := hok
  obtain ⟨⟨ok0, ok5⟩, ok1, ok2, ok3, ok4, ok6, ok7, ok8, ok12, ok13, ok14⟩ := hok9
  have hN := hinv.2.2.2.1
  have hN9 := hinv.2.2.1
  refine lv_aload_n G.1 G.2.1 dX0_chain_0 rfl (lv_at hl 0 rfl) ?_
  refine gx_get G hX (by decide +kernel) 5 (by decide) (by decide +kernel) rfl rfl rfl dX0_chain_1 ?_
  refine lv_bipush (v := nI 6) G.1 G.2.1 dX0_chain_4 (by decide) ?_
  refine gn_lt G (by omega) (by omega) (tgt := 19) dX0_chain_6 (by decide) (fun h_6 => ?_) (fun h_6 => ?_)
  · refine lv_aload_n G.1 G.2.1 dX0_chain_19 rfl (lv_at hl 0 rfl) ?_
    refine gx_get G hX (by decide +kernel) 5 (by decide) (by decide +kernel) rfl rfl rfl dX0_chain_20 ?_
    refine lv_istore_n (lv' := [(1, .int (nI (N 5))), (0, .ref (q 0))]) G.1 G.2.1 dX0_chain_23 rfl hl (by decide) rfl (fun ls hl => ?_)
    refine lv_aload_n G.1 G.2.1 dX0_chain_24 rfl (lv_at hl 1 rfl) ?_
    refine lv_dup G.1 G.2.1 dX0_chain_25 rfl ?_
    refine gx_get G hX (by decide +kernel) 5 (by decide) (by decide +kernel) rfl rfl rfl dX0_chain_26 ?_
    refine lv_iconst (v := nI 1) G.1 G.2.1 dX0_chain_29 (by decide) ?_
    refine gn_iadd G dX0_chain_30 ?_
    refine gx_put (k := 5) (N' := (gu N 5 ((N 5) + 1))) G hZ0 hX hS (by decide +kernel) (by decide) (by decide +kernel) rfl rfl (by decide +kernel) rfl (Nat.le_of_ble_eq_true rfl) rfl dX0_chain_31 (fun H1 locs1 hX hS => ?_)
    refine lv_iload_n G.1 G.2.1 dX0_chain_34 rfl (lv_at hl 0 rfl) ?_
    exact vx_ret (W.widen (k := 1) (n := 6) (Nat.zero_le _) (Nat.zero_le _) (W.iret G.1 G.2.1 G.2.2.1 (fun t ht hW => gQx_of hX hS ht ⟨rfl, rfl, (by simp [sC_chain, h_6]), (by show nI _ = nI _; simp only [sR_chain]), (by simp only [sN_chain]), (by simp only [sS_chain])⟩) hS.2.2 dX0_chain_35 G.2.2.2.2.2.2))
  · exact gx_throw (text := "there are 6 chains") G hx0 hst (by decide +kernel) (by decide +kernel) (by decide +kernel) (by decide +kernel) gx_not_IS gx_good_IS (by decide +kernel) hZ0 hS hl.1 dX0_chain_9 dX0_chain_12 dX0_chain_13 dX0_chain_15 dX0_chain_18 (Nat.le_of_ble_eq_true rfl) (Nat.le_of_ble_eq_true rfl) (Nat.le_of_ble_eq_true rfl) (Nat.le_of_ble_eq_true rfl) (fun t _ hz hk => ⟨Or.inr (Or.inr ⟨rfl, rfl, rfl, (by simp [sC_chain, h_6] <;> omega)⟩), gXx_of hX hS hz hk⟩) hS.2.2 (by decide) (by decide)
set_option maxRecDepth 100000 in
set_option maxHeartbeats 4000000 in
/-- add -/
theorem mX0_add (l : Launch) (hst : l.stackTraces = false) (D : va_G) (q : Nat → Nat) (cI : ClassId) (N : Nat → Nat) (S : Nat → Nat → Nat) (tr : Nat → Nat) (A : Nat → Prop) (hok : sp_ok N S) (hinv : sp_inv N S) (i1 i2 : Int32) : vx_Met l yX0_add wsX0_add { frames := 7, cells := 1, slots := 6, locals := 103 } (va_Pc [.ref (q 0), .int i1, .int i2] (fun U => xAt D q cI N S tr A U U.heap)) (gQx D q cI (fun r N2 S2 => sA_add N S i1 i2 = true ∧ sB_add N S i1 i2 = true ∧ sC_add N S i1 i2 = true ∧ r = nI (sR_add N S i1 i2) ∧ N2 = sN_add N S i1 i2 ∧ S2 = sS_add N S i1 i2) A) (gXx D q cI N S A (gE3 (sA_add N S i1 i2) (sB_add N S i1 i2) (sC_add N S i1 i2))) 1 6 A := by
  refine gc_vxmet [.ref (q 0), .int i1, .int i2] (by decide) rfl (Nat.le_of_ble_eq_true rfl) rfl ?_
  intro p e s m below meth c ls G hx0 hl hX
  have hZ0 := hX.2.2.2
  have hS : va_S A s.heap s.heap [] := va_S.rf
  have hok9 := hok
  obtain ⟨⟨ok0, ok5⟩, ok1, ok2, ok3, ok4, ok6, ok7, ok8, ok12, ok13, ok14⟩ := hok9
  have hN := hinv.2.2.2.1
  have hN9 := hinv.2.2.1
  refine lv_aload_n G.1 G.2.1 dX0_add_0 rfl (lv_at hl 0 rfl) ?_
  refine lv_iload_n G.1 G.2.1 dX0_add_1 rfl (lv_at hl 1 rfl) ?_
  refine gc_needT (vx_runV (As := [.int i1]) (rest := []) G.fix (mX0_needChain l hst D q cI N S tr A hok i1) (cwV 1 G.2.2.2.2.2.1 gX0_add_X0_needChain rfl rfl rfl (by decide +kernel) ⟨Nat.le_of_ble_eq_true rfl, Nat.le_of_ble_eq_true rfl⟩) ⟨xAt_blind, va_recv hX.2.1 hX.1 (ci := 0) (q0 := 0) rfl rfl, fun U hU hW => ⟨rfl, by show xAt _ _ _ _ _ _ _ U U.heap; rw [hU]; exact hX.moved hW⟩⟩ rfl rfl hl.1 rfl (lv_room (Nat.le_of_ble_eq_true rfl)) dX0_add_2 ⟨Nat.le_of_ble_eq_true rfl, Nat.le_of_ble_eq_true rfl⟩) hx0 G.2.2.2.2.2.2 (fun E t hE hz hk _ => ⟨Or.inl ⟨hE.1, (by simp [sA_add, hE.2] <;> omega)⟩, gXx_of hX hS hz hk⟩) hS.2.2 (by decide) (by decide) (fun hA1 => ?_)
  obtain ⟨j1, hj1, rfl⟩ := gb_of (by omega) hA1
  have hg1 := gn_nI (show j1 < 2 ^ 31 by omega)
  refine lv_aload_n G.1 G.2.1 dX0_add_5 rfl (lv_at hl 0 rfl) ?_
  refine lv_iload_n G.1 G.2.1 dX0_add_6 rfl (lv_at hl 2 rfl) ?_
  refine gc_needT (vx_runV (As := [.int i2]) (rest := []) G.fix (mX0_needProfile l hst D q cI N S tr A hok i2) (cwV 1 G.2.2.2.2.2.1 gX0_add_X0_needProfile rfl rfl rfl (by decide +kernel) ⟨Nat.le_of_ble_eq_true rfl, Nat.le_of_ble_eq_true rfl⟩) ⟨xAt_blind, va_recv hX.2.1 hX.1 (ci := 0) (q0 := 0) rfl rfl, fun U hU hW => ⟨rfl, by show xAt _ _ _ _ _ _ _ U U.heap; rw [hU]; exact hX.moved hW⟩⟩ rfl rfl hl.1 rfl (lv_room (Nat.le_of_ble_eq_true rfl)) dX0_add_7 ⟨Nat.le_of_ble_eq_true rfl, Nat.le_of_ble_eq_true rfl⟩) hx0 G.2.2.2.2.2.2 (fun E t hE hz hk _ => ⟨Or.inl ⟨hE.1, (by simp [sA_add, hA1, hg1, hE.2] <;> omega)⟩, gXx_of hX hS hz hk⟩) hS.2.2 (by decide) (by decide) (fun hA2 => ?_)
  obtain ⟨j2, hj2, rfl⟩ := gb_of (by omega) hA2
  have hg2 := gn_nI (show j2 < 2 ^ 31 by omega)
  refine lv_aload_n G.1 G.2.1 dX0_add_10 rfl (lv_at hl 0 rfl) ?_
  refine lv_iload_n G.1 G.2.1 dX0_add_11 rfl (lv_at hl 1 rfl) ?_
  refine gc_needT (vx_runV (As := [.int (nI j1)]) (rest := []) G.fix (mX0_needFreeChain l hst D q cI N S tr A hok hN j1 (by omega)) (cwV 1 G.2.2.2.2.2.1 gX0_add_X0_needFreeChain rfl rfl rfl (by decide +kernel) ⟨Nat.le_of_ble_eq_true rfl, Nat.le_of_ble_eq_true rfl⟩) ⟨xAt_blind, va_recv hX.2.1 hX.1 (ci := 0) (q0 := 0) rfl rfl, fun U hU hW => ⟨rfl, by show xAt _ _ _ _ _ _ _ U U.heap; rw [hU]; exact hX.moved hW⟩⟩ rfl rfl hl.1 rfl (lv_room (Nat.le_of_ble_eq_true rfl)) dX0_add_12 ⟨Nat.le_of_ble_eq_true rfl, Nat.le_of_ble_eq_true rfl⟩) hx0 G.2.2.2.2.2.2 (fun E t hE hz hk _ => ⟨Or.inr (Or.inr ⟨hE.1, (by simp [sA_add, hA1, hA2, hg1, hg2]), rfl, (by simp [sC_add, hg1, hg2, hE.2] <;> omega)⟩), gXx_of hX hS hz hk⟩) hS.2.2 (by decide) (by decide) (fun hC1 => ?_)
  refine lv_aload_n G.1 G.2.1 dX0_add_15 rfl (lv_at hl 0 rfl) ?_
  refine gx_get G hX (by decide +kernel) 7 (by decide) (by decide +kernel) rfl rfl rfl dX0_add_16 ?_
  refine lv_iload_n G.1 G.2.1 dX0_add_19 rfl (lv_at hl 1 rfl) ?_
  refine gc_s (As := [.ref (q 7), .int (nI j1)]) (rest := []) G.fix (mX0_read l D (q 7) cI 6 (S 7) (j1) (by first | omega | assumption | exact ok6 _ | apply hq)) (va_cwS 2 G.2.2.2.2.2.1 gX0_add_X0_read rfl rfl rfl (by decide +kernel) ⟨Nat.le_of_ble_eq_true rfl, Nat.le_of_ble_eq_true rfl⟩) rAt_blind (fun U hU hW => by rw [hU]; exact (hX.row 6 rfl).moved hW) rfl hl.1 rfl (Nat.le_of_ble_eq_true rfl) dX0_add_20 (Nat.zero_le _) (Nat.zero_le _) (fun r hr => ?_)
  subst hr
  refine lv_istore_n (lv' := [(3, .int (nI (S 7 j1))), (0, .ref (q 0)), (1, .int (nI j1)), (2, .int (nI j2))]) G.1 G.2.1 dX0_add_23 rfl hl (by decide) rfl (fun ls hl => ?_)
  have hl6 := ok7 j1
  refine lv_iload_n G.1 G.2.1 dX0_add_24 rfl (lv_at hl 0 rfl) ?_
  refine lv_bipush (v := nI 6) G.1 G.2.1 dX0_add_25 (by decide) ?_
  refine gn_lt G (by omega) (by omega) (tgt := 40) dX0_add_27 (by decide) (fun h_27 => ?_) (fun h_27 => ?_)
  · refine lv_aload_n G.1 G.2.1 dX0_add_40 rfl (lv_at hl 1 rfl) ?_
    refine gx_get G hX (by decide +kernel) 6 (by decide) (by decide +kernel) rfl rfl rfl dX0_add_41 ?_
    refine lv_iload_n G.1 G.2.1 dX0_add_44 rfl (lv_at hl 2 rfl) ?_
    refine lv_bipush (v := nI 6) G.1 G.2.1 dX0_add_45 (by decide) ?_
    refine gn_imul G dX0_add_47 ?_
    refine lv_iload_n G.1 G.2.1 dX0_add_48 rfl (lv_at hl 0 rfl) ?_
    refine gn_iadd G dX0_add_49 ?_
    refine lv_iload_n G.1 G.2.1 dX0_add_50 rfl (lv_at hl 3 rfl) ?_
    refine gx_swap (k := 6) (kp := 5) (len := 36) (F := S 6) (i := (j1 * 6) + (S 7 j1)) (v := j2) (S' := (gs S 6 (gu (S 6) ((j1 * 6) + (S 7 j1)) j2))) (tr' := tr) (rest := []) G.fix (mX0_swap l D (q 6) cI 36 (S 6) ((j1 * 6) + (S 7 j1)) j2 (by first | omega | assumption)) (va_cwS 3 G.2.2.2.2.2.1 gX0_add_X0_swap rfl rfl rfl (by decide +kernel) ⟨Nat.le_of_ble_eq_true rfl, Nat.le_of_ble_eq_true rfl⟩) hX hS rfl (rfl) hl.1 rfl (Nat.le_of_ble_eq_true rfl) dX0_add_51 (Nat.zero_le _) (Nat.zero_le _) (fun H1 locs1 hX hS => ?_)
    refine lv_pop G.1 G.2.1 dX0_add_54 rfl ?_
    refine lv_aload_n G.1 G.2.1 dX0_add_55 rfl (lv_at hl 1 rfl) ?_
    refine gx_get G hX (by decide +kernel) 7 (by decide) (by decide +kernel) rfl rfl rfl dX0_add_56 ?_
    refine lv_iload_n G.1 G.2.1 dX0_add_59 rfl (lv_at hl 2 rfl) ?_
    refine lv_iload_n G.1 G.2.1 dX0_add_60 rfl (lv_at hl 0 rfl) ?_
    refine lv_iconst (v := nI 1) G.1 G.2.1 dX0_add_61 (by decide) ?_
    refine gn_iadd G dX0_add_62 ?_
    refine gx_swap (k := 7) (kp := 6) (len := 6) (F := S 7) (i := j1) (v := (S 7 j1) + 1) (S' := (gs (gs S 6 (gu (S 6) ((j1 * 6) + (S 7 j1)) j2)) 7 (gu (S 7) j1 ((S 7 j1) + 1)))) (tr' := tr) (rest := []) G.fix (mX0_swap l D (q 7) cI 6 (S 7) j1 ((S 7 j1) + 1) (by first | omega | assumption)) (va_cwS 3 G.2.2.2.2.2.1 gX0_add_X0_swap rfl rfl rfl (by decide +kernel) ⟨Nat.le_of_ble_eq_true rfl, Nat.le_of_ble_eq_true rfl⟩) hX hS rfl (rfl) hl.1 rfl (Nat.le_of_ble_eq_true rfl) dX0_add_63 (Nat.zero_le _) (Nat.zero_le _) (fun H1 locs1 hX hS => ?_)
    refine lv_pop G.1 G.2.1 dX0_add_66 rfl ?_
    refine lv_iload_n G.1 G.2.1 dX0_add_67 rfl (lv_at hl 0 rfl) ?_
    refine lv_iconst (v := nI 1) G.1 G.2.1 dX0_add_68 (by decide) ?_
    refine gn_iadd G dX0_add_69 ?_
    exact vx_ret (W.widen (k := 1) (n := 6) (Nat.zero_le _) (Nat.zero_le _) (W.iret G.1 G.2.1 G.2.2.1 (fun t ht hW => gQx_of hX hS ht ⟨(by simp [sA_add, hA1, hA2, hg1, hg2]), rfl, (by simp [sC_add, hC1, h_27, hg1, hg2]), (by show nI _ = nI _; simp only [sR_add, hg1, hg2]), (by simp only [sN_add, hg1, hg2]), (by simp only [sS_add, hg1, hg2])⟩) hS.2.2 dX0_add_70 G.2.2.2.2.2.2))
  · exact gx_throw (text := "the chain has 6 profiles") G hx0 hst (by decide +kernel) (by decide +kernel) (by decide +kernel) (by decide +kernel) gx_not_IS gx_good_IS (by decide +kernel) hZ0 hS hl.1 dX0_add_30 dX0_add_33 dX0_add_34 dX0_add_36 dX0_add_39 (Nat.le_of_ble_eq_true rfl) (Nat.le_of_ble_eq_true rfl) (Nat.le_of_ble_eq_true rfl) (Nat.le_of_ble_eq_true rfl) (fun t _ hz hk => ⟨Or.inr (Or.inr ⟨rfl, (by simp [sA_add, hA1, hA2, hg1, hg2]), rfl, (by simp [sC_add, hC1, hg1, hg2, h_27] <;> omega)⟩), gXx_of hX hS hz hk⟩) hS.2.2 (by decide) (by decide)
set_option maxRecDepth 100000 in
set_option maxHeartbeats 4000000 in
/-- drop -/
theorem mX0_drop (l : Launch) (hst : l.stackTraces = false) (D : va_G) (q : Nat → Nat) (cI : ClassId) (N : Nat → Nat) (S : Nat → Nat → Nat) (tr : Nat → Nat) (A : Nat → Prop) (hok : sp_ok N S) (hinv : sp_inv N S) (i1 : Int32) : vx_Met l yX0_drop wsX0_drop { frames := 7, cells := 1, slots := 6, locals := 103 } (va_Pc [.ref (q 0), .int i1] (fun U => xAt D q cI N S tr A U U.heap)) (gQx D q cI (fun r N2 S2 => sA_drop N S i1 = true ∧ sB_drop N S i1 = true ∧ sC_drop N S i1 = true ∧ r = nI (sR_drop N S i1) ∧ N2 = sN_drop N S i1 ∧ S2 = sS_drop N S i1) A) (gXx D q cI N S A (gE3 (sA_drop N S i1) (sB_drop N S i1) (sC_drop N S i1))) 1 6 A := by
  refine gc_vxmet [.ref (q 0), .int i1] (by decide) rfl (Nat.le_of_ble_eq_true rfl) rfl ?_
  intro p e s m below meth c ls G hx0 hl hX
  have hZ0 := hX.2.2.2
  have hS : va_S A s.heap s.heap [] := va_S.rf
  have hok9 := hok
  obtain ⟨⟨ok0, ok5⟩, ok1, ok2, ok3, ok4, ok6, ok7, ok8, ok12, ok13, ok14⟩ := hok9
  have hN := hinv.2.2.2.1
  have hN9 := hinv.2.2.1
  refine lv_aload_n G.1 G.2.1 dX0_drop_0 rfl (lv_at hl 0 rfl) ?_
  refine lv_iload_n G.1 G.2.1 dX0_drop_1 rfl (lv_at hl 1 rfl) ?_
  refine gc_needT (vx_runV (As := [.int i1]) (rest := []) G.fix (mX0_needChain l hst D q cI N S tr A hok i1) (cwV 1 G.2.2.2.2.2.1 gX0_drop_X0_needChain rfl rfl rfl (by decide +kernel) ⟨Nat.le_of_ble_eq_true rfl, Nat.le_of_ble_eq_true rfl⟩) ⟨xAt_blind, va_recv hX.2.1 hX.1 (ci := 0) (q0 := 0) rfl rfl, fun U hU hW => ⟨rfl, by show xAt _ _ _ _ _ _ _ U U.heap; rw [hU]; exact hX.moved hW⟩⟩ rfl rfl hl.1 rfl (lv_room (Nat.le_of_ble_eq_true rfl)) dX0_drop_2 ⟨Nat.le_of_ble_eq_true rfl, Nat.le_of_ble_eq_true rfl⟩) hx0 G.2.2.2.2.2.2 (fun E t hE hz hk _ => ⟨Or.inl ⟨hE.1, (by simp [sA_drop, hE.2] <;> omega)⟩, gXx_of hX hS hz hk⟩) hS.2.2 (by decide) (by decide) (fun hA1 => ?_)
  obtain ⟨j1, hj1, rfl⟩ := gb_of (by omega) hA1
  have hg1 := gn_nI (show j1 < 2 ^ 31 by omega)
  refine lv_aload_n G.1 G.2.1 dX0_drop_5 rfl (lv_at hl 0 rfl) ?_
  refine lv_iload_n G.1 G.2.1 dX0_drop_6 rfl (lv_at hl 1 rfl) ?_
  refine gc_needT (vx_runV (As := [.int (nI j1)]) (rest := []) G.fix (mX0_needFreeChain l hst D q cI N S tr A hok hN j1 (by omega)) (cwV 1 G.2.2.2.2.2.1 gX0_drop_X0_needFreeChain rfl rfl rfl (by decide +kernel) ⟨Nat.le_of_ble_eq_true rfl, Nat.le_of_ble_eq_true rfl⟩) ⟨xAt_blind, va_recv hX.2.1 hX.1 (ci := 0) (q0 := 0) rfl rfl, fun U hU hW => ⟨rfl, by show xAt _ _ _ _ _ _ _ U U.heap; rw [hU]; exact hX.moved hW⟩⟩ rfl rfl hl.1 rfl (lv_room (Nat.le_of_ble_eq_true rfl)) dX0_drop_7 ⟨Nat.le_of_ble_eq_true rfl, Nat.le_of_ble_eq_true rfl⟩) hx0 G.2.2.2.2.2.2 (fun E t hE hz hk _ => ⟨Or.inr (Or.inr ⟨hE.1, (by simp [sA_drop, hA1, hg1]), rfl, (by simp [sC_drop, hg1, hE.2] <;> omega)⟩), gXx_of hX hS hz hk⟩) hS.2.2 (by decide) (by decide) (fun hC1 => ?_)
  refine lv_aload_n G.1 G.2.1 dX0_drop_10 rfl (lv_at hl 0 rfl) ?_
  refine gx_get G hX (by decide +kernel) 7 (by decide) (by decide +kernel) rfl rfl rfl dX0_drop_11 ?_
  refine lv_iload_n G.1 G.2.1 dX0_drop_14 rfl (lv_at hl 1 rfl) ?_
  refine gc_s (As := [.ref (q 7), .int (nI j1)]) (rest := []) G.fix (mX0_read l D (q 7) cI 6 (S 7) (j1) (by first | omega | assumption | exact ok6 _ | apply hq)) (va_cwS 2 G.2.2.2.2.2.1 gX0_drop_X0_read rfl rfl rfl (by decide +kernel) ⟨Nat.le_of_ble_eq_true rfl, Nat.le_of_ble_eq_true rfl⟩) rAt_blind (fun U hU hW => by rw [hU]; exact (hX.row 6 rfl).moved hW) rfl hl.1 rfl (Nat.le_of_ble_eq_true rfl) dX0_drop_15 (Nat.zero_le _) (Nat.zero_le _) (fun r hr => ?_)
  subst hr
  refine lv_istore_n (lv' := [(2, .int (nI (S 7 j1))), (0, .ref (q 0)), (1, .int (nI j1))]) G.1 G.2.1 dX0_drop_18 rfl hl (by decide) rfl (fun ls hl => ?_)
  have hl6 := ok7 j1
  refine lv_iload_n G.1 G.2.1 dX0_drop_19 rfl (lv_at hl 0 rfl) ?_
  refine gn_gtz G (by omega) (tgt := 33) dX0_drop_20 (by decide) (fun h_20 => ?_) (fun h_20 => ?_)
  · refine lv_aload_n G.1 G.2.1 dX0_drop_33 rfl (lv_at hl 1 rfl) ?_
    refine gx_get G hX (by decide +kernel) 7 (by decide) (by decide +kernel) rfl rfl rfl dX0_drop_34 ?_
    refine lv_iload_n G.1 G.2.1 dX0_drop_37 rfl (lv_at hl 2 rfl) ?_
    refine lv_iload_n G.1 G.2.1 dX0_drop_38 rfl (lv_at hl 0 rfl) ?_
    refine lv_iconst (v := nI 1) G.1 G.2.1 dX0_drop_39 (by decide) ?_
    refine gn_isub G dX0_drop_40 (by omega) ?_
    refine gx_swap (k := 7) (kp := 6) (len := 6) (F := S 7) (i := j1) (v := (S 7 j1) - 1) (S' := (gs S 7 (gu (S 7) j1 ((S 7 j1) - 1)))) (tr' := tr) (rest := []) G.fix (mX0_swap l D (q 7) cI 6 (S 7) j1 ((S 7 j1) - 1) (by first | omega | assumption)) (va_cwS 3 G.2.2.2.2.2.1 gX0_drop_X0_swap rfl rfl rfl (by decide +kernel) ⟨Nat.le_of_ble_eq_true rfl, Nat.le_of_ble_eq_true rfl⟩) hX hS rfl (rfl) hl.1 rfl (Nat.le_of_ble_eq_true rfl) dX0_drop_41 (Nat.zero_le _) (Nat.zero_le _) (fun H1 locs1 hX hS => ?_)
    refine lv_pop G.1 G.2.1 dX0_drop_44 rfl ?_
    refine lv_aload_n G.1 G.2.1 dX0_drop_45 rfl (lv_at hl 1 rfl) ?_
    refine gx_get G hX (by decide +kernel) 6 (by decide) (by decide +kernel) rfl rfl rfl dX0_drop_46 ?_
    refine lv_iload_n G.1 G.2.1 dX0_drop_49 rfl (lv_at hl 2 rfl) ?_
    refine lv_bipush (v := nI 6) G.1 G.2.1 dX0_drop_50 (by decide) ?_
    refine gn_imul G dX0_drop_52 ?_
    refine lv_iload_n G.1 G.2.1 dX0_drop_53 rfl (lv_at hl 0 rfl) ?_
    refine gn_iadd G dX0_drop_54 ?_
    refine lv_iconst (v := nI 1) G.1 G.2.1 dX0_drop_55 (by decide) ?_
    refine gn_isub G dX0_drop_56 (by omega) ?_
    refine gc_s (As := [.ref (q 6), .int (nI (((j1 * 6) + (S 7 j1)) - 1))]) (rest := []) G.fix (mX0_read l D (q 6) cI 36 (S 6) (((j1 * 6) + (S 7 j1)) - 1) (by first | omega | assumption | exact ok6 _ | apply hq)) (va_cwS 2 G.2.2.2.2.2.1 gX0_drop_X0_read rfl rfl rfl (by decide +kernel) ⟨Nat.le_of_ble_eq_true rfl, Nat.le_of_ble_eq_true rfl⟩) rAt_blind (fun U hU hW => by rw [hU]; exact (hX.row 5 rfl).moved hW) rfl hl.1 rfl (Nat.le_of_ble_eq_true rfl) dX0_drop_57 (Nat.zero_le _) (Nat.zero_le _) (fun r hr => ?_)
    subst hr
    exact vx_ret (W.widen (k := 1) (n := 6) (Nat.zero_le _) (Nat.zero_le _) (W.iret G.1 G.2.1 G.2.2.1 (fun t ht hW => gQx_of hX hS ht ⟨(by simp [sA_drop, hA1, hg1]), rfl, (by simp [sC_drop, hC1, h_20, hg1]), (by show nI _ = nI _; simp only [sR_drop, hg1]), (by simp only [sN_drop, hg1]), (by simp only [sS_drop, hg1])⟩) hS.2.2 dX0_drop_60 G.2.2.2.2.2.2))
  · exact gx_throw (text := "the chain has no profile") G hx0 hst (by decide +kernel) (by decide +kernel) (by decide +kernel) (by decide +kernel) gx_not_IS gx_good_IS (by decide +kernel) hZ0 hS hl.1 dX0_drop_23 dX0_drop_26 dX0_drop_27 dX0_drop_29 dX0_drop_32 (Nat.le_of_ble_eq_true rfl) (Nat.le_of_ble_eq_true rfl) (Nat.le_of_ble_eq_true rfl) (Nat.le_of_ble_eq_true rfl) (fun t _ hz hk => ⟨Or.inr (Or.inr ⟨rfl, (by simp [sA_drop, hA1, hg1]), rfl, (by simp [sC_drop, hC1, hg1, h_20] <;> omega)⟩), gXx_of hX hS hz hk⟩) hS.2.2 (by decide) (by decide)
set_option maxRecDepth 100000 in
set_option maxHeartbeats 4000000 in
/-- joined -/
theorem mX0_joined (l : Launch) (hst : l.stackTraces = false) (D : va_G) (q : Nat → Nat) (cI : ClassId) (N : Nat → Nat) (S : Nat → Nat → Nat) (tr : Nat → Nat) (A : Nat → Prop) (hok : sp_ok N S) (hinv : sp_inv N S) (i1 i2 i3 : Int32) : vx_Met l yX0_joined wsX0_joined { frames := 7, cells := 1, slots := 6, locals := 103 } (va_Pc [.ref (q 0), .int i1, .int i2, .int i3] (fun U => xAt D q cI N S tr A U U.heap)) (gQx D q cI (fun r N2 S2 => sA_joined N S i1 i2 i3 = true ∧ sB_joined N S i1 i2 i3 = true ∧ sC_joined N S i1 i2 i3 = true ∧ r = nI (sR_joined N S i1 i2 i3) ∧ N2 = sN_joined N S i1 i2 i3 ∧ S2 = sS_joined N S i1 i2 i3) A) (gXx D q cI N S A (gE3 (sA_joined N S i1 i2 i3) (sB_joined N S i1 i2 i3) (sC_joined N S i1 i2 i3))) 1 6 A := by
  refine gc_vxmet [.ref (q 0), .int i1, .int i2, .int i3] (by decide) rfl (Nat.le_of_ble_eq_true rfl) rfl ?_
  intro p e s m below meth c ls G hx0 hl hX
  have hZ0 := hX.2.2.2
  have hS : va_S A s.heap s.heap [] := va_S.rf
  have hok9 := hok
  obtain ⟨⟨ok0, ok5⟩, ok1, ok2, ok3, ok4, ok6, ok7, ok8, ok12, ok13, ok14⟩ := hok9
  have hN := hinv.2.2.2.1
  have hN9 := hinv.2.2.1
  refine lv_aload_n G.1 G.2.1 dX0_joined_0 rfl (lv_at hl 0 rfl) ?_
  refine lv_iload_n G.1 G.2.1 dX0_joined_1 rfl (lv_at hl 1 rfl) ?_
  refine gc_needT (vx_runV (As := [.int i1]) (rest := []) G.fix (mX0_needChain l hst D q cI N S tr A hok i1) (cwV 1 G.2.2.2.2.2.1 gX0_joined_X0_needChain rfl rfl rfl (by decide +kernel) ⟨Nat.le_of_ble_eq_true rfl, Nat.le_of_ble_eq_true rfl⟩) ⟨xAt_blind, va_recv hX.2.1 hX.1 (ci := 0) (q0 := 0) rfl rfl, fun U hU hW => ⟨rfl, by show xAt _ _ _ _ _ _ _ U U.heap; rw [hU]; exact hX.moved hW⟩⟩ rfl rfl hl.1 rfl (lv_room (Nat.le_of_ble_eq_true rfl)) dX0_joined_2 ⟨Nat.le_of_ble_eq_true rfl, Nat.le_of_ble_eq_true rfl⟩) hx0 G.2.2.2.2.2.2 (fun E t hE hz hk _ => ⟨Or.inl ⟨hE.1, (by simp [sA_joined, hE.2] <;> omega)⟩, gXx_of hX hS hz hk⟩) hS.2.2 (by decide) (by decide) (fun hA1 => ?_)
  obtain ⟨j1, hj1, rfl⟩ := gb_of (by omega) hA1
  have hg1 := gn_nI (show j1 < 2 ^ 31 by omega)
  refine lv_iload_n G.1 G.2.1 dX0_joined_5 rfl (lv_at hl 2 rfl) ?_
  refine gc_needT (vx_runS (As := [.int i2]) (rest := []) G.fix (mX0_needBand l hst i2) (va_cwS 1 G.2.2.2.2.2.1 gX0_joined_X0_needBand rfl rfl rfl (by decide +kernel) ⟨Nat.le_of_ble_eq_true rfl, Nat.le_of_ble_eq_true rfl⟩) ⟨gZ_blind, fun U hU hW => ⟨rfl, by show gZ _ U U.heap; rw [hU]; exact hX.2.2.2.none.moved hW⟩⟩ rfl rfl hl.1 rfl (lv_room (Nat.le_of_ble_eq_true rfl)) dX0_joined_6 ⟨Nat.le_of_ble_eq_true rfl, Nat.le_of_ble_eq_true rfl⟩) hx0 G.2.2.2.2.2.2 (fun E t hE hz hk _ => ⟨Or.inl ⟨hE.1, (by simp [sA_joined, hA1, hg1, hE.2] <;> omega)⟩, gXx_of hX hS hz hk⟩) hS.2.2 (by decide) (by decide) (fun hA2 => ?_)
  obtain ⟨j2, hj2, rfl⟩ := gb_of (by omega) hA2
  have hg2 := gn_nI (show j2 < 2 ^ 31 by omega)
  refine lv_iload_n G.1 G.2.1 dX0_joined_9 rfl (lv_at hl 3 rfl) ?_
  refine gc_needT (vx_runS (As := [.int i3]) (rest := []) G.fix (mX0_needValue l hst i3) (va_cwS 1 G.2.2.2.2.2.1 gX0_joined_X0_needValue rfl rfl rfl (by decide +kernel) ⟨Nat.le_of_ble_eq_true rfl, Nat.le_of_ble_eq_true rfl⟩) ⟨gZ_blind, fun U hU hW => ⟨rfl, by show gZ _ U U.heap; rw [hU]; exact hX.2.2.2.none.moved hW⟩⟩ rfl rfl hl.1 rfl (lv_room (Nat.le_of_ble_eq_true rfl)) dX0_joined_10 ⟨Nat.le_of_ble_eq_true rfl, Nat.le_of_ble_eq_true rfl⟩) hx0 G.2.2.2.2.2.2 (fun E t hE hz hk _ => ⟨Or.inr (Or.inl ⟨hE.1, (by simp [sA_joined, hA1, hA2, hg1, hg2]), (by simp [sB_joined, hg1, hg2, hE.2] <;> omega)⟩), gXx_of hX hS hz hk⟩) hS.2.2 (by decide) (by decide) (fun hB3 => ?_)
  obtain ⟨j3, hj3, rfl⟩ := gb_of (by omega) hB3
  have hg3 := gn_nI (show j3 < 2 ^ 31 by omega)
  refine lv_aload_n G.1 G.2.1 dX0_joined_13 rfl (lv_at hl 0 rfl) ?_
  refine gx_get G hX (by decide +kernel) 9 (by decide) (by decide +kernel) rfl rfl rfl dX0_joined_14 ?_
  refine lv_iload_n G.1 G.2.1 dX0_joined_17 rfl (lv_at hl 1 rfl) ?_
  refine gc_s (As := [.int (nI (N 9)), .int (nI j1)]) (rest := []) G.fix (mX0_hasBit l (N 9) j1 (by first | omega | assumption | exact ok6 _ | apply hq) (by omega)) (va_cwS 2 G.2.2.2.2.2.1 gX0_joined_X0_hasBit rfl rfl rfl (by decide +kernel) ⟨Nat.le_of_ble_eq_true rfl, Nat.le_of_ble_eq_true rfl⟩) gc_blindT (fun _ _ _ => trivial) rfl hl.1 rfl (Nat.le_of_ble_eq_true rfl) dX0_joined_18 (Nat.zero_le _) (Nat.zero_le _) (fun r hr => ?_)
  subst hr
  refine gn_nez G (by exact sp_b31 _ _) (tgt := 34) dX0_joined_21 (by decide) (fun h_21 => ?_) (fun h_21 => ?_)
  · have hb8 := sp_bit_lt (N 9) j1
    have hC1 : sp_bit (N 9) j1 = 1 := by omega
    have hb2 : S 8 ((j1 * 3 + j2) * 5 + j3 / 64) ≤ 255 ∧ S 8 ((j1 * 3 + j2) * 5 + j3 / 64 + 1) ≤ 255 := ⟨ok8 _, ok8 _⟩
    refine lv_aload_n G.1 G.2.1 dX0_joined_34 rfl (lv_at hl 0 rfl) ?_
    refine gx_get G hX (by decide +kernel) 8 (by decide) (by decide +kernel) rfl rfl rfl dX0_joined_35 ?_
    refine lv_iload_n G.1 G.2.1 dX0_joined_38 rfl (lv_at hl 1 rfl) ?_
    refine lv_iconst (v := nI 3) G.1 G.2.1 dX0_joined_39 (by decide) ?_
    refine gn_imul G dX0_joined_40 ?_
    refine lv_iload_n G.1 G.2.1 dX0_joined_41 rfl (lv_at hl 2 rfl) ?_
    refine gn_iadd G dX0_joined_42 ?_
    refine lv_iconst (v := nI 5) G.1 G.2.1 dX0_joined_43 (by decide) ?_
    refine gn_imul G dX0_joined_44 ?_
    refine lv_iload_n G.1 G.2.1 dX0_joined_45 rfl (lv_at hl 3 rfl) ?_
    refine gc_s (As := [.ref (q 8), .int (nI (((j1 * 3) + j2) * 5)), .int (nI j3)]) (rest := []) G.fix (mX0_between l D (q 8) cI 90 (S 8) (((j1 * 3) + j2) * 5) j3 (by first | omega | assumption | exact ok6 _ | apply hq) (by first | omega | assumption | exact ok6 _ | apply hq) (by first | assumption | (intro j; omega))) (va_cwS 3 G.2.2.2.2.2.1 gX0_joined_X0_between rfl rfl rfl (by decide +kernel) ⟨Nat.le_of_ble_eq_true rfl, Nat.le_of_ble_eq_true rfl⟩) rAt_blind (fun U hU hW => by rw [hU]; exact (hX.row 7 rfl).moved hW) rfl hl.1 rfl (Nat.le_of_ble_eq_true rfl) dX0_joined_46 (Nat.zero_le _) (Nat.zero_le _) (fun r hr => ?_)
    subst hr
    exact vx_ret (W.widen (k := 1) (n := 6) (Nat.zero_le _) (Nat.zero_le _) (W.iret G.1 G.2.1 G.2.2.1 (fun t ht hW => gQx_of hX hS ht ⟨(by simp [sA_joined, hA1, hA2, hg1, hg2, hg3]), (by simp [sB_joined, hB3, hg1, hg2, hg3]), (by simp [sC_joined, hC1, hg1, hg2, hg3]), (by show nI _ = nI _; simp only [sR_joined, hg1, hg2, hg3]), (by simp only [sN_joined, hg1, hg2, hg3]), (by simp only [sS_joined, hg1, hg2, hg3])⟩) hS.2.2 dX0_joined_49 G.2.2.2.2.2.2))
  · exact gx_throw (text := "the chain is not joined") G hx0 hst (by decide +kernel) (by decide +kernel) (by decide +kernel) (by decide +kernel) gx_not_IS gx_good_IS (by decide +kernel) hZ0 hS hl.1 dX0_joined_24 dX0_joined_27 dX0_joined_28 dX0_joined_30 dX0_joined_33 (Nat.le_of_ble_eq_true rfl) (Nat.le_of_ble_eq_true rfl) (Nat.le_of_ble_eq_true rfl) (Nat.le_of_ble_eq_true rfl) (fun t _ hz hk => ⟨Or.inr (Or.inr ⟨rfl, (by simp [sA_joined, hA1, hA2, hg1, hg2, hg3]), (by simp [sB_joined, hB3, hg1, hg2, hg3]), (by simp [sC_joined, hg1, hg2, hg3, h_21] <;> omega)⟩), gXx_of hX hS hz hk⟩) hS.2.2 (by decide) (by decide)
set_option maxRecDepth 100000 in
set_option maxHeartbeats 4000000 in
/-- sign -/
theorem mX0_sign (l : Launch) (hst : l.stackTraces = false) (D : va_G) (q : Nat → Nat) (cI : ClassId) (N : Nat → Nat) (S : Nat → Nat → Nat) (tr : Nat → Nat) (A : Nat → Prop) (hok : sp_ok N S) (hinv : sp_inv N S) (i1 : Int32) : vx_Met l yX0_sign wsX0_sign { frames := 7, cells := 1, slots := 6, locals := 103 } (va_Pc [.ref (q 0), .int i1] (fun U => xAt D q cI N S tr A U U.heap)) (gQx D q cI (fun r N2 S2 => sA_sign N S i1 = true ∧ sB_sign N S i1 = true ∧ sC_sign N S i1 = true ∧ r = nI (sR_sign N S i1) ∧ N2 = sN_sign N S i1 ∧ S2 = sS_sign N S i1) A) (gXx D q cI N S A (gE3 (sA_sign N S i1) (sB_sign N S i1) (sC_sign N S i1))) 1 6 A := by
  refine gc_vxmet [.ref (q 0), .int i1] (by decide) rfl (Nat.le_of_ble_eq_true rfl) rfl ?_
  intro p e s m below meth c ls G hx0 hl hX
  have hZ0 := hX.2.2.2
  have hS : va_S A s.heap s.heap [] := va_S.rf
  have hok9 := hok
  obtain ⟨⟨ok0, ok5⟩, ok1, ok2, ok3, ok4, ok6, ok7, ok8, ok12, ok13, ok14⟩ := hok9
  have hN := hinv.2.2.2.1
  have hN9 := hinv.2.2.1
  refine lv_aload_n G.1 G.2.1 dX0_sign_0 rfl (lv_at hl 0 rfl) ?_
  refine lv_iload_n G.1 G.2.1 dX0_sign_1 rfl (lv_at hl 1 rfl) ?_
  refine gc_needT (vx_runV (As := [.int i1]) (rest := []) G.fix (mX0_needChain l hst D q cI N S tr A hok i1) (cwV 1 G.2.2.2.2.2.1 gX0_sign_X0_needChain rfl rfl rfl (by decide +kernel) ⟨Nat.le_of_ble_eq_true rfl, Nat.le_of_ble_eq_true rfl⟩) ⟨xAt_blind, va_recv hX.2.1 hX.1 (ci := 0) (q0 := 0) rfl rfl, fun U hU hW => ⟨rfl, by show xAt _ _ _ _ _ _ _ U U.heap; rw [hU]; exact hX.moved hW⟩⟩ rfl rfl hl.1 rfl (lv_room (Nat.le_of_ble_eq_true rfl)) dX0_sign_2 ⟨Nat.le_of_ble_eq_true rfl, Nat.le_of_ble_eq_true rfl⟩) hx0 G.2.2.2.2.2.2 (fun E t hE hz hk _ => ⟨Or.inl ⟨hE.1, (by simp [sA_sign, hE.2] <;> omega)⟩, gXx_of hX hS hz hk⟩) hS.2.2 (by decide) (by decide) (fun hA1 => ?_)
  obtain ⟨j1, hj1, rfl⟩ := gb_of (by omega) hA1
  have hg1 := gn_nI (show j1 < 2 ^ 31 by omega)
  refine lv_aload_n G.1 G.2.1 dX0_sign_5 rfl (lv_at hl 0 rfl) ?_
  have hxl : N 10 ^^^ 2 ^ j1 < 2 ^ 31 := Nat.lt_trans (Nat.xor_lt_two_pow (n := 6) hN (Nat.pow_lt_pow_right (by decide) (by omega))) (by decide)
  refine lv_aload_n G.1 G.2.1 dX0_sign_6 rfl (lv_at hl 0 rfl) ?_
  refine gx_get G hX (by decide +kernel) 10 (by decide) (by decide +kernel) rfl rfl rfl dX0_sign_7 ?_
  refine lv_iconst (v := nI 1) G.1 G.2.1 dX0_sign_10 (by decide) ?_
  refine lv_iload_n G.1 G.2.1 dX0_sign_11 rfl (lv_at hl 1 rfl) ?_
  refine gn_ishl G dX0_sign_12 (by omega) ?_
  refine gn_ixor G dX0_sign_13 ?_
  refine gx_put (k := 10) (N' := (gu N 10 ((N 10) ^^^ (2 ^ j1)))) G hZ0 hX hS (by decide +kernel) (by decide) (by decide +kernel) rfl rfl (by decide +kernel) rfl (Nat.le_of_ble_eq_true rfl) rfl dX0_sign_14 (fun H1 locs1 hX hS => ?_)
  refine lv_aload_n G.1 G.2.1 dX0_sign_17 rfl (lv_at hl 0 rfl) ?_
  refine gx_get G hX (by decide +kernel) 10 (by decide) (by decide +kernel) rfl rfl rfl dX0_sign_18 ?_
  refine lv_iload_n G.1 G.2.1 dX0_sign_21 rfl (lv_at hl 1 rfl) ?_
  refine gc_s (As := [.int (nI (((N 10) ^^^ (2 ^ j1)))), .int (nI j1)]) (rest := []) G.fix (mX0_hasBit l (((N 10) ^^^ (2 ^ j1))) j1 (by first | omega | assumption | exact ok6 _ | apply hq) (by omega)) (va_cwS 2 G.2.2.2.2.2.1 gX0_sign_X0_hasBit rfl rfl rfl (by decide +kernel) ⟨Nat.le_of_ble_eq_true rfl, Nat.le_of_ble_eq_true rfl⟩) gc_blindT (fun _ _ _ => trivial) rfl hl.1 rfl (Nat.le_of_ble_eq_true rfl) dX0_sign_22 (Nat.zero_le _) (Nat.zero_le _) (fun r hr => ?_)
  subst hr
  have hX := xAt_free10 (F := gu (S 10) j1 (1 - S 10 j1)) hX
  exact vx_ret (W.widen (k := 1) (n := 6) (Nat.zero_le _) (Nat.zero_le _) (W.zret G.1 G.2.1 G.2.2.1 (gp_narrow_z _ _) (fun t ht hW => gQx_of hX hS ht ⟨(by simp [sA_sign, hA1, hg1]), rfl, rfl, (by show nI _ = nI _; rw [sR_sign, hg1]; exact congrArg nI (sp_xor_bit _ _)), (by simp only [sN_sign, hg1]), (by simp only [sS_sign, hg1])⟩) hS.2.2 dX0_sign_25 G.2.2.2.2.2.2))
set_option maxRecDepth 100000 in
set_option maxHeartbeats 4000000 in
/-- shown -/
theorem mX0_shown (l : Launch) (hst : l.stackTraces = false) (D : va_G) (q : Nat → Nat) (cI : ClassId) (N : Nat → Nat) (S : Nat → Nat → Nat) (tr : Nat → Nat) (A : Nat → Prop) (hok : sp_ok N S) (hinv : sp_inv N S) (i1 i2 i3 i4 : Int32) : vx_Met l yX0_shown wsX0_shown { frames := 7, cells := 1, slots := 6, locals := 124 } (va_Pc [.ref (q 0), .int i1, .int i2, .int i3, .int i4] (fun U => xAt D q cI N S tr A U U.heap)) (gQx D q cI (fun r N2 S2 => sA_shown N S i1 i2 i3 i4 = true ∧ sB_shown N S i1 i2 i3 i4 = true ∧ sC_shown N S i1 i2 i3 i4 = true ∧ r = nI (sR_shown N S i1 i2 i3 i4) ∧ N2 = sN_shown N S i1 i2 i3 i4 ∧ S2 = sS_shown N S i1 i2 i3 i4) A) (gXx D q cI N S A (gE3 (sA_shown N S i1 i2 i3 i4) (sB_shown N S i1 i2 i3 i4) (sC_shown N S i1 i2 i3 i4))) 1 6 A := by
  refine gc_vxmet [.ref (q 0), .int i1, .int i2, .int i3, .int i4] (by decide) rfl (Nat.le_of_ble_eq_true rfl) rfl ?_
  intro p e s m below meth c ls G hx0 hl hX
  have hZ0 := hX.2.2.2
  have hS : va_S A s.heap s.heap [] := va_S.rf
  have hok9 := hok
  obtain ⟨⟨ok0, ok5⟩, ok1, ok2, ok3, ok4, ok6, ok7, ok8, ok12, ok13, ok14⟩ := hok9
  have hN := hinv.2.2.2.1
  have hN9 := hinv.2.2.1
  refine lv_aload_n G.1 G.2.1 dX0_shown_0 rfl (lv_at hl 0 rfl) ?_
  refine lv_iload_n G.1 G.2.1 dX0_shown_1 rfl (lv_at hl 1 rfl) ?_
  refine gc_needT (vx_runV (As := [.int i1]) (rest := []) G.fix (mX0_needChain l hst D q cI N S tr A hok i1) (cwV 1 G.2.2.2.2.2.1 gX0_shown_X0_needChain rfl rfl rfl (by decide +kernel) ⟨Nat.le_of_ble_eq_true rfl, Nat.le_of_ble_eq_true rfl⟩) ⟨xAt_blind, va_recv hX.2.1 hX.1 (ci := 0) (q0 := 0) rfl rfl, fun U hU hW => ⟨rfl, by show xAt _ _ _ _ _ _ _ U U.heap; rw [hU]; exact hX.moved hW⟩⟩ rfl rfl hl.1 rfl (lv_room (Nat.le_of_ble_eq_true rfl)) dX0_shown_2 ⟨Nat.le_of_ble_eq_true rfl, Nat.le_of_ble_eq_true rfl⟩) hx0 G.2.2.2.2.2.2 (fun E t hE hz hk _ => ⟨Or.inl ⟨hE.1, (by simp [sA_shown, hE.2] <;> omega)⟩, gXx_of hX hS hz hk⟩) hS.2.2 (by decide) (by decide) (fun hA1 => ?_)
  obtain ⟨j1, hj1, rfl⟩ := gb_of (by omega) hA1
  have hg1 := gn_nI (show j1 < 2 ^ 31 by omega)
  refine lv_iload_n G.1 G.2.1 dX0_shown_5 rfl (lv_at hl 2 rfl) ?_
  refine gc_needT (vx_runS (As := [.int i2]) (rest := []) G.fix (mX0_needPixel l hst i2) (va_cwS 1 G.2.2.2.2.2.1 gX0_shown_X0_needPixel rfl rfl rfl (by decide +kernel) ⟨Nat.le_of_ble_eq_true rfl, Nat.le_of_ble_eq_true rfl⟩) ⟨gZ_blind, fun U hU hW => ⟨rfl, by show gZ _ U U.heap; rw [hU]; exact hX.2.2.2.none.moved hW⟩⟩ rfl rfl hl.1 rfl (lv_room (Nat.le_of_ble_eq_true rfl)) dX0_shown_6 ⟨Nat.le_of_ble_eq_true rfl, Nat.le_of_ble_eq_true rfl⟩) hx0 G.2.2.2.2.2.2 (fun E t hE hz hk _ => ⟨Or.inl ⟨hE.1, (by simp [sA_shown, hA1, hg1, hE.2] <;> omega)⟩, gXx_of hX hS hz hk⟩) hS.2.2 (by decide) (by decide) (fun hA2 => ?_)
  obtain ⟨j2, hj2, rfl⟩ := gb_of (by omega) hA2
  have hg2 := gn_nI (show j2 < 2 ^ 31 by omega)
  refine lv_iload_n G.1 G.2.1 dX0_shown_9 rfl (lv_at hl 3 rfl) ?_
  refine gc_needT (vx_runS (As := [.int i3]) (rest := []) G.fix (mX0_needBand l hst i3) (va_cwS 1 G.2.2.2.2.2.1 gX0_shown_X0_needBand rfl rfl rfl (by decide +kernel) ⟨Nat.le_of_ble_eq_true rfl, Nat.le_of_ble_eq_true rfl⟩) ⟨gZ_blind, fun U hU hW => ⟨rfl, by show gZ _ U U.heap; rw [hU]; exact hX.2.2.2.none.moved hW⟩⟩ rfl rfl hl.1 rfl (lv_room (Nat.le_of_ble_eq_true rfl)) dX0_shown_10 ⟨Nat.le_of_ble_eq_true rfl, Nat.le_of_ble_eq_true rfl⟩) hx0 G.2.2.2.2.2.2 (fun E t hE hz hk _ => ⟨Or.inl ⟨hE.1, (by simp [sA_shown, hA1, hA2, hg1, hg2, hE.2] <;> omega)⟩, gXx_of hX hS hz hk⟩) hS.2.2 (by decide) (by decide) (fun hA3 => ?_)
  obtain ⟨j3, hj3, rfl⟩ := gb_of (by omega) hA3
  have hg3 := gn_nI (show j3 < 2 ^ 31 by omega)
  refine lv_iload G.1 G.2.1 dX0_shown_13 (lv_at hl 4 rfl) ?_
  refine lv_if_lt (tgt := 25) G.1 G.2.1 dX0_shown_15 (by decide) (fun h_15 => ?_) (fun h_15 => ?_)
  · exact gx_throw (text := "no such set of inks") G hx0 hst (by decide +kernel) (by decide +kernel) (by decide +kernel) (by decide +kernel) gx_not_IA gx_good_IA (by decide +kernel) hZ0 hS hl.1 dX0_shown_25 dX0_shown_28 dX0_shown_29 dX0_shown_31 dX0_shown_34 (Nat.le_of_ble_eq_true rfl) (Nat.le_of_ble_eq_true rfl) (Nat.le_of_ble_eq_true rfl) (Nat.le_of_ble_eq_true rfl) (fun t _ hz hk => ⟨Or.inr (Or.inl ⟨rfl, (by simp [sA_shown, hA1, hA2, hA3, hg1, hg2, hg3]), by show gb i4 8 = false; first | exact gb_neg (by assumption) | exact gb_nle7 (by assumption)⟩), gXx_of hX hS hz hk⟩) hS.2.2 (by decide) (by decide)
  · refine lv_iload G.1 G.2.1 dX0_shown_18 (lv_at hl 4 rfl) ?_
    refine lv_bipush (v := nI 7) G.1 G.2.1 dX0_shown_20 (by decide) ?_
    refine lv_icmp_le (tgt := 35) G.1 G.2.1 dX0_shown_22 (by decide) (fun h_22 => ?_) (fun h_22 => ?_)
    · have hB4 : gb i4 8 = true := gb_le7 h_15 h_22
      obtain ⟨j4, hj4, rfl⟩ := gb_of (by omega) hB4
      have hg4 := gn_nI (show j4 < 2 ^ 31 by omega)
      have hq := sp_ink_le (px := j2) (bd := j3) (ks := j4) hok
      refine lv_aload_n G.1 G.2.1 dX0_shown_35 rfl (lv_at hl 0 rfl) ?_
      refine lv_iload_n G.1 G.2.1 dX0_shown_36 rfl (lv_at hl 1 rfl) ?_
      refine lv_iload_n G.1 G.2.1 dX0_shown_37 rfl (lv_at hl 3 rfl) ?_
      refine lv_aload_n G.1 G.2.1 dX0_shown_38 rfl (lv_at hl 0 rfl) ?_
      refine lv_iload_n G.1 G.2.1 dX0_shown_39 rfl (lv_at hl 2 rfl) ?_
      refine lv_iload_n G.1 G.2.1 dX0_shown_40 rfl (lv_at hl 3 rfl) ?_
      refine lv_iload G.1 G.2.1 dX0_shown_41 (lv_at hl 4 rfl) ?_
      refine gc_v (As := [.int (nI j2), .int (nI j3), .int (nI j4)]) (rest := [.int (nI j3), .int (nI j1), .ref (q 0)]) G.fix (mX0_inked l D q cI N S tr A j2 j3 j4 hok (by first | omega | assumption | exact ok6 _ | apply hq) (by first | omega | assumption | exact ok6 _ | apply hq) (by first | omega | assumption | exact ok6 _ | apply hq)) (cwV 3 G.2.2.2.2.2.1 gX0_shown_X0_inked rfl rfl rfl (by decide +kernel) ⟨Nat.le_of_ble_eq_true rfl, Nat.le_of_ble_eq_true rfl⟩) xAt_blind (va_recv hX.2.1 hX.1 (ci := 0) (q0 := 0) rfl rfl) (fun U hU hW => by rw [hU]; exact hX.moved hW) rfl hl.1 rfl (Nat.le_of_ble_eq_true rfl) dX0_shown_43 (Nat.zero_le _) (Nat.zero_le _) (fun r hr => ?_)
      subst hr
      refine gc_v (As := [.int (nI j1), .int (nI j3), .int (nI (sp_ink S j2 j3 j4))]) (rest := []) G.fix (mX0_pass l D q cI N S tr A j1 j3 (sp_ink S j2 j3 j4) hok (by first | omega | assumption | exact ok6 _ | apply hq) (by first | omega | assumption | exact ok6 _ | apply hq) (by first | omega | assumption | exact ok6 _ | apply hq)) (cwV 3 G.2.2.2.2.2.1 gX0_shown_X0_pass rfl rfl rfl (by decide +kernel) ⟨Nat.le_of_ble_eq_true rfl, Nat.le_of_ble_eq_true rfl⟩) xAt_blind (va_recv hX.2.1 hX.1 (ci := 0) (q0 := 0) rfl rfl) (fun U hU hW => by rw [hU]; exact hX.moved hW) rfl hl.1 rfl (Nat.le_of_ble_eq_true rfl) dX0_shown_46 (Nat.zero_le _) (Nat.zero_le _) (fun r hr => ?_)
      subst hr
      exact vx_ret (W.widen (k := 1) (n := 6) (Nat.zero_le _) (Nat.zero_le _) (W.iret G.1 G.2.1 G.2.2.1 (fun t ht hW => gQx_of hX hS ht ⟨(by simp [sA_shown, hA1, hA2, hA3, hg1, hg2, hg3, hg4]), (by simp [sB_shown, hB4, hg1, hg2, hg3, hg4]), rfl, (by show nI _ = nI _; simp only [sR_shown, hg1, hg2, hg3, hg4]), (by simp only [sN_shown, hg1, hg2, hg3, hg4]), (by simp only [sS_shown, hg1, hg2, hg3, hg4])⟩) hS.2.2 dX0_shown_49 G.2.2.2.2.2.2))
    · exact gx_throw (text := "no such set of inks") G hx0 hst (by decide +kernel) (by decide +kernel) (by decide +kernel) (by decide +kernel) gx_not_IA gx_good_IA (by decide +kernel) hZ0 hS hl.1 dX0_shown_25 dX0_shown_28 dX0_shown_29 dX0_shown_31 dX0_shown_34 (Nat.le_of_ble_eq_true rfl) (Nat.le_of_ble_eq_true rfl) (Nat.le_of_ble_eq_true rfl) (Nat.le_of_ble_eq_true rfl) (fun t _ hz hk => ⟨Or.inr (Or.inl ⟨rfl, (by simp [sA_shown, hA1, hA2, hA3, hg1, hg2, hg3]), by show gb i4 8 = false; first | exact gb_neg (by assumption) | exact gb_nle7 (by assumption)⟩), gXx_of hX hS hz hk⟩) hS.2.2 (by decide) (by decide)
end
section
/-! the class's calls with loops of their own -/
theorem xAt_cast {D : va_G} {q : Nat → Nat} {cI : ClassId} {N N' : Nat → Nat} {S S' : Nat → Nat → Nat} {tr tr' : Nat → Nat} {A : Nat → Prop} {s : State} {H : Heap} (e : xw q cI N S tr = xw q cI N' S' tr') (h : xAt D q cI N S tr A s H) : xAt D q cI N' S' tr' A s H := by
  unfold xAt at h ⊢
  rw [← e]
  exact h
theorem va_D_fst {A : Nat → Prop} {ws ws' : va_W} (e : ws.map (fun x => x.1) = ws'.map (fun x => x.1)) (h : va_D A ws) : va_D A ws' := by
  have at' : ∀ (i : Nat) (p : Nat × va_E), ws'[i]? = some p → ∃ p0, ws[i]? = some p0 ∧ p0.1 = p.1 := by
    intro i p hp
    have h1 : (ws.map (fun x => x.1))[i]? = some p.1 := by rw [e, List.getElem?_map, hp]; rfl
    rw [List.getElem?_map] at h1
    cases hi : ws[i]? with
    | none => rw [hi] at h1; cases h1
    | some p0 => rw [hi] at h1; exact ⟨p0, rfl, Option.some.inj h1⟩
  refine ⟨fun i j p q hi hj hpq => ?_, fun k q hk => ?_⟩
  · obtain ⟨p0, h1, e1⟩ := at' i p hi
    obtain ⟨q0, h2, e2⟩ := at' j q hj
    exact h.1 i j p0 q0 h1 h2 (by rw [e1, e2, hpq])
  · obtain ⟨q0, h1, e1⟩ := at' k q hk
    rw [← e1]
    exact h.2 k q0 h1
/-- what a call does that writes and doesn't throw -/
def gQt (D : va_G) (q : Nat → Nat) (cI : ClassId) (N : Nat → Nat) (S : Nat → Nat → Nat) (tr : Nat → Nat) (r : Int32) (A : Nat → Prop) : Array Value → State → Outcome → State → Prop := fun _ st oc t =>
  oc = .returned (some (.int r)) ∧ va_P D vwCl (xw q cI N S tr) t.heap ∧ va_F A st t
section GM
variable {p : Program} {l : Launch} {e : Env} {R : Room} {s : State} {m : MethodId} {args : Array Value} {below : List Frame} {meth : Method} {c : Code} {H : Heap} {locs : List Loc} {cells slots : Nat} {Q : State → Prop}
variable {y : MethodName} {bytes cc : ByteArray} {maxL nL n index pc : Nat} {ret : Option FieldType} {ws ws' : List Cond} {rm : Room} {Ts : List Cond} {own C : String} {As rest st0 : List Value} {ls : Array Slot} {a b : Nat}
variable {D : va_G} {q : Nat → Nat} {cI : ClassId} {N N' : Nat → Nat} {S S' : Nat → Nat → Nat} {tr tr' : Nat → Nat} {A : Nat → Prop} {r : Int32}
theorem gx_mut (G : CallFix p m c cc nL s args Ts own) (hM : Met l y ws rm (va_Pc (.ref (q 0) :: As) (fun U => xAt D q cI N S tr A U U.heap)) (gQt D q cI N' S' tr' r A) 0 0 A) (cw : CallW R s args own RX0 index y bytes maxL ret ws rm 0 0 n)
    (hZ0 : gZ A s s.heap) (hX : xAt D q cI N S tr A s H) (hS : va_S A s.heap H locs) (hn : As.length = n) (hsz : ls.size = nL) (hst : st0 = As.reverse ++ .ref (q 0) :: rest) (hW : (rest.map fun v => v.category).sum ≤ 8) (hdg : decode cc pc = .ok (.invokevirtual index, 3)) (hc : cells ≤ R.cells) (hs : slots ≤ R.slots)
    (kk : ∀ (H1 : Heap) (locs1 : List Loc), xAt D q cI N' S' tr' A s H1 → va_S A s.heap H1 locs1 → W p l e R s m args below meth c H1 locs1 cells slots Q (F0 m (pc + 3) ls (.int r :: rest))) : W p l e R s m args below meth c H locs cells slots Q (F0 m pc ls st0) := by
  intro T hT X
  obtain ⟨v9, st₀, t, T', L, h0, X', hL, e1, ⟨hv, hP1, hz, hk⟩, st⟩ := W.runV (As := As) (rest := rest) (g := F0 m pc ls st0) G hM cw ⟨xAt_blind, va_recv hX.2.1 hX.1 (ci := 0) (q0 := 0) rfl rfl, fun U hU hW => ⟨rfl, by show xAt _ _ _ _ _ _ _ U U.heap; rw [hU]; exact hX.moved hW⟩⟩ rfl hn hsz hst (lv_room hW) hdg ⟨hc, hs⟩ T hT X
  cases hv
  rw [h0] at hz hk
  have hS2 : va_S A s.heap t.heap (locs ++ L) := ⟨Nat.le_trans hS.1 hz, fun z h1 h2 => by rw [hk z (Nat.lt_of_lt_of_le h1 hS.1) h2]; exact hS.2.1 z h1 h2, fun z hz2 => by
    rcases List.mem_append.mp hz2 with h | h
    · exact hS.2.2 z h
    · exact hL z h⟩
  obtain ⟨t2, a1, b1⟩ := kk t.heap _ ⟨hP1, hX.2.1, va_D_fst (ws := xw q cI N S tr) rfl hX.2.2.1, hZ0.kept (fun z h1 h2 => hS2.2.1 z h1 h2)⟩ hS2 T' e1 X'
  exact ⟨t2, st t2 a1, b1⟩
theorem gr_absd (G : gF p s m args meth c cc ret nL RX0 ws) (hsz : ls.size = nL) {ix : Nat} (hlink : Cond.methodLink RX0 ix Lib.Math.abs.name ∈ ws) (hstat : Cond.static Lib.Math.abs.name ∈ ws) (hini : Cond.initialized "java/lang/Math" ∈ ws) (hcode : Cond.code Lib.Math.abs.name Lib.Math.abs.code 1 (some .int) ∈ ws)
    (hframes : 1 ≤ R.frames) (hlocals : (rest.map fun v => v.category).sum + 13 ≤ R.locals) (hc : cells ≤ R.cells) (hs : slots ≤ R.slots) (ha : a ≤ 255) (hb : b ≤ 255) (hdg : decode cc pc = .ok (.invokestatic ix, 3))
    (kk : W p l e R s m args below meth c H locs cells slots Q (F0 m (pc + 3) ls (.int (nI (sp_ap a b)) :: rest))) : W p l e R s m args below meth c H locs cells slots Q (F0 m pc ls (.int (nI a - nI b) :: rest)) :=
  va_mabs G.1 G.2.1 (G.2.2.2.1.trans hsz.symm) G.2.2.2.2.1 (G.2.2.2.2.2.1 _ hlink) (G.2.2.2.2.2.1 _ hstat) (G.2.2.2.2.2.1 _ hini) (G.2.2.2.2.2.1 _ hcode) hframes hlocals hc hs hdg (by
    have hd : (nI a - nI b).toInt = (a : Int) - b := pk_sub_toInt (by omega) (by omega)
    have e : (if 0 ≤ nI a - nI b then nI a - nI b else 0 - (nI a - nI b)) = nI (sp_ap a b) := by
      unfold sp_ap
      by_cases h : 0 ≤ nI a - nI b
      · have h2 := Int32.le_iff_toInt_le.mp h
        have h3 : (0 : Int32).toInt = 0 := rfl
        rw [if_pos h, if_neg (by omega), pk_sub (by omega)]
      · have h2 : ¬ (0 : Int32).toInt ≤ (nI a - nI b).toInt := fun z => h (Int32.le_iff_toInt_le.mpr z)
        have h3 : (0 : Int32).toInt = 0 := rfl
        rw [if_neg h, if_pos (by omega)]
        refine gp_nat (by omega) ?_
        rw [fb_subI (by omega) (by omega), hd]
        omega
    rw [e]; exact kk)
end GM
def sp_newTo (N : Nat → Nat) (S : Nat → Nat → Nat) (a b : Nat) : Nat → Nat → Nat := gs (gs S 1 (sp_fill (S 1) (N 0 * 15) a)) 3 (sp_fill2 (S 3) (N 0 * 3) b)
theorem sp_fill_s {F : Nat → Nat} {n x1 x2 : Nat} (h : x2 < 5) : gu (sp_fill F (n * 15) (x1 * 5 + x2)) ((n * 3 + x1) * 5 + x2) (sp_vop x2) = sp_fill F (n * 15) (x1 * 5 + (x2 + 1)) := by
  show _ = gu (sp_fill F (n * 15) (x1 * 5 + x2)) (n * 15 + (x1 * 5 + x2)) (sp_vop ((x1 * 5 + x2) % 5))
  rw [show n * 15 + (x1 * 5 + x2) = (n * 3 + x1) * 5 + x2 from by omega, show (x1 * 5 + x2) % 5 = x2 from by omega]
theorem sp_trTo_s {S : Nat → Nat → Nat} {ch x1 x2 : Nat} {tr : Nat → Nat} (h : x2 < 5) : gu (sp_trTo S ch tr (x1 * 5 + x2)) (x1 * 5 + x2) (sp_pass S ch x1 (sp_vop x2)) = sp_trTo S ch tr (x1 * 5 + (x2 + 1)) := by
  show _ = gu (sp_trTo S ch tr (x1 * 5 + x2)) (x1 * 5 + x2) (sp_pass S ch ((x1 * 5 + x2) / 5) (sp_vop ((x1 * 5 + x2) % 5)))
  rw [show (x1 * 5 + x2) / 5 = x1 from by omega, show (x1 * 5 + x2) % 5 = x2 from by omega]
theorem sp_trTo_at {S : Nat → Nat → Nat} {ch : Nat} {tr : Nat → Nat} : ∀ {n j : Nat}, j < n → sp_trTo S ch tr n j = sp_pass S ch (j / 5) (sp_vop (j % 5))
  | 0, j, h => absurd h (Nat.not_lt_zero j)
  | n + 1, j, h => by
    show gu (sp_trTo S ch tr n) n _ j = _
    by_cases e : j = n
    · rw [e, gu_same]
    · rw [gu_other _ _ e]
      exact sp_trTo_at (by omega)
theorem sp_btw_tr {S : Nat → Nat → Nat} {ch x1 v : Nat} {tr : Nat → Nat} (hv : v ≤ 255) : sp_btw (sp_trTo S ch tr (x1 * 5 + 5)) (x1 * 5) v = sp_btw (fun k => sp_pass S ch x1 (sp_vop k)) 0 v := by
  unfold sp_btw
  rw [sp_trTo_at (by omega), sp_trTo_at (by omega), show (x1 * 5 + v / 64) / 5 = x1 from by omega, show (x1 * 5 + v / 64) % 5 = 0 + v / 64 from by omega, show (x1 * 5 + v / 64 + 1) / 5 = x1 from by omega, show (x1 * 5 + v / 64 + 1) % 5 = 0 + v / 64 + 1 from by omega]
theorem sp_gapTo_s {S : Nat → Nat → Nat} {ch x1 x3 : Nat} {tr : Nat → Nat} (h : x3 < 256) : sp_gapTo S ch (x1 * 256 + (x3 + 1)) = max (sp_gapTo S ch (x1 * 256 + x3)) (sp_ap (sp_pass S ch x1 x3) (sp_btw (sp_trTo S ch tr (x1 * 5 + 5)) (x1 * 5) x3)) := by
  show max (sp_gapTo S ch (x1 * 256 + x3)) (sp_gapAt S ch ((x1 * 256 + x3) / 256) ((x1 * 256 + x3) % 256)) = _
  rw [show (x1 * 256 + x3) / 256 = x1 from by omega, show (x1 * 256 + x3) % 256 = x3 from by omega, sp_btw_tr (by omega)]
  rfl
theorem sp_ap_le {a b : Nat} (ha : a ≤ 255) (hb : b ≤ 255) : sp_ap a b ≤ 255 := by unfold sp_ap; split <;> omega
theorem sp_gapTo_le {N : Nat → Nat} {S : Nat → Nat → Nat} {ch : Nat} (h : sp_ok N S) : ∀ n, sp_gapTo S ch n ≤ 255
  | 0 => Nat.zero_le _
  | n + 1 => by
    have h1 := sp_gapTo_le (ch := ch) h n
    have h2 : sp_gapAt S ch (n / 256) (n % 256) ≤ 255 := sp_ap_le (sp_pass_le h (by omega)) (sp_btw_le (fun j => sp_pass_le h sp_vop_le) (by omega))
    exact Nat.max_le.mpr ⟨h1, h2⟩
theorem sp_mn_le (S : Nat → Nat → Nat) (ch v : Nat) : ∀ k, sp_mn S ch v k ≤ 255
  | 0 => Nat.le_refl _
  | k + 1 => Nat.le_trans (Nat.min_le_left _ _) (sp_mn_le S ch v k)
theorem sp_mx_le {N : Nat → Nat} {S : Nat → Nat → Nat} {ch v : Nat} (h : sp_ok N S) (hv : v ≤ 255) : ∀ k, sp_mx S ch v k ≤ 255
  | 0 => Nat.zero_le _
  | k + 1 => Nat.max_le.mpr ⟨sp_mx_le h hv k, sp_pass_le h hv⟩
theorem sp_mn_mx {N : Nat → Nat} {S : Nat → Nat → Nat} {ch v : Nat} (h : sp_ok N S) (hv : v ≤ 255) : ∀ {k : Nat}, 0 < k → sp_mn S ch v k ≤ sp_mx S ch v k
  | 0, h0 => absurd h0 (Nat.lt_irrefl 0)
  | k + 1, _ => Nat.le_trans (Nat.min_le_right _ _) (Nat.le_max_right _ _)
theorem sp_greyTo_le {N : Nat → Nat} {S : Nat → Nat → Nat} {ch : Nat} (h : sp_ok N S) : ∀ n, n ≤ 256 → sp_greyTo S ch n ≤ 255
  | 0, _ => Nat.zero_le _
  | n + 1, hn => Nat.max_le.mpr ⟨sp_greyTo_le h n (by omega), Nat.le_trans (Nat.sub_le _ _) (sp_mx_le h (by omega) 3)⟩
theorem sp_kp_s {S : Nat → Nat → Nat} {ch x1 : Nat} {tr : Nat → Nat} (h : x1 < 15) : gu (sp_kpTo S ch x1) (ch * 3 * 5 + x1) (sp_trTo S ch tr 15 x1) = sp_kpTo S ch (x1 + 1) := by
  show _ = gu (sp_kpTo S ch x1) (ch * 15 + x1) (sp_pass S ch (x1 / 5) (sp_vop (x1 % 5)))
  rw [sp_trTo_at h, show ch * 3 * 5 + x1 = ch * 15 + x1 from by omega]
set_option maxRecDepth 100000 in
set_option maxHeartbeats 4000000 in
/-- profile -/
theorem mX0_profile (l : Launch) (hst : l.stackTraces = false) (D : va_G) (q : Nat → Nat) (cI : ClassId) (N : Nat → Nat) (S : Nat → Nat → Nat) (tr : Nat → Nat) (A : Nat → Prop) (hok : sp_ok N S) (hinv : sp_inv N S) : vx_Met l yX0_profile wsX0_profile { frames := 6, cells := 1, slots := 6, locals := 82 } (va_Pc [.ref (q 0)] (fun U => xAt D q cI N S tr A U U.heap)) (gQx D q cI (fun r N2 S2 => sA_profile N S = true ∧ sB_profile N S = true ∧ sC_profile N S = true ∧ r = nI (sR_profile N S) ∧ N2 = sN_profile N S ∧ S2 = sS_profile N S) A) (gXx D q cI N S A (gE3 (sA_profile N S) (sB_profile N S) (sC_profile N S))) 1 6 A := by
  refine gc_vxmet [.ref (q 0)] (by decide) rfl (Nat.le_of_ble_eq_true rfl) rfl ?_
  intro p e s m below meth c ls G hx0 hl hX
  have hZ0 := hX.2.2.2
  have hS : va_S A s.heap s.heap [] := va_S.rf
  have hok9 := hok
  obtain ⟨⟨ok0, ok5⟩, ok1, ok2, ok3, ok4, ok6, ok7, ok8, ok12, ok13, ok14⟩ := hok9
  have hN := hinv.2.2.2.1
  have hN9 := hinv.2.2.1
  refine lv_aload_n G.1 G.2.1 dX0_profile_0 rfl (lv_at hl 0 rfl) ?_
  refine gx_get G hX (by decide +kernel) 0 (by decide) (by decide +kernel) rfl rfl rfl dX0_profile_1 ?_
  refine lv_bipush (v := nI 8) G.1 G.2.1 dX0_profile_4 (by decide) ?_
  refine gn_lt G (by omega) (by omega) (tgt := 19) dX0_profile_6 (by decide) (fun h_6 => ?_) (fun h_6 => ?_)
  · refine lv_aload_n G.1 G.2.1 dX0_profile_19 rfl (lv_at hl 0 rfl) ?_
    refine gx_get G hX (by decide +kernel) 0 (by decide) (by decide +kernel) rfl rfl rfl dX0_profile_20 ?_
    refine lv_istore_n (lv' := [(1, .int (nI (N 0))), (0, .ref (q 0))]) G.1 G.2.1 dX0_profile_23 rfl hl (by decide) rfl (fun ls hl => ?_)
    refine lv_iconst (v := nI 0) G.1 G.2.1 dX0_profile_24 (by decide) ?_
    refine lv_istore_n (lv' := [(2, .int (nI 0)), (1, .int (nI (N 0))), (0, .ref (q 0))]) G.1 G.2.1 dX0_profile_25 rfl hl (by decide) rfl (fun ls hl => ?_)
    have loop1 : ∀ (d1 x1 : Nat), x1 + d1 = 3 → ∀ (H9 : Heap) (locs9 : List Loc), xAt D q cI N ((sp_newTo N S (x1 * 5) (x1))) tr A s H9 → va_S A s.heap H9 locs9 → ∀ ls : Array Slot, lv_has ls 5 [(0, .ref (q 0)), (1, .int (nI (N 0))), (2, .int (nI x1))] → W p l e { frames := 6, cells := 1, slots := 6, locals := 82 } s m ([.ref (q 0)] : List Value).toArray below meth c H9 locs9 0 0 (vx_MQ below (gQx D q cI (fun r N2 S2 => sA_profile N S = true ∧ sB_profile N S = true ∧ sC_profile N S = true ∧ r = nI (sR_profile N S) ∧ N2 = sN_profile N S ∧ S2 = sS_profile N S) A) (gXx D q cI N S A (gE3 (sA_profile N S) (sB_profile N S) (sC_profile N S))) ([.ref (q 0)] : List Value).toArray s 1 6 A) (F0 m 26 ls []) := by
      intro d1
      induction d1 with
      | zero =>
        intro x1 hd1 H9 locs9 hX hS ls hl
        refine lv_iload_n G.1 G.2.1 dX0_profile_26 rfl (lv_at hl 2 rfl) ?_
        refine lv_iconst (v := nI 3) G.1 G.2.1 dX0_profile_27 (by decide) ?_
        refine gn_ge G (by omega) (by omega) (tgt := 99) dX0_profile_28 (by decide) (fun h_28 => ?_) (fun h_28 => absurd h_28 (by omega))
        refine lv_aload_n G.1 G.2.1 dX0_profile_99 rfl (lv_at hl 0 rfl) ?_
        refine gx_get G hX (by decide +kernel) 4 (by decide) (by decide +kernel) rfl rfl rfl dX0_profile_100 ?_
        refine lv_iload_n G.1 G.2.1 dX0_profile_103 rfl (lv_at hl 1 rfl) ?_
        refine lv_iconst (v := nI 0) G.1 G.2.1 dX0_profile_104 (by decide) ?_
        refine gx_swap (k := 4) (kp := 4) (len := 8) (F := S 4) (i := N 0) (v := 0) (S' := (sp_newTo N S (x1 * 5) (x1))) (tr' := tr) (rest := []) G.fix (mX0_swap l D (q 4) cI 8 (S 4) (N 0) 0 (by first | omega | assumption)) (va_cwS 3 G.2.2.2.2.2.1 gX0_profile_X0_swap rfl rfl rfl (by decide +kernel) ⟨Nat.le_of_ble_eq_true rfl, Nat.le_of_ble_eq_true rfl⟩) hX hS rfl (by rw [gu_id (hinv.2.1 _ (Nat.le_refl _))]; rfl) hl.1 rfl (Nat.le_of_ble_eq_true rfl) dX0_profile_105 (Nat.zero_le _) (Nat.zero_le _) (fun H1 locs1 hX hS => ?_)
        refine lv_pop G.1 G.2.1 dX0_profile_108 rfl ?_
        refine lv_aload_n G.1 G.2.1 dX0_profile_109 rfl (lv_at hl 0 rfl) ?_
        refine lv_dup G.1 G.2.1 dX0_profile_110 rfl ?_
        refine gx_get G hX (by decide +kernel) 0 (by decide) (by decide +kernel) rfl rfl rfl dX0_profile_111 ?_
        refine lv_iconst (v := nI 1) G.1 G.2.1 dX0_profile_114 (by decide) ?_
        refine gn_iadd G dX0_profile_115 ?_
        refine gx_put (k := 0) (N' := (gu N 0 ((N 0) + 1))) G hZ0 hX hS (by decide +kernel) (by decide) (by decide +kernel) rfl rfl (by decide +kernel) rfl (Nat.le_of_ble_eq_true rfl) rfl dX0_profile_116 (fun H1 locs1 hX hS => ?_)
        refine lv_iload_n G.1 G.2.1 dX0_profile_119 rfl (lv_at hl 1 rfl) ?_
        exact vx_ret (W.widen (k := 1) (n := 6) (Nat.zero_le _) (Nat.zero_le _) (W.iret G.1 G.2.1 G.2.2.1 (fun t ht hW => gQx_of hX hS ht ⟨rfl, rfl, (by simp [sC_profile, h_6]), (by show nI _ = nI _; simp only [sR_profile]), (by simp only [sN_profile]), (by rw [show x1 = 3 from by omega]; rfl)⟩) hS.2.2 dX0_profile_120 G.2.2.2.2.2.2))
      | succ d1 ih1 =>
        intro x1 hd1 H9 locs9 hX hS ls hl
        refine lv_iload_n G.1 G.2.1 dX0_profile_26 rfl (lv_at hl 2 rfl) ?_
        refine lv_iconst (v := nI 3) G.1 G.2.1 dX0_profile_27 (by decide) ?_
        refine gn_ge G (by omega) (by omega) (tgt := 99) dX0_profile_28 (by decide) (fun h_28 => absurd h_28 (by omega)) (fun h_28 => ?_)
        refine lv_iload_n G.1 G.2.1 dX0_profile_31 rfl (lv_at hl 1 rfl) ?_
        refine lv_iconst (v := nI 3) G.1 G.2.1 dX0_profile_32 (by decide) ?_
        refine gn_imul G dX0_profile_33 ?_
        refine lv_iload_n G.1 G.2.1 dX0_profile_34 rfl (lv_at hl 2 rfl) ?_
        refine gn_iadd G dX0_profile_35 ?_
        refine lv_istore_n (lv' := [(3, .int (nI (((N 0) * 3) + x1))), (0, .ref (q 0)), (1, .int (nI (N 0))), (2, .int (nI x1))]) G.1 G.2.1 dX0_profile_36 rfl hl (by decide) rfl (fun ls hl => ?_)
        refine lv_iconst (v := nI 0) G.1 G.2.1 dX0_profile_37 (by decide) ?_
        refine lv_istore (lv' := [(4, .int (nI 0)), (3, .int (nI (((N 0) * 3) + x1))), (0, .ref (q 0)), (1, .int (nI (N 0))), (2, .int (nI x1))]) G.1 G.2.1 dX0_profile_38 hl (by decide) rfl (fun ls hl => ?_)
        have loop2 : ∀ (d2 x2 : Nat), x2 + d2 = 5 → ∀ (H9 : Heap) (locs9 : List Loc), xAt D q cI N ((sp_newTo N S (x1 * 5 + x2) (x1))) tr A s H9 → va_S A s.heap H9 locs9 → ∀ ls : Array Slot, lv_has ls 5 [(0, .ref (q 0)), (1, .int (nI (N 0))), (2, .int (nI x1)), (3, .int (nI ((N 0) * 3 + x1))), (4, .int (nI x2))] → W p l e { frames := 6, cells := 1, slots := 6, locals := 82 } s m ([.ref (q 0)] : List Value).toArray below meth c H9 locs9 0 0 (vx_MQ below (gQx D q cI (fun r N2 S2 => sA_profile N S = true ∧ sB_profile N S = true ∧ sC_profile N S = true ∧ r = nI (sR_profile N S) ∧ N2 = sN_profile N S ∧ S2 = sS_profile N S) A) (gXx D q cI N S A (gE3 (sA_profile N S) (sB_profile N S) (sC_profile N S))) ([.ref (q 0)] : List Value).toArray s 1 6 A) (F0 m 40 ls []) := by
          intro d2
          induction d2 with
          | zero =>
            intro x2 hd2 H9 locs9 hX hS ls hl
            refine lv_iload G.1 G.2.1 dX0_profile_40 (lv_at hl 4 rfl) ?_
            refine lv_iconst (v := nI 5) G.1 G.2.1 dX0_profile_42 (by decide) ?_
            refine gn_ge G (by omega) (by omega) (tgt := 71) dX0_profile_43 (by decide) (fun h_43 => ?_) (fun h_43 => absurd h_43 (by omega))
            refine lv_aload_n G.1 G.2.1 dX0_profile_71 rfl (lv_at hl 0 rfl) ?_
            refine gx_get G hX (by decide +kernel) 2 (by decide) (by decide +kernel) rfl rfl rfl dX0_profile_72 ?_
            refine lv_iload_n G.1 G.2.1 dX0_profile_75 rfl (lv_at hl 3 rfl) ?_
            refine lv_iconst (v := nI 0) G.1 G.2.1 dX0_profile_76 (by decide) ?_
            refine gx_swap (k := 2) (kp := 2) (len := 24) (F := S 2) (i := (N 0) * 3 + x1) (v := 0) (S' := (sp_newTo N S (x1 * 5 + x2) (x1))) (tr' := tr) (rest := []) G.fix (mX0_swap l D (q 2) cI 24 (S 2) ((N 0) * 3 + x1) 0 (by first | omega | assumption)) (va_cwS 3 G.2.2.2.2.2.1 gX0_profile_X0_swap rfl rfl rfl (by decide +kernel) ⟨Nat.le_of_ble_eq_true rfl, Nat.le_of_ble_eq_true rfl⟩) hX hS rfl (by rw [gu_id (hinv.1 _ (by omega))]; rfl) hl.1 rfl (Nat.le_of_ble_eq_true rfl) dX0_profile_77 (Nat.zero_le _) (Nat.zero_le _) (fun H1 locs1 hX hS => ?_)
            refine lv_pop G.1 G.2.1 dX0_profile_80 rfl ?_
            refine lv_aload_n G.1 G.2.1 dX0_profile_81 rfl (lv_at hl 0 rfl) ?_
            refine gx_get G hX (by decide +kernel) 3 (by decide) (by decide +kernel) rfl rfl rfl dX0_profile_82 ?_
            refine lv_iload_n G.1 G.2.1 dX0_profile_85 rfl (lv_at hl 3 rfl) ?_
            refine lv_sipush (v := nI 255) G.1 G.2.1 dX0_profile_86 (by decide) ?_
            refine gx_swap (k := 3) (kp := 3) (len := 24) (F := (sp_fill2 (S 3) (N 0 * 3) (x1))) (i := (N 0) * 3 + x1) (v := 255) (S' := (sp_newTo N S (x1 * 5 + x2) (x1 + 1))) (tr' := tr) (rest := []) G.fix (mX0_swap l D (q 3) cI 24 ((sp_fill2 (S 3) (N 0 * 3) (x1))) ((N 0) * 3 + x1) 255 (by first | omega | assumption)) (va_cwS 3 G.2.2.2.2.2.1 gX0_profile_X0_swap rfl rfl rfl (by decide +kernel) ⟨Nat.le_of_ble_eq_true rfl, Nat.le_of_ble_eq_true rfl⟩) hX hS rfl (rfl) hl.1 rfl (Nat.le_of_ble_eq_true rfl) dX0_profile_89 (Nat.zero_le _) (Nat.zero_le _) (fun H1 locs1 hX hS => ?_)
            refine lv_pop G.1 G.2.1 dX0_profile_92 rfl ?_
            refine gn_iinc (lv' := [(2, .int (nI (x1 + 1))), (0, .ref (q 0)), (1, .int (nI (N 0))), (3, .int (nI ((N 0) * 3 + x1))), (4, .int (nI x2))]) (n := 1) G dX0_profile_93 hl (k := 2) rfl (by decide) rfl (fun ls hl => ?_)
            refine lv_goto (tgt := 26) G.1 G.2.1 dX0_profile_96 (by decide) ?_
            exact ih1 (x1 + 1) (by omega) _ _ (xAt_cast (by rw [show (x1 + 1) * 5 = x1 * 5 + x2 from by omega]) hX) hS _ (lv_sub hl [1, 2, 0] rfl)
          | succ d2 ih2 =>
            intro x2 hd2 H9 locs9 hX hS ls hl
            refine lv_iload G.1 G.2.1 dX0_profile_40 (lv_at hl 4 rfl) ?_
            refine lv_iconst (v := nI 5) G.1 G.2.1 dX0_profile_42 (by decide) ?_
            refine gn_ge G (by omega) (by omega) (tgt := 71) dX0_profile_43 (by decide) (fun h_43 => absurd h_43 (by omega)) (fun h_43 => ?_)
            refine lv_aload_n G.1 G.2.1 dX0_profile_46 rfl (lv_at hl 0 rfl) ?_
            refine gx_get G hX (by decide +kernel) 1 (by decide) (by decide +kernel) rfl rfl rfl dX0_profile_47 ?_
            refine lv_iload_n G.1 G.2.1 dX0_profile_50 rfl (lv_at hl 3 rfl) ?_
            refine lv_iconst (v := nI 5) G.1 G.2.1 dX0_profile_51 (by decide) ?_
            refine gn_imul G dX0_profile_52 ?_
            refine lv_iload G.1 G.2.1 dX0_profile_53 (lv_at hl 4 rfl) ?_
            refine gn_iadd G dX0_profile_55 ?_
            refine lv_iload G.1 G.2.1 dX0_profile_56 (lv_at hl 4 rfl) ?_
            refine gc_s (As := [.int (nI x2)]) (rest := [.int (nI ((((N 0) * 3 + x1) * 5) + x2)), .ref (q 1)]) G.fix (mX0_valueOfPlace l x2 (by omega)) (va_cwS 1 G.2.2.2.2.2.1 gX0_profile_X0_valueOfPlace rfl rfl rfl (by decide +kernel) ⟨Nat.le_of_ble_eq_true rfl, Nat.le_of_ble_eq_true rfl⟩) gc_blindT (fun _ _ _ => trivial) rfl hl.1 rfl (Nat.le_of_ble_eq_true rfl) dX0_profile_58 (Nat.zero_le _) (Nat.zero_le _) (fun r hr => ?_)
            subst hr
            refine gx_swap (k := 1) (kp := 1) (len := 120) (F := (sp_fill (S 1) (N 0 * 15) (x1 * 5 + x2))) (i := (((N 0) * 3 + x1) * 5) + x2) (v := sp_vop x2) (S' := (sp_newTo N S (x1 * 5 + (x2 + 1)) x1)) (tr' := tr) (rest := []) G.fix (mX0_swap l D (q 1) cI 120 ((sp_fill (S 1) (N 0 * 15) (x1 * 5 + x2))) ((((N 0) * 3 + x1) * 5) + x2) (sp_vop x2) (by first | omega | assumption)) (va_cwS 3 G.2.2.2.2.2.1 gX0_profile_X0_swap rfl rfl rfl (by decide +kernel) ⟨Nat.le_of_ble_eq_true rfl, Nat.le_of_ble_eq_true rfl⟩) hX hS rfl (by rw [sp_fill_s (by omega)]; rfl) hl.1 rfl (Nat.le_of_ble_eq_true rfl) dX0_profile_61 (Nat.zero_le _) (Nat.zero_le _) (fun H1 locs1 hX hS => ?_)
            refine lv_pop G.1 G.2.1 dX0_profile_64 rfl ?_
            refine gn_iinc (lv' := [(4, .int (nI (x2 + 1))), (0, .ref (q 0)), (1, .int (nI (N 0))), (2, .int (nI x1)), (3, .int (nI ((N 0) * 3 + x1)))]) (n := 1) G dX0_profile_65 hl (k := 4) rfl (by decide) rfl (fun ls hl => ?_)
            refine lv_goto (tgt := 40) G.1 G.2.1 dX0_profile_68 (by decide) ?_
            exact ih2 (x2 + 1) (by omega) _ _ (xAt_cast (rfl) hX) hS _ (lv_sub hl [1, 2, 3, 4, 0] rfl)
        exact loop2 5 0 (by omega) _ _ (xAt_cast (rfl) hX) hS _ (lv_sub hl [2, 3, 4, 1, 0] rfl)
    exact loop1 3 0 (by omega) _ _ (xAt_cast (rfl) hX) hS _ (lv_sub hl [2, 1, 0] rfl)
  · exact gx_throw (text := "there are 8 profiles") G hx0 hst (by decide +kernel) (by decide +kernel) (by decide +kernel) (by decide +kernel) gx_not_IS gx_good_IS (by decide +kernel) hZ0 hS hl.1 dX0_profile_9 dX0_profile_12 dX0_profile_13 dX0_profile_15 dX0_profile_18 (Nat.le_of_ble_eq_true rfl) (Nat.le_of_ble_eq_true rfl) (Nat.le_of_ble_eq_true rfl) (Nat.le_of_ble_eq_true rfl) (fun t _ hz hk => ⟨Or.inr (Or.inr ⟨rfl, rfl, rfl, (by simp [sC_profile, h_6] <;> omega)⟩), gXx_of hX hS hz hk⟩) hS.2.2 (by decide) (by decide)
set_option maxRecDepth 100000 in
set_option maxHeartbeats 4000000 in
/-- the gap, with the curves that would be kept in the trial row -/
theorem mX0_tryJoining (l : Launch) (D : va_G) (q : Nat → Nat) (cI : ClassId) (N : Nat → Nat) (S : Nat → Nat → Nat) (tr : Nat → Nat) (A : Nat → Prop) (hok : sp_ok N S) (ch : Nat) (hch : ch < 6) : Met l yX0_tryJoining wsX0_tryJoining { frames := 5, cells := 0, slots := 0, locals := 124 } (va_Pc [.ref (q 0), .int (nI ch)] (fun U => xAt D q cI N S tr A U U.heap)) (gQt D q cI N S (sp_trTo S ch tr 15) (nI (sp_gap S ch)) A) 0 0 A := by
  refine gc_met [.ref (q 0), .int (nI ch)] (by decide) rfl (Nat.le_of_ble_eq_true rfl) rfl ?_
  intro p e s m below meth c ls G hl hX
  have hZ0 := hX.2.2.2
  have hS : va_S A s.heap s.heap [] := va_S.rf
  have hq := fun k => @sp_vop_le k
  have hpl := fun b v (hv : v ≤ 255) => sp_pass_le (ch := ch) (b := b) hok hv
  refine lv_iconst (v := nI 0) G.1 G.2.1 dX0_tryJoining_0 (by decide) ?_
  refine lv_istore_n (lv' := [(2, .int (nI 0)), (0, .ref (q 0)), (1, .int (nI ch))]) G.1 G.2.1 dX0_tryJoining_1 rfl hl (by decide) rfl (fun ls hl => ?_)
  refine lv_iconst (v := nI 0) G.1 G.2.1 dX0_tryJoining_2 (by decide) ?_
  refine lv_istore_n (lv' := [(3, .int (nI 0)), (2, .int (nI 0)), (0, .ref (q 0)), (1, .int (nI ch))]) G.1 G.2.1 dX0_tryJoining_3 rfl hl (by decide) rfl (fun ls hl => ?_)
  have loop1 : ∀ (d1 x1 : Nat), x1 + d1 = 3 → ∀ (H9 : Heap) (locs9 : List Loc), xAt D q cI N S ((sp_trTo S ch tr (x1 * 5))) A s H9 → va_S A s.heap H9 locs9 → ∀ ls : Array Slot, lv_has ls 6 [(0, .ref (q 0)), (1, .int (nI ch)), (2, .int (nI (sp_gapTo S ch (x1 * 256)))), (3, .int (nI x1))] → W p l e { frames := 5, cells := 0, slots := 0, locals := 124 } s m ([.ref (q 0), .int (nI ch)] : List Value).toArray below meth c H9 locs9 0 0 (MQ below (gQt D q cI N S (sp_trTo S ch tr 15) (nI (sp_gap S ch)) A) ([.ref (q 0), .int (nI ch)] : List Value).toArray s 0 0 A) (F0 m 4 ls []) := by
    intro d1
    induction d1 with
    | zero =>
      intro x1 hd1 H9 locs9 hX hS ls hl
      refine lv_iload_n G.1 G.2.1 dX0_tryJoining_4 rfl (lv_at hl 3 rfl) ?_
      refine lv_iconst (v := nI 3) G.1 G.2.1 dX0_tryJoining_5 (by decide) ?_
      refine gn_ge G (by omega) (by omega) (tgt := 105) dX0_tryJoining_6 (by decide) (fun h_6 => ?_) (fun h_6 => absurd h_6 (by omega))
      refine lv_iload_n G.1 G.2.1 dX0_tryJoining_105 rfl (lv_at hl 2 rfl) ?_
      exact W.iret G.1 G.2.1 G.2.2.1 (fun t ht hW => ⟨by rw [show x1 = 3 from by omega]; rfl, by rw [ht]; have h9 := hX.1; rw [show x1 = 3 from by omega] at h9; exact h9, hS.F ht⟩) hS.2.2 dX0_tryJoining_106 G.2.2.2.2.2.2
    | succ d1 ih1 =>
      intro x1 hd1 H9 locs9 hX hS ls hl
      refine lv_iload_n G.1 G.2.1 dX0_tryJoining_4 rfl (lv_at hl 3 rfl) ?_
      refine lv_iconst (v := nI 3) G.1 G.2.1 dX0_tryJoining_5 (by decide) ?_
      refine gn_ge G (by omega) (by omega) (tgt := 105) dX0_tryJoining_6 (by decide) (fun h_6 => absurd h_6 (by omega)) (fun h_6 => ?_)
      refine lv_iconst (v := nI 0) G.1 G.2.1 dX0_tryJoining_9 (by decide) ?_
      refine lv_istore (lv' := [(4, .int (nI 0)), (0, .ref (q 0)), (1, .int (nI ch)), (2, .int (nI (sp_gapTo S ch (x1 * 256)))), (3, .int (nI x1))]) G.1 G.2.1 dX0_tryJoining_10 hl (by decide) rfl (fun ls hl => ?_)
      have loop2 : ∀ (d2 x2 : Nat), x2 + d2 = 5 → ∀ (H9 : Heap) (locs9 : List Loc), xAt D q cI N S ((sp_trTo S ch tr (x1 * 5 + x2))) A s H9 → va_S A s.heap H9 locs9 → ∀ ls : Array Slot, lv_has ls 6 [(0, .ref (q 0)), (1, .int (nI ch)), (2, .int (nI (sp_gapTo S ch (x1 * 256)))), (3, .int (nI x1)), (4, .int (nI x2))] → W p l e { frames := 5, cells := 0, slots := 0, locals := 124 } s m ([.ref (q 0), .int (nI ch)] : List Value).toArray below meth c H9 locs9 0 0 (MQ below (gQt D q cI N S (sp_trTo S ch tr 15) (nI (sp_gap S ch)) A) ([.ref (q 0), .int (nI ch)] : List Value).toArray s 0 0 A) (F0 m 12 ls []) := by
        intro d2
        induction d2 with
        | zero =>
          intro x2 hd2 H9 locs9 hX hS ls hl
          refine lv_iload G.1 G.2.1 dX0_tryJoining_12 (lv_at hl 4 rfl) ?_
          refine lv_iconst (v := nI 5) G.1 G.2.1 dX0_tryJoining_14 (by decide) ?_
          refine gn_ge G (by omega) (by omega) (tgt := 49) dX0_tryJoining_15 (by decide) (fun h_15 => ?_) (fun h_15 => absurd h_15 (by omega))
          refine lv_iconst (v := nI 0) G.1 G.2.1 dX0_tryJoining_49 (by decide) ?_
          refine lv_istore (lv' := [(4, .int (nI 0)), (0, .ref (q 0)), (1, .int (nI ch)), (2, .int (nI (sp_gapTo S ch (x1 * 256)))), (3, .int (nI x1))]) G.1 G.2.1 dX0_tryJoining_50 hl (by decide) rfl (fun ls hl => ?_)
          have loop3 : ∀ (d3 x3 : Nat), x3 + d3 = 256 → ∀ (H9 : Heap) (locs9 : List Loc), xAt D q cI N S ((sp_trTo S ch tr (x1 * 5 + 5))) A s H9 → va_S A s.heap H9 locs9 → ∀ ls : Array Slot, lv_has ls 6 [(0, .ref (q 0)), (1, .int (nI ch)), (2, .int (nI (sp_gapTo S ch (x1 * 256 + x3)))), (3, .int (nI x1)), (4, .int (nI x3))] → W p l e { frames := 5, cells := 0, slots := 0, locals := 124 } s m ([.ref (q 0), .int (nI ch)] : List Value).toArray below meth c H9 locs9 0 0 (MQ below (gQt D q cI N S (sp_trTo S ch tr 15) (nI (sp_gap S ch)) A) ([.ref (q 0), .int (nI ch)] : List Value).toArray s 0 0 A) (F0 m 52 ls []) := by
            intro d3
            induction d3 with
            | zero =>
              intro x3 hd3 H9 locs9 hX hS ls hl
              refine lv_iload G.1 G.2.1 dX0_tryJoining_52 (lv_at hl 4 rfl) ?_
              refine lv_sipush (v := nI 255) G.1 G.2.1 dX0_tryJoining_54 (by decide) ?_
              refine gn_gt G (by omega) (by omega) (tgt := 99) dX0_tryJoining_57 (by decide) (fun h_57 => ?_) (fun h_57 => absurd h_57 (by omega))
              refine gn_iinc (lv' := [(3, .int (nI (x1 + 1))), (0, .ref (q 0)), (1, .int (nI ch)), (2, .int (nI (sp_gapTo S ch (x1 * 256 + x3)))), (4, .int (nI x3))]) (n := 1) G dX0_tryJoining_99 hl (k := 3) rfl (by decide) rfl (fun ls hl => ?_)
              refine lv_goto (tgt := 4) G.1 G.2.1 dX0_tryJoining_102 (by decide) ?_
              exact ih1 (x1 + 1) (by omega) _ _ (xAt_cast (by rw [show (x1 + 1) * 5 = x1 * 5 + 5 from by omega]) hX) hS _ (by rw [show (x1 + 1) * 256 = x1 * 256 + x3 from by omega]; exact lv_sub hl [1, 2, 3, 0] rfl)
            | succ d3 ih3 =>
              intro x3 hd3 H9 locs9 hX hS ls hl
              refine lv_iload G.1 G.2.1 dX0_tryJoining_52 (lv_at hl 4 rfl) ?_
              refine lv_sipush (v := nI 255) G.1 G.2.1 dX0_tryJoining_54 (by decide) ?_
              refine gn_gt G (by omega) (by omega) (tgt := 99) dX0_tryJoining_57 (by decide) (fun h_57 => absurd h_57 (by omega)) (fun h_57 => ?_)
              have hta : sp_trTo S ch tr (x1 * 5 + 5) (x1 * 5 + x3 / 64) ≤ 255 := by rw [sp_trTo_at (by omega)]; exact hpl _ _ sp_vop_le
              have htb : sp_trTo S ch tr (x1 * 5 + 5) (x1 * 5 + x3 / 64 + 1) ≤ 255 := by rw [sp_trTo_at (by omega)]; exact hpl _ _ sp_vop_le
              have hb2 : sp_trTo S ch tr (x1 * 5 + 5) (x1 * 5 + x3 / 64) ≤ 255 ∧ sp_trTo S ch tr (x1 * 5 + 5) (x1 * 5 + x3 / 64 + 1) ≤ 255 := ⟨hta, htb⟩
              have hpa := hpl x1 x3 (by omega)
              have hpb : sp_btw (sp_trTo S ch tr (x1 * 5 + 5)) (x1 * 5) x3 ≤ 255 := sp_mix_le hta htb (sp_far (by omega)) (sp_w_pos _)
              have hgl := sp_gapTo_le hok (ch := ch) (x1 * 256 + x3)
              have hap := sp_ap_le hpa hpb
              refine lv_aload_n G.1 G.2.1 dX0_tryJoining_60 rfl (lv_at hl 0 rfl) ?_
              refine lv_iload_n G.1 G.2.1 dX0_tryJoining_61 rfl (lv_at hl 1 rfl) ?_
              refine lv_iload_n G.1 G.2.1 dX0_tryJoining_62 rfl (lv_at hl 3 rfl) ?_
              refine lv_iload G.1 G.2.1 dX0_tryJoining_63 (lv_at hl 4 rfl) ?_
              refine gc_v (As := [.int (nI ch), .int (nI x1), .int (nI x3)]) (rest := []) G.fix (mX0_pass l D q cI N S ((sp_trTo S ch tr (x1 * 5 + 5))) A ch x1 x3 hok (by first | omega | assumption | exact ok6 _ | apply hq) (by first | omega | assumption | exact ok6 _ | apply hq) (by first | omega | assumption | exact ok6 _ | apply hq)) (cwV 3 G.2.2.2.2.2.1 gX0_tryJoining_X0_pass rfl rfl rfl (by decide +kernel) ⟨Nat.le_of_ble_eq_true rfl, Nat.le_of_ble_eq_true rfl⟩) xAt_blind (va_recv hX.2.1 hX.1 (ci := 0) (q0 := 0) rfl rfl) (fun U hU hW => by rw [hU]; exact hX.moved hW) rfl hl.1 rfl (Nat.le_of_ble_eq_true rfl) dX0_tryJoining_65 (Nat.zero_le _) (Nat.zero_le _) (fun r hr => ?_)
              subst hr
              refine lv_aload_n G.1 G.2.1 dX0_tryJoining_68 rfl (lv_at hl 0 rfl) ?_
              refine gx_get G hX (by decide +kernel) 11 (by decide) (by decide +kernel) rfl rfl rfl dX0_tryJoining_69 ?_
              refine lv_iload_n G.1 G.2.1 dX0_tryJoining_72 rfl (lv_at hl 3 rfl) ?_
              refine lv_iconst (v := nI 5) G.1 G.2.1 dX0_tryJoining_73 (by decide) ?_
              refine gn_imul G dX0_tryJoining_74 ?_
              refine lv_iload G.1 G.2.1 dX0_tryJoining_75 (lv_at hl 4 rfl) ?_
              refine gc_s (As := [.ref (q 11), .int (nI (x1 * 5)), .int (nI x3)]) (rest := [.int (nI (sp_pass S ch x1 x3))]) G.fix (mX0_between l D (q 11) cI 15 ((sp_trTo S ch tr (x1 * 5 + 5))) (x1 * 5) x3 (by first | omega | assumption | exact ok6 _ | apply hq) (by first | omega | assumption | exact ok6 _ | apply hq) (by first | assumption | (intro j; omega))) (va_cwS 3 G.2.2.2.2.2.1 gX0_tryJoining_X0_between rfl rfl rfl (by decide +kernel) ⟨Nat.le_of_ble_eq_true rfl, Nat.le_of_ble_eq_true rfl⟩) rAt_blind (fun U hU hW => by rw [hU]; exact (hX.row 8 rfl).moved hW) rfl hl.1 rfl (Nat.le_of_ble_eq_true rfl) dX0_tryJoining_77 (Nat.zero_le _) (Nat.zero_le _) (fun r hr => ?_)
              subst hr
              refine lv_isub G.1 G.2.1 dX0_tryJoining_80 ?_
              refine lv_istore (lv' := [(5, .int (nI (sp_pass S ch x1 x3) - nI (sp_btw ((sp_trTo S ch tr (x1 * 5 + 5))) (x1 * 5) x3))), (0, .ref (q 0)), (1, .int (nI ch)), (2, .int (nI (sp_gapTo S ch (x1 * 256 + x3)))), (3, .int (nI x1)), (4, .int (nI x3))]) G.1 G.2.1 dX0_tryJoining_81 hl (by decide) rfl (fun ls hl => ?_)
              refine lv_iload_n G.1 G.2.1 dX0_tryJoining_83 rfl (lv_at hl 3 rfl) ?_
              refine lv_iload G.1 G.2.1 dX0_tryJoining_84 (lv_at hl 0 rfl) ?_
              refine gr_absd G hl.1 (ix := 189) (by decide +kernel) (by decide +kernel) (by decide +kernel) (by decide +kernel) (Nat.le_of_ble_eq_true rfl) (Nat.le_of_ble_eq_true rfl) (Nat.zero_le _) (Nat.zero_le _) hpa hpb dX0_tryJoining_86 ?_
              refine gr_max G hl.1 (ix := 125) (by decide +kernel) (by decide +kernel) (by decide +kernel) (by decide +kernel) (Nat.le_of_ble_eq_true rfl) (Nat.le_of_ble_eq_true rfl) (Nat.zero_le _) (Nat.zero_le _) (by omega) (by omega) dX0_tryJoining_89 ?_
              refine lv_istore_n (lv' := [(2, .int (nI (max (sp_gapTo S ch (x1 * 256 + x3)) (sp_ap (sp_pass S ch x1 x3) (sp_btw ((sp_trTo S ch tr (x1 * 5 + 5))) (x1 * 5) x3))))), (5, .int (nI (sp_pass S ch x1 x3) - nI (sp_btw ((sp_trTo S ch tr (x1 * 5 + 5))) (x1 * 5) x3))), (0, .ref (q 0)), (1, .int (nI ch)), (3, .int (nI x1)), (4, .int (nI x3))]) G.1 G.2.1 dX0_tryJoining_92 rfl hl (by decide) rfl (fun ls hl => ?_)
              refine gn_iinc (lv' := [(4, .int (nI (x3 + 1))), (2, .int (nI (max (sp_gapTo S ch (x1 * 256 + x3)) (sp_ap (sp_pass S ch x1 x3) (sp_btw ((sp_trTo S ch tr (x1 * 5 + 5))) (x1 * 5) x3))))), (5, .int (nI (sp_pass S ch x1 x3) - nI (sp_btw ((sp_trTo S ch tr (x1 * 5 + 5))) (x1 * 5) x3))), (0, .ref (q 0)), (1, .int (nI ch)), (3, .int (nI x1))]) (n := 1) G dX0_tryJoining_93 hl (k := 5) rfl (by decide) rfl (fun ls hl => ?_)
              refine lv_goto (tgt := 52) G.1 G.2.1 dX0_tryJoining_96 (by decide) ?_
              exact ih3 (x3 + 1) (by omega) _ _ (xAt_cast (rfl) hX) hS _ (by rw [sp_gapTo_s (tr := tr) (by omega)]; exact lv_sub hl [3, 4, 1, 5, 0] rfl)
          exact loop3 256 0 (by omega) _ _ (xAt_cast (by rw [show x2 = 5 from by omega]) hX) hS _ (lv_sub hl [1, 2, 3, 4, 0] rfl)
        | succ d2 ih2 =>
          intro x2 hd2 H9 locs9 hX hS ls hl
          refine lv_iload G.1 G.2.1 dX0_tryJoining_12 (lv_at hl 4 rfl) ?_
          refine lv_iconst (v := nI 5) G.1 G.2.1 dX0_tryJoining_14 (by decide) ?_
          refine gn_ge G (by omega) (by omega) (tgt := 49) dX0_tryJoining_15 (by decide) (fun h_15 => absurd h_15 (by omega)) (fun h_15 => ?_)
          refine lv_aload_n G.1 G.2.1 dX0_tryJoining_18 rfl (lv_at hl 0 rfl) ?_
          refine gx_get G hX (by decide +kernel) 11 (by decide) (by decide +kernel) rfl rfl rfl dX0_tryJoining_19 ?_
          refine lv_iload_n G.1 G.2.1 dX0_tryJoining_22 rfl (lv_at hl 3 rfl) ?_
          refine lv_iconst (v := nI 5) G.1 G.2.1 dX0_tryJoining_23 (by decide) ?_
          refine gn_imul G dX0_tryJoining_24 ?_
          refine lv_iload G.1 G.2.1 dX0_tryJoining_25 (lv_at hl 4 rfl) ?_
          refine gn_iadd G dX0_tryJoining_27 ?_
          refine lv_aload_n G.1 G.2.1 dX0_tryJoining_28 rfl (lv_at hl 0 rfl) ?_
          refine lv_iload_n G.1 G.2.1 dX0_tryJoining_29 rfl (lv_at hl 1 rfl) ?_
          refine lv_iload_n G.1 G.2.1 dX0_tryJoining_30 rfl (lv_at hl 3 rfl) ?_
          refine lv_iload G.1 G.2.1 dX0_tryJoining_31 (lv_at hl 4 rfl) ?_
          refine gc_s (As := [.int (nI x2)]) (rest := [.int (nI x1), .int (nI ch), .ref (q 0), .int (nI ((x1 * 5) + x2)), .ref (q 11)]) G.fix (mX0_valueOfPlace l x2 (by omega)) (va_cwS 1 G.2.2.2.2.2.1 gX0_tryJoining_X0_valueOfPlace rfl rfl rfl (by decide +kernel) ⟨Nat.le_of_ble_eq_true rfl, Nat.le_of_ble_eq_true rfl⟩) gc_blindT (fun _ _ _ => trivial) rfl hl.1 rfl (Nat.le_of_ble_eq_true rfl) dX0_tryJoining_33 (Nat.zero_le _) (Nat.zero_le _) (fun r hr => ?_)
          subst hr
          refine gc_v (As := [.int (nI ch), .int (nI x1), .int (nI (sp_vop x2))]) (rest := [.int (nI ((x1 * 5) + x2)), .ref (q 11)]) G.fix (mX0_pass l D q cI N S ((sp_trTo S ch tr (x1 * 5 + x2))) A ch x1 (sp_vop x2) hok (by first | omega | assumption | exact ok6 _ | apply hq) (by first | omega | assumption | exact ok6 _ | apply hq) (by first | omega | assumption | exact ok6 _ | apply hq)) (cwV 3 G.2.2.2.2.2.1 gX0_tryJoining_X0_pass rfl rfl rfl (by decide +kernel) ⟨Nat.le_of_ble_eq_true rfl, Nat.le_of_ble_eq_true rfl⟩) xAt_blind (va_recv hX.2.1 hX.1 (ci := 0) (q0 := 0) rfl rfl) (fun U hU hW => by rw [hU]; exact hX.moved hW) rfl hl.1 rfl (Nat.le_of_ble_eq_true rfl) dX0_tryJoining_36 (Nat.zero_le _) (Nat.zero_le _) (fun r hr => ?_)
          subst hr
          refine gx_swap (k := 11) (kp := 8) (len := 15) (F := (sp_trTo S ch tr (x1 * 5 + x2))) (i := (x1 * 5) + x2) (v := sp_pass S ch x1 (sp_vop x2)) (S' := S) (tr' := (sp_trTo S ch tr (x1 * 5 + (x2 + 1)))) (rest := []) G.fix (mX0_swap l D (q 11) cI 15 ((sp_trTo S ch tr (x1 * 5 + x2))) ((x1 * 5) + x2) (sp_pass S ch x1 (sp_vop x2)) (by first | omega | assumption)) (va_cwS 3 G.2.2.2.2.2.1 gX0_tryJoining_X0_swap rfl rfl rfl (by decide +kernel) ⟨Nat.le_of_ble_eq_true rfl, Nat.le_of_ble_eq_true rfl⟩) hX hS rfl (by rw [sp_trTo_s (by omega)]; rfl) hl.1 rfl (Nat.le_of_ble_eq_true rfl) dX0_tryJoining_39 (Nat.zero_le _) (Nat.zero_le _) (fun H1 locs1 hX hS => ?_)
          refine lv_pop G.1 G.2.1 dX0_tryJoining_42 rfl ?_
          refine gn_iinc (lv' := [(4, .int (nI (x2 + 1))), (0, .ref (q 0)), (1, .int (nI ch)), (2, .int (nI (sp_gapTo S ch (x1 * 256)))), (3, .int (nI x1))]) (n := 1) G dX0_tryJoining_43 hl (k := 4) rfl (by decide) rfl (fun ls hl => ?_)
          refine lv_goto (tgt := 12) G.1 G.2.1 dX0_tryJoining_46 (by decide) ?_
          exact ih2 (x2 + 1) (by omega) _ _ (xAt_cast (rfl) hX) hS _ (lv_sub hl [1, 2, 3, 4, 0] rfl)
      exact loop2 5 0 (by omega) _ _ (xAt_cast (rfl) hX) hS _ (lv_sub hl [1, 2, 3, 4, 0] rfl)
  exact loop1 3 0 (by omega) _ _ (xAt_cast (rfl) hX) hS _ (lv_sub hl [2, 3, 1, 0] rfl)
set_option maxRecDepth 100000 in
set_option maxHeartbeats 4000000 in
/-- gap -/
theorem mX0_gap (l : Launch) (hst : l.stackTraces = false) (D : va_G) (q : Nat → Nat) (cI : ClassId) (N : Nat → Nat) (S : Nat → Nat → Nat) (tr : Nat → Nat) (A : Nat → Prop) (hok : sp_ok N S) (hinv : sp_inv N S) (i1 : Int32) : vx_Met l yX0_gap wsX0_gap { frames := 7, cells := 1, slots := 6, locals := 149 } (va_Pc [.ref (q 0), .int i1] (fun U => xAt D q cI N S tr A U U.heap)) (gQx D q cI (fun r N2 S2 => sA_gap N S i1 = true ∧ sB_gap N S i1 = true ∧ sC_gap N S i1 = true ∧ r = nI (sR_gap N S i1) ∧ N2 = sN_gap N S i1 ∧ S2 = sS_gap N S i1) A) (gXx D q cI N S A (gE3 (sA_gap N S i1) (sB_gap N S i1) (sC_gap N S i1))) 1 6 A := by
  refine gc_vxmet [.ref (q 0), .int i1] (by decide) rfl (Nat.le_of_ble_eq_true rfl) rfl ?_
  intro p e s m below meth c ls G hx0 hl hX
  have hZ0 := hX.2.2.2
  have hS : va_S A s.heap s.heap [] := va_S.rf
  have hok9 := hok
  obtain ⟨⟨ok0, ok5⟩, ok1, ok2, ok3, ok4, ok6, ok7, ok8, ok12, ok13, ok14⟩ := hok9
  have hN := hinv.2.2.2.1
  have hN9 := hinv.2.2.1
  refine lv_aload_n G.1 G.2.1 dX0_gap_0 rfl (lv_at hl 0 rfl) ?_
  refine lv_iload_n G.1 G.2.1 dX0_gap_1 rfl (lv_at hl 1 rfl) ?_
  refine gc_needT (vx_runV (As := [.int i1]) (rest := []) G.fix (mX0_needChain l hst D q cI N S tr A hok i1) (cwV 1 G.2.2.2.2.2.1 gX0_gap_X0_needChain rfl rfl rfl (by decide +kernel) ⟨Nat.le_of_ble_eq_true rfl, Nat.le_of_ble_eq_true rfl⟩) ⟨xAt_blind, va_recv hX.2.1 hX.1 (ci := 0) (q0 := 0) rfl rfl, fun U hU hW => ⟨rfl, by show xAt _ _ _ _ _ _ _ U U.heap; rw [hU]; exact hX.moved hW⟩⟩ rfl rfl hl.1 rfl (lv_room (Nat.le_of_ble_eq_true rfl)) dX0_gap_2 ⟨Nat.le_of_ble_eq_true rfl, Nat.le_of_ble_eq_true rfl⟩) hx0 G.2.2.2.2.2.2 (fun E t hE hz hk _ => ⟨Or.inl ⟨hE.1, (by simp [sA_gap, hE.2] <;> omega)⟩, gXx_of hX hS hz hk⟩) hS.2.2 (by decide) (by decide) (fun hA1 => ?_)
  obtain ⟨j1, hj1, rfl⟩ := gb_of (by omega) hA1
  have hg1 := gn_nI (show j1 < 2 ^ 31 by omega)
  refine lv_aload_n G.1 G.2.1 dX0_gap_5 rfl (lv_at hl 0 rfl) ?_
  refine lv_iload_n G.1 G.2.1 dX0_gap_6 rfl (lv_at hl 1 rfl) ?_
  refine gx_mut (N' := N) (S' := S) (tr' := (sp_trTo S j1 tr 15)) (r := (nI (sp_gap S j1))) (As := [.int (nI j1)]) (rest := []) G.fix (mX0_tryJoining l D q cI N S tr A hok j1 (by omega)) (cwV 1 G.2.2.2.2.2.1 gX0_gap_X0_tryJoining rfl rfl rfl (by decide +kernel) ⟨Nat.le_of_ble_eq_true rfl, Nat.le_of_ble_eq_true rfl⟩) hZ0 hX hS rfl hl.1 rfl (Nat.le_of_ble_eq_true rfl) dX0_gap_7 (Nat.zero_le _) (Nat.zero_le _) (fun H1 locs1 hX hS => ?_)
  exact vx_ret (W.widen (k := 1) (n := 6) (Nat.zero_le _) (Nat.zero_le _) (W.iret G.1 G.2.1 G.2.2.1 (fun t ht hW => gQx_of hX hS ht ⟨(by simp [sA_gap, hA1, hg1]), rfl, rfl, (by show nI _ = nI _; simp only [sR_gap, hg1]), (by simp only [sN_gap, hg1]), (by simp only [sS_gap, hg1])⟩) hS.2.2 dX0_gap_10 G.2.2.2.2.2.2))
set_option maxRecDepth 100000 in
set_option maxHeartbeats 4000000 in
/-- greyGap -/
theorem mX0_greyGap (l : Launch) (hst : l.stackTraces = false) (D : va_G) (q : Nat → Nat) (cI : ClassId) (N : Nat → Nat) (S : Nat → Nat → Nat) (tr : Nat → Nat) (A : Nat → Prop) (hok : sp_ok N S) (hinv : sp_inv N S) (i1 : Int32) : vx_Met l yX0_greyGap wsX0_greyGap { frames := 7, cells := 1, slots := 6, locals := 124 } (va_Pc [.ref (q 0), .int i1] (fun U => xAt D q cI N S tr A U U.heap)) (gQx D q cI (fun r N2 S2 => sA_greyGap N S i1 = true ∧ sB_greyGap N S i1 = true ∧ sC_greyGap N S i1 = true ∧ r = nI (sR_greyGap N S i1) ∧ N2 = sN_greyGap N S i1 ∧ S2 = sS_greyGap N S i1) A) (gXx D q cI N S A (gE3 (sA_greyGap N S i1) (sB_greyGap N S i1) (sC_greyGap N S i1))) 1 6 A := by
  refine gc_vxmet [.ref (q 0), .int i1] (by decide) rfl (Nat.le_of_ble_eq_true rfl) rfl ?_
  intro p e s m below meth c ls G hx0 hl hX
  have hZ0 := hX.2.2.2
  have hS : va_S A s.heap s.heap [] := va_S.rf
  have hok9 := hok
  obtain ⟨⟨ok0, ok5⟩, ok1, ok2, ok3, ok4, ok6, ok7, ok8, ok12, ok13, ok14⟩ := hok9
  have hN := hinv.2.2.2.1
  have hN9 := hinv.2.2.1
  refine lv_aload_n G.1 G.2.1 dX0_greyGap_0 rfl (lv_at hl 0 rfl) ?_
  refine lv_iload_n G.1 G.2.1 dX0_greyGap_1 rfl (lv_at hl 1 rfl) ?_
  refine gc_needT (vx_runV (As := [.int i1]) (rest := []) G.fix (mX0_needChain l hst D q cI N S tr A hok i1) (cwV 1 G.2.2.2.2.2.1 gX0_greyGap_X0_needChain rfl rfl rfl (by decide +kernel) ⟨Nat.le_of_ble_eq_true rfl, Nat.le_of_ble_eq_true rfl⟩) ⟨xAt_blind, va_recv hX.2.1 hX.1 (ci := 0) (q0 := 0) rfl rfl, fun U hU hW => ⟨rfl, by show xAt _ _ _ _ _ _ _ U U.heap; rw [hU]; exact hX.moved hW⟩⟩ rfl rfl hl.1 rfl (lv_room (Nat.le_of_ble_eq_true rfl)) dX0_greyGap_2 ⟨Nat.le_of_ble_eq_true rfl, Nat.le_of_ble_eq_true rfl⟩) hx0 G.2.2.2.2.2.2 (fun E t hE hz hk _ => ⟨Or.inl ⟨hE.1, (by simp [sA_greyGap, hE.2] <;> omega)⟩, gXx_of hX hS hz hk⟩) hS.2.2 (by decide) (by decide) (fun hA1 => ?_)
  obtain ⟨j1, hj1, rfl⟩ := gb_of (by omega) hA1
  have hg1 := gn_nI (show j1 < 2 ^ 31 by omega)
  have hpl := fun b v (hv : v ≤ 255) => sp_pass_le (ch := j1) (b := b) hok hv
  refine lv_iconst (v := nI 0) G.1 G.2.1 dX0_greyGap_5 (by decide) ?_
  refine lv_istore_n (lv' := [(2, .int (nI 0)), (0, .ref (q 0)), (1, .int (nI j1))]) G.1 G.2.1 dX0_greyGap_6 rfl hl (by decide) rfl (fun ls hl => ?_)
  refine lv_iconst (v := nI 0) G.1 G.2.1 dX0_greyGap_7 (by decide) ?_
  refine lv_istore_n (lv' := [(3, .int (nI 0)), (2, .int (nI 0)), (0, .ref (q 0)), (1, .int (nI j1))]) G.1 G.2.1 dX0_greyGap_8 rfl hl (by decide) rfl (fun ls hl => ?_)
  have loop1 : ∀ (d1 x1 : Nat), x1 + d1 = 256 → ∀ (H9 : Heap) (locs9 : List Loc), xAt D q cI N S tr A s H9 → va_S A s.heap H9 locs9 → ∀ ls : Array Slot, lv_has ls 8 [(0, .ref (q 0)), (1, .int (nI j1)), (2, .int (nI (sp_greyTo S j1 x1))), (3, .int (nI x1))] → W p l e { frames := 7, cells := 1, slots := 6, locals := 124 } s m ([.ref (q 0), .int (nI j1)] : List Value).toArray below meth c H9 locs9 0 0 (vx_MQ below (gQx D q cI (fun r N2 S2 => sA_greyGap N S (nI j1) = true ∧ sB_greyGap N S (nI j1) = true ∧ sC_greyGap N S (nI j1) = true ∧ r = nI (sR_greyGap N S (nI j1)) ∧ N2 = sN_greyGap N S (nI j1) ∧ S2 = sS_greyGap N S (nI j1)) A) (gXx D q cI N S A (gE3 (sA_greyGap N S (nI j1)) (sB_greyGap N S (nI j1)) (sC_greyGap N S (nI j1)))) ([.ref (q 0), .int (nI j1)] : List Value).toArray s 1 6 A) (F0 m 9 ls []) := by
    intro d1
    induction d1 with
    | zero =>
      intro x1 hd1 H9 locs9 hX hS ls hl
      refine lv_iload_n G.1 G.2.1 dX0_greyGap_9 rfl (lv_at hl 3 rfl) ?_
      refine lv_sipush (v := nI 255) G.1 G.2.1 dX0_greyGap_10 (by decide) ?_
      refine gn_gt G (by omega) (by omega) (tgt := 83) dX0_greyGap_13 (by decide) (fun h_13 => ?_) (fun h_13 => absurd h_13 (by omega))
      refine lv_iload_n G.1 G.2.1 dX0_greyGap_83 rfl (lv_at hl 2 rfl) ?_
      exact vx_ret (W.widen (k := 1) (n := 6) (Nat.zero_le _) (Nat.zero_le _) (W.iret G.1 G.2.1 G.2.2.1 (fun t ht hW => gQx_of hX hS ht ⟨(by simp [sA_greyGap, hA1, hg1]), rfl, rfl, (by show nI _ = nI _; simp only [sR_greyGap, hg1]; unfold sp_grey; rw [show x1 = 256 from by omega]), (by simp only [sN_greyGap, hg1]), (by simp only [sS_greyGap, hg1])⟩) hS.2.2 dX0_greyGap_84 G.2.2.2.2.2.2))
    | succ d1 ih1 =>
      intro x1 hd1 H9 locs9 hX hS ls hl
      refine lv_iload_n G.1 G.2.1 dX0_greyGap_9 rfl (lv_at hl 3 rfl) ?_
      refine lv_sipush (v := nI 255) G.1 G.2.1 dX0_greyGap_10 (by decide) ?_
      refine gn_gt G (by omega) (by omega) (tgt := 83) dX0_greyGap_13 (by decide) (fun h_13 => absurd h_13 (by omega)) (fun h_13 => ?_)
      refine lv_sipush (v := nI 255) G.1 G.2.1 dX0_greyGap_16 (by decide) ?_
      refine lv_istore (lv' := [(4, .int (nI 255)), (0, .ref (q 0)), (1, .int (nI j1)), (2, .int (nI (sp_greyTo S j1 x1))), (3, .int (nI x1))]) G.1 G.2.1 dX0_greyGap_19 hl (by decide) rfl (fun ls hl => ?_)
      refine lv_iconst (v := nI 0) G.1 G.2.1 dX0_greyGap_21 (by decide) ?_
      refine lv_istore (lv' := [(5, .int (nI 0)), (4, .int (nI 255)), (0, .ref (q 0)), (1, .int (nI j1)), (2, .int (nI (sp_greyTo S j1 x1))), (3, .int (nI x1))]) G.1 G.2.1 dX0_greyGap_22 hl (by decide) rfl (fun ls hl => ?_)
      refine lv_iconst (v := nI 0) G.1 G.2.1 dX0_greyGap_24 (by decide) ?_
      refine lv_istore (lv' := [(6, .int (nI 0)), (5, .int (nI 0)), (4, .int (nI 255)), (0, .ref (q 0)), (1, .int (nI j1)), (2, .int (nI (sp_greyTo S j1 x1))), (3, .int (nI x1))]) G.1 G.2.1 dX0_greyGap_25 hl (by decide) rfl (fun ls hl => ?_)
      have loop2 : ∀ (d2 x2 : Nat), x2 + d2 = 3 → ∀ (H9 : Heap) (locs9 : List Loc), xAt D q cI N S tr A s H9 → va_S A s.heap H9 locs9 → ∀ ls : Array Slot, lv_has ls 8 [(0, .ref (q 0)), (1, .int (nI j1)), (2, .int (nI (sp_greyTo S j1 x1))), (3, .int (nI x1)), (4, .int (nI (sp_mn S j1 x1 x2))), (5, .int (nI (sp_mx S j1 x1 x2))), (6, .int (nI x2))] → W p l e { frames := 7, cells := 1, slots := 6, locals := 124 } s m ([.ref (q 0), .int (nI j1)] : List Value).toArray below meth c H9 locs9 0 0 (vx_MQ below (gQx D q cI (fun r N2 S2 => sA_greyGap N S (nI j1) = true ∧ sB_greyGap N S (nI j1) = true ∧ sC_greyGap N S (nI j1) = true ∧ r = nI (sR_greyGap N S (nI j1)) ∧ N2 = sN_greyGap N S (nI j1) ∧ S2 = sS_greyGap N S (nI j1)) A) (gXx D q cI N S A (gE3 (sA_greyGap N S (nI j1)) (sB_greyGap N S (nI j1)) (sC_greyGap N S (nI j1)))) ([.ref (q 0), .int (nI j1)] : List Value).toArray s 1 6 A) (F0 m 27 ls []) := by
        intro d2
        induction d2 with
        | zero =>
          intro x2 hd2 H9 locs9 hX hS ls hl
          refine lv_iload G.1 G.2.1 dX0_greyGap_27 (lv_at hl 6 rfl) ?_
          refine lv_iconst (v := nI 3) G.1 G.2.1 dX0_greyGap_29 (by decide) ?_
          refine gn_ge G (by omega) (by omega) (tgt := 67) dX0_greyGap_30 (by decide) (fun h_30 => ?_) (fun h_30 => absurd h_30 (by omega))
          have hm2 := sp_mx_le hok (ch := j1) (v := x1) (by omega) x2
          have hm3 := sp_mn_mx hok (ch := j1) (v := x1) (k := x2) (by omega) (by omega)
          have hgy := sp_greyTo_le hok (ch := j1) x1 (by omega)
          refine lv_iload_n G.1 G.2.1 dX0_greyGap_67 rfl (lv_at hl 2 rfl) ?_
          refine lv_iload G.1 G.2.1 dX0_greyGap_68 (lv_at hl 5 rfl) ?_
          refine lv_iload G.1 G.2.1 dX0_greyGap_70 (lv_at hl 4 rfl) ?_
          refine gn_isub G dX0_greyGap_72 (by omega) ?_
          refine gr_max G hl.1 (ix := 125) (by decide +kernel) (by decide +kernel) (by decide +kernel) (by decide +kernel) (Nat.le_of_ble_eq_true rfl) (Nat.le_of_ble_eq_true rfl) (Nat.zero_le _) (Nat.zero_le _) (by omega) (by omega) dX0_greyGap_73 ?_
          refine lv_istore_n (lv' := [(2, .int (nI (max (sp_greyTo S j1 x1) ((sp_mx S j1 x1 x2) - (sp_mn S j1 x1 x2))))), (0, .ref (q 0)), (1, .int (nI j1)), (3, .int (nI x1)), (4, .int (nI (sp_mn S j1 x1 x2))), (5, .int (nI (sp_mx S j1 x1 x2))), (6, .int (nI x2))]) G.1 G.2.1 dX0_greyGap_76 rfl hl (by decide) rfl (fun ls hl => ?_)
          refine gn_iinc (lv' := [(3, .int (nI (x1 + 1))), (2, .int (nI (max (sp_greyTo S j1 x1) ((sp_mx S j1 x1 x2) - (sp_mn S j1 x1 x2))))), (0, .ref (q 0)), (1, .int (nI j1)), (4, .int (nI (sp_mn S j1 x1 x2))), (5, .int (nI (sp_mx S j1 x1 x2))), (6, .int (nI x2))]) (n := 1) G dX0_greyGap_77 hl (k := 3) rfl (by decide) rfl (fun ls hl => ?_)
          refine lv_goto (tgt := 9) G.1 G.2.1 dX0_greyGap_80 (by decide) ?_
          exact ih1 (x1 + 1) (by omega) _ _ (xAt_cast (rfl) hX) hS _ (by rw [show sp_greyTo S j1 (x1 + 1) = max (sp_greyTo S j1 x1) (sp_mx S j1 x1 x2 - sp_mn S j1 x1 x2) from by rw [show x2 = 3 from by omega]; rfl]; exact lv_sub hl [2, 3, 1, 0] rfl)
        | succ d2 ih2 =>
          intro x2 hd2 H9 locs9 hX hS ls hl
          refine lv_iload G.1 G.2.1 dX0_greyGap_27 (lv_at hl 6 rfl) ?_
          refine lv_iconst (v := nI 3) G.1 G.2.1 dX0_greyGap_29 (by decide) ?_
          refine gn_ge G (by omega) (by omega) (tgt := 67) dX0_greyGap_30 (by decide) (fun h_30 => absurd h_30 (by omega)) (fun h_30 => ?_)
          have hp9 := hpl x2 x1 (by omega)
          have hm1 := sp_mn_le S j1 x1 x2
          have hm2 := sp_mx_le hok (ch := j1) (v := x1) (by omega) x2
          refine lv_aload_n G.1 G.2.1 dX0_greyGap_33 rfl (lv_at hl 0 rfl) ?_
          refine lv_iload_n G.1 G.2.1 dX0_greyGap_34 rfl (lv_at hl 1 rfl) ?_
          refine lv_iload G.1 G.2.1 dX0_greyGap_35 (lv_at hl 6 rfl) ?_
          refine lv_iload_n G.1 G.2.1 dX0_greyGap_37 rfl (lv_at hl 3 rfl) ?_
          refine gc_v (As := [.int (nI j1), .int (nI x2), .int (nI x1)]) (rest := []) G.fix (mX0_pass l D q cI N S tr A j1 x2 x1 hok (by first | omega | assumption | exact ok6 _ | apply hq) (by first | omega | assumption | exact ok6 _ | apply hq) (by first | omega | assumption | exact ok6 _ | apply hq)) (cwV 3 G.2.2.2.2.2.1 gX0_greyGap_X0_pass rfl rfl rfl (by decide +kernel) ⟨Nat.le_of_ble_eq_true rfl, Nat.le_of_ble_eq_true rfl⟩) xAt_blind (va_recv hX.2.1 hX.1 (ci := 0) (q0 := 0) rfl rfl) (fun U hU hW => by rw [hU]; exact hX.moved hW) rfl hl.1 rfl (Nat.le_of_ble_eq_true rfl) dX0_greyGap_38 (Nat.zero_le _) (Nat.zero_le _) (fun r hr => ?_)
          subst hr
          refine lv_istore (lv' := [(7, .int (nI (sp_pass S j1 x2 x1))), (0, .ref (q 0)), (1, .int (nI j1)), (2, .int (nI (sp_greyTo S j1 x1))), (3, .int (nI x1)), (4, .int (nI (sp_mn S j1 x1 x2))), (5, .int (nI (sp_mx S j1 x1 x2))), (6, .int (nI x2))]) G.1 G.2.1 dX0_greyGap_41 hl (by decide) rfl (fun ls hl => ?_)
          refine lv_iload G.1 G.2.1 dX0_greyGap_43 (lv_at hl 5 rfl) ?_
          refine lv_iload G.1 G.2.1 dX0_greyGap_45 (lv_at hl 0 rfl) ?_
          refine gr_min G hl.1 (ix := 119) (by decide +kernel) (by decide +kernel) (by decide +kernel) (by decide +kernel) (Nat.le_of_ble_eq_true rfl) (Nat.le_of_ble_eq_true rfl) (Nat.zero_le _) (Nat.zero_le _) (by omega) (by omega) dX0_greyGap_47 ?_
          refine lv_istore (lv' := [(4, .int (nI (min (sp_mn S j1 x1 x2) (sp_pass S j1 x2 x1)))), (7, .int (nI (sp_pass S j1 x2 x1))), (0, .ref (q 0)), (1, .int (nI j1)), (2, .int (nI (sp_greyTo S j1 x1))), (3, .int (nI x1)), (5, .int (nI (sp_mx S j1 x1 x2))), (6, .int (nI x2))]) G.1 G.2.1 dX0_greyGap_50 hl (by decide) rfl (fun ls hl => ?_)
          refine lv_iload G.1 G.2.1 dX0_greyGap_52 (lv_at hl 6 rfl) ?_
          refine lv_iload G.1 G.2.1 dX0_greyGap_54 (lv_at hl 1 rfl) ?_
          refine gr_max G hl.1 (ix := 125) (by decide +kernel) (by decide +kernel) (by decide +kernel) (by decide +kernel) (Nat.le_of_ble_eq_true rfl) (Nat.le_of_ble_eq_true rfl) (Nat.zero_le _) (Nat.zero_le _) (by omega) (by omega) dX0_greyGap_56 ?_
          refine lv_istore (lv' := [(5, .int (nI (max (sp_mx S j1 x1 x2) (sp_pass S j1 x2 x1)))), (4, .int (nI (min (sp_mn S j1 x1 x2) (sp_pass S j1 x2 x1)))), (7, .int (nI (sp_pass S j1 x2 x1))), (0, .ref (q 0)), (1, .int (nI j1)), (2, .int (nI (sp_greyTo S j1 x1))), (3, .int (nI x1)), (6, .int (nI x2))]) G.1 G.2.1 dX0_greyGap_59 hl (by decide) rfl (fun ls hl => ?_)
          refine gn_iinc (lv' := [(6, .int (nI (x2 + 1))), (5, .int (nI (max (sp_mx S j1 x1 x2) (sp_pass S j1 x2 x1)))), (4, .int (nI (min (sp_mn S j1 x1 x2) (sp_pass S j1 x2 x1)))), (7, .int (nI (sp_pass S j1 x2 x1))), (0, .ref (q 0)), (1, .int (nI j1)), (2, .int (nI (sp_greyTo S j1 x1))), (3, .int (nI x1))]) (n := 1) G dX0_greyGap_61 hl (k := 7) rfl (by decide) rfl (fun ls hl => ?_)
          refine lv_goto (tgt := 27) G.1 G.2.1 dX0_greyGap_64 (by decide) ?_
          exact ih2 (x2 + 1) (by omega) _ _ (xAt_cast (rfl) hX) hS _ (lv_sub hl [4, 5, 6, 7, 2, 1, 0] rfl)
      exact loop2 3 0 (by omega) _ _ (xAt_cast (rfl) hX) hS _ (lv_sub hl [3, 4, 5, 6, 2, 1, 0] rfl)
  exact loop1 256 0 (by omega) _ _ (xAt_cast (rfl) hX) hS _ (lv_sub hl [2, 3, 1, 0] rfl)
set_option maxRecDepth 100000 in
set_option maxHeartbeats 4000000 in
/-- join -/
theorem mX0_join (l : Launch) (hst : l.stackTraces = false) (D : va_G) (q : Nat → Nat) (cI : ClassId) (N : Nat → Nat) (S : Nat → Nat → Nat) (tr : Nat → Nat) (A : Nat → Prop) (hok : sp_ok N S) (hinv : sp_inv N S) (i1 i2 : Int32) : vx_Met l yX0_join wsX0_join { frames := 7, cells := 1, slots := 6, locals := 149 } (va_Pc [.ref (q 0), .int i1, .int i2] (fun U => xAt D q cI N S tr A U U.heap)) (gQx D q cI (fun r N2 S2 => sA_join N S i1 i2 = true ∧ sB_join N S i1 i2 = true ∧ sC_join N S i1 i2 = true ∧ r = nI (sR_join N S i1 i2) ∧ N2 = sN_join N S i1 i2 ∧ S2 = sS_join N S i1 i2) A) (gXx D q cI N S A (gE3 (sA_join N S i1 i2) (sB_join N S i1 i2) (sC_join N S i1 i2))) 1 6 A := by
  refine gc_vxmet [.ref (q 0), .int i1, .int i2] (by decide) rfl (Nat.le_of_ble_eq_true rfl) rfl ?_
  intro p e s m below meth c ls G hx0 hl hX
  have hZ0 := hX.2.2.2
  have hS : va_S A s.heap s.heap [] := va_S.rf
  have hok9 := hok
  obtain ⟨⟨ok0, ok5⟩, ok1, ok2, ok3, ok4, ok6, ok7, ok8, ok12, ok13, ok14⟩ := hok9
  have hN := hinv.2.2.2.1
  have hN9 := hinv.2.2.1
  refine lv_aload_n G.1 G.2.1 dX0_join_0 rfl (lv_at hl 0 rfl) ?_
  refine lv_iload_n G.1 G.2.1 dX0_join_1 rfl (lv_at hl 1 rfl) ?_
  refine gc_needT (vx_runV (As := [.int i1]) (rest := []) G.fix (mX0_needChain l hst D q cI N S tr A hok i1) (cwV 1 G.2.2.2.2.2.1 gX0_join_X0_needChain rfl rfl rfl (by decide +kernel) ⟨Nat.le_of_ble_eq_true rfl, Nat.le_of_ble_eq_true rfl⟩) ⟨xAt_blind, va_recv hX.2.1 hX.1 (ci := 0) (q0 := 0) rfl rfl, fun U hU hW => ⟨rfl, by show xAt _ _ _ _ _ _ _ U U.heap; rw [hU]; exact hX.moved hW⟩⟩ rfl rfl hl.1 rfl (lv_room (Nat.le_of_ble_eq_true rfl)) dX0_join_2 ⟨Nat.le_of_ble_eq_true rfl, Nat.le_of_ble_eq_true rfl⟩) hx0 G.2.2.2.2.2.2 (fun E t hE hz hk _ => ⟨Or.inl ⟨hE.1, (by simp [sA_join, hE.2] <;> omega)⟩, gXx_of hX hS hz hk⟩) hS.2.2 (by decide) (by decide) (fun hA1 => ?_)
  obtain ⟨j1, hj1, rfl⟩ := gb_of (by omega) hA1
  have hg1 := gn_nI (show j1 < 2 ^ 31 by omega)
  refine lv_iload_n G.1 G.2.1 dX0_join_5 rfl (lv_at hl 2 rfl) ?_
  refine gc_needT (vx_runS (As := [.int i2]) (rest := []) G.fix (mX0_needValue l hst i2) (va_cwS 1 G.2.2.2.2.2.1 gX0_join_X0_needValue rfl rfl rfl (by decide +kernel) ⟨Nat.le_of_ble_eq_true rfl, Nat.le_of_ble_eq_true rfl⟩) ⟨gZ_blind, fun U hU hW => ⟨rfl, by show gZ _ U U.heap; rw [hU]; exact hX.2.2.2.none.moved hW⟩⟩ rfl rfl hl.1 rfl (lv_room (Nat.le_of_ble_eq_true rfl)) dX0_join_6 ⟨Nat.le_of_ble_eq_true rfl, Nat.le_of_ble_eq_true rfl⟩) hx0 G.2.2.2.2.2.2 (fun E t hE hz hk _ => ⟨Or.inr (Or.inl ⟨hE.1, (by simp [sA_join, hA1, hg1]), (by simp [sB_join, hg1, hE.2] <;> omega)⟩), gXx_of hX hS hz hk⟩) hS.2.2 (by decide) (by decide) (fun hB2 => ?_)
  obtain ⟨j2, hj2, rfl⟩ := gb_of (by omega) hB2
  have hg2 := gn_nI (show j2 < 2 ^ 31 by omega)
  refine lv_aload_n G.1 G.2.1 dX0_join_9 rfl (lv_at hl 0 rfl) ?_
  refine lv_iload_n G.1 G.2.1 dX0_join_10 rfl (lv_at hl 1 rfl) ?_
  refine gx_mut (N' := N) (S' := S) (tr' := (sp_trTo S j1 tr 15)) (r := (nI (sp_gap S j1))) (As := [.int (nI j1)]) (rest := []) G.fix (mX0_tryJoining l D q cI N S tr A hok j1 (by omega)) (cwV 1 G.2.2.2.2.2.1 gX0_join_X0_tryJoining rfl rfl rfl (by decide +kernel) ⟨Nat.le_of_ble_eq_true rfl, Nat.le_of_ble_eq_true rfl⟩) hZ0 hX hS rfl hl.1 rfl (Nat.le_of_ble_eq_true rfl) dX0_join_11 (Nat.zero_le _) (Nat.zero_le _) (fun H1 locs1 hX hS => ?_)
  refine lv_istore_n (lv' := [(3, .int (nI (sp_gap S j1))), (0, .ref (q 0)), (1, .int (nI j1)), (2, .int (nI j2))]) G.1 G.2.1 dX0_join_14 rfl hl (by decide) rfl (fun ls hl => ?_)
  have hgl : sp_gap S j1 ≤ 255 := sp_gapTo_le hok _
  refine lv_iload_n G.1 G.2.1 dX0_join_15 rfl (lv_at hl 0 rfl) ?_
  refine lv_iload_n G.1 G.2.1 dX0_join_16 rfl (lv_at hl 3 rfl) ?_
  refine gn_le G (by omega) (by omega) (tgt := 30) dX0_join_17 (by decide) (fun h_17 => ?_) (fun h_17 => ?_)
  · refine lv_iconst (v := nI 0) G.1 G.2.1 dX0_join_30 (by decide) ?_
    refine lv_istore (lv' := [(4, .int (nI 0)), (3, .int (nI (sp_gap S j1))), (0, .ref (q 0)), (1, .int (nI j1)), (2, .int (nI j2))]) G.1 G.2.1 dX0_join_31 hl (by decide) rfl (fun ls hl => ?_)
    have loop1 : ∀ (d1 x1 : Nat), x1 + d1 = 15 → ∀ (H9 : Heap) (locs9 : List Loc), xAt D q cI N ((gs S 8 (sp_kpTo S j1 x1))) ((sp_trTo S j1 tr 15)) A s H9 → va_S A s.heap H9 locs9 → ∀ ls : Array Slot, lv_has ls 5 [(0, .ref (q 0)), (1, .int (nI j1)), (3, .int (nI (sp_gap S j1))), (4, .int (nI x1))] → W p l e { frames := 7, cells := 1, slots := 6, locals := 149 } s m ([.ref (q 0), .int (nI j1), .int (nI j2)] : List Value).toArray below meth c H9 locs9 0 0 (vx_MQ below (gQx D q cI (fun r N2 S2 => sA_join N S (nI j1) (nI j2) = true ∧ sB_join N S (nI j1) (nI j2) = true ∧ sC_join N S (nI j1) (nI j2) = true ∧ r = nI (sR_join N S (nI j1) (nI j2)) ∧ N2 = sN_join N S (nI j1) (nI j2) ∧ S2 = sS_join N S (nI j1) (nI j2)) A) (gXx D q cI N S A (gE3 (sA_join N S (nI j1) (nI j2)) (sB_join N S (nI j1) (nI j2)) (sC_join N S (nI j1) (nI j2)))) ([.ref (q 0), .int (nI j1), .int (nI j2)] : List Value).toArray s 1 6 A) (F0 m 33 ls []) := by
      intro d1
      induction d1 with
      | zero =>
        intro x1 hd1 H9 locs9 hX hS ls hl
        refine lv_iload G.1 G.2.1 dX0_join_33 (lv_at hl 3 rfl) ?_
        refine lv_bipush (v := nI 15) G.1 G.2.1 dX0_join_35 (by decide) ?_
        refine gn_ge G (by omega) (by omega) (tgt := 71) dX0_join_37 (by decide) (fun h_37 => ?_) (fun h_37 => absurd h_37 (by omega))
        have hxl : N 9 ||| 2 ^ j1 < 2 ^ 31 := Nat.lt_trans (Nat.or_lt_two_pow (n := 6) hN9 (Nat.pow_lt_pow_right (by decide) (by omega))) (by decide)
        refine lv_aload_n G.1 G.2.1 dX0_join_71 rfl (lv_at hl 0 rfl) ?_
        refine lv_aload_n G.1 G.2.1 dX0_join_72 rfl (lv_at hl 0 rfl) ?_
        refine gx_get G hX (by decide +kernel) 9 (by decide) (by decide +kernel) rfl rfl rfl dX0_join_73 ?_
        refine lv_iconst (v := nI 1) G.1 G.2.1 dX0_join_76 (by decide) ?_
        refine lv_iload_n G.1 G.2.1 dX0_join_77 rfl (lv_at hl 1 rfl) ?_
        refine gn_ishl G dX0_join_78 (by omega) ?_
        refine gn_ior G dX0_join_79 ?_
        refine gx_put (k := 9) (N' := (gu N 9 ((N 9) ||| (2 ^ j1)))) G hZ0 hX hS (by decide +kernel) (by decide) (by decide +kernel) rfl rfl (by decide +kernel) rfl (Nat.le_of_ble_eq_true rfl) rfl dX0_join_80 (fun H1 locs1 hX hS => ?_)
        refine lv_iload_n G.1 G.2.1 dX0_join_83 rfl (lv_at hl 2 rfl) ?_
        have hX := xAt_free9 (F := gu (S 9) j1 1) hX
        exact vx_ret (W.widen (k := 1) (n := 6) (Nat.zero_le _) (Nat.zero_le _) (W.iret G.1 G.2.1 G.2.2.1 (fun t ht hW => gQx_of hX hS ht ⟨(by simp [sA_join, hA1, hg1, hg2]), (by simp [sB_join, hB2, hg1, hg2]), (by simp [sC_join, h_17, hg1, hg2]), (by show nI _ = nI _; simp only [sR_join, hg1, hg2]), (by simp only [sN_join, hg1, hg2]), (by simp only [sS_join, hg1]; rw [show x1 = 15 from by omega])⟩) hS.2.2 dX0_join_84 G.2.2.2.2.2.2))
      | succ d1 ih1 =>
        intro x1 hd1 H9 locs9 hX hS ls hl
        refine lv_iload G.1 G.2.1 dX0_join_33 (lv_at hl 3 rfl) ?_
        refine lv_bipush (v := nI 15) G.1 G.2.1 dX0_join_35 (by decide) ?_
        refine gn_ge G (by omega) (by omega) (tgt := 71) dX0_join_37 (by decide) (fun h_37 => absurd h_37 (by omega)) (fun h_37 => ?_)
        refine lv_aload_n G.1 G.2.1 dX0_join_40 rfl (lv_at hl 0 rfl) ?_
        refine gx_get G hX (by decide +kernel) 8 (by decide) (by decide +kernel) rfl rfl rfl dX0_join_41 ?_
        refine lv_iload_n G.1 G.2.1 dX0_join_44 rfl (lv_at hl 1 rfl) ?_
        refine lv_iconst (v := nI 3) G.1 G.2.1 dX0_join_45 (by decide) ?_
        refine gn_imul G dX0_join_46 ?_
        refine lv_iconst (v := nI 5) G.1 G.2.1 dX0_join_47 (by decide) ?_
        refine gn_imul G dX0_join_48 ?_
        refine lv_iload G.1 G.2.1 dX0_join_49 (lv_at hl 3 rfl) ?_
        refine gn_iadd G dX0_join_51 ?_
        refine lv_aload_n G.1 G.2.1 dX0_join_52 rfl (lv_at hl 0 rfl) ?_
        refine gx_get G hX (by decide +kernel) 11 (by decide) (by decide +kernel) rfl rfl rfl dX0_join_53 ?_
        refine lv_iload G.1 G.2.1 dX0_join_56 (lv_at hl 3 rfl) ?_
        refine gc_s (As := [.ref (q 11), .int (nI x1)]) (rest := [.int (nI (((j1 * 3) * 5) + x1)), .ref (q 8)]) G.fix (mX0_read l D (q 11) cI 15 ((sp_trTo S j1 tr 15)) (x1) (by first | omega | assumption | exact ok6 _ | apply hq)) (va_cwS 2 G.2.2.2.2.2.1 gX0_join_X0_read rfl rfl rfl (by decide +kernel) ⟨Nat.le_of_ble_eq_true rfl, Nat.le_of_ble_eq_true rfl⟩) rAt_blind (fun U hU hW => by rw [hU]; exact (hX.row 8 rfl).moved hW) rfl hl.1 rfl (Nat.le_of_ble_eq_true rfl) dX0_join_58 (Nat.zero_le _) (Nat.zero_le _) (fun r hr => ?_)
        subst hr
        refine gx_swap (k := 8) (kp := 7) (len := 90) (F := (sp_kpTo S j1 x1)) (i := ((j1 * 3) * 5) + x1) (v := ((sp_trTo S j1 tr 15)) x1) (S' := (gs S 8 (sp_kpTo S j1 (x1 + 1)))) (tr' := (sp_trTo S j1 tr 15)) (rest := []) G.fix (mX0_swap l D (q 8) cI 90 ((sp_kpTo S j1 x1)) (((j1 * 3) * 5) + x1) (((sp_trTo S j1 tr 15)) x1) (by first | omega | assumption)) (va_cwS 3 G.2.2.2.2.2.1 gX0_join_X0_swap rfl rfl rfl (by decide +kernel) ⟨Nat.le_of_ble_eq_true rfl, Nat.le_of_ble_eq_true rfl⟩) hX hS rfl (by rw [sp_kp_s (by omega)]; rfl) hl.1 rfl (Nat.le_of_ble_eq_true rfl) dX0_join_61 (Nat.zero_le _) (Nat.zero_le _) (fun H1 locs1 hX hS => ?_)
        refine lv_pop G.1 G.2.1 dX0_join_64 rfl ?_
        refine gn_iinc (lv' := [(4, .int (nI (x1 + 1))), (0, .ref (q 0)), (1, .int (nI j1)), (3, .int (nI (sp_gap S j1)))]) (n := 1) G dX0_join_65 hl (k := 3) rfl (by decide) rfl (fun ls hl => ?_)
        refine lv_goto (tgt := 33) G.1 G.2.1 dX0_join_68 (by decide) ?_
        exact ih1 (x1 + 1) (by omega) _ _ (xAt_cast (rfl) hX) hS _ (lv_sub hl [1, 2, 3, 0] rfl)
    exact loop1 15 0 (by omega) _ _ (xAt_cast (rfl) hX) hS _ (lv_sub hl [2, 3, 1, 0] rfl)
  · exact gx_throw (text := "the gap is too great") G hx0 hst (by decide +kernel) (by decide +kernel) (by decide +kernel) (by decide +kernel) gx_not_IS gx_good_IS (by decide +kernel) hZ0 hS hl.1 dX0_join_20 dX0_join_23 dX0_join_24 dX0_join_26 dX0_join_29 (Nat.le_of_ble_eq_true rfl) (Nat.le_of_ble_eq_true rfl) (Nat.le_of_ble_eq_true rfl) (Nat.le_of_ble_eq_true rfl) (fun t _ hz hk => ⟨Or.inr (Or.inr ⟨rfl, (by simp [sA_join, hA1, hg1, hg2]), (by simp [sB_join, hB2, hg1, hg2]), (by simp [sC_join, hg1, hg2, h_17] <;> omega)⟩), gXx_of hX hS hz hk⟩) hS.2.2 (by decide) (by decide)
end
section
theorem dL_cell_0 : decode cL_cell 0 = .ok (.iload_n 1, 1) := by decide +kernel
theorem dL_cell_1 : decode cL_cell 1 = .ok (.aload_n 0, 1) := by decide +kernel
theorem dL_cell_2 : decode cL_cell 2 = .ok (.arraylength, 1) := by decide +kernel
theorem dL_cell_3 : decode cL_cell 3 = .ok (.if_icmp .ge 9, 3) := by decide +kernel
theorem dL_cell_6 : decode cL_cell 6 = .ok (.aload_n 0, 1) := by decide +kernel
theorem dL_cell_7 : decode cL_cell 7 = .ok (.iload_n 1, 1) := by decide +kernel
theorem dL_cell_8 : decode cL_cell 8 = .ok (.iaload, 1) := by decide +kernel
theorem dL_cell_9 : decode cL_cell 9 = .ok (.goto 15, 3) := by decide +kernel
theorem dL_cell_12 : decode cL_cell 12 = .ok (.ldc2_w 7, 3) := by decide +kernel
theorem dL_cell_15 : decode cL_cell 15 = .ok (.iload_n 1, 1) := by decide +kernel
theorem dL_cell_16 : decode cL_cell 16 = .ok (.bipush 103, 2) := by decide +kernel
theorem dL_cell_18 : decode cL_cell 18 = .ok (.iadd, 1) := by decide +kernel
theorem dL_cell_19 : decode cL_cell 19 = .ok (.i2l, 1) := by decide +kernel
theorem dL_cell_20 : decode cL_cell 20 = .ok (.lmul, 1) := by decide +kernel
theorem dL_cell_21 : decode cL_cell 21 = .ok (.iconst 4, 1) := by decide +kernel
theorem dL_cell_22 : decode cL_cell 22 = .ok (.lushr, 1) := by decide +kernel
theorem dL_cell_23 : decode cL_cell 23 = .ok (.l2i, 1) := by decide +kernel
theorem dL_cell_24 : decode cL_cell 24 = .ok (.ireturn, 1) := by decide +kernel
theorem dL_some_0 : decode cL_some 0 = .ok (.iload_n 0, 1) := by decide +kernel
theorem dL_some_1 : decode cL_some 1 = .ok (.iconst 2, 1) := by decide +kernel
theorem dL_some_2 : decode cL_some 2 = .ok (.iushr, 1) := by decide +kernel
theorem dL_some_3 : decode cL_some 3 = .ok (.iload_n 1, 1) := by decide +kernel
theorem dL_some_4 : decode cL_some 4 = .ok (.irem, 1) := by decide +kernel
theorem dL_some_5 : decode cL_some 5 = .ok (.ireturn, 1) := by decide +kernel
theorem dL_at_0 : decode cL_at 0 = .ok (.iload_n 0, 1) := by decide +kernel
theorem dL_at_1 : decode cL_at 1 = .ok (.iconst 4, 1) := by decide +kernel
theorem dL_at_2 : decode cL_at 2 = .ok (.if_icmp .ne 9, 3) := by decide +kernel
theorem dL_at_5 : decode cL_at 5 = .ok (.sipush 255, 3) := by decide +kernel
theorem dL_at_8 : decode cL_at 8 = .ok (.goto 7, 3) := by decide +kernel
theorem dL_at_11 : decode cL_at 11 = .ok (.bipush 64, 2) := by decide +kernel
theorem dL_at_13 : decode cL_at 13 = .ok (.iload_n 0, 1) := by decide +kernel
theorem dL_at_14 : decode cL_at 14 = .ok (.imul, 1) := by decide +kernel
theorem dL_at_15 : decode cL_at 15 = .ok (.ireturn, 1) := by decide +kernel
set_option maxRecDepth 20000 in
theorem ggL_between_L_at : GoodIn wsL_between wsL_at := goodIn_r _ [4] (by decide +kernel) (by decide +kernel)
set_option maxRecDepth 20000 in
theorem gL_between_L_at : GoodIn wsL_between (va_wsS RL 9 yL_at wsL_at) := goodIn_app (goodIn_of _ (by decide +kernel)) ggL_between_L_at
theorem dL_between_0 : decode cL_between 0 = .ok (.iload_n 2, 1) := by decide +kernel
theorem dL_between_1 : decode cL_between 1 = .ok (.sipush 255, 3) := by decide +kernel
theorem dL_between_4 : decode cL_between 4 = .ok (.if_icmp .ne 7, 3) := by decide +kernel
theorem dL_between_7 : decode cL_between 7 = .ok (.iconst 4, 1) := by decide +kernel
theorem dL_between_8 : decode cL_between 8 = .ok (.goto 7, 3) := by decide +kernel
theorem dL_between_11 : decode cL_between 11 = .ok (.iload_n 2, 1) := by decide +kernel
theorem dL_between_12 : decode cL_between 12 = .ok (.bipush 64, 2) := by decide +kernel
theorem dL_between_14 : decode cL_between 14 = .ok (.idiv, 1) := by decide +kernel
theorem dL_between_15 : decode cL_between 15 = .ok (.istore_n 3, 1) := by decide +kernel
theorem dL_between_16 : decode cL_between 16 = .ok (.iload_n 2, 1) := by decide +kernel
theorem dL_between_17 : decode cL_between 17 = .ok (.iload_n 3, 1) := by decide +kernel
theorem dL_between_18 : decode cL_between 18 = .ok (.invokestatic 9, 3) := by decide +kernel
theorem dL_between_21 : decode cL_between 21 = .ok (.isub, 1) := by decide +kernel
theorem dL_between_22 : decode cL_between 22 = .ok (.istore 4, 2) := by decide +kernel
theorem dL_between_24 : decode cL_between 24 = .ok (.iload 4, 2) := by decide +kernel
theorem dL_between_26 : decode cL_between 26 = .ok (.ifCond .ne 9, 3) := by decide +kernel
theorem dL_between_29 : decode cL_between 29 = .ok (.aload_n 0, 1) := by decide +kernel
theorem dL_between_30 : decode cL_between 30 = .ok (.iload_n 1, 1) := by decide +kernel
theorem dL_between_31 : decode cL_between 31 = .ok (.iload_n 3, 1) := by decide +kernel
theorem dL_between_32 : decode cL_between 32 = .ok (.iadd, 1) := by decide +kernel
theorem dL_between_33 : decode cL_between 33 = .ok (.iaload, 1) := by decide +kernel
theorem dL_between_34 : decode cL_between 34 = .ok (.ireturn, 1) := by decide +kernel
theorem dL_between_35 : decode cL_between 35 = .ok (.iload_n 3, 1) := by decide +kernel
theorem dL_between_36 : decode cL_between 36 = .ok (.iconst 1, 1) := by decide +kernel
theorem dL_between_37 : decode cL_between 37 = .ok (.iadd, 1) := by decide +kernel
theorem dL_between_38 : decode cL_between 38 = .ok (.invokestatic 9, 3) := by decide +kernel
theorem dL_between_41 : decode cL_between 41 = .ok (.iload_n 3, 1) := by decide +kernel
theorem dL_between_42 : decode cL_between 42 = .ok (.invokestatic 9, 3) := by decide +kernel
theorem dL_between_45 : decode cL_between 45 = .ok (.isub, 1) := by decide +kernel
theorem dL_between_46 : decode cL_between 46 = .ok (.istore 5, 2) := by decide +kernel
theorem dL_between_48 : decode cL_between 48 = .ok (.aload_n 0, 1) := by decide +kernel
theorem dL_between_49 : decode cL_between 49 = .ok (.iload_n 1, 1) := by decide +kernel
theorem dL_between_50 : decode cL_between 50 = .ok (.iload_n 3, 1) := by decide +kernel
theorem dL_between_51 : decode cL_between 51 = .ok (.iadd, 1) := by decide +kernel
theorem dL_between_52 : decode cL_between 52 = .ok (.iconst 1, 1) := by decide +kernel
theorem dL_between_53 : decode cL_between 53 = .ok (.iadd, 1) := by decide +kernel
theorem dL_between_54 : decode cL_between 54 = .ok (.iaload, 1) := by decide +kernel
theorem dL_between_55 : decode cL_between 55 = .ok (.aload_n 0, 1) := by decide +kernel
theorem dL_between_56 : decode cL_between 56 = .ok (.iload_n 1, 1) := by decide +kernel
theorem dL_between_57 : decode cL_between 57 = .ok (.iload_n 3, 1) := by decide +kernel
theorem dL_between_58 : decode cL_between 58 = .ok (.iadd, 1) := by decide +kernel
theorem dL_between_59 : decode cL_between 59 = .ok (.iaload, 1) := by decide +kernel
theorem dL_between_60 : decode cL_between 60 = .ok (.isub, 1) := by decide +kernel
theorem dL_between_61 : decode cL_between 61 = .ok (.iload 4, 2) := by decide +kernel
theorem dL_between_63 : decode cL_between 63 = .ok (.imul, 1) := by decide +kernel
theorem dL_between_64 : decode cL_between 64 = .ok (.sipush 256, 3) := by decide +kernel
theorem dL_between_67 : decode cL_between 67 = .ok (.iload 5, 2) := by decide +kernel
theorem dL_between_69 : decode cL_between 69 = .ok (.imul, 1) := by decide +kernel
theorem dL_between_70 : decode cL_between 70 = .ok (.iadd, 1) := by decide +kernel
theorem dL_between_71 : decode cL_between 71 = .ok (.istore 6, 2) := by decide +kernel
theorem dL_between_73 : decode cL_between 73 = .ok (.aload_n 0, 1) := by decide +kernel
theorem dL_between_74 : decode cL_between 74 = .ok (.iload_n 1, 1) := by decide +kernel
theorem dL_between_75 : decode cL_between 75 = .ok (.iload_n 3, 1) := by decide +kernel
theorem dL_between_76 : decode cL_between 76 = .ok (.iadd, 1) := by decide +kernel
theorem dL_between_77 : decode cL_between 77 = .ok (.iaload, 1) := by decide +kernel
theorem dL_between_78 : decode cL_between 78 = .ok (.iload 6, 2) := by decide +kernel
theorem dL_between_80 : decode cL_between 80 = .ok (.iload 6, 2) := by decide +kernel
theorem dL_between_82 : decode cL_between 82 = .ok (.iload 5, 2) := by decide +kernel
theorem dL_between_84 : decode cL_between 84 = .ok (.irem, 1) := by decide +kernel
theorem dL_between_85 : decode cL_between 85 = .ok (.isub, 1) := by decide +kernel
theorem dL_between_86 : decode cL_between 86 = .ok (.iload 5, 2) := by decide +kernel
theorem dL_between_88 : decode cL_between 88 = .ok (.idiv, 1) := by decide +kernel
theorem dL_between_89 : decode cL_between 89 = .ok (.iadd, 1) := by decide +kernel
theorem dL_between_90 : decode cL_between 90 = .ok (.sipush 256, 3) := by decide +kernel
theorem dL_between_93 : decode cL_between 93 = .ok (.isub, 1) := by decide +kernel
theorem dL_between_94 : decode cL_between 94 = .ok (.ireturn, 1) := by decide +kernel
set_option maxRecDepth 20000 in
theorem ggL_taken_L_between : GoodIn wsL_taken wsL_between := goodIn_r _ [4, 5, 6, 3, 7] (by decide +kernel) (by decide +kernel)
set_option maxRecDepth 20000 in
theorem gL_taken_L_between : GoodIn wsL_taken (va_wsS RL 15 yL_between wsL_between) := goodIn_app (goodIn_of _ (by decide +kernel)) ggL_taken_L_between
theorem dL_taken_0 : decode cL_taken 0 = .ok (.aload_n 2, 1) := by decide +kernel
theorem dL_taken_1 : decode cL_taken 1 = .ok (.iconst 3, 1) := by decide +kernel
theorem dL_taken_2 : decode cL_taken 2 = .ok (.iload_n 3, 1) := by decide +kernel
theorem dL_taken_3 : decode cL_taken 3 = .ok (.imul, 1) := by decide +kernel
theorem dL_taken_4 : decode cL_taken 4 = .ok (.iload 4, 2) := by decide +kernel
theorem dL_taken_6 : decode cL_taken 6 = .ok (.iadd, 1) := by decide +kernel
theorem dL_taken_7 : decode cL_taken 7 = .ok (.iaload, 1) := by decide +kernel
theorem dL_taken_8 : decode cL_taken 8 = .ok (.istore 6, 2) := by decide +kernel
theorem dL_taken_10 : decode cL_taken 10 = .ok (.aload_n 2, 1) := by decide +kernel
theorem dL_taken_11 : decode cL_taken 11 = .ok (.bipush 9, 2) := by decide +kernel
theorem dL_taken_13 : decode cL_taken 13 = .ok (.iconst 3, 1) := by decide +kernel
theorem dL_taken_14 : decode cL_taken 14 = .ok (.iload_n 3, 1) := by decide +kernel
theorem dL_taken_15 : decode cL_taken 15 = .ok (.imul, 1) := by decide +kernel
theorem dL_taken_16 : decode cL_taken 16 = .ok (.iadd, 1) := by decide +kernel
theorem dL_taken_17 : decode cL_taken 17 = .ok (.iload 4, 2) := by decide +kernel
theorem dL_taken_19 : decode cL_taken 19 = .ok (.iadd, 1) := by decide +kernel
theorem dL_taken_20 : decode cL_taken 20 = .ok (.iaload, 1) := by decide +kernel
theorem dL_taken_21 : decode cL_taken 21 = .ok (.istore 7, 2) := by decide +kernel
theorem dL_taken_23 : decode cL_taken 23 = .ok (.aload_n 1, 1) := by decide +kernel
theorem dL_taken_24 : decode cL_taken 24 = .ok (.bipush 15, 2) := by decide +kernel
theorem dL_taken_26 : decode cL_taken 26 = .ok (.iload_n 3, 1) := by decide +kernel
theorem dL_taken_27 : decode cL_taken 27 = .ok (.imul, 1) := by decide +kernel
theorem dL_taken_28 : decode cL_taken 28 = .ok (.iconst 5, 1) := by decide +kernel
theorem dL_taken_29 : decode cL_taken 29 = .ok (.iload 4, 2) := by decide +kernel
theorem dL_taken_31 : decode cL_taken 31 = .ok (.imul, 1) := by decide +kernel
theorem dL_taken_32 : decode cL_taken 32 = .ok (.iadd, 1) := by decide +kernel
theorem dL_taken_33 : decode cL_taken 33 = .ok (.iload 5, 2) := by decide +kernel
theorem dL_taken_35 : decode cL_taken 35 = .ok (.invokestatic 15, 3) := by decide +kernel
theorem dL_taken_38 : decode cL_taken 38 = .ok (.istore 8, 2) := by decide +kernel
theorem dL_taken_40 : decode cL_taken 40 = .ok (.aload_n 0, 1) := by decide +kernel
theorem dL_taken_41 : decode cL_taken 41 = .ok (.bipush 8, 2) := by decide +kernel
theorem dL_taken_43 : decode cL_taken 43 = .ok (.iload_n 3, 1) := by decide +kernel
theorem dL_taken_44 : decode cL_taken 44 = .ok (.iadd, 1) := by decide +kernel
theorem dL_taken_45 : decode cL_taken 45 = .ok (.iaload, 1) := by decide +kernel
theorem dL_taken_46 : decode cL_taken 46 = .ok (.istore 9, 2) := by decide +kernel
theorem dL_taken_48 : decode cL_taken 48 = .ok (.iload 9, 2) := by decide +kernel
theorem dL_taken_50 : decode cL_taken 50 = .ok (.iconst 1, 1) := by decide +kernel
theorem dL_taken_51 : decode cL_taken 51 = .ok (.if_icmp .ne 32, 3) := by decide +kernel
theorem dL_taken_54 : decode cL_taken 54 = .ok (.iload 6, 2) := by decide +kernel
theorem dL_taken_56 : decode cL_taken 56 = .ok (.iload 8, 2) := by decide +kernel
theorem dL_taken_58 : decode cL_taken 58 = .ok (.iload 7, 2) := by decide +kernel
theorem dL_taken_60 : decode cL_taken 60 = .ok (.iload 6, 2) := by decide +kernel
theorem dL_taken_62 : decode cL_taken 62 = .ok (.isub, 1) := by decide +kernel
theorem dL_taken_63 : decode cL_taken 63 = .ok (.imul, 1) := by decide +kernel
theorem dL_taken_64 : decode cL_taken 64 = .ok (.iload 8, 2) := by decide +kernel
theorem dL_taken_66 : decode cL_taken 66 = .ok (.iload 7, 2) := by decide +kernel
theorem dL_taken_68 : decode cL_taken 68 = .ok (.iload 6, 2) := by decide +kernel
theorem dL_taken_70 : decode cL_taken 70 = .ok (.isub, 1) := by decide +kernel
theorem dL_taken_71 : decode cL_taken 71 = .ok (.imul, 1) := by decide +kernel
theorem dL_taken_72 : decode cL_taken 72 = .ok (.sipush 255, 3) := by decide +kernel
theorem dL_taken_75 : decode cL_taken 75 = .ok (.irem, 1) := by decide +kernel
theorem dL_taken_76 : decode cL_taken 76 = .ok (.isub, 1) := by decide +kernel
theorem dL_taken_77 : decode cL_taken 77 = .ok (.sipush 255, 3) := by decide +kernel
theorem dL_taken_80 : decode cL_taken 80 = .ok (.idiv, 1) := by decide +kernel
theorem dL_taken_81 : decode cL_taken 81 = .ok (.iadd, 1) := by decide +kernel
theorem dL_taken_82 : decode cL_taken 82 = .ok (.ireturn, 1) := by decide +kernel
theorem dL_taken_83 : decode cL_taken 83 = .ok (.iload 9, 2) := by decide +kernel
theorem dL_taken_85 : decode cL_taken 85 = .ok (.ifCond .ne 8, 3) := by decide +kernel
theorem dL_taken_88 : decode cL_taken 88 = .ok (.iload 8, 2) := by decide +kernel
theorem dL_taken_90 : decode cL_taken 90 = .ok (.goto 41, 3) := by decide +kernel
theorem dL_taken_93 : decode cL_taken 93 = .ok (.iload 8, 2) := by decide +kernel
theorem dL_taken_95 : decode cL_taken 95 = .ok (.iload 7, 2) := by decide +kernel
theorem dL_taken_97 : decode cL_taken 97 = .ok (.if_icmp .le 14, 3) := by decide +kernel
theorem dL_taken_100 : decode cL_taken 100 = .ok (.iload 7, 2) := by decide +kernel
theorem dL_taken_102 : decode cL_taken 102 = .ok (.iload 8, 2) := by decide +kernel
theorem dL_taken_104 : decode cL_taken 104 = .ok (.iload 7, 2) := by decide +kernel
theorem dL_taken_106 : decode cL_taken 106 = .ok (.isub, 1) := by decide +kernel
theorem dL_taken_107 : decode cL_taken 107 = .ok (.isub, 1) := by decide +kernel
theorem dL_taken_108 : decode cL_taken 108 = .ok (.goto 23, 3) := by decide +kernel
theorem dL_taken_111 : decode cL_taken 111 = .ok (.iload 8, 2) := by decide +kernel
theorem dL_taken_113 : decode cL_taken 113 = .ok (.iload 6, 2) := by decide +kernel
theorem dL_taken_115 : decode cL_taken 115 = .ok (.if_icmp .ge 14, 3) := by decide +kernel
theorem dL_taken_118 : decode cL_taken 118 = .ok (.iload 6, 2) := by decide +kernel
theorem dL_taken_120 : decode cL_taken 120 = .ok (.iload 6, 2) := by decide +kernel
theorem dL_taken_122 : decode cL_taken 122 = .ok (.iload 8, 2) := by decide +kernel
theorem dL_taken_124 : decode cL_taken 124 = .ok (.isub, 1) := by decide +kernel
theorem dL_taken_125 : decode cL_taken 125 = .ok (.iadd, 1) := by decide +kernel
theorem dL_taken_126 : decode cL_taken 126 = .ok (.goto 5, 3) := by decide +kernel
theorem dL_taken_129 : decode cL_taken 129 = .ok (.iload 8, 2) := by decide +kernel
theorem dL_taken_131 : decode cL_taken 131 = .ok (.istore 10, 2) := by decide +kernel
theorem dL_taken_133 : decode cL_taken 133 = .ok (.iload 10, 2) := by decide +kernel
theorem dL_taken_135 : decode cL_taken 135 = .ok (.iload 6, 2) := by decide +kernel
theorem dL_taken_137 : decode cL_taken 137 = .ok (.if_icmp .ge 8, 3) := by decide +kernel
theorem dL_taken_140 : decode cL_taken 140 = .ok (.iload 6, 2) := by decide +kernel
theorem dL_taken_142 : decode cL_taken 142 = .ok (.goto 17, 3) := by decide +kernel
theorem dL_taken_145 : decode cL_taken 145 = .ok (.iload 10, 2) := by decide +kernel
theorem dL_taken_147 : decode cL_taken 147 = .ok (.iload 7, 2) := by decide +kernel
theorem dL_taken_149 : decode cL_taken 149 = .ok (.if_icmp .le 8, 3) := by decide +kernel
theorem dL_taken_152 : decode cL_taken 152 = .ok (.iload 7, 2) := by decide +kernel
theorem dL_taken_154 : decode cL_taken 154 = .ok (.goto 5, 3) := by decide +kernel
theorem dL_taken_157 : decode cL_taken 157 = .ok (.iload 10, 2) := by decide +kernel
theorem dL_taken_159 : decode cL_taken 159 = .ok (.ireturn, 1) := by decide +kernel
set_option maxRecDepth 20000 in
theorem ggL_through_L_taken : GoodIn wsL_through wsL_taken := goodIn_r _ [4, 5, 6, 3, 7, 8, 9, 10] (by decide +kernel) (by decide +kernel)
set_option maxRecDepth 20000 in
theorem gL_through_L_taken : GoodIn wsL_through (va_wsS RL 19 yL_taken wsL_taken) := goodIn_app (goodIn_of _ (by decide +kernel)) ggL_through_L_taken
theorem dL_through_0 : decode cL_through 0 = .ok (.iload 6, 2) := by decide +kernel
theorem dL_through_2 : decode cL_through 2 = .ok (.istore 7, 2) := by decide +kernel
theorem dL_through_4 : decode cL_through 4 = .ok (.iconst 0, 1) := by decide +kernel
theorem dL_through_5 : decode cL_through 5 = .ok (.istore 8, 2) := by decide +kernel
theorem dL_through_7 : decode cL_through 7 = .ok (.iload 8, 2) := by decide +kernel
theorem dL_through_9 : decode cL_through 9 = .ok (.aload_n 0, 1) := by decide +kernel
theorem dL_through_10 : decode cL_through 10 = .ok (.iconst 2, 1) := by decide +kernel
theorem dL_through_11 : decode cL_through 11 = .ok (.iload 4, 2) := by decide +kernel
theorem dL_through_13 : decode cL_through 13 = .ok (.iadd, 1) := by decide +kernel
theorem dL_through_14 : decode cL_through 14 = .ok (.iaload, 1) := by decide +kernel
theorem dL_through_15 : decode cL_through 15 = .ok (.if_icmp .ge 31, 3) := by decide +kernel
theorem dL_through_18 : decode cL_through 18 = .ok (.aload_n 0, 1) := by decide +kernel
theorem dL_through_19 : decode cL_through 19 = .ok (.aload_n 1, 1) := by decide +kernel
theorem dL_through_20 : decode cL_through 20 = .ok (.aload_n 2, 1) := by decide +kernel
theorem dL_through_21 : decode cL_through 21 = .ok (.aload_n 3, 1) := by decide +kernel
theorem dL_through_22 : decode cL_through 22 = .ok (.bipush 6, 2) := by decide +kernel
theorem dL_through_24 : decode cL_through 24 = .ok (.iload 4, 2) := by decide +kernel
theorem dL_through_26 : decode cL_through 26 = .ok (.imul, 1) := by decide +kernel
theorem dL_through_27 : decode cL_through 27 = .ok (.iload 8, 2) := by decide +kernel
theorem dL_through_29 : decode cL_through 29 = .ok (.iadd, 1) := by decide +kernel
theorem dL_through_30 : decode cL_through 30 = .ok (.iaload, 1) := by decide +kernel
theorem dL_through_31 : decode cL_through 31 = .ok (.iload 5, 2) := by decide +kernel
theorem dL_through_33 : decode cL_through 33 = .ok (.iload 7, 2) := by decide +kernel
theorem dL_through_35 : decode cL_through 35 = .ok (.invokestatic 19, 3) := by decide +kernel
theorem dL_through_38 : decode cL_through 38 = .ok (.istore 7, 2) := by decide +kernel
theorem dL_through_40 : decode cL_through 40 = .ok (.iinc 8 1, 3) := by decide +kernel
theorem dL_through_43 : decode cL_through 43 = .ok (.goto (-36), 3) := by decide +kernel
theorem dL_through_46 : decode cL_through 46 = .ok (.iload 7, 2) := by decide +kernel
theorem dL_through_48 : decode cL_through 48 = .ok (.ireturn, 1) := by decide +kernel
theorem dL_apart_0 : decode cL_apart 0 = .ok (.iload_n 0, 1) := by decide +kernel
theorem dL_apart_1 : decode cL_apart 1 = .ok (.iload_n 1, 1) := by decide +kernel
theorem dL_apart_2 : decode cL_apart 2 = .ok (.if_icmp .ge 9, 3) := by decide +kernel
theorem dL_apart_5 : decode cL_apart 5 = .ok (.iload_n 1, 1) := by decide +kernel
theorem dL_apart_6 : decode cL_apart 6 = .ok (.iload_n 0, 1) := by decide +kernel
theorem dL_apart_7 : decode cL_apart 7 = .ok (.isub, 1) := by decide +kernel
theorem dL_apart_8 : decode cL_apart 8 = .ok (.goto 6, 3) := by decide +kernel
theorem dL_apart_11 : decode cL_apart 11 = .ok (.iload_n 0, 1) := by decide +kernel
theorem dL_apart_12 : decode cL_apart 12 = .ok (.iload_n 1, 1) := by decide +kernel
theorem dL_apart_13 : decode cL_apart 13 = .ok (.isub, 1) := by decide +kernel
theorem dL_apart_14 : decode cL_apart 14 = .ok (.ireturn, 1) := by decide +kernel
set_option maxRecDepth 20000 in
theorem ggL_gap_L_at : GoodIn wsL_gap wsL_at := goodIn_r _ [5] (by decide +kernel) (by decide +kernel)
set_option maxRecDepth 20000 in
theorem gL_gap_L_at : GoodIn wsL_gap (va_wsS RL 9 yL_at wsL_at) := goodIn_app (goodIn_of _ (by decide +kernel)) ggL_gap_L_at
set_option maxRecDepth 20000 in
theorem ggL_gap_L_through : GoodIn wsL_gap wsL_through := goodIn_r _ [8, 9, 10, 4, 11, 12, 13, 14, 2, 3, 5] (by decide +kernel) (by decide +kernel)
set_option maxRecDepth 20000 in
theorem gL_gap_L_through : GoodIn wsL_gap (va_wsS RL 23 yL_through wsL_through) := goodIn_app (goodIn_of _ (by decide +kernel)) ggL_gap_L_through
set_option maxRecDepth 20000 in
theorem ggL_gap_L_between : GoodIn wsL_gap wsL_between := goodIn_r _ [14, 2, 3, 4, 5] (by decide +kernel) (by decide +kernel)
set_option maxRecDepth 20000 in
theorem gL_gap_L_between : GoodIn wsL_gap (va_wsS RL 15 yL_between wsL_between) := goodIn_app (goodIn_of _ (by decide +kernel)) ggL_gap_L_between
set_option maxRecDepth 20000 in
theorem ggL_gap_L_apart : GoodIn wsL_gap wsL_apart := goodIn_r _ [17] (by decide +kernel) (by decide +kernel)
set_option maxRecDepth 20000 in
theorem gL_gap_L_apart : GoodIn wsL_gap (va_wsS RL 27 yL_apart wsL_apart) := goodIn_app (goodIn_of _ (by decide +kernel)) ggL_gap_L_apart
theorem dL_gap_0 : decode cL_gap 0 = .ok (.iconst 0, 1) := by decide +kernel
theorem dL_gap_1 : decode cL_gap 1 = .ok (.istore 5, 2) := by decide +kernel
theorem dL_gap_3 : decode cL_gap 3 = .ok (.iconst 5, 1) := by decide +kernel
theorem dL_gap_4 : decode cL_gap 4 = .ok (.newarray .int, 2) := by decide +kernel
theorem dL_gap_6 : decode cL_gap 6 = .ok (.astore 6, 2) := by decide +kernel
theorem dL_gap_8 : decode cL_gap 8 = .ok (.iconst 0, 1) := by decide +kernel
theorem dL_gap_9 : decode cL_gap 9 = .ok (.istore 7, 2) := by decide +kernel
theorem dL_gap_11 : decode cL_gap 11 = .ok (.iload 7, 2) := by decide +kernel
theorem dL_gap_13 : decode cL_gap 13 = .ok (.iconst 3, 1) := by decide +kernel
theorem dL_gap_14 : decode cL_gap 14 = .ok (.if_icmp .ge 104, 3) := by decide +kernel
theorem dL_gap_17 : decode cL_gap 17 = .ok (.iconst 0, 1) := by decide +kernel
theorem dL_gap_18 : decode cL_gap 18 = .ok (.istore 8, 2) := by decide +kernel
theorem dL_gap_20 : decode cL_gap 20 = .ok (.iload 8, 2) := by decide +kernel
theorem dL_gap_22 : decode cL_gap 22 = .ok (.iconst 5, 1) := by decide +kernel
theorem dL_gap_23 : decode cL_gap 23 = .ok (.if_icmp .ge 30, 3) := by decide +kernel
theorem dL_gap_26 : decode cL_gap 26 = .ok (.aload 6, 2) := by decide +kernel
theorem dL_gap_28 : decode cL_gap 28 = .ok (.iload 8, 2) := by decide +kernel
theorem dL_gap_30 : decode cL_gap 30 = .ok (.aload_n 0, 1) := by decide +kernel
theorem dL_gap_31 : decode cL_gap 31 = .ok (.aload_n 1, 1) := by decide +kernel
theorem dL_gap_32 : decode cL_gap 32 = .ok (.aload_n 2, 1) := by decide +kernel
theorem dL_gap_33 : decode cL_gap 33 = .ok (.aload_n 3, 1) := by decide +kernel
theorem dL_gap_34 : decode cL_gap 34 = .ok (.iload 4, 2) := by decide +kernel
theorem dL_gap_36 : decode cL_gap 36 = .ok (.iload 7, 2) := by decide +kernel
theorem dL_gap_38 : decode cL_gap 38 = .ok (.iload 8, 2) := by decide +kernel
theorem dL_gap_40 : decode cL_gap 40 = .ok (.invokestatic 9, 3) := by decide +kernel
theorem dL_gap_43 : decode cL_gap 43 = .ok (.invokestatic 23, 3) := by decide +kernel
theorem dL_gap_46 : decode cL_gap 46 = .ok (.iastore, 1) := by decide +kernel
theorem dL_gap_47 : decode cL_gap 47 = .ok (.iinc 8 1, 3) := by decide +kernel
theorem dL_gap_50 : decode cL_gap 50 = .ok (.goto (-30), 3) := by decide +kernel
theorem dL_gap_53 : decode cL_gap 53 = .ok (.iconst 0, 1) := by decide +kernel
theorem dL_gap_54 : decode cL_gap 54 = .ok (.istore 8, 2) := by decide +kernel
theorem dL_gap_56 : decode cL_gap 56 = .ok (.iload 8, 2) := by decide +kernel
theorem dL_gap_58 : decode cL_gap 58 = .ok (.sipush 256, 3) := by decide +kernel
theorem dL_gap_61 : decode cL_gap 61 = .ok (.if_icmp .ge 51, 3) := by decide +kernel
theorem dL_gap_64 : decode cL_gap 64 = .ok (.aload_n 0, 1) := by decide +kernel
theorem dL_gap_65 : decode cL_gap 65 = .ok (.aload_n 1, 1) := by decide +kernel
theorem dL_gap_66 : decode cL_gap 66 = .ok (.aload_n 2, 1) := by decide +kernel
theorem dL_gap_67 : decode cL_gap 67 = .ok (.aload_n 3, 1) := by decide +kernel
theorem dL_gap_68 : decode cL_gap 68 = .ok (.iload 4, 2) := by decide +kernel
theorem dL_gap_70 : decode cL_gap 70 = .ok (.iload 7, 2) := by decide +kernel
theorem dL_gap_72 : decode cL_gap 72 = .ok (.iload 8, 2) := by decide +kernel
theorem dL_gap_74 : decode cL_gap 74 = .ok (.invokestatic 23, 3) := by decide +kernel
theorem dL_gap_77 : decode cL_gap 77 = .ok (.aload 6, 2) := by decide +kernel
theorem dL_gap_79 : decode cL_gap 79 = .ok (.iconst 0, 1) := by decide +kernel
theorem dL_gap_80 : decode cL_gap 80 = .ok (.iload 8, 2) := by decide +kernel
theorem dL_gap_82 : decode cL_gap 82 = .ok (.invokestatic 15, 3) := by decide +kernel
theorem dL_gap_85 : decode cL_gap 85 = .ok (.invokestatic 27, 3) := by decide +kernel
theorem dL_gap_88 : decode cL_gap 88 = .ok (.istore 9, 2) := by decide +kernel
theorem dL_gap_90 : decode cL_gap 90 = .ok (.iload 9, 2) := by decide +kernel
theorem dL_gap_92 : decode cL_gap 92 = .ok (.iload 5, 2) := by decide +kernel
theorem dL_gap_94 : decode cL_gap 94 = .ok (.if_icmp .le 8, 3) := by decide +kernel
theorem dL_gap_97 : decode cL_gap 97 = .ok (.iload 9, 2) := by decide +kernel
theorem dL_gap_99 : decode cL_gap 99 = .ok (.goto 5, 3) := by decide +kernel
theorem dL_gap_102 : decode cL_gap 102 = .ok (.iload 5, 2) := by decide +kernel
theorem dL_gap_104 : decode cL_gap 104 = .ok (.istore 5, 2) := by decide +kernel
theorem dL_gap_106 : decode cL_gap 106 = .ok (.iinc 8 1, 3) := by decide +kernel
theorem dL_gap_109 : decode cL_gap 109 = .ok (.goto (-53), 3) := by decide +kernel
theorem dL_gap_112 : decode cL_gap 112 = .ok (.iinc 7 1, 3) := by decide +kernel
theorem dL_gap_115 : decode cL_gap 115 = .ok (.goto (-104), 3) := by decide +kernel
theorem dL_gap_118 : decode cL_gap 118 = .ok (.iload 5, 2) := by decide +kernel
theorem dL_gap_120 : decode cL_gap 120 = .ok (.ireturn, 1) := by decide +kernel
set_option maxRecDepth 20000 in
theorem ggL_greys_L_through : GoodIn wsL_greys wsL_through := goodIn_r _ [4, 5, 6, 3, 7, 8, 9, 10, 11, 12, 13] (by decide +kernel) (by decide +kernel)
set_option maxRecDepth 20000 in
theorem gL_greys_L_through : GoodIn wsL_greys (va_wsS RL 23 yL_through wsL_through) := goodIn_app (goodIn_of _ (by decide +kernel)) ggL_greys_L_through
theorem dL_greys_0 : decode cL_greys 0 = .ok (.iconst 0, 1) := by decide +kernel
theorem dL_greys_1 : decode cL_greys 1 = .ok (.istore 5, 2) := by decide +kernel
theorem dL_greys_3 : decode cL_greys 3 = .ok (.iconst 0, 1) := by decide +kernel
theorem dL_greys_4 : decode cL_greys 4 = .ok (.istore 6, 2) := by decide +kernel
theorem dL_greys_6 : decode cL_greys 6 = .ok (.iload 6, 2) := by decide +kernel
theorem dL_greys_8 : decode cL_greys 8 = .ok (.sipush 256, 3) := by decide +kernel
theorem dL_greys_11 : decode cL_greys 11 = .ok (.if_icmp .ge 101, 3) := by decide +kernel
theorem dL_greys_14 : decode cL_greys 14 = .ok (.sipush 256, 3) := by decide +kernel
theorem dL_greys_17 : decode cL_greys 17 = .ok (.istore 7, 2) := by decide +kernel
theorem dL_greys_19 : decode cL_greys 19 = .ok (.iconst (-1), 1) := by decide +kernel
theorem dL_greys_20 : decode cL_greys 20 = .ok (.istore 8, 2) := by decide +kernel
theorem dL_greys_22 : decode cL_greys 22 = .ok (.iconst 0, 1) := by decide +kernel
theorem dL_greys_23 : decode cL_greys 23 = .ok (.istore 9, 2) := by decide +kernel
theorem dL_greys_25 : decode cL_greys 25 = .ok (.iload 9, 2) := by decide +kernel
theorem dL_greys_27 : decode cL_greys 27 = .ok (.iconst 3, 1) := by decide +kernel
theorem dL_greys_28 : decode cL_greys 28 = .ok (.if_icmp .ge 56, 3) := by decide +kernel
theorem dL_greys_31 : decode cL_greys 31 = .ok (.aload_n 0, 1) := by decide +kernel
theorem dL_greys_32 : decode cL_greys 32 = .ok (.aload_n 1, 1) := by decide +kernel
theorem dL_greys_33 : decode cL_greys 33 = .ok (.aload_n 2, 1) := by decide +kernel
theorem dL_greys_34 : decode cL_greys 34 = .ok (.aload_n 3, 1) := by decide +kernel
theorem dL_greys_35 : decode cL_greys 35 = .ok (.iload 4, 2) := by decide +kernel
theorem dL_greys_37 : decode cL_greys 37 = .ok (.iload 9, 2) := by decide +kernel
theorem dL_greys_39 : decode cL_greys 39 = .ok (.iload 6, 2) := by decide +kernel
theorem dL_greys_41 : decode cL_greys 41 = .ok (.invokestatic 23, 3) := by decide +kernel
theorem dL_greys_44 : decode cL_greys 44 = .ok (.istore 10, 2) := by decide +kernel
theorem dL_greys_46 : decode cL_greys 46 = .ok (.iload 10, 2) := by decide +kernel
theorem dL_greys_48 : decode cL_greys 48 = .ok (.iload 7, 2) := by decide +kernel
theorem dL_greys_50 : decode cL_greys 50 = .ok (.if_icmp .ge 8, 3) := by decide +kernel
theorem dL_greys_53 : decode cL_greys 53 = .ok (.iload 10, 2) := by decide +kernel
theorem dL_greys_55 : decode cL_greys 55 = .ok (.goto 5, 3) := by decide +kernel
theorem dL_greys_58 : decode cL_greys 58 = .ok (.iload 7, 2) := by decide +kernel
theorem dL_greys_60 : decode cL_greys 60 = .ok (.istore 7, 2) := by decide +kernel
theorem dL_greys_62 : decode cL_greys 62 = .ok (.iload 10, 2) := by decide +kernel
theorem dL_greys_64 : decode cL_greys 64 = .ok (.iload 8, 2) := by decide +kernel
theorem dL_greys_66 : decode cL_greys 66 = .ok (.if_icmp .le 8, 3) := by decide +kernel
theorem dL_greys_69 : decode cL_greys 69 = .ok (.iload 10, 2) := by decide +kernel
theorem dL_greys_71 : decode cL_greys 71 = .ok (.goto 5, 3) := by decide +kernel
theorem dL_greys_74 : decode cL_greys 74 = .ok (.iload 8, 2) := by decide +kernel
theorem dL_greys_76 : decode cL_greys 76 = .ok (.istore 8, 2) := by decide +kernel
theorem dL_greys_78 : decode cL_greys 78 = .ok (.iinc 9 1, 3) := by decide +kernel
theorem dL_greys_81 : decode cL_greys 81 = .ok (.goto (-56), 3) := by decide +kernel
theorem dL_greys_84 : decode cL_greys 84 = .ok (.iload 8, 2) := by decide +kernel
theorem dL_greys_86 : decode cL_greys 86 = .ok (.iload 7, 2) := by decide +kernel
theorem dL_greys_88 : decode cL_greys 88 = .ok (.isub, 1) := by decide +kernel
theorem dL_greys_89 : decode cL_greys 89 = .ok (.iload 5, 2) := by decide +kernel
theorem dL_greys_91 : decode cL_greys 91 = .ok (.if_icmp .le 11, 3) := by decide +kernel
theorem dL_greys_94 : decode cL_greys 94 = .ok (.iload 8, 2) := by decide +kernel
theorem dL_greys_96 : decode cL_greys 96 = .ok (.iload 7, 2) := by decide +kernel
theorem dL_greys_98 : decode cL_greys 98 = .ok (.isub, 1) := by decide +kernel
theorem dL_greys_99 : decode cL_greys 99 = .ok (.goto 5, 3) := by decide +kernel
theorem dL_greys_102 : decode cL_greys 102 = .ok (.iload 5, 2) := by decide +kernel
theorem dL_greys_104 : decode cL_greys 104 = .ok (.istore 5, 2) := by decide +kernel
theorem dL_greys_106 : decode cL_greys 106 = .ok (.iinc 6 1, 3) := by decide +kernel
theorem dL_greys_109 : decode cL_greys 109 = .ok (.goto (-103), 3) := by decide +kernel
theorem dL_greys_112 : decode cL_greys 112 = .ok (.iload 5, 2) := by decide +kernel
theorem dL_greys_114 : decode cL_greys 114 = .ok (.ireturn, 1) := by decide +kernel
theorem dL_held_0 : decode cL_held 0 = .ok (.iconst 0, 1) := by decide +kernel
theorem dL_held_1 : decode cL_held 1 = .ok (.istore_n 2, 1) := by decide +kernel
theorem dL_held_2 : decode cL_held 2 = .ok (.iconst 0, 1) := by decide +kernel
theorem dL_held_3 : decode cL_held 3 = .ok (.istore_n 3, 1) := by decide +kernel
theorem dL_held_4 : decode cL_held 4 = .ok (.iload_n 3, 1) := by decide +kernel
theorem dL_held_5 : decode cL_held 5 = .ok (.bipush 12, 2) := by decide +kernel
theorem dL_held_7 : decode cL_held 7 = .ok (.if_icmp .ge 49, 3) := by decide +kernel
theorem dL_held_10 : decode cL_held 10 = .ok (.iload_n 2, 1) := by decide +kernel
theorem dL_held_11 : decode cL_held 11 = .ok (.aload_n 0, 1) := by decide +kernel
theorem dL_held_12 : decode cL_held 12 = .ok (.bipush 6, 2) := by decide +kernel
theorem dL_held_14 : decode cL_held 14 = .ok (.iload_n 3, 1) := by decide +kernel
theorem dL_held_15 : decode cL_held 15 = .ok (.bipush 6, 2) := by decide +kernel
theorem dL_held_17 : decode cL_held 17 = .ok (.idiv, 1) := by decide +kernel
theorem dL_held_18 : decode cL_held 18 = .ok (.iadd, 1) := by decide +kernel
theorem dL_held_19 : decode cL_held 19 = .ok (.iaload, 1) := by decide +kernel
theorem dL_held_20 : decode cL_held 20 = .ok (.iconst 1, 1) := by decide +kernel
theorem dL_held_21 : decode cL_held 21 = .ok (.if_icmp .ne 26, 3) := by decide +kernel
theorem dL_held_24 : decode cL_held 24 = .ok (.iload_n 3, 1) := by decide +kernel
theorem dL_held_25 : decode cL_held 25 = .ok (.bipush 6, 2) := by decide +kernel
theorem dL_held_27 : decode cL_held 27 = .ok (.irem, 1) := by decide +kernel
theorem dL_held_28 : decode cL_held 28 = .ok (.aload_n 0, 1) := by decide +kernel
theorem dL_held_29 : decode cL_held 29 = .ok (.iconst 2, 1) := by decide +kernel
theorem dL_held_30 : decode cL_held 30 = .ok (.iload_n 3, 1) := by decide +kernel
theorem dL_held_31 : decode cL_held 31 = .ok (.bipush 6, 2) := by decide +kernel
theorem dL_held_33 : decode cL_held 33 = .ok (.idiv, 1) := by decide +kernel
theorem dL_held_34 : decode cL_held 34 = .ok (.iadd, 1) := by decide +kernel
theorem dL_held_35 : decode cL_held 35 = .ok (.iaload, 1) := by decide +kernel
theorem dL_held_36 : decode cL_held 36 = .ok (.if_icmp .ge 11, 3) := by decide +kernel
theorem dL_held_39 : decode cL_held 39 = .ok (.iconst 1, 1) := by decide +kernel
theorem dL_held_40 : decode cL_held 40 = .ok (.aload_n 1, 1) := by decide +kernel
theorem dL_held_41 : decode cL_held 41 = .ok (.iload_n 3, 1) := by decide +kernel
theorem dL_held_42 : decode cL_held 42 = .ok (.iaload, 1) := by decide +kernel
theorem dL_held_43 : decode cL_held 43 = .ok (.ishl, 1) := by decide +kernel
theorem dL_held_44 : decode cL_held 44 = .ok (.goto 4, 3) := by decide +kernel
theorem dL_held_47 : decode cL_held 47 = .ok (.iconst 0, 1) := by decide +kernel
theorem dL_held_48 : decode cL_held 48 = .ok (.ior, 1) := by decide +kernel
theorem dL_held_49 : decode cL_held 49 = .ok (.istore_n 2, 1) := by decide +kernel
theorem dL_held_50 : decode cL_held 50 = .ok (.iinc 3 1, 3) := by decide +kernel
theorem dL_held_53 : decode cL_held 53 = .ok (.goto (-49), 3) := by decide +kernel
theorem dL_held_56 : decode cL_held 56 = .ok (.iload_n 2, 1) := by decide +kernel
theorem dL_held_57 : decode cL_held 57 = .ok (.ireturn, 1) := by decide +kernel
set_option maxRecDepth 20000 in
theorem ggL_bends_X0_bend : GoodIn wsL_bends wsX0_bend := goodIn_ca (goodIn_ca (goodIn_ca (goodIn_r _ [8, 9, 10, 11, 12, 13, 14, 7, 15, 16, 17, 18, 19, 20, 21, 22, 23, 24, 25, 26, 27, 28, 29, 30, 31, 32, 33, 34, 35, 36, 37, 38, 39, 40, 41, 42, 43, 44, 45, 46, 47, 48, 49, 50, 51, 52, 53, 54, 55, 56, 57, 58, 59, 60, 61, 62, 63, 64, 65] (by decide +kernel) (by decide +kernel)) (goodIn_sub (fun _ h => List.mem_cons_of_mem _ (List.mem_append_left _ (List.mem_append_left _ (List.mem_append_right _ h)))) (by decide +kernel))) (goodIn_sub (fun _ h => List.mem_cons_of_mem _ (List.mem_append_left _ (List.mem_append_right _ h))) (by decide +kernel))) (goodIn_sub (fun _ h => List.mem_cons_of_mem _ (List.mem_append_right _ h)) (by decide +kernel))
set_option maxRecDepth 20000 in
theorem gL_bends_X0_bend : GoodIn wsL_bends (wsV RL 31 RX0 yX0_bend wsX0_bend) := goodIn_app (goodIn_of _ (by decide +kernel)) ggL_bends_X0_bend
theorem dL_bends_0 : decode cL_bends 0 = .ok (.aload_n 0, 1) := by decide +kernel
theorem dL_bends_1 : decode cL_bends 1 = .ok (.iload_n 1, 1) := by decide +kernel
theorem dL_bends_2 : decode cL_bends 2 = .ok (.iload_n 2, 1) := by decide +kernel
theorem dL_bends_3 : decode cL_bends 3 = .ok (.iload_n 3, 1) := by decide +kernel
theorem dL_bends_4 : decode cL_bends 4 = .ok (.iload 4, 2) := by decide +kernel
theorem dL_bends_6 : decode cL_bends 6 = .ok (.invokevirtual 31, 3) := by decide +kernel
theorem dL_bends_9 : decode cL_bends 9 = .ok (.ireturn, 1) := by decide +kernel
theorem dL_bends_10 : decode cL_bends 10 = .ok (.astore 5, 2) := by decide +kernel
theorem dL_bends_12 : decode cL_bends 12 = .ok (.bipush (-101), 2) := by decide +kernel
theorem dL_bends_14 : decode cL_bends 14 = .ok (.ireturn, 1) := by decide +kernel
theorem dL_bends_15 : decode cL_bends 15 = .ok (.astore 5, 2) := by decide +kernel
theorem dL_bends_17 : decode cL_bends 17 = .ok (.bipush (-102), 2) := by decide +kernel
theorem dL_bends_19 : decode cL_bends 19 = .ok (.ireturn, 1) := by decide +kernel
end
section
theorem dL_bends_20 : decode cL_bends 20 = .ok (.astore 5, 2) := by decide +kernel
theorem dL_bends_22 : decode cL_bends 22 = .ok (.bipush (-103), 2) := by decide +kernel
theorem dL_bends_24 : decode cL_bends 24 = .ok (.ireturn, 1) := by decide +kernel
set_option maxRecDepth 20000 in
theorem ggL_reaches_X0_reach : GoodIn wsL_reaches wsX0_reach := goodIn_ca (goodIn_ca (goodIn_ca (goodIn_r _ [8, 9, 10, 11, 12, 13, 14, 15, 7, 16, 17, 18, 19, 20, 21, 22, 23, 24, 25, 26, 27, 28, 29, 30, 31, 32, 33, 34, 35, 36, 37, 38, 39, 40, 41, 42, 43, 44, 45, 46, 47, 48, 49, 50, 51, 52, 53, 54, 55, 56, 57, 58, 59, 60, 61, 62, 63, 64, 65, 66] (by decide +kernel) (by decide +kernel)) (goodIn_sub (fun _ h => List.mem_cons_of_mem _ (List.mem_append_left _ (List.mem_append_left _ (List.mem_append_right _ h)))) (by decide +kernel))) (goodIn_sub (fun _ h => List.mem_cons_of_mem _ (List.mem_append_left _ (List.mem_append_right _ h))) (by decide +kernel))) (goodIn_sub (fun _ h => List.mem_cons_of_mem _ (List.mem_append_right _ h)) (by decide +kernel))
set_option maxRecDepth 20000 in
theorem gL_reaches_X0_reach : GoodIn wsL_reaches (wsV RL 43 RX0 yX0_reach wsX0_reach) := goodIn_app (goodIn_of _ (by decide +kernel)) ggL_reaches_X0_reach
theorem dL_reaches_0 : decode cL_reaches 0 = .ok (.aload_n 0, 1) := by decide +kernel
theorem dL_reaches_1 : decode cL_reaches 1 = .ok (.iload_n 1, 1) := by decide +kernel
theorem dL_reaches_2 : decode cL_reaches 2 = .ok (.iload_n 2, 1) := by decide +kernel
theorem dL_reaches_3 : decode cL_reaches 3 = .ok (.iload_n 3, 1) := by decide +kernel
theorem dL_reaches_4 : decode cL_reaches 4 = .ok (.iload 4, 2) := by decide +kernel
theorem dL_reaches_6 : decode cL_reaches 6 = .ok (.invokevirtual 43, 3) := by decide +kernel
theorem dL_reaches_9 : decode cL_reaches 9 = .ok (.ireturn, 1) := by decide +kernel
theorem dL_reaches_10 : decode cL_reaches 10 = .ok (.astore 5, 2) := by decide +kernel
theorem dL_reaches_12 : decode cL_reaches 12 = .ok (.bipush (-101), 2) := by decide +kernel
theorem dL_reaches_14 : decode cL_reaches 14 = .ok (.ireturn, 1) := by decide +kernel
theorem dL_reaches_15 : decode cL_reaches 15 = .ok (.astore 5, 2) := by decide +kernel
theorem dL_reaches_17 : decode cL_reaches 17 = .ok (.bipush (-102), 2) := by decide +kernel
theorem dL_reaches_19 : decode cL_reaches 19 = .ok (.ireturn, 1) := by decide +kernel
theorem dL_reaches_20 : decode cL_reaches 20 = .ok (.astore 5, 2) := by decide +kernel
theorem dL_reaches_22 : decode cL_reaches 22 = .ok (.bipush (-103), 2) := by decide +kernel
theorem dL_reaches_24 : decode cL_reaches 24 = .ok (.ireturn, 1) := by decide +kernel
set_option maxRecDepth 20000 in
theorem ggL_sets_X0_way : GoodIn wsL_sets wsX0_way := goodIn_ca (goodIn_ca (goodIn_ca (goodIn_r _ [8, 9, 10, 11, 12, 13, 14, 7, 15, 16, 17, 18, 19, 20, 21, 22, 23, 24, 25, 26, 27, 28, 29, 30, 31, 32, 33, 34, 35, 36, 37, 38, 39, 40, 41, 42, 43, 44, 110, 111, 112, 113, 114, 115, 116, 117, 118, 119, 120, 121, 122, 123, 124] (by decide +kernel) (by decide +kernel)) (goodIn_sub (fun _ h => List.mem_cons_of_mem _ (List.mem_append_left _ (List.mem_append_left _ (List.mem_append_right _ h)))) (by decide +kernel))) (goodIn_sub (fun _ h => List.mem_cons_of_mem _ (List.mem_append_left _ (List.mem_append_right _ h))) (by decide +kernel))) (goodIn_sub (fun _ h => List.mem_cons_of_mem _ (List.mem_append_right _ h)) (by decide +kernel))
set_option maxRecDepth 20000 in
theorem gL_sets_X0_way : GoodIn wsL_sets (wsV RL 46 RX0 yX0_way wsX0_way) := goodIn_app (goodIn_of _ (by decide +kernel)) ggL_sets_X0_way
set_option maxRecDepth 20000 in
theorem ggL_sets_X0_add : GoodIn wsL_sets wsX0_add := goodIn_ca (goodIn_ca (goodIn_r _ [48, 23, 24, 37, 38, 49, 50, 51, 7, 52, 16, 17, 53, 12, 13, 14, 15, 18, 54, 55, 56, 57, 29, 30, 31, 32, 39, 40, 41, 42, 43, 44, 110, 111, 112, 113, 114, 115, 116, 117, 118, 119, 120, 121, 122, 123, 124] (by decide +kernel) (by decide +kernel)) (goodIn_sub (fun _ h => List.mem_cons_of_mem _ (List.mem_append_right _ h)) (by decide +kernel))) (goodIn_sub (fun _ h => List.mem_cons_of_mem _ (List.mem_append_left _ (List.mem_append_right _ h))) (by decide +kernel))
set_option maxRecDepth 20000 in
theorem gL_sets_X0_add : GoodIn wsL_sets (wsV RL 49 RX0 yX0_add wsX0_add) := goodIn_app (goodIn_of _ (by decide +kernel)) ggL_sets_X0_add
set_option maxRecDepth 20000 in
theorem ggL_sets_X0_join : GoodIn wsL_sets wsX0_join := goodIn_ca (goodIn_ca (goodIn_ca (goodIn_r _ [61, 23, 24, 62, 63, 64, 49, 50, 51, 7, 52, 16, 17, 53, 65, 66, 67, 9, 10, 68, 69, 70, 71, 72, 73, 74, 75, 76, 77, 78, 79, 80, 81, 82, 83, 84, 85, 86, 87, 88, 37, 38, 39, 40, 41, 89, 90, 91, 92, 93, 94, 11, 95, 96, 97, 98, 99, 100, 101, 102, 103, 104, 105, 106, 107, 108, 109, 42, 43, 44, 110, 111, 112, 113, 114, 115, 116, 117, 118, 119, 120, 121, 122, 123, 124] (by decide +kernel) (by decide +kernel)) (goodIn_sub (fun _ h => List.mem_cons_of_mem _ (List.mem_append_right _ h)) (by decide +kernel))) (goodIn_sub (fun _ h => List.mem_cons_of_mem _ (List.mem_append_left _ (List.mem_append_right _ h))) (by decide +kernel))) (goodIn_sub (fun _ h => List.mem_cons_of_mem _ (List.mem_append_left _ (List.mem_append_left _ (List.mem_append_right _ h)))) (by decide +kernel))
set_option maxRecDepth 20000 in
theorem gL_sets_X0_join : GoodIn wsL_sets (wsV RL 52 RX0 yX0_join wsX0_join) := goodIn_app (goodIn_of _ (by decide +kernel)) ggL_sets_X0_join
theorem dL_sets_0 : decode cL_sets 0 = .ok (.iload_n 1, 1) := by decide +kernel
theorem dL_sets_1 : decode cL_sets 1 = .ok (.ifCond .ne 12, 3) := by decide +kernel
theorem dL_sets_4 : decode cL_sets 4 = .ok (.aload_n 0, 1) := by decide +kernel
theorem dL_sets_5 : decode cL_sets 5 = .ok (.iload_n 2, 1) := by decide +kernel
theorem dL_sets_6 : decode cL_sets 6 = .ok (.iload_n 3, 1) := by decide +kernel
theorem dL_sets_7 : decode cL_sets 7 = .ok (.invokevirtual 46, 3) := by decide +kernel
theorem dL_sets_10 : decode cL_sets 10 = .ok (.goto 23, 3) := by decide +kernel
theorem dL_sets_13 : decode cL_sets 13 = .ok (.iload_n 1, 1) := by decide +kernel
theorem dL_sets_14 : decode cL_sets 14 = .ok (.iconst 1, 1) := by decide +kernel
theorem dL_sets_15 : decode cL_sets 15 = .ok (.if_icmp .ne 12, 3) := by decide +kernel
theorem dL_sets_18 : decode cL_sets 18 = .ok (.aload_n 0, 1) := by decide +kernel
theorem dL_sets_19 : decode cL_sets 19 = .ok (.iload_n 2, 1) := by decide +kernel
theorem dL_sets_20 : decode cL_sets 20 = .ok (.iload_n 3, 1) := by decide +kernel
theorem dL_sets_21 : decode cL_sets 21 = .ok (.invokevirtual 49, 3) := by decide +kernel
theorem dL_sets_24 : decode cL_sets 24 = .ok (.goto 9, 3) := by decide +kernel
theorem dL_sets_27 : decode cL_sets 27 = .ok (.aload_n 0, 1) := by decide +kernel
theorem dL_sets_28 : decode cL_sets 28 = .ok (.iload_n 2, 1) := by decide +kernel
theorem dL_sets_29 : decode cL_sets 29 = .ok (.iload_n 3, 1) := by decide +kernel
theorem dL_sets_30 : decode cL_sets 30 = .ok (.invokevirtual 52, 3) := by decide +kernel
theorem dL_sets_33 : decode cL_sets 33 = .ok (.ireturn, 1) := by decide +kernel
theorem dL_sets_34 : decode cL_sets 34 = .ok (.astore 4, 2) := by decide +kernel
theorem dL_sets_36 : decode cL_sets 36 = .ok (.bipush (-101), 2) := by decide +kernel
theorem dL_sets_38 : decode cL_sets 38 = .ok (.ireturn, 1) := by decide +kernel
theorem dL_sets_39 : decode cL_sets 39 = .ok (.astore 4, 2) := by decide +kernel
theorem dL_sets_41 : decode cL_sets 41 = .ok (.bipush (-102), 2) := by decide +kernel
theorem dL_sets_43 : decode cL_sets 43 = .ok (.ireturn, 1) := by decide +kernel
theorem dL_sets_44 : decode cL_sets 44 = .ok (.astore 4, 2) := by decide +kernel
theorem dL_sets_46 : decode cL_sets 46 = .ok (.bipush (-103), 2) := by decide +kernel
theorem dL_sets_48 : decode cL_sets 48 = .ok (.ireturn, 1) := by decide +kernel
set_option maxRecDepth 20000 in
theorem ggL_chains_X0_drop : GoodIn wsL_chains wsX0_drop := goodIn_ca (goodIn_ca (goodIn_r _ [7, 8, 9, 10, 11, 12, 13, 14, 6, 15, 16, 17, 18, 19, 20, 21, 22, 23, 24, 25, 26, 27, 28, 29, 30, 31, 32, 89, 90, 91, 92, 93, 94, 95, 96, 97, 98, 99, 100, 101, 102, 103] (by decide +kernel) (by decide +kernel)) (goodIn_sub (fun _ h => List.mem_cons_of_mem _ (List.mem_append_left _ (List.mem_append_right _ h))) (by decide +kernel))) (goodIn_sub (fun _ h => List.mem_cons_of_mem _ (List.mem_append_right _ h)) (by decide +kernel))
set_option maxRecDepth 20000 in
theorem gL_chains_X0_drop : GoodIn wsL_chains (wsV RL 55 RX0 yX0_drop wsX0_drop) := goodIn_app (goodIn_of _ (by decide +kernel)) ggL_chains_X0_drop
set_option maxRecDepth 20000 in
theorem ggL_chains_X0_sign : GoodIn wsL_chains wsX0_sign := goodIn_ca (goodIn_r _ [36, 23, 12, 13, 14, 6, 15, 16, 17, 18, 24, 25, 26, 89, 90, 91, 92, 93, 94, 95, 96, 97, 98, 99, 100, 101, 102, 103] (by decide +kernel) (by decide +kernel)) (goodIn_sub (fun _ h => List.mem_cons_of_mem _ (List.mem_append_right _ h)) (by decide +kernel))
set_option maxRecDepth 20000 in
theorem gL_chains_X0_sign : GoodIn wsL_chains (wsV RL 58 RX0 yX0_sign wsX0_sign) := goodIn_app (goodIn_of _ (by decide +kernel)) ggL_chains_X0_sign
set_option maxRecDepth 20000 in
theorem ggL_chains_X0_gap : GoodIn wsL_chains wsX0_gap := goodIn_ca (goodIn_r _ [40, 12, 13, 14, 6, 15, 16, 17, 18, 41, 42, 43, 44, 45, 46, 47, 48, 49, 50, 51, 52, 53, 54, 55, 56, 57, 58, 59, 60, 61, 62, 10, 11, 27, 28, 29, 63, 64, 65, 66, 67, 68, 69, 70, 71, 72, 73, 74, 75, 76, 77, 78, 79, 80, 81, 82, 83, 84, 30, 31, 32, 89, 90, 91, 92, 93, 94, 95, 96, 97, 98, 99, 100, 101, 102, 103] (by decide +kernel) (by decide +kernel)) (goodIn_sub (fun _ h => List.mem_cons_of_mem _ (List.mem_append_right _ h)) (by decide +kernel))
set_option maxRecDepth 20000 in
theorem gL_chains_X0_gap : GoodIn wsL_chains (wsV RL 62 RX0 yX0_gap wsX0_gap) := goodIn_app (goodIn_of _ (by decide +kernel)) ggL_chains_X0_gap
set_option maxRecDepth 20000 in
theorem ggL_chains_X0_greyGap : GoodIn wsL_chains wsX0_greyGap := goodIn_ca (goodIn_r _ [88, 56, 57, 48, 58, 50, 51, 52, 12, 13, 14, 6, 15, 16, 17, 18, 59, 60, 61, 62, 10, 11, 27, 28, 29, 63, 64, 65, 66, 67, 68, 69, 70, 71, 72, 73, 74, 75, 76, 77, 78, 79, 80, 81, 82, 83, 84, 89, 90, 91, 92, 93, 94, 95, 96, 97, 98, 99, 100, 101, 102, 103] (by decide +kernel) (by decide +kernel)) (goodIn_sub (fun _ h => List.mem_cons_of_mem _ (List.mem_append_right _ h)) (by decide +kernel))
set_option maxRecDepth 20000 in
theorem gL_chains_X0_greyGap : GoodIn wsL_chains (wsV RL 65 RX0 yX0_greyGap wsX0_greyGap) := goodIn_app (goodIn_of _ (by decide +kernel)) ggL_chains_X0_greyGap
theorem dL_chains_0 : decode cL_chains 0 = .ok (.iload_n 1, 1) := by decide +kernel
theorem dL_chains_1 : decode cL_chains 1 = .ok (.ifCond .ne 11, 3) := by decide +kernel
theorem dL_chains_4 : decode cL_chains 4 = .ok (.aload_n 0, 1) := by decide +kernel
theorem dL_chains_5 : decode cL_chains 5 = .ok (.iload_n 2, 1) := by decide +kernel
theorem dL_chains_6 : decode cL_chains 6 = .ok (.invokevirtual 55, 3) := by decide +kernel
theorem dL_chains_9 : decode cL_chains 9 = .ok (.goto 42, 3) := by decide +kernel
theorem dL_chains_12 : decode cL_chains 12 = .ok (.iload_n 1, 1) := by decide +kernel
theorem dL_chains_13 : decode cL_chains 13 = .ok (.iconst 1, 1) := by decide +kernel
theorem dL_chains_14 : decode cL_chains 14 = .ok (.if_icmp .ne 19, 3) := by decide +kernel
theorem dL_chains_17 : decode cL_chains 17 = .ok (.aload_n 0, 1) := by decide +kernel
theorem dL_chains_18 : decode cL_chains 18 = .ok (.iload_n 2, 1) := by decide +kernel
theorem dL_chains_19 : decode cL_chains 19 = .ok (.invokevirtual 58, 3) := by decide +kernel
theorem dL_chains_22 : decode cL_chains 22 = .ok (.ifCond .eq 7, 3) := by decide +kernel
theorem dL_chains_25 : decode cL_chains 25 = .ok (.iconst 1, 1) := by decide +kernel
theorem dL_chains_26 : decode cL_chains 26 = .ok (.goto 25, 3) := by decide +kernel
theorem dL_chains_29 : decode cL_chains 29 = .ok (.iconst 0, 1) := by decide +kernel
theorem dL_chains_30 : decode cL_chains 30 = .ok (.goto 21, 3) := by decide +kernel
theorem dL_chains_33 : decode cL_chains 33 = .ok (.iload_n 1, 1) := by decide +kernel
theorem dL_chains_34 : decode cL_chains 34 = .ok (.iconst 2, 1) := by decide +kernel
theorem dL_chains_35 : decode cL_chains 35 = .ok (.if_icmp .ne 11, 3) := by decide +kernel
theorem dL_chains_38 : decode cL_chains 38 = .ok (.aload_n 0, 1) := by decide +kernel
theorem dL_chains_39 : decode cL_chains 39 = .ok (.iload_n 2, 1) := by decide +kernel
theorem dL_chains_40 : decode cL_chains 40 = .ok (.invokevirtual 62, 3) := by decide +kernel
theorem dL_chains_43 : decode cL_chains 43 = .ok (.goto 8, 3) := by decide +kernel
theorem dL_chains_46 : decode cL_chains 46 = .ok (.aload_n 0, 1) := by decide +kernel
theorem dL_chains_47 : decode cL_chains 47 = .ok (.iload_n 2, 1) := by decide +kernel
theorem dL_chains_48 : decode cL_chains 48 = .ok (.invokevirtual 65, 3) := by decide +kernel
theorem dL_chains_51 : decode cL_chains 51 = .ok (.ireturn, 1) := by decide +kernel
theorem dL_chains_52 : decode cL_chains 52 = .ok (.astore_n 3, 1) := by decide +kernel
theorem dL_chains_53 : decode cL_chains 53 = .ok (.bipush (-101), 2) := by decide +kernel
theorem dL_chains_55 : decode cL_chains 55 = .ok (.ireturn, 1) := by decide +kernel
theorem dL_chains_56 : decode cL_chains 56 = .ok (.astore_n 3, 1) := by decide +kernel
theorem dL_chains_57 : decode cL_chains 57 = .ok (.bipush (-103), 2) := by decide +kernel
theorem dL_chains_59 : decode cL_chains 59 = .ok (.ireturn, 1) := by decide +kernel
set_option maxRecDepth 20000 in
theorem ggL_of_X0_curve : GoodIn wsL_of wsX0_curve := goodIn_ca (goodIn_ca (goodIn_r _ [8, 9, 10, 11, 7, 12, 13, 14, 15, 16, 17, 18, 19, 20, 21, 22, 23, 24, 25, 26, 27, 28, 29, 30, 31, 32, 33, 34, 35, 36, 37, 38, 86, 87, 88, 89, 90, 91, 92, 93, 94, 95, 96, 97, 98, 99, 100] (by decide +kernel) (by decide +kernel)) (goodIn_sub (fun _ h => List.mem_cons_of_mem _ (List.mem_append_left _ (List.mem_append_left _ (List.mem_append_right _ h)))) (by decide +kernel))) (goodIn_sub (fun _ h => List.mem_cons_of_mem _ (List.mem_append_left _ (List.mem_append_right _ h))) (by decide +kernel))
set_option maxRecDepth 20000 in
theorem gL_of_X0_curve : GoodIn wsL_of (wsV RL 68 RX0 yX0_curve wsX0_curve) := goodIn_app (goodIn_of _ (by decide +kernel)) ggL_of_X0_curve
set_option maxRecDepth 20000 in
theorem ggL_of_X0_taken : GoodIn wsL_of wsX0_taken := goodIn_ca (goodIn_ca (goodIn_r _ [42, 9, 10, 11, 7, 12, 13, 14, 15, 16, 17, 18, 19, 20, 21, 22, 23, 43, 44, 45, 46, 47, 48, 49, 50, 51, 52, 53, 54, 55, 56, 32, 33, 34, 24, 25, 26, 27, 28, 29, 30, 31, 35, 36, 37, 38, 57, 58, 59, 86, 87, 88, 89, 90, 91, 92, 93, 94, 95, 96, 97, 98, 99, 100] (by decide +kernel) (by decide +kernel)) (goodIn_sub (fun _ h => List.mem_cons_of_mem _ (List.mem_append_left _ (List.mem_append_left _ (List.mem_append_right _ h)))) (by decide +kernel))) (goodIn_sub (fun _ h => List.mem_cons_of_mem _ (List.mem_append_left _ (List.mem_append_right _ h))) (by decide +kernel))
set_option maxRecDepth 20000 in
theorem gL_of_X0_taken : GoodIn wsL_of (wsV RL 72 RX0 yX0_taken wsX0_taken) := goodIn_app (goodIn_of _ (by decide +kernel)) ggL_of_X0_taken
set_option maxRecDepth 20000 in
theorem ggL_of_X0_through : GoodIn wsL_of wsX0_through := goodIn_ca (goodIn_ca (goodIn_r _ [63, 64, 65, 66, 7, 67, 13, 14, 68, 16, 17, 18, 19, 20, 21, 22, 23, 69, 70, 71, 72, 73, 74, 32, 33, 34, 43, 44, 45, 46, 47, 48, 49, 50, 51, 52, 53, 54, 55, 56, 24, 25, 26, 27, 28, 29, 30, 31, 35, 36, 37, 38, 57, 58, 59, 86, 87, 88, 89, 90, 91, 92, 93, 94, 95, 96, 97, 98, 99, 100] (by decide +kernel) (by decide +kernel)) (goodIn_sub (fun _ h => List.mem_cons_of_mem _ (List.mem_append_left _ (List.mem_append_left _ (List.mem_append_right _ h)))) (by decide +kernel))) (goodIn_sub (fun _ h => List.mem_cons_of_mem _ (List.mem_append_left _ (List.mem_append_right _ h))) (by decide +kernel))
set_option maxRecDepth 20000 in
theorem gL_of_X0_through : GoodIn wsL_of (wsV RL 74 RX0 yX0_through wsX0_through) := goodIn_app (goodIn_of _ (by decide +kernel)) ggL_of_X0_through
set_option maxRecDepth 20000 in
theorem ggL_of_X0_joined : GoodIn wsL_of wsX0_joined := goodIn_ca (goodIn_ca (goodIn_ca (goodIn_r _ [78, 79, 80, 81, 82, 64, 65, 66, 7, 67, 13, 14, 68, 16, 17, 18, 19, 20, 21, 22, 23, 83, 84, 85, 29, 30, 31, 32, 33, 34, 35, 36, 37, 38, 86, 87, 88, 89, 90, 91, 92, 93, 94, 95, 96, 97, 98, 99, 100] (by decide +kernel) (by decide +kernel)) (goodIn_sub (fun _ h => List.mem_cons_of_mem _ (List.mem_append_right _ h)) (by decide +kernel))) (goodIn_sub (fun _ h => List.mem_cons_of_mem _ (List.mem_append_left _ (List.mem_append_left _ (List.mem_append_right _ h)))) (by decide +kernel))) (goodIn_sub (fun _ h => List.mem_cons_of_mem _ (List.mem_append_left _ (List.mem_append_right _ h))) (by decide +kernel))
set_option maxRecDepth 20000 in
theorem gL_of_X0_joined : GoodIn wsL_of (wsV RL 76 RX0 yX0_joined wsX0_joined) := goodIn_app (goodIn_of _ (by decide +kernel)) ggL_of_X0_joined
theorem dL_of_0 : decode cL_of 0 = .ok (.iload_n 1, 1) := by decide +kernel
theorem dL_of_1 : decode cL_of 1 = .ok (.ifCond .ne 14, 3) := by decide +kernel
theorem dL_of_4 : decode cL_of 4 = .ok (.aload_n 0, 1) := by decide +kernel
theorem dL_of_5 : decode cL_of 5 = .ok (.iload_n 2, 1) := by decide +kernel
theorem dL_of_6 : decode cL_of 6 = .ok (.iload_n 3, 1) := by decide +kernel
theorem dL_of_7 : decode cL_of 7 = .ok (.iload 4, 2) := by decide +kernel
theorem dL_of_9 : decode cL_of 9 = .ok (.invokevirtual 68, 3) := by decide +kernel
theorem dL_of_12 : decode cL_of 12 = .ok (.goto 43, 3) := by decide +kernel
theorem dL_of_15 : decode cL_of 15 = .ok (.iload_n 1, 1) := by decide +kernel
theorem dL_of_16 : decode cL_of 16 = .ok (.iconst 1, 1) := by decide +kernel
theorem dL_of_17 : decode cL_of 17 = .ok (.if_icmp .ne 14, 3) := by decide +kernel
theorem dL_of_20 : decode cL_of 20 = .ok (.aload_n 0, 1) := by decide +kernel
theorem dL_of_21 : decode cL_of 21 = .ok (.iload_n 2, 1) := by decide +kernel
theorem dL_of_22 : decode cL_of 22 = .ok (.iload_n 3, 1) := by decide +kernel
theorem dL_of_23 : decode cL_of 23 = .ok (.iload 4, 2) := by decide +kernel
theorem dL_of_25 : decode cL_of 25 = .ok (.invokevirtual 72, 3) := by decide +kernel
theorem dL_of_28 : decode cL_of 28 = .ok (.goto 27, 3) := by decide +kernel
theorem dL_of_31 : decode cL_of 31 = .ok (.iload_n 1, 1) := by decide +kernel
theorem dL_of_32 : decode cL_of 32 = .ok (.iconst 2, 1) := by decide +kernel
theorem dL_of_33 : decode cL_of 33 = .ok (.if_icmp .ne 14, 3) := by decide +kernel
theorem dL_of_36 : decode cL_of 36 = .ok (.aload_n 0, 1) := by decide +kernel
theorem dL_of_37 : decode cL_of 37 = .ok (.iload_n 2, 1) := by decide +kernel
theorem dL_of_38 : decode cL_of 38 = .ok (.iload_n 3, 1) := by decide +kernel
theorem dL_of_39 : decode cL_of 39 = .ok (.iload 4, 2) := by decide +kernel
theorem dL_of_41 : decode cL_of 41 = .ok (.invokevirtual 74, 3) := by decide +kernel
theorem dL_of_44 : decode cL_of 44 = .ok (.goto 11, 3) := by decide +kernel
theorem dL_of_47 : decode cL_of 47 = .ok (.aload_n 0, 1) := by decide +kernel
theorem dL_of_48 : decode cL_of 48 = .ok (.iload_n 2, 1) := by decide +kernel
theorem dL_of_49 : decode cL_of 49 = .ok (.iload_n 3, 1) := by decide +kernel
theorem dL_of_50 : decode cL_of 50 = .ok (.iload 4, 2) := by decide +kernel
theorem dL_of_52 : decode cL_of 52 = .ok (.invokevirtual 76, 3) := by decide +kernel
theorem dL_of_55 : decode cL_of 55 = .ok (.ireturn, 1) := by decide +kernel
theorem dL_of_56 : decode cL_of 56 = .ok (.astore 5, 2) := by decide +kernel
theorem dL_of_58 : decode cL_of 58 = .ok (.bipush (-101), 2) := by decide +kernel
theorem dL_of_60 : decode cL_of 60 = .ok (.ireturn, 1) := by decide +kernel
theorem dL_of_61 : decode cL_of 61 = .ok (.astore 5, 2) := by decide +kernel
theorem dL_of_63 : decode cL_of 63 = .ok (.bipush (-102), 2) := by decide +kernel
theorem dL_of_65 : decode cL_of 65 = .ok (.ireturn, 1) := by decide +kernel
theorem dL_of_66 : decode cL_of 66 = .ok (.astore 5, 2) := by decide +kernel
theorem dL_of_68 : decode cL_of 68 = .ok (.bipush (-103), 2) := by decide +kernel
theorem dL_of_70 : decode cL_of 70 = .ok (.ireturn, 1) := by decide +kernel
set_option maxRecDepth 20000 in
theorem ggL_paints_X0_paint : GoodIn wsL_paints wsX0_paint := goodIn_ca (goodIn_ca (goodIn_r _ [7, 8, 9, 10, 6, 11, 12, 13, 14, 15, 16, 17, 18, 19, 20, 21, 22, 23, 24, 38, 39, 40, 41, 42, 43, 44, 45, 46, 47, 48, 49, 50, 51, 52] (by decide +kernel) (by decide +kernel)) (goodIn_sub (fun _ h => List.mem_cons_of_mem _ (List.mem_append_left _ (List.mem_append_right _ h))) (by decide +kernel))) (goodIn_sub (fun _ h => List.mem_cons_of_mem _ (List.mem_append_right _ h)) (by decide +kernel))
set_option maxRecDepth 20000 in
theorem gL_paints_X0_paint : GoodIn wsL_paints (wsV RL 79 RX0 yX0_paint wsX0_paint) := goodIn_app (goodIn_of _ (by decide +kernel)) ggL_paints_X0_paint
set_option maxRecDepth 20000 in
theorem ggL_paints_X0_spot : GoodIn wsL_paints wsX0_spot := goodIn_ca (goodIn_ca (goodIn_r _ [28, 29, 9, 10, 6, 11, 12, 13, 30, 31, 32, 17, 18, 19, 20, 21, 22, 23, 24, 38, 39, 40, 41, 42, 43, 44, 45, 46, 47, 48, 49, 50, 51, 52] (by decide +kernel) (by decide +kernel)) (goodIn_sub (fun _ h => List.mem_cons_of_mem _ (List.mem_append_left _ (List.mem_append_right _ h))) (by decide +kernel))) (goodIn_sub (fun _ h => List.mem_cons_of_mem _ (List.mem_append_right _ h)) (by decide +kernel))
set_option maxRecDepth 20000 in
theorem gL_paints_X0_spot : GoodIn wsL_paints (wsV RL 82 RX0 yX0_spot wsX0_spot) := goodIn_app (goodIn_of _ (by decide +kernel)) ggL_paints_X0_spot
set_option maxRecDepth 20000 in
theorem ggL_paints_X0_mix : GoodIn wsL_paints wsX0_mix := goodIn_ca (goodIn_ca (goodIn_r _ [36, 37, 30, 31, 6, 32, 12, 13, 14, 15, 16, 17, 18, 19, 20, 21, 22, 23, 24, 38, 39, 40, 41, 42, 43, 44, 45, 46, 47, 48, 49, 50, 51, 52] (by decide +kernel) (by decide +kernel)) (goodIn_sub (fun _ h => List.mem_cons_of_mem _ (List.mem_append_left _ (List.mem_append_right _ h))) (by decide +kernel))) (goodIn_sub (fun _ h => List.mem_cons_of_mem _ (List.mem_append_right _ h)) (by decide +kernel))
set_option maxRecDepth 20000 in
theorem gL_paints_X0_mix : GoodIn wsL_paints (wsV RL 85 RX0 yX0_mix wsX0_mix) := goodIn_app (goodIn_of _ (by decide +kernel)) ggL_paints_X0_mix
theorem dL_paints_0 : decode cL_paints 0 = .ok (.iload_n 1, 1) := by decide +kernel
theorem dL_paints_1 : decode cL_paints 1 = .ok (.ifCond .ne 14, 3) := by decide +kernel
theorem dL_paints_4 : decode cL_paints 4 = .ok (.aload_n 0, 1) := by decide +kernel
theorem dL_paints_5 : decode cL_paints 5 = .ok (.iload_n 2, 1) := by decide +kernel
theorem dL_paints_6 : decode cL_paints 6 = .ok (.iload_n 3, 1) := by decide +kernel
theorem dL_paints_7 : decode cL_paints 7 = .ok (.iload 4, 2) := by decide +kernel
theorem dL_paints_9 : decode cL_paints 9 = .ok (.invokevirtual 79, 3) := by decide +kernel
theorem dL_paints_12 : decode cL_paints 12 = .ok (.goto 27, 3) := by decide +kernel
theorem dL_paints_15 : decode cL_paints 15 = .ok (.iload_n 1, 1) := by decide +kernel
theorem dL_paints_16 : decode cL_paints 16 = .ok (.iconst 1, 1) := by decide +kernel
theorem dL_paints_17 : decode cL_paints 17 = .ok (.if_icmp .ne 14, 3) := by decide +kernel
theorem dL_paints_20 : decode cL_paints 20 = .ok (.aload_n 0, 1) := by decide +kernel
theorem dL_paints_21 : decode cL_paints 21 = .ok (.iload_n 2, 1) := by decide +kernel
theorem dL_paints_22 : decode cL_paints 22 = .ok (.iload_n 3, 1) := by decide +kernel
theorem dL_paints_23 : decode cL_paints 23 = .ok (.iload 4, 2) := by decide +kernel
theorem dL_paints_25 : decode cL_paints 25 = .ok (.invokevirtual 82, 3) := by decide +kernel
theorem dL_paints_28 : decode cL_paints 28 = .ok (.goto 11, 3) := by decide +kernel
theorem dL_paints_31 : decode cL_paints 31 = .ok (.aload_n 0, 1) := by decide +kernel
theorem dL_paints_32 : decode cL_paints 32 = .ok (.iload_n 2, 1) := by decide +kernel
theorem dL_paints_33 : decode cL_paints 33 = .ok (.iload_n 3, 1) := by decide +kernel
theorem dL_paints_34 : decode cL_paints 34 = .ok (.iload 4, 2) := by decide +kernel
theorem dL_paints_36 : decode cL_paints 36 = .ok (.invokevirtual 85, 3) := by decide +kernel
theorem dL_paints_39 : decode cL_paints 39 = .ok (.ireturn, 1) := by decide +kernel
theorem dL_paints_40 : decode cL_paints 40 = .ok (.astore 5, 2) := by decide +kernel
theorem dL_paints_42 : decode cL_paints 42 = .ok (.bipush (-101), 2) := by decide +kernel
theorem dL_paints_44 : decode cL_paints 44 = .ok (.ireturn, 1) := by decide +kernel
theorem dL_paints_45 : decode cL_paints 45 = .ok (.astore 5, 2) := by decide +kernel
theorem dL_paints_47 : decode cL_paints 47 = .ok (.bipush (-102), 2) := by decide +kernel
theorem dL_paints_49 : decode cL_paints 49 = .ok (.ireturn, 1) := by decide +kernel
set_option maxRecDepth 20000 in
theorem ggL_shows_X0_shown : GoodIn wsL_shows wsX0_shown := goodIn_ca (goodIn_ca (goodIn_r _ [7, 8, 9, 10, 11, 12, 6, 13, 14, 15, 16, 17, 18, 19, 20, 21, 22, 23, 24, 25, 26, 27, 28, 29, 30, 31, 32, 33, 34, 35, 36, 37, 38, 39, 40, 41, 42, 43, 44, 45, 46, 47, 48, 49, 50, 51, 52, 53, 54, 55, 56, 57, 58, 59, 60, 61, 62, 63, 64, 65, 66, 67, 68, 69, 70, 71, 72, 73, 74, 75, 76, 77, 78, 79, 80, 81, 82, 83, 84, 85] (by decide +kernel) (by decide +kernel)) (goodIn_sub (fun _ h => List.mem_cons_of_mem _ (List.mem_append_left _ (List.mem_append_right _ h))) (by decide +kernel))) (goodIn_sub (fun _ h => List.mem_cons_of_mem _ (List.mem_append_right _ h)) (by decide +kernel))
set_option maxRecDepth 20000 in
theorem gL_shows_X0_shown : GoodIn wsL_shows (wsV RL 88 RX0 yX0_shown wsX0_shown) := goodIn_app (goodIn_of _ (by decide +kernel)) ggL_shows_X0_shown
theorem dL_shows_0 : decode cL_shows 0 = .ok (.aload_n 0, 1) := by decide +kernel
theorem dL_shows_1 : decode cL_shows 1 = .ok (.iload_n 1, 1) := by decide +kernel
theorem dL_shows_2 : decode cL_shows 2 = .ok (.iload_n 2, 1) := by decide +kernel
theorem dL_shows_3 : decode cL_shows 3 = .ok (.iload_n 3, 1) := by decide +kernel
theorem dL_shows_4 : decode cL_shows 4 = .ok (.iload 4, 2) := by decide +kernel
theorem dL_shows_6 : decode cL_shows 6 = .ok (.invokevirtual 88, 3) := by decide +kernel
theorem dL_shows_9 : decode cL_shows 9 = .ok (.ireturn, 1) := by decide +kernel
theorem dL_shows_10 : decode cL_shows 10 = .ok (.astore 5, 2) := by decide +kernel
theorem dL_shows_12 : decode cL_shows 12 = .ok (.bipush (-101), 2) := by decide +kernel
theorem dL_shows_14 : decode cL_shows 14 = .ok (.ireturn, 1) := by decide +kernel
theorem dL_shows_15 : decode cL_shows 15 = .ok (.astore 5, 2) := by decide +kernel
theorem dL_shows_17 : decode cL_shows 17 = .ok (.bipush (-102), 2) := by decide +kernel
theorem dL_shows_19 : decode cL_shows 19 = .ok (.ireturn, 1) := by decide +kernel
set_option maxRecDepth 20000 in
theorem ggL_value_L_some : GoodIn wsL_value wsL_some := goodIn_r _ [4] (by decide +kernel) (by decide +kernel)
set_option maxRecDepth 20000 in
theorem gL_value_L_some : GoodIn wsL_value (va_wsS RL 91 yL_some wsL_some) := goodIn_app (goodIn_of _ (by decide +kernel)) ggL_value_L_some
theorem dL_value_0 : decode cL_value 0 = .ok (.iload_n 0, 1) := by decide +kernel
theorem dL_value_1 : decode cL_value 1 = .ok (.bipush 40, 2) := by decide +kernel
theorem dL_value_3 : decode cL_value 3 = .ok (.invokestatic 91, 3) := by decide +kernel
theorem dL_value_6 : decode cL_value 6 = .ok (.ifCond .ne 9, 3) := by decide +kernel
theorem dL_value_9 : decode cL_value 9 = .ok (.sipush 256, 3) := by decide +kernel
theorem dL_value_12 : decode cL_value 12 = .ok (.goto 46, 3) := by decide +kernel
theorem dL_value_15 : decode cL_value 15 = .ok (.iload_n 0, 1) := by decide +kernel
theorem dL_value_16 : decode cL_value 16 = .ok (.bipush 60, 2) := by decide +kernel
theorem dL_value_18 : decode cL_value 18 = .ok (.invokestatic 91, 3) := by decide +kernel
theorem dL_value_21 : decode cL_value 21 = .ok (.iconst 1, 1) := by decide +kernel
theorem dL_value_22 : decode cL_value 22 = .ok (.if_icmp .ne 7, 3) := by decide +kernel
theorem dL_value_25 : decode cL_value 25 = .ok (.iconst (-1), 1) := by decide +kernel
theorem dL_value_26 : decode cL_value 26 = .ok (.goto 32, 3) := by decide +kernel
theorem dL_value_29 : decode cL_value 29 = .ok (.iload_n 0, 1) := by decide +kernel
theorem dL_value_30 : decode cL_value 30 = .ok (.iconst 3, 1) := by decide +kernel
theorem dL_value_31 : decode cL_value 31 = .ok (.invokestatic 91, 3) := by decide +kernel
theorem dL_value_34 : decode cL_value 34 = .ok (.ifCond .ne 17, 3) := by decide +kernel
theorem dL_value_37 : decode cL_value 37 = .ok (.sipush 255, 3) := by decide +kernel
theorem dL_value_40 : decode cL_value 40 = .ok (.iload_n 0, 1) := by decide +kernel
theorem dL_value_41 : decode cL_value 41 = .ok (.iconst 3, 1) := by decide +kernel
theorem dL_value_42 : decode cL_value 42 = .ok (.ishr, 1) := by decide +kernel
theorem dL_value_43 : decode cL_value 43 = .ok (.iconst 2, 1) := by decide +kernel
theorem dL_value_44 : decode cL_value 44 = .ok (.invokestatic 91, 3) := by decide +kernel
theorem dL_value_47 : decode cL_value 47 = .ok (.imul, 1) := by decide +kernel
theorem dL_value_48 : decode cL_value 48 = .ok (.goto 10, 3) := by decide +kernel
theorem dL_value_51 : decode cL_value 51 = .ok (.iload_n 0, 1) := by decide +kernel
theorem dL_value_52 : decode cL_value 52 = .ok (.sipush 256, 3) := by decide +kernel
theorem dL_value_55 : decode cL_value 55 = .ok (.invokestatic 91, 3) := by decide +kernel
theorem dL_value_58 : decode cL_value 58 = .ok (.ireturn, 1) := by decide +kernel
set_option maxRecDepth 20000 in
theorem ggL_profiles_L_some : GoodIn wsL_profiles wsL_some := goodIn_r _ [4] (by decide +kernel) (by decide +kernel)
set_option maxRecDepth 20000 in
theorem gL_profiles_L_some : GoodIn wsL_profiles (va_wsS RL 91 yL_some wsL_some) := goodIn_app (goodIn_of _ (by decide +kernel)) ggL_profiles_L_some
set_option maxRecDepth 20000 in
theorem ggL_profiles_L_held : GoodIn wsL_profiles wsL_held := goodIn_r _ [7] (by decide +kernel) (by decide +kernel)
set_option maxRecDepth 20000 in
theorem gL_profiles_L_held : GoodIn wsL_profiles (va_wsS RL 94 yL_held wsL_held) := goodIn_app (goodIn_of _ (by decide +kernel)) ggL_profiles_L_held
set_option maxRecDepth 20000 in
theorem ggL_profiles_L_value : GoodIn wsL_profiles wsL_value := goodIn_r _ [10, 1, 2, 3, 4] (by decide +kernel) (by decide +kernel)
set_option maxRecDepth 20000 in
theorem gL_profiles_L_value : GoodIn wsL_profiles (va_wsS RL 98 yL_value wsL_value) := goodIn_app (goodIn_of _ (by decide +kernel)) ggL_profiles_L_value
set_option maxRecDepth 20000 in
theorem ggL_profiles_L_bends : GoodIn wsL_profiles wsL_bends := goodIn_ca (goodIn_ca (goodIn_ca (goodIn_r _ [13, 14, 15, 16, 17, 18, 19, 20, 21, 22, 23, 24, 25, 26, 27, 28, 29, 30, 31, 32, 33, 34, 35, 36, 37, 38, 39, 40, 41, 42, 43, 44, 45, 46, 47, 48, 49, 50, 51, 52, 53, 54, 55, 56, 57, 58, 59, 60, 61, 62, 63, 140, 141, 142, 143, 144, 145, 146, 147, 148, 149, 150, 151, 152, 153, 154] (by decide +kernel) (by decide +kernel)) (goodIn_sub (fun _ h => List.mem_cons_of_mem _ (List.mem_append_left _ (List.mem_append_left _ (List.mem_append_right _ h)))) (by decide +kernel))) (goodIn_sub (fun _ h => List.mem_cons_of_mem _ (List.mem_append_left _ (List.mem_append_right _ h))) (by decide +kernel))) (goodIn_sub (fun _ h => List.mem_cons_of_mem _ (List.mem_append_right _ h)) (by decide +kernel))
set_option maxRecDepth 20000 in
theorem gL_profiles_L_bends : GoodIn wsL_profiles (va_wsS RL 101 yL_bends wsL_bends) := goodIn_app (goodIn_of _ (by decide +kernel)) ggL_profiles_L_bends
set_option maxRecDepth 20000 in
theorem ggL_profiles_L_reaches : GoodIn wsL_profiles wsL_reaches := goodIn_ca (goodIn_ca (goodIn_ca (goodIn_r _ [66, 14, 15, 16, 67, 68, 69, 20, 70, 36, 37, 71, 72, 25, 26, 27, 28, 22, 23, 29, 30, 31, 32, 33, 34, 35, 38, 39, 40, 41, 42, 43, 44, 45, 46, 47, 48, 49, 50, 51, 52, 53, 54, 55, 56, 57, 58, 59, 60, 61, 62, 63, 140, 141, 142, 143, 144, 145, 146, 147, 148, 149, 150, 151, 152, 153, 154] (by decide +kernel) (by decide +kernel)) (goodIn_sub (fun _ h => List.mem_cons_of_mem _ (List.mem_append_left _ (List.mem_append_right _ h))) (by decide +kernel))) (goodIn_sub (fun _ h => List.mem_cons_of_mem _ (List.mem_append_left _ (List.mem_append_left _ (List.mem_append_right _ h)))) (by decide +kernel))) (goodIn_sub (fun _ h => List.mem_cons_of_mem _ (List.mem_append_right _ h)) (by decide +kernel))
set_option maxRecDepth 20000 in
theorem gL_profiles_L_reaches : GoodIn wsL_profiles (va_wsS RL 105 yL_reaches wsL_reaches) := goodIn_app (goodIn_of _ (by decide +kernel)) ggL_profiles_L_reaches
set_option maxRecDepth 20000 in
theorem ggL_profiles_L_sets : GoodIn wsL_profiles wsL_sets := goodIn_ca (goodIn_ca (goodIn_ca (goodIn_r _ [75, 14, 15, 16, 76, 77, 78, 20, 79, 36, 37, 80, 25, 26, 27, 28, 22, 23, 29, 38, 39, 40, 41, 42, 43, 44, 45, 46, 47, 48, 49, 50, 51, 52, 53, 54, 55, 56, 57, 58, 59, 60, 61, 62, 63, 81, 82, 83, 84, 85, 86, 87, 88, 89, 90, 91, 92, 93, 94, 95, 96, 97, 98, 99, 100, 33, 34, 35, 101, 102, 103, 104, 105, 106, 107, 108, 109, 110, 111, 112, 113, 114, 115, 116, 117, 118, 119, 120, 121, 122, 123, 124, 125, 71, 72, 126, 127, 128, 129, 24, 130, 131, 132, 133, 134, 135, 136, 137, 138, 139, 140, 141, 142, 143, 144, 145, 146, 147, 148, 149, 150, 151, 152, 153, 154] (by decide +kernel) (by decide +kernel)) (goodIn_sub (fun _ h => List.mem_cons_of_mem _ (List.mem_append_left _ (List.mem_append_right _ h))) (by decide +kernel))) (goodIn_sub (fun _ h => List.mem_cons_of_mem _ (List.mem_append_left _ (List.mem_append_left _ (List.mem_append_right _ h)))) (by decide +kernel))) (goodIn_sub (fun _ h => List.mem_cons_of_mem _ (List.mem_append_right _ h)) (by decide +kernel))
set_option maxRecDepth 20000 in
theorem gL_profiles_L_sets : GoodIn wsL_profiles (va_wsS RL 108 yL_sets wsL_sets) := goodIn_app (goodIn_of _ (by decide +kernel)) ggL_profiles_L_sets
theorem dL_profiles_0 : decode cL_profiles 0 = .ok (.iload_n 2, 1) := by decide +kernel
theorem dL_profiles_1 : decode cL_profiles 1 = .ok (.aload_n 3, 1) := by decide +kernel
theorem dL_profiles_2 : decode cL_profiles 2 = .ok (.iconst 0, 1) := by decide +kernel
theorem dL_profiles_3 : decode cL_profiles 3 = .ok (.iaload, 1) := by decide +kernel
theorem dL_profiles_4 : decode cL_profiles 4 = .ok (.iconst 1, 1) := by decide +kernel
theorem dL_profiles_5 : decode cL_profiles 5 = .ok (.iadd, 1) := by decide +kernel
theorem dL_profiles_6 : decode cL_profiles 6 = .ok (.invokestatic 91, 3) := by decide +kernel
theorem dL_profiles_9 : decode cL_profiles 9 = .ok (.iload_n 2, 1) := by decide +kernel
theorem dL_profiles_10 : decode cL_profiles 10 = .ok (.bipush 11, 2) := by decide +kernel
theorem dL_profiles_12 : decode cL_profiles 12 = .ok (.ishr, 1) := by decide +kernel
theorem dL_profiles_13 : decode cL_profiles 13 = .ok (.bipush 19, 2) := by decide +kernel
theorem dL_profiles_15 : decode cL_profiles 15 = .ok (.invokestatic 91, 3) := by decide +kernel
theorem dL_profiles_18 : decode cL_profiles 18 = .ok (.ifCond .ne 7, 3) := by decide +kernel
theorem dL_profiles_21 : decode cL_profiles 21 = .ok (.iconst 1, 1) := by decide +kernel
theorem dL_profiles_22 : decode cL_profiles 22 = .ok (.goto 4, 3) := by decide +kernel
theorem dL_profiles_25 : decode cL_profiles 25 = .ok (.iconst 0, 1) := by decide +kernel
theorem dL_profiles_26 : decode cL_profiles 26 = .ok (.isub, 1) := by decide +kernel
theorem dL_profiles_27 : decode cL_profiles 27 = .ok (.istore 7, 2) := by decide +kernel
theorem dL_profiles_29 : decode cL_profiles 29 = .ok (.iload_n 2, 1) := by decide +kernel
theorem dL_profiles_30 : decode cL_profiles 30 = .ok (.iconst 3, 1) := by decide +kernel
theorem dL_profiles_31 : decode cL_profiles 31 = .ok (.ishr, 1) := by decide +kernel
theorem dL_profiles_32 : decode cL_profiles 32 = .ok (.bipush 40, 2) := by decide +kernel
theorem dL_profiles_34 : decode cL_profiles 34 = .ok (.invokestatic 91, 3) := by decide +kernel
theorem dL_profiles_37 : decode cL_profiles 37 = .ok (.ifCond .ne 7, 3) := by decide +kernel
theorem dL_profiles_40 : decode cL_profiles 40 = .ok (.iconst 3, 1) := by decide +kernel
theorem dL_profiles_41 : decode cL_profiles 41 = .ok (.goto 10, 3) := by decide +kernel
theorem dL_profiles_44 : decode cL_profiles 44 = .ok (.iload_n 2, 1) := by decide +kernel
theorem dL_profiles_45 : decode cL_profiles 45 = .ok (.iconst 3, 1) := by decide +kernel
theorem dL_profiles_46 : decode cL_profiles 46 = .ok (.ishr, 1) := by decide +kernel
theorem dL_profiles_47 : decode cL_profiles 47 = .ok (.iconst 3, 1) := by decide +kernel
theorem dL_profiles_48 : decode cL_profiles 48 = .ok (.invokestatic 91, 3) := by decide +kernel
theorem dL_profiles_51 : decode cL_profiles 51 = .ok (.istore 8, 2) := by decide +kernel
theorem dL_profiles_53 : decode cL_profiles 53 = .ok (.iload 7, 2) := by decide +kernel
theorem dL_profiles_55 : decode cL_profiles 55 = .ok (.ifCond .lt 15, 3) := by decide +kernel
theorem dL_profiles_58 : decode cL_profiles 58 = .ok (.iload 7, 2) := by decide +kernel
theorem dL_profiles_60 : decode cL_profiles 60 = .ok (.aload_n 3, 1) := by decide +kernel
theorem dL_profiles_61 : decode cL_profiles 61 = .ok (.iconst 0, 1) := by decide +kernel
theorem dL_profiles_62 : decode cL_profiles 62 = .ok (.iaload, 1) := by decide +kernel
theorem dL_profiles_63 : decode cL_profiles 63 = .ok (.if_icmp .ge 7, 3) := by decide +kernel
theorem dL_profiles_66 : decode cL_profiles 66 = .ok (.iconst 1, 1) := by decide +kernel
theorem dL_profiles_67 : decode cL_profiles 67 = .ok (.goto 4, 3) := by decide +kernel
theorem dL_profiles_70 : decode cL_profiles 70 = .ok (.iconst 0, 1) := by decide +kernel
theorem dL_profiles_71 : decode cL_profiles 71 = .ok (.istore 9, 2) := by decide +kernel
theorem dL_profiles_73 : decode cL_profiles 73 = .ok (.iload 9, 2) := by decide +kernel
theorem dL_profiles_75 : decode cL_profiles 75 = .ok (.ifCond .eq 21, 3) := by decide +kernel
theorem dL_profiles_78 : decode cL_profiles 78 = .ok (.aload_n 3, 1) := by decide +kernel
theorem dL_profiles_79 : decode cL_profiles 79 = .ok (.aload 6, 2) := by decide +kernel
theorem dL_profiles_81 : decode cL_profiles 81 = .ok (.invokestatic 94, 3) := by decide +kernel
theorem dL_profiles_84 : decode cL_profiles 84 = .ok (.iload 7, 2) := by decide +kernel
theorem dL_profiles_86 : decode cL_profiles 86 = .ok (.ishr, 1) := by decide +kernel
theorem dL_profiles_87 : decode cL_profiles 87 = .ok (.iconst 1, 1) := by decide +kernel
theorem dL_profiles_88 : decode cL_profiles 88 = .ok (.iand, 1) := by decide +kernel
theorem dL_profiles_89 : decode cL_profiles 89 = .ok (.ifCond .ne 7, 3) := by decide +kernel
theorem dL_profiles_92 : decode cL_profiles 92 = .ok (.iconst 1, 1) := by decide +kernel
theorem dL_profiles_93 : decode cL_profiles 93 = .ok (.goto 4, 3) := by decide +kernel
theorem dL_profiles_96 : decode cL_profiles 96 = .ok (.iconst 0, 1) := by decide +kernel
theorem dL_profiles_97 : decode cL_profiles 97 = .ok (.istore 10, 2) := by decide +kernel
theorem dL_profiles_99 : decode cL_profiles 99 = .ok (.iload_n 1, 1) := by decide +kernel
theorem dL_profiles_100 : decode cL_profiles 100 = .ok (.ifCond .ne 161, 3) := by decide +kernel
theorem dL_profiles_103 : decode cL_profiles 103 = .ok (.iload_n 2, 1) := by decide +kernel
theorem dL_profiles_104 : decode cL_profiles 104 = .ok (.iconst 5, 1) := by decide +kernel
theorem dL_profiles_105 : decode cL_profiles 105 = .ok (.ishr, 1) := by decide +kernel
theorem dL_profiles_106 : decode cL_profiles 106 = .ok (.bipush 40, 2) := by decide +kernel
theorem dL_profiles_108 : decode cL_profiles 108 = .ok (.invokestatic 91, 3) := by decide +kernel
theorem dL_profiles_111 : decode cL_profiles 111 = .ok (.ifCond .ne 7, 3) := by decide +kernel
theorem dL_profiles_114 : decode cL_profiles 114 = .ok (.iconst 5, 1) := by decide +kernel
theorem dL_profiles_115 : decode cL_profiles 115 = .ok (.goto 10, 3) := by decide +kernel
theorem dL_profiles_118 : decode cL_profiles 118 = .ok (.iload_n 2, 1) := by decide +kernel
theorem dL_profiles_119 : decode cL_profiles 119 = .ok (.iconst 5, 1) := by decide +kernel
theorem dL_profiles_120 : decode cL_profiles 120 = .ok (.ishr, 1) := by decide +kernel
theorem dL_profiles_121 : decode cL_profiles 121 = .ok (.iconst 5, 1) := by decide +kernel
theorem dL_profiles_122 : decode cL_profiles 122 = .ok (.invokestatic 91, 3) := by decide +kernel
theorem dL_profiles_125 : decode cL_profiles 125 = .ok (.istore 11, 2) := by decide +kernel
theorem dL_profiles_127 : decode cL_profiles 127 = .ok (.iload_n 2, 1) := by decide +kernel
theorem dL_profiles_128 : decode cL_profiles 128 = .ok (.iconst 4, 1) := by decide +kernel
theorem dL_profiles_129 : decode cL_profiles 129 = .ok (.ishr, 1) := by decide +kernel
theorem dL_profiles_130 : decode cL_profiles 130 = .ok (.invokestatic 98, 3) := by decide +kernel
theorem dL_profiles_133 : decode cL_profiles 133 = .ok (.istore 12, 2) := by decide +kernel
theorem dL_profiles_135 : decode cL_profiles 135 = .ok (.iload 9, 2) := by decide +kernel
theorem dL_profiles_137 : decode cL_profiles 137 = .ok (.ifCond .eq 19, 3) := by decide +kernel
theorem dL_profiles_140 : decode cL_profiles 140 = .ok (.iload 8, 2) := by decide +kernel
theorem dL_profiles_142 : decode cL_profiles 142 = .ok (.iconst 3, 1) := by decide +kernel
theorem dL_profiles_143 : decode cL_profiles 143 = .ok (.if_icmp .ge 13, 3) := by decide +kernel
theorem dL_profiles_146 : decode cL_profiles 146 = .ok (.iload 11, 2) := by decide +kernel
theorem dL_profiles_148 : decode cL_profiles 148 = .ok (.iconst 5, 1) := by decide +kernel
theorem dL_profiles_149 : decode cL_profiles 149 = .ok (.if_icmp .ge 7, 3) := by decide +kernel
theorem dL_profiles_152 : decode cL_profiles 152 = .ok (.iconst 1, 1) := by decide +kernel
theorem dL_profiles_153 : decode cL_profiles 153 = .ok (.goto 4, 3) := by decide +kernel
theorem dL_profiles_156 : decode cL_profiles 156 = .ok (.iconst 0, 1) := by decide +kernel
theorem dL_profiles_157 : decode cL_profiles 157 = .ok (.istore 9, 2) := by decide +kernel
theorem dL_profiles_159 : decode cL_profiles 159 = .ok (.iload 9, 2) := by decide +kernel
theorem dL_profiles_161 : decode cL_profiles 161 = .ok (.ifCond .ne 8, 3) := by decide +kernel
theorem dL_profiles_164 : decode cL_profiles 164 = .ok (.bipush (-101), 2) := by decide +kernel
theorem dL_profiles_166 : decode cL_profiles 166 = .ok (.goto 47, 3) := by decide +kernel
theorem dL_profiles_169 : decode cL_profiles 169 = .ok (.iload 12, 2) := by decide +kernel
theorem dL_profiles_171 : decode cL_profiles 171 = .ok (.ifCond .lt 11, 3) := by decide +kernel
theorem dL_profiles_174 : decode cL_profiles 174 = .ok (.iload 12, 2) := by decide +kernel
theorem dL_profiles_176 : decode cL_profiles 176 = .ok (.sipush 255, 3) := by decide +kernel
theorem dL_profiles_179 : decode cL_profiles 179 = .ok (.if_icmp .le 8, 3) := by decide +kernel
theorem dL_profiles_182 : decode cL_profiles 182 = .ok (.bipush (-102), 2) := by decide +kernel
theorem dL_profiles_184 : decode cL_profiles 184 = .ok (.goto 29, 3) := by decide +kernel
theorem dL_profiles_187 : decode cL_profiles 187 = .ok (.iload 10, 2) := by decide +kernel
theorem dL_profiles_189 : decode cL_profiles 189 = .ok (.ifCond .ne 8, 3) := by decide +kernel
theorem dL_profiles_192 : decode cL_profiles 192 = .ok (.bipush (-103), 2) := by decide +kernel
theorem dL_profiles_194 : decode cL_profiles 194 = .ok (.goto 19, 3) := by decide +kernel
theorem dL_profiles_197 : decode cL_profiles 197 = .ok (.aload 4, 2) := by decide +kernel
theorem dL_profiles_199 : decode cL_profiles 199 = .ok (.bipush 15, 2) := by decide +kernel
theorem dL_profiles_201 : decode cL_profiles 201 = .ok (.iload 7, 2) := by decide +kernel
theorem dL_profiles_203 : decode cL_profiles 203 = .ok (.imul, 1) := by decide +kernel
theorem dL_profiles_204 : decode cL_profiles 204 = .ok (.iconst 5, 1) := by decide +kernel
theorem dL_profiles_205 : decode cL_profiles 205 = .ok (.iload 8, 2) := by decide +kernel
theorem dL_profiles_207 : decode cL_profiles 207 = .ok (.imul, 1) := by decide +kernel
theorem dL_profiles_208 : decode cL_profiles 208 = .ok (.iadd, 1) := by decide +kernel
theorem dL_profiles_209 : decode cL_profiles 209 = .ok (.iload 11, 2) := by decide +kernel
theorem dL_profiles_211 : decode cL_profiles 211 = .ok (.iadd, 1) := by decide +kernel
theorem dL_profiles_212 : decode cL_profiles 212 = .ok (.iaload, 1) := by decide +kernel
theorem dL_profiles_213 : decode cL_profiles 213 = .ok (.istore 13, 2) := by decide +kernel
theorem dL_profiles_215 : decode cL_profiles 215 = .ok (.iload 13, 2) := by decide +kernel
theorem dL_profiles_217 : decode cL_profiles 217 = .ok (.ifCond .lt 21, 3) := by decide +kernel
theorem dL_profiles_220 : decode cL_profiles 220 = .ok (.aload 4, 2) := by decide +kernel
theorem dL_profiles_222 : decode cL_profiles 222 = .ok (.bipush 15, 2) := by decide +kernel
theorem dL_profiles_224 : decode cL_profiles 224 = .ok (.iload 7, 2) := by decide +kernel
theorem dL_profiles_226 : decode cL_profiles 226 = .ok (.imul, 1) := by decide +kernel
theorem dL_profiles_227 : decode cL_profiles 227 = .ok (.iconst 5, 1) := by decide +kernel
theorem dL_profiles_228 : decode cL_profiles 228 = .ok (.iload 8, 2) := by decide +kernel
theorem dL_profiles_230 : decode cL_profiles 230 = .ok (.imul, 1) := by decide +kernel
theorem dL_profiles_231 : decode cL_profiles 231 = .ok (.iadd, 1) := by decide +kernel
theorem dL_profiles_232 : decode cL_profiles 232 = .ok (.iload 11, 2) := by decide +kernel
theorem dL_profiles_234 : decode cL_profiles 234 = .ok (.iadd, 1) := by decide +kernel
theorem dL_profiles_235 : decode cL_profiles 235 = .ok (.iload 12, 2) := by decide +kernel
theorem dL_profiles_237 : decode cL_profiles 237 = .ok (.iastore, 1) := by decide +kernel
theorem dL_profiles_238 : decode cL_profiles 238 = .ok (.aload_n 0, 1) := by decide +kernel
theorem dL_profiles_239 : decode cL_profiles 239 = .ok (.iload 7, 2) := by decide +kernel
theorem dL_profiles_241 : decode cL_profiles 241 = .ok (.iload 8, 2) := by decide +kernel
theorem dL_profiles_243 : decode cL_profiles 243 = .ok (.iload 11, 2) := by decide +kernel
theorem dL_profiles_245 : decode cL_profiles 245 = .ok (.iload 12, 2) := by decide +kernel
theorem dL_profiles_247 : decode cL_profiles 247 = .ok (.invokestatic 101, 3) := by decide +kernel
theorem dL_profiles_250 : decode cL_profiles 250 = .ok (.iload 13, 2) := by decide +kernel
theorem dL_profiles_252 : decode cL_profiles 252 = .ok (.if_icmp .ne 7, 3) := by decide +kernel
theorem dL_profiles_255 : decode cL_profiles 255 = .ok (.iconst 1, 1) := by decide +kernel
theorem dL_profiles_256 : decode cL_profiles 256 = .ok (.goto 4, 3) := by decide +kernel
theorem dL_profiles_259 : decode cL_profiles 259 = .ok (.iconst 0, 1) := by decide +kernel
theorem dL_profiles_260 : decode cL_profiles 260 = .ok (.ireturn, 1) := by decide +kernel
theorem dL_profiles_261 : decode cL_profiles 261 = .ok (.iload_n 1, 1) := by decide +kernel
theorem dL_profiles_262 : decode cL_profiles 262 = .ok (.iconst 1, 1) := by decide +kernel
theorem dL_profiles_263 : decode cL_profiles 263 = .ok (.if_icmp .ne 225, 3) := by decide +kernel
theorem dL_profiles_266 : decode cL_profiles 266 = .ok (.iload_n 2, 1) := by decide +kernel
theorem dL_profiles_267 : decode cL_profiles 267 = .ok (.iconst 4, 1) := by decide +kernel
theorem dL_profiles_268 : decode cL_profiles 268 = .ok (.ishr, 1) := by decide +kernel
theorem dL_profiles_269 : decode cL_profiles 269 = .ok (.iconst 2, 1) := by decide +kernel
theorem dL_profiles_270 : decode cL_profiles 270 = .ok (.invokestatic 91, 3) := by decide +kernel
theorem dL_profiles_273 : decode cL_profiles 273 = .ok (.ifCond .ne 7, 3) := by decide +kernel
theorem dL_profiles_276 : decode cL_profiles 276 = .ok (.iconst 0, 1) := by decide +kernel
theorem dL_profiles_277 : decode cL_profiles 277 = .ok (.goto 12, 3) := by decide +kernel
theorem dL_profiles_280 : decode cL_profiles 280 = .ok (.iload_n 2, 1) := by decide +kernel
theorem dL_profiles_281 : decode cL_profiles 281 = .ok (.iconst 5, 1) := by decide +kernel
theorem dL_profiles_282 : decode cL_profiles 282 = .ok (.ishr, 1) := by decide +kernel
theorem dL_profiles_283 : decode cL_profiles 283 = .ok (.sipush 256, 3) := by decide +kernel
theorem dL_profiles_286 : decode cL_profiles 286 = .ok (.invokestatic 91, 3) := by decide +kernel
theorem dL_profiles_289 : decode cL_profiles 289 = .ok (.istore 11, 2) := by decide +kernel
theorem dL_profiles_291 : decode cL_profiles 291 = .ok (.iload_n 2, 1) := by decide +kernel
theorem dL_profiles_292 : decode cL_profiles 292 = .ok (.bipush 6, 2) := by decide +kernel
theorem dL_profiles_294 : decode cL_profiles 294 = .ok (.ishr, 1) := by decide +kernel
theorem dL_profiles_295 : decode cL_profiles 295 = .ok (.bipush 30, 2) := by decide +kernel
theorem dL_profiles_297 : decode cL_profiles 297 = .ok (.invokestatic 91, 3) := by decide +kernel
theorem dL_profiles_300 : decode cL_profiles 300 = .ok (.ifCond .ne 10, 3) := by decide +kernel
theorem dL_profiles_303 : decode cL_profiles 303 = .ok (.iload 11, 2) := by decide +kernel
theorem dL_profiles_305 : decode cL_profiles 305 = .ok (.iconst 1, 1) := by decide +kernel
theorem dL_profiles_306 : decode cL_profiles 306 = .ok (.isub, 1) := by decide +kernel
theorem dL_profiles_307 : decode cL_profiles 307 = .ok (.goto 38, 3) := by decide +kernel
theorem dL_profiles_310 : decode cL_profiles 310 = .ok (.iload_n 2, 1) := by decide +kernel
theorem dL_profiles_311 : decode cL_profiles 311 = .ok (.bipush 6, 2) := by decide +kernel
theorem dL_profiles_313 : decode cL_profiles 313 = .ok (.ishr, 1) := by decide +kernel
theorem dL_profiles_314 : decode cL_profiles 314 = .ok (.bipush 30, 2) := by decide +kernel
theorem dL_profiles_316 : decode cL_profiles 316 = .ok (.invokestatic 91, 3) := by decide +kernel
theorem dL_profiles_319 : decode cL_profiles 319 = .ok (.iconst 1, 1) := by decide +kernel
theorem dL_profiles_320 : decode cL_profiles 320 = .ok (.if_icmp .ne 9, 3) := by decide +kernel
theorem dL_profiles_323 : decode cL_profiles 323 = .ok (.sipush 256, 3) := by decide +kernel
theorem dL_profiles_326 : decode cL_profiles 326 = .ok (.goto 19, 3) := by decide +kernel
theorem dL_profiles_329 : decode cL_profiles 329 = .ok (.iload 11, 2) := by decide +kernel
end
section
theorem dL_profiles_331 : decode cL_profiles 331 = .ok (.iload_n 2, 1) := by decide +kernel
theorem dL_profiles_332 : decode cL_profiles 332 = .ok (.bipush 7, 2) := by decide +kernel
theorem dL_profiles_334 : decode cL_profiles 334 = .ok (.ishr, 1) := by decide +kernel
theorem dL_profiles_335 : decode cL_profiles 335 = .ok (.sipush 256, 3) := by decide +kernel
theorem dL_profiles_338 : decode cL_profiles 338 = .ok (.iload 11, 2) := by decide +kernel
theorem dL_profiles_340 : decode cL_profiles 340 = .ok (.isub, 1) := by decide +kernel
theorem dL_profiles_341 : decode cL_profiles 341 = .ok (.invokestatic 91, 3) := by decide +kernel
theorem dL_profiles_344 : decode cL_profiles 344 = .ok (.iadd, 1) := by decide +kernel
theorem dL_profiles_345 : decode cL_profiles 345 = .ok (.istore 12, 2) := by decide +kernel
theorem dL_profiles_347 : decode cL_profiles 347 = .ok (.iload 9, 2) := by decide +kernel
theorem dL_profiles_349 : decode cL_profiles 349 = .ok (.ifCond .eq 13, 3) := by decide +kernel
theorem dL_profiles_352 : decode cL_profiles 352 = .ok (.iload 8, 2) := by decide +kernel
theorem dL_profiles_354 : decode cL_profiles 354 = .ok (.iconst 3, 1) := by decide +kernel
theorem dL_profiles_355 : decode cL_profiles 355 = .ok (.if_icmp .ge 7, 3) := by decide +kernel
theorem dL_profiles_358 : decode cL_profiles 358 = .ok (.iconst 1, 1) := by decide +kernel
theorem dL_profiles_359 : decode cL_profiles 359 = .ok (.goto 4, 3) := by decide +kernel
theorem dL_profiles_362 : decode cL_profiles 362 = .ok (.iconst 0, 1) := by decide +kernel
theorem dL_profiles_363 : decode cL_profiles 363 = .ok (.istore 9, 2) := by decide +kernel
theorem dL_profiles_365 : decode cL_profiles 365 = .ok (.iload 9, 2) := by decide +kernel
theorem dL_profiles_367 : decode cL_profiles 367 = .ok (.ifCond .ne 8, 3) := by decide +kernel
theorem dL_profiles_370 : decode cL_profiles 370 = .ok (.bipush (-101), 2) := by decide +kernel
theorem dL_profiles_372 : decode cL_profiles 372 = .ok (.goto 59, 3) := by decide +kernel
theorem dL_profiles_375 : decode cL_profiles 375 = .ok (.iload 12, 2) := by decide +kernel
theorem dL_profiles_377 : decode cL_profiles 377 = .ok (.iload 11, 2) := by decide +kernel
theorem dL_profiles_379 : decode cL_profiles 379 = .ok (.if_icmp .lt 11, 3) := by decide +kernel
theorem dL_profiles_382 : decode cL_profiles 382 = .ok (.iload 12, 2) := by decide +kernel
theorem dL_profiles_384 : decode cL_profiles 384 = .ok (.sipush 255, 3) := by decide +kernel
theorem dL_profiles_387 : decode cL_profiles 387 = .ok (.if_icmp .le 8, 3) := by decide +kernel
theorem dL_profiles_390 : decode cL_profiles 390 = .ok (.bipush (-102), 2) := by decide +kernel
theorem dL_profiles_392 : decode cL_profiles 392 = .ok (.goto 39, 3) := by decide +kernel
theorem dL_profiles_395 : decode cL_profiles 395 = .ok (.iload 10, 2) := by decide +kernel
theorem dL_profiles_397 : decode cL_profiles 397 = .ok (.ifCond .ne 8, 3) := by decide +kernel
theorem dL_profiles_400 : decode cL_profiles 400 = .ok (.bipush (-103), 2) := by decide +kernel
theorem dL_profiles_402 : decode cL_profiles 402 = .ok (.goto 29, 3) := by decide +kernel
theorem dL_profiles_405 : decode cL_profiles 405 = .ok (.aload 5, 2) := by decide +kernel
theorem dL_profiles_407 : decode cL_profiles 407 = .ok (.bipush 9, 2) := by decide +kernel
theorem dL_profiles_409 : decode cL_profiles 409 = .ok (.iconst 3, 1) := by decide +kernel
theorem dL_profiles_410 : decode cL_profiles 410 = .ok (.iload 7, 2) := by decide +kernel
theorem dL_profiles_412 : decode cL_profiles 412 = .ok (.imul, 1) := by decide +kernel
theorem dL_profiles_413 : decode cL_profiles 413 = .ok (.iadd, 1) := by decide +kernel
theorem dL_profiles_414 : decode cL_profiles 414 = .ok (.iload 8, 2) := by decide +kernel
theorem dL_profiles_416 : decode cL_profiles 416 = .ok (.iadd, 1) := by decide +kernel
theorem dL_profiles_417 : decode cL_profiles 417 = .ok (.iaload, 1) := by decide +kernel
theorem dL_profiles_418 : decode cL_profiles 418 = .ok (.aload 5, 2) := by decide +kernel
theorem dL_profiles_420 : decode cL_profiles 420 = .ok (.iconst 3, 1) := by decide +kernel
theorem dL_profiles_421 : decode cL_profiles 421 = .ok (.iload 7, 2) := by decide +kernel
theorem dL_profiles_423 : decode cL_profiles 423 = .ok (.imul, 1) := by decide +kernel
theorem dL_profiles_424 : decode cL_profiles 424 = .ok (.iload 8, 2) := by decide +kernel
theorem dL_profiles_426 : decode cL_profiles 426 = .ok (.iadd, 1) := by decide +kernel
theorem dL_profiles_427 : decode cL_profiles 427 = .ok (.iaload, 1) := by decide +kernel
theorem dL_profiles_428 : decode cL_profiles 428 = .ok (.isub, 1) := by decide +kernel
theorem dL_profiles_429 : decode cL_profiles 429 = .ok (.iconst 1, 1) := by decide +kernel
theorem dL_profiles_430 : decode cL_profiles 430 = .ok (.iadd, 1) := by decide +kernel
theorem dL_profiles_431 : decode cL_profiles 431 = .ok (.istore 13, 2) := by decide +kernel
theorem dL_profiles_433 : decode cL_profiles 433 = .ok (.iload 13, 2) := by decide +kernel
theorem dL_profiles_435 : decode cL_profiles 435 = .ok (.ifCond .lt 30, 3) := by decide +kernel
theorem dL_profiles_438 : decode cL_profiles 438 = .ok (.aload 5, 2) := by decide +kernel
theorem dL_profiles_440 : decode cL_profiles 440 = .ok (.iconst 3, 1) := by decide +kernel
theorem dL_profiles_441 : decode cL_profiles 441 = .ok (.iload 7, 2) := by decide +kernel
theorem dL_profiles_443 : decode cL_profiles 443 = .ok (.imul, 1) := by decide +kernel
theorem dL_profiles_444 : decode cL_profiles 444 = .ok (.iload 8, 2) := by decide +kernel
theorem dL_profiles_446 : decode cL_profiles 446 = .ok (.iadd, 1) := by decide +kernel
theorem dL_profiles_447 : decode cL_profiles 447 = .ok (.iload 11, 2) := by decide +kernel
theorem dL_profiles_449 : decode cL_profiles 449 = .ok (.iastore, 1) := by decide +kernel
theorem dL_profiles_450 : decode cL_profiles 450 = .ok (.aload 5, 2) := by decide +kernel
theorem dL_profiles_452 : decode cL_profiles 452 = .ok (.bipush 9, 2) := by decide +kernel
theorem dL_profiles_454 : decode cL_profiles 454 = .ok (.iconst 3, 1) := by decide +kernel
theorem dL_profiles_455 : decode cL_profiles 455 = .ok (.iload 7, 2) := by decide +kernel
theorem dL_profiles_457 : decode cL_profiles 457 = .ok (.imul, 1) := by decide +kernel
theorem dL_profiles_458 : decode cL_profiles 458 = .ok (.iadd, 1) := by decide +kernel
theorem dL_profiles_459 : decode cL_profiles 459 = .ok (.iload 8, 2) := by decide +kernel
theorem dL_profiles_461 : decode cL_profiles 461 = .ok (.iadd, 1) := by decide +kernel
theorem dL_profiles_462 : decode cL_profiles 462 = .ok (.iload 12, 2) := by decide +kernel
theorem dL_profiles_464 : decode cL_profiles 464 = .ok (.iastore, 1) := by decide +kernel
theorem dL_profiles_465 : decode cL_profiles 465 = .ok (.aload_n 0, 1) := by decide +kernel
theorem dL_profiles_466 : decode cL_profiles 466 = .ok (.iload 7, 2) := by decide +kernel
theorem dL_profiles_468 : decode cL_profiles 468 = .ok (.iload 8, 2) := by decide +kernel
theorem dL_profiles_470 : decode cL_profiles 470 = .ok (.iload 11, 2) := by decide +kernel
theorem dL_profiles_472 : decode cL_profiles 472 = .ok (.iload 12, 2) := by decide +kernel
theorem dL_profiles_474 : decode cL_profiles 474 = .ok (.invokestatic 105, 3) := by decide +kernel
theorem dL_profiles_477 : decode cL_profiles 477 = .ok (.iload 13, 2) := by decide +kernel
theorem dL_profiles_479 : decode cL_profiles 479 = .ok (.if_icmp .ne 7, 3) := by decide +kernel
theorem dL_profiles_482 : decode cL_profiles 482 = .ok (.iconst 1, 1) := by decide +kernel
theorem dL_profiles_483 : decode cL_profiles 483 = .ok (.goto 4, 3) := by decide +kernel
theorem dL_profiles_486 : decode cL_profiles 486 = .ok (.iconst 0, 1) := by decide +kernel
theorem dL_profiles_487 : decode cL_profiles 487 = .ok (.ireturn, 1) := by decide +kernel
theorem dL_profiles_488 : decode cL_profiles 488 = .ok (.iload_n 2, 1) := by decide +kernel
theorem dL_profiles_489 : decode cL_profiles 489 = .ok (.iconst 4, 1) := by decide +kernel
theorem dL_profiles_490 : decode cL_profiles 490 = .ok (.ishr, 1) := by decide +kernel
theorem dL_profiles_491 : decode cL_profiles 491 = .ok (.bipush 20, 2) := by decide +kernel
theorem dL_profiles_493 : decode cL_profiles 493 = .ok (.invokestatic 91, 3) := by decide +kernel
theorem dL_profiles_496 : decode cL_profiles 496 = .ok (.ifCond .ne 7, 3) := by decide +kernel
theorem dL_profiles_499 : decode cL_profiles 499 = .ok (.iconst 3, 1) := by decide +kernel
theorem dL_profiles_500 : decode cL_profiles 500 = .ok (.goto 10, 3) := by decide +kernel
theorem dL_profiles_503 : decode cL_profiles 503 = .ok (.iload_n 2, 1) := by decide +kernel
theorem dL_profiles_504 : decode cL_profiles 504 = .ok (.iconst 4, 1) := by decide +kernel
theorem dL_profiles_505 : decode cL_profiles 505 = .ok (.ishr, 1) := by decide +kernel
theorem dL_profiles_506 : decode cL_profiles 506 = .ok (.iconst 3, 1) := by decide +kernel
theorem dL_profiles_507 : decode cL_profiles 507 = .ok (.invokestatic 91, 3) := by decide +kernel
theorem dL_profiles_510 : decode cL_profiles 510 = .ok (.istore 11, 2) := by decide +kernel
theorem dL_profiles_512 : decode cL_profiles 512 = .ok (.iload 9, 2) := by decide +kernel
theorem dL_profiles_514 : decode cL_profiles 514 = .ok (.ifCond .ne 8, 3) := by decide +kernel
theorem dL_profiles_517 : decode cL_profiles 517 = .ok (.bipush (-101), 2) := by decide +kernel
theorem dL_profiles_519 : decode cL_profiles 519 = .ok (.goto 31, 3) := by decide +kernel
theorem dL_profiles_522 : decode cL_profiles 522 = .ok (.iload 11, 2) := by decide +kernel
theorem dL_profiles_524 : decode cL_profiles 524 = .ok (.iconst 2, 1) := by decide +kernel
theorem dL_profiles_525 : decode cL_profiles 525 = .ok (.if_icmp .le 8, 3) := by decide +kernel
theorem dL_profiles_528 : decode cL_profiles 528 = .ok (.bipush (-102), 2) := by decide +kernel
theorem dL_profiles_530 : decode cL_profiles 530 = .ok (.goto 20, 3) := by decide +kernel
theorem dL_profiles_533 : decode cL_profiles 533 = .ok (.iload 10, 2) := by decide +kernel
theorem dL_profiles_535 : decode cL_profiles 535 = .ok (.ifCond .ne 8, 3) := by decide +kernel
theorem dL_profiles_538 : decode cL_profiles 538 = .ok (.bipush (-103), 2) := by decide +kernel
theorem dL_profiles_540 : decode cL_profiles 540 = .ok (.goto 10, 3) := by decide +kernel
theorem dL_profiles_543 : decode cL_profiles 543 = .ok (.aload_n 3, 1) := by decide +kernel
theorem dL_profiles_544 : decode cL_profiles 544 = .ok (.bipush 8, 2) := by decide +kernel
theorem dL_profiles_546 : decode cL_profiles 546 = .ok (.iload 7, 2) := by decide +kernel
theorem dL_profiles_548 : decode cL_profiles 548 = .ok (.iadd, 1) := by decide +kernel
theorem dL_profiles_549 : decode cL_profiles 549 = .ok (.iaload, 1) := by decide +kernel
theorem dL_profiles_550 : decode cL_profiles 550 = .ok (.istore 12, 2) := by decide +kernel
theorem dL_profiles_552 : decode cL_profiles 552 = .ok (.iload 12, 2) := by decide +kernel
theorem dL_profiles_554 : decode cL_profiles 554 = .ok (.ifCond .lt 12, 3) := by decide +kernel
theorem dL_profiles_557 : decode cL_profiles 557 = .ok (.aload_n 3, 1) := by decide +kernel
theorem dL_profiles_558 : decode cL_profiles 558 = .ok (.bipush 8, 2) := by decide +kernel
theorem dL_profiles_560 : decode cL_profiles 560 = .ok (.iload 7, 2) := by decide +kernel
theorem dL_profiles_562 : decode cL_profiles 562 = .ok (.iadd, 1) := by decide +kernel
theorem dL_profiles_563 : decode cL_profiles 563 = .ok (.iload 11, 2) := by decide +kernel
theorem dL_profiles_565 : decode cL_profiles 565 = .ok (.iastore, 1) := by decide +kernel
theorem dL_profiles_566 : decode cL_profiles 566 = .ok (.aload_n 0, 1) := by decide +kernel
theorem dL_profiles_567 : decode cL_profiles 567 = .ok (.iconst 0, 1) := by decide +kernel
theorem dL_profiles_568 : decode cL_profiles 568 = .ok (.iload 7, 2) := by decide +kernel
theorem dL_profiles_570 : decode cL_profiles 570 = .ok (.iload 11, 2) := by decide +kernel
theorem dL_profiles_572 : decode cL_profiles 572 = .ok (.invokestatic 108, 3) := by decide +kernel
theorem dL_profiles_575 : decode cL_profiles 575 = .ok (.iload 12, 2) := by decide +kernel
theorem dL_profiles_577 : decode cL_profiles 577 = .ok (.if_icmp .ne 7, 3) := by decide +kernel
theorem dL_profiles_580 : decode cL_profiles 580 = .ok (.iconst 1, 1) := by decide +kernel
theorem dL_profiles_581 : decode cL_profiles 581 = .ok (.goto 4, 3) := by decide +kernel
theorem dL_profiles_584 : decode cL_profiles 584 = .ok (.iconst 0, 1) := by decide +kernel
theorem dL_profiles_585 : decode cL_profiles 585 = .ok (.ireturn, 1) := by decide +kernel
set_option maxRecDepth 20000 in
theorem ggL_rows_L_some : GoodIn wsL_rows wsL_some := goodIn_r _ [4] (by decide +kernel) (by decide +kernel)
set_option maxRecDepth 20000 in
theorem gL_rows_L_some : GoodIn wsL_rows (va_wsS RL 91 yL_some wsL_some) := goodIn_app (goodIn_of _ (by decide +kernel)) ggL_rows_L_some
set_option maxRecDepth 20000 in
theorem ggL_rows_L_sets : GoodIn wsL_rows wsL_sets := goodIn_ca (goodIn_ca (goodIn_ca (goodIn_r _ [7, 8, 9, 10, 11, 12, 13, 14, 15, 16, 17, 18, 19, 20, 21, 22, 23, 24, 25, 26, 27, 28, 29, 30, 31, 32, 33, 34, 35, 36, 37, 38, 39, 40, 41, 42, 43, 44, 45, 46, 47, 48, 49, 50, 51, 52, 53, 54, 55, 56, 57, 58, 59, 60, 61, 62, 63, 64, 65, 66, 67, 68, 69, 70, 71, 72, 73, 74, 75, 76, 77, 78, 79, 80, 81, 82, 83, 84, 85, 86, 87, 88, 89, 90, 91, 92, 93, 94, 95, 96, 97, 98, 99, 100, 101, 102, 103, 104, 105, 106, 107, 108, 109, 110, 111, 112, 113, 114, 115, 116, 155, 156, 157, 158, 159, 160, 161, 162, 163, 164, 165, 166, 167, 168, 169] (by decide +kernel) (by decide +kernel)) (goodIn_sub (fun _ h => List.mem_cons_of_mem _ (List.mem_append_left _ (List.mem_append_left _ (List.mem_append_right _ h)))) (by decide +kernel))) (goodIn_sub (fun _ h => List.mem_cons_of_mem _ (List.mem_append_left _ (List.mem_append_right _ h))) (by decide +kernel))) (goodIn_sub (fun _ h => List.mem_cons_of_mem _ (List.mem_append_right _ h)) (by decide +kernel))
set_option maxRecDepth 20000 in
theorem gL_rows_L_sets : GoodIn wsL_rows (va_wsS RL 108 yL_sets wsL_sets) := goodIn_app (goodIn_of _ (by decide +kernel)) ggL_rows_L_sets
set_option maxRecDepth 20000 in
theorem ggL_rows_L_chains : GoodIn wsL_rows wsL_chains := goodIn_ca (goodIn_ca (goodIn_r _ [119, 8, 10, 120, 121, 122, 14, 123, 30, 31, 44, 45, 56, 57, 58, 59, 23, 24, 60, 61, 62, 63, 64, 36, 37, 38, 39, 46, 47, 48, 49, 50, 51, 124, 125, 126, 127, 128, 129, 130, 131, 75, 76, 77, 78, 70, 79, 80, 81, 82, 83, 84, 85, 86, 87, 88, 89, 90, 91, 92, 93, 94, 95, 96, 97, 98, 99, 100, 101, 18, 102, 103, 104, 105, 106, 107, 108, 109, 110, 111, 112, 113, 114, 115, 116, 132, 133, 134, 135, 155, 156, 157, 158, 159, 160, 161, 162, 163, 164, 165, 166, 167, 168, 169] (by decide +kernel) (by decide +kernel)) (goodIn_sub (fun _ h => List.mem_cons_of_mem _ (List.mem_append_right _ h)) (by decide +kernel))) (goodIn_sub (fun _ h => List.mem_cons_of_mem _ (List.mem_append_left _ (List.mem_append_right _ h))) (by decide +kernel))
set_option maxRecDepth 20000 in
theorem gL_rows_L_chains : GoodIn wsL_rows (va_wsS RL 112 yL_chains wsL_chains) := goodIn_app (goodIn_of _ (by decide +kernel)) ggL_rows_L_chains
set_option maxRecDepth 20000 in
theorem ggL_rows_L_gap : GoodIn wsL_rows wsL_gap := goodIn_r _ [138, 139, 140, 141, 3, 142, 143, 144, 145, 146, 147, 148, 149, 150, 151, 152, 153, 154] (by decide +kernel) (by decide +kernel)
set_option maxRecDepth 20000 in
theorem gL_rows_L_gap : GoodIn wsL_rows (va_wsS RL 116 yL_gap wsL_gap) := goodIn_app (goodIn_of _ (by decide +kernel)) ggL_rows_L_gap
set_option maxRecDepth 20000 in
theorem ggL_rows_L_at : GoodIn wsL_rows wsL_at := goodIn_r _ [142] (by decide +kernel) (by decide +kernel)
set_option maxRecDepth 20000 in
theorem gL_rows_L_at : GoodIn wsL_rows (va_wsS RL 9 yL_at wsL_at) := goodIn_app (goodIn_of _ (by decide +kernel)) ggL_rows_L_at
set_option maxRecDepth 20000 in
theorem ggL_rows_L_through : GoodIn wsL_rows wsL_through := goodIn_r _ [145, 146, 147, 3, 148, 149, 150, 151, 140, 141, 142] (by decide +kernel) (by decide +kernel)
set_option maxRecDepth 20000 in
theorem gL_rows_L_through : GoodIn wsL_rows (va_wsS RL 23 yL_through wsL_through) := goodIn_app (goodIn_of _ (by decide +kernel)) ggL_rows_L_through
theorem dL_rows_0 : decode cL_rows 0 = .ok (.iload_n 2, 1) := by decide +kernel
theorem dL_rows_1 : decode cL_rows 1 = .ok (.aload_n 3, 1) := by decide +kernel
theorem dL_rows_2 : decode cL_rows 2 = .ok (.iconst 1, 1) := by decide +kernel
theorem dL_rows_3 : decode cL_rows 3 = .ok (.iaload, 1) := by decide +kernel
theorem dL_rows_4 : decode cL_rows 4 = .ok (.iconst 1, 1) := by decide +kernel
theorem dL_rows_5 : decode cL_rows 5 = .ok (.iadd, 1) := by decide +kernel
theorem dL_rows_6 : decode cL_rows 6 = .ok (.invokestatic 91, 3) := by decide +kernel
theorem dL_rows_9 : decode cL_rows 9 = .ok (.iload_n 2, 1) := by decide +kernel
theorem dL_rows_10 : decode cL_rows 10 = .ok (.bipush 11, 2) := by decide +kernel
theorem dL_rows_12 : decode cL_rows 12 = .ok (.ishr, 1) := by decide +kernel
theorem dL_rows_13 : decode cL_rows 13 = .ok (.bipush 19, 2) := by decide +kernel
theorem dL_rows_15 : decode cL_rows 15 = .ok (.invokestatic 91, 3) := by decide +kernel
theorem dL_rows_18 : decode cL_rows 18 = .ok (.ifCond .ne 7, 3) := by decide +kernel
theorem dL_rows_21 : decode cL_rows 21 = .ok (.iconst 1, 1) := by decide +kernel
theorem dL_rows_22 : decode cL_rows 22 = .ok (.goto 4, 3) := by decide +kernel
theorem dL_rows_25 : decode cL_rows 25 = .ok (.iconst 0, 1) := by decide +kernel
theorem dL_rows_26 : decode cL_rows 26 = .ok (.isub, 1) := by decide +kernel
theorem dL_rows_27 : decode cL_rows 27 = .ok (.istore 8, 2) := by decide +kernel
theorem dL_rows_29 : decode cL_rows 29 = .ok (.iload 8, 2) := by decide +kernel
theorem dL_rows_31 : decode cL_rows 31 = .ok (.ifCond .lt 15, 3) := by decide +kernel
theorem dL_rows_34 : decode cL_rows 34 = .ok (.iload 8, 2) := by decide +kernel
theorem dL_rows_36 : decode cL_rows 36 = .ok (.aload_n 3, 1) := by decide +kernel
theorem dL_rows_37 : decode cL_rows 37 = .ok (.iconst 1, 1) := by decide +kernel
theorem dL_rows_38 : decode cL_rows 38 = .ok (.iaload, 1) := by decide +kernel
theorem dL_rows_39 : decode cL_rows 39 = .ok (.if_icmp .ge 7, 3) := by decide +kernel
theorem dL_rows_42 : decode cL_rows 42 = .ok (.iconst 1, 1) := by decide +kernel
theorem dL_rows_43 : decode cL_rows 43 = .ok (.goto 4, 3) := by decide +kernel
theorem dL_rows_46 : decode cL_rows 46 = .ok (.iconst 0, 1) := by decide +kernel
theorem dL_rows_47 : decode cL_rows 47 = .ok (.istore 9, 2) := by decide +kernel
theorem dL_rows_49 : decode cL_rows 49 = .ok (.iload_n 1, 1) := by decide +kernel
theorem dL_rows_50 : decode cL_rows 50 = .ok (.ifCond .ne 131, 3) := by decide +kernel
theorem dL_rows_53 : decode cL_rows 53 = .ok (.iload_n 2, 1) := by decide +kernel
theorem dL_rows_54 : decode cL_rows 54 = .ok (.iconst 4, 1) := by decide +kernel
theorem dL_rows_55 : decode cL_rows 55 = .ok (.ishr, 1) := by decide +kernel
theorem dL_rows_56 : decode cL_rows 56 = .ok (.aload_n 3, 1) := by decide +kernel
theorem dL_rows_57 : decode cL_rows 57 = .ok (.iconst 0, 1) := by decide +kernel
theorem dL_rows_58 : decode cL_rows 58 = .ok (.iaload, 1) := by decide +kernel
theorem dL_rows_59 : decode cL_rows 59 = .ok (.iconst 1, 1) := by decide +kernel
theorem dL_rows_60 : decode cL_rows 60 = .ok (.iadd, 1) := by decide +kernel
theorem dL_rows_61 : decode cL_rows 61 = .ok (.invokestatic 91, 3) := by decide +kernel
theorem dL_rows_64 : decode cL_rows 64 = .ok (.istore 10, 2) := by decide +kernel
theorem dL_rows_66 : decode cL_rows 66 = .ok (.iload 9, 2) := by decide +kernel
theorem dL_rows_68 : decode cL_rows 68 = .ok (.ifCond .eq 15, 3) := by decide +kernel
theorem dL_rows_71 : decode cL_rows 71 = .ok (.iload 10, 2) := by decide +kernel
theorem dL_rows_73 : decode cL_rows 73 = .ok (.aload_n 3, 1) := by decide +kernel
theorem dL_rows_74 : decode cL_rows 74 = .ok (.iconst 0, 1) := by decide +kernel
theorem dL_rows_75 : decode cL_rows 75 = .ok (.iaload, 1) := by decide +kernel
theorem dL_rows_76 : decode cL_rows 76 = .ok (.if_icmp .ge 7, 3) := by decide +kernel
theorem dL_rows_79 : decode cL_rows 79 = .ok (.iconst 1, 1) := by decide +kernel
theorem dL_rows_80 : decode cL_rows 80 = .ok (.goto 4, 3) := by decide +kernel
theorem dL_rows_83 : decode cL_rows 83 = .ok (.iconst 0, 1) := by decide +kernel
theorem dL_rows_84 : decode cL_rows 84 = .ok (.istore 11, 2) := by decide +kernel
theorem dL_rows_86 : decode cL_rows 86 = .ok (.iload 11, 2) := by decide +kernel
theorem dL_rows_88 : decode cL_rows 88 = .ok (.ifCond .ne 8, 3) := by decide +kernel
theorem dL_rows_91 : decode cL_rows 91 = .ok (.bipush (-101), 2) := by decide +kernel
theorem dL_rows_93 : decode cL_rows 93 = .ok (.goto 38, 3) := by decide +kernel
theorem dL_rows_96 : decode cL_rows 96 = .ok (.aload_n 3, 1) := by decide +kernel
theorem dL_rows_97 : decode cL_rows 97 = .ok (.bipush 6, 2) := by decide +kernel
theorem dL_rows_99 : decode cL_rows 99 = .ok (.iload 8, 2) := by decide +kernel
theorem dL_rows_101 : decode cL_rows 101 = .ok (.iadd, 1) := by decide +kernel
theorem dL_rows_102 : decode cL_rows 102 = .ok (.iaload, 1) := by decide +kernel
theorem dL_rows_103 : decode cL_rows 103 = .ok (.iconst 1, 1) := by decide +kernel
theorem dL_rows_104 : decode cL_rows 104 = .ok (.if_icmp .eq 14, 3) := by decide +kernel
theorem dL_rows_107 : decode cL_rows 107 = .ok (.aload_n 3, 1) := by decide +kernel
theorem dL_rows_108 : decode cL_rows 108 = .ok (.iconst 2, 1) := by decide +kernel
theorem dL_rows_109 : decode cL_rows 109 = .ok (.iload 8, 2) := by decide +kernel
theorem dL_rows_111 : decode cL_rows 111 = .ok (.iadd, 1) := by decide +kernel
theorem dL_rows_112 : decode cL_rows 112 = .ok (.iaload, 1) := by decide +kernel
theorem dL_rows_113 : decode cL_rows 113 = .ok (.bipush 6, 2) := by decide +kernel
theorem dL_rows_115 : decode cL_rows 115 = .ok (.if_icmp .ne 8, 3) := by decide +kernel
theorem dL_rows_118 : decode cL_rows 118 = .ok (.bipush (-103), 2) := by decide +kernel
theorem dL_rows_120 : decode cL_rows 120 = .ok (.goto 11, 3) := by decide +kernel
theorem dL_rows_123 : decode cL_rows 123 = .ok (.aload_n 3, 1) := by decide +kernel
theorem dL_rows_124 : decode cL_rows 124 = .ok (.iconst 2, 1) := by decide +kernel
theorem dL_rows_125 : decode cL_rows 125 = .ok (.iload 8, 2) := by decide +kernel
theorem dL_rows_127 : decode cL_rows 127 = .ok (.iadd, 1) := by decide +kernel
theorem dL_rows_128 : decode cL_rows 128 = .ok (.iaload, 1) := by decide +kernel
theorem dL_rows_129 : decode cL_rows 129 = .ok (.iconst 1, 1) := by decide +kernel
theorem dL_rows_130 : decode cL_rows 130 = .ok (.iadd, 1) := by decide +kernel
theorem dL_rows_131 : decode cL_rows 131 = .ok (.istore 12, 2) := by decide +kernel
theorem dL_rows_133 : decode cL_rows 133 = .ok (.iload 12, 2) := by decide +kernel
theorem dL_rows_135 : decode cL_rows 135 = .ok (.ifCond .le 26, 3) := by decide +kernel
theorem dL_rows_138 : decode cL_rows 138 = .ok (.aload 6, 2) := by decide +kernel
theorem dL_rows_140 : decode cL_rows 140 = .ok (.bipush 6, 2) := by decide +kernel
theorem dL_rows_142 : decode cL_rows 142 = .ok (.iload 8, 2) := by decide +kernel
theorem dL_rows_144 : decode cL_rows 144 = .ok (.imul, 1) := by decide +kernel
theorem dL_rows_145 : decode cL_rows 145 = .ok (.iload 12, 2) := by decide +kernel
theorem dL_rows_147 : decode cL_rows 147 = .ok (.iadd, 1) := by decide +kernel
theorem dL_rows_148 : decode cL_rows 148 = .ok (.iconst 1, 1) := by decide +kernel
theorem dL_rows_149 : decode cL_rows 149 = .ok (.isub, 1) := by decide +kernel
theorem dL_rows_150 : decode cL_rows 150 = .ok (.iload 10, 2) := by decide +kernel
theorem dL_rows_152 : decode cL_rows 152 = .ok (.iastore, 1) := by decide +kernel
theorem dL_rows_153 : decode cL_rows 153 = .ok (.aload_n 3, 1) := by decide +kernel
theorem dL_rows_154 : decode cL_rows 154 = .ok (.iconst 2, 1) := by decide +kernel
theorem dL_rows_155 : decode cL_rows 155 = .ok (.iload 8, 2) := by decide +kernel
theorem dL_rows_157 : decode cL_rows 157 = .ok (.iadd, 1) := by decide +kernel
theorem dL_rows_158 : decode cL_rows 158 = .ok (.iload 12, 2) := by decide +kernel
theorem dL_rows_160 : decode cL_rows 160 = .ok (.iastore, 1) := by decide +kernel
theorem dL_rows_161 : decode cL_rows 161 = .ok (.aload_n 0, 1) := by decide +kernel
theorem dL_rows_162 : decode cL_rows 162 = .ok (.iconst 1, 1) := by decide +kernel
theorem dL_rows_163 : decode cL_rows 163 = .ok (.iload 8, 2) := by decide +kernel
theorem dL_rows_165 : decode cL_rows 165 = .ok (.iload 10, 2) := by decide +kernel
theorem dL_rows_167 : decode cL_rows 167 = .ok (.invokestatic 108, 3) := by decide +kernel
theorem dL_rows_170 : decode cL_rows 170 = .ok (.iload 12, 2) := by decide +kernel
theorem dL_rows_172 : decode cL_rows 172 = .ok (.if_icmp .ne 7, 3) := by decide +kernel
theorem dL_rows_175 : decode cL_rows 175 = .ok (.iconst 1, 1) := by decide +kernel
theorem dL_rows_176 : decode cL_rows 176 = .ok (.goto 4, 3) := by decide +kernel
theorem dL_rows_179 : decode cL_rows 179 = .ok (.iconst 0, 1) := by decide +kernel
theorem dL_rows_180 : decode cL_rows 180 = .ok (.ireturn, 1) := by decide +kernel
theorem dL_rows_181 : decode cL_rows 181 = .ok (.iload_n 1, 1) := by decide +kernel
theorem dL_rows_182 : decode cL_rows 182 = .ok (.iconst 1, 1) := by decide +kernel
theorem dL_rows_183 : decode cL_rows 183 = .ok (.if_icmp .ne 90, 3) := by decide +kernel
theorem dL_rows_186 : decode cL_rows 186 = .ok (.iload 9, 2) := by decide +kernel
theorem dL_rows_188 : decode cL_rows 188 = .ok (.ifCond .ne 8, 3) := by decide +kernel
theorem dL_rows_191 : decode cL_rows 191 = .ok (.bipush (-101), 2) := by decide +kernel
theorem dL_rows_193 : decode cL_rows 193 = .ok (.goto 45, 3) := by decide +kernel
theorem dL_rows_196 : decode cL_rows 196 = .ok (.aload_n 3, 1) := by decide +kernel
theorem dL_rows_197 : decode cL_rows 197 = .ok (.bipush 6, 2) := by decide +kernel
theorem dL_rows_199 : decode cL_rows 199 = .ok (.iload 8, 2) := by decide +kernel
theorem dL_rows_201 : decode cL_rows 201 = .ok (.iadd, 1) := by decide +kernel
theorem dL_rows_202 : decode cL_rows 202 = .ok (.iaload, 1) := by decide +kernel
theorem dL_rows_203 : decode cL_rows 203 = .ok (.iconst 1, 1) := by decide +kernel
theorem dL_rows_204 : decode cL_rows 204 = .ok (.if_icmp .eq 12, 3) := by decide +kernel
theorem dL_rows_207 : decode cL_rows 207 = .ok (.aload_n 3, 1) := by decide +kernel
theorem dL_rows_208 : decode cL_rows 208 = .ok (.iconst 2, 1) := by decide +kernel
theorem dL_rows_209 : decode cL_rows 209 = .ok (.iload 8, 2) := by decide +kernel
theorem dL_rows_211 : decode cL_rows 211 = .ok (.iadd, 1) := by decide +kernel
theorem dL_rows_212 : decode cL_rows 212 = .ok (.iaload, 1) := by decide +kernel
theorem dL_rows_213 : decode cL_rows 213 = .ok (.ifCond .ne 8, 3) := by decide +kernel
theorem dL_rows_216 : decode cL_rows 216 = .ok (.bipush (-103), 2) := by decide +kernel
theorem dL_rows_218 : decode cL_rows 218 = .ok (.goto 20, 3) := by decide +kernel
theorem dL_rows_221 : decode cL_rows 221 = .ok (.aload 6, 2) := by decide +kernel
theorem dL_rows_223 : decode cL_rows 223 = .ok (.bipush 6, 2) := by decide +kernel
theorem dL_rows_225 : decode cL_rows 225 = .ok (.iload 8, 2) := by decide +kernel
theorem dL_rows_227 : decode cL_rows 227 = .ok (.imul, 1) := by decide +kernel
theorem dL_rows_228 : decode cL_rows 228 = .ok (.aload_n 3, 1) := by decide +kernel
theorem dL_rows_229 : decode cL_rows 229 = .ok (.iconst 2, 1) := by decide +kernel
theorem dL_rows_230 : decode cL_rows 230 = .ok (.iload 8, 2) := by decide +kernel
theorem dL_rows_232 : decode cL_rows 232 = .ok (.iadd, 1) := by decide +kernel
theorem dL_rows_233 : decode cL_rows 233 = .ok (.iaload, 1) := by decide +kernel
theorem dL_rows_234 : decode cL_rows 234 = .ok (.iadd, 1) := by decide +kernel
theorem dL_rows_235 : decode cL_rows 235 = .ok (.iconst 1, 1) := by decide +kernel
theorem dL_rows_236 : decode cL_rows 236 = .ok (.isub, 1) := by decide +kernel
theorem dL_rows_237 : decode cL_rows 237 = .ok (.iaload, 1) := by decide +kernel
theorem dL_rows_238 : decode cL_rows 238 = .ok (.istore 10, 2) := by decide +kernel
theorem dL_rows_240 : decode cL_rows 240 = .ok (.iload 10, 2) := by decide +kernel
theorem dL_rows_242 : decode cL_rows 242 = .ok (.ifCond .lt 13, 3) := by decide +kernel
theorem dL_rows_245 : decode cL_rows 245 = .ok (.aload_n 3, 1) := by decide +kernel
theorem dL_rows_246 : decode cL_rows 246 = .ok (.iconst 2, 1) := by decide +kernel
theorem dL_rows_247 : decode cL_rows 247 = .ok (.iload 8, 2) := by decide +kernel
theorem dL_rows_249 : decode cL_rows 249 = .ok (.iadd, 1) := by decide +kernel
theorem dL_rows_250 : decode cL_rows 250 = .ok (.dup2, 1) := by decide +kernel
theorem dL_rows_251 : decode cL_rows 251 = .ok (.iaload, 1) := by decide +kernel
theorem dL_rows_252 : decode cL_rows 252 = .ok (.iconst 1, 1) := by decide +kernel
theorem dL_rows_253 : decode cL_rows 253 = .ok (.isub, 1) := by decide +kernel
theorem dL_rows_254 : decode cL_rows 254 = .ok (.iastore, 1) := by decide +kernel
theorem dL_rows_255 : decode cL_rows 255 = .ok (.aload_n 0, 1) := by decide +kernel
theorem dL_rows_256 : decode cL_rows 256 = .ok (.iconst 0, 1) := by decide +kernel
theorem dL_rows_257 : decode cL_rows 257 = .ok (.iload 8, 2) := by decide +kernel
theorem dL_rows_259 : decode cL_rows 259 = .ok (.invokestatic 112, 3) := by decide +kernel
theorem dL_rows_262 : decode cL_rows 262 = .ok (.iload 10, 2) := by decide +kernel
theorem dL_rows_264 : decode cL_rows 264 = .ok (.if_icmp .ne 7, 3) := by decide +kernel
theorem dL_rows_267 : decode cL_rows 267 = .ok (.iconst 1, 1) := by decide +kernel
theorem dL_rows_268 : decode cL_rows 268 = .ok (.goto 4, 3) := by decide +kernel
theorem dL_rows_271 : decode cL_rows 271 = .ok (.iconst 0, 1) := by decide +kernel
theorem dL_rows_272 : decode cL_rows 272 = .ok (.ireturn, 1) := by decide +kernel
theorem dL_rows_273 : decode cL_rows 273 = .ok (.iload_n 1, 1) := by decide +kernel
theorem dL_rows_274 : decode cL_rows 274 = .ok (.iconst 2, 1) := by decide +kernel
theorem dL_rows_275 : decode cL_rows 275 = .ok (.if_icmp .ne 57, 3) := by decide +kernel
theorem dL_rows_278 : decode cL_rows 278 = .ok (.iload 9, 2) := by decide +kernel
theorem dL_rows_280 : decode cL_rows 280 = .ok (.ifCond .eq 19, 3) := by decide +kernel
theorem dL_rows_283 : decode cL_rows 283 = .ok (.aload_n 3, 1) := by decide +kernel
theorem dL_rows_284 : decode cL_rows 284 = .ok (.bipush 6, 2) := by decide +kernel
theorem dL_rows_286 : decode cL_rows 286 = .ok (.iload 8, 2) := by decide +kernel
theorem dL_rows_288 : decode cL_rows 288 = .ok (.iadd, 1) := by decide +kernel
theorem dL_rows_289 : decode cL_rows 289 = .ok (.iconst 1, 1) := by decide +kernel
theorem dL_rows_290 : decode cL_rows 290 = .ok (.aload_n 3, 1) := by decide +kernel
theorem dL_rows_291 : decode cL_rows 291 = .ok (.bipush 6, 2) := by decide +kernel
theorem dL_rows_293 : decode cL_rows 293 = .ok (.iload 8, 2) := by decide +kernel
theorem dL_rows_295 : decode cL_rows 295 = .ok (.iadd, 1) := by decide +kernel
theorem dL_rows_296 : decode cL_rows 296 = .ok (.iaload, 1) := by decide +kernel
theorem dL_rows_297 : decode cL_rows 297 = .ok (.isub, 1) := by decide +kernel
theorem dL_rows_298 : decode cL_rows 298 = .ok (.iastore, 1) := by decide +kernel
theorem dL_rows_299 : decode cL_rows 299 = .ok (.aload_n 0, 1) := by decide +kernel
theorem dL_rows_300 : decode cL_rows 300 = .ok (.iconst 1, 1) := by decide +kernel
theorem dL_rows_301 : decode cL_rows 301 = .ok (.iload 8, 2) := by decide +kernel
theorem dL_rows_303 : decode cL_rows 303 = .ok (.invokestatic 112, 3) := by decide +kernel
theorem dL_rows_306 : decode cL_rows 306 = .ok (.iload 9, 2) := by decide +kernel
theorem dL_rows_308 : decode cL_rows 308 = .ok (.ifCond .eq 13, 3) := by decide +kernel
theorem dL_rows_311 : decode cL_rows 311 = .ok (.aload_n 3, 1) := by decide +kernel
theorem dL_rows_312 : decode cL_rows 312 = .ok (.bipush 6, 2) := by decide +kernel
theorem dL_rows_314 : decode cL_rows 314 = .ok (.iload 8, 2) := by decide +kernel
theorem dL_rows_316 : decode cL_rows 316 = .ok (.iadd, 1) := by decide +kernel
theorem dL_rows_317 : decode cL_rows 317 = .ok (.iaload, 1) := by decide +kernel
theorem dL_rows_318 : decode cL_rows 318 = .ok (.goto 5, 3) := by decide +kernel
theorem dL_rows_321 : decode cL_rows 321 = .ok (.bipush (-101), 2) := by decide +kernel
theorem dL_rows_323 : decode cL_rows 323 = .ok (.if_icmp .ne 7, 3) := by decide +kernel
theorem dL_rows_326 : decode cL_rows 326 = .ok (.iconst 1, 1) := by decide +kernel
theorem dL_rows_327 : decode cL_rows 327 = .ok (.goto 4, 3) := by decide +kernel
theorem dL_rows_330 : decode cL_rows 330 = .ok (.iconst 0, 1) := by decide +kernel
theorem dL_rows_331 : decode cL_rows 331 = .ok (.ireturn, 1) := by decide +kernel
theorem dL_rows_332 : decode cL_rows 332 = .ok (.iload_n 2, 1) := by decide +kernel
theorem dL_rows_333 : decode cL_rows 333 = .ok (.iconst 4, 1) := by decide +kernel
theorem dL_rows_334 : decode cL_rows 334 = .ok (.ishr, 1) := by decide +kernel
theorem dL_rows_335 : decode cL_rows 335 = .ok (.bipush 20, 2) := by decide +kernel
theorem dL_rows_337 : decode cL_rows 337 = .ok (.invokestatic 91, 3) := by decide +kernel
theorem dL_rows_340 : decode cL_rows 340 = .ok (.ifCond .ne 9, 3) := by decide +kernel
theorem dL_rows_343 : decode cL_rows 343 = .ok (.sipush 256, 3) := by decide +kernel
theorem dL_rows_346 : decode cL_rows 346 = .ok (.goto 27, 3) := by decide +kernel
theorem dL_rows_349 : decode cL_rows 349 = .ok (.iload_n 2, 1) := by decide +kernel
theorem dL_rows_350 : decode cL_rows 350 = .ok (.iconst 4, 1) := by decide +kernel
theorem dL_rows_351 : decode cL_rows 351 = .ok (.ishr, 1) := by decide +kernel
theorem dL_rows_352 : decode cL_rows 352 = .ok (.iconst 3, 1) := by decide +kernel
theorem dL_rows_353 : decode cL_rows 353 = .ok (.invokestatic 91, 3) := by decide +kernel
theorem dL_rows_356 : decode cL_rows 356 = .ok (.ifCond .ne 9, 3) := by decide +kernel
theorem dL_rows_359 : decode cL_rows 359 = .ok (.sipush 255, 3) := by decide +kernel
theorem dL_rows_362 : decode cL_rows 362 = .ok (.goto 11, 3) := by decide +kernel
theorem dL_rows_365 : decode cL_rows 365 = .ok (.iload_n 2, 1) := by decide +kernel
theorem dL_rows_366 : decode cL_rows 366 = .ok (.iconst 4, 1) := by decide +kernel
theorem dL_rows_367 : decode cL_rows 367 = .ok (.ishr, 1) := by decide +kernel
theorem dL_rows_368 : decode cL_rows 368 = .ok (.bipush 12, 2) := by decide +kernel
theorem dL_rows_370 : decode cL_rows 370 = .ok (.invokestatic 91, 3) := by decide +kernel
theorem dL_rows_373 : decode cL_rows 373 = .ok (.istore 10, 2) := by decide +kernel
theorem dL_rows_375 : decode cL_rows 375 = .ok (.iload 9, 2) := by decide +kernel
theorem dL_rows_377 : decode cL_rows 377 = .ok (.ifCond .eq 18, 3) := by decide +kernel
theorem dL_rows_380 : decode cL_rows 380 = .ok (.aload_n 3, 1) := by decide +kernel
theorem dL_rows_381 : decode cL_rows 381 = .ok (.aload 4, 2) := by decide +kernel
theorem dL_rows_383 : decode cL_rows 383 = .ok (.aload 5, 2) := by decide +kernel
theorem dL_rows_385 : decode cL_rows 385 = .ok (.aload 6, 2) := by decide +kernel
theorem dL_rows_387 : decode cL_rows 387 = .ok (.iload 8, 2) := by decide +kernel
theorem dL_rows_389 : decode cL_rows 389 = .ok (.invokestatic 116, 3) := by decide +kernel
theorem dL_rows_392 : decode cL_rows 392 = .ok (.goto 4, 3) := by decide +kernel
theorem dL_rows_395 : decode cL_rows 395 = .ok (.iconst 0, 1) := by decide +kernel
theorem dL_rows_396 : decode cL_rows 396 = .ok (.istore 11, 2) := by decide +kernel
theorem dL_rows_398 : decode cL_rows 398 = .ok (.iload 9, 2) := by decide +kernel
theorem dL_rows_400 : decode cL_rows 400 = .ok (.ifCond .ne 8, 3) := by decide +kernel
theorem dL_rows_403 : decode cL_rows 403 = .ok (.bipush (-101), 2) := by decide +kernel
theorem dL_rows_405 : decode cL_rows 405 = .ok (.goto 30, 3) := by decide +kernel
theorem dL_rows_408 : decode cL_rows 408 = .ok (.iload 10, 2) := by decide +kernel
theorem dL_rows_410 : decode cL_rows 410 = .ok (.sipush 255, 3) := by decide +kernel
theorem dL_rows_413 : decode cL_rows 413 = .ok (.if_icmp .le 8, 3) := by decide +kernel
theorem dL_rows_416 : decode cL_rows 416 = .ok (.bipush (-102), 2) := by decide +kernel
theorem dL_rows_418 : decode cL_rows 418 = .ok (.goto 17, 3) := by decide +kernel
theorem dL_rows_421 : decode cL_rows 421 = .ok (.iload 11, 2) := by decide +kernel
theorem dL_rows_423 : decode cL_rows 423 = .ok (.iload 10, 2) := by decide +kernel
theorem dL_rows_425 : decode cL_rows 425 = .ok (.if_icmp .le 8, 3) := by decide +kernel
theorem dL_rows_428 : decode cL_rows 428 = .ok (.bipush (-103), 2) := by decide +kernel
theorem dL_rows_430 : decode cL_rows 430 = .ok (.goto 5, 3) := by decide +kernel
theorem dL_rows_433 : decode cL_rows 433 = .ok (.iload 11, 2) := by decide +kernel
theorem dL_rows_435 : decode cL_rows 435 = .ok (.istore 12, 2) := by decide +kernel
theorem dL_rows_437 : decode cL_rows 437 = .ok (.iconst 0, 1) := by decide +kernel
theorem dL_rows_438 : decode cL_rows 438 = .ok (.istore 13, 2) := by decide +kernel
theorem dL_rows_440 : decode cL_rows 440 = .ok (.iload 13, 2) := by decide +kernel
theorem dL_rows_442 : decode cL_rows 442 = .ok (.bipush 15, 2) := by decide +kernel
theorem dL_rows_444 : decode cL_rows 444 = .ok (.if_icmp .ge 55, 3) := by decide +kernel
theorem dL_rows_447 : decode cL_rows 447 = .ok (.iload 12, 2) := by decide +kernel
theorem dL_rows_449 : decode cL_rows 449 = .ok (.ifCond .lt 50, 3) := by decide +kernel
theorem dL_rows_452 : decode cL_rows 452 = .ok (.aload 7, 2) := by decide +kernel
theorem dL_rows_454 : decode cL_rows 454 = .ok (.bipush 15, 2) := by decide +kernel
theorem dL_rows_456 : decode cL_rows 456 = .ok (.iload 8, 2) := by decide +kernel
theorem dL_rows_458 : decode cL_rows 458 = .ok (.imul, 1) := by decide +kernel
theorem dL_rows_459 : decode cL_rows 459 = .ok (.iload 13, 2) := by decide +kernel
theorem dL_rows_461 : decode cL_rows 461 = .ok (.iadd, 1) := by decide +kernel
theorem dL_rows_462 : decode cL_rows 462 = .ok (.aload_n 3, 1) := by decide +kernel
theorem dL_rows_463 : decode cL_rows 463 = .ok (.aload 4, 2) := by decide +kernel
theorem dL_rows_465 : decode cL_rows 465 = .ok (.aload 5, 2) := by decide +kernel
theorem dL_rows_467 : decode cL_rows 467 = .ok (.aload 6, 2) := by decide +kernel
theorem dL_rows_469 : decode cL_rows 469 = .ok (.iload 8, 2) := by decide +kernel
theorem dL_rows_471 : decode cL_rows 471 = .ok (.iload 13, 2) := by decide +kernel
theorem dL_rows_473 : decode cL_rows 473 = .ok (.iconst 5, 1) := by decide +kernel
end
section
theorem dL_rows_474 : decode cL_rows 474 = .ok (.idiv, 1) := by decide +kernel
theorem dL_rows_475 : decode cL_rows 475 = .ok (.iload 13, 2) := by decide +kernel
theorem dL_rows_477 : decode cL_rows 477 = .ok (.iconst 5, 1) := by decide +kernel
theorem dL_rows_478 : decode cL_rows 478 = .ok (.irem, 1) := by decide +kernel
theorem dL_rows_479 : decode cL_rows 479 = .ok (.invokestatic 9, 3) := by decide +kernel
theorem dL_rows_482 : decode cL_rows 482 = .ok (.invokestatic 23, 3) := by decide +kernel
theorem dL_rows_485 : decode cL_rows 485 = .ok (.iastore, 1) := by decide +kernel
theorem dL_rows_486 : decode cL_rows 486 = .ok (.aload_n 3, 1) := by decide +kernel
theorem dL_rows_487 : decode cL_rows 487 = .ok (.iconst 4, 1) := by decide +kernel
theorem dL_rows_488 : decode cL_rows 488 = .ok (.iload 8, 2) := by decide +kernel
theorem dL_rows_490 : decode cL_rows 490 = .ok (.iadd, 1) := by decide +kernel
theorem dL_rows_491 : decode cL_rows 491 = .ok (.iconst 1, 1) := by decide +kernel
theorem dL_rows_492 : decode cL_rows 492 = .ok (.iastore, 1) := by decide +kernel
theorem dL_rows_493 : decode cL_rows 493 = .ok (.iinc 13 1, 3) := by decide +kernel
theorem dL_rows_496 : decode cL_rows 496 = .ok (.goto (-56), 3) := by decide +kernel
theorem dL_rows_499 : decode cL_rows 499 = .ok (.aload_n 0, 1) := by decide +kernel
theorem dL_rows_500 : decode cL_rows 500 = .ok (.iconst 2, 1) := by decide +kernel
theorem dL_rows_501 : decode cL_rows 501 = .ok (.iload 8, 2) := by decide +kernel
theorem dL_rows_503 : decode cL_rows 503 = .ok (.iload 10, 2) := by decide +kernel
theorem dL_rows_505 : decode cL_rows 505 = .ok (.invokestatic 108, 3) := by decide +kernel
theorem dL_rows_508 : decode cL_rows 508 = .ok (.iload 12, 2) := by decide +kernel
theorem dL_rows_510 : decode cL_rows 510 = .ok (.if_icmp .ne 7, 3) := by decide +kernel
theorem dL_rows_513 : decode cL_rows 513 = .ok (.iconst 1, 1) := by decide +kernel
theorem dL_rows_514 : decode cL_rows 514 = .ok (.goto 4, 3) := by decide +kernel
theorem dL_rows_517 : decode cL_rows 517 = .ok (.iconst 0, 1) := by decide +kernel
theorem dL_rows_518 : decode cL_rows 518 = .ok (.ireturn, 1) := by decide +kernel
set_option maxRecDepth 20000 in
theorem ggL_colours_L_some : GoodIn wsL_colours wsL_some := goodIn_r _ [4] (by decide +kernel) (by decide +kernel)
set_option maxRecDepth 20000 in
theorem gL_colours_L_some : GoodIn wsL_colours (va_wsS RL 91 yL_some wsL_some) := goodIn_app (goodIn_of _ (by decide +kernel)) ggL_colours_L_some
set_option maxRecDepth 20000 in
theorem ggL_colours_L_value : GoodIn wsL_colours wsL_value := goodIn_r _ [7, 1, 2, 3, 4] (by decide +kernel) (by decide +kernel)
set_option maxRecDepth 20000 in
theorem gL_colours_L_value : GoodIn wsL_colours (va_wsS RL 98 yL_value wsL_value) := goodIn_app (goodIn_of _ (by decide +kernel)) ggL_colours_L_value
set_option maxRecDepth 20000 in
theorem ggL_colours_L_paints : GoodIn wsL_colours wsL_paints := goodIn_ca (goodIn_ca (goodIn_r _ [10, 11, 12, 13, 14, 15, 16, 17, 18, 19, 20, 21, 22, 23, 24, 25, 26, 27, 28, 29, 30, 31, 32, 33, 34, 35, 36, 37, 38, 39, 40, 41, 42, 43, 44, 45, 46, 47, 48, 49, 50, 51, 52, 53, 54, 55, 56, 57, 58, 59, 60, 61, 62] (by decide +kernel) (by decide +kernel)) (goodIn_sub (fun _ h => List.mem_cons_of_mem _ (List.mem_append_left _ (List.mem_append_right _ h))) (by decide +kernel))) (goodIn_sub (fun _ h => List.mem_cons_of_mem _ (List.mem_append_right _ h)) (by decide +kernel))
set_option maxRecDepth 20000 in
theorem gL_colours_L_paints : GoodIn wsL_colours (va_wsS RL 119 yL_paints wsL_paints) := goodIn_app (goodIn_of _ (by decide +kernel)) ggL_colours_L_paints
theorem dL_colours_0 : decode cL_colours 0 = .ok (.iload_n 2, 1) := by decide +kernel
theorem dL_colours_1 : decode cL_colours 1 = .ok (.bipush 30, 2) := by decide +kernel
theorem dL_colours_3 : decode cL_colours 3 = .ok (.invokestatic 91, 3) := by decide +kernel
theorem dL_colours_6 : decode cL_colours 6 = .ok (.ifCond .ne 17, 3) := by decide +kernel
theorem dL_colours_9 : decode cL_colours 9 = .ok (.iload_n 1, 1) := by decide +kernel
theorem dL_colours_10 : decode cL_colours 10 = .ok (.iconst 2, 1) := by decide +kernel
theorem dL_colours_11 : decode cL_colours 11 = .ok (.if_icmp .ne 7, 3) := by decide +kernel
theorem dL_colours_14 : decode cL_colours 14 = .ok (.iconst 3, 1) := by decide +kernel
theorem dL_colours_15 : decode cL_colours 15 = .ok (.goto 22, 3) := by decide +kernel
theorem dL_colours_18 : decode cL_colours 18 = .ok (.bipush 6, 2) := by decide +kernel
theorem dL_colours_20 : decode cL_colours 20 = .ok (.goto 17, 3) := by decide +kernel
theorem dL_colours_23 : decode cL_colours 23 = .ok (.iload_n 2, 1) := by decide +kernel
theorem dL_colours_24 : decode cL_colours 24 = .ok (.iload_n 1, 1) := by decide +kernel
theorem dL_colours_25 : decode cL_colours 25 = .ok (.iconst 2, 1) := by decide +kernel
theorem dL_colours_26 : decode cL_colours 26 = .ok (.if_icmp .ne 7, 3) := by decide +kernel
theorem dL_colours_29 : decode cL_colours 29 = .ok (.iconst 3, 1) := by decide +kernel
theorem dL_colours_30 : decode cL_colours 30 = .ok (.goto 4, 3) := by decide +kernel
theorem dL_colours_33 : decode cL_colours 33 = .ok (.iconst 2, 1) := by decide +kernel
theorem dL_colours_34 : decode cL_colours 34 = .ok (.invokestatic 91, 3) := by decide +kernel
theorem dL_colours_37 : decode cL_colours 37 = .ok (.istore 4, 2) := by decide +kernel
theorem dL_colours_39 : decode cL_colours 39 = .ok (.iload_n 2, 1) := by decide +kernel
theorem dL_colours_40 : decode cL_colours 40 = .ok (.iconst 4, 1) := by decide +kernel
theorem dL_colours_41 : decode cL_colours 41 = .ok (.ishr, 1) := by decide +kernel
theorem dL_colours_42 : decode cL_colours 42 = .ok (.bipush 30, 2) := by decide +kernel
theorem dL_colours_44 : decode cL_colours 44 = .ok (.invokestatic 91, 3) := by decide +kernel
theorem dL_colours_47 : decode cL_colours 47 = .ok (.ifCond .ne 7, 3) := by decide +kernel
theorem dL_colours_50 : decode cL_colours 50 = .ok (.iconst (-1), 1) := by decide +kernel
theorem dL_colours_51 : decode cL_colours 51 = .ok (.goto 10, 3) := by decide +kernel
theorem dL_colours_54 : decode cL_colours 54 = .ok (.iload_n 2, 1) := by decide +kernel
theorem dL_colours_55 : decode cL_colours 55 = .ok (.iconst 4, 1) := by decide +kernel
theorem dL_colours_56 : decode cL_colours 56 = .ok (.ishr, 1) := by decide +kernel
theorem dL_colours_57 : decode cL_colours 57 = .ok (.iconst 3, 1) := by decide +kernel
theorem dL_colours_58 : decode cL_colours 58 = .ok (.invokestatic 91, 3) := by decide +kernel
theorem dL_colours_61 : decode cL_colours 61 = .ok (.istore 5, 2) := by decide +kernel
theorem dL_colours_63 : decode cL_colours 63 = .ok (.iload_n 2, 1) := by decide +kernel
theorem dL_colours_64 : decode cL_colours 64 = .ok (.iconst 5, 1) := by decide +kernel
theorem dL_colours_65 : decode cL_colours 65 = .ok (.ishr, 1) := by decide +kernel
theorem dL_colours_66 : decode cL_colours 66 = .ok (.invokestatic 98, 3) := by decide +kernel
theorem dL_colours_69 : decode cL_colours 69 = .ok (.istore 6, 2) := by decide +kernel
theorem dL_colours_71 : decode cL_colours 71 = .ok (.iload 5, 2) := by decide +kernel
theorem dL_colours_73 : decode cL_colours 73 = .ok (.ifCond .lt 23, 3) := by decide +kernel
theorem dL_colours_76 : decode cL_colours 76 = .ok (.iload 4, 2) := by decide +kernel
theorem dL_colours_78 : decode cL_colours 78 = .ok (.iload_n 1, 1) := by decide +kernel
theorem dL_colours_79 : decode cL_colours 79 = .ok (.iconst 2, 1) := by decide +kernel
theorem dL_colours_80 : decode cL_colours 80 = .ok (.if_icmp .ne 7, 3) := by decide +kernel
theorem dL_colours_83 : decode cL_colours 83 = .ok (.iconst 3, 1) := by decide +kernel
theorem dL_colours_84 : decode cL_colours 84 = .ok (.goto 5, 3) := by decide +kernel
theorem dL_colours_87 : decode cL_colours 87 = .ok (.bipush 6, 2) := by decide +kernel
theorem dL_colours_89 : decode cL_colours 89 = .ok (.if_icmp .ge 7, 3) := by decide +kernel
theorem dL_colours_92 : decode cL_colours 92 = .ok (.iconst 1, 1) := by decide +kernel
theorem dL_colours_93 : decode cL_colours 93 = .ok (.goto 4, 3) := by decide +kernel
theorem dL_colours_96 : decode cL_colours 96 = .ok (.iconst 0, 1) := by decide +kernel
theorem dL_colours_97 : decode cL_colours 97 = .ok (.istore 7, 2) := by decide +kernel
theorem dL_colours_99 : decode cL_colours 99 = .ok (.bipush 6, 2) := by decide +kernel
theorem dL_colours_101 : decode cL_colours 101 = .ok (.iload_n 1, 1) := by decide +kernel
theorem dL_colours_102 : decode cL_colours 102 = .ok (.imul, 1) := by decide +kernel
theorem dL_colours_103 : decode cL_colours 103 = .ok (.iconst 3, 1) := by decide +kernel
theorem dL_colours_104 : decode cL_colours 104 = .ok (.iload 4, 2) := by decide +kernel
theorem dL_colours_106 : decode cL_colours 106 = .ok (.imul, 1) := by decide +kernel
theorem dL_colours_107 : decode cL_colours 107 = .ok (.iadd, 1) := by decide +kernel
theorem dL_colours_108 : decode cL_colours 108 = .ok (.iload 5, 2) := by decide +kernel
theorem dL_colours_110 : decode cL_colours 110 = .ok (.iadd, 1) := by decide +kernel
theorem dL_colours_111 : decode cL_colours 111 = .ok (.istore 8, 2) := by decide +kernel
theorem dL_colours_113 : decode cL_colours 113 = .ok (.iload 7, 2) := by decide +kernel
theorem dL_colours_115 : decode cL_colours 115 = .ok (.ifCond .ne 8, 3) := by decide +kernel
theorem dL_colours_118 : decode cL_colours 118 = .ok (.bipush (-101), 2) := by decide +kernel
theorem dL_colours_120 : decode cL_colours 120 = .ok (.goto 25, 3) := by decide +kernel
theorem dL_colours_123 : decode cL_colours 123 = .ok (.iload 6, 2) := by decide +kernel
theorem dL_colours_125 : decode cL_colours 125 = .ok (.ifCond .lt 11, 3) := by decide +kernel
theorem dL_colours_128 : decode cL_colours 128 = .ok (.iload 6, 2) := by decide +kernel
theorem dL_colours_130 : decode cL_colours 130 = .ok (.sipush 255, 3) := by decide +kernel
theorem dL_colours_133 : decode cL_colours 133 = .ok (.if_icmp .le 8, 3) := by decide +kernel
theorem dL_colours_136 : decode cL_colours 136 = .ok (.bipush (-102), 2) := by decide +kernel
theorem dL_colours_138 : decode cL_colours 138 = .ok (.goto 7, 3) := by decide +kernel
theorem dL_colours_141 : decode cL_colours 141 = .ok (.aload_n 3, 1) := by decide +kernel
theorem dL_colours_142 : decode cL_colours 142 = .ok (.iload 8, 2) := by decide +kernel
theorem dL_colours_144 : decode cL_colours 144 = .ok (.iaload, 1) := by decide +kernel
theorem dL_colours_145 : decode cL_colours 145 = .ok (.istore 9, 2) := by decide +kernel
theorem dL_colours_147 : decode cL_colours 147 = .ok (.iload 9, 2) := by decide +kernel
theorem dL_colours_149 : decode cL_colours 149 = .ok (.ifCond .lt 9, 3) := by decide +kernel
theorem dL_colours_152 : decode cL_colours 152 = .ok (.aload_n 3, 1) := by decide +kernel
theorem dL_colours_153 : decode cL_colours 153 = .ok (.iload 8, 2) := by decide +kernel
theorem dL_colours_155 : decode cL_colours 155 = .ok (.iload 6, 2) := by decide +kernel
theorem dL_colours_157 : decode cL_colours 157 = .ok (.iastore, 1) := by decide +kernel
theorem dL_colours_158 : decode cL_colours 158 = .ok (.aload_n 0, 1) := by decide +kernel
theorem dL_colours_159 : decode cL_colours 159 = .ok (.iload_n 1, 1) := by decide +kernel
theorem dL_colours_160 : decode cL_colours 160 = .ok (.iload 4, 2) := by decide +kernel
theorem dL_colours_162 : decode cL_colours 162 = .ok (.iload 5, 2) := by decide +kernel
theorem dL_colours_164 : decode cL_colours 164 = .ok (.iload 6, 2) := by decide +kernel
theorem dL_colours_166 : decode cL_colours 166 = .ok (.invokestatic 119, 3) := by decide +kernel
theorem dL_colours_169 : decode cL_colours 169 = .ok (.iload 9, 2) := by decide +kernel
theorem dL_colours_171 : decode cL_colours 171 = .ok (.if_icmp .ne 7, 3) := by decide +kernel
theorem dL_colours_174 : decode cL_colours 174 = .ok (.iconst 1, 1) := by decide +kernel
theorem dL_colours_175 : decode cL_colours 175 = .ok (.goto 4, 3) := by decide +kernel
theorem dL_colours_178 : decode cL_colours 178 = .ok (.iconst 0, 1) := by decide +kernel
theorem dL_colours_179 : decode cL_colours 179 = .ok (.ireturn, 1) := by decide +kernel
set_option maxRecDepth 20000 in
theorem ggL_asks_L_value : GoodIn wsL_asks wsL_value := goodIn_r _ [4, 5, 6, 3, 7] (by decide +kernel) (by decide +kernel)
set_option maxRecDepth 20000 in
theorem gL_asks_L_value : GoodIn wsL_asks (va_wsS RL 98 yL_value wsL_value) := goodIn_app (goodIn_of _ (by decide +kernel)) ggL_asks_L_value
set_option maxRecDepth 20000 in
theorem ggL_asks_L_of : GoodIn wsL_asks wsL_of := goodIn_ca (goodIn_ca (goodIn_ca (goodIn_r _ [10, 11, 12, 13, 14, 15, 16, 17, 18, 19, 20, 21, 22, 23, 24, 25, 26, 27, 28, 29, 30, 31, 32, 33, 34, 35, 36, 37, 38, 39, 40, 41, 42, 43, 44, 45, 46, 47, 48, 49, 50, 51, 52, 53, 54, 55, 56, 57, 58, 59, 60, 61, 62, 63, 64, 65, 66, 67, 68, 69, 70, 71, 72, 73, 74, 75, 76, 77, 78, 79, 80, 81, 82, 83, 84, 85, 86, 87, 88, 89, 90, 91, 92, 93, 94, 95, 192, 193, 194, 195, 196, 197, 198, 199, 200, 201, 202, 203, 204, 205, 206] (by decide +kernel) (by decide +kernel)) (goodIn_sub (fun _ h => List.mem_cons_of_mem _ (List.mem_append_left _ (List.mem_append_left _ (List.mem_append_right _ h)))) (by decide +kernel))) (goodIn_sub (fun _ h => List.mem_cons_of_mem _ (List.mem_append_left _ (List.mem_append_right _ h))) (by decide +kernel))) (goodIn_sub (fun _ h => List.mem_cons_of_mem _ (List.mem_append_right _ h)) (by decide +kernel))
set_option maxRecDepth 20000 in
theorem gL_asks_L_of : GoodIn wsL_asks (va_wsS RL 122 yL_of wsL_of) := goodIn_app (goodIn_of _ (by decide +kernel)) ggL_asks_L_of
set_option maxRecDepth 20000 in
theorem ggL_asks_L_between : GoodIn wsL_asks wsL_between := goodIn_r _ [98, 99, 100, 3, 101] (by decide +kernel) (by decide +kernel)
set_option maxRecDepth 20000 in
theorem gL_asks_L_between : GoodIn wsL_asks (va_wsS RL 15 yL_between wsL_between) := goodIn_app (goodIn_of _ (by decide +kernel)) ggL_asks_L_between
set_option maxRecDepth 20000 in
theorem ggL_asks_L_taken : GoodIn wsL_asks wsL_taken := goodIn_r _ [104, 96, 97, 3, 98, 99, 100, 101] (by decide +kernel) (by decide +kernel)
set_option maxRecDepth 20000 in
theorem gL_asks_L_taken : GoodIn wsL_asks (va_wsS RL 19 yL_taken wsL_taken) := goodIn_app (goodIn_of _ (by decide +kernel)) ggL_asks_L_taken
set_option maxRecDepth 20000 in
theorem ggL_asks_L_through : GoodIn wsL_asks wsL_through := goodIn_r _ [107, 102, 103, 3, 104, 96, 97, 98, 99, 100, 101] (by decide +kernel) (by decide +kernel)
set_option maxRecDepth 20000 in
theorem gL_asks_L_through : GoodIn wsL_asks (va_wsS RL 23 yL_through wsL_through) := goodIn_app (goodIn_of _ (by decide +kernel)) ggL_asks_L_through
set_option maxRecDepth 20000 in
theorem ggL_asks_L_at : GoodIn wsL_asks wsL_at := goodIn_r _ [101] (by decide +kernel) (by decide +kernel)
set_option maxRecDepth 20000 in
theorem gL_asks_L_at : GoodIn wsL_asks (va_wsS RL 9 yL_at wsL_at) := goodIn_app (goodIn_of _ (by decide +kernel)) ggL_asks_L_at
set_option maxRecDepth 20000 in
theorem ggL_asks_L_some : GoodIn wsL_asks wsL_some := goodIn_r _ [7] (by decide +kernel) (by decide +kernel)
set_option maxRecDepth 20000 in
theorem gL_asks_L_some : GoodIn wsL_asks (va_wsS RL 91 yL_some wsL_some) := goodIn_app (goodIn_of _ (by decide +kernel)) ggL_asks_L_some
set_option maxRecDepth 20000 in
theorem ggL_asks_X0_stale : GoodIn wsL_asks wsX0_stale := goodIn_r _ [111, 91, 93, 94, 17, 95, 112, 113, 114, 115, 92, 42, 43, 44, 116, 117, 118, 60, 61, 62, 63, 79, 80, 81, 82, 83, 84, 53, 54, 55, 56, 57, 58, 59, 64, 65, 66, 34, 35, 36, 37, 38, 39, 40, 41, 45, 46, 47, 48, 67, 68, 69, 192, 193, 194, 195, 196, 197, 198, 199, 200, 201, 202, 203, 204, 205, 206] (by decide +kernel) (by decide +kernel)
set_option maxRecDepth 20000 in
theorem gL_asks_X0_stale : GoodIn wsL_asks (wsV RL 125 RX0 yX0_stale wsX0_stale) := goodIn_app (goodIn_of _ (by decide +kernel)) ggL_asks_X0_stale
set_option maxRecDepth 20000 in
theorem ggL_asks_X0_held : GoodIn wsL_asks wsX0_held := goodIn_r _ [122, 123, 93, 94, 17, 95, 124, 125, 126, 127, 83, 84, 42, 43, 44, 192, 193, 194, 195, 196, 197, 198, 199, 200, 201, 202, 203, 204, 205, 206] (by decide +kernel) (by decide +kernel)
set_option maxRecDepth 20000 in
theorem gL_asks_X0_held : GoodIn wsL_asks (wsV RL 129 RX0 yX0_held wsX0_held) := goodIn_app (goodIn_of _ (by decide +kernel)) ggL_asks_X0_held
set_option maxRecDepth 20000 in
theorem ggL_asks_L_held : GoodIn wsL_asks wsL_held := goodIn_r _ [130] (by decide +kernel) (by decide +kernel)
set_option maxRecDepth 20000 in
theorem gL_asks_L_held : GoodIn wsL_asks (va_wsS RL 94 yL_held wsL_held) := goodIn_app (goodIn_of _ (by decide +kernel)) ggL_asks_L_held
set_option maxRecDepth 20000 in
theorem ggL_asks_L_shows : GoodIn wsL_asks wsL_shows := goodIn_ca (goodIn_ca (goodIn_r _ [133, 11, 12, 134, 135, 136, 17, 137, 32, 33, 74, 75, 76, 77, 23, 24, 78, 138, 139, 140, 26, 27, 28, 141, 142, 143, 144, 145, 146, 147, 60, 61, 62, 63, 42, 43, 44, 93, 94, 95, 79, 80, 81, 82, 83, 84, 53, 54, 55, 56, 57, 58, 59, 64, 65, 66, 34, 35, 36, 37, 38, 39, 40, 41, 45, 46, 47, 48, 67, 68, 69, 192, 193, 194, 195, 196, 197, 198, 199, 200, 201, 202, 203, 204, 205, 206] (by decide +kernel) (by decide +kernel)) (goodIn_sub (fun _ h => List.mem_cons_of_mem _ (List.mem_append_left _ (List.mem_append_right _ h))) (by decide +kernel))) (goodIn_sub (fun _ h => List.mem_cons_of_mem _ (List.mem_append_left _ (List.mem_append_left _ (List.mem_append_right _ h)))) (by decide +kernel))
set_option maxRecDepth 20000 in
theorem gL_asks_L_shows : GoodIn wsL_asks (va_wsS RL 131 yL_shows wsL_shows) := goodIn_app (goodIn_of _ (by decide +kernel)) ggL_asks_L_shows
set_option maxRecDepth 20000 in
theorem ggL_asks_L_chains : GoodIn wsL_asks wsL_chains := goodIn_ca (goodIn_ca (goodIn_r _ [150, 11, 13, 151, 152, 153, 17, 154, 89, 90, 83, 84, 74, 75, 76, 77, 23, 24, 78, 155, 156, 157, 158, 123, 93, 94, 95, 42, 43, 44, 159, 160, 161, 162, 163, 164, 165, 166, 167, 168, 169, 170, 171, 172, 173, 174, 175, 176, 62, 177, 64, 65, 66, 116, 117, 118, 60, 61, 63, 79, 80, 81, 82, 53, 54, 55, 56, 57, 58, 59, 34, 35, 36, 37, 38, 39, 40, 41, 45, 46, 47, 48, 67, 68, 69, 178, 179, 180, 181, 192, 193, 194, 195, 196, 197, 198, 199, 200, 201, 202, 203, 204, 205, 206] (by decide +kernel) (by decide +kernel)) (goodIn_sub (fun _ h => List.mem_cons_of_mem _ (List.mem_append_right _ h)) (by decide +kernel))) (goodIn_sub (fun _ h => List.mem_cons_of_mem _ (List.mem_append_left _ (List.mem_append_left _ (List.mem_append_right _ h)))) (by decide +kernel))
set_option maxRecDepth 20000 in
theorem gL_asks_L_chains : GoodIn wsL_asks (va_wsS RL 112 yL_chains wsL_chains) := goodIn_app (goodIn_of _ (by decide +kernel)) ggL_asks_L_chains
set_option maxRecDepth 20000 in
theorem ggL_asks_L_gap : GoodIn wsL_asks wsL_gap := goodIn_r _ [184, 185, 99, 100, 3, 101, 105, 106, 107, 102, 103, 104, 96, 97, 98, 186, 187, 188] (by decide +kernel) (by decide +kernel)
set_option maxRecDepth 20000 in
theorem gL_asks_L_gap : GoodIn wsL_asks (va_wsS RL 116 yL_gap wsL_gap) := goodIn_app (goodIn_of _ (by decide +kernel)) ggL_asks_L_gap
set_option maxRecDepth 20000 in
theorem ggL_asks_L_greys : GoodIn wsL_asks wsL_greys := goodIn_r _ [191, 105, 106, 3, 107, 102, 103, 104, 96, 97, 98, 99, 100, 101] (by decide +kernel) (by decide +kernel)
set_option maxRecDepth 20000 in
theorem gL_asks_L_greys : GoodIn wsL_asks (va_wsS RL 134 yL_greys wsL_greys) := goodIn_app (goodIn_of _ (by decide +kernel)) ggL_asks_L_greys
theorem dL_asks_0 : decode cL_asks 0 = .ok (.iload_n 1, 1) := by decide +kernel
theorem dL_asks_1 : decode cL_asks 1 = .ok (.bipush 6, 2) := by decide +kernel
theorem dL_asks_3 : decode cL_asks 3 = .ok (.ishr, 1) := by decide +kernel
theorem dL_asks_4 : decode cL_asks 4 = .ok (.invokestatic 98, 3) := by decide +kernel
theorem dL_asks_7 : decode cL_asks 7 = .ok (.istore 9, 2) := by decide +kernel
theorem dL_asks_9 : decode cL_asks 9 = .ok (.iload 9, 2) := by decide +kernel
theorem dL_asks_11 : decode cL_asks 11 = .ok (.ifCond .lt 15, 3) := by decide +kernel
theorem dL_asks_14 : decode cL_asks 14 = .ok (.iload 9, 2) := by decide +kernel
theorem dL_asks_16 : decode cL_asks 16 = .ok (.sipush 256, 3) := by decide +kernel
theorem dL_asks_19 : decode cL_asks 19 = .ok (.if_icmp .ge 7, 3) := by decide +kernel
theorem dL_asks_22 : decode cL_asks 22 = .ok (.iconst 1, 1) := by decide +kernel
theorem dL_asks_23 : decode cL_asks 23 = .ok (.goto 4, 3) := by decide +kernel
theorem dL_asks_26 : decode cL_asks 26 = .ok (.iconst 0, 1) := by decide +kernel
theorem dL_asks_27 : decode cL_asks 27 = .ok (.istore 10, 2) := by decide +kernel
theorem dL_asks_29 : decode cL_asks 29 = .ok (.iconst 0, 1) := by decide +kernel
theorem dL_asks_30 : decode cL_asks 30 = .ok (.istore 11, 2) := by decide +kernel
theorem dL_asks_32 : decode cL_asks 32 = .ok (.iload 11, 2) := by decide +kernel
theorem dL_asks_34 : decode cL_asks 34 = .ok (.iconst 4, 1) := by decide +kernel
theorem dL_asks_35 : decode cL_asks 35 = .ok (.if_icmp .ge 303, 3) := by decide +kernel
theorem dL_asks_38 : decode cL_asks 38 = .ok (.iconst 0, 1) := by decide +kernel
theorem dL_asks_39 : decode cL_asks 39 = .ok (.istore 12, 2) := by decide +kernel
theorem dL_asks_41 : decode cL_asks 41 = .ok (.iload 12, 2) := by decide +kernel
theorem dL_asks_43 : decode cL_asks 43 = .ok (.aload_n 3, 1) := by decide +kernel
theorem dL_asks_44 : decode cL_asks 44 = .ok (.iconst 0, 1) := by decide +kernel
theorem dL_asks_45 : decode cL_asks 45 = .ok (.iaload, 1) := by decide +kernel
theorem dL_asks_46 : decode cL_asks 46 = .ok (.if_icmp .gt 131, 3) := by decide +kernel
theorem dL_asks_49 : decode cL_asks 49 = .ok (.iload 12, 2) := by decide +kernel
theorem dL_asks_51 : decode cL_asks 51 = .ok (.aload_n 3, 1) := by decide +kernel
theorem dL_asks_52 : decode cL_asks 52 = .ok (.iconst 0, 1) := by decide +kernel
theorem dL_asks_53 : decode cL_asks 53 = .ok (.iaload, 1) := by decide +kernel
theorem dL_asks_54 : decode cL_asks 54 = .ok (.if_icmp .ge 13, 3) := by decide +kernel
theorem dL_asks_57 : decode cL_asks 57 = .ok (.iload 11, 2) := by decide +kernel
theorem dL_asks_59 : decode cL_asks 59 = .ok (.iconst 3, 1) := by decide +kernel
theorem dL_asks_60 : decode cL_asks 60 = .ok (.if_icmp .ge 7, 3) := by decide +kernel
theorem dL_asks_63 : decode cL_asks 63 = .ok (.iconst 1, 1) := by decide +kernel
theorem dL_asks_64 : decode cL_asks 64 = .ok (.goto 4, 3) := by decide +kernel
theorem dL_asks_67 : decode cL_asks 67 = .ok (.iconst 0, 1) := by decide +kernel
theorem dL_asks_68 : decode cL_asks 68 = .ok (.istore 13, 2) := by decide +kernel
theorem dL_asks_70 : decode cL_asks 70 = .ok (.aload_n 0, 1) := by decide +kernel
theorem dL_asks_71 : decode cL_asks 71 = .ok (.iconst 0, 1) := by decide +kernel
theorem dL_asks_72 : decode cL_asks 72 = .ok (.iload 12, 2) := by decide +kernel
theorem dL_asks_74 : decode cL_asks 74 = .ok (.iload 11, 2) := by decide +kernel
theorem dL_asks_76 : decode cL_asks 76 = .ok (.iload 9, 2) := by decide +kernel
theorem dL_asks_78 : decode cL_asks 78 = .ok (.invokestatic 122, 3) := by decide +kernel
theorem dL_asks_81 : decode cL_asks 81 = .ok (.iload 13, 2) := by decide +kernel
theorem dL_asks_83 : decode cL_asks 83 = .ok (.ifCond .ne 8, 3) := by decide +kernel
theorem dL_asks_86 : decode cL_asks 86 = .ok (.bipush (-101), 2) := by decide +kernel
theorem dL_asks_88 : decode cL_asks 88 = .ok (.goto 30, 3) := by decide +kernel
theorem dL_asks_91 : decode cL_asks 91 = .ok (.iload 10, 2) := by decide +kernel
theorem dL_asks_93 : decode cL_asks 93 = .ok (.ifCond .ne 8, 3) := by decide +kernel
theorem dL_asks_96 : decode cL_asks 96 = .ok (.bipush (-102), 2) := by decide +kernel
theorem dL_asks_98 : decode cL_asks 98 = .ok (.goto 20, 3) := by decide +kernel
theorem dL_asks_101 : decode cL_asks 101 = .ok (.aload 4, 2) := by decide +kernel
theorem dL_asks_103 : decode cL_asks 103 = .ok (.bipush 15, 2) := by decide +kernel
theorem dL_asks_105 : decode cL_asks 105 = .ok (.iload 12, 2) := by decide +kernel
theorem dL_asks_107 : decode cL_asks 107 = .ok (.imul, 1) := by decide +kernel
theorem dL_asks_108 : decode cL_asks 108 = .ok (.iconst 5, 1) := by decide +kernel
theorem dL_asks_109 : decode cL_asks 109 = .ok (.iload 11, 2) := by decide +kernel
theorem dL_asks_111 : decode cL_asks 111 = .ok (.imul, 1) := by decide +kernel
theorem dL_asks_112 : decode cL_asks 112 = .ok (.iadd, 1) := by decide +kernel
theorem dL_asks_113 : decode cL_asks 113 = .ok (.iload 9, 2) := by decide +kernel
theorem dL_asks_115 : decode cL_asks 115 = .ok (.invokestatic 15, 3) := by decide +kernel
theorem dL_asks_118 : decode cL_asks 118 = .ok (.if_icmp .ne 51, 3) := by decide +kernel
theorem dL_asks_121 : decode cL_asks 121 = .ok (.aload_n 0, 1) := by decide +kernel
theorem dL_asks_122 : decode cL_asks 122 = .ok (.iconst 1, 1) := by decide +kernel
theorem dL_asks_123 : decode cL_asks 123 = .ok (.iload 12, 2) := by decide +kernel
theorem dL_asks_125 : decode cL_asks 125 = .ok (.iload 11, 2) := by decide +kernel
theorem dL_asks_127 : decode cL_asks 127 = .ok (.iload 9, 2) := by decide +kernel
theorem dL_asks_129 : decode cL_asks 129 = .ok (.invokestatic 122, 3) := by decide +kernel
theorem dL_asks_132 : decode cL_asks 132 = .ok (.iload 13, 2) := by decide +kernel
theorem dL_asks_134 : decode cL_asks 134 = .ok (.ifCond .ne 8, 3) := by decide +kernel
theorem dL_asks_137 : decode cL_asks 137 = .ok (.bipush (-101), 2) := by decide +kernel
theorem dL_asks_139 : decode cL_asks 139 = .ok (.goto 27, 3) := by decide +kernel
theorem dL_asks_142 : decode cL_asks 142 = .ok (.iload 10, 2) := by decide +kernel
theorem dL_asks_144 : decode cL_asks 144 = .ok (.ifCond .ne 8, 3) := by decide +kernel
theorem dL_asks_147 : decode cL_asks 147 = .ok (.bipush (-102), 2) := by decide +kernel
theorem dL_asks_149 : decode cL_asks 149 = .ok (.goto 17, 3) := by decide +kernel
theorem dL_asks_152 : decode cL_asks 152 = .ok (.aload_n 3, 1) := by decide +kernel
theorem dL_asks_153 : decode cL_asks 153 = .ok (.aload 4, 2) := by decide +kernel
theorem dL_asks_155 : decode cL_asks 155 = .ok (.aload 5, 2) := by decide +kernel
theorem dL_asks_157 : decode cL_asks 157 = .ok (.iload 12, 2) := by decide +kernel
theorem dL_asks_159 : decode cL_asks 159 = .ok (.iload 11, 2) := by decide +kernel
theorem dL_asks_161 : decode cL_asks 161 = .ok (.iload 9, 2) := by decide +kernel
theorem dL_asks_163 : decode cL_asks 163 = .ok (.invokestatic 19, 3) := by decide +kernel
theorem dL_asks_166 : decode cL_asks 166 = .ok (.if_icmp .eq 5, 3) := by decide +kernel
theorem dL_asks_169 : decode cL_asks 169 = .ok (.iconst 0, 1) := by decide +kernel
theorem dL_asks_170 : decode cL_asks 170 = .ok (.ireturn, 1) := by decide +kernel
theorem dL_asks_171 : decode cL_asks 171 = .ok (.iinc 12 1, 3) := by decide +kernel
theorem dL_asks_174 : decode cL_asks 174 = .ok (.goto (-133), 3) := by decide +kernel
theorem dL_asks_177 : decode cL_asks 177 = .ok (.iconst 0, 1) := by decide +kernel
theorem dL_asks_178 : decode cL_asks 178 = .ok (.istore 12, 2) := by decide +kernel
theorem dL_asks_180 : decode cL_asks 180 = .ok (.iload 12, 2) := by decide +kernel
theorem dL_asks_182 : decode cL_asks 182 = .ok (.aload_n 3, 1) := by decide +kernel
theorem dL_asks_183 : decode cL_asks 183 = .ok (.iconst 1, 1) := by decide +kernel
theorem dL_asks_184 : decode cL_asks 184 = .ok (.iaload, 1) := by decide +kernel
theorem dL_asks_185 : decode cL_asks 185 = .ok (.if_icmp .gt 147, 3) := by decide +kernel
theorem dL_asks_188 : decode cL_asks 188 = .ok (.iload 12, 2) := by decide +kernel
theorem dL_asks_190 : decode cL_asks 190 = .ok (.aload_n 3, 1) := by decide +kernel
theorem dL_asks_191 : decode cL_asks 191 = .ok (.iconst 1, 1) := by decide +kernel
theorem dL_asks_192 : decode cL_asks 192 = .ok (.iaload, 1) := by decide +kernel
theorem dL_asks_193 : decode cL_asks 193 = .ok (.if_icmp .ge 13, 3) := by decide +kernel
theorem dL_asks_196 : decode cL_asks 196 = .ok (.iload 11, 2) := by decide +kernel
theorem dL_asks_198 : decode cL_asks 198 = .ok (.iconst 3, 1) := by decide +kernel
theorem dL_asks_199 : decode cL_asks 199 = .ok (.if_icmp .ge 7, 3) := by decide +kernel
theorem dL_asks_202 : decode cL_asks 202 = .ok (.iconst 1, 1) := by decide +kernel
theorem dL_asks_203 : decode cL_asks 203 = .ok (.goto 4, 3) := by decide +kernel
theorem dL_asks_206 : decode cL_asks 206 = .ok (.iconst 0, 1) := by decide +kernel
theorem dL_asks_207 : decode cL_asks 207 = .ok (.istore 13, 2) := by decide +kernel
theorem dL_asks_209 : decode cL_asks 209 = .ok (.aload_n 0, 1) := by decide +kernel
theorem dL_asks_210 : decode cL_asks 210 = .ok (.iconst 2, 1) := by decide +kernel
theorem dL_asks_211 : decode cL_asks 211 = .ok (.iload 12, 2) := by decide +kernel
theorem dL_asks_213 : decode cL_asks 213 = .ok (.iload 11, 2) := by decide +kernel
theorem dL_asks_215 : decode cL_asks 215 = .ok (.iload 9, 2) := by decide +kernel
theorem dL_asks_217 : decode cL_asks 217 = .ok (.invokestatic 122, 3) := by decide +kernel
theorem dL_asks_220 : decode cL_asks 220 = .ok (.iload 13, 2) := by decide +kernel
theorem dL_asks_222 : decode cL_asks 222 = .ok (.ifCond .ne 8, 3) := by decide +kernel
theorem dL_asks_225 : decode cL_asks 225 = .ok (.bipush (-101), 2) := by decide +kernel
theorem dL_asks_227 : decode cL_asks 227 = .ok (.goto 29, 3) := by decide +kernel
theorem dL_asks_230 : decode cL_asks 230 = .ok (.iload 10, 2) := by decide +kernel
theorem dL_asks_232 : decode cL_asks 232 = .ok (.ifCond .ne 8, 3) := by decide +kernel
theorem dL_asks_235 : decode cL_asks 235 = .ok (.bipush (-102), 2) := by decide +kernel
theorem dL_asks_237 : decode cL_asks 237 = .ok (.goto 19, 3) := by decide +kernel
theorem dL_asks_240 : decode cL_asks 240 = .ok (.aload_n 3, 1) := by decide +kernel
theorem dL_asks_241 : decode cL_asks 241 = .ok (.aload 4, 2) := by decide +kernel
theorem dL_asks_243 : decode cL_asks 243 = .ok (.aload 5, 2) := by decide +kernel
theorem dL_asks_245 : decode cL_asks 245 = .ok (.aload 6, 2) := by decide +kernel
theorem dL_asks_247 : decode cL_asks 247 = .ok (.iload 12, 2) := by decide +kernel
theorem dL_asks_249 : decode cL_asks 249 = .ok (.iload 11, 2) := by decide +kernel
theorem dL_asks_251 : decode cL_asks 251 = .ok (.iload 9, 2) := by decide +kernel
theorem dL_asks_253 : decode cL_asks 253 = .ok (.invokestatic 23, 3) := by decide +kernel
theorem dL_asks_256 : decode cL_asks 256 = .ok (.if_icmp .ne 68, 3) := by decide +kernel
theorem dL_asks_259 : decode cL_asks 259 = .ok (.aload_n 0, 1) := by decide +kernel
theorem dL_asks_260 : decode cL_asks 260 = .ok (.iconst 3, 1) := by decide +kernel
theorem dL_asks_261 : decode cL_asks 261 = .ok (.iload 12, 2) := by decide +kernel
theorem dL_asks_263 : decode cL_asks 263 = .ok (.iload 11, 2) := by decide +kernel
theorem dL_asks_265 : decode cL_asks 265 = .ok (.iload 9, 2) := by decide +kernel
theorem dL_asks_267 : decode cL_asks 267 = .ok (.invokestatic 122, 3) := by decide +kernel
theorem dL_asks_270 : decode cL_asks 270 = .ok (.iload 13, 2) := by decide +kernel
theorem dL_asks_272 : decode cL_asks 272 = .ok (.ifCond .ne 8, 3) := by decide +kernel
theorem dL_asks_275 : decode cL_asks 275 = .ok (.bipush (-101), 2) := by decide +kernel
theorem dL_asks_277 : decode cL_asks 277 = .ok (.goto 44, 3) := by decide +kernel
theorem dL_asks_280 : decode cL_asks 280 = .ok (.iload 10, 2) := by decide +kernel
theorem dL_asks_282 : decode cL_asks 282 = .ok (.ifCond .ne 8, 3) := by decide +kernel
theorem dL_asks_285 : decode cL_asks 285 = .ok (.bipush (-102), 2) := by decide +kernel
theorem dL_asks_287 : decode cL_asks 287 = .ok (.goto 34, 3) := by decide +kernel
theorem dL_asks_290 : decode cL_asks 290 = .ok (.aload_n 3, 1) := by decide +kernel
theorem dL_asks_291 : decode cL_asks 291 = .ok (.iconst 4, 1) := by decide +kernel
theorem dL_asks_292 : decode cL_asks 292 = .ok (.iload 12, 2) := by decide +kernel
theorem dL_asks_294 : decode cL_asks 294 = .ok (.iadd, 1) := by decide +kernel
theorem dL_asks_295 : decode cL_asks 295 = .ok (.iaload, 1) := by decide +kernel
theorem dL_asks_296 : decode cL_asks 296 = .ok (.ifCond .ne 8, 3) := by decide +kernel
theorem dL_asks_299 : decode cL_asks 299 = .ok (.bipush (-103), 2) := by decide +kernel
theorem dL_asks_301 : decode cL_asks 301 = .ok (.goto 20, 3) := by decide +kernel
theorem dL_asks_304 : decode cL_asks 304 = .ok (.aload 7, 2) := by decide +kernel
theorem dL_asks_306 : decode cL_asks 306 = .ok (.bipush 15, 2) := by decide +kernel
theorem dL_asks_308 : decode cL_asks 308 = .ok (.iload 12, 2) := by decide +kernel
theorem dL_asks_310 : decode cL_asks 310 = .ok (.imul, 1) := by decide +kernel
theorem dL_asks_311 : decode cL_asks 311 = .ok (.iconst 5, 1) := by decide +kernel
theorem dL_asks_312 : decode cL_asks 312 = .ok (.iload 11, 2) := by decide +kernel
theorem dL_asks_314 : decode cL_asks 314 = .ok (.imul, 1) := by decide +kernel
theorem dL_asks_315 : decode cL_asks 315 = .ok (.iadd, 1) := by decide +kernel
theorem dL_asks_316 : decode cL_asks 316 = .ok (.iload 9, 2) := by decide +kernel
theorem dL_asks_318 : decode cL_asks 318 = .ok (.invokestatic 15, 3) := by decide +kernel
theorem dL_asks_321 : decode cL_asks 321 = .ok (.if_icmp .eq 5, 3) := by decide +kernel
theorem dL_asks_324 : decode cL_asks 324 = .ok (.iconst 0, 1) := by decide +kernel
theorem dL_asks_325 : decode cL_asks 325 = .ok (.ireturn, 1) := by decide +kernel
theorem dL_asks_326 : decode cL_asks 326 = .ok (.iinc 12 1, 3) := by decide +kernel
theorem dL_asks_329 : decode cL_asks 329 = .ok (.goto (-149), 3) := by decide +kernel
theorem dL_asks_332 : decode cL_asks 332 = .ok (.iinc 11 1, 3) := by decide +kernel
theorem dL_asks_335 : decode cL_asks 335 = .ok (.goto (-303), 3) := by decide +kernel
theorem dL_asks_338 : decode cL_asks 338 = .ok (.iconst 0, 1) := by decide +kernel
theorem dL_asks_339 : decode cL_asks 339 = .ok (.istore 11, 2) := by decide +kernel
theorem dL_asks_341 : decode cL_asks 341 = .ok (.iconst 0, 1) := by decide +kernel
theorem dL_asks_342 : decode cL_asks 342 = .ok (.istore 12, 2) := by decide +kernel
theorem dL_asks_344 : decode cL_asks 344 = .ok (.iload 12, 2) := by decide +kernel
theorem dL_asks_346 : decode cL_asks 346 = .ok (.bipush 15, 2) := by decide +kernel
theorem dL_asks_348 : decode cL_asks 348 = .ok (.aload_n 3, 1) := by decide +kernel
theorem dL_asks_349 : decode cL_asks 349 = .ok (.iconst 1, 1) := by decide +kernel
theorem dL_asks_350 : decode cL_asks 350 = .ok (.iaload, 1) := by decide +kernel
theorem dL_asks_351 : decode cL_asks 351 = .ok (.imul, 1) := by decide +kernel
theorem dL_asks_352 : decode cL_asks 352 = .ok (.if_icmp .ge 73, 3) := by decide +kernel
theorem dL_asks_355 : decode cL_asks 355 = .ok (.iload 12, 2) := by decide +kernel
theorem dL_asks_357 : decode cL_asks 357 = .ok (.bipush 15, 2) := by decide +kernel
theorem dL_asks_359 : decode cL_asks 359 = .ok (.idiv, 1) := by decide +kernel
theorem dL_asks_360 : decode cL_asks 360 = .ok (.istore 13, 2) := by decide +kernel
theorem dL_asks_362 : decode cL_asks 362 = .ok (.iload 11, 2) := by decide +kernel
theorem dL_asks_364 : decode cL_asks 364 = .ok (.aload_n 3, 1) := by decide +kernel
theorem dL_asks_365 : decode cL_asks 365 = .ok (.iconst 4, 1) := by decide +kernel
theorem dL_asks_366 : decode cL_asks 366 = .ok (.iload 13, 2) := by decide +kernel
theorem dL_asks_368 : decode cL_asks 368 = .ok (.iadd, 1) := by decide +kernel
theorem dL_asks_369 : decode cL_asks 369 = .ok (.iaload, 1) := by decide +kernel
theorem dL_asks_370 : decode cL_asks 370 = .ok (.iconst 1, 1) := by decide +kernel
theorem dL_asks_371 : decode cL_asks 371 = .ok (.if_icmp .ne 44, 3) := by decide +kernel
theorem dL_asks_374 : decode cL_asks 374 = .ok (.aload 7, 2) := by decide +kernel
theorem dL_asks_376 : decode cL_asks 376 = .ok (.iload 12, 2) := by decide +kernel
theorem dL_asks_378 : decode cL_asks 378 = .ok (.iaload, 1) := by decide +kernel
theorem dL_asks_379 : decode cL_asks 379 = .ok (.aload_n 3, 1) := by decide +kernel
theorem dL_asks_380 : decode cL_asks 380 = .ok (.aload 4, 2) := by decide +kernel
theorem dL_asks_382 : decode cL_asks 382 = .ok (.aload 5, 2) := by decide +kernel
theorem dL_asks_384 : decode cL_asks 384 = .ok (.aload 6, 2) := by decide +kernel
theorem dL_asks_386 : decode cL_asks 386 = .ok (.iload 13, 2) := by decide +kernel
theorem dL_asks_388 : decode cL_asks 388 = .ok (.iload 12, 2) := by decide +kernel
theorem dL_asks_390 : decode cL_asks 390 = .ok (.bipush 15, 2) := by decide +kernel
theorem dL_asks_392 : decode cL_asks 392 = .ok (.irem, 1) := by decide +kernel
theorem dL_asks_393 : decode cL_asks 393 = .ok (.iconst 5, 1) := by decide +kernel
theorem dL_asks_394 : decode cL_asks 394 = .ok (.idiv, 1) := by decide +kernel
theorem dL_asks_395 : decode cL_asks 395 = .ok (.iload 12, 2) := by decide +kernel
theorem dL_asks_397 : decode cL_asks 397 = .ok (.iconst 5, 1) := by decide +kernel
theorem dL_asks_398 : decode cL_asks 398 = .ok (.irem, 1) := by decide +kernel
theorem dL_asks_399 : decode cL_asks 399 = .ok (.invokestatic 9, 3) := by decide +kernel
theorem dL_asks_402 : decode cL_asks 402 = .ok (.invokestatic 23, 3) := by decide +kernel
theorem dL_asks_405 : decode cL_asks 405 = .ok (.if_icmp .eq 10, 3) := by decide +kernel
theorem dL_asks_408 : decode cL_asks 408 = .ok (.iconst 1, 1) := by decide +kernel
theorem dL_asks_409 : decode cL_asks 409 = .ok (.iload 13, 2) := by decide +kernel
theorem dL_asks_411 : decode cL_asks 411 = .ok (.ishl, 1) := by decide +kernel
theorem dL_asks_412 : decode cL_asks 412 = .ok (.goto 4, 3) := by decide +kernel
theorem dL_asks_415 : decode cL_asks 415 = .ok (.iconst 0, 1) := by decide +kernel
theorem dL_asks_416 : decode cL_asks 416 = .ok (.ior, 1) := by decide +kernel
theorem dL_asks_417 : decode cL_asks 417 = .ok (.istore 11, 2) := by decide +kernel
theorem dL_asks_419 : decode cL_asks 419 = .ok (.iinc 12 1, 3) := by decide +kernel
theorem dL_asks_422 : decode cL_asks 422 = .ok (.goto (-78), 3) := by decide +kernel
theorem dL_asks_425 : decode cL_asks 425 = .ok (.iload_n 1, 1) := by decide +kernel
theorem dL_asks_426 : decode cL_asks 426 = .ok (.iconst 3, 1) := by decide +kernel
theorem dL_asks_427 : decode cL_asks 427 = .ok (.ishr, 1) := by decide +kernel
theorem dL_asks_428 : decode cL_asks 428 = .ok (.aload_n 3, 1) := by decide +kernel
theorem dL_asks_429 : decode cL_asks 429 = .ok (.iconst 1, 1) := by decide +kernel
theorem dL_asks_430 : decode cL_asks 430 = .ok (.iaload, 1) := by decide +kernel
theorem dL_asks_431 : decode cL_asks 431 = .ok (.iconst 1, 1) := by decide +kernel
theorem dL_asks_432 : decode cL_asks 432 = .ok (.iadd, 1) := by decide +kernel
theorem dL_asks_433 : decode cL_asks 433 = .ok (.invokestatic 91, 3) := by decide +kernel
theorem dL_asks_436 : decode cL_asks 436 = .ok (.istore 12, 2) := by decide +kernel
theorem dL_asks_438 : decode cL_asks 438 = .ok (.iload_n 1, 1) := by decide +kernel
theorem dL_asks_439 : decode cL_asks 439 = .ok (.iconst 5, 1) := by decide +kernel
theorem dL_asks_440 : decode cL_asks 440 = .ok (.ishr, 1) := by decide +kernel
theorem dL_asks_441 : decode cL_asks 441 = .ok (.iconst 2, 1) := by decide +kernel
theorem dL_asks_442 : decode cL_asks 442 = .ok (.invokestatic 91, 3) := by decide +kernel
theorem dL_asks_445 : decode cL_asks 445 = .ok (.istore 13, 2) := by decide +kernel
theorem dL_asks_447 : decode cL_asks 447 = .ok (.iload_n 1, 1) := by decide +kernel
theorem dL_asks_448 : decode cL_asks 448 = .ok (.iconst 4, 1) := by decide +kernel
theorem dL_asks_449 : decode cL_asks 449 = .ok (.ishr, 1) := by decide +kernel
theorem dL_asks_450 : decode cL_asks 450 = .ok (.iconst 4, 1) := by decide +kernel
theorem dL_asks_451 : decode cL_asks 451 = .ok (.invokestatic 91, 3) := by decide +kernel
theorem dL_asks_454 : decode cL_asks 454 = .ok (.istore 14, 2) := by decide +kernel
theorem dL_asks_456 : decode cL_asks 456 = .ok (.iload_n 1, 1) := by decide +kernel
theorem dL_asks_457 : decode cL_asks 457 = .ok (.bipush 7, 2) := by decide +kernel
theorem dL_asks_459 : decode cL_asks 459 = .ok (.ishr, 1) := by decide +kernel
theorem dL_asks_460 : decode cL_asks 460 = .ok (.bipush 9, 2) := by decide +kernel
theorem dL_asks_462 : decode cL_asks 462 = .ok (.invokestatic 91, 3) := by decide +kernel
theorem dL_asks_465 : decode cL_asks 465 = .ok (.istore 15, 2) := by decide +kernel
theorem dL_asks_467 : decode cL_asks 467 = .ok (.iload 12, 2) := by decide +kernel
theorem dL_asks_469 : decode cL_asks 469 = .ok (.aload_n 3, 1) := by decide +kernel
theorem dL_asks_470 : decode cL_asks 470 = .ok (.iconst 1, 1) := by decide +kernel
theorem dL_asks_471 : decode cL_asks 471 = .ok (.iaload, 1) := by decide +kernel
theorem dL_asks_472 : decode cL_asks 472 = .ok (.if_icmp .ge 13, 3) := by decide +kernel
theorem dL_asks_475 : decode cL_asks 475 = .ok (.iload 14, 2) := by decide +kernel
theorem dL_asks_477 : decode cL_asks 477 = .ok (.iconst 3, 1) := by decide +kernel
theorem dL_asks_478 : decode cL_asks 478 = .ok (.if_icmp .ge 7, 3) := by decide +kernel
theorem dL_asks_481 : decode cL_asks 481 = .ok (.iconst 1, 1) := by decide +kernel
theorem dL_asks_482 : decode cL_asks 482 = .ok (.goto 4, 3) := by decide +kernel
theorem dL_asks_485 : decode cL_asks 485 = .ok (.iconst 0, 1) := by decide +kernel
theorem dL_asks_486 : decode cL_asks 486 = .ok (.istore 16, 2) := by decide +kernel
theorem dL_asks_488 : decode cL_asks 488 = .ok (.iload 16, 2) := by decide +kernel
theorem dL_asks_490 : decode cL_asks 490 = .ok (.ifCond .eq 16, 3) := by decide +kernel
theorem dL_asks_493 : decode cL_asks 493 = .ok (.aload 8, 2) := by decide +kernel
end
section
theorem dL_asks_495 : decode cL_asks 495 = .ok (.iconst 3, 1) := by decide +kernel
theorem dL_asks_496 : decode cL_asks 496 = .ok (.iload 13, 2) := by decide +kernel
theorem dL_asks_498 : decode cL_asks 498 = .ok (.imul, 1) := by decide +kernel
theorem dL_asks_499 : decode cL_asks 499 = .ok (.iload 14, 2) := by decide +kernel
theorem dL_asks_501 : decode cL_asks 501 = .ok (.iadd, 1) := by decide +kernel
theorem dL_asks_502 : decode cL_asks 502 = .ok (.iaload, 1) := by decide +kernel
theorem dL_asks_503 : decode cL_asks 503 = .ok (.goto 4, 3) := by decide +kernel
theorem dL_asks_506 : decode cL_asks 506 = .ok (.iconst 0, 1) := by decide +kernel
theorem dL_asks_507 : decode cL_asks 507 = .ok (.istore 17, 2) := by decide +kernel
theorem dL_asks_509 : decode cL_asks 509 = .ok (.iconst 0, 1) := by decide +kernel
theorem dL_asks_510 : decode cL_asks 510 = .ok (.istore 18, 2) := by decide +kernel
theorem dL_asks_512 : decode cL_asks 512 = .ok (.iload 18, 2) := by decide +kernel
theorem dL_asks_514 : decode cL_asks 514 = .ok (.iconst 3, 1) := by decide +kernel
theorem dL_asks_515 : decode cL_asks 515 = .ok (.if_icmp .ge 94, 3) := by decide +kernel
theorem dL_asks_518 : decode cL_asks 518 = .ok (.iload 16, 2) := by decide +kernel
theorem dL_asks_520 : decode cL_asks 520 = .ok (.ifCond .eq 89, 3) := by decide +kernel
theorem dL_asks_523 : decode cL_asks 523 = .ok (.aload 8, 2) := by decide +kernel
theorem dL_asks_525 : decode cL_asks 525 = .ok (.bipush 12, 2) := by decide +kernel
theorem dL_asks_527 : decode cL_asks 527 = .ok (.iconst 3, 1) := by decide +kernel
theorem dL_asks_528 : decode cL_asks 528 = .ok (.iload 18, 2) := by decide +kernel
theorem dL_asks_530 : decode cL_asks 530 = .ok (.imul, 1) := by decide +kernel
theorem dL_asks_531 : decode cL_asks 531 = .ok (.iadd, 1) := by decide +kernel
theorem dL_asks_532 : decode cL_asks 532 = .ok (.iload 14, 2) := by decide +kernel
theorem dL_asks_534 : decode cL_asks 534 = .ok (.iadd, 1) := by decide +kernel
theorem dL_asks_535 : decode cL_asks 535 = .ok (.iaload, 1) := by decide +kernel
theorem dL_asks_536 : decode cL_asks 536 = .ok (.aload 8, 2) := by decide +kernel
theorem dL_asks_538 : decode cL_asks 538 = .ok (.bipush 6, 2) := by decide +kernel
theorem dL_asks_540 : decode cL_asks 540 = .ok (.iconst 3, 1) := by decide +kernel
theorem dL_asks_541 : decode cL_asks 541 = .ok (.iload 13, 2) := by decide +kernel
theorem dL_asks_543 : decode cL_asks 543 = .ok (.imul, 1) := by decide +kernel
theorem dL_asks_544 : decode cL_asks 544 = .ok (.iadd, 1) := by decide +kernel
theorem dL_asks_545 : decode cL_asks 545 = .ok (.iload 18, 2) := by decide +kernel
theorem dL_asks_547 : decode cL_asks 547 = .ok (.iadd, 1) := by decide +kernel
theorem dL_asks_548 : decode cL_asks 548 = .ok (.iaload, 1) := by decide +kernel
theorem dL_asks_549 : decode cL_asks 549 = .ok (.imul, 1) := by decide +kernel
theorem dL_asks_550 : decode cL_asks 550 = .ok (.istore 19, 2) := by decide +kernel
theorem dL_asks_552 : decode cL_asks 552 = .ok (.iload 17, 2) := by decide +kernel
theorem dL_asks_554 : decode cL_asks 554 = .ok (.iload 15, 2) := by decide +kernel
theorem dL_asks_556 : decode cL_asks 556 = .ok (.iload 18, 2) := by decide +kernel
theorem dL_asks_558 : decode cL_asks 558 = .ok (.ishr, 1) := by decide +kernel
theorem dL_asks_559 : decode cL_asks 559 = .ok (.iconst 1, 1) := by decide +kernel
theorem dL_asks_560 : decode cL_asks 560 = .ok (.iand, 1) := by decide +kernel
theorem dL_asks_561 : decode cL_asks 561 = .ok (.iconst 1, 1) := by decide +kernel
theorem dL_asks_562 : decode cL_asks 562 = .ok (.if_icmp .ne 7, 3) := by decide +kernel
theorem dL_asks_565 : decode cL_asks 565 = .ok (.iconst 0, 1) := by decide +kernel
theorem dL_asks_566 : decode cL_asks 566 = .ok (.goto 16, 3) := by decide +kernel
theorem dL_asks_569 : decode cL_asks 569 = .ok (.iload 19, 2) := by decide +kernel
theorem dL_asks_571 : decode cL_asks 571 = .ok (.iload 19, 2) := by decide +kernel
theorem dL_asks_573 : decode cL_asks 573 = .ok (.sipush 255, 3) := by decide +kernel
theorem dL_asks_576 : decode cL_asks 576 = .ok (.irem, 1) := by decide +kernel
theorem dL_asks_577 : decode cL_asks 577 = .ok (.isub, 1) := by decide +kernel
theorem dL_asks_578 : decode cL_asks 578 = .ok (.sipush 255, 3) := by decide +kernel
theorem dL_asks_581 : decode cL_asks 581 = .ok (.idiv, 1) := by decide +kernel
theorem dL_asks_582 : decode cL_asks 582 = .ok (.iadd, 1) := by decide +kernel
theorem dL_asks_583 : decode cL_asks 583 = .ok (.istore 17, 2) := by decide +kernel
theorem dL_asks_585 : decode cL_asks 585 = .ok (.iload 17, 2) := by decide +kernel
theorem dL_asks_587 : decode cL_asks 587 = .ok (.sipush 255, 3) := by decide +kernel
theorem dL_asks_590 : decode cL_asks 590 = .ok (.if_icmp .le 9, 3) := by decide +kernel
theorem dL_asks_593 : decode cL_asks 593 = .ok (.sipush 255, 3) := by decide +kernel
theorem dL_asks_596 : decode cL_asks 596 = .ok (.goto 5, 3) := by decide +kernel
theorem dL_asks_599 : decode cL_asks 599 = .ok (.iload 17, 2) := by decide +kernel
theorem dL_asks_601 : decode cL_asks 601 = .ok (.istore 17, 2) := by decide +kernel
theorem dL_asks_603 : decode cL_asks 603 = .ok (.iinc 18 1, 3) := by decide +kernel
theorem dL_asks_606 : decode cL_asks 606 = .ok (.goto (-94), 3) := by decide +kernel
theorem dL_asks_609 : decode cL_asks 609 = .ok (.aload_n 0, 1) := by decide +kernel
theorem dL_asks_610 : decode cL_asks 610 = .ok (.invokevirtual 125, 3) := by decide +kernel
theorem dL_asks_613 : decode cL_asks 613 = .ok (.iload 11, 2) := by decide +kernel
theorem dL_asks_615 : decode cL_asks 615 = .ok (.if_icmp .ne 73, 3) := by decide +kernel
theorem dL_asks_618 : decode cL_asks 618 = .ok (.aload_n 0, 1) := by decide +kernel
theorem dL_asks_619 : decode cL_asks 619 = .ok (.invokevirtual 129, 3) := by decide +kernel
theorem dL_asks_622 : decode cL_asks 622 = .ok (.aload_n 3, 1) := by decide +kernel
theorem dL_asks_623 : decode cL_asks 623 = .ok (.aload 6, 2) := by decide +kernel
theorem dL_asks_625 : decode cL_asks 625 = .ok (.invokestatic 94, 3) := by decide +kernel
theorem dL_asks_628 : decode cL_asks 628 = .ok (.if_icmp .ne 60, 3) := by decide +kernel
theorem dL_asks_631 : decode cL_asks 631 = .ok (.aload_n 0, 1) := by decide +kernel
theorem dL_asks_632 : decode cL_asks 632 = .ok (.iload 12, 2) := by decide +kernel
theorem dL_asks_634 : decode cL_asks 634 = .ok (.iload 13, 2) := by decide +kernel
theorem dL_asks_636 : decode cL_asks 636 = .ok (.iload 14, 2) := by decide +kernel
theorem dL_asks_638 : decode cL_asks 638 = .ok (.iload 15, 2) := by decide +kernel
theorem dL_asks_640 : decode cL_asks 640 = .ok (.invokestatic 131, 3) := by decide +kernel
theorem dL_asks_643 : decode cL_asks 643 = .ok (.iload 16, 2) := by decide +kernel
theorem dL_asks_645 : decode cL_asks 645 = .ok (.ifCond .ne 8, 3) := by decide +kernel
theorem dL_asks_648 : decode cL_asks 648 = .ok (.bipush (-101), 2) := by decide +kernel
theorem dL_asks_650 : decode cL_asks 650 = .ok (.goto 31, 3) := by decide +kernel
theorem dL_asks_653 : decode cL_asks 653 = .ok (.iload 15, 2) := by decide +kernel
theorem dL_asks_655 : decode cL_asks 655 = .ok (.bipush 7, 2) := by decide +kernel
theorem dL_asks_657 : decode cL_asks 657 = .ok (.if_icmp .le 8, 3) := by decide +kernel
theorem dL_asks_660 : decode cL_asks 660 = .ok (.bipush (-102), 2) := by decide +kernel
theorem dL_asks_662 : decode cL_asks 662 = .ok (.goto 19, 3) := by decide +kernel
theorem dL_asks_665 : decode cL_asks 665 = .ok (.aload_n 3, 1) := by decide +kernel
theorem dL_asks_666 : decode cL_asks 666 = .ok (.aload 4, 2) := by decide +kernel
theorem dL_asks_668 : decode cL_asks 668 = .ok (.aload 5, 2) := by decide +kernel
theorem dL_asks_670 : decode cL_asks 670 = .ok (.aload 6, 2) := by decide +kernel
theorem dL_asks_672 : decode cL_asks 672 = .ok (.iload 12, 2) := by decide +kernel
theorem dL_asks_674 : decode cL_asks 674 = .ok (.iload 14, 2) := by decide +kernel
theorem dL_asks_676 : decode cL_asks 676 = .ok (.iload 17, 2) := by decide +kernel
theorem dL_asks_678 : decode cL_asks 678 = .ok (.invokestatic 23, 3) := by decide +kernel
theorem dL_asks_681 : decode cL_asks 681 = .ok (.if_icmp .ne 7, 3) := by decide +kernel
theorem dL_asks_684 : decode cL_asks 684 = .ok (.iconst 1, 1) := by decide +kernel
theorem dL_asks_685 : decode cL_asks 685 = .ok (.goto 4, 3) := by decide +kernel
theorem dL_asks_688 : decode cL_asks 688 = .ok (.iconst 0, 1) := by decide +kernel
theorem dL_asks_689 : decode cL_asks 689 = .ok (.istore 18, 2) := by decide +kernel
theorem dL_asks_691 : decode cL_asks 691 = .ok (.iload_n 1, 1) := by decide +kernel
theorem dL_asks_692 : decode cL_asks 692 = .ok (.bipush 8, 2) := by decide +kernel
theorem dL_asks_694 : decode cL_asks 694 = .ok (.ishr, 1) := by decide +kernel
theorem dL_asks_695 : decode cL_asks 695 = .ok (.aload_n 3, 1) := by decide +kernel
theorem dL_asks_696 : decode cL_asks 696 = .ok (.iconst 1, 1) := by decide +kernel
theorem dL_asks_697 : decode cL_asks 697 = .ok (.iaload, 1) := by decide +kernel
theorem dL_asks_698 : decode cL_asks 698 = .ok (.iconst 1, 1) := by decide +kernel
theorem dL_asks_699 : decode cL_asks 699 = .ok (.iadd, 1) := by decide +kernel
theorem dL_asks_700 : decode cL_asks 700 = .ok (.invokestatic 91, 3) := by decide +kernel
theorem dL_asks_703 : decode cL_asks 703 = .ok (.istore 19, 2) := by decide +kernel
theorem dL_asks_705 : decode cL_asks 705 = .ok (.iload 18, 2) := by decide +kernel
theorem dL_asks_707 : decode cL_asks 707 = .ok (.ifCond .eq 84, 3) := by decide +kernel
theorem dL_asks_710 : decode cL_asks 710 = .ok (.iload_n 2, 1) := by decide +kernel
theorem dL_asks_711 : decode cL_asks 711 = .ok (.bipush 9, 2) := by decide +kernel
theorem dL_asks_713 : decode cL_asks 713 = .ok (.irem, 1) := by decide +kernel
theorem dL_asks_714 : decode cL_asks 714 = .ok (.ifCond .ne 73, 3) := by decide +kernel
theorem dL_asks_717 : decode cL_asks 717 = .ok (.aload_n 0, 1) := by decide +kernel
theorem dL_asks_718 : decode cL_asks 718 = .ok (.iconst 2, 1) := by decide +kernel
theorem dL_asks_719 : decode cL_asks 719 = .ok (.iload 19, 2) := by decide +kernel
theorem dL_asks_721 : decode cL_asks 721 = .ok (.invokestatic 112, 3) := by decide +kernel
theorem dL_asks_724 : decode cL_asks 724 = .ok (.iload 19, 2) := by decide +kernel
theorem dL_asks_726 : decode cL_asks 726 = .ok (.aload_n 3, 1) := by decide +kernel
theorem dL_asks_727 : decode cL_asks 727 = .ok (.iconst 1, 1) := by decide +kernel
theorem dL_asks_728 : decode cL_asks 728 = .ok (.iaload, 1) := by decide +kernel
theorem dL_asks_729 : decode cL_asks 729 = .ok (.if_icmp .ne 8, 3) := by decide +kernel
theorem dL_asks_732 : decode cL_asks 732 = .ok (.bipush (-101), 2) := by decide +kernel
theorem dL_asks_734 : decode cL_asks 734 = .ok (.goto 15, 3) := by decide +kernel
theorem dL_asks_737 : decode cL_asks 737 = .ok (.aload_n 3, 1) := by decide +kernel
theorem dL_asks_738 : decode cL_asks 738 = .ok (.aload 4, 2) := by decide +kernel
theorem dL_asks_740 : decode cL_asks 740 = .ok (.aload 5, 2) := by decide +kernel
theorem dL_asks_742 : decode cL_asks 742 = .ok (.aload 6, 2) := by decide +kernel
theorem dL_asks_744 : decode cL_asks 744 = .ok (.iload 19, 2) := by decide +kernel
theorem dL_asks_746 : decode cL_asks 746 = .ok (.invokestatic 116, 3) := by decide +kernel
theorem dL_asks_749 : decode cL_asks 749 = .ok (.if_icmp .ne 42, 3) := by decide +kernel
theorem dL_asks_752 : decode cL_asks 752 = .ok (.aload_n 0, 1) := by decide +kernel
theorem dL_asks_753 : decode cL_asks 753 = .ok (.iconst 3, 1) := by decide +kernel
theorem dL_asks_754 : decode cL_asks 754 = .ok (.iload 19, 2) := by decide +kernel
theorem dL_asks_756 : decode cL_asks 756 = .ok (.invokestatic 112, 3) := by decide +kernel
theorem dL_asks_759 : decode cL_asks 759 = .ok (.iload 19, 2) := by decide +kernel
theorem dL_asks_761 : decode cL_asks 761 = .ok (.aload_n 3, 1) := by decide +kernel
theorem dL_asks_762 : decode cL_asks 762 = .ok (.iconst 1, 1) := by decide +kernel
theorem dL_asks_763 : decode cL_asks 763 = .ok (.iaload, 1) := by decide +kernel
theorem dL_asks_764 : decode cL_asks 764 = .ok (.if_icmp .ne 8, 3) := by decide +kernel
theorem dL_asks_767 : decode cL_asks 767 = .ok (.bipush (-101), 2) := by decide +kernel
theorem dL_asks_769 : decode cL_asks 769 = .ok (.goto 15, 3) := by decide +kernel
theorem dL_asks_772 : decode cL_asks 772 = .ok (.aload_n 3, 1) := by decide +kernel
theorem dL_asks_773 : decode cL_asks 773 = .ok (.aload 4, 2) := by decide +kernel
theorem dL_asks_775 : decode cL_asks 775 = .ok (.aload 5, 2) := by decide +kernel
theorem dL_asks_777 : decode cL_asks 777 = .ok (.aload 6, 2) := by decide +kernel
theorem dL_asks_779 : decode cL_asks 779 = .ok (.iload 19, 2) := by decide +kernel
theorem dL_asks_781 : decode cL_asks 781 = .ok (.invokestatic 134, 3) := by decide +kernel
theorem dL_asks_784 : decode cL_asks 784 = .ok (.if_icmp .ne 7, 3) := by decide +kernel
theorem dL_asks_787 : decode cL_asks 787 = .ok (.iconst 1, 1) := by decide +kernel
theorem dL_asks_788 : decode cL_asks 788 = .ok (.goto 4, 3) := by decide +kernel
theorem dL_asks_791 : decode cL_asks 791 = .ok (.iconst 0, 1) := by decide +kernel
theorem dL_asks_792 : decode cL_asks 792 = .ok (.ireturn, 1) := by decide +kernel
end
section
set_option maxRecDepth 20000 in
theorem ggL_law_X0_init : GoodIn wsL_law wsX0_init := goodIn_r _ [7, 8, 9, 10, 3, 11, 12, 13, 14, 15, 16, 17, 18, 19, 20, 21, 276, 277, 278, 279, 280, 281, 282, 283, 284, 285, 286, 287, 288, 289, 290] (by decide +kernel) (by decide +kernel)
set_option maxRecDepth 20000 in
theorem gL_law_X0_init : GoodIn wsL_law (wsX0_init) := ggL_law_X0_init
set_option maxRecDepth 20000 in
theorem ggL_law_L_cell : GoodIn wsL_law wsL_cell := goodIn_r _ [25, 26] (by decide +kernel) (by decide +kernel)
set_option maxRecDepth 20000 in
theorem gL_law_L_cell : GoodIn wsL_law (va_wsS RL 138 yL_cell wsL_cell) := goodIn_app (goodIn_of _ (by decide +kernel)) ggL_law_L_cell
set_option maxRecDepth 20000 in
theorem ggL_law_L_some : GoodIn wsL_law wsL_some := goodIn_r _ [29] (by decide +kernel) (by decide +kernel)
set_option maxRecDepth 20000 in
theorem gL_law_L_some : GoodIn wsL_law (va_wsS RL 91 yL_some wsL_some) := goodIn_app (goodIn_of _ (by decide +kernel)) ggL_law_L_some
set_option maxRecDepth 20000 in
theorem ggL_law_L_at : GoodIn wsL_law wsL_at := goodIn_r _ [32] (by decide +kernel) (by decide +kernel)
set_option maxRecDepth 20000 in
theorem gL_law_L_at : GoodIn wsL_law (va_wsS RL 9 yL_at wsL_at) := goodIn_app (goodIn_of _ (by decide +kernel)) ggL_law_L_at
set_option maxRecDepth 20000 in
theorem ggL_law_X0_profile : GoodIn wsL_law wsX0_profile := goodIn_ca (goodIn_r _ [36, 37, 38, 39, 11, 12, 13, 14, 40, 41, 2, 42, 43, 44, 45, 46, 47, 48, 49, 276, 277, 278, 279, 280, 281, 282, 283, 284, 285, 286, 287, 288, 289, 290] (by decide +kernel) (by decide +kernel)) (goodIn_sub (fun _ h => List.mem_append_left _ (List.mem_append_left _ (List.mem_append_right _ h))) (by decide +kernel))
set_option maxRecDepth 20000 in
theorem gL_law_X0_profile : GoodIn wsL_law (wsV RL 143 RX0 yX0_profile wsX0_profile) := goodIn_app (goodIn_of _ (by decide +kernel)) ggL_law_X0_profile
set_option maxRecDepth 20000 in
theorem ggL_law_X0_chain : GoodIn wsL_law wsX0_chain := goodIn_ca (goodIn_r _ [53, 37, 38, 54, 276, 277, 278, 279, 280, 281, 282, 283, 284, 285, 286, 287, 288, 289, 290] (by decide +kernel) (by decide +kernel)) (goodIn_sub (fun _ h => List.mem_append_left _ (List.mem_append_left _ (List.mem_append_right _ h))) (by decide +kernel))
set_option maxRecDepth 20000 in
theorem gL_law_X0_chain : GoodIn wsL_law (wsV RL 146 RX0 yX0_chain wsX0_chain) := goodIn_app (goodIn_of _ (by decide +kernel)) ggL_law_X0_chain
set_option maxRecDepth 20000 in
theorem ggL_law_L_profiles : GoodIn wsL_law wsL_profiles := goodIn_ca (goodIn_ca (goodIn_ca (goodIn_r _ [57, 27, 28, 24, 29, 58, 59, 60, 61, 62, 63, 64, 65, 66, 67, 68, 69, 70, 71, 72, 2, 73, 74, 75, 11, 76, 77, 78, 79, 39, 80, 81, 82, 83, 84, 85, 86, 87, 88, 89, 90, 91, 37, 38, 92, 93, 94, 95, 96, 97, 98, 99, 100, 101, 102, 103, 16, 15, 104, 105, 106, 47, 48, 49, 107, 108, 109, 110, 111, 112, 113, 12, 13, 114, 115, 116, 117, 118, 119, 120, 14, 121, 122, 123, 124, 125, 126, 127, 128, 54, 129, 130, 131, 132, 133, 134, 135, 136, 17, 18, 137, 138, 139, 140, 141, 142, 143, 45, 144, 145, 146, 147, 40, 41, 42, 43, 44, 46, 148, 149, 150, 151, 152, 153, 154, 155, 156, 157, 158, 159, 160, 161, 162, 163, 164, 165, 166, 167, 168, 169, 276, 277, 278, 279, 280, 281, 282, 283, 284, 285, 286, 287, 288, 289, 290] (by decide +kernel) (by decide +kernel)) (goodIn_sub (fun _ h => List.mem_append_left _ (List.mem_append_right _ h)) (by decide +kernel))) (goodIn_sub (fun _ h => List.mem_append_right _ h) (by decide +kernel))) (goodIn_sub (fun _ h => List.mem_append_left _ (List.mem_append_left _ (List.mem_append_right _ h))) (by decide +kernel))
set_option maxRecDepth 20000 in
theorem gL_law_L_profiles : GoodIn wsL_law (va_wsS RL 149 yL_profiles wsL_profiles) := goodIn_app (goodIn_of _ (by decide +kernel)) ggL_law_L_profiles
set_option maxRecDepth 20000 in
theorem ggL_law_L_rows : GoodIn wsL_law wsL_rows := goodIn_ca (goodIn_ca (goodIn_ca (goodIn_r _ [172, 27, 28, 24, 29, 114, 115, 116, 67, 68, 69, 117, 118, 119, 2, 120, 86, 87, 14, 76, 77, 78, 79, 74, 75, 39, 88, 89, 90, 91, 37, 38, 92, 93, 94, 95, 96, 97, 98, 99, 100, 101, 102, 103, 16, 15, 104, 105, 106, 47, 48, 49, 121, 122, 123, 124, 125, 126, 127, 128, 54, 129, 130, 131, 132, 133, 134, 135, 136, 17, 18, 137, 83, 84, 85, 138, 139, 140, 141, 142, 143, 45, 144, 145, 146, 147, 40, 41, 42, 43, 44, 46, 148, 149, 150, 151, 152, 153, 154, 155, 12, 13, 156, 157, 158, 159, 11, 160, 161, 162, 163, 164, 165, 166, 167, 168, 169, 173, 174, 175, 176, 177, 178, 179, 180, 181, 182, 183, 184, 185, 186, 187, 188, 189, 190, 191, 192, 193, 194, 3, 30, 31, 32, 195, 196, 197, 198, 199, 200, 201, 202, 203, 204, 205, 206, 276, 277, 278, 279, 280, 281, 282, 283, 284, 285, 286, 287, 288, 289, 290] (by decide +kernel) (by decide +kernel)) (goodIn_sub (fun _ h => List.mem_append_right _ h) (by decide +kernel))) (goodIn_sub (fun _ h => List.mem_append_left _ (List.mem_append_right _ h)) (by decide +kernel))) (goodIn_sub (fun _ h => List.mem_append_left _ (List.mem_append_left _ (List.mem_append_right _ h))) (by decide +kernel))
set_option maxRecDepth 20000 in
theorem gL_law_L_rows : GoodIn wsL_law (va_wsS RL 153 yL_rows wsL_rows) := goodIn_app (goodIn_of _ (by decide +kernel)) ggL_law_L_rows
set_option maxRecDepth 20000 in
theorem ggL_law_L_colours : GoodIn wsL_law wsL_colours := goodIn_ca (goodIn_ca (goodIn_r _ [209, 27, 28, 24, 29, 61, 62, 63, 210, 211, 212, 67, 68, 213, 214, 215, 2, 216, 19, 217, 218, 219, 74, 75, 80, 81, 82, 83, 84, 85, 86, 87, 47, 48, 49, 220, 221, 222, 223, 20, 224, 225, 226, 227, 228, 229, 230, 21, 276, 277, 278, 279, 280, 281, 282, 283, 284, 285, 286, 287, 288, 289, 290] (by decide +kernel) (by decide +kernel)) (goodIn_sub (fun _ h => List.mem_append_left _ (List.mem_append_right _ h)) (by decide +kernel))) (goodIn_sub (fun _ h => List.mem_append_right _ h) (by decide +kernel))
set_option maxRecDepth 20000 in
theorem gL_law_L_colours : GoodIn wsL_law (va_wsS RL 157 yL_colours wsL_colours) := goodIn_app (goodIn_of _ (by decide +kernel)) ggL_law_L_colours
set_option maxRecDepth 20000 in
theorem ggL_law_L_asks : GoodIn wsL_law wsL_asks := goodIn_ca (goodIn_ca (goodIn_ca (goodIn_r _ [233, 61, 62, 24, 63, 27, 28, 29, 234, 235, 236, 67, 68, 69, 237, 238, 239, 2, 240, 76, 77, 78, 79, 74, 75, 39, 80, 81, 82, 83, 84, 85, 86, 87, 156, 157, 158, 159, 11, 160, 161, 162, 104, 105, 106, 163, 164, 165, 166, 241, 242, 243, 244, 152, 153, 154, 155, 12, 13, 14, 43, 44, 45, 46, 145, 146, 147, 167, 168, 169, 245, 246, 247, 248, 125, 126, 127, 128, 54, 148, 149, 150, 151, 16, 15, 249, 250, 251, 252, 37, 38, 137, 17, 97, 98, 99, 201, 202, 203, 30, 31, 32, 198, 199, 200, 195, 196, 197, 253, 254, 255, 256, 257, 258, 259, 260, 40, 41, 42, 261, 93, 94, 95, 96, 100, 101, 102, 103, 58, 59, 60, 262, 263, 264, 265, 266, 267, 268, 217, 218, 219, 269, 270, 271, 272, 19, 21, 20, 173, 174, 175, 176, 177, 178, 179, 129, 130, 131, 132, 47, 48, 49, 180, 181, 182, 183, 184, 185, 186, 187, 138, 139, 140, 141, 18, 142, 143, 144, 188, 189, 190, 191, 192, 193, 194, 3, 204, 205, 206, 273, 274, 275, 276, 277, 278, 279, 280, 281, 282, 283, 284, 285, 286, 287, 288, 289, 290] (by decide +kernel) (by decide +kernel)) (goodIn_sub (fun _ h => List.mem_append_left _ (List.mem_append_right _ h)) (by decide +kernel))) (goodIn_sub (fun _ h => List.mem_append_right _ h) (by decide +kernel))) (goodIn_sub (fun _ h => List.mem_append_left _ (List.mem_append_left _ (List.mem_append_right _ h))) (by decide +kernel))
set_option maxRecDepth 20000 in
theorem gL_law_L_asks : GoodIn wsL_law (va_wsS RL 161 yL_asks wsL_asks) := goodIn_app (goodIn_of _ (by decide +kernel)) ggL_law_L_asks
theorem dL_law_0 : decode cL_law 0 = .ok (.new 32, 3) := by decide +kernel
theorem dL_law_3 : decode cL_law 3 = .ok (.dup, 1) := by decide +kernel
theorem dL_law_4 : decode cL_law 4 = .ok (.invokespecial 137, 3) := by decide +kernel
theorem dL_law_7 : decode cL_law 7 = .ok (.astore_n 1, 1) := by decide +kernel
theorem dL_law_8 : decode cL_law 8 = .ok (.bipush 11, 2) := by decide +kernel
theorem dL_law_10 : decode cL_law 10 = .ok (.newarray .int, 2) := by decide +kernel
theorem dL_law_12 : decode cL_law 12 = .ok (.astore_n 2, 1) := by decide +kernel
theorem dL_law_13 : decode cL_law 13 = .ok (.bipush 45, 2) := by decide +kernel
theorem dL_law_15 : decode cL_law 15 = .ok (.newarray .int, 2) := by decide +kernel
theorem dL_law_17 : decode cL_law 17 = .ok (.astore_n 3, 1) := by decide +kernel
theorem dL_law_18 : decode cL_law 18 = .ok (.bipush 18, 2) := by decide +kernel
theorem dL_law_20 : decode cL_law 20 = .ok (.newarray .int, 2) := by decide +kernel
theorem dL_law_22 : decode cL_law 22 = .ok (.astore 4, 2) := by decide +kernel
theorem dL_law_24 : decode cL_law 24 = .ok (.bipush 12, 2) := by decide +kernel
theorem dL_law_26 : decode cL_law 26 = .ok (.newarray .int, 2) := by decide +kernel
theorem dL_law_28 : decode cL_law 28 = .ok (.astore 5, 2) := by decide +kernel
theorem dL_law_30 : decode cL_law 30 = .ok (.bipush 30, 2) := by decide +kernel
theorem dL_law_32 : decode cL_law 32 = .ok (.newarray .int, 2) := by decide +kernel
theorem dL_law_34 : decode cL_law 34 = .ok (.astore 6, 2) := by decide +kernel
theorem dL_law_36 : decode cL_law 36 = .ok (.bipush 21, 2) := by decide +kernel
theorem dL_law_38 : decode cL_law 38 = .ok (.newarray .int, 2) := by decide +kernel
theorem dL_law_40 : decode cL_law 40 = .ok (.astore 7, 2) := by decide +kernel
theorem dL_law_42 : decode cL_law 42 = .ok (.iconst 0, 1) := by decide +kernel
theorem dL_law_43 : decode cL_law 43 = .ok (.istore 8, 2) := by decide +kernel
theorem dL_law_45 : decode cL_law 45 = .ok (.iload 8, 2) := by decide +kernel
theorem dL_law_47 : decode cL_law 47 = .ok (.bipush 75, 2) := by decide +kernel
theorem dL_law_49 : decode cL_law 49 = .ok (.if_icmp .ge 352, 3) := by decide +kernel
theorem dL_law_52 : decode cL_law 52 = .ok (.aload_n 0, 1) := by decide +kernel
theorem dL_law_53 : decode cL_law 53 = .ok (.iload 8, 2) := by decide +kernel
theorem dL_law_55 : decode cL_law 55 = .ok (.bipush 71, 2) := by decide +kernel
theorem dL_law_57 : decode cL_law 57 = .ok (.irem, 1) := by decide +kernel
theorem dL_law_58 : decode cL_law 58 = .ok (.invokestatic 138, 3) := by decide +kernel
theorem dL_law_61 : decode cL_law 61 = .ok (.iload 8, 2) := by decide +kernel
theorem dL_law_63 : decode cL_law 63 = .ok (.ldc 142, 2) := by decide +kernel
theorem dL_law_65 : decode cL_law 65 = .ok (.imul, 1) := by decide +kernel
theorem dL_law_66 : decode cL_law 66 = .ok (.ixor, 1) := by decide +kernel
theorem dL_law_67 : decode cL_law 67 = .ok (.istore 9, 2) := by decide +kernel
theorem dL_law_69 : decode cL_law 69 = .ok (.iload 9, 2) := by decide +kernel
theorem dL_law_71 : decode cL_law 71 = .ok (.iconst 4, 1) := by decide +kernel
theorem dL_law_72 : decode cL_law 72 = .ok (.ishr, 1) := by decide +kernel
theorem dL_law_73 : decode cL_law 73 = .ok (.istore 10, 2) := by decide +kernel
theorem dL_law_75 : decode cL_law 75 = .ok (.iload 9, 2) := by decide +kernel
theorem dL_law_77 : decode cL_law 77 = .ok (.bipush 24, 2) := by decide +kernel
theorem dL_law_79 : decode cL_law 79 = .ok (.invokestatic 91, 3) := by decide +kernel
theorem dL_law_82 : decode cL_law 82 = .ok (.istore 11, 2) := by decide +kernel
theorem dL_law_84 : decode cL_law 84 = .ok (.iload 8, 2) := by decide +kernel
theorem dL_law_86 : decode cL_law 86 = .ok (.iconst 3, 1) := by decide +kernel
theorem dL_law_87 : decode cL_law 87 = .ok (.if_icmp .ge 93, 3) := by decide +kernel
theorem dL_law_90 : decode cL_law 90 = .ok (.iconst 0, 1) := by decide +kernel
theorem dL_law_91 : decode cL_law 91 = .ok (.istore 13, 2) := by decide +kernel
theorem dL_law_93 : decode cL_law 93 = .ok (.iload 13, 2) := by decide +kernel
theorem dL_law_95 : decode cL_law 95 = .ok (.bipush 15, 2) := by decide +kernel
theorem dL_law_97 : decode cL_law 97 = .ok (.if_icmp .ge 26, 3) := by decide +kernel
theorem dL_law_100 : decode cL_law 100 = .ok (.aload_n 3, 1) := by decide +kernel
theorem dL_law_101 : decode cL_law 101 = .ok (.bipush 15, 2) := by decide +kernel
theorem dL_law_103 : decode cL_law 103 = .ok (.iload 8, 2) := by decide +kernel
theorem dL_law_105 : decode cL_law 105 = .ok (.imul, 1) := by decide +kernel
theorem dL_law_106 : decode cL_law 106 = .ok (.iload 13, 2) := by decide +kernel
theorem dL_law_108 : decode cL_law 108 = .ok (.iadd, 1) := by decide +kernel
theorem dL_law_109 : decode cL_law 109 = .ok (.iload 13, 2) := by decide +kernel
theorem dL_law_111 : decode cL_law 111 = .ok (.iconst 5, 1) := by decide +kernel
theorem dL_law_112 : decode cL_law 112 = .ok (.irem, 1) := by decide +kernel
theorem dL_law_113 : decode cL_law 113 = .ok (.invokestatic 9, 3) := by decide +kernel
theorem dL_law_116 : decode cL_law 116 = .ok (.iastore, 1) := by decide +kernel
theorem dL_law_117 : decode cL_law 117 = .ok (.iinc 13 1, 3) := by decide +kernel
theorem dL_law_120 : decode cL_law 120 = .ok (.goto (-27), 3) := by decide +kernel
theorem dL_law_123 : decode cL_law 123 = .ok (.iconst 0, 1) := by decide +kernel
theorem dL_law_124 : decode cL_law 124 = .ok (.istore 13, 2) := by decide +kernel
theorem dL_law_126 : decode cL_law 126 = .ok (.iload 13, 2) := by decide +kernel
theorem dL_law_128 : decode cL_law 128 = .ok (.iconst 3, 1) := by decide +kernel
theorem dL_law_129 : decode cL_law 129 = .ok (.if_icmp .ge 25, 3) := by decide +kernel
theorem dL_law_132 : decode cL_law 132 = .ok (.aload 4, 2) := by decide +kernel
theorem dL_law_134 : decode cL_law 134 = .ok (.bipush 9, 2) := by decide +kernel
theorem dL_law_136 : decode cL_law 136 = .ok (.iconst 3, 1) := by decide +kernel
theorem dL_law_137 : decode cL_law 137 = .ok (.iload 8, 2) := by decide +kernel
theorem dL_law_139 : decode cL_law 139 = .ok (.imul, 1) := by decide +kernel
theorem dL_law_140 : decode cL_law 140 = .ok (.iadd, 1) := by decide +kernel
theorem dL_law_141 : decode cL_law 141 = .ok (.iload 13, 2) := by decide +kernel
theorem dL_law_143 : decode cL_law 143 = .ok (.iadd, 1) := by decide +kernel
theorem dL_law_144 : decode cL_law 144 = .ok (.sipush 255, 3) := by decide +kernel
theorem dL_law_147 : decode cL_law 147 = .ok (.iastore, 1) := by decide +kernel
theorem dL_law_148 : decode cL_law 148 = .ok (.iinc 13 1, 3) := by decide +kernel
theorem dL_law_151 : decode cL_law 151 = .ok (.goto (-25), 3) := by decide +kernel
theorem dL_law_154 : decode cL_law 154 = .ok (.aload_n 2, 1) := by decide +kernel
theorem dL_law_155 : decode cL_law 155 = .ok (.iconst 0, 1) := by decide +kernel
theorem dL_law_156 : decode cL_law 156 = .ok (.dup2, 1) := by decide +kernel
theorem dL_law_157 : decode cL_law 157 = .ok (.iaload, 1) := by decide +kernel
theorem dL_law_158 : decode cL_law 158 = .ok (.iconst 1, 1) := by decide +kernel
theorem dL_law_159 : decode cL_law 159 = .ok (.iadd, 1) := by decide +kernel
theorem dL_law_160 : decode cL_law 160 = .ok (.iastore, 1) := by decide +kernel
theorem dL_law_161 : decode cL_law 161 = .ok (.aload_n 1, 1) := by decide +kernel
theorem dL_law_162 : decode cL_law 162 = .ok (.invokevirtual 143, 3) := by decide +kernel
theorem dL_law_165 : decode cL_law 165 = .ok (.iload 8, 2) := by decide +kernel
theorem dL_law_167 : decode cL_law 167 = .ok (.if_icmp .ne 7, 3) := by decide +kernel
theorem dL_law_170 : decode cL_law 170 = .ok (.iconst 1, 1) := by decide +kernel
theorem dL_law_171 : decode cL_law 171 = .ok (.goto 4, 3) := by decide +kernel
theorem dL_law_174 : decode cL_law 174 = .ok (.iconst 0, 1) := by decide +kernel
theorem dL_law_175 : decode cL_law 175 = .ok (.istore 12, 2) := by decide +kernel
theorem dL_law_177 : decode cL_law 177 = .ok (.goto 190, 3) := by decide +kernel
theorem dL_law_180 : decode cL_law 180 = .ok (.iload 8, 2) := by decide +kernel
theorem dL_law_182 : decode cL_law 182 = .ok (.iconst 5, 1) := by decide +kernel
theorem dL_law_183 : decode cL_law 183 = .ok (.if_icmp .ge 31, 3) := by decide +kernel
theorem dL_law_186 : decode cL_law 186 = .ok (.aload_n 2, 1) := by decide +kernel
theorem dL_law_187 : decode cL_law 187 = .ok (.iconst 1, 1) := by decide +kernel
theorem dL_law_188 : decode cL_law 188 = .ok (.dup2, 1) := by decide +kernel
theorem dL_law_189 : decode cL_law 189 = .ok (.iaload, 1) := by decide +kernel
theorem dL_law_190 : decode cL_law 190 = .ok (.iconst 1, 1) := by decide +kernel
theorem dL_law_191 : decode cL_law 191 = .ok (.iadd, 1) := by decide +kernel
theorem dL_law_192 : decode cL_law 192 = .ok (.iastore, 1) := by decide +kernel
theorem dL_law_193 : decode cL_law 193 = .ok (.aload_n 1, 1) := by decide +kernel
theorem dL_law_194 : decode cL_law 194 = .ok (.invokevirtual 146, 3) := by decide +kernel
theorem dL_law_197 : decode cL_law 197 = .ok (.iload 8, 2) := by decide +kernel
theorem dL_law_199 : decode cL_law 199 = .ok (.iconst 3, 1) := by decide +kernel
theorem dL_law_200 : decode cL_law 200 = .ok (.isub, 1) := by decide +kernel
theorem dL_law_201 : decode cL_law 201 = .ok (.if_icmp .ne 7, 3) := by decide +kernel
theorem dL_law_204 : decode cL_law 204 = .ok (.iconst 1, 1) := by decide +kernel
theorem dL_law_205 : decode cL_law 205 = .ok (.goto 4, 3) := by decide +kernel
theorem dL_law_208 : decode cL_law 208 = .ok (.iconst 0, 1) := by decide +kernel
theorem dL_law_209 : decode cL_law 209 = .ok (.istore 12, 2) := by decide +kernel
theorem dL_law_211 : decode cL_law 211 = .ok (.goto 156, 3) := by decide +kernel
theorem dL_law_214 : decode cL_law 214 = .ok (.iload 8, 2) := by decide +kernel
theorem dL_law_216 : decode cL_law 216 = .ok (.bipush 11, 2) := by decide +kernel
theorem dL_law_218 : decode cL_law 218 = .ok (.if_icmp .lt 10, 3) := by decide +kernel
theorem dL_law_221 : decode cL_law 221 = .ok (.iload 11, 2) := by decide +kernel
theorem dL_law_223 : decode cL_law 223 = .ok (.bipush 9, 2) := by decide +kernel
theorem dL_law_225 : decode cL_law 225 = .ok (.if_icmp .ge 42, 3) := by decide +kernel
theorem dL_law_228 : decode cL_law 228 = .ok (.aload_n 1, 1) := by decide +kernel
theorem dL_law_229 : decode cL_law 229 = .ok (.iload 11, 2) := by decide +kernel
theorem dL_law_231 : decode cL_law 231 = .ok (.iconst 5, 1) := by decide +kernel
theorem dL_law_232 : decode cL_law 232 = .ok (.if_icmp .ge 7, 3) := by decide +kernel
theorem dL_law_235 : decode cL_law 235 = .ok (.iconst 0, 1) := by decide +kernel
theorem dL_law_236 : decode cL_law 236 = .ok (.goto 15, 3) := by decide +kernel
theorem dL_law_239 : decode cL_law 239 = .ok (.iload 11, 2) := by decide +kernel
theorem dL_law_241 : decode cL_law 241 = .ok (.bipush 8, 2) := by decide +kernel
theorem dL_law_243 : decode cL_law 243 = .ok (.if_icmp .ge 7, 3) := by decide +kernel
theorem dL_law_246 : decode cL_law 246 = .ok (.iconst 1, 1) := by decide +kernel
theorem dL_law_247 : decode cL_law 247 = .ok (.goto 4, 3) := by decide +kernel
theorem dL_law_250 : decode cL_law 250 = .ok (.iconst 2, 1) := by decide +kernel
theorem dL_law_251 : decode cL_law 251 = .ok (.iload 10, 2) := by decide +kernel
theorem dL_law_253 : decode cL_law 253 = .ok (.aload_n 2, 1) := by decide +kernel
theorem dL_law_254 : decode cL_law 254 = .ok (.aload_n 3, 1) := by decide +kernel
theorem dL_law_255 : decode cL_law 255 = .ok (.aload 4, 2) := by decide +kernel
theorem dL_law_257 : decode cL_law 257 = .ok (.aload 5, 2) := by decide +kernel
theorem dL_law_259 : decode cL_law 259 = .ok (.invokestatic 149, 3) := by decide +kernel
theorem dL_law_262 : decode cL_law 262 = .ok (.istore 12, 2) := by decide +kernel
theorem dL_law_264 : decode cL_law 264 = .ok (.goto 103, 3) := by decide +kernel
theorem dL_law_267 : decode cL_law 267 = .ok (.iload 8, 2) := by decide +kernel
theorem dL_law_269 : decode cL_law 269 = .ok (.bipush 15, 2) := by decide +kernel
theorem dL_law_271 : decode cL_law 271 = .ok (.if_icmp .lt 10, 3) := by decide +kernel
theorem dL_law_274 : decode cL_law 274 = .ok (.iload 11, 2) := by decide +kernel
theorem dL_law_276 : decode cL_law 276 = .ok (.bipush 17, 2) := by decide +kernel
theorem dL_law_278 : decode cL_law 278 = .ok (.if_icmp .ge 56, 3) := by decide +kernel
theorem dL_law_281 : decode cL_law 281 = .ok (.aload_n 1, 1) := by decide +kernel
theorem dL_law_282 : decode cL_law 282 = .ok (.iload 11, 2) := by decide +kernel
theorem dL_law_284 : decode cL_law 284 = .ok (.bipush 12, 2) := by decide +kernel
theorem dL_law_286 : decode cL_law 286 = .ok (.if_icmp .ge 7, 3) := by decide +kernel
theorem dL_law_289 : decode cL_law 289 = .ok (.iconst 0, 1) := by decide +kernel
theorem dL_law_290 : decode cL_law 290 = .ok (.goto 26, 3) := by decide +kernel
theorem dL_law_293 : decode cL_law 293 = .ok (.iload 11, 2) := by decide +kernel
theorem dL_law_295 : decode cL_law 295 = .ok (.bipush 13, 2) := by decide +kernel
theorem dL_law_297 : decode cL_law 297 = .ok (.if_icmp .ge 7, 3) := by decide +kernel
theorem dL_law_300 : decode cL_law 300 = .ok (.iconst 1, 1) := by decide +kernel
theorem dL_law_301 : decode cL_law 301 = .ok (.goto 15, 3) := by decide +kernel
theorem dL_law_304 : decode cL_law 304 = .ok (.iload 11, 2) := by decide +kernel
theorem dL_law_306 : decode cL_law 306 = .ok (.bipush 14, 2) := by decide +kernel
theorem dL_law_308 : decode cL_law 308 = .ok (.if_icmp .ge 7, 3) := by decide +kernel
theorem dL_law_311 : decode cL_law 311 = .ok (.iconst 2, 1) := by decide +kernel
theorem dL_law_312 : decode cL_law 312 = .ok (.goto 4, 3) := by decide +kernel
theorem dL_law_315 : decode cL_law 315 = .ok (.iconst 3, 1) := by decide +kernel
theorem dL_law_316 : decode cL_law 316 = .ok (.iload 10, 2) := by decide +kernel
theorem dL_law_318 : decode cL_law 318 = .ok (.aload_n 2, 1) := by decide +kernel
theorem dL_law_319 : decode cL_law 319 = .ok (.aload_n 3, 1) := by decide +kernel
theorem dL_law_320 : decode cL_law 320 = .ok (.aload 4, 2) := by decide +kernel
theorem dL_law_322 : decode cL_law 322 = .ok (.aload 5, 2) := by decide +kernel
theorem dL_law_324 : decode cL_law 324 = .ok (.aload 6, 2) := by decide +kernel
theorem dL_law_326 : decode cL_law 326 = .ok (.invokestatic 153, 3) := by decide +kernel
theorem dL_law_329 : decode cL_law 329 = .ok (.istore 12, 2) := by decide +kernel
theorem dL_law_331 : decode cL_law 331 = .ok (.goto 36, 3) := by decide +kernel
theorem dL_law_334 : decode cL_law 334 = .ok (.aload_n 1, 1) := by decide +kernel
theorem dL_law_335 : decode cL_law 335 = .ok (.iload 11, 2) := by decide +kernel
end
section
theorem dL_law_337 : decode cL_law 337 = .ok (.bipush 19, 2) := by decide +kernel
theorem dL_law_339 : decode cL_law 339 = .ok (.if_icmp .ge 7, 3) := by decide +kernel
theorem dL_law_342 : decode cL_law 342 = .ok (.iconst 0, 1) := by decide +kernel
theorem dL_law_343 : decode cL_law 343 = .ok (.goto 15, 3) := by decide +kernel
theorem dL_law_346 : decode cL_law 346 = .ok (.iload 11, 2) := by decide +kernel
theorem dL_law_348 : decode cL_law 348 = .ok (.bipush 21, 2) := by decide +kernel
theorem dL_law_350 : decode cL_law 350 = .ok (.if_icmp .ge 7, 3) := by decide +kernel
theorem dL_law_353 : decode cL_law 353 = .ok (.iconst 1, 1) := by decide +kernel
theorem dL_law_354 : decode cL_law 354 = .ok (.goto 4, 3) := by decide +kernel
theorem dL_law_357 : decode cL_law 357 = .ok (.iconst 2, 1) := by decide +kernel
theorem dL_law_358 : decode cL_law 358 = .ok (.iload 10, 2) := by decide +kernel
theorem dL_law_360 : decode cL_law 360 = .ok (.aload 7, 2) := by decide +kernel
theorem dL_law_362 : decode cL_law 362 = .ok (.invokestatic 157, 3) := by decide +kernel
theorem dL_law_365 : decode cL_law 365 = .ok (.istore 12, 2) := by decide +kernel
theorem dL_law_367 : decode cL_law 367 = .ok (.iload 12, 2) := by decide +kernel
theorem dL_law_369 : decode cL_law 369 = .ok (.ifCond .eq 24, 3) := by decide +kernel
theorem dL_law_372 : decode cL_law 372 = .ok (.aload_n 1, 1) := by decide +kernel
theorem dL_law_373 : decode cL_law 373 = .ok (.iload 10, 2) := by decide +kernel
theorem dL_law_375 : decode cL_law 375 = .ok (.iload 8, 2) := by decide +kernel
theorem dL_law_377 : decode cL_law 377 = .ok (.aload_n 2, 1) := by decide +kernel
theorem dL_law_378 : decode cL_law 378 = .ok (.aload_n 3, 1) := by decide +kernel
theorem dL_law_379 : decode cL_law 379 = .ok (.aload 4, 2) := by decide +kernel
theorem dL_law_381 : decode cL_law 381 = .ok (.aload 5, 2) := by decide +kernel
theorem dL_law_383 : decode cL_law 383 = .ok (.aload 6, 2) := by decide +kernel
theorem dL_law_385 : decode cL_law 385 = .ok (.aload 7, 2) := by decide +kernel
theorem dL_law_387 : decode cL_law 387 = .ok (.invokestatic 161, 3) := by decide +kernel
theorem dL_law_390 : decode cL_law 390 = .ok (.ifCond .ne 5, 3) := by decide +kernel
theorem dL_law_393 : decode cL_law 393 = .ok (.iconst 0, 1) := by decide +kernel
theorem dL_law_394 : decode cL_law 394 = .ok (.ireturn, 1) := by decide +kernel
theorem dL_law_395 : decode cL_law 395 = .ok (.iinc 8 1, 3) := by decide +kernel
theorem dL_law_398 : decode cL_law 398 = .ok (.goto (-353), 3) := by decide +kernel
theorem dL_law_401 : decode cL_law 401 = .ok (.iconst 1, 1) := by decide +kernel
theorem dL_law_402 : decode cL_law 402 = .ok (.ireturn, 1) := by decide +kernel
end
section
set_option maxRecDepth 20000 in
theorem wsL_law_in0_r1 : ∀ w ∈ wsL_law0_r1, w ∈ lw_tbl := fun w h => (goodIn_p wsL_law0_r1 [25, 28] (by decide +kernel) (by decide +kernel) w h).1
set_option maxRecDepth 20000 in
theorem wsL_law_in0_r2 : ∀ w ∈ wsL_law0_r2, w ∈ lw_tbl := fun w h => (goodIn_p wsL_law0_r2 [164, 168, 171, 79, 150, 153] (by decide +kernel) (by decide +kernel) w h).1
set_option maxRecDepth 20000 in
theorem wsL_law_in0_r3 : ∀ w ∈ wsL_law0_r3, w ∈ lw_tbl := fun w h => (goodIn_p wsL_law0_r3 [156, 160, 174, 177, 180] (by decide +kernel) (by decide +kernel) w h).1
set_option maxRecDepth 20000 in
theorem wsL_law_in0_r4 : ∀ w ∈ wsL_law0_r4, w ∈ lw_tbl := fun w h => (goodIn_p wsL_law0_r4 [190, 194, 213, 218, 238, 242] (by decide +kernel) (by decide +kernel) w h).1
set_option maxRecDepth 20000 in
theorem wsL_law_in0_r5 : ∀ w ∈ wsL_law0_r5, w ∈ lw_tbl := fun w h => (goodIn_p wsL_law0_r5 [245, 249, 252, 260] (by decide +kernel) (by decide +kernel) w h).1
set_option maxRecDepth 20000 in
theorem wsL_law_in0_r6 : ∀ w ∈ wsL_law0_r6, w ∈ lw_tbl := fun w h => (goodIn_p wsL_law0_r6 [268, 273, 277, 282, 288, 292] (by decide +kernel) (by decide +kernel) w h).1
set_option maxRecDepth 20000 in
theorem wsL_law_in0_r7 : ∀ w ∈ wsL_law0_r7, w ∈ lw_tbl := fun w h => (goodIn_p wsL_law0_r7 [319, 316, 296, 300, 304, 307, 310] (by decide +kernel) (by decide +kernel) w h).1
set_option maxRecDepth 20000 in
theorem wsL_law_in0_r8 : ∀ w ∈ wsL_law0_r8, w ∈ lw_tbl := fun w h => (goodIn_p wsL_law0_r8 [313, 323, 330, 335, 339, 343] (by decide +kernel) (by decide +kernel) w h).1
set_option maxRecDepth 20000 in
theorem wsL_law_in0_r9 : ∀ w ∈ wsL_law0_r9, w ∈ lw_tbl := fun w h => (goodIn_p wsL_law0_r9 [346, 349, 352, 355, 358, 361] (by decide +kernel) (by decide +kernel) w h).1
set_option maxRecDepth 20000 in
theorem wsL_law_in0_r10 : ∀ w ∈ wsL_law0_r10, w ∈ lw_tbl := fun w h => (goodIn_p wsL_law0_r10 [368, 371, 376, 379, 384, 387] (by decide +kernel) (by decide +kernel) w h).1
set_option maxRecDepth 20000 in
theorem wsL_law_in0_r11 : ∀ w ∈ wsL_law0_r11, w ∈ lw_tbl := fun w h => (goodIn_p wsL_law0_r11 [394, 398, 402, 406, 411, 415] (by decide +kernel) (by decide +kernel) w h).1
set_option maxRecDepth 20000 in
theorem wsL_law_in0_r12 : ∀ w ∈ wsL_law0_r12, w ∈ lw_tbl := fun w h => (goodIn_p wsL_law0_r12 [423, 428, 431] (by decide +kernel) (by decide +kernel) w h).1
set_option maxRecDepth 20000 in
theorem wsL_law_in0_wsX00 : ∀ w ∈ wsX00, w ∈ lw_tbl := by decide +kernel
theorem wsL_law_in0 : ∀ w ∈ wsL_law0, w ∈ lw_tbl := fun w h => (List.mem_append.mp h).elim (fun h => (List.mem_append.mp h).elim (fun h => (List.mem_append.mp h).elim (fun h => wsL_law_in0_r1 w h) (fun h => (List.mem_append.mp h).elim (fun h => wsL_law_in0_r2 w h) (fun h => (List.mem_append.mp h).elim (fun h => wsL_law_in0_r3 w h) (fun h => (List.mem_append.mp h).elim (fun h => wsL_law_in0_r4 w h) (fun h => (List.mem_append.mp h).elim (fun h => wsL_law_in0_r5 w h) (fun h => (List.mem_append.mp h).elim (fun h => wsL_law_in0_r6 w h) (fun h => (List.mem_append.mp h).elim (fun h => wsL_law_in0_r7 w h) (fun h => (List.mem_append.mp h).elim (fun h => wsL_law_in0_r8 w h) (fun h => (List.mem_append.mp h).elim (fun h => wsL_law_in0_r9 w h) (fun h => (List.mem_append.mp h).elim (fun h => wsL_law_in0_r10 w h) (fun h => (List.mem_append.mp h).elim (fun h => wsL_law_in0_r11 w h) (fun h => wsL_law_in0_r12 w h)))))))))))) (fun h => wsL_law_in0_wsX00 w h)) (fun h => absurd h (List.not_mem_nil))
theorem wsL_law_x0 : ∀ w ∈ (vx_atS RX0 51 "java/lang/IllegalStateException" ["java/lang/RuntimeException", "java/lang/Exception"]).filter goodWord, w ∈ lw_tbl := by decide +kernel
theorem wsL_law_x1 : ∀ w ∈ (vx_atS RX0 73 "java/lang/IndexOutOfBoundsException" ["java/lang/RuntimeException", "java/lang/Exception"]).filter goodWord, w ∈ lw_tbl := by decide +kernel
theorem wsL_law_x2 : ∀ w ∈ (vx_atS RX0 84 "java/lang/IllegalArgumentException" ["java/lang/RuntimeException", "java/lang/Exception"]).filter goodWord, w ∈ lw_tbl := by decide +kernel
theorem wsL_law_in : ∀ w ∈ wsL_law, w ∈ lw_tbl := fun w h => (List.mem_append.mp h).elim (fun h => (List.mem_append.mp h).elim (fun h => (List.mem_append.mp h).elim (fun h => wsL_law_in0 w h) (fun h => wsL_law_x0 w h)) (fun h => wsL_law_x1 w h)) (fun h => wsL_law_x2 w h)
theorem inlX0 : ∀ w ∈ wsX00, w ∈ wsL_law := fun _ h => List.mem_append_left _ (List.mem_append_left _ (List.mem_append_left _ (List.mem_append_left _ (List.mem_append_right _ h))))
theorem inX0 : ∀ w ∈ wsX00, w ∈ lw_tbl := fun w h => wsL_law_in w (inlX0 w h)
theorem inX1 : ∀ w ∈ wsX10, w ∈ lw_tbl := by decide +kernel
theorem inJ9 : ∀ w ∈ wsJ90, w ∈ lw_tbl := by decide +kernel
theorem inJ0 : ∀ w ∈ wsJ00, w ∈ lw_tbl := by decide +kernel
end
