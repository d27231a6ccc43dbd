/-! THE LAW's OWN SMALL METHODS: each makes one call of the class, lays its answer into 'out', or answers the exception's number -/
/-- the class's world and the row 'out' -/
def oe (o : Nat) (cL : ClassId) (g : Nat → Int64) : Nat × va_E := (o, .inl (cL, 1, .inr (.inl g)))
theorem gp_t {D : va_G} {cl : List vw_C} {a : Nat × va_E} {w : va_W} {H : Heap} (h : va_P D cl (a :: w) H) : va_P D cl w H := fun k x hx => h (k + 1) x hx
theorem gp_h {D : va_G} {cl : List vw_C} {a : Nat × va_E} {w : va_W} {H : Heap} (h : va_P D cl (a :: w) H) : va_at D cl a H := h 0 a rfl
theorem gp_c {D : va_G} {cl : List vw_C} {a : Nat × va_E} {w : va_W} {H : Heap} (h1 : va_at D cl a H) (h2 : va_P D cl w H) : va_P D cl (a :: w) H := fun k x hx => match k, hx with
  | 0, hx => by cases hx; exact h1
  | k + 1, hx => h2 k x hx
def wAt (D : va_G) (q : Nat → Nat) (cI : ClassId) (o : Nat) (cL : ClassId) (N : Nat → Nat) (S : Nat → Nat → Nat) (tr : Nat → Nat) (g : Nat → Int64) (A : Nat → Prop) (U : State) (H : Heap) : Prop :=
  va_P D vwCl (oe o cL g :: xw q cI N S tr) H ∧ va_K D vwCl [(cI, .int), (cL, .long)] U ∧ va_D (fun z => A z ∨ z = o) (oe o cL g :: xw q cI N S tr) ∧ va_D A (xw q cI N S tr) ∧ ¬ A o ∧ gZ A U H
theorem wAt.x {D : va_G} {q : Nat → Nat} {cI : ClassId} {o : Nat} {cL : ClassId} {N : Nat → Nat} {S : Nat → Nat → Nat} {tr : Nat → Nat} {g : Nat → Int64} {A : Nat → Prop} {s : State} {H : Heap} (h : wAt D q cI o cL N S tr g A s H) : xAt D q cI N S tr A s H :=
  ⟨gp_t h.1, h.2.1.sub [0] rfl, h.2.2.2.1, h.2.2.2.2.2⟩
theorem wAt_blind {D : va_G} {q : Nat → Nat} {cI : ClassId} {o : Nat} {cL : ClassId} {N : Nat → Nat} {S : Nat → Nat → Nat} {tr : Nat → Nat} {g : Nat → Int64} {A : Nat → Prop} {av : List Value} : FrameBlind (va_Pc av (fun U => wAt D q cI o cL N S tr g A U U.heap)) := fun a U f mk hq => ⟨hq.1, hq.2.1, va_K.moved (u := U) (U := U.calling f mk a) (Vm.Alike.refl U.vm) hq.2.2.1, hq.2.2.2.1, hq.2.2.2.2.1, hq.2.2.2.2.2.1, gZ.call hq.2.2.2.2.2.2⟩
theorem wAt.moved {D : va_G} {q : Nat → Nat} {cI : ClassId} {o : Nat} {cL : ClassId} {N : Nat → Nat} {S : Nat → Nat → Nat} {tr : Nat → Nat} {g : Nat → Int64} {A : Nat → Prop} {s U : State} {H : Heap} (hW : s.WarmedH U.vm) (h : wAt D q cI o cL N S tr g A s H) : wAt D q cI o cL N S tr g A U H := ⟨h.1, h.2.1.moved hW.alike, h.2.2.1, h.2.2.2.1, h.2.2.2.2.1, h.2.2.2.2.2.moved hW⟩
def gQw (D : va_G) (q : Nat → Nat) (cI : ClassId) (o : Nat) (cL : ClassId) (post : Nat → (Nat → Nat) → (Nat → Nat → Nat) → Int64 → Prop) (A : Nat → Prop) : Array Value → State → Outcome → State → Prop := fun _ st oc t =>
  ∃ (k : Nat) (N' : Nat → Nat) (S' : Nat → Nat → Nat) (tr' : Nat → Nat) (g' : Nat → Int64), oc = .returned (some (.int (nI k))) ∧ post k N' S' (g' 0) ∧ va_P D vwCl (oe o cL g' :: xw q cI N' S' tr') t.heap ∧ va_F (fun z => A z ∨ z = o) st t
section GL
variable {p : Program} {l : Launch} {e : Env} {R : Room} {s : State} {m : MethodId} {args : Array Value} {below : List Frame} {meth : Method} {c : Code} {H : Heap} {locs : List Loc} {cells slots : Nat} {Q : State → Prop}
variable {y : MethodName} {bytes cc : ByteArray} {maxL nL mc ms n index pc : Nat} {ret : Option FieldType} {ws ws' : List Cond} {rm : Room} {Qc : Array Value → State → Outcome → State → Prop} {free : Addr → Prop} {hh : List (Nat × Nat × Nat × Nat)} {own : String} {As rest st0 : List Value} {ls : Array Slot} {Bp : State → Prop} {a : Array Value}
variable {D : va_G} {q : Nat → Nat} {cI cL : ClassId} {o : Nat} {N N' : Nat → Nat} {S S' : Nat → Nat → Nat} {tr tr' : Nat → Nat} {g g' : Nat → Int64} {A : Nat → Prop}
theorem gc_metW (av : List Value) (hy : plainName y.cls = true) (hw : ws = Cond.codeWith y cc nL ret hh :: ws') (hlen : (lg_sl av).length ≤ nL) {lv0 : List (Nat × Value)} (hlv : lv_args 0 av = lv0)
    (body : ∀ (p : Program) (e : Env) (s : State) (m : MethodId) (below : List Frame) (meth : Method) (c : Code) (ls : Array Slot), gF p s m av.toArray meth c cc ret nL y.cls ws → c.exceptionTable.toList = tableOf hh → lv_has ls nL lv0 → Bp s →
      W p l e rm s m av.toArray below meth c s.heap [] 0 0 (MQ below Qc av.toArray s mc ms free) (F0 m 0 ls [])) : Met l y ws rm (va_Pc av Bp) Qc mc ms free := by
  refine va_MetW (cc := cc) (maxL := nL) (ret := ret) hy hw ?_
  intro p e s m args below meth c s₁ B hml hv
  obtain ⟨rfl, hX⟩ := hv
  have hl := lv_entry av (n := nL) hlen
  rw [lg_entry_eq]
  rw [hlv] at hl
  have hts := atoms_spec (ws := ws) B.pre
  exact body p e s m below meth c _ ⟨B.exec, B.bytes, B.returns, hml, findClass_of_methodNamed B.named, hts, B.notSynchronized⟩ (vx_table (x := y) B (hts _ (by rw [hw]; exact List.mem_cons_self))) hl hX
theorem gl_call {post : Int32 → (Nat → Nat) → (Nat → Nat → Nat) → Prop} {P : String → Prop} (hr : vx_Run p l e R s m args below meth c H locs cells slots 1 6 (F0 m pc ls st0) rest (gQx D q cI post A a) (gXx D q cI N S A P) A)
    (kx : ∀ (E : String) (ce : Cell) (q9 : Addr) (tr' : Nat → Nat) (H1 : Heap) (L : List Loc), P E → va_P D vwCl (xw q cI N S tr') H1 → H.size ≤ H1.size → (∀ z : Nat, z < H.size → ¬ A z → H1[z]? = H[z]?) → (∀ z ∈ L, A z.base) → H1[q9]? = some ce → ce.vm = .none → s.vm.findClass E = some ce.cls → vx_W p l e R s m args below meth c H1 (locs ++ L) (cells + 1) (slots + 6) Q (F0 m pc ls rest) q9)
    (kk : ∀ (r : Int32) (N' : Nat → Nat) (S' : Nat → Nat → Nat) (tr' : Nat → Nat) (H1 : Heap) (L : List Loc), post r N' S' → va_P D vwCl (xw q cI N' S' tr') H1 → H.size ≤ H1.size → (∀ z : Nat, z < H.size → ¬ A z → H1[z]? = H[z]?) → (∀ z ∈ L, A z.base) → W p l e R s m args below meth c H1 (locs ++ L) (cells + 1) (slots + 6) Q (F0 m (pc + 3) ls (.int r :: rest))) : W p l e R s m args below meth c H locs cells slots Q (F0 m pc ls st0) := by
  intro T hT X
  rcases hr T hT X with ⟨v, st₀, t, T', L, h0, X', hL, e1, e2, ⟨r, N9, S9, tr9, hv, hp, hP, hz, hk⟩, st⟩ | ⟨q9, st₀, t, T', L, E, ce, h0, X', hL, e1, e2, ⟨hp, ⟨tr9, hP⟩, hz, hk⟩, hce, hcv, hcl, st⟩
  · cases hv
    rw [h0] at hz hk
    obtain ⟨t2, a1, b1⟩ := kk r N9 S9 tr9 t.heap L hp hP hz hk hL T' e1 X'
    exact ⟨t2, st t2 a1, b1⟩
  · rw [h0] at hz hk
    obtain ⟨t2, a1, b1⟩ := kx E ce q9 tr9 t.heap L hp hP hz hk hL hce hcv hcl T' e1 X'
    exact ⟨t2, st.trans a1, b1⟩
/-- the class's new world beside the row 'out', which stays -/
theorem gl_join {H1 : Heap} {L : List Loc} (h : wAt D q cI o cL N S tr g A s H) (hP : va_P D vwCl (xw q cI N' S' tr') H1) (hz : H.size ≤ H1.size) (hk : ∀ z : Nat, z < H.size → ¬ A z → H1[z]? = H[z]?) (hH : H = s.heap) (hL : ∀ z ∈ L, A z.base) :
    va_P D vwCl (oe o cL g :: xw q cI N' S' tr') H1 ∧ va_D (fun z => A z ∨ z = o) (oe o cL g :: xw q cI N' S' tr') ∧ va_S (fun z => A z ∨ z = o) s.heap H1 L := by
  have h0 : H[o]? = some (vp_cell cL (1, .inr (.inl g))) := gp_h h.1
  have h1 : H1[o]? = some (vp_cell cL (1, .inr (.inl g))) := by
    rw [hk o (Array.getElem?_eq_some_iff.mp h0).1 h.2.2.2.2.1]
    exact h0
  refine ⟨gp_c h1 hP, va_D_fst (ws := oe o cL g :: xw q cI N S tr) rfl h.2.2.1, by rw [← hH]; exact hz, fun z h1 h2 => ?_, fun z hz2 => Or.inl (hL z hz2)⟩
  rw [← hH] at h1 ⊢
  exact hk z h1 (fun q => h2 (Or.inl q))
end GL
theorem gl_u (g : Nat → Int64) (v : Int64) : vp_updL g (0 : Int32).toNatClampNeg v 0 = v := by
  have h : (0 : Int32).toNatClampNeg = 0 := by decide
  rw [h, pk_uLs]
theorem gk_ttt {a b c : Bool} (ha : a = true) (hb : b = true) (hc : c = true) : gk a b c = 0 := by rw [ha, hb, hc]; rfl
theorem gk_f {a b c : Bool} (ha : a = false) : gk a b c = 1 := by rw [ha]; rfl
theorem gk_tf {a b c : Bool} (ha : a = true) (hb : b = false) : gk a b c = 2 := by rw [ha, hb]; rfl
theorem gk_ttf {a b c : Bool} (ha : a = true) (hb : b = true) (hc : c = false) : gk a b c = 3 := by rw [ha, hb, hc]; rfl
