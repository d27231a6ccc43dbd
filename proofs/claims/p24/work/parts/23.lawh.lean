/-! THE LAW's OWN METHODS, what they stand on: worlds taken apart by their places, cuts, calls -/
theorem gp_t {D : va_G} {cl : List vw_C} {a : Nat × va_E} {w : va_W} {H : Heap} (h : va_P D cl (a :: w) H) : va_P D cl w H := fun k x hx => h (k + 1) x hx
theorem gp_h {D : va_G} {cl : List vw_C} {a : Nat × va_E} {w : va_W} {H : Heap} (h : va_P D cl (a :: w) H) : va_at D cl a H := h 0 a rfl
theorem gp_c {D : va_G} {cl : List vw_C} {a : Nat × va_E} {w : va_W} {H : Heap} (h1 : va_at D cl a H) (h2 : va_P D cl w H) : va_P D cl (a :: w) H := fun k x hx => match k, hx with
  | 0, hx => by cases hx; exact h1
  | k + 1, hx => h2 k x hx
section LP
variable {D : va_G} {cl : List vw_C} {a : Nat × va_E} {w w1 w2 : va_W} {H : Heap} {A : Nat → Prop} {x : Nat × va_E} {k : Nat}
theorem gl9 (h : w1[k]? = some x) : (w1 ++ w2)[k]? = some x := by
  rw [List.getElem?_append_left (List.getElem?_eq_some_iff.mp h).1]
  exact h
theorem gr9 (h : w2[k]? = some x) : (w1 ++ w2)[w1.length + k]? = some x := by
  rw [List.getElem?_append_right (Nat.le_add_right _ _), Nat.add_sub_cancel_left]
  exact h
theorem gp_l (h : va_P D cl (w1 ++ w2) H) : va_P D cl w1 H := fun k x hx => h k x (gl9 hx)
theorem gp_r (h : va_P D cl (w1 ++ w2) H) : va_P D cl w2 H := fun k x hx => h (w1.length + k) x (gr9 hx)
theorem gd_t (h : va_D A (a :: w)) : va_D A w := ⟨fun i j p q hi hj e => Nat.succ.inj (h.1 (i + 1) (j + 1) p q hi hj e), fun k q hk => h.2 (k + 1) q hk⟩
theorem gd_l (h : va_D A (w1 ++ w2)) : va_D A w1 := ⟨fun i j p q hi hj e => h.1 i j p q (gl9 hi) (gl9 hj) e, fun k q hk => h.2 k q (gl9 hk)⟩
theorem gd_r (h : va_D A (w1 ++ w2)) : va_D A w2 := ⟨fun i j p q hi hj e => Nat.add_left_cancel (h.1 (w1.length + i) (w1.length + j) p q (gr9 hi) (gr9 hj) e), fun k q hk => h.2 (w1.length + k) q (gr9 hk)⟩
theorem gd_x (h : va_D A (w1 ++ w2)) {i j : Nat} {p q : Nat × va_E} (hi : w1[i]? = some p) (hj : w2[j]? = some q) : p.1 ≠ q.1 := fun e => by
  have h1 := h.1 i (w1.length + j) p q (gl9 hi) (gr9 hj) e
  have h2 := (List.getElem?_eq_some_iff.mp hi).1
  omega
theorem gd_h (h : va_D A (a :: w)) {k : Nat} {q : Nat × va_E} (hk : w[k]? = some q) : q.1 ≠ a.1 := fun e => by
  have h1 := h.1 (k + 1) 0 q a hk rfl e
  omega
end LP
def gA (s : State) : Nat → Prop := fun z => s.heap.size ≤ z
section GL
variable {p : Program} {l : Launch} {e : Env} {R : Room} {s : State} {m : MethodId} {args : Array Value} {below : List Frame} {meth : Method} {c : Code} {H : Heap} {locs : List Loc} {cells slots : Nat} {Q : State → Prop}
variable {y : MethodName} {bytes cc : ByteArray} {maxL nL mc ms n index pc : Nat} {ret : Option FieldType} {ws ws' : List Cond} {rm : Room} {Qc : Array Value → State → Outcome → State → Prop} {free : Addr → Prop} {hh : List (Nat × Nat × Nat × Nat)} {own : String} {As rest st0 : List Value} {ls : Array Slot} {Bp : State → Prop} {a : Array Value}
variable {D : va_G} {q : Nat → Nat} {cI : ClassId} {N N' : Nat → Nat} {S S' : Nat → Nat → Nat} {tr tr' : Nat → Nat} {A : Nat → Prop}
theorem gc_metW (av : List Value) (hy : plainName y.cls = true) (hw : ws = Cond.codeWith y cc nL ret hh :: ws') (hlen : (lg_sl av).length ≤ nL) {lv0 : List (Nat × Value)} (hlv : lv_args 0 av = lv0)
    (body : ∀ (p : Program) (e : Env) (s : State) (m : MethodId) (below : List Frame) (meth : Method) (c : Code) (ls : Array Slot), gF p s m av.toArray meth c cc ret nL y.cls ws → c.exceptionTable.toList = tableOf hh → lv_has ls nL lv0 → Bp s →
      W p l e rm s m av.toArray below meth c s.heap [] 0 0 (MQ below Qc av.toArray s mc ms free) (F0 m 0 ls [])) : Met l y ws rm (va_Pc av Bp) Qc mc ms free := by
  refine va_MetW (cc := cc) (maxL := nL) (ret := ret) hy hw ?_
  intro p e s m args below meth c s₁ B hml hv
  obtain ⟨rfl, hX⟩ := hv
  have hl := lv_entry av (n := nL) hlen
  rw [lg_entry_eq]
  rw [hlv] at hl
  have hts := atoms_spec (ws := ws) B.pre
  exact body p e s m below meth c _ ⟨B.exec, B.bytes, B.returns, hml, findClass_of_methodNamed B.named, hts, B.notSynchronized⟩ (vx_table (x := y) B (hts _ (by rw [hw]; exact List.mem_cons_self))) hl hX
theorem gl_call {post : Int32 → (Nat → Nat) → (Nat → Nat → Nat) → Prop} {P : String → Prop} (hr : vx_Run p l e R s m args below meth c H locs cells slots 1 6 (F0 m pc ls st0) rest (gQx D q cI post A a) (gXx D q cI N S A P) A)
    (kx : ∀ (E : String) (ce : Cell) (q9 : Addr) (tr' : Nat → Nat) (H1 : Heap) (L : List Loc), P E → va_P D vwCl (xw q cI N S tr') H1 → H.size ≤ H1.size → (∀ z : Nat, z < H.size → ¬ A z → H1[z]? = H[z]?) → (∀ z ∈ L, A z.base) → H1[q9]? = some ce → ce.vm = .none → s.vm.findClass E = some ce.cls → vx_W p l e R s m args below meth c H1 (locs ++ L) (cells + 1) (slots + 6) Q (F0 m pc ls rest) q9)
    (kk : ∀ (r : Int32) (N' : Nat → Nat) (S' : Nat → Nat → Nat) (tr' : Nat → Nat) (H1 : Heap) (L : List Loc), post r N' S' → va_P D vwCl (xw q cI N' S' tr') H1 → H.size ≤ H1.size → (∀ z : Nat, z < H.size → ¬ A z → H1[z]? = H[z]?) → (∀ z ∈ L, A z.base) → W p l e R s m args below meth c H1 (locs ++ L) (cells + 1) (slots + 6) Q (F0 m (pc + 3) ls (.int r :: rest))) : W p l e R s m args below meth c H locs cells slots Q (F0 m pc ls st0) := by
  intro T hT X
  rcases hr T hT X with ⟨v, st₀, t, T', L, h0, X', hL, e1, e2, ⟨r, N9, S9, tr9, hv, hp, hP, hz, hk⟩, st⟩ | ⟨q9, st₀, t, T', L, E, ce, h0, X', hL, e1, e2, ⟨hp, ⟨tr9, hP⟩, hz, hk⟩, hce, hcv, hcl, st⟩
  · cases hv
    rw [h0] at hz hk
    obtain ⟨t2, a1, b1⟩ := kk r N9 S9 tr9 t.heap L hp hP hz hk hL T' e1 X'
    exact ⟨t2, st t2 a1, b1⟩
  · rw [h0] at hz hk
    obtain ⟨t2, a1, b1⟩ := kx E ce q9 tr9 t.heap L hp hP hz hk hL hce hcv hcl T' e1 X'
    exact ⟨t2, st.trans a1, b1⟩
end GL
theorem gk_ttt {a b c : Bool} (ha : a = true) (hb : b = true) (hc : c = true) : gk a b c = 0 := by rw [ha, hb, hc]; rfl
theorem gk_f {a b c : Bool} (ha : a = false) : gk a b c = 1 := by rw [ha]; rfl
theorem gk_tf {a b c : Bool} (ha : a = true) (hb : b = false) : gk a b c = 2 := by rw [ha, hb]; rfl
theorem gk_ttf {a b c : Bool} (ha : a = true) (hb : b = true) (hc : c = false) : gk a b c = 3 := by rw [ha, hb, hc]; rfl
/-- what a call answers that may throw: its answer, or the number that the law gives to the exception -/
def gRes (k v : Nat) : Int32 := if k = 0 then nI v else if k = 1 then -101 else if k = 2 then -102 else -103
theorem gRes_0 (v : Nat) : gRes 0 v = nI v := rfl
theorem gRes_1 (v : Nat) : gRes 1 v = -101 := rfl
theorem gRes_2 (v : Nat) : gRes 2 v = -102 := rfl
theorem gRes_3 (v : Nat) : gRes 3 v = -103 := rfl
section GJ
variable {p : Program} {l : Launch} {e : Env} {R : Room} {s : State} {m : MethodId} {args : Array Value} {below : List Frame} {meth : Method} {c : Code} {H : Heap} {locs : List Loc} {cells slots : Nat} {Q : State → Prop} {ls : Array Slot} {pc : Nat} {st0 : List Value}
/-- a cut: whatever number lies on the stack at M, if it is as P says -/
theorem gj_x (P : Int32 → Prop) (M : Nat) (st : List Value) (k1 : ∀ x, P x → W p l e R s m args below meth c H locs cells slots Q (F0 m M ls (.int x :: st)))
    (k2 : (∀ x, P x → W p l e R s m args below meth c H locs cells slots Q (F0 m M ls (.int x :: st))) → W p l e R s m args below meth c H locs cells slots Q (F0 m pc ls st0)) : W p l e R s m args below meth c H locs cells slots Q (F0 m pc ls st0) := k2 k1
/-- a cut: whatever heap there is at M, if it is as P says -/
theorem gj_h (P : Heap → List Loc → Prop) (M : Nat) (st : List Value) (k1 : ∀ H locs, P H locs → W p l e R s m args below meth c H locs cells slots Q (F0 m M ls st))
    (k2 : (∀ H locs, P H locs → W p l e R s m args below meth c H locs cells slots Q (F0 m M ls st)) → W p l e R s m args below meth c H locs cells slots Q (F0 m pc ls st0)) : W p l e R s m args below meth c H locs cells slots Q (F0 m pc ls st0) := k2 k1
/-- a loop that counts and only reads -/
theorem gj_loop (I : Nat → Array Slot → Prop) (E : Nat) (j0 : Nat) (hj : j0 ≤ E) (h0 : I j0 ls) (step : ∀ j ls, j < E → I j ls → (∀ ls, I (j + 1) ls → W p l e R s m args below meth c H locs cells slots Q (F0 m pc ls st0)) → W p l e R s m args below meth c H locs cells slots Q (F0 m pc ls st0))
    (last : ∀ ls, I E ls → W p l e R s m args below meth c H locs cells slots Q (F0 m pc ls st0)) : W p l e R s m args below meth c H locs cells slots Q (F0 m pc ls st0) := by
  have K : ∀ (d j : Nat), j + d = E → ∀ ls, I j ls → W p l e R s m args below meth c H locs cells slots Q (F0 m pc ls st0) := by
    intro d
    induction d with
    | zero =>
      intro j h ls hI
      obtain rfl : j = E := h
      exact last ls hI
    | succ d ih =>
      intro j h ls hI
      exact step j ls (by omega) hI (fun ls hI => ih (j + 1) (by omega) ls hI)
  exact K (E - j0) j0 (by omega) ls h0
/-- a loop that counts, writes, and makes cells -/
theorem gj_loopW (I : Nat → Heap → List Loc → Array Slot → Prop) (fc fs : Nat → Nat) (E : Nat) (h0 : I 0 H locs ls) (hc : cells ≤ fc 0) (hs : slots ≤ fs 0)
    (step : ∀ j H locs ls, j < E → I j H locs ls → (∀ H locs ls, I (j + 1) H locs ls → W p l e R s m args below meth c H locs (fc (j + 1)) (fs (j + 1)) Q (F0 m pc ls st0)) → W p l e R s m args below meth c H locs (fc j) (fs j) Q (F0 m pc ls st0))
    (last : ∀ H locs ls, I E H locs ls → W p l e R s m args below meth c H locs (fc E) (fs E) Q (F0 m pc ls st0)) : W p l e R s m args below meth c H locs cells slots Q (F0 m pc ls st0) := by
  have K : ∀ (d j : Nat), j + d = E → ∀ H locs ls, I j H locs ls → W p l e R s m args below meth c H locs (fc j) (fs j) Q (F0 m pc ls st0) := by
    intro d
    induction d with
    | zero =>
      intro j h H locs ls hI
      obtain rfl : j = E := h
      exact last H locs ls hI
    | succ d ih =>
      intro j h H locs ls hI
      exact step j H locs ls (by omega) hI (fun H locs ls hI => ih (j + 1) (by omega) H locs ls hI)
  exact W.widen hc hs (K E 0 (by omega) H locs ls h0)
end GJ
