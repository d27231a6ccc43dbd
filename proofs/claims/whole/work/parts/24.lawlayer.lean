/-! THE LAW's WORLD: the row 'out', the class's cells and the reference's, all made after its entry -/
section LP
variable {D : va_G} {cl : List vw_C} {a : Nat × va_E} {w w1 w2 : va_W} {H : Heap} {A : Nat → Prop} {x : Nat × va_E} {k : Nat}
theorem gl9 (h : w1[k]? = some x) : (w1 ++ w2)[k]? = some x := by
  rw [List.getElem?_append_left (List.getElem?_eq_some_iff.mp h).1]
  exact h
theorem gr9 (h : w2[k]? = some x) : (w1 ++ w2)[w1.length + k]? = some x := by
  rw [List.getElem?_append_right (Nat.le_add_right _ _), Nat.add_sub_cancel_left]
  exact h
theorem gp_l (h : va_P D cl (w1 ++ w2) H) : va_P D cl w1 H := fun k x hx => h k x (gl9 hx)
theorem gp_r (h : va_P D cl (w1 ++ w2) H) : va_P D cl w2 H := fun k x hx => h (w1.length + k) x (gr9 hx)
theorem gd_t (h : va_D A (a :: w)) : va_D A w := ⟨fun i j p q hi hj e => Nat.succ.inj (h.1 (i + 1) (j + 1) p q hi hj e), fun k q hk => h.2 (k + 1) q hk⟩
theorem gd_l (h : va_D A (w1 ++ w2)) : va_D A w1 := ⟨fun i j p q hi hj e => h.1 i j p q (gl9 hi) (gl9 hj) e, fun k q hk => h.2 k q (gl9 hk)⟩
theorem gd_r (h : va_D A (w1 ++ w2)) : va_D A w2 := ⟨fun i j p q hi hj e => Nat.add_left_cancel (h.1 (w1.length + i) (w1.length + j) p q (gr9 hi) (gr9 hj) e), fun k q hk => h.2 (w1.length + k) q (gr9 hk)⟩
theorem gd_x (h : va_D A (w1 ++ w2)) {i j : Nat} {p q : Nat × va_E} (hi : w1[i]? = some p) (hj : w2[j]? = some q) : p.1 ≠ q.1 := fun e => by
  have h1 := h.1 i (w1.length + j) p q (gl9 hi) (gr9 hj) e
  have h2 := (List.getElem?_eq_some_iff.mp hi).1
  omega
theorem gd_h (h : va_D A (a :: w)) {k : Nat} {q : Nat × va_E} (hk : w[k]? = some q) : q.1 ≠ a.1 := fun e => by
  have h1 := h.1 (k + 1) 0 q a hk rfl e
  omega
end LP
def gA (s : State) : Nat → Prop := fun z => s.heap.size ≤ z
def lw (q q2 : Nat → Nat) (cI cZ cL : ClassId) (o : Nat) (N : Nat → Nat) (S : Nat → Nat → Nat) (tr : Nat → Nat) (N2 : Nat → Nat) (S2 : Nat → Nat → Nat) (fv : Nat → Nat) (th : Nat) (g : Nat → Int64) : va_W := oe o cL g :: (xw q cI N S tr ++ mw q2 cI cZ N2 S2 fv th)
theorem lw_fst (q q2 : Nat → Nat) (cI cZ cL : ClassId) (o : Nat) (N : Nat → Nat) (S : Nat → Nat → Nat) (tr : Nat → Nat) (N2 : Nat → Nat) (S2 : Nat → Nat → Nat) (fv : Nat → Nat) (th : Nat) (g : Nat → Int64) (N' : Nat → Nat) (S' : Nat → Nat → Nat) (tr' : Nat → Nat) (N2' : Nat → Nat) (S2' : Nat → Nat → Nat) (fv' : Nat → Nat) (th' : Nat) (g' : Nat → Int64) :
    (lw q q2 cI cZ cL o N S tr N2 S2 fv th g).map (fun x => x.1) = (lw q q2 cI cZ cL o N' S' tr' N2' S2' fv' th' g').map (fun x => x.1) := by
  have hx : (xw q cI N S tr).map (fun x => x.1) = (xw q cI N' S' tr').map (fun x => x.1) := rfl
  have hm : (mw q2 cI cZ N2 S2 fv th).map (fun x => x.1) = (mw q2 cI cZ N2' S2' fv' th').map (fun x => x.1) := rfl
  show o :: (xw q cI N S tr ++ mw q2 cI cZ N2 S2 fv th).map (fun x => x.1) = o :: (xw q cI N' S' tr' ++ mw q2 cI cZ N2' S2' fv' th').map (fun x => x.1)
  rw [List.map_append, List.map_append, hx, hm]
def lAt (D : va_G) (q q2 : Nat → Nat) (cI cZ cL : ClassId) (o : Nat) (N : Nat → Nat) (S : Nat → Nat → Nat) (tr : Nat → Nat) (N2 : Nat → Nat) (S2 : Nat → Nat → Nat) (fv : Nat → Nat) (th : Nat) (g : Nat → Int64) (s : State) (H : Heap) : Prop :=
  va_P D vwCl (lw q q2 cI cZ cL o N S tr N2 S2 fv th g) H ∧ va_K D vwCl [(cI, .int), (cZ, .boolean), (cL, .long)] s ∧ va_D (gA s) (lw q q2 cI cZ cL o N S tr N2 S2 fv th g) ∧ gZ (gA s) s H
section LW
variable {p : Program} {l : Launch} {e : Env} {R : Room} {s : State} {m : MethodId} {args : Array Value} {below : List Frame} {meth : Method} {c : Code} {H : Heap} {locs : List Loc} {cells slots : Nat} {Q : State → Prop}
variable {y : MethodName} {bytes cc : ByteArray} {maxL nL n index pc : Nat} {ret : Option FieldType} {ws ws' Ts : List Cond} {rm : Room} {hh : List (Nat × Nat × Nat × Nat)} {own : String} {As rest st0 : List Value} {ls : Array Slot}
variable {D : va_G} {q q2 : Nat → Nat} {cI cZ cL : ClassId} {o : Nat} {N N2 : Nat → Nat} {S S2 : Nat → Nat → Nat} {tr fv : Nat → Nat} {th : Nat} {g : Nat → Int64}
theorem lAt.x (h : lAt D q q2 cI cZ cL o N S tr N2 S2 fv th g s H) : xAt D q cI N S tr (gA s) s H := ⟨gp_l (gp_t h.1), h.2.1.sub [0] rfl, gd_l (gd_t h.2.2.1), h.2.2.2⟩
theorem lAt.mm (h : lAt D q q2 cI cZ cL o N S tr N2 S2 fv th g s H) : mAt D q2 cI cZ N2 S2 fv th (gA s) s H := ⟨gp_r (gp_t h.1), h.2.1.sub [0, 1] rfl, gd_r (gd_t h.2.2.1)⟩
theorem lAt.ho (h : lAt D q q2 cI cZ cL o N S tr N2 S2 fv th g s H) : H[o]? = some (vp_cell cL (1, .inr (.inl g))) := gp_h h.1
theorem lAt.lo (h : lAt D q q2 cI cZ cL o N S tr N2 S2 fv th g s H) : o < H.size := (Array.getElem?_eq_some_iff.mp h.ho).1
theorem lAt.ax (h : lAt D q q2 cI cZ cL o N S tr N2 S2 fv th g s H) (hS : s.heap.size ≤ H.size) {z : Nat} (hz : va_A (xw q cI N S tr) H.size z ∨ z = o) : gA s z := by
  rcases hz with (⟨k, e, hk⟩ | h1) | rfl
  · exact h.2.2.1.2 (k + 1) _ (gl9 hk)
  · exact Nat.le_trans hS h1
  · exact h.2.2.1.2 0 _ rfl
theorem lAt.am (h : lAt D q q2 cI cZ cL o N S tr N2 S2 fv th g s H) (hS : s.heap.size ≤ H.size) {z : Nat} (hz : va_A (mw q2 cI cZ N2 S2 fv th) H.size z) : gA s z := by
  rcases hz with ⟨k, e, hk⟩ | h1
  · exact (gd_r (gd_t h.2.2.1)).2 k _ hk
  · exact Nat.le_trans hS h1
theorem lAt.w (h : lAt D q q2 cI cZ cL o N S tr N2 S2 fv th g s H) (hS : s.heap.size ≤ H.size) : wAt D q cI o cL N S tr g (va_A (xw q cI N S tr) H.size) s H := by
  refine ⟨gp_c (gp_h h.1) (gp_l (gp_t h.1)), h.2.1.sub [0, 2] rfl, ?_, (gd_l (gd_t h.2.2.1)).self, ?_, h.2.2.2.narrow (fun z hz => h.ax hS (Or.inl hz))⟩
  · refine (gd_l (w1 := oe o cL g :: xw q cI N S tr) (w2 := mw q2 cI cZ N2 S2 fv th) h.2.2.1).weaken (fun k x hk _ => ?_)
    match k, hk with
    | 0, hk => cases hk; exact Or.inr rfl
    | k + 1, hk => exact Or.inl (Or.inl ⟨k, x.2, hk⟩)
  · rintro (⟨k, e, hk⟩ | h1)
    · exact gd_h h.2.2.1 (gl9 hk) rfl
    · exact absurd h.lo (Nat.not_lt.mpr h1)
/-- what a call of the class leaves of the law's world -/
theorem lAt.newx {N' : Nat → Nat} {S' : Nat → Nat → Nat} {tr' : Nat → Nat} {g' : Nat → Int64} {H1 : Heap} {L : List Loc} (h : lAt D q q2 cI cZ cL o N S tr N2 S2 fv th g s H) (hS : va_S (gA s) s.heap H locs) (hP : va_P D vwCl (oe o cL g' :: xw q cI N' S' tr') H1) (hz : H.size ≤ H1.size)
    (hk : ∀ z : Nat, z < H.size → ¬ (va_A (xw q cI N S tr) H.size z ∨ z = o) → H1[z]? = H[z]?) (hL : ∀ z ∈ L, va_A (xw q cI N S tr) H.size z.base ∨ z.base = o) : lAt D q q2 cI cZ cL o N' S' tr' N2 S2 fv th g' s H1 ∧ va_S (gA s) s.heap H1 (locs ++ L) := by
  have hPm : va_P D vwCl (mw q2 cI cZ N2 S2 fv th) H := gp_r (gp_t h.1)
  refine ⟨⟨gp_c (gp_h hP) ((gp_t hP).app (hPm.kept (fun k x hx => hk _ (hPm k x hx).lt ?_))), h.2.1, va_D_fst (lw_fst _ _ _ _ _ _ _ _ _ _ _ _ _ _ _ _ _ _ _ _ _ _) h.2.2.1, h.2.2.2.kept (fun z h1 h2 => hk z h1 (fun hz => h2 (h.ax hS.1 hz)))⟩, Nat.le_trans hS.1 hz, fun z h1 h2 => ?_, fun z hz2 => ?_⟩
  · rintro ((⟨k', e, hk'⟩ | h1) | h1)
    · exact gd_x (gd_t h.2.2.1) hk' hx rfl
    · exact absurd (hPm k x hx).lt (Nat.not_lt.mpr h1)
    · exact gd_h h.2.2.1 (gr9 hx) h1
  · rw [hk z (Nat.lt_of_lt_of_le h1 hS.1) (fun hz => h2 (h.ax hS.1 hz))]
    exact hS.2.1 z h1 h2
  · rcases List.mem_append.mp hz2 with h1 | h1
    · exact hS.2.2 z h1
    · exact h.ax hS.1 (hL z h1)
/-- .. and a call of the reference -/
theorem lAt.newm {N' : Nat → Nat} {S' : Nat → Nat → Nat} {fv' : Nat → Nat} {th' : Nat} {H1 : Heap} {L : List Loc} (h : lAt D q q2 cI cZ cL o N S tr N2 S2 fv th g s H) (hS : va_S (gA s) s.heap H locs) (hP : va_P D vwCl (mw q2 cI cZ N' S' fv' th') H1) (hz : H.size ≤ H1.size)
    (hk : ∀ z : Nat, z < H.size → ¬ va_A (mw q2 cI cZ N2 S2 fv th) H.size z → H1[z]? = H[z]?) (hL : ∀ z ∈ L, va_A (mw q2 cI cZ N2 S2 fv th) H.size z.base) : lAt D q q2 cI cZ cL o N S tr N' S' fv' th' g s H1 ∧ va_S (gA s) s.heap H1 (locs ++ L) := by
  have hPx : va_P D vwCl (xw q cI N S tr) H := gp_l (gp_t h.1)
  have ho : H1[o]? = some (vp_cell cL (1, .inr (.inl g))) := by
    rw [hk o h.lo]
    · exact h.ho
    · rintro (⟨k', e, hk'⟩ | h1)
      · exact gd_h h.2.2.1 (gr9 hk') rfl
      · exact absurd h.lo (Nat.not_lt.mpr h1)
  refine ⟨⟨gp_c ho ((hPx.kept (fun k x hx => hk _ (hPx k x hx).lt ?_)).app hP), h.2.1, va_D_fst (lw_fst _ _ _ _ _ _ _ _ _ _ _ _ _ _ _ _ _ _ _ _ _ _) h.2.2.1, h.2.2.2.kept (fun z h1 h2 => hk z h1 (fun hz => h2 (h.am hS.1 hz)))⟩, Nat.le_trans hS.1 hz, fun z h1 h2 => ?_, fun z hz2 => ?_⟩
  · rintro (⟨k', e, hk'⟩ | h1)
    · exact gd_x (gd_t h.2.2.1) hx hk' rfl
    · exact absurd (hPx k x hx).lt (Nat.not_lt.mpr h1)
  · rw [hk z (Nat.lt_of_lt_of_le h1 hS.1) (fun hz => h2 (h.am hS.1 hz))]
    exact hS.2.1 z h1 h2
  · rcases List.mem_append.mp hz2 with h1 | h1
    · exact hS.2.2 z h1
    · exact h.am hS.1 (hL z h1)
/-- the law calls one of its own methods, which calls the class -/
theorem gl_wrap {post : Nat → (Nat → Nat) → (Nat → Nat → Nat) → Int64 → Prop} (G : CallFix p m c cc nL s args Ts own)
    (hM : Met l y ws rm (va_Pc As (fun U => wAt D q cI o cL N S tr g (va_A (xw q cI N S tr) H.size) U U.heap)) (gQw D q cI o cL post (va_A (xw q cI N S tr) H.size)) 1 6 (fun z => va_A (xw q cI N S tr) H.size z ∨ z = o)) (cw : vx_CSW R s args own index y bytes maxL ret hh ws rm 1 6 n)
    (hX : lAt D q q2 cI cZ cL o N S tr N2 S2 fv th g s H) (hS : va_S (gA s) s.heap H locs) (hn : As.length = n) (hsz : ls.size = nL) (hst : st0 = As.reverse ++ rest) (hW : (rest.map fun v => v.category).sum ≤ 8) (hdg : decode cc pc = .ok (.invokestatic index, 3)) (hc : cells + 1 ≤ R.cells) (hs : slots + 6 ≤ R.slots)
    (kk : ∀ (k : Nat) (N' : Nat → Nat) (S' : Nat → Nat → Nat) (tr' : Nat → Nat) (g' : Nat → Int64) (H1 : Heap) (locs1 : List Loc), post k N' S' (g' 0) → lAt D q q2 cI cZ cL o N' S' tr' N2 S2 fv th g' s H1 → va_S (gA s) s.heap H1 locs1 → W p l e R s m args below meth c H1 locs1 (cells + 1) (slots + 6) Q (F0 m (pc + 3) ls (.int (nI k) :: rest))) : W p l e R s m args below meth c H locs cells slots Q (F0 m pc ls st0) := by
  intro T hT X
  have hw := hX.w hS.1
  obtain ⟨v9, st₀, t, T', L, h0, X', hL, e1, e2, ⟨k, N9, S9, tr9, g9, hv, hp, hP, hz, hk⟩, st⟩ := vx_runSW (As := As) (rest := rest) (g := F0 m pc ls st0) G hM cw ⟨wAt_blind, fun U hU hW => ⟨rfl, by show wAt _ _ _ _ _ _ _ _ _ _ U U.heap; rw [hU]; exact hw.moved hW⟩⟩ rfl hn hsz hst (lv_room hW) hdg ⟨hc, hs⟩ T hT X
  cases hv
  rw [h0] at hz hk
  obtain ⟨hX1, hS1⟩ := hX.newx hS hP hz hk hL
  obtain ⟨t2, a1, b1⟩ := kk k N9 S9 tr9 g9 t.heap _ hp hX1 hS1 T' e1 X'
  exact ⟨t2, st t2 a1, b1⟩
/-- the law calls the reference -/
theorem gl_m {post : Int32 → (Nat → Nat) → (Nat → Nat → Nat) → Nat → Prop} {Qc : Array Value → State → Outcome → State → Prop} (G : CallFix p m c cc nL s args Ts own)
    (hM : Met l y ws rm (va_Pc (.ref (q2 0) :: As) (fun U => mAt D q2 cI cZ N2 S2 fv th (va_A (mw q2 cI cZ N2 S2 fv th) H.size) U U.heap)) Qc 0 0 (va_A (mw q2 cI cZ N2 S2 fv th) H.size)) (hQ : ∀ (a : Array Value) (st : State) (oc : Outcome) (t : State), Qc a st oc t → gQm D q2 cI cZ post (va_A (mw q2 cI cZ N2 S2 fv th) H.size) a st oc t) (cw : CallW R s args own RX1 index y bytes maxL ret ws rm 0 0 n)
    (hX : lAt D q q2 cI cZ cL o N S tr N2 S2 fv th g s H) (hS : va_S (gA s) s.heap H locs) (hn : As.length = n) (hsz : ls.size = nL) (hst : st0 = As.reverse ++ .ref (q2 0) :: rest) (hW : (rest.map fun v => v.category).sum ≤ 8) (hdg : decode cc pc = .ok (.invokevirtual index, 3)) (hc : cells ≤ R.cells) (hs : slots ≤ R.slots)
    (kk : ∀ (r : Int32) (N' : Nat → Nat) (S' : Nat → Nat → Nat) (fv' : Nat → Nat) (th' : Nat) (H1 : Heap) (locs1 : List Loc), post r N' S' th' → lAt D q q2 cI cZ cL o N S tr N' S' fv' th' g s H1 → va_S (gA s) s.heap H1 locs1 → W p l e R s m args below meth c H1 locs1 cells slots Q (F0 m (pc + 3) ls (.int r :: rest))) : W p l e R s m args below meth c H locs cells slots Q (F0 m pc ls st0) := by
  intro T hT X
  have hm : mAt D q2 cI cZ N2 S2 fv th (va_A (mw q2 cI cZ N2 S2 fv th) H.size) s H := ⟨hX.mm.1, hX.mm.2.1, hX.mm.2.2.self⟩
  obtain ⟨v9, st₀, t, T', L, h0, X', hL, e1, hq, st⟩ := W.runV (As := As) (rest := rest) (g := F0 m pc ls st0) G hM cw ⟨mAt_blind, va_recv hm.2.1 hm.1 (ci := 1) (q0 := 0) rfl rfl, fun U hU hW => ⟨rfl, by show mAt _ _ _ _ _ _ _ _ _ U U.heap; rw [hU]; exact hm.moved hW⟩⟩ rfl hn hsz hst (lv_room hW) hdg ⟨hc, hs⟩ T hT X
  obtain ⟨r9, N9, S9, fv9, th9, hv, hp, hP, hz, hk⟩ := hQ _ _ _ _ hq
  cases hv
  rw [h0] at hz hk
  obtain ⟨hX1, hS1⟩ := hX.newm hS hP hz hk hL
  obtain ⟨t2, a1, b1⟩ := kk r9 N9 S9 fv9 th9 t.heap _ hp hX1 hS1 T' e1 X'
  exact ⟨t2, st t2 a1, b1⟩
end LW
theorem gQd_m {D : va_G} {q : Nat → Nat} {cI cZ : ClassId} {N : Nat → Nat} {S : Nat → Nat → Nat} {th : Nat} {r : Int32} {A : Nat → Prop} (a : Array Value) (st : State) (oc : Outcome) (t : State) (h : gQd D q cI cZ N S th r A a st oc t) : gQm D q cI cZ (fun r' N' S' th' => r' = r ∧ N' = N ∧ S' = S ∧ th' = th) A a st oc t := by
  obtain ⟨fv', h1, h2, h3⟩ := h
  exact ⟨r, N, S, fv', th, h1, ⟨rfl, rfl, rfl, rfl⟩, h2, h3⟩
/-- what comes after a call of the script -/
def lK (p : Program) (l : Launch) (e : Env) (s : State) (m : MethodId) (b : Nat) (below : List Frame) (meth : Method) (c : Code) (Q : State → Prop) (D : va_G) (q q2 : Nat → Nat) (cI cZ cL : ClassId) (o j cells slots : Nat) : Prop :=
  ∀ (N : Nat → Nat) (S : Nat → Nat → Nat) (tr fv : Nat → Nat) (th : Nat) (g : Nat → Int64) (H : Heap) (locs : List Loc) (ls : Array Slot), sp_ok N S → sp_inv N S → lAt D q q2 cI cZ cL o N S tr N S fv th g s H → va_S (gA s) s.heap H locs → lv_has ls 7 [(4, .int (nI (5 * j))), (0, .ref b), (1, .ref (q 0)), (2, .ref (q2 0)), (3, .ref o)] → W p l e room_1 s m #[Value.ref b] below meth c H locs cells slots Q (F0 m 1521 ls [])
theorem ls_out {D : va_G} {q q2 : Nat → Nat} {cI cZ cL : ClassId} {o : Nat} {N N2 : Nat → Nat} {S S2 : Nat → Nat → Nat} {tr fv : Nat → Nat} {th : Nat} {g : Nat → Int64} {s : State} {H : Heap} (hX : lAt D q q2 cI cZ cL o N S tr N2 S2 fv th g s H) : (lw q q2 cI cZ cL o N S tr N2 S2 fv th g)[0]? = some (o, .inl (cL, 1, .inr (.inl g))) := rfl
