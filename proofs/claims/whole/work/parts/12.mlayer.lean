/-! THE REFERENCE's LAYER: its world, reads and writes of its rows, its calls */ -/
/-- the world of the reference: its object and its thirteen rows; fv: the row 'five', th: the number of the latest exception -/
def mw (q : Nat → Nat) (cI cZ : ClassId) (N : Nat → Nat) (S : Nat → Nat → Nat) (fv : Nat → Nat) (th : Nat) : va_W := [
  (q 0, .inr (1, [.int (nI (N 0)), .ref (q 1), .ref (q 2), .ref (q 3), .ref (q 4), .int (nI (N 5)), .ref (q 6), .ref (q 7), .ref (q 8), .ref (q 9), .ref (q 10), .ref (q 11), .ref (q 12), .ref (q 13), .ref (q 14), .int (nI th)])),
  (q 1, .inl (cI, 120, .inl (gr (S 1)))), (q 2, .inl (cI, 24, .inl (gr (S 2)))), (q 3, .inl (cI, 24, .inl (gr (S 3)))), (q 4, .inl (cI, 8, .inl (gr (S 4)))),
  (q 6, .inl (cI, 6, .inl (gr (S 7)))), (q 7, .inl (cI, 36, .inl (gr (S 6)))), (q 8, .inl (cZ, 6, .inl (gr (S 9)))), (q 9, .inl (cZ, 6, .inl (gr (S 10)))), (q 10, .inl (cI, 90, .inl (gr (S 8)))),
  (q 11, .inl (cI, 18, .inl (gr (S 12)))), (q 12, .inl (cI, 18, .inl (gr (S 13)))), (q 13, .inl (cI, 9, .inl (gr (S 14)))), (q 14, .inl (cI, 5, .inl (gr fv)))]
def mAt (D : va_G) (q : Nat → Nat) (cI cZ : ClassId) (N : Nat → Nat) (S : Nat → Nat → Nat) (fv : Nat → Nat) (th : Nat) (A : Nat → Prop) (U : State) (H : Heap) : Prop := va_P D vwCl (mw q cI cZ N S fv th) H ∧ va_K D vwCl [(cI, .int), (cZ, .boolean)] U ∧ va_D A (mw q cI cZ N S fv th)
theorem mAt.moved {D : va_G} {q : Nat → Nat} {cI cZ : ClassId} {N : Nat → Nat} {S : Nat → Nat → Nat} {fv : Nat → Nat} {th : Nat} {A : Nat → Prop} {s U : State} {H : Heap} (hW : s.WarmedH U.vm) (h : mAt D q cI cZ N S fv th A s H) : mAt D q cI cZ N S fv th A U H := ⟨h.1, h.2.1.moved hW.alike, h.2.2⟩
theorem mAt_blind {D : va_G} {q : Nat → Nat} {cI cZ : ClassId} {N : Nat → Nat} {S : Nat → Nat → Nat} {fv : Nat → Nat} {th : Nat} {A : Nat → Prop} {av : List Value} : FrameBlind (va_Pc av (fun U => mAt D q cI cZ N S fv th A U U.heap)) := fun a U g mk hq => ⟨hq.1, hq.2.1, va_K.moved (u := U) (U := U.calling g mk a) (Vm.Alike.refl U.vm) hq.2.2.1, hq.2.2.2⟩
theorem mAt_cast {D : va_G} {q : Nat → Nat} {cI cZ : ClassId} {N N' : Nat → Nat} {S S' : Nat → Nat → Nat} {fv fv' : Nat → Nat} {th th' : Nat} {A : Nat → Prop} {s : State} {H : Heap} (e : mw q cI cZ N S fv th = mw q cI cZ N' S' fv' th') (h : mAt D q cI cZ N S fv th A s H) : mAt D q cI cZ N' S' fv' th' A s H := by
  unfold mAt at h ⊢
  rw [← e]
  exact h
/-- a truth as a number, and back -/
def gbn (b : Bool) : Nat := if b then 1 else 0
theorem gbn_t {b : Bool} (h : gbn b ≠ 0) : b = true := by cases b; exact absurd rfl h; rfl
theorem gbn_f {b : Bool} (h : gbn b = 0) : b = false := by cases b; rfl; exact absurd h (by decide)
theorem gbn_lt (b : Bool) : gbn b < 2 ^ 31 := by cases b <;> decide
theorem gbn_le (b : Bool) : gbn b ≤ 1 := by cases b <;> decide
def gin (x lo hi : Int32) : Bool := decide (lo.toInt ≤ x.toInt ∧ x.toInt ≤ hi.toInt)
theorem gin_k {x : Int32} {k : Nat} (hk : k < 1000) : gin x (nI 0) (nI k) = gb x (k + 1) := by
  unfold gin gb
  rw [nI_toInt (by decide), nI_toInt (by omega)]
  apply decide_eq_decide.mpr
  omega
theorem gin_n {x : Int32} {n : Nat} (hn : n < 1000) : gin x (nI 0) (nI n - nI 1) = gb x n := by
  unfold gin gb
  rw [nI_toInt (by decide), pk_sub_toInt (by omega) (by decide)]
  apply decide_eq_decide.mpr
  omega
/-- the number of the exception by three numbers that are truths -/
def sp_m3 (a b c : Nat) : Nat := if a = 0 then 1 else if b = 0 then 2 else if c = 0 then 3 else 0
def sp_z (t : Nat) : Nat := if t = 0 then 1 else 0
theorem sp_z_t {t : Nat} (h : sp_z t ≠ 0) : t = 0 := by
  unfold sp_z at h
  split at h
  · assumption
  · exact absurd rfl h
theorem sp_z_f {t : Nat} (h : sp_z t = 0) : t ≠ 0 := by
  unfold sp_z at h
  split at h
  · exact absurd h (by decide)
  · assumption
theorem sp_z_lt (t : Nat) : sp_z t < 2 ^ 31 := by unfold sp_z; split <;> decide
theorem sp_z_bit (t : Nat) : sp_z t = 0 ∨ sp_z t = 1 := by unfold sp_z; split <;> simp
theorem sp_m3_a {a b c : Nat} (h : sp_m3 a b c = 0) : a ≠ 0 := by
  unfold sp_m3 at h
  intro z
  rw [if_pos z] at h
  exact absurd h (by decide)
theorem sp_m3_b {a b c : Nat} (h : sp_m3 a b c = 0) : b ≠ 0 := by
  have ha := sp_m3_a h
  unfold sp_m3 at h
  intro z
  rw [if_neg ha, if_pos z] at h
  exact absurd h (by decide)
theorem sp_m3_c {a b c : Nat} (h : sp_m3 a b c = 0) : c ≠ 0 := by
  have ha := sp_m3_a h
  have hb := sp_m3_b h
  unfold sp_m3 at h
  intro z
  rw [if_neg ha, if_neg hb, if_pos z] at h
  exact absurd h (by decide)
theorem sp_m3_gk (a b c : Bool) : sp_m3 (gbn a) (gbn b) (gbn c) = gk a b c := by cases a <;> cases b <;> cases c <;> rfl
theorem gp_nz {v : Nat} (h : v = 0 ∨ v = 1) : narrow .boolean (.int (nI v)) = .int (nI v) := by rcases h with e | e <;> rw [e] <;> rfl
/-- a call that writes the reference's world and doesn't throw: its answer, its numbers and rows are told -/
def gQd (D : va_G) (q : Nat → Nat) (cI cZ : ClassId) (N : Nat → Nat) (S : Nat → Nat → Nat) (th : Nat) (r : Int32) (A : Nat → Prop) : Array Value → State → Outcome → State → Prop := fun _ st oc t =>
  ∃ fv' : Nat → Nat, oc = .returned (some (.int r)) ∧ va_P D vwCl (mw q cI cZ N S fv' th) t.heap ∧ va_F A st t
/-- .. its answer by a predicate -/
def gQm (D : va_G) (q : Nat → Nat) (cI cZ : ClassId) (post : Int32 → (Nat → Nat) → (Nat → Nat → Nat) → Nat → Prop) (A : Nat → Prop) : Array Value → State → Outcome → State → Prop := fun _ st oc t =>
  ∃ (r : Int32) (N' : Nat → Nat) (S' : Nat → Nat → Nat) (fv' : Nat → Nat) (th' : Nat), oc = .returned (some (.int r)) ∧ post r N' S' th' ∧ va_P D vwCl (mw q cI cZ N' S' fv' th') t.heap ∧ va_F A st t
section MW
variable {p : Program} {l : Launch} {e : Env} {R : Room} {s : State} {m : MethodId} {args : Array Value} {below : List Frame} {meth : Method} {c : Code} {H : Heap} {locs : List Loc} {cells slots : Nat} {Q : State → Prop}
variable {y : MethodName} {bytes cc : ByteArray} {maxL nL n index pc : Nat} {ret : Option FieldType} {ws ws' : List Cond} {rm : Room} {Ts : List Cond} {own C : String} {As rest st0 : List Value} {ls : Array Slot} {a b : Nat}
variable {D : va_G} {q : Nat → Nat} {cI cZ : ClassId} {N N' : Nat → Nat} {S S' : Nat → Nat → Nat} {fv fv' : Nat → Nat} {th th' : Nat} {A : Nat → Prop} {r : Int32}
theorem gQm_of {post : Int32 → (Nat → Nat) → (Nat → Nat → Nat) → Nat → Prop} {t : State} {av : Array Value} (hX : mAt D q cI cZ N S fv th A s H) (hS : va_S A s.heap H locs) (ht : t.heap = H) (hp : post r N S th) : gQm D q cI cZ post A av s (.returned (some (.int r))) t :=
  ⟨r, N, S, fv, th, rfl, hp, by rw [ht]; exact hX.1, hS.F ht⟩
theorem gQd_of {t : State} {av : Array Value} (hX : mAt D q cI cZ N S fv th A s H) (hS : va_S A s.heap H locs) (ht : t.heap = H) : gQd D q cI cZ N S th r A av s (.returned (some (.int r))) t :=
  ⟨fv, rfl, by rw [ht]; exact hX.1, hS.F ht⟩
theorem gm_get (G : gF p s m args meth c cc ret nL RX1 ws) (hX : mAt D q cI cZ N S fv th A s H) (hin : ∀ w ∈ wsX10, w ∈ ws) (k : Nat) (hk : k < 16)
    (hlink : Cond.fieldLink RX1 index "GamutChainModel" (TX1 k).2.1 (TX1 k).2.2.1 ∈ ws) (hsame : (TX1 k).1 = "GamutChainModel") {v : Value} {fs : List Value} (hf : (mw q cI cZ N S fv th)[0]? = some (q 0, .inr (1, fs))) (hv : fs[k]? = some v) (hdg : decode cc pc = .ok (.getfield index, 3))
    (kk : W p l e R s m args below meth c H locs cells slots Q (F0 m (pc + 3) ls (v :: rest))) : W p l e R s m args below meth c H locs cells slots Q (F0 m pc ls (.ref (q 0) :: rest)) :=
  va_get (D := D) (ci := 1) (v := v) (C := RX1) (T := TX1) (N := 16) G.1 G.2.1 G.2.2.2.2.2.1 hin G.2.2.2.2.1 hX.2.1 hX.1 0 hf rfl k hk (G.2.2.2.2.2.1 _ hlink) (fun x h => by rw [hsame] at h; exact h) hv hdg kk
theorem gm_put {k v : Nat} {fs : List Value} (G : gF p s m args meth c cc ret nL RX1 ws) (hX : mAt D q cI cZ N S fv th A s H) (hS : va_S A s.heap H locs) (hin : ∀ w ∈ wsX10, w ∈ ws) (hk : k < 16)
    (hlink : Cond.fieldLink RX1 index "GamutChainModel" (TX1 k).2.1 (TX1 k).2.2.1 ∈ ws) (hsame : (TX1 k).1 = "GamutChainModel") (hfin : (TX1 k).2.2.2 = false) (hd : parseFieldDescriptor (TX1 k).2.2.1 = some .int) (hf : (mw q cI cZ N S fv th)[0]? = some (q 0, .inr (1, fs))) (hlen : k < fs.length)
    (hnew : (mw q cI cZ N S fv th).set 0 (q 0, .inr (1, fs.set k (.int (nI v)))) = mw q cI cZ N' S fv th') (hdg : decode cc pc = .ok (.putfield index, 3))
    (kk : ∀ (H1 : Heap) (locs1 : List Loc), mAt D q cI cZ N' S fv th' A s H1 → va_S A s.heap H1 locs1 → W p l e R s m args below meth c H1 locs1 cells slots Q (F0 m (pc + 3) ls rest)) : W p l e R s m args below meth c H locs cells slots Q (F0 m pc ls (.int (nI v) :: .ref (q 0) :: rest)) := by
  refine va_put (D := D) (ci := 1) (v := .int (nI v)) (ty := .int) (C := RX1) (T := TX1) (N := 16) (A := A) (H0 := s.heap) G.1 G.2.1 G.2.2.2.2.2.1 hin tyX1 tyX1_ok nmX1 G.2.2.2.2.1 hX.2.1 hX.1 hX.2.2 hS 0 hf rfl k hk (G.2.2.2.2.2.1 _ hlink) (fun x h => by rw [hsame] at h; exact h) hfin hd rfl rfl hlen hdg (fun H1 locs1 hP hD hS1 => ?_)
  rw [hnew] at hP hD
  exact kk H1 locs1 ⟨hP, hX.2.1, hD⟩ hS1
theorem gm_ald {k len i kp : Nat} {F : Nat → Nat} (G : gF p s m args meth c cc ret nL RX1 ws) (hX : mAt D q cI cZ N S fv th A s H) (hkp : (mw q cI cZ N S fv th)[kp]? = some (q k, .inl (cI, len, .inl (gr F)))) (hi : i < len) (hlen : len < 2 ^ 31) (hdg : decode cc pc = .ok (.iaload, 1))
    (kk : W p l e R s m args below meth c H locs cells slots Q (F0 m (pc + 1) ls (.int (nI (F i)) :: rest))) : W p l e R s m args below meth c H locs cells slots Q (F0 m pc ls (.int (nI i) :: .ref (q k) :: rest)) := by
  refine va_iald (D := D) G.1 G.2.1 hX.2.1 hX.1 kp 0 (f := gr F) hkp rfl (vp_in_nI hi hlen) hdg ?_
  rw [nI_clamp (by omega)]
  exact kk
theorem gm_zld {k len i kp : Nat} {F : Nat → Nat} (G : gF p s m args meth c cc ret nL RX1 ws) (hX : mAt D q cI cZ N S fv th A s H) (hkp : (mw q cI cZ N S fv th)[kp]? = some (q k, .inl (cZ, len, .inl (gr F)))) (hi : i < len) (hlen : len < 2 ^ 31) (hdg : decode cc pc = .ok (.baload, 1))
    (kk : W p l e R s m args below meth c H locs cells slots Q (F0 m (pc + 1) ls (.int (nI (F i)) :: rest))) : W p l e R s m args below meth c H locs cells slots Q (F0 m pc ls (.int (nI i) :: .ref (q k) :: rest)) := by
  refine va_zald (D := D) G.1 G.2.1 hX.2.1 hX.1 kp 1 (f := gr F) hkp rfl (vp_in_nI hi hlen) hdg ?_
  rw [nI_clamp (by omega)]
  exact kk
theorem gm_ast {k len i kp v : Nat} {F : Nat → Nat} (G : gF p s m args meth c cc ret nL RX1 ws) (hX : mAt D q cI cZ N S fv th A s H) (hS : va_S A s.heap H locs) (hkp : (mw q cI cZ N S fv th)[kp]? = some (q k, .inl (cI, len, .inl (gr F)))) (hnew : (mw q cI cZ N S fv th).set kp (q k, .inl (cI, len, .inl (gr (gu F i v)))) = mw q cI cZ N S' fv' th) (hi : i < len) (hlen : len < 2 ^ 31) (hdg : decode cc pc = .ok (.iastore, 1))
    (kk : ∀ (H1 : Heap) (locs1 : List Loc), mAt D q cI cZ N S' fv' th A s H1 → va_S A s.heap H1 locs1 → W p l e R s m args below meth c H1 locs1 cells slots Q (F0 m (pc + 1) ls rest)) : W p l e R s m args below meth c H locs cells slots Q (F0 m pc ls (.int (nI v) :: .int (nI i) :: .ref (q k) :: rest)) := by
  refine va_iast (D := D) (A := A) (H0 := s.heap) G.1 G.2.1 hX.2.1 hX.1 hX.2.2 hS kp 0 (f := gr F) hkp rfl (vp_in_nI hi hlen) hdg (fun H1 locs1 hP hD hS1 => ?_)
  rw [nI_clamp (by omega), gr_upd, hnew] at hP hD
  exact kk H1 locs1 ⟨hP, hX.2.1, hD⟩ hS1
theorem gm_zst {k len i kp v : Nat} {F : Nat → Nat} (G : gF p s m args meth c cc ret nL RX1 ws) (hX : mAt D q cI cZ N S fv th A s H) (hS : va_S A s.heap H locs) (hkp : (mw q cI cZ N S fv th)[kp]? = some (q k, .inl (cZ, len, .inl (gr F)))) (hnew : (mw q cI cZ N S fv th).set kp (q k, .inl (cZ, len, .inl (gr (gu F i v)))) = mw q cI cZ N S' fv' th) (hv : v = 0 ∨ v = 1) (hi : i < len) (hlen : len < 2 ^ 31) (hdg : decode cc pc = .ok (.bastore, 1))
    (kk : ∀ (H1 : Heap) (locs1 : List Loc), mAt D q cI cZ N S' fv' th A s H1 → va_S A s.heap H1 locs1 → W p l e R s m args below meth c H1 locs1 cells slots Q (F0 m (pc + 1) ls rest)) : W p l e R s m args below meth c H locs cells slots Q (F0 m pc ls (.int (nI v) :: .int (nI i) :: .ref (q k) :: rest)) := by
  refine va_zast (D := D) (A := A) (H0 := s.heap) G.1 G.2.1 hX.2.1 hX.1 hX.2.2 hS kp 1 (f := gr F) hkp rfl (vp_in_nI hi hlen) hdg (fun H1 locs1 hP hD hS1 => ?_)
  have e : vp_nar .boolean (nI v) = nI v := by
    rcases hv with e | e <;> rw [e] <;> rfl
  rw [nI_clamp (by omega), e, gr_upd, hnew] at hP hD
  exact kk H1 locs1 ⟨hP, hX.2.1, hD⟩ hS1
/-- a call of the reference's own that writes -/
theorem gm_mut (G : CallFix p m c cc nL s args Ts own) (hM : Met l y ws rm (va_Pc (.ref (q 0) :: As) (fun U => mAt D q cI cZ N S fv th A U U.heap)) (gQd D q cI cZ N' S' th' r A) 0 0 A) (cw : CallW R s args own RX1 index y bytes maxL ret ws rm 0 0 n)
    (hX : mAt D q cI cZ N S fv th A s H) (hS : va_S A s.heap H locs) (hn : As.length = n) (hsz : ls.size = nL) (hst : st0 = As.reverse ++ .ref (q 0) :: rest) (hW : (rest.map fun v => v.category).sum ≤ 8) (hdg : decode cc pc = .ok (.invokevirtual index, 3)) (hc : cells ≤ R.cells) (hs : slots ≤ R.slots)
    (kk : ∀ (fv' : Nat → Nat) (H1 : Heap) (locs1 : List Loc), mAt D q cI cZ N' S' fv' th' A s H1 → va_S A s.heap H1 locs1 → W p l e R s m args below meth c H1 locs1 cells slots Q (F0 m (pc + 3) ls (.int r :: rest))) : W p l e R s m args below meth c H locs cells slots Q (F0 m pc ls st0) := by
  intro T hT X
  obtain ⟨v9, st₀, t, T', L, h0, X', hL, e1, ⟨fv9, hv, hP1, hz, hk⟩, st⟩ := W.runV (As := As) (rest := rest) (g := F0 m pc ls st0) G hM cw ⟨mAt_blind, va_recv hX.2.1 hX.1 (ci := 1) (q0 := 0) rfl rfl, fun U hU hW => ⟨rfl, by show mAt _ _ _ _ _ _ _ _ _ U U.heap; rw [hU]; exact hX.moved hW⟩⟩ rfl hn hsz hst (lv_room hW) hdg ⟨hc, hs⟩ T hT X
  cases hv
  rw [h0] at hz hk
  have hS2 : va_S A s.heap t.heap (locs ++ L) := ⟨Nat.le_trans hS.1 hz, fun z h1 h2 => by rw [hk z (Nat.lt_of_lt_of_le h1 hS.1) h2]; exact hS.2.1 z h1 h2, fun z hz2 => by
    rcases List.mem_append.mp hz2 with h | h
    · exact hS.2.2 z h
    · exact hL z h⟩
  obtain ⟨t2, a1, b1⟩ := kk fv9 t.heap _ ⟨hP1, hX.2.1, va_D_fst (ws := mw q cI cZ N S fv th) rfl hX.2.2⟩ hS2 T' e1 X'
  exact ⟨t2, st t2 a1, b1⟩
end MW
