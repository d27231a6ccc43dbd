/-! THE LAW's JOINING: its rows after j of fifteen places -/
def lj1 (S : Nat → Nat → Nat) (ch j : Nat) : Nat → Nat → Nat := gs (gs S 8 (sp_kpTo S ch (j + 1))) 9 (if j = 0 then S 9 else gu (S 9) ch 1)
def ljS (S : Nat → Nat → Nat) (ch j : Nat) : Nat → Nat → Nat := gs (gs S 8 (sp_kpTo S ch j)) 9 (if j = 0 then S 9 else gu (S 9) ch 1)
theorem lj_0 {a : Nat → Nat} {cI : ClassId} {N : Nat → Nat} {S : Nat → Nat → Nat} {ch : Nat} : lrw a cI N S = lrw a cI N (ljS S ch 0) := rfl
theorem lj_k {a : Nat → Nat} {cI : ClassId} {N : Nat → Nat} {S : Nat → Nat → Nat} {ch j : Nat} : (lrw a cI N (ljS S ch j)).set 4 (a 4, .inl (cI, 30, .inl (gr (gu ((ljS S ch j) 8) (ch * 15 + j) (sp_pass S ch (j / 5) (sp_vop (j % 5))))))) = lrw a cI N (lj1 S ch j) := rfl
theorem gu_gu {F : Nat → Nat} {k v w : Nat} : gu (gu F k v) k w = gu F k w := by
  funext j
  unfold gu
  split <;> rfl
theorem lj_c {a : Nat → Nat} {cI : ClassId} {N : Nat → Nat} {S : Nat → Nat → Nat} {ch j : Nat} (h : ch < 2) : (lrw a cI N (lj1 S ch j)).set 0 (a 0, .inl (cI, 11, .inl (gr (gu (fC N (lj1 S ch j)) (4 + ch) 1)))) = lrw a cI N (ljS S ch (j + 1)) := by
  rw [ls_c9 h]
  have e : gu ((lj1 S ch j) 9) ch 1 = gu (S 9) ch 1 := by
    show gu (if j = 0 then S 9 else gu (S 9) ch 1) ch 1 = _
    split
    · rfl
    · exact gu_gu
  rw [e]
  rfl
theorem ljS_ok {N : Nat → Nat} {S : Nat → Nat → Nat} {ch j : Nat} (h : sp_ok N S) : sp_ok N (ljS S ch j) := by
  have h8 := sp_kpTo_le (ch := ch) h j
  obtain ⟨ok0, ok1, ok2, ok3, ok4, ok6, ok7, ok8, ok12, ok13, ok14⟩ := h
  exact ⟨ok0, ok1, ok2, ok3, ok4, ok6, ok7, h8, ok12, ok13, ok14⟩
theorem ljS_6 {S : Nat → Nat → Nat} {ch j : Nat} (h : ∀ i, S 6 i ≤ 2) : ∀ i, (ljS S ch j) 6 i ≤ 2 := h
theorem ljS_tk {S : Nat → Nat → Nat} {ch j p b v : Nat} : sp_tk (ljS S ch j) p b v = sp_tk S p b v := rfl
theorem ljS_passTo {S : Nat → Nat → Nat} {ch j c b v : Nat} : ∀ k, sp_passTo (ljS S ch j) c b v k = sp_passTo S c b v k
  | 0 => rfl
  | k + 1 => by
    show sp_tk (ljS S ch j) (S 6 (c * 6 + k)) b (sp_passTo (ljS S ch j) c b v k) = sp_tk S (S 6 (c * 6 + k)) b (sp_passTo S c b v k)
    rw [ljS_passTo k, ljS_tk]
theorem ljS_pass {S : Nat → Nat → Nat} {ch j c b v : Nat} : sp_pass (ljS S ch j) c b v = sp_pass S c b v := ljS_passTo _
theorem zAt.cast {D : va_G} {q a : Nat → Nat} {cI : ClassId} {N : Nat → Nat} {S : Nat → Nat → Nat} {tr : Nat → Nat} {N2 : Nat → Nat} {S2 : Nat → Nat → Nat} {N3 : Nat → Nat} {S3 : Nat → Nat → Nat} {A : Nat → Prop} {s : State} {H : Heap} (e : lrw a cI N2 S2 = lrw a cI N3 S3) (h : zAt D q a cI N S tr N2 S2 A s H) : zAt D q a cI N S tr N3 S3 A s H := by
  unfold zAt zw at h ⊢
  rw [← e]
  exact h
theorem lj_15 {a : Nat → Nat} {cI : ClassId} {N : Nat → Nat} {S : Nat → Nat → Nat} {ch : Nat} : lrw a cI N (ljS S ch 15) = lrw a cI (gu N 9 (N 9 ||| 2 ^ ch)) (gs (gs S 8 (sp_kpTo S ch 15)) 9 (gu (S 9) ch 1)) := rfl
