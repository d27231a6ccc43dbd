/-! THE LAW's QUESTIONS -/
section GT
variable {p : Program} {l : Launch} {e : Env} {R : Room} {s : State} {m : MethodId} {args : Array Value} {below : List Frame} {meth : Method} {c : Code} {H : Heap} {locs : List Loc} {cells slots : Nat} {Q : State → Prop} {ls : Array Slot} {pc : Nat} {st0 : List Value}
/-- a cut: whatever heap and locals there are at M, if they are as P says -/
theorem gj_t (P : Heap → List Loc → Array Slot → Prop) (M : Nat) (st : List Value) (c9 s9 : Nat) (k1 : ∀ H locs ls, P H locs ls → W p l e R s m args below meth c H locs c9 s9 Q (F0 m M ls st))
    (k2 : (∀ H locs ls, P H locs ls → W p l e R s m args below meth c H locs c9 s9 Q (F0 m M ls st)) → W p l e R s m args below meth c H locs cells slots Q (F0 m pc ls st0)) : W p l e R s m args below meth c H locs cells slots Q (F0 m pc ls st0) := k2 k1
end GT
/-- what an ink adds that the device has not -/
def lg_X (S : Nat → Nat → Nat) (px bd ks k : Nat) : Nat := if sp_bit ks k = 1 then 0 else S 14 (k * 3 + bd) * S 13 (px * 3 + k) / 255
theorem lg_X_le {N : Nat → Nat} {S : Nat → Nat → Nat} {px bd ks k : Nat} (h : sp_ok N S) : lg_X S px bd ks k ≤ 255 := by
  unfold lg_X
  split
  · exact Nat.zero_le _
  · have h1 : S 14 (k * 3 + bd) * S 13 (px * 3 + k) ≤ 255 * 255 := Nat.mul_le_mul (h.2.2.2.2.2.2.2.2.2.2 _) (h.2.2.2.2.2.2.2.2.2.1 _)
    omega
theorem lg_ink {N : Nat → Nat} {S : Nat → Nat → Nat} {px bd ks k : Nat} (h : sp_ok N S) : sp_inkTo S px bd ks (k + 1) = min 255 (sp_inkTo S px bd ks k + lg_X S px bd ks k) := by
  have h1 := sp_inkTo_le (px := px) (bd := bd) (ks := ks) h k
  show (if sp_bit ks k = 1 then sp_inkTo S px bd ks k else min 255 (sp_inkTo S px bd ks k + S 14 (k * 3 + bd) * S 13 (px * 3 + k) / 255)) = _
  unfold lg_X
  split
  · omega
  · rfl
set_option maxRecDepth 100000 in
set_option maxHeartbeats 2000000 in
theorem mL_asks (l : Launch) (hst : l.stackTraces = false) (D : va_G) (q a : Nat → Nat) (cI : ClassId) (N : Nat → Nat) (S : Nat → Nat → Nat) (tr : Nat → Nat) (A : Nat → Prop) (hli : li N S) (w0 : Int32) (i : Nat) (hi : i < 2 ^ 31) : Met l yL_asks wsL_asks { frames := 9, cells := 64, slots := 400, locals := 193 } (va_Pc [.ref (q 0), .int w0, .int (nI i), .ref (a 0), .ref (a 1), .ref (a 2), .ref (a 3), .ref (a 4), .ref (a 5)] (fun U => zBt D q a cI N S tr A U)) (gQz D q a cI (fun r N' S' => r = nI 1 ∧ N' = N ∧ S' = S) A) 64 400 A := by
  refine gc_met [.ref (q 0), .int w0, .int (nI i), .ref (a 0), .ref (a 1), .ref (a 2), .ref (a 3), .ref (a 4), .ref (a 5)] (by decide) rfl (Nat.le_of_ble_eq_true rfl) rfl ?_
  intro p e s m below meth c ls G hl hB
  obtain ⟨hZ, hA⟩ := hB
  have hli9 := hli
  obtain ⟨hok, hinv, hN0, hN5, h6⟩ := hli9
  have hok9 := hok
  obtain ⟨⟨ok0, ok5⟩, ok1, ok2, ok3, ok4, ok6, ok7, ok8, ok12, ok13, ok14⟩ := hok9
  have hZ0 : gZ A s s.heap := hZ.2.2.2
  have hS : va_S A s.heap s.heap [] := va_S.rf
  refine lv_iload_n G.1 G.2.1 dL_asks_0 rfl (lv_at hl 1 rfl) ?_
  refine lv_bipush (v := nI 6) G.1 G.2.1 dL_asks_1 (by decide) ?_
  refine lv_ishr G.1 G.2.1 dL_asks_3 ?_
  refine lv_topi (fun y1 hy1 => ?_)
  refine gc_s (As := [.int y1]) (rest := []) G.fix (mL_value l y1) (va_cwS 1 G.2.2.2.2.2.1 gL_asks_L_value rfl rfl rfl (by decide +kernel) ⟨Nat.le_of_ble_eq_true rfl, Nat.le_of_ble_eq_true rfl⟩) gc_blindT (fun _ _ _ => trivial) rfl hl.1 rfl (Nat.le_of_ble_eq_true rfl) dL_asks_4 (show 0 ≤ 64 by omega) (show 0 ≤ 400 by omega) (fun y2 _ => ?_)
  refine lv_istore (lv' := [(9, .int y2), (0, .ref (q 0)), (1, .int w0), (2, .int (nI i)), (3, .ref (a 0)), (4, .ref (a 1)), (5, .ref (a 2)), (6, .ref (a 3)), (7, .ref (a 4)), (8, .ref (a 5))]) G.1 G.2.1 dL_asks_7 hl (by decide) rfl (fun ls hl => ?_)
  refine gj_t (fun H locs ls => ∃ tr : Nat → Nat, zAt D q a cI N S tr N S A s H ∧ va_S A s.heap H locs ∧ lv_has ls 20 [(0, .ref (q 0)), (1, .int w0), (2, .int (nI i)), (3, .ref (a 0)), (4, .ref (a 1)), (5, .ref (a 2)), (6, .ref (a 3)), (7, .ref (a 4)), (8, .ref (a 5))]) 338 [] 56 336 (fun H locs ls hI => ?_) (fun K338 => ?_)
  · obtain ⟨tr, hZ, hS, hl⟩ := hI
    refine lv_iconst (v := nI 0) G.1 G.2.1 dL_asks_338 (by decide) ?_
    refine lv_istore (lv' := [(11, .int (nI 0)), (0, .ref (q 0)), (1, .int w0), (2, .int (nI i)), (3, .ref (a 0)), (4, .ref (a 1)), (5, .ref (a 2)), (6, .ref (a 3)), (7, .ref (a 4)), (8, .ref (a 5))]) G.1 G.2.1 dL_asks_339 hl (by decide) rfl (fun ls hl => ?_)
    refine lv_iconst (v := nI 0) G.1 G.2.1 dL_asks_341 (by decide) ?_
    refine lv_istore (lv' := [(12, .int (nI 0)), (11, .int (nI 0)), (0, .ref (q 0)), (1, .int w0), (2, .int (nI i)), (3, .ref (a 0)), (4, .ref (a 1)), (5, .ref (a 2)), (6, .ref (a 3)), (7, .ref (a 4)), (8, .ref (a 5))]) G.1 G.2.1 dL_asks_342 hl (by decide) rfl (fun ls hl => ?_)
    refine gj_loop (fun j ls => lv_has ls 20 [(12, .int (nI j)), (11, .int (nI (lg_sTo S j))), (0, .ref (q 0)), (1, .int w0), (2, .int (nI i)), (3, .ref (a 0)), (4, .ref (a 1)), (5, .ref (a 2)), (6, .ref (a 3)), (7, .ref (a 4)), (8, .ref (a 5))]) (15 * N 5) 0 (Nat.zero_le _) (lv_sub hl [0, 1, 2, 3, 4, 5, 6, 7, 8, 9, 10] rfl) (fun j ls hj344 hl kk344 => ?_) (fun ls hl => ?_)
    · have hb9 : S 9 (j / 15) = sp_bit (N 9) (j / 15) := (hinv.2.2.2.2.2.1 (j / 15) (by omega)).1
      have hb9b := sp_bit_lt (N 9) (j / 15)
      refine lv_iload G.1 G.2.1 dL_asks_344 (lv_at hl 0 rfl) ?_
      refine lv_bipush (v := nI 15) G.1 G.2.1 dL_asks_346 (by decide) ?_
      refine lv_aload_n G.1 G.2.1 dL_asks_348 rfl (lv_at hl 5 rfl) ?_
      refine lv_iconst (v := nI 1) G.1 G.2.1 dL_asks_349 (by decide) ?_
      refine gl_ald (k := 0) (len := 11) (F := fC N S) G hZ.r rfl (by omega) (by decide) dL_asks_350 ?_
      rw [fC_1]
      refine gn_imul G dL_asks_351 ?_
      refine gn_ge G (by omega) (by omega) (tgt := 425) dL_asks_352 (by decide) (fun h => absurd h (by omega)) (fun h_352 => ?_)
      refine lv_iload G.1 G.2.1 dL_asks_355 (lv_at hl 0 rfl) ?_
      refine lv_bipush (v := nI 15) G.1 G.2.1 dL_asks_357 (by decide) ?_
      refine gn_idiv G dL_asks_359 (by omega) (by omega) (by omega) ?_
      refine lv_istore (lv' := [(13, .int (nI (j / 15))), (12, .int (nI j)), (11, .int (nI (lg_sTo S j))), (0, .ref (q 0)), (1, .int w0), (2, .int (nI i)), (3, .ref (a 0)), (4, .ref (a 1)), (5, .ref (a 2)), (6, .ref (a 3)), (7, .ref (a 4)), (8, .ref (a 5))]) G.1 G.2.1 dL_asks_360 hl (by decide) rfl (fun ls hl => ?_)
      refine lv_iload G.1 G.2.1 dL_asks_362 (lv_at hl 2 rfl) ?_
      refine lv_aload_n G.1 G.2.1 dL_asks_364 rfl (lv_at hl 6 rfl) ?_
      refine lv_iconst (v := nI 4) G.1 G.2.1 dL_asks_365 (by decide) ?_
      refine lv_iload G.1 G.2.1 dL_asks_366 (lv_at hl 0 rfl) ?_
      refine gn_iadd G dL_asks_368 ?_
      refine gl_ald (k := 0) (len := 11) (F := fC N S) G hZ.r rfl (by omega) (by decide) dL_asks_369 ?_
      rw [fC_9 (by omega)]
      refine lv_iconst (v := nI 1) G.1 G.2.1 dL_asks_370 (by decide) ?_
      refine gn_ne G (by omega) (by omega) (tgt := 415) dL_asks_371 (by decide) (fun h_371 => ?_) (fun h_371 => ?_)
      · refine lv_iconst (v := nI 0) G.1 G.2.1 dL_asks_415 (by decide) ?_
        refine gn_ior G dL_asks_416 ?_
        rw [show (lg_sTo S j) ||| 0 = lg_sTo S (j + 1) from by show lg_sTo S j ||| _ = lg_sTo S j ||| _; rw [if_neg (fun z => h_371 z.1)]]
        refine lv_istore (lv' := [(11, .int (nI (lg_sTo S (j + 1)))), (13, .int (nI (j / 15))), (12, .int (nI j)), (0, .ref (q 0)), (1, .int w0), (2, .int (nI i)), (3, .ref (a 0)), (4, .ref (a 1)), (5, .ref (a 2)), (6, .ref (a 3)), (7, .ref (a 4)), (8, .ref (a 5))]) G.1 G.2.1 dL_asks_417 hl (by decide) rfl (fun ls hl => ?_)
        refine gn_iinc (lv' := [(12, .int (nI (j + 1))), (11, .int (nI (lg_sTo S (j + 1)))), (13, .int (nI (j / 15))), (0, .ref (q 0)), (1, .int w0), (2, .int (nI i)), (3, .ref (a 0)), (4, .ref (a 1)), (5, .ref (a 2)), (6, .ref (a 3)), (7, .ref (a 4)), (8, .ref (a 5))]) (n := 1) G dL_asks_419 hl (k := 2) rfl (by decide) rfl (fun ls hl => ?_)
        refine lv_goto (tgt := 344) G.1 G.2.1 dL_asks_422 (by decide) ?_
        exact kk344 _ (lv_sub hl [0, 1, 3, 4, 5, 6, 7, 8, 9, 10, 11] rfl)
      · refine lv_aload G.1 G.2.1 dL_asks_374 (lv_at hl 10 rfl) ?_
        refine lv_iload G.1 G.2.1 dL_asks_376 (lv_at hl 1 rfl) ?_
        refine gl_ald (k := 4) (len := 30) (F := S 8) G hZ.r rfl (by omega) (by decide) dL_asks_378 ?_
        have hv_378 := ok8 j
        refine lv_aload_n G.1 G.2.1 dL_asks_379 rfl (lv_at hl 6 rfl) ?_
        refine lv_aload G.1 G.2.1 dL_asks_380 (lv_at hl 7 rfl) ?_
        refine lv_aload G.1 G.2.1 dL_asks_382 (lv_at hl 8 rfl) ?_
        refine lv_aload G.1 G.2.1 dL_asks_384 (lv_at hl 9 rfl) ?_
        refine lv_iload G.1 G.2.1 dL_asks_386 (lv_at hl 0 rfl) ?_
        refine lv_iload G.1 G.2.1 dL_asks_388 (lv_at hl 1 rfl) ?_
        refine lv_bipush (v := nI 15) G.1 G.2.1 dL_asks_390 (by decide) ?_
        refine gn_irem G dL_asks_392 (by omega) (by omega) (by omega) ?_
        refine lv_iconst (v := nI 5) G.1 G.2.1 dL_asks_393 (by decide) ?_
        refine gn_idiv G dL_asks_394 (by omega) (by omega) (by omega) ?_
        refine lv_iload G.1 G.2.1 dL_asks_395 (lv_at hl 1 rfl) ?_
        refine lv_iconst (v := nI 5) G.1 G.2.1 dL_asks_397 (by decide) ?_
        refine gn_irem G dL_asks_398 (by omega) (by omega) (by omega) ?_
        refine gc_s (As := [.int (nI (j % 5))]) (rest := [.int (nI ((j % 15) / 5)), .int (nI (j / 15)), .ref (a 3), .ref (a 2), .ref (a 1), .ref (a 0), .int (nI (S 8 j)), .int (nI (lg_sTo S j))]) G.fix (mL_at l (j % 5) (by omega)) (va_cwS 1 G.2.2.2.2.2.1 gL_asks_L_at rfl rfl rfl (by decide +kernel) ⟨Nat.le_of_ble_eq_true rfl, Nat.le_of_ble_eq_true rfl⟩) gc_blindT (fun _ _ _ => trivial) rfl hl.1 rfl (Nat.le_of_ble_eq_true rfl) dL_asks_399 (show 56 ≤ 64 by omega) (show 336 ≤ 400 by omega) (fun r hr => ?_)
        subst hr
        have hv_399 := sp_vop_le (k := j % 5)
        refine gc_s (As := [.ref (a 0), .ref (a 1), .ref (a 2), .ref (a 3), .int (nI (j / 15)), .int (nI ((j % 15) / 5)), .int (nI (sp_vop (j % 5)))]) (rest := [.int (nI (S 8 j)), .int (nI (lg_sTo S j))]) G.fix (mL_through l D a cI N S hok h6 (j / 15) ((j % 15) / 5) (sp_vop (j % 5)) (by omega) (by omega) (by omega)) (va_cwS 7 G.2.2.2.2.2.1 gL_asks_L_through rfl rfl rfl (by decide +kernel) ⟨Nat.le_of_ble_eq_true rfl, Nat.le_of_ble_eq_true rfl⟩) lrAt_blind (fun U hU hW => by rw [hU]; exact hZ.r.moved hW) rfl hl.1 rfl (Nat.le_of_ble_eq_true rfl) dL_asks_402 (show 56 ≤ 64 by omega) (show 336 ≤ 400 by omega) (fun r hr => ?_)
        subst hr
        have hv_402 := sp_pass_le (ch := j / 15) (b := (j % 15) / 5) (v := sp_vop (j % 5)) hok (by omega)
        refine gn_eq G (by omega) (by omega) (tgt := 415) dL_asks_405 (by decide) (fun h_405 => ?_) (fun h_405 => ?_)
        · refine lv_iconst (v := nI 0) G.1 G.2.1 dL_asks_415 (by decide) ?_
          refine gn_ior G dL_asks_416 ?_
          rw [show (lg_sTo S j) ||| 0 = lg_sTo S (j + 1) from by show lg_sTo S j ||| _ = lg_sTo S j ||| _; rw [if_neg (fun z => z.2 h_405)]]
          refine lv_istore (lv' := [(11, .int (nI (lg_sTo S (j + 1)))), (13, .int (nI (j / 15))), (12, .int (nI j)), (0, .ref (q 0)), (1, .int w0), (2, .int (nI i)), (3, .ref (a 0)), (4, .ref (a 1)), (5, .ref (a 2)), (6, .ref (a 3)), (7, .ref (a 4)), (8, .ref (a 5))]) G.1 G.2.1 dL_asks_417 hl (by decide) rfl (fun ls hl => ?_)
          refine gn_iinc (lv' := [(12, .int (nI (j + 1))), (11, .int (nI (lg_sTo S (j + 1)))), (13, .int (nI (j / 15))), (0, .ref (q 0)), (1, .int w0), (2, .int (nI i)), (3, .ref (a 0)), (4, .ref (a 1)), (5, .ref (a 2)), (6, .ref (a 3)), (7, .ref (a 4)), (8, .ref (a 5))]) (n := 1) G dL_asks_419 hl (k := 2) rfl (by decide) rfl (fun ls hl => ?_)
          refine lv_goto (tgt := 344) G.1 G.2.1 dL_asks_422 (by decide) ?_
          exact kk344 _ (lv_sub hl [0, 1, 3, 4, 5, 6, 7, 8, 9, 10, 11] rfl)
        · refine lv_iconst (v := nI 1) G.1 G.2.1 dL_asks_408 (by decide) ?_
          refine lv_iload G.1 G.2.1 dL_asks_409 (lv_at hl 0 rfl) ?_
          refine gn_ishl G dL_asks_411 (by omega) ?_
          refine lv_goto (tgt := 416) G.1 G.2.1 dL_asks_412 (by decide) ?_
          refine gn_ior G dL_asks_416 ?_
          rw [show (lg_sTo S j) ||| (2 ^ (j / 15)) = lg_sTo S (j + 1) from by show lg_sTo S j ||| _ = lg_sTo S j ||| _; rw [if_pos ⟨h_371, h_405⟩]]
          refine lv_istore (lv' := [(11, .int (nI (lg_sTo S (j + 1)))), (13, .int (nI (j / 15))), (12, .int (nI j)), (0, .ref (q 0)), (1, .int w0), (2, .int (nI i)), (3, .ref (a 0)), (4, .ref (a 1)), (5, .ref (a 2)), (6, .ref (a 3)), (7, .ref (a 4)), (8, .ref (a 5))]) G.1 G.2.1 dL_asks_417 hl (by decide) rfl (fun ls hl => ?_)
          refine gn_iinc (lv' := [(12, .int (nI (j + 1))), (11, .int (nI (lg_sTo S (j + 1)))), (13, .int (nI (j / 15))), (0, .ref (q 0)), (1, .int w0), (2, .int (nI i)), (3, .ref (a 0)), (4, .ref (a 1)), (5, .ref (a 2)), (6, .ref (a 3)), (7, .ref (a 4)), (8, .ref (a 5))]) (n := 1) G dL_asks_419 hl (k := 2) rfl (by decide) rfl (fun ls hl => ?_)
          refine lv_goto (tgt := 344) G.1 G.2.1 dL_asks_422 (by decide) ?_
          exact kk344 _ (lv_sub hl [0, 1, 3, 4, 5, 6, 7, 8, 9, 10, 11] rfl)
    · refine lv_iload G.1 G.2.1 dL_asks_344 (lv_at hl 0 rfl) ?_
      refine lv_bipush (v := nI 15) G.1 G.2.1 dL_asks_346 (by decide) ?_
      refine lv_aload_n G.1 G.2.1 dL_asks_348 rfl (lv_at hl 5 rfl) ?_
      refine lv_iconst (v := nI 1) G.1 G.2.1 dL_asks_349 (by decide) ?_
      refine gl_ald (k := 0) (len := 11) (F := fC N S) G hZ.r rfl (by omega) (by decide) dL_asks_350 ?_
      rw [fC_1]
      refine gn_imul G dL_asks_351 ?_
      refine gn_ge G (by omega) (by omega) (tgt := 425) dL_asks_352 (by decide) (fun h_352 => ?_) (fun h => absurd h (by omega))
      refine lv_iload_n G.1 G.2.1 dL_asks_425 rfl (lv_at hl 3 rfl) ?_
      refine lv_iconst (v := nI 3) G.1 G.2.1 dL_asks_426 (by decide) ?_
      refine lv_ishr G.1 G.2.1 dL_asks_427 ?_
      refine lv_topi (fun y3 hy3 => ?_)
      refine lv_aload_n G.1 G.2.1 dL_asks_428 rfl (lv_at hl 5 rfl) ?_
      refine lv_iconst (v := nI 1) G.1 G.2.1 dL_asks_429 (by decide) ?_
      refine gl_ald (k := 0) (len := 11) (F := fC N S) G hZ.r rfl (by omega) (by decide) dL_asks_430 ?_
      rw [fC_1]
      refine lv_iconst (v := nI 1) G.1 G.2.1 dL_asks_431 (by decide) ?_
      refine gn_iadd G dL_asks_432 ?_
      refine gc_s (As := [.int y3, .int (nI ((N 5) + 1))]) (rest := []) G.fix (mL_some l y3 ((N 5) + 1) (by omega) (by omega)) (va_cwS 2 G.2.2.2.2.2.1 gL_asks_L_some rfl rfl rfl (by decide +kernel) ⟨Nat.le_of_ble_eq_true rfl, Nat.le_of_ble_eq_true rfl⟩) gc_blindT (fun _ _ _ => trivial) rfl hl.1 rfl (Nat.le_of_ble_eq_true rfl) dL_asks_433 (show 56 ≤ 64 by omega) (show 336 ≤ 400 by omega) (fun r hr => ?_)
      obtain ⟨k4, hk4, rfl⟩ := hr
      refine lv_istore (lv' := [(12, .int (nI k4)), (11, .int (nI (lg_sTo S (15 * N 5)))), (0, .ref (q 0)), (1, .int w0), (2, .int (nI i)), (3, .ref (a 0)), (4, .ref (a 1)), (5, .ref (a 2)), (6, .ref (a 3)), (7, .ref (a 4)), (8, .ref (a 5))]) G.1 G.2.1 dL_asks_436 hl (by decide) rfl (fun ls hl => ?_)
      refine lv_iload_n G.1 G.2.1 dL_asks_438 rfl (lv_at hl 3 rfl) ?_
      refine lv_iconst (v := nI 5) G.1 G.2.1 dL_asks_439 (by decide) ?_
      refine lv_ishr G.1 G.2.1 dL_asks_440 ?_
      refine lv_topi (fun y5 hy5 => ?_)
      refine lv_iconst (v := nI 2) G.1 G.2.1 dL_asks_441 (by decide) ?_
      refine gc_s (As := [.int y5, .int (nI 2)]) (rest := []) G.fix (mL_some l y5 2 (by omega) (by omega)) (va_cwS 2 G.2.2.2.2.2.1 gL_asks_L_some rfl rfl rfl (by decide +kernel) ⟨Nat.le_of_ble_eq_true rfl, Nat.le_of_ble_eq_true rfl⟩) gc_blindT (fun _ _ _ => trivial) rfl hl.1 rfl (Nat.le_of_ble_eq_true rfl) dL_asks_442 (show 56 ≤ 64 by omega) (show 336 ≤ 400 by omega) (fun r hr => ?_)
      obtain ⟨k6, hk6, rfl⟩ := hr
      refine lv_istore (lv' := [(13, .int (nI k6)), (12, .int (nI k4)), (11, .int (nI (lg_sTo S (15 * N 5)))), (0, .ref (q 0)), (1, .int w0), (2, .int (nI i)), (3, .ref (a 0)), (4, .ref (a 1)), (5, .ref (a 2)), (6, .ref (a 3)), (7, .ref (a 4)), (8, .ref (a 5))]) G.1 G.2.1 dL_asks_445 hl (by decide) rfl (fun ls hl => ?_)
      refine lv_iload_n G.1 G.2.1 dL_asks_447 rfl (lv_at hl 4 rfl) ?_
      refine lv_iconst (v := nI 4) G.1 G.2.1 dL_asks_448 (by decide) ?_
      refine lv_ishr G.1 G.2.1 dL_asks_449 ?_
      refine lv_topi (fun y7 hy7 => ?_)
      refine lv_iconst (v := nI 4) G.1 G.2.1 dL_asks_450 (by decide) ?_
      refine gc_s (As := [.int y7, .int (nI 4)]) (rest := []) G.fix (mL_some l y7 4 (by omega) (by omega)) (va_cwS 2 G.2.2.2.2.2.1 gL_asks_L_some rfl rfl rfl (by decide +kernel) ⟨Nat.le_of_ble_eq_true rfl, Nat.le_of_ble_eq_true rfl⟩) gc_blindT (fun _ _ _ => trivial) rfl hl.1 rfl (Nat.le_of_ble_eq_true rfl) dL_asks_451 (show 56 ≤ 64 by omega) (show 336 ≤ 400 by omega) (fun r hr => ?_)
      obtain ⟨k8, hk8, rfl⟩ := hr
      refine lv_istore (lv' := [(14, .int (nI k8)), (13, .int (nI k6)), (12, .int (nI k4)), (11, .int (nI (lg_sTo S (15 * N 5)))), (0, .ref (q 0)), (1, .int w0), (2, .int (nI i)), (3, .ref (a 0)), (4, .ref (a 1)), (5, .ref (a 2)), (6, .ref (a 3)), (7, .ref (a 4)), (8, .ref (a 5))]) G.1 G.2.1 dL_asks_454 hl (by decide) rfl (fun ls hl => ?_)
      refine lv_iload_n G.1 G.2.1 dL_asks_456 rfl (lv_at hl 5 rfl) ?_
      refine lv_bipush (v := nI 7) G.1 G.2.1 dL_asks_457 (by decide) ?_
      refine lv_ishr G.1 G.2.1 dL_asks_459 ?_
      refine lv_topi (fun y9 hy9 => ?_)
      refine lv_bipush (v := nI 9) G.1 G.2.1 dL_asks_460 (by decide) ?_
      refine gc_s (As := [.int y9, .int (nI 9)]) (rest := []) G.fix (mL_some l y9 9 (by omega) (by omega)) (va_cwS 2 G.2.2.2.2.2.1 gL_asks_L_some rfl rfl rfl (by decide +kernel) ⟨Nat.le_of_ble_eq_true rfl, Nat.le_of_ble_eq_true rfl⟩) gc_blindT (fun _ _ _ => trivial) rfl hl.1 rfl (Nat.le_of_ble_eq_true rfl) dL_asks_462 (show 56 ≤ 64 by omega) (show 336 ≤ 400 by omega) (fun r hr => ?_)
      obtain ⟨k10, hk10, rfl⟩ := hr
      refine lv_istore (lv' := [(15, .int (nI k10)), (14, .int (nI k8)), (13, .int (nI k6)), (12, .int (nI k4)), (11, .int (nI (lg_sTo S (15 * N 5)))), (0, .ref (q 0)), (1, .int w0), (2, .int (nI i)), (3, .ref (a 0)), (4, .ref (a 1)), (5, .ref (a 2)), (6, .ref (a 3)), (7, .ref (a 4)), (8, .ref (a 5))]) G.1 G.2.1 dL_asks_465 hl (by decide) rfl (fun ls hl => ?_)
      by_cases hcs : k4 < N 5 ∧ k8 < 3
      · refine lv_iload G.1 G.2.1 dL_asks_467 (lv_at hl 3 rfl) ?_
        refine lv_aload_n G.1 G.2.1 dL_asks_469 rfl (lv_at hl 8 rfl) ?_
        refine lv_iconst (v := nI 1) G.1 G.2.1 dL_asks_470 (by decide) ?_
        refine gl_ald (k := 0) (len := 11) (F := fC N S) G hZ.r rfl (by omega) (by decide) dL_asks_471 ?_
        rw [fC_1]
        refine gn_ge G (by omega) (by omega) (tgt := 485) dL_asks_472 (by decide) (fun h => absurd h (by omega)) (fun h_472 => ?_)
        refine lv_iload G.1 G.2.1 dL_asks_475 (lv_at hl 1 rfl) ?_
        refine lv_iconst (v := nI 3) G.1 G.2.1 dL_asks_477 (by decide) ?_
        refine gn_ge G (by omega) (by omega) (tgt := 485) dL_asks_478 (by decide) (fun h => absurd h (by omega)) (fun h_478 => ?_)
        refine lv_iconst (v := nI 1) G.1 G.2.1 dL_asks_481 (by decide) ?_
        refine lv_goto (tgt := 486) G.1 G.2.1 dL_asks_482 (by decide) ?_
        refine lv_istore (lv' := [(16, .int (nI 1)), (15, .int (nI k10)), (14, .int (nI k8)), (13, .int (nI k6)), (12, .int (nI k4)), (11, .int (nI (lg_sTo S (15 * N 5)))), (0, .ref (q 0)), (1, .int w0), (2, .int (nI i)), (3, .ref (a 0)), (4, .ref (a 1)), (5, .ref (a 2)), (6, .ref (a 3)), (7, .ref (a 4)), (8, .ref (a 5))]) G.1 G.2.1 dL_asks_486 hl (by decide) rfl (fun ls hl => ?_)
        refine lv_iload G.1 G.2.1 dL_asks_488 (lv_at hl 0 rfl) ?_
        refine gn_eqz G (by omega) (tgt := 506) dL_asks_490 (by decide) (fun h => absurd h (by omega)) (fun h_490 => ?_)
        refine lv_aload G.1 G.2.1 dL_asks_493 (lv_at hl 14 rfl) ?_
        refine lv_iconst (v := nI 3) G.1 G.2.1 dL_asks_495 (by decide) ?_
        refine lv_iload G.1 G.2.1 dL_asks_496 (lv_at hl 3 rfl) ?_
        refine gn_imul G dL_asks_498 ?_
        refine lv_iload G.1 G.2.1 dL_asks_499 (lv_at hl 2 rfl) ?_
        refine gn_iadd G dL_asks_501 ?_
        refine gl_ald (k := 5) (len := 21) (F := fP S) G hZ.r rfl (by omega) (by decide) dL_asks_502 ?_
        rw [show (3 * k6) + k8 = k6 * 3 + k8 from by omega, fP_12 (by omega)]
        have hv_502 := ok12 (k6 * 3 + k8)
        refine lv_goto (tgt := 507) G.1 G.2.1 dL_asks_503 (by decide) ?_
        rw [show S 12 (k6 * 3 + k8) = sp_inkTo S k6 k8 k10 0 from rfl]
        refine lv_istore (lv' := [(17, .int (nI (sp_inkTo S k6 k8 k10 0))), (16, .int (nI 1)), (15, .int (nI k10)), (14, .int (nI k8)), (13, .int (nI k6)), (12, .int (nI k4)), (11, .int (nI (lg_sTo S (15 * N 5)))), (0, .ref (q 0)), (1, .int w0), (2, .int (nI i)), (3, .ref (a 0)), (4, .ref (a 1)), (5, .ref (a 2)), (6, .ref (a 3)), (7, .ref (a 4)), (8, .ref (a 5))]) G.1 G.2.1 dL_asks_507 hl (by decide) rfl (fun ls hl => ?_)
        refine lv_iconst (v := nI 0) G.1 G.2.1 dL_asks_509 (by decide) ?_
        refine lv_istore (lv' := [(18, .int (nI 0)), (17, .int (nI (sp_inkTo S k6 k8 k10 0))), (16, .int (nI 1)), (15, .int (nI k10)), (14, .int (nI k8)), (13, .int (nI k6)), (12, .int (nI k4)), (11, .int (nI (lg_sTo S (15 * N 5)))), (0, .ref (q 0)), (1, .int w0), (2, .int (nI i)), (3, .ref (a 0)), (4, .ref (a 1)), (5, .ref (a 2)), (6, .ref (a 3)), (7, .ref (a 4)), (8, .ref (a 5))]) G.1 G.2.1 dL_asks_510 hl (by decide) rfl (fun ls hl => ?_)
        refine lv_iload G.1 G.2.1 dL_asks_512 (lv_at hl 0 rfl) ?_
        refine lv_iconst (v := nI 3) G.1 G.2.1 dL_asks_514 (by decide) ?_
        refine gn_ge G (by omega) (by omega) (tgt := 609) dL_asks_515 (by decide) (fun h => absurd h (by omega)) (fun h_515 => ?_)
        refine lv_iload G.1 G.2.1 dL_asks_518 (lv_at hl 2 rfl) ?_
        refine gn_eqz G (by omega) (tgt := 609) dL_asks_520 (by decide) (fun h => absurd h (by omega)) (fun h_520 => ?_)
        refine lv_aload G.1 G.2.1 dL_asks_523 (lv_at hl 16 rfl) ?_
        refine lv_bipush (v := nI 12) G.1 G.2.1 dL_asks_525 (by decide) ?_
        refine lv_iconst (v := nI 3) G.1 G.2.1 dL_asks_527 (by decide) ?_
        refine lv_iload G.1 G.2.1 dL_asks_528 (lv_at hl 0 rfl) ?_
        refine gn_imul G dL_asks_530 ?_
        refine gn_iadd G dL_asks_531 ?_
        refine lv_iload G.1 G.2.1 dL_asks_532 (lv_at hl 4 rfl) ?_
        refine gn_iadd G dL_asks_534 ?_
        refine gl_ald (k := 5) (len := 21) (F := fP S) G hZ.r rfl (by omega) (by decide) dL_asks_535 ?_
        rw [show (12 + (3 * 0)) + k8 = 12 + (0 * 3 + k8) from by omega, fP_14]
        have hv_535 := ok14 (0 * 3 + k8)
        refine lv_aload G.1 G.2.1 dL_asks_536 (lv_at hl 16 rfl) ?_
        refine lv_bipush (v := nI 6) G.1 G.2.1 dL_asks_538 (by decide) ?_
        refine lv_iconst (v := nI 3) G.1 G.2.1 dL_asks_540 (by decide) ?_
        refine lv_iload G.1 G.2.1 dL_asks_541 (lv_at hl 5 rfl) ?_
        refine gn_imul G dL_asks_543 ?_
        refine gn_iadd G dL_asks_544 ?_
        refine lv_iload G.1 G.2.1 dL_asks_545 (lv_at hl 0 rfl) ?_
        refine gn_iadd G dL_asks_547 ?_
        refine gl_ald (k := 5) (len := 21) (F := fP S) G hZ.r rfl (by omega) (by decide) dL_asks_548 ?_
        rw [show (6 + (3 * k6)) + 0 = 6 + (k6 * 3 + 0) from by omega, fP_13 (by omega)]
        have hv_548 := ok13 (k6 * 3 + 0)
        refine gn_imul G dL_asks_549 ?_
        have hall : (S 14 (0 * 3 + k8)) * (S 13 (k6 * 3 + 0)) ≤ 255 * 255 := Nat.mul_le_mul (ok14 _) (ok13 _)
        have hm9 := Nat.mod_le ((S 14 (0 * 3 + k8)) * (S 13 (k6 * 3 + 0))) 255
        have hX9 := lg_X_le (px := k6) (bd := k8) (ks := k10) (k := 0) hok
        have hi9 := sp_inkTo_le (px := k6) (bd := k8) (ks := k10) hok 0
        refine lv_istore (lv' := [(19, .int (nI ((S 14 (0 * 3 + k8)) * (S 13 (k6 * 3 + 0))))), (18, .int (nI 0)), (17, .int (nI (sp_inkTo S k6 k8 k10 0))), (16, .int (nI 1)), (15, .int (nI k10)), (14, .int (nI k8)), (13, .int (nI k6)), (12, .int (nI k4)), (11, .int (nI (lg_sTo S (15 * N 5)))), (0, .ref (q 0)), (1, .int w0), (2, .int (nI i)), (3, .ref (a 0)), (4, .ref (a 1)), (5, .ref (a 2)), (6, .ref (a 3)), (7, .ref (a 4)), (8, .ref (a 5))]) G.1 G.2.1 dL_asks_550 hl (by decide) rfl (fun ls hl => ?_)
        refine lv_iload G.1 G.2.1 dL_asks_552 (lv_at hl 2 rfl) ?_
        refine gj_x (fun x => x = (nI (lg_X S k6 k8 k10 0))) 582 [.int (nI (sp_inkTo S k6 k8 k10 0))] (fun x hx => ?_) (fun K_582 => ?_)
        · subst hx
          refine gn_iadd G dL_asks_582 ?_
          refine lv_istore (lv' := [(17, .int (nI ((sp_inkTo S k6 k8 k10 0) + (lg_X S k6 k8 k10 0)))), (19, .int (nI ((S 14 (0 * 3 + k8)) * (S 13 (k6 * 3 + 0))))), (18, .int (nI 0)), (16, .int (nI 1)), (15, .int (nI k10)), (14, .int (nI k8)), (13, .int (nI k6)), (12, .int (nI k4)), (11, .int (nI (lg_sTo S (15 * N 5)))), (0, .ref (q 0)), (1, .int w0), (2, .int (nI i)), (3, .ref (a 0)), (4, .ref (a 1)), (5, .ref (a 2)), (6, .ref (a 3)), (7, .ref (a 4)), (8, .ref (a 5))]) G.1 G.2.1 dL_asks_583 hl (by decide) rfl (fun ls hl => ?_)
          refine gj_x (fun x => x = (nI (sp_inkTo S k6 k8 k10 1))) 601 [] (fun x hx => ?_) (fun K_601 => ?_)
          · subst hx
            refine lv_istore (lv' := [(17, .int (nI (sp_inkTo S k6 k8 k10 1))), (19, .int (nI ((S 14 (0 * 3 + k8)) * (S 13 (k6 * 3 + 0))))), (18, .int (nI 0)), (16, .int (nI 1)), (15, .int (nI k10)), (14, .int (nI k8)), (13, .int (nI k6)), (12, .int (nI k4)), (11, .int (nI (lg_sTo S (15 * N 5)))), (0, .ref (q 0)), (1, .int w0), (2, .int (nI i)), (3, .ref (a 0)), (4, .ref (a 1)), (5, .ref (a 2)), (6, .ref (a 3)), (7, .ref (a 4)), (8, .ref (a 5))]) G.1 G.2.1 dL_asks_601 hl (by decide) rfl (fun ls hl => ?_)
            refine gn_iinc (lv' := [(18, .int (nI 1)), (17, .int (nI (sp_inkTo S k6 k8 k10 1))), (19, .int (nI ((S 14 (0 * 3 + k8)) * (S 13 (k6 * 3 + 0))))), (16, .int (nI 1)), (15, .int (nI k10)), (14, .int (nI k8)), (13, .int (nI k6)), (12, .int (nI k4)), (11, .int (nI (lg_sTo S (15 * N 5)))), (0, .ref (q 0)), (1, .int w0), (2, .int (nI i)), (3, .ref (a 0)), (4, .ref (a 1)), (5, .ref (a 2)), (6, .ref (a 3)), (7, .ref (a 4)), (8, .ref (a 5))]) (n := 1) G dL_asks_603 hl (k := 2) rfl (by decide) rfl (fun ls hl => ?_)
            refine lv_goto (tgt := 512) G.1 G.2.1 dL_asks_606 (by decide) ?_
            refine lv_iload G.1 G.2.1 dL_asks_512 (lv_at hl 0 rfl) ?_
            refine lv_iconst (v := nI 3) G.1 G.2.1 dL_asks_514 (by decide) ?_
            refine gn_ge G (by omega) (by omega) (tgt := 609) dL_asks_515 (by decide) (fun h => absurd h (by omega)) (fun h_515 => ?_)
            refine lv_iload G.1 G.2.1 dL_asks_518 (lv_at hl 3 rfl) ?_
            refine gn_eqz G (by omega) (tgt := 609) dL_asks_520 (by decide) (fun h => absurd h (by omega)) (fun h_520 => ?_)
            refine lv_aload G.1 G.2.1 dL_asks_523 (lv_at hl 17 rfl) ?_
            refine lv_bipush (v := nI 12) G.1 G.2.1 dL_asks_525 (by decide) ?_
            refine lv_iconst (v := nI 3) G.1 G.2.1 dL_asks_527 (by decide) ?_
            refine lv_iload G.1 G.2.1 dL_asks_528 (lv_at hl 0 rfl) ?_
            refine gn_imul G dL_asks_530 ?_
            refine gn_iadd G dL_asks_531 ?_
            refine lv_iload G.1 G.2.1 dL_asks_532 (lv_at hl 5 rfl) ?_
            refine gn_iadd G dL_asks_534 ?_
            refine gl_ald (k := 5) (len := 21) (F := fP S) G hZ.r rfl (by omega) (by decide) dL_asks_535 ?_
            rw [show (12 + (3 * 1)) + k8 = 12 + (1 * 3 + k8) from by omega, fP_14]
            have hv_535 := ok14 (1 * 3 + k8)
            refine lv_aload G.1 G.2.1 dL_asks_536 (lv_at hl 17 rfl) ?_
            refine lv_bipush (v := nI 6) G.1 G.2.1 dL_asks_538 (by decide) ?_
            refine lv_iconst (v := nI 3) G.1 G.2.1 dL_asks_540 (by decide) ?_
            refine lv_iload G.1 G.2.1 dL_asks_541 (lv_at hl 6 rfl) ?_
            refine gn_imul G dL_asks_543 ?_
            refine gn_iadd G dL_asks_544 ?_
            refine lv_iload G.1 G.2.1 dL_asks_545 (lv_at hl 0 rfl) ?_
            refine gn_iadd G dL_asks_547 ?_
            refine gl_ald (k := 5) (len := 21) (F := fP S) G hZ.r rfl (by omega) (by decide) dL_asks_548 ?_
            rw [show (6 + (3 * k6)) + 1 = 6 + (k6 * 3 + 1) from by omega, fP_13 (by omega)]
            have hv_548 := ok13 (k6 * 3 + 1)
            refine gn_imul G dL_asks_549 ?_
            have hall : (S 14 (1 * 3 + k8)) * (S 13 (k6 * 3 + 1)) ≤ 255 * 255 := Nat.mul_le_mul (ok14 _) (ok13 _)
            have hm9 := Nat.mod_le ((S 14 (1 * 3 + k8)) * (S 13 (k6 * 3 + 1))) 255
            have hX9 := lg_X_le (px := k6) (bd := k8) (ks := k10) (k := 1) hok
            have hi9 := sp_inkTo_le (px := k6) (bd := k8) (ks := k10) hok 1
            refine lv_istore (lv' := [(19, .int (nI ((S 14 (1 * 3 + k8)) * (S 13 (k6 * 3 + 1))))), (18, .int (nI 1)), (17, .int (nI (sp_inkTo S k6 k8 k10 1))), (16, .int (nI 1)), (15, .int (nI k10)), (14, .int (nI k8)), (13, .int (nI k6)), (12, .int (nI k4)), (11, .int (nI (lg_sTo S (15 * N 5)))), (0, .ref (q 0)), (1, .int w0), (2, .int (nI i)), (3, .ref (a 0)), (4, .ref (a 1)), (5, .ref (a 2)), (6, .ref (a 3)), (7, .ref (a 4)), (8, .ref (a 5))]) G.1 G.2.1 dL_asks_550 hl (by decide) rfl (fun ls hl => ?_)
            refine lv_iload G.1 G.2.1 dL_asks_552 (lv_at hl 2 rfl) ?_
            refine gj_x (fun x => x = (nI (lg_X S k6 k8 k10 1))) 582 [.int (nI (sp_inkTo S k6 k8 k10 1))] (fun x hx => ?_) (fun K_582 => ?_)
            · subst hx
              refine gn_iadd G dL_asks_582 ?_
              refine lv_istore (lv' := [(17, .int (nI ((sp_inkTo S k6 k8 k10 1) + (lg_X S k6 k8 k10 1)))), (19, .int (nI ((S 14 (1 * 3 + k8)) * (S 13 (k6 * 3 + 1))))), (18, .int (nI 1)), (16, .int (nI 1)), (15, .int (nI k10)), (14, .int (nI k8)), (13, .int (nI k6)), (12, .int (nI k4)), (11, .int (nI (lg_sTo S (15 * N 5)))), (0, .ref (q 0)), (1, .int w0), (2, .int (nI i)), (3, .ref (a 0)), (4, .ref (a 1)), (5, .ref (a 2)), (6, .ref (a 3)), (7, .ref (a 4)), (8, .ref (a 5))]) G.1 G.2.1 dL_asks_583 hl (by decide) rfl (fun ls hl => ?_)
              refine gj_x (fun x => x = (nI (sp_inkTo S k6 k8 k10 2))) 601 [] (fun x hx => ?_) (fun K_601 => ?_)
              · subst hx
                refine lv_istore (lv' := [(17, .int (nI (sp_inkTo S k6 k8 k10 2))), (19, .int (nI ((S 14 (1 * 3 + k8)) * (S 13 (k6 * 3 + 1))))), (18, .int (nI 1)), (16, .int (nI 1)), (15, .int (nI k10)), (14, .int (nI k8)), (13, .int (nI k6)), (12, .int (nI k4)), (11, .int (nI (lg_sTo S (15 * N 5)))), (0, .ref (q 0)), (1, .int w0), (2, .int (nI i)), (3, .ref (a 0)), (4, .ref (a 1)), (5, .ref (a 2)), (6, .ref (a 3)), (7, .ref (a 4)), (8, .ref (a 5))]) G.1 G.2.1 dL_asks_601 hl (by decide) rfl (fun ls hl => ?_)
                refine gn_iinc (lv' := [(18, .int (nI 2)), (17, .int (nI (sp_inkTo S k6 k8 k10 2))), (19, .int (nI ((S 14 (1 * 3 + k8)) * (S 13 (k6 * 3 + 1))))), (16, .int (nI 1)), (15, .int (nI k10)), (14, .int (nI k8)), (13, .int (nI k6)), (12, .int (nI k4)), (11, .int (nI (lg_sTo S (15 * N 5)))), (0, .ref (q 0)), (1, .int w0), (2, .int (nI i)), (3, .ref (a 0)), (4, .ref (a 1)), (5, .ref (a 2)), (6, .ref (a 3)), (7, .ref (a 4)), (8, .ref (a 5))]) (n := 1) G dL_asks_603 hl (k := 2) rfl (by decide) rfl (fun ls hl => ?_)
                refine lv_goto (tgt := 512) G.1 G.2.1 dL_asks_606 (by decide) ?_
                refine lv_iload G.1 G.2.1 dL_asks_512 (lv_at hl 0 rfl) ?_
                refine lv_iconst (v := nI 3) G.1 G.2.1 dL_asks_514 (by decide) ?_
                refine gn_ge G (by omega) (by omega) (tgt := 609) dL_asks_515 (by decide) (fun h => absurd h (by omega)) (fun h_515 => ?_)
                refine lv_iload G.1 G.2.1 dL_asks_518 (lv_at hl 3 rfl) ?_
                refine gn_eqz G (by omega) (tgt := 609) dL_asks_520 (by decide) (fun h => absurd h (by omega)) (fun h_520 => ?_)
                refine lv_aload G.1 G.2.1 dL_asks_523 (lv_at hl 17 rfl) ?_
                refine lv_bipush (v := nI 12) G.1 G.2.1 dL_asks_525 (by decide) ?_
                refine lv_iconst (v := nI 3) G.1 G.2.1 dL_asks_527 (by decide) ?_
                refine lv_iload G.1 G.2.1 dL_asks_528 (lv_at hl 0 rfl) ?_
                refine gn_imul G dL_asks_530 ?_
                refine gn_iadd G dL_asks_531 ?_
                refine lv_iload G.1 G.2.1 dL_asks_532 (lv_at hl 5 rfl) ?_
                refine gn_iadd G dL_asks_534 ?_
                refine gl_ald (k := 5) (len := 21) (F := fP S) G hZ.r rfl (by omega) (by decide) dL_asks_535 ?_
                rw [show (12 + (3 * 2)) + k8 = 12 + (2 * 3 + k8) from by omega, fP_14]
                have hv_535 := ok14 (2 * 3 + k8)
                refine lv_aload G.1 G.2.1 dL_asks_536 (lv_at hl 17 rfl) ?_
                refine lv_bipush (v := nI 6) G.1 G.2.1 dL_asks_538 (by decide) ?_
                refine lv_iconst (v := nI 3) G.1 G.2.1 dL_asks_540 (by decide) ?_
                refine lv_iload G.1 G.2.1 dL_asks_541 (lv_at hl 6 rfl) ?_
                refine gn_imul G dL_asks_543 ?_
                refine gn_iadd G dL_asks_544 ?_
                refine lv_iload G.1 G.2.1 dL_asks_545 (lv_at hl 0 rfl) ?_
                refine gn_iadd G dL_asks_547 ?_
                refine gl_ald (k := 5) (len := 21) (F := fP S) G hZ.r rfl (by omega) (by decide) dL_asks_548 ?_
                rw [show (6 + (3 * k6)) + 2 = 6 + (k6 * 3 + 2) from by omega, fP_13 (by omega)]
                have hv_548 := ok13 (k6 * 3 + 2)
                refine gn_imul G dL_asks_549 ?_
                have hall : (S 14 (2 * 3 + k8)) * (S 13 (k6 * 3 + 2)) ≤ 255 * 255 := Nat.mul_le_mul (ok14 _) (ok13 _)
                have hm9 := Nat.mod_le ((S 14 (2 * 3 + k8)) * (S 13 (k6 * 3 + 2))) 255
                have hX9 := lg_X_le (px := k6) (bd := k8) (ks := k10) (k := 2) hok
                have hi9 := sp_inkTo_le (px := k6) (bd := k8) (ks := k10) hok 2
                refine lv_istore (lv' := [(19, .int (nI ((S 14 (2 * 3 + k8)) * (S 13 (k6 * 3 + 2))))), (18, .int (nI 2)), (17, .int (nI (sp_inkTo S k6 k8 k10 2))), (16, .int (nI 1)), (15, .int (nI k10)), (14, .int (nI k8)), (13, .int (nI k6)), (12, .int (nI k4)), (11, .int (nI (lg_sTo S (15 * N 5)))), (0, .ref (q 0)), (1, .int w0), (2, .int (nI i)), (3, .ref (a 0)), (4, .ref (a 1)), (5, .ref (a 2)), (6, .ref (a 3)), (7, .ref (a 4)), (8, .ref (a 5))]) G.1 G.2.1 dL_asks_550 hl (by decide) rfl (fun ls hl => ?_)
                refine lv_iload G.1 G.2.1 dL_asks_552 (lv_at hl 2 rfl) ?_
                refine gj_x (fun x => x = (nI (lg_X S k6 k8 k10 2))) 582 [.int (nI (sp_inkTo S k6 k8 k10 2))] (fun x hx => ?_) (fun K_582 => ?_)
                · subst hx
                  refine gn_iadd G dL_asks_582 ?_
                  refine lv_istore (lv' := [(17, .int (nI ((sp_inkTo S k6 k8 k10 2) + (lg_X S k6 k8 k10 2)))), (19, .int (nI ((S 14 (2 * 3 + k8)) * (S 13 (k6 * 3 + 2))))), (18, .int (nI 2)), (16, .int (nI 1)), (15, .int (nI k10)), (14, .int (nI k8)), (13, .int (nI k6)), (12, .int (nI k4)), (11, .int (nI (lg_sTo S (15 * N 5)))), (0, .ref (q 0)), (1, .int w0), (2, .int (nI i)), (3, .ref (a 0)), (4, .ref (a 1)), (5, .ref (a 2)), (6, .ref (a 3)), (7, .ref (a 4)), (8, .ref (a 5))]) G.1 G.2.1 dL_asks_583 hl (by decide) rfl (fun ls hl => ?_)
                  refine gj_x (fun x => x = (nI (sp_inkTo S k6 k8 k10 3))) 601 [] (fun x hx => ?_) (fun K_601 => ?_)
                  · subst hx
                    refine lv_istore (lv' := [(17, .int (nI (sp_inkTo S k6 k8 k10 3))), (19, .int (nI ((S 14 (2 * 3 + k8)) * (S 13 (k6 * 3 + 2))))), (18, .int (nI 2)), (16, .int (nI 1)), (15, .int (nI k10)), (14, .int (nI k8)), (13, .int (nI k6)), (12, .int (nI k4)), (11, .int (nI (lg_sTo S (15 * N 5)))), (0, .ref (q 0)), (1, .int w0), (2, .int (nI i)), (3, .ref (a 0)), (4, .ref (a 1)), (5, .ref (a 2)), (6, .ref (a 3)), (7, .ref (a 4)), (8, .ref (a 5))]) G.1 G.2.1 dL_asks_601 hl (by decide) rfl (fun ls hl => ?_)
                    refine gn_iinc (lv' := [(18, .int (nI 3)), (17, .int (nI (sp_inkTo S k6 k8 k10 3))), (19, .int (nI ((S 14 (2 * 3 + k8)) * (S 13 (k6 * 3 + 2))))), (16, .int (nI 1)), (15, .int (nI k10)), (14, .int (nI k8)), (13, .int (nI k6)), (12, .int (nI k4)), (11, .int (nI (lg_sTo S (15 * N 5)))), (0, .ref (q 0)), (1, .int w0), (2, .int (nI i)), (3, .ref (a 0)), (4, .ref (a 1)), (5, .ref (a 2)), (6, .ref (a 3)), (7, .ref (a 4)), (8, .ref (a 5))]) (n := 1) G dL_asks_603 hl (k := 2) rfl (by decide) rfl (fun ls hl => ?_)
                    refine lv_goto (tgt := 512) G.1 G.2.1 dL_asks_606 (by decide) ?_
                    refine lv_iload G.1 G.2.1 dL_asks_512 (lv_at hl 0 rfl) ?_
                    refine lv_iconst (v := nI 3) G.1 G.2.1 dL_asks_514 (by decide) ?_
                    refine gn_ge G (by omega) (by omega) (tgt := 609) dL_asks_515 (by decide) (fun h_515 => ?_) (fun h => absurd h (by omega))
                    have hl : lv_has ls 20 [(18, .int (nI 3)), (17, .int (nI (sp_ink S k6 k8 k10))), (19, .int (nI ((S 14 (2 * 3 + k8)) * (S 13 (k6 * 3 + 2))))), (16, .int (nI 1)), (15, .int (nI k10)), (14, .int (nI k8)), (13, .int (nI k6)), (12, .int (nI k4)), (11, .int (nI (lg_sTo S (15 * N 5)))), (0, .ref (q 0)), (1, .int w0), (2, .int (nI i)), (3, .ref (a 0)), (4, .ref (a 1)), (5, .ref (a 2)), (6, .ref (a 3)), (7, .ref (a 4)), (8, .ref (a 5))] := hl
                    have hi9 := sp_ink_le (px := k6) (bd := k8) (ks := k10) hok
                    refine lv_aload_n G.1 G.2.1 dL_asks_609 rfl (lv_at hl 9 rfl) ?_
                    refine gc_v (As := []) (rest := []) G.fix (mX0_stale l D q cI N S tr A hok hinv.2.2.1) (cwV 0 G.2.2.2.2.2.1 gL_asks_X0_stale rfl rfl rfl (by decide +kernel) ⟨Nat.le_of_ble_eq_true rfl, Nat.le_of_ble_eq_true rfl⟩) xAt_blind (va_recv hZ.x.2.1 hZ.x.1 (ci := 0) (q0 := 0) rfl rfl) (fun U hU hW => by show xAt _ _ _ _ _ _ _ U U.heap; rw [hU]; exact hZ.x.moved hW) rfl hl.1 rfl (Nat.le_of_ble_eq_true rfl) dL_asks_610 (show 56 ≤ 64 by omega) (show 336 ≤ 400 by omega) (fun r hr => ?_)
                    subst hr
                    have hv_610 : sp_stale N S < 2 ^ 6 := sp_staleTo_lt N S 6 (Nat.le_refl _)
                    rw [← lg_stale hok hinv]
                    have hst9 := lg_sTo_lt S (15 * N 5) (by omega)
                    refine lv_iload G.1 G.2.1 dL_asks_613 (lv_at hl 8 rfl) ?_
                    refine gn_ne G (by omega) (by omega) (tgt := 688) dL_asks_615 (by decide) (fun h => absurd rfl h) (fun h_615 => ?_)
                    refine lv_aload_n G.1 G.2.1 dL_asks_618 rfl (lv_at hl 9 rfl) ?_
                    refine gc_v (As := []) (rest := []) G.fix (mX0_held l D q cI N S tr A hok hinv.2.2.2.1) (cwV 0 G.2.2.2.2.2.1 gL_asks_X0_held rfl rfl rfl (by decide +kernel) ⟨Nat.le_of_ble_eq_true rfl, Nat.le_of_ble_eq_true rfl⟩) xAt_blind (va_recv hZ.x.2.1 hZ.x.1 (ci := 0) (q0 := 0) rfl rfl) (fun U hU hW => by show xAt _ _ _ _ _ _ _ U U.heap; rw [hU]; exact hZ.x.moved hW) rfl hl.1 rfl (Nat.le_of_ble_eq_true rfl) dL_asks_619 (show 56 ≤ 64 by omega) (show 336 ≤ 400 by omega) (fun r hr => ?_)
                    subst hr
                    have hv_619 := sp_held_lt hok
                    refine lv_aload_n G.1 G.2.1 dL_asks_622 rfl (lv_at hl 12 rfl) ?_
                    refine lv_aload G.1 G.2.1 dL_asks_623 (lv_at hl 15 rfl) ?_
                    refine gc_s (As := [.ref (a 0), .ref (a 3)]) (rest := [.int (nI (sp_held N S))]) G.fix (mL_held l D a cI N S hok hinv hN5) (va_cwS 2 G.2.2.2.2.2.1 gL_asks_L_held rfl rfl rfl (by decide +kernel) ⟨Nat.le_of_ble_eq_true rfl, Nat.le_of_ble_eq_true rfl⟩) lrAt_blind (fun U hU hW => by rw [hU]; exact hZ.r.moved hW) rfl hl.1 rfl (Nat.le_of_ble_eq_true rfl) dL_asks_625 (show 56 ≤ 64 by omega) (show 336 ≤ 400 by omega) (fun r hr => ?_)
                    subst hr
                    have hv_625 := sp_held_lt hok
                    refine gn_ne G (by omega) (by omega) (tgt := 688) dL_asks_628 (by decide) (fun h => absurd rfl h) (fun h_628 => ?_)
                    by_cases hik : k10 < 8
                    · refine lv_aload_n G.1 G.2.1 dL_asks_631 rfl (lv_at hl 9 rfl) ?_
                      refine lv_iload G.1 G.2.1 dL_asks_632 (lv_at hl 7 rfl) ?_
                      refine lv_iload G.1 G.2.1 dL_asks_634 (lv_at hl 6 rfl) ?_
                      refine lv_iload G.1 G.2.1 dL_asks_636 (lv_at hl 5 rfl) ?_
                      refine lv_iload G.1 G.2.1 dL_asks_638 (lv_at hl 4 rfl) ?_
                      refine gz_wrap (As := [.ref (q 0), .int (nI k4), .int (nI k6), .int (nI k8), .int (nI k10)]) (rest := []) G.fix (mL_shows l hst D q cI N S tr _ hok hinv ((nI k4)) ((nI k6)) ((nI k8)) ((nI k10))) (vx_cwSW 5 G.2.2.2.2.2.1 gL_asks_L_shows rfl rfl rfl (by decide +kernel) ⟨Nat.le_of_ble_eq_true rfl, Nat.le_of_ble_eq_true rfl⟩) hZ hA hS rfl hl.1 rfl (Nat.le_of_ble_eq_true rfl) dL_asks_640 (show 56 + 1 ≤ 64 by omega) (show 336 + 6 ≤ 400 by omega) (fun r Nx Sx tr H locs hp hZ hS => ?_)
                      obtain ⟨rfl, eN, eS⟩ := hp
                      have hk_640 : sj_shown N S ((nI k4)) ((nI k6)) ((nI k8)) ((nI k10)) = 0 := gk_ttt (by simp only [sA_shown, Bool.and_eq_true, decide_eq_true_eq, gb_nI (show k4 < 2 ^ 31 by omega), gn_nI (show k4 < 2 ^ 31 by omega), gb_nI (show k6 < 2 ^ 31 by omega), gn_nI (show k6 < 2 ^ 31 by omega), gb_nI (show k8 < 2 ^ 31 by omega), gn_nI (show k8 < 2 ^ 31 by omega), gb_nI (show k10 < 2 ^ 31 by omega), gn_nI (show k10 < 2 ^ 31 by omega)] <;> omega) (by simp only [sB_shown, Bool.and_eq_true, decide_eq_true_eq, gb_nI (show k4 < 2 ^ 31 by omega), gn_nI (show k4 < 2 ^ 31 by omega), gb_nI (show k6 < 2 ^ 31 by omega), gn_nI (show k6 < 2 ^ 31 by omega), gb_nI (show k8 < 2 ^ 31 by omega), gn_nI (show k8 < 2 ^ 31 by omega), gb_nI (show k10 < 2 ^ 31 by omega), gn_nI (show k10 < 2 ^ 31 by omega)] <;> omega) rfl
                      rw [hk_640] at eN eS
                      have eN : Nx = sN_shown N S ((nI k4)) ((nI k6)) ((nI k8)) ((nI k10)) := eN
                      have eS : Sx = sS_shown N S ((nI k4)) ((nI k6)) ((nI k8)) ((nI k10)) := eS
                      rw [eN, eS] at hZ
                      rw [hk_640, gRes_0]
                      have hR_640 : sR_shown N S ((nI k4)) ((nI k6)) ((nI k8)) ((nI k10)) = sp_pass S k4 k8 (sp_ink S k6 k8 k10) := by simp only [sR_shown, gn_nI (show k4 < 2 ^ 31 by omega), gn_nI (show k6 < 2 ^ 31 by omega), gn_nI (show k8 < 2 ^ 31 by omega), gn_nI (show k10 < 2 ^ 31 by omega)]
                      rw [hR_640]
                      have hZ : zAt D q a cI N S tr N S A s H := hZ
                      refine lv_iload G.1 G.2.1 dL_asks_643 (lv_at hl 3 rfl) ?_
                      refine gn_nez G (by omega) (tgt := 653) dL_asks_645 (by decide) (fun h_645 => ?_) (fun h => absurd h (by omega))
                      refine lv_iload G.1 G.2.1 dL_asks_653 (lv_at hl 4 rfl) ?_
                      refine lv_bipush (v := nI 7) G.1 G.2.1 dL_asks_655 (by decide) ?_
                      refine gn_le G (by omega) (by omega) (tgt := 665) dL_asks_657 (by decide) (fun h_657 => ?_) (fun h => absurd h (by omega))
                      refine lv_aload_n G.1 G.2.1 dL_asks_665 rfl (lv_at hl 12 rfl) ?_
                      refine lv_aload G.1 G.2.1 dL_asks_666 (lv_at hl 13 rfl) ?_
                      refine lv_aload G.1 G.2.1 dL_asks_668 (lv_at hl 14 rfl) ?_
                      refine lv_aload G.1 G.2.1 dL_asks_670 (lv_at hl 15 rfl) ?_
                      refine lv_iload G.1 G.2.1 dL_asks_672 (lv_at hl 7 rfl) ?_
                      refine lv_iload G.1 G.2.1 dL_asks_674 (lv_at hl 5 rfl) ?_
                      refine lv_iload G.1 G.2.1 dL_asks_676 (lv_at hl 1 rfl) ?_
                      refine gc_s (As := [.ref (a 0), .ref (a 1), .ref (a 2), .ref (a 3), .int (nI k4), .int (nI k8), .int (nI (sp_ink S k6 k8 k10))]) (rest := [.int (nI (sp_pass S k4 k8 (sp_ink S k6 k8 k10)))]) G.fix (mL_through l D a cI N S hok h6 k4 k8 (sp_ink S k6 k8 k10) (by omega) (by omega) (by omega)) (va_cwS 7 G.2.2.2.2.2.1 gL_asks_L_through rfl rfl rfl (by decide +kernel) ⟨Nat.le_of_ble_eq_true rfl, Nat.le_of_ble_eq_true rfl⟩) lrAt_blind (fun U hU hW => by rw [hU]; exact hZ.r.moved hW) rfl hl.1 rfl (Nat.le_of_ble_eq_true rfl) dL_asks_678 (show 56 + 1 ≤ 64 by omega) (show 336 + 6 ≤ 400 by omega) (fun r hr => ?_)
                      subst hr
                      have hv_678 := sp_pass_le (ch := k4) (b := k8) (v := sp_ink S k6 k8 k10) hok (by omega)
                      refine gn_ne G (by omega) (by omega) (tgt := 688) dL_asks_681 (by decide) (fun h => absurd rfl h) (fun h_681 => ?_)
                      refine lv_iconst (v := nI 1) G.1 G.2.1 dL_asks_684 (by decide) ?_
                      refine lv_goto (tgt := 689) G.1 G.2.1 dL_asks_685 (by decide) ?_
                      refine lv_istore (lv' := [(18, .int (nI 1)), (17, .int (nI (sp_ink S k6 k8 k10))), (19, .int (nI ((S 14 (2 * 3 + k8)) * (S 13 (k6 * 3 + 2))))), (16, .int (nI 1)), (15, .int (nI k10)), (14, .int (nI k8)), (13, .int (nI k6)), (12, .int (nI k4)), (11, .int (nI (lg_sTo S (15 * N 5)))), (0, .ref (q 0)), (1, .int w0), (2, .int (nI i)), (3, .ref (a 0)), (4, .ref (a 1)), (5, .ref (a 2)), (6, .ref (a 3)), (7, .ref (a 4)), (8, .ref (a 5))]) G.1 G.2.1 dL_asks_689 hl (by decide) rfl (fun ls hl => ?_)
                      refine lv_iload_n G.1 G.2.1 dL_asks_691 rfl (lv_at hl 10 rfl) ?_
                      refine lv_bipush (v := nI 8) G.1 G.2.1 dL_asks_692 (by decide) ?_
                      refine lv_ishr G.1 G.2.1 dL_asks_694 ?_
                      refine lv_topi (fun y11 hy11 => ?_)
                      refine lv_aload_n G.1 G.2.1 dL_asks_695 rfl (lv_at hl 12 rfl) ?_
                      refine lv_iconst (v := nI 1) G.1 G.2.1 dL_asks_696 (by decide) ?_
                      refine gl_ald (k := 0) (len := 11) (F := fC N S) G hZ.r rfl (by omega) (by decide) dL_asks_697 ?_
                      rw [fC_1]
                      refine lv_iconst (v := nI 1) G.1 G.2.1 dL_asks_698 (by decide) ?_
                      refine gn_iadd G dL_asks_699 ?_
                      refine gc_s (As := [.int y11, .int (nI ((N 5) + 1))]) (rest := []) G.fix (mL_some l y11 ((N 5) + 1) (by omega) (by omega)) (va_cwS 2 G.2.2.2.2.2.1 gL_asks_L_some rfl rfl rfl (by decide +kernel) ⟨Nat.le_of_ble_eq_true rfl, Nat.le_of_ble_eq_true rfl⟩) gc_blindT (fun _ _ _ => trivial) rfl hl.1 rfl (Nat.le_of_ble_eq_true rfl) dL_asks_700 (show 56 + 1 ≤ 64 by omega) (show 336 + 6 ≤ 400 by omega) (fun r hr => ?_)
                      obtain ⟨k12, hk12, rfl⟩ := hr
                      refine lv_istore (lv' := [(19, .int (nI k12)), (18, .int (nI 1)), (17, .int (nI (sp_ink S k6 k8 k10))), (16, .int (nI 1)), (15, .int (nI k10)), (14, .int (nI k8)), (13, .int (nI k6)), (12, .int (nI k4)), (11, .int (nI (lg_sTo S (15 * N 5)))), (0, .ref (q 0)), (1, .int w0), (2, .int (nI i)), (3, .ref (a 0)), (4, .ref (a 1)), (5, .ref (a 2)), (6, .ref (a 3)), (7, .ref (a 4)), (8, .ref (a 5))]) G.1 G.2.1 dL_asks_703 hl (by decide) rfl (fun ls hl => ?_)
                      refine lv_iload G.1 G.2.1 dL_asks_705 (lv_at hl 1 rfl) ?_
                      refine gn_eqz G (by omega) (tgt := 791) dL_asks_707 (by decide) (fun h => absurd h (by omega)) (fun h_707 => ?_)
                      refine lv_iload_n G.1 G.2.1 dL_asks_710 rfl (lv_at hl 11 rfl) ?_
                      refine lv_bipush (v := nI 9) G.1 G.2.1 dL_asks_711 (by decide) ?_
                      refine gn_irem G dL_asks_713 (by omega) (by omega) (by omega) ?_
                      refine gn_nez G (by omega) (tgt := 787) dL_asks_714 (by decide) (fun h_714 => ?_) (fun h_714 => ?_)
                      · refine lv_iconst (v := nI 1) G.1 G.2.1 dL_asks_787 (by decide) ?_
                        refine lv_goto (tgt := 792) G.1 G.2.1 dL_asks_788 (by decide) ?_
                        refine W.widen (k := 64) (n := 400) (show 56 + 1 ≤ 64 by omega) (show 336 + 6 ≤ 400 by omega) ?_
                        exact W.zret G.1 G.2.1 G.2.2.1 rfl (fun t ht hW => ⟨nI 1, N, S, _, rfl, ⟨rfl, rfl, rfl⟩, by rw [ht]; exact hZ.1, hS.F ht⟩) hS.2.2 dL_asks_792 G.2.2.2.2.2.2
                      · by_cases hone : k12 < N 5
                        · refine lv_aload_n G.1 G.2.1 dL_asks_717 rfl (lv_at hl 9 rfl) ?_
                          refine lv_iconst (v := nI 2) G.1 G.2.1 dL_asks_718 (by decide) ?_
                          refine lv_iload G.1 G.2.1 dL_asks_719 (lv_at hl 0 rfl) ?_
                          refine gz_wrap (As := [.ref (q 0), .int (nI 2), .int (nI k12)]) (rest := []) G.fix (mL_chains_gap l hst D q cI N S tr _ hok hinv ((nI k12))) (vx_cwSW 3 G.2.2.2.2.2.1 gL_asks_L_chains rfl rfl rfl (by decide +kernel) ⟨Nat.le_of_ble_eq_true rfl, Nat.le_of_ble_eq_true rfl⟩) hZ hA hS rfl hl.1 rfl (Nat.le_of_ble_eq_true rfl) dL_asks_721 (show 56 + 1 + 1 ≤ 64 by omega) (show 336 + 6 + 6 ≤ 400 by omega) (fun r Nx Sx tr H locs hp hZ hS => ?_)
                          obtain ⟨rfl, eN, eS⟩ := hp
                          have hk_721 : sj_gap N S ((nI k12)) = 0 := gk_ttt (by simp only [sA_gap, Bool.and_eq_true, decide_eq_true_eq, gb_nI (show k12 < 2 ^ 31 by omega), gn_nI (show k12 < 2 ^ 31 by omega)] <;> omega) rfl rfl
                          rw [hk_721] at eN eS
                          have eN : Nx = sN_gap N S ((nI k12)) := eN
                          have eS : Sx = sS_gap N S ((nI k12)) := eS
                          rw [eN, eS] at hZ
                          rw [hk_721, gRes_0]
                          have hR_721 : sR_gap N S ((nI k12)) = sp_gap S k12 := by simp only [sR_gap, gn_nI (show k12 < 2 ^ 31 by omega)]
                          rw [hR_721]
                          have hZ : zAt D q a cI N S tr N S A s H := hZ
                          refine lv_iload G.1 G.2.1 dL_asks_724 (lv_at hl 0 rfl) ?_
                          refine lv_aload_n G.1 G.2.1 dL_asks_726 rfl (lv_at hl 12 rfl) ?_
                          refine lv_iconst (v := nI 1) G.1 G.2.1 dL_asks_727 (by decide) ?_
                          refine gl_ald (k := 0) (len := 11) (F := fC N S) G hZ.r rfl (by omega) (by decide) dL_asks_728 ?_
                          rw [fC_1]
                          refine gn_ne G (by omega) (by omega) (tgt := 737) dL_asks_729 (by decide) (fun h_729 => ?_) (fun h => absurd h (by omega))
                          refine lv_aload_n G.1 G.2.1 dL_asks_737 rfl (lv_at hl 12 rfl) ?_
                          refine lv_aload G.1 G.2.1 dL_asks_738 (lv_at hl 13 rfl) ?_
                          refine lv_aload G.1 G.2.1 dL_asks_740 (lv_at hl 14 rfl) ?_
                          refine lv_aload G.1 G.2.1 dL_asks_742 (lv_at hl 15 rfl) ?_
                          refine lv_iload G.1 G.2.1 dL_asks_744 (lv_at hl 0 rfl) ?_
                          refine gz_grow (As := [.ref (a 0), .ref (a 1), .ref (a 2), .ref (a 3), .int (nI k12)]) (rest := [.int (nI (sp_gap S k12))]) (mc := 1) (ms := 5) G.fix (mL_gap l D a cI N S hok h6 k12 (by omega)) (va_cwS 5 G.2.2.2.2.2.1 gL_asks_L_gap rfl rfl rfl (by decide +kernel) ⟨Nat.le_of_ble_eq_true rfl, Nat.le_of_ble_eq_true rfl⟩) hZ hS rfl hl.1 rfl (Nat.le_of_ble_eq_true rfl) dL_asks_746 (show 56 + 1 + 1 + 1 ≤ 64 by omega) (show 336 + 6 + 6 + 5 ≤ 400 by omega) (fun r H locs hr hZ hS => ?_)
                          subst hr
                          have hv_746 : sp_gap S k12 ≤ 255 := sp_gapTo_le (ch := k12) hok 768
                          refine gn_ne G (by omega) (by omega) (tgt := 791) dL_asks_749 (by decide) (fun h => absurd rfl h) (fun h_749 => ?_)
                          refine lv_aload_n G.1 G.2.1 dL_asks_752 rfl (lv_at hl 9 rfl) ?_
                          refine lv_iconst (v := nI 3) G.1 G.2.1 dL_asks_753 (by decide) ?_
                          refine lv_iload G.1 G.2.1 dL_asks_754 (lv_at hl 0 rfl) ?_
                          refine gz_wrap (As := [.ref (q 0), .int (nI 3), .int (nI k12)]) (rest := []) G.fix (mL_chains_greyGap l hst D q cI N S tr _ hok hinv ((nI k12))) (vx_cwSW 3 G.2.2.2.2.2.1 gL_asks_L_chains rfl rfl rfl (by decide +kernel) ⟨Nat.le_of_ble_eq_true rfl, Nat.le_of_ble_eq_true rfl⟩) hZ hA hS rfl hl.1 rfl (Nat.le_of_ble_eq_true rfl) dL_asks_756 (show 56 + 1 + 1 + 1 + 1 ≤ 64 by omega) (show 336 + 6 + 6 + 5 + 6 ≤ 400 by omega) (fun r Nx Sx tr H locs hp hZ hS => ?_)
                          obtain ⟨rfl, eN, eS⟩ := hp
                          have hk_756 : sj_greyGap N S ((nI k12)) = 0 := gk_ttt (by simp only [sA_greyGap, Bool.and_eq_true, decide_eq_true_eq, gb_nI (show k12 < 2 ^ 31 by omega), gn_nI (show k12 < 2 ^ 31 by omega)] <;> omega) rfl rfl
                          rw [hk_756] at eN eS
                          have eN : Nx = sN_greyGap N S ((nI k12)) := eN
                          have eS : Sx = sS_greyGap N S ((nI k12)) := eS
                          rw [eN, eS] at hZ
                          rw [hk_756, gRes_0]
                          have hR_756 : sR_greyGap N S ((nI k12)) = sp_grey S k12 := by simp only [sR_greyGap, gn_nI (show k12 < 2 ^ 31 by omega)]
                          rw [hR_756]
                          have hZ : zAt D q a cI N S tr N S A s H := hZ
                          refine lv_iload G.1 G.2.1 dL_asks_759 (lv_at hl 0 rfl) ?_
                          refine lv_aload_n G.1 G.2.1 dL_asks_761 rfl (lv_at hl 12 rfl) ?_
                          refine lv_iconst (v := nI 1) G.1 G.2.1 dL_asks_762 (by decide) ?_
                          refine gl_ald (k := 0) (len := 11) (F := fC N S) G hZ.r rfl (by omega) (by decide) dL_asks_763 ?_
                          rw [fC_1]
                          refine gn_ne G (by omega) (by omega) (tgt := 772) dL_asks_764 (by decide) (fun h_764 => ?_) (fun h => absurd h (by omega))
                          refine lv_aload_n G.1 G.2.1 dL_asks_772 rfl (lv_at hl 12 rfl) ?_
                          refine lv_aload G.1 G.2.1 dL_asks_773 (lv_at hl 13 rfl) ?_
                          refine lv_aload G.1 G.2.1 dL_asks_775 (lv_at hl 14 rfl) ?_
                          refine lv_aload G.1 G.2.1 dL_asks_777 (lv_at hl 15 rfl) ?_
                          refine lv_iload G.1 G.2.1 dL_asks_779 (lv_at hl 0 rfl) ?_
                          refine gc_s (As := [.ref (a 0), .ref (a 1), .ref (a 2), .ref (a 3), .int (nI k12)]) (rest := [.int (nI (sp_grey S k12))]) G.fix (mL_greys l D a cI N S hok h6 k12 (by omega)) (va_cwS 5 G.2.2.2.2.2.1 gL_asks_L_greys rfl rfl rfl (by decide +kernel) ⟨Nat.le_of_ble_eq_true rfl, Nat.le_of_ble_eq_true rfl⟩) lrAt_blind (fun U hU hW => by rw [hU]; exact hZ.r.moved hW) rfl hl.1 rfl (Nat.le_of_ble_eq_true rfl) dL_asks_781 (show 56 + 1 + 1 + 1 + 1 ≤ 64 by omega) (show 336 + 6 + 6 + 5 + 6 ≤ 400 by omega) (fun r hr => ?_)
                          subst hr
                          have hv_781 : sp_grey S k12 ≤ 255 := sp_greyTo_le (ch := k12) hok 256 (Nat.le_refl _)
                          refine gn_ne G (by omega) (by omega) (tgt := 791) dL_asks_784 (by decide) (fun h => absurd rfl h) (fun h_784 => ?_)
                          refine lv_iconst (v := nI 1) G.1 G.2.1 dL_asks_787 (by decide) ?_
                          refine lv_goto (tgt := 792) G.1 G.2.1 dL_asks_788 (by decide) ?_
                          refine W.widen (k := 64) (n := 400) (show 56 + 1 + 1 + 1 + 1 ≤ 64 by omega) (show 336 + 6 + 6 + 5 + 6 ≤ 400 by omega) ?_
                          exact W.zret G.1 G.2.1 G.2.2.1 rfl (fun t ht hW => ⟨nI 1, N, S, _, rfl, ⟨rfl, rfl, rfl⟩, by rw [ht]; exact hZ.1, hS.F ht⟩) hS.2.2 dL_asks_792 G.2.2.2.2.2.2
                        · refine lv_aload_n G.1 G.2.1 dL_asks_717 rfl (lv_at hl 9 rfl) ?_
                          refine lv_iconst (v := nI 2) G.1 G.2.1 dL_asks_718 (by decide) ?_
                          refine lv_iload G.1 G.2.1 dL_asks_719 (lv_at hl 0 rfl) ?_
                          refine gz_wrap (As := [.ref (q 0), .int (nI 2), .int (nI k12)]) (rest := []) G.fix (mL_chains_gap l hst D q cI N S tr _ hok hinv ((nI k12))) (vx_cwSW 3 G.2.2.2.2.2.1 gL_asks_L_chains rfl rfl rfl (by decide +kernel) ⟨Nat.le_of_ble_eq_true rfl, Nat.le_of_ble_eq_true rfl⟩) hZ hA hS rfl hl.1 rfl (Nat.le_of_ble_eq_true rfl) dL_asks_721 (show 56 + 1 + 1 ≤ 64 by omega) (show 336 + 6 + 6 ≤ 400 by omega) (fun r Nx Sx tr H locs hp hZ hS => ?_)
                          obtain ⟨rfl, eN, eS⟩ := hp
                          have hk_721 : sj_gap N S ((nI k12)) = 1 := gk_f (by apply Bool.eq_false_iff.mpr; intro h; simp only [sA_gap, Bool.and_eq_true, decide_eq_true_eq, gb_nI (show k12 < 2 ^ 31 by omega), gn_nI (show k12 < 2 ^ 31 by omega)] at h <;> omega)
                          rw [hk_721] at eN eS
                          have eN : Nx = N := eN
                          have eS : Sx = S := eS
                          rw [eN, eS] at hZ
                          rw [hk_721, gRes_1]
                          refine lv_iload G.1 G.2.1 dL_asks_724 (lv_at hl 0 rfl) ?_
                          refine lv_aload_n G.1 G.2.1 dL_asks_726 rfl (lv_at hl 12 rfl) ?_
                          refine lv_iconst (v := nI 1) G.1 G.2.1 dL_asks_727 (by decide) ?_
                          refine gl_ald (k := 0) (len := 11) (F := fC N S) G hZ.r rfl (by omega) (by decide) dL_asks_728 ?_
                          rw [fC_1]
                          refine gn_ne G (by omega) (by omega) (tgt := 737) dL_asks_729 (by decide) (fun h => absurd h (by omega)) (fun h_729 => ?_)
                          refine lv_bipush (v := -101) G.1 G.2.1 dL_asks_732 (by decide) ?_
                          refine lv_goto (tgt := 749) G.1 G.2.1 dL_asks_734 (by decide) ?_
                          refine lv_icmp_ne (tgt := 791) G.1 G.2.1 dL_asks_749 (by decide) (fun h => absurd rfl h) (fun h_749 => ?_)
                          refine lv_aload_n G.1 G.2.1 dL_asks_752 rfl (lv_at hl 9 rfl) ?_
                          refine lv_iconst (v := nI 3) G.1 G.2.1 dL_asks_753 (by decide) ?_
                          refine lv_iload G.1 G.2.1 dL_asks_754 (lv_at hl 0 rfl) ?_
                          refine gz_wrap (As := [.ref (q 0), .int (nI 3), .int (nI k12)]) (rest := []) G.fix (mL_chains_greyGap l hst D q cI N S tr _ hok hinv ((nI k12))) (vx_cwSW 3 G.2.2.2.2.2.1 gL_asks_L_chains rfl rfl rfl (by decide +kernel) ⟨Nat.le_of_ble_eq_true rfl, Nat.le_of_ble_eq_true rfl⟩) hZ hA hS rfl hl.1 rfl (Nat.le_of_ble_eq_true rfl) dL_asks_756 (show 56 + 1 + 1 + 1 ≤ 64 by omega) (show 336 + 6 + 6 + 6 ≤ 400 by omega) (fun r Nx Sx tr H locs hp hZ hS => ?_)
                          obtain ⟨rfl, eN, eS⟩ := hp
                          have hk_756 : sj_greyGap N S ((nI k12)) = 1 := gk_f (by apply Bool.eq_false_iff.mpr; intro h; simp only [sA_greyGap, Bool.and_eq_true, decide_eq_true_eq, gb_nI (show k12 < 2 ^ 31 by omega), gn_nI (show k12 < 2 ^ 31 by omega)] at h <;> omega)
                          rw [hk_756] at eN eS
                          have eN : Nx = N := eN
                          have eS : Sx = S := eS
                          rw [eN, eS] at hZ
                          rw [hk_756, gRes_1]
                          refine lv_iload G.1 G.2.1 dL_asks_759 (lv_at hl 0 rfl) ?_
                          refine lv_aload_n G.1 G.2.1 dL_asks_761 rfl (lv_at hl 12 rfl) ?_
                          refine lv_iconst (v := nI 1) G.1 G.2.1 dL_asks_762 (by decide) ?_
                          refine gl_ald (k := 0) (len := 11) (F := fC N S) G hZ.r rfl (by omega) (by decide) dL_asks_763 ?_
                          rw [fC_1]
                          refine gn_ne G (by omega) (by omega) (tgt := 772) dL_asks_764 (by decide) (fun h => absurd h (by omega)) (fun h_764 => ?_)
                          refine lv_bipush (v := -101) G.1 G.2.1 dL_asks_767 (by decide) ?_
                          refine lv_goto (tgt := 784) G.1 G.2.1 dL_asks_769 (by decide) ?_
                          refine lv_icmp_ne (tgt := 791) G.1 G.2.1 dL_asks_784 (by decide) (fun h => absurd rfl h) (fun h_784 => ?_)
                          refine lv_iconst (v := nI 1) G.1 G.2.1 dL_asks_787 (by decide) ?_
                          refine lv_goto (tgt := 792) G.1 G.2.1 dL_asks_788 (by decide) ?_
                          refine W.widen (k := 64) (n := 400) (show 56 + 1 + 1 + 1 ≤ 64 by omega) (show 336 + 6 + 6 + 6 ≤ 400 by omega) ?_
                          exact W.zret G.1 G.2.1 G.2.2.1 rfl (fun t ht hW => ⟨nI 1, N, S, _, rfl, ⟨rfl, rfl, rfl⟩, by rw [ht]; exact hZ.1, hS.F ht⟩) hS.2.2 dL_asks_792 G.2.2.2.2.2.2
                    · refine lv_aload_n G.1 G.2.1 dL_asks_631 rfl (lv_at hl 9 rfl) ?_
                      refine lv_iload G.1 G.2.1 dL_asks_632 (lv_at hl 7 rfl) ?_
                      refine lv_iload G.1 G.2.1 dL_asks_634 (lv_at hl 6 rfl) ?_
                      refine lv_iload G.1 G.2.1 dL_asks_636 (lv_at hl 5 rfl) ?_
                      refine lv_iload G.1 G.2.1 dL_asks_638 (lv_at hl 4 rfl) ?_
                      refine gz_wrap (As := [.ref (q 0), .int (nI k4), .int (nI k6), .int (nI k8), .int (nI k10)]) (rest := []) G.fix (mL_shows l hst D q cI N S tr _ hok hinv ((nI k4)) ((nI k6)) ((nI k8)) ((nI k10))) (vx_cwSW 5 G.2.2.2.2.2.1 gL_asks_L_shows rfl rfl rfl (by decide +kernel) ⟨Nat.le_of_ble_eq_true rfl, Nat.le_of_ble_eq_true rfl⟩) hZ hA hS rfl hl.1 rfl (Nat.le_of_ble_eq_true rfl) dL_asks_640 (show 56 + 1 ≤ 64 by omega) (show 336 + 6 ≤ 400 by omega) (fun r Nx Sx tr H locs hp hZ hS => ?_)
                      obtain ⟨rfl, eN, eS⟩ := hp
                      have hk_640 : sj_shown N S ((nI k4)) ((nI k6)) ((nI k8)) ((nI k10)) = 2 := gk_tf (by simp only [sA_shown, Bool.and_eq_true, decide_eq_true_eq, gb_nI (show k4 < 2 ^ 31 by omega), gn_nI (show k4 < 2 ^ 31 by omega), gb_nI (show k6 < 2 ^ 31 by omega), gn_nI (show k6 < 2 ^ 31 by omega), gb_nI (show k8 < 2 ^ 31 by omega), gn_nI (show k8 < 2 ^ 31 by omega), gb_nI (show k10 < 2 ^ 31 by omega), gn_nI (show k10 < 2 ^ 31 by omega)] <;> omega) (by apply Bool.eq_false_iff.mpr; intro h; simp only [sB_shown, Bool.and_eq_true, decide_eq_true_eq, gb_nI (show k4 < 2 ^ 31 by omega), gn_nI (show k4 < 2 ^ 31 by omega), gb_nI (show k6 < 2 ^ 31 by omega), gn_nI (show k6 < 2 ^ 31 by omega), gb_nI (show k8 < 2 ^ 31 by omega), gn_nI (show k8 < 2 ^ 31 by omega), gb_nI (show k10 < 2 ^ 31 by omega), gn_nI (show k10 < 2 ^ 31 by omega)] at h <;> omega)
                      rw [hk_640] at eN eS
                      have eN : Nx = N := eN
                      have eS : Sx = S := eS
                      rw [eN, eS] at hZ
                      rw [hk_640, gRes_2]
                      refine lv_iload G.1 G.2.1 dL_asks_643 (lv_at hl 3 rfl) ?_
                      refine gn_nez G (by omega) (tgt := 653) dL_asks_645 (by decide) (fun h_645 => ?_) (fun h => absurd h (by omega))
                      refine lv_iload G.1 G.2.1 dL_asks_653 (lv_at hl 4 rfl) ?_
                      refine lv_bipush (v := nI 7) G.1 G.2.1 dL_asks_655 (by decide) ?_
                      refine gn_le G (by omega) (by omega) (tgt := 665) dL_asks_657 (by decide) (fun h => absurd h (by omega)) (fun h_657 => ?_)
                      refine lv_bipush (v := -102) G.1 G.2.1 dL_asks_660 (by decide) ?_
                      refine lv_goto (tgt := 681) G.1 G.2.1 dL_asks_662 (by decide) ?_
                      refine lv_icmp_ne (tgt := 688) G.1 G.2.1 dL_asks_681 (by decide) (fun h => absurd rfl h) (fun h_681 => ?_)
                      refine lv_iconst (v := nI 1) G.1 G.2.1 dL_asks_684 (by decide) ?_
                      refine lv_goto (tgt := 689) G.1 G.2.1 dL_asks_685 (by decide) ?_
                      refine lv_istore (lv' := [(18, .int (nI 1)), (17, .int (nI (sp_ink S k6 k8 k10))), (19, .int (nI ((S 14 (2 * 3 + k8)) * (S 13 (k6 * 3 + 2))))), (16, .int (nI 1)), (15, .int (nI k10)), (14, .int (nI k8)), (13, .int (nI k6)), (12, .int (nI k4)), (11, .int (nI (lg_sTo S (15 * N 5)))), (0, .ref (q 0)), (1, .int w0), (2, .int (nI i)), (3, .ref (a 0)), (4, .ref (a 1)), (5, .ref (a 2)), (6, .ref (a 3)), (7, .ref (a 4)), (8, .ref (a 5))]) G.1 G.2.1 dL_asks_689 hl (by decide) rfl (fun ls hl => ?_)
                      refine lv_iload_n G.1 G.2.1 dL_asks_691 rfl (lv_at hl 10 rfl) ?_
                      refine lv_bipush (v := nI 8) G.1 G.2.1 dL_asks_692 (by decide) ?_
                      refine lv_ishr G.1 G.2.1 dL_asks_694 ?_
                      refine lv_topi (fun y13 hy13 => ?_)
                      refine lv_aload_n G.1 G.2.1 dL_asks_695 rfl (lv_at hl 12 rfl) ?_
                      refine lv_iconst (v := nI 1) G.1 G.2.1 dL_asks_696 (by decide) ?_
                      refine gl_ald (k := 0) (len := 11) (F := fC N S) G hZ.r rfl (by omega) (by decide) dL_asks_697 ?_
                      rw [fC_1]
                      refine lv_iconst (v := nI 1) G.1 G.2.1 dL_asks_698 (by decide) ?_
                      refine gn_iadd G dL_asks_699 ?_
                      refine gc_s (As := [.int y13, .int (nI ((N 5) + 1))]) (rest := []) G.fix (mL_some l y13 ((N 5) + 1) (by omega) (by omega)) (va_cwS 2 G.2.2.2.2.2.1 gL_asks_L_some rfl rfl rfl (by decide +kernel) ⟨Nat.le_of_ble_eq_true rfl, Nat.le_of_ble_eq_true rfl⟩) gc_blindT (fun _ _ _ => trivial) rfl hl.1 rfl (Nat.le_of_ble_eq_true rfl) dL_asks_700 (show 56 + 1 ≤ 64 by omega) (show 336 + 6 ≤ 400 by omega) (fun r hr => ?_)
                      obtain ⟨k14, hk14, rfl⟩ := hr
                      refine lv_istore (lv' := [(19, .int (nI k14)), (18, .int (nI 1)), (17, .int (nI (sp_ink S k6 k8 k10))), (16, .int (nI 1)), (15, .int (nI k10)), (14, .int (nI k8)), (13, .int (nI k6)), (12, .int (nI k4)), (11, .int (nI (lg_sTo S (15 * N 5)))), (0, .ref (q 0)), (1, .int w0), (2, .int (nI i)), (3, .ref (a 0)), (4, .ref (a 1)), (5, .ref (a 2)), (6, .ref (a 3)), (7, .ref (a 4)), (8, .ref (a 5))]) G.1 G.2.1 dL_asks_703 hl (by decide) rfl (fun ls hl => ?_)
                      refine lv_iload G.1 G.2.1 dL_asks_705 (lv_at hl 1 rfl) ?_
                      refine gn_eqz G (by omega) (tgt := 791) dL_asks_707 (by decide) (fun h => absurd h (by omega)) (fun h_707 => ?_)
                      refine lv_iload_n G.1 G.2.1 dL_asks_710 rfl (lv_at hl 11 rfl) ?_
                      refine lv_bipush (v := nI 9) G.1 G.2.1 dL_asks_711 (by decide) ?_
                      refine gn_irem G dL_asks_713 (by omega) (by omega) (by omega) ?_
                      refine gn_nez G (by omega) (tgt := 787) dL_asks_714 (by decide) (fun h_714 => ?_) (fun h_714 => ?_)
                      · refine lv_iconst (v := nI 1) G.1 G.2.1 dL_asks_787 (by decide) ?_
                        refine lv_goto (tgt := 792) G.1 G.2.1 dL_asks_788 (by decide) ?_
                        refine W.widen (k := 64) (n := 400) (show 56 + 1 ≤ 64 by omega) (show 336 + 6 ≤ 400 by omega) ?_
                        exact W.zret G.1 G.2.1 G.2.2.1 rfl (fun t ht hW => ⟨nI 1, N, S, _, rfl, ⟨rfl, rfl, rfl⟩, by rw [ht]; exact hZ.1, hS.F ht⟩) hS.2.2 dL_asks_792 G.2.2.2.2.2.2
                      · by_cases hone : k14 < N 5
                        · refine lv_aload_n G.1 G.2.1 dL_asks_717 rfl (lv_at hl 9 rfl) ?_
                          refine lv_iconst (v := nI 2) G.1 G.2.1 dL_asks_718 (by decide) ?_
                          refine lv_iload G.1 G.2.1 dL_asks_719 (lv_at hl 0 rfl) ?_
                          refine gz_wrap (As := [.ref (q 0), .int (nI 2), .int (nI k14)]) (rest := []) G.fix (mL_chains_gap l hst D q cI N S tr _ hok hinv ((nI k14))) (vx_cwSW 3 G.2.2.2.2.2.1 gL_asks_L_chains rfl rfl rfl (by decide +kernel) ⟨Nat.le_of_ble_eq_true rfl, Nat.le_of_ble_eq_true rfl⟩) hZ hA hS rfl hl.1 rfl (Nat.le_of_ble_eq_true rfl) dL_asks_721 (show 56 + 1 + 1 ≤ 64 by omega) (show 336 + 6 + 6 ≤ 400 by omega) (fun r Nx Sx tr H locs hp hZ hS => ?_)
                          obtain ⟨rfl, eN, eS⟩ := hp
                          have hk_721 : sj_gap N S ((nI k14)) = 0 := gk_ttt (by simp only [sA_gap, Bool.and_eq_true, decide_eq_true_eq, gb_nI (show k14 < 2 ^ 31 by omega), gn_nI (show k14 < 2 ^ 31 by omega)] <;> omega) rfl rfl
                          rw [hk_721] at eN eS
                          have eN : Nx = sN_gap N S ((nI k14)) := eN
                          have eS : Sx = sS_gap N S ((nI k14)) := eS
                          rw [eN, eS] at hZ
                          rw [hk_721, gRes_0]
                          have hR_721 : sR_gap N S ((nI k14)) = sp_gap S k14 := by simp only [sR_gap, gn_nI (show k14 < 2 ^ 31 by omega)]
                          rw [hR_721]
                          have hZ : zAt D q a cI N S tr N S A s H := hZ
                          refine lv_iload G.1 G.2.1 dL_asks_724 (lv_at hl 0 rfl) ?_
                          refine lv_aload_n G.1 G.2.1 dL_asks_726 rfl (lv_at hl 12 rfl) ?_
                          refine lv_iconst (v := nI 1) G.1 G.2.1 dL_asks_727 (by decide) ?_
                          refine gl_ald (k := 0) (len := 11) (F := fC N S) G hZ.r rfl (by omega) (by decide) dL_asks_728 ?_
                          rw [fC_1]
                          refine gn_ne G (by omega) (by omega) (tgt := 737) dL_asks_729 (by decide) (fun h_729 => ?_) (fun h => absurd h (by omega))
                          refine lv_aload_n G.1 G.2.1 dL_asks_737 rfl (lv_at hl 12 rfl) ?_
                          refine lv_aload G.1 G.2.1 dL_asks_738 (lv_at hl 13 rfl) ?_
                          refine lv_aload G.1 G.2.1 dL_asks_740 (lv_at hl 14 rfl) ?_
                          refine lv_aload G.1 G.2.1 dL_asks_742 (lv_at hl 15 rfl) ?_
                          refine lv_iload G.1 G.2.1 dL_asks_744 (lv_at hl 0 rfl) ?_
                          refine gz_grow (As := [.ref (a 0), .ref (a 1), .ref (a 2), .ref (a 3), .int (nI k14)]) (rest := [.int (nI (sp_gap S k14))]) (mc := 1) (ms := 5) G.fix (mL_gap l D a cI N S hok h6 k14 (by omega)) (va_cwS 5 G.2.2.2.2.2.1 gL_asks_L_gap rfl rfl rfl (by decide +kernel) ⟨Nat.le_of_ble_eq_true rfl, Nat.le_of_ble_eq_true rfl⟩) hZ hS rfl hl.1 rfl (Nat.le_of_ble_eq_true rfl) dL_asks_746 (show 56 + 1 + 1 + 1 ≤ 64 by omega) (show 336 + 6 + 6 + 5 ≤ 400 by omega) (fun r H locs hr hZ hS => ?_)
                          subst hr
                          have hv_746 : sp_gap S k14 ≤ 255 := sp_gapTo_le (ch := k14) hok 768
                          refine gn_ne G (by omega) (by omega) (tgt := 791) dL_asks_749 (by decide) (fun h => absurd rfl h) (fun h_749 => ?_)
                          refine lv_aload_n G.1 G.2.1 dL_asks_752 rfl (lv_at hl 9 rfl) ?_
                          refine lv_iconst (v := nI 3) G.1 G.2.1 dL_asks_753 (by decide) ?_
                          refine lv_iload G.1 G.2.1 dL_asks_754 (lv_at hl 0 rfl) ?_
                          refine gz_wrap (As := [.ref (q 0), .int (nI 3), .int (nI k14)]) (rest := []) G.fix (mL_chains_greyGap l hst D q cI N S tr _ hok hinv ((nI k14))) (vx_cwSW 3 G.2.2.2.2.2.1 gL_asks_L_chains rfl rfl rfl (by decide +kernel) ⟨Nat.le_of_ble_eq_true rfl, Nat.le_of_ble_eq_true rfl⟩) hZ hA hS rfl hl.1 rfl (Nat.le_of_ble_eq_true rfl) dL_asks_756 (show 56 + 1 + 1 + 1 + 1 ≤ 64 by omega) (show 336 + 6 + 6 + 5 + 6 ≤ 400 by omega) (fun r Nx Sx tr H locs hp hZ hS => ?_)
                          obtain ⟨rfl, eN, eS⟩ := hp
                          have hk_756 : sj_greyGap N S ((nI k14)) = 0 := gk_ttt (by simp only [sA_greyGap, Bool.and_eq_true, decide_eq_true_eq, gb_nI (show k14 < 2 ^ 31 by omega), gn_nI (show k14 < 2 ^ 31 by omega)] <;> omega) rfl rfl
                          rw [hk_756] at eN eS
                          have eN : Nx = sN_greyGap N S ((nI k14)) := eN
                          have eS : Sx = sS_greyGap N S ((nI k14)) := eS
                          rw [eN, eS] at hZ
                          rw [hk_756, gRes_0]
                          have hR_756 : sR_greyGap N S ((nI k14)) = sp_grey S k14 := by simp only [sR_greyGap, gn_nI (show k14 < 2 ^ 31 by omega)]
                          rw [hR_756]
                          have hZ : zAt D q a cI N S tr N S A s H := hZ
                          refine lv_iload G.1 G.2.1 dL_asks_759 (lv_at hl 0 rfl) ?_
                          refine lv_aload_n G.1 G.2.1 dL_asks_761 rfl (lv_at hl 12 rfl) ?_
                          refine lv_iconst (v := nI 1) G.1 G.2.1 dL_asks_762 (by decide) ?_
                          refine gl_ald (k := 0) (len := 11) (F := fC N S) G hZ.r rfl (by omega) (by decide) dL_asks_763 ?_
                          rw [fC_1]
                          refine gn_ne G (by omega) (by omega) (tgt := 772) dL_asks_764 (by decide) (fun h_764 => ?_) (fun h => absurd h (by omega))
                          refine lv_aload_n G.1 G.2.1 dL_asks_772 rfl (lv_at hl 12 rfl) ?_
                          refine lv_aload G.1 G.2.1 dL_asks_773 (lv_at hl 13 rfl) ?_
                          refine lv_aload G.1 G.2.1 dL_asks_775 (lv_at hl 14 rfl) ?_
                          refine lv_aload G.1 G.2.1 dL_asks_777 (lv_at hl 15 rfl) ?_
                          refine lv_iload G.1 G.2.1 dL_asks_779 (lv_at hl 0 rfl) ?_
                          refine gc_s (As := [.ref (a 0), .ref (a 1), .ref (a 2), .ref (a 3), .int (nI k14)]) (rest := [.int (nI (sp_grey S k14))]) G.fix (mL_greys l D a cI N S hok h6 k14 (by omega)) (va_cwS 5 G.2.2.2.2.2.1 gL_asks_L_greys rfl rfl rfl (by decide +kernel) ⟨Nat.le_of_ble_eq_true rfl, Nat.le_of_ble_eq_true rfl⟩) lrAt_blind (fun U hU hW => by rw [hU]; exact hZ.r.moved hW) rfl hl.1 rfl (Nat.le_of_ble_eq_true rfl) dL_asks_781 (show 56 + 1 + 1 + 1 + 1 ≤ 64 by omega) (show 336 + 6 + 6 + 5 + 6 ≤ 400 by omega) (fun r hr => ?_)
                          subst hr
                          have hv_781 : sp_grey S k14 ≤ 255 := sp_greyTo_le (ch := k14) hok 256 (Nat.le_refl _)
                          refine gn_ne G (by omega) (by omega) (tgt := 791) dL_asks_784 (by decide) (fun h => absurd rfl h) (fun h_784 => ?_)
                          refine lv_iconst (v := nI 1) G.1 G.2.1 dL_asks_787 (by decide) ?_
                          refine lv_goto (tgt := 792) G.1 G.2.1 dL_asks_788 (by decide) ?_
                          refine W.widen (k := 64) (n := 400) (show 56 + 1 + 1 + 1 + 1 ≤ 64 by omega) (show 336 + 6 + 6 + 5 + 6 ≤ 400 by omega) ?_
                          exact W.zret G.1 G.2.1 G.2.2.1 rfl (fun t ht hW => ⟨nI 1, N, S, _, rfl, ⟨rfl, rfl, rfl⟩, by rw [ht]; exact hZ.1, hS.F ht⟩) hS.2.2 dL_asks_792 G.2.2.2.2.2.2
                        · refine lv_aload_n G.1 G.2.1 dL_asks_717 rfl (lv_at hl 9 rfl) ?_
                          refine lv_iconst (v := nI 2) G.1 G.2.1 dL_asks_718 (by decide) ?_
                          refine lv_iload G.1 G.2.1 dL_asks_719 (lv_at hl 0 rfl) ?_
                          refine gz_wrap (As := [.ref (q 0), .int (nI 2), .int (nI k14)]) (rest := []) G.fix (mL_chains_gap l hst D q cI N S tr _ hok hinv ((nI k14))) (vx_cwSW 3 G.2.2.2.2.2.1 gL_asks_L_chains rfl rfl rfl (by decide +kernel) ⟨Nat.le_of_ble_eq_true rfl, Nat.le_of_ble_eq_true rfl⟩) hZ hA hS rfl hl.1 rfl (Nat.le_of_ble_eq_true rfl) dL_asks_721 (show 56 + 1 + 1 ≤ 64 by omega) (show 336 + 6 + 6 ≤ 400 by omega) (fun r Nx Sx tr H locs hp hZ hS => ?_)
                          obtain ⟨rfl, eN, eS⟩ := hp
                          have hk_721 : sj_gap N S ((nI k14)) = 1 := gk_f (by apply Bool.eq_false_iff.mpr; intro h; simp only [sA_gap, Bool.and_eq_true, decide_eq_true_eq, gb_nI (show k14 < 2 ^ 31 by omega), gn_nI (show k14 < 2 ^ 31 by omega)] at h <;> omega)
                          rw [hk_721] at eN eS
                          have eN : Nx = N := eN
                          have eS : Sx = S := eS
                          rw [eN, eS] at hZ
                          rw [hk_721, gRes_1]
                          refine lv_iload G.1 G.2.1 dL_asks_724 (lv_at hl 0 rfl) ?_
                          refine lv_aload_n G.1 G.2.1 dL_asks_726 rfl (lv_at hl 12 rfl) ?_
                          refine lv_iconst (v := nI 1) G.1 G.2.1 dL_asks_727 (by decide) ?_
                          refine gl_ald (k := 0) (len := 11) (F := fC N S) G hZ.r rfl (by omega) (by decide) dL_asks_728 ?_
                          rw [fC_1]
                          refine gn_ne G (by omega) (by omega) (tgt := 737) dL_asks_729 (by decide) (fun h => absurd h (by omega)) (fun h_729 => ?_)
                          refine lv_bipush (v := -101) G.1 G.2.1 dL_asks_732 (by decide) ?_
                          refine lv_goto (tgt := 749) G.1 G.2.1 dL_asks_734 (by decide) ?_
                          refine lv_icmp_ne (tgt := 791) G.1 G.2.1 dL_asks_749 (by decide) (fun h => absurd rfl h) (fun h_749 => ?_)
                          refine lv_aload_n G.1 G.2.1 dL_asks_752 rfl (lv_at hl 9 rfl) ?_
                          refine lv_iconst (v := nI 3) G.1 G.2.1 dL_asks_753 (by decide) ?_
                          refine lv_iload G.1 G.2.1 dL_asks_754 (lv_at hl 0 rfl) ?_
                          refine gz_wrap (As := [.ref (q 0), .int (nI 3), .int (nI k14)]) (rest := []) G.fix (mL_chains_greyGap l hst D q cI N S tr _ hok hinv ((nI k14))) (vx_cwSW 3 G.2.2.2.2.2.1 gL_asks_L_chains rfl rfl rfl (by decide +kernel) ⟨Nat.le_of_ble_eq_true rfl, Nat.le_of_ble_eq_true rfl⟩) hZ hA hS rfl hl.1 rfl (Nat.le_of_ble_eq_true rfl) dL_asks_756 (show 56 + 1 + 1 + 1 ≤ 64 by omega) (show 336 + 6 + 6 + 6 ≤ 400 by omega) (fun r Nx Sx tr H locs hp hZ hS => ?_)
                          obtain ⟨rfl, eN, eS⟩ := hp
                          have hk_756 : sj_greyGap N S ((nI k14)) = 1 := gk_f (by apply Bool.eq_false_iff.mpr; intro h; simp only [sA_greyGap, Bool.and_eq_true, decide_eq_true_eq, gb_nI (show k14 < 2 ^ 31 by omega), gn_nI (show k14 < 2 ^ 31 by omega)] at h <;> omega)
                          rw [hk_756] at eN eS
                          have eN : Nx = N := eN
                          have eS : Sx = S := eS
                          rw [eN, eS] at hZ
                          rw [hk_756, gRes_1]
                          refine lv_iload G.1 G.2.1 dL_asks_759 (lv_at hl 0 rfl) ?_
                          refine lv_aload_n G.1 G.2.1 dL_asks_761 rfl (lv_at hl 12 rfl) ?_
                          refine lv_iconst (v := nI 1) G.1 G.2.1 dL_asks_762 (by decide) ?_
                          refine gl_ald (k := 0) (len := 11) (F := fC N S) G hZ.r rfl (by omega) (by decide) dL_asks_763 ?_
                          rw [fC_1]
                          refine gn_ne G (by omega) (by omega) (tgt := 772) dL_asks_764 (by decide) (fun h => absurd h (by omega)) (fun h_764 => ?_)
                          refine lv_bipush (v := -101) G.1 G.2.1 dL_asks_767 (by decide) ?_
                          refine lv_goto (tgt := 784) G.1 G.2.1 dL_asks_769 (by decide) ?_
                          refine lv_icmp_ne (tgt := 791) G.1 G.2.1 dL_asks_784 (by decide) (fun h => absurd rfl h) (fun h_784 => ?_)
                          refine lv_iconst (v := nI 1) G.1 G.2.1 dL_asks_787 (by decide) ?_
                          refine lv_goto (tgt := 792) G.1 G.2.1 dL_asks_788 (by decide) ?_
                          refine W.widen (k := 64) (n := 400) (show 56 + 1 + 1 + 1 ≤ 64 by omega) (show 336 + 6 + 6 + 6 ≤ 400 by omega) ?_
                          exact W.zret G.1 G.2.1 G.2.2.1 rfl (fun t ht hW => ⟨nI 1, N, S, _, rfl, ⟨rfl, rfl, rfl⟩, by rw [ht]; exact hZ.1, hS.F ht⟩) hS.2.2 dL_asks_792 G.2.2.2.2.2.2
                  · refine lv_iload G.1 G.2.1 dL_asks_585 (lv_at hl 0 rfl) ?_
                    refine lv_sipush (v := nI 255) G.1 G.2.1 dL_asks_587 (by decide) ?_
                    refine gn_le G (by omega) (by omega) (tgt := 599) dL_asks_590 (by decide) (fun h_590 => ?_) (fun h_590 => ?_)
                    · refine lv_iload G.1 G.2.1 dL_asks_599 (lv_at hl 0 rfl) ?_
                      exact K_601 _ (congrArg nI (by rw [show sp_inkTo S k6 k8 k10 3 = _ from lg_ink hok]; omega))
                    · refine lv_sipush (v := nI 255) G.1 G.2.1 dL_asks_593 (by decide) ?_
                      refine lv_goto (tgt := 601) G.1 G.2.1 dL_asks_596 (by decide) ?_
                      exact K_601 _ (congrArg nI (by rw [show sp_inkTo S k6 k8 k10 3 = _ from lg_ink hok]; omega))
                · refine lv_iload G.1 G.2.1 dL_asks_554 (lv_at hl 4 rfl) ?_
                  refine lv_iload G.1 G.2.1 dL_asks_556 (lv_at hl 1 rfl) ?_
                  refine gn_ishr G dL_asks_558 (by omega) (by omega) ?_
                  refine lv_iconst (v := nI 1) G.1 G.2.1 dL_asks_559 (by decide) ?_
                  refine gn_iand1 G dL_asks_560 ?_
                  have hbit_560 := sp_bit_lt k10 2
                  refine lv_iconst (v := nI 1) G.1 G.2.1 dL_asks_561 (by decide) ?_
                  refine gn_ne G (by omega) (by omega) (tgt := 569) dL_asks_562 (by decide) (fun h_562 => ?_) (fun h_562 => ?_)
                  · refine lv_iload G.1 G.2.1 dL_asks_569 (lv_at hl 0 rfl) ?_
                    refine lv_iload G.1 G.2.1 dL_asks_571 (lv_at hl 0 rfl) ?_
                    refine lv_sipush (v := nI 255) G.1 G.2.1 dL_asks_573 (by decide) ?_
                    refine gn_irem G dL_asks_576 (by omega) (by omega) (by omega) ?_
                    refine gn_isub G dL_asks_577 (by omega) ?_
                    refine lv_sipush (v := nI 255) G.1 G.2.1 dL_asks_578 (by decide) ?_
                    refine gn_idiv G dL_asks_581 (by omega) (by omega) (by omega) ?_
                    exact K_582 _ (congrArg nI (by unfold lg_X; rw [if_neg h_562, lg_div _ _ (by decide)]))
                  · refine lv_iconst (v := nI 0) G.1 G.2.1 dL_asks_565 (by decide) ?_
                    refine lv_goto (tgt := 582) G.1 G.2.1 dL_asks_566 (by decide) ?_
                    exact K_582 _ (congrArg nI (by unfold lg_X; rw [if_pos h_562]))
              · refine lv_iload G.1 G.2.1 dL_asks_585 (lv_at hl 0 rfl) ?_
                refine lv_sipush (v := nI 255) G.1 G.2.1 dL_asks_587 (by decide) ?_
                refine gn_le G (by omega) (by omega) (tgt := 599) dL_asks_590 (by decide) (fun h_590 => ?_) (fun h_590 => ?_)
                · refine lv_iload G.1 G.2.1 dL_asks_599 (lv_at hl 0 rfl) ?_
                  exact K_601 _ (congrArg nI (by rw [show sp_inkTo S k6 k8 k10 2 = _ from lg_ink hok]; omega))
                · refine lv_sipush (v := nI 255) G.1 G.2.1 dL_asks_593 (by decide) ?_
                  refine lv_goto (tgt := 601) G.1 G.2.1 dL_asks_596 (by decide) ?_
                  exact K_601 _ (congrArg nI (by rw [show sp_inkTo S k6 k8 k10 2 = _ from lg_ink hok]; omega))
            · refine lv_iload G.1 G.2.1 dL_asks_554 (lv_at hl 4 rfl) ?_
              refine lv_iload G.1 G.2.1 dL_asks_556 (lv_at hl 1 rfl) ?_
              refine gn_ishr G dL_asks_558 (by omega) (by omega) ?_
              refine lv_iconst (v := nI 1) G.1 G.2.1 dL_asks_559 (by decide) ?_
              refine gn_iand1 G dL_asks_560 ?_
              have hbit_560 := sp_bit_lt k10 1
              refine lv_iconst (v := nI 1) G.1 G.2.1 dL_asks_561 (by decide) ?_
              refine gn_ne G (by omega) (by omega) (tgt := 569) dL_asks_562 (by decide) (fun h_562 => ?_) (fun h_562 => ?_)
              · refine lv_iload G.1 G.2.1 dL_asks_569 (lv_at hl 0 rfl) ?_
                refine lv_iload G.1 G.2.1 dL_asks_571 (lv_at hl 0 rfl) ?_
                refine lv_sipush (v := nI 255) G.1 G.2.1 dL_asks_573 (by decide) ?_
                refine gn_irem G dL_asks_576 (by omega) (by omega) (by omega) ?_
                refine gn_isub G dL_asks_577 (by omega) ?_
                refine lv_sipush (v := nI 255) G.1 G.2.1 dL_asks_578 (by decide) ?_
                refine gn_idiv G dL_asks_581 (by omega) (by omega) (by omega) ?_
                exact K_582 _ (congrArg nI (by unfold lg_X; rw [if_neg h_562, lg_div _ _ (by decide)]))
              · refine lv_iconst (v := nI 0) G.1 G.2.1 dL_asks_565 (by decide) ?_
                refine lv_goto (tgt := 582) G.1 G.2.1 dL_asks_566 (by decide) ?_
                exact K_582 _ (congrArg nI (by unfold lg_X; rw [if_pos h_562]))
          · refine lv_iload G.1 G.2.1 dL_asks_585 (lv_at hl 0 rfl) ?_
            refine lv_sipush (v := nI 255) G.1 G.2.1 dL_asks_587 (by decide) ?_
            refine gn_le G (by omega) (by omega) (tgt := 599) dL_asks_590 (by decide) (fun h_590 => ?_) (fun h_590 => ?_)
            · refine lv_iload G.1 G.2.1 dL_asks_599 (lv_at hl 0 rfl) ?_
              exact K_601 _ (congrArg nI (by rw [show sp_inkTo S k6 k8 k10 1 = _ from lg_ink hok]; omega))
            · refine lv_sipush (v := nI 255) G.1 G.2.1 dL_asks_593 (by decide) ?_
              refine lv_goto (tgt := 601) G.1 G.2.1 dL_asks_596 (by decide) ?_
              exact K_601 _ (congrArg nI (by rw [show sp_inkTo S k6 k8 k10 1 = _ from lg_ink hok]; omega))
        · refine lv_iload G.1 G.2.1 dL_asks_554 (lv_at hl 4 rfl) ?_
          refine lv_iload G.1 G.2.1 dL_asks_556 (lv_at hl 1 rfl) ?_
          refine gn_ishr G dL_asks_558 (by omega) (by omega) ?_
          refine lv_iconst (v := nI 1) G.1 G.2.1 dL_asks_559 (by decide) ?_
          refine gn_iand1 G dL_asks_560 ?_
          have hbit_560 := sp_bit_lt k10 0
          refine lv_iconst (v := nI 1) G.1 G.2.1 dL_asks_561 (by decide) ?_
          refine gn_ne G (by omega) (by omega) (tgt := 569) dL_asks_562 (by decide) (fun h_562 => ?_) (fun h_562 => ?_)
          · refine lv_iload G.1 G.2.1 dL_asks_569 (lv_at hl 0 rfl) ?_
            refine lv_iload G.1 G.2.1 dL_asks_571 (lv_at hl 0 rfl) ?_
            refine lv_sipush (v := nI 255) G.1 G.2.1 dL_asks_573 (by decide) ?_
            refine gn_irem G dL_asks_576 (by omega) (by omega) (by omega) ?_
            refine gn_isub G dL_asks_577 (by omega) ?_
            refine lv_sipush (v := nI 255) G.1 G.2.1 dL_asks_578 (by decide) ?_
            refine gn_idiv G dL_asks_581 (by omega) (by omega) (by omega) ?_
            exact K_582 _ (congrArg nI (by unfold lg_X; rw [if_neg h_562, lg_div _ _ (by decide)]))
          · refine lv_iconst (v := nI 0) G.1 G.2.1 dL_asks_565 (by decide) ?_
            refine lv_goto (tgt := 582) G.1 G.2.1 dL_asks_566 (by decide) ?_
            exact K_582 _ (congrArg nI (by unfold lg_X; rw [if_pos h_562]))
      · refine gj_x (fun x => x = (nI 0)) 486 [] (fun x hx => ?_) (fun K_486 => ?_)
        · subst hx
          refine lv_istore (lv' := [(16, .int (nI 0)), (15, .int (nI k10)), (14, .int (nI k8)), (13, .int (nI k6)), (12, .int (nI k4)), (11, .int (nI (lg_sTo S (15 * N 5)))), (0, .ref (q 0)), (1, .int w0), (2, .int (nI i)), (3, .ref (a 0)), (4, .ref (a 1)), (5, .ref (a 2)), (6, .ref (a 3)), (7, .ref (a 4)), (8, .ref (a 5))]) G.1 G.2.1 dL_asks_486 hl (by decide) rfl (fun ls hl => ?_)
          refine lv_iload G.1 G.2.1 dL_asks_488 (lv_at hl 0 rfl) ?_
          refine gn_eqz G (by omega) (tgt := 506) dL_asks_490 (by decide) (fun h_490 => ?_) (fun h => absurd rfl h)
          refine lv_iconst (v := nI 0) G.1 G.2.1 dL_asks_506 (by decide) ?_
          refine lv_istore (lv' := [(17, .int (nI 0)), (16, .int (nI 0)), (15, .int (nI k10)), (14, .int (nI k8)), (13, .int (nI k6)), (12, .int (nI k4)), (11, .int (nI (lg_sTo S (15 * N 5)))), (0, .ref (q 0)), (1, .int w0), (2, .int (nI i)), (3, .ref (a 0)), (4, .ref (a 1)), (5, .ref (a 2)), (6, .ref (a 3)), (7, .ref (a 4)), (8, .ref (a 5))]) G.1 G.2.1 dL_asks_507 hl (by decide) rfl (fun ls hl => ?_)
          refine lv_iconst (v := nI 0) G.1 G.2.1 dL_asks_509 (by decide) ?_
          refine lv_istore (lv' := [(18, .int (nI 0)), (17, .int (nI 0)), (16, .int (nI 0)), (15, .int (nI k10)), (14, .int (nI k8)), (13, .int (nI k6)), (12, .int (nI k4)), (11, .int (nI (lg_sTo S (15 * N 5)))), (0, .ref (q 0)), (1, .int w0), (2, .int (nI i)), (3, .ref (a 0)), (4, .ref (a 1)), (5, .ref (a 2)), (6, .ref (a 3)), (7, .ref (a 4)), (8, .ref (a 5))]) G.1 G.2.1 dL_asks_510 hl (by decide) rfl (fun ls hl => ?_)
          refine lv_iload G.1 G.2.1 dL_asks_512 (lv_at hl 0 rfl) ?_
          refine lv_iconst (v := nI 3) G.1 G.2.1 dL_asks_514 (by decide) ?_
          refine gn_ge G (by omega) (by omega) (tgt := 609) dL_asks_515 (by decide) (fun h => absurd h (by omega)) (fun h_515 => ?_)
          refine lv_iload G.1 G.2.1 dL_asks_518 (lv_at hl 2 rfl) ?_
          refine gn_eqz G (by omega) (tgt := 609) dL_asks_520 (by decide) (fun h_520 => ?_) (fun h => absurd rfl h)
          refine lv_aload_n G.1 G.2.1 dL_asks_609 rfl (lv_at hl 8 rfl) ?_
          refine gc_v (As := []) (rest := []) G.fix (mX0_stale l D q cI N S tr A hok hinv.2.2.1) (cwV 0 G.2.2.2.2.2.1 gL_asks_X0_stale rfl rfl rfl (by decide +kernel) ⟨Nat.le_of_ble_eq_true rfl, Nat.le_of_ble_eq_true rfl⟩) xAt_blind (va_recv hZ.x.2.1 hZ.x.1 (ci := 0) (q0 := 0) rfl rfl) (fun U hU hW => by show xAt _ _ _ _ _ _ _ U U.heap; rw [hU]; exact hZ.x.moved hW) rfl hl.1 rfl (Nat.le_of_ble_eq_true rfl) dL_asks_610 (show 56 ≤ 64 by omega) (show 336 ≤ 400 by omega) (fun r hr => ?_)
          subst hr
          have hv_610 : sp_stale N S < 2 ^ 6 := sp_staleTo_lt N S 6 (Nat.le_refl _)
          rw [← lg_stale hok hinv]
          have hst9 := lg_sTo_lt S (15 * N 5) (by omega)
          refine lv_iload G.1 G.2.1 dL_asks_613 (lv_at hl 7 rfl) ?_
          refine gn_ne G (by omega) (by omega) (tgt := 688) dL_asks_615 (by decide) (fun h => absurd rfl h) (fun h_615 => ?_)
          refine lv_aload_n G.1 G.2.1 dL_asks_618 rfl (lv_at hl 8 rfl) ?_
          refine gc_v (As := []) (rest := []) G.fix (mX0_held l D q cI N S tr A hok hinv.2.2.2.1) (cwV 0 G.2.2.2.2.2.1 gL_asks_X0_held rfl rfl rfl (by decide +kernel) ⟨Nat.le_of_ble_eq_true rfl, Nat.le_of_ble_eq_true rfl⟩) xAt_blind (va_recv hZ.x.2.1 hZ.x.1 (ci := 0) (q0 := 0) rfl rfl) (fun U hU hW => by show xAt _ _ _ _ _ _ _ U U.heap; rw [hU]; exact hZ.x.moved hW) rfl hl.1 rfl (Nat.le_of_ble_eq_true rfl) dL_asks_619 (show 56 ≤ 64 by omega) (show 336 ≤ 400 by omega) (fun r hr => ?_)
          subst hr
          have hv_619 := sp_held_lt hok
          refine lv_aload_n G.1 G.2.1 dL_asks_622 rfl (lv_at hl 11 rfl) ?_
          refine lv_aload G.1 G.2.1 dL_asks_623 (lv_at hl 14 rfl) ?_
          refine gc_s (As := [.ref (a 0), .ref (a 3)]) (rest := [.int (nI (sp_held N S))]) G.fix (mL_held l D a cI N S hok hinv hN5) (va_cwS 2 G.2.2.2.2.2.1 gL_asks_L_held rfl rfl rfl (by decide +kernel) ⟨Nat.le_of_ble_eq_true rfl, Nat.le_of_ble_eq_true rfl⟩) lrAt_blind (fun U hU hW => by rw [hU]; exact hZ.r.moved hW) rfl hl.1 rfl (Nat.le_of_ble_eq_true rfl) dL_asks_625 (show 56 ≤ 64 by omega) (show 336 ≤ 400 by omega) (fun r hr => ?_)
          subst hr
          have hv_625 := sp_held_lt hok
          refine gn_ne G (by omega) (by omega) (tgt := 688) dL_asks_628 (by decide) (fun h => absurd rfl h) (fun h_628 => ?_)
          refine lv_aload_n G.1 G.2.1 dL_asks_631 rfl (lv_at hl 8 rfl) ?_
          refine lv_iload G.1 G.2.1 dL_asks_632 (lv_at hl 6 rfl) ?_
          refine lv_iload G.1 G.2.1 dL_asks_634 (lv_at hl 5 rfl) ?_
          refine lv_iload G.1 G.2.1 dL_asks_636 (lv_at hl 4 rfl) ?_
          refine lv_iload G.1 G.2.1 dL_asks_638 (lv_at hl 3 rfl) ?_
          refine gz_wrap (As := [.ref (q 0), .int (nI k4), .int (nI k6), .int (nI k8), .int (nI k10)]) (rest := []) G.fix (mL_shows l hst D q cI N S tr _ hok hinv ((nI k4)) ((nI k6)) ((nI k8)) ((nI k10))) (vx_cwSW 5 G.2.2.2.2.2.1 gL_asks_L_shows rfl rfl rfl (by decide +kernel) ⟨Nat.le_of_ble_eq_true rfl, Nat.le_of_ble_eq_true rfl⟩) hZ hA hS rfl hl.1 rfl (Nat.le_of_ble_eq_true rfl) dL_asks_640 (show 56 + 1 ≤ 64 by omega) (show 336 + 6 ≤ 400 by omega) (fun r Nx Sx tr H locs hp hZ hS => ?_)
          obtain ⟨rfl, eN, eS⟩ := hp
          have hk_640 : sj_shown N S ((nI k4)) ((nI k6)) ((nI k8)) ((nI k10)) = 1 := gk_f (by apply Bool.eq_false_iff.mpr; intro h; simp only [sA_shown, Bool.and_eq_true, decide_eq_true_eq, gb_nI (show k4 < 2 ^ 31 by omega), gn_nI (show k4 < 2 ^ 31 by omega), gb_nI (show k6 < 2 ^ 31 by omega), gn_nI (show k6 < 2 ^ 31 by omega), gb_nI (show k8 < 2 ^ 31 by omega), gn_nI (show k8 < 2 ^ 31 by omega), gb_nI (show k10 < 2 ^ 31 by omega), gn_nI (show k10 < 2 ^ 31 by omega)] at h <;> omega)
          rw [hk_640] at eN eS
          have eN : Nx = N := eN
          have eS : Sx = S := eS
          rw [eN, eS] at hZ
          rw [hk_640, gRes_1]
          refine lv_iload G.1 G.2.1 dL_asks_643 (lv_at hl 2 rfl) ?_
          refine gn_nez G (by omega) (tgt := 653) dL_asks_645 (by decide) (fun h => absurd rfl h) (fun h_645 => ?_)
          refine lv_bipush (v := -101) G.1 G.2.1 dL_asks_648 (by decide) ?_
          refine lv_goto (tgt := 681) G.1 G.2.1 dL_asks_650 (by decide) ?_
          refine lv_icmp_ne (tgt := 688) G.1 G.2.1 dL_asks_681 (by decide) (fun h => absurd rfl h) (fun h_681 => ?_)
          refine lv_iconst (v := nI 1) G.1 G.2.1 dL_asks_684 (by decide) ?_
          refine lv_goto (tgt := 689) G.1 G.2.1 dL_asks_685 (by decide) ?_
          refine lv_istore (lv' := [(18, .int (nI 1)), (17, .int (nI 0)), (16, .int (nI 0)), (15, .int (nI k10)), (14, .int (nI k8)), (13, .int (nI k6)), (12, .int (nI k4)), (11, .int (nI (lg_sTo S (15 * N 5)))), (0, .ref (q 0)), (1, .int w0), (2, .int (nI i)), (3, .ref (a 0)), (4, .ref (a 1)), (5, .ref (a 2)), (6, .ref (a 3)), (7, .ref (a 4)), (8, .ref (a 5))]) G.1 G.2.1 dL_asks_689 hl (by decide) rfl (fun ls hl => ?_)
          refine lv_iload_n G.1 G.2.1 dL_asks_691 rfl (lv_at hl 9 rfl) ?_
          refine lv_bipush (v := nI 8) G.1 G.2.1 dL_asks_692 (by decide) ?_
          refine lv_ishr G.1 G.2.1 dL_asks_694 ?_
          refine lv_topi (fun y15 hy15 => ?_)
          refine lv_aload_n G.1 G.2.1 dL_asks_695 rfl (lv_at hl 11 rfl) ?_
          refine lv_iconst (v := nI 1) G.1 G.2.1 dL_asks_696 (by decide) ?_
          refine gl_ald (k := 0) (len := 11) (F := fC N S) G hZ.r rfl (by omega) (by decide) dL_asks_697 ?_
          rw [fC_1]
          refine lv_iconst (v := nI 1) G.1 G.2.1 dL_asks_698 (by decide) ?_
          refine gn_iadd G dL_asks_699 ?_
          refine gc_s (As := [.int y15, .int (nI ((N 5) + 1))]) (rest := []) G.fix (mL_some l y15 ((N 5) + 1) (by omega) (by omega)) (va_cwS 2 G.2.2.2.2.2.1 gL_asks_L_some rfl rfl rfl (by decide +kernel) ⟨Nat.le_of_ble_eq_true rfl, Nat.le_of_ble_eq_true rfl⟩) gc_blindT (fun _ _ _ => trivial) rfl hl.1 rfl (Nat.le_of_ble_eq_true rfl) dL_asks_700 (show 56 + 1 ≤ 64 by omega) (show 336 + 6 ≤ 400 by omega) (fun r hr => ?_)
          obtain ⟨k16, hk16, rfl⟩ := hr
          refine lv_istore (lv' := [(19, .int (nI k16)), (18, .int (nI 1)), (17, .int (nI 0)), (16, .int (nI 0)), (15, .int (nI k10)), (14, .int (nI k8)), (13, .int (nI k6)), (12, .int (nI k4)), (11, .int (nI (lg_sTo S (15 * N 5)))), (0, .ref (q 0)), (1, .int w0), (2, .int (nI i)), (3, .ref (a 0)), (4, .ref (a 1)), (5, .ref (a 2)), (6, .ref (a 3)), (7, .ref (a 4)), (8, .ref (a 5))]) G.1 G.2.1 dL_asks_703 hl (by decide) rfl (fun ls hl => ?_)
          refine lv_iload G.1 G.2.1 dL_asks_705 (lv_at hl 1 rfl) ?_
          refine gn_eqz G (by omega) (tgt := 791) dL_asks_707 (by decide) (fun h => absurd h (by omega)) (fun h_707 => ?_)
          refine lv_iload_n G.1 G.2.1 dL_asks_710 rfl (lv_at hl 11 rfl) ?_
          refine lv_bipush (v := nI 9) G.1 G.2.1 dL_asks_711 (by decide) ?_
          refine gn_irem G dL_asks_713 (by omega) (by omega) (by omega) ?_
          refine gn_nez G (by omega) (tgt := 787) dL_asks_714 (by decide) (fun h_714 => ?_) (fun h_714 => ?_)
          · refine lv_iconst (v := nI 1) G.1 G.2.1 dL_asks_787 (by decide) ?_
            refine lv_goto (tgt := 792) G.1 G.2.1 dL_asks_788 (by decide) ?_
            refine W.widen (k := 64) (n := 400) (show 56 + 1 ≤ 64 by omega) (show 336 + 6 ≤ 400 by omega) ?_
            exact W.zret G.1 G.2.1 G.2.2.1 rfl (fun t ht hW => ⟨nI 1, N, S, _, rfl, ⟨rfl, rfl, rfl⟩, by rw [ht]; exact hZ.1, hS.F ht⟩) hS.2.2 dL_asks_792 G.2.2.2.2.2.2
          · by_cases hone : k16 < N 5
            · refine lv_aload_n G.1 G.2.1 dL_asks_717 rfl (lv_at hl 9 rfl) ?_
              refine lv_iconst (v := nI 2) G.1 G.2.1 dL_asks_718 (by decide) ?_
              refine lv_iload G.1 G.2.1 dL_asks_719 (lv_at hl 0 rfl) ?_
              refine gz_wrap (As := [.ref (q 0), .int (nI 2), .int (nI k16)]) (rest := []) G.fix (mL_chains_gap l hst D q cI N S tr _ hok hinv ((nI k16))) (vx_cwSW 3 G.2.2.2.2.2.1 gL_asks_L_chains rfl rfl rfl (by decide +kernel) ⟨Nat.le_of_ble_eq_true rfl, Nat.le_of_ble_eq_true rfl⟩) hZ hA hS rfl hl.1 rfl (Nat.le_of_ble_eq_true rfl) dL_asks_721 (show 56 + 1 + 1 ≤ 64 by omega) (show 336 + 6 + 6 ≤ 400 by omega) (fun r Nx Sx tr H locs hp hZ hS => ?_)
              obtain ⟨rfl, eN, eS⟩ := hp
              have hk_721 : sj_gap N S ((nI k16)) = 0 := gk_ttt (by simp only [sA_gap, Bool.and_eq_true, decide_eq_true_eq, gb_nI (show k16 < 2 ^ 31 by omega), gn_nI (show k16 < 2 ^ 31 by omega)] <;> omega) rfl rfl
              rw [hk_721] at eN eS
              have eN : Nx = sN_gap N S ((nI k16)) := eN
              have eS : Sx = sS_gap N S ((nI k16)) := eS
              rw [eN, eS] at hZ
              rw [hk_721, gRes_0]
              have hR_721 : sR_gap N S ((nI k16)) = sp_gap S k16 := by simp only [sR_gap, gn_nI (show k16 < 2 ^ 31 by omega)]
              rw [hR_721]
              have hZ : zAt D q a cI N S tr N S A s H := hZ
              refine lv_iload G.1 G.2.1 dL_asks_724 (lv_at hl 0 rfl) ?_
              refine lv_aload_n G.1 G.2.1 dL_asks_726 rfl (lv_at hl 12 rfl) ?_
              refine lv_iconst (v := nI 1) G.1 G.2.1 dL_asks_727 (by decide) ?_
              refine gl_ald (k := 0) (len := 11) (F := fC N S) G hZ.r rfl (by omega) (by decide) dL_asks_728 ?_
              rw [fC_1]
              refine gn_ne G (by omega) (by omega) (tgt := 737) dL_asks_729 (by decide) (fun h_729 => ?_) (fun h => absurd h (by omega))
              refine lv_aload_n G.1 G.2.1 dL_asks_737 rfl (lv_at hl 12 rfl) ?_
              refine lv_aload G.1 G.2.1 dL_asks_738 (lv_at hl 13 rfl) ?_
              refine lv_aload G.1 G.2.1 dL_asks_740 (lv_at hl 14 rfl) ?_
              refine lv_aload G.1 G.2.1 dL_asks_742 (lv_at hl 15 rfl) ?_
              refine lv_iload G.1 G.2.1 dL_asks_744 (lv_at hl 0 rfl) ?_
              refine gz_grow (As := [.ref (a 0), .ref (a 1), .ref (a 2), .ref (a 3), .int (nI k16)]) (rest := [.int (nI (sp_gap S k16))]) (mc := 1) (ms := 5) G.fix (mL_gap l D a cI N S hok h6 k16 (by omega)) (va_cwS 5 G.2.2.2.2.2.1 gL_asks_L_gap rfl rfl rfl (by decide +kernel) ⟨Nat.le_of_ble_eq_true rfl, Nat.le_of_ble_eq_true rfl⟩) hZ hS rfl hl.1 rfl (Nat.le_of_ble_eq_true rfl) dL_asks_746 (show 56 + 1 + 1 + 1 ≤ 64 by omega) (show 336 + 6 + 6 + 5 ≤ 400 by omega) (fun r H locs hr hZ hS => ?_)
              subst hr
              have hv_746 : sp_gap S k16 ≤ 255 := sp_gapTo_le (ch := k16) hok 768
              refine gn_ne G (by omega) (by omega) (tgt := 791) dL_asks_749 (by decide) (fun h => absurd rfl h) (fun h_749 => ?_)
              refine lv_aload_n G.1 G.2.1 dL_asks_752 rfl (lv_at hl 9 rfl) ?_
              refine lv_iconst (v := nI 3) G.1 G.2.1 dL_asks_753 (by decide) ?_
              refine lv_iload G.1 G.2.1 dL_asks_754 (lv_at hl 0 rfl) ?_
              refine gz_wrap (As := [.ref (q 0), .int (nI 3), .int (nI k16)]) (rest := []) G.fix (mL_chains_greyGap l hst D q cI N S tr _ hok hinv ((nI k16))) (vx_cwSW 3 G.2.2.2.2.2.1 gL_asks_L_chains rfl rfl rfl (by decide +kernel) ⟨Nat.le_of_ble_eq_true rfl, Nat.le_of_ble_eq_true rfl⟩) hZ hA hS rfl hl.1 rfl (Nat.le_of_ble_eq_true rfl) dL_asks_756 (show 56 + 1 + 1 + 1 + 1 ≤ 64 by omega) (show 336 + 6 + 6 + 5 + 6 ≤ 400 by omega) (fun r Nx Sx tr H locs hp hZ hS => ?_)
              obtain ⟨rfl, eN, eS⟩ := hp
              have hk_756 : sj_greyGap N S ((nI k16)) = 0 := gk_ttt (by simp only [sA_greyGap, Bool.and_eq_true, decide_eq_true_eq, gb_nI (show k16 < 2 ^ 31 by omega), gn_nI (show k16 < 2 ^ 31 by omega)] <;> omega) rfl rfl
              rw [hk_756] at eN eS
              have eN : Nx = sN_greyGap N S ((nI k16)) := eN
              have eS : Sx = sS_greyGap N S ((nI k16)) := eS
              rw [eN, eS] at hZ
              rw [hk_756, gRes_0]
              have hR_756 : sR_greyGap N S ((nI k16)) = sp_grey S k16 := by simp only [sR_greyGap, gn_nI (show k16 < 2 ^ 31 by omega)]
              rw [hR_756]
              have hZ : zAt D q a cI N S tr N S A s H := hZ
              refine lv_iload G.1 G.2.1 dL_asks_759 (lv_at hl 0 rfl) ?_
              refine lv_aload_n G.1 G.2.1 dL_asks_761 rfl (lv_at hl 12 rfl) ?_
              refine lv_iconst (v := nI 1) G.1 G.2.1 dL_asks_762 (by decide) ?_
              refine gl_ald (k := 0) (len := 11) (F := fC N S) G hZ.r rfl (by omega) (by decide) dL_asks_763 ?_
              rw [fC_1]
              refine gn_ne G (by omega) (by omega) (tgt := 772) dL_asks_764 (by decide) (fun h_764 => ?_) (fun h => absurd h (by omega))
              refine lv_aload_n G.1 G.2.1 dL_asks_772 rfl (lv_at hl 12 rfl) ?_
              refine lv_aload G.1 G.2.1 dL_asks_773 (lv_at hl 13 rfl) ?_
              refine lv_aload G.1 G.2.1 dL_asks_775 (lv_at hl 14 rfl) ?_
              refine lv_aload G.1 G.2.1 dL_asks_777 (lv_at hl 15 rfl) ?_
              refine lv_iload G.1 G.2.1 dL_asks_779 (lv_at hl 0 rfl) ?_
              refine gc_s (As := [.ref (a 0), .ref (a 1), .ref (a 2), .ref (a 3), .int (nI k16)]) (rest := [.int (nI (sp_grey S k16))]) G.fix (mL_greys l D a cI N S hok h6 k16 (by omega)) (va_cwS 5 G.2.2.2.2.2.1 gL_asks_L_greys rfl rfl rfl (by decide +kernel) ⟨Nat.le_of_ble_eq_true rfl, Nat.le_of_ble_eq_true rfl⟩) lrAt_blind (fun U hU hW => by rw [hU]; exact hZ.r.moved hW) rfl hl.1 rfl (Nat.le_of_ble_eq_true rfl) dL_asks_781 (show 56 + 1 + 1 + 1 + 1 ≤ 64 by omega) (show 336 + 6 + 6 + 5 + 6 ≤ 400 by omega) (fun r hr => ?_)
              subst hr
              have hv_781 : sp_grey S k16 ≤ 255 := sp_greyTo_le (ch := k16) hok 256 (Nat.le_refl _)
              refine gn_ne G (by omega) (by omega) (tgt := 791) dL_asks_784 (by decide) (fun h => absurd rfl h) (fun h_784 => ?_)
              refine lv_iconst (v := nI 1) G.1 G.2.1 dL_asks_787 (by decide) ?_
              refine lv_goto (tgt := 792) G.1 G.2.1 dL_asks_788 (by decide) ?_
              refine W.widen (k := 64) (n := 400) (show 56 + 1 + 1 + 1 + 1 ≤ 64 by omega) (show 336 + 6 + 6 + 5 + 6 ≤ 400 by omega) ?_
              exact W.zret G.1 G.2.1 G.2.2.1 rfl (fun t ht hW => ⟨nI 1, N, S, _, rfl, ⟨rfl, rfl, rfl⟩, by rw [ht]; exact hZ.1, hS.F ht⟩) hS.2.2 dL_asks_792 G.2.2.2.2.2.2
            · refine lv_aload_n G.1 G.2.1 dL_asks_717 rfl (lv_at hl 9 rfl) ?_
              refine lv_iconst (v := nI 2) G.1 G.2.1 dL_asks_718 (by decide) ?_
              refine lv_iload G.1 G.2.1 dL_asks_719 (lv_at hl 0 rfl) ?_
              refine gz_wrap (As := [.ref (q 0), .int (nI 2), .int (nI k16)]) (rest := []) G.fix (mL_chains_gap l hst D q cI N S tr _ hok hinv ((nI k16))) (vx_cwSW 3 G.2.2.2.2.2.1 gL_asks_L_chains rfl rfl rfl (by decide +kernel) ⟨Nat.le_of_ble_eq_true rfl, Nat.le_of_ble_eq_true rfl⟩) hZ hA hS rfl hl.1 rfl (Nat.le_of_ble_eq_true rfl) dL_asks_721 (show 56 + 1 + 1 ≤ 64 by omega) (show 336 + 6 + 6 ≤ 400 by omega) (fun r Nx Sx tr H locs hp hZ hS => ?_)
              obtain ⟨rfl, eN, eS⟩ := hp
              have hk_721 : sj_gap N S ((nI k16)) = 1 := gk_f (by apply Bool.eq_false_iff.mpr; intro h; simp only [sA_gap, Bool.and_eq_true, decide_eq_true_eq, gb_nI (show k16 < 2 ^ 31 by omega), gn_nI (show k16 < 2 ^ 31 by omega)] at h <;> omega)
              rw [hk_721] at eN eS
              have eN : Nx = N := eN
              have eS : Sx = S := eS
              rw [eN, eS] at hZ
              rw [hk_721, gRes_1]
              refine lv_iload G.1 G.2.1 dL_asks_724 (lv_at hl 0 rfl) ?_
              refine lv_aload_n G.1 G.2.1 dL_asks_726 rfl (lv_at hl 12 rfl) ?_
              refine lv_iconst (v := nI 1) G.1 G.2.1 dL_asks_727 (by decide) ?_
              refine gl_ald (k := 0) (len := 11) (F := fC N S) G hZ.r rfl (by omega) (by decide) dL_asks_728 ?_
              rw [fC_1]
              refine gn_ne G (by omega) (by omega) (tgt := 737) dL_asks_729 (by decide) (fun h => absurd h (by omega)) (fun h_729 => ?_)
              refine lv_bipush (v := -101) G.1 G.2.1 dL_asks_732 (by decide) ?_
              refine lv_goto (tgt := 749) G.1 G.2.1 dL_asks_734 (by decide) ?_
              refine lv_icmp_ne (tgt := 791) G.1 G.2.1 dL_asks_749 (by decide) (fun h => absurd rfl h) (fun h_749 => ?_)
              refine lv_aload_n G.1 G.2.1 dL_asks_752 rfl (lv_at hl 9 rfl) ?_
              refine lv_iconst (v := nI 3) G.1 G.2.1 dL_asks_753 (by decide) ?_
              refine lv_iload G.1 G.2.1 dL_asks_754 (lv_at hl 0 rfl) ?_
              refine gz_wrap (As := [.ref (q 0), .int (nI 3), .int (nI k16)]) (rest := []) G.fix (mL_chains_greyGap l hst D q cI N S tr _ hok hinv ((nI k16))) (vx_cwSW 3 G.2.2.2.2.2.1 gL_asks_L_chains rfl rfl rfl (by decide +kernel) ⟨Nat.le_of_ble_eq_true rfl, Nat.le_of_ble_eq_true rfl⟩) hZ hA hS rfl hl.1 rfl (Nat.le_of_ble_eq_true rfl) dL_asks_756 (show 56 + 1 + 1 + 1 ≤ 64 by omega) (show 336 + 6 + 6 + 6 ≤ 400 by omega) (fun r Nx Sx tr H locs hp hZ hS => ?_)
              obtain ⟨rfl, eN, eS⟩ := hp
              have hk_756 : sj_greyGap N S ((nI k16)) = 1 := gk_f (by apply Bool.eq_false_iff.mpr; intro h; simp only [sA_greyGap, Bool.and_eq_true, decide_eq_true_eq, gb_nI (show k16 < 2 ^ 31 by omega), gn_nI (show k16 < 2 ^ 31 by omega)] at h <;> omega)
              rw [hk_756] at eN eS
              have eN : Nx = N := eN
              have eS : Sx = S := eS
              rw [eN, eS] at hZ
              rw [hk_756, gRes_1]
              refine lv_iload G.1 G.2.1 dL_asks_759 (lv_at hl 0 rfl) ?_
              refine lv_aload_n G.1 G.2.1 dL_asks_761 rfl (lv_at hl 12 rfl) ?_
              refine lv_iconst (v := nI 1) G.1 G.2.1 dL_asks_762 (by decide) ?_
              refine gl_ald (k := 0) (len := 11) (F := fC N S) G hZ.r rfl (by omega) (by decide) dL_asks_763 ?_
              rw [fC_1]
              refine gn_ne G (by omega) (by omega) (tgt := 772) dL_asks_764 (by decide) (fun h => absurd h (by omega)) (fun h_764 => ?_)
              refine lv_bipush (v := -101) G.1 G.2.1 dL_asks_767 (by decide) ?_
              refine lv_goto (tgt := 784) G.1 G.2.1 dL_asks_769 (by decide) ?_
              refine lv_icmp_ne (tgt := 791) G.1 G.2.1 dL_asks_784 (by decide) (fun h => absurd rfl h) (fun h_784 => ?_)
              refine lv_iconst (v := nI 1) G.1 G.2.1 dL_asks_787 (by decide) ?_
              refine lv_goto (tgt := 792) G.1 G.2.1 dL_asks_788 (by decide) ?_
              refine W.widen (k := 64) (n := 400) (show 56 + 1 + 1 + 1 ≤ 64 by omega) (show 336 + 6 + 6 + 6 ≤ 400 by omega) ?_
              exact W.zret G.1 G.2.1 G.2.2.1 rfl (fun t ht hW => ⟨nI 1, N, S, _, rfl, ⟨rfl, rfl, rfl⟩, by rw [ht]; exact hZ.1, hS.F ht⟩) hS.2.2 dL_asks_792 G.2.2.2.2.2.2
        · refine lv_iload G.1 G.2.1 dL_asks_467 (lv_at hl 3 rfl) ?_
          refine lv_aload_n G.1 G.2.1 dL_asks_469 rfl (lv_at hl 8 rfl) ?_
          refine lv_iconst (v := nI 1) G.1 G.2.1 dL_asks_470 (by decide) ?_
          refine gl_ald (k := 0) (len := 11) (F := fC N S) G hZ.r rfl (by omega) (by decide) dL_asks_471 ?_
          rw [fC_1]
          refine gn_ge G (by omega) (by omega) (tgt := 485) dL_asks_472 (by decide) (fun h_472 => ?_) (fun h_472 => ?_)
          · refine lv_iconst (v := nI 0) G.1 G.2.1 dL_asks_485 (by decide) ?_
            exact K_486 _ (rfl)
          · refine lv_iload G.1 G.2.1 dL_asks_475 (lv_at hl 1 rfl) ?_
            refine lv_iconst (v := nI 3) G.1 G.2.1 dL_asks_477 (by decide) ?_
            refine gn_ge G (by omega) (by omega) (tgt := 485) dL_asks_478 (by decide) (fun h_478 => ?_) (fun h => absurd h (by omega))
            refine lv_iconst (v := nI 0) G.1 G.2.1 dL_asks_485 (by decide) ?_
            exact K_486 _ (rfl)
  · by_cases hg_v : gb y2 256 = true
    · obtain ⟨v, hv, rfl⟩ := gb_of (by omega) hg_v
      refine lv_iload G.1 G.2.1 dL_asks_9 (lv_at hl 0 rfl) ?_
      refine gn_ltz G (by omega) (tgt := 26) dL_asks_11 (by decide) ?_
      refine lv_iload G.1 G.2.1 dL_asks_14 (lv_at hl 0 rfl) ?_
      refine lv_sipush (v := nI 256) G.1 G.2.1 dL_asks_16 (by decide) ?_
      refine gn_ge G (by omega) (by omega) (tgt := 26) dL_asks_19 (by decide) (fun h => absurd h (by omega)) (fun h_19 => ?_)
      refine lv_iconst (v := nI 1) G.1 G.2.1 dL_asks_22 (by decide) ?_
      refine lv_goto (tgt := 27) G.1 G.2.1 dL_asks_23 (by decide) ?_
      refine lv_istore (lv' := [(10, .int (nI 1)), (9, .int (nI v)), (0, .ref (q 0)), (1, .int w0), (2, .int (nI i)), (3, .ref (a 0)), (4, .ref (a 1)), (5, .ref (a 2)), (6, .ref (a 3)), (7, .ref (a 4)), (8, .ref (a 5))]) G.1 G.2.1 dL_asks_27 hl (by decide) rfl (fun ls hl => ?_)
      refine lv_iconst (v := nI 0) G.1 G.2.1 dL_asks_29 (by decide) ?_
      refine lv_istore (lv' := [(11, .int (nI 0)), (10, .int (nI 1)), (9, .int (nI v)), (0, .ref (q 0)), (1, .int w0), (2, .int (nI i)), (3, .ref (a 0)), (4, .ref (a 1)), (5, .ref (a 2)), (6, .ref (a 3)), (7, .ref (a 4)), (8, .ref (a 5))]) G.1 G.2.1 dL_asks_30 hl (by decide) rfl (fun ls hl => ?_)
      refine gj_loopW (fun b H locs ls => ∃ tr : Nat → Nat, zAt D q a cI N S tr N S A s H ∧ va_S A s.heap H locs ∧ lv_has ls 20 [(11, .int (nI b)), (10, .int (nI 1)), (9, .int (nI v)), (0, .ref (q 0)), (1, .int w0), (2, .int (nI i)), (3, .ref (a 0)), (4, .ref (a 1)), (5, .ref (a 2)), (6, .ref (a 3)), (7, .ref (a 4)), (8, .ref (a 5))]) (fun b => 14 * b) (fun b => 84 * b) (4) ⟨_, hZ, hS, lv_sub hl [0, 1, 2, 3, 4, 5, 6, 7, 8, 9, 10, 11] rfl⟩ (show 0 ≤ 14 * 0 by omega) (show 0 ≤ 84 * 0 by omega) (fun b H locs ls hj32 hI kk32 => ?_) (fun H locs ls hI => ?_)
      · obtain ⟨tr, hZ, hS, hl⟩ := hI
        refine lv_iload G.1 G.2.1 dL_asks_32 (lv_at hl 0 rfl) ?_
        refine lv_iconst (v := nI 4) G.1 G.2.1 dL_asks_34 (by decide) ?_
        refine gn_ge G (by omega) (by omega) (tgt := 338) dL_asks_35 (by decide) (fun h => absurd h (by omega)) (fun h_35 => ?_)
        refine lv_iconst (v := nI 0) G.1 G.2.1 dL_asks_38 (by decide) ?_
        refine lv_istore (lv' := [(12, .int (nI 0)), (11, .int (nI b)), (10, .int (nI 1)), (9, .int (nI v)), (0, .ref (q 0)), (1, .int w0), (2, .int (nI i)), (3, .ref (a 0)), (4, .ref (a 1)), (5, .ref (a 2)), (6, .ref (a 3)), (7, .ref (a 4)), (8, .ref (a 5))]) G.1 G.2.1 dL_asks_39 hl (by decide) rfl (fun ls hl => ?_)
        refine gj_loopW (fun i1 H locs ls => ∃ tr : Nat → Nat, zAt D q a cI N S tr N S A s H ∧ va_S A s.heap H locs ∧ lv_has ls 20 [(12, .int (nI i1)), (11, .int (nI b)), (10, .int (nI 1)), (9, .int (nI v)), (0, .ref (q 0)), (1, .int w0), (2, .int (nI i)), (3, .ref (a 0)), (4, .ref (a 1)), (5, .ref (a 2)), (6, .ref (a 3)), (7, .ref (a 4)), (8, .ref (a 5))]) (fun i1 => 14 * b + 2 * i1) (fun i1 => 84 * b + 12 * i1) (N 0 + 1) ⟨_, hZ, hS, lv_sub hl [0, 1, 2, 3, 4, 5, 6, 7, 8, 9, 10, 11, 12] rfl⟩ (show 14 * b ≤ 14 * b + 2 * 0 by omega) (show 84 * b ≤ 84 * b + 12 * 0 by omega) (fun i1 H locs ls hj41 hI kk41 => ?_) (fun H locs ls hI => ?_)
        · obtain ⟨tr, hZ, hS, hl⟩ := hI
          refine lv_iload G.1 G.2.1 dL_asks_41 (lv_at hl 0 rfl) ?_
          refine lv_aload_n G.1 G.2.1 dL_asks_43 rfl (lv_at hl 7 rfl) ?_
          refine lv_iconst (v := nI 0) G.1 G.2.1 dL_asks_44 (by decide) ?_
          refine gl_ald (k := 0) (len := 11) (F := fC N S) G hZ.r rfl (by omega) (by decide) dL_asks_45 ?_
          rw [fC_0]
          refine gn_gt G (by omega) (by omega) (tgt := 177) dL_asks_46 (by decide) (fun h => absurd h (by omega)) (fun h_46 => ?_)
          by_cases hcs : i1 < N 0 ∧ b < 3
          · refine lv_iload G.1 G.2.1 dL_asks_49 (lv_at hl 0 rfl) ?_
            refine lv_aload_n G.1 G.2.1 dL_asks_51 rfl (lv_at hl 7 rfl) ?_
            refine lv_iconst (v := nI 0) G.1 G.2.1 dL_asks_52 (by decide) ?_
            refine gl_ald (k := 0) (len := 11) (F := fC N S) G hZ.r rfl (by omega) (by decide) dL_asks_53 ?_
            rw [fC_0]
            refine gn_ge G (by omega) (by omega) (tgt := 67) dL_asks_54 (by decide) (fun h => absurd h (by omega)) (fun h_54 => ?_)
            refine lv_iload G.1 G.2.1 dL_asks_57 (lv_at hl 1 rfl) ?_
            refine lv_iconst (v := nI 3) G.1 G.2.1 dL_asks_59 (by decide) ?_
            refine gn_ge G (by omega) (by omega) (tgt := 67) dL_asks_60 (by decide) (fun h => absurd h (by omega)) (fun h_60 => ?_)
            refine lv_iconst (v := nI 1) G.1 G.2.1 dL_asks_63 (by decide) ?_
            refine lv_goto (tgt := 68) G.1 G.2.1 dL_asks_64 (by decide) ?_
            refine lv_istore (lv' := [(13, .int (nI 1)), (12, .int (nI i1)), (11, .int (nI b)), (10, .int (nI 1)), (9, .int (nI v)), (0, .ref (q 0)), (1, .int w0), (2, .int (nI i)), (3, .ref (a 0)), (4, .ref (a 1)), (5, .ref (a 2)), (6, .ref (a 3)), (7, .ref (a 4)), (8, .ref (a 5))]) G.1 G.2.1 dL_asks_68 hl (by decide) rfl (fun ls hl => ?_)
            refine lv_aload_n G.1 G.2.1 dL_asks_70 rfl (lv_at hl 5 rfl) ?_
            refine lv_iconst (v := nI 0) G.1 G.2.1 dL_asks_71 (by decide) ?_
            refine lv_iload G.1 G.2.1 dL_asks_72 (lv_at hl 1 rfl) ?_
            refine lv_iload G.1 G.2.1 dL_asks_74 (lv_at hl 2 rfl) ?_
            refine lv_iload G.1 G.2.1 dL_asks_76 (lv_at hl 4 rfl) ?_
            refine gz_wrap (As := [.ref (q 0), .int (nI 0), .int (nI i1), .int (nI b), .int (nI v)]) (rest := []) G.fix (mL_of_curve l hst D q cI N S tr _ hok hinv ((nI i1)) ((nI b)) ((nI v))) (vx_cwSW 5 G.2.2.2.2.2.1 gL_asks_L_of rfl rfl rfl (by decide +kernel) ⟨Nat.le_of_ble_eq_true rfl, Nat.le_of_ble_eq_true rfl⟩) hZ hA hS rfl hl.1 rfl (Nat.le_of_ble_eq_true rfl) dL_asks_78 (show 14 * b + 2 * i1 + 1 ≤ 64 by omega) (show 84 * b + 12 * i1 + 6 ≤ 400 by omega) (fun r Nx Sx tr H locs hp hZ hS => ?_)
            obtain ⟨rfl, eN, eS⟩ := hp
            have hk_78 : sj_curve N S ((nI i1)) ((nI b)) ((nI v)) = 0 := gk_ttt (by simp only [sA_curve, Bool.and_eq_true, decide_eq_true_eq, gb_nI (show i1 < 2 ^ 31 by omega), gn_nI (show i1 < 2 ^ 31 by omega), gb_nI (show b < 2 ^ 31 by omega), gn_nI (show b < 2 ^ 31 by omega), gb_nI (show v < 2 ^ 31 by omega), gn_nI (show v < 2 ^ 31 by omega)] <;> omega) (by simp only [sB_curve, Bool.and_eq_true, decide_eq_true_eq, gb_nI (show i1 < 2 ^ 31 by omega), gn_nI (show i1 < 2 ^ 31 by omega), gb_nI (show b < 2 ^ 31 by omega), gn_nI (show b < 2 ^ 31 by omega), gb_nI (show v < 2 ^ 31 by omega), gn_nI (show v < 2 ^ 31 by omega)] <;> omega) rfl
            rw [hk_78] at eN eS
            have eN : Nx = sN_curve N S ((nI i1)) ((nI b)) ((nI v)) := eN
            have eS : Sx = sS_curve N S ((nI i1)) ((nI b)) ((nI v)) := eS
            rw [eN, eS] at hZ
            rw [hk_78, gRes_0]
            have hR_78 : sR_curve N S ((nI i1)) ((nI b)) ((nI v)) = sp_curve S i1 b v := by simp only [sR_curve, gn_nI (show i1 < 2 ^ 31 by omega), gn_nI (show b < 2 ^ 31 by omega), gn_nI (show v < 2 ^ 31 by omega)]
            rw [hR_78]
            have hZ : zAt D q a cI N S tr N S A s H := hZ
            refine lv_iload G.1 G.2.1 dL_asks_81 (lv_at hl 0 rfl) ?_
            refine gn_nez G (by omega) (tgt := 91) dL_asks_83 (by decide) (fun h_83 => ?_) (fun h => absurd h (by omega))
            refine lv_iload G.1 G.2.1 dL_asks_91 (lv_at hl 3 rfl) ?_
            refine gn_nez G (by omega) (tgt := 101) dL_asks_93 (by decide) (fun h_93 => ?_) (fun h => absurd h (by omega))
            refine lv_aload G.1 G.2.1 dL_asks_101 (lv_at hl 9 rfl) ?_
            refine lv_bipush (v := nI 15) G.1 G.2.1 dL_asks_103 (by decide) ?_
            refine lv_iload G.1 G.2.1 dL_asks_105 (lv_at hl 1 rfl) ?_
            refine gn_imul G dL_asks_107 ?_
            refine lv_iconst (v := nI 5) G.1 G.2.1 dL_asks_108 (by decide) ?_
            refine lv_iload G.1 G.2.1 dL_asks_109 (lv_at hl 2 rfl) ?_
            refine gn_imul G dL_asks_111 ?_
            refine gn_iadd G dL_asks_112 ?_
            refine lv_iload G.1 G.2.1 dL_asks_113 (lv_at hl 4 rfl) ?_
            refine gc_s (As := [.ref (a 1), .int (nI ((15 * i1) + (5 * b))), .int (nI v)]) (rest := [.int (nI (sp_curve S i1 b v))]) G.fix (mL_between l D (a 1) cI 45 (S 1) ((15 * i1) + (5 * b)) v (by omega) (by decide) (by omega) ok1) (va_cwS 3 G.2.2.2.2.2.1 gL_asks_L_between rfl rfl rfl (by decide +kernel) ⟨Nat.le_of_ble_eq_true rfl, Nat.le_of_ble_eq_true rfl⟩) rAt_blind (fun U hU hW => by rw [hU]; exact (hZ.r.row 1 rfl).moved hW) rfl hl.1 rfl (Nat.le_of_ble_eq_true rfl) dL_asks_115 (show 14 * b + 2 * i1 + 1 ≤ 64 by omega) (show 84 * b + 12 * i1 + 6 ≤ 400 by omega) (fun r hr => ?_)
            subst hr
            rw [show (15 * i1) + (5 * b) = (i1 * 3 + b) * 5 from by omega]
            have hv_115 := sp_btw_le (g := S 1) (o := (i1 * 3 + b) * 5) (v := v) ok1 (by omega)
            have hv2_115 : sp_curve S i1 b v ≤ 255 := hv_115
            rw [show sp_btw (S 1) ((i1 * 3 + b) * 5) v = sp_curve S i1 b v from rfl]
            refine gn_ne G (by omega) (by omega) (tgt := 169) dL_asks_118 (by decide) (fun h => absurd rfl h) (fun h_118 => ?_)
            refine lv_aload_n G.1 G.2.1 dL_asks_121 rfl (lv_at hl 5 rfl) ?_
            refine lv_iconst (v := nI 1) G.1 G.2.1 dL_asks_122 (by decide) ?_
            refine lv_iload G.1 G.2.1 dL_asks_123 (lv_at hl 1 rfl) ?_
            refine lv_iload G.1 G.2.1 dL_asks_125 (lv_at hl 2 rfl) ?_
            refine lv_iload G.1 G.2.1 dL_asks_127 (lv_at hl 4 rfl) ?_
            refine gz_wrap (As := [.ref (q 0), .int (nI 1), .int (nI i1), .int (nI b), .int (nI v)]) (rest := []) G.fix (mL_of_taken l hst D q cI N S tr _ hok hinv ((nI i1)) ((nI b)) ((nI v))) (vx_cwSW 5 G.2.2.2.2.2.1 gL_asks_L_of rfl rfl rfl (by decide +kernel) ⟨Nat.le_of_ble_eq_true rfl, Nat.le_of_ble_eq_true rfl⟩) hZ hA hS rfl hl.1 rfl (Nat.le_of_ble_eq_true rfl) dL_asks_129 (show 14 * b + 2 * i1 + 1 + 1 ≤ 64 by omega) (show 84 * b + 12 * i1 + 6 + 6 ≤ 400 by omega) (fun r Nx Sx tr H locs hp hZ hS => ?_)
            obtain ⟨rfl, eN, eS⟩ := hp
            have hk_129 : sj_taken N S ((nI i1)) ((nI b)) ((nI v)) = 0 := gk_ttt (by simp only [sA_taken, Bool.and_eq_true, decide_eq_true_eq, gb_nI (show i1 < 2 ^ 31 by omega), gn_nI (show i1 < 2 ^ 31 by omega), gb_nI (show b < 2 ^ 31 by omega), gn_nI (show b < 2 ^ 31 by omega), gb_nI (show v < 2 ^ 31 by omega), gn_nI (show v < 2 ^ 31 by omega)] <;> omega) (by simp only [sB_taken, Bool.and_eq_true, decide_eq_true_eq, gb_nI (show i1 < 2 ^ 31 by omega), gn_nI (show i1 < 2 ^ 31 by omega), gb_nI (show b < 2 ^ 31 by omega), gn_nI (show b < 2 ^ 31 by omega), gb_nI (show v < 2 ^ 31 by omega), gn_nI (show v < 2 ^ 31 by omega)] <;> omega) rfl
            rw [hk_129] at eN eS
            have eN : Nx = sN_taken N S ((nI i1)) ((nI b)) ((nI v)) := eN
            have eS : Sx = sS_taken N S ((nI i1)) ((nI b)) ((nI v)) := eS
            rw [eN, eS] at hZ
            rw [hk_129, gRes_0]
            have hR_129 : sR_taken N S ((nI i1)) ((nI b)) ((nI v)) = sp_tk S i1 b v := by simp only [sR_taken, gn_nI (show i1 < 2 ^ 31 by omega), gn_nI (show b < 2 ^ 31 by omega), gn_nI (show v < 2 ^ 31 by omega)]
            rw [hR_129]
            have hZ : zAt D q a cI N S tr N S A s H := hZ
            refine lv_iload G.1 G.2.1 dL_asks_132 (lv_at hl 0 rfl) ?_
            refine gn_nez G (by omega) (tgt := 142) dL_asks_134 (by decide) (fun h_134 => ?_) (fun h => absurd h (by omega))
            refine lv_iload G.1 G.2.1 dL_asks_142 (lv_at hl 3 rfl) ?_
            refine gn_nez G (by omega) (tgt := 152) dL_asks_144 (by decide) (fun h_144 => ?_) (fun h => absurd h (by omega))
            refine lv_aload_n G.1 G.2.1 dL_asks_152 rfl (lv_at hl 8 rfl) ?_
            refine lv_aload G.1 G.2.1 dL_asks_153 (lv_at hl 9 rfl) ?_
            refine lv_aload G.1 G.2.1 dL_asks_155 (lv_at hl 10 rfl) ?_
            refine lv_iload G.1 G.2.1 dL_asks_157 (lv_at hl 1 rfl) ?_
            refine lv_iload G.1 G.2.1 dL_asks_159 (lv_at hl 2 rfl) ?_
            refine lv_iload G.1 G.2.1 dL_asks_161 (lv_at hl 4 rfl) ?_
            refine gc_s (As := [.ref (a 0), .ref (a 1), .ref (a 2), .int (nI i1), .int (nI b), .int (nI v)]) (rest := [.int (nI (sp_tk S i1 b v))]) G.fix (mL_taken l D a cI N S hok i1 b v (by omega) (by omega) (by omega)) (va_cwS 6 G.2.2.2.2.2.1 gL_asks_L_taken rfl rfl rfl (by decide +kernel) ⟨Nat.le_of_ble_eq_true rfl, Nat.le_of_ble_eq_true rfl⟩) lrAt_blind (fun U hU hW => by rw [hU]; exact hZ.r.moved hW) rfl hl.1 rfl (Nat.le_of_ble_eq_true rfl) dL_asks_163 (show 14 * b + 2 * i1 + 1 + 1 ≤ 64 by omega) (show 84 * b + 12 * i1 + 6 + 6 ≤ 400 by omega) (fun r hr => ?_)
            subst hr
            have hv_163 := sp_tk_le (p := i1) (b := b) (v := v) hok (by omega)
            refine gn_eq G (by omega) (by omega) (tgt := 171) dL_asks_166 (by decide) (fun h_166 => ?_) (fun h => absurd rfl h)
            refine gn_iinc (lv' := [(12, .int (nI (i1 + 1))), (13, .int (nI 1)), (11, .int (nI b)), (10, .int (nI 1)), (9, .int (nI v)), (0, .ref (q 0)), (1, .int w0), (2, .int (nI i)), (3, .ref (a 0)), (4, .ref (a 1)), (5, .ref (a 2)), (6, .ref (a 3)), (7, .ref (a 4)), (8, .ref (a 5))]) (n := 1) G dL_asks_171 hl (k := 1) rfl (by decide) rfl (fun ls hl => ?_)
            refine lv_goto (tgt := 41) G.1 G.2.1 dL_asks_174 (by decide) ?_
            refine W.widen (k := 14 * b + 2 * ((i1 + 1))) (n := 84 * b + 12 * ((i1 + 1))) (show 14 * b + 2 * i1 + 1 + 1 ≤ 14 * b + 2 * ((i1 + 1)) by omega) (show 84 * b + 12 * i1 + 6 + 6 ≤ 84 * b + 12 * ((i1 + 1)) by omega) ?_
            exact kk41 _ _ _ ⟨_, hZ, hS, lv_sub hl [0, 2, 3, 4, 5, 6, 7, 8, 9, 10, 11, 12, 13] rfl⟩
          · refine gj_x (fun x => x = (nI 0)) 68 [] (fun x hx => ?_) (fun K_68 => ?_)
            · subst hx
              refine lv_istore (lv' := [(13, .int (nI 0)), (12, .int (nI i1)), (11, .int (nI b)), (10, .int (nI 1)), (9, .int (nI v)), (0, .ref (q 0)), (1, .int w0), (2, .int (nI i)), (3, .ref (a 0)), (4, .ref (a 1)), (5, .ref (a 2)), (6, .ref (a 3)), (7, .ref (a 4)), (8, .ref (a 5))]) G.1 G.2.1 dL_asks_68 hl (by decide) rfl (fun ls hl => ?_)
              refine lv_aload_n G.1 G.2.1 dL_asks_70 rfl (lv_at hl 5 rfl) ?_
              refine lv_iconst (v := nI 0) G.1 G.2.1 dL_asks_71 (by decide) ?_
              refine lv_iload G.1 G.2.1 dL_asks_72 (lv_at hl 1 rfl) ?_
              refine lv_iload G.1 G.2.1 dL_asks_74 (lv_at hl 2 rfl) ?_
              refine lv_iload G.1 G.2.1 dL_asks_76 (lv_at hl 4 rfl) ?_
              refine gz_wrap (As := [.ref (q 0), .int (nI 0), .int (nI i1), .int (nI b), .int (nI v)]) (rest := []) G.fix (mL_of_curve l hst D q cI N S tr _ hok hinv ((nI i1)) ((nI b)) ((nI v))) (vx_cwSW 5 G.2.2.2.2.2.1 gL_asks_L_of rfl rfl rfl (by decide +kernel) ⟨Nat.le_of_ble_eq_true rfl, Nat.le_of_ble_eq_true rfl⟩) hZ hA hS rfl hl.1 rfl (Nat.le_of_ble_eq_true rfl) dL_asks_78 (show 14 * b + 2 * i1 + 1 ≤ 64 by omega) (show 84 * b + 12 * i1 + 6 ≤ 400 by omega) (fun r Nx Sx tr H locs hp hZ hS => ?_)
              obtain ⟨rfl, eN, eS⟩ := hp
              have hk_78 : sj_curve N S ((nI i1)) ((nI b)) ((nI v)) = 1 := gk_f (by apply Bool.eq_false_iff.mpr; intro h; simp only [sA_curve, Bool.and_eq_true, decide_eq_true_eq, gb_nI (show i1 < 2 ^ 31 by omega), gn_nI (show i1 < 2 ^ 31 by omega), gb_nI (show b < 2 ^ 31 by omega), gn_nI (show b < 2 ^ 31 by omega), gb_nI (show v < 2 ^ 31 by omega), gn_nI (show v < 2 ^ 31 by omega)] at h <;> omega)
              rw [hk_78] at eN eS
              have eN : Nx = N := eN
              have eS : Sx = S := eS
              rw [eN, eS] at hZ
              rw [hk_78, gRes_1]
              refine lv_iload G.1 G.2.1 dL_asks_81 (lv_at hl 0 rfl) ?_
              refine gn_nez G (by omega) (tgt := 91) dL_asks_83 (by decide) (fun h => absurd rfl h) (fun h_83 => ?_)
              refine lv_bipush (v := -101) G.1 G.2.1 dL_asks_86 (by decide) ?_
              refine lv_goto (tgt := 118) G.1 G.2.1 dL_asks_88 (by decide) ?_
              refine lv_icmp_ne (tgt := 169) G.1 G.2.1 dL_asks_118 (by decide) (fun h => absurd rfl h) (fun h_118 => ?_)
              refine lv_aload_n G.1 G.2.1 dL_asks_121 rfl (lv_at hl 5 rfl) ?_
              refine lv_iconst (v := nI 1) G.1 G.2.1 dL_asks_122 (by decide) ?_
              refine lv_iload G.1 G.2.1 dL_asks_123 (lv_at hl 1 rfl) ?_
              refine lv_iload G.1 G.2.1 dL_asks_125 (lv_at hl 2 rfl) ?_
              refine lv_iload G.1 G.2.1 dL_asks_127 (lv_at hl 4 rfl) ?_
              refine gz_wrap (As := [.ref (q 0), .int (nI 1), .int (nI i1), .int (nI b), .int (nI v)]) (rest := []) G.fix (mL_of_taken l hst D q cI N S tr _ hok hinv ((nI i1)) ((nI b)) ((nI v))) (vx_cwSW 5 G.2.2.2.2.2.1 gL_asks_L_of rfl rfl rfl (by decide +kernel) ⟨Nat.le_of_ble_eq_true rfl, Nat.le_of_ble_eq_true rfl⟩) hZ hA hS rfl hl.1 rfl (Nat.le_of_ble_eq_true rfl) dL_asks_129 (show 14 * b + 2 * i1 + 1 + 1 ≤ 64 by omega) (show 84 * b + 12 * i1 + 6 + 6 ≤ 400 by omega) (fun r Nx Sx tr H locs hp hZ hS => ?_)
              obtain ⟨rfl, eN, eS⟩ := hp
              have hk_129 : sj_taken N S ((nI i1)) ((nI b)) ((nI v)) = 1 := gk_f (by apply Bool.eq_false_iff.mpr; intro h; simp only [sA_taken, Bool.and_eq_true, decide_eq_true_eq, gb_nI (show i1 < 2 ^ 31 by omega), gn_nI (show i1 < 2 ^ 31 by omega), gb_nI (show b < 2 ^ 31 by omega), gn_nI (show b < 2 ^ 31 by omega), gb_nI (show v < 2 ^ 31 by omega), gn_nI (show v < 2 ^ 31 by omega)] at h <;> omega)
              rw [hk_129] at eN eS
              have eN : Nx = N := eN
              have eS : Sx = S := eS
              rw [eN, eS] at hZ
              rw [hk_129, gRes_1]
              refine lv_iload G.1 G.2.1 dL_asks_132 (lv_at hl 0 rfl) ?_
              refine gn_nez G (by omega) (tgt := 142) dL_asks_134 (by decide) (fun h => absurd rfl h) (fun h_134 => ?_)
              refine lv_bipush (v := -101) G.1 G.2.1 dL_asks_137 (by decide) ?_
              refine lv_goto (tgt := 166) G.1 G.2.1 dL_asks_139 (by decide) ?_
              refine lv_icmp_eq (tgt := 171) G.1 G.2.1 dL_asks_166 (by decide) (fun h_166 => ?_) (fun h => absurd rfl h)
              refine gn_iinc (lv' := [(12, .int (nI (i1 + 1))), (13, .int (nI 0)), (11, .int (nI b)), (10, .int (nI 1)), (9, .int (nI v)), (0, .ref (q 0)), (1, .int w0), (2, .int (nI i)), (3, .ref (a 0)), (4, .ref (a 1)), (5, .ref (a 2)), (6, .ref (a 3)), (7, .ref (a 4)), (8, .ref (a 5))]) (n := 1) G dL_asks_171 hl (k := 1) rfl (by decide) rfl (fun ls hl => ?_)
              refine lv_goto (tgt := 41) G.1 G.2.1 dL_asks_174 (by decide) ?_
              refine W.widen (k := 14 * b + 2 * ((i1 + 1))) (n := 84 * b + 12 * ((i1 + 1))) (show 14 * b + 2 * i1 + 1 + 1 ≤ 14 * b + 2 * ((i1 + 1)) by omega) (show 84 * b + 12 * i1 + 6 + 6 ≤ 84 * b + 12 * ((i1 + 1)) by omega) ?_
              exact kk41 _ _ _ ⟨_, hZ, hS, lv_sub hl [0, 2, 3, 4, 5, 6, 7, 8, 9, 10, 11, 12, 13] rfl⟩
            · refine lv_iload G.1 G.2.1 dL_asks_49 (lv_at hl 0 rfl) ?_
              refine lv_aload_n G.1 G.2.1 dL_asks_51 rfl (lv_at hl 7 rfl) ?_
              refine lv_iconst (v := nI 0) G.1 G.2.1 dL_asks_52 (by decide) ?_
              refine gl_ald (k := 0) (len := 11) (F := fC N S) G hZ.r rfl (by omega) (by decide) dL_asks_53 ?_
              rw [fC_0]
              refine gn_ge G (by omega) (by omega) (tgt := 67) dL_asks_54 (by decide) (fun h_54 => ?_) (fun h_54 => ?_)
              · refine lv_iconst (v := nI 0) G.1 G.2.1 dL_asks_67 (by decide) ?_
                exact K_68 _ (rfl)
              · refine lv_iload G.1 G.2.1 dL_asks_57 (lv_at hl 1 rfl) ?_
                refine lv_iconst (v := nI 3) G.1 G.2.1 dL_asks_59 (by decide) ?_
                refine gn_ge G (by omega) (by omega) (tgt := 67) dL_asks_60 (by decide) (fun h_60 => ?_) (fun h => absurd h (by omega))
                refine lv_iconst (v := nI 0) G.1 G.2.1 dL_asks_67 (by decide) ?_
                exact K_68 _ (rfl)
        · obtain ⟨tr, hZ, hS, hl⟩ := hI
          refine lv_iload G.1 G.2.1 dL_asks_41 (lv_at hl 0 rfl) ?_
          refine lv_aload_n G.1 G.2.1 dL_asks_43 rfl (lv_at hl 7 rfl) ?_
          refine lv_iconst (v := nI 0) G.1 G.2.1 dL_asks_44 (by decide) ?_
          refine gl_ald (k := 0) (len := 11) (F := fC N S) G hZ.r rfl (by omega) (by decide) dL_asks_45 ?_
          rw [fC_0]
          refine gn_gt G (by omega) (by omega) (tgt := 177) dL_asks_46 (by decide) (fun h_46 => ?_) (fun h => absurd h (by omega))
          refine lv_iconst (v := nI 0) G.1 G.2.1 dL_asks_177 (by decide) ?_
          refine lv_istore (lv' := [(12, .int (nI 0)), (11, .int (nI b)), (10, .int (nI 1)), (9, .int (nI v)), (0, .ref (q 0)), (1, .int w0), (2, .int (nI i)), (3, .ref (a 0)), (4, .ref (a 1)), (5, .ref (a 2)), (6, .ref (a 3)), (7, .ref (a 4)), (8, .ref (a 5))]) G.1 G.2.1 dL_asks_178 hl (by decide) rfl (fun ls hl => ?_)
          refine gj_loopW (fun i2 H locs ls => ∃ tr : Nat → Nat, zAt D q a cI N S tr N S A s H ∧ va_S A s.heap H locs ∧ lv_has ls 20 [(12, .int (nI i2)), (11, .int (nI b)), (10, .int (nI 1)), (9, .int (nI v)), (0, .ref (q 0)), (1, .int w0), (2, .int (nI i)), (3, .ref (a 0)), (4, .ref (a 1)), (5, .ref (a 2)), (6, .ref (a 3)), (7, .ref (a 4)), (8, .ref (a 5))]) (fun i2 => 14 * b + 2 * (N 0 + 1) + 2 * i2) (fun i2 => 84 * b + 12 * (N 0 + 1) + 12 * i2) (N 5 + 1) ⟨_, hZ, hS, lv_sub hl [0, 1, 2, 3, 4, 5, 6, 7, 8, 9, 10, 11, 12] rfl⟩ (show 14 * b + 2 * ((N 0 + 1)) ≤ 14 * b + 2 * (N 0 + 1) + 2 * 0 by omega) (show 84 * b + 12 * ((N 0 + 1)) ≤ 84 * b + 12 * (N 0 + 1) + 12 * 0 by omega) (fun i2 H locs ls hj180 hI kk180 => ?_) (fun H locs ls hI => ?_)
          · obtain ⟨tr, hZ, hS, hl⟩ := hI
            refine lv_iload G.1 G.2.1 dL_asks_180 (lv_at hl 0 rfl) ?_
            refine lv_aload_n G.1 G.2.1 dL_asks_182 rfl (lv_at hl 7 rfl) ?_
            refine lv_iconst (v := nI 1) G.1 G.2.1 dL_asks_183 (by decide) ?_
            refine gl_ald (k := 0) (len := 11) (F := fC N S) G hZ.r rfl (by omega) (by decide) dL_asks_184 ?_
            rw [fC_1]
            refine gn_gt G (by omega) (by omega) (tgt := 332) dL_asks_185 (by decide) (fun h => absurd h (by omega)) (fun h_185 => ?_)
            by_cases hcs : i2 < N 5 ∧ b < 3
            · have hb9 : S 9 i2 = sp_bit (N 9) i2 := (hinv.2.2.2.2.2.1 i2 (by omega)).1
              have hb9b := sp_bit_lt (N 9) i2
              refine lv_iload G.1 G.2.1 dL_asks_188 (lv_at hl 0 rfl) ?_
              refine lv_aload_n G.1 G.2.1 dL_asks_190 rfl (lv_at hl 7 rfl) ?_
              refine lv_iconst (v := nI 1) G.1 G.2.1 dL_asks_191 (by decide) ?_
              refine gl_ald (k := 0) (len := 11) (F := fC N S) G hZ.r rfl (by omega) (by decide) dL_asks_192 ?_
              rw [fC_1]
              refine gn_ge G (by omega) (by omega) (tgt := 206) dL_asks_193 (by decide) (fun h => absurd h (by omega)) (fun h_193 => ?_)
              refine lv_iload G.1 G.2.1 dL_asks_196 (lv_at hl 1 rfl) ?_
              refine lv_iconst (v := nI 3) G.1 G.2.1 dL_asks_198 (by decide) ?_
              refine gn_ge G (by omega) (by omega) (tgt := 206) dL_asks_199 (by decide) (fun h => absurd h (by omega)) (fun h_199 => ?_)
              refine lv_iconst (v := nI 1) G.1 G.2.1 dL_asks_202 (by decide) ?_
              refine lv_goto (tgt := 207) G.1 G.2.1 dL_asks_203 (by decide) ?_
              refine lv_istore (lv' := [(13, .int (nI 1)), (12, .int (nI i2)), (11, .int (nI b)), (10, .int (nI 1)), (9, .int (nI v)), (0, .ref (q 0)), (1, .int w0), (2, .int (nI i)), (3, .ref (a 0)), (4, .ref (a 1)), (5, .ref (a 2)), (6, .ref (a 3)), (7, .ref (a 4)), (8, .ref (a 5))]) G.1 G.2.1 dL_asks_207 hl (by decide) rfl (fun ls hl => ?_)
              refine lv_aload_n G.1 G.2.1 dL_asks_209 rfl (lv_at hl 5 rfl) ?_
              refine lv_iconst (v := nI 2) G.1 G.2.1 dL_asks_210 (by decide) ?_
              refine lv_iload G.1 G.2.1 dL_asks_211 (lv_at hl 1 rfl) ?_
              refine lv_iload G.1 G.2.1 dL_asks_213 (lv_at hl 2 rfl) ?_
              refine lv_iload G.1 G.2.1 dL_asks_215 (lv_at hl 4 rfl) ?_
              refine gz_wrap (As := [.ref (q 0), .int (nI 2), .int (nI i2), .int (nI b), .int (nI v)]) (rest := []) G.fix (mL_of_through l hst D q cI N S tr _ hok hinv ((nI i2)) ((nI b)) ((nI v))) (vx_cwSW 5 G.2.2.2.2.2.1 gL_asks_L_of rfl rfl rfl (by decide +kernel) ⟨Nat.le_of_ble_eq_true rfl, Nat.le_of_ble_eq_true rfl⟩) hZ hA hS rfl hl.1 rfl (Nat.le_of_ble_eq_true rfl) dL_asks_217 (show 14 * b + 2 * (N 0 + 1) + 2 * i2 + 1 ≤ 64 by omega) (show 84 * b + 12 * (N 0 + 1) + 12 * i2 + 6 ≤ 400 by omega) (fun r Nx Sx tr H locs hp hZ hS => ?_)
              obtain ⟨rfl, eN, eS⟩ := hp
              have hk_217 : sj_through N S ((nI i2)) ((nI b)) ((nI v)) = 0 := gk_ttt (by simp only [sA_through, Bool.and_eq_true, decide_eq_true_eq, gb_nI (show i2 < 2 ^ 31 by omega), gn_nI (show i2 < 2 ^ 31 by omega), gb_nI (show b < 2 ^ 31 by omega), gn_nI (show b < 2 ^ 31 by omega), gb_nI (show v < 2 ^ 31 by omega), gn_nI (show v < 2 ^ 31 by omega)] <;> omega) (by simp only [sB_through, Bool.and_eq_true, decide_eq_true_eq, gb_nI (show i2 < 2 ^ 31 by omega), gn_nI (show i2 < 2 ^ 31 by omega), gb_nI (show b < 2 ^ 31 by omega), gn_nI (show b < 2 ^ 31 by omega), gb_nI (show v < 2 ^ 31 by omega), gn_nI (show v < 2 ^ 31 by omega)] <;> omega) rfl
              rw [hk_217] at eN eS
              have eN : Nx = sN_through N S ((nI i2)) ((nI b)) ((nI v)) := eN
              have eS : Sx = sS_through N S ((nI i2)) ((nI b)) ((nI v)) := eS
              rw [eN, eS] at hZ
              rw [hk_217, gRes_0]
              have hR_217 : sR_through N S ((nI i2)) ((nI b)) ((nI v)) = sp_pass S i2 b v := by simp only [sR_through, gn_nI (show i2 < 2 ^ 31 by omega), gn_nI (show b < 2 ^ 31 by omega), gn_nI (show v < 2 ^ 31 by omega)]
              rw [hR_217]
              have hZ : zAt D q a cI N S tr N S A s H := hZ
              refine lv_iload G.1 G.2.1 dL_asks_220 (lv_at hl 0 rfl) ?_
              refine gn_nez G (by omega) (tgt := 230) dL_asks_222 (by decide) (fun h_222 => ?_) (fun h => absurd h (by omega))
              refine lv_iload G.1 G.2.1 dL_asks_230 (lv_at hl 3 rfl) ?_
              refine gn_nez G (by omega) (tgt := 240) dL_asks_232 (by decide) (fun h_232 => ?_) (fun h => absurd h (by omega))
              refine lv_aload_n G.1 G.2.1 dL_asks_240 rfl (lv_at hl 8 rfl) ?_
              refine lv_aload G.1 G.2.1 dL_asks_241 (lv_at hl 9 rfl) ?_
              refine lv_aload G.1 G.2.1 dL_asks_243 (lv_at hl 10 rfl) ?_
              refine lv_aload G.1 G.2.1 dL_asks_245 (lv_at hl 11 rfl) ?_
              refine lv_iload G.1 G.2.1 dL_asks_247 (lv_at hl 1 rfl) ?_
              refine lv_iload G.1 G.2.1 dL_asks_249 (lv_at hl 2 rfl) ?_
              refine lv_iload G.1 G.2.1 dL_asks_251 (lv_at hl 4 rfl) ?_
              refine gc_s (As := [.ref (a 0), .ref (a 1), .ref (a 2), .ref (a 3), .int (nI i2), .int (nI b), .int (nI v)]) (rest := [.int (nI (sp_pass S i2 b v))]) G.fix (mL_through l D a cI N S hok h6 i2 b v (by omega) (by omega) (by omega)) (va_cwS 7 G.2.2.2.2.2.1 gL_asks_L_through rfl rfl rfl (by decide +kernel) ⟨Nat.le_of_ble_eq_true rfl, Nat.le_of_ble_eq_true rfl⟩) lrAt_blind (fun U hU hW => by rw [hU]; exact hZ.r.moved hW) rfl hl.1 rfl (Nat.le_of_ble_eq_true rfl) dL_asks_253 (show 14 * b + 2 * (N 0 + 1) + 2 * i2 + 1 ≤ 64 by omega) (show 84 * b + 12 * (N 0 + 1) + 12 * i2 + 6 ≤ 400 by omega) (fun r hr => ?_)
              subst hr
              have hv_253 := sp_pass_le (ch := i2) (b := b) (v := v) hok (by omega)
              refine gn_ne G (by omega) (by omega) (tgt := 324) dL_asks_256 (by decide) (fun h => absurd rfl h) (fun h_256 => ?_)
              by_cases hj9 : sp_bit (N 9) i2 = 1
              · refine lv_aload_n G.1 G.2.1 dL_asks_259 rfl (lv_at hl 5 rfl) ?_
                refine lv_iconst (v := nI 3) G.1 G.2.1 dL_asks_260 (by decide) ?_
                refine lv_iload G.1 G.2.1 dL_asks_261 (lv_at hl 1 rfl) ?_
                refine lv_iload G.1 G.2.1 dL_asks_263 (lv_at hl 2 rfl) ?_
                refine lv_iload G.1 G.2.1 dL_asks_265 (lv_at hl 4 rfl) ?_
                refine gz_wrap (As := [.ref (q 0), .int (nI 3), .int (nI i2), .int (nI b), .int (nI v)]) (rest := []) G.fix (mL_of_joined l hst D q cI N S tr _ hok hinv ((nI i2)) ((nI b)) ((nI v))) (vx_cwSW 5 G.2.2.2.2.2.1 gL_asks_L_of rfl rfl rfl (by decide +kernel) ⟨Nat.le_of_ble_eq_true rfl, Nat.le_of_ble_eq_true rfl⟩) hZ hA hS rfl hl.1 rfl (Nat.le_of_ble_eq_true rfl) dL_asks_267 (show 14 * b + 2 * (N 0 + 1) + 2 * i2 + 1 + 1 ≤ 64 by omega) (show 84 * b + 12 * (N 0 + 1) + 12 * i2 + 6 + 6 ≤ 400 by omega) (fun r Nx Sx tr H locs hp hZ hS => ?_)
                obtain ⟨rfl, eN, eS⟩ := hp
                have hk_267 : sj_joined N S ((nI i2)) ((nI b)) ((nI v)) = 0 := gk_ttt (by simp only [sA_joined, Bool.and_eq_true, decide_eq_true_eq, gb_nI (show i2 < 2 ^ 31 by omega), gn_nI (show i2 < 2 ^ 31 by omega), gb_nI (show b < 2 ^ 31 by omega), gn_nI (show b < 2 ^ 31 by omega), gb_nI (show v < 2 ^ 31 by omega), gn_nI (show v < 2 ^ 31 by omega)] <;> omega) (by simp only [sB_joined, Bool.and_eq_true, decide_eq_true_eq, gb_nI (show i2 < 2 ^ 31 by omega), gn_nI (show i2 < 2 ^ 31 by omega), gb_nI (show b < 2 ^ 31 by omega), gn_nI (show b < 2 ^ 31 by omega), gb_nI (show v < 2 ^ 31 by omega), gn_nI (show v < 2 ^ 31 by omega)] <;> omega) (by simp only [sC_joined, Bool.and_eq_true, decide_eq_true_eq, gb_nI (show i2 < 2 ^ 31 by omega), gn_nI (show i2 < 2 ^ 31 by omega), gb_nI (show b < 2 ^ 31 by omega), gn_nI (show b < 2 ^ 31 by omega), gb_nI (show v < 2 ^ 31 by omega), gn_nI (show v < 2 ^ 31 by omega)] <;> omega)
                rw [hk_267] at eN eS
                have eN : Nx = sN_joined N S ((nI i2)) ((nI b)) ((nI v)) := eN
                have eS : Sx = sS_joined N S ((nI i2)) ((nI b)) ((nI v)) := eS
                rw [eN, eS] at hZ
                rw [hk_267, gRes_0]
                have hR_267 : sR_joined N S ((nI i2)) ((nI b)) ((nI v)) = sp_btw (S 8) ((i2 * 3 + b) * 5) v := by simp only [sR_joined, gn_nI (show i2 < 2 ^ 31 by omega), gn_nI (show b < 2 ^ 31 by omega), gn_nI (show v < 2 ^ 31 by omega)]
                rw [hR_267]
                have hZ : zAt D q a cI N S tr N S A s H := hZ
                refine lv_iload G.1 G.2.1 dL_asks_270 (lv_at hl 0 rfl) ?_
                refine gn_nez G (by omega) (tgt := 280) dL_asks_272 (by decide) (fun h_272 => ?_) (fun h => absurd h (by omega))
                refine lv_iload G.1 G.2.1 dL_asks_280 (lv_at hl 3 rfl) ?_
                refine gn_nez G (by omega) (tgt := 290) dL_asks_282 (by decide) (fun h_282 => ?_) (fun h => absurd h (by omega))
                refine lv_aload_n G.1 G.2.1 dL_asks_290 rfl (lv_at hl 8 rfl) ?_
                refine lv_iconst (v := nI 4) G.1 G.2.1 dL_asks_291 (by decide) ?_
                refine lv_iload G.1 G.2.1 dL_asks_292 (lv_at hl 1 rfl) ?_
                refine gn_iadd G dL_asks_294 ?_
                refine gl_ald (k := 0) (len := 11) (F := fC N S) G hZ.r rfl (by omega) (by decide) dL_asks_295 ?_
                rw [fC_9 (by omega)]
                refine gn_nez G (by omega) (tgt := 304) dL_asks_296 (by decide) (fun h_296 => ?_) (fun h => absurd h (by omega))
                refine lv_aload G.1 G.2.1 dL_asks_304 (lv_at hl 12 rfl) ?_
                refine lv_bipush (v := nI 15) G.1 G.2.1 dL_asks_306 (by decide) ?_
                refine lv_iload G.1 G.2.1 dL_asks_308 (lv_at hl 1 rfl) ?_
                refine gn_imul G dL_asks_310 ?_
                refine lv_iconst (v := nI 5) G.1 G.2.1 dL_asks_311 (by decide) ?_
                refine lv_iload G.1 G.2.1 dL_asks_312 (lv_at hl 2 rfl) ?_
                refine gn_imul G dL_asks_314 ?_
                refine gn_iadd G dL_asks_315 ?_
                refine lv_iload G.1 G.2.1 dL_asks_316 (lv_at hl 4 rfl) ?_
                refine gc_s (As := [.ref (a 4), .int (nI ((15 * i2) + (5 * b))), .int (nI v)]) (rest := [.int (nI (sp_btw (S 8) ((i2 * 3 + b) * 5) v))]) G.fix (mL_between l D (a 4) cI 30 (S 8) ((15 * i2) + (5 * b)) v (by omega) (by decide) (by omega) ok8) (va_cwS 3 G.2.2.2.2.2.1 gL_asks_L_between rfl rfl rfl (by decide +kernel) ⟨Nat.le_of_ble_eq_true rfl, Nat.le_of_ble_eq_true rfl⟩) rAt_blind (fun U hU hW => by rw [hU]; exact (hZ.r.row 4 rfl).moved hW) rfl hl.1 rfl (Nat.le_of_ble_eq_true rfl) dL_asks_318 (show 14 * b + 2 * (N 0 + 1) + 2 * i2 + 1 + 1 ≤ 64 by omega) (show 84 * b + 12 * (N 0 + 1) + 12 * i2 + 6 + 6 ≤ 400 by omega) (fun r hr => ?_)
                subst hr
                rw [show (15 * i2) + (5 * b) = (i2 * 3 + b) * 5 from by omega]
                have hv_318 := sp_btw_le (g := S 8) (o := (i2 * 3 + b) * 5) (v := v) ok8 (by omega)
                refine gn_eq G (by omega) (by omega) (tgt := 326) dL_asks_321 (by decide) (fun h_321 => ?_) (fun h => absurd rfl h)
                refine gn_iinc (lv' := [(12, .int (nI (i2 + 1))), (13, .int (nI 1)), (11, .int (nI b)), (10, .int (nI 1)), (9, .int (nI v)), (0, .ref (q 0)), (1, .int w0), (2, .int (nI i)), (3, .ref (a 0)), (4, .ref (a 1)), (5, .ref (a 2)), (6, .ref (a 3)), (7, .ref (a 4)), (8, .ref (a 5))]) (n := 1) G dL_asks_326 hl (k := 1) rfl (by decide) rfl (fun ls hl => ?_)
                refine lv_goto (tgt := 180) G.1 G.2.1 dL_asks_329 (by decide) ?_
                refine W.widen (k := 14 * b + 2 * (N 0 + 1) + 2 * ((i2 + 1))) (n := 84 * b + 12 * (N 0 + 1) + 12 * ((i2 + 1))) (show 14 * b + 2 * (N 0 + 1) + 2 * i2 + 1 + 1 ≤ 14 * b + 2 * (N 0 + 1) + 2 * ((i2 + 1)) by omega) (show 84 * b + 12 * (N 0 + 1) + 12 * i2 + 6 + 6 ≤ 84 * b + 12 * (N 0 + 1) + 12 * ((i2 + 1)) by omega) ?_
                exact kk180 _ _ _ ⟨_, hZ, hS, lv_sub hl [0, 2, 3, 4, 5, 6, 7, 8, 9, 10, 11, 12, 13] rfl⟩
              · refine lv_aload_n G.1 G.2.1 dL_asks_259 rfl (lv_at hl 5 rfl) ?_
                refine lv_iconst (v := nI 3) G.1 G.2.1 dL_asks_260 (by decide) ?_
                refine lv_iload G.1 G.2.1 dL_asks_261 (lv_at hl 1 rfl) ?_
                refine lv_iload G.1 G.2.1 dL_asks_263 (lv_at hl 2 rfl) ?_
                refine lv_iload G.1 G.2.1 dL_asks_265 (lv_at hl 4 rfl) ?_
                refine gz_wrap (As := [.ref (q 0), .int (nI 3), .int (nI i2), .int (nI b), .int (nI v)]) (rest := []) G.fix (mL_of_joined l hst D q cI N S tr _ hok hinv ((nI i2)) ((nI b)) ((nI v))) (vx_cwSW 5 G.2.2.2.2.2.1 gL_asks_L_of rfl rfl rfl (by decide +kernel) ⟨Nat.le_of_ble_eq_true rfl, Nat.le_of_ble_eq_true rfl⟩) hZ hA hS rfl hl.1 rfl (Nat.le_of_ble_eq_true rfl) dL_asks_267 (show 14 * b + 2 * (N 0 + 1) + 2 * i2 + 1 + 1 ≤ 64 by omega) (show 84 * b + 12 * (N 0 + 1) + 12 * i2 + 6 + 6 ≤ 400 by omega) (fun r Nx Sx tr H locs hp hZ hS => ?_)
                obtain ⟨rfl, eN, eS⟩ := hp
                have hk_267 : sj_joined N S ((nI i2)) ((nI b)) ((nI v)) = 3 := gk_ttf (by simp only [sA_joined, Bool.and_eq_true, decide_eq_true_eq, gb_nI (show i2 < 2 ^ 31 by omega), gn_nI (show i2 < 2 ^ 31 by omega), gb_nI (show b < 2 ^ 31 by omega), gn_nI (show b < 2 ^ 31 by omega), gb_nI (show v < 2 ^ 31 by omega), gn_nI (show v < 2 ^ 31 by omega)] <;> omega) (by simp only [sB_joined, Bool.and_eq_true, decide_eq_true_eq, gb_nI (show i2 < 2 ^ 31 by omega), gn_nI (show i2 < 2 ^ 31 by omega), gb_nI (show b < 2 ^ 31 by omega), gn_nI (show b < 2 ^ 31 by omega), gb_nI (show v < 2 ^ 31 by omega), gn_nI (show v < 2 ^ 31 by omega)] <;> omega) (by apply Bool.eq_false_iff.mpr; intro h; simp only [sC_joined, Bool.and_eq_true, decide_eq_true_eq, gb_nI (show i2 < 2 ^ 31 by omega), gn_nI (show i2 < 2 ^ 31 by omega), gb_nI (show b < 2 ^ 31 by omega), gn_nI (show b < 2 ^ 31 by omega), gb_nI (show v < 2 ^ 31 by omega), gn_nI (show v < 2 ^ 31 by omega)] at h <;> omega)
                rw [hk_267] at eN eS
                have eN : Nx = N := eN
                have eS : Sx = S := eS
                rw [eN, eS] at hZ
                rw [hk_267, gRes_3]
                refine lv_iload G.1 G.2.1 dL_asks_270 (lv_at hl 0 rfl) ?_
                refine gn_nez G (by omega) (tgt := 280) dL_asks_272 (by decide) (fun h_272 => ?_) (fun h => absurd h (by omega))
                refine lv_iload G.1 G.2.1 dL_asks_280 (lv_at hl 3 rfl) ?_
                refine gn_nez G (by omega) (tgt := 290) dL_asks_282 (by decide) (fun h_282 => ?_) (fun h => absurd h (by omega))
                refine lv_aload_n G.1 G.2.1 dL_asks_290 rfl (lv_at hl 8 rfl) ?_
                refine lv_iconst (v := nI 4) G.1 G.2.1 dL_asks_291 (by decide) ?_
                refine lv_iload G.1 G.2.1 dL_asks_292 (lv_at hl 1 rfl) ?_
                refine gn_iadd G dL_asks_294 ?_
                refine gl_ald (k := 0) (len := 11) (F := fC N S) G hZ.r rfl (by omega) (by decide) dL_asks_295 ?_
                rw [fC_9 (by omega)]
                refine gn_nez G (by omega) (tgt := 304) dL_asks_296 (by decide) (fun h => absurd h (by omega)) (fun h_296 => ?_)
                refine lv_bipush (v := -103) G.1 G.2.1 dL_asks_299 (by decide) ?_
                refine lv_goto (tgt := 321) G.1 G.2.1 dL_asks_301 (by decide) ?_
                refine lv_icmp_eq (tgt := 326) G.1 G.2.1 dL_asks_321 (by decide) (fun h_321 => ?_) (fun h => absurd rfl h)
                refine gn_iinc (lv' := [(12, .int (nI (i2 + 1))), (13, .int (nI 1)), (11, .int (nI b)), (10, .int (nI 1)), (9, .int (nI v)), (0, .ref (q 0)), (1, .int w0), (2, .int (nI i)), (3, .ref (a 0)), (4, .ref (a 1)), (5, .ref (a 2)), (6, .ref (a 3)), (7, .ref (a 4)), (8, .ref (a 5))]) (n := 1) G dL_asks_326 hl (k := 1) rfl (by decide) rfl (fun ls hl => ?_)
                refine lv_goto (tgt := 180) G.1 G.2.1 dL_asks_329 (by decide) ?_
                refine W.widen (k := 14 * b + 2 * (N 0 + 1) + 2 * ((i2 + 1))) (n := 84 * b + 12 * (N 0 + 1) + 12 * ((i2 + 1))) (show 14 * b + 2 * (N 0 + 1) + 2 * i2 + 1 + 1 ≤ 14 * b + 2 * (N 0 + 1) + 2 * ((i2 + 1)) by omega) (show 84 * b + 12 * (N 0 + 1) + 12 * i2 + 6 + 6 ≤ 84 * b + 12 * (N 0 + 1) + 12 * ((i2 + 1)) by omega) ?_
                exact kk180 _ _ _ ⟨_, hZ, hS, lv_sub hl [0, 2, 3, 4, 5, 6, 7, 8, 9, 10, 11, 12, 13] rfl⟩
            · refine gj_x (fun x => x = (nI 0)) 207 [] (fun x hx => ?_) (fun K_207 => ?_)
              · subst hx
                refine lv_istore (lv' := [(13, .int (nI 0)), (12, .int (nI i2)), (11, .int (nI b)), (10, .int (nI 1)), (9, .int (nI v)), (0, .ref (q 0)), (1, .int w0), (2, .int (nI i)), (3, .ref (a 0)), (4, .ref (a 1)), (5, .ref (a 2)), (6, .ref (a 3)), (7, .ref (a 4)), (8, .ref (a 5))]) G.1 G.2.1 dL_asks_207 hl (by decide) rfl (fun ls hl => ?_)
                refine lv_aload_n G.1 G.2.1 dL_asks_209 rfl (lv_at hl 5 rfl) ?_
                refine lv_iconst (v := nI 2) G.1 G.2.1 dL_asks_210 (by decide) ?_
                refine lv_iload G.1 G.2.1 dL_asks_211 (lv_at hl 1 rfl) ?_
                refine lv_iload G.1 G.2.1 dL_asks_213 (lv_at hl 2 rfl) ?_
                refine lv_iload G.1 G.2.1 dL_asks_215 (lv_at hl 4 rfl) ?_
                refine gz_wrap (As := [.ref (q 0), .int (nI 2), .int (nI i2), .int (nI b), .int (nI v)]) (rest := []) G.fix (mL_of_through l hst D q cI N S tr _ hok hinv ((nI i2)) ((nI b)) ((nI v))) (vx_cwSW 5 G.2.2.2.2.2.1 gL_asks_L_of rfl rfl rfl (by decide +kernel) ⟨Nat.le_of_ble_eq_true rfl, Nat.le_of_ble_eq_true rfl⟩) hZ hA hS rfl hl.1 rfl (Nat.le_of_ble_eq_true rfl) dL_asks_217 (show 14 * b + 2 * (N 0 + 1) + 2 * i2 + 1 ≤ 64 by omega) (show 84 * b + 12 * (N 0 + 1) + 12 * i2 + 6 ≤ 400 by omega) (fun r Nx Sx tr H locs hp hZ hS => ?_)
                obtain ⟨rfl, eN, eS⟩ := hp
                have hk_217 : sj_through N S ((nI i2)) ((nI b)) ((nI v)) = 1 := gk_f (by apply Bool.eq_false_iff.mpr; intro h; simp only [sA_through, Bool.and_eq_true, decide_eq_true_eq, gb_nI (show i2 < 2 ^ 31 by omega), gn_nI (show i2 < 2 ^ 31 by omega), gb_nI (show b < 2 ^ 31 by omega), gn_nI (show b < 2 ^ 31 by omega), gb_nI (show v < 2 ^ 31 by omega), gn_nI (show v < 2 ^ 31 by omega)] at h <;> omega)
                rw [hk_217] at eN eS
                have eN : Nx = N := eN
                have eS : Sx = S := eS
                rw [eN, eS] at hZ
                rw [hk_217, gRes_1]
                refine lv_iload G.1 G.2.1 dL_asks_220 (lv_at hl 0 rfl) ?_
                refine gn_nez G (by omega) (tgt := 230) dL_asks_222 (by decide) (fun h => absurd rfl h) (fun h_222 => ?_)
                refine lv_bipush (v := -101) G.1 G.2.1 dL_asks_225 (by decide) ?_
                refine lv_goto (tgt := 256) G.1 G.2.1 dL_asks_227 (by decide) ?_
                refine lv_icmp_ne (tgt := 324) G.1 G.2.1 dL_asks_256 (by decide) (fun h => absurd rfl h) (fun h_256 => ?_)
                refine lv_aload_n G.1 G.2.1 dL_asks_259 rfl (lv_at hl 5 rfl) ?_
                refine lv_iconst (v := nI 3) G.1 G.2.1 dL_asks_260 (by decide) ?_
                refine lv_iload G.1 G.2.1 dL_asks_261 (lv_at hl 1 rfl) ?_
                refine lv_iload G.1 G.2.1 dL_asks_263 (lv_at hl 2 rfl) ?_
                refine lv_iload G.1 G.2.1 dL_asks_265 (lv_at hl 4 rfl) ?_
                refine gz_wrap (As := [.ref (q 0), .int (nI 3), .int (nI i2), .int (nI b), .int (nI v)]) (rest := []) G.fix (mL_of_joined l hst D q cI N S tr _ hok hinv ((nI i2)) ((nI b)) ((nI v))) (vx_cwSW 5 G.2.2.2.2.2.1 gL_asks_L_of rfl rfl rfl (by decide +kernel) ⟨Nat.le_of_ble_eq_true rfl, Nat.le_of_ble_eq_true rfl⟩) hZ hA hS rfl hl.1 rfl (Nat.le_of_ble_eq_true rfl) dL_asks_267 (show 14 * b + 2 * (N 0 + 1) + 2 * i2 + 1 + 1 ≤ 64 by omega) (show 84 * b + 12 * (N 0 + 1) + 12 * i2 + 6 + 6 ≤ 400 by omega) (fun r Nx Sx tr H locs hp hZ hS => ?_)
                obtain ⟨rfl, eN, eS⟩ := hp
                have hk_267 : sj_joined N S ((nI i2)) ((nI b)) ((nI v)) = 1 := gk_f (by apply Bool.eq_false_iff.mpr; intro h; simp only [sA_joined, Bool.and_eq_true, decide_eq_true_eq, gb_nI (show i2 < 2 ^ 31 by omega), gn_nI (show i2 < 2 ^ 31 by omega), gb_nI (show b < 2 ^ 31 by omega), gn_nI (show b < 2 ^ 31 by omega), gb_nI (show v < 2 ^ 31 by omega), gn_nI (show v < 2 ^ 31 by omega)] at h <;> omega)
                rw [hk_267] at eN eS
                have eN : Nx = N := eN
                have eS : Sx = S := eS
                rw [eN, eS] at hZ
                rw [hk_267, gRes_1]
                refine lv_iload G.1 G.2.1 dL_asks_270 (lv_at hl 0 rfl) ?_
                refine gn_nez G (by omega) (tgt := 280) dL_asks_272 (by decide) (fun h => absurd rfl h) (fun h_272 => ?_)
                refine lv_bipush (v := -101) G.1 G.2.1 dL_asks_275 (by decide) ?_
                refine lv_goto (tgt := 321) G.1 G.2.1 dL_asks_277 (by decide) ?_
                refine lv_icmp_eq (tgt := 326) G.1 G.2.1 dL_asks_321 (by decide) (fun h_321 => ?_) (fun h => absurd rfl h)
                refine gn_iinc (lv' := [(12, .int (nI (i2 + 1))), (13, .int (nI 0)), (11, .int (nI b)), (10, .int (nI 1)), (9, .int (nI v)), (0, .ref (q 0)), (1, .int w0), (2, .int (nI i)), (3, .ref (a 0)), (4, .ref (a 1)), (5, .ref (a 2)), (6, .ref (a 3)), (7, .ref (a 4)), (8, .ref (a 5))]) (n := 1) G dL_asks_326 hl (k := 1) rfl (by decide) rfl (fun ls hl => ?_)
                refine lv_goto (tgt := 180) G.1 G.2.1 dL_asks_329 (by decide) ?_
                refine W.widen (k := 14 * b + 2 * (N 0 + 1) + 2 * ((i2 + 1))) (n := 84 * b + 12 * (N 0 + 1) + 12 * ((i2 + 1))) (show 14 * b + 2 * (N 0 + 1) + 2 * i2 + 1 + 1 ≤ 14 * b + 2 * (N 0 + 1) + 2 * ((i2 + 1)) by omega) (show 84 * b + 12 * (N 0 + 1) + 12 * i2 + 6 + 6 ≤ 84 * b + 12 * (N 0 + 1) + 12 * ((i2 + 1)) by omega) ?_
                exact kk180 _ _ _ ⟨_, hZ, hS, lv_sub hl [0, 2, 3, 4, 5, 6, 7, 8, 9, 10, 11, 12, 13] rfl⟩
              · refine lv_iload G.1 G.2.1 dL_asks_188 (lv_at hl 0 rfl) ?_
                refine lv_aload_n G.1 G.2.1 dL_asks_190 rfl (lv_at hl 7 rfl) ?_
                refine lv_iconst (v := nI 1) G.1 G.2.1 dL_asks_191 (by decide) ?_
                refine gl_ald (k := 0) (len := 11) (F := fC N S) G hZ.r rfl (by omega) (by decide) dL_asks_192 ?_
                rw [fC_1]
                refine gn_ge G (by omega) (by omega) (tgt := 206) dL_asks_193 (by decide) (fun h_193 => ?_) (fun h_193 => ?_)
                · refine lv_iconst (v := nI 0) G.1 G.2.1 dL_asks_206 (by decide) ?_
                  exact K_207 _ (rfl)
                · refine lv_iload G.1 G.2.1 dL_asks_196 (lv_at hl 1 rfl) ?_
                  refine lv_iconst (v := nI 3) G.1 G.2.1 dL_asks_198 (by decide) ?_
                  refine gn_ge G (by omega) (by omega) (tgt := 206) dL_asks_199 (by decide) (fun h_199 => ?_) (fun h => absurd h (by omega))
                  refine lv_iconst (v := nI 0) G.1 G.2.1 dL_asks_206 (by decide) ?_
                  exact K_207 _ (rfl)
          · obtain ⟨tr, hZ, hS, hl⟩ := hI
            refine lv_iload G.1 G.2.1 dL_asks_180 (lv_at hl 0 rfl) ?_
            refine lv_aload_n G.1 G.2.1 dL_asks_182 rfl (lv_at hl 7 rfl) ?_
            refine lv_iconst (v := nI 1) G.1 G.2.1 dL_asks_183 (by decide) ?_
            refine gl_ald (k := 0) (len := 11) (F := fC N S) G hZ.r rfl (by omega) (by decide) dL_asks_184 ?_
            rw [fC_1]
            refine gn_gt G (by omega) (by omega) (tgt := 332) dL_asks_185 (by decide) (fun h_185 => ?_) (fun h => absurd h (by omega))
            refine gn_iinc (lv' := [(11, .int (nI (b + 1))), (12, .int (nI ((N 5 + 1)))), (10, .int (nI 1)), (9, .int (nI v)), (0, .ref (q 0)), (1, .int w0), (2, .int (nI i)), (3, .ref (a 0)), (4, .ref (a 1)), (5, .ref (a 2)), (6, .ref (a 3)), (7, .ref (a 4)), (8, .ref (a 5))]) (n := 1) G dL_asks_332 hl (k := 1) rfl (by decide) rfl (fun ls hl => ?_)
            refine lv_goto (tgt := 32) G.1 G.2.1 dL_asks_335 (by decide) ?_
            refine W.widen (k := 14 * ((b + 1))) (n := 84 * ((b + 1))) (show 14 * b + 2 * (N 0 + 1) + 2 * ((N 5 + 1)) ≤ 14 * ((b + 1)) by omega) (show 84 * b + 12 * (N 0 + 1) + 12 * ((N 5 + 1)) ≤ 84 * ((b + 1)) by omega) ?_
            exact kk32 _ _ _ ⟨_, hZ, hS, lv_sub hl [0, 2, 3, 4, 5, 6, 7, 8, 9, 10, 11, 12] rfl⟩
      · obtain ⟨tr, hZ, hS, hl⟩ := hI
        refine lv_iload G.1 G.2.1 dL_asks_32 (lv_at hl 0 rfl) ?_
        refine lv_iconst (v := nI 4) G.1 G.2.1 dL_asks_34 (by decide) ?_
        refine gn_ge G (by omega) (by omega) (tgt := 338) dL_asks_35 (by decide) (fun h_35 => ?_) (fun h => absurd h (by omega))
        refine W.widen (k := 56) (n := 336) (show 14 * 4 ≤ 56 by omega) (show 84 * 4 ≤ 336 by omega) ?_
        exact K338 _ _ _ ⟨_, hZ, hS, lv_sub hl [3, 4, 5, 6, 7, 8, 9, 10, 11] rfl⟩
    · have hg_vf := lg_gbf hg_v
      refine gj_x (fun x => x = (nI 0)) 27 [] (fun x hx => ?_) (fun K_27 => ?_)
      · subst hx
        refine lv_istore (lv' := [(10, .int (nI 0)), (9, .int y2), (0, .ref (q 0)), (1, .int w0), (2, .int (nI i)), (3, .ref (a 0)), (4, .ref (a 1)), (5, .ref (a 2)), (6, .ref (a 3)), (7, .ref (a 4)), (8, .ref (a 5))]) G.1 G.2.1 dL_asks_27 hl (by decide) rfl (fun ls hl => ?_)
        refine lv_iconst (v := nI 0) G.1 G.2.1 dL_asks_29 (by decide) ?_
        refine lv_istore (lv' := [(11, .int (nI 0)), (10, .int (nI 0)), (9, .int y2), (0, .ref (q 0)), (1, .int w0), (2, .int (nI i)), (3, .ref (a 0)), (4, .ref (a 1)), (5, .ref (a 2)), (6, .ref (a 3)), (7, .ref (a 4)), (8, .ref (a 5))]) G.1 G.2.1 dL_asks_30 hl (by decide) rfl (fun ls hl => ?_)
        refine gj_loopW (fun b H locs ls => ∃ tr : Nat → Nat, zAt D q a cI N S tr N S A s H ∧ va_S A s.heap H locs ∧ lv_has ls 20 [(11, .int (nI b)), (10, .int (nI 0)), (9, .int y2), (0, .ref (q 0)), (1, .int w0), (2, .int (nI i)), (3, .ref (a 0)), (4, .ref (a 1)), (5, .ref (a 2)), (6, .ref (a 3)), (7, .ref (a 4)), (8, .ref (a 5))]) (fun b => 14 * b) (fun b => 84 * b) (4) ⟨_, hZ, hS, lv_sub hl [0, 1, 2, 3, 4, 5, 6, 7, 8, 9, 10, 11] rfl⟩ (show 0 ≤ 14 * 0 by omega) (show 0 ≤ 84 * 0 by omega) (fun b H locs ls hj32 hI kk32 => ?_) (fun H locs ls hI => ?_)
        · obtain ⟨tr, hZ, hS, hl⟩ := hI
          refine lv_iload G.1 G.2.1 dL_asks_32 (lv_at hl 0 rfl) ?_
          refine lv_iconst (v := nI 4) G.1 G.2.1 dL_asks_34 (by decide) ?_
          refine gn_ge G (by omega) (by omega) (tgt := 338) dL_asks_35 (by decide) (fun h => absurd h (by omega)) (fun h_35 => ?_)
          refine lv_iconst (v := nI 0) G.1 G.2.1 dL_asks_38 (by decide) ?_
          refine lv_istore (lv' := [(12, .int (nI 0)), (11, .int (nI b)), (10, .int (nI 0)), (9, .int y2), (0, .ref (q 0)), (1, .int w0), (2, .int (nI i)), (3, .ref (a 0)), (4, .ref (a 1)), (5, .ref (a 2)), (6, .ref (a 3)), (7, .ref (a 4)), (8, .ref (a 5))]) G.1 G.2.1 dL_asks_39 hl (by decide) rfl (fun ls hl => ?_)
          refine gj_loopW (fun i1 H locs ls => ∃ tr : Nat → Nat, zAt D q a cI N S tr N S A s H ∧ va_S A s.heap H locs ∧ lv_has ls 20 [(12, .int (nI i1)), (11, .int (nI b)), (10, .int (nI 0)), (9, .int y2), (0, .ref (q 0)), (1, .int w0), (2, .int (nI i)), (3, .ref (a 0)), (4, .ref (a 1)), (5, .ref (a 2)), (6, .ref (a 3)), (7, .ref (a 4)), (8, .ref (a 5))]) (fun i1 => 14 * b + 2 * i1) (fun i1 => 84 * b + 12 * i1) (N 0 + 1) ⟨_, hZ, hS, lv_sub hl [0, 1, 2, 3, 4, 5, 6, 7, 8, 9, 10, 11, 12] rfl⟩ (show 14 * b ≤ 14 * b + 2 * 0 by omega) (show 84 * b ≤ 84 * b + 12 * 0 by omega) (fun i1 H locs ls hj41 hI kk41 => ?_) (fun H locs ls hI => ?_)
          · obtain ⟨tr, hZ, hS, hl⟩ := hI
            refine lv_iload G.1 G.2.1 dL_asks_41 (lv_at hl 0 rfl) ?_
            refine lv_aload_n G.1 G.2.1 dL_asks_43 rfl (lv_at hl 7 rfl) ?_
            refine lv_iconst (v := nI 0) G.1 G.2.1 dL_asks_44 (by decide) ?_
            refine gl_ald (k := 0) (len := 11) (F := fC N S) G hZ.r rfl (by omega) (by decide) dL_asks_45 ?_
            rw [fC_0]
            refine gn_gt G (by omega) (by omega) (tgt := 177) dL_asks_46 (by decide) (fun h => absurd h (by omega)) (fun h_46 => ?_)
            by_cases hcs : i1 < N 0 ∧ b < 3
            · refine lv_iload G.1 G.2.1 dL_asks_49 (lv_at hl 0 rfl) ?_
              refine lv_aload_n G.1 G.2.1 dL_asks_51 rfl (lv_at hl 7 rfl) ?_
              refine lv_iconst (v := nI 0) G.1 G.2.1 dL_asks_52 (by decide) ?_
              refine gl_ald (k := 0) (len := 11) (F := fC N S) G hZ.r rfl (by omega) (by decide) dL_asks_53 ?_
              rw [fC_0]
              refine gn_ge G (by omega) (by omega) (tgt := 67) dL_asks_54 (by decide) (fun h => absurd h (by omega)) (fun h_54 => ?_)
              refine lv_iload G.1 G.2.1 dL_asks_57 (lv_at hl 1 rfl) ?_
              refine lv_iconst (v := nI 3) G.1 G.2.1 dL_asks_59 (by decide) ?_
              refine gn_ge G (by omega) (by omega) (tgt := 67) dL_asks_60 (by decide) (fun h => absurd h (by omega)) (fun h_60 => ?_)
              refine lv_iconst (v := nI 1) G.1 G.2.1 dL_asks_63 (by decide) ?_
              refine lv_goto (tgt := 68) G.1 G.2.1 dL_asks_64 (by decide) ?_
              refine lv_istore (lv' := [(13, .int (nI 1)), (12, .int (nI i1)), (11, .int (nI b)), (10, .int (nI 0)), (9, .int y2), (0, .ref (q 0)), (1, .int w0), (2, .int (nI i)), (3, .ref (a 0)), (4, .ref (a 1)), (5, .ref (a 2)), (6, .ref (a 3)), (7, .ref (a 4)), (8, .ref (a 5))]) G.1 G.2.1 dL_asks_68 hl (by decide) rfl (fun ls hl => ?_)
              refine lv_aload_n G.1 G.2.1 dL_asks_70 rfl (lv_at hl 5 rfl) ?_
              refine lv_iconst (v := nI 0) G.1 G.2.1 dL_asks_71 (by decide) ?_
              refine lv_iload G.1 G.2.1 dL_asks_72 (lv_at hl 1 rfl) ?_
              refine lv_iload G.1 G.2.1 dL_asks_74 (lv_at hl 2 rfl) ?_
              refine lv_iload G.1 G.2.1 dL_asks_76 (lv_at hl 4 rfl) ?_
              refine gz_wrap (As := [.ref (q 0), .int (nI 0), .int (nI i1), .int (nI b), .int y2]) (rest := []) G.fix (mL_of_curve l hst D q cI N S tr _ hok hinv ((nI i1)) ((nI b)) y2) (vx_cwSW 5 G.2.2.2.2.2.1 gL_asks_L_of rfl rfl rfl (by decide +kernel) ⟨Nat.le_of_ble_eq_true rfl, Nat.le_of_ble_eq_true rfl⟩) hZ hA hS rfl hl.1 rfl (Nat.le_of_ble_eq_true rfl) dL_asks_78 (show 14 * b + 2 * i1 + 1 ≤ 64 by omega) (show 84 * b + 12 * i1 + 6 ≤ 400 by omega) (fun r Nx Sx tr H locs hp hZ hS => ?_)
              obtain ⟨rfl, eN, eS⟩ := hp
              have hk_78 : sj_curve N S ((nI i1)) ((nI b)) y2 = 2 := gk_tf (by simp only [sA_curve, Bool.and_eq_true, decide_eq_true_eq, gb_nI (show i1 < 2 ^ 31 by omega), gn_nI (show i1 < 2 ^ 31 by omega), gb_nI (show b < 2 ^ 31 by omega), gn_nI (show b < 2 ^ 31 by omega)] <;> omega) (by simp [sB_curve, hg_vf])
              rw [hk_78] at eN eS
              have eN : Nx = N := eN
              have eS : Sx = S := eS
              rw [eN, eS] at hZ
              rw [hk_78, gRes_2]
              refine lv_iload G.1 G.2.1 dL_asks_81 (lv_at hl 0 rfl) ?_
              refine gn_nez G (by omega) (tgt := 91) dL_asks_83 (by decide) (fun h_83 => ?_) (fun h => absurd h (by omega))
              refine lv_iload G.1 G.2.1 dL_asks_91 (lv_at hl 3 rfl) ?_
              refine gn_nez G (by omega) (tgt := 101) dL_asks_93 (by decide) (fun h => absurd rfl h) (fun h_93 => ?_)
              refine lv_bipush (v := -102) G.1 G.2.1 dL_asks_96 (by decide) ?_
              refine lv_goto (tgt := 118) G.1 G.2.1 dL_asks_98 (by decide) ?_
              refine lv_icmp_ne (tgt := 169) G.1 G.2.1 dL_asks_118 (by decide) (fun h => absurd rfl h) (fun h_118 => ?_)
              refine lv_aload_n G.1 G.2.1 dL_asks_121 rfl (lv_at hl 5 rfl) ?_
              refine lv_iconst (v := nI 1) G.1 G.2.1 dL_asks_122 (by decide) ?_
              refine lv_iload G.1 G.2.1 dL_asks_123 (lv_at hl 1 rfl) ?_
              refine lv_iload G.1 G.2.1 dL_asks_125 (lv_at hl 2 rfl) ?_
              refine lv_iload G.1 G.2.1 dL_asks_127 (lv_at hl 4 rfl) ?_
              refine gz_wrap (As := [.ref (q 0), .int (nI 1), .int (nI i1), .int (nI b), .int y2]) (rest := []) G.fix (mL_of_taken l hst D q cI N S tr _ hok hinv ((nI i1)) ((nI b)) y2) (vx_cwSW 5 G.2.2.2.2.2.1 gL_asks_L_of rfl rfl rfl (by decide +kernel) ⟨Nat.le_of_ble_eq_true rfl, Nat.le_of_ble_eq_true rfl⟩) hZ hA hS rfl hl.1 rfl (Nat.le_of_ble_eq_true rfl) dL_asks_129 (show 14 * b + 2 * i1 + 1 + 1 ≤ 64 by omega) (show 84 * b + 12 * i1 + 6 + 6 ≤ 400 by omega) (fun r Nx Sx tr H locs hp hZ hS => ?_)
              obtain ⟨rfl, eN, eS⟩ := hp
              have hk_129 : sj_taken N S ((nI i1)) ((nI b)) y2 = 2 := gk_tf (by simp only [sA_taken, Bool.and_eq_true, decide_eq_true_eq, gb_nI (show i1 < 2 ^ 31 by omega), gn_nI (show i1 < 2 ^ 31 by omega), gb_nI (show b < 2 ^ 31 by omega), gn_nI (show b < 2 ^ 31 by omega)] <;> omega) (by simp [sB_taken, hg_vf])
              rw [hk_129] at eN eS
              have eN : Nx = N := eN
              have eS : Sx = S := eS
              rw [eN, eS] at hZ
              rw [hk_129, gRes_2]
              refine lv_iload G.1 G.2.1 dL_asks_132 (lv_at hl 0 rfl) ?_
              refine gn_nez G (by omega) (tgt := 142) dL_asks_134 (by decide) (fun h_134 => ?_) (fun h => absurd h (by omega))
              refine lv_iload G.1 G.2.1 dL_asks_142 (lv_at hl 3 rfl) ?_
              refine gn_nez G (by omega) (tgt := 152) dL_asks_144 (by decide) (fun h => absurd rfl h) (fun h_144 => ?_)
              refine lv_bipush (v := -102) G.1 G.2.1 dL_asks_147 (by decide) ?_
              refine lv_goto (tgt := 166) G.1 G.2.1 dL_asks_149 (by decide) ?_
              refine lv_icmp_eq (tgt := 171) G.1 G.2.1 dL_asks_166 (by decide) (fun h_166 => ?_) (fun h => absurd rfl h)
              refine gn_iinc (lv' := [(12, .int (nI (i1 + 1))), (13, .int (nI 1)), (11, .int (nI b)), (10, .int (nI 0)), (9, .int y2), (0, .ref (q 0)), (1, .int w0), (2, .int (nI i)), (3, .ref (a 0)), (4, .ref (a 1)), (5, .ref (a 2)), (6, .ref (a 3)), (7, .ref (a 4)), (8, .ref (a 5))]) (n := 1) G dL_asks_171 hl (k := 1) rfl (by decide) rfl (fun ls hl => ?_)
              refine lv_goto (tgt := 41) G.1 G.2.1 dL_asks_174 (by decide) ?_
              refine W.widen (k := 14 * b + 2 * ((i1 + 1))) (n := 84 * b + 12 * ((i1 + 1))) (show 14 * b + 2 * i1 + 1 + 1 ≤ 14 * b + 2 * ((i1 + 1)) by omega) (show 84 * b + 12 * i1 + 6 + 6 ≤ 84 * b + 12 * ((i1 + 1)) by omega) ?_
              exact kk41 _ _ _ ⟨_, hZ, hS, lv_sub hl [0, 2, 3, 4, 5, 6, 7, 8, 9, 10, 11, 12, 13] rfl⟩
            · refine gj_x (fun x => x = (nI 0)) 68 [] (fun x hx => ?_) (fun K_68 => ?_)
              · subst hx
                refine lv_istore (lv' := [(13, .int (nI 0)), (12, .int (nI i1)), (11, .int (nI b)), (10, .int (nI 0)), (9, .int y2), (0, .ref (q 0)), (1, .int w0), (2, .int (nI i)), (3, .ref (a 0)), (4, .ref (a 1)), (5, .ref (a 2)), (6, .ref (a 3)), (7, .ref (a 4)), (8, .ref (a 5))]) G.1 G.2.1 dL_asks_68 hl (by decide) rfl (fun ls hl => ?_)
                refine lv_aload_n G.1 G.2.1 dL_asks_70 rfl (lv_at hl 5 rfl) ?_
                refine lv_iconst (v := nI 0) G.1 G.2.1 dL_asks_71 (by decide) ?_
                refine lv_iload G.1 G.2.1 dL_asks_72 (lv_at hl 1 rfl) ?_
                refine lv_iload G.1 G.2.1 dL_asks_74 (lv_at hl 2 rfl) ?_
                refine lv_iload G.1 G.2.1 dL_asks_76 (lv_at hl 4 rfl) ?_
                refine gz_wrap (As := [.ref (q 0), .int (nI 0), .int (nI i1), .int (nI b), .int y2]) (rest := []) G.fix (mL_of_curve l hst D q cI N S tr _ hok hinv ((nI i1)) ((nI b)) y2) (vx_cwSW 5 G.2.2.2.2.2.1 gL_asks_L_of rfl rfl rfl (by decide +kernel) ⟨Nat.le_of_ble_eq_true rfl, Nat.le_of_ble_eq_true rfl⟩) hZ hA hS rfl hl.1 rfl (Nat.le_of_ble_eq_true rfl) dL_asks_78 (show 14 * b + 2 * i1 + 1 ≤ 64 by omega) (show 84 * b + 12 * i1 + 6 ≤ 400 by omega) (fun r Nx Sx tr H locs hp hZ hS => ?_)
                obtain ⟨rfl, eN, eS⟩ := hp
                have hk_78 : sj_curve N S ((nI i1)) ((nI b)) y2 = 1 := gk_f (by apply Bool.eq_false_iff.mpr; intro h; simp only [sA_curve, Bool.and_eq_true, decide_eq_true_eq, gb_nI (show i1 < 2 ^ 31 by omega), gn_nI (show i1 < 2 ^ 31 by omega), gb_nI (show b < 2 ^ 31 by omega), gn_nI (show b < 2 ^ 31 by omega)] at h <;> omega)
                rw [hk_78] at eN eS
                have eN : Nx = N := eN
                have eS : Sx = S := eS
                rw [eN, eS] at hZ
                rw [hk_78, gRes_1]
                refine lv_iload G.1 G.2.1 dL_asks_81 (lv_at hl 0 rfl) ?_
                refine gn_nez G (by omega) (tgt := 91) dL_asks_83 (by decide) (fun h => absurd rfl h) (fun h_83 => ?_)
                refine lv_bipush (v := -101) G.1 G.2.1 dL_asks_86 (by decide) ?_
                refine lv_goto (tgt := 118) G.1 G.2.1 dL_asks_88 (by decide) ?_
                refine lv_icmp_ne (tgt := 169) G.1 G.2.1 dL_asks_118 (by decide) (fun h => absurd rfl h) (fun h_118 => ?_)
                refine lv_aload_n G.1 G.2.1 dL_asks_121 rfl (lv_at hl 5 rfl) ?_
                refine lv_iconst (v := nI 1) G.1 G.2.1 dL_asks_122 (by decide) ?_
                refine lv_iload G.1 G.2.1 dL_asks_123 (lv_at hl 1 rfl) ?_
                refine lv_iload G.1 G.2.1 dL_asks_125 (lv_at hl 2 rfl) ?_
                refine lv_iload G.1 G.2.1 dL_asks_127 (lv_at hl 4 rfl) ?_
                refine gz_wrap (As := [.ref (q 0), .int (nI 1), .int (nI i1), .int (nI b), .int y2]) (rest := []) G.fix (mL_of_taken l hst D q cI N S tr _ hok hinv ((nI i1)) ((nI b)) y2) (vx_cwSW 5 G.2.2.2.2.2.1 gL_asks_L_of rfl rfl rfl (by decide +kernel) ⟨Nat.le_of_ble_eq_true rfl, Nat.le_of_ble_eq_true rfl⟩) hZ hA hS rfl hl.1 rfl (Nat.le_of_ble_eq_true rfl) dL_asks_129 (show 14 * b + 2 * i1 + 1 + 1 ≤ 64 by omega) (show 84 * b + 12 * i1 + 6 + 6 ≤ 400 by omega) (fun r Nx Sx tr H locs hp hZ hS => ?_)
                obtain ⟨rfl, eN, eS⟩ := hp
                have hk_129 : sj_taken N S ((nI i1)) ((nI b)) y2 = 1 := gk_f (by apply Bool.eq_false_iff.mpr; intro h; simp only [sA_taken, Bool.and_eq_true, decide_eq_true_eq, gb_nI (show i1 < 2 ^ 31 by omega), gn_nI (show i1 < 2 ^ 31 by omega), gb_nI (show b < 2 ^ 31 by omega), gn_nI (show b < 2 ^ 31 by omega)] at h <;> omega)
                rw [hk_129] at eN eS
                have eN : Nx = N := eN
                have eS : Sx = S := eS
                rw [eN, eS] at hZ
                rw [hk_129, gRes_1]
                refine lv_iload G.1 G.2.1 dL_asks_132 (lv_at hl 0 rfl) ?_
                refine gn_nez G (by omega) (tgt := 142) dL_asks_134 (by decide) (fun h => absurd rfl h) (fun h_134 => ?_)
                refine lv_bipush (v := -101) G.1 G.2.1 dL_asks_137 (by decide) ?_
                refine lv_goto (tgt := 166) G.1 G.2.1 dL_asks_139 (by decide) ?_
                refine lv_icmp_eq (tgt := 171) G.1 G.2.1 dL_asks_166 (by decide) (fun h_166 => ?_) (fun h => absurd rfl h)
                refine gn_iinc (lv' := [(12, .int (nI (i1 + 1))), (13, .int (nI 0)), (11, .int (nI b)), (10, .int (nI 0)), (9, .int y2), (0, .ref (q 0)), (1, .int w0), (2, .int (nI i)), (3, .ref (a 0)), (4, .ref (a 1)), (5, .ref (a 2)), (6, .ref (a 3)), (7, .ref (a 4)), (8, .ref (a 5))]) (n := 1) G dL_asks_171 hl (k := 1) rfl (by decide) rfl (fun ls hl => ?_)
                refine lv_goto (tgt := 41) G.1 G.2.1 dL_asks_174 (by decide) ?_
                refine W.widen (k := 14 * b + 2 * ((i1 + 1))) (n := 84 * b + 12 * ((i1 + 1))) (show 14 * b + 2 * i1 + 1 + 1 ≤ 14 * b + 2 * ((i1 + 1)) by omega) (show 84 * b + 12 * i1 + 6 + 6 ≤ 84 * b + 12 * ((i1 + 1)) by omega) ?_
                exact kk41 _ _ _ ⟨_, hZ, hS, lv_sub hl [0, 2, 3, 4, 5, 6, 7, 8, 9, 10, 11, 12, 13] rfl⟩
              · refine lv_iload G.1 G.2.1 dL_asks_49 (lv_at hl 0 rfl) ?_
                refine lv_aload_n G.1 G.2.1 dL_asks_51 rfl (lv_at hl 7 rfl) ?_
                refine lv_iconst (v := nI 0) G.1 G.2.1 dL_asks_52 (by decide) ?_
                refine gl_ald (k := 0) (len := 11) (F := fC N S) G hZ.r rfl (by omega) (by decide) dL_asks_53 ?_
                rw [fC_0]
                refine gn_ge G (by omega) (by omega) (tgt := 67) dL_asks_54 (by decide) (fun h_54 => ?_) (fun h_54 => ?_)
                · refine lv_iconst (v := nI 0) G.1 G.2.1 dL_asks_67 (by decide) ?_
                  exact K_68 _ (rfl)
                · refine lv_iload G.1 G.2.1 dL_asks_57 (lv_at hl 1 rfl) ?_
                  refine lv_iconst (v := nI 3) G.1 G.2.1 dL_asks_59 (by decide) ?_
                  refine gn_ge G (by omega) (by omega) (tgt := 67) dL_asks_60 (by decide) (fun h_60 => ?_) (fun h => absurd h (by omega))
                  refine lv_iconst (v := nI 0) G.1 G.2.1 dL_asks_67 (by decide) ?_
                  exact K_68 _ (rfl)
          · obtain ⟨tr, hZ, hS, hl⟩ := hI
            refine lv_iload G.1 G.2.1 dL_asks_41 (lv_at hl 0 rfl) ?_
            refine lv_aload_n G.1 G.2.1 dL_asks_43 rfl (lv_at hl 7 rfl) ?_
            refine lv_iconst (v := nI 0) G.1 G.2.1 dL_asks_44 (by decide) ?_
            refine gl_ald (k := 0) (len := 11) (F := fC N S) G hZ.r rfl (by omega) (by decide) dL_asks_45 ?_
            rw [fC_0]
            refine gn_gt G (by omega) (by omega) (tgt := 177) dL_asks_46 (by decide) (fun h_46 => ?_) (fun h => absurd h (by omega))
            refine lv_iconst (v := nI 0) G.1 G.2.1 dL_asks_177 (by decide) ?_
            refine lv_istore (lv' := [(12, .int (nI 0)), (11, .int (nI b)), (10, .int (nI 0)), (9, .int y2), (0, .ref (q 0)), (1, .int w0), (2, .int (nI i)), (3, .ref (a 0)), (4, .ref (a 1)), (5, .ref (a 2)), (6, .ref (a 3)), (7, .ref (a 4)), (8, .ref (a 5))]) G.1 G.2.1 dL_asks_178 hl (by decide) rfl (fun ls hl => ?_)
            refine gj_loopW (fun i2 H locs ls => ∃ tr : Nat → Nat, zAt D q a cI N S tr N S A s H ∧ va_S A s.heap H locs ∧ lv_has ls 20 [(12, .int (nI i2)), (11, .int (nI b)), (10, .int (nI 0)), (9, .int y2), (0, .ref (q 0)), (1, .int w0), (2, .int (nI i)), (3, .ref (a 0)), (4, .ref (a 1)), (5, .ref (a 2)), (6, .ref (a 3)), (7, .ref (a 4)), (8, .ref (a 5))]) (fun i2 => 14 * b + 2 * (N 0 + 1) + 2 * i2) (fun i2 => 84 * b + 12 * (N 0 + 1) + 12 * i2) (N 5 + 1) ⟨_, hZ, hS, lv_sub hl [0, 1, 2, 3, 4, 5, 6, 7, 8, 9, 10, 11, 12] rfl⟩ (show 14 * b + 2 * ((N 0 + 1)) ≤ 14 * b + 2 * (N 0 + 1) + 2 * 0 by omega) (show 84 * b + 12 * ((N 0 + 1)) ≤ 84 * b + 12 * (N 0 + 1) + 12 * 0 by omega) (fun i2 H locs ls hj180 hI kk180 => ?_) (fun H locs ls hI => ?_)
            · obtain ⟨tr, hZ, hS, hl⟩ := hI
              refine lv_iload G.1 G.2.1 dL_asks_180 (lv_at hl 0 rfl) ?_
              refine lv_aload_n G.1 G.2.1 dL_asks_182 rfl (lv_at hl 7 rfl) ?_
              refine lv_iconst (v := nI 1) G.1 G.2.1 dL_asks_183 (by decide) ?_
              refine gl_ald (k := 0) (len := 11) (F := fC N S) G hZ.r rfl (by omega) (by decide) dL_asks_184 ?_
              rw [fC_1]
              refine gn_gt G (by omega) (by omega) (tgt := 332) dL_asks_185 (by decide) (fun h => absurd h (by omega)) (fun h_185 => ?_)
              by_cases hcs : i2 < N 5 ∧ b < 3
              · have hb9 : S 9 i2 = sp_bit (N 9) i2 := (hinv.2.2.2.2.2.1 i2 (by omega)).1
                have hb9b := sp_bit_lt (N 9) i2
                refine lv_iload G.1 G.2.1 dL_asks_188 (lv_at hl 0 rfl) ?_
                refine lv_aload_n G.1 G.2.1 dL_asks_190 rfl (lv_at hl 7 rfl) ?_
                refine lv_iconst (v := nI 1) G.1 G.2.1 dL_asks_191 (by decide) ?_
                refine gl_ald (k := 0) (len := 11) (F := fC N S) G hZ.r rfl (by omega) (by decide) dL_asks_192 ?_
                rw [fC_1]
                refine gn_ge G (by omega) (by omega) (tgt := 206) dL_asks_193 (by decide) (fun h => absurd h (by omega)) (fun h_193 => ?_)
                refine lv_iload G.1 G.2.1 dL_asks_196 (lv_at hl 1 rfl) ?_
                refine lv_iconst (v := nI 3) G.1 G.2.1 dL_asks_198 (by decide) ?_
                refine gn_ge G (by omega) (by omega) (tgt := 206) dL_asks_199 (by decide) (fun h => absurd h (by omega)) (fun h_199 => ?_)
                refine lv_iconst (v := nI 1) G.1 G.2.1 dL_asks_202 (by decide) ?_
                refine lv_goto (tgt := 207) G.1 G.2.1 dL_asks_203 (by decide) ?_
                refine lv_istore (lv' := [(13, .int (nI 1)), (12, .int (nI i2)), (11, .int (nI b)), (10, .int (nI 0)), (9, .int y2), (0, .ref (q 0)), (1, .int w0), (2, .int (nI i)), (3, .ref (a 0)), (4, .ref (a 1)), (5, .ref (a 2)), (6, .ref (a 3)), (7, .ref (a 4)), (8, .ref (a 5))]) G.1 G.2.1 dL_asks_207 hl (by decide) rfl (fun ls hl => ?_)
                refine lv_aload_n G.1 G.2.1 dL_asks_209 rfl (lv_at hl 5 rfl) ?_
                refine lv_iconst (v := nI 2) G.1 G.2.1 dL_asks_210 (by decide) ?_
                refine lv_iload G.1 G.2.1 dL_asks_211 (lv_at hl 1 rfl) ?_
                refine lv_iload G.1 G.2.1 dL_asks_213 (lv_at hl 2 rfl) ?_
                refine lv_iload G.1 G.2.1 dL_asks_215 (lv_at hl 4 rfl) ?_
                refine gz_wrap (As := [.ref (q 0), .int (nI 2), .int (nI i2), .int (nI b), .int y2]) (rest := []) G.fix (mL_of_through l hst D q cI N S tr _ hok hinv ((nI i2)) ((nI b)) y2) (vx_cwSW 5 G.2.2.2.2.2.1 gL_asks_L_of rfl rfl rfl (by decide +kernel) ⟨Nat.le_of_ble_eq_true rfl, Nat.le_of_ble_eq_true rfl⟩) hZ hA hS rfl hl.1 rfl (Nat.le_of_ble_eq_true rfl) dL_asks_217 (show 14 * b + 2 * (N 0 + 1) + 2 * i2 + 1 ≤ 64 by omega) (show 84 * b + 12 * (N 0 + 1) + 12 * i2 + 6 ≤ 400 by omega) (fun r Nx Sx tr H locs hp hZ hS => ?_)
                obtain ⟨rfl, eN, eS⟩ := hp
                have hk_217 : sj_through N S ((nI i2)) ((nI b)) y2 = 2 := gk_tf (by simp only [sA_through, Bool.and_eq_true, decide_eq_true_eq, gb_nI (show i2 < 2 ^ 31 by omega), gn_nI (show i2 < 2 ^ 31 by omega), gb_nI (show b < 2 ^ 31 by omega), gn_nI (show b < 2 ^ 31 by omega)] <;> omega) (by simp [sB_through, hg_vf])
                rw [hk_217] at eN eS
                have eN : Nx = N := eN
                have eS : Sx = S := eS
                rw [eN, eS] at hZ
                rw [hk_217, gRes_2]
                refine lv_iload G.1 G.2.1 dL_asks_220 (lv_at hl 0 rfl) ?_
                refine gn_nez G (by omega) (tgt := 230) dL_asks_222 (by decide) (fun h_222 => ?_) (fun h => absurd h (by omega))
                refine lv_iload G.1 G.2.1 dL_asks_230 (lv_at hl 3 rfl) ?_
                refine gn_nez G (by omega) (tgt := 240) dL_asks_232 (by decide) (fun h => absurd rfl h) (fun h_232 => ?_)
                refine lv_bipush (v := -102) G.1 G.2.1 dL_asks_235 (by decide) ?_
                refine lv_goto (tgt := 256) G.1 G.2.1 dL_asks_237 (by decide) ?_
                refine lv_icmp_ne (tgt := 324) G.1 G.2.1 dL_asks_256 (by decide) (fun h => absurd rfl h) (fun h_256 => ?_)
                refine lv_aload_n G.1 G.2.1 dL_asks_259 rfl (lv_at hl 5 rfl) ?_
                refine lv_iconst (v := nI 3) G.1 G.2.1 dL_asks_260 (by decide) ?_
                refine lv_iload G.1 G.2.1 dL_asks_261 (lv_at hl 1 rfl) ?_
                refine lv_iload G.1 G.2.1 dL_asks_263 (lv_at hl 2 rfl) ?_
                refine lv_iload G.1 G.2.1 dL_asks_265 (lv_at hl 4 rfl) ?_
                refine gz_wrap (As := [.ref (q 0), .int (nI 3), .int (nI i2), .int (nI b), .int y2]) (rest := []) G.fix (mL_of_joined l hst D q cI N S tr _ hok hinv ((nI i2)) ((nI b)) y2) (vx_cwSW 5 G.2.2.2.2.2.1 gL_asks_L_of rfl rfl rfl (by decide +kernel) ⟨Nat.le_of_ble_eq_true rfl, Nat.le_of_ble_eq_true rfl⟩) hZ hA hS rfl hl.1 rfl (Nat.le_of_ble_eq_true rfl) dL_asks_267 (show 14 * b + 2 * (N 0 + 1) + 2 * i2 + 1 + 1 ≤ 64 by omega) (show 84 * b + 12 * (N 0 + 1) + 12 * i2 + 6 + 6 ≤ 400 by omega) (fun r Nx Sx tr H locs hp hZ hS => ?_)
                obtain ⟨rfl, eN, eS⟩ := hp
                have hk_267 : sj_joined N S ((nI i2)) ((nI b)) y2 = 2 := gk_tf (by simp only [sA_joined, Bool.and_eq_true, decide_eq_true_eq, gb_nI (show i2 < 2 ^ 31 by omega), gn_nI (show i2 < 2 ^ 31 by omega), gb_nI (show b < 2 ^ 31 by omega), gn_nI (show b < 2 ^ 31 by omega)] <;> omega) (by simp [sB_joined, hg_vf])
                rw [hk_267] at eN eS
                have eN : Nx = N := eN
                have eS : Sx = S := eS
                rw [eN, eS] at hZ
                rw [hk_267, gRes_2]
                refine lv_iload G.1 G.2.1 dL_asks_270 (lv_at hl 0 rfl) ?_
                refine gn_nez G (by omega) (tgt := 280) dL_asks_272 (by decide) (fun h_272 => ?_) (fun h => absurd h (by omega))
                refine lv_iload G.1 G.2.1 dL_asks_280 (lv_at hl 3 rfl) ?_
                refine gn_nez G (by omega) (tgt := 290) dL_asks_282 (by decide) (fun h => absurd rfl h) (fun h_282 => ?_)
                refine lv_bipush (v := -102) G.1 G.2.1 dL_asks_285 (by decide) ?_
                refine lv_goto (tgt := 321) G.1 G.2.1 dL_asks_287 (by decide) ?_
                refine lv_icmp_eq (tgt := 326) G.1 G.2.1 dL_asks_321 (by decide) (fun h_321 => ?_) (fun h => absurd rfl h)
                refine gn_iinc (lv' := [(12, .int (nI (i2 + 1))), (13, .int (nI 1)), (11, .int (nI b)), (10, .int (nI 0)), (9, .int y2), (0, .ref (q 0)), (1, .int w0), (2, .int (nI i)), (3, .ref (a 0)), (4, .ref (a 1)), (5, .ref (a 2)), (6, .ref (a 3)), (7, .ref (a 4)), (8, .ref (a 5))]) (n := 1) G dL_asks_326 hl (k := 1) rfl (by decide) rfl (fun ls hl => ?_)
                refine lv_goto (tgt := 180) G.1 G.2.1 dL_asks_329 (by decide) ?_
                refine W.widen (k := 14 * b + 2 * (N 0 + 1) + 2 * ((i2 + 1))) (n := 84 * b + 12 * (N 0 + 1) + 12 * ((i2 + 1))) (show 14 * b + 2 * (N 0 + 1) + 2 * i2 + 1 + 1 ≤ 14 * b + 2 * (N 0 + 1) + 2 * ((i2 + 1)) by omega) (show 84 * b + 12 * (N 0 + 1) + 12 * i2 + 6 + 6 ≤ 84 * b + 12 * (N 0 + 1) + 12 * ((i2 + 1)) by omega) ?_
                exact kk180 _ _ _ ⟨_, hZ, hS, lv_sub hl [0, 2, 3, 4, 5, 6, 7, 8, 9, 10, 11, 12, 13] rfl⟩
              · refine gj_x (fun x => x = (nI 0)) 207 [] (fun x hx => ?_) (fun K_207 => ?_)
                · subst hx
                  refine lv_istore (lv' := [(13, .int (nI 0)), (12, .int (nI i2)), (11, .int (nI b)), (10, .int (nI 0)), (9, .int y2), (0, .ref (q 0)), (1, .int w0), (2, .int (nI i)), (3, .ref (a 0)), (4, .ref (a 1)), (5, .ref (a 2)), (6, .ref (a 3)), (7, .ref (a 4)), (8, .ref (a 5))]) G.1 G.2.1 dL_asks_207 hl (by decide) rfl (fun ls hl => ?_)
                  refine lv_aload_n G.1 G.2.1 dL_asks_209 rfl (lv_at hl 5 rfl) ?_
                  refine lv_iconst (v := nI 2) G.1 G.2.1 dL_asks_210 (by decide) ?_
                  refine lv_iload G.1 G.2.1 dL_asks_211 (lv_at hl 1 rfl) ?_
                  refine lv_iload G.1 G.2.1 dL_asks_213 (lv_at hl 2 rfl) ?_
                  refine lv_iload G.1 G.2.1 dL_asks_215 (lv_at hl 4 rfl) ?_
                  refine gz_wrap (As := [.ref (q 0), .int (nI 2), .int (nI i2), .int (nI b), .int y2]) (rest := []) G.fix (mL_of_through l hst D q cI N S tr _ hok hinv ((nI i2)) ((nI b)) y2) (vx_cwSW 5 G.2.2.2.2.2.1 gL_asks_L_of rfl rfl rfl (by decide +kernel) ⟨Nat.le_of_ble_eq_true rfl, Nat.le_of_ble_eq_true rfl⟩) hZ hA hS rfl hl.1 rfl (Nat.le_of_ble_eq_true rfl) dL_asks_217 (show 14 * b + 2 * (N 0 + 1) + 2 * i2 + 1 ≤ 64 by omega) (show 84 * b + 12 * (N 0 + 1) + 12 * i2 + 6 ≤ 400 by omega) (fun r Nx Sx tr H locs hp hZ hS => ?_)
                  obtain ⟨rfl, eN, eS⟩ := hp
                  have hk_217 : sj_through N S ((nI i2)) ((nI b)) y2 = 1 := gk_f (by apply Bool.eq_false_iff.mpr; intro h; simp only [sA_through, Bool.and_eq_true, decide_eq_true_eq, gb_nI (show i2 < 2 ^ 31 by omega), gn_nI (show i2 < 2 ^ 31 by omega), gb_nI (show b < 2 ^ 31 by omega), gn_nI (show b < 2 ^ 31 by omega)] at h <;> omega)
                  rw [hk_217] at eN eS
                  have eN : Nx = N := eN
                  have eS : Sx = S := eS
                  rw [eN, eS] at hZ
                  rw [hk_217, gRes_1]
                  refine lv_iload G.1 G.2.1 dL_asks_220 (lv_at hl 0 rfl) ?_
                  refine gn_nez G (by omega) (tgt := 230) dL_asks_222 (by decide) (fun h => absurd rfl h) (fun h_222 => ?_)
                  refine lv_bipush (v := -101) G.1 G.2.1 dL_asks_225 (by decide) ?_
                  refine lv_goto (tgt := 256) G.1 G.2.1 dL_asks_227 (by decide) ?_
                  refine lv_icmp_ne (tgt := 324) G.1 G.2.1 dL_asks_256 (by decide) (fun h => absurd rfl h) (fun h_256 => ?_)
                  refine lv_aload_n G.1 G.2.1 dL_asks_259 rfl (lv_at hl 5 rfl) ?_
                  refine lv_iconst (v := nI 3) G.1 G.2.1 dL_asks_260 (by decide) ?_
                  refine lv_iload G.1 G.2.1 dL_asks_261 (lv_at hl 1 rfl) ?_
                  refine lv_iload G.1 G.2.1 dL_asks_263 (lv_at hl 2 rfl) ?_
                  refine lv_iload G.1 G.2.1 dL_asks_265 (lv_at hl 4 rfl) ?_
                  refine gz_wrap (As := [.ref (q 0), .int (nI 3), .int (nI i2), .int (nI b), .int y2]) (rest := []) G.fix (mL_of_joined l hst D q cI N S tr _ hok hinv ((nI i2)) ((nI b)) y2) (vx_cwSW 5 G.2.2.2.2.2.1 gL_asks_L_of rfl rfl rfl (by decide +kernel) ⟨Nat.le_of_ble_eq_true rfl, Nat.le_of_ble_eq_true rfl⟩) hZ hA hS rfl hl.1 rfl (Nat.le_of_ble_eq_true rfl) dL_asks_267 (show 14 * b + 2 * (N 0 + 1) + 2 * i2 + 1 + 1 ≤ 64 by omega) (show 84 * b + 12 * (N 0 + 1) + 12 * i2 + 6 + 6 ≤ 400 by omega) (fun r Nx Sx tr H locs hp hZ hS => ?_)
                  obtain ⟨rfl, eN, eS⟩ := hp
                  have hk_267 : sj_joined N S ((nI i2)) ((nI b)) y2 = 1 := gk_f (by apply Bool.eq_false_iff.mpr; intro h; simp only [sA_joined, Bool.and_eq_true, decide_eq_true_eq, gb_nI (show i2 < 2 ^ 31 by omega), gn_nI (show i2 < 2 ^ 31 by omega), gb_nI (show b < 2 ^ 31 by omega), gn_nI (show b < 2 ^ 31 by omega)] at h <;> omega)
                  rw [hk_267] at eN eS
                  have eN : Nx = N := eN
                  have eS : Sx = S := eS
                  rw [eN, eS] at hZ
                  rw [hk_267, gRes_1]
                  refine lv_iload G.1 G.2.1 dL_asks_270 (lv_at hl 0 rfl) ?_
                  refine gn_nez G (by omega) (tgt := 280) dL_asks_272 (by decide) (fun h => absurd rfl h) (fun h_272 => ?_)
                  refine lv_bipush (v := -101) G.1 G.2.1 dL_asks_275 (by decide) ?_
                  refine lv_goto (tgt := 321) G.1 G.2.1 dL_asks_277 (by decide) ?_
                  refine lv_icmp_eq (tgt := 326) G.1 G.2.1 dL_asks_321 (by decide) (fun h_321 => ?_) (fun h => absurd rfl h)
                  refine gn_iinc (lv' := [(12, .int (nI (i2 + 1))), (13, .int (nI 0)), (11, .int (nI b)), (10, .int (nI 0)), (9, .int y2), (0, .ref (q 0)), (1, .int w0), (2, .int (nI i)), (3, .ref (a 0)), (4, .ref (a 1)), (5, .ref (a 2)), (6, .ref (a 3)), (7, .ref (a 4)), (8, .ref (a 5))]) (n := 1) G dL_asks_326 hl (k := 1) rfl (by decide) rfl (fun ls hl => ?_)
                  refine lv_goto (tgt := 180) G.1 G.2.1 dL_asks_329 (by decide) ?_
                  refine W.widen (k := 14 * b + 2 * (N 0 + 1) + 2 * ((i2 + 1))) (n := 84 * b + 12 * (N 0 + 1) + 12 * ((i2 + 1))) (show 14 * b + 2 * (N 0 + 1) + 2 * i2 + 1 + 1 ≤ 14 * b + 2 * (N 0 + 1) + 2 * ((i2 + 1)) by omega) (show 84 * b + 12 * (N 0 + 1) + 12 * i2 + 6 + 6 ≤ 84 * b + 12 * (N 0 + 1) + 12 * ((i2 + 1)) by omega) ?_
                  exact kk180 _ _ _ ⟨_, hZ, hS, lv_sub hl [0, 2, 3, 4, 5, 6, 7, 8, 9, 10, 11, 12, 13] rfl⟩
                · refine lv_iload G.1 G.2.1 dL_asks_188 (lv_at hl 0 rfl) ?_
                  refine lv_aload_n G.1 G.2.1 dL_asks_190 rfl (lv_at hl 7 rfl) ?_
                  refine lv_iconst (v := nI 1) G.1 G.2.1 dL_asks_191 (by decide) ?_
                  refine gl_ald (k := 0) (len := 11) (F := fC N S) G hZ.r rfl (by omega) (by decide) dL_asks_192 ?_
                  rw [fC_1]
                  refine gn_ge G (by omega) (by omega) (tgt := 206) dL_asks_193 (by decide) (fun h_193 => ?_) (fun h_193 => ?_)
                  · refine lv_iconst (v := nI 0) G.1 G.2.1 dL_asks_206 (by decide) ?_
                    exact K_207 _ (rfl)
                  · refine lv_iload G.1 G.2.1 dL_asks_196 (lv_at hl 1 rfl) ?_
                    refine lv_iconst (v := nI 3) G.1 G.2.1 dL_asks_198 (by decide) ?_
                    refine gn_ge G (by omega) (by omega) (tgt := 206) dL_asks_199 (by decide) (fun h_199 => ?_) (fun h => absurd h (by omega))
                    refine lv_iconst (v := nI 0) G.1 G.2.1 dL_asks_206 (by decide) ?_
                    exact K_207 _ (rfl)
            · obtain ⟨tr, hZ, hS, hl⟩ := hI
              refine lv_iload G.1 G.2.1 dL_asks_180 (lv_at hl 0 rfl) ?_
              refine lv_aload_n G.1 G.2.1 dL_asks_182 rfl (lv_at hl 7 rfl) ?_
              refine lv_iconst (v := nI 1) G.1 G.2.1 dL_asks_183 (by decide) ?_
              refine gl_ald (k := 0) (len := 11) (F := fC N S) G hZ.r rfl (by omega) (by decide) dL_asks_184 ?_
              rw [fC_1]
              refine gn_gt G (by omega) (by omega) (tgt := 332) dL_asks_185 (by decide) (fun h_185 => ?_) (fun h => absurd h (by omega))
              refine gn_iinc (lv' := [(11, .int (nI (b + 1))), (12, .int (nI ((N 5 + 1)))), (10, .int (nI 0)), (9, .int y2), (0, .ref (q 0)), (1, .int w0), (2, .int (nI i)), (3, .ref (a 0)), (4, .ref (a 1)), (5, .ref (a 2)), (6, .ref (a 3)), (7, .ref (a 4)), (8, .ref (a 5))]) (n := 1) G dL_asks_332 hl (k := 1) rfl (by decide) rfl (fun ls hl => ?_)
              refine lv_goto (tgt := 32) G.1 G.2.1 dL_asks_335 (by decide) ?_
              refine W.widen (k := 14 * ((b + 1))) (n := 84 * ((b + 1))) (show 14 * b + 2 * (N 0 + 1) + 2 * ((N 5 + 1)) ≤ 14 * ((b + 1)) by omega) (show 84 * b + 12 * (N 0 + 1) + 12 * ((N 5 + 1)) ≤ 84 * ((b + 1)) by omega) ?_
              exact kk32 _ _ _ ⟨_, hZ, hS, lv_sub hl [0, 2, 3, 4, 5, 6, 7, 8, 9, 10, 11, 12] rfl⟩
        · obtain ⟨tr, hZ, hS, hl⟩ := hI
          refine lv_iload G.1 G.2.1 dL_asks_32 (lv_at hl 0 rfl) ?_
          refine lv_iconst (v := nI 4) G.1 G.2.1 dL_asks_34 (by decide) ?_
          refine gn_ge G (by omega) (by omega) (tgt := 338) dL_asks_35 (by decide) (fun h_35 => ?_) (fun h => absurd h (by omega))
          refine W.widen (k := 56) (n := 336) (show 14 * 4 ≤ 56 by omega) (show 84 * 4 ≤ 336 by omega) ?_
          exact K338 _ _ _ ⟨_, hZ, hS, lv_sub hl [3, 4, 5, 6, 7, 8, 9, 10, 11] rfl⟩
      · refine lv_iload G.1 G.2.1 dL_asks_9 (lv_at hl 0 rfl) ?_
        refine lv_if_lt (tgt := 26) G.1 G.2.1 dL_asks_11 (by decide) (fun h_11 => ?_) (fun h_11 => ?_)
        · refine lv_iconst (v := nI 0) G.1 G.2.1 dL_asks_26 (by decide) ?_
          exact K_27 _ (rfl)
        · refine lv_iload G.1 G.2.1 dL_asks_14 (lv_at hl 0 rfl) ?_
          refine lv_sipush (v := nI 256) G.1 G.2.1 dL_asks_16 (by decide) ?_
          refine lv_icmp_ge (tgt := 26) G.1 G.2.1 dL_asks_19 (by decide) (fun h_19 => ?_) (fun h => (lg_gein (by omega) h_11 h hg_vf).elim)
          refine lv_iconst (v := nI 0) G.1 G.2.1 dL_asks_26 (by decide) ?_
          exact K_27 _ (rfl)
