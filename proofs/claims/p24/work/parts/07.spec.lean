/-! WHAT THE PUBLIC CALLS DO, as naturals: tests in their order (sA, sB, sC), the answer (sR), the numbers and the rows behind it (sN, sS) -/
theorem gu_id {F : Nat → Nat} {k v : Nat} (h : F k = v) : gu F k v = F := by
  funext j
  unfold gu
  split
  · rename_i e
    rw [e, h]
  · rfl
theorem gu_ext {F G : Nat → Nat} (h : ∀ j, F j = G j) : F = G := funext h
/-- a new profile's curves and reaches -/
def sp_fill (F : Nat → Nat) (base : Nat) : Nat → Nat → Nat
  | 0 => F
  | k + 1 => gu (sp_fill F base k) (base + k) (sp_vop (k % 5))
def sp_fill2 (F : Nat → Nat) (base : Nat) : Nat → Nat → Nat
  | 0 => F
  | k + 1 => gu (sp_fill2 F base k) (base + k) 255
def sp_newS (N : Nat → Nat) (S : Nat → Nat → Nat) : Nat → Nat → Nat := gs (gs S 1 (sp_fill (S 1) (N 0 * 15) 15)) 3 (sp_fill2 (S 3) (N 0 * 3) 3)
/-- how far two numbers are apart -/
def sp_ap (a b : Nat) : Nat := if a < b then b - a else a - b
/-- the gap of a chain -/
def sp_gapAt (S : Nat → Nat → Nat) (ch b v : Nat) : Nat := sp_ap (sp_pass S ch b v) (sp_btw (fun k => sp_pass S ch b (sp_vop k)) 0 v)
def sp_gapTo (S : Nat → Nat → Nat) (ch : Nat) : Nat → Nat
  | 0 => 0
  | n + 1 => max (sp_gapTo S ch n) (sp_gapAt S ch (n / 256) (n % 256))
def sp_gap (S : Nat → Nat → Nat) (ch : Nat) : Nat := sp_gapTo S ch 768
/-- the grey gap -/
def sp_mn (S : Nat → Nat → Nat) (ch v : Nat) : Nat → Nat
  | 0 => 255
  | b + 1 => min (sp_mn S ch v b) (sp_pass S ch b v)
def sp_mx (S : Nat → Nat → Nat) (ch v : Nat) : Nat → Nat
  | 0 => 0
  | b + 1 => max (sp_mx S ch v b) (sp_pass S ch b v)
def sp_greyTo (S : Nat → Nat → Nat) (ch : Nat) : Nat → Nat
  | 0 => 0
  | v + 1 => max (sp_greyTo S ch v) (sp_mx S ch v 3 - sp_mn S ch v 3)
def sp_grey (S : Nat → Nat → Nat) (ch : Nat) : Nat := sp_greyTo S ch 256
/-- what a joining keeps -/
def sp_kpTo (S : Nat → Nat → Nat) (ch : Nat) : Nat → Nat → Nat
  | 0 => S 8
  | k + 1 => gu (sp_kpTo S ch k) (ch * 15 + k) (sp_pass S ch (k / 5) (sp_vop (k % 5)))
def sp_trTo (S : Nat → Nat → Nat) (ch : Nat) (tr : Nat → Nat) : Nat → Nat → Nat
  | 0 => tr
  | k + 1 => gu (sp_trTo S ch tr k) k (sp_pass S ch (k / 5) (sp_vop (k % 5)))
/-- what holds of numbers and rows beside the ranges -/
def sp_inv (N : Nat → Nat) (S : Nat → Nat → Nat) : Prop := (∀ j, 3 * N 0 ≤ j → S 2 j = 0) ∧ (∀ j, N 0 ≤ j → S 4 j = 0) ∧ N 9 < 64 ∧ N 10 < 64 ∧ (∀ c, N 5 ≤ c → sp_bit (N 9) c = 0 ∧ sp_bit (N 10) c = 0) ∧ (∀ c, c < 6 → S 9 c = sp_bit (N 9) c ∧ S 10 c = sp_bit (N 10) c) ∧ (∀ c k, c < 6 → k < S 7 c → S 6 (c * 6 + k) < N 0)
def sA_profile (N : Nat → Nat) (S : Nat → Nat → Nat) : Bool := true
def sB_profile (N : Nat → Nat) (S : Nat → Nat → Nat) : Bool := true
def sC_profile (N : Nat → Nat) (S : Nat → Nat → Nat) : Bool := decide (N 0 < 8)
def sR_profile (N : Nat → Nat) (S : Nat → Nat → Nat) : Nat := N 0
def sN_profile (N : Nat → Nat) (S : Nat → Nat → Nat) : Nat → Nat := gu N 0 (N 0 + 1)
def sS_profile (N : Nat → Nat) (S : Nat → Nat → Nat) : Nat → Nat → Nat := sp_newS N S
def sA_bend (N : Nat → Nat) (S : Nat → Nat → Nat) (i1 i2 i3 i4 : Int32) : Bool := gb i1 (N 0) && gb i2 3 && gb i3 5
def sB_bend (N : Nat → Nat) (S : Nat → Nat → Nat) (i1 i2 i3 i4 : Int32) : Bool := gb i4 256
def sC_bend (N : Nat → Nat) (S : Nat → Nat → Nat) (i1 i2 i3 i4 : Int32) : Bool := decide (sp_bit (sp_held N S) (gn i1) = 0)
def sR_bend (N : Nat → Nat) (S : Nat → Nat → Nat) (i1 i2 i3 i4 : Int32) : Nat := S 1 ((gn i1 * 3 + gn i2) * 5 + gn i3)
def sN_bend (N : Nat → Nat) (S : Nat → Nat → Nat) (i1 i2 i3 i4 : Int32) : Nat → Nat := N
def sS_bend (N : Nat → Nat) (S : Nat → Nat → Nat) (i1 i2 i3 i4 : Int32) : Nat → Nat → Nat := gs S 1 (gu (S 1) ((gn i1 * 3 + gn i2) * 5 + gn i3) (gn i4))
def sA_reach (N : Nat → Nat) (S : Nat → Nat → Nat) (i1 i2 i3 i4 : Int32) : Bool := gb i1 (N 0) && gb i2 3
def sB_reach (N : Nat → Nat) (S : Nat → Nat → Nat) (i1 i2 i3 i4 : Int32) : Bool := gb i3 256 && gb i4 256 && decide (gn i3 ≤ gn i4)
def sC_reach (N : Nat → Nat) (S : Nat → Nat → Nat) (i1 i2 i3 i4 : Int32) : Bool := decide (sp_bit (sp_held N S) (gn i1) = 0)
def sR_reach (N : Nat → Nat) (S : Nat → Nat → Nat) (i1 i2 i3 i4 : Int32) : Nat := S 3 (gn i1 * 3 + gn i2) - S 2 (gn i1 * 3 + gn i2) + 1
def sN_reach (N : Nat → Nat) (S : Nat → Nat → Nat) (i1 i2 i3 i4 : Int32) : Nat → Nat := N
def sS_reach (N : Nat → Nat) (S : Nat → Nat → Nat) (i1 i2 i3 i4 : Int32) : Nat → Nat → Nat := gs (gs S 2 (gu (S 2) (gn i1 * 3 + gn i2) (gn i3))) 3 (gu (S 3) (gn i1 * 3 + gn i2) (gn i4))
def sA_way (N : Nat → Nat) (S : Nat → Nat → Nat) (i1 i2 : Int32) : Bool := gb i1 (N 0)
def sB_way (N : Nat → Nat) (S : Nat → Nat → Nat) (i1 i2 : Int32) : Bool := gb i2 3
def sC_way (N : Nat → Nat) (S : Nat → Nat → Nat) (i1 i2 : Int32) : Bool := decide (sp_bit (sp_held N S) (gn i1) = 0)
def sR_way (N : Nat → Nat) (S : Nat → Nat → Nat) (i1 i2 : Int32) : Nat := S 4 (gn i1)
def sN_way (N : Nat → Nat) (S : Nat → Nat → Nat) (i1 i2 : Int32) : Nat → Nat := N
def sS_way (N : Nat → Nat) (S : Nat → Nat → Nat) (i1 i2 : Int32) : Nat → Nat → Nat := gs S 4 (gu (S 4) (gn i1) (gn i2))
def sA_curve (N : Nat → Nat) (S : Nat → Nat → Nat) (i1 i2 i3 : Int32) : Bool := gb i1 (N 0) && gb i2 3
def sB_curve (N : Nat → Nat) (S : Nat → Nat → Nat) (i1 i2 i3 : Int32) : Bool := gb i3 256
def sC_curve (N : Nat → Nat) (S : Nat → Nat → Nat) (i1 i2 i3 : Int32) : Bool := true
def sR_curve (N : Nat → Nat) (S : Nat → Nat → Nat) (i1 i2 i3 : Int32) : Nat := sp_curve S (gn i1) (gn i2) (gn i3)
def sN_curve (N : Nat → Nat) (S : Nat → Nat → Nat) (i1 i2 i3 : Int32) : Nat → Nat := N
def sS_curve (N : Nat → Nat) (S : Nat → Nat → Nat) (i1 i2 i3 : Int32) : Nat → Nat → Nat := S
def sA_taken (N : Nat → Nat) (S : Nat → Nat → Nat) (i1 i2 i3 : Int32) : Bool := gb i1 (N 0) && gb i2 3
def sB_taken (N : Nat → Nat) (S : Nat → Nat → Nat) (i1 i2 i3 : Int32) : Bool := gb i3 256
def sC_taken (N : Nat → Nat) (S : Nat → Nat → Nat) (i1 i2 i3 : Int32) : Bool := true
def sR_taken (N : Nat → Nat) (S : Nat → Nat → Nat) (i1 i2 i3 : Int32) : Nat := sp_tk S (gn i1) (gn i2) (gn i3)
def sN_taken (N : Nat → Nat) (S : Nat → Nat → Nat) (i1 i2 i3 : Int32) : Nat → Nat := N
def sS_taken (N : Nat → Nat) (S : Nat → Nat → Nat) (i1 i2 i3 : Int32) : Nat → Nat → Nat := S
def sA_chain (N : Nat → Nat) (S : Nat → Nat → Nat) : Bool := true
def sB_chain (N : Nat → Nat) (S : Nat → Nat → Nat) : Bool := true
def sC_chain (N : Nat → Nat) (S : Nat → Nat → Nat) : Bool := decide (N 5 < 6)
def sR_chain (N : Nat → Nat) (S : Nat → Nat → Nat) : Nat := N 5
def sN_chain (N : Nat → Nat) (S : Nat → Nat → Nat) : Nat → Nat := gu N 5 (N 5 + 1)
def sS_chain (N : Nat → Nat) (S : Nat → Nat → Nat) : Nat → Nat → Nat := S
def sA_add (N : Nat → Nat) (S : Nat → Nat → Nat) (i1 i2 : Int32) : Bool := gb i1 (N 5) && gb i2 (N 0)
def sB_add (N : Nat → Nat) (S : Nat → Nat → Nat) (i1 i2 : Int32) : Bool := true
def sC_add (N : Nat → Nat) (S : Nat → Nat → Nat) (i1 i2 : Int32) : Bool := decide (sp_bit (N 10) (gn i1) = 0) && decide (S 7 (gn i1) < 6)
def sR_add (N : Nat → Nat) (S : Nat → Nat → Nat) (i1 i2 : Int32) : Nat := S 7 (gn i1) + 1
def sN_add (N : Nat → Nat) (S : Nat → Nat → Nat) (i1 i2 : Int32) : Nat → Nat := N
def sS_add (N : Nat → Nat) (S : Nat → Nat → Nat) (i1 i2 : Int32) : Nat → Nat → Nat := gs (gs S 6 (gu (S 6) (gn i1 * 6 + S 7 (gn i1)) (gn i2))) 7 (gu (S 7) (gn i1) (S 7 (gn i1) + 1))
def sA_drop (N : Nat → Nat) (S : Nat → Nat → Nat) (i1 : Int32) : Bool := gb i1 (N 5)
def sB_drop (N : Nat → Nat) (S : Nat → Nat → Nat) (i1 : Int32) : Bool := true
def sC_drop (N : Nat → Nat) (S : Nat → Nat → Nat) (i1 : Int32) : Bool := decide (sp_bit (N 10) (gn i1) = 0) && decide (0 < S 7 (gn i1))
def sR_drop (N : Nat → Nat) (S : Nat → Nat → Nat) (i1 : Int32) : Nat := S 6 (gn i1 * 6 + S 7 (gn i1) - 1)
def sN_drop (N : Nat → Nat) (S : Nat → Nat → Nat) (i1 : Int32) : Nat → Nat := N
def sS_drop (N : Nat → Nat) (S : Nat → Nat → Nat) (i1 : Int32) : Nat → Nat → Nat := gs S 7 (gu (S 7) (gn i1) (S 7 (gn i1) - 1))
def sA_through (N : Nat → Nat) (S : Nat → Nat → Nat) (i1 i2 i3 : Int32) : Bool := gb i1 (N 5) && gb i2 3
def sB_through (N : Nat → Nat) (S : Nat → Nat → Nat) (i1 i2 i3 : Int32) : Bool := gb i3 256
def sC_through (N : Nat → Nat) (S : Nat → Nat → Nat) (i1 i2 i3 : Int32) : Bool := true
def sR_through (N : Nat → Nat) (S : Nat → Nat → Nat) (i1 i2 i3 : Int32) : Nat := sp_pass S (gn i1) (gn i2) (gn i3)
def sN_through (N : Nat → Nat) (S : Nat → Nat → Nat) (i1 i2 i3 : Int32) : Nat → Nat := N
def sS_through (N : Nat → Nat) (S : Nat → Nat → Nat) (i1 i2 i3 : Int32) : Nat → Nat → Nat := S
def sA_gap (N : Nat → Nat) (S : Nat → Nat → Nat) (i1 : Int32) : Bool := gb i1 (N 5)
def sB_gap (N : Nat → Nat) (S : Nat → Nat → Nat) (i1 : Int32) : Bool := true
def sC_gap (N : Nat → Nat) (S : Nat → Nat → Nat) (i1 : Int32) : Bool := true
def sR_gap (N : Nat → Nat) (S : Nat → Nat → Nat) (i1 : Int32) : Nat := sp_gap S (gn i1)
def sN_gap (N : Nat → Nat) (S : Nat → Nat → Nat) (i1 : Int32) : Nat → Nat := N
def sS_gap (N : Nat → Nat) (S : Nat → Nat → Nat) (i1 : Int32) : Nat → Nat → Nat := S
def sA_greyGap (N : Nat → Nat) (S : Nat → Nat → Nat) (i1 : Int32) : Bool := gb i1 (N 5)
def sB_greyGap (N : Nat → Nat) (S : Nat → Nat → Nat) (i1 : Int32) : Bool := true
def sC_greyGap (N : Nat → Nat) (S : Nat → Nat → Nat) (i1 : Int32) : Bool := true
def sR_greyGap (N : Nat → Nat) (S : Nat → Nat → Nat) (i1 : Int32) : Nat := sp_grey S (gn i1)
def sN_greyGap (N : Nat → Nat) (S : Nat → Nat → Nat) (i1 : Int32) : Nat → Nat := N
def sS_greyGap (N : Nat → Nat) (S : Nat → Nat → Nat) (i1 : Int32) : Nat → Nat → Nat := S
def sA_join (N : Nat → Nat) (S : Nat → Nat → Nat) (i1 i2 : Int32) : Bool := gb i1 (N 5)
def sB_join (N : Nat → Nat) (S : Nat → Nat → Nat) (i1 i2 : Int32) : Bool := gb i2 256
def sC_join (N : Nat → Nat) (S : Nat → Nat → Nat) (i1 i2 : Int32) : Bool := decide (sp_gap S (gn i1) ≤ gn i2)
def sR_join (N : Nat → Nat) (S : Nat → Nat → Nat) (i1 i2 : Int32) : Nat := sp_gap S (gn i1)
def sN_join (N : Nat → Nat) (S : Nat → Nat → Nat) (i1 i2 : Int32) : Nat → Nat := gu N 9 (N 9 ||| 2 ^ (gn i1))
def sS_join (N : Nat → Nat) (S : Nat → Nat → Nat) (i1 i2 : Int32) : Nat → Nat → Nat := gs (gs S 8 (sp_kpTo S (gn i1) 15)) 9 (gu (S 9) (gn i1) 1)
def sA_joined (N : Nat → Nat) (S : Nat → Nat → Nat) (i1 i2 i3 : Int32) : Bool := gb i1 (N 5) && gb i2 3
def sB_joined (N : Nat → Nat) (S : Nat → Nat → Nat) (i1 i2 i3 : Int32) : Bool := gb i3 256
def sC_joined (N : Nat → Nat) (S : Nat → Nat → Nat) (i1 i2 i3 : Int32) : Bool := decide (sp_bit (N 9) (gn i1) = 1)
def sR_joined (N : Nat → Nat) (S : Nat → Nat → Nat) (i1 i2 i3 : Int32) : Nat := sp_btw (S 8) ((gn i1 * 3 + gn i2) * 5) (gn i3)
def sN_joined (N : Nat → Nat) (S : Nat → Nat → Nat) (i1 i2 i3 : Int32) : Nat → Nat := N
def sS_joined (N : Nat → Nat) (S : Nat → Nat → Nat) (i1 i2 i3 : Int32) : Nat → Nat → Nat := S
def sA_sign (N : Nat → Nat) (S : Nat → Nat → Nat) (i1 : Int32) : Bool := gb i1 (N 5)
def sB_sign (N : Nat → Nat) (S : Nat → Nat → Nat) (i1 : Int32) : Bool := true
def sC_sign (N : Nat → Nat) (S : Nat → Nat → Nat) (i1 : Int32) : Bool := true
def sR_sign (N : Nat → Nat) (S : Nat → Nat → Nat) (i1 : Int32) : Nat := 1 - sp_bit (N 10) (gn i1)
def sN_sign (N : Nat → Nat) (S : Nat → Nat → Nat) (i1 : Int32) : Nat → Nat := gu N 10 (N 10 ^^^ 2 ^ (gn i1))
def sS_sign (N : Nat → Nat) (S : Nat → Nat → Nat) (i1 : Int32) : Nat → Nat → Nat := gs S 10 (gu (S 10) (gn i1) (1 - S 10 (gn i1)))
def sA_paint (N : Nat → Nat) (S : Nat → Nat → Nat) (i1 i2 i3 : Int32) : Bool := gb i1 6 && gb i2 3
def sB_paint (N : Nat → Nat) (S : Nat → Nat → Nat) (i1 i2 i3 : Int32) : Bool := gb i3 256
def sC_paint (N : Nat → Nat) (S : Nat → Nat → Nat) (i1 i2 i3 : Int32) : Bool := true
def sR_paint (N : Nat → Nat) (S : Nat → Nat → Nat) (i1 i2 i3 : Int32) : Nat := S 12 (gn i1 * 3 + gn i2)
def sN_paint (N : Nat → Nat) (S : Nat → Nat → Nat) (i1 i2 i3 : Int32) : Nat → Nat := N
def sS_paint (N : Nat → Nat) (S : Nat → Nat → Nat) (i1 i2 i3 : Int32) : Nat → Nat → Nat := gs S 12 (gu (S 12) (gn i1 * 3 + gn i2) (gn i3))
def sA_spot (N : Nat → Nat) (S : Nat → Nat → Nat) (i1 i2 i3 : Int32) : Bool := gb i1 6 && gb i2 3
def sB_spot (N : Nat → Nat) (S : Nat → Nat → Nat) (i1 i2 i3 : Int32) : Bool := gb i3 256
def sC_spot (N : Nat → Nat) (S : Nat → Nat → Nat) (i1 i2 i3 : Int32) : Bool := true
def sR_spot (N : Nat → Nat) (S : Nat → Nat → Nat) (i1 i2 i3 : Int32) : Nat := S 13 (gn i1 * 3 + gn i2)
def sN_spot (N : Nat → Nat) (S : Nat → Nat → Nat) (i1 i2 i3 : Int32) : Nat → Nat := N
def sS_spot (N : Nat → Nat) (S : Nat → Nat → Nat) (i1 i2 i3 : Int32) : Nat → Nat → Nat := gs S 13 (gu (S 13) (gn i1 * 3 + gn i2) (gn i3))
def sA_mix (N : Nat → Nat) (S : Nat → Nat → Nat) (i1 i2 i3 : Int32) : Bool := gb i1 3 && gb i2 3
def sB_mix (N : Nat → Nat) (S : Nat → Nat → Nat) (i1 i2 i3 : Int32) : Bool := gb i3 256
def sC_mix (N : Nat → Nat) (S : Nat → Nat → Nat) (i1 i2 i3 : Int32) : Bool := true
def sR_mix (N : Nat → Nat) (S : Nat → Nat → Nat) (i1 i2 i3 : Int32) : Nat := S 14 (gn i1 * 3 + gn i2)
def sN_mix (N : Nat → Nat) (S : Nat → Nat → Nat) (i1 i2 i3 : Int32) : Nat → Nat := N
def sS_mix (N : Nat → Nat) (S : Nat → Nat → Nat) (i1 i2 i3 : Int32) : Nat → Nat → Nat := gs S 14 (gu (S 14) (gn i1 * 3 + gn i2) (gn i3))
def sA_shown (N : Nat → Nat) (S : Nat → Nat → Nat) (i1 i2 i3 i4 : Int32) : Bool := gb i1 (N 5) && gb i2 6 && gb i3 3
def sB_shown (N : Nat → Nat) (S : Nat → Nat → Nat) (i1 i2 i3 i4 : Int32) : Bool := gb i4 8
def sC_shown (N : Nat → Nat) (S : Nat → Nat → Nat) (i1 i2 i3 i4 : Int32) : Bool := true
def sR_shown (N : Nat → Nat) (S : Nat → Nat → Nat) (i1 i2 i3 i4 : Int32) : Nat := sp_pass S (gn i1) (gn i3) (sp_ink S (gn i2) (gn i3) (gn i4))
def sN_shown (N : Nat → Nat) (S : Nat → Nat → Nat) (i1 i2 i3 i4 : Int32) : Nat → Nat := N
def sS_shown (N : Nat → Nat) (S : Nat → Nat → Nat) (i1 i2 i3 i4 : Int32) : Nat → Nat → Nat := S
