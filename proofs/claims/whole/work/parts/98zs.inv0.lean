/-! the first invariant; the 32 pairs -/
section HXINV0
variable {N W H : Nat}
theorem hx_I0_z {b : Nat} (h : b ≠ 0 ∧ b ≠ 1 ∧ b ≠ 5 ∧ b ≠ 7 ∧ b ≠ 10 ∧ b ≠ 19 ∧ b ≠ 23 ∧ b ≠ 25 ∧ b ≠ 28 ∧ b ≠ 38 ∧ b ≠ 66 ∧ b ≠ 85 ∧ b ≠ 86 ∧ b ≠ 87) : hl_I0 N W H b = fun _ => 0 := by
  obtain ⟨h0, h1, h5, h7, h10, h19, h23, h25, h28, h38, h66, h85, h86, h87⟩ := h
  unfold hl_I0 hl_Ic
  simp only [hl_up_ne _ _ _ h0, hl_up_ne _ _ _ h1, hl_up_ne _ _ _ h19, hl_up_ne _ _ _ h38, hl_up_ne _ _ _ h66, hl_up_ne _ _ _ h85, hl_row_ne _ _ h5, hl_row_ne _ _ h7, hl_row_ne _ _ h10, hl_row_ne _ _ h23, hl_row_ne _ _ h25, hl_row_ne _ _ h28, hl_row_ne _ _ h86, hl_row_ne _ _ h87]
theorem hx_I0_86 : hl_I0 N W H 86 = hl_A0 12 24 := by
  unfold hl_I0
  rw [hl_row_ne _ _ (show (86 : Nat) ≠ 87 by omega)]
  funext k
  rw [hl_row_a, if_pos rfl]
theorem hx_I0_87 : hl_I0 N W H 87 = fun j => if j < 490 then hl_A0 12 24 j else 0 := by
  unfold hl_I0
  funext k
  rw [hl_row_a, if_pos rfl]
theorem hx_I0_1 (k : Nat) : hl_I0 N W H 1 k = if k = 13 then -1 else if k = 11 then -1 else if k = 10 then -1 else 0 := by
  unfold hl_I0 hl_Ic
  simp (config := { decide := true }) only [hl_up_a, hl_row_a, if_false, if_true]
theorem hx_I0_19 (k : Nat) : hl_I0 N W H 19 k = if k = 13 then -1 else if k = 11 then -1 else if k = 10 then -1 else 0 := by
  unfold hl_I0 hl_Ic
  simp (config := { decide := true }) only [hl_up_a, hl_row_a, if_false, if_true]
theorem hx_I0_5 (k : Nat) : hl_I0 N W H 5 k = if k < N then 480 else 0 := by
  unfold hl_I0 hl_Ic
  simp (config := { decide := true }) only [hl_up_a, hl_row_a, if_false, if_true]
theorem hx_I0_7 (k : Nat) : hl_I0 N W H 7 k = if k < N then -1 else 0 := by
  unfold hl_I0 hl_Ic
  simp (config := { decide := true }) only [hl_up_a, hl_row_a, if_false, if_true]
theorem hx_I0_10 (k : Nat) : hl_I0 N W H 10 k = if k < 12 then 360 else 0 := by
  unfold hl_I0 hl_Ic
  simp (config := { decide := true }) only [hl_up_a, hl_row_a, if_false, if_true]
theorem hx_I0_23 (k : Nat) : hl_I0 N W H 23 k = if k < N then 480 else 0 := by
  unfold hl_I0 hl_Ic
  simp (config := { decide := true }) only [hl_up_a, hl_row_a, if_false, if_true]
theorem hx_I0_25 (k : Nat) : hl_I0 N W H 25 k = if k < N then -1 else 0 := by
  unfold hl_I0 hl_Ic
  simp (config := { decide := true }) only [hl_up_a, hl_row_a, if_false, if_true]
theorem hx_I0_28 (k : Nat) : hl_I0 N W H 28 k = if k < 12 then 360 else 0 := by
  unfold hl_I0 hl_Ic
  simp (config := { decide := true }) only [hl_up_a, hl_row_a, if_false, if_true]
theorem hx_A0_z {j : Nat} (h3 : ¬ (j = 3 ∨ j = 4 ∨ j = 5)) (h15 : ¬ (15 ≤ j ∧ j < 27)) (h30 : ¬ (30 ≤ j ∧ j < 198 ∧ ((j - 30) % 7 = 3 ∨ (j - 30) % 7 = 5))) : hl_A0 12 24 j = 0 := by
  unfold hl_A0
  rw [if_neg h3, if_neg (by omega), if_neg (by omega), if_neg (by omega)]
/-- the class's land, row by row -/
theorem hx_LE0 (hN : N ≤ 24) (X : Nat → Nat → Int32) (b : Nat) (hz : ∀ r, r < 18 → r ≠ 0 → r ≠ 4 → r ≠ 6 → r ≠ 9 → X (b + r) = fun _ => 0) (h0 : ∀ k, X b k = if k = 13 then -1 else if k = 11 then -1 else if k = 10 then -1 else 0) (h4 : ∀ k, X (b + 4) k = if k < N then 480 else 0) (h6 : ∀ k, X (b + 6) k = if k < N then -1 else 0) (h9 : ∀ k, X (b + 9) k = if k < 12 then 360 else 0) (j r k : Nat) (h : hl_ri N j = some (r, k)) : X (b + r) k = hl_A0 12 24 j := by
  rcases hl_ri_c h with ⟨q1, q2, q3⟩ | ⟨q1, q2, q3⟩ | ⟨q1, q2, q3⟩ | ⟨q1, q2, q3⟩ | ⟨q1, q2, q3⟩ | ⟨q1, q2, q3⟩ | ⟨q1, q2, q3⟩ | ⟨q1, q2, q3⟩ | ⟨q1, q2, q3⟩ | ⟨q1, q2, q3⟩ | ⟨q1, q2, q3⟩ | ⟨q1, q2, q3⟩
  · subst q1; subst q2; subst q3
    rw [Nat.add_zero, h0]; rfl
  · subst q1; subst q2; subst q3
    rw [hz 10 (by omega) (by omega) (by omega) (by omega) (by omega)]; rfl
  · subst q1; subst q2; subst q3
    rw [Nat.add_zero, h0]; rfl
  · subst q1; subst q2; subst q3
    rw [Nat.add_zero, h0]; rfl
  · subst q1; subst q2; subst q3
    rw [Nat.add_zero, h0]; rfl
  · subst q1; subst q2; subst q3
    rw [Nat.add_zero, h0]; rfl
  · rw [q2, hz 8 (by omega) (by omega) (by omega) (by omega) (by omega), hx_A0_z (by omega) (by omega) (by omega)]
  · rw [q2, h9, if_pos (by omega)]
    unfold hl_A0
    rw [if_neg (by omega), if_pos (by omega)]
  · by_cases z3 : (j - 30) % 7 = 3
    · rw [q2, z3, h4, if_pos (by omega)]
      unfold hl_A0
      rw [if_neg (by omega), if_neg (by omega), if_pos (by omega)]
    · by_cases z5 : (j - 30) % 7 = 5
      · rw [q2, z5, h6, if_pos (by omega)]
        unfold hl_A0
        rw [if_neg (by omega), if_neg (by omega), if_neg (by omega), if_pos (by omega)]
      · rw [hz r (by omega) (by omega) (by omega) (by omega) (by omega), hx_A0_z (by omega) (by omega) (by omega)]
  · rw [hz r (by omega) (by omega) (by omega) (by omega) (by omega), hx_A0_z (by omega) (by omega) (by omega)]
  · rw [hz r (by omega) (by omega) (by omega) (by omega) (by omega), hx_A0_z (by omega) (by omega) (by omega)]
  · rw [hz r (by omega) (by omega) (by omega) (by omega) (by omega), hx_A0_z (by omega) (by omega) (by omega)]
/-- all pairs -/
theorem hx_all32 (hS : hl_Sh N W H) (hN : N ≤ 24) (o : Nat) (ho : o < 32) (f : Nat → Int32) : hl_PQ hl_TX N W H (hl_jc o) (hl_jm o) (hl_args o f) := by
  match o, ho with
  | 0, _ => exact hl_pr0 hl_TXc hN f
  | 1, _ => exact hl_pr1 hl_TXc hN f
  | 2, _ => exact hl_pr2 hl_TXc hN f
  | 3, _ => exact hl_pr3 hl_TXc hN f
  | 4, _ => exact hl_pr4 hl_TXc hN f
  | 5, _ => exact hl_pr5 hl_TXc hN f
  | 6, _ => exact hl_pr6 hl_TXc hN f
  | 7, _ => exact hl_pr7 f
  | 8, _ => exact hl_pr8 hl_TXc f
  | 9, _ => exact hx_pr9 f
  | 10, _ => exact hl_pr10 f
  | 11, _ => exact hl_pr11 hl_TXc hN f
  | 12, _ => exact hl_pr12 hN f
  | 13, _ => exact hl_pr13 hN f
  | 14, _ => exact hl_pr14 hS f
  | 15, _ => exact hx_pr15 hN f
  | 16, _ => exact hx_pr16 hN f
  | 17, _ => exact hx_pr17 hN f
  | 18, _ => exact hx_pr18 hN f
  | 19, _ => exact hl_pr19 hN f
  | 20, _ => exact hl_pr20 hN f
  | 21, _ => exact hl_pr21 hN f
  | 22, _ => exact hl_pr22 hS f
  | 23, _ => exact hl_pr23 hN f
  | 24, _ => exact hl_pr24 hl_TXc hN f
  | 25, _ => exact hl_pr25 hN f
  | 26, _ => exact hl_pr26 hN f
  | 27, _ => exact hx_pr27 hN f
  | 28, _ => exact hl_pr28 hN f
  | 29, _ => exact hl_pr29 hN f
  | 30, _ => exact hl_pr30 hN f
  | 31, _ => exact hl_pr31 hN f
  | o + 32, h => omega
end HXINV0
