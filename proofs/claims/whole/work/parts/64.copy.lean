/-! image, back: lands copied (printed by wip/whole/gen_copy.py) -/
def hl_cpd (I I' : Nat → Nat → Int32) (a b n : Nat) : Prop := (∀ q, q ≠ b → I' q = I q) ∧ ∀ k, k < n → I' b k = I a k
theorem hl_cpd_of {I : Nat → Nat → Int32} {a b n : Nat} : hl_cpd I (hl_row I b (va_cpy (I a) (I b) 0 0 n)) a b n := by
  refine ⟨fun q hq => hl_row_ne _ _ hq, fun k hk => ?_⟩
  rw [hl_row_a, if_pos rfl]
  unfold va_cpy
  rw [if_pos (by omega), Nat.sub_zero, Nat.zero_add]
theorem hl_nn0 : ((0 : Int32) < 0) = False := by decide
theorem hl_nn4 : ((4 : Int32) < 0) = False := by decide
theorem hl_nn12 : ((12 : Int32) < 0) = False := by decide
theorem hl_nn40 : ((40 : Int32) < 0) = False := by decide
theorem hl_v40 : (40 : Int32).toNatClampNeg = 40 := id rfl
theorem hl_v12 : (12 : Int32).toNatClampNeg = 12 := id rfl
theorem hl_nnN {n : Nat} (h : n < 2 ^ 31) : (nI n < 0) = False := eq_false (nI_pos h)
section HLCOPY
variable {d N W H : Nat} {I Is I' : Nat → Nat → Int32} {J J' : Nat → Nat → Int64}
theorem hl_bits_of {a : Nat} (h : ∀ c, c < N → I a c = 0 ∨ I a c = 1) : hl_bits (hl_g N I J) a 0 N = true := by
  unfold hl_bits
  rw [List.all_eq_true]
  intro c hc
  have := h c (List.mem_range.mp hc)
  rw [Nat.zero_add]
  show (decide (I a c = 0) || decide (I a c = 1)) = true
  rcases this with q | q <;> rw [q] <;> decide
theorem hl_s82_19 : ∃ I', hl_call (d + 1) 82 [.ref 29, .ref 11] (hl_g N I J) = some (none, hl_g N I' J) ∧ (∀ q, ¬ (29 ≤ q ∧ q ≤ 32) → I' q = I q) ∧ (∀ r, r < 3 → ∀ k, k < 40 → I' (30 + r) k = I (12 + r) k) ∧ I' 29 3 = I 11 3 := by
  rw [hl_e82]
  have c1 := hl_cpd_of (I := I) (a := 12) (b := 30) (n := 40)
  have e1 : hl_Run 82 (hl_call d) 0 [.ref 29, .ref 11] [] (hl_g N I J) = hl_Run 82 (hl_call d) 15 [.ref 29, .ref 11] [] (hl_g N (hl_row I 30 (va_cpy (I 12) (I 30) 0 0 40)) J) := by
    simp only [hl_r82_0, hl_r82_1, hl_r82_4, hl_r82_5, hl_r82_6, hl_r82_9, hl_r82_10, hl_r82_12, hl_o_11, hl_p_11_0, hl_p_11_1, hl_p_11_2, hl_o_29, hl_p_29_0, hl_p_29_1, hl_p_29_2, hl_a_12, hl_z_12, hl_a_30, hl_z_30, hl_nn0, hl_nn40, hl_v0, hl_v40, Nat.zero_add, Nat.le_refl, not_false_eq_true, true_or, and_self, hl_gcp, hl_kill_i, hl_kill_r, hl_kill_n, hl_kill_l, hl_tl_s, hl_tl_n, hl_cal_some, hl_gI, hl_gJ, hl_gsI, hl_gsJ, hl_tv01, if_true, if_false, hl_up_a, hl_row_a]
  generalize hl_row I 30 (va_cpy (I 12) (I 30) 0 0 40) = I1 at c1 e1
  have c2 := hl_cpd_of (I := I1) (a := 13) (b := 31) (n := 40)
  have e2 : hl_Run 82 (hl_call d) 15 [.ref 29, .ref 11] [] (hl_g N I1 J) = hl_Run 82 (hl_call d) 30 [.ref 29, .ref 11] [] (hl_g N (hl_row I1 31 (va_cpy (I1 13) (I1 31) 0 0 40)) J) := by
    simp only [hl_r82_15, hl_r82_16, hl_r82_19, hl_r82_20, hl_r82_21, hl_r82_24, hl_r82_25, hl_r82_27, hl_o_11, hl_p_11_0, hl_p_11_1, hl_p_11_2, hl_o_29, hl_p_29_0, hl_p_29_1, hl_p_29_2, hl_a_13, hl_z_13, hl_a_31, hl_z_31, hl_nn0, hl_nn40, hl_v0, hl_v40, Nat.zero_add, Nat.le_refl, not_false_eq_true, true_or, and_self, hl_gcp, hl_kill_i, hl_kill_r, hl_kill_n, hl_kill_l, hl_tl_s, hl_tl_n, hl_cal_some, hl_gI, hl_gJ, hl_gsI, hl_gsJ, hl_tv01, if_true, if_false, hl_up_a, hl_row_a]
  generalize hl_row I1 31 (va_cpy (I1 13) (I1 31) 0 0 40) = I2 at c2 e2
  have c3 := hl_cpd_of (I := I2) (a := 14) (b := 32) (n := 40)
  have e3 : hl_Run 82 (hl_call d) 30 [.ref 29, .ref 11] [] (hl_g N I2 J) = hl_Run 82 (hl_call d) 45 [.ref 29, .ref 11] [] (hl_g N (hl_row I2 32 (va_cpy (I2 14) (I2 32) 0 0 40)) J) := by
    simp only [hl_r82_30, hl_r82_31, hl_r82_34, hl_r82_35, hl_r82_36, hl_r82_39, hl_r82_40, hl_r82_42, hl_o_11, hl_p_11_0, hl_p_11_1, hl_p_11_2, hl_o_29, hl_p_29_0, hl_p_29_1, hl_p_29_2, hl_a_14, hl_z_14, hl_a_32, hl_z_32, hl_nn0, hl_nn40, hl_v0, hl_v40, Nat.zero_add, Nat.le_refl, not_false_eq_true, true_or, and_self, hl_gcp, hl_kill_i, hl_kill_r, hl_kill_n, hl_kill_l, hl_tl_s, hl_tl_n, hl_cal_some, hl_gI, hl_gJ, hl_gsI, hl_gsJ, hl_tv01, if_true, if_false, hl_up_a, hl_row_a]
  generalize hl_row I2 32 (va_cpy (I2 14) (I2 32) 0 0 40) = I3 at c3 e3
  refine ⟨hl_up I3 29 3 (I3 11 3), ?_, fun q hq => ?_, fun r hr k hk => ?_, ?_⟩
  · rw [e1, e2, e3]
    simp only [hl_r82_45, hl_r82_46, hl_r82_47, hl_r82_50, hl_r82_53, hl_o_11, hl_p_11_0, hl_p_11_1, hl_p_11_2, hl_o_29, hl_p_29_0, hl_p_29_1, hl_p_29_2, hl_kill_i, hl_kill_r, hl_kill_n, hl_kill_l, hl_tl_s, hl_tl_n, hl_cal_some, hl_gI, hl_gJ, hl_gsI, hl_gsJ, hl_tv01, if_true, if_false, hl_up_a, hl_row_a]
  · rw [hl_up_ne _ _ _ (by omega), c3.1 q (by omega), c2.1 q (by omega), c1.1 q (by omega)]
  · rw [hl_up_ne _ _ _ (by omega)]
    match r, hr with
    | 0, _ => rw [c3.1 _ (by omega), c2.1 _ (by omega)]; exact c1.2 k hk
    | 1, _ => rw [c3.1 _ (by omega)]; rw [show 30 + 1 = 31 from rfl, c2.2 k hk, c1.1 _ (by omega)]
    | 2, _ => rw [show 30 + 2 = 32 from rfl, c3.2 k hk, c2.1 _ (by omega), c1.1 _ (by omega)]
    | r + 3, hr => omega
  · rw [hl_up_at, c3.1 _ (by omega), c2.1 _ (by omega), c1.1 _ (by omega)]
theorem hl_s93_19 : ∃ I', hl_call (d + 1) 93 [.ref 33, .ref 15] (hl_g N I J) = some (none, hl_g N I' J) ∧ (∀ q, ¬ (34 ≤ q ∧ q ≤ 36) → I' q = I q) ∧ (∀ r, r < 2 → ∀ k, k < 72 → I' (34 + r) k = I (16 + r) k) ∧ ∀ k, k < 6 → I' 36 k = I 18 k := by
  rw [hl_e93]
  have z72 : Int32.ofNat 72 = nI 72 := rfl
  have z6 : Int32.ofNat 6 = nI 6 := rfl
  have c1 := hl_cpd_of (I := I) (a := 16) (b := 34) (n := 72)
  have e1 : hl_Run 93 (hl_call d) 0 [.ref 33, .ref 15] [] (hl_g N I J) = hl_Run 93 (hl_call d) 18 [.ref 33, .ref 15] [] (hl_g N (hl_row I 34 (va_cpy (I 16) (I 34) 0 0 72)) J) := by
    simp only [hl_r93_0, hl_r93_1, hl_r93_4, hl_r93_5, hl_r93_6, hl_r93_9, hl_r93_10, hl_r93_11, hl_r93_14, hl_r93_15, hl_o_15, hl_p_15_0, hl_p_15_1, hl_p_15_2, hl_o_33, hl_p_33_0, hl_p_33_1, hl_p_33_2, hl_a_16, hl_z_16, hl_a_34, hl_z_34, hl_l_34, z72, z6, hl_nnN (show 72 < 2 ^ 31 by omega), nIc (show 72 < 2 ^ 31 by omega), hl_nn0, hl_nn40, hl_v0, hl_v40, Nat.zero_add, Nat.le_refl, not_false_eq_true, true_or, and_self, hl_gcp, hl_kill_i, hl_kill_r, hl_kill_n, hl_kill_l, hl_tl_s, hl_tl_n, hl_cal_some, hl_gI, hl_gJ, hl_gsI, hl_gsJ, hl_tv01, if_true, if_false, hl_up_a, hl_row_a]
  generalize hl_row I 34 (va_cpy (I 16) (I 34) 0 0 72) = I1 at c1 e1
  have c2 := hl_cpd_of (I := I1) (a := 17) (b := 35) (n := 72)
  have e2 : hl_Run 93 (hl_call d) 18 [.ref 33, .ref 15] [] (hl_g N I1 J) = hl_Run 93 (hl_call d) 36 [.ref 33, .ref 15] [] (hl_g N (hl_row I1 35 (va_cpy (I1 17) (I1 35) 0 0 72)) J) := by
    simp only [hl_r93_18, hl_r93_19, hl_r93_22, hl_r93_23, hl_r93_24, hl_r93_27, hl_r93_28, hl_r93_29, hl_r93_32, hl_r93_33, hl_o_15, hl_p_15_0, hl_p_15_1, hl_p_15_2, hl_o_33, hl_p_33_0, hl_p_33_1, hl_p_33_2, hl_a_17, hl_z_17, hl_a_35, hl_z_35, hl_l_35, z72, z6, hl_nnN (show 72 < 2 ^ 31 by omega), nIc (show 72 < 2 ^ 31 by omega), hl_nn0, hl_nn40, hl_v0, hl_v40, Nat.zero_add, Nat.le_refl, not_false_eq_true, true_or, and_self, hl_gcp, hl_kill_i, hl_kill_r, hl_kill_n, hl_kill_l, hl_tl_s, hl_tl_n, hl_cal_some, hl_gI, hl_gJ, hl_gsI, hl_gsJ, hl_tv01, if_true, if_false, hl_up_a, hl_row_a]
  generalize hl_row I1 35 (va_cpy (I1 17) (I1 35) 0 0 72) = I2 at c2 e2
  have c3 := hl_cpd_of (I := I2) (a := 18) (b := 36) (n := 6)
  have e3 : hl_Run 93 (hl_call d) 36 [.ref 33, .ref 15] [] (hl_g N I2 J) = hl_Run 93 (hl_call d) 54 [.ref 33, .ref 15] [] (hl_g N (hl_row I2 36 (va_cpy (I2 18) (I2 36) 0 0 6)) J) := by
    simp only [hl_r93_36, hl_r93_37, hl_r93_40, hl_r93_41, hl_r93_42, hl_r93_45, hl_r93_46, hl_r93_47, hl_r93_50, hl_r93_51, hl_o_15, hl_p_15_0, hl_p_15_1, hl_p_15_2, hl_o_33, hl_p_33_0, hl_p_33_1, hl_p_33_2, hl_a_18, hl_z_18, hl_a_36, hl_z_36, hl_l_36, z72, z6, hl_nnN (show 6 < 2 ^ 31 by omega), nIc (show 6 < 2 ^ 31 by omega), hl_nn0, hl_nn40, hl_v0, hl_v40, Nat.zero_add, Nat.le_refl, not_false_eq_true, true_or, and_self, hl_gcp, hl_kill_i, hl_kill_r, hl_kill_n, hl_kill_l, hl_tl_s, hl_tl_n, hl_cal_some, hl_gI, hl_gJ, hl_gsI, hl_gsJ, hl_tv01, if_true, if_false, hl_up_a, hl_row_a]
  generalize hl_row I2 36 (va_cpy (I2 18) (I2 36) 0 0 6) = I3 at c3 e3
  refine ⟨I3, ?_, fun q hq => ?_, fun r hr k hk => ?_, fun k hk => ?_⟩
  · rw [e1, e2, e3, hl_r93_54]
  · rw [c3.1 q (by omega), c2.1 q (by omega), c1.1 q (by omega)]
  · match r, hr with
    | 0, _ => rw [c3.1 _ (by omega), c2.1 _ (by omega)]; exact c1.2 k hk
    | 1, _ => rw [c3.1 _ (by omega)]; rw [show 34 + 1 = 35 from rfl, c2.2 k hk, c1.1 _ (by omega)]
    | r + 2, hr => omega
  · rw [c3.2 k hk, c2.1 _ (by omega), c1.1 _ (by omega)]
set_option maxHeartbeats 1000000 in
theorem hl_s8_19 (hN : N ≤ 24) (hb : ∀ c, c < N → I 6 c = 0 ∨ I 6 c = 1) : ∃ I', hl_call (d + 2) 8 [.ref 19, .ref 1] (hl_g N I J) = some (none, hl_g N I' J) ∧ (∀ q, ¬ (19 ≤ q ∧ q < 37) → I' q = I q) ∧ ∀ j r k, hl_ri N j = some (r, k) → I' (19 + r) k = I (1 + r) k := by
  rw [hl_e8]
  have zN : Int32.ofNat N = nI N := rfl
  have bN : N < 2 ^ 31 := by omega
  have e0 : hl_Run 8 (hl_call (d + 1)) 0 [.ref 19, .ref 1, .null] [] (hl_g N I J) = hl_Run 8 (hl_call (d + 1)) 6 [.ref 19, .ref 1, .int (nI N)] [] (hl_g N I J) := by
    simp only [hl_r8_0, hl_r8_1, hl_r8_4, hl_r8_5, hl_o_19, hl_p_19_0, hl_p_19_1, hl_p_19_2, hl_p_19_3, hl_p_19_4, hl_p_19_5, hl_p_19_6, hl_p_19_7, hl_p_19_9, hl_p_19_14, hl_p_19_15, hl_a_20, hl_z_20, hl_l_20, zN, hl_kill_i, hl_kill_r, hl_kill_n, hl_kill_l, hl_tl_s, hl_tl_n, hl_cal_some, hl_gI, hl_gJ, hl_gsI, hl_gsJ, hl_tv01, if_true, if_false, hl_up_a, hl_row_a]
  have c1 := hl_cpd_of (I := I) (a := 2) (b := 20) (n := N)
  have e1 : hl_Run 8 (hl_call (d + 1)) 6 [.ref 19, .ref 1, .int (nI N)] [] (hl_g N I J) = hl_Run 8 (hl_call (d + 1)) 20 [.ref 19, .ref 1, .int (nI N)] [] (hl_g N (hl_row I 20 (va_cpy (I 2) (I 20) 0 0 N)) J) := by
    simp only [hl_r8_6, hl_r8_7, hl_r8_10, hl_r8_11, hl_r8_12, hl_r8_15, hl_r8_16, hl_r8_17, hl_o_1, hl_p_1_0, hl_p_1_1, hl_p_1_2, hl_p_1_3, hl_p_1_4, hl_p_1_5, hl_p_1_6, hl_p_1_7, hl_p_1_9, hl_p_1_14, hl_p_1_15, hl_o_19, hl_p_19_0, hl_p_19_1, hl_p_19_2, hl_p_19_3, hl_p_19_4, hl_p_19_5, hl_p_19_6, hl_p_19_7, hl_p_19_9, hl_p_19_14, hl_p_19_15, hl_a_2, hl_z_2, hl_a_20, hl_z_20, hl_nnN bN, nIc bN, hl_nn4, hl_nn12, hl_v4, hl_v12, hl_nn0, hl_nn40, hl_v0, hl_v40, Nat.zero_add, Nat.le_refl, not_false_eq_true, true_or, and_self, hl_gcp, hl_kill_i, hl_kill_r, hl_kill_n, hl_kill_l, hl_tl_s, hl_tl_n, hl_cal_some, hl_gI, hl_gJ, hl_gsI, hl_gsJ, hl_tv01, if_true, if_false, hl_up_a, hl_row_a]
  generalize hl_row I 20 (va_cpy (I 2) (I 20) 0 0 N) = I1 at c1 e1
  have c2 := hl_cpd_of (I := I1) (a := 3) (b := 21) (n := N)
  have e2 : hl_Run 8 (hl_call (d + 1)) 20 [.ref 19, .ref 1, .int (nI N)] [] (hl_g N I1 J) = hl_Run 8 (hl_call (d + 1)) 34 [.ref 19, .ref 1, .int (nI N)] [] (hl_g N (hl_row I1 21 (va_cpy (I1 3) (I1 21) 0 0 N)) J) := by
    simp only [hl_r8_20, hl_r8_21, hl_r8_24, hl_r8_25, hl_r8_26, hl_r8_29, hl_r8_30, hl_r8_31, hl_o_1, hl_p_1_0, hl_p_1_1, hl_p_1_2, hl_p_1_3, hl_p_1_4, hl_p_1_5, hl_p_1_6, hl_p_1_7, hl_p_1_9, hl_p_1_14, hl_p_1_15, hl_o_19, hl_p_19_0, hl_p_19_1, hl_p_19_2, hl_p_19_3, hl_p_19_4, hl_p_19_5, hl_p_19_6, hl_p_19_7, hl_p_19_9, hl_p_19_14, hl_p_19_15, hl_a_3, hl_z_3, hl_a_21, hl_z_21, hl_nnN bN, nIc bN, hl_nn4, hl_nn12, hl_v4, hl_v12, hl_nn0, hl_nn40, hl_v0, hl_v40, Nat.zero_add, Nat.le_refl, not_false_eq_true, true_or, and_self, hl_gcp, hl_kill_i, hl_kill_r, hl_kill_n, hl_kill_l, hl_tl_s, hl_tl_n, hl_cal_some, hl_gI, hl_gJ, hl_gsI, hl_gsJ, hl_tv01, if_true, if_false, hl_up_a, hl_row_a]
  generalize hl_row I1 21 (va_cpy (I1 3) (I1 21) 0 0 N) = I2 at c2 e2
  have c3 := hl_cpd_of (I := I2) (a := 4) (b := 22) (n := N)
  have e3 : hl_Run 8 (hl_call (d + 1)) 34 [.ref 19, .ref 1, .int (nI N)] [] (hl_g N I2 J) = hl_Run 8 (hl_call (d + 1)) 48 [.ref 19, .ref 1, .int (nI N)] [] (hl_g N (hl_row I2 22 (va_cpy (I2 4) (I2 22) 0 0 N)) J) := by
    simp only [hl_r8_34, hl_r8_35, hl_r8_38, hl_r8_39, hl_r8_40, hl_r8_43, hl_r8_44, hl_r8_45, hl_o_1, hl_p_1_0, hl_p_1_1, hl_p_1_2, hl_p_1_3, hl_p_1_4, hl_p_1_5, hl_p_1_6, hl_p_1_7, hl_p_1_9, hl_p_1_14, hl_p_1_15, hl_o_19, hl_p_19_0, hl_p_19_1, hl_p_19_2, hl_p_19_3, hl_p_19_4, hl_p_19_5, hl_p_19_6, hl_p_19_7, hl_p_19_9, hl_p_19_14, hl_p_19_15, hl_a_4, hl_z_4, hl_a_22, hl_z_22, hl_nnN bN, nIc bN, hl_nn4, hl_nn12, hl_v4, hl_v12, hl_nn0, hl_nn40, hl_v0, hl_v40, Nat.zero_add, Nat.le_refl, not_false_eq_true, true_or, and_self, hl_gcp, hl_kill_i, hl_kill_r, hl_kill_n, hl_kill_l, hl_tl_s, hl_tl_n, hl_cal_some, hl_gI, hl_gJ, hl_gsI, hl_gsJ, hl_tv01, if_true, if_false, hl_up_a, hl_row_a]
  generalize hl_row I2 22 (va_cpy (I2 4) (I2 22) 0 0 N) = I3 at c3 e3
  have c4 := hl_cpd_of (I := I3) (a := 5) (b := 23) (n := N)
  have e4 : hl_Run 8 (hl_call (d + 1)) 48 [.ref 19, .ref 1, .int (nI N)] [] (hl_g N I3 J) = hl_Run 8 (hl_call (d + 1)) 62 [.ref 19, .ref 1, .int (nI N)] [] (hl_g N (hl_row I3 23 (va_cpy (I3 5) (I3 23) 0 0 N)) J) := by
    simp only [hl_r8_48, hl_r8_49, hl_r8_52, hl_r8_53, hl_r8_54, hl_r8_57, hl_r8_58, hl_r8_59, hl_o_1, hl_p_1_0, hl_p_1_1, hl_p_1_2, hl_p_1_3, hl_p_1_4, hl_p_1_5, hl_p_1_6, hl_p_1_7, hl_p_1_9, hl_p_1_14, hl_p_1_15, hl_o_19, hl_p_19_0, hl_p_19_1, hl_p_19_2, hl_p_19_3, hl_p_19_4, hl_p_19_5, hl_p_19_6, hl_p_19_7, hl_p_19_9, hl_p_19_14, hl_p_19_15, hl_a_5, hl_z_5, hl_a_23, hl_z_23, hl_nnN bN, nIc bN, hl_nn4, hl_nn12, hl_v4, hl_v12, hl_nn0, hl_nn40, hl_v0, hl_v40, Nat.zero_add, Nat.le_refl, not_false_eq_true, true_or, and_self, hl_gcp, hl_kill_i, hl_kill_r, hl_kill_n, hl_kill_l, hl_tl_s, hl_tl_n, hl_cal_some, hl_gI, hl_gJ, hl_gsI, hl_gsJ, hl_tv01, if_true, if_false, hl_up_a, hl_row_a]
  generalize hl_row I3 23 (va_cpy (I3 5) (I3 23) 0 0 N) = I4 at c4 e4
  have c5 := hl_cpd_of (I := I4) (a := 6) (b := 24) (n := N)
  have hb5 : hl_bits (hl_g N I4 J) 6 0 N = true := hl_bits_of (fun c hc => by rw [c4.1 _ (by omega), c3.1 _ (by omega), c2.1 _ (by omega), c1.1 _ (by omega)]; exact hb c hc)
  have e5 : hl_Run 8 (hl_call (d + 1)) 62 [.ref 19, .ref 1, .int (nI N)] [] (hl_g N I4 J) = hl_Run 8 (hl_call (d + 1)) 76 [.ref 19, .ref 1, .int (nI N)] [] (hl_g N (hl_row I4 24 (va_cpy (I4 6) (I4 24) 0 0 N)) J) := by
    simp only [hl_r8_62, hl_r8_63, hl_r8_66, hl_r8_67, hl_r8_68, hl_r8_71, hl_r8_72, hl_r8_73, hl_o_1, hl_p_1_0, hl_p_1_1, hl_p_1_2, hl_p_1_3, hl_p_1_4, hl_p_1_5, hl_p_1_6, hl_p_1_7, hl_p_1_9, hl_p_1_14, hl_p_1_15, hl_o_19, hl_p_19_0, hl_p_19_1, hl_p_19_2, hl_p_19_3, hl_p_19_4, hl_p_19_5, hl_p_19_6, hl_p_19_7, hl_p_19_9, hl_p_19_14, hl_p_19_15, hl_a_6, hl_z_6, hl_a_24, hl_z_24, hb5, or_true, hl_nnN bN, nIc bN, hl_nn4, hl_nn12, hl_v4, hl_v12, hl_nn0, hl_nn40, hl_v0, hl_v40, Nat.zero_add, Nat.le_refl, not_false_eq_true, true_or, and_self, hl_gcp, hl_kill_i, hl_kill_r, hl_kill_n, hl_kill_l, hl_tl_s, hl_tl_n, hl_cal_some, hl_gI, hl_gJ, hl_gsI, hl_gsJ, hl_tv01, if_true, if_false, hl_up_a, hl_row_a]
  generalize hl_row I4 24 (va_cpy (I4 6) (I4 24) 0 0 N) = I5 at c5 e5
  have c6 := hl_cpd_of (I := I5) (a := 7) (b := 25) (n := N)
  have e6 : hl_Run 8 (hl_call (d + 1)) 76 [.ref 19, .ref 1, .int (nI N)] [] (hl_g N I5 J) = hl_Run 8 (hl_call (d + 1)) 90 [.ref 19, .ref 1, .int (nI N)] [] (hl_g N (hl_row I5 25 (va_cpy (I5 7) (I5 25) 0 0 N)) J) := by
    simp only [hl_r8_76, hl_r8_77, hl_r8_80, hl_r8_81, hl_r8_82, hl_r8_85, hl_r8_86, hl_r8_87, hl_o_1, hl_p_1_0, hl_p_1_1, hl_p_1_2, hl_p_1_3, hl_p_1_4, hl_p_1_5, hl_p_1_6, hl_p_1_7, hl_p_1_9, hl_p_1_14, hl_p_1_15, hl_o_19, hl_p_19_0, hl_p_19_1, hl_p_19_2, hl_p_19_3, hl_p_19_4, hl_p_19_5, hl_p_19_6, hl_p_19_7, hl_p_19_9, hl_p_19_14, hl_p_19_15, hl_a_7, hl_z_7, hl_a_25, hl_z_25, hl_nnN bN, nIc bN, hl_nn4, hl_nn12, hl_v4, hl_v12, hl_nn0, hl_nn40, hl_v0, hl_v40, Nat.zero_add, Nat.le_refl, not_false_eq_true, true_or, and_self, hl_gcp, hl_kill_i, hl_kill_r, hl_kill_n, hl_kill_l, hl_tl_s, hl_tl_n, hl_cal_some, hl_gI, hl_gJ, hl_gsI, hl_gsJ, hl_tv01, if_true, if_false, hl_up_a, hl_row_a]
  generalize hl_row I5 25 (va_cpy (I5 7) (I5 25) 0 0 N) = I6 at c6 e6
  have c7 := hl_cpd_of (I := I6) (a := 8) (b := 26) (n := N)
  have e7 : hl_Run 8 (hl_call (d + 1)) 90 [.ref 19, .ref 1, .int (nI N)] [] (hl_g N I6 J) = hl_Run 8 (hl_call (d + 1)) 104 [.ref 19, .ref 1, .int (nI N)] [] (hl_g N (hl_row I6 26 (va_cpy (I6 8) (I6 26) 0 0 N)) J) := by
    simp only [hl_r8_90, hl_r8_91, hl_r8_94, hl_r8_95, hl_r8_96, hl_r8_99, hl_r8_100, hl_r8_101, hl_o_1, hl_p_1_0, hl_p_1_1, hl_p_1_2, hl_p_1_3, hl_p_1_4, hl_p_1_5, hl_p_1_6, hl_p_1_7, hl_p_1_9, hl_p_1_14, hl_p_1_15, hl_o_19, hl_p_19_0, hl_p_19_1, hl_p_19_2, hl_p_19_3, hl_p_19_4, hl_p_19_5, hl_p_19_6, hl_p_19_7, hl_p_19_9, hl_p_19_14, hl_p_19_15, hl_a_8, hl_z_8, hl_a_26, hl_z_26, hl_nnN bN, nIc bN, hl_nn4, hl_nn12, hl_v4, hl_v12, hl_nn0, hl_nn40, hl_v0, hl_v40, Nat.zero_add, Nat.le_refl, not_false_eq_true, true_or, and_self, hl_gcp, hl_kill_i, hl_kill_r, hl_kill_n, hl_kill_l, hl_tl_s, hl_tl_n, hl_cal_some, hl_gI, hl_gJ, hl_gsI, hl_gsJ, hl_tv01, if_true, if_false, hl_up_a, hl_row_a]
  generalize hl_row I6 26 (va_cpy (I6 8) (I6 26) 0 0 N) = I7 at c7 e7
  have c8 := hl_cpd_of (I := I7) (a := 9) (b := 27) (n := 4)
  have e8 : hl_Run 8 (hl_call (d + 1)) 104 [.ref 19, .ref 1, .int (nI N)] [] (hl_g N I7 J) = hl_Run 8 (hl_call (d + 1)) 118 [.ref 19, .ref 1, .int (nI N)] [] (hl_g N (hl_row I7 27 (va_cpy (I7 9) (I7 27) 0 0 4)) J) := by
    simp only [hl_r8_104, hl_r8_105, hl_r8_108, hl_r8_109, hl_r8_110, hl_r8_113, hl_r8_114, hl_r8_115, hl_o_1, hl_p_1_0, hl_p_1_1, hl_p_1_2, hl_p_1_3, hl_p_1_4, hl_p_1_5, hl_p_1_6, hl_p_1_7, hl_p_1_9, hl_p_1_14, hl_p_1_15, hl_o_19, hl_p_19_0, hl_p_19_1, hl_p_19_2, hl_p_19_3, hl_p_19_4, hl_p_19_5, hl_p_19_6, hl_p_19_7, hl_p_19_9, hl_p_19_14, hl_p_19_15, hl_a_9, hl_z_9, hl_a_27, hl_z_27, hl_nnN bN, nIc bN, hl_nn4, hl_nn12, hl_v4, hl_v12, hl_nn0, hl_nn40, hl_v0, hl_v40, Nat.zero_add, Nat.le_refl, not_false_eq_true, true_or, and_self, hl_gcp, hl_kill_i, hl_kill_r, hl_kill_n, hl_kill_l, hl_tl_s, hl_tl_n, hl_cal_some, hl_gI, hl_gJ, hl_gsI, hl_gsJ, hl_tv01, if_true, if_false, hl_up_a, hl_row_a]
  generalize hl_row I7 27 (va_cpy (I7 9) (I7 27) 0 0 4) = I8 at c8 e8
  have c9 : ∀ q, q ≠ 19 → hl_up I8 19 8 (I8 1 8) q = I8 q := fun q hq => hl_up_ne _ _ _ hq
  have f9 : ∀ k, hl_up I8 19 8 (I8 1 8) 19 k = if k = 8 then I8 1 8 else I8 19 k := fun k => by rw [hl_up_a, if_pos rfl]
  have e9 : hl_Run 8 (hl_call (d + 1)) 118 [.ref 19, .ref 1, .int (nI N)] [] (hl_g N I8 J) = hl_Run 8 (hl_call (d + 1)) 126 [.ref 19, .ref 1, .int (nI N)] [] (hl_g N (hl_up I8 19 8 (I8 1 8)) J) := by
    simp only [hl_r8_118, hl_r8_119, hl_r8_120, hl_r8_123, hl_o_1, hl_p_1_0, hl_p_1_1, hl_p_1_2, hl_p_1_3, hl_p_1_4, hl_p_1_5, hl_p_1_6, hl_p_1_7, hl_p_1_9, hl_p_1_14, hl_p_1_15, hl_o_19, hl_p_19_0, hl_p_19_1, hl_p_19_2, hl_p_19_3, hl_p_19_4, hl_p_19_5, hl_p_19_6, hl_p_19_7, hl_p_19_9, hl_p_19_14, hl_p_19_15, hl_nnN bN, nIc bN, hl_nn4, hl_nn12, hl_v4, hl_v12, hl_nn0, hl_nn40, hl_v0, hl_v40, Nat.zero_add, Nat.le_refl, not_false_eq_true, true_or, and_self, hl_gcp, hl_kill_i, hl_kill_r, hl_kill_n, hl_kill_l, hl_tl_s, hl_tl_n, hl_cal_some, hl_gI, hl_gJ, hl_gsI, hl_gsJ, hl_tv01, if_true, if_false, hl_up_a, hl_row_a]
  generalize hl_up I8 19 8 (I8 1 8) = I9 at c9 e9 f9
  have c10 := hl_cpd_of (I := I9) (a := 10) (b := 28) (n := 12)
  have e10 : hl_Run 8 (hl_call (d + 1)) 126 [.ref 19, .ref 1, .int (nI N)] [] (hl_g N I9 J) = hl_Run 8 (hl_call (d + 1)) 141 [.ref 19, .ref 1, .int (nI N)] [] (hl_g N (hl_row I9 28 (va_cpy (I9 10) (I9 28) 0 0 12)) J) := by
    simp only [hl_r8_126, hl_r8_127, hl_r8_130, hl_r8_131, hl_r8_132, hl_r8_135, hl_r8_136, hl_r8_138, hl_o_1, hl_p_1_0, hl_p_1_1, hl_p_1_2, hl_p_1_3, hl_p_1_4, hl_p_1_5, hl_p_1_6, hl_p_1_7, hl_p_1_9, hl_p_1_14, hl_p_1_15, hl_o_19, hl_p_19_0, hl_p_19_1, hl_p_19_2, hl_p_19_3, hl_p_19_4, hl_p_19_5, hl_p_19_6, hl_p_19_7, hl_p_19_9, hl_p_19_14, hl_p_19_15, hl_a_10, hl_z_10, hl_a_28, hl_z_28, hl_nnN bN, nIc bN, hl_nn4, hl_nn12, hl_v4, hl_v12, hl_nn0, hl_nn40, hl_v0, hl_v40, Nat.zero_add, Nat.le_refl, not_false_eq_true, true_or, and_self, hl_gcp, hl_kill_i, hl_kill_r, hl_kill_n, hl_kill_l, hl_tl_s, hl_tl_n, hl_cal_some, hl_gI, hl_gJ, hl_gsI, hl_gsJ, hl_tv01, if_true, if_false, hl_up_a, hl_row_a]
  generalize hl_row I9 28 (va_cpy (I9 10) (I9 28) 0 0 12) = I10 at c10 e10
  have c11 : ∀ q, q ≠ 19 → hl_up I10 19 10 (I10 1 10) q = I10 q := fun q hq => hl_up_ne _ _ _ hq
  have f11 : ∀ k, hl_up I10 19 10 (I10 1 10) 19 k = if k = 10 then I10 1 10 else I10 19 k := fun k => by rw [hl_up_a, if_pos rfl]
  have e11 : hl_Run 8 (hl_call (d + 1)) 141 [.ref 19, .ref 1, .int (nI N)] [] (hl_g N I10 J) = hl_Run 8 (hl_call (d + 1)) 149 [.ref 19, .ref 1, .int (nI N)] [] (hl_g N (hl_up I10 19 10 (I10 1 10)) J) := by
    simp only [hl_r8_141, hl_r8_142, hl_r8_143, hl_r8_146, hl_o_1, hl_p_1_0, hl_p_1_1, hl_p_1_2, hl_p_1_3, hl_p_1_4, hl_p_1_5, hl_p_1_6, hl_p_1_7, hl_p_1_9, hl_p_1_14, hl_p_1_15, hl_o_19, hl_p_19_0, hl_p_19_1, hl_p_19_2, hl_p_19_3, hl_p_19_4, hl_p_19_5, hl_p_19_6, hl_p_19_7, hl_p_19_9, hl_p_19_14, hl_p_19_15, hl_nnN bN, nIc bN, hl_nn4, hl_nn12, hl_v4, hl_v12, hl_nn0, hl_nn40, hl_v0, hl_v40, Nat.zero_add, Nat.le_refl, not_false_eq_true, true_or, and_self, hl_gcp, hl_kill_i, hl_kill_r, hl_kill_n, hl_kill_l, hl_tl_s, hl_tl_n, hl_cal_some, hl_gI, hl_gJ, hl_gsI, hl_gsJ, hl_tv01, if_true, if_false, hl_up_a, hl_row_a]
  generalize hl_up I10 19 10 (I10 1 10) = I11 at c11 e11 f11
  have c12 : ∀ q, q ≠ 19 → hl_up I11 19 11 (I11 1 11) q = I11 q := fun q hq => hl_up_ne _ _ _ hq
  have f12 : ∀ k, hl_up I11 19 11 (I11 1 11) 19 k = if k = 11 then I11 1 11 else I11 19 k := fun k => by rw [hl_up_a, if_pos rfl]
  have e12 : hl_Run 8 (hl_call (d + 1)) 149 [.ref 19, .ref 1, .int (nI N)] [] (hl_g N I11 J) = hl_Run 8 (hl_call (d + 1)) 157 [.ref 19, .ref 1, .int (nI N)] [] (hl_g N (hl_up I11 19 11 (I11 1 11)) J) := by
    simp only [hl_r8_149, hl_r8_150, hl_r8_151, hl_r8_154, hl_o_1, hl_p_1_0, hl_p_1_1, hl_p_1_2, hl_p_1_3, hl_p_1_4, hl_p_1_5, hl_p_1_6, hl_p_1_7, hl_p_1_9, hl_p_1_14, hl_p_1_15, hl_o_19, hl_p_19_0, hl_p_19_1, hl_p_19_2, hl_p_19_3, hl_p_19_4, hl_p_19_5, hl_p_19_6, hl_p_19_7, hl_p_19_9, hl_p_19_14, hl_p_19_15, hl_nnN bN, nIc bN, hl_nn4, hl_nn12, hl_v4, hl_v12, hl_nn0, hl_nn40, hl_v0, hl_v40, Nat.zero_add, Nat.le_refl, not_false_eq_true, true_or, and_self, hl_gcp, hl_kill_i, hl_kill_r, hl_kill_n, hl_kill_l, hl_tl_s, hl_tl_n, hl_cal_some, hl_gI, hl_gJ, hl_gsI, hl_gsJ, hl_tv01, if_true, if_false, hl_up_a, hl_row_a]
  generalize hl_up I11 19 11 (I11 1 11) = I12 at c12 e12 f12
  have c13 : ∀ q, q ≠ 19 → hl_up I12 19 12 (I12 1 12) q = I12 q := fun q hq => hl_up_ne _ _ _ hq
  have f13 : ∀ k, hl_up I12 19 12 (I12 1 12) 19 k = if k = 12 then I12 1 12 else I12 19 k := fun k => by rw [hl_up_a, if_pos rfl]
  have e13 : hl_Run 8 (hl_call (d + 1)) 157 [.ref 19, .ref 1, .int (nI N)] [] (hl_g N I12 J) = hl_Run 8 (hl_call (d + 1)) 165 [.ref 19, .ref 1, .int (nI N)] [] (hl_g N (hl_up I12 19 12 (I12 1 12)) J) := by
    simp only [hl_r8_157, hl_r8_158, hl_r8_159, hl_r8_162, hl_o_1, hl_p_1_0, hl_p_1_1, hl_p_1_2, hl_p_1_3, hl_p_1_4, hl_p_1_5, hl_p_1_6, hl_p_1_7, hl_p_1_9, hl_p_1_14, hl_p_1_15, hl_o_19, hl_p_19_0, hl_p_19_1, hl_p_19_2, hl_p_19_3, hl_p_19_4, hl_p_19_5, hl_p_19_6, hl_p_19_7, hl_p_19_9, hl_p_19_14, hl_p_19_15, hl_nnN bN, nIc bN, hl_nn4, hl_nn12, hl_v4, hl_v12, hl_nn0, hl_nn40, hl_v0, hl_v40, Nat.zero_add, Nat.le_refl, not_false_eq_true, true_or, and_self, hl_gcp, hl_kill_i, hl_kill_r, hl_kill_n, hl_kill_l, hl_tl_s, hl_tl_n, hl_cal_some, hl_gI, hl_gJ, hl_gsI, hl_gsJ, hl_tv01, if_true, if_false, hl_up_a, hl_row_a]
  generalize hl_up I12 19 12 (I12 1 12) = I13 at c13 e13 f13
  have c14 : ∀ q, q ≠ 19 → hl_up I13 19 13 (I13 1 13) q = I13 q := fun q hq => hl_up_ne _ _ _ hq
  have f14 : ∀ k, hl_up I13 19 13 (I13 1 13) 19 k = if k = 13 then I13 1 13 else I13 19 k := fun k => by rw [hl_up_a, if_pos rfl]
  have e14 : hl_Run 8 (hl_call (d + 1)) 165 [.ref 19, .ref 1, .int (nI N)] [] (hl_g N I13 J) = hl_Run 8 (hl_call (d + 1)) 173 [.ref 19, .ref 1, .int (nI N)] [] (hl_g N (hl_up I13 19 13 (I13 1 13)) J) := by
    simp only [hl_r8_165, hl_r8_166, hl_r8_167, hl_r8_170, hl_o_1, hl_p_1_0, hl_p_1_1, hl_p_1_2, hl_p_1_3, hl_p_1_4, hl_p_1_5, hl_p_1_6, hl_p_1_7, hl_p_1_9, hl_p_1_14, hl_p_1_15, hl_o_19, hl_p_19_0, hl_p_19_1, hl_p_19_2, hl_p_19_3, hl_p_19_4, hl_p_19_5, hl_p_19_6, hl_p_19_7, hl_p_19_9, hl_p_19_14, hl_p_19_15, hl_nnN bN, nIc bN, hl_nn4, hl_nn12, hl_v4, hl_v12, hl_nn0, hl_nn40, hl_v0, hl_v40, Nat.zero_add, Nat.le_refl, not_false_eq_true, true_or, and_self, hl_gcp, hl_kill_i, hl_kill_r, hl_kill_n, hl_kill_l, hl_tl_s, hl_tl_n, hl_cal_some, hl_gI, hl_gJ, hl_gsI, hl_gsJ, hl_tv01, if_true, if_false, hl_up_a, hl_row_a]
  generalize hl_up I13 19 13 (I13 1 13) = I14 at c14 e14 f14
  obtain ⟨I15, e15, t1, t2, t3⟩ := hl_s82_19 (d := d) (N := N) (I := I14) (J := J)
  obtain ⟨I16, e16, t4, t5, t6⟩ := hl_s93_19 (d := d) (N := N) (I := I15) (J := J)
  refine ⟨I16, ?_, fun q hq => ?_, fun j r k hj => ?_⟩
  · rw [e0, e1, e2, e3, e4, e5, e6, e7, e8, e9, e10, e11, e12, e13, e14]
    simp only [hl_r8_173, hl_r8_174, hl_r8_177, hl_r8_178, hl_r8_181, hl_r8_184, hl_r8_185, hl_r8_188, hl_r8_189, hl_r8_192, hl_r8_195, hl_o_1, hl_p_1_0, hl_p_1_1, hl_p_1_2, hl_p_1_3, hl_p_1_4, hl_p_1_5, hl_p_1_6, hl_p_1_7, hl_p_1_9, hl_p_1_14, hl_p_1_15, hl_o_19, hl_p_19_0, hl_p_19_1, hl_p_19_2, hl_p_19_3, hl_p_19_4, hl_p_19_5, hl_p_19_6, hl_p_19_7, hl_p_19_9, hl_p_19_14, hl_p_19_15, hl_o_11, hl_p_11_0, hl_p_11_1, hl_p_11_2, hl_o_29, hl_p_29_0, hl_p_29_1, hl_p_29_2, hl_o_15, hl_p_15_0, hl_p_15_1, hl_p_15_2, hl_o_33, hl_p_33_0, hl_p_33_1, hl_p_33_2, e15, e16, hl_tl_n, hl_kill_i, hl_kill_r, hl_kill_n, hl_kill_l, hl_tl_s, hl_tl_n, hl_cal_some, hl_gI, hl_gJ, hl_gsI, hl_gsJ, hl_tv01, if_true, if_false, hl_up_a, hl_row_a]
  · rw [t4 _ (by omega), t1 _ (by omega), c14 _ (by omega), c13 _ (by omega), c12 _ (by omega), c11 _ (by omega), c10.1 _ (by omega), c9 _ (by omega), c8.1 _ (by omega), c7.1 _ (by omega), c6.1 _ (by omega), c5.1 _ (by omega), c4.1 _ (by omega), c3.1 _ (by omega), c2.1 _ (by omega), c1.1 _ (by omega)]
  · have sm : ∀ q, ¬ (19 ≤ q ∧ q < 37) → I14 q = I q := fun q hq => by rw [c14 _ (by omega), c13 _ (by omega), c12 _ (by omega), c11 _ (by omega), c10.1 _ (by omega), c9 _ (by omega), c8.1 _ (by omega), c7.1 _ (by omega), c6.1 _ (by omega), c5.1 _ (by omega), c4.1 _ (by omega), c3.1 _ (by omega), c2.1 _ (by omega), c1.1 _ (by omega)]
    have lo : ∀ q, q < 19 + 10 → I16 q = I14 q := fun q hq => by rw [t4 _ (by omega), t1 _ (by omega)]
    have r1 : ∀ k, k < N → I16 20 k = I 2 k := fun k hk => by rw [lo _ (by omega), c14 _ (by omega), c13 _ (by omega), c12 _ (by omega), c11 _ (by omega), c10.1 _ (by omega), c9 _ (by omega), c8.1 _ (by omega), c7.1 _ (by omega), c6.1 _ (by omega), c5.1 _ (by omega), c4.1 _ (by omega), c3.1 _ (by omega), c2.1 _ (by omega), c1.2 k hk]
    have r2 : ∀ k, k < N → I16 21 k = I 3 k := fun k hk => by rw [lo _ (by omega), c14 _ (by omega), c13 _ (by omega), c12 _ (by omega), c11 _ (by omega), c10.1 _ (by omega), c9 _ (by omega), c8.1 _ (by omega), c7.1 _ (by omega), c6.1 _ (by omega), c5.1 _ (by omega), c4.1 _ (by omega), c3.1 _ (by omega), c2.2 k hk, c1.1 _ (by omega)]
    have r3 : ∀ k, k < N → I16 22 k = I 4 k := fun k hk => by rw [lo _ (by omega), c14 _ (by omega), c13 _ (by omega), c12 _ (by omega), c11 _ (by omega), c10.1 _ (by omega), c9 _ (by omega), c8.1 _ (by omega), c7.1 _ (by omega), c6.1 _ (by omega), c5.1 _ (by omega), c4.1 _ (by omega), c3.2 k hk, c2.1 _ (by omega), c1.1 _ (by omega)]
    have r4 : ∀ k, k < N → I16 23 k = I 5 k := fun k hk => by rw [lo _ (by omega), c14 _ (by omega), c13 _ (by omega), c12 _ (by omega), c11 _ (by omega), c10.1 _ (by omega), c9 _ (by omega), c8.1 _ (by omega), c7.1 _ (by omega), c6.1 _ (by omega), c5.1 _ (by omega), c4.2 k hk, c3.1 _ (by omega), c2.1 _ (by omega), c1.1 _ (by omega)]
    have r5 : ∀ k, k < N → I16 24 k = I 6 k := fun k hk => by rw [lo _ (by omega), c14 _ (by omega), c13 _ (by omega), c12 _ (by omega), c11 _ (by omega), c10.1 _ (by omega), c9 _ (by omega), c8.1 _ (by omega), c7.1 _ (by omega), c6.1 _ (by omega), c5.2 k hk, c4.1 _ (by omega), c3.1 _ (by omega), c2.1 _ (by omega), c1.1 _ (by omega)]
    have r6 : ∀ k, k < N → I16 25 k = I 7 k := fun k hk => by rw [lo _ (by omega), c14 _ (by omega), c13 _ (by omega), c12 _ (by omega), c11 _ (by omega), c10.1 _ (by omega), c9 _ (by omega), c8.1 _ (by omega), c7.1 _ (by omega), c6.2 k hk, c5.1 _ (by omega), c4.1 _ (by omega), c3.1 _ (by omega), c2.1 _ (by omega), c1.1 _ (by omega)]
    have r7 : ∀ k, k < N → I16 26 k = I 8 k := fun k hk => by rw [lo _ (by omega), c14 _ (by omega), c13 _ (by omega), c12 _ (by omega), c11 _ (by omega), c10.1 _ (by omega), c9 _ (by omega), c8.1 _ (by omega), c7.2 k hk, c6.1 _ (by omega), c5.1 _ (by omega), c4.1 _ (by omega), c3.1 _ (by omega), c2.1 _ (by omega), c1.1 _ (by omega)]
    have r8 : ∀ k, k < 4 → I16 27 k = I 9 k := fun k hk => by rw [lo _ (by omega), c14 _ (by omega), c13 _ (by omega), c12 _ (by omega), c11 _ (by omega), c10.1 _ (by omega), c9 _ (by omega), c8.2 k hk, c7.1 _ (by omega), c6.1 _ (by omega), c5.1 _ (by omega), c4.1 _ (by omega), c3.1 _ (by omega), c2.1 _ (by omega), c1.1 _ (by omega)]
    have r9 : ∀ k, k < 12 → I16 28 k = I 10 k := fun k hk => by rw [lo _ (by omega), c14 _ (by omega), c13 _ (by omega), c12 _ (by omega), c11 _ (by omega), c10.2 k hk, c9 _ (by omega), c8.1 _ (by omega), c7.1 _ (by omega), c6.1 _ (by omega), c5.1 _ (by omega), c4.1 _ (by omega), c3.1 _ (by omega), c2.1 _ (by omega), c1.1 _ (by omega)]
    have g8 : I16 19 8 = I 1 8 := by rw [lo _ (by omega), f14, if_neg (by decide), f13, if_neg (by decide), f12, if_neg (by decide), f11, if_neg (by decide), c10.1 _ (by omega), f9, if_pos rfl, c8.1 _ (by omega), c7.1 _ (by omega), c6.1 _ (by omega), c5.1 _ (by omega), c4.1 _ (by omega), c3.1 _ (by omega), c2.1 _ (by omega), c1.1 _ (by omega)]
    have g10 : I16 19 10 = I 1 10 := by rw [lo _ (by omega), f14, if_neg (by decide), f13, if_neg (by decide), f12, if_neg (by decide), f11, if_pos rfl, c10.1 _ (by omega), c9 _ (by omega), c8.1 _ (by omega), c7.1 _ (by omega), c6.1 _ (by omega), c5.1 _ (by omega), c4.1 _ (by omega), c3.1 _ (by omega), c2.1 _ (by omega), c1.1 _ (by omega)]
    have g11 : I16 19 11 = I 1 11 := by rw [lo _ (by omega), f14, if_neg (by decide), f13, if_neg (by decide), f12, if_pos rfl, c11 _ (by omega), c10.1 _ (by omega), c9 _ (by omega), c8.1 _ (by omega), c7.1 _ (by omega), c6.1 _ (by omega), c5.1 _ (by omega), c4.1 _ (by omega), c3.1 _ (by omega), c2.1 _ (by omega), c1.1 _ (by omega)]
    have g12 : I16 19 12 = I 1 12 := by rw [lo _ (by omega), f14, if_neg (by decide), f13, if_pos rfl, c12 _ (by omega), c11 _ (by omega), c10.1 _ (by omega), c9 _ (by omega), c8.1 _ (by omega), c7.1 _ (by omega), c6.1 _ (by omega), c5.1 _ (by omega), c4.1 _ (by omega), c3.1 _ (by omega), c2.1 _ (by omega), c1.1 _ (by omega)]
    have g13 : I16 19 13 = I 1 13 := by rw [lo _ (by omega), f14, if_pos rfl, c13 _ (by omega), c12 _ (by omega), c11 _ (by omega), c10.1 _ (by omega), c9 _ (by omega), c8.1 _ (by omega), c7.1 _ (by omega), c6.1 _ (by omega), c5.1 _ (by omega), c4.1 _ (by omega), c3.1 _ (by omega), c2.1 _ (by omega), c1.1 _ (by omega)]
    have ti : ∀ r, r < 3 → ∀ k, k < 40 → I16 (30 + r) k = I (12 + r) k := fun r hr k hk => by rw [t4 _ (by omega), t2 r hr k hk, sm _ (by omega)]
    have tc : I16 29 3 = I 11 3 := by rw [t4 _ (by omega), t3, sm _ (by omega)]
    have st : ∀ r, r < 2 → ∀ k, k < 72 → I16 (34 + r) k = I (16 + r) k := fun r hr k hk => by rw [t5 r hr k hk, t1 _ (by omega), sm _ (by omega)]
    have sc : ∀ k, k < 6 → I16 36 k = I 18 k := fun k hk => by rw [t6 k hk, t1 _ (by omega), sm _ (by omega)]
    rcases hl_ri_c hj with q | q | q | q | q | q | q | q | q | q | q | q <;> obtain ⟨q1, q2, q3⟩ := q
    · subst q2 q3; exact g8
    · subst q2 q3; exact tc
    · subst q2 q3; exact g12
    · subst q2 q3; exact g13
    · subst q2 q3; exact g10
    · subst q2 q3; exact g11
    · subst q2; exact r8 k (by omega)
    · subst q2; exact r9 k (by omega)
    · have hr : r = 1 ∨ r = 2 ∨ r = 3 ∨ r = 4 ∨ r = 5 ∨ r = 6 ∨ r = 7 := by omega
      have hk : k < N := by omega
      clear q2
      rcases hr with z | z | z | z | z | z | z <;> subst z
      · exact r1 k hk
      · exact r2 k hk
      · exact r3 k hk
      · exact r4 k hk
      · exact r5 k hk
      · exact r6 k hk
      · exact r7 k hk
    · obtain ⟨r0, h0, h1⟩ : ∃ r0, r0 < 3 ∧ r = 11 + r0 := ⟨r - 11, by omega, by omega⟩
      subst h1
      have := ti r0 h0 k (by omega)
      rw [show 19 + (11 + r0) = 30 + r0 by omega, show 1 + (11 + r0) = 12 + r0 by omega]
      exact this
    · subst q2; exact sc k (by omega)
    · obtain ⟨r0, h0, h1⟩ : ∃ r0, r0 < 2 ∧ r = 15 + r0 := ⟨r - 15, by omega, by omega⟩
      subst h1
      have := st r0 h0 k (by omega)
      rw [show 19 + (15 + r0) = 34 + r0 by omega, show 1 + (15 + r0) = 16 + r0 by omega]
      exact this
theorem hl_s82_1 : ∃ I', hl_call (d + 1) 82 [.ref 11, .ref 29] (hl_g N I J) = some (none, hl_g N I' J) ∧ (∀ q, ¬ (11 ≤ q ∧ q ≤ 14) → I' q = I q) ∧ (∀ r, r < 3 → ∀ k, k < 40 → I' (12 + r) k = I (30 + r) k) ∧ I' 11 3 = I 29 3 := by
  rw [hl_e82]
  have c1 := hl_cpd_of (I := I) (a := 30) (b := 12) (n := 40)
  have e1 : hl_Run 82 (hl_call d) 0 [.ref 11, .ref 29] [] (hl_g N I J) = hl_Run 82 (hl_call d) 15 [.ref 11, .ref 29] [] (hl_g N (hl_row I 12 (va_cpy (I 30) (I 12) 0 0 40)) J) := by
    simp only [hl_r82_0, hl_r82_1, hl_r82_4, hl_r82_5, hl_r82_6, hl_r82_9, hl_r82_10, hl_r82_12, hl_o_29, hl_p_29_0, hl_p_29_1, hl_p_29_2, hl_o_11, hl_p_11_0, hl_p_11_1, hl_p_11_2, hl_a_30, hl_z_30, hl_a_12, hl_z_12, hl_nn0, hl_nn40, hl_v0, hl_v40, Nat.zero_add, Nat.le_refl, not_false_eq_true, true_or, and_self, hl_gcp, hl_kill_i, hl_kill_r, hl_kill_n, hl_kill_l, hl_tl_s, hl_tl_n, hl_cal_some, hl_gI, hl_gJ, hl_gsI, hl_gsJ, hl_tv01, if_true, if_false, hl_up_a, hl_row_a]
  generalize hl_row I 12 (va_cpy (I 30) (I 12) 0 0 40) = I1 at c1 e1
  have c2 := hl_cpd_of (I := I1) (a := 31) (b := 13) (n := 40)
  have e2 : hl_Run 82 (hl_call d) 15 [.ref 11, .ref 29] [] (hl_g N I1 J) = hl_Run 82 (hl_call d) 30 [.ref 11, .ref 29] [] (hl_g N (hl_row I1 13 (va_cpy (I1 31) (I1 13) 0 0 40)) J) := by
    simp only [hl_r82_15, hl_r82_16, hl_r82_19, hl_r82_20, hl_r82_21, hl_r82_24, hl_r82_25, hl_r82_27, hl_o_29, hl_p_29_0, hl_p_29_1, hl_p_29_2, hl_o_11, hl_p_11_0, hl_p_11_1, hl_p_11_2, hl_a_31, hl_z_31, hl_a_13, hl_z_13, hl_nn0, hl_nn40, hl_v0, hl_v40, Nat.zero_add, Nat.le_refl, not_false_eq_true, true_or, and_self, hl_gcp, hl_kill_i, hl_kill_r, hl_kill_n, hl_kill_l, hl_tl_s, hl_tl_n, hl_cal_some, hl_gI, hl_gJ, hl_gsI, hl_gsJ, hl_tv01, if_true, if_false, hl_up_a, hl_row_a]
  generalize hl_row I1 13 (va_cpy (I1 31) (I1 13) 0 0 40) = I2 at c2 e2
  have c3 := hl_cpd_of (I := I2) (a := 32) (b := 14) (n := 40)
  have e3 : hl_Run 82 (hl_call d) 30 [.ref 11, .ref 29] [] (hl_g N I2 J) = hl_Run 82 (hl_call d) 45 [.ref 11, .ref 29] [] (hl_g N (hl_row I2 14 (va_cpy (I2 32) (I2 14) 0 0 40)) J) := by
    simp only [hl_r82_30, hl_r82_31, hl_r82_34, hl_r82_35, hl_r82_36, hl_r82_39, hl_r82_40, hl_r82_42, hl_o_29, hl_p_29_0, hl_p_29_1, hl_p_29_2, hl_o_11, hl_p_11_0, hl_p_11_1, hl_p_11_2, hl_a_32, hl_z_32, hl_a_14, hl_z_14, hl_nn0, hl_nn40, hl_v0, hl_v40, Nat.zero_add, Nat.le_refl, not_false_eq_true, true_or, and_self, hl_gcp, hl_kill_i, hl_kill_r, hl_kill_n, hl_kill_l, hl_tl_s, hl_tl_n, hl_cal_some, hl_gI, hl_gJ, hl_gsI, hl_gsJ, hl_tv01, if_true, if_false, hl_up_a, hl_row_a]
  generalize hl_row I2 14 (va_cpy (I2 32) (I2 14) 0 0 40) = I3 at c3 e3
  refine ⟨hl_up I3 11 3 (I3 29 3), ?_, fun q hq => ?_, fun r hr k hk => ?_, ?_⟩
  · rw [e1, e2, e3]
    simp only [hl_r82_45, hl_r82_46, hl_r82_47, hl_r82_50, hl_r82_53, hl_o_29, hl_p_29_0, hl_p_29_1, hl_p_29_2, hl_o_11, hl_p_11_0, hl_p_11_1, hl_p_11_2, hl_kill_i, hl_kill_r, hl_kill_n, hl_kill_l, hl_tl_s, hl_tl_n, hl_cal_some, hl_gI, hl_gJ, hl_gsI, hl_gsJ, hl_tv01, if_true, if_false, hl_up_a, hl_row_a]
  · rw [hl_up_ne _ _ _ (by omega), c3.1 q (by omega), c2.1 q (by omega), c1.1 q (by omega)]
  · rw [hl_up_ne _ _ _ (by omega)]
    match r, hr with
    | 0, _ => rw [c3.1 _ (by omega), c2.1 _ (by omega)]; exact c1.2 k hk
    | 1, _ => rw [c3.1 _ (by omega)]; rw [show 12 + 1 = 13 from rfl, c2.2 k hk, c1.1 _ (by omega)]
    | 2, _ => rw [show 12 + 2 = 14 from rfl, c3.2 k hk, c2.1 _ (by omega), c1.1 _ (by omega)]
    | r + 3, hr => omega
  · rw [hl_up_at, c3.1 _ (by omega), c2.1 _ (by omega), c1.1 _ (by omega)]
theorem hl_s93_1 : ∃ I', hl_call (d + 1) 93 [.ref 15, .ref 33] (hl_g N I J) = some (none, hl_g N I' J) ∧ (∀ q, ¬ (16 ≤ q ∧ q ≤ 18) → I' q = I q) ∧ (∀ r, r < 2 → ∀ k, k < 72 → I' (16 + r) k = I (34 + r) k) ∧ ∀ k, k < 6 → I' 18 k = I 36 k := by
  rw [hl_e93]
  have z72 : Int32.ofNat 72 = nI 72 := rfl
  have z6 : Int32.ofNat 6 = nI 6 := rfl
  have c1 := hl_cpd_of (I := I) (a := 34) (b := 16) (n := 72)
  have e1 : hl_Run 93 (hl_call d) 0 [.ref 15, .ref 33] [] (hl_g N I J) = hl_Run 93 (hl_call d) 18 [.ref 15, .ref 33] [] (hl_g N (hl_row I 16 (va_cpy (I 34) (I 16) 0 0 72)) J) := by
    simp only [hl_r93_0, hl_r93_1, hl_r93_4, hl_r93_5, hl_r93_6, hl_r93_9, hl_r93_10, hl_r93_11, hl_r93_14, hl_r93_15, hl_o_33, hl_p_33_0, hl_p_33_1, hl_p_33_2, hl_o_15, hl_p_15_0, hl_p_15_1, hl_p_15_2, hl_a_34, hl_z_34, hl_a_16, hl_z_16, hl_l_16, z72, z6, hl_nnN (show 72 < 2 ^ 31 by omega), nIc (show 72 < 2 ^ 31 by omega), hl_nn0, hl_nn40, hl_v0, hl_v40, Nat.zero_add, Nat.le_refl, not_false_eq_true, true_or, and_self, hl_gcp, hl_kill_i, hl_kill_r, hl_kill_n, hl_kill_l, hl_tl_s, hl_tl_n, hl_cal_some, hl_gI, hl_gJ, hl_gsI, hl_gsJ, hl_tv01, if_true, if_false, hl_up_a, hl_row_a]
  generalize hl_row I 16 (va_cpy (I 34) (I 16) 0 0 72) = I1 at c1 e1
  have c2 := hl_cpd_of (I := I1) (a := 35) (b := 17) (n := 72)
  have e2 : hl_Run 93 (hl_call d) 18 [.ref 15, .ref 33] [] (hl_g N I1 J) = hl_Run 93 (hl_call d) 36 [.ref 15, .ref 33] [] (hl_g N (hl_row I1 17 (va_cpy (I1 35) (I1 17) 0 0 72)) J) := by
    simp only [hl_r93_18, hl_r93_19, hl_r93_22, hl_r93_23, hl_r93_24, hl_r93_27, hl_r93_28, hl_r93_29, hl_r93_32, hl_r93_33, hl_o_33, hl_p_33_0, hl_p_33_1, hl_p_33_2, hl_o_15, hl_p_15_0, hl_p_15_1, hl_p_15_2, hl_a_35, hl_z_35, hl_a_17, hl_z_17, hl_l_17, z72, z6, hl_nnN (show 72 < 2 ^ 31 by omega), nIc (show 72 < 2 ^ 31 by omega), hl_nn0, hl_nn40, hl_v0, hl_v40, Nat.zero_add, Nat.le_refl, not_false_eq_true, true_or, and_self, hl_gcp, hl_kill_i, hl_kill_r, hl_kill_n, hl_kill_l, hl_tl_s, hl_tl_n, hl_cal_some, hl_gI, hl_gJ, hl_gsI, hl_gsJ, hl_tv01, if_true, if_false, hl_up_a, hl_row_a]
  generalize hl_row I1 17 (va_cpy (I1 35) (I1 17) 0 0 72) = I2 at c2 e2
  have c3 := hl_cpd_of (I := I2) (a := 36) (b := 18) (n := 6)
  have e3 : hl_Run 93 (hl_call d) 36 [.ref 15, .ref 33] [] (hl_g N I2 J) = hl_Run 93 (hl_call d) 54 [.ref 15, .ref 33] [] (hl_g N (hl_row I2 18 (va_cpy (I2 36) (I2 18) 0 0 6)) J) := by
    simp only [hl_r93_36, hl_r93_37, hl_r93_40, hl_r93_41, hl_r93_42, hl_r93_45, hl_r93_46, hl_r93_47, hl_r93_50, hl_r93_51, hl_o_33, hl_p_33_0, hl_p_33_1, hl_p_33_2, hl_o_15, hl_p_15_0, hl_p_15_1, hl_p_15_2, hl_a_36, hl_z_36, hl_a_18, hl_z_18, hl_l_18, z72, z6, hl_nnN (show 6 < 2 ^ 31 by omega), nIc (show 6 < 2 ^ 31 by omega), hl_nn0, hl_nn40, hl_v0, hl_v40, Nat.zero_add, Nat.le_refl, not_false_eq_true, true_or, and_self, hl_gcp, hl_kill_i, hl_kill_r, hl_kill_n, hl_kill_l, hl_tl_s, hl_tl_n, hl_cal_some, hl_gI, hl_gJ, hl_gsI, hl_gsJ, hl_tv01, if_true, if_false, hl_up_a, hl_row_a]
  generalize hl_row I2 18 (va_cpy (I2 36) (I2 18) 0 0 6) = I3 at c3 e3
  refine ⟨I3, ?_, fun q hq => ?_, fun r hr k hk => ?_, fun k hk => ?_⟩
  · rw [e1, e2, e3, hl_r93_54]
  · rw [c3.1 q (by omega), c2.1 q (by omega), c1.1 q (by omega)]
  · match r, hr with
    | 0, _ => rw [c3.1 _ (by omega), c2.1 _ (by omega)]; exact c1.2 k hk
    | 1, _ => rw [c3.1 _ (by omega)]; rw [show 16 + 1 = 17 from rfl, c2.2 k hk, c1.1 _ (by omega)]
    | r + 2, hr => omega
  · rw [c3.2 k hk, c2.1 _ (by omega), c1.1 _ (by omega)]
set_option maxHeartbeats 1000000 in
theorem hl_s8_1 (hN : N ≤ 24) (hb : ∀ c, c < N → I 24 c = 0 ∨ I 24 c = 1) : ∃ I', hl_call (d + 2) 8 [.ref 1, .ref 19] (hl_g N I J) = some (none, hl_g N I' J) ∧ (∀ q, ¬ (1 ≤ q ∧ q < 19) → I' q = I q) ∧ ∀ j r k, hl_ri N j = some (r, k) → I' (1 + r) k = I (19 + r) k := by
  rw [hl_e8]
  have zN : Int32.ofNat N = nI N := rfl
  have bN : N < 2 ^ 31 := by omega
  have e0 : hl_Run 8 (hl_call (d + 1)) 0 [.ref 1, .ref 19, .null] [] (hl_g N I J) = hl_Run 8 (hl_call (d + 1)) 6 [.ref 1, .ref 19, .int (nI N)] [] (hl_g N I J) := by
    simp only [hl_r8_0, hl_r8_1, hl_r8_4, hl_r8_5, hl_o_1, hl_p_1_0, hl_p_1_1, hl_p_1_2, hl_p_1_3, hl_p_1_4, hl_p_1_5, hl_p_1_6, hl_p_1_7, hl_p_1_9, hl_p_1_14, hl_p_1_15, hl_a_2, hl_z_2, hl_l_2, zN, hl_kill_i, hl_kill_r, hl_kill_n, hl_kill_l, hl_tl_s, hl_tl_n, hl_cal_some, hl_gI, hl_gJ, hl_gsI, hl_gsJ, hl_tv01, if_true, if_false, hl_up_a, hl_row_a]
  have c1 := hl_cpd_of (I := I) (a := 20) (b := 2) (n := N)
  have e1 : hl_Run 8 (hl_call (d + 1)) 6 [.ref 1, .ref 19, .int (nI N)] [] (hl_g N I J) = hl_Run 8 (hl_call (d + 1)) 20 [.ref 1, .ref 19, .int (nI N)] [] (hl_g N (hl_row I 2 (va_cpy (I 20) (I 2) 0 0 N)) J) := by
    simp only [hl_r8_6, hl_r8_7, hl_r8_10, hl_r8_11, hl_r8_12, hl_r8_15, hl_r8_16, hl_r8_17, hl_o_19, hl_p_19_0, hl_p_19_1, hl_p_19_2, hl_p_19_3, hl_p_19_4, hl_p_19_5, hl_p_19_6, hl_p_19_7, hl_p_19_9, hl_p_19_14, hl_p_19_15, hl_o_1, hl_p_1_0, hl_p_1_1, hl_p_1_2, hl_p_1_3, hl_p_1_4, hl_p_1_5, hl_p_1_6, hl_p_1_7, hl_p_1_9, hl_p_1_14, hl_p_1_15, hl_a_20, hl_z_20, hl_a_2, hl_z_2, hl_nnN bN, nIc bN, hl_nn4, hl_nn12, hl_v4, hl_v12, hl_nn0, hl_nn40, hl_v0, hl_v40, Nat.zero_add, Nat.le_refl, not_false_eq_true, true_or, and_self, hl_gcp, hl_kill_i, hl_kill_r, hl_kill_n, hl_kill_l, hl_tl_s, hl_tl_n, hl_cal_some, hl_gI, hl_gJ, hl_gsI, hl_gsJ, hl_tv01, if_true, if_false, hl_up_a, hl_row_a]
  generalize hl_row I 2 (va_cpy (I 20) (I 2) 0 0 N) = I1 at c1 e1
  have c2 := hl_cpd_of (I := I1) (a := 21) (b := 3) (n := N)
  have e2 : hl_Run 8 (hl_call (d + 1)) 20 [.ref 1, .ref 19, .int (nI N)] [] (hl_g N I1 J) = hl_Run 8 (hl_call (d + 1)) 34 [.ref 1, .ref 19, .int (nI N)] [] (hl_g N (hl_row I1 3 (va_cpy (I1 21) (I1 3) 0 0 N)) J) := by
    simp only [hl_r8_20, hl_r8_21, hl_r8_24, hl_r8_25, hl_r8_26, hl_r8_29, hl_r8_30, hl_r8_31, hl_o_19, hl_p_19_0, hl_p_19_1, hl_p_19_2, hl_p_19_3, hl_p_19_4, hl_p_19_5, hl_p_19_6, hl_p_19_7, hl_p_19_9, hl_p_19_14, hl_p_19_15, hl_o_1, hl_p_1_0, hl_p_1_1, hl_p_1_2, hl_p_1_3, hl_p_1_4, hl_p_1_5, hl_p_1_6, hl_p_1_7, hl_p_1_9, hl_p_1_14, hl_p_1_15, hl_a_21, hl_z_21, hl_a_3, hl_z_3, hl_nnN bN, nIc bN, hl_nn4, hl_nn12, hl_v4, hl_v12, hl_nn0, hl_nn40, hl_v0, hl_v40, Nat.zero_add, Nat.le_refl, not_false_eq_true, true_or, and_self, hl_gcp, hl_kill_i, hl_kill_r, hl_kill_n, hl_kill_l, hl_tl_s, hl_tl_n, hl_cal_some, hl_gI, hl_gJ, hl_gsI, hl_gsJ, hl_tv01, if_true, if_false, hl_up_a, hl_row_a]
  generalize hl_row I1 3 (va_cpy (I1 21) (I1 3) 0 0 N) = I2 at c2 e2
  have c3 := hl_cpd_of (I := I2) (a := 22) (b := 4) (n := N)
  have e3 : hl_Run 8 (hl_call (d + 1)) 34 [.ref 1, .ref 19, .int (nI N)] [] (hl_g N I2 J) = hl_Run 8 (hl_call (d + 1)) 48 [.ref 1, .ref 19, .int (nI N)] [] (hl_g N (hl_row I2 4 (va_cpy (I2 22) (I2 4) 0 0 N)) J) := by
    simp only [hl_r8_34, hl_r8_35, hl_r8_38, hl_r8_39, hl_r8_40, hl_r8_43, hl_r8_44, hl_r8_45, hl_o_19, hl_p_19_0, hl_p_19_1, hl_p_19_2, hl_p_19_3, hl_p_19_4, hl_p_19_5, hl_p_19_6, hl_p_19_7, hl_p_19_9, hl_p_19_14, hl_p_19_15, hl_o_1, hl_p_1_0, hl_p_1_1, hl_p_1_2, hl_p_1_3, hl_p_1_4, hl_p_1_5, hl_p_1_6, hl_p_1_7, hl_p_1_9, hl_p_1_14, hl_p_1_15, hl_a_22, hl_z_22, hl_a_4, hl_z_4, hl_nnN bN, nIc bN, hl_nn4, hl_nn12, hl_v4, hl_v12, hl_nn0, hl_nn40, hl_v0, hl_v40, Nat.zero_add, Nat.le_refl, not_false_eq_true, true_or, and_self, hl_gcp, hl_kill_i, hl_kill_r, hl_kill_n, hl_kill_l, hl_tl_s, hl_tl_n, hl_cal_some, hl_gI, hl_gJ, hl_gsI, hl_gsJ, hl_tv01, if_true, if_false, hl_up_a, hl_row_a]
  generalize hl_row I2 4 (va_cpy (I2 22) (I2 4) 0 0 N) = I3 at c3 e3
  have c4 := hl_cpd_of (I := I3) (a := 23) (b := 5) (n := N)
  have e4 : hl_Run 8 (hl_call (d + 1)) 48 [.ref 1, .ref 19, .int (nI N)] [] (hl_g N I3 J) = hl_Run 8 (hl_call (d + 1)) 62 [.ref 1, .ref 19, .int (nI N)] [] (hl_g N (hl_row I3 5 (va_cpy (I3 23) (I3 5) 0 0 N)) J) := by
    simp only [hl_r8_48, hl_r8_49, hl_r8_52, hl_r8_53, hl_r8_54, hl_r8_57, hl_r8_58, hl_r8_59, hl_o_19, hl_p_19_0, hl_p_19_1, hl_p_19_2, hl_p_19_3, hl_p_19_4, hl_p_19_5, hl_p_19_6, hl_p_19_7, hl_p_19_9, hl_p_19_14, hl_p_19_15, hl_o_1, hl_p_1_0, hl_p_1_1, hl_p_1_2, hl_p_1_3, hl_p_1_4, hl_p_1_5, hl_p_1_6, hl_p_1_7, hl_p_1_9, hl_p_1_14, hl_p_1_15, hl_a_23, hl_z_23, hl_a_5, hl_z_5, hl_nnN bN, nIc bN, hl_nn4, hl_nn12, hl_v4, hl_v12, hl_nn0, hl_nn40, hl_v0, hl_v40, Nat.zero_add, Nat.le_refl, not_false_eq_true, true_or, and_self, hl_gcp, hl_kill_i, hl_kill_r, hl_kill_n, hl_kill_l, hl_tl_s, hl_tl_n, hl_cal_some, hl_gI, hl_gJ, hl_gsI, hl_gsJ, hl_tv01, if_true, if_false, hl_up_a, hl_row_a]
  generalize hl_row I3 5 (va_cpy (I3 23) (I3 5) 0 0 N) = I4 at c4 e4
  have c5 := hl_cpd_of (I := I4) (a := 24) (b := 6) (n := N)
  have hb5 : hl_bits (hl_g N I4 J) 24 0 N = true := hl_bits_of (fun c hc => by rw [c4.1 _ (by omega), c3.1 _ (by omega), c2.1 _ (by omega), c1.1 _ (by omega)]; exact hb c hc)
  have e5 : hl_Run 8 (hl_call (d + 1)) 62 [.ref 1, .ref 19, .int (nI N)] [] (hl_g N I4 J) = hl_Run 8 (hl_call (d + 1)) 76 [.ref 1, .ref 19, .int (nI N)] [] (hl_g N (hl_row I4 6 (va_cpy (I4 24) (I4 6) 0 0 N)) J) := by
    simp only [hl_r8_62, hl_r8_63, hl_r8_66, hl_r8_67, hl_r8_68, hl_r8_71, hl_r8_72, hl_r8_73, hl_o_19, hl_p_19_0, hl_p_19_1, hl_p_19_2, hl_p_19_3, hl_p_19_4, hl_p_19_5, hl_p_19_6, hl_p_19_7, hl_p_19_9, hl_p_19_14, hl_p_19_15, hl_o_1, hl_p_1_0, hl_p_1_1, hl_p_1_2, hl_p_1_3, hl_p_1_4, hl_p_1_5, hl_p_1_6, hl_p_1_7, hl_p_1_9, hl_p_1_14, hl_p_1_15, hl_a_24, hl_z_24, hl_a_6, hl_z_6, hb5, or_true, hl_nnN bN, nIc bN, hl_nn4, hl_nn12, hl_v4, hl_v12, hl_nn0, hl_nn40, hl_v0, hl_v40, Nat.zero_add, Nat.le_refl, not_false_eq_true, true_or, and_self, hl_gcp, hl_kill_i, hl_kill_r, hl_kill_n, hl_kill_l, hl_tl_s, hl_tl_n, hl_cal_some, hl_gI, hl_gJ, hl_gsI, hl_gsJ, hl_tv01, if_true, if_false, hl_up_a, hl_row_a]
  generalize hl_row I4 6 (va_cpy (I4 24) (I4 6) 0 0 N) = I5 at c5 e5
  have c6 := hl_cpd_of (I := I5) (a := 25) (b := 7) (n := N)
  have e6 : hl_Run 8 (hl_call (d + 1)) 76 [.ref 1, .ref 19, .int (nI N)] [] (hl_g N I5 J) = hl_Run 8 (hl_call (d + 1)) 90 [.ref 1, .ref 19, .int (nI N)] [] (hl_g N (hl_row I5 7 (va_cpy (I5 25) (I5 7) 0 0 N)) J) := by
    simp only [hl_r8_76, hl_r8_77, hl_r8_80, hl_r8_81, hl_r8_82, hl_r8_85, hl_r8_86, hl_r8_87, hl_o_19, hl_p_19_0, hl_p_19_1, hl_p_19_2, hl_p_19_3, hl_p_19_4, hl_p_19_5, hl_p_19_6, hl_p_19_7, hl_p_19_9, hl_p_19_14, hl_p_19_15, hl_o_1, hl_p_1_0, hl_p_1_1, hl_p_1_2, hl_p_1_3, hl_p_1_4, hl_p_1_5, hl_p_1_6, hl_p_1_7, hl_p_1_9, hl_p_1_14, hl_p_1_15, hl_a_25, hl_z_25, hl_a_7, hl_z_7, hl_nnN bN, nIc bN, hl_nn4, hl_nn12, hl_v4, hl_v12, hl_nn0, hl_nn40, hl_v0, hl_v40, Nat.zero_add, Nat.le_refl, not_false_eq_true, true_or, and_self, hl_gcp, hl_kill_i, hl_kill_r, hl_kill_n, hl_kill_l, hl_tl_s, hl_tl_n, hl_cal_some, hl_gI, hl_gJ, hl_gsI, hl_gsJ, hl_tv01, if_true, if_false, hl_up_a, hl_row_a]
  generalize hl_row I5 7 (va_cpy (I5 25) (I5 7) 0 0 N) = I6 at c6 e6
  have c7 := hl_cpd_of (I := I6) (a := 26) (b := 8) (n := N)
  have e7 : hl_Run 8 (hl_call (d + 1)) 90 [.ref 1, .ref 19, .int (nI N)] [] (hl_g N I6 J) = hl_Run 8 (hl_call (d + 1)) 104 [.ref 1, .ref 19, .int (nI N)] [] (hl_g N (hl_row I6 8 (va_cpy (I6 26) (I6 8) 0 0 N)) J) := by
    simp only [hl_r8_90, hl_r8_91, hl_r8_94, hl_r8_95, hl_r8_96, hl_r8_99, hl_r8_100, hl_r8_101, hl_o_19, hl_p_19_0, hl_p_19_1, hl_p_19_2, hl_p_19_3, hl_p_19_4, hl_p_19_5, hl_p_19_6, hl_p_19_7, hl_p_19_9, hl_p_19_14, hl_p_19_15, hl_o_1, hl_p_1_0, hl_p_1_1, hl_p_1_2, hl_p_1_3, hl_p_1_4, hl_p_1_5, hl_p_1_6, hl_p_1_7, hl_p_1_9, hl_p_1_14, hl_p_1_15, hl_a_26, hl_z_26, hl_a_8, hl_z_8, hl_nnN bN, nIc bN, hl_nn4, hl_nn12, hl_v4, hl_v12, hl_nn0, hl_nn40, hl_v0, hl_v40, Nat.zero_add, Nat.le_refl, not_false_eq_true, true_or, and_self, hl_gcp, hl_kill_i, hl_kill_r, hl_kill_n, hl_kill_l, hl_tl_s, hl_tl_n, hl_cal_some, hl_gI, hl_gJ, hl_gsI, hl_gsJ, hl_tv01, if_true, if_false, hl_up_a, hl_row_a]
  generalize hl_row I6 8 (va_cpy (I6 26) (I6 8) 0 0 N) = I7 at c7 e7
  have c8 := hl_cpd_of (I := I7) (a := 27) (b := 9) (n := 4)
  have e8 : hl_Run 8 (hl_call (d + 1)) 104 [.ref 1, .ref 19, .int (nI N)] [] (hl_g N I7 J) = hl_Run 8 (hl_call (d + 1)) 118 [.ref 1, .ref 19, .int (nI N)] [] (hl_g N (hl_row I7 9 (va_cpy (I7 27) (I7 9) 0 0 4)) J) := by
    simp only [hl_r8_104, hl_r8_105, hl_r8_108, hl_r8_109, hl_r8_110, hl_r8_113, hl_r8_114, hl_r8_115, hl_o_19, hl_p_19_0, hl_p_19_1, hl_p_19_2, hl_p_19_3, hl_p_19_4, hl_p_19_5, hl_p_19_6, hl_p_19_7, hl_p_19_9, hl_p_19_14, hl_p_19_15, hl_o_1, hl_p_1_0, hl_p_1_1, hl_p_1_2, hl_p_1_3, hl_p_1_4, hl_p_1_5, hl_p_1_6, hl_p_1_7, hl_p_1_9, hl_p_1_14, hl_p_1_15, hl_a_27, hl_z_27, hl_a_9, hl_z_9, hl_nnN bN, nIc bN, hl_nn4, hl_nn12, hl_v4, hl_v12, hl_nn0, hl_nn40, hl_v0, hl_v40, Nat.zero_add, Nat.le_refl, not_false_eq_true, true_or, and_self, hl_gcp, hl_kill_i, hl_kill_r, hl_kill_n, hl_kill_l, hl_tl_s, hl_tl_n, hl_cal_some, hl_gI, hl_gJ, hl_gsI, hl_gsJ, hl_tv01, if_true, if_false, hl_up_a, hl_row_a]
  generalize hl_row I7 9 (va_cpy (I7 27) (I7 9) 0 0 4) = I8 at c8 e8
  have c9 : ∀ q, q ≠ 1 → hl_up I8 1 8 (I8 19 8) q = I8 q := fun q hq => hl_up_ne _ _ _ hq
  have f9 : ∀ k, hl_up I8 1 8 (I8 19 8) 1 k = if k = 8 then I8 19 8 else I8 1 k := fun k => by rw [hl_up_a, if_pos rfl]
  have e9 : hl_Run 8 (hl_call (d + 1)) 118 [.ref 1, .ref 19, .int (nI N)] [] (hl_g N I8 J) = hl_Run 8 (hl_call (d + 1)) 126 [.ref 1, .ref 19, .int (nI N)] [] (hl_g N (hl_up I8 1 8 (I8 19 8)) J) := by
    simp only [hl_r8_118, hl_r8_119, hl_r8_120, hl_r8_123, hl_o_19, hl_p_19_0, hl_p_19_1, hl_p_19_2, hl_p_19_3, hl_p_19_4, hl_p_19_5, hl_p_19_6, hl_p_19_7, hl_p_19_9, hl_p_19_14, hl_p_19_15, hl_o_1, hl_p_1_0, hl_p_1_1, hl_p_1_2, hl_p_1_3, hl_p_1_4, hl_p_1_5, hl_p_1_6, hl_p_1_7, hl_p_1_9, hl_p_1_14, hl_p_1_15, hl_nnN bN, nIc bN, hl_nn4, hl_nn12, hl_v4, hl_v12, hl_nn0, hl_nn40, hl_v0, hl_v40, Nat.zero_add, Nat.le_refl, not_false_eq_true, true_or, and_self, hl_gcp, hl_kill_i, hl_kill_r, hl_kill_n, hl_kill_l, hl_tl_s, hl_tl_n, hl_cal_some, hl_gI, hl_gJ, hl_gsI, hl_gsJ, hl_tv01, if_true, if_false, hl_up_a, hl_row_a]
  generalize hl_up I8 1 8 (I8 19 8) = I9 at c9 e9 f9
  have c10 := hl_cpd_of (I := I9) (a := 28) (b := 10) (n := 12)
  have e10 : hl_Run 8 (hl_call (d + 1)) 126 [.ref 1, .ref 19, .int (nI N)] [] (hl_g N I9 J) = hl_Run 8 (hl_call (d + 1)) 141 [.ref 1, .ref 19, .int (nI N)] [] (hl_g N (hl_row I9 10 (va_cpy (I9 28) (I9 10) 0 0 12)) J) := by
    simp only [hl_r8_126, hl_r8_127, hl_r8_130, hl_r8_131, hl_r8_132, hl_r8_135, hl_r8_136, hl_r8_138, hl_o_19, hl_p_19_0, hl_p_19_1, hl_p_19_2, hl_p_19_3, hl_p_19_4, hl_p_19_5, hl_p_19_6, hl_p_19_7, hl_p_19_9, hl_p_19_14, hl_p_19_15, hl_o_1, hl_p_1_0, hl_p_1_1, hl_p_1_2, hl_p_1_3, hl_p_1_4, hl_p_1_5, hl_p_1_6, hl_p_1_7, hl_p_1_9, hl_p_1_14, hl_p_1_15, hl_a_28, hl_z_28, hl_a_10, hl_z_10, hl_nnN bN, nIc bN, hl_nn4, hl_nn12, hl_v4, hl_v12, hl_nn0, hl_nn40, hl_v0, hl_v40, Nat.zero_add, Nat.le_refl, not_false_eq_true, true_or, and_self, hl_gcp, hl_kill_i, hl_kill_r, hl_kill_n, hl_kill_l, hl_tl_s, hl_tl_n, hl_cal_some, hl_gI, hl_gJ, hl_gsI, hl_gsJ, hl_tv01, if_true, if_false, hl_up_a, hl_row_a]
  generalize hl_row I9 10 (va_cpy (I9 28) (I9 10) 0 0 12) = I10 at c10 e10
  have c11 : ∀ q, q ≠ 1 → hl_up I10 1 10 (I10 19 10) q = I10 q := fun q hq => hl_up_ne _ _ _ hq
  have f11 : ∀ k, hl_up I10 1 10 (I10 19 10) 1 k = if k = 10 then I10 19 10 else I10 1 k := fun k => by rw [hl_up_a, if_pos rfl]
  have e11 : hl_Run 8 (hl_call (d + 1)) 141 [.ref 1, .ref 19, .int (nI N)] [] (hl_g N I10 J) = hl_Run 8 (hl_call (d + 1)) 149 [.ref 1, .ref 19, .int (nI N)] [] (hl_g N (hl_up I10 1 10 (I10 19 10)) J) := by
    simp only [hl_r8_141, hl_r8_142, hl_r8_143, hl_r8_146, hl_o_19, hl_p_19_0, hl_p_19_1, hl_p_19_2, hl_p_19_3, hl_p_19_4, hl_p_19_5, hl_p_19_6, hl_p_19_7, hl_p_19_9, hl_p_19_14, hl_p_19_15, hl_o_1, hl_p_1_0, hl_p_1_1, hl_p_1_2, hl_p_1_3, hl_p_1_4, hl_p_1_5, hl_p_1_6, hl_p_1_7, hl_p_1_9, hl_p_1_14, hl_p_1_15, hl_nnN bN, nIc bN, hl_nn4, hl_nn12, hl_v4, hl_v12, hl_nn0, hl_nn40, hl_v0, hl_v40, Nat.zero_add, Nat.le_refl, not_false_eq_true, true_or, and_self, hl_gcp, hl_kill_i, hl_kill_r, hl_kill_n, hl_kill_l, hl_tl_s, hl_tl_n, hl_cal_some, hl_gI, hl_gJ, hl_gsI, hl_gsJ, hl_tv01, if_true, if_false, hl_up_a, hl_row_a]
  generalize hl_up I10 1 10 (I10 19 10) = I11 at c11 e11 f11
  have c12 : ∀ q, q ≠ 1 → hl_up I11 1 11 (I11 19 11) q = I11 q := fun q hq => hl_up_ne _ _ _ hq
  have f12 : ∀ k, hl_up I11 1 11 (I11 19 11) 1 k = if k = 11 then I11 19 11 else I11 1 k := fun k => by rw [hl_up_a, if_pos rfl]
  have e12 : hl_Run 8 (hl_call (d + 1)) 149 [.ref 1, .ref 19, .int (nI N)] [] (hl_g N I11 J) = hl_Run 8 (hl_call (d + 1)) 157 [.ref 1, .ref 19, .int (nI N)] [] (hl_g N (hl_up I11 1 11 (I11 19 11)) J) := by
    simp only [hl_r8_149, hl_r8_150, hl_r8_151, hl_r8_154, hl_o_19, hl_p_19_0, hl_p_19_1, hl_p_19_2, hl_p_19_3, hl_p_19_4, hl_p_19_5, hl_p_19_6, hl_p_19_7, hl_p_19_9, hl_p_19_14, hl_p_19_15, hl_o_1, hl_p_1_0, hl_p_1_1, hl_p_1_2, hl_p_1_3, hl_p_1_4, hl_p_1_5, hl_p_1_6, hl_p_1_7, hl_p_1_9, hl_p_1_14, hl_p_1_15, hl_nnN bN, nIc bN, hl_nn4, hl_nn12, hl_v4, hl_v12, hl_nn0, hl_nn40, hl_v0, hl_v40, Nat.zero_add, Nat.le_refl, not_false_eq_true, true_or, and_self, hl_gcp, hl_kill_i, hl_kill_r, hl_kill_n, hl_kill_l, hl_tl_s, hl_tl_n, hl_cal_some, hl_gI, hl_gJ, hl_gsI, hl_gsJ, hl_tv01, if_true, if_false, hl_up_a, hl_row_a]
  generalize hl_up I11 1 11 (I11 19 11) = I12 at c12 e12 f12
  have c13 : ∀ q, q ≠ 1 → hl_up I12 1 12 (I12 19 12) q = I12 q := fun q hq => hl_up_ne _ _ _ hq
  have f13 : ∀ k, hl_up I12 1 12 (I12 19 12) 1 k = if k = 12 then I12 19 12 else I12 1 k := fun k => by rw [hl_up_a, if_pos rfl]
  have e13 : hl_Run 8 (hl_call (d + 1)) 157 [.ref 1, .ref 19, .int (nI N)] [] (hl_g N I12 J) = hl_Run 8 (hl_call (d + 1)) 165 [.ref 1, .ref 19, .int (nI N)] [] (hl_g N (hl_up I12 1 12 (I12 19 12)) J) := by
    simp only [hl_r8_157, hl_r8_158, hl_r8_159, hl_r8_162, hl_o_19, hl_p_19_0, hl_p_19_1, hl_p_19_2, hl_p_19_3, hl_p_19_4, hl_p_19_5, hl_p_19_6, hl_p_19_7, hl_p_19_9, hl_p_19_14, hl_p_19_15, hl_o_1, hl_p_1_0, hl_p_1_1, hl_p_1_2, hl_p_1_3, hl_p_1_4, hl_p_1_5, hl_p_1_6, hl_p_1_7, hl_p_1_9, hl_p_1_14, hl_p_1_15, hl_nnN bN, nIc bN, hl_nn4, hl_nn12, hl_v4, hl_v12, hl_nn0, hl_nn40, hl_v0, hl_v40, Nat.zero_add, Nat.le_refl, not_false_eq_true, true_or, and_self, hl_gcp, hl_kill_i, hl_kill_r, hl_kill_n, hl_kill_l, hl_tl_s, hl_tl_n, hl_cal_some, hl_gI, hl_gJ, hl_gsI, hl_gsJ, hl_tv01, if_true, if_false, hl_up_a, hl_row_a]
  generalize hl_up I12 1 12 (I12 19 12) = I13 at c13 e13 f13
  have c14 : ∀ q, q ≠ 1 → hl_up I13 1 13 (I13 19 13) q = I13 q := fun q hq => hl_up_ne _ _ _ hq
  have f14 : ∀ k, hl_up I13 1 13 (I13 19 13) 1 k = if k = 13 then I13 19 13 else I13 1 k := fun k => by rw [hl_up_a, if_pos rfl]
  have e14 : hl_Run 8 (hl_call (d + 1)) 165 [.ref 1, .ref 19, .int (nI N)] [] (hl_g N I13 J) = hl_Run 8 (hl_call (d + 1)) 173 [.ref 1, .ref 19, .int (nI N)] [] (hl_g N (hl_up I13 1 13 (I13 19 13)) J) := by
    simp only [hl_r8_165, hl_r8_166, hl_r8_167, hl_r8_170, hl_o_19, hl_p_19_0, hl_p_19_1, hl_p_19_2, hl_p_19_3, hl_p_19_4, hl_p_19_5, hl_p_19_6, hl_p_19_7, hl_p_19_9, hl_p_19_14, hl_p_19_15, hl_o_1, hl_p_1_0, hl_p_1_1, hl_p_1_2, hl_p_1_3, hl_p_1_4, hl_p_1_5, hl_p_1_6, hl_p_1_7, hl_p_1_9, hl_p_1_14, hl_p_1_15, hl_nnN bN, nIc bN, hl_nn4, hl_nn12, hl_v4, hl_v12, hl_nn0, hl_nn40, hl_v0, hl_v40, Nat.zero_add, Nat.le_refl, not_false_eq_true, true_or, and_self, hl_gcp, hl_kill_i, hl_kill_r, hl_kill_n, hl_kill_l, hl_tl_s, hl_tl_n, hl_cal_some, hl_gI, hl_gJ, hl_gsI, hl_gsJ, hl_tv01, if_true, if_false, hl_up_a, hl_row_a]
  generalize hl_up I13 1 13 (I13 19 13) = I14 at c14 e14 f14
  obtain ⟨I15, e15, t1, t2, t3⟩ := hl_s82_1 (d := d) (N := N) (I := I14) (J := J)
  obtain ⟨I16, e16, t4, t5, t6⟩ := hl_s93_1 (d := d) (N := N) (I := I15) (J := J)
  refine ⟨I16, ?_, fun q hq => ?_, fun j r k hj => ?_⟩
  · rw [e0, e1, e2, e3, e4, e5, e6, e7, e8, e9, e10, e11, e12, e13, e14]
    simp only [hl_r8_173, hl_r8_174, hl_r8_177, hl_r8_178, hl_r8_181, hl_r8_184, hl_r8_185, hl_r8_188, hl_r8_189, hl_r8_192, hl_r8_195, hl_o_19, hl_p_19_0, hl_p_19_1, hl_p_19_2, hl_p_19_3, hl_p_19_4, hl_p_19_5, hl_p_19_6, hl_p_19_7, hl_p_19_9, hl_p_19_14, hl_p_19_15, hl_o_1, hl_p_1_0, hl_p_1_1, hl_p_1_2, hl_p_1_3, hl_p_1_4, hl_p_1_5, hl_p_1_6, hl_p_1_7, hl_p_1_9, hl_p_1_14, hl_p_1_15, hl_o_29, hl_p_29_0, hl_p_29_1, hl_p_29_2, hl_o_11, hl_p_11_0, hl_p_11_1, hl_p_11_2, hl_o_33, hl_p_33_0, hl_p_33_1, hl_p_33_2, hl_o_15, hl_p_15_0, hl_p_15_1, hl_p_15_2, e15, e16, hl_tl_n, hl_kill_i, hl_kill_r, hl_kill_n, hl_kill_l, hl_tl_s, hl_tl_n, hl_cal_some, hl_gI, hl_gJ, hl_gsI, hl_gsJ, hl_tv01, if_true, if_false, hl_up_a, hl_row_a]
  · rw [t4 _ (by omega), t1 _ (by omega), c14 _ (by omega), c13 _ (by omega), c12 _ (by omega), c11 _ (by omega), c10.1 _ (by omega), c9 _ (by omega), c8.1 _ (by omega), c7.1 _ (by omega), c6.1 _ (by omega), c5.1 _ (by omega), c4.1 _ (by omega), c3.1 _ (by omega), c2.1 _ (by omega), c1.1 _ (by omega)]
  · have sm : ∀ q, ¬ (1 ≤ q ∧ q < 19) → I14 q = I q := fun q hq => by rw [c14 _ (by omega), c13 _ (by omega), c12 _ (by omega), c11 _ (by omega), c10.1 _ (by omega), c9 _ (by omega), c8.1 _ (by omega), c7.1 _ (by omega), c6.1 _ (by omega), c5.1 _ (by omega), c4.1 _ (by omega), c3.1 _ (by omega), c2.1 _ (by omega), c1.1 _ (by omega)]
    have lo : ∀ q, q < 1 + 10 → I16 q = I14 q := fun q hq => by rw [t4 _ (by omega), t1 _ (by omega)]
    have r1 : ∀ k, k < N → I16 2 k = I 20 k := fun k hk => by rw [lo _ (by omega), c14 _ (by omega), c13 _ (by omega), c12 _ (by omega), c11 _ (by omega), c10.1 _ (by omega), c9 _ (by omega), c8.1 _ (by omega), c7.1 _ (by omega), c6.1 _ (by omega), c5.1 _ (by omega), c4.1 _ (by omega), c3.1 _ (by omega), c2.1 _ (by omega), c1.2 k hk]
    have r2 : ∀ k, k < N → I16 3 k = I 21 k := fun k hk => by rw [lo _ (by omega), c14 _ (by omega), c13 _ (by omega), c12 _ (by omega), c11 _ (by omega), c10.1 _ (by omega), c9 _ (by omega), c8.1 _ (by omega), c7.1 _ (by omega), c6.1 _ (by omega), c5.1 _ (by omega), c4.1 _ (by omega), c3.1 _ (by omega), c2.2 k hk, c1.1 _ (by omega)]
    have r3 : ∀ k, k < N → I16 4 k = I 22 k := fun k hk => by rw [lo _ (by omega), c14 _ (by omega), c13 _ (by omega), c12 _ (by omega), c11 _ (by omega), c10.1 _ (by omega), c9 _ (by omega), c8.1 _ (by omega), c7.1 _ (by omega), c6.1 _ (by omega), c5.1 _ (by omega), c4.1 _ (by omega), c3.2 k hk, c2.1 _ (by omega), c1.1 _ (by omega)]
    have r4 : ∀ k, k < N → I16 5 k = I 23 k := fun k hk => by rw [lo _ (by omega), c14 _ (by omega), c13 _ (by omega), c12 _ (by omega), c11 _ (by omega), c10.1 _ (by omega), c9 _ (by omega), c8.1 _ (by omega), c7.1 _ (by omega), c6.1 _ (by omega), c5.1 _ (by omega), c4.2 k hk, c3.1 _ (by omega), c2.1 _ (by omega), c1.1 _ (by omega)]
    have r5 : ∀ k, k < N → I16 6 k = I 24 k := fun k hk => by rw [lo _ (by omega), c14 _ (by omega), c13 _ (by omega), c12 _ (by omega), c11 _ (by omega), c10.1 _ (by omega), c9 _ (by omega), c8.1 _ (by omega), c7.1 _ (by omega), c6.1 _ (by omega), c5.2 k hk, c4.1 _ (by omega), c3.1 _ (by omega), c2.1 _ (by omega), c1.1 _ (by omega)]
    have r6 : ∀ k, k < N → I16 7 k = I 25 k := fun k hk => by rw [lo _ (by omega), c14 _ (by omega), c13 _ (by omega), c12 _ (by omega), c11 _ (by omega), c10.1 _ (by omega), c9 _ (by omega), c8.1 _ (by omega), c7.1 _ (by omega), c6.2 k hk, c5.1 _ (by omega), c4.1 _ (by omega), c3.1 _ (by omega), c2.1 _ (by omega), c1.1 _ (by omega)]
    have r7 : ∀ k, k < N → I16 8 k = I 26 k := fun k hk => by rw [lo _ (by omega), c14 _ (by omega), c13 _ (by omega), c12 _ (by omega), c11 _ (by omega), c10.1 _ (by omega), c9 _ (by omega), c8.1 _ (by omega), c7.2 k hk, c6.1 _ (by omega), c5.1 _ (by omega), c4.1 _ (by omega), c3.1 _ (by omega), c2.1 _ (by omega), c1.1 _ (by omega)]
    have r8 : ∀ k, k < 4 → I16 9 k = I 27 k := fun k hk => by rw [lo _ (by omega), c14 _ (by omega), c13 _ (by omega), c12 _ (by omega), c11 _ (by omega), c10.1 _ (by omega), c9 _ (by omega), c8.2 k hk, c7.1 _ (by omega), c6.1 _ (by omega), c5.1 _ (by omega), c4.1 _ (by omega), c3.1 _ (by omega), c2.1 _ (by omega), c1.1 _ (by omega)]
    have r9 : ∀ k, k < 12 → I16 10 k = I 28 k := fun k hk => by rw [lo _ (by omega), c14 _ (by omega), c13 _ (by omega), c12 _ (by omega), c11 _ (by omega), c10.2 k hk, c9 _ (by omega), c8.1 _ (by omega), c7.1 _ (by omega), c6.1 _ (by omega), c5.1 _ (by omega), c4.1 _ (by omega), c3.1 _ (by omega), c2.1 _ (by omega), c1.1 _ (by omega)]
    have g8 : I16 1 8 = I 19 8 := by rw [lo _ (by omega), f14, if_neg (by decide), f13, if_neg (by decide), f12, if_neg (by decide), f11, if_neg (by decide), c10.1 _ (by omega), f9, if_pos rfl, c8.1 _ (by omega), c7.1 _ (by omega), c6.1 _ (by omega), c5.1 _ (by omega), c4.1 _ (by omega), c3.1 _ (by omega), c2.1 _ (by omega), c1.1 _ (by omega)]
    have g10 : I16 1 10 = I 19 10 := by rw [lo _ (by omega), f14, if_neg (by decide), f13, if_neg (by decide), f12, if_neg (by decide), f11, if_pos rfl, c10.1 _ (by omega), c9 _ (by omega), c8.1 _ (by omega), c7.1 _ (by omega), c6.1 _ (by omega), c5.1 _ (by omega), c4.1 _ (by omega), c3.1 _ (by omega), c2.1 _ (by omega), c1.1 _ (by omega)]
    have g11 : I16 1 11 = I 19 11 := by rw [lo _ (by omega), f14, if_neg (by decide), f13, if_neg (by decide), f12, if_pos rfl, c11 _ (by omega), c10.1 _ (by omega), c9 _ (by omega), c8.1 _ (by omega), c7.1 _ (by omega), c6.1 _ (by omega), c5.1 _ (by omega), c4.1 _ (by omega), c3.1 _ (by omega), c2.1 _ (by omega), c1.1 _ (by omega)]
    have g12 : I16 1 12 = I 19 12 := by rw [lo _ (by omega), f14, if_neg (by decide), f13, if_pos rfl, c12 _ (by omega), c11 _ (by omega), c10.1 _ (by omega), c9 _ (by omega), c8.1 _ (by omega), c7.1 _ (by omega), c6.1 _ (by omega), c5.1 _ (by omega), c4.1 _ (by omega), c3.1 _ (by omega), c2.1 _ (by omega), c1.1 _ (by omega)]
    have g13 : I16 1 13 = I 19 13 := by rw [lo _ (by omega), f14, if_pos rfl, c13 _ (by omega), c12 _ (by omega), c11 _ (by omega), c10.1 _ (by omega), c9 _ (by omega), c8.1 _ (by omega), c7.1 _ (by omega), c6.1 _ (by omega), c5.1 _ (by omega), c4.1 _ (by omega), c3.1 _ (by omega), c2.1 _ (by omega), c1.1 _ (by omega)]
    have ti : ∀ r, r < 3 → ∀ k, k < 40 → I16 (12 + r) k = I (30 + r) k := fun r hr k hk => by rw [t4 _ (by omega), t2 r hr k hk, sm _ (by omega)]
    have tc : I16 11 3 = I 29 3 := by rw [t4 _ (by omega), t3, sm _ (by omega)]
    have st : ∀ r, r < 2 → ∀ k, k < 72 → I16 (16 + r) k = I (34 + r) k := fun r hr k hk => by rw [t5 r hr k hk, t1 _ (by omega), sm _ (by omega)]
    have sc : ∀ k, k < 6 → I16 18 k = I 36 k := fun k hk => by rw [t6 k hk, t1 _ (by omega), sm _ (by omega)]
    rcases hl_ri_c hj with q | q | q | q | q | q | q | q | q | q | q | q <;> obtain ⟨q1, q2, q3⟩ := q
    · subst q2 q3; exact g8
    · subst q2 q3; exact tc
    · subst q2 q3; exact g12
    · subst q2 q3; exact g13
    · subst q2 q3; exact g10
    · subst q2 q3; exact g11
    · subst q2; exact r8 k (by omega)
    · subst q2; exact r9 k (by omega)
    · have hr : r = 1 ∨ r = 2 ∨ r = 3 ∨ r = 4 ∨ r = 5 ∨ r = 6 ∨ r = 7 := by omega
      have hk : k < N := by omega
      clear q2
      rcases hr with z | z | z | z | z | z | z <;> subst z
      · exact r1 k hk
      · exact r2 k hk
      · exact r3 k hk
      · exact r4 k hk
      · exact r5 k hk
      · exact r6 k hk
      · exact r7 k hk
    · obtain ⟨r0, h0, h1⟩ : ∃ r0, r0 < 3 ∧ r = 11 + r0 := ⟨r - 11, by omega, by omega⟩
      subst h1
      have := ti r0 h0 k (by omega)
      rw [show 1 + (11 + r0) = 12 + r0 by omega, show 19 + (11 + r0) = 30 + r0 by omega]
      exact this
    · subst q2; exact sc k (by omega)
    · obtain ⟨r0, h0, h1⟩ : ∃ r0, r0 < 2 ∧ r = 15 + r0 := ⟨r - 15, by omega, by omega⟩
      subst h1
      have := st r0 h0 k (by omega)
      rw [show 1 + (15 + r0) = 16 + r0 by omega, show 19 + (15 + r0) = 34 + r0 by omega]
      exact this
theorem hl_gmr {b : Nat} (hb : 85 ≤ b) {g : Nat → Int32} : hl_rI (hl_g N I J) b g = hl_g N (hl_row I b g) J := rfl
theorem hl_V_congr {N : Nat} {S S' : Nat → Int} (hN : N ≤ 24) (hV : hl_V N S) (e : ∀ j, j < 490 → S' j = S j) : hl_V N S' := by
  obtain ⟨v0, v1, v2, v3, v4, v5, v6, v7, v8, v9, v10⟩ := hV
  unfold hl_V
  rw [e 0 (by omega), e 1 (by omega), e 2 (by omega), e 3 (by omega), e 4 (by omega), e 5 (by omega)]
  refine ⟨v0, v1, v2, v3, v4, fun h hh => ?_, fun h hh => ?_, fun q hq => ?_, fun c hc => ?_, fun k hk => ?_, fun t ht => ?_⟩
  · rw [e _ (by omega)]; exact v5 h hh
  · rw [e _ (by omega), e _ (by omega)]; exact v6 h hh
  · rw [e _ (by omega)]; exact v7 q hq
  · rw [e _ (by omega), e _ (by omega), e _ (by omega), e _ (by omega), e _ (by omega), e _ (by omega), e _ (by omega)]; exact v8 c hc
  · rw [e _ (by omega), e _ (by omega), e _ (by omega)]; exact v9 k hk
  · have h0 := (v10 t ht).1
    rw [e _ (by omega)]
    refine ⟨h0, fun i hi => ?_⟩
    rw [e _ (by omega), e _ (by omega)]
    exact (v10 t ht).2 i hi
theorem hl_pr29 (hN : N ≤ 24) (f : Nat → Int32) : hl_PQ hl_TX N W H 134 256 (hl_args 29 f) := by
  intro I J hI
  show ∃ v I1 J1 I2 J2, hl_call 1001 134 [.ref 0] (hl_g N I J) = some (some (.int v), hl_g N I1 J1) ∧ hl_call 1001 256 [.ref 85] (hl_g N I1 J1) = some (some (.int v), hl_g N I2 J2) ∧ hl_Inv hl_TX N W H I2
  obtain ⟨nh, h4, hc1, hm1, hs1⟩ := hI.nh
  obtain ⟨I1, e1, f1, g1⟩ := hl_s8_19 (d := 998) (J := J) hN (fun c hc => hI.co.town hN hc)
  have m1 : I1 1 8 = nI nh := by rw [f1 1 (by omega)]; exact hc1
  have m2 : I1 86 0 = nI nh := by rw [f1 86 (by omega)]; exact hm1
  have ec := hl_s150 (d := 999) (w := hl_g N I1 J) (a := 86) (b := 87) (by decide) hl_a_86 hl_a_87 hl_z_86 hl_z_87
  rw [hl_gmr (by decide)] at ec
  generalize hI2 : hl_row I1 87 (fun j => if j < 490 then hl_I (hl_g N I1 J) 86 j else hl_I (hl_g N I1 J) 87 j) = I2 at ec
  have r : ∀ q, q ≠ 87 → I2 q = I1 q := fun q hq => by rw [← hI2, hl_row_ne _ _ hq]
  have r0 : ∀ q, ¬ (19 ≤ q ∧ q < 37) → q ≠ 87 → I2 q = I q := fun q h1 h2 => by rw [r q h2, f1 q (by omega)]
  have r87 : ∀ j, j < 490 → I2 87 j = I 86 j := fun j hj => by
    rw [← hI2, hl_row_a, if_pos rfl, if_pos hj, hl_gI, f1 86 (by omega)]
  have S87 : ∀ j, j < 490 → hl_Sv I2 87 j = hl_Sv I 86 j := fun j hj => by unfold hl_Sv; rw [r87 j hj]
  have S86 : hl_Sv I2 86 = hl_Sv I 86 := by funext j; unfold hl_Sv; rw [r0 86 (by omega) (by omega)]
  refine ⟨nI nh, I1, J, I2, J, ?_, ?_, ?_⟩
  · rw [hl_e134 (d := 1000)]; simp only [hl_r134_0, hl_r134_1, hl_r134_4, hl_r134_5, hl_r134_8, hl_r134_11, hl_r134_12, hl_r134_15, hl_r134_18, hl_o_0, hl_p_0_3, hl_p_0_4, hl_p_0_5, hl_p_0_7, hl_p_0_8, hl_p_0_9, hl_p_0_10, hl_p_0_11, hl_p_0_12, hl_p_0_13, hl_p_0_14, hl_p_0_15, hl_o_1, hl_p_1_0, hl_p_1_1, hl_p_1_2, hl_p_1_3, hl_p_1_4, hl_p_1_5, hl_p_1_6, hl_p_1_7, hl_p_1_9, hl_p_1_14, hl_p_1_15, hl_o_19, hl_p_19_0, hl_p_19_1, hl_p_19_2, hl_p_19_3, hl_p_19_4, hl_p_19_5, hl_p_19_6, hl_p_19_7, hl_p_19_9, hl_p_19_14, hl_p_19_15, e1, m1, hl_tl_n, hl_kill_i, hl_kill_r, hl_kill_n, hl_kill_l, hl_tl_s, hl_tl_n, hl_cal_some, hl_gI, hl_gJ, hl_gsI, hl_gsJ, hl_tv01, if_true, if_false, hl_up_a, hl_row_a]
  · rw [hl_e256 (d := 1000)]; simp only [hl_r256_0, hl_r256_1, hl_r256_4, hl_r256_5, hl_r256_8, hl_r256_11, hl_r256_12, hl_r256_15, hl_r256_16, hl_r256_17, hl_o_85, hl_p_85_3, hl_p_85_4, hl_p_85_5, hl_p_85_6, hl_p_85_19, hl_p_85_23, hl_p_85_24, hl_p_85_25, hl_p_85_26, hl_p_85_27, hl_p_85_28, hl_p_85_29, hl_p_85_30, hl_p_85_31, hl_p_85_33, hl_p_85_34, hl_p_85_35, hl_p_85_36, hl_p_85_37, hl_a_86, hl_z_86, ec, r 86 (by decide), m2, hl_k0, hl_v0, hl_tl_n, hl_kill_i, hl_kill_r, hl_kill_n, hl_kill_l, hl_tl_s, hl_tl_n, hl_cal_some, hl_gI, hl_gJ, hl_gsI, hl_gsJ, hl_tv01, if_true, if_false, hl_up_a, hl_row_a]
  · obtain ⟨a, b, c, t, p, tb, te⟩ := hI
    refine ⟨?_, ⟨?_, ?_⟩, ⟨?_, ?_, ?_⟩, ?_, ?_, ?_, ?_⟩
    · unfold hl_A9
      rw [r0 0 (by omega) (by omega), r0 85 (by omega) (by omega), r0 66 (by omega) (by omega), r0 38 (by omega) (by omega)]
      exact a
    · exact hl_LE_congr b.1 (fun q hq => r0 _ (by omega) (by omega)) (r0 86 (by omega) (by omega))
    · rw [S86]; exact b.2
    · intro j q k hj
      rw [r _ (by have := hl_ri_lt hj; omega), g1 j q k hj, r87 j (hl_ri_j hN hj)]
      exact b.1 j q k hj
    · exact hl_V_congr hN b.2 S87
    · rw [S87 2 (by omega), S86]; exact Int.le_refl _
    · unfold hl_Tp
      rw [r0 0 (by omega) (by omega), r0 85 (by omega) (by omega), r0 37 (by omega) (by omega), r0 89 (by omega) (by omega)]
      exact t
    · exact hl_Pu_k p (by rw [r0 86 (by omega) (by omega)]) (r0 64 (by omega) (by omega)) (fun c' hc' => .inr ⟨by rw [r0 65 (by omega) (by omega)], hl_PD_of (fun b hb => r0 b (by omega) (by omega)) c'⟩)
    · intro T cl hT hcl
      rw [r0 (46 + 4 * T) (by omega) (by omega), r0 (47 + 4 * T) (by omega) (by omega)]
      exact tb T cl hT hcl
    · intro T hT
      rw [S86] at hT
      have hV := b.2.2.2.1
      exact hl_TXc I I2 T (r0 _ (by omega) (by omega)) (r0 _ (by omega) (by omega)) (r0 _ (by omega) (by omega)) (fun k _ _ => by rw [r0 88 (by omega) (by omega)]) (te T hT)
theorem hl_pr30 (hN : N ≤ 24) (f : Nat → Int32) : hl_PQ hl_TX N W H 135 257 (hl_args 30 f) := by
  intro I J hI
  show ∃ v I1 J1 I2 J2, hl_call 1001 135 [.ref 0] (hl_g N I J) = some (some (.int v), hl_g N I1 J1) ∧ hl_call 1001 257 [.ref 85] (hl_g N I1 J1) = some (some (.int v), hl_g N I2 J2) ∧ hl_Inv hl_TX N W H I2
  obtain ⟨a, b, c, t, p, tb, te⟩ := hI
  obtain ⟨I1, e1, f1, g1⟩ := hl_s8_1 (d := 998) (J := J) (I := I) hN (fun q hq => by
    have v := (c.2.1.2.2.2.2.2.2.2.2.1 q hq).2.2.2.2.1
    have e : I 24 q = I 87 (30 + 7 * q + 4) := c.1 _ _ _ (hl_ri_cell (i := 4) hN hq (by omega))
    unfold hl_Sv at v
    rw [← e] at v
    obtain ⟨k, k1, k2, k3⟩ := hl_nat v.1
    rw [k2]
    match k, k3 with
    | 0, _ => exact .inl rfl
    | 1, _ => exact .inr rfl
    | k + 2, k3 => omega)
  have e44 := hl_s44 (d := 999) (I := I1) (J := J) hN
  have w18 : hl_fz I1 N 1 8 = I 87 0 := by rw [hl_fz_ne (by decide), show I1 1 8 = I 19 8 from g1 0 0 8 rfl]; exact c.1 0 0 8 rfl
  have ec := hl_s150 (d := 999) (w := hl_g N (hl_fz I1 N) J) (a := 87) (b := 86) (by decide) hl_a_87 hl_a_86 hl_z_87 hl_z_86
  rw [hl_gmr (by decide)] at ec
  generalize hI2 : hl_row (hl_fz I1 N) 86 (fun j => if j < 490 then hl_I (hl_g N (hl_fz I1 N) J) 87 j else hl_I (hl_g N (hl_fz I1 N) J) 86 j) = I2 at ec
  have r : ∀ q, q ≠ 86 → I2 q = hl_fz I1 N q := fun q hq => by rw [← hI2, hl_row_ne _ _ hq]
  have r1 : ∀ q, q ≠ 86 → q ≠ 65 → I2 q = I1 q := fun q hq h5 => by rw [r q hq, hl_fz_ne h5]
  have r0 : ∀ q, ¬ (1 ≤ q ∧ q < 19) → q ≠ 86 → q ≠ 65 → I2 q = I q := fun q h1 h2 h5 => by rw [r1 q h2 h5, f1 q (by omega)]
  have r86 : ∀ j, j < 490 → I2 86 j = I 87 j := fun j hj => by
    rw [← hI2, hl_row_a, if_pos rfl, if_pos hj, hl_gI, hl_fz_ne (by decide), f1 87 (by omega)]
  have S86 : ∀ j, j < 490 → hl_Sv I2 86 j = hl_Sv I 87 j := fun j hj => by unfold hl_Sv; rw [r86 j hj]
  have S87 : hl_Sv I2 87 = hl_Sv I 87 := by funext j; unfold hl_Sv; rw [r0 87 (by omega) (by omega) (by omega)]
  refine ⟨I 87 0, hl_fz I1 N, J, I2, J, ?_, ?_, ?_⟩
  · rw [hl_e135 (d := 1000)]; simp only [hl_r135_0, hl_r135_1, hl_r135_4, hl_r135_5, hl_r135_8, hl_r135_11, hl_r135_12, hl_r135_15, hl_r135_18, hl_r135_19, hl_r135_22, hl_r135_25, hl_o_0, hl_p_0_3, hl_p_0_4, hl_p_0_5, hl_p_0_7, hl_p_0_8, hl_p_0_9, hl_p_0_10, hl_p_0_11, hl_p_0_12, hl_p_0_13, hl_p_0_14, hl_p_0_15, hl_o_1, hl_p_1_0, hl_p_1_1, hl_p_1_2, hl_p_1_3, hl_p_1_4, hl_p_1_5, hl_p_1_6, hl_p_1_7, hl_p_1_9, hl_p_1_14, hl_p_1_15, hl_o_63, hl_p_63_0, hl_p_63_1, hl_p_63_2, hl_p_63_3, e1, e44, w18, hl_tl_n, hl_kill_i, hl_kill_r, hl_kill_n, hl_kill_l, hl_tl_s, hl_tl_n, hl_cal_some, hl_gI, hl_gJ, hl_gsI, hl_gsJ, hl_tv01, if_true, if_false, hl_up_a, hl_row_a]
  · rw [hl_e257 (d := 1000)]; simp only [hl_r257_0, hl_r257_1, hl_r257_4, hl_r257_5, hl_r257_8, hl_r257_11, hl_r257_12, hl_r257_15, hl_r257_16, hl_r257_17, hl_o_85, hl_p_85_3, hl_p_85_4, hl_p_85_5, hl_p_85_6, hl_p_85_19, hl_p_85_23, hl_p_85_24, hl_p_85_25, hl_p_85_26, hl_p_85_27, hl_p_85_28, hl_p_85_29, hl_p_85_30, hl_p_85_31, hl_p_85_33, hl_p_85_34, hl_p_85_35, hl_p_85_36, hl_p_85_37, hl_a_86, hl_z_86, ec, r86 0 (by decide), hl_k0, hl_v0, hl_tl_n, hl_kill_i, hl_kill_r, hl_kill_n, hl_kill_l, hl_tl_s, hl_tl_n, hl_cal_some, hl_gI, hl_gJ, hl_gsI, hl_gsJ, hl_tv01, if_true, if_false, hl_up_a, hl_row_a]
  · refine ⟨?_, ⟨?_, ?_⟩, ⟨?_, ?_, ?_⟩, ?_, ?_, ?_, ?_⟩
    · unfold hl_A9
      rw [r0 0 (by omega) (by omega) (by omega), r0 85 (by omega) (by omega) (by omega), r0 66 (by omega) (by omega) (by omega), r0 38 (by omega) (by omega) (by omega)]
      exact a
    · intro j q k hj
      rw [r1 _ (by have := hl_ri_lt hj; omega) (by have := hl_ri_lt hj; omega), g1 j q k hj, r86 j (hl_ri_j hN hj)]
      exact c.1 j q k hj
    · exact hl_V_congr hN c.2.1 S86
    · exact hl_LE_congr c.1 (fun q hq => r0 _ (by omega) (by omega) (by omega)) (r0 87 (by omega) (by omega) (by omega))
    · rw [S87]; exact c.2.1
    · rw [S87, S86 2 (by omega)]; exact Int.le_refl _
    · unfold hl_Tp
      rw [r0 0 (by omega) (by omega) (by omega), r0 85 (by omega) (by omega) (by omega), r0 37 (by omega) (by omega) (by omega), r0 89 (by omega) (by omega) (by omega)]
      exact t
    · exact hl_Pu_0 (fun q hq => by rw [r 65 (by omega), hl_fz_at hq])
    · intro T cl hT hcl
      rw [r0 (46 + 4 * T) (by omega) (by omega) (by omega), r0 (47 + 4 * T) (by omega) (by omega) (by omega)]
      exact tb T cl hT hcl
    · intro T hT
      rw [S86 2 (by omega)] at hT
      have hV := b.2.2.2.1
      have hc := c.2.2
      exact hl_TXc I I2 T (r0 _ (by omega) (by omega) (by omega)) (r0 _ (by omega) (by omega) (by omega)) (r0 _ (by omega) (by omega) (by omega)) (fun k _ _ => by rw [r0 88 (by omega) (by omega) (by omega)]) (te T (by omega))
end HLCOPY
