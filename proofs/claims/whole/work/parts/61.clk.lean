/-! clock, early -/
/-- the clock of a train at its k-th stop -/
def hl_dd (I : Nat → Nat → Int32) (t i : Nat) : Int32 := I 9 (I 8 (I 16 (12 * t + i)).toNatClampNeg).toNatClampNeg
def hl_ck (I : Nat → Nat → Int32) (t k : Nat) : Int32 := hl_dd I t k - hl_dd I t 0 + hl_sum (k + 1) (fun i => I 17 (12 * t + i))
def hl_Tr (N nh : Nat) (I : Nat → Nat → Int32) (t q : Nat) : Prop := nh ≤ 4 ∧ q ≤ 12 ∧ I 18 t = nI q ∧ I 86 (330 + t) = nI q ∧ ∀ i, i < q → ∃ a p, a < N ∧ p < nh ∧ I 16 (12 * t + i) = nI a ∧ I 8 a = nI p ∧ hl_dd I t i = I 9 p ∧ I 86 (340 + 24 * t + 2 * i) = nI a ∧ I 86 (30 + 7 * a + 6) = nI p ∧ I 86 (10 + p) = I 9 p ∧ I 17 (12 * t + i) = I 86 (340 + 24 * t + 2 * i + 1)
section HLCLK
variable {d N W H : Nat} {I Is I' : Nat → Nat → Int32} {J J' : Nat → Nat → Int64} {nh cn : Nat}
/-- a stop's cell and hour -/
theorem hl_Co.dd (h : hl_Co N W H I) (hN : N ≤ 24) (hs : hl_Sv I 86 0 = (nh : Int)) (h0 : 0 < nh) {t : Nat} (ht : t < 6) : ∃ q, hl_Tr N nh I t q := by
  obtain ⟨q, q1, q2, q3, q4⟩ := h.stp hN ht
  have n4 := h.2.1.2.1.2
  refine ⟨q, by omega, q1, q2, q3, fun i hi => ?_⟩
  obtain ⟨a, a1, a2, a3, a4⟩ := q4 i hi
  obtain ⟨p, p1, p2, p3⟩ := h.part hN hs h0 a1
  refine ⟨a, p, a1, p1, a2, p2, ?_, a3, p3, (h.2.1.1.off (show p < 4 by omega)).symm, a4⟩
  unfold hl_dd
  rw [a2, nIc (by omega), p2, nIc (by omega)]
theorem hl_l94 {t k q : Nat} {x : Int32} (ht : t < 6) (hk : k < q) (hq : q ≤ 12) {c : hl_C} (f : Nat) : ∀ i, i + f = k + 1 → hl_Run 94 c 38 [.ref 15, .int (nI t), .int (nI k), .ref 8, .ref 9, .int (nI (12 * t)), .int (x + hl_sum i (fun i => I 17 (12 * t + i))), .int (nI i)] [] (hl_g N I J) = some (some (.int (x + hl_sum (k + 1) (fun i => I 17 (12 * t + i)))), hl_g N I J) := by
  induction f with
  | zero =>
    intro i hi
    obtain rfl : i = k + 1 := by omega
    have c1 : nI k < nI (k + 1) := nI_lt (by omega) (by omega)
    simp only [hl_r94_0, hl_r94_1, hl_r94_3, hl_r94_4, hl_r94_6, hl_r94_8, hl_r94_9, hl_r94_10, hl_r94_13, hl_r94_15, hl_r94_16, hl_r94_17, hl_r94_18, hl_r94_19, hl_r94_20, hl_r94_22, hl_r94_23, hl_r94_24, hl_r94_27, hl_r94_29, hl_r94_30, hl_r94_31, hl_r94_32, hl_r94_33, hl_r94_35, hl_r94_36, hl_r94_38, hl_r94_40, hl_r94_41, hl_r94_44, hl_r94_46, hl_r94_47, hl_r94_50, hl_r94_52, hl_r94_54, hl_r94_55, hl_r94_56, hl_r94_57, hl_r94_59, hl_r94_62, hl_r94_65, hl_r94_67, c1, hl_kill_i, hl_kill_r, hl_kill_n, hl_kill_l, hl_tl_s, hl_tl_n, hl_cal_some, hl_gI, hl_gJ, hl_gsI, hl_gsJ, hl_tv01, if_true, if_false, hl_up_a, hl_row_a]
  | succ f ih =>
    intro i hi
    have c1 : ¬ nI k < nI i := nI_nlt (by omega) (by omega)
    have e := ih (i + 1) (by omega)
    have b : hl_inb (nI (12 * t + i)) 72 = true := hl_inb_nI (by omega) (by omega)
    have en : nI i + 1 = nI (i + 1) := (nI_succ i).symm
    rw [show hl_sum (i + 1) (fun i => I 17 (12 * t + i)) = hl_sum i (fun i => I 17 (12 * t + i)) + I 17 (12 * t + i) from rfl, ← Int32.add_assoc] at e
    rw [← e, hl_r94_38]
    simp only [hl_r94_0, hl_r94_1, hl_r94_3, hl_r94_4, hl_r94_6, hl_r94_8, hl_r94_9, hl_r94_10, hl_r94_13, hl_r94_15, hl_r94_16, hl_r94_17, hl_r94_18, hl_r94_19, hl_r94_20, hl_r94_22, hl_r94_23, hl_r94_24, hl_r94_27, hl_r94_29, hl_r94_30, hl_r94_31, hl_r94_32, hl_r94_33, hl_r94_35, hl_r94_36, hl_r94_40, hl_r94_41, hl_r94_44, hl_r94_46, hl_r94_47, hl_r94_50, hl_r94_52, hl_r94_54, hl_r94_55, hl_r94_56, hl_r94_57, hl_r94_59, hl_r94_62, hl_r94_65, hl_r94_67, hl_o_15, hl_p_15_0, hl_p_15_1, hl_p_15_2, hl_a_17, hl_z_17, c1, nI_add, b, nIc (show 12 * t + i < 2 ^ 31 by omega), en, hl_kill_i, hl_kill_r, hl_kill_n, hl_kill_l, hl_tl_s, hl_tl_n, hl_cal_some, hl_gI, hl_gJ, hl_gsI, hl_gsJ, hl_tv01, if_true, if_false, hl_up_a, hl_row_a]
theorem hl_s94 {t k q : Nat} (hN : N ≤ 24) (hT : hl_Tr N nh I t q) (ht : t < 6) (hk : k < q) : hl_call (d + 1) 94 [.ref 15, .int (nI t), .int (nI k), .ref 8, .ref 9] (hl_g N I J) = some (some (.int (hl_ck I t k)), hl_g N I J) := by
  obtain ⟨n4, q1, q2, -, q4⟩ := hT
  obtain ⟨a, p, a1, p1, a2, p2, e1, -⟩ := q4 k hk
  obtain ⟨a', p', a1', p1', a2', p2', e1', -⟩ := q4 0 (by omega)
  have l := hl_l94 (N := N) (I := I) (J := J) (x := hl_dd I t k - hl_dd I t 0) (c := hl_call d) ht hk q1 (k + 1) 0 (by omega)
  have e12 : nI t * 12 = nI (12 * t) := by
    have e : (12 : Int32) = nI 12 := rfl
    rw [e, nI_mul, Nat.mul_comm]
  have z0 : hl_sum 0 (fun i => I 17 (12 * t + i)) = 0 := rfl
  have zi : nI 0 = 0 := rfl
  rw [z0, Int32.add_zero, e1, e1', zi] at l
  have bk : hl_inb (nI (12 * t + k)) 72 = true := hl_inb_nI (by omega) (by omega)
  have b0 : hl_inb (nI (12 * t)) 72 = true := hl_inb_nI (by omega) (by omega)
  have ba : hl_inb (nI a) N = true := hl_inb_nI a1 (by omega)
  have ba' : hl_inb (nI a') N = true := hl_inb_nI a1' (by omega)
  have bp : hl_inb (nI p) 4 = true := hl_inb_nI (by omega) (by omega)
  have bp' : hl_inb (nI p') 4 = true := hl_inb_nI (by omega) (by omega)
  have a2'' : I 16 (12 * t) = nI a' := a2'
  unfold hl_ck
  rw [e1, e1', ← l, hl_e94]
  simp only [hl_r94_0, hl_r94_1, hl_r94_3, hl_r94_4, hl_r94_6, hl_r94_8, hl_r94_9, hl_r94_10, hl_r94_13, hl_r94_15, hl_r94_16, hl_r94_17, hl_r94_18, hl_r94_19, hl_r94_20, hl_r94_22, hl_r94_23, hl_r94_24, hl_r94_27, hl_r94_29, hl_r94_30, hl_r94_31, hl_r94_32, hl_r94_33, hl_r94_35, hl_r94_36, hl_o_15, hl_p_15_0, hl_p_15_1, hl_p_15_2, hl_a_16, hl_z_16, hl_a_8, hl_z_8, hl_a_9, hl_z_9, e12, nI_add, bk, b0, ba, ba', bp, bp', a2, a2'', p2, p2', nIc (show 12 * t + k < 2 ^ 31 by omega), nIc (show 12 * t < 2 ^ 31 by omega), nIc (show a < 2 ^ 31 by omega), nIc (show a' < 2 ^ 31 by omega), nIc (show p < 2 ^ 31 by omega), nIc (show p' < 2 ^ 31 by omega), hl_kill_i, hl_kill_r, hl_kill_n, hl_kill_l, hl_tl_s, hl_tl_n, hl_cal_some, hl_gI, hl_gJ, hl_gsI, hl_gsJ, hl_tv01, if_true, if_false, hl_up_a, hl_row_a]
/-- the reference's -/
theorem hl_i340 {t i : Nat} : (340 : Int32) + 24 * nI t + 2 * nI i = nI (340 + 24 * t + 2 * i) := by
  rw [← nI_add, ← nI_add, ← nI_mul, ← nI_mul]
  rfl
theorem hl_nIm2 {n : Nat} : nI (n + 2) - 2 = nI n := by
  rw [Int32.sub_eq_add_neg]
  exact hl_im2
def hl_ca (I : Nat → Nat → Int32) (t i : Nat) : Int32 := match i with
  | 0 => 0
  | i + 1 => hl_ck I t i
theorem hl_l250 {t k q : Nat} (hN : N ≤ 24) (hT : hl_Tr N nh I t q) (ht : t < 6) (hk : k < q) (f : Nat) : ∀ (i : Nat) (l : Value), i + f = k + 1 → hl_Run 250 (hl_call (d + 1)) 5 [.ref 85, .int (nI t), .int (nI k), .int (hl_ca I t i), .int (nI i), l] [] (hl_g N I J) = some (some (.int (hl_ck I t k)), hl_g N I J) := by
  obtain ⟨n4, q1, q2, q3, q4⟩ := hT
  induction f with
  | zero =>
    intro i l hi
    obtain rfl : i = k + 1 := by omega
    have c1 : nI k < nI (k + 1) := nI_lt (by omega) (by omega)
    simp only [hl_r250_0, hl_r250_1, hl_r250_2, hl_r250_3, hl_r250_5, hl_r250_7, hl_r250_8, hl_r250_11, hl_r250_14, hl_r250_16, hl_r250_17, hl_r250_18, hl_r250_19, hl_r250_20, hl_r250_22, hl_r250_23, hl_r250_24, hl_r250_26, hl_r250_27, hl_r250_28, hl_r250_31, hl_r250_33, hl_r250_34, hl_r250_35, hl_r250_36, hl_r250_37, hl_r250_38, hl_r250_40, hl_r250_43, hl_r250_44, hl_r250_45, hl_r250_46, hl_r250_47, hl_r250_50, hl_r250_52, hl_r250_53, hl_r250_55, hl_r250_58, hl_r250_61, hl_r250_62, hl_r250_63, hl_r250_64, hl_r250_67, hl_r250_69, hl_r250_70, hl_r250_71, hl_r250_72, hl_r250_74, hl_r250_77, hl_r250_80, hl_r250_81, hl_r250_82, hl_r250_83, hl_r250_86, hl_r250_89, hl_r250_90, c1, hl_ca, hl_kill_i, hl_kill_r, hl_kill_n, hl_kill_l, hl_tl_s, hl_tl_n, hl_cal_some, hl_gI, hl_gJ, hl_gsI, hl_gsJ, hl_tv01, if_true, if_false, hl_up_a, hl_row_a]
  | succ f ih =>
    intro i l hi
    have c1 : ¬ nI k < nI i := nI_nlt (by omega) (by omega)
    have e := ih (i + 1) (.int (nI (340 + 24 * t + 2 * i))) (by omega)
    obtain ⟨a, p, a1, p1, a2, p2, e1, a3, p3, o3, m3⟩ := q4 i (by omega)
    have en : nI i + 1 = nI (i + 1) := (nI_succ i).symm
    have ex : nI (340 + 24 * t + 2 * i) + 1 = nI (340 + 24 * t + 2 * i + 1) := (nI_succ _).symm
    have s155 := hl_of6 (d := d) (N := N) (I := I) (J := J) (show a < 24 by omega)
    have s156 := hl_s156 (d := d) (N := N) (I := I) (J := J) (show p < 5 by omega)
    rw [p3] at s155
    rw [o3] at s156
    rw [← e, hl_r250_5]
    cases i with
    | zero =>
      have zi : nI 0 = 0 := rfl
      have hx : hl_ca I t (0 + 1) = 0 + I 86 (340 + 24 * t + 2 * 0 + 1) := by
        show hl_dd I t 0 - hl_dd I t 0 + (0 + I 17 (12 * t + 0)) = _
        rw [Int32.sub_self, Int32.zero_add, m3]
      rw [hx]
      have np : nI 0 ≤ 0 := Int32.le_refl 0
      simp only [hl_r250_0, hl_r250_1, hl_r250_2, hl_r250_3, hl_r250_7, hl_r250_8, hl_r250_11, hl_r250_14, hl_r250_16, hl_r250_17, hl_r250_18, hl_r250_19, hl_r250_20, hl_r250_22, hl_r250_23, hl_r250_24, hl_r250_26, hl_r250_27, hl_r250_28, hl_r250_31, hl_r250_33, hl_r250_34, hl_r250_35, hl_r250_36, hl_r250_37, hl_r250_38, hl_r250_40, hl_r250_43, hl_r250_44, hl_r250_45, hl_r250_46, hl_r250_47, hl_r250_50, hl_r250_52, hl_r250_53, hl_r250_55, hl_r250_58, hl_r250_61, hl_r250_62, hl_r250_63, hl_r250_64, hl_r250_67, hl_r250_69, hl_r250_70, hl_r250_71, hl_r250_72, hl_r250_74, hl_r250_77, hl_r250_80, hl_r250_81, hl_r250_82, hl_r250_83, hl_r250_86, hl_r250_89, hl_r250_90, hl_o_85, hl_p_85_3, hl_p_85_4, hl_p_85_5, hl_p_85_6, hl_p_85_19, hl_p_85_23, hl_p_85_24, hl_p_85_25, hl_p_85_26, hl_p_85_27, hl_p_85_28, hl_p_85_29, hl_p_85_30, hl_p_85_31, hl_p_85_33, hl_p_85_34, hl_p_85_35, hl_p_85_36, hl_p_85_37, hl_a_86, hl_z_86, c1, hl_i340, ex, hl_b490 (show 340 + 24 * t + 2 * 0 + 1 < 490 by omega), hl_c490 (show 340 + 24 * t + 2 * 0 + 1 < 490 by omega), np, en, hl_ca, hl_kill_i, hl_kill_r, hl_kill_n, hl_kill_l, hl_tl_s, hl_tl_n, hl_cal_some, hl_gI, hl_gJ, hl_gsI, hl_gsJ, hl_tv01, if_true, if_false, hl_up_a, hl_row_a]
    | succ j =>
      obtain ⟨a', p', a1', p1', a2', p2', e1', a3', p3', o3', m3'⟩ := q4 j (by omega)
      have s155' := hl_of6 (d := d) (N := N) (I := I) (J := J) (show a' < 24 by omega)
      have s156' := hl_s156 (d := d) (N := N) (I := I) (J := J) (show p' < 5 by omega)
      rw [p3'] at s155'
      rw [o3'] at s156'
      have np : ¬ nI (j + 1) ≤ 0 := nI_nle (by omega) (by omega)
      have hx : hl_ca I t (j + 1 + 1) = hl_ck I t j + I 86 (340 + 24 * t + 2 * (j + 1) + 1) + (I 9 p - I 9 p') := by
        show hl_dd I t (j + 1) - hl_dd I t 0 + (hl_sum (j + 1) (fun i => I 17 (12 * t + i)) + I 17 (12 * t + (j + 1))) = hl_dd I t j - hl_dd I t 0 + hl_sum (j + 1) (fun i => I 17 (12 * t + i)) + _ + _
        rw [e1, e1', m3, hl_tel]
      rw [hx]
      have ej : nI (340 + 24 * t + 2 * (j + 1)) - 2 = nI (340 + 24 * t + 2 * j) := hl_nIm2
      simp only [hl_r250_0, hl_r250_1, hl_r250_2, hl_r250_3, hl_r250_7, hl_r250_8, hl_r250_11, hl_r250_14, hl_r250_16, hl_r250_17, hl_r250_18, hl_r250_19, hl_r250_20, hl_r250_22, hl_r250_23, hl_r250_24, hl_r250_26, hl_r250_27, hl_r250_28, hl_r250_31, hl_r250_33, hl_r250_34, hl_r250_35, hl_r250_36, hl_r250_37, hl_r250_38, hl_r250_40, hl_r250_43, hl_r250_44, hl_r250_45, hl_r250_46, hl_r250_47, hl_r250_50, hl_r250_52, hl_r250_53, hl_r250_55, hl_r250_58, hl_r250_61, hl_r250_62, hl_r250_63, hl_r250_64, hl_r250_67, hl_r250_69, hl_r250_70, hl_r250_71, hl_r250_72, hl_r250_74, hl_r250_77, hl_r250_80, hl_r250_81, hl_r250_82, hl_r250_83, hl_r250_86, hl_r250_89, hl_r250_90, hl_o_85, hl_p_85_3, hl_p_85_4, hl_p_85_5, hl_p_85_6, hl_p_85_19, hl_p_85_23, hl_p_85_24, hl_p_85_25, hl_p_85_26, hl_p_85_27, hl_p_85_28, hl_p_85_29, hl_p_85_30, hl_p_85_31, hl_p_85_33, hl_p_85_34, hl_p_85_35, hl_p_85_36, hl_p_85_37, hl_a_86, hl_z_86, c1, hl_i340, ex, ej, hl_b490 (show 340 + 24 * t + 2 * (j + 1) + 1 < 490 by omega), hl_c490 (show 340 + 24 * t + 2 * (j + 1) + 1 < 490 by omega), hl_b490 (show 340 + 24 * t + 2 * (j + 1) < 490 by omega), hl_c490 (show 340 + 24 * t + 2 * (j + 1) < 490 by omega), hl_b490 (show 340 + 24 * t + 2 * j < 490 by omega), hl_c490 (show 340 + 24 * t + 2 * j < 490 by omega), a3, a3', s155, s155', s156, s156', np, en, hl_ca, hl_kill_i, hl_kill_r, hl_kill_n, hl_kill_l, hl_tl_s, hl_tl_n, hl_cal_some, hl_gI, hl_gJ, hl_gsI, hl_gsJ, hl_tv01, if_true, if_false, hl_up_a, hl_row_a]
theorem hl_s250 {t k q : Nat} (hN : N ≤ 24) (hT : hl_Tr N nh I t q) (ht : t < 6) (hk : k < q) : hl_call (d + 2) 250 [.ref 85, .int (nI t), .int (nI k)] (hl_g N I J) = some (some (.int (hl_ck I t k)), hl_g N I J) := by
  have e := hl_l250 (d := d) (J := J) hN hT ht hk (k + 1) 0 .null (by omega)
  rw [hl_e250, hl_r250_0, hl_r250_1, hl_r250_2, hl_r250_3]
  exact e
/-- early -/
def hl_er (I : Nat → Nat → Int32) (t i : Nat) : Bool := decide (hl_ck I t i < hl_ck I t (i - 1))
theorem hl_l95 {t q : Nat} (hN : N ≤ 24) (hT : hl_Tr N nh I t q) (ht : t < 6) (f : Nat) : ∀ (i : Nat) (l : Value), 1 ≤ i → i ≤ 13 → q - i = f → hl_Run 95 (hl_call (d + 1)) 3 [.ref 15, .int (nI t), .ref 8, .ref 9, .int (nI i), l] [] (hl_g N I J) = some (some (.int (hl_fnd (hl_er I t) f i)), hl_g N I J) := by
  have hT' := hT
  obtain ⟨n4, q1, q2, q3, q4⟩ := hT
  have bt : hl_inb (nI t) 6 = true := hl_inb_nI ht (by omega)
  induction f with
  | zero =>
    intro i l h1 h2 hi
    have c1 : nI q ≤ nI i := nI_le (by omega) (by omega)
    simp only [hl_r95_0, hl_r95_1, hl_r95_3, hl_r95_5, hl_r95_6, hl_r95_9, hl_r95_10, hl_r95_11, hl_r95_14, hl_r95_15, hl_r95_16, hl_r95_18, hl_r95_19, hl_r95_20, hl_r95_21, hl_r95_22, hl_r95_25, hl_r95_27, hl_r95_28, hl_r95_29, hl_r95_31, hl_r95_32, hl_r95_33, hl_r95_36, hl_r95_38, hl_r95_41, hl_r95_43, hl_r95_44, hl_r95_47, hl_r95_50, hl_r95_51, hl_o_15, hl_p_15_0, hl_p_15_1, hl_p_15_2, hl_a_18, hl_z_18, bt, nIc (show t < 2 ^ 31 by omega), q2, c1, hl_fnd, hl_kill_i, hl_kill_r, hl_kill_n, hl_kill_l, hl_tl_s, hl_tl_n, hl_cal_some, hl_gI, hl_gJ, hl_gsI, hl_gsJ, hl_tv01, if_true, if_false, hl_up_a, hl_row_a]
  | succ f ih =>
    intro i l h1 h2 hi
    have c1 : ¬ nI q ≤ nI i := nI_ge (by omega) (by omega)
    obtain ⟨j, rfl⟩ : ∃ j, i = j + 1 := ⟨i - 1, by omega⟩
    have ep : nI (j + 1) - 1 = nI j := nI_pred j
    have en : nI (j + 1) + 1 = nI (j + 1 + 1) := (nI_succ _).symm
    have s1 := hl_s94 (d := d) (J := J) hN hT' ht (show j < q by omega)
    have s2 := hl_s94 (d := d) (J := J) hN hT' ht (show j + 1 < q by omega)
    have e := ih (j + 1 + 1) (.int (hl_ck I t j)) (by omega) (by omega) (by omega)
    unfold hl_fnd hl_er
    rw [show j + 1 - 1 = j from rfl]
    rw [hl_r95_3]
    by_cases hlt : hl_ck I t (j + 1) < hl_ck I t j
    · rw [decide_eq_true hlt]
      simp only [hl_r95_0, hl_r95_1, hl_r95_5, hl_r95_6, hl_r95_9, hl_r95_10, hl_r95_11, hl_r95_14, hl_r95_15, hl_r95_16, hl_r95_18, hl_r95_19, hl_r95_20, hl_r95_21, hl_r95_22, hl_r95_25, hl_r95_27, hl_r95_28, hl_r95_29, hl_r95_31, hl_r95_32, hl_r95_33, hl_r95_36, hl_r95_38, hl_r95_41, hl_r95_43, hl_r95_44, hl_r95_47, hl_r95_50, hl_r95_51, hl_o_15, hl_p_15_0, hl_p_15_1, hl_p_15_2, hl_a_18, hl_z_18, bt, nIc (show t < 2 ^ 31 by omega), q2, c1, ep, s1, s2, Int32.not_le.mpr hlt, hl_kill_i, hl_kill_r, hl_kill_n, hl_kill_l, hl_tl_s, hl_tl_n, hl_cal_some, hl_gI, hl_gJ, hl_gsI, hl_gsJ, hl_tv01, if_true, if_false, hl_up_a, hl_row_a]
    · rw [decide_eq_false hlt, if_neg (by decide)]
      rw [show (fun i => decide (hl_ck I t i < hl_ck I t (i - 1))) = hl_er I t from rfl, ← e]
      simp only [hl_r95_0, hl_r95_1, hl_r95_5, hl_r95_6, hl_r95_9, hl_r95_10, hl_r95_11, hl_r95_14, hl_r95_15, hl_r95_16, hl_r95_18, hl_r95_19, hl_r95_20, hl_r95_21, hl_r95_22, hl_r95_25, hl_r95_27, hl_r95_28, hl_r95_29, hl_r95_31, hl_r95_32, hl_r95_33, hl_r95_36, hl_r95_38, hl_r95_41, hl_r95_43, hl_r95_44, hl_r95_47, hl_r95_50, hl_r95_51, hl_o_15, hl_p_15_0, hl_p_15_1, hl_p_15_2, hl_a_18, hl_z_18, bt, nIc (show t < 2 ^ 31 by omega), q2, c1, ep, s1, s2, Int32.not_lt.mp hlt, en, hl_kill_i, hl_kill_r, hl_kill_n, hl_kill_l, hl_tl_s, hl_tl_n, hl_cal_some, hl_gI, hl_gJ, hl_gsI, hl_gsJ, hl_tv01, if_true, if_false, hl_up_a, hl_row_a]
theorem hl_l252 {t q : Nat} (hN : N ≤ 24) (hT : hl_Tr N nh I t q) (ht : t < 6) (f : Nat) : ∀ (i : Nat), 1 ≤ i → i ≤ 13 → q - i = f → hl_Run 252 (hl_call (d + 2)) 20 [.ref 85, .int (nI t), .int (nI i)] [] (hl_g N I J) = some (some (.int (hl_fnd (hl_er I t) f i)), hl_g N I J) := by
  have hT' := hT
  obtain ⟨n4, q1, q2, q3, q4⟩ := hT
  have e330 : (330 : Int32) + nI t = nI (330 + t) := nI_add 330 t
  induction f with
  | zero =>
    intro i h1 h2 hi
    have c1 : nI q ≤ nI i := nI_le (by omega) (by omega)
    simp only [hl_r252_0, hl_r252_1, hl_r252_4, hl_r252_5, hl_r252_6, hl_r252_9, hl_r252_10, hl_r252_13, hl_r252_16, hl_r252_17, hl_r252_18, hl_r252_19, hl_r252_20, hl_r252_21, hl_r252_22, hl_r252_25, hl_r252_28, hl_r252_29, hl_r252_30, hl_r252_31, hl_r252_34, hl_r252_35, hl_r252_36, hl_r252_37, hl_r252_40, hl_r252_41, hl_r252_42, hl_r252_43, hl_r252_44, hl_r252_45, hl_r252_48, hl_r252_51, hl_r252_52, hl_r252_53, hl_r252_56, hl_r252_59, hl_r252_60, hl_o_85, hl_p_85_3, hl_p_85_4, hl_p_85_5, hl_p_85_6, hl_p_85_19, hl_p_85_23, hl_p_85_24, hl_p_85_25, hl_p_85_26, hl_p_85_27, hl_p_85_28, hl_p_85_29, hl_p_85_30, hl_p_85_31, hl_p_85_33, hl_p_85_34, hl_p_85_35, hl_p_85_36, hl_p_85_37, hl_a_86, hl_z_86, e330, hl_b490 (show 330 + t < 490 by omega), hl_c490 (show 330 + t < 490 by omega), q3, c1, hl_fnd, hl_kill_i, hl_kill_r, hl_kill_n, hl_kill_l, hl_tl_s, hl_tl_n, hl_cal_some, hl_gI, hl_gJ, hl_gsI, hl_gsJ, hl_tv01, if_true, if_false, hl_up_a, hl_row_a]
  | succ f ih =>
    intro i h1 h2 hi
    have c1 : ¬ nI q ≤ nI i := nI_ge (by omega) (by omega)
    obtain ⟨j, rfl⟩ : ∃ j, i = j + 1 := ⟨i - 1, by omega⟩
    have ep : nI (j + 1) - 1 = nI j := nI_pred j
    have en : nI (j + 1) + 1 = nI (j + 1 + 1) := (nI_succ _).symm
    have s1 := hl_s250 (d := d) (J := J) hN hT' ht (show j < q by omega)
    have s2 := hl_s250 (d := d) (J := J) hN hT' ht (show j + 1 < q by omega)
    have e := ih (j + 1 + 1) (by omega) (by omega) (by omega)
    unfold hl_fnd hl_er
    rw [show j + 1 - 1 = j from rfl]
    rw [hl_r252_20]
    by_cases hlt : hl_ck I t (j + 1) < hl_ck I t j
    · rw [decide_eq_true hlt]
      simp only [hl_r252_0, hl_r252_1, hl_r252_4, hl_r252_5, hl_r252_6, hl_r252_9, hl_r252_10, hl_r252_13, hl_r252_16, hl_r252_17, hl_r252_18, hl_r252_19, hl_r252_21, hl_r252_22, hl_r252_25, hl_r252_28, hl_r252_29, hl_r252_30, hl_r252_31, hl_r252_34, hl_r252_35, hl_r252_36, hl_r252_37, hl_r252_40, hl_r252_41, hl_r252_42, hl_r252_43, hl_r252_44, hl_r252_45, hl_r252_48, hl_r252_51, hl_r252_52, hl_r252_53, hl_r252_56, hl_r252_59, hl_r252_60, hl_o_85, hl_p_85_3, hl_p_85_4, hl_p_85_5, hl_p_85_6, hl_p_85_19, hl_p_85_23, hl_p_85_24, hl_p_85_25, hl_p_85_26, hl_p_85_27, hl_p_85_28, hl_p_85_29, hl_p_85_30, hl_p_85_31, hl_p_85_33, hl_p_85_34, hl_p_85_35, hl_p_85_36, hl_p_85_37, hl_a_86, hl_z_86, e330, hl_b490 (show 330 + t < 490 by omega), hl_c490 (show 330 + t < 490 by omega), q3, c1, ep, s1, s2, Int32.not_le.mpr hlt, hl_kill_i, hl_kill_r, hl_kill_n, hl_kill_l, hl_tl_s, hl_tl_n, hl_cal_some, hl_gI, hl_gJ, hl_gsI, hl_gsJ, hl_tv01, if_true, if_false, hl_up_a, hl_row_a]
    · rw [decide_eq_false hlt, if_neg (by decide)]
      rw [show (fun i => decide (hl_ck I t i < hl_ck I t (i - 1))) = hl_er I t from rfl, ← e]
      simp only [hl_r252_0, hl_r252_1, hl_r252_4, hl_r252_5, hl_r252_6, hl_r252_9, hl_r252_10, hl_r252_13, hl_r252_16, hl_r252_17, hl_r252_18, hl_r252_19, hl_r252_21, hl_r252_22, hl_r252_25, hl_r252_28, hl_r252_29, hl_r252_30, hl_r252_31, hl_r252_34, hl_r252_35, hl_r252_36, hl_r252_37, hl_r252_40, hl_r252_41, hl_r252_42, hl_r252_43, hl_r252_44, hl_r252_45, hl_r252_48, hl_r252_51, hl_r252_52, hl_r252_53, hl_r252_56, hl_r252_59, hl_r252_60, hl_o_85, hl_p_85_3, hl_p_85_4, hl_p_85_5, hl_p_85_6, hl_p_85_19, hl_p_85_23, hl_p_85_24, hl_p_85_25, hl_p_85_26, hl_p_85_27, hl_p_85_28, hl_p_85_29, hl_p_85_30, hl_p_85_31, hl_p_85_33, hl_p_85_34, hl_p_85_35, hl_p_85_36, hl_p_85_37, hl_a_86, hl_z_86, e330, hl_b490 (show 330 + t < 490 by omega), hl_c490 (show 330 + t < 490 by omega), q3, c1, ep, s1, s2, Int32.not_lt.mp hlt, en, hl_kill_i, hl_kill_r, hl_kill_n, hl_kill_l, hl_tl_s, hl_tl_n, hl_cal_some, hl_gI, hl_gJ, hl_gsI, hl_gsJ, hl_tv01, if_true, if_false, hl_up_a, hl_row_a]
theorem hl_pr25 (hN : N ≤ 24) (f : Nat → Int32) : hl_PQ hl_TX N W H 130 251 (hl_args 25 f) := by
  refine hl_PQ_same fun I J hI => ?_
  obtain ⟨nh, h4, hc1, hm1, hs1⟩ := hI.nh
  show ∃ v, hl_call 1001 130 [.ref 0, .int (f 1), .int (f 2)] (hl_g N I J) = some (some (.int v), hl_g N I J) ∧ hl_call 1001 251 [.ref 85, .int (f 1), .int (f 2)] (hl_g N I J) = some (some (.int v), hl_g N I J)
  cases nh with
  | zero =>
    have z : nI 0 = 0 := rfl
    rw [z] at hc1 hm1
    refine ⟨-100000, ?_, ?_⟩
    · rw [hl_e130 (d := 1000)]; simp only [hl_r130_0, hl_r130_1, hl_r130_4, hl_r130_7, hl_r130_10, hl_r130_11, hl_r130_12, hl_r130_13, hl_r130_16, hl_r130_19, hl_r130_20, hl_r130_21, hl_r130_22, hl_r130_25, hl_r130_28, hl_r130_31, hl_r130_32, hl_r130_33, hl_r130_34, hl_r130_35, hl_r130_38, hl_r130_41, hl_r130_43, hl_r130_44, hl_r130_45, hl_r130_48, hl_r130_51, hl_r130_52, hl_r130_53, hl_r130_54, hl_r130_57, hl_r130_60, hl_r130_61, hl_r130_64, hl_r130_67, hl_r130_70, hl_o_0, hl_p_0_3, hl_p_0_4, hl_p_0_5, hl_p_0_7, hl_p_0_8, hl_p_0_9, hl_p_0_10, hl_p_0_11, hl_p_0_12, hl_p_0_13, hl_p_0_14, hl_p_0_15, hl_o_1, hl_p_1_0, hl_p_1_1, hl_p_1_2, hl_p_1_3, hl_p_1_4, hl_p_1_5, hl_p_1_6, hl_p_1_7, hl_p_1_9, hl_p_1_14, hl_p_1_15, hc1, not_true, hl_kill_i, hl_kill_r, hl_kill_n, hl_kill_l, hl_tl_s, hl_tl_n, hl_cal_some, hl_gI, hl_gJ, hl_gsI, hl_gsJ, hl_tv01, if_true, if_false, hl_up_a, hl_row_a]
    · rw [hl_e251 (d := 1000)]; simp only [hl_r251_0, hl_r251_1, hl_r251_4, hl_r251_5, hl_r251_6, hl_r251_9, hl_r251_10, hl_r251_13, hl_r251_16, hl_r251_17, hl_r251_18, hl_r251_19, hl_r251_22, hl_r251_25, hl_r251_26, hl_r251_27, hl_r251_28, hl_r251_29, hl_r251_30, hl_r251_33, hl_r251_36, hl_r251_37, hl_r251_38, hl_r251_39, hl_r251_42, hl_r251_45, hl_r251_48, hl_o_85, hl_p_85_3, hl_p_85_4, hl_p_85_5, hl_p_85_6, hl_p_85_19, hl_p_85_23, hl_p_85_24, hl_p_85_25, hl_p_85_26, hl_p_85_27, hl_p_85_28, hl_p_85_29, hl_p_85_30, hl_p_85_31, hl_p_85_33, hl_p_85_34, hl_p_85_35, hl_p_85_36, hl_p_85_37, hl_a_86, hl_z_86, hl_k0, hl_v0, hm1, Int32.le_refl, hl_kill_i, hl_kill_r, hl_kill_n, hl_kill_l, hl_tl_s, hl_tl_n, hl_cal_some, hl_gI, hl_gJ, hl_gsI, hl_gsJ, hl_tv01, if_true, if_false, hl_up_a, hl_row_a]
  | succ nh =>
    have n0 : ¬ nI (nh + 1) = 0 := nI_n0 (by omega)
    have np : ¬ nI (nh + 1) ≤ 0 := nI_nle (by omega) (by omega)
    cases g1 : hl_inb (f 1) 6 with
    | false =>
      refine ⟨-100000, ?_, ?_⟩
      · rw [hl_e130 (d := 1000)]; simp only [hl_r130_0, hl_r130_1, hl_r130_4, hl_r130_7, hl_r130_10, hl_r130_11, hl_r130_12, hl_r130_13, hl_r130_16, hl_r130_19, hl_r130_20, hl_r130_21, hl_r130_22, hl_r130_25, hl_r130_28, hl_r130_31, hl_r130_32, hl_r130_33, hl_r130_34, hl_r130_35, hl_r130_38, hl_r130_41, hl_r130_43, hl_r130_44, hl_r130_45, hl_r130_48, hl_r130_51, hl_r130_52, hl_r130_53, hl_r130_54, hl_r130_57, hl_r130_60, hl_r130_61, hl_r130_64, hl_r130_67, hl_r130_70, hl_o_0, hl_p_0_3, hl_p_0_4, hl_p_0_5, hl_p_0_7, hl_p_0_8, hl_p_0_9, hl_p_0_10, hl_p_0_11, hl_p_0_12, hl_p_0_13, hl_p_0_14, hl_p_0_15, hl_o_1, hl_p_1_0, hl_p_1_1, hl_p_1_2, hl_p_1_3, hl_p_1_4, hl_p_1_5, hl_p_1_6, hl_p_1_7, hl_p_1_9, hl_p_1_14, hl_p_1_15, hc1, n0, not_false_eq_true, hl_s147, hl_in5, g1, hl_tv_f, hl_kill_i, hl_kill_r, hl_kill_n, hl_kill_l, hl_tl_s, hl_tl_n, hl_cal_some, hl_gI, hl_gJ, hl_gsI, hl_gsJ, hl_tv01, if_true, if_false, hl_up_a, hl_row_a]
      · rw [hl_e251 (d := 1000)]; simp only [hl_r251_0, hl_r251_1, hl_r251_4, hl_r251_5, hl_r251_6, hl_r251_9, hl_r251_10, hl_r251_13, hl_r251_16, hl_r251_17, hl_r251_18, hl_r251_19, hl_r251_22, hl_r251_25, hl_r251_26, hl_r251_27, hl_r251_28, hl_r251_29, hl_r251_30, hl_r251_33, hl_r251_36, hl_r251_37, hl_r251_38, hl_r251_39, hl_r251_42, hl_r251_45, hl_r251_48, hl_o_85, hl_p_85_3, hl_p_85_4, hl_p_85_5, hl_p_85_6, hl_p_85_19, hl_p_85_23, hl_p_85_24, hl_p_85_25, hl_p_85_26, hl_p_85_27, hl_p_85_28, hl_p_85_29, hl_p_85_30, hl_p_85_31, hl_p_85_33, hl_p_85_34, hl_p_85_35, hl_p_85_36, hl_p_85_37, hl_a_86, hl_z_86, hl_k0, hl_v0, hm1, np, hl_s248, g1, hl_tv_f, hl_kill_i, hl_kill_r, hl_kill_n, hl_kill_l, hl_tl_s, hl_tl_n, hl_cal_some, hl_gI, hl_gJ, hl_gsI, hl_gsJ, hl_tv01, if_true, if_false, hl_up_a, hl_row_a]
    | true =>
      obtain ⟨t, ht, et⟩ := hl_inb_of g1 (by omega)
      rw [et] at g1 ⊢
      obtain ⟨q, hT⟩ := hI.co.dd hN hs1 (by omega) ht
      have hT' := hT
      obtain ⟨n4, q1, q2, q3, q4⟩ := hT
      have bt : hl_inb (nI t) 6 = true := hl_inb_nI ht (by omega)
      have e330 : (330 : Int32) + nI t = nI (330 + t) := nI_add 330 t
      have eq : hl_in (f 2) 0 (nI q - 1) = hl_inb (f 2) q := hl_in_inb (by omega)
      cases g2 : hl_inb (f 2) q with
      | false =>
        refine ⟨-100000, ?_, ?_⟩
        · rw [hl_e130 (d := 1000)]; simp only [hl_r130_0, hl_r130_1, hl_r130_4, hl_r130_7, hl_r130_10, hl_r130_11, hl_r130_12, hl_r130_13, hl_r130_16, hl_r130_19, hl_r130_20, hl_r130_21, hl_r130_22, hl_r130_25, hl_r130_28, hl_r130_31, hl_r130_32, hl_r130_33, hl_r130_34, hl_r130_35, hl_r130_38, hl_r130_41, hl_r130_43, hl_r130_44, hl_r130_45, hl_r130_48, hl_r130_51, hl_r130_52, hl_r130_53, hl_r130_54, hl_r130_57, hl_r130_60, hl_r130_61, hl_r130_64, hl_r130_67, hl_r130_70, hl_o_0, hl_p_0_3, hl_p_0_4, hl_p_0_5, hl_p_0_7, hl_p_0_8, hl_p_0_9, hl_p_0_10, hl_p_0_11, hl_p_0_12, hl_p_0_13, hl_p_0_14, hl_p_0_15, hl_o_1, hl_p_1_0, hl_p_1_1, hl_p_1_2, hl_p_1_3, hl_p_1_4, hl_p_1_5, hl_p_1_6, hl_p_1_7, hl_p_1_9, hl_p_1_14, hl_p_1_15, hl_o_15, hl_p_15_0, hl_p_15_1, hl_p_15_2, hl_a_18, hl_z_18, hc1, n0, not_false_eq_true, not_true, hl_s147, hl_in5, g1, g2, eq, bt, nIc (show t < 2 ^ 31 by omega), q2, hl_tv_f, hl_tv_t, hl_10, hl_kill_i, hl_kill_r, hl_kill_n, hl_kill_l, hl_tl_s, hl_tl_n, hl_cal_some, hl_gI, hl_gJ, hl_gsI, hl_gsJ, hl_tv01, if_true, if_false, hl_up_a, hl_row_a]
        · rw [hl_e251 (d := 1000)]; simp only [hl_r251_0, hl_r251_1, hl_r251_4, hl_r251_5, hl_r251_6, hl_r251_9, hl_r251_10, hl_r251_13, hl_r251_16, hl_r251_17, hl_r251_18, hl_r251_19, hl_r251_22, hl_r251_25, hl_r251_26, hl_r251_27, hl_r251_28, hl_r251_29, hl_r251_30, hl_r251_33, hl_r251_36, hl_r251_37, hl_r251_38, hl_r251_39, hl_r251_42, hl_r251_45, hl_r251_48, hl_o_85, hl_p_85_3, hl_p_85_4, hl_p_85_5, hl_p_85_6, hl_p_85_19, hl_p_85_23, hl_p_85_24, hl_p_85_25, hl_p_85_26, hl_p_85_27, hl_p_85_28, hl_p_85_29, hl_p_85_30, hl_p_85_31, hl_p_85_33, hl_p_85_34, hl_p_85_35, hl_p_85_36, hl_p_85_37, hl_a_86, hl_z_86, hl_k0, hl_v0, hm1, np, hl_s248, hl_s151, g1, g2, eq, e330, hl_b490 (show 330 + t < 490 by omega), hl_c490 (show 330 + t < 490 by omega), q3, hl_tv_f, hl_tv_t, hl_10, hl_kill_i, hl_kill_r, hl_kill_n, hl_kill_l, hl_tl_s, hl_tl_n, hl_cal_some, hl_gI, hl_gJ, hl_gsI, hl_gsJ, hl_tv01, if_true, if_false, hl_up_a, hl_row_a]
      | true =>
        obtain ⟨k, hk, ek⟩ := hl_inb_of g2 (by omega)
        rw [ek] at g2 eq ⊢
        refine ⟨hl_ck I t k, ?_, ?_⟩
        · rw [hl_e130 (d := 1000)]; simp only [hl_r130_0, hl_r130_1, hl_r130_4, hl_r130_7, hl_r130_10, hl_r130_11, hl_r130_12, hl_r130_13, hl_r130_16, hl_r130_19, hl_r130_20, hl_r130_21, hl_r130_22, hl_r130_25, hl_r130_28, hl_r130_31, hl_r130_32, hl_r130_33, hl_r130_34, hl_r130_35, hl_r130_38, hl_r130_41, hl_r130_43, hl_r130_44, hl_r130_45, hl_r130_48, hl_r130_51, hl_r130_52, hl_r130_53, hl_r130_54, hl_r130_57, hl_r130_60, hl_r130_61, hl_r130_64, hl_r130_67, hl_r130_70, hl_o_0, hl_p_0_3, hl_p_0_4, hl_p_0_5, hl_p_0_7, hl_p_0_8, hl_p_0_9, hl_p_0_10, hl_p_0_11, hl_p_0_12, hl_p_0_13, hl_p_0_14, hl_p_0_15, hl_o_1, hl_p_1_0, hl_p_1_1, hl_p_1_2, hl_p_1_3, hl_p_1_4, hl_p_1_5, hl_p_1_6, hl_p_1_7, hl_p_1_9, hl_p_1_14, hl_p_1_15, hl_o_15, hl_p_15_0, hl_p_15_1, hl_p_15_2, hl_a_18, hl_z_18, hc1, n0, not_false_eq_true, not_true, hl_s147, hl_in5, g1, g2, eq, bt, nIc (show t < 2 ^ 31 by omega), q2, hl_tv_f, hl_tv_t, hl_10, hl_s94 (d := 999) (J := J) hN hT' ht hk, hl_kill_i, hl_kill_r, hl_kill_n, hl_kill_l, hl_tl_s, hl_tl_n, hl_cal_some, hl_gI, hl_gJ, hl_gsI, hl_gsJ, hl_tv01, if_true, if_false, hl_up_a, hl_row_a]
        · rw [hl_e251 (d := 1000)]; simp only [hl_r251_0, hl_r251_1, hl_r251_4, hl_r251_5, hl_r251_6, hl_r251_9, hl_r251_10, hl_r251_13, hl_r251_16, hl_r251_17, hl_r251_18, hl_r251_19, hl_r251_22, hl_r251_25, hl_r251_26, hl_r251_27, hl_r251_28, hl_r251_29, hl_r251_30, hl_r251_33, hl_r251_36, hl_r251_37, hl_r251_38, hl_r251_39, hl_r251_42, hl_r251_45, hl_r251_48, hl_o_85, hl_p_85_3, hl_p_85_4, hl_p_85_5, hl_p_85_6, hl_p_85_19, hl_p_85_23, hl_p_85_24, hl_p_85_25, hl_p_85_26, hl_p_85_27, hl_p_85_28, hl_p_85_29, hl_p_85_30, hl_p_85_31, hl_p_85_33, hl_p_85_34, hl_p_85_35, hl_p_85_36, hl_p_85_37, hl_a_86, hl_z_86, hl_k0, hl_v0, hm1, np, hl_s248, hl_s151, g1, g2, eq, e330, hl_b490 (show 330 + t < 490 by omega), hl_c490 (show 330 + t < 490 by omega), q3, hl_tv_f, hl_tv_t, hl_10, hl_s250 (d := 998) (J := J) hN hT' ht hk, hl_kill_i, hl_kill_r, hl_kill_n, hl_kill_l, hl_tl_s, hl_tl_n, hl_cal_some, hl_gI, hl_gJ, hl_gsI, hl_gsJ, hl_tv01, if_true, if_false, hl_up_a, hl_row_a]
theorem hl_pr26 (hN : N ≤ 24) (f : Nat → Int32) : hl_PQ hl_TX N W H 131 252 (hl_args 26 f) := by
  refine hl_PQ_same fun I J hI => ?_
  obtain ⟨nh, h4, hc1, hm1, hs1⟩ := hI.nh
  show ∃ v, hl_call 1001 131 [.ref 0, .int (f 1)] (hl_g N I J) = some (some (.int v), hl_g N I J) ∧ hl_call 1001 252 [.ref 85, .int (f 1)] (hl_g N I J) = some (some (.int v), hl_g N I J)
  cases nh with
  | zero =>
    have z : nI 0 = 0 := rfl
    rw [z] at hc1 hm1
    refine ⟨-1, ?_, ?_⟩
    · rw [hl_e131 (d := 1000)]; simp only [hl_r131_0, hl_r131_1, hl_r131_4, hl_r131_7, hl_r131_10, hl_r131_11, hl_r131_12, hl_r131_13, hl_r131_16, hl_r131_19, hl_r131_20, hl_r131_21, hl_r131_22, hl_r131_25, hl_r131_28, hl_r131_29, hl_r131_30, hl_r131_33, hl_r131_36, hl_r131_37, hl_r131_40, hl_r131_43, hl_r131_46, hl_o_0, hl_p_0_3, hl_p_0_4, hl_p_0_5, hl_p_0_7, hl_p_0_8, hl_p_0_9, hl_p_0_10, hl_p_0_11, hl_p_0_12, hl_p_0_13, hl_p_0_14, hl_p_0_15, hl_o_1, hl_p_1_0, hl_p_1_1, hl_p_1_2, hl_p_1_3, hl_p_1_4, hl_p_1_5, hl_p_1_6, hl_p_1_7, hl_p_1_9, hl_p_1_14, hl_p_1_15, hc1, not_true, hl_kill_i, hl_kill_r, hl_kill_n, hl_kill_l, hl_tl_s, hl_tl_n, hl_cal_some, hl_gI, hl_gJ, hl_gsI, hl_gsJ, hl_tv01, if_true, if_false, hl_up_a, hl_row_a]
    · rw [hl_e252 (d := 1000)]; simp only [hl_r252_0, hl_r252_1, hl_r252_4, hl_r252_5, hl_r252_6, hl_r252_9, hl_r252_10, hl_r252_13, hl_r252_16, hl_r252_17, hl_r252_18, hl_r252_19, hl_r252_20, hl_r252_21, hl_r252_22, hl_r252_25, hl_r252_28, hl_r252_29, hl_r252_30, hl_r252_31, hl_r252_34, hl_r252_35, hl_r252_36, hl_r252_37, hl_r252_40, hl_r252_41, hl_r252_42, hl_r252_43, hl_r252_44, hl_r252_45, hl_r252_48, hl_r252_51, hl_r252_52, hl_r252_53, hl_r252_56, hl_r252_59, hl_r252_60, hl_o_85, hl_p_85_3, hl_p_85_4, hl_p_85_5, hl_p_85_6, hl_p_85_19, hl_p_85_23, hl_p_85_24, hl_p_85_25, hl_p_85_26, hl_p_85_27, hl_p_85_28, hl_p_85_29, hl_p_85_30, hl_p_85_31, hl_p_85_33, hl_p_85_34, hl_p_85_35, hl_p_85_36, hl_p_85_37, hl_a_86, hl_z_86, hl_k0, hl_v0, hm1, hl_kill_i, hl_kill_r, hl_kill_n, hl_kill_l, hl_tl_s, hl_tl_n, hl_cal_some, hl_gI, hl_gJ, hl_gsI, hl_gsJ, hl_tv01, if_true, if_false, hl_up_a, hl_row_a]
  | succ nh =>
    have n0 : ¬ nI (nh + 1) = 0 := nI_n0 (by omega)
    cases g1 : hl_inb (f 1) 6 with
    | false =>
      refine ⟨-1, ?_, ?_⟩
      · rw [hl_e131 (d := 1000)]; simp only [hl_r131_0, hl_r131_1, hl_r131_4, hl_r131_7, hl_r131_10, hl_r131_11, hl_r131_12, hl_r131_13, hl_r131_16, hl_r131_19, hl_r131_20, hl_r131_21, hl_r131_22, hl_r131_25, hl_r131_28, hl_r131_29, hl_r131_30, hl_r131_33, hl_r131_36, hl_r131_37, hl_r131_40, hl_r131_43, hl_r131_46, hl_o_0, hl_p_0_3, hl_p_0_4, hl_p_0_5, hl_p_0_7, hl_p_0_8, hl_p_0_9, hl_p_0_10, hl_p_0_11, hl_p_0_12, hl_p_0_13, hl_p_0_14, hl_p_0_15, hl_o_1, hl_p_1_0, hl_p_1_1, hl_p_1_2, hl_p_1_3, hl_p_1_4, hl_p_1_5, hl_p_1_6, hl_p_1_7, hl_p_1_9, hl_p_1_14, hl_p_1_15, hc1, n0, not_false_eq_true, not_true, hl_s147, hl_in5, g1, hl_tv_f, hl_kill_i, hl_kill_r, hl_kill_n, hl_kill_l, hl_tl_s, hl_tl_n, hl_cal_some, hl_gI, hl_gJ, hl_gsI, hl_gsJ, hl_tv01, if_true, if_false, hl_up_a, hl_row_a]
      · rw [hl_e252 (d := 1000)]; simp only [hl_r252_0, hl_r252_1, hl_r252_4, hl_r252_5, hl_r252_6, hl_r252_9, hl_r252_10, hl_r252_13, hl_r252_16, hl_r252_17, hl_r252_18, hl_r252_19, hl_r252_20, hl_r252_21, hl_r252_22, hl_r252_25, hl_r252_28, hl_r252_29, hl_r252_30, hl_r252_31, hl_r252_34, hl_r252_35, hl_r252_36, hl_r252_37, hl_r252_40, hl_r252_41, hl_r252_42, hl_r252_43, hl_r252_44, hl_r252_45, hl_r252_48, hl_r252_51, hl_r252_52, hl_r252_53, hl_r252_56, hl_r252_59, hl_r252_60, hl_o_85, hl_p_85_3, hl_p_85_4, hl_p_85_5, hl_p_85_6, hl_p_85_19, hl_p_85_23, hl_p_85_24, hl_p_85_25, hl_p_85_26, hl_p_85_27, hl_p_85_28, hl_p_85_29, hl_p_85_30, hl_p_85_31, hl_p_85_33, hl_p_85_34, hl_p_85_35, hl_p_85_36, hl_p_85_37, hl_a_86, hl_z_86, hl_k0, hl_v0, hm1, n0, not_true, hl_s248, g1, hl_tv_f, hl_kill_i, hl_kill_r, hl_kill_n, hl_kill_l, hl_tl_s, hl_tl_n, hl_cal_some, hl_gI, hl_gJ, hl_gsI, hl_gsJ, hl_tv01, if_true, if_false, hl_up_a, hl_row_a]
    | true =>
      obtain ⟨t, ht, et⟩ := hl_inb_of g1 (by omega)
      rw [et] at g1 ⊢
      obtain ⟨q, hT⟩ := hI.co.dd hN hs1 (by omega) ht
      have l1 := hl_l95 (d := 998) (J := J) hN hT ht (q - 1) 1 .null (by omega) (by omega) rfl
      have l2 := hl_l252 (d := 998) (J := J) hN hT ht (q - 1) 1 (by omega) (by omega) rfl
      have z1 : nI 1 = 1 := rfl
      rw [z1] at l1 l2
      have s95 : hl_call 1000 95 [.ref 15, .int (nI t), .ref 8, .ref 9] (hl_g N I J) = some (some (.int (hl_fnd (hl_er I t) (q - 1) 1)), hl_g N I J) := by
        rw [hl_e95 (d := 999), hl_r95_0, hl_r95_1]
        exact l1
      refine ⟨hl_fnd (hl_er I t) (q - 1) 1, ?_, ?_⟩
      · rw [hl_e131 (d := 1000)]; simp only [hl_r131_0, hl_r131_1, hl_r131_4, hl_r131_7, hl_r131_10, hl_r131_11, hl_r131_12, hl_r131_13, hl_r131_16, hl_r131_19, hl_r131_20, hl_r131_21, hl_r131_22, hl_r131_25, hl_r131_28, hl_r131_29, hl_r131_30, hl_r131_33, hl_r131_36, hl_r131_37, hl_r131_40, hl_r131_43, hl_r131_46, hl_o_0, hl_p_0_3, hl_p_0_4, hl_p_0_5, hl_p_0_7, hl_p_0_8, hl_p_0_9, hl_p_0_10, hl_p_0_11, hl_p_0_12, hl_p_0_13, hl_p_0_14, hl_p_0_15, hl_o_1, hl_p_1_0, hl_p_1_1, hl_p_1_2, hl_p_1_3, hl_p_1_4, hl_p_1_5, hl_p_1_6, hl_p_1_7, hl_p_1_9, hl_p_1_14, hl_p_1_15, hl_o_15, hl_p_15_0, hl_p_15_1, hl_p_15_2, hc1, n0, not_false_eq_true, not_true, hl_s147, hl_in5, g1, hl_tv_t, hl_10, s95, hl_kill_i, hl_kill_r, hl_kill_n, hl_kill_l, hl_tl_s, hl_tl_n, hl_cal_some, hl_gI, hl_gJ, hl_gsI, hl_gsJ, hl_tv01, if_true, if_false, hl_up_a, hl_row_a]
      · rw [hl_e252 (d := 1000)]; simp only [hl_r252_0, hl_r252_1, hl_r252_4, hl_r252_5, hl_r252_6, hl_r252_9, hl_r252_10, hl_r252_13, hl_r252_18, hl_r252_19, hl_o_85, hl_p_85_3, hl_p_85_4, hl_p_85_5, hl_p_85_6, hl_p_85_19, hl_p_85_23, hl_p_85_24, hl_p_85_25, hl_p_85_26, hl_p_85_27, hl_p_85_28, hl_p_85_29, hl_p_85_30, hl_p_85_31, hl_p_85_33, hl_p_85_34, hl_p_85_35, hl_p_85_36, hl_p_85_37, hl_a_86, hl_z_86, hl_k0, hl_v0, hm1, n0, not_false_eq_true, hl_s248, g1, hl_tv_t, hl_10, l2, hl_kill_i, hl_kill_r, hl_kill_n, hl_kill_l, hl_tl_s, hl_tl_n, hl_cal_some, hl_gI, hl_gJ, hl_gsI, hl_gsJ, hl_tv01, if_true, if_false, hl_up_a, hl_row_a]
end HLCLK
