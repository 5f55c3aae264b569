/-! one, loses -/
section HLONE
variable {d N W H : Nat} {I Is I' : Nat → Nat → Int32} {J J' : Nat → Nat → Int64} {nh cn : Nat}
theorem hl_l51 {h : Nat} (hN : N ≤ 24) (hh : h < 4) (f : Nat) : ∀ i, i + f = N → hl_Run 51 (hl_call (d + 1)) 4 [.ref 63, .int (nI h), .int (hl_sum i (fun c => I 64 (4 * c + h))), .int (nI i)] [] (hl_g N I J) = some (some (.int (hl_sum N (fun c => I 64 (4 * c + h)))), hl_g N I J) := by
  have eN : Int32.ofNat N = nI N := rfl
  induction f with
  | zero =>
    intro i hi
    obtain rfl : i = N := by omega
    simp only [hl_r51_0, hl_r51_1, hl_r51_2, hl_r51_3, hl_r51_4, hl_r51_5, hl_r51_6, hl_r51_9, hl_r51_10, hl_r51_13, hl_r51_14, hl_r51_15, hl_r51_16, hl_r51_17, hl_r51_20, hl_r51_21, hl_r51_22, hl_r51_25, hl_r51_28, hl_r51_29, hl_o_63, hl_p_63_0, hl_p_63_1, hl_p_63_2, hl_p_63_3, hl_a_65, hl_z_65, hl_l_65, eN, Int32.le_refl, hl_kill_i, hl_kill_r, hl_kill_n, hl_kill_l, hl_tl_s, hl_tl_n, hl_cal_some, hl_gI, hl_gJ, hl_gsI, hl_gsJ, hl_tv01, if_true, if_false, hl_up_a, hl_row_a]
  | succ f ih =>
    intro i hi
    have c1 : ¬ nI N ≤ nI i := nI_ge (by omega) (by omega)
    have e := ih (i + 1) (by omega)
    have en : nI i + 1 = nI (i + 1) := (nI_succ i).symm
    rw [show hl_sum (i + 1) (fun c => I 64 (4 * c + h)) = hl_sum i (fun c => I 64 (4 * c + h)) + I 64 (4 * i + h) from rfl] at e
    rw [← e, hl_r51_4]
    simp only [hl_r51_0, hl_r51_1, hl_r51_2, hl_r51_3, hl_r51_5, hl_r51_6, hl_r51_9, hl_r51_10, hl_r51_13, hl_r51_14, hl_r51_15, hl_r51_16, hl_r51_17, hl_r51_20, hl_r51_21, hl_r51_22, hl_r51_25, hl_r51_28, hl_r51_29, hl_o_63, hl_p_63_0, hl_p_63_1, hl_p_63_2, hl_p_63_3, hl_a_65, hl_z_65, hl_l_65, eN, c1, hl_s48 (d := d) (I := I) (J := J) (show i < N by omega) hN hh, en, hl_kill_i, hl_kill_r, hl_kill_n, hl_kill_l, hl_tl_s, hl_tl_n, hl_cal_some, hl_gI, hl_gJ, hl_gsI, hl_gsJ, hl_tv01, if_true, if_false, hl_up_a, hl_row_a]
theorem hl_s51 {h : Nat} (hN : N ≤ 24) (hh : h < 4) : hl_call (d + 2) 51 [.ref 63, .int (nI h)] (hl_g N I J) = some (some (.int (hl_sum N (fun c => I 64 (4 * c + h)))), hl_g N I J) := by
  have e := hl_l51 (d := d) (I := I) (J := J) hN hh N 0 (by omega)
  rw [hl_e51, hl_r51_0, hl_r51_1, hl_r51_2, hl_r51_3]
  exact e
theorem hl_l49 {c : Nat} (hc : c < N) (hN : N ≤ 24) (hH : I 1 8 = nI nh) (hn : nh ≤ 4) (f : Nat) : ∀ i, i + 1 + f = nh → hl_Run 49 (hl_call (d + 1)) 9 [.ref 63, .int (nI c), .int (hl_mn (fun h => I 64 (4 * c + h)) i), .int (nI (i + 1))] [] (hl_g N I J) = some (some (.int (hl_mn (fun h => I 64 (4 * c + h)) (nh - 1))), hl_g N I J) := by
  induction f with
  | zero =>
    intro i hi
    obtain rfl : nh = i + 1 := by omega
    simp only [hl_r49_0, hl_r49_1, hl_r49_2, hl_r49_3, hl_r49_6, hl_r49_7, hl_r49_8, hl_r49_9, hl_r49_10, hl_r49_11, hl_r49_14, hl_r49_17, hl_r49_20, hl_r49_21, hl_r49_22, hl_r49_23, hl_r49_24, hl_r49_27, hl_r49_30, hl_r49_31, hl_r49_34, hl_r49_37, hl_r49_38, hl_o_63, hl_p_63_0, hl_p_63_1, hl_p_63_2, hl_p_63_3, hl_o_1, hl_p_1_0, hl_p_1_1, hl_p_1_2, hl_p_1_3, hl_p_1_4, hl_p_1_5, hl_p_1_6, hl_p_1_7, hl_p_1_9, hl_p_1_14, hl_p_1_15, hH, Int32.le_refl, Nat.add_sub_cancel, hl_kill_i, hl_kill_r, hl_kill_n, hl_kill_l, hl_tl_s, hl_tl_n, hl_cal_some, hl_gI, hl_gJ, hl_gsI, hl_gsJ, hl_tv01, if_true, if_false, hl_up_a, hl_row_a]
  | succ f ih =>
    intro i hi
    have c1 : ¬ nI nh ≤ nI (i + 1) := nI_ge (by omega) (by omega)
    have e := ih (i + 1) (by omega)
    have en : nI (i + 1) + 1 = nI (i + 1 + 1) := (nI_succ _).symm
    rw [show hl_mn (fun h => I 64 (4 * c + h)) (i + 1) = if I 64 (4 * c + (i + 1)) < hl_mn (fun h => I 64 (4 * c + h)) i then I 64 (4 * c + (i + 1)) else hl_mn (fun h => I 64 (4 * c + h)) i from rfl] at e
    rw [← e, hl_r49_9]
    simp only [hl_r49_0, hl_r49_1, hl_r49_2, hl_r49_3, hl_r49_6, hl_r49_7, hl_r49_8, hl_r49_10, hl_r49_11, hl_r49_14, hl_r49_17, hl_r49_20, hl_r49_21, hl_r49_22, hl_r49_23, hl_r49_24, hl_r49_27, hl_r49_30, hl_r49_31, hl_r49_34, hl_r49_37, hl_r49_38, hl_o_63, hl_p_63_0, hl_p_63_1, hl_p_63_2, hl_p_63_3, hl_o_1, hl_p_1_0, hl_p_1_1, hl_p_1_2, hl_p_1_3, hl_p_1_4, hl_p_1_5, hl_p_1_6, hl_p_1_7, hl_p_1_9, hl_p_1_14, hl_p_1_15, hH, c1, hl_s48 (d := d) (I := I) (J := J) hc hN (show i + 1 < 4 by omega), en, hl_kill_i, hl_kill_r, hl_kill_n, hl_kill_l, hl_tl_s, hl_tl_n, hl_cal_some, hl_gI, hl_gJ, hl_gsI, hl_gsJ, hl_tv01, if_true, if_false, hl_up_a, hl_row_a]
theorem hl_s49 {c : Nat} (hc : c < N) (hN : N ≤ 24) (hH : I 1 8 = nI nh) (hn : nh ≤ 4) (h0 : 0 < nh) : hl_call (d + 2) 49 [.ref 63, .int (nI c)] (hl_g N I J) = some (some (.int (hl_mn (fun h => I 64 (4 * c + h)) (nh - 1))), hl_g N I J) := by
  have e := hl_l49 (d := d) (I := I) (J := J) hc hN hH hn (nh - 1) 0 (by omega)
  have z := hl_s48 (d := d) (I := I) (J := J) hc hN (show 0 < 4 by omega)
  rw [show nI 0 = 0 from rfl] at z
  rw [show nI (0 + 1) = 1 from rfl] at e
  rw [hl_e49]
  simp only [hl_r49_0, hl_r49_1, hl_r49_2, hl_r49_3, hl_r49_6, hl_r49_7, hl_r49_8, hl_o_63, hl_p_63_0, hl_p_63_1, hl_p_63_2, hl_p_63_3, z, hl_kill_i, hl_kill_r, hl_kill_n, hl_kill_l, hl_tl_s, hl_tl_n, hl_cal_some, hl_gI, hl_gJ, hl_gsI, hl_gsJ, hl_tv01, if_true, if_false, hl_up_a, hl_row_a]
  exact e
/-- the reference's sum -/
theorem hl_l238 {h : Nat} (hCo : hl_Co N W H Is) (hN : N ≤ 24) (hh : (h : Int) < hl_Sv Is 86 0) (f : Nat) : ∀ (I : Nat → Nat → Int32) (J : Nat → Nat → Int64) (i : Nat), i + f = N → hl_vw Is I → ∃ I' J', hl_Run 238 (hl_call (d + 6)) 4 [.ref 85, .int (nI h), .int (hl_sum i (fun c => hl_pay Is c h)), .int (nI i)] [] (hl_g N I J) = some (some (.int (hl_sum N (fun c => hl_pay Is c h))), hl_g N I' J') ∧ hl_r9 I I' ∧ hl_j9 J J' := by
  induction f with
  | zero =>
    intro I J i hi hv
    obtain rfl : i = N := by omega
    refine ⟨I, J, ?_, hl_r9_rf I, hl_j9_rf J⟩
    have e2 : I 85 2 = nI i := (hv.1 2 (by omega)).trans hCo.mM
    simp only [hl_r238_0, hl_r238_1, hl_r238_2, hl_r238_3, hl_r238_4, hl_r238_5, hl_r238_6, hl_r238_9, hl_r238_12, hl_r238_13, hl_r238_14, hl_r238_15, hl_r238_16, hl_r238_19, hl_r238_20, hl_r238_21, hl_r238_24, hl_r238_27, hl_r238_28, hl_o_85, hl_p_85_3, hl_p_85_4, hl_p_85_5, hl_p_85_6, hl_p_85_19, hl_p_85_23, hl_p_85_24, hl_p_85_25, hl_p_85_26, hl_p_85_27, hl_p_85_28, hl_p_85_29, hl_p_85_30, hl_p_85_31, hl_p_85_33, hl_p_85_34, hl_p_85_35, hl_p_85_36, hl_p_85_37, e2, Int32.le_refl, hl_kill_i, hl_kill_r, hl_kill_n, hl_kill_l, hl_tl_s, hl_tl_n, hl_cal_some, hl_gI, hl_gJ, hl_gsI, hl_gsJ, hl_tv01, if_true, if_false, hl_up_a, hl_row_a]
  | succ f ih =>
    intro I J i hi hv
    have e2 : I 85 2 = nI N := (hv.1 2 (by omega)).trans hCo.mM
    have c1 : ¬ nI N ≤ nI i := nI_ge (by omega) (by omega)
    have en : nI i + 1 = nI (i + 1) := (nI_succ i).symm
    obtain ⟨I1, J1, e1, r1, j1⟩ := hl_s209 (d := d) (J := J) hCo hv hN (show i < N by omega) hh
    obtain ⟨I2, J2, e3, r2, j2⟩ := ih I1 J1 (i + 1) (by omega) (hl_vw_tr hv r1.vw)
    refine ⟨I2, J2, ?_, hl_r9_tr r1 r2, hl_j9_tr j1 j2⟩
    rw [← e3, hl_r238_4]
    simp only [hl_r238_0, hl_r238_1, hl_r238_2, hl_r238_3, hl_r238_5, hl_r238_6, hl_r238_9, hl_r238_12, hl_r238_13, hl_r238_14, hl_r238_15, hl_r238_16, hl_r238_19, hl_r238_20, hl_r238_21, hl_r238_24, hl_r238_27, hl_r238_28, hl_o_85, hl_p_85_3, hl_p_85_4, hl_p_85_5, hl_p_85_6, hl_p_85_19, hl_p_85_23, hl_p_85_24, hl_p_85_25, hl_p_85_26, hl_p_85_27, hl_p_85_28, hl_p_85_29, hl_p_85_30, hl_p_85_31, hl_p_85_33, hl_p_85_34, hl_p_85_35, hl_p_85_36, hl_p_85_37, e2, c1, e1, en, hl_sum, hl_kill_i, hl_kill_r, hl_kill_n, hl_kill_l, hl_tl_s, hl_tl_n, hl_cal_some, hl_gI, hl_gJ, hl_gsI, hl_gsJ, hl_tv01, if_true, if_false, hl_up_a, hl_row_a]
theorem hl_s238 {h : Nat} (hCo : hl_Co N W H Is) (hv : hl_vw Is I) (hN : N ≤ 24) (hh : (h : Int) < hl_Sv Is 86 0) : ∃ I' J', hl_call (d + 7) 238 [.ref 85, .int (nI h)] (hl_g N I J) = some (some (.int (hl_sum N (fun c => hl_pay Is c h))), hl_g N I' J') ∧ hl_r9 I I' ∧ hl_j9 J J' := by
  obtain ⟨I', J', e, r⟩ := hl_l238 (d := d) hCo hN hh N I J 0 (by omega) hv
  refine ⟨I', J', ?_, r⟩
  rw [hl_e238, hl_r238_0, hl_r238_1, hl_r238_2, hl_r238_3]
  exact e
/-- one -/
theorem hl_l124 {A : Nat → Int32} {x : Int32} (hN : N ≤ 24) (hH : I 1 8 = nI nh) (hn : nh ≤ 4) (hA : ∀ h, h < nh → hl_sum N (fun c => I 64 (4 * c + h)) = A h) (f : Nat) : ∀ i ch, i + f = nh → ch < nh → hl_Run 124 (hl_call (d + 2)) 32 [.ref 0, .int x, .int (nI ch), .int (nI i)] [] (hl_g N I J) = hl_Run 124 (hl_call (d + 2)) 70 [.ref 0, .int x, .int (nI (hl_sel A f i ch)), .int (nI nh)] [] (hl_g N I J) := by
  induction f with
  | zero =>
    intro i ch hi hch
    obtain rfl : i = nh := by omega
    simp only [hl_r124_32, hl_r124_33, hl_r124_34, hl_r124_37, hl_r124_40, hl_o_0, hl_p_0_3, hl_p_0_4, hl_p_0_5, hl_p_0_7, hl_p_0_8, hl_p_0_9, hl_p_0_10, hl_p_0_11, hl_p_0_12, hl_p_0_13, hl_p_0_14, hl_p_0_15, hl_o_1, hl_p_1_0, hl_p_1_1, hl_p_1_2, hl_p_1_3, hl_p_1_4, hl_p_1_5, hl_p_1_6, hl_p_1_7, hl_p_1_9, hl_p_1_14, hl_p_1_15, hH, Int32.le_refl, hl_sel, hl_kill_i, hl_kill_r, hl_kill_n, hl_kill_l, hl_tl_s, hl_tl_n, hl_cal_some, hl_gI, hl_gJ, hl_gsI, hl_gsJ, hl_tv01, if_true, if_false, hl_up_a, hl_row_a]
  | succ f ih =>
    intro i ch hi hch
    have c1 : ¬ nI nh ≤ nI i := nI_ge (by omega) (by omega)
    have en : nI i + 1 = nI (i + 1) := (nI_succ i).symm
    have s1 := hl_s51 (d := d) (I := I) (J := J) hN (show i < 4 by omega)
    have s2 := hl_s51 (d := d) (I := I) (J := J) hN (show ch < 4 by omega)
    rw [hA i (by omega)] at s1
    rw [hA ch hch] at s2
    unfold hl_sel
    by_cases hlt : A i < A ch
    · rw [if_pos hlt, ← ih (i + 1) i (by omega) (by omega), hl_r124_32]
      simp only [hl_r124_33, hl_r124_34, hl_r124_37, hl_r124_40, hl_r124_43, hl_r124_44, hl_r124_47, hl_r124_48, hl_r124_51, hl_r124_52, hl_r124_55, hl_r124_56, hl_r124_59, hl_r124_62, hl_r124_63, hl_r124_64, hl_r124_67, hl_o_0, hl_p_0_3, hl_p_0_4, hl_p_0_5, hl_p_0_7, hl_p_0_8, hl_p_0_9, hl_p_0_10, hl_p_0_11, hl_p_0_12, hl_p_0_13, hl_p_0_14, hl_p_0_15, hl_o_1, hl_p_1_0, hl_p_1_1, hl_p_1_2, hl_p_1_3, hl_p_1_4, hl_p_1_5, hl_p_1_6, hl_p_1_7, hl_p_1_9, hl_p_1_14, hl_p_1_15, hl_o_63, hl_p_63_0, hl_p_63_1, hl_p_63_2, hl_p_63_3, hH, c1, s1, s2, Int32.not_le.mpr hlt, en, hl_kill_i, hl_kill_r, hl_kill_n, hl_kill_l, hl_tl_s, hl_tl_n, hl_cal_some, hl_gI, hl_gJ, hl_gsI, hl_gsJ, hl_tv01, if_true, if_false, hl_up_a, hl_row_a]
    · rw [if_neg hlt, ← ih (i + 1) ch (by omega) hch, hl_r124_32]
      simp only [hl_r124_33, hl_r124_34, hl_r124_37, hl_r124_40, hl_r124_43, hl_r124_44, hl_r124_47, hl_r124_48, hl_r124_51, hl_r124_52, hl_r124_55, hl_r124_56, hl_r124_59, hl_r124_64, hl_r124_67, hl_o_0, hl_p_0_3, hl_p_0_4, hl_p_0_5, hl_p_0_7, hl_p_0_8, hl_p_0_9, hl_p_0_10, hl_p_0_11, hl_p_0_12, hl_p_0_13, hl_p_0_14, hl_p_0_15, hl_o_1, hl_p_1_0, hl_p_1_1, hl_p_1_2, hl_p_1_3, hl_p_1_4, hl_p_1_5, hl_p_1_6, hl_p_1_7, hl_p_1_9, hl_p_1_14, hl_p_1_15, hl_o_63, hl_p_63_0, hl_p_63_1, hl_p_63_2, hl_p_63_3, hH, c1, s1, s2, Int32.not_lt.mp hlt, en, hl_kill_i, hl_kill_r, hl_kill_n, hl_kill_l, hl_tl_s, hl_tl_n, hl_cal_some, hl_gI, hl_gJ, hl_gsI, hl_gsJ, hl_tv01, if_true, if_false, hl_up_a, hl_row_a]
theorem hl_l239 {x : Int32} (hCo : hl_Co N W H Is) (hN : N ≤ 24) (hs : hl_Sv Is 86 0 = (nh : Int)) (hm : Is 86 0 = nI nh) (hn : nh ≤ 4) (f : Nat) : ∀ (I : Nat → Nat → Int32) (J : Nat → Nat → Int64) i ch, i + f = nh → ch < nh → hl_vw Is I → ∃ I' J', hl_Run 239 (hl_call (d + 7)) 24 [.ref 85, .int x, .int (nI ch), .int (nI i)] [] (hl_g N I J) = hl_Run 239 (hl_call (d + 7)) 55 [.ref 85, .int x, .int (nI (hl_sel (fun h => hl_sum N (fun c => hl_pay Is c h)) f i ch)), .int (nI nh)] [] (hl_g N I' J') ∧ hl_r9 I I' ∧ hl_j9 J J' := by
  induction f with
  | zero =>
    intro I J i ch hi hch hv
    obtain rfl : i = nh := by omega
    refine ⟨I, J, ?_, hl_r9_rf I, hl_j9_rf J⟩
    have e0 : I 86 0 = nI i := by rw [hv.2.1]; exact hm
    simp only [hl_r239_24, hl_r239_25, hl_r239_26, hl_r239_29, hl_r239_30, hl_r239_31, hl_o_85, hl_p_85_3, hl_p_85_4, hl_p_85_5, hl_p_85_6, hl_p_85_19, hl_p_85_23, hl_p_85_24, hl_p_85_25, hl_p_85_26, hl_p_85_27, hl_p_85_28, hl_p_85_29, hl_p_85_30, hl_p_85_31, hl_p_85_33, hl_p_85_34, hl_p_85_35, hl_p_85_36, hl_p_85_37, hl_a_86, hl_z_86, hl_k0, hl_v0, e0, Int32.le_refl, hl_sel, hl_kill_i, hl_kill_r, hl_kill_n, hl_kill_l, hl_tl_s, hl_tl_n, hl_cal_some, hl_gI, hl_gJ, hl_gsI, hl_gsJ, hl_tv01, if_true, if_false, hl_up_a, hl_row_a]
  | succ f ih =>
    intro I J i ch hi hch hv
    have e0 : I 86 0 = nI nh := by rw [hv.2.1]; exact hm
    have c1 : ¬ nI nh ≤ nI i := nI_ge (by omega) (by omega)
    have en : nI i + 1 = nI (i + 1) := (nI_succ i).symm
    obtain ⟨I1, J1, e1, r1, j1⟩ := hl_s238 (d := d) (J := J) hCo hv hN (show (i : Int) < hl_Sv Is 86 0 by omega)
    have hv1 := hl_vw_tr hv r1.vw
    obtain ⟨I2, J2, e2, r2, j2⟩ := hl_s238 (d := d) (J := J1) hCo hv1 hN (show (ch : Int) < hl_Sv Is 86 0 by omega)
    have hv2 := hl_vw_tr hv1 r2.vw
    unfold hl_sel
    by_cases hlt : hl_sum N (fun c => hl_pay Is c i) < hl_sum N (fun c => hl_pay Is c ch)
    · obtain ⟨I3, J3, e3, r3, j3⟩ := ih I2 J2 (i + 1) i (by omega) (by omega) hv2
      refine ⟨I3, J3, ?_, hl_r9_tr r1 (hl_r9_tr r2 r3), hl_j9_tr j1 (hl_j9_tr j2 j3)⟩
      rw [if_pos hlt, ← e3, hl_r239_24]
      simp only [hl_r239_25, hl_r239_26, hl_r239_29, hl_r239_30, hl_r239_31, hl_r239_34, hl_r239_35, hl_r239_36, hl_r239_39, hl_r239_40, hl_r239_41, hl_r239_44, hl_r239_47, hl_r239_48, hl_r239_49, hl_r239_52, hl_o_85, hl_p_85_3, hl_p_85_4, hl_p_85_5, hl_p_85_6, hl_p_85_19, hl_p_85_23, hl_p_85_24, hl_p_85_25, hl_p_85_26, hl_p_85_27, hl_p_85_28, hl_p_85_29, hl_p_85_30, hl_p_85_31, hl_p_85_33, hl_p_85_34, hl_p_85_35, hl_p_85_36, hl_p_85_37, hl_a_86, hl_z_86, hl_k0, hl_v0, e0, c1, e1, e2, Int32.not_le.mpr hlt, en, hl_kill_i, hl_kill_r, hl_kill_n, hl_kill_l, hl_tl_s, hl_tl_n, hl_cal_some, hl_gI, hl_gJ, hl_gsI, hl_gsJ, hl_tv01, if_true, if_false, hl_up_a, hl_row_a]
    · obtain ⟨I3, J3, e3, r3, j3⟩ := ih I2 J2 (i + 1) ch (by omega) hch hv2
      refine ⟨I3, J3, ?_, hl_r9_tr r1 (hl_r9_tr r2 r3), hl_j9_tr j1 (hl_j9_tr j2 j3)⟩
      rw [if_neg hlt, ← e3, hl_r239_24]
      simp only [hl_r239_25, hl_r239_26, hl_r239_29, hl_r239_30, hl_r239_31, hl_r239_34, hl_r239_35, hl_r239_36, hl_r239_39, hl_r239_40, hl_r239_41, hl_r239_44, hl_r239_49, hl_r239_52, hl_o_85, hl_p_85_3, hl_p_85_4, hl_p_85_5, hl_p_85_6, hl_p_85_19, hl_p_85_23, hl_p_85_24, hl_p_85_25, hl_p_85_26, hl_p_85_27, hl_p_85_28, hl_p_85_29, hl_p_85_30, hl_p_85_31, hl_p_85_33, hl_p_85_34, hl_p_85_35, hl_p_85_36, hl_p_85_37, hl_a_86, hl_z_86, hl_k0, hl_v0, e0, c1, e1, e2, Int32.not_lt.mp hlt, en, hl_kill_i, hl_kill_r, hl_kill_n, hl_kill_l, hl_tl_s, hl_tl_n, hl_cal_some, hl_gI, hl_gJ, hl_gsI, hl_gsJ, hl_tv01, if_true, if_false, hl_up_a, hl_row_a]
/-- facts behind refresh -/
theorem hl_Fr.sv {b j : Nat} (h : hl_Fr N nh I I') (hb : 86 ≤ b ∧ b < 90) : hl_Sv I' b j = hl_Sv I b j := by
  unfold hl_Sv
  rw [h.tm.2.2.2 b hb.1 hb.2]
theorem hl_pr19 (hN : N ≤ 24) (f : Nat → Int32) : hl_PQ hl_TX N W H 124 239 (hl_args 19 f) := by
  refine hl_PQ_read hl_TXc fun I J hI => ?_
  obtain ⟨nh, h4, hc1, hm1, hs1⟩ := hI.nh
  show ∃ v I1 J1 I2 J2, hl_call 1001 124 [.ref 0, .int (f 1)] (hl_g N I J) = some (some (.int v), hl_g N I1 J1) ∧ hl_call 1001 239 [.ref 85, .int (f 1)] (hl_g N I1 J1) = some (some (.int v), hl_g N I2 J2) ∧ _
  have P := hI.2.2.2.2.1
  cases nh with
  | zero =>
    have z : nI 0 = 0 := rfl
    rw [z] at hc1 hm1
    refine ⟨-1, I, J, I, J, ?_, ?_, hl_Tm_rf I, P, hl_Tm_rf I, rfl, rfl⟩
    · rw [hl_e124 (d := 1000)]; simp only [hl_r124_0, hl_r124_1, hl_r124_4, hl_r124_7, hl_r124_10, hl_r124_11, hl_r124_12, hl_r124_13, hl_r124_16, hl_r124_19, hl_r124_20, hl_r124_21, hl_r124_22, hl_r124_25, hl_r124_28, hl_r124_29, hl_r124_30, hl_r124_31, hl_r124_33, hl_r124_34, hl_r124_37, hl_r124_40, hl_r124_43, hl_r124_44, hl_r124_47, hl_r124_48, hl_r124_51, hl_r124_52, hl_r124_55, hl_r124_56, hl_r124_59, hl_r124_62, hl_r124_63, hl_r124_64, hl_r124_67, hl_r124_70, hl_r124_71, hl_r124_74, hl_r124_75, hl_r124_78, hl_r124_79, hl_r124_82, hl_r124_83, hl_r124_86, hl_o_0, hl_p_0_3, hl_p_0_4, hl_p_0_5, hl_p_0_7, hl_p_0_8, hl_p_0_9, hl_p_0_10, hl_p_0_11, hl_p_0_12, hl_p_0_13, hl_p_0_14, hl_p_0_15, hl_o_1, hl_p_1_0, hl_p_1_1, hl_p_1_2, hl_p_1_3, hl_p_1_4, hl_p_1_5, hl_p_1_6, hl_p_1_7, hl_p_1_9, hl_p_1_14, hl_p_1_15, hc1, not_true, hl_kill_i, hl_kill_r, hl_kill_n, hl_kill_l, hl_tl_s, hl_tl_n, hl_cal_some, hl_gI, hl_gJ, hl_gsI, hl_gsJ, hl_tv01, if_true, if_false, hl_up_a, hl_row_a]
    · rw [hl_e239 (d := 1000)]; simp only [hl_r239_0, hl_r239_1, hl_r239_4, hl_r239_5, hl_r239_6, hl_r239_9, hl_r239_10, hl_r239_11, hl_r239_12, hl_r239_15, hl_r239_18, hl_r239_19, hl_r239_20, hl_r239_21, hl_r239_22, hl_r239_23, hl_r239_25, hl_r239_26, hl_r239_29, hl_r239_30, hl_r239_31, hl_r239_34, hl_r239_35, hl_r239_36, hl_r239_39, hl_r239_40, hl_r239_41, hl_r239_44, hl_r239_47, hl_r239_48, hl_r239_49, hl_r239_52, hl_r239_55, hl_r239_56, hl_r239_59, hl_r239_60, hl_r239_63, hl_r239_64, hl_r239_65, hl_r239_68, hl_o_85, hl_p_85_3, hl_p_85_4, hl_p_85_5, hl_p_85_6, hl_p_85_19, hl_p_85_23, hl_p_85_24, hl_p_85_25, hl_p_85_26, hl_p_85_27, hl_p_85_28, hl_p_85_29, hl_p_85_30, hl_p_85_31, hl_p_85_33, hl_p_85_34, hl_p_85_35, hl_p_85_36, hl_p_85_37, hl_a_86, hl_z_86, hl_k0, hl_v0, hm1, hl_kill_i, hl_kill_r, hl_kill_n, hl_kill_l, hl_tl_s, hl_tl_n, hl_cal_some, hl_gI, hl_gJ, hl_gsI, hl_gsJ, hl_tv01, if_true, if_false, hl_up_a, hl_row_a]
  | succ nh =>
    have n0 : ¬ nI (nh + 1) = 0 := nI_n0 (by omega)
    cases g1 : hl_in (f 1) 0 1 with
    | false =>
      refine ⟨-1, I, J, I, J, ?_, ?_, hl_Tm_rf I, P, hl_Tm_rf I, rfl, rfl⟩
      · rw [hl_e124 (d := 1000)]; simp only [hl_r124_0, hl_r124_1, hl_r124_4, hl_r124_7, hl_r124_10, hl_r124_11, hl_r124_12, hl_r124_13, hl_r124_16, hl_r124_19, hl_r124_20, hl_r124_21, hl_r124_22, hl_r124_25, hl_r124_28, hl_r124_29, hl_r124_30, hl_r124_31, hl_r124_33, hl_r124_34, hl_r124_37, hl_r124_40, hl_r124_43, hl_r124_44, hl_r124_47, hl_r124_48, hl_r124_51, hl_r124_52, hl_r124_55, hl_r124_56, hl_r124_59, hl_r124_62, hl_r124_63, hl_r124_64, hl_r124_67, hl_r124_70, hl_r124_71, hl_r124_74, hl_r124_75, hl_r124_78, hl_r124_79, hl_r124_82, hl_r124_83, hl_r124_86, hl_o_0, hl_p_0_3, hl_p_0_4, hl_p_0_5, hl_p_0_7, hl_p_0_8, hl_p_0_9, hl_p_0_10, hl_p_0_11, hl_p_0_12, hl_p_0_13, hl_p_0_14, hl_p_0_15, hl_o_1, hl_p_1_0, hl_p_1_1, hl_p_1_2, hl_p_1_3, hl_p_1_4, hl_p_1_5, hl_p_1_6, hl_p_1_7, hl_p_1_9, hl_p_1_14, hl_p_1_15, hc1, n0, not_true, hl_s147, g1, hl_tv_f, hl_kill_i, hl_kill_r, hl_kill_n, hl_kill_l, hl_tl_s, hl_tl_n, hl_cal_some, hl_gI, hl_gJ, hl_gsI, hl_gsJ, hl_tv01, if_true, if_false, hl_up_a, hl_row_a]
      · rw [hl_e239 (d := 1000)]; simp only [hl_r239_0, hl_r239_1, hl_r239_4, hl_r239_5, hl_r239_6, hl_r239_9, hl_r239_10, hl_r239_11, hl_r239_12, hl_r239_15, hl_r239_18, hl_r239_19, hl_r239_20, hl_r239_21, hl_r239_22, hl_r239_23, hl_r239_25, hl_r239_26, hl_r239_29, hl_r239_30, hl_r239_31, hl_r239_34, hl_r239_35, hl_r239_36, hl_r239_39, hl_r239_40, hl_r239_41, hl_r239_44, hl_r239_47, hl_r239_48, hl_r239_49, hl_r239_52, hl_r239_55, hl_r239_56, hl_r239_59, hl_r239_60, hl_r239_63, hl_r239_64, hl_r239_65, hl_r239_68, hl_o_85, hl_p_85_3, hl_p_85_4, hl_p_85_5, hl_p_85_6, hl_p_85_19, hl_p_85_23, hl_p_85_24, hl_p_85_25, hl_p_85_26, hl_p_85_27, hl_p_85_28, hl_p_85_29, hl_p_85_30, hl_p_85_31, hl_p_85_33, hl_p_85_34, hl_p_85_35, hl_p_85_36, hl_p_85_37, hl_a_86, hl_z_86, hl_k0, hl_v0, hm1, n0, not_true, hl_s151, g1, hl_tv_f, hl_kill_i, hl_kill_r, hl_kill_n, hl_kill_l, hl_tl_s, hl_tl_n, hl_cal_some, hl_gI, hl_gJ, hl_gsI, hl_gsJ, hl_tv01, if_true, if_false, hl_up_a, hl_row_a]
    | true =>
      obtain ⟨I1, e1, F⟩ := hl_s45 (d := 994) (J := J) hI hN h4 hc1 hs1
      have tm := F.tm
      have hCo := hl_Co_t hI.co tm
      have hs1' : hl_Sv I1 86 0 = ((nh + 1 : Nat) : Int) := (F.sv (by omega)).trans hs1
      have hc1' : I1 1 8 = nI (nh + 1) := by rw [tm.1 1 (by omega)]; exact hc1
      have hm1' : I1 86 0 = nI (nh + 1) := by rw [tm.2.2.2 86 (by omega) (by omega)]; exact hm1
      have hA : ∀ h, h < nh + 1 → hl_sum N (fun c => I1 64 (4 * c + h)) = hl_sum N (fun c => hl_pay I1 c h) := fun h hh => hl_sum_congr (fun c hc => by rw [(F.2 c hc).2 h hh, (tm.pd c).pay])
      have l1 := hl_l124 (d := 998) (J := J) (x := f 1) hN hc1' h4 hA nh 1 0 (by omega) (by omega)
      obtain ⟨I2, J2, l2, r2, j2⟩ := hl_l239 (d := 993) (x := f 1) hCo hN hs1' hm1' h4 nh I1 J 1 0 (by omega) (by omega) (hl_vw_rf I1)
      have hsl := hl_sel_lt (A := fun h => hl_sum N (fun c => hl_pay I1 c h)) (n := nh + 1) nh 1 0 (by omega) (by omega)
      generalize hl_sel (fun h => hl_sum N (fun c => hl_pay I1 c h)) nh 1 0 = ch at l1 l2 hsl
      rw [show nI 0 = 0 from rfl, show nI 1 = 1 from rfl] at l1 l2
      have st1 : hl_call 1001 124 [.ref 0, .int (f 1)] (hl_g N I J) = hl_Run 124 (hl_call 1000) 70 [.ref 0, .int (f 1), .int (nI ch), .int (nI (nh + 1))] [] (hl_g N I1 J) := by
        rw [← l1, hl_e124 (d := 1000)]
        simp only [hl_r124_0, hl_r124_1, hl_r124_4, hl_r124_7, hl_r124_10, hl_r124_11, hl_r124_12, hl_r124_13, hl_r124_16, hl_r124_21, hl_r124_22, hl_r124_25, hl_r124_28, hl_r124_29, hl_r124_30, hl_r124_31, hl_o_0, hl_p_0_3, hl_p_0_4, hl_p_0_5, hl_p_0_7, hl_p_0_8, hl_p_0_9, hl_p_0_10, hl_p_0_11, hl_p_0_12, hl_p_0_13, hl_p_0_14, hl_p_0_15, hl_o_1, hl_p_1_0, hl_p_1_1, hl_p_1_2, hl_p_1_3, hl_p_1_4, hl_p_1_5, hl_p_1_6, hl_p_1_7, hl_p_1_9, hl_p_1_14, hl_p_1_15, hl_o_63, hl_p_63_0, hl_p_63_1, hl_p_63_2, hl_p_63_3, hc1, n0, not_false_eq_true, hl_s147, g1, hl_tv_t, hl_10, e1, hl_tl_n, hl_kill_i, hl_kill_r, hl_kill_n, hl_kill_l, hl_tl_s, hl_tl_n, hl_cal_some, hl_gI, hl_gJ, hl_gsI, hl_gsJ, hl_tv01, if_true, if_false, hl_up_a, hl_row_a]
      have st2 : hl_call 1001 239 [.ref 85, .int (f 1)] (hl_g N I1 J) = hl_Run 239 (hl_call 1000) 55 [.ref 85, .int (f 1), .int (nI ch), .int (nI (nh + 1))] [] (hl_g N I2 J2) := by
        rw [← l2, hl_e239 (d := 1000)]
        simp only [hl_r239_0, hl_r239_1, hl_r239_4, hl_r239_5, hl_r239_6, hl_r239_9, hl_r239_10, hl_r239_11, hl_r239_12, hl_r239_15, hl_r239_20, hl_r239_21, hl_r239_22, hl_r239_23, hl_o_85, hl_p_85_3, hl_p_85_4, hl_p_85_5, hl_p_85_6, hl_p_85_19, hl_p_85_23, hl_p_85_24, hl_p_85_25, hl_p_85_26, hl_p_85_27, hl_p_85_28, hl_p_85_29, hl_p_85_30, hl_p_85_31, hl_p_85_33, hl_p_85_34, hl_p_85_35, hl_p_85_36, hl_p_85_37, hl_a_86, hl_z_86, hl_k0, hl_v0, hm1', n0, not_false_eq_true, hl_s151, g1, hl_tv_t, hl_10, hl_kill_i, hl_kill_r, hl_kill_n, hl_kill_l, hl_tl_s, hl_tl_n, hl_cal_some, hl_gI, hl_gJ, hl_gsI, hl_gsJ, hl_tv01, if_true, if_false, hl_up_a, hl_row_a]
      by_cases w0 : f 1 = 0
      · refine ⟨nI ch, I1, J, I2, J2, ?_, ?_, tm, F.pu hs1, r2.tm, r2 64 (by decide) (by decide), r2 65 (by decide) (by decide)⟩
        · rw [st1, w0]; simp only [hl_r124_0, hl_r124_1, hl_r124_4, hl_r124_7, hl_r124_10, hl_r124_11, hl_r124_12, hl_r124_13, hl_r124_16, hl_r124_19, hl_r124_20, hl_r124_21, hl_r124_22, hl_r124_25, hl_r124_28, hl_r124_29, hl_r124_30, hl_r124_31, hl_r124_33, hl_r124_34, hl_r124_37, hl_r124_40, hl_r124_43, hl_r124_44, hl_r124_47, hl_r124_48, hl_r124_51, hl_r124_52, hl_r124_55, hl_r124_56, hl_r124_59, hl_r124_62, hl_r124_63, hl_r124_64, hl_r124_67, hl_r124_70, hl_r124_71, hl_r124_74, hl_r124_75, hl_r124_78, hl_r124_79, hl_r124_82, hl_r124_83, hl_r124_86, not_true, hl_kill_i, hl_kill_r, hl_kill_n, hl_kill_l, hl_tl_s, hl_tl_n, hl_cal_some, hl_gI, hl_gJ, hl_gsI, hl_gsJ, hl_tv01, if_true, if_false, hl_up_a, hl_row_a]
        · rw [st2, w0]; simp only [hl_r239_0, hl_r239_1, hl_r239_4, hl_r239_5, hl_r239_6, hl_r239_9, hl_r239_10, hl_r239_11, hl_r239_12, hl_r239_15, hl_r239_18, hl_r239_19, hl_r239_20, hl_r239_21, hl_r239_22, hl_r239_23, hl_r239_25, hl_r239_26, hl_r239_29, hl_r239_30, hl_r239_31, hl_r239_34, hl_r239_35, hl_r239_36, hl_r239_39, hl_r239_40, hl_r239_41, hl_r239_44, hl_r239_47, hl_r239_48, hl_r239_49, hl_r239_52, hl_r239_55, hl_r239_56, hl_r239_59, hl_r239_60, hl_r239_63, hl_r239_64, hl_r239_65, hl_r239_68, not_true, hl_kill_i, hl_kill_r, hl_kill_n, hl_kill_l, hl_tl_s, hl_tl_n, hl_cal_some, hl_gI, hl_gJ, hl_gsI, hl_gsJ, hl_tv01, if_true, if_false, hl_up_a, hl_row_a]
      · have s51 := hl_s51 (d := 998) (I := I1) (J := J) hN (show ch < 4 by omega)
        rw [hA ch hsl] at s51
        obtain ⟨I3, J3, e3, r3, j3⟩ := hl_s238 (d := 993) (J := J2) hCo r2.vw hN (show (ch : Int) < hl_Sv I1 86 0 by omega)
        have r23 := hl_r9_tr r2 r3
        refine ⟨hl_sum N (fun c => hl_pay I1 c ch), I1, J, I3, J3, ?_, ?_, tm, F.pu hs1, r23.tm, r23 64 (by decide) (by decide), r23 65 (by decide) (by decide)⟩
        · rw [st1]; simp only [hl_r124_0, hl_r124_1, hl_r124_4, hl_r124_7, hl_r124_10, hl_r124_11, hl_r124_12, hl_r124_13, hl_r124_16, hl_r124_19, hl_r124_20, hl_r124_21, hl_r124_22, hl_r124_25, hl_r124_28, hl_r124_29, hl_r124_30, hl_r124_31, hl_r124_33, hl_r124_34, hl_r124_37, hl_r124_40, hl_r124_43, hl_r124_44, hl_r124_47, hl_r124_48, hl_r124_51, hl_r124_52, hl_r124_55, hl_r124_56, hl_r124_59, hl_r124_62, hl_r124_63, hl_r124_64, hl_r124_67, hl_r124_70, hl_r124_71, hl_r124_74, hl_r124_75, hl_r124_78, hl_r124_79, hl_r124_82, hl_r124_83, hl_r124_86, hl_o_0, hl_p_0_3, hl_p_0_4, hl_p_0_5, hl_p_0_7, hl_p_0_8, hl_p_0_9, hl_p_0_10, hl_p_0_11, hl_p_0_12, hl_p_0_13, hl_p_0_14, hl_p_0_15, hl_o_63, hl_p_63_0, hl_p_63_1, hl_p_63_2, hl_p_63_3, w0, not_false_eq_true, s51, hl_kill_i, hl_kill_r, hl_kill_n, hl_kill_l, hl_tl_s, hl_tl_n, hl_cal_some, hl_gI, hl_gJ, hl_gsI, hl_gsJ, hl_tv01, if_true, if_false, hl_up_a, hl_row_a]
        · rw [st2]; simp only [hl_r239_0, hl_r239_1, hl_r239_4, hl_r239_5, hl_r239_6, hl_r239_9, hl_r239_10, hl_r239_11, hl_r239_12, hl_r239_15, hl_r239_18, hl_r239_19, hl_r239_20, hl_r239_21, hl_r239_22, hl_r239_23, hl_r239_25, hl_r239_26, hl_r239_29, hl_r239_30, hl_r239_31, hl_r239_34, hl_r239_35, hl_r239_36, hl_r239_39, hl_r239_40, hl_r239_41, hl_r239_44, hl_r239_47, hl_r239_48, hl_r239_49, hl_r239_52, hl_r239_55, hl_r239_56, hl_r239_59, hl_r239_60, hl_r239_63, hl_r239_64, hl_r239_65, hl_r239_68, hl_o_85, hl_p_85_3, hl_p_85_4, hl_p_85_5, hl_p_85_6, hl_p_85_19, hl_p_85_23, hl_p_85_24, hl_p_85_25, hl_p_85_26, hl_p_85_27, hl_p_85_28, hl_p_85_29, hl_p_85_30, hl_p_85_31, hl_p_85_33, hl_p_85_34, hl_p_85_35, hl_p_85_36, hl_p_85_37, w0, not_false_eq_true, e3, hl_kill_i, hl_kill_r, hl_kill_n, hl_kill_l, hl_tl_s, hl_tl_n, hl_cal_some, hl_gI, hl_gJ, hl_gsI, hl_gsJ, hl_tv01, if_true, if_false, hl_up_a, hl_row_a]
/-- loses -/
def hl_ls (I : Nat → Nat → Int32) (nh hr : Nat) (x : Int32) (c : Nat) : Int32 := if hl_mn (fun h => hl_pay I c h) (nh - 1) < hl_pay I c hr then (if x = 0 then I 3 c else 1) else 0
theorem hl_mn_congr {A B : Nat → Int32} (n : Nat) (h : ∀ k, k ≤ n → A k = B k) : hl_mn A n = hl_mn B n := by
  induction n with
  | zero => exact h 0 (Nat.le_refl 0)
  | succ n ih =>
    unfold hl_mn
    rw [ih (fun k hk => h k (by omega)), h (n + 1) (Nat.le_refl _)]
theorem hl_l125 {hr : Nat} {x : Int32} (hN : N ≤ 24) (hM : I 0 2 = nI N) (hH : I 1 8 = nI nh) (hn : nh ≤ 4) (hhr : hr < nh) (hA : ∀ c h, c < N → h < nh → I 64 (4 * c + h) = hl_pay I c h) (f : Nat) : ∀ i, i + f = N → hl_Run 125 (hl_call (d + 2)) 31 [.ref 0, .int (nI hr), .int x, .int (hl_sum i (hl_ls I nh hr x)), .int (nI i)] [] (hl_g N I J) = some (some (.int (hl_sum N (hl_ls I nh hr x))), hl_g N I J) := by
  induction f with
  | zero =>
    intro i hi
    obtain rfl : i = N := by omega
    simp only [hl_r125_0, hl_r125_1, hl_r125_2, hl_r125_5, hl_r125_8, hl_r125_9, hl_r125_10, hl_r125_11, hl_r125_14, hl_r125_17, hl_r125_18, hl_r125_19, hl_r125_20, hl_r125_23, hl_r125_26, hl_r125_27, hl_r125_28, hl_r125_29, hl_r125_31, hl_r125_33, hl_r125_34, hl_r125_37, hl_r125_40, hl_r125_41, hl_r125_44, hl_r125_46, hl_r125_49, hl_r125_50, hl_r125_53, hl_r125_55, hl_r125_56, hl_r125_59, hl_r125_62, hl_r125_63, hl_r125_64, hl_r125_67, hl_r125_68, hl_r125_71, hl_r125_74, hl_r125_76, hl_r125_77, hl_r125_80, hl_r125_81, hl_r125_82, hl_r125_83, hl_r125_86, hl_r125_89, hl_r125_90, hl_o_0, hl_p_0_3, hl_p_0_4, hl_p_0_5, hl_p_0_7, hl_p_0_8, hl_p_0_9, hl_p_0_10, hl_p_0_11, hl_p_0_12, hl_p_0_13, hl_p_0_14, hl_p_0_15, hM, Int32.le_refl, hl_kill_i, hl_kill_r, hl_kill_n, hl_kill_l, hl_tl_s, hl_tl_n, hl_cal_some, hl_gI, hl_gJ, hl_gsI, hl_gsJ, hl_tv01, if_true, if_false, hl_up_a, hl_row_a]
  | succ f ih =>
    intro i hi
    have c1 : ¬ nI N ≤ nI i := nI_ge (by omega) (by omega)
    have en : nI i + 1 = nI (i + 1) := (nI_succ i).symm
    have b : hl_inb (nI i) N = true := hl_inb_nI (by omega) (by omega)
    have s1 := hl_s49 (d := d) (I := I) (J := J) (show i < N by omega) hN hH hn (by omega)
    have s2 := hl_s48 (d := d + 1) (I := I) (J := J) (show i < N by omega) hN (show hr < 4 by omega)
    rw [hl_mn_congr (B := fun h => hl_pay I i h) (nh - 1) (fun k hk => hA i k (by omega) (by omega))] at s1
    rw [hA i hr (by omega) hhr] at s2
    have e := ih (i + 1) (by omega)
    rw [show hl_sum (i + 1) (hl_ls I nh hr x) = hl_sum i (hl_ls I nh hr x) + hl_ls I nh hr x i from rfl] at e
    unfold hl_ls at e
    by_cases hlt : hl_mn (fun h => hl_pay I i h) (nh - 1) < hl_pay I i hr
    · rw [if_pos hlt] at e
      rw [hl_r125_31]
      by_cases x0 : x = 0
      · rw [if_pos x0] at e
        rw [show (fun c => if hl_mn (fun h => hl_pay I c h) (nh - 1) < hl_pay I c hr then (if x = 0 then I 3 c else 1) else 0) = hl_ls I nh hr x from rfl] at e
        rw [← e]
        simp only [hl_r125_0, hl_r125_1, hl_r125_2, hl_r125_5, hl_r125_8, hl_r125_9, hl_r125_10, hl_r125_11, hl_r125_14, hl_r125_17, hl_r125_18, hl_r125_19, hl_r125_20, hl_r125_23, hl_r125_26, hl_r125_27, hl_r125_28, hl_r125_29, hl_r125_33, hl_r125_34, hl_r125_37, hl_r125_40, hl_r125_41, hl_r125_44, hl_r125_46, hl_r125_49, hl_r125_50, hl_r125_53, hl_r125_55, hl_r125_56, hl_r125_59, hl_r125_62, hl_r125_63, hl_r125_64, hl_r125_67, hl_r125_68, hl_r125_71, hl_r125_74, hl_r125_76, hl_r125_77, hl_r125_80, hl_r125_81, hl_r125_82, hl_r125_83, hl_r125_86, hl_r125_89, hl_r125_90, hl_o_0, hl_p_0_3, hl_p_0_4, hl_p_0_5, hl_p_0_7, hl_p_0_8, hl_p_0_9, hl_p_0_10, hl_p_0_11, hl_p_0_12, hl_p_0_13, hl_p_0_14, hl_p_0_15, hl_o_63, hl_p_63_0, hl_p_63_1, hl_p_63_2, hl_p_63_3, hl_o_1, hl_p_1_0, hl_p_1_1, hl_p_1_2, hl_p_1_3, hl_p_1_4, hl_p_1_5, hl_p_1_6, hl_p_1_7, hl_p_1_9, hl_p_1_14, hl_p_1_15, hl_a_3, hl_z_3, hM, c1, s1, s2, Int32.not_le.mpr hlt, x0, not_true, b, nIc (show i < 2 ^ 31 by omega), en, hl_kill_i, hl_kill_r, hl_kill_n, hl_kill_l, hl_tl_s, hl_tl_n, hl_cal_some, hl_gI, hl_gJ, hl_gsI, hl_gsJ, hl_tv01, if_true, if_false, hl_up_a, hl_row_a]
      · rw [if_neg x0] at e
        rw [show (fun c => if hl_mn (fun h => hl_pay I c h) (nh - 1) < hl_pay I c hr then (if x = 0 then I 3 c else 1) else 0) = hl_ls I nh hr x from rfl] at e
        rw [← e]
        simp only [hl_r125_0, hl_r125_1, hl_r125_2, hl_r125_5, hl_r125_8, hl_r125_9, hl_r125_10, hl_r125_11, hl_r125_14, hl_r125_17, hl_r125_18, hl_r125_19, hl_r125_20, hl_r125_23, hl_r125_26, hl_r125_27, hl_r125_28, hl_r125_29, hl_r125_33, hl_r125_34, hl_r125_37, hl_r125_40, hl_r125_41, hl_r125_44, hl_r125_46, hl_r125_49, hl_r125_50, hl_r125_53, hl_r125_55, hl_r125_56, hl_r125_59, hl_r125_62, hl_r125_63, hl_r125_64, hl_r125_67, hl_r125_68, hl_r125_71, hl_r125_74, hl_r125_76, hl_r125_77, hl_r125_80, hl_r125_81, hl_r125_82, hl_r125_83, hl_r125_86, hl_r125_89, hl_r125_90, hl_o_0, hl_p_0_3, hl_p_0_4, hl_p_0_5, hl_p_0_7, hl_p_0_8, hl_p_0_9, hl_p_0_10, hl_p_0_11, hl_p_0_12, hl_p_0_13, hl_p_0_14, hl_p_0_15, hl_o_63, hl_p_63_0, hl_p_63_1, hl_p_63_2, hl_p_63_3, hl_o_1, hl_p_1_0, hl_p_1_1, hl_p_1_2, hl_p_1_3, hl_p_1_4, hl_p_1_5, hl_p_1_6, hl_p_1_7, hl_p_1_9, hl_p_1_14, hl_p_1_15, hl_a_3, hl_z_3, hM, c1, s1, s2, Int32.not_le.mpr hlt, x0, not_false_eq_true, b, nIc (show i < 2 ^ 31 by omega), en, hl_kill_i, hl_kill_r, hl_kill_n, hl_kill_l, hl_tl_s, hl_tl_n, hl_cal_some, hl_gI, hl_gJ, hl_gsI, hl_gsJ, hl_tv01, if_true, if_false, hl_up_a, hl_row_a]
    · rw [if_neg hlt, Int32.add_zero] at e
      rw [show (fun c => if hl_mn (fun h => hl_pay I c h) (nh - 1) < hl_pay I c hr then (if x = 0 then I 3 c else 1) else 0) = hl_ls I nh hr x from rfl] at e
      rw [hl_r125_31, ← e]
      simp only [hl_r125_0, hl_r125_1, hl_r125_2, hl_r125_5, hl_r125_8, hl_r125_9, hl_r125_10, hl_r125_11, hl_r125_14, hl_r125_17, hl_r125_18, hl_r125_19, hl_r125_20, hl_r125_23, hl_r125_26, hl_r125_27, hl_r125_28, hl_r125_29, hl_r125_33, hl_r125_34, hl_r125_37, hl_r125_40, hl_r125_41, hl_r125_44, hl_r125_46, hl_r125_49, hl_r125_50, hl_r125_53, hl_r125_55, hl_r125_56, hl_r125_59, hl_r125_62, hl_r125_63, hl_r125_64, hl_r125_67, hl_r125_68, hl_r125_71, hl_r125_74, hl_r125_76, hl_r125_77, hl_r125_80, hl_r125_81, hl_r125_82, hl_r125_83, hl_r125_86, hl_r125_89, hl_r125_90, hl_o_0, hl_p_0_3, hl_p_0_4, hl_p_0_5, hl_p_0_7, hl_p_0_8, hl_p_0_9, hl_p_0_10, hl_p_0_11, hl_p_0_12, hl_p_0_13, hl_p_0_14, hl_p_0_15, hl_o_63, hl_p_63_0, hl_p_63_1, hl_p_63_2, hl_p_63_3, hl_o_1, hl_p_1_0, hl_p_1_1, hl_p_1_2, hl_p_1_3, hl_p_1_4, hl_p_1_5, hl_p_1_6, hl_p_1_7, hl_p_1_9, hl_p_1_14, hl_p_1_15, hl_a_3, hl_z_3, hM, c1, s1, s2, Int32.not_lt.mp hlt, en, hl_kill_i, hl_kill_r, hl_kill_n, hl_kill_l, hl_tl_s, hl_tl_n, hl_cal_some, hl_gI, hl_gJ, hl_gsI, hl_gsJ, hl_tv01, if_true, if_false, hl_up_a, hl_row_a]
theorem hl_l240i {hr c : Nat} {x n : Int32} (hCo : hl_Co N W H Is) (hN : N ≤ 24) (hs : hl_Sv Is 86 0 = (nh : Int)) (hm : Is 86 0 = nI nh) (hn : nh ≤ 4) (hhr : hr < nh) (hc : c < N) (f : Nat) : ∀ (I : Nat → Nat → Int32) (J : Nat → Nat → Int64) k, k + f = nh → hl_vw Is I → ∃ I' J', hl_Run 240 (hl_call (d + 6)) 39 [.ref 85, .int (nI hr), .int x, .int n, .int (nI c), .int (hl_tv (hl_any (fun h => decide (hl_pay Is c h < hl_pay Is c hr)) k)), .int (nI k)] [] (hl_g N I J) = hl_Run 240 (hl_call (d + 6)) 86 [.ref 85, .int (nI hr), .int x, .int n, .int (nI c), .int (hl_tv (hl_any (fun h => decide (hl_pay Is c h < hl_pay Is c hr)) nh)), .int (nI nh)] [] (hl_g N I' J') ∧ hl_r9 I I' ∧ hl_j9 J J' := by
  induction f with
  | zero =>
    intro I J k hk hv
    obtain rfl : k = nh := by omega
    refine ⟨I, J, ?_, hl_r9_rf I, hl_j9_rf J⟩
    have e0 : I 86 0 = nI k := by rw [hv.2.1]; exact hm
    simp only [hl_r240_39, hl_r240_41, hl_r240_42, hl_r240_45, hl_r240_46, hl_r240_47, hl_o_85, hl_p_85_3, hl_p_85_4, hl_p_85_5, hl_p_85_6, hl_p_85_19, hl_p_85_23, hl_p_85_24, hl_p_85_25, hl_p_85_26, hl_p_85_27, hl_p_85_28, hl_p_85_29, hl_p_85_30, hl_p_85_31, hl_p_85_33, hl_p_85_34, hl_p_85_35, hl_p_85_36, hl_p_85_37, hl_a_86, hl_z_86, hl_k0, hl_v0, e0, Int32.le_refl, hl_kill_i, hl_kill_r, hl_kill_n, hl_kill_l, hl_tl_s, hl_tl_n, hl_cal_some, hl_gI, hl_gJ, hl_gsI, hl_gsJ, hl_tv01, if_true, if_false, hl_up_a, hl_row_a]
  | succ f ih =>
    intro I J k hk hv
    have e0 : I 86 0 = nI nh := by rw [hv.2.1]; exact hm
    have c1 : ¬ nI nh ≤ nI k := nI_ge (by omega) (by omega)
    have en : nI k + 1 = nI (k + 1) := (nI_succ k).symm
    cases ha : hl_any (fun h => decide (hl_pay Is c h < hl_pay Is c hr)) k with
    | true =>
      obtain ⟨I3, J3, e3, r3, j3⟩ := ih I J (k + 1) (by omega) hv
      refine ⟨I3, J3, ?_, r3, j3⟩
      rw [← e3, show hl_any (fun h => decide (hl_pay Is c h < hl_pay Is c hr)) (k + 1) = true by unfold hl_any; rw [ha]; rfl, hl_r240_39]
      simp only [hl_r240_41, hl_r240_42, hl_r240_45, hl_r240_46, hl_r240_47, hl_r240_50, hl_r240_52, hl_r240_73, hl_r240_74, hl_r240_78, hl_r240_80, hl_r240_83, hl_o_85, hl_p_85_3, hl_p_85_4, hl_p_85_5, hl_p_85_6, hl_p_85_19, hl_p_85_23, hl_p_85_24, hl_p_85_25, hl_p_85_26, hl_p_85_27, hl_p_85_28, hl_p_85_29, hl_p_85_30, hl_p_85_31, hl_p_85_33, hl_p_85_34, hl_p_85_35, hl_p_85_36, hl_p_85_37, hl_a_86, hl_z_86, hl_k0, hl_v0, e0, c1, hl_tv_t, hl_10, not_false_eq_true, en, hl_kill_i, hl_kill_r, hl_kill_n, hl_kill_l, hl_tl_s, hl_tl_n, hl_cal_some, hl_gI, hl_gJ, hl_gsI, hl_gsJ, hl_tv01, if_true, if_false, hl_up_a, hl_row_a]
    | false =>
      obtain ⟨I1, J1, e1, r1, j1⟩ := hl_s209 (d := d) (J := J) hCo hv hN hc (show (k : Int) < hl_Sv Is 86 0 by omega)
      have hv1 := hl_vw_tr hv r1.vw
      obtain ⟨I2, J2, e2, r2, j2⟩ := hl_s209 (d := d) (J := J1) hCo hv1 hN hc (show (hr : Int) < hl_Sv Is 86 0 by omega)
      have hv2 := hl_vw_tr hv1 r2.vw
      obtain ⟨I3, J3, e3, r3, j3⟩ := ih I2 J2 (k + 1) (by omega) hv2
      refine ⟨I3, J3, ?_, hl_r9_tr r1 (hl_r9_tr r2 r3), hl_j9_tr j1 (hl_j9_tr j2 j3)⟩
      by_cases hlt : hl_pay Is c k < hl_pay Is c hr
      · rw [← e3, show hl_any (fun h => decide (hl_pay Is c h < hl_pay Is c hr)) (k + 1) = true by unfold hl_any; rw [decide_eq_true hlt, Bool.or_true], hl_r240_39]
        simp only [hl_r240_41, hl_r240_42, hl_r240_45, hl_r240_46, hl_r240_47, hl_r240_50, hl_r240_52, hl_r240_55, hl_r240_56, hl_r240_58, hl_r240_60, hl_r240_63, hl_r240_64, hl_r240_66, hl_r240_67, hl_r240_70, hl_r240_73, hl_r240_74, hl_r240_78, hl_r240_80, hl_r240_83, hl_o_85, hl_p_85_3, hl_p_85_4, hl_p_85_5, hl_p_85_6, hl_p_85_19, hl_p_85_23, hl_p_85_24, hl_p_85_25, hl_p_85_26, hl_p_85_27, hl_p_85_28, hl_p_85_29, hl_p_85_30, hl_p_85_31, hl_p_85_33, hl_p_85_34, hl_p_85_35, hl_p_85_36, hl_p_85_37, hl_a_86, hl_z_86, hl_k0, hl_v0, e0, c1, hl_tv_f, hl_tv_t, not_true, e1, e2, Int32.not_le.mpr hlt, en, hl_kill_i, hl_kill_r, hl_kill_n, hl_kill_l, hl_tl_s, hl_tl_n, hl_cal_some, hl_gI, hl_gJ, hl_gsI, hl_gsJ, hl_tv01, if_true, if_false, hl_up_a, hl_row_a]
      · rw [← e3, show hl_any (fun h => decide (hl_pay Is c h < hl_pay Is c hr)) (k + 1) = false by unfold hl_any; rw [ha, decide_eq_false hlt]; rfl, hl_r240_39]
        simp only [hl_r240_41, hl_r240_42, hl_r240_45, hl_r240_46, hl_r240_47, hl_r240_50, hl_r240_52, hl_r240_55, hl_r240_56, hl_r240_58, hl_r240_60, hl_r240_63, hl_r240_64, hl_r240_66, hl_r240_67, hl_r240_70, hl_r240_77, hl_r240_78, hl_r240_80, hl_r240_83, hl_o_85, hl_p_85_3, hl_p_85_4, hl_p_85_5, hl_p_85_6, hl_p_85_19, hl_p_85_23, hl_p_85_24, hl_p_85_25, hl_p_85_26, hl_p_85_27, hl_p_85_28, hl_p_85_29, hl_p_85_30, hl_p_85_31, hl_p_85_33, hl_p_85_34, hl_p_85_35, hl_p_85_36, hl_p_85_37, hl_a_86, hl_z_86, hl_k0, hl_v0, e0, c1, hl_tv_f, not_true, e1, e2, Int32.not_lt.mp hlt, en, hl_kill_i, hl_kill_r, hl_kill_n, hl_kill_l, hl_tl_s, hl_tl_n, hl_cal_some, hl_gI, hl_gJ, hl_gsI, hl_gsJ, hl_tv01, if_true, if_false, hl_up_a, hl_row_a]
theorem hl_ls_any {hr c : Nat} {x : Int32} (hhr : hr < nh) : hl_ls I nh hr x c = if hl_any (fun h => decide (hl_pay I c h < hl_pay I c hr)) nh = true then (if x = 0 then I 3 c else 1) else 0 := by
  unfold hl_ls
  by_cases q : hl_mn (fun h => hl_pay I c h) (nh - 1) < hl_pay I c hr
  · rw [if_pos q]
    obtain ⟨h, h1, h2⟩ := (hl_mn_lt _).mp q
    have a : hl_any (fun h => decide (hl_pay I c h < hl_pay I c hr)) nh = true := (hl_any_iff (p := fun h => decide (hl_pay I c h < hl_pay I c hr)) nh).mpr ⟨h, by omega, decide_eq_true h2⟩
    rw [a]
    exact (if_pos rfl).symm
  · rw [if_neg q]
    cases a : hl_any (fun h => decide (hl_pay I c h < hl_pay I c hr)) nh with
    | false => exact (if_neg (by decide)).symm
    | true =>
      obtain ⟨h, h1, h2⟩ := (hl_any_iff (p := fun h => decide (hl_pay I c h < hl_pay I c hr)) nh).mp a
      exact absurd ((hl_mn_lt (nh - 1)).mpr ⟨h, by omega, of_decide_eq_true h2⟩) q
theorem hl_l240 {hr : Nat} {x : Int32} (hCo : hl_Co N W H Is) (hN : N ≤ 24) (hs : hl_Sv Is 86 0 = (nh : Int)) (hm : Is 86 0 = nI nh) (hn : nh ≤ 4) (hhr : hr < nh) (f : Nat) : ∀ (I : Nat → Nat → Int32) (J : Nat → Nat → Int64) (i : Nat) (l5 l6 : Value), i + f = N → hl_vw Is I → ∃ I' J', hl_Run 240 (hl_call (d + 6)) 24 [.ref 85, .int (nI hr), .int x, .int (hl_sum i (hl_ls Is nh hr x)), .int (nI i), l5, l6] [] (hl_g N I J) = some (some (.int (hl_sum N (hl_ls Is nh hr x))), hl_g N I' J') ∧ hl_r9 I I' ∧ hl_j9 J J' := by
  induction f with
  | zero =>
    intro I J i l5 l6 hi hv
    obtain rfl : i = N := by omega
    refine ⟨I, J, ?_, hl_r9_rf I, hl_j9_rf J⟩
    have e2 : I 85 2 = nI i := (hv.1 2 (by omega)).trans hCo.mM
    simp only [hl_r240_24, hl_r240_26, hl_r240_27, hl_r240_30, hl_r240_119, hl_r240_120, hl_o_85, hl_p_85_3, hl_p_85_4, hl_p_85_5, hl_p_85_6, hl_p_85_19, hl_p_85_23, hl_p_85_24, hl_p_85_25, hl_p_85_26, hl_p_85_27, hl_p_85_28, hl_p_85_29, hl_p_85_30, hl_p_85_31, hl_p_85_33, hl_p_85_34, hl_p_85_35, hl_p_85_36, hl_p_85_37, e2, Int32.le_refl, hl_kill_i, hl_kill_r, hl_kill_n, hl_kill_l, hl_tl_s, hl_tl_n, hl_cal_some, hl_gI, hl_gJ, hl_gsI, hl_gsJ, hl_tv01, if_true, if_false, hl_up_a, hl_row_a]
  | succ f ih =>
    intro I J i l5 l6 hi hv
    have e2 : I 85 2 = nI N := (hv.1 2 (by omega)).trans hCo.mM
    have c1 : ¬ nI N ≤ nI i := nI_ge (by omega) (by omega)
    have en : nI i + 1 = nI (i + 1) := (nI_succ i).symm
    obtain ⟨I1, J1, e1, r1, j1⟩ := hl_l240i (d := d) (x := x) (n := hl_sum i (hl_ls Is nh hr x)) hCo hN hs hm hn hhr (show i < N by omega) nh I J 0 (by omega) hv
    have hv1 := hl_vw_tr hv r1.vw
    obtain ⟨I2, J2, e3, r2, j2⟩ := ih I1 J1 (i + 1) (.int (hl_tv (hl_any (fun h => decide (hl_pay Is i h < hl_pay Is i hr)) nh))) (.int (nI nh)) (by omega) hv1
    refine ⟨I2, J2, ?_, hl_r9_tr r1 r2, hl_j9_tr j1 j2⟩
    rw [show hl_tv (hl_any (fun h => decide (hl_pay Is i h < hl_pay Is i hr)) 0) = 0 from rfl, show nI 0 = 0 from rfl] at e1
    have st : hl_Run 240 (hl_call (d + 6)) 24 [.ref 85, .int (nI hr), .int x, .int (hl_sum i (hl_ls Is nh hr x)), .int (nI i), l5, l6] [] (hl_g N I J) = hl_Run 240 (hl_call (d + 6)) 86 [.ref 85, .int (nI hr), .int x, .int (hl_sum i (hl_ls Is nh hr x)), .int (nI i), .int (hl_tv (hl_any (fun h => decide (hl_pay Is i h < hl_pay Is i hr)) nh)), .int (nI nh)] [] (hl_g N I1 J1) := by
      rw [← e1]
      simp only [hl_r240_24, hl_r240_26, hl_r240_27, hl_r240_30, hl_r240_33, hl_r240_34, hl_r240_36, hl_r240_37, hl_o_85, hl_p_85_3, hl_p_85_4, hl_p_85_5, hl_p_85_6, hl_p_85_19, hl_p_85_23, hl_p_85_24, hl_p_85_25, hl_p_85_26, hl_p_85_27, hl_p_85_28, hl_p_85_29, hl_p_85_30, hl_p_85_31, hl_p_85_33, hl_p_85_34, hl_p_85_35, hl_p_85_36, hl_p_85_37, e2, c1, hl_kill_i, hl_kill_r, hl_kill_n, hl_kill_l, hl_tl_s, hl_tl_n, hl_cal_some, hl_gI, hl_gJ, hl_gsI, hl_gsJ, hl_tv01, if_true, if_false, hl_up_a, hl_row_a]
    have o1 : hl_call (d + 6) 155 [.ref 85, .int (nI i), .int 1] (hl_g N I1 J1) = some (some (.int (Is 3 i)), hl_g N I1 J1) := by
      rw [hl_of1 (d := d + 5) (by omega), hv1.2.1, hCo.people hN (by omega)]
    rw [st, ← e3, show hl_sum (i + 1) (hl_ls Is nh hr x) = hl_sum i (hl_ls Is nh hr x) + hl_ls Is nh hr x i from rfl, hl_ls_any hhr]
    cases ha : hl_any (fun h => decide (hl_pay Is i h < hl_pay Is i hr)) nh with
    | true =>
      by_cases x0 : x = 0
      · simp only [hl_r240_86, hl_r240_87, hl_r240_89, hl_r240_92, hl_r240_93, hl_r240_96, hl_r240_97, hl_r240_99, hl_r240_100, hl_r240_103, hl_r240_111, hl_r240_112, hl_r240_113, hl_r240_116, hl_o_85, hl_p_85_3, hl_p_85_4, hl_p_85_5, hl_p_85_6, hl_p_85_19, hl_p_85_23, hl_p_85_24, hl_p_85_25, hl_p_85_26, hl_p_85_27, hl_p_85_28, hl_p_85_29, hl_p_85_30, hl_p_85_31, hl_p_85_33, hl_p_85_34, hl_p_85_35, hl_p_85_36, hl_p_85_37, hl_tv_t, hl_10, x0, not_true, o1, en, hl_kill_i, hl_kill_r, hl_kill_n, hl_kill_l, hl_tl_s, hl_tl_n, hl_cal_some, hl_gI, hl_gJ, hl_gsI, hl_gsJ, hl_tv01, if_true, if_false, hl_up_a, hl_row_a]
      · simp only [hl_r240_86, hl_r240_87, hl_r240_89, hl_r240_92, hl_r240_93, hl_r240_106, hl_r240_107, hl_r240_111, hl_r240_112, hl_r240_113, hl_r240_116, hl_o_85, hl_p_85_3, hl_p_85_4, hl_p_85_5, hl_p_85_6, hl_p_85_19, hl_p_85_23, hl_p_85_24, hl_p_85_25, hl_p_85_26, hl_p_85_27, hl_p_85_28, hl_p_85_29, hl_p_85_30, hl_p_85_31, hl_p_85_33, hl_p_85_34, hl_p_85_35, hl_p_85_36, hl_p_85_37, hl_tv_t, hl_10, x0, not_false_eq_true, en, hl_kill_i, hl_kill_r, hl_kill_n, hl_kill_l, hl_tl_s, hl_tl_n, hl_cal_some, hl_gI, hl_gJ, hl_gsI, hl_gsJ, hl_tv01, if_true, if_false, hl_up_a, hl_row_a]
    | false =>
      simp only [hl_r240_86, hl_r240_87, hl_r240_89, hl_r240_110, hl_r240_111, hl_r240_112, hl_r240_113, hl_r240_116, hl_o_85, hl_p_85_3, hl_p_85_4, hl_p_85_5, hl_p_85_6, hl_p_85_19, hl_p_85_23, hl_p_85_24, hl_p_85_25, hl_p_85_26, hl_p_85_27, hl_p_85_28, hl_p_85_29, hl_p_85_30, hl_p_85_31, hl_p_85_33, hl_p_85_34, hl_p_85_35, hl_p_85_36, hl_p_85_37, hl_tv_f, Bool.false_eq_true, en, hl_kill_i, hl_kill_r, hl_kill_n, hl_kill_l, hl_tl_s, hl_tl_n, hl_cal_some, hl_gI, hl_gJ, hl_gsI, hl_gsJ, hl_tv01, if_true, if_false, hl_up_a, hl_row_a]
theorem hl_pr20 (hN : N ≤ 24) (f : Nat → Int32) : hl_PQ hl_TX N W H 125 240 (hl_args 20 f) := by
  refine hl_PQ_read hl_TXc fun I J hI => ?_
  obtain ⟨nh, h4, hc1, hm1, hs1⟩ := hI.nh
  show ∃ v I1 J1 I2 J2, hl_call 1001 125 [.ref 0, .int (f 1), .int (f 2)] (hl_g N I J) = some (some (.int v), hl_g N I1 J1) ∧ hl_call 1001 240 [.ref 85, .int (f 1), .int (f 2)] (hl_g N I1 J1) = some (some (.int v), hl_g N I2 J2) ∧ _
  have P := hI.2.2.2.2.1
  have bh : nh < 2 ^ 31 := by omega
  have k139 := hl_s139 (d := 998) (N := N) (I := I) (J := J) (x := f 1) hc1 bh
  cases g1 : hl_inb (f 1) nh with
  | false =>
    have k154 := hl_s154 (d := 998) (N := N) (I := I) (J := J) (x := f 1) hm1 bh
    rw [g1] at k139 k154
    refine ⟨-1, I, J, I, J, ?_, ?_, hl_Tm_rf I, P, hl_Tm_rf I, rfl, rfl⟩
    · rw [hl_e125 (d := 1000)]; simp only [hl_r125_0, hl_r125_1, hl_r125_2, hl_r125_5, hl_r125_8, hl_r125_9, hl_r125_10, hl_r125_11, hl_r125_14, hl_r125_17, hl_r125_18, hl_r125_19, hl_r125_20, hl_r125_23, hl_r125_26, hl_r125_27, hl_r125_28, hl_r125_29, hl_r125_33, hl_r125_34, hl_r125_37, hl_r125_40, hl_r125_41, hl_r125_44, hl_r125_46, hl_r125_49, hl_r125_50, hl_r125_53, hl_r125_55, hl_r125_56, hl_r125_59, hl_r125_62, hl_r125_63, hl_r125_64, hl_r125_67, hl_r125_68, hl_r125_71, hl_r125_74, hl_r125_76, hl_r125_77, hl_r125_80, hl_r125_81, hl_r125_82, hl_r125_83, hl_r125_86, hl_r125_89, hl_r125_90, hl_o_0, hl_p_0_3, hl_p_0_4, hl_p_0_5, hl_p_0_7, hl_p_0_8, hl_p_0_9, hl_p_0_10, hl_p_0_11, hl_p_0_12, hl_p_0_13, hl_p_0_14, hl_p_0_15, k139, hl_tv_f, hl_kill_i, hl_kill_r, hl_kill_n, hl_kill_l, hl_tl_s, hl_tl_n, hl_cal_some, hl_gI, hl_gJ, hl_gsI, hl_gsJ, hl_tv01, if_true, if_false, hl_up_a, hl_row_a]
    · rw [hl_e240 (d := 1000)]; simp only [hl_r240_0, hl_r240_1, hl_r240_2, hl_r240_5, hl_r240_8, hl_r240_9, hl_r240_10, hl_r240_11, hl_r240_14, hl_r240_17, hl_r240_18, hl_r240_19, hl_r240_20, hl_r240_21, hl_r240_22, hl_r240_26, hl_r240_27, hl_r240_30, hl_r240_33, hl_r240_34, hl_r240_36, hl_r240_37, hl_r240_39, hl_r240_41, hl_r240_42, hl_r240_45, hl_r240_46, hl_r240_47, hl_r240_50, hl_r240_52, hl_r240_55, hl_r240_56, hl_r240_58, hl_r240_60, hl_r240_63, hl_r240_64, hl_r240_66, hl_r240_67, hl_r240_70, hl_r240_73, hl_r240_74, hl_r240_77, hl_r240_78, hl_r240_80, hl_r240_83, hl_r240_86, hl_r240_87, hl_r240_89, hl_r240_92, hl_r240_93, hl_r240_96, hl_r240_97, hl_r240_99, hl_r240_100, hl_r240_103, hl_r240_106, hl_r240_107, hl_r240_110, hl_r240_111, hl_r240_112, hl_r240_113, hl_r240_116, hl_r240_119, hl_r240_120, hl_o_85, hl_p_85_3, hl_p_85_4, hl_p_85_5, hl_p_85_6, hl_p_85_19, hl_p_85_23, hl_p_85_24, hl_p_85_25, hl_p_85_26, hl_p_85_27, hl_p_85_28, hl_p_85_29, hl_p_85_30, hl_p_85_31, hl_p_85_33, hl_p_85_34, hl_p_85_35, hl_p_85_36, hl_p_85_37, k154, hl_tv_f, hl_kill_i, hl_kill_r, hl_kill_n, hl_kill_l, hl_tl_s, hl_tl_n, hl_cal_some, hl_gI, hl_gJ, hl_gsI, hl_gsJ, hl_tv01, if_true, if_false, hl_up_a, hl_row_a]
  | true =>
    cases g2 : hl_in (f 2) 0 1 with
    | false =>
      have k154 := hl_s154 (d := 998) (N := N) (I := I) (J := J) (x := f 1) hm1 bh
      rw [g1] at k139 k154
      refine ⟨-1, I, J, I, J, ?_, ?_, hl_Tm_rf I, P, hl_Tm_rf I, rfl, rfl⟩
      · rw [hl_e125 (d := 1000)]; simp only [hl_r125_0, hl_r125_1, hl_r125_2, hl_r125_5, hl_r125_8, hl_r125_9, hl_r125_10, hl_r125_11, hl_r125_14, hl_r125_17, hl_r125_18, hl_r125_19, hl_r125_20, hl_r125_23, hl_r125_26, hl_r125_27, hl_r125_28, hl_r125_29, hl_r125_33, hl_r125_34, hl_r125_37, hl_r125_40, hl_r125_41, hl_r125_44, hl_r125_46, hl_r125_49, hl_r125_50, hl_r125_53, hl_r125_55, hl_r125_56, hl_r125_59, hl_r125_62, hl_r125_63, hl_r125_64, hl_r125_67, hl_r125_68, hl_r125_71, hl_r125_74, hl_r125_76, hl_r125_77, hl_r125_80, hl_r125_81, hl_r125_82, hl_r125_83, hl_r125_86, hl_r125_89, hl_r125_90, hl_o_0, hl_p_0_3, hl_p_0_4, hl_p_0_5, hl_p_0_7, hl_p_0_8, hl_p_0_9, hl_p_0_10, hl_p_0_11, hl_p_0_12, hl_p_0_13, hl_p_0_14, hl_p_0_15, k139, hl_tv_t, hl_10, not_true, hl_s147, g2, hl_tv_f, hl_kill_i, hl_kill_r, hl_kill_n, hl_kill_l, hl_tl_s, hl_tl_n, hl_cal_some, hl_gI, hl_gJ, hl_gsI, hl_gsJ, hl_tv01, if_true, if_false, hl_up_a, hl_row_a]
      · rw [hl_e240 (d := 1000)]; simp only [hl_r240_0, hl_r240_1, hl_r240_2, hl_r240_5, hl_r240_8, hl_r240_9, hl_r240_10, hl_r240_11, hl_r240_14, hl_r240_17, hl_r240_18, hl_r240_19, hl_r240_20, hl_r240_21, hl_r240_22, hl_r240_26, hl_r240_27, hl_r240_30, hl_r240_33, hl_r240_34, hl_r240_36, hl_r240_37, hl_r240_39, hl_r240_41, hl_r240_42, hl_r240_45, hl_r240_46, hl_r240_47, hl_r240_50, hl_r240_52, hl_r240_55, hl_r240_56, hl_r240_58, hl_r240_60, hl_r240_63, hl_r240_64, hl_r240_66, hl_r240_67, hl_r240_70, hl_r240_73, hl_r240_74, hl_r240_77, hl_r240_78, hl_r240_80, hl_r240_83, hl_r240_86, hl_r240_87, hl_r240_89, hl_r240_92, hl_r240_93, hl_r240_96, hl_r240_97, hl_r240_99, hl_r240_100, hl_r240_103, hl_r240_106, hl_r240_107, hl_r240_110, hl_r240_111, hl_r240_112, hl_r240_113, hl_r240_116, hl_r240_119, hl_r240_120, hl_o_85, hl_p_85_3, hl_p_85_4, hl_p_85_5, hl_p_85_6, hl_p_85_19, hl_p_85_23, hl_p_85_24, hl_p_85_25, hl_p_85_26, hl_p_85_27, hl_p_85_28, hl_p_85_29, hl_p_85_30, hl_p_85_31, hl_p_85_33, hl_p_85_34, hl_p_85_35, hl_p_85_36, hl_p_85_37, k154, hl_tv_t, hl_10, not_true, hl_s151, g2, hl_tv_f, hl_kill_i, hl_kill_r, hl_kill_n, hl_kill_l, hl_tl_s, hl_tl_n, hl_cal_some, hl_gI, hl_gJ, hl_gsI, hl_gsJ, hl_tv01, if_true, if_false, hl_up_a, hl_row_a]
    | true =>
      obtain ⟨hr, hhr, eh⟩ := hl_inb_of g1 bh
      obtain ⟨I1, e1, F⟩ := hl_s45 (d := 994) (J := J) hI hN h4 hc1 hs1
      have tm := F.tm
      have hCo := hl_Co_t hI.co tm
      have hs1' : hl_Sv I1 86 0 = (nh : Int) := (F.sv (by omega)).trans hs1
      have hc1' : I1 1 8 = nI nh := by rw [tm.1 1 (by omega)]; exact hc1
      have hm1' : I1 86 0 = nI nh := by rw [tm.2.2.2 86 (by omega) (by omega)]; exact hm1
      have k154 := hl_s154 (d := 998) (N := N) (I := I1) (J := J) (x := f 1) hm1' bh
      rw [g1] at k139 k154
      rw [eh] at k139 k154 ⊢
      have l1 := hl_l125 (d := 998) (I := I1) (J := J) (x := f 2) hN hCo.cM hc1' h4 hhr (fun c h hc hh => by rw [(F.2 c hc).2 h hh, (tm.pd c).pay]) N 0 (by omega)
      obtain ⟨I2, J2, l2, r2, j2⟩ := hl_l240 (d := 994) (x := f 2) hCo hN hs1' hm1' h4 hhr N I1 J 0 .null .null (by omega) (hl_vw_rf I1)
      rw [show hl_sum 0 (hl_ls I1 nh hr (f 2)) = 0 from rfl, show nI 0 = 0 from rfl] at l1 l2
      refine ⟨hl_sum N (hl_ls I1 nh hr (f 2)), I1, J, I2, J2, ?_, ?_, tm, F.pu hs1, r2.tm, r2 64 (by decide) (by decide), r2 65 (by decide) (by decide)⟩
      · rw [← l1, hl_e125 (d := 1000)]
        simp only [hl_r125_0, hl_r125_1, hl_r125_2, hl_r125_5, hl_r125_8, hl_r125_9, hl_r125_10, hl_r125_11, hl_r125_14, hl_r125_19, hl_r125_20, hl_r125_23, hl_r125_26, hl_r125_27, hl_r125_28, hl_r125_29, hl_o_0, hl_p_0_3, hl_p_0_4, hl_p_0_5, hl_p_0_7, hl_p_0_8, hl_p_0_9, hl_p_0_10, hl_p_0_11, hl_p_0_12, hl_p_0_13, hl_p_0_14, hl_p_0_15, hl_o_63, hl_p_63_0, hl_p_63_1, hl_p_63_2, hl_p_63_3, k139, hl_s147, g2, hl_tv_t, hl_10, not_false_eq_true, e1, hl_tl_n, hl_kill_i, hl_kill_r, hl_kill_n, hl_kill_l, hl_tl_s, hl_tl_n, hl_cal_some, hl_gI, hl_gJ, hl_gsI, hl_gsJ, hl_tv01, if_true, if_false, hl_up_a, hl_row_a]
      · rw [← l2, hl_e240 (d := 1000)]
        simp only [hl_r240_0, hl_r240_1, hl_r240_2, hl_r240_5, hl_r240_8, hl_r240_9, hl_r240_10, hl_r240_11, hl_r240_14, hl_r240_19, hl_r240_20, hl_r240_21, hl_r240_22, hl_o_85, hl_p_85_3, hl_p_85_4, hl_p_85_5, hl_p_85_6, hl_p_85_19, hl_p_85_23, hl_p_85_24, hl_p_85_25, hl_p_85_26, hl_p_85_27, hl_p_85_28, hl_p_85_29, hl_p_85_30, hl_p_85_31, hl_p_85_33, hl_p_85_34, hl_p_85_35, hl_p_85_36, hl_p_85_37, k154, hl_s151, g2, hl_tv_t, hl_10, not_false_eq_true, hl_kill_i, hl_kill_r, hl_kill_n, hl_kill_l, hl_tl_s, hl_tl_n, hl_cal_some, hl_gI, hl_gJ, hl_gsI, hl_gsJ, hl_tv01, if_true, if_false, hl_up_a, hl_row_a]
end HLONE
