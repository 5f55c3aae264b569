/-! the pair many -/
section HXMANY2
variable {d N W H nh cn k : Nat} {I Is I1 I2 I' : Nat → Nat → Int32} {J J' : Nat → Nat → Int64} {wh : Bool} {x y s : Int32} {P : Nat → Option Nat}
theorem hx_least3 (h : hx_Rd N W H nh cn I1) (hP : hx_Al N nh cn I1 wh P) (hv : hl_vw I1 I) {t u : Nat} (hb : hx_bst P k (2 ^ nh - 1) = some (t, u)) : ∃ I' J', hl_call (d + 7) 230 [.ref 85, .int (nI t), .int (hl_tv wh), .int (-1), .int (-1)] (hl_g N I J) = some (some (.long (hx_ol (some u))), hl_g N I' J') ∧ hx_fR I I' ∧ u < 1000000000 := by
  have h2 := hx_2q h.2.2.2.1.1
  obtain ⟨t1, t2, t3⟩ := hx_bst_in _ t u hb
  obtain ⟨hr, S⟩ := hP t t1 (by omega)
  rw [t3] at S
  obtain ⟨I2, J2, e2, -, f2, -⟩ := hx_least1 (d := d) (J := J) h hv (hx_chs1 nh (by have := h.2.2.2.1.1; omega) t (by omega) t1 (by omega)) S
  exact ⟨I2, J2, e2, f2, hx_Sol_B S⟩
theorem hx_pr18 (hN : N ≤ 24) (f : Nat → Int32) : hl_PQ hl_TX N W H 123 237 (hl_args 18 f) := by
  refine hl_PQ_read hl_TXc fun I J hI => ?_
  obtain ⟨wh, ew⟩ := hx_bz (f 2)
  show ∃ v I1 J1 I2 J2, hl_call 1001 123 [.ref 0, .int (f 1), .int (hl_bz (f 2)), .int (f 3)] (hl_g N I J) = some (some (.int v), hl_g N I1 J1) ∧ hl_call 1001 237 [.ref 85, .int (f 1), .int (hl_bz (f 2)), .int (f 3)] (hl_g N I1 J1) = some (some (.int v), hl_g N I2 J2) ∧ _
  rw [ew]
  generalize f 3 = z
  generalize hk1 : f 1 = k1
  have PU := hI.2.2.2.2.1
  obtain ⟨nh, cn, I1, e1, tm, R, hc1, hm1, hc2, hm2⟩ := hx_refresh (d := 994) hI hN J
  have h4 := R.2.2.2.1.1
  have h2 := hx_2q h4
  cases g1 : hl_in k1 1 (nI nh) with
  | false =>
    refine ⟨-1, I, J, I, J, ?_, ?_, hl_Tm_rf I, PU, hl_Tm_rf I, rfl, rfl⟩
    · rw [hl_e123 (d := 1000)]; simp only [hl_r123_0, hl_r123_1, hl_r123_2, hl_r123_3, hl_r123_6, hl_r123_9, hl_r123_12, hl_r123_15, hl_r123_16, hl_r123_17, hl_r123_18, hl_r123_21, hl_r123_24, hl_r123_25, hl_r123_26, hl_r123_29, hl_r123_30, hl_r123_31, hl_r123_34, hl_r123_35, hl_o_0, hl_p_0_3, hl_p_0_4, hl_p_0_5, hl_p_0_7, hl_p_0_8, hl_p_0_9, hl_p_0_10, hl_p_0_11, hl_p_0_12, hl_p_0_13, hl_p_0_14, hl_p_0_15, hl_o_1, hl_p_1_0, hl_p_1_1, hl_p_1_2, hl_p_1_3, hl_p_1_4, hl_p_1_5, hl_p_1_6, hl_p_1_7, hl_p_1_9, hl_p_1_14, hl_p_1_15, hc1, hl_s147, g1, hl_tv_f, hl_kill_i, hl_kill_r, hl_kill_n, hl_kill_l, hl_tl_s, hl_tl_n, hl_cal_some, hl_gI, hl_gJ, hl_gsI, hl_gsJ, hl_tv01, if_true, if_false, hl_up_a, hl_row_a, not_true, not_false_eq_true]
    · rw [hl_e237 (d := 1000)]; simp only [hl_r237_0, hl_r237_1, hl_r237_2, hl_r237_3, hl_r237_6, hl_r237_7, hl_r237_8, hl_r237_11, hl_r237_14, hl_r237_15, hl_r237_16, hl_r237_17, hl_r237_20, hl_r237_23, hl_r237_24, hl_r237_25, hl_r237_28, hl_r237_29, hl_r237_30, hl_r237_33, hl_r237_34, hl_o_85, hl_p_85_3, hl_p_85_4, hl_p_85_5, hl_p_85_6, hl_p_85_19, hl_p_85_23, hl_p_85_24, hl_p_85_25, hl_p_85_26, hl_p_85_27, hl_p_85_28, hl_p_85_29, hl_p_85_30, hl_p_85_31, hl_p_85_33, hl_p_85_34, hl_p_85_35, hl_p_85_36, hl_p_85_37, hl_a_86, hl_z_86, hl_k0, hl_v0, hm1, hl_s151, g1, hl_tv_f, hl_kill_i, hl_kill_r, hl_kill_n, hl_kill_l, hl_tl_s, hl_tl_n, hl_cal_some, hl_gI, hl_gJ, hl_gsI, hl_gsJ, hl_tv01, if_true, if_false, hl_up_a, hl_row_a, not_true, not_false_eq_true]
  | true =>
    cases g2 : hl_in z 0 2 with
    | false =>
      refine ⟨-1, I, J, I, J, ?_, ?_, hl_Tm_rf I, PU, hl_Tm_rf I, rfl, rfl⟩
      · rw [hl_e123 (d := 1000)]; simp only [hl_r123_0, hl_r123_1, hl_r123_2, hl_r123_3, hl_r123_6, hl_r123_9, hl_r123_12, hl_r123_15, hl_r123_16, hl_r123_17, hl_r123_18, hl_r123_21, hl_r123_24, hl_r123_25, hl_r123_26, hl_r123_29, hl_r123_30, hl_r123_31, hl_r123_34, hl_r123_35, hl_o_0, hl_p_0_3, hl_p_0_4, hl_p_0_5, hl_p_0_7, hl_p_0_8, hl_p_0_9, hl_p_0_10, hl_p_0_11, hl_p_0_12, hl_p_0_13, hl_p_0_14, hl_p_0_15, hl_o_1, hl_p_1_0, hl_p_1_1, hl_p_1_2, hl_p_1_3, hl_p_1_4, hl_p_1_5, hl_p_1_6, hl_p_1_7, hl_p_1_9, hl_p_1_14, hl_p_1_15, hc1, hl_s147, g1, g2, hl_tv_t, hl_tv_f, hl_10, hl_kill_i, hl_kill_r, hl_kill_n, hl_kill_l, hl_tl_s, hl_tl_n, hl_cal_some, hl_gI, hl_gJ, hl_gsI, hl_gsJ, hl_tv01, if_true, if_false, hl_up_a, hl_row_a, not_true, not_false_eq_true]
      · rw [hl_e237 (d := 1000)]; simp only [hl_r237_0, hl_r237_1, hl_r237_2, hl_r237_3, hl_r237_6, hl_r237_7, hl_r237_8, hl_r237_11, hl_r237_14, hl_r237_15, hl_r237_16, hl_r237_17, hl_r237_20, hl_r237_23, hl_r237_24, hl_r237_25, hl_r237_28, hl_r237_29, hl_r237_30, hl_r237_33, hl_r237_34, hl_o_85, hl_p_85_3, hl_p_85_4, hl_p_85_5, hl_p_85_6, hl_p_85_19, hl_p_85_23, hl_p_85_24, hl_p_85_25, hl_p_85_26, hl_p_85_27, hl_p_85_28, hl_p_85_29, hl_p_85_30, hl_p_85_31, hl_p_85_33, hl_p_85_34, hl_p_85_35, hl_p_85_36, hl_p_85_37, hl_a_86, hl_z_86, hl_k0, hl_v0, hm1, hl_s151, g1, g2, hl_tv_t, hl_tv_f, hl_10, hl_kill_i, hl_kill_r, hl_kill_n, hl_kill_l, hl_tl_s, hl_tl_n, hl_cal_some, hl_gI, hl_gJ, hl_gsI, hl_gsJ, hl_tv01, if_true, if_false, hl_up_a, hl_row_a, not_true, not_false_eq_true]
    | true =>
      by_cases g3 : z = 2 ∧ k1 = 1
      · obtain ⟨q1, q2⟩ := g3
        refine ⟨-1, I, J, I, J, ?_, ?_, hl_Tm_rf I, PU, hl_Tm_rf I, rfl, rfl⟩
        · rw [hl_e123 (d := 1000)]
          rw [q1] at g2 ⊢
          rw [q2] at g1 ⊢
          simp only [hl_r123_0, hl_r123_1, hl_r123_2, hl_r123_3, hl_r123_6, hl_r123_9, hl_r123_12, hl_r123_15, hl_r123_16, hl_r123_17, hl_r123_18, hl_r123_21, hl_r123_24, hl_r123_25, hl_r123_26, hl_r123_29, hl_r123_30, hl_r123_31, hl_r123_34, hl_r123_35, hl_o_0, hl_p_0_3, hl_p_0_4, hl_p_0_5, hl_p_0_7, hl_p_0_8, hl_p_0_9, hl_p_0_10, hl_p_0_11, hl_p_0_12, hl_p_0_13, hl_p_0_14, hl_p_0_15, hl_o_1, hl_p_1_0, hl_p_1_1, hl_p_1_2, hl_p_1_3, hl_p_1_4, hl_p_1_5, hl_p_1_6, hl_p_1_7, hl_p_1_9, hl_p_1_14, hl_p_1_15, hc1, hl_s147, g1, g2, hl_tv_t, hl_10, hl_kill_i, hl_kill_r, hl_kill_n, hl_kill_l, hl_tl_s, hl_tl_n, hl_cal_some, hl_gI, hl_gJ, hl_gsI, hl_gsJ, hl_tv01, if_true, if_false, hl_up_a, hl_row_a, not_true, not_false_eq_true]
        · rw [hl_e237 (d := 1000)]
          rw [q1] at g2 ⊢
          rw [q2] at g1 ⊢
          simp only [hl_r237_0, hl_r237_1, hl_r237_2, hl_r237_3, hl_r237_6, hl_r237_7, hl_r237_8, hl_r237_11, hl_r237_14, hl_r237_15, hl_r237_16, hl_r237_17, hl_r237_20, hl_r237_23, hl_r237_24, hl_r237_25, hl_r237_28, hl_r237_29, hl_r237_30, hl_r237_33, hl_r237_34, hl_o_85, hl_p_85_3, hl_p_85_4, hl_p_85_5, hl_p_85_6, hl_p_85_19, hl_p_85_23, hl_p_85_24, hl_p_85_25, hl_p_85_26, hl_p_85_27, hl_p_85_28, hl_p_85_29, hl_p_85_30, hl_p_85_31, hl_p_85_33, hl_p_85_34, hl_p_85_35, hl_p_85_36, hl_p_85_37, hl_a_86, hl_z_86, hl_k0, hl_v0, hm1, hl_s151, g1, g2, hl_tv_t, hl_10, hl_kill_i, hl_kill_r, hl_kill_n, hl_kill_l, hl_tl_s, hl_tl_n, hl_cal_some, hl_gI, hl_gJ, hl_gsI, hl_gsJ, hl_tv01, if_true, if_false, hl_up_a, hl_row_a, not_true, not_false_eq_true]
      · obtain ⟨b1, b2⟩ := hl_in_E g1
        have i1 : (1 : Int32).toInt = 1 := rfl
        rw [hl_tI (by omega)] at b2
        obtain ⟨k, -, ek, kk⟩ := hl_nat (x := k1) (by omega)
        have kr : 1 ≤ k ∧ k ≤ nh := by omega
        obtain ⟨P, hP⟩ := hx_Al_ex R wh
        obtain ⟨I2, J2, e2, f2, k2⟩ := hx_s34 (d := 995) (J := J) (k := k) R hP (by omega) (hx_fD_rf I1)
        have cA : hl_call 1001 123 [.ref 0, .int k1, .int (hl_tv wh), .int z] (hl_g N I J) = hl_Run 123 (hl_call 1000) 54 [.ref 0, .int (nI k), .int (hl_tv wh), .int z, .int (hx_si (hx_bst P k (2 ^ nh - 1))), .null] [] (hl_g N I2 J2) := by
          rw [hl_e123 (d := 1000)]
          by_cases q1 : z = 2
          · have q2 : ¬ k1 = 1 := fun q => g3 ⟨q1, q⟩
            rw [q1] at g2 ⊢
            rw [ek] at g1 q2 ⊢
            simp only [hl_r123_0, hl_r123_1, hl_r123_2, hl_r123_3, hl_r123_6, hl_r123_9, hl_r123_12, hl_r123_15, hl_r123_16, hl_r123_17, hl_r123_18, hl_r123_21, hl_r123_24, hl_r123_25, hl_r123_26, hl_r123_29, hl_r123_30, hl_r123_31, hl_r123_34, hl_r123_35, hl_r123_36, hl_r123_37, hl_r123_40, hl_r123_43, hl_r123_44, hl_r123_47, hl_r123_48, hl_r123_49, hl_r123_52, hl_o_0, hl_p_0_3, hl_p_0_4, hl_p_0_5, hl_p_0_7, hl_p_0_8, hl_p_0_9, hl_p_0_10, hl_p_0_11, hl_p_0_12, hl_p_0_13, hl_p_0_14, hl_p_0_15, hl_o_1, hl_p_1_0, hl_p_1_1, hl_p_1_2, hl_p_1_3, hl_p_1_4, hl_p_1_5, hl_p_1_6, hl_p_1_7, hl_p_1_9, hl_p_1_14, hl_p_1_15, hl_o_63, hl_p_63_0, hl_p_63_1, hl_p_63_2, hl_p_63_3, hl_o_68, hl_p_68_0, hl_p_68_1, hl_p_68_2, hl_p_68_3, hl_p_68_4, hl_p_68_5, hc1, hl_s147, g1, g2, hl_tv_t, hl_10, q2, e1, e2, hl_tl_n, hl_kill_i, hl_kill_r, hl_kill_n, hl_kill_l, hl_tl_s, hl_tl_n, hl_cal_some, hl_gI, hl_gJ, hl_gsI, hl_gsJ, hl_tv01, if_true, if_false, hl_up_a, hl_row_a, not_true, not_false_eq_true]
          · rw [ek] at g1 ⊢
            simp only [hl_r123_0, hl_r123_1, hl_r123_2, hl_r123_3, hl_r123_6, hl_r123_9, hl_r123_12, hl_r123_15, hl_r123_16, hl_r123_17, hl_r123_18, hl_r123_21, hl_r123_24, hl_r123_25, hl_r123_26, hl_r123_29, hl_r123_30, hl_r123_31, hl_r123_34, hl_r123_35, hl_r123_36, hl_r123_37, hl_r123_40, hl_r123_43, hl_r123_44, hl_r123_47, hl_r123_48, hl_r123_49, hl_r123_52, hl_o_0, hl_p_0_3, hl_p_0_4, hl_p_0_5, hl_p_0_7, hl_p_0_8, hl_p_0_9, hl_p_0_10, hl_p_0_11, hl_p_0_12, hl_p_0_13, hl_p_0_14, hl_p_0_15, hl_o_1, hl_p_1_0, hl_p_1_1, hl_p_1_2, hl_p_1_3, hl_p_1_4, hl_p_1_5, hl_p_1_6, hl_p_1_7, hl_p_1_9, hl_p_1_14, hl_p_1_15, hl_o_63, hl_p_63_0, hl_p_63_1, hl_p_63_2, hl_p_63_3, hl_o_68, hl_p_68_0, hl_p_68_1, hl_p_68_2, hl_p_68_3, hl_p_68_4, hl_p_68_5, hc1, hl_s147, g1, g2, hl_tv_t, hl_10, q1, e1, e2, hl_tl_n, hl_kill_i, hl_kill_r, hl_kill_n, hl_kill_l, hl_tl_s, hl_tl_n, hl_cal_some, hl_gI, hl_gJ, hl_gsI, hl_gsJ, hl_tv01, if_true, if_false, hl_up_a, hl_row_a, not_true, not_false_eq_true]
        obtain ⟨I3, J3, e3, f3⟩ : ∃ I3 J3, hl_call 1000 236 [.ref 85, .int (nI k), .int (hl_tv wh)] (hl_g N I2 J2) = some (some (.int (hx_si (hx_bst P k (2 ^ nh - 1)))), hl_g N I3 J3) ∧ hx_fR I2 I3 := hx_s236 (d := 992) (J := J2) (k := k) R hP (by omega) f2.tm.vw
        have toB : ∀ (I9 : Nat → Nat → Int32) (J9 : Nat → Nat → Int64), hl_vw I1 I9 → ∃ I3 J3, hl_call 1001 237 [.ref 85, .int k1, .int (hl_tv wh), .int z] (hl_g N I9 J9) = hl_Run 237 (hl_call 1000) 43 [.ref 85, .int (nI k), .int (hl_tv wh), .int z, .int (hx_si (hx_bst P k (2 ^ nh - 1))), .null, .null] [] (hl_g N I3 J3) ∧ hx_fR I9 I3 := fun I9 J9 hv => by
          obtain ⟨I3, J3, e3, f3⟩ := hx_s236 (d := 992) (J := J9) (k := k) R hP (by omega) hv
          have e86 : I9 86 0 = nI nh := by rw [hv.2.1]; exact R.2.2.2.1.2.2.1
          refine ⟨I3, J3, ?_, f3⟩
          rw [hl_e237 (d := 1000)]
          by_cases q1 : z = 2
          · have q2 : ¬ k1 = 1 := fun q => g3 ⟨q1, q⟩
            rw [q1] at g2 ⊢
            rw [ek] at g1 q2 ⊢
            simp only [hl_r237_0, hl_r237_1, hl_r237_2, hl_r237_3, hl_r237_6, hl_r237_7, hl_r237_8, hl_r237_11, hl_r237_14, hl_r237_15, hl_r237_16, hl_r237_17, hl_r237_20, hl_r237_23, hl_r237_24, hl_r237_25, hl_r237_28, hl_r237_29, hl_r237_30, hl_r237_33, hl_r237_34, hl_r237_35, hl_r237_36, hl_r237_37, hl_r237_38, hl_r237_41, hl_o_85, hl_p_85_3, hl_p_85_4, hl_p_85_5, hl_p_85_6, hl_p_85_19, hl_p_85_23, hl_p_85_24, hl_p_85_25, hl_p_85_26, hl_p_85_27, hl_p_85_28, hl_p_85_29, hl_p_85_30, hl_p_85_31, hl_p_85_33, hl_p_85_34, hl_p_85_35, hl_p_85_36, hl_p_85_37, hl_a_86, hl_z_86, hl_k0, hl_v0, e86, hl_s151, g1, g2, hl_tv_t, hl_10, q2, e3, hl_tl_n, hl_kill_i, hl_kill_r, hl_kill_n, hl_kill_l, hl_tl_s, hl_tl_n, hl_cal_some, hl_gI, hl_gJ, hl_gsI, hl_gsJ, hl_tv01, if_true, if_false, hl_up_a, hl_row_a, not_true, not_false_eq_true]
          · rw [ek] at g1 ⊢
            simp only [hl_r237_0, hl_r237_1, hl_r237_2, hl_r237_3, hl_r237_6, hl_r237_7, hl_r237_8, hl_r237_11, hl_r237_14, hl_r237_15, hl_r237_16, hl_r237_17, hl_r237_20, hl_r237_23, hl_r237_24, hl_r237_25, hl_r237_28, hl_r237_29, hl_r237_30, hl_r237_33, hl_r237_34, hl_r237_35, hl_r237_36, hl_r237_37, hl_r237_38, hl_r237_41, hl_o_85, hl_p_85_3, hl_p_85_4, hl_p_85_5, hl_p_85_6, hl_p_85_19, hl_p_85_23, hl_p_85_24, hl_p_85_25, hl_p_85_26, hl_p_85_27, hl_p_85_28, hl_p_85_29, hl_p_85_30, hl_p_85_31, hl_p_85_33, hl_p_85_34, hl_p_85_35, hl_p_85_36, hl_p_85_37, hl_a_86, hl_z_86, hl_k0, hl_v0, e86, hl_s151, g1, g2, hl_tv_t, hl_10, q1, e3, hl_tl_n, hl_kill_i, hl_kill_r, hl_kill_n, hl_kill_l, hl_tl_s, hl_tl_n, hl_cal_some, hl_gI, hl_gJ, hl_gsI, hl_gsJ, hl_tv01, if_true, if_false, hl_up_a, hl_row_a, not_true, not_false_eq_true]
        rw [cA]
        cases hb : hx_bst P k (2 ^ nh - 1) with
        | none =>
          obtain ⟨I3, J3, e3, f3⟩ := toB I2 J2 f2.tm.vw
          have es : hx_si none = -1 := rfl
          have m1 : (-1 : Int32) < 0 := by decide
          refine ⟨-1, I2, J2, I3, J3, ?_, ?_, hl_Tm_tr tm f2.tm, f2.pu R.2.2.2.2.2, f3.tm, f3.lo (by omega), f3.lo (by omega)⟩
          · rw [es]
            simp only [hl_r123_54, hl_r123_56, hl_r123_57, hl_r123_60, hl_r123_61, hl_r123_64, hl_r123_66, hl_kill_i, hl_kill_r, hl_kill_n, hl_kill_l, hl_tl_s, hl_tl_n, hl_cal_some, hl_gI, hl_gJ, hl_gsI, hl_gsJ, hl_tv01, if_true, if_false, hl_up_a, hl_row_a, not_true, not_false_eq_true]
          · rw [e3, hb, es]
            simp only [hl_r237_43, hl_r237_45, hl_r237_48, hl_r237_49, hl_r237_52, hl_r237_54, m1, hl_kill_i, hl_kill_r, hl_kill_n, hl_kill_l, hl_tl_s, hl_tl_n, hl_cal_some, hl_gI, hl_gJ, hl_gsI, hl_gsJ, hl_tv01, if_true, if_false, hl_up_a, hl_row_a, not_true, not_false_eq_true]
        | some tu =>
          obtain ⟨t, u⟩ := tu
          obtain ⟨t1, t2, t3⟩ := hx_bst_in _ t u hb
          have es : hx_si (some (t, u)) = nI t := rfl
          have tn : ¬ nI t = -1 := hx_ni1 (by omega)
          have t0 : ¬ nI t < 0 := Int32.not_lt.mpr (show nI 0 ≤ nI t from nI_le (by omega) (by omega))
          have lp : I2 68 7 = nI u := k2 t u hb
          by_cases z0 : z = 0
          · obtain ⟨I3, J3, e3, f3⟩ := toB I2 J2 f2.tm.vw
            refine ⟨nI t, I2, J2, I3, J3, ?_, ?_, hl_Tm_tr tm f2.tm, f2.pu R.2.2.2.2.2, f3.tm, f3.lo (by omega), f3.lo (by omega)⟩
            · rw [es]
              simp only [hl_r123_54, hl_r123_56, hl_r123_57, hl_r123_60, hl_r123_61, hl_r123_64, hl_r123_66, tn, z0, hl_kill_i, hl_kill_r, hl_kill_n, hl_kill_l, hl_tl_s, hl_tl_n, hl_cal_some, hl_gI, hl_gJ, hl_gsI, hl_gsJ, hl_tv01, if_true, if_false, hl_up_a, hl_row_a, not_true, not_false_eq_true]
            · rw [e3, hb, es]
              simp only [hl_r237_43, hl_r237_45, hl_r237_48, hl_r237_49, hl_r237_52, hl_r237_54, t0, z0, hl_kill_i, hl_kill_r, hl_kill_n, hl_kill_l, hl_tl_s, hl_tl_n, hl_cal_some, hl_gI, hl_gJ, hl_gsI, hl_gsJ, hl_tv01, if_true, if_false, hl_up_a, hl_row_a, not_true, not_false_eq_true]
          · -- from wherever the class has left its rows: the price
            have toC : ∀ (I9 : Nat → Nat → Int32) (J9 : Nat → Nat → Int64), hl_vw I1 I9 → ∃ I4 J4, hl_call 1001 237 [.ref 85, .int k1, .int (hl_tv wh), .int z] (hl_g N I9 J9) = hl_Run 237 (hl_call 1000) 67 [.ref 85, .int (nI k), .int (hl_tv wh), .int z, .int (nI t), .int (nI u), .null] [] (hl_g N I4 J4) ∧ hx_fR I9 I4 := fun I9 J9 hv => by
              obtain ⟨I3, J3, e3, f3⟩ := toB I9 J9 hv
              have v3 : hl_vw I1 I3 := hl_vw_tr hv f3.tm.vw
              obtain ⟨I4, J4, e4, f4, uB⟩ := hx_least3 (d := 993) (J := J3) R hP v3 hb
              have o2 := hx_ol_32 uB
              refine ⟨I4, J4, ?_, hx_fR_tr f3 f4⟩
              rw [e3, hb, es]
              simp only [hl_r237_43, hl_r237_45, hl_r237_48, hl_r237_49, hl_r237_52, hl_r237_54, hl_r237_55, hl_r237_56, hl_r237_58, hl_r237_59, hl_r237_60, hl_r237_61, hl_r237_64, hl_r237_65, hl_o_85, hl_p_85_3, hl_p_85_4, hl_p_85_5, hl_p_85_6, hl_p_85_19, hl_p_85_23, hl_p_85_24, hl_p_85_25, hl_p_85_26, hl_p_85_27, hl_p_85_28, hl_p_85_29, hl_p_85_30, hl_p_85_31, hl_p_85_33, hl_p_85_34, hl_p_85_35, hl_p_85_36, hl_p_85_37, t0, z0, e4, o2, hl_kill_i, hl_kill_r, hl_kill_n, hl_kill_l, hl_tl_s, hl_tl_n, hl_cal_some, hl_gI, hl_gJ, hl_gsI, hl_gsJ, hl_tv01, if_true, if_false, hl_up_a, hl_row_a, not_true, not_false_eq_true]
            by_cases z1 : z = 1
            · obtain ⟨I4, J4, e4, f4⟩ := toC I2 J2 f2.tm.vw
              refine ⟨nI u, I2, J2, I4, J4, ?_, ?_, hl_Tm_tr tm f2.tm, f2.pu R.2.2.2.2.2, f4.tm, f4.lo (by omega), f4.lo (by omega)⟩
              · rw [es]
                have n10 : ¬ (1 : Int32) = 0 := by decide
                simp only [hl_r123_54, hl_r123_56, hl_r123_57, hl_r123_60, hl_r123_61, hl_r123_64, hl_r123_66, hl_r123_67, hl_r123_68, hl_r123_71, hl_r123_74, hl_r123_76, hl_r123_77, hl_r123_78, hl_r123_81, hl_r123_83, hl_o_0, hl_p_0_3, hl_p_0_4, hl_p_0_5, hl_p_0_7, hl_p_0_8, hl_p_0_9, hl_p_0_10, hl_p_0_11, hl_p_0_12, hl_p_0_13, hl_p_0_14, hl_p_0_15, hl_o_68, hl_p_68_0, hl_p_68_1, hl_p_68_2, hl_p_68_3, hl_p_68_4, hl_p_68_5, tn, z1, n10, lp, hl_kill_i, hl_kill_r, hl_kill_n, hl_kill_l, hl_tl_s, hl_tl_n, hl_cal_some, hl_gI, hl_gJ, hl_gsI, hl_gsJ, hl_tv01, if_true, if_false, hl_up_a, hl_row_a, not_true, not_false_eq_true]
              · rw [e4]
                simp only [hl_r237_67, hl_r237_68, hl_r237_69, hl_r237_72, hl_r237_74, z1, hl_kill_i, hl_kill_r, hl_kill_n, hl_kill_l, hl_tl_s, hl_tl_n, hl_cal_some, hl_gI, hl_gJ, hl_gsI, hl_gsJ, hl_tv01, if_true, if_false, hl_up_a, hl_row_a, not_true, not_false_eq_true]
            · have z2 : z = 2 := by
                obtain ⟨c1, c2⟩ := hl_in_E g2
                have i0 : (0 : Int32).toInt = 0 := rfl
                have i2 : (2 : Int32).toInt = 2 := rfl
                have n0 : z.toInt ≠ 0 := fun q => z0 (Int32.toInt_inj.mp (q.trans i0.symm))
                have n1 : z.toInt ≠ 1 := fun q => z1 (Int32.toInt_inj.mp (q.trans i1.symm))
                exact Int32.toInt_inj.mp (by omega)
              have ek1 : nI k - 1 = nI (k - 1) := hl_nsb (by omega)
              obtain ⟨I5, J5, e5, f5, k5⟩ := hx_s34 (d := 995) (J := J2) (k := k - 1) R hP (by omega) f2
              obtain ⟨I4, J4, e4, f4⟩ := toC I5 J5 f5.tm.vw
              have v4 : hl_vw I1 I4 := hl_vw_tr f5.tm.vw f4.tm.vw
              obtain ⟨I6, J6, e6, f6⟩ := hx_s236 (d := 992) (J := J4) (k := k - 1) R hP (by omega) v4
              have f46 := hx_fR_tr f4 f6
              cases hb2 : hx_bst P (k - 1) (2 ^ nh - 1) with
              | none =>
                rw [hb2] at e5 e6
                have es2 : hx_si none = -1 := rfl
                rw [es2] at e5 e6
                have m1 : ¬ (0 : Int32) ≤ -1 := by decide
                refine ⟨-1, I5, J5, I6, J6, ?_, ?_, hl_Tm_tr tm f5.tm, f5.pu R.2.2.2.2.2, f46.tm, f46.lo (by omega), f46.lo (by omega)⟩
                · rw [es]
                  simp only [hl_r123_54, hl_r123_56, hl_r123_57, hl_r123_60, hl_r123_61, hl_r123_64, hl_r123_66, hl_r123_67, hl_r123_68, hl_r123_71, hl_r123_74, hl_r123_76, hl_r123_77, hl_r123_78, hl_r123_81, hl_r123_83, hl_r123_84, hl_r123_85, hl_r123_88, hl_r123_89, hl_r123_90, hl_r123_91, hl_r123_92, hl_r123_95, hl_r123_96, hl_r123_99, hl_r123_100, hl_r123_103, hl_r123_104, hl_r123_107, hl_r123_110, hl_r123_112, hl_r123_113, hl_o_0, hl_p_0_3, hl_p_0_4, hl_p_0_5, hl_p_0_7, hl_p_0_8, hl_p_0_9, hl_p_0_10, hl_p_0_11, hl_p_0_12, hl_p_0_13, hl_p_0_14, hl_p_0_15, hl_o_68, hl_p_68_0, hl_p_68_1, hl_p_68_2, hl_p_68_3, hl_p_68_4, hl_p_68_5, tn, z0, z1, lp, ek1, e5, hl_kill_i, hl_kill_r, hl_kill_n, hl_kill_l, hl_tl_s, hl_tl_n, hl_cal_some, hl_gI, hl_gJ, hl_gsI, hl_gsJ, hl_tv01, if_true, if_false, hl_up_a, hl_row_a, not_true, not_false_eq_true]
                · rw [e4]
                  simp only [hl_r237_67, hl_r237_68, hl_r237_69, hl_r237_72, hl_r237_74, hl_r237_75, hl_r237_76, hl_r237_77, hl_r237_78, hl_r237_79, hl_r237_80, hl_r237_83, hl_r237_85, hl_r237_87, hl_r237_90, hl_r237_91, hl_r237_94, hl_r237_95, hl_r237_97, hl_r237_98, hl_r237_99, hl_r237_100, hl_r237_103, hl_r237_104, hl_r237_106, hl_r237_107, hl_o_85, hl_p_85_3, hl_p_85_4, hl_p_85_5, hl_p_85_6, hl_p_85_19, hl_p_85_23, hl_p_85_24, hl_p_85_25, hl_p_85_26, hl_p_85_27, hl_p_85_28, hl_p_85_29, hl_p_85_30, hl_p_85_31, hl_p_85_33, hl_p_85_34, hl_p_85_35, hl_p_85_36, hl_p_85_37, z1, ek1, e6, m1, hl_kill_i, hl_kill_r, hl_kill_n, hl_kill_l, hl_tl_s, hl_tl_n, hl_cal_some, hl_gI, hl_gJ, hl_gsI, hl_gsJ, hl_tv01, if_true, if_false, hl_up_a, hl_row_a, not_true, not_false_eq_true]
              | some tu2 =>
                obtain ⟨t', u'⟩ := tu2
                obtain ⟨t1', t2', t3'⟩ := hx_bst_in _ t' u' hb2
                rw [hb2] at e5 e6
                have es2 : hx_si (some (t', u')) = nI t' := rfl
                rw [es2] at e5 e6
                have tn' : ¬ nI t' = -1 := hx_ni1 (by omega)
                have t0' : (0 : Int32) ≤ nI t' := show nI 0 ≤ nI t' from nI_le (by omega) (by omega)
                have lp' : I5 68 7 = nI u' := k5 t' u' hb2
                obtain ⟨I7, J7, e7, f7, uB'⟩ := hx_least3 (d := 993) (J := J6) R hP (hl_vw_tr v4 f6.tm.vw) hb2
                have o2 := hx_ol_32 uB'
                have f47 := hx_fR_tr f46 f7
                refine ⟨nI u' - nI u, I5, J5, I7, J7, ?_, ?_, hl_Tm_tr tm f5.tm, f5.pu R.2.2.2.2.2, f47.tm, f47.lo (by omega), f47.lo (by omega)⟩
                · rw [es]
                  simp only [hl_r123_54, hl_r123_56, hl_r123_57, hl_r123_60, hl_r123_61, hl_r123_64, hl_r123_66, hl_r123_67, hl_r123_68, hl_r123_71, hl_r123_74, hl_r123_76, hl_r123_77, hl_r123_78, hl_r123_81, hl_r123_83, hl_r123_84, hl_r123_85, hl_r123_88, hl_r123_89, hl_r123_90, hl_r123_91, hl_r123_92, hl_r123_95, hl_r123_96, hl_r123_99, hl_r123_100, hl_r123_103, hl_r123_104, hl_r123_107, hl_r123_110, hl_r123_112, hl_r123_113, hl_o_0, hl_p_0_3, hl_p_0_4, hl_p_0_5, hl_p_0_7, hl_p_0_8, hl_p_0_9, hl_p_0_10, hl_p_0_11, hl_p_0_12, hl_p_0_13, hl_p_0_14, hl_p_0_15, hl_o_68, hl_p_68_0, hl_p_68_1, hl_p_68_2, hl_p_68_3, hl_p_68_4, hl_p_68_5, tn, tn', z0, z1, lp, lp', ek1, e5, hl_kill_i, hl_kill_r, hl_kill_n, hl_kill_l, hl_tl_s, hl_tl_n, hl_cal_some, hl_gI, hl_gJ, hl_gsI, hl_gsJ, hl_tv01, if_true, if_false, hl_up_a, hl_row_a, not_true, not_false_eq_true]
                · rw [e4]
                  simp only [hl_r237_67, hl_r237_68, hl_r237_69, hl_r237_72, hl_r237_74, hl_r237_75, hl_r237_76, hl_r237_77, hl_r237_78, hl_r237_79, hl_r237_80, hl_r237_83, hl_r237_85, hl_r237_87, hl_r237_90, hl_r237_91, hl_r237_94, hl_r237_95, hl_r237_97, hl_r237_98, hl_r237_99, hl_r237_100, hl_r237_103, hl_r237_104, hl_r237_106, hl_r237_107, hl_o_85, hl_p_85_3, hl_p_85_4, hl_p_85_5, hl_p_85_6, hl_p_85_19, hl_p_85_23, hl_p_85_24, hl_p_85_25, hl_p_85_26, hl_p_85_27, hl_p_85_28, hl_p_85_29, hl_p_85_30, hl_p_85_31, hl_p_85_33, hl_p_85_34, hl_p_85_35, hl_p_85_36, hl_p_85_37, z1, ek1, e6, t0', e7, o2, hl_kill_i, hl_kill_r, hl_kill_n, hl_kill_l, hl_tl_s, hl_tl_n, hl_cal_some, hl_gI, hl_gJ, hl_gsI, hl_gsJ, hl_tv01, if_true, if_false, hl_up_a, hl_row_a, not_true, not_false_eq_true]
end HXMANY2
