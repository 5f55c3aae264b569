/-! what a cell pays: the reference's; the class's purse as a whole; the pair pays -/
def hl_r9 (I I' : Nat → Nat → Int32) : Prop := ∀ b, b ≠ 91 → b ≠ 93 → I' b = I b
def hl_j9 (J J' : Nat → Nat → Int64) : Prop := ∀ b, b ≠ 92 → J' b = J b
theorem hl_r9_rf (I : Nat → Nat → Int32) : hl_r9 I I := fun _ _ _ => rfl
theorem hl_j9_rf (J : Nat → Nat → Int64) : hl_j9 J J := fun _ _ => rfl
theorem hl_r9_tr {I1 I2 I3 : Nat → Nat → Int32} (h : hl_r9 I1 I2) (g : hl_r9 I2 I3) : hl_r9 I1 I3 := fun b h1 h2 => (g b h1 h2).trans (h b h1 h2)
theorem hl_j9_tr {I1 I2 I3 : Nat → Nat → Int64} (h : hl_j9 I1 I2) (g : hl_j9 I2 I3) : hl_j9 I1 I3 := fun b h1 => (g b h1).trans (h b h1)
theorem hl_r9.tm {I I' : Nat → Nat → Int32} (h : hl_r9 I I') : hl_Tm I I' := ⟨fun b hb => h b (by omega) (by omega), h 66 (by omega) (by omega), fun k hk => by rw [h 85 (by omega) (by omega)], fun b h1 h2 => h b (by omega) (by omega)⟩
theorem hl_r9.vw {I I' : Nat → Nat → Int32} (h : hl_r9 I I') : hl_vw I I' := h.tm.vw
theorem hl_bndJ {v : Int64} (h1 : -1000000 ≤ v.toInt) (h2 : v.toInt ≤ 1000000) : hl_bnd v.toInt32 0 9999 = if v < 0 then 0 else if 9999 < v then 9999 else v.toInt32 := by
  have e : v.toInt32.toInt = v.toInt := by rw [Int64.toInt_toInt32, Int.bmod_eq_of_le (by omega) (by omega)]
  have e0 : (0 : Int32).toInt = 0 := rfl
  have e9 : (9999 : Int32).toInt = 9999 := rfl
  have f0 : (0 : Int64).toInt = 0 := rfl
  have f9 : (9999 : Int64).toInt = 9999 := rfl
  unfold hl_bnd
  by_cases c1 : v < 0
  · rw [if_pos c1, if_pos]
    rw [Int32.lt_iff_toInt_lt, e, e0]
    rw [Int64.lt_iff_toInt_lt, f0] at c1
    exact c1
  · rw [if_neg c1, if_neg]
    · by_cases c2 : 9999 < v
      · rw [if_pos c2, if_pos]
        rw [Int32.lt_iff_toInt_lt, e, e9]
        rw [Int64.lt_iff_toInt_lt, f9] at c2
        exact c2
      · rw [if_neg c2, if_neg]
        rw [Int32.lt_iff_toInt_lt, e, e9]
        rw [Int64.lt_iff_toInt_lt, f9] at c2
        exact c2
    · rw [Int32.lt_iff_toInt_lt, e, e0]
      rw [Int64.lt_iff_toInt_lt, f0] at c1
      exact c1
theorem hl_k330 : hl_inb (0 : Int32) 330 = true := id rfl
theorem hl_i4 {c h : Nat} : nI c * 4 + nI h = nI (4 * c + h) := by
  have e : (4 : Int32) = nI 4 := rfl
  rw [e, nI_mul, nI_add, Nat.mul_comm]
section HLPS
variable {d N W H : Nat} {I Is I' : Nat → Nat → Int32} {J J' : Nat → Nat → Int64}
theorem hl_l209 {c h : Nat} (hCo : hl_Co N W H Is) (hN : N ≤ 24) (hc : c < N) (hh : (h : Int) < hl_Sv Is 86 0) (f : Nat) : ∀ (I : Nat → Nat → Int32) (J : Nat → Nat → Int64) (m : Nat), m + f = 12 → hl_vw Is I → ∃ I' J', hl_Run 209 (hl_call (d + 5)) 5 [.ref 85, .int (nI c), .int (nI h), .int (hl_sum m (fun m => hl_inM Is c h m (hl_offv Is c h (hl_sm Is m)))), .int (nI m)] [] (hl_g N I J) = some (some (.int (hl_pay Is c h)), hl_g N I' J') ∧ hl_r9 I I' ∧ hl_j9 J J' := by
  have h4 : h < 4 := by have := hCo.2.1.2.1.2; omega
  induction f with
  | zero =>
    intro I J m hm hv
    obtain rfl : m = 12 := by omega
    refine ⟨I, J, ?_, hl_r9_rf I, hl_j9_rf J⟩
    have c1 : (12 : Int32) ≤ nI 12 := Int32.le_refl _
    simp only [hl_r209_0, hl_r209_1, hl_r209_2, hl_r209_3, hl_r209_5, hl_r209_7, hl_r209_9, hl_r209_12, hl_r209_13, hl_r209_14, hl_r209_15, hl_r209_17, hl_r209_18, hl_r209_21, hl_r209_22, hl_r209_23, hl_r209_26, hl_r209_29, hl_r209_30, hl_r209_31, hl_r209_34, hl_r209_35, hl_r209_36, hl_r209_37, hl_r209_40, hl_r209_41, hl_r209_42, hl_r209_43, hl_r209_44, hl_r209_45, hl_r209_48, hl_r209_49, hl_r209_50, hl_r209_53, hl_r209_54, hl_r209_55, hl_r209_58, hl_r209_59, hl_r209_60, hl_r209_61, hl_r209_62, hl_r209_65, hl_r209_66, hl_r209_69, hl_r209_70, hl_r209_73, hl_r209_74, hl_r209_75, hl_r209_78, hl_r209_79, hl_r209_82, hl_r209_85, hl_r209_88, hl_r209_89, hl_r209_92, hl_r209_93, hl_r209_94, hl_r209_95, hl_r209_96, hl_r209_97, hl_r209_100, hl_r209_103, hl_r209_104, c1, hl_pay, hl_kill_i, hl_kill_r, hl_kill_n, hl_kill_l, hl_tl_s, hl_tl_n, hl_cal_some, hl_gI, hl_gJ, hl_gsI, hl_gsJ, hl_tv01, if_true, if_false, hl_up_a, hl_row_a]
  | succ f ih =>
    intro I J m hm hv
    have c1 : ¬ (12 : Int32) ≤ nI m := show ¬ nI 12 ≤ nI m from nI_ge (by omega) (by decide)
    have en : nI m + 1 = nI (m + 1) := (nI_succ m).symm
    obtain ⟨I1, e1, f1, n1⟩ := hl_s208 (d := d) (I := I) (J := J) (al := 0) (m := m) hCo hv hN hc h4 (by omega)
    have r1 : hl_r9 I I1 := fun b h1 _ => f1 b h1
    have hv1 := hl_vw_tr hv r1.vw
    have e2 : hl_call (d + 5) 202 [.ref 85, .int 0] (hl_g N I1 J) = some (some (.int (hl_tv (hl_has Is 0))), hl_g N I1 J) := hl_s202 (cl := 0) hCo hv1 (by decide)
    rw [hl_r209_5]
    cases h0 : hl_has Is 0 with
    | false =>
      rw [h0] at e2
      obtain ⟨I2, J2, e3, r2, j2⟩ := ih I1 J (m + 1) (by omega) hv1
      refine ⟨I2, J2, ?_, hl_r9_tr r1 r2, j2⟩
      rw [← e3]
      have q1 : I1 91 1 = hl_abs (hl_offv Is c h (hl_sm Is m)) := n1 1 (by decide)
      have q2 : I1 91 2 = Is 3 c := n1 2 (by decide)
      have k1 : hl_inb (1 : Int32) 9 = true := id rfl
      have k2 : hl_inb (2 : Int32) 9 = true := id rfl
      simp only [hl_r209_0, hl_r209_1, hl_r209_2, hl_r209_3, hl_r209_7, hl_r209_9, hl_r209_12, hl_r209_13, hl_r209_14, hl_r209_15, hl_r209_17, hl_r209_18, hl_r209_21, hl_r209_22, hl_r209_23, hl_r209_26, hl_r209_29, hl_r209_30, hl_r209_31, hl_r209_34, hl_r209_35, hl_r209_36, hl_r209_37, hl_r209_40, hl_r209_41, hl_r209_42, hl_r209_43, hl_r209_44, hl_r209_45, hl_r209_48, hl_r209_49, hl_r209_50, hl_r209_53, hl_r209_54, hl_r209_55, hl_r209_58, hl_r209_59, hl_r209_60, hl_r209_61, hl_r209_62, hl_r209_65, hl_r209_66, hl_r209_69, hl_r209_70, hl_r209_73, hl_r209_74, hl_r209_75, hl_r209_78, hl_r209_79, hl_r209_82, hl_r209_85, hl_r209_88, hl_r209_89, hl_r209_92, hl_r209_93, hl_r209_94, hl_r209_95, hl_r209_96, hl_r209_97, hl_r209_100, hl_r209_103, hl_r209_104, hl_o_85, hl_p_85_3, hl_p_85_4, hl_p_85_5, hl_p_85_6, hl_p_85_19, hl_p_85_23, hl_p_85_24, hl_p_85_25, hl_p_85_26, hl_p_85_27, hl_p_85_28, hl_p_85_29, hl_p_85_30, hl_p_85_31, hl_p_85_33, hl_p_85_34, hl_p_85_35, hl_p_85_36, hl_p_85_37, hl_a_91, hl_z_91, c1, e1, e2, q1, q2, k1, k2, hl_v1, hl_v2, hl_tv_f, not_true, en, hl_sum, hl_inM, h0, hl_tl_n, hl_kill_i, hl_kill_r, hl_kill_n, hl_kill_l, hl_tl_s, hl_tl_n, hl_cal_some, hl_gI, hl_gJ, hl_gsI, hl_gsJ, hl_tv01, if_true, if_false, hl_up_a, hl_row_a]
    | true =>
      rw [h0] at e2
      obtain ⟨I2, J2, e3, f3, g3, t3⟩ := hl_s203v (d := d + 2) (J := J) (cl := 0) hCo hv1 hN hc hh (show m < 12 by omega) (by decide) (show 0 ≤ (0 : Int32).toInt ∧ (0 : Int32).toInt ≤ 1000000 by decide) n1 h0
      rw [if_neg (by decide)] at t3
      obtain ⟨t4, t5, t6⟩ := t3
      have r2 : hl_r9 I1 I2 := fun b _ h2 => f3 b h2
      have e3' : hl_call (d + 5) 203 [.ref 85, .int 0] (hl_g N I1 J) = some (none, hl_g N I2 J2) := e3
      obtain ⟨I3, J3, e5, r3, j3⟩ := ih I2 J2 (m + 1) (by omega) (hl_vw_tr hv1 r2.vw)
      refine ⟨I3, J3, ?_, hl_r9_tr r1 (hl_r9_tr r2 r3), hl_j9_tr g3 j3⟩
      rw [← e5]
      have eM : hl_inM Is c h m (hl_offv Is c h (hl_sm Is m)) = if J2 92 0 < 0 then 0 else if 9999 < J2 92 0 then 9999 else (J2 92 0).toInt32 := by
        unfold hl_inM
        rw [h0, if_neg (by decide), t4, hl_bndJ t5 t6]
      by_cases q1 : J2 92 0 < 0
      · have q1' : ¬ 0 ≤ J2 92 0 := Int64.not_le.mpr q1
        rw [if_pos q1] at eM
        simp only [hl_r209_0, hl_r209_1, hl_r209_2, hl_r209_3, hl_r209_7, hl_r209_9, hl_r209_12, hl_r209_13, hl_r209_14, hl_r209_15, hl_r209_17, hl_r209_18, hl_r209_21, hl_r209_22, hl_r209_23, hl_r209_26, hl_r209_29, hl_r209_30, hl_r209_31, hl_r209_34, hl_r209_35, hl_r209_36, hl_r209_37, hl_r209_40, hl_r209_41, hl_r209_42, hl_r209_43, hl_r209_44, hl_r209_45, hl_r209_48, hl_r209_49, hl_r209_50, hl_r209_53, hl_r209_54, hl_r209_55, hl_r209_58, hl_r209_59, hl_r209_60, hl_r209_61, hl_r209_62, hl_r209_65, hl_r209_66, hl_r209_69, hl_r209_70, hl_r209_73, hl_r209_74, hl_r209_75, hl_r209_78, hl_r209_79, hl_r209_82, hl_r209_85, hl_r209_88, hl_r209_89, hl_r209_92, hl_r209_93, hl_r209_94, hl_r209_95, hl_r209_96, hl_r209_97, hl_r209_100, hl_r209_103, hl_r209_104, hl_o_85, hl_p_85_3, hl_p_85_4, hl_p_85_5, hl_p_85_6, hl_p_85_19, hl_p_85_23, hl_p_85_24, hl_p_85_25, hl_p_85_26, hl_p_85_27, hl_p_85_28, hl_p_85_29, hl_p_85_30, hl_p_85_31, hl_p_85_33, hl_p_85_34, hl_p_85_35, hl_p_85_36, hl_p_85_37, hl_a_92, hl_z_92, c1, e1, e2, e3', hl_tv_t, hl_10, not_false_eq_true, hl_k330, hl_v0, hl_lcmp_ge0, q1', en, hl_sum, eM, hl_tl_n, hl_kill_i, hl_kill_r, hl_kill_n, hl_kill_l, hl_tl_s, hl_tl_n, hl_cal_some, hl_gI, hl_gJ, hl_gsI, hl_gsJ, hl_tv01, if_true, if_false, hl_up_a, hl_row_a]
      · have q1' : 0 ≤ J2 92 0 := Int64.not_lt.mp q1
        rw [if_neg q1] at eM
        by_cases q2 : 9999 < J2 92 0
        · have q2' : ¬ J2 92 0 ≤ 9999 := Int64.not_le.mpr q2
          rw [if_pos q2] at eM
          simp only [hl_r209_0, hl_r209_1, hl_r209_2, hl_r209_3, hl_r209_7, hl_r209_9, hl_r209_12, hl_r209_13, hl_r209_14, hl_r209_15, hl_r209_17, hl_r209_18, hl_r209_21, hl_r209_22, hl_r209_23, hl_r209_26, hl_r209_29, hl_r209_30, hl_r209_31, hl_r209_34, hl_r209_35, hl_r209_36, hl_r209_37, hl_r209_40, hl_r209_41, hl_r209_42, hl_r209_43, hl_r209_44, hl_r209_45, hl_r209_48, hl_r209_49, hl_r209_50, hl_r209_53, hl_r209_54, hl_r209_55, hl_r209_58, hl_r209_59, hl_r209_60, hl_r209_61, hl_r209_62, hl_r209_65, hl_r209_66, hl_r209_69, hl_r209_70, hl_r209_73, hl_r209_74, hl_r209_75, hl_r209_78, hl_r209_79, hl_r209_82, hl_r209_85, hl_r209_88, hl_r209_89, hl_r209_92, hl_r209_93, hl_r209_94, hl_r209_95, hl_r209_96, hl_r209_97, hl_r209_100, hl_r209_103, hl_r209_104, hl_o_85, hl_p_85_3, hl_p_85_4, hl_p_85_5, hl_p_85_6, hl_p_85_19, hl_p_85_23, hl_p_85_24, hl_p_85_25, hl_p_85_26, hl_p_85_27, hl_p_85_28, hl_p_85_29, hl_p_85_30, hl_p_85_31, hl_p_85_33, hl_p_85_34, hl_p_85_35, hl_p_85_36, hl_p_85_37, hl_a_92, hl_z_92, c1, e1, e2, e3', hl_tv_t, hl_10, not_false_eq_true, hl_k330, hl_v0, hl_lcmp_ge0, hl_lcmp_le0, q1', q2', en, hl_sum, eM, hl_tl_n, hl_kill_i, hl_kill_r, hl_kill_n, hl_kill_l, hl_tl_s, hl_tl_n, hl_cal_some, hl_gI, hl_gJ, hl_gsI, hl_gsJ, hl_tv01, if_true, if_false, hl_up_a, hl_row_a]
        · have q2' : J2 92 0 ≤ 9999 := Int64.not_lt.mp q2
          rw [if_neg q2] at eM
          simp only [hl_r209_0, hl_r209_1, hl_r209_2, hl_r209_3, hl_r209_7, hl_r209_9, hl_r209_12, hl_r209_13, hl_r209_14, hl_r209_15, hl_r209_17, hl_r209_18, hl_r209_21, hl_r209_22, hl_r209_23, hl_r209_26, hl_r209_29, hl_r209_30, hl_r209_31, hl_r209_34, hl_r209_35, hl_r209_36, hl_r209_37, hl_r209_40, hl_r209_41, hl_r209_42, hl_r209_43, hl_r209_44, hl_r209_45, hl_r209_48, hl_r209_49, hl_r209_50, hl_r209_53, hl_r209_54, hl_r209_55, hl_r209_58, hl_r209_59, hl_r209_60, hl_r209_61, hl_r209_62, hl_r209_65, hl_r209_66, hl_r209_69, hl_r209_70, hl_r209_73, hl_r209_74, hl_r209_75, hl_r209_78, hl_r209_79, hl_r209_82, hl_r209_85, hl_r209_88, hl_r209_89, hl_r209_92, hl_r209_93, hl_r209_94, hl_r209_95, hl_r209_96, hl_r209_97, hl_r209_100, hl_r209_103, hl_r209_104, hl_o_85, hl_p_85_3, hl_p_85_4, hl_p_85_5, hl_p_85_6, hl_p_85_19, hl_p_85_23, hl_p_85_24, hl_p_85_25, hl_p_85_26, hl_p_85_27, hl_p_85_28, hl_p_85_29, hl_p_85_30, hl_p_85_31, hl_p_85_33, hl_p_85_34, hl_p_85_35, hl_p_85_36, hl_p_85_37, hl_a_92, hl_z_92, c1, e1, e2, e3', hl_tv_t, hl_10, not_false_eq_true, hl_k330, hl_v0, hl_lcmp_ge0, hl_lcmp_le0, q1', q2', en, hl_sum, eM, hl_tl_n, hl_kill_i, hl_kill_r, hl_kill_n, hl_kill_l, hl_tl_s, hl_tl_n, hl_cal_some, hl_gI, hl_gJ, hl_gsI, hl_gsJ, hl_tv01, if_true, if_false, hl_up_a, hl_row_a]
theorem hl_s209 {c h : Nat} (hCo : hl_Co N W H Is) (hv : hl_vw Is I) (hN : N ≤ 24) (hc : c < N) (hh : (h : Int) < hl_Sv Is 86 0) : ∃ I' J', hl_call (d + 6) 209 [.ref 85, .int (nI c), .int (nI h)] (hl_g N I J) = some (some (.int (hl_pay Is c h)), hl_g N I' J') ∧ hl_r9 I I' ∧ hl_j9 J J' := by
  obtain ⟨I', J', e, r⟩ := hl_l209 (d := d) hCo hN hc hh 12 I J 0 rfl hv
  refine ⟨I', J', ?_, r⟩
  rw [hl_e209, hl_r209_0, hl_r209_1, hl_r209_2, hl_r209_3]
  exact e
/-- the purse -/
theorem hl_s48 {c h : Nat} (hc : c < N) (hN : N ≤ 24) (hh : h < 4) : hl_call (d + 1) 48 [.ref 63, .int (nI c), .int (nI h)] (hl_g N I J) = some (some (.int (I 64 (4 * c + h))), hl_g N I J) := by
  rw [hl_e48]
  have b : hl_inb (nI (4 * c + h)) (N * 4) = true := hl_inb_nI (by omega) (by omega)
  simp only [hl_r48_0, hl_r48_1, hl_r48_4, hl_r48_5, hl_r48_6, hl_r48_7, hl_r48_8, hl_r48_9, hl_r48_10, hl_o_63, hl_p_63_0, hl_p_63_1, hl_p_63_2, hl_p_63_3, hl_a_64, hl_z_64, hl_i4, b, nIc (show 4 * c + h < 2 ^ 31 by omega), hl_kill_i, hl_kill_r, hl_kill_n, hl_kill_l, hl_tl_s, hl_tl_n, hl_cal_some, hl_gI, hl_gJ, hl_gsI, hl_gsJ, hl_tv01, if_true, if_false, hl_up_a, hl_row_a]
/-- refresh: the first i cells are fresh -/
def hl_Rf (N nh i : Nat) (I0 I : Nat → Nat → Int32) : Prop := hl_same I0 I ∧ (∀ c, c < i → I 65 c = 1 ∧ ∀ h, h < nh → I 64 (4 * c + h) = hl_pay I0 c h) ∧ ∀ c, i ≤ c → c < N → I 65 c = I0 65 c ∧ ∀ h, h < 4 → I 64 (4 * c + h) = I0 64 (4 * c + h)
theorem hl_l45i {nh i : Nat} {I0 : Nat → Nat → Int32} (hN : N ≤ 24) (hnh : nh ≤ 4) (hH : I0 1 8 = nI nh) (hTB : hl_TB I0) (ht : ∀ c, c < N → I0 6 c = 0 ∨ I0 6 c = 1) (hi : i < N) (h0 : I0 65 i = 0) (f : Nat) : ∀ (I : Nat → Nat → Int32) (k : Nat), k + f = nh → hl_same I0 I → I 65 i = 0 → ∃ I', hl_Run 45 (hl_call (d + 5)) 13 [.ref 63, .int (nI i), .int (nI k)] [] (hl_g N I J) = hl_Run 45 (hl_call (d + 5)) 55 [.ref 63, .int (nI i), .int (nI nh)] [] (hl_g N I' J) ∧ hl_same I0 I' ∧ I' 65 = I 65 ∧ (∀ c h, c ≠ i → h < 4 → I' 64 (4 * c + h) = I 64 (4 * c + h)) ∧ (∀ h, h < k → I' 64 (4 * i + h) = I 64 (4 * i + h)) ∧ ∀ h, k ≤ h → h < nh → I' 64 (4 * i + h) = hl_pay I0 i h := by
  have b24 : hl_inb (nI i) N = true := hl_inb_nI hi (by omega)
  induction f with
  | zero =>
    intro I k hk hs h5
    obtain rfl : k = nh := by omega
    refine ⟨I, ?_, hs, rfl, fun _ _ _ _ => rfl, fun _ _ => rfl, fun h h1 h2 => by omega⟩
    have e8 : I 1 8 = nI k := by rw [hs 1 (by decide) (by decide) (by decide) (by decide) (by decide)]; exact hH
    simp only [hl_r45_13, hl_r45_14, hl_r45_15, hl_r45_18, hl_r45_21, hl_o_63, hl_p_63_0, hl_p_63_1, hl_p_63_2, hl_p_63_3, hl_o_1, hl_p_1_0, hl_p_1_1, hl_p_1_2, hl_p_1_3, hl_p_1_4, hl_p_1_5, hl_p_1_6, hl_p_1_7, hl_p_1_9, hl_p_1_14, hl_p_1_15, e8, Int32.le_refl, hl_kill_i, hl_kill_r, hl_kill_n, hl_kill_l, hl_tl_s, hl_tl_n, hl_cal_some, hl_gI, hl_gJ, hl_gsI, hl_gsJ, hl_tv01, if_true, if_false, hl_up_a, hl_row_a]
  | succ f ih =>
    intro I k hk hs h5
    have e8 : I 1 8 = nI nh := by rw [hs 1 (by decide) (by decide) (by decide) (by decide) (by decide)]; exact hH
    have hlt : ¬ nI nh ≤ nI k := nI_ge (by omega) (by omega)
    have en : nI k + 1 = nI (k + 1) := (nI_succ k).symm
    have hTB' : hl_TB I := by
      intro T cl hT hcl
      rw [hs (46 + 4 * T) (by omega) (by omega) (by omega) (by omega) (by omega), hs (47 + 4 * T) (by omega) (by omega) (by omega) (by omega) (by omega)]
      exact hTB T cl hT hcl
    have ht' : I 6 i = 0 ∨ I 6 i = 1 := by rw [hs 6 (by decide) (by decide) (by decide) (by decide) (by decide)]; exact ht i hi
    obtain ⟨I1, e1, f1⟩ := hl_s46 (d := d) (N := N) (J := J) (c := i) (h := k) hTB' hi hN (by omega) ht'
    rw [hs.pay] at e1
    have s1 : hl_same I0 I1 := hl_same_tr hs f1.same
    have s2 : hl_same I0 (hl_up I1 64 (4 * i + k) (hl_pay I0 i k)) := fun b h1 h2 h3 h4 h5 => by rw [hl_up_ne _ _ _ h4]; exact s1 b h1 h2 h3 h4 h5
    have e65 : I1 65 = I 65 := f1 65 (by decide) (by decide) (by decide)
    have e64 : I1 64 = I 64 := f1 64 (by decide) (by decide) (by decide)
    obtain ⟨I2, e2, s3, g1, g2, g3, g4⟩ := ih (hl_up I1 64 (4 * i + k) (hl_pay I0 i k)) (k + 1) (by omega) s2 (by rw [hl_up_ne _ _ _ (by decide), e65]; exact h5)
    have at64 : ∀ j, hl_up I1 64 (4 * i + k) (hl_pay I0 i k) 64 j = if j = 4 * i + k then hl_pay I0 i k else I 64 j := fun j => by rw [← e64]; rfl
    refine ⟨I2, ?_, s3, ?_, fun c h hc hh => ?_, fun h hh => ?_, fun h h1 h2 => ?_⟩
    · rw [← e2]
      have b : hl_inb (nI (4 * i + k)) (N * 4) = true := hl_inb_nI (by omega) (by omega)
      rw [hl_r45_13]
      simp only [hl_r45_14, hl_r45_15, hl_r45_18, hl_r45_21, hl_r45_24, hl_r45_25, hl_r45_28, hl_r45_29, hl_r45_30, hl_r45_33, hl_r45_34, hl_r45_37, hl_r45_38, hl_r45_39, hl_r45_40, hl_r45_41, hl_r45_42, hl_r45_43, hl_r45_44, hl_r45_45, hl_r45_48, hl_r45_49, hl_r45_52, hl_o_63, hl_p_63_0, hl_p_63_1, hl_p_63_2, hl_p_63_3, hl_o_1, hl_p_1_0, hl_p_1_1, hl_p_1_2, hl_p_1_3, hl_p_1_4, hl_p_1_5, hl_p_1_6, hl_p_1_7, hl_p_1_9, hl_p_1_14, hl_p_1_15, hl_a_65, hl_z_65, hl_a_64, hl_z_64, e8, hlt, b24, h5, nIc (show i < 2 ^ 31 by omega), not_true, hl_i4, e1, b, nIc (show 4 * i + k < 2 ^ 31 by omega), en, hl_kill_i, hl_kill_r, hl_kill_n, hl_kill_l, hl_tl_s, hl_tl_n, hl_cal_some, hl_gI, hl_gJ, hl_gsI, hl_gsJ, hl_tv01, if_true, if_false, hl_up_a, hl_row_a]
    · rw [g1, hl_up_ne _ _ _ (by decide), e65]
    · rw [g2 c h hc hh, at64, if_neg (by omega)]
    · rw [g3 h (by omega), at64, if_neg (by omega)]
    · by_cases q : h = k
      · subst q
        rw [g3 h (by omega), at64, if_pos rfl]
      · exact g4 h (by omega) h2
theorem hl_l45 {nh : Nat} {I0 : Nat → Nat → Int32} (hN : N ≤ 24) (hnh : nh ≤ 4) (hH : I0 1 8 = nI nh) (hTB : hl_TB I0) (ht : ∀ c, c < N → I0 6 c = 0 ∨ I0 6 c = 1) (hP : ∀ c, c < N → I0 65 c = 0 ∨ (I0 65 c = 1 ∧ ∀ h, h < nh → I0 64 (4 * c + h) = hl_pay I0 c h)) (f : Nat) : ∀ (I : Nat → Nat → Int32) (i : Nat) (l : Value), i + f = N → hl_Rf N nh i I0 I → ∃ I', hl_Run 45 (hl_call (d + 5)) 2 [.ref 63, .int (nI i), l] [] (hl_g N I J) = some (none, hl_g N I' J) ∧ hl_Rf N nh N I0 I' := by
  induction f with
  | zero =>
    intro I i l hi hR
    obtain rfl : i = N := by omega
    refine ⟨I, ?_, hR⟩
    have e : Int32.ofNat i = nI i := rfl
    simp only [hl_r45_0, hl_r45_1, hl_r45_2, hl_r45_3, hl_r45_4, hl_r45_7, hl_r45_8, hl_r45_11, hl_r45_12, hl_r45_13, hl_r45_14, hl_r45_15, hl_r45_18, hl_r45_21, hl_r45_24, hl_r45_25, hl_r45_28, hl_r45_29, hl_r45_30, hl_r45_33, hl_r45_34, hl_r45_37, hl_r45_38, hl_r45_39, hl_r45_40, hl_r45_41, hl_r45_42, hl_r45_43, hl_r45_44, hl_r45_45, hl_r45_48, hl_r45_49, hl_r45_52, hl_r45_55, hl_r45_56, hl_r45_59, hl_r45_60, hl_r45_61, hl_r45_62, hl_r45_65, hl_r45_68, hl_o_63, hl_p_63_0, hl_p_63_1, hl_p_63_2, hl_p_63_3, hl_a_65, hl_z_65, hl_l_65, e, Int32.le_refl, hl_kill_i, hl_kill_r, hl_kill_n, hl_kill_l, hl_tl_s, hl_tl_n, hl_cal_some, hl_gI, hl_gJ, hl_gsI, hl_gsJ, hl_tv01, if_true, if_false, hl_up_a, hl_row_a]
  | succ f ih =>
    intro I i l hi hR
    obtain ⟨hs, hA, hB⟩ := hR
    have hlt : ¬ nI N ≤ nI i := nI_ge (by omega) (by omega)
    have e : Int32.ofNat N = nI N := rfl
    have en : nI i + 1 = nI (i + 1) := (nI_succ i).symm
    have b24 : hl_inb (nI i) N = true := hl_inb_nI (by omega) (by omega)
    have e8 : I 1 8 = nI nh := by rw [hs 1 (by decide) (by decide) (by decide) (by decide) (by decide)]; exact hH
    have z0 : nI 0 = 0 := rfl
    obtain ⟨e65, e64⟩ := hB i (Nat.le_refl i) (by omega)
    -- what the inner loop leaves
    have inner : ∃ I1 l', hl_Run 45 (hl_call (d + 5)) 13 [.ref 63, .int (nI i), .int 0] [] (hl_g N I J) = hl_Run 45 (hl_call (d + 5)) 55 [.ref 63, .int (nI i), l'] [] (hl_g N I1 J) ∧ hl_same I0 I1 ∧ I1 65 = I 65 ∧ (∀ c h, c ≠ i → h < 4 → I1 64 (4 * c + h) = I 64 (4 * c + h)) ∧ ∀ h, h < nh → I1 64 (4 * i + h) = hl_pay I0 i h := by
      rcases hP i (by omega) with p | ⟨p, p2⟩
      · obtain ⟨I1, q1, q2, q3, q4, q5, q6⟩ := hl_l45i (d := d) (J := J) hN hnh hH hTB ht (show i < N by omega) p nh I 0 (by omega) hs (by rw [e65]; exact p)
        exact ⟨I1, _, q1, q2, q3, q4, fun h hh => q6 h (by omega) hh⟩
      · refine ⟨I, .int 0, ?_, hs, rfl, fun _ _ _ _ => rfl, fun h hh => by rw [e64 h (by omega)]; exact p2 h hh⟩
        by_cases h0 : nh = 0
        · subst h0
          simp only [hl_r45_13, hl_r45_14, hl_r45_15, hl_r45_18, hl_r45_21, hl_o_63, hl_p_63_0, hl_p_63_1, hl_p_63_2, hl_p_63_3, hl_o_1, hl_p_1_0, hl_p_1_1, hl_p_1_2, hl_p_1_3, hl_p_1_4, hl_p_1_5, hl_p_1_6, hl_p_1_7, hl_p_1_9, hl_p_1_14, hl_p_1_15, e8, z0, Int32.le_refl, hl_kill_i, hl_kill_r, hl_kill_n, hl_kill_l, hl_tl_s, hl_tl_n, hl_cal_some, hl_gI, hl_gJ, hl_gsI, hl_gsJ, hl_tv01, if_true, if_false, hl_up_a, hl_row_a]
        · have hl0 : ¬ nI nh ≤ 0 := nI_nle (by omega) (by omega)
          simp only [hl_r45_13, hl_r45_14, hl_r45_15, hl_r45_18, hl_r45_21, hl_r45_24, hl_r45_25, hl_r45_28, hl_r45_29, hl_r45_30, hl_o_63, hl_p_63_0, hl_p_63_1, hl_p_63_2, hl_p_63_3, hl_o_1, hl_p_1_0, hl_p_1_1, hl_p_1_2, hl_p_1_3, hl_p_1_4, hl_p_1_5, hl_p_1_6, hl_p_1_7, hl_p_1_9, hl_p_1_14, hl_p_1_15, hl_a_65, hl_z_65, e8, hl0, b24, nIc (show i < 2 ^ 31 by omega), e65, p, hl_10, not_false_eq_true, hl_kill_i, hl_kill_r, hl_kill_n, hl_kill_l, hl_tl_s, hl_tl_n, hl_cal_some, hl_gI, hl_gJ, hl_gsI, hl_gsJ, hl_tv01, if_true, if_false, hl_up_a, hl_row_a]
    obtain ⟨I1, l', q1, q2, q3, q4, q5⟩ := inner
    have s2 : hl_same I0 (hl_up I1 65 i 1) := fun b h1 h2 h3 h4 h5 => by rw [hl_up_ne _ _ _ h5]; exact q2 b h1 h2 h3 h4 h5
    have at65 : ∀ j, hl_up I1 65 i 1 65 j = if j = i then 1 else I 65 j := fun j => by rw [← q3]; rfl
    have at64 : hl_up I1 65 i 1 64 = I1 64 := rfl
    have hR' : hl_Rf N nh (i + 1) I0 (hl_up I1 65 i 1) := by
      refine ⟨s2, fun c hc => ?_, fun c h1 h2 => ?_⟩
      · rw [at65, at64]
        by_cases q : c = i
        · subst q
          exact ⟨if_pos rfl, q5⟩
        · rw [if_neg q]
          obtain ⟨a1, a2⟩ := hA c (by omega)
          exact ⟨a1, fun h hh => by rw [q4 c h q (by omega)]; exact a2 h hh⟩
      · rw [at65, at64, if_neg (by omega)]
        obtain ⟨a1, a2⟩ := hB c (by omega) h2
        exact ⟨a1, fun h hh => by rw [q4 c h (by omega) hh]; exact a2 h hh⟩
    obtain ⟨I2, g1, g2⟩ := ih (hl_up I1 65 i 1) (i + 1) l' (by omega) hR'
    refine ⟨I2, ?_, g2⟩
    rw [← g1, hl_r45_2]
    simp only [hl_r45_3, hl_r45_4, hl_r45_7, hl_r45_8, hl_r45_11, hl_r45_12, hl_o_63, hl_p_63_0, hl_p_63_1, hl_p_63_2, hl_p_63_3, hl_a_65, hl_z_65, hl_l_65, e, hlt, q1, hl_r45_55, hl_r45_56, hl_r45_59, hl_r45_60, hl_r45_61, hl_r45_62, hl_r45_65, b24, nIc (show i < 2 ^ 31 by omega), or_true, en, hl_kill_i, hl_kill_r, hl_kill_n, hl_kill_l, hl_tl_s, hl_tl_n, hl_cal_some, hl_gI, hl_gJ, hl_gsI, hl_gsJ, hl_tv01, if_true, if_false, hl_up_a, hl_row_a]
/-- after refresh: all cells' pays stand in the table -/
def hl_Fr (N nh : Nat) (I0 I : Nat → Nat → Int32) : Prop := (∀ b, b ≠ 60 → b ≠ 61 → b ≠ 62 → b ≠ 64 → b ≠ 65 → I b = I0 b) ∧ ∀ c, c < N → I 65 c = 1 ∧ ∀ h, h < nh → I 64 (4 * c + h) = hl_pay I0 c h
theorem hl_Fr.tm {nh : Nat} (h : hl_Fr N nh I I') : hl_Tm I I' := ⟨fun b hb => h.1 b (by omega) (by omega) (by omega) (by omega) (by omega), h.1 66 (by omega) (by omega) (by omega) (by omega) (by omega), fun k hk => by rw [h.1 85 (by omega) (by omega) (by omega) (by omega) (by omega)], fun b h1 h2 => h.1 b (by omega) (by omega) (by omega) (by omega) (by omega)⟩
theorem hl_Fr.pu {nh : Nat} (h : hl_Fr N nh I I') (hs : hl_Sv I 86 0 = (nh : Int)) : hl_Pu N I' := by
  intro c hc
  obtain ⟨h1, h2⟩ := h.2 c hc
  refine .inr ⟨h1, fun k hk => ?_⟩
  have e : hl_Sv I' 86 0 = hl_Sv I 86 0 := by unfold hl_Sv; rw [h.tm.2.2.2 86 (by omega) (by omega)]
  rw [e, hs] at hk
  rw [h2 k (by omega), (h.tm.pd c).pay]
theorem hl_s45 {nh : Nat} (hI : hl_Inv hl_TX N W H I) (hN : N ≤ 24) (hnh : nh ≤ 4) (hH : I 1 8 = nI nh) (hs : hl_Sv I 86 0 = (nh : Int)) : ∃ I', hl_call (d + 6) 45 [.ref 63] (hl_g N I J) = some (none, hl_g N I' J) ∧ hl_Fr N nh I I' := by
  obtain ⟨I', e, r1, r2, r3⟩ := hl_l45 (d := d) (J := J) hN hnh hH hI.2.2.2.2.2.1 (fun c hc => hI.co.town hN hc) (fun c hc => by
    rcases hI.2.2.2.2.1 c hc with p | ⟨p1, p2⟩
    · exact .inl p
    · exact .inr ⟨p1, fun h hh => p2 h (by omega)⟩) N I 0 .null (by omega) ⟨hl_same_rf I, fun c hc => by omega, fun c h1 h2 => ⟨rfl, fun _ _ => rfl⟩⟩
  refine ⟨I', ?_, r1, r2⟩
  rw [hl_e45, hl_r45_0, hl_r45_1]
  exact e
/-- pays -/
theorem hl_pr13 (hN : N ≤ 24) (f : Nat → Int32) : hl_PQ hl_TX N W H 118 210 (hl_args 13 f) := by
  refine hl_PQ_read hl_TXc fun I J hI => ?_
  show ∃ v I1 J1 I2 J2, hl_call 1001 118 [.ref 0, .int (f 1), .int (f 2)] (hl_g N I J) = some (some (.int v), hl_g N I1 J1) ∧ hl_call 1001 210 [.ref 85, .int (f 1), .int (f 2)] (hl_g N I1 J1) = some (some (.int v), hl_g N I2 J2) ∧ _
  obtain ⟨nh, h4, hc1, hm1, hs1⟩ := hI.nh
  have bN : N < 2 ^ 31 := by omega
  have bh : nh < 2 ^ 31 := by omega
  have k138 := hl_s138 (d := 998) (I := I) (J := J) (x := f 1) hI.cM bN
  have k139 := hl_s139 (d := 998) (N := N) (I := I) (J := J) (x := f 2) hc1 bh
  have k153 := fun (I1 : Nat → Nat → Int32) (h : hl_Tm I I1) => hl_s153 (d := 998) (I := I1) (J := J) (x := f 1) ((h.2.2.1 2 (by omega)).trans hI.mM) bN
  have k154 := fun (I1 : Nat → Nat → Int32) (h : hl_Tm I I1) => hl_s154 (d := 998) (N := N) (I := I1) (J := J) (x := f 2) (show I1 86 0 = nI nh by rw [h.2.2.2 86 (by omega) (by omega)]; exact hm1) bh
  have P := hI.2.2.2.2.1
  cases g1 : hl_inb (f 1) N with
  | false =>
    rw [g1] at k138
    have k153' := k153 I (hl_Tm_rf I)
    rw [g1] at k153'
    refine ⟨-1, I, J, I, J, ?_, ?_, hl_Tm_rf I, P, hl_Tm_rf I, rfl, rfl⟩
    · rw [hl_e118 (d := 1000)]; simp only [hl_r118_0, hl_r118_1, hl_r118_2, hl_r118_5, hl_r118_8, hl_r118_9, hl_r118_10, hl_r118_13, hl_r118_16, hl_r118_17, hl_r118_18, hl_r118_19, hl_r118_22, hl_r118_25, hl_r118_26, hl_r118_29, hl_r118_30, hl_r118_31, hl_r118_34, hl_o_0, hl_p_0_3, hl_p_0_4, hl_p_0_5, hl_p_0_7, hl_p_0_8, hl_p_0_9, hl_p_0_10, hl_p_0_11, hl_p_0_12, hl_p_0_13, hl_p_0_14, hl_p_0_15, k138, hl_tv_f, hl_kill_i, hl_kill_r, hl_kill_n, hl_kill_l, hl_tl_s, hl_tl_n, hl_cal_some, hl_gI, hl_gJ, hl_gsI, hl_gsJ, hl_tv01, if_true, if_false, hl_up_a, hl_row_a]
    · rw [hl_e210 (d := 1000)]; simp only [hl_r210_0, hl_r210_1, hl_r210_2, hl_r210_5, hl_r210_8, hl_r210_9, hl_r210_10, hl_r210_13, hl_r210_16, hl_r210_17, hl_r210_18, hl_r210_19, hl_r210_22, hl_r210_25, hl_r210_26, hl_o_85, hl_p_85_3, hl_p_85_4, hl_p_85_5, hl_p_85_6, hl_p_85_19, hl_p_85_23, hl_p_85_24, hl_p_85_25, hl_p_85_26, hl_p_85_27, hl_p_85_28, hl_p_85_29, hl_p_85_30, hl_p_85_31, hl_p_85_33, hl_p_85_34, hl_p_85_35, hl_p_85_36, hl_p_85_37, k153', hl_tv_f, hl_kill_i, hl_kill_r, hl_kill_n, hl_kill_l, hl_tl_s, hl_tl_n, hl_cal_some, hl_gI, hl_gJ, hl_gsI, hl_gsJ, hl_tv01, if_true, if_false, hl_up_a, hl_row_a]
  | true =>
    rw [g1] at k138
    cases g2 : hl_inb (f 2) nh with
    | false =>
      rw [g2] at k139
      have k153' := k153 I (hl_Tm_rf I)
      have k154' := k154 I (hl_Tm_rf I)
      rw [g1] at k153'
      rw [g2] at k154'
      refine ⟨-1, I, J, I, J, ?_, ?_, hl_Tm_rf I, P, hl_Tm_rf I, rfl, rfl⟩
      · rw [hl_e118 (d := 1000)]; simp only [hl_r118_0, hl_r118_1, hl_r118_2, hl_r118_5, hl_r118_8, hl_r118_9, hl_r118_10, hl_r118_13, hl_r118_16, hl_r118_17, hl_r118_18, hl_r118_19, hl_r118_22, hl_r118_25, hl_r118_26, hl_r118_29, hl_r118_30, hl_r118_31, hl_r118_34, hl_o_0, hl_p_0_3, hl_p_0_4, hl_p_0_5, hl_p_0_7, hl_p_0_8, hl_p_0_9, hl_p_0_10, hl_p_0_11, hl_p_0_12, hl_p_0_13, hl_p_0_14, hl_p_0_15, k138, k139, hl_tv_f, hl_tv_t, hl_10, not_true, hl_kill_i, hl_kill_r, hl_kill_n, hl_kill_l, hl_tl_s, hl_tl_n, hl_cal_some, hl_gI, hl_gJ, hl_gsI, hl_gsJ, hl_tv01, if_true, if_false, hl_up_a, hl_row_a]
      · rw [hl_e210 (d := 1000)]; simp only [hl_r210_0, hl_r210_1, hl_r210_2, hl_r210_5, hl_r210_8, hl_r210_9, hl_r210_10, hl_r210_13, hl_r210_16, hl_r210_17, hl_r210_18, hl_r210_19, hl_r210_22, hl_r210_25, hl_r210_26, hl_o_85, hl_p_85_3, hl_p_85_4, hl_p_85_5, hl_p_85_6, hl_p_85_19, hl_p_85_23, hl_p_85_24, hl_p_85_25, hl_p_85_26, hl_p_85_27, hl_p_85_28, hl_p_85_29, hl_p_85_30, hl_p_85_31, hl_p_85_33, hl_p_85_34, hl_p_85_35, hl_p_85_36, hl_p_85_37, k153', k154', hl_tv_f, hl_tv_t, hl_10, hl_kill_i, hl_kill_r, hl_kill_n, hl_kill_l, hl_tl_s, hl_tl_n, hl_cal_some, hl_gI, hl_gJ, hl_gsI, hl_gsJ, hl_tv01, if_true, if_false, hl_up_a, hl_row_a]
    | true =>
      rw [g2] at k139
      obtain ⟨c, hc, ec⟩ := hl_inb_of g1 bN
      obtain ⟨h, hh, eh⟩ := hl_inb_of g2 bh
      obtain ⟨I1, e1, F⟩ := hl_s45 (d := 994) (J := J) hI hN h4 hc1 hs1
      have tm := F.tm
      have k153' := k153 I1 tm
      have k154' := k154 I1 tm
      rw [g1, ec] at k153'
      rw [g2, eh] at k154'
      rw [ec] at k138 ⊢
      rw [eh] at k139 ⊢
      have e48 := hl_s48 (d := 999) (I := I1) (J := J) hc hN (show h < 4 by omega)
      rw [(F.2 c hc).2 h hh] at e48
      have hCo := hl_Co_t hI.co tm
      obtain ⟨I2, J2, e2, r2, j2⟩ := hl_s209 (d := 994) (J := J) hCo (hl_vw_rf I1) hN hc (show (h : Int) < hl_Sv I1 86 0 by unfold hl_Sv at hs1 ⊢; rw [tm.2.2.2 86 (by omega) (by omega), hs1]; omega)
      rw [(tm.pd c).pay] at e2
      refine ⟨hl_pay I c h, I1, J, I2, J2, ?_, ?_, tm, F.pu hs1, r2.tm, r2 64 (by decide) (by decide), r2 65 (by decide) (by decide)⟩
      · rw [hl_e118 (d := 1000)]; simp only [hl_r118_0, hl_r118_1, hl_r118_2, hl_r118_5, hl_r118_8, hl_r118_9, hl_r118_10, hl_r118_13, hl_r118_16, hl_r118_17, hl_r118_18, hl_r118_19, hl_r118_22, hl_r118_25, hl_r118_26, hl_r118_29, hl_r118_30, hl_r118_31, hl_r118_34, hl_o_0, hl_p_0_3, hl_p_0_4, hl_p_0_5, hl_p_0_7, hl_p_0_8, hl_p_0_9, hl_p_0_10, hl_p_0_11, hl_p_0_12, hl_p_0_13, hl_p_0_14, hl_p_0_15, hl_o_63, hl_p_63_0, hl_p_63_1, hl_p_63_2, hl_p_63_3, k138, k139, e1, e48, hl_tv_t, hl_10, not_false_eq_true, hl_tl_n, hl_kill_i, hl_kill_r, hl_kill_n, hl_kill_l, hl_tl_s, hl_tl_n, hl_cal_some, hl_gI, hl_gJ, hl_gsI, hl_gsJ, hl_tv01, if_true, if_false, hl_up_a, hl_row_a]
      · rw [hl_e210 (d := 1000)]; simp only [hl_r210_0, hl_r210_1, hl_r210_2, hl_r210_5, hl_r210_8, hl_r210_9, hl_r210_10, hl_r210_13, hl_r210_16, hl_r210_17, hl_r210_18, hl_r210_19, hl_r210_22, hl_r210_25, hl_r210_26, hl_o_85, hl_p_85_3, hl_p_85_4, hl_p_85_5, hl_p_85_6, hl_p_85_19, hl_p_85_23, hl_p_85_24, hl_p_85_25, hl_p_85_26, hl_p_85_27, hl_p_85_28, hl_p_85_29, hl_p_85_30, hl_p_85_31, hl_p_85_33, hl_p_85_34, hl_p_85_35, hl_p_85_36, hl_p_85_37, k153', k154', e2, hl_tv_t, hl_10, hl_kill_i, hl_kill_r, hl_kill_n, hl_kill_l, hl_tl_s, hl_tl_n, hl_cal_some, hl_gI, hl_gJ, hl_gsI, hl_gsJ, hl_tv01, if_true, if_false, hl_up_a, hl_row_a]
end HLPS
