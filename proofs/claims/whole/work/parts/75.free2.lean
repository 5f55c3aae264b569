/-! free: the reference's, the pair -/
def hl_dM (N nh : Nat) (I0 I : Nat → Nat → Int32) (P : Nat → Nat) : Prop := hl_Tm I0 I ∧ I 64 = I0 64 ∧ I 65 = I0 65 ∧ ∀ c, c < N → P c < nh ∧ I 94 c = nI (P c)
section HLFR2
variable {d N W H : Nat} {I Is I' I0 : Nat → Nat → Int32} {J J' : Nat → Nat → Int64} {nh cn : Nat} {P : Nat → Nat}
theorem hl_dM_r9 (h : hl_dM N nh I0 I P) (r : hl_r9 I I') : hl_dM N nh I0 I' P := ⟨hl_Tm_tr h.1 r.tm, by rw [r 64 (by decide) (by decide)]; exact h.2.1, by rw [r 65 (by decide) (by decide)]; exact h.2.2.1, fun c hc => by rw [r 94 (by decide) (by decide)]; exact h.2.2.2 c hc⟩
theorem hl_drN_B (hCo : hl_Co N W H I0) (hN : N ≤ 24) (ts : hl_Sv I0 86 1 = (cn : Int)) (c : Nat) : 0 ≤ (hl_drN I0 cn P c).toInt ∧ (hl_drN I0 cn P c).toInt ≤ 1000000 := by
  have c40 := hCo.2.1.2.2.1.2
  have hB : cn * 99 ≤ 3960 := by omega
  have := hl_sum_B (B := 99) cn (f := hl_alo I0 (hl_hP P) c) (fun k hk => by
    obtain ⟨a, b, w, a1, b1, -, w1, w2, ta, tb, tw, -⟩ := hCo.tie hN ts hk
    unfold hl_alo
    rw [tw]
    split
    · rw [show (0 : Int32).toInt = 0 from rfl]; omega
    · split
      · rw [show (0 : Int32).toInt = 0 from rfl]; omega
      · rw [hl_tI (by omega)]; omega) (by omega)
  unfold hl_drN
  omega
theorem hl_nm1 {t : Nat} (ht : t < 1000) : ¬ nI t = -1 := fun q => by
  have := congrArg Int32.toInt q
  rw [hl_tI (by omega), show (-1 : Int32).toInt = -1 from rfl] at this
  omega
theorem hl_s241 {c : Nat} (hCo : hl_Co N W H I0) (hN : N ≤ 24) (hn : nh ≤ 4) (ts : hl_Sv I0 86 1 = (cn : Int)) (hM : hl_dM N nh I0 I P) (hc : c < N) : hl_call (d + 1) 241 [.ref 85, .int (nI c)] (hl_g N I J) = some (some (.int (hl_drN I0 cn P c)), hl_g N I J) := by
  obtain ⟨tm, d64, d65, d94⟩ := hM
  have hv := tm.vw
  obtain ⟨k0, k1, k2, k3, k4⟩ := hCo.cn
  obtain rfl : k0 = cn := by omega
  have e1 : I 86 1 = nI k0 := by rw [hv.2.1]; exact k3
  have loop : ∀ f i (l4 : Value), i + f = k0 → hl_Run 241 (hl_call d) 4 [.ref 85, .int (nI c), .int (hl_sum i (hl_alo I0 (hl_hP P) c)), .int (nI i), l4] [] (hl_g N I J) = some (some (.int (hl_drN I0 k0 P c)), hl_g N I J) := by
    intro f
    induction f with
    | zero =>
      intro i l4 hi
      obtain rfl : i = k0 := by omega
      simp only [hl_r241_0, hl_r241_1, hl_r241_2, hl_r241_3, hl_r241_4, hl_r241_5, hl_r241_6, hl_r241_9, hl_r241_10, hl_r241_11, hl_r241_14, hl_r241_17, hl_r241_18, hl_r241_19, hl_r241_20, hl_r241_21, hl_r241_23, hl_r241_24, hl_r241_27, hl_r241_29, hl_r241_30, hl_r241_31, hl_r241_34, hl_r241_35, hl_r241_38, hl_r241_40, hl_r241_41, hl_r241_42, hl_r241_43, hl_r241_44, hl_r241_47, hl_r241_48, hl_r241_51, hl_r241_52, hl_r241_55, hl_r241_57, hl_r241_58, hl_r241_59, hl_r241_60, hl_r241_63, hl_r241_64, hl_r241_67, hl_r241_69, hl_r241_70, hl_r241_71, hl_r241_72, hl_r241_73, hl_r241_76, hl_r241_77, hl_r241_78, hl_r241_81, hl_r241_83, hl_r241_84, hl_r241_85, hl_r241_86, hl_r241_87, hl_r241_88, hl_r241_91, hl_r241_94, hl_r241_95, hl_o_85, hl_p_85_3, hl_p_85_4, hl_p_85_5, hl_p_85_6, hl_p_85_19, hl_p_85_23, hl_p_85_24, hl_p_85_25, hl_p_85_26, hl_p_85_27, hl_p_85_28, hl_p_85_29, hl_p_85_30, hl_p_85_31, hl_p_85_33, hl_p_85_34, hl_p_85_35, hl_p_85_36, hl_p_85_37, hl_a_86, hl_z_86, hl_k1, hl_v1, e1, Int32.le_refl, hl_drN, hl_kill_i, hl_kill_r, hl_kill_n, hl_kill_l, hl_tl_s, hl_tl_n, hl_cal_some, hl_gI, hl_gJ, hl_gsI, hl_gsJ, hl_tv01, if_true, if_false, hl_up_a, hl_row_a]
    | succ f ih =>
      intro i l4 hi
      have c1 : ¬ nI k0 ≤ nI i := nI_ge (by omega) (by omega)
      have en : nI i + 1 = nI (i + 1) := (nI_succ i).symm
      have x1 : nI (200 + 3 * i) + 1 = nI (200 + 3 * i + 1) := nI_add _ 1
      have x2 : nI (200 + 3 * i) + 2 = nI (200 + 3 * i + 2) := nI_add _ 2
      obtain ⟨a, b, w, a1, b1, hab, -, -, ta, tb, tw, ma, mb, mw⟩ := hCo.tie hN ts (show i < k0 by omega)
      rw [← hv.2.1] at ma mb mw
      have f0 := hl_b490 (show 200 + 3 * i < 490 by omega)
      have f0' := hl_c490 (show 200 + 3 * i < 490 by omega)
      have f1 := hl_b490 (show 200 + 3 * i + 1 < 490 by omega)
      have f1' := hl_c490 (show 200 + 3 * i + 1 < 490 by omega)
      have f2 := hl_b490 (show 200 + 3 * i + 2 < 490 by omega)
      have f2' := hl_c490 (show 200 + 3 * i + 2 < 490 by omega)
      have ba : hl_inb (nI a) 24 = true := hl_inb_nI (by omega) (by omega)
      have bb : hl_inb (nI b) 24 = true := hl_inb_nI (by omega) (by omega)
      have va := (d94 a a1).2
      have vb := (d94 b b1).2
      have e := ih (i + 1) (.int (nI (200 + 3 * i))) (by omega)
      have hs : hl_sum (i + 1) (hl_alo I0 (hl_hP P) c) = hl_sum i (hl_alo I0 (hl_hP P) c) + hl_alo I0 (hl_hP P) c i := rfl
      -- a tie of the cell
      have go : (hl_acr I0 i c = nI a ∧ nI b = nI c) ∨ (hl_acr I0 i c = nI b ∧ nI a = nI c) → hl_Run 241 (hl_call d) 47 [.ref 85, .int (nI c), .int (hl_sum i (hl_alo I0 (hl_hP P) c)), .int (nI i), .int (nI (200 + 3 * i))] [] (hl_g N I J) = some (some (.int (hl_drN I0 k0 P c)), hl_g N I J) := by
        intro h
        have hx : hl_alo I0 (hl_hP P) c i = if nI (P a) = nI (P b) then 0 else nI w := by
          unfold hl_alo
          rcases h with ⟨h1, h2⟩ | ⟨h1, h2⟩
          · have : b = c := (nI_eq (by omega) (by omega)).mp h2
            subst this
            rw [h1, if_neg (hl_nm1 (by omega)), nIc (by omega), tw]
            rfl
          · have : a = c := (nI_eq (by omega) (by omega)).mp h2
            subst this
            rw [h1, if_neg (hl_nm1 (by omega)), nIc (by omega), tw]
            show (if nI (P b) = nI (P a) then 0 else nI w) = _
            by_cases z : nI (P a) = nI (P b)
            · rw [if_pos z, if_pos z.symm]
            · rw [if_neg z, if_neg (fun y => z y.symm)]
        rw [hs, hx] at e
        by_cases z : nI (P a) = nI (P b)
        · rw [if_pos z, Int32.add_zero] at e
          rw [← e]
          simp only [hl_r241_47, hl_r241_48, hl_r241_51, hl_r241_52, hl_r241_55, hl_r241_57, hl_r241_58, hl_r241_59, hl_r241_60, hl_r241_63, hl_r241_64, hl_r241_67, hl_r241_69, hl_r241_70, hl_r241_71, hl_r241_72, hl_r241_73, hl_r241_88, hl_r241_91, hl_o_85, hl_p_85_3, hl_p_85_4, hl_p_85_5, hl_p_85_6, hl_p_85_19, hl_p_85_23, hl_p_85_24, hl_p_85_25, hl_p_85_26, hl_p_85_27, hl_p_85_28, hl_p_85_29, hl_p_85_30, hl_p_85_31, hl_p_85_33, hl_p_85_34, hl_p_85_35, hl_p_85_36, hl_p_85_37, hl_a_86, hl_z_86, hl_a_94, hl_z_94, x1, f0, f0', f1, f1', ma, mb, ba, bb, nIc (show a < 2 ^ 31 by omega), nIc (show b < 2 ^ 31 by omega), va, vb, z, en, hl_kill_i, hl_kill_r, hl_kill_n, hl_kill_l, hl_tl_s, hl_tl_n, hl_cal_some, hl_gI, hl_gJ, hl_gsI, hl_gsJ, hl_tv01, if_true, if_false, hl_up_a, hl_row_a]
        · rw [if_neg z] at e
          rw [← e]
          simp only [hl_r241_47, hl_r241_48, hl_r241_51, hl_r241_52, hl_r241_55, hl_r241_57, hl_r241_58, hl_r241_59, hl_r241_60, hl_r241_63, hl_r241_64, hl_r241_67, hl_r241_69, hl_r241_70, hl_r241_71, hl_r241_72, hl_r241_73, hl_r241_76, hl_r241_77, hl_r241_78, hl_r241_81, hl_r241_83, hl_r241_84, hl_r241_85, hl_r241_86, hl_r241_87, hl_r241_88, hl_r241_91, hl_o_85, hl_p_85_3, hl_p_85_4, hl_p_85_5, hl_p_85_6, hl_p_85_19, hl_p_85_23, hl_p_85_24, hl_p_85_25, hl_p_85_26, hl_p_85_27, hl_p_85_28, hl_p_85_29, hl_p_85_30, hl_p_85_31, hl_p_85_33, hl_p_85_34, hl_p_85_35, hl_p_85_36, hl_p_85_37, hl_a_86, hl_z_86, hl_a_94, hl_z_94, x1, x2, f0, f0', f1, f1', f2, f2', ma, mb, mw, ba, bb, nIc (show a < 2 ^ 31 by omega), nIc (show b < 2 ^ 31 by omega), va, vb, z, en, hl_kill_i, hl_kill_r, hl_kill_n, hl_kill_l, hl_tl_s, hl_tl_n, hl_cal_some, hl_gI, hl_gJ, hl_gsI, hl_gsJ, hl_tv01, if_true, if_false, hl_up_a, hl_row_a]
      rw [hl_r241_4]
      by_cases q1 : nI a = nI c
      · have ha : hl_acr I0 i c = nI b := by unfold hl_acr; rw [ta, tb, if_pos q1]
        rw [← go (.inr ⟨ha, q1⟩)]
        simp only [hl_r241_5, hl_r241_6, hl_r241_9, hl_r241_10, hl_r241_11, hl_r241_14, hl_r241_17, hl_r241_18, hl_r241_19, hl_r241_20, hl_r241_21, hl_r241_23, hl_r241_24, hl_r241_27, hl_r241_29, hl_r241_30, hl_r241_31, hl_o_85, hl_p_85_3, hl_p_85_4, hl_p_85_5, hl_p_85_6, hl_p_85_19, hl_p_85_23, hl_p_85_24, hl_p_85_25, hl_p_85_26, hl_p_85_27, hl_p_85_28, hl_p_85_29, hl_p_85_30, hl_p_85_31, hl_p_85_33, hl_p_85_34, hl_p_85_35, hl_p_85_36, hl_p_85_37, hl_a_86, hl_z_86, hl_k1, hl_v1, e1, c1, hl_i200, f0, f0', ma, q1, hl_kill_i, hl_kill_r, hl_kill_n, hl_kill_l, hl_tl_s, hl_tl_n, hl_cal_some, hl_gI, hl_gJ, hl_gsI, hl_gsJ, hl_tv01, if_true, if_false, hl_up_a, hl_row_a]
      · by_cases q2 : nI b = nI c
        · have ha : hl_acr I0 i c = nI a := by unfold hl_acr; rw [ta, tb, if_neg q1, if_pos q2]
          rw [← go (.inl ⟨ha, q2⟩)]
          simp only [hl_r241_5, hl_r241_6, hl_r241_9, hl_r241_10, hl_r241_11, hl_r241_14, hl_r241_17, hl_r241_18, hl_r241_19, hl_r241_20, hl_r241_21, hl_r241_23, hl_r241_24, hl_r241_27, hl_r241_29, hl_r241_30, hl_r241_31, hl_r241_34, hl_r241_35, hl_r241_38, hl_r241_40, hl_r241_41, hl_r241_42, hl_r241_43, hl_r241_44, hl_o_85, hl_p_85_3, hl_p_85_4, hl_p_85_5, hl_p_85_6, hl_p_85_19, hl_p_85_23, hl_p_85_24, hl_p_85_25, hl_p_85_26, hl_p_85_27, hl_p_85_28, hl_p_85_29, hl_p_85_30, hl_p_85_31, hl_p_85_33, hl_p_85_34, hl_p_85_35, hl_p_85_36, hl_p_85_37, hl_a_86, hl_z_86, hl_k1, hl_v1, e1, c1, hl_i200, x1, f0, f0', f1, f1', ma, mb, q1, q2, not_true, hl_kill_i, hl_kill_r, hl_kill_n, hl_kill_l, hl_tl_s, hl_tl_n, hl_cal_some, hl_gI, hl_gJ, hl_gsI, hl_gsJ, hl_tv01, if_true, if_false, hl_up_a, hl_row_a]
        · have ha : hl_acr I0 i c = -1 := by unfold hl_acr; rw [ta, tb, if_neg q1, if_neg q2]
          rw [hs, show hl_alo I0 (hl_hP P) c i = 0 from if_pos ha, Int32.add_zero] at e
          rw [← e]
          simp only [hl_r241_5, hl_r241_6, hl_r241_9, hl_r241_10, hl_r241_11, hl_r241_14, hl_r241_17, hl_r241_18, hl_r241_19, hl_r241_20, hl_r241_21, hl_r241_23, hl_r241_24, hl_r241_27, hl_r241_29, hl_r241_30, hl_r241_31, hl_r241_34, hl_r241_35, hl_r241_38, hl_r241_40, hl_r241_41, hl_r241_42, hl_r241_43, hl_r241_44, hl_r241_88, hl_r241_91, hl_o_85, hl_p_85_3, hl_p_85_4, hl_p_85_5, hl_p_85_6, hl_p_85_19, hl_p_85_23, hl_p_85_24, hl_p_85_25, hl_p_85_26, hl_p_85_27, hl_p_85_28, hl_p_85_29, hl_p_85_30, hl_p_85_31, hl_p_85_33, hl_p_85_34, hl_p_85_35, hl_p_85_36, hl_p_85_37, hl_a_86, hl_z_86, hl_k1, hl_v1, e1, c1, hl_i200, x1, f0, f0', f1, f1', ma, mb, q1, q2, not_false_eq_true, en, hl_kill_i, hl_kill_r, hl_kill_n, hl_kill_l, hl_tl_s, hl_tl_n, hl_cal_some, hl_gI, hl_gJ, hl_gsI, hl_gsJ, hl_tv01, if_true, if_false, hl_up_a, hl_row_a]
  have e := loop k0 0 .null (by omega)
  rw [hl_e241, hl_r241_0, hl_r241_1, hl_r241_2, hl_r241_3]
  exact e
theorem hl_s242 {c h : Nat} (hCo : hl_Co N W H I0) (hN : N ≤ 24) (hn : nh ≤ 4) (hs0 : hl_Sv I0 86 0 = (nh : Int)) (ts : hl_Sv I0 86 1 = (cn : Int)) (hM : hl_dM N nh I0 I P) (hc : c < N) (hh : h < nh) : ∃ I' J', hl_call (d + 7) 242 [.ref 85, .int (nI c), .int (nI h)] (hl_g N I J) = some (some (.int (hl_drA I0 cn P c h)), hl_g N I' J') ∧ hl_r9 I I' := by
  obtain ⟨I1, J1, e209, r9, j9⟩ := hl_s209 (d := d) (J := J) hCo hM.1.vw hN hc (show (h : Int) < hl_Sv I0 86 0 by omega)
  have hM1 := hl_dM_r9 hM r9
  refine ⟨I1, J1, ?_, r9⟩
  obtain ⟨tm, d64, d65, d94⟩ := hM1
  have hv := tm.vw
  obtain ⟨k0, k1, k2, k3, k4⟩ := hCo.cn
  obtain rfl : k0 = cn := by omega
  have e1 : I1 86 1 = nI k0 := by rw [hv.2.1]; exact k3
  have loop : ∀ f i (l5 : Value), i + f = k0 → hl_Run 242 (hl_call (d + 6)) 10 [.ref 85, .int (nI c), .int (nI h), .int (hl_pay I0 c h + hl_sum i (hl_pk I0 (hl_hP P) c h)), .int (nI i), l5] [] (hl_g N I1 J1) = some (some (.int (hl_drA I0 k0 P c h)), hl_g N I1 J1) := by
    intro f
    induction f with
    | zero =>
      intro i l5 hi
      obtain rfl : i = k0 := by omega
      simp only [hl_r242_0, hl_r242_1, hl_r242_2, hl_r242_3, hl_r242_6, hl_r242_7, hl_r242_8, hl_r242_10, hl_r242_12, hl_r242_13, hl_r242_16, hl_r242_17, hl_r242_18, hl_r242_21, hl_r242_24, hl_r242_25, hl_r242_27, hl_r242_28, hl_r242_29, hl_r242_31, hl_r242_32, hl_r242_35, hl_r242_37, hl_r242_38, hl_r242_39, hl_r242_42, hl_r242_43, hl_r242_46, hl_r242_48, hl_r242_49, hl_r242_50, hl_r242_51, hl_r242_52, hl_r242_55, hl_r242_58, hl_r242_59, hl_r242_60, hl_r242_63, hl_r242_65, hl_r242_66, hl_r242_67, hl_r242_68, hl_r242_69, hl_r242_70, hl_r242_71, hl_r242_74, hl_r242_75, hl_r242_78, hl_r242_80, hl_r242_81, hl_r242_82, hl_r242_85, hl_r242_86, hl_r242_89, hl_r242_91, hl_r242_92, hl_r242_93, hl_r242_94, hl_r242_97, hl_r242_98, hl_r242_101, hl_r242_103, hl_r242_104, hl_r242_105, hl_r242_108, hl_r242_109, hl_r242_110, hl_r242_111, hl_r242_114, hl_r242_117, hl_r242_118, hl_o_85, hl_p_85_3, hl_p_85_4, hl_p_85_5, hl_p_85_6, hl_p_85_19, hl_p_85_23, hl_p_85_24, hl_p_85_25, hl_p_85_26, hl_p_85_27, hl_p_85_28, hl_p_85_29, hl_p_85_30, hl_p_85_31, hl_p_85_33, hl_p_85_34, hl_p_85_35, hl_p_85_36, hl_p_85_37, hl_a_86, hl_z_86, hl_k1, hl_v1, e1, Int32.le_refl, hl_drA, hl_kill_i, hl_kill_r, hl_kill_n, hl_kill_l, hl_tl_s, hl_tl_n, hl_cal_some, hl_gI, hl_gJ, hl_gsI, hl_gsJ, hl_tv01, if_true, if_false, hl_up_a, hl_row_a]
    | succ f ih =>
      intro i l5 hi
      have c1 : ¬ nI k0 ≤ nI i := nI_ge (by omega) (by omega)
      have en : nI i + 1 = nI (i + 1) := (nI_succ i).symm
      have x1 : nI (200 + 3 * i) + 1 = nI (200 + 3 * i + 1) := nI_add _ 1
      have x2 : nI (200 + 3 * i) + 2 = nI (200 + 3 * i + 2) := nI_add _ 2
      obtain ⟨a, b, w, a1, b1, hab, -, -, ta, tb, tw, ma, mb, mw⟩ := hCo.tie hN ts (show i < k0 by omega)
      rw [← hv.2.1] at ma mb mw
      have f0 := hl_b490 (show 200 + 3 * i < 490 by omega)
      have f0' := hl_c490 (show 200 + 3 * i < 490 by omega)
      have f1 := hl_b490 (show 200 + 3 * i + 1 < 490 by omega)
      have f1' := hl_c490 (show 200 + 3 * i + 1 < 490 by omega)
      have f2 := hl_b490 (show 200 + 3 * i + 2 < 490 by omega)
      have f2' := hl_c490 (show 200 + 3 * i + 2 < 490 by omega)
      have ba : hl_inb (nI a) 24 = true := hl_inb_nI (by omega) (by omega)
      have bb : hl_inb (nI b) 24 = true := hl_inb_nI (by omega) (by omega)
      have e := ih (i + 1) (.int (nI (200 + 3 * i))) (by omega)
      have hs : hl_sum (i + 1) (hl_pk I0 (hl_hP P) c h) = hl_sum i (hl_pk I0 (hl_hP P) c h) + hl_pk I0 (hl_hP P) c h i := rfl
      have go : ∀ t, t < N → hl_acr I0 i c = nI t → hl_Run 242 (hl_call (d + 6)) 104 [.ref 85, .int (nI c), .int (nI h), .int (hl_pay I0 c h + hl_sum i (hl_pk I0 (hl_hP P) c h)), .int (nI i), .int (nI (200 + 3 * i))] [.int (nI t), .ref 94, .int (nI h), .ref 85, .int (nI w), .int (hl_pay I0 c h + hl_sum i (hl_pk I0 (hl_hP P) c h))] (hl_g N I1 J1) = some (some (.int (hl_drA I0 k0 P c h)), hl_g N I1 J1) := by
        intro t ht ha
        obtain ⟨p1, p2⟩ := d94 t ht
        have bt : hl_inb (nI t) 24 = true := hl_inb_nI (by omega) (by omega)
        have hx : hl_pk I0 (hl_hP P) c h i = nI w * hl_abs (I0 9 h - I0 9 (P t)) := by
          unfold hl_pk
          rw [ha, if_neg (hl_nm1 (by omega)), nIc (by omega), tw]
          show nI w * hl_abs (I0 9 h - I0 9 (nI (P t)).toNatClampNeg) = _
          rw [nIc (by omega)]
        rw [hs, hx, ← Int32.add_assoc] at e
        rw [← e]
        simp only [hl_r242_104, hl_r242_105, hl_r242_108, hl_r242_109, hl_r242_110, hl_r242_111, hl_r242_114, hl_o_85, hl_p_85_3, hl_p_85_4, hl_p_85_5, hl_p_85_6, hl_p_85_19, hl_p_85_23, hl_p_85_24, hl_p_85_25, hl_p_85_26, hl_p_85_27, hl_p_85_28, hl_p_85_29, hl_p_85_30, hl_p_85_31, hl_p_85_33, hl_p_85_34, hl_p_85_35, hl_p_85_36, hl_p_85_37, hl_a_94, hl_z_94, bt, nIc (show t < 2 ^ 31 by omega), p2, hl_s211 (d := d + 4) (J := J1) hv hCo hs0 hn hh p1, en, hl_kill_i, hl_kill_r, hl_kill_n, hl_kill_l, hl_tl_s, hl_tl_n, hl_cal_some, hl_gI, hl_gJ, hl_gsI, hl_gsJ, hl_tv01, if_true, if_false, hl_up_a, hl_row_a]
      rw [hl_r242_10]
      by_cases q1 : nI a = nI c
      · have ha : hl_acr I0 i c = nI b := by unfold hl_acr; rw [ta, tb, if_pos q1]
        rw [← go b b1 ha]
        simp only [hl_r242_12, hl_r242_13, hl_r242_16, hl_r242_17, hl_r242_18, hl_r242_21, hl_r242_24, hl_r242_25, hl_r242_27, hl_r242_28, hl_r242_29, hl_r242_31, hl_r242_32, hl_r242_35, hl_r242_37, hl_r242_38, hl_r242_39, hl_r242_58, hl_r242_59, hl_r242_60, hl_r242_63, hl_r242_65, hl_r242_66, hl_r242_67, hl_r242_68, hl_r242_69, hl_r242_70, hl_r242_71, hl_r242_74, hl_r242_75, hl_r242_78, hl_r242_80, hl_r242_81, hl_r242_82, hl_r242_85, hl_r242_86, hl_r242_89, hl_r242_91, hl_r242_92, hl_r242_93, hl_r242_94, hl_o_85, hl_p_85_3, hl_p_85_4, hl_p_85_5, hl_p_85_6, hl_p_85_19, hl_p_85_23, hl_p_85_24, hl_p_85_25, hl_p_85_26, hl_p_85_27, hl_p_85_28, hl_p_85_29, hl_p_85_30, hl_p_85_31, hl_p_85_33, hl_p_85_34, hl_p_85_35, hl_p_85_36, hl_p_85_37, hl_a_86, hl_z_86, hl_k1, hl_v1, e1, c1, hl_i200, x1, x2, f0, f0', f1, f1', f2, f2', ma, mb, mw, q1, not_true, hl_kill_i, hl_kill_r, hl_kill_n, hl_kill_l, hl_tl_s, hl_tl_n, hl_cal_some, hl_gI, hl_gJ, hl_gsI, hl_gsJ, hl_tv01, if_true, if_false, hl_up_a, hl_row_a]
      · by_cases q2 : nI b = nI c
        · have ha : hl_acr I0 i c = nI a := by unfold hl_acr; rw [ta, tb, if_neg q1, if_pos q2]
          rw [← go a a1 ha]
          simp only [hl_r242_12, hl_r242_13, hl_r242_16, hl_r242_17, hl_r242_18, hl_r242_21, hl_r242_24, hl_r242_25, hl_r242_27, hl_r242_28, hl_r242_29, hl_r242_31, hl_r242_32, hl_r242_35, hl_r242_37, hl_r242_38, hl_r242_39, hl_r242_42, hl_r242_43, hl_r242_46, hl_r242_48, hl_r242_49, hl_r242_50, hl_r242_51, hl_r242_52, hl_r242_58, hl_r242_59, hl_r242_60, hl_r242_63, hl_r242_65, hl_r242_66, hl_r242_67, hl_r242_68, hl_r242_69, hl_r242_70, hl_r242_71, hl_r242_74, hl_r242_75, hl_r242_78, hl_r242_80, hl_r242_81, hl_r242_82, hl_r242_97, hl_r242_98, hl_r242_101, hl_r242_103, hl_o_85, hl_p_85_3, hl_p_85_4, hl_p_85_5, hl_p_85_6, hl_p_85_19, hl_p_85_23, hl_p_85_24, hl_p_85_25, hl_p_85_26, hl_p_85_27, hl_p_85_28, hl_p_85_29, hl_p_85_30, hl_p_85_31, hl_p_85_33, hl_p_85_34, hl_p_85_35, hl_p_85_36, hl_p_85_37, hl_a_86, hl_z_86, hl_k1, hl_v1, e1, c1, hl_i200, x1, x2, f0, f0', f1, f1', f2, f2', ma, mb, mw, q1, q2, not_false_eq_true, hl_kill_i, hl_kill_r, hl_kill_n, hl_kill_l, hl_tl_s, hl_tl_n, hl_cal_some, hl_gI, hl_gJ, hl_gsI, hl_gsJ, hl_tv01, if_true, if_false, hl_up_a, hl_row_a]
        · have ha : hl_acr I0 i c = -1 := by unfold hl_acr; rw [ta, tb, if_neg q1, if_neg q2]
          rw [hs, show hl_pk I0 (hl_hP P) c h i = 0 from if_pos ha, Int32.add_zero] at e
          rw [← e]
          simp only [hl_r242_12, hl_r242_13, hl_r242_16, hl_r242_17, hl_r242_18, hl_r242_21, hl_r242_24, hl_r242_25, hl_r242_27, hl_r242_28, hl_r242_29, hl_r242_31, hl_r242_32, hl_r242_35, hl_r242_37, hl_r242_38, hl_r242_39, hl_r242_42, hl_r242_43, hl_r242_46, hl_r242_48, hl_r242_49, hl_r242_50, hl_r242_51, hl_r242_52, hl_r242_55, hl_r242_111, hl_r242_114, hl_o_85, hl_p_85_3, hl_p_85_4, hl_p_85_5, hl_p_85_6, hl_p_85_19, hl_p_85_23, hl_p_85_24, hl_p_85_25, hl_p_85_26, hl_p_85_27, hl_p_85_28, hl_p_85_29, hl_p_85_30, hl_p_85_31, hl_p_85_33, hl_p_85_34, hl_p_85_35, hl_p_85_36, hl_p_85_37, hl_a_86, hl_z_86, hl_k1, hl_v1, e1, c1, hl_i200, x1, f0, f0', f1, f1', ma, mb, q1, q2, en, hl_kill_i, hl_kill_r, hl_kill_n, hl_kill_l, hl_tl_s, hl_tl_n, hl_cal_some, hl_gI, hl_gJ, hl_gsI, hl_gsJ, hl_tv01, if_true, if_false, hl_up_a, hl_row_a]
  have e := loop k0 0 .null (by omega)
  rw [show hl_sum 0 (hl_pk I0 (hl_hP P) c h) = 0 from rfl, Int32.add_zero, show nI 0 = 0 from rfl] at e
  rw [← e, hl_e242]
  simp only [hl_r242_0, hl_r242_1, hl_r242_2, hl_r242_3, hl_r242_6, hl_r242_7, hl_r242_8, hl_o_85, hl_p_85_3, hl_p_85_4, hl_p_85_5, hl_p_85_6, hl_p_85_19, hl_p_85_23, hl_p_85_24, hl_p_85_25, hl_p_85_26, hl_p_85_27, hl_p_85_28, hl_p_85_29, hl_p_85_30, hl_p_85_31, hl_p_85_33, hl_p_85_34, hl_p_85_35, hl_p_85_36, hl_p_85_37, e209, hl_kill_i, hl_kill_r, hl_kill_n, hl_kill_l, hl_tl_s, hl_tl_n, hl_cal_some, hl_gI, hl_gJ, hl_gsI, hl_gsJ, hl_tv01, if_true, if_false, hl_up_a, hl_row_a]
theorem hl_s243 {c : Nat} (hCo : hl_Co N W H I0) (hN : N ≤ 24) (hn : nh ≤ 4) (hs0 : hl_Sv I0 86 0 = (nh : Int)) (ts : hl_Sv I0 86 1 = (cn : Int)) (hM : hl_dM N nh I0 I P) (hc : c < N) : ∃ I' J', hl_call (d + 6) 243 [.ref 85, .int (nI c)] (hl_g N I J) = some (some (.int (hl_tv (hl_drS I0 cn P c))), hl_g N I' J') ∧ hl_r9 I I' := by
  have hv := hM.1.vw
  obtain ⟨ek, hk⟩ := hCo.kept hN hs0 hc
  have o5 := hl_of5 (d := d + 4) (N := N) (I := I) (J := J) (show c < 24 by omega)
  rw [hv.2.1, ← ek] at o5
  unfold hl_drS
  rw [hl_e243]
  by_cases k1 : I0 7 c = -1
  · have kn : ((-1 : Int32) < 0) = True := by decide
    rw [k1] at o5
    rw [decide_eq_true k1]
    have e202 : hl_call (d + 5) 202 [.ref 85, .int 2] (hl_g N I J) = some (some (.int (hl_tv (hl_has I0 2))), hl_g N I J) := hl_s202 (d := d + 4) (cl := 2) hCo hv (by decide)
    cases h2 : hl_has I0 2 with
    | false =>
      rw [h2] at e202
      refine ⟨I, J, ?_, hl_r9_rf I⟩
      simp only [hl_r243_0, hl_r243_1, hl_r243_2, hl_r243_3, hl_r243_6, hl_r243_9, hl_r243_10, hl_r243_11, hl_r243_12, hl_r243_13, hl_r243_16, hl_r243_19, hl_r243_20, hl_r243_21, hl_r243_22, hl_r243_23, hl_r243_24, hl_r243_27, hl_r243_28, hl_r243_29, hl_r243_30, hl_r243_31, hl_r243_32, hl_r243_35, hl_r243_38, hl_r243_39, hl_r243_40, hl_r243_43, hl_r243_44, hl_r243_47, hl_r243_48, hl_r243_49, hl_o_85, hl_p_85_3, hl_p_85_4, hl_p_85_5, hl_p_85_6, hl_p_85_19, hl_p_85_23, hl_p_85_24, hl_p_85_25, hl_p_85_26, hl_p_85_27, hl_p_85_28, hl_p_85_29, hl_p_85_30, hl_p_85_31, hl_p_85_33, hl_p_85_34, hl_p_85_35, hl_p_85_36, hl_p_85_37, o5, kn, e202, hl_tv_f, not_true, true_or, Bool.not_true, Bool.false_or, Bool.false_and, hl_kill_i, hl_kill_r, hl_kill_n, hl_kill_l, hl_tl_s, hl_tl_n, hl_cal_some, hl_gI, hl_gJ, hl_gsI, hl_gsJ, hl_tv01, if_true, if_false, hl_up_a, hl_row_a]
    | true =>
      rw [h2] at e202
      obtain ⟨p1, p2⟩ := hM.2.2.2 c hc
      have e241 := hl_s241 (d := d + 4) (J := J) hCo hN hn ts hM hc
      have bal := hl_drN_B (P := P) hCo hN ts c
      obtain ⟨I1, e1, f1, n1⟩ := hl_s208 (d := d) (I := I) (J := J) (al := hl_drN I0 cn P c) (c := c) (h := P c) (m := 0) hCo hv hN hc (by omega) (by decide)
      have r1 : hl_r9 I I1 := fun b h1 _ => f1 b h1
      obtain ⟨I2, J2, e2, f2, g2, t2⟩ := hl_s203v (d := d + 2) (J := J) (cl := 2) hCo (hl_vw_tr hv r1.vw) hN hc (show ((P c : Nat) : Int) < hl_Sv I0 86 0 by omega) (show 0 < 12 by omega) (by decide) bal n1 h2
      rw [if_pos rfl] at t2
      obtain ⟨t, t3, t4⟩ := t2
      have r2 : hl_r9 I1 I2 := fun b _ h2 => f2 b h2
      have e2' : hl_call (d + 5) 203 [.ref 85, .int 2] (hl_g N I1 J) = some (none, hl_g N I2 J2) := e2
      have e1' : hl_call (d + 5) 208 [.ref 85, .int (nI c), .int (nI (P c)), .int 0, .int (hl_drN I0 cn P c)] (hl_g N I J) = some (none, hl_g N I1 J) := e1
      refine ⟨I2, J2, ?_, hl_r9_tr r1 r2⟩
      have b24 : hl_inb (nI c) 24 = true := hl_inb_nI (by omega) (by omega)
      rw [t4]
      have et : (true && !decide (hl_tv t = 0)) = t := by cases t <;> rfl
      rw [et]
      simp only [hl_r243_0, hl_r243_1, hl_r243_2, hl_r243_3, hl_r243_6, hl_r243_9, hl_r243_10, hl_r243_11, hl_r243_12, hl_r243_13, hl_r243_16, hl_r243_19, hl_r243_20, hl_r243_21, hl_r243_22, hl_r243_23, hl_r243_24, hl_r243_27, hl_r243_28, hl_r243_29, hl_r243_30, hl_r243_31, hl_r243_32, hl_r243_35, hl_r243_38, hl_r243_39, hl_r243_40, hl_r243_43, hl_r243_44, hl_r243_47, hl_r243_48, hl_r243_49, hl_o_85, hl_p_85_3, hl_p_85_4, hl_p_85_5, hl_p_85_6, hl_p_85_19, hl_p_85_23, hl_p_85_24, hl_p_85_25, hl_p_85_26, hl_p_85_27, hl_p_85_28, hl_p_85_29, hl_p_85_30, hl_p_85_31, hl_p_85_33, hl_p_85_34, hl_p_85_35, hl_p_85_36, hl_p_85_37, hl_a_93, hl_z_93, hl_a_94, hl_z_94, o5, kn, e202, hl_tv_t, hl_10, not_false_eq_true, b24, nIc (show c < 2 ^ 31 by omega), p2, e241, e1', e2', hl_k330, hl_v0, t3, hl_tv01, Bool.not_true, Bool.false_or, hl_tl_n, hl_kill_i, hl_kill_r, hl_kill_n, hl_kill_l, hl_tl_s, hl_tl_n, hl_cal_some, hl_gI, hl_gJ, hl_gsI, hl_gsJ, hl_tv01, if_true, if_false, hl_up_a, hl_row_a]
  · obtain ⟨k, hk1, hk2⟩ := hk.resolve_left k1
    have kn : ¬ I0 7 c < 0 := by rw [hk2]; exact nI_pos (by omega)
    rw [decide_eq_false k1]
    refine ⟨I, J, ?_, hl_r9_rf I⟩
    simp only [hl_r243_0, hl_r243_1, hl_r243_2, hl_r243_3, hl_r243_6, hl_r243_9, hl_r243_10, hl_r243_11, hl_r243_12, hl_r243_13, hl_r243_16, hl_r243_19, hl_r243_20, hl_r243_21, hl_r243_22, hl_r243_23, hl_r243_24, hl_r243_27, hl_r243_28, hl_r243_29, hl_r243_30, hl_r243_31, hl_r243_32, hl_r243_35, hl_r243_38, hl_r243_39, hl_r243_40, hl_r243_43, hl_r243_44, hl_r243_47, hl_r243_48, hl_r243_49, hl_o_85, hl_p_85_3, hl_p_85_4, hl_p_85_5, hl_p_85_6, hl_p_85_19, hl_p_85_23, hl_p_85_24, hl_p_85_25, hl_p_85_26, hl_p_85_27, hl_p_85_28, hl_p_85_29, hl_p_85_30, hl_p_85_31, hl_p_85_33, hl_p_85_34, hl_p_85_35, hl_p_85_36, hl_p_85_37, o5, kn, or_true, Bool.not_false, Bool.true_or, hl_tv_t, hl_kill_i, hl_kill_r, hl_kill_n, hl_kill_l, hl_tl_s, hl_tl_n, hl_cal_some, hl_gI, hl_gJ, hl_gsI, hl_gsJ, hl_tv01, if_true, if_false, hl_up_a, hl_row_a]
theorem hl_l244 {c : Nat} (hCo : hl_Co N W H I0) (hN : N ≤ 24) (hn : nh ≤ 4) (hs0 : hl_Sv I0 86 0 = (nh : Int)) (ts : hl_Sv I0 86 1 = (cn : Int)) (hc : c < N) (f : Nat) : ∀ (I : Nat → Nat → Int32) (J : Nat → Nat → Int64) (i ch : Nat) (l : Int32) (l5 : Value), i + f = nh → hl_dM N nh I0 I P → ∃ I' J', hl_Run 244 (hl_call (d + 7)) 17 [.ref 85, .int (nI c), .int (nI ch), .int l, .int (nI i), l5] [] (hl_g N I J) = some (some (.int (nI (hl_lk (hl_drA I0 cn P c) f i ch l))), hl_g N I' J') ∧ hl_r9 I I' := by
  induction f with
  | zero =>
    intro I J i ch l l5 hi hM
    obtain rfl : i = nh := by omega
    refine ⟨I, J, ?_, hl_r9_rf I⟩
    have e0 : I 86 0 = nI i := by
      obtain ⟨k, k1, k2, k3, k4⟩ := hCo.nh
      obtain rfl : k = i := by omega
      rw [hM.1.vw.2.1]; exact k3
    simp only [hl_r244_0, hl_r244_1, hl_r244_4, hl_r244_5, hl_r244_6, hl_r244_7, hl_r244_8, hl_r244_9, hl_r244_10, hl_r244_13, hl_r244_14, hl_r244_15, hl_r244_17, hl_r244_19, hl_r244_20, hl_r244_23, hl_r244_24, hl_r244_25, hl_r244_28, hl_r244_29, hl_r244_30, hl_r244_32, hl_r244_35, hl_r244_37, hl_r244_39, hl_r244_40, hl_r244_43, hl_r244_46, hl_r244_48, hl_r244_49, hl_r244_51, hl_r244_52, hl_r244_55, hl_r244_58, hl_r244_59, hl_o_85, hl_p_85_3, hl_p_85_4, hl_p_85_5, hl_p_85_6, hl_p_85_19, hl_p_85_23, hl_p_85_24, hl_p_85_25, hl_p_85_26, hl_p_85_27, hl_p_85_28, hl_p_85_29, hl_p_85_30, hl_p_85_31, hl_p_85_33, hl_p_85_34, hl_p_85_35, hl_p_85_36, hl_p_85_37, hl_a_86, hl_z_86, hl_k0, hl_v0, e0, Int32.le_refl, hl_lk, hl_kill_i, hl_kill_r, hl_kill_n, hl_kill_l, hl_tl_s, hl_tl_n, hl_cal_some, hl_gI, hl_gJ, hl_gsI, hl_gsJ, hl_tv01, if_true, if_false, hl_up_a, hl_row_a]
  | succ f ih =>
    intro I J i ch l l5 hi hM
    have e0 : I 86 0 = nI nh := by
      obtain ⟨k, k1, k2, k3, k4⟩ := hCo.nh
      obtain rfl : k = nh := by omega
      rw [hM.1.vw.2.1]; exact k3
    have c1 : ¬ nI nh ≤ nI i := nI_ge (by omega) (by omega)
    have en : nI i + 1 = nI (i + 1) := (nI_succ i).symm
    obtain ⟨I1, J1, e1, r1⟩ := hl_s242 (d := d) (J := J) hCo hN hn hs0 ts hM hc (show i < nh by omega)
    have hM1 := hl_dM_r9 hM r1
    unfold hl_lk
    by_cases q : hl_drA I0 cn P c i < l
    · rw [if_pos q]
      obtain ⟨I2, J2, e2, r2⟩ := ih I1 J1 (i + 1) i (hl_drA I0 cn P c i) (.int (hl_drA I0 cn P c i)) (by omega) hM1
      refine ⟨I2, J2, ?_, hl_r9_tr r1 r2⟩
      rw [← e2, hl_r244_17]
      simp only [hl_r244_19, hl_r244_20, hl_r244_23, hl_r244_24, hl_r244_25, hl_r244_28, hl_r244_29, hl_r244_30, hl_r244_32, hl_r244_35, hl_r244_37, hl_r244_39, hl_r244_40, hl_r244_46, hl_r244_48, hl_r244_49, hl_r244_51, hl_r244_52, hl_r244_55, hl_o_85, hl_p_85_3, hl_p_85_4, hl_p_85_5, hl_p_85_6, hl_p_85_19, hl_p_85_23, hl_p_85_24, hl_p_85_25, hl_p_85_26, hl_p_85_27, hl_p_85_28, hl_p_85_29, hl_p_85_30, hl_p_85_31, hl_p_85_33, hl_p_85_34, hl_p_85_35, hl_p_85_36, hl_p_85_37, hl_a_86, hl_z_86, hl_k0, hl_v0, e0, c1, e1, q, en, hl_kill_i, hl_kill_r, hl_kill_n, hl_kill_l, hl_tl_s, hl_tl_n, hl_cal_some, hl_gI, hl_gJ, hl_gsI, hl_gsJ, hl_tv01, if_true, if_false, hl_up_a, hl_row_a]
    · rw [if_neg q]
      obtain ⟨I2, J2, e2, r2⟩ := ih I1 J1 (i + 1) ch l (.int (hl_drA I0 cn P c i)) (by omega) hM1
      refine ⟨I2, J2, ?_, hl_r9_tr r1 r2⟩
      rw [← e2, hl_r244_17]
      simp only [hl_r244_19, hl_r244_20, hl_r244_23, hl_r244_24, hl_r244_25, hl_r244_28, hl_r244_29, hl_r244_30, hl_r244_32, hl_r244_35, hl_r244_37, hl_r244_39, hl_r244_40, hl_r244_43, hl_r244_52, hl_r244_55, hl_o_85, hl_p_85_3, hl_p_85_4, hl_p_85_5, hl_p_85_6, hl_p_85_19, hl_p_85_23, hl_p_85_24, hl_p_85_25, hl_p_85_26, hl_p_85_27, hl_p_85_28, hl_p_85_29, hl_p_85_30, hl_p_85_31, hl_p_85_33, hl_p_85_34, hl_p_85_35, hl_p_85_36, hl_p_85_37, hl_a_86, hl_z_86, hl_k0, hl_v0, e0, c1, e1, q, en, hl_kill_i, hl_kill_r, hl_kill_n, hl_kill_l, hl_tl_s, hl_tl_n, hl_cal_some, hl_gI, hl_gJ, hl_gsI, hl_gsJ, hl_tv01, if_true, if_false, hl_up_a, hl_row_a]
theorem hl_s244 {c : Nat} (hCo : hl_Co N W H I0) (hN : N ≤ 24) (hn : nh ≤ 4) (hs0 : hl_Sv I0 86 0 = (nh : Int)) (ts : hl_Sv I0 86 1 = (cn : Int)) (hM : hl_dM N nh I0 I P) (hc : c < N) : ∃ I' J', hl_call (d + 8) 244 [.ref 85, .int (nI c)] (hl_g N I J) = some (some (.int (nI (hl_drL I0 cn nh P c))), hl_g N I' J') ∧ hl_r9 I I' := by
  obtain ⟨p1, p2⟩ := hM.2.2.2 c hc
  obtain ⟨I1, J1, e1, r1⟩ := hl_s242 (d := d) (J := J) hCo hN hn hs0 ts hM hc p1
  obtain ⟨I2, J2, e2, r2⟩ := hl_l244 (d := d) hCo hN hn hs0 ts hc nh I1 J1 0 (P c) (hl_drA I0 cn P c (P c)) .null (by omega) (hl_dM_r9 hM r1)
  refine ⟨I2, J2, ?_, hl_r9_tr r1 r2⟩
  have b24 : hl_inb (nI c) 24 = true := hl_inb_nI (by omega) (by omega)
  rw [show nI (hl_drL I0 cn nh P c) = nI (hl_lk (hl_drA I0 cn P c) nh 0 (P c) (hl_drA I0 cn P c (P c))) from rfl, ← e2, hl_e244]
  simp only [hl_r244_0, hl_r244_1, hl_r244_4, hl_r244_5, hl_r244_6, hl_r244_7, hl_r244_8, hl_r244_9, hl_r244_10, hl_r244_13, hl_r244_14, hl_r244_15, hl_o_85, hl_p_85_3, hl_p_85_4, hl_p_85_5, hl_p_85_6, hl_p_85_19, hl_p_85_23, hl_p_85_24, hl_p_85_25, hl_p_85_26, hl_p_85_27, hl_p_85_28, hl_p_85_29, hl_p_85_30, hl_p_85_31, hl_p_85_33, hl_p_85_34, hl_p_85_35, hl_p_85_36, hl_p_85_37, hl_a_94, hl_z_94, b24, nIc (show c < 2 ^ 31 by omega), p2, e1, hl_kill_i, hl_kill_r, hl_kill_n, hl_kill_l, hl_tl_s, hl_tl_n, hl_cal_some, hl_gI, hl_gJ, hl_gsI, hl_gsJ, hl_tv01, if_true, if_false, hl_up_a, hl_row_a]
  rfl
/-- a round of the reference's -/
theorem hl_l245 {x : Int32} {r : Nat} {s0 : (Nat → Nat) × Nat} (hCo : hl_Co N W H I0) (hN : N ≤ 24) (hn : nh ≤ 4) (hs0 : hl_Sv I0 86 0 = (nh : Int)) (ts : hl_Sv I0 86 1 = (cn : Int)) (f : Nat) : ∀ (I : Nat → Nat → Int32) (J : Nat → Nat → Int64) (i : Nat) (l6 : Value), i + f = N → hl_dM N nh I0 I (hl_drR I0 cn nh i s0).1 → ∃ I' J' l6', hl_Run 245 (hl_call (d + 8)) 67 [.ref 85, .int x, .int (nI (hl_drR I0 cn nh i s0).2), .int (nI r), .int (hl_tv (decide ((hl_drR I0 cn nh i s0).2 = s0.2))), .int (nI i), l6] [] (hl_g N I J) = hl_Run 245 (hl_call (d + 8)) 47 [.ref 85, .int x, .int (nI (hl_drR I0 cn nh N s0).2), .int (nI r), .int (hl_tv (decide ((hl_drR I0 cn nh N s0).2 = s0.2))), .int (nI N), l6'] [] (hl_g N I' J') ∧ hl_dM N nh I0 I' (hl_drR I0 cn nh N s0).1 := by
  induction f with
  | zero =>
    intro I J i l6 hi hM
    obtain rfl : i = N := by omega
    refine ⟨I, J, l6, ?_, hM⟩
    have e2 : I 85 2 = nI i := (hM.1.vw.1 2 (by omega)).trans hCo.mM
    simp only [hl_r245_67, hl_r245_69, hl_r245_70, hl_r245_73, hl_r245_139, hl_o_85, hl_p_85_3, hl_p_85_4, hl_p_85_5, hl_p_85_6, hl_p_85_19, hl_p_85_23, hl_p_85_24, hl_p_85_25, hl_p_85_26, hl_p_85_27, hl_p_85_28, hl_p_85_29, hl_p_85_30, hl_p_85_31, hl_p_85_33, hl_p_85_34, hl_p_85_35, hl_p_85_36, hl_p_85_37, e2, Int32.le_refl, hl_kill_i, hl_kill_r, hl_kill_n, hl_kill_l, hl_tl_s, hl_tl_n, hl_cal_some, hl_gI, hl_gJ, hl_gsI, hl_gsJ, hl_tv01, if_true, if_false, hl_up_a, hl_row_a]
  | succ f ih =>
    intro I J i l6 hi hM
    have e2 : I 85 2 = nI N := (hM.1.vw.1 2 (by omega)).trans hCo.mM
    have c1 : ¬ nI N ≤ nI i := nI_ge (by omega) (by omega)
    have en : nI i + 1 = nI (i + 1) := (nI_succ i).symm
    have b24 : hl_inb (nI i) 24 = true := hl_inb_nI (by omega) (by omega)
    have hT : hl_drR I0 cn nh (i + 1) s0 = hl_drT I0 cn nh (hl_drR I0 cn nh i s0) i := rfl
    have hle := hl_drR_le (I := I0) (cn := cn) (nh := nh) (s := s0) i
    generalize hl_drR I0 cn nh i s0 = s at hM hT hle ⊢
    have hic : i < N := by omega
    obtain ⟨I1, J1, e3, r3⟩ := hl_s243 (d := d + 2) (J := J) hCo hN hn hs0 ts hM hic
    have hM1 := hl_dM_r9 hM r3
    obtain ⟨p1, p2⟩ := hM1.2.2.2 i hic
    unfold hl_drT at hT
    cases hS : hl_drS I0 cn s.1 i with
    | true =>
      rw [hS] at e3
      rw [if_pos hS] at hT
      obtain ⟨I2, J2, l6', e4, M2⟩ := ih I1 J1 (i + 1) (.int (nI (s.1 i))) (by omega) (by rw [hT]; exact hM1)
      refine ⟨I2, J2, l6', ?_, M2⟩
      rw [hT] at e4
      rw [← e4, hl_r245_67]
      simp only [hl_r245_69, hl_r245_70, hl_r245_73, hl_r245_76, hl_r245_77, hl_r245_79, hl_r245_82, hl_r245_85, hl_r245_86, hl_r245_89, hl_r245_91, hl_r245_92, hl_r245_101, hl_r245_103, hl_r245_105, hl_r245_106, hl_r245_109, hl_r245_111, hl_r245_112, hl_r245_115, hl_r245_133, hl_r245_136, hl_o_85, hl_p_85_3, hl_p_85_4, hl_p_85_5, hl_p_85_6, hl_p_85_19, hl_p_85_23, hl_p_85_24, hl_p_85_25, hl_p_85_26, hl_p_85_27, hl_p_85_28, hl_p_85_29, hl_p_85_30, hl_p_85_31, hl_p_85_33, hl_p_85_34, hl_p_85_35, hl_p_85_36, hl_p_85_37, hl_a_94, hl_z_94, e2, c1, e3, hl_tv_t, hl_10, b24, nIc (show i < 2 ^ 31 by omega), p2, not_true, en, hl_kill_i, hl_kill_r, hl_kill_n, hl_kill_l, hl_tl_s, hl_tl_n, hl_cal_some, hl_gI, hl_gJ, hl_gsI, hl_gsJ, hl_tv01, if_true, if_false, hl_up_a, hl_row_a]
    | false =>
      rw [hS] at e3
      rw [if_neg (by rw [hS]; decide)] at hT
      obtain ⟨I2, J2, e4, r4⟩ := hl_s244 (d := d) (J := J1) hCo hN hn hs0 ts hM1 hic
      have hM2 := hl_dM_r9 hM1 r4
      have p2' : I2 94 i = nI (s.1 i) := (hM2.2.2.2 i hic).2
      have hlt : hl_drL I0 cn nh s.1 i < nh := hl_lk_lt nh 0 _ _ (by omega) p1
      by_cases q : hl_drL I0 cn nh s.1 i = s.1 i
      · rw [if_pos q] at hT
        obtain ⟨I3, J3, l6', e5, M3⟩ := ih I2 J2 (i + 1) (.int (nI (s.1 i))) (by omega) (by rw [hT]; exact hM2)
        refine ⟨I3, J3, l6', ?_, M3⟩
        rw [q] at e4
        rw [hT] at e5
        rw [← e5, hl_r245_67]
        simp only [hl_r245_69, hl_r245_70, hl_r245_73, hl_r245_76, hl_r245_77, hl_r245_79, hl_r245_82, hl_r245_95, hl_r245_96, hl_r245_98, hl_r245_101, hl_r245_103, hl_r245_105, hl_r245_106, hl_r245_109, hl_r245_111, hl_r245_112, hl_r245_115, hl_r245_133, hl_r245_136, hl_o_85, hl_p_85_3, hl_p_85_4, hl_p_85_5, hl_p_85_6, hl_p_85_19, hl_p_85_23, hl_p_85_24, hl_p_85_25, hl_p_85_26, hl_p_85_27, hl_p_85_28, hl_p_85_29, hl_p_85_30, hl_p_85_31, hl_p_85_33, hl_p_85_34, hl_p_85_35, hl_p_85_36, hl_p_85_37, hl_a_94, hl_z_94, e2, c1, e3, e4, hl_tv_f, b24, nIc (show i < 2 ^ 31 by omega), p2', not_true, en, hl_kill_i, hl_kill_r, hl_kill_n, hl_kill_l, hl_tl_s, hl_tl_n, hl_cal_some, hl_gI, hl_gJ, hl_gsI, hl_gsJ, hl_tv01, if_true, if_false, hl_up_a, hl_row_a]
      · rw [if_neg q] at hT
        have nq : ¬ nI (hl_drL I0 cn nh s.1 i) = nI (s.1 i) := fun z => q ((nI_eq (by omega) (by omega)).mp z)
        have hM3 : hl_dM N nh I0 (hl_up I2 94 i (nI (hl_drL I0 cn nh s.1 i))) (hl_drR I0 cn nh (i + 1) s0).1 := by
          rw [hT]
          refine ⟨hl_Tm_tr hM2.1 (hl_Tm_up (by omega)), by rw [hl_up_ne _ _ _ (by decide)]; exact hM2.2.1, by rw [hl_up_ne _ _ _ (by decide)]; exact hM2.2.2.1, fun c hc => ?_⟩
          rw [hl_up_a, if_pos rfl]
          show (if c = i then _ else s.1 c) < nh ∧ _ = nI (if c = i then _ else s.1 c)
          by_cases z : c = i
          · rw [if_pos z, if_pos z]; exact ⟨hlt, rfl⟩
          · rw [if_neg z, if_neg z]; exact hM2.2.2.2 c hc
        obtain ⟨I3, J3, l6', e5, M3⟩ := ih (hl_up I2 94 i (nI (hl_drL I0 cn nh s.1 i))) J2 (i + 1) (.int (nI (hl_drL I0 cn nh s.1 i))) (by omega) hM3
        refine ⟨I3, J3, l6', ?_, M3⟩
        rw [hT] at e5
        have e0 : hl_tv (decide (s.2 + 1 = s0.2)) = 0 := by rw [decide_eq_false (by omega)]; rfl
        have ech : nI s.2 + 1 = nI (s.2 + 1) := (nI_succ _).symm
        rw [show ((fun q => if q = i then hl_drL I0 cn nh s.1 i else s.1 q, s.2 + 1) : (Nat → Nat) × Nat).2 = s.2 + 1 from rfl, e0] at e5
        rw [← e5, hl_r245_67]
        simp only [hl_r245_69, hl_r245_70, hl_r245_73, hl_r245_76, hl_r245_77, hl_r245_79, hl_r245_82, hl_r245_95, hl_r245_96, hl_r245_98, hl_r245_101, hl_r245_103, hl_r245_105, hl_r245_106, hl_r245_109, hl_r245_111, hl_r245_112, hl_r245_118, hl_r245_119, hl_r245_122, hl_r245_124, hl_r245_126, hl_r245_127, hl_r245_130, hl_r245_131, hl_r245_133, hl_r245_136, hl_o_85, hl_p_85_3, hl_p_85_4, hl_p_85_5, hl_p_85_6, hl_p_85_19, hl_p_85_23, hl_p_85_24, hl_p_85_25, hl_p_85_26, hl_p_85_27, hl_p_85_28, hl_p_85_29, hl_p_85_30, hl_p_85_31, hl_p_85_33, hl_p_85_34, hl_p_85_35, hl_p_85_36, hl_p_85_37, hl_a_94, hl_z_94, e2, c1, e3, e4, hl_tv_f, b24, nIc (show i < 2 ^ 31 by omega), p2', nq, not_false_eq_true, ech, en, hl_kill_i, hl_kill_r, hl_kill_n, hl_kill_l, hl_tl_s, hl_tl_n, hl_cal_some, hl_gI, hl_gJ, hl_gsI, hl_gsJ, hl_tv01, if_true, if_false, hl_up_a, hl_row_a]
theorem hl_l245b {x : Int32} (hCo : hl_Co N W H I0) (hN : N ≤ 24) (hn : nh ≤ 4) (hs0 : hl_Sv I0 86 0 = (nh : Int)) (ts : hl_Sv I0 86 1 = (cn : Int)) (f : Nat) : ∀ (I : Nat → Nat → Int32) (J : Nat → Nat → Int64) (i : Nat) (s : (Nat → Nat) × Nat) (l5 l6 : Value), i + f = 20 → hl_dM N nh I0 I s.1 → ∃ I' J' r' e' l5' l6', hl_Run 245 (hl_call (d + 8)) 47 [.ref 85, .int x, .int (nI s.2), .int (nI i), .int (hl_tv false), l5, l6] [] (hl_g N I J) = hl_Run 245 (hl_call (d + 8)) 142 [.ref 85, .int x, .int (nI (hl_drF I0 cn nh N f i s).1.2), .int (nI r'), .int (hl_tv e'), l5', l6'] [] (hl_g N I' J') ∧ hl_dM N nh I0 I' (hl_drF I0 cn nh N f i s).1.1 ∧ (if e' = true then nI r' else -1) = (hl_drF I0 cn nh N f i s).2 := by
  induction f with
  | zero =>
    intro I J i s l5 l6 hi hM
    obtain rfl : i = 20 := by omega
    refine ⟨I, J, 20, false, l5, l6, ?_, hM, rfl⟩
    have c1 : (20 : Int32) ≤ nI 20 := Int32.le_refl _
    simp only [hl_r245_47, hl_r245_49, hl_r245_52, hl_r245_53, hl_r245_55, hl_tv_f, not_true, c1, hl_drF, hl_kill_i, hl_kill_r, hl_kill_n, hl_kill_l, hl_tl_s, hl_tl_n, hl_cal_some, hl_gI, hl_gJ, hl_gsI, hl_gsJ, hl_tv01, if_true, if_false, hl_up_a, hl_row_a]
  | succ f ih =>
    intro I J i s l5 l6 hi hM
    have c1 : ¬ (20 : Int32) ≤ nI i := show ¬ nI 20 ≤ nI i from nI_ge (by omega) (by omega)
    have en : nI i + 1 = nI (i + 1) := (nI_succ i).symm
    obtain ⟨I1, J1, l6', e1, M1⟩ := hl_l245 (d := d) (x := x) (r := i + 1) (s0 := s) hCo hN hn hs0 ts N I J 0 l6 (by omega) hM
    have z0 : hl_drR I0 cn nh 0 s = s := rfl
    rw [z0, decide_eq_true (show s.2 = s.2 from rfl), hl_tv_t, show nI 0 = 0 from rfl] at e1
    have st : hl_Run 245 (hl_call (d + 8)) 47 [.ref 85, .int x, .int (nI s.2), .int (nI i), .int (hl_tv false), l5, l6] [] (hl_g N I J) = hl_Run 245 (hl_call (d + 8)) 67 [.ref 85, .int x, .int (nI s.2), .int (nI (i + 1)), .int 1, .int 0, l6] [] (hl_g N I J) := by
      simp only [hl_r245_47, hl_r245_49, hl_r245_52, hl_r245_53, hl_r245_55, hl_r245_58, hl_r245_61, hl_r245_62, hl_r245_64, hl_r245_65, hl_tv_f, not_true, c1, en, hl_kill_i, hl_kill_r, hl_kill_n, hl_kill_l, hl_tl_s, hl_tl_n, hl_cal_some, hl_gI, hl_gJ, hl_gsI, hl_gsJ, hl_tv01, if_true, if_false, hl_up_a, hl_row_a]
    rw [st, e1]
    unfold hl_drF
    by_cases q : (hl_drR I0 cn nh N s).2 = s.2
    · rw [if_pos q, decide_eq_true q]
      refine ⟨I1, J1, i + 1, true, .int (nI N), l6', ?_, M1, rfl⟩
      simp only [hl_r245_47, hl_r245_49, hl_tv_t, hl_10, not_false_eq_true, hl_kill_i, hl_kill_r, hl_kill_n, hl_kill_l, hl_tl_s, hl_tl_n, hl_cal_some, hl_gI, hl_gJ, hl_gsI, hl_gsJ, hl_tv01, if_true, if_false, hl_up_a, hl_row_a]
    · rw [if_neg q, decide_eq_false q]
      exact ih I1 J1 (i + 1) (hl_drR I0 cn nh N s) (.int (nI N)) l6' (by omega) M1
theorem hl_sw01 {x : Int32} (h : hl_in x 0 1 = true) : x = 0 ∨ x = 1 := by
  have i := hl_in_E h
  have e0 : (0 : Int32).toInt = 0 := rfl
  have e5 : (1 : Int32).toInt = 1 := rfl
  obtain ⟨k, k1, k2, k3⟩ := hl_nat (x := x) (by omega)
  have k5 : k ≤ 1 := by omega
  rw [k2]
  match k, k5 with
  | 0, _ => exact .inl rfl
  | 1, _ => exact .inr rfl
  | k + 2, h => omega
theorem hl_pr21 (hN : N ≤ 24) (f : Nat → Int32) : hl_PQ hl_TX N W H 126 245 (hl_args 21 f) := by
  refine hl_PQ_read hl_TXc fun I J hI => ?_
  obtain ⟨nh, h4, hc1, hm1, hs1⟩ := hI.nh
  obtain ⟨cn, c40, tc1, tm1, ts1⟩ := hI.cn
  show ∃ v I1 J1 I2 J2, hl_call 1001 126 [.ref 0, .int (f 1)] (hl_g N I J) = some (some (.int v), hl_g N I1 J1) ∧ hl_call 1001 245 [.ref 85, .int (f 1)] (hl_g N I1 J1) = some (some (.int v), hl_g N I2 J2) ∧ _
  have P0 := hI.2.2.2.2.1
  generalize f 1 = x
  have k138 := hl_s138 (d := 998) (I := I) (J := J) (x := x - 10) hI.cM (by omega)
  have x10 : hl_in x 10 (9 + nI N) = hl_inb (x - 10) N := hl_inX (a := 10) (by omega) hN
  by_cases hh0 : nh = 0
  · subst hh0
    have z : nI 0 = 0 := rfl
    rw [z] at hc1 hm1
    refine ⟨-1, I, J, I, J, ?_, ?_, hl_Tm_rf I, P0, hl_Tm_rf I, rfl, rfl⟩
    · rw [hl_e126 (d := 1000)]; simp only [hl_r126_0, hl_r126_1, hl_r126_2, hl_r126_4, hl_r126_5, hl_r126_8, hl_r126_9, hl_r126_10, hl_r126_13, hl_r126_16, hl_r126_19, hl_r126_20, hl_r126_21, hl_r126_22, hl_r126_25, hl_r126_28, hl_r126_29, hl_r126_32, hl_r126_33, hl_r126_34, hl_r126_35, hl_r126_38, hl_r126_41, hl_r126_42, hl_r126_45, hl_r126_48, hl_r126_49, hl_r126_52, hl_r126_53, hl_r126_56, hl_r126_59, hl_r126_60, hl_r126_62, hl_r126_63, hl_r126_64, hl_r126_65, hl_r126_66, hl_r126_69, hl_r126_70, hl_r126_73, hl_r126_76, hl_r126_79, hl_r126_80, hl_r126_83, hl_r126_86, hl_o_0, hl_p_0_3, hl_p_0_4, hl_p_0_5, hl_p_0_7, hl_p_0_8, hl_p_0_9, hl_p_0_10, hl_p_0_11, hl_p_0_12, hl_p_0_13, hl_p_0_14, hl_p_0_15, hl_o_1, hl_p_1_0, hl_p_1_1, hl_p_1_2, hl_p_1_3, hl_p_1_4, hl_p_1_5, hl_p_1_6, hl_p_1_7, hl_p_1_9, hl_p_1_14, hl_p_1_15, k138, hc1, hl_kill_i, hl_kill_r, hl_kill_n, hl_kill_l, hl_tl_s, hl_tl_n, hl_cal_some, hl_gI, hl_gJ, hl_gsI, hl_gsJ, hl_tv01, if_true, if_false, hl_up_a, hl_row_a]
    · rw [hl_e245 (d := 1000)]; simp only [hl_r245_0, hl_r245_1, hl_r245_4, hl_r245_5, hl_r245_6, hl_r245_34, hl_r245_35, hl_o_85, hl_p_85_3, hl_p_85_4, hl_p_85_5, hl_p_85_6, hl_p_85_19, hl_p_85_23, hl_p_85_24, hl_p_85_25, hl_p_85_26, hl_p_85_27, hl_p_85_28, hl_p_85_29, hl_p_85_30, hl_p_85_31, hl_p_85_33, hl_p_85_34, hl_p_85_35, hl_p_85_36, hl_p_85_37, hl_a_86, hl_z_86, hl_k0, hl_v0, hm1, hl_kill_i, hl_kill_r, hl_kill_n, hl_kill_l, hl_tl_s, hl_tl_n, hl_cal_some, hl_gI, hl_gJ, hl_gsI, hl_gsJ, hl_tv01, if_true, if_false, hl_up_a, hl_row_a]
  have n0 : ¬ nI nh = 0 := nI_ne0 (by omega) (by omega)
  have mM := hI.mM
  cases g1 : hl_in x 0 1 || hl_inb (x - 10) N with
  | false =>
    rw [Bool.or_eq_false_iff] at g1
    obtain ⟨g1, g2⟩ := g1
    rw [g2] at k138 x10
    refine ⟨-1, I, J, I, J, ?_, ?_, hl_Tm_rf I, P0, hl_Tm_rf I, rfl, rfl⟩
    · rw [hl_e126 (d := 1000)]; simp only [hl_r126_0, hl_r126_1, hl_r126_2, hl_r126_4, hl_r126_5, hl_r126_8, hl_r126_9, hl_r126_10, hl_r126_13, hl_r126_16, hl_r126_19, hl_r126_20, hl_r126_21, hl_r126_22, hl_r126_25, hl_r126_28, hl_r126_29, hl_r126_32, hl_r126_33, hl_r126_34, hl_r126_35, hl_r126_38, hl_r126_41, hl_r126_42, hl_r126_45, hl_r126_48, hl_r126_49, hl_r126_52, hl_r126_53, hl_r126_56, hl_r126_59, hl_r126_60, hl_r126_62, hl_r126_63, hl_r126_64, hl_r126_65, hl_r126_66, hl_r126_69, hl_r126_70, hl_r126_73, hl_r126_76, hl_r126_79, hl_r126_80, hl_r126_83, hl_r126_86, hl_o_0, hl_p_0_3, hl_p_0_4, hl_p_0_5, hl_p_0_7, hl_p_0_8, hl_p_0_9, hl_p_0_10, hl_p_0_11, hl_p_0_12, hl_p_0_13, hl_p_0_14, hl_p_0_15, hl_o_1, hl_p_1_0, hl_p_1_1, hl_p_1_2, hl_p_1_3, hl_p_1_4, hl_p_1_5, hl_p_1_6, hl_p_1_7, hl_p_1_9, hl_p_1_14, hl_p_1_15, k138, hc1, n0, hl_s147, g1, hl_tv_f, not_true, hl_kill_i, hl_kill_r, hl_kill_n, hl_kill_l, hl_tl_s, hl_tl_n, hl_cal_some, hl_gI, hl_gJ, hl_gsI, hl_gsJ, hl_tv01, if_true, if_false, hl_up_a, hl_row_a]
    · rw [hl_e245 (d := 1000)]; simp only [hl_r245_0, hl_r245_1, hl_r245_4, hl_r245_5, hl_r245_6, hl_r245_9, hl_r245_10, hl_r245_11, hl_r245_12, hl_r245_15, hl_r245_18, hl_r245_19, hl_r245_21, hl_r245_23, hl_r245_24, hl_r245_27, hl_r245_28, hl_r245_31, hl_r245_34, hl_r245_35, hl_o_85, hl_p_85_3, hl_p_85_4, hl_p_85_5, hl_p_85_6, hl_p_85_19, hl_p_85_23, hl_p_85_24, hl_p_85_25, hl_p_85_26, hl_p_85_27, hl_p_85_28, hl_p_85_29, hl_p_85_30, hl_p_85_31, hl_p_85_33, hl_p_85_34, hl_p_85_35, hl_p_85_36, hl_p_85_37, hl_a_86, hl_z_86, hl_k0, hl_v0, hm1, n0, hl_s151, g1, mM, x10, hl_tv_f, not_true, hl_kill_i, hl_kill_r, hl_kill_n, hl_kill_l, hl_tl_s, hl_tl_n, hl_cal_some, hl_gI, hl_gJ, hl_gsI, hl_gsJ, hl_tv01, if_true, if_false, hl_up_a, hl_row_a]
  | true =>
    obtain ⟨I1, e1, F⟩ := hl_s45 (d := 994) (J := J) hI hN h4 hc1 hs1
    have tm := F.tm
    have hCo := hl_Co_t hI.co tm
    have hs2 : hl_Sv I1 86 0 = (nh : Int) := (F.sv (by omega)).trans hs1
    have ts2 : hl_Sv I1 86 1 = (cn : Int) := (F.sv (by omega)).trans ts1
    have hF1 : ∀ c k, c < N → k < nh → I1 64 (4 * c + k) = hl_pay I1 c k := fun c k hc hk => by rw [(F.2 c hc).2 k hk, (tm.pd c).pay]
    have hP : ∀ c, c < N → (I1 8 c).toNatClampNeg < nh ∧ I1 8 c = nI (I1 8 c).toNatClampNeg := fun c hc => by
      obtain ⟨p, p1, p2, -⟩ := hCo.part hN hs2 (by omega) hc
      rw [p2, nIc (by omega)]; exact ⟨p1, rfl⟩
    obtain ⟨I2, e2, D2, r2⟩ := hl_s3 (d := 994) (J := J) hCo hN h4 hs2 ts2 hF1 hP
    have tm2 := D2.1
    have tm12 := hl_Tm_tr tm tm2
    have hP2 : hl_Pu N I2 := hl_Pu_t (F.pu hs1) tm2 D2.2.1 D2.2.2.1
    -- the reference's
    obtain ⟨I3, e3, f3, k3⟩ := hl_s212 (d := 998) (I := I2) (J := J) hN (hl_Co_t hCo tm2).mM
    have M3 : hl_dM N nh I1 I3 (fun c => (I1 8 c).toNatClampNeg) := by
      refine ⟨hl_Tm_tr tm2 (hl_Tm_94 f3), by rw [f3 64 (by decide)]; exact D2.2.1, by rw [f3 65 (by decide)]; exact D2.2.2.1, fun c hc => ?_⟩
      rw [k3 c hc, tm2.2.2.2 86 (by omega) (by omega), ← show I1 8 c = I1 86 (30 + 7 * c + 6) from hCo.2.1.1.cell (i := 6) hN hc (by omega)]
      exact hP c hc
    obtain ⟨I4, J4, r', e', l5', l6', e4, M4, re⟩ := hl_l245b (d := 992) (x := x) hCo hN h4 hs2 ts2 20 I3 J 0 (fun c => (I1 8 c).toNatClampNeg, 0) .null .null rfl M3
    rw [show nI 0 = 0 from rfl, hl_tv_f] at e4
    generalize hl_drF I1 cn nh N 20 0 (fun c => (I1 8 c).toNatClampNeg, 0) = z at D2 r2 e4 M4 re
    obtain ⟨⟨P', ch'⟩, rr⟩ := z
    have tm24 : hl_Tm I2 I4 := by
      have a := M4.1
      exact ⟨fun b hb => (a.1 b hb).trans (tm2.1 b hb).symm, a.2.1.trans tm2.2.1.symm, fun k hk => (a.2.2.1 k hk).trans (tm2.2.2.1 k hk).symm, fun b h1 h2 => (a.2.2.2 b h1 h2).trans (tm2.2.2.2 b h1 h2).symm⟩
    have c64 : I4 64 = I2 64 := M4.2.1.trans D2.2.1.symm
    have c65 : I4 65 = I2 65 := M4.2.2.1.trans D2.2.2.1.symm
    have d81 : I2 81 5 = nI ch' := D2.2.2.2.2
    have d814 : I2 81 4 = rr := r2
    have hm2 : I2 86 0 = nI nh := by rw [tm12.2.2.2 86 (by omega) (by omega)]; exact hm1
    have mM2 : I2 85 2 = nI N := (hl_Co_t hCo tm2).mM
    cases hx : hl_inb (x - 10) N with
    | true =>
      rw [hx] at k138 x10
      obtain ⟨c, hc, ec⟩ := hl_inb_of hx (by omega)
      rw [ec] at k138
      have bc : hl_inb (nI c) N = true := hl_inb_nI hc (by omega)
      have b24 : hl_inb (nI c) 24 = true := hl_inb_nI (by omega) (by omega)
      have p82 : I2 82 c = nI (P' c) := (D2.2.2.2.1 c hc).2
      have p94 : I4 94 c = nI (P' c) := (M4.2.2.2 c hc).2
      have nx : ∀ k : Nat, k ≤ 1 → ¬ x = nI k := fun k hk q => by
        have h1 : hl_in x 10 (9 + nI N) = true := x10
        rw [q] at h1
        have := hl_in_E h1
        rw [show (10 : Int32) = nI 10 from rfl, hl_tI (by omega), hl_tI (by omega)] at this
        omega
      have nx0 : ¬ x = 0 := nx 0 (by omega)
      have nx1 : ¬ x = 1 := nx 1 (by omega)
      have in01 : hl_in x 0 1 = false := by
        cases h : hl_in x 0 1 with
        | false => rfl
        | true => rcases hl_sw01 h with q | q
                  · exact absurd q nx0
                  · exact absurd q nx1
      refine ⟨nI (P' c), I2, J, I4, J4, ?_, ?_, tm12, hP2, tm24, c64, c65⟩
      · rw [hl_e126 (d := 1000)]
        simp only [hl_r126_0, hl_r126_1, hl_r126_2, hl_r126_4, hl_r126_5, hl_r126_8, hl_r126_9, hl_r126_10, hl_r126_13, hl_r126_16, hl_r126_19, hl_r126_20, hl_r126_21, hl_r126_22, hl_r126_25, hl_r126_28, hl_r126_29, hl_r126_32, hl_r126_33, hl_r126_34, hl_r126_35, hl_r126_38, hl_r126_41, hl_r126_42, hl_r126_45, hl_r126_48, hl_r126_49, hl_r126_52, hl_r126_53, hl_r126_56, hl_r126_59, hl_r126_60, hl_r126_62, hl_r126_63, hl_r126_64, hl_r126_65, hl_r126_66, hl_r126_69, hl_r126_70, hl_r126_73, hl_r126_76, hl_r126_79, hl_r126_80, hl_r126_83, hl_r126_86, hl_o_0, hl_p_0_3, hl_p_0_4, hl_p_0_5, hl_p_0_7, hl_p_0_8, hl_p_0_9, hl_p_0_10, hl_p_0_11, hl_p_0_12, hl_p_0_13, hl_p_0_14, hl_p_0_15, hl_o_1, hl_p_1_0, hl_p_1_1, hl_p_1_2, hl_p_1_3, hl_p_1_4, hl_p_1_5, hl_p_1_6, hl_p_1_7, hl_p_1_9, hl_p_1_14, hl_p_1_15, hl_o_63, hl_p_63_0, hl_p_63_1, hl_p_63_2, hl_p_63_3, hl_o_81, hl_p_81_0, hl_p_81_1, hl_p_81_2, hl_p_81_3, hl_a_82, hl_z_82, k138, hc1, n0, hl_s147, in01, hl_tv_f, hl_tv_t, hl_10, not_true, not_false_eq_true, e1, e2, ec, bc, nIc (show c < 2 ^ 31 by omega), p82, hl_tl_n, hl_kill_i, hl_kill_r, hl_kill_n, hl_kill_l, hl_tl_s, hl_tl_n, hl_cal_some, hl_gI, hl_gJ, hl_gsI, hl_gsJ, hl_tv01, if_true, if_false, hl_up_a, hl_row_a]
      · rw [hl_e245 (d := 1000)]
        simp only [hl_r245_0, hl_r245_1, hl_r245_4, hl_r245_5, hl_r245_6, hl_r245_9, hl_r245_10, hl_r245_11, hl_r245_12, hl_r245_15, hl_r245_18, hl_r245_19, hl_r245_21, hl_r245_23, hl_r245_24, hl_r245_27, hl_r245_28, hl_r245_31, hl_r245_36, hl_r245_37, hl_r245_40, hl_r245_41, hl_r245_42, hl_r245_43, hl_r245_44, hl_r245_45, hl_o_85, hl_p_85_3, hl_p_85_4, hl_p_85_5, hl_p_85_6, hl_p_85_19, hl_p_85_23, hl_p_85_24, hl_p_85_25, hl_p_85_26, hl_p_85_27, hl_p_85_28, hl_p_85_29, hl_p_85_30, hl_p_85_31, hl_p_85_33, hl_p_85_34, hl_p_85_35, hl_p_85_36, hl_p_85_37, hl_a_86, hl_z_86, hl_k0, hl_v0, hm2, n0, hl_s151, in01, mM2, x10, hl_tv_f, hl_tv_t, hl_10, not_true, not_false_eq_true, e3, hl_tl_n, hl_kill_i, hl_kill_r, hl_kill_n, hl_kill_l, hl_tl_s, hl_tl_n, hl_cal_some, hl_gI, hl_gJ, hl_gsI, hl_gsJ, hl_tv01, if_true, if_false, hl_up_a, hl_row_a]
        rw [e4]
        simp only [hl_r245_142, hl_r245_143, hl_r245_159, hl_r245_160, hl_r245_161, hl_r245_168, hl_r245_169, hl_r245_172, hl_r245_173, hl_r245_175, hl_r245_176, hl_r245_177, hl_o_85, hl_p_85_3, hl_p_85_4, hl_p_85_5, hl_p_85_6, hl_p_85_19, hl_p_85_23, hl_p_85_24, hl_p_85_25, hl_p_85_26, hl_p_85_27, hl_p_85_28, hl_p_85_29, hl_p_85_30, hl_p_85_31, hl_p_85_33, hl_p_85_34, hl_p_85_35, hl_p_85_36, hl_p_85_37, hl_a_94, hl_z_94, nx0, nx1, not_false_eq_true, ec, b24, nIc (show c < 2 ^ 31 by omega), p94, hl_kill_i, hl_kill_r, hl_kill_n, hl_kill_l, hl_tl_s, hl_tl_n, hl_cal_some, hl_gI, hl_gJ, hl_gsI, hl_gsJ, hl_tv01, if_true, if_false, hl_up_a, hl_row_a]
    | false =>
      rw [hx, Bool.or_false] at g1
      rw [hx] at k138
      have st2 : hl_call 1001 245 [.ref 85, .int x] (hl_g N I2 J) = hl_Run 245 (hl_call 1000) 142 [.ref 85, .int x, .int (nI ch'), .int (nI r'), .int (hl_tv e'), l5', l6'] [] (hl_g N I4 J4) := by
        rw [← e4, hl_e245 (d := 1000)]
        simp only [hl_r245_0, hl_r245_1, hl_r245_4, hl_r245_5, hl_r245_6, hl_r245_9, hl_r245_10, hl_r245_11, hl_r245_12, hl_r245_15, hl_r245_36, hl_r245_37, hl_r245_40, hl_r245_41, hl_r245_42, hl_r245_43, hl_r245_44, hl_r245_45, hl_o_85, hl_p_85_3, hl_p_85_4, hl_p_85_5, hl_p_85_6, hl_p_85_19, hl_p_85_23, hl_p_85_24, hl_p_85_25, hl_p_85_26, hl_p_85_27, hl_p_85_28, hl_p_85_29, hl_p_85_30, hl_p_85_31, hl_p_85_33, hl_p_85_34, hl_p_85_35, hl_p_85_36, hl_p_85_37, hl_a_86, hl_z_86, hl_k0, hl_v0, hm2, n0, hl_s151, g1, hl_tv_t, hl_10, not_false_eq_true, e3, hl_tl_n, hl_kill_i, hl_kill_r, hl_kill_n, hl_kill_l, hl_tl_s, hl_tl_n, hl_cal_some, hl_gI, hl_gJ, hl_gsI, hl_gsJ, hl_tv01, if_true, if_false, hl_up_a, hl_row_a]
      rcases hl_sw01 g1 with w | w
      · subst w
        refine ⟨rr, I2, J, I4, J4, ?_, ?_, tm12, hP2, tm24, c64, c65⟩
        · rw [hl_e126 (d := 1000)]
          simp only [hl_r126_0, hl_r126_1, hl_r126_2, hl_r126_4, hl_r126_5, hl_r126_8, hl_r126_9, hl_r126_10, hl_r126_13, hl_r126_16, hl_r126_19, hl_r126_20, hl_r126_21, hl_r126_22, hl_r126_25, hl_r126_28, hl_r126_29, hl_r126_32, hl_r126_33, hl_r126_34, hl_r126_35, hl_r126_38, hl_r126_41, hl_r126_42, hl_r126_45, hl_r126_48, hl_r126_49, hl_r126_52, hl_r126_53, hl_r126_56, hl_r126_59, hl_r126_60, hl_r126_62, hl_r126_63, hl_r126_64, hl_r126_65, hl_r126_66, hl_r126_69, hl_r126_70, hl_r126_73, hl_r126_76, hl_r126_79, hl_r126_80, hl_r126_83, hl_r126_86, hl_o_0, hl_p_0_3, hl_p_0_4, hl_p_0_5, hl_p_0_7, hl_p_0_8, hl_p_0_9, hl_p_0_10, hl_p_0_11, hl_p_0_12, hl_p_0_13, hl_p_0_14, hl_p_0_15, hl_o_1, hl_p_1_0, hl_p_1_1, hl_p_1_2, hl_p_1_3, hl_p_1_4, hl_p_1_5, hl_p_1_6, hl_p_1_7, hl_p_1_9, hl_p_1_14, hl_p_1_15, hl_o_63, hl_p_63_0, hl_p_63_1, hl_p_63_2, hl_p_63_3, hl_o_81, hl_p_81_0, hl_p_81_1, hl_p_81_2, hl_p_81_3, k138, hc1, n0, hl_s147, g1, hl_tv_f, hl_tv_t, hl_10, not_true, not_false_eq_true, e1, e2, d814, hl_tl_n, hl_kill_i, hl_kill_r, hl_kill_n, hl_kill_l, hl_tl_s, hl_tl_n, hl_cal_some, hl_gI, hl_gJ, hl_gsI, hl_gsJ, hl_tv01, if_true, if_false, hl_up_a, hl_row_a]
        · rw [st2, show rr = if e' = true then nI r' else -1 from re.symm]
          cases e' with
          | true => simp only [hl_r245_142, hl_r245_143, hl_r245_146, hl_r245_148, hl_r245_151, hl_r245_152, hl_r245_177, not_true, hl_tv_t, hl_10, hl_kill_i, hl_kill_r, hl_kill_n, hl_kill_l, hl_tl_s, hl_tl_n, hl_cal_some, hl_gI, hl_gJ, hl_gsI, hl_gsJ, hl_tv01, if_true, if_false, hl_up_a, hl_row_a]
          | false => simp only [hl_r245_142, hl_r245_143, hl_r245_146, hl_r245_148, hl_r245_155, hl_r245_156, hl_r245_177, not_true, hl_tv_f, Bool.false_eq_true, hl_kill_i, hl_kill_r, hl_kill_n, hl_kill_l, hl_tl_s, hl_tl_n, hl_cal_some, hl_gI, hl_gJ, hl_gsI, hl_gsJ, hl_tv01, if_true, if_false, hl_up_a, hl_row_a]
      · subst w
        refine ⟨nI ch', I2, J, I4, J4, ?_, ?_, tm12, hP2, tm24, c64, c65⟩
        · rw [hl_e126 (d := 1000)]
          simp only [hl_r126_0, hl_r126_1, hl_r126_2, hl_r126_4, hl_r126_5, hl_r126_8, hl_r126_9, hl_r126_10, hl_r126_13, hl_r126_16, hl_r126_19, hl_r126_20, hl_r126_21, hl_r126_22, hl_r126_25, hl_r126_28, hl_r126_29, hl_r126_32, hl_r126_33, hl_r126_34, hl_r126_35, hl_r126_38, hl_r126_41, hl_r126_42, hl_r126_45, hl_r126_48, hl_r126_49, hl_r126_52, hl_r126_53, hl_r126_56, hl_r126_59, hl_r126_60, hl_r126_62, hl_r126_63, hl_r126_64, hl_r126_65, hl_r126_66, hl_r126_69, hl_r126_70, hl_r126_73, hl_r126_76, hl_r126_79, hl_r126_80, hl_r126_83, hl_r126_86, hl_o_0, hl_p_0_3, hl_p_0_4, hl_p_0_5, hl_p_0_7, hl_p_0_8, hl_p_0_9, hl_p_0_10, hl_p_0_11, hl_p_0_12, hl_p_0_13, hl_p_0_14, hl_p_0_15, hl_o_1, hl_p_1_0, hl_p_1_1, hl_p_1_2, hl_p_1_3, hl_p_1_4, hl_p_1_5, hl_p_1_6, hl_p_1_7, hl_p_1_9, hl_p_1_14, hl_p_1_15, hl_o_63, hl_p_63_0, hl_p_63_1, hl_p_63_2, hl_p_63_3, hl_o_81, hl_p_81_0, hl_p_81_1, hl_p_81_2, hl_p_81_3, k138, hc1, n0, hl_s147, g1, hl_tv_f, hl_tv_t, hl_10, not_true, not_false_eq_true, e1, e2, d81, hl_tl_n, hl_kill_i, hl_kill_r, hl_kill_n, hl_kill_l, hl_tl_s, hl_tl_n, hl_cal_some, hl_gI, hl_gJ, hl_gsI, hl_gsJ, hl_tv01, if_true, if_false, hl_up_a, hl_row_a]
        · rw [st2]
          simp only [hl_r245_142, hl_r245_143, hl_r245_159, hl_r245_160, hl_r245_161, hl_r245_164, hl_r245_165, hl_r245_177, hl_10, not_true, not_false_eq_true, hl_kill_i, hl_kill_r, hl_kill_n, hl_kill_l, hl_tl_s, hl_tl_n, hl_cal_some, hl_gI, hl_gJ, hl_gsI, hl_gsJ, hl_tv01, if_true, if_false, hl_up_a, hl_row_a]
end HLFR2
