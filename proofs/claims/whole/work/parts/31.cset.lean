/-! the class's methods that set, feed, tell -/
section HLC1
variable {d N : Nat} {w : hl_W} {I : Nat → Nat → Int32} {J : Nat → Nat → Int64}
theorem nIc {c : Nat} (h : c < 2 ^ 31) : (nI c).toNatClampNeg = c := nI_clamp h
theorem hl_tv1 (b : Bool) : (¬ hl_tv b = 0) = (b = true) := by cases b <;> simp [hl_tv]
/-- fresh is none of the first k -/
def hl_fz (I : Nat → Nat → Int32) (k : Nat) : Nat → Nat → Int32 := hl_row I 65 (fun c => if c < k then 0 else I 65 c)
theorem hl_fz0 (I : Nat → Nat → Int32) : hl_fz I 0 = I := by
  funext b j
  unfold hl_fz
  rw [hl_row_a]
  split
  · next h => subst h; simp
  · rfl
theorem hl_fzs (I : Nat → Nat → Int32) (k : Nat) : hl_up (hl_fz I k) 65 k 0 = hl_fz I (k + 1) := by
  funext b j
  unfold hl_fz
  rw [hl_up_a, hl_row_a, hl_row_a]
  split
  · next h =>
    subst h
    by_cases h1 : j = k
    · subst h1; simp
    · rw [if_neg h1]
      by_cases h2 : j < k
      · rw [if_pos h2, if_pos (by omega)]
      · rw [if_neg h2, if_neg (by omega)]
  · rfl
theorem hl_s43 {c : Nat} (hc : c < N) (hN : N ≤ 24) : hl_call (d + 1) 43 [.ref 63, .int (nI c)] (hl_g N I J) = some (none, hl_g N (hl_up I 65 c 0) J) := by
  rw [hl_e43]
  have h1 : hl_inb (nI c) N = true := hl_inb_nI hc (by omega)
  simp only [hl_r43_0, hl_r43_1, hl_r43_4, hl_r43_5, hl_r43_6, hl_r43_7, hl_o_63, hl_p_63_0, hl_p_63_1, hl_p_63_2, hl_p_63_3, hl_a_65, hl_z_65, h1, nIc (show c < 2 ^ 31 by omega), true_or, hl_kill_i, hl_kill_r, hl_kill_n, hl_kill_l, hl_tl_s, hl_tl_n, hl_cal_some, hl_gI, hl_gJ, hl_gsI, hl_gsJ, hl_tv01, if_true, if_false, hl_up_a, hl_row_a]
theorem hl_l44 {c : hl_C} (hN : N ≤ 24) (m : Nat) : ∀ k, k + m = N → hl_Run 44 c 2 [.ref 63, .int (nI k)] [] (hl_g N (hl_fz I k) J) = some (none, hl_g N (hl_fz I N) J) := by
  induction m with
  | zero =>
    intro k hk
    obtain rfl : k = N := by omega
    have e : Int32.ofNat k = nI k := rfl
    simp only [hl_r44_0, hl_r44_1, hl_r44_2, hl_r44_3, hl_r44_4, hl_r44_7, hl_r44_8, hl_r44_11, hl_r44_12, hl_r44_15, hl_r44_16, hl_r44_17, hl_r44_18, hl_r44_21, hl_r44_24, hl_o_63, hl_p_63_0, hl_p_63_1, hl_p_63_2, hl_p_63_3, hl_a_65, hl_z_65, hl_l_65, e, Int32.le_refl, hl_kill_i, hl_kill_r, hl_kill_n, hl_kill_l, hl_tl_s, hl_tl_n, hl_cal_some, hl_gI, hl_gJ, hl_gsI, hl_gsJ, hl_tv01, if_true, if_false, hl_up_a, hl_row_a]
  | succ m ih =>
    intro k hk
    have hlt : ¬ nI N ≤ nI k := nI_ge (by omega) (by omega)
    have h1 : hl_inb (nI k) N = true := hl_inb_nI (by omega) (by omega)
    have e : Int32.ofNat N = nI N := rfl
    have g := ih (k + 1) (by omega)
    rw [← hl_fzs, nI_succ] at g
    rw [hl_r44_2]
    simp only [hl_r44_0, hl_r44_1, hl_r44_3, hl_r44_4, hl_r44_7, hl_r44_8, hl_r44_11, hl_r44_12, hl_r44_15, hl_r44_16, hl_r44_17, hl_r44_18, hl_r44_21, hl_r44_24, hl_o_63, hl_p_63_0, hl_p_63_1, hl_p_63_2, hl_p_63_3, hl_a_65, hl_z_65, hl_l_65, e, hlt, h1, nIc (show k < 2 ^ 31 by omega), true_or, hl_kill_i, hl_kill_r, hl_gI, hl_gsI, if_false]
    exact g
theorem hl_s44 (hN : N ≤ 24) : hl_call (d + 1) 44 [.ref 63] (hl_g N I J) = some (none, hl_g N (hl_fz I N) J) := by
  rw [hl_e44]
  have := hl_l44 (I := I) (J := J) (c := hl_call d) hN N 0 (Nat.zero_add _)
  rw [hl_fz0] at this
  rw [hl_r44_0, hl_r44_1]
  exact this
/-- cell -/
def hl_gc0 (N : Nat) (x s p t b : Int32) : Bool := hl_inb x N && hl_in s 0 300 && hl_in p 0 999 && hl_in t 0 5 && hl_in b 0 900
theorem hl_s105f {x s p t b z : Int32} (hM : I 0 2 = nI N) (hN : N ≤ 24) (h : hl_gc0 N x s p t b = false) : hl_call (d + 3) 105 [.ref 0, .int x, .int s, .int p, .int t, .int b, .int z] (hl_g N I J) = some (some (.int 0), hl_g N I J) := by
  rw [hl_e105]
  have hb : N < 2 ^ 31 := by omega
  unfold hl_gc0 at h
  cases h1 : hl_inb x N with
  | false => simp only [hl_r105_0, hl_r105_1, hl_r105_2, hl_r105_5, hl_r105_8, hl_r105_9, hl_r105_10, hl_r105_13, hl_r105_16, hl_r105_19, hl_r105_20, hl_r105_21, hl_r105_24, hl_r105_27, hl_r105_30, hl_r105_32, hl_r105_33, hl_r105_34, hl_r105_37, hl_r105_40, hl_r105_42, hl_r105_43, hl_r105_46, hl_r105_49, hl_r105_52, hl_r105_53, hl_r105_54, hl_r105_55, hl_r105_58, hl_r105_61, hl_r105_62, hl_r105_63, hl_r105_64, hl_r105_65, hl_r105_68, hl_r105_71, hl_r105_72, hl_r105_73, hl_r105_74, hl_r105_75, hl_r105_78, hl_r105_81, hl_r105_82, hl_r105_84, hl_r105_85, hl_r105_86, hl_r105_89, hl_r105_92, hl_r105_93, hl_r105_95, hl_r105_96, hl_r105_97, hl_r105_100, hl_r105_103, hl_r105_104, hl_r105_106, hl_r105_107, hl_r105_108, hl_r105_111, hl_r105_112, hl_r105_115, hl_r105_116, hl_o_0, hl_p_0_3, hl_p_0_4, hl_p_0_5, hl_p_0_7, hl_p_0_8, hl_p_0_9, hl_p_0_10, hl_p_0_11, hl_p_0_12, hl_p_0_13, hl_p_0_14, hl_p_0_15, hl_s138 hM hb, h1, hl_tv_f, true_or, hl_kill_i, hl_kill_r, hl_kill_n, hl_kill_l, hl_tl_s, hl_tl_n, hl_cal_some, hl_gI, hl_gJ, hl_gsI, hl_gsJ, hl_tv01, if_true, if_false, hl_up_a, hl_row_a]
  | true =>
    cases h2 : hl_in s 0 300 with
    | false => simp only [hl_r105_0, hl_r105_1, hl_r105_2, hl_r105_5, hl_r105_8, hl_r105_9, hl_r105_10, hl_r105_13, hl_r105_16, hl_r105_19, hl_r105_20, hl_r105_21, hl_r105_24, hl_r105_27, hl_r105_30, hl_r105_32, hl_r105_33, hl_r105_34, hl_r105_37, hl_r105_40, hl_r105_42, hl_r105_43, hl_r105_46, hl_r105_49, hl_r105_52, hl_r105_53, hl_r105_54, hl_r105_55, hl_r105_58, hl_r105_61, hl_r105_62, hl_r105_63, hl_r105_64, hl_r105_65, hl_r105_68, hl_r105_71, hl_r105_72, hl_r105_73, hl_r105_74, hl_r105_75, hl_r105_78, hl_r105_81, hl_r105_82, hl_r105_84, hl_r105_85, hl_r105_86, hl_r105_89, hl_r105_92, hl_r105_93, hl_r105_95, hl_r105_96, hl_r105_97, hl_r105_100, hl_r105_103, hl_r105_104, hl_r105_106, hl_r105_107, hl_r105_108, hl_r105_111, hl_r105_112, hl_r105_115, hl_r105_116, hl_o_0, hl_p_0_3, hl_p_0_4, hl_p_0_5, hl_p_0_7, hl_p_0_8, hl_p_0_9, hl_p_0_10, hl_p_0_11, hl_p_0_12, hl_p_0_13, hl_p_0_14, hl_p_0_15, hl_s138 hM hb, hl_s147, h1, h2, hl_tv0, hl_tv_f, Bool.true_eq_false, true_or, hl_kill_i, hl_kill_r, hl_kill_n, hl_kill_l, hl_tl_s, hl_tl_n, hl_cal_some, hl_gI, hl_gJ, hl_gsI, hl_gsJ, hl_tv01, if_true, if_false, hl_up_a, hl_row_a]
    | true =>
      cases h3 : hl_in p 0 999 with
      | false => simp only [hl_r105_0, hl_r105_1, hl_r105_2, hl_r105_5, hl_r105_8, hl_r105_9, hl_r105_10, hl_r105_13, hl_r105_16, hl_r105_19, hl_r105_20, hl_r105_21, hl_r105_24, hl_r105_27, hl_r105_30, hl_r105_32, hl_r105_33, hl_r105_34, hl_r105_37, hl_r105_40, hl_r105_42, hl_r105_43, hl_r105_46, hl_r105_49, hl_r105_52, hl_r105_53, hl_r105_54, hl_r105_55, hl_r105_58, hl_r105_61, hl_r105_62, hl_r105_63, hl_r105_64, hl_r105_65, hl_r105_68, hl_r105_71, hl_r105_72, hl_r105_73, hl_r105_74, hl_r105_75, hl_r105_78, hl_r105_81, hl_r105_82, hl_r105_84, hl_r105_85, hl_r105_86, hl_r105_89, hl_r105_92, hl_r105_93, hl_r105_95, hl_r105_96, hl_r105_97, hl_r105_100, hl_r105_103, hl_r105_104, hl_r105_106, hl_r105_107, hl_r105_108, hl_r105_111, hl_r105_112, hl_r105_115, hl_r105_116, hl_o_0, hl_p_0_3, hl_p_0_4, hl_p_0_5, hl_p_0_7, hl_p_0_8, hl_p_0_9, hl_p_0_10, hl_p_0_11, hl_p_0_12, hl_p_0_13, hl_p_0_14, hl_p_0_15, hl_s138 hM hb, hl_s147, h1, h2, h3, hl_tv0, hl_tv_f, Bool.true_eq_false, true_or, hl_kill_i, hl_kill_r, hl_kill_n, hl_kill_l, hl_tl_s, hl_tl_n, hl_cal_some, hl_gI, hl_gJ, hl_gsI, hl_gsJ, hl_tv01, if_true, if_false, hl_up_a, hl_row_a]
      | true =>
        cases h4 : hl_in t 0 5 with
        | false => simp only [hl_r105_0, hl_r105_1, hl_r105_2, hl_r105_5, hl_r105_8, hl_r105_9, hl_r105_10, hl_r105_13, hl_r105_16, hl_r105_19, hl_r105_20, hl_r105_21, hl_r105_24, hl_r105_27, hl_r105_30, hl_r105_32, hl_r105_33, hl_r105_34, hl_r105_37, hl_r105_40, hl_r105_42, hl_r105_43, hl_r105_46, hl_r105_49, hl_r105_52, hl_r105_53, hl_r105_54, hl_r105_55, hl_r105_58, hl_r105_61, hl_r105_62, hl_r105_63, hl_r105_64, hl_r105_65, hl_r105_68, hl_r105_71, hl_r105_72, hl_r105_73, hl_r105_74, hl_r105_75, hl_r105_78, hl_r105_81, hl_r105_82, hl_r105_84, hl_r105_85, hl_r105_86, hl_r105_89, hl_r105_92, hl_r105_93, hl_r105_95, hl_r105_96, hl_r105_97, hl_r105_100, hl_r105_103, hl_r105_104, hl_r105_106, hl_r105_107, hl_r105_108, hl_r105_111, hl_r105_112, hl_r105_115, hl_r105_116, hl_o_0, hl_p_0_3, hl_p_0_4, hl_p_0_5, hl_p_0_7, hl_p_0_8, hl_p_0_9, hl_p_0_10, hl_p_0_11, hl_p_0_12, hl_p_0_13, hl_p_0_14, hl_p_0_15, hl_s138 hM hb, hl_s147, h1, h2, h3, h4, hl_tv0, hl_tv_f, Bool.true_eq_false, true_or, hl_kill_i, hl_kill_r, hl_kill_n, hl_kill_l, hl_tl_s, hl_tl_n, hl_cal_some, hl_gI, hl_gJ, hl_gsI, hl_gsJ, hl_tv01, if_true, if_false, hl_up_a, hl_row_a]
        | true =>
          cases h5 : hl_in b 0 900 with
          | false => simp only [hl_r105_0, hl_r105_1, hl_r105_2, hl_r105_5, hl_r105_8, hl_r105_9, hl_r105_10, hl_r105_13, hl_r105_16, hl_r105_19, hl_r105_20, hl_r105_21, hl_r105_24, hl_r105_27, hl_r105_30, hl_r105_32, hl_r105_33, hl_r105_34, hl_r105_37, hl_r105_40, hl_r105_42, hl_r105_43, hl_r105_46, hl_r105_49, hl_r105_52, hl_r105_53, hl_r105_54, hl_r105_55, hl_r105_58, hl_r105_61, hl_r105_62, hl_r105_63, hl_r105_64, hl_r105_65, hl_r105_68, hl_r105_71, hl_r105_72, hl_r105_73, hl_r105_74, hl_r105_75, hl_r105_78, hl_r105_81, hl_r105_82, hl_r105_84, hl_r105_85, hl_r105_86, hl_r105_89, hl_r105_92, hl_r105_93, hl_r105_95, hl_r105_96, hl_r105_97, hl_r105_100, hl_r105_103, hl_r105_104, hl_r105_106, hl_r105_107, hl_r105_108, hl_r105_111, hl_r105_112, hl_r105_115, hl_r105_116, hl_o_0, hl_p_0_3, hl_p_0_4, hl_p_0_5, hl_p_0_7, hl_p_0_8, hl_p_0_9, hl_p_0_10, hl_p_0_11, hl_p_0_12, hl_p_0_13, hl_p_0_14, hl_p_0_15, hl_s138 hM hb, hl_s147, h1, h2, h3, h4, h5, hl_tv0, hl_tv_f, not_true, Bool.true_eq_false, true_or, hl_kill_i, hl_kill_r, hl_kill_n, hl_kill_l, hl_tl_s, hl_tl_n, hl_cal_some, hl_gI, hl_gJ, hl_gsI, hl_gsJ, hl_tv01, if_true, if_false, hl_up_a, hl_row_a]
          | true => rw [h1, h2, h3, h4, h5] at h; cases h
theorem hl_s105t {c : Nat} {s p t b z : Int32} (hM : I 0 2 = nI N) (hN : N ≤ 24) (hc : c < N) (hz : z = 0 ∨ z = 1) (h : hl_gc0 N (nI c) s p t b = true) : hl_call (d + 3) 105 [.ref 0, .int (nI c), .int s, .int p, .int t, .int b, .int z] (hl_g N I J) = some (some (.int 1), hl_g N (hl_up (hl_up (hl_up (hl_up (hl_up (hl_up I 2 c s) 3 c p) 4 c t) 5 c b) 6 c z) 65 c 0) J) := by
  rw [hl_e105]
  have hb : N < 2 ^ 31 := by omega
  unfold hl_gc0 at h
  simp only [Bool.and_eq_true] at h
  obtain ⟨⟨⟨⟨h1, h2⟩, h3⟩, h4⟩, h5⟩ := h
  simp only [hl_r105_0, hl_r105_1, hl_r105_2, hl_r105_5, hl_r105_8, hl_r105_9, hl_r105_10, hl_r105_13, hl_r105_16, hl_r105_19, hl_r105_20, hl_r105_21, hl_r105_24, hl_r105_27, hl_r105_30, hl_r105_32, hl_r105_33, hl_r105_34, hl_r105_37, hl_r105_40, hl_r105_42, hl_r105_43, hl_r105_46, hl_r105_49, hl_r105_52, hl_r105_53, hl_r105_54, hl_r105_55, hl_r105_58, hl_r105_61, hl_r105_62, hl_r105_63, hl_r105_64, hl_r105_65, hl_r105_68, hl_r105_71, hl_r105_72, hl_r105_73, hl_r105_74, hl_r105_75, hl_r105_78, hl_r105_81, hl_r105_82, hl_r105_84, hl_r105_85, hl_r105_86, hl_r105_89, hl_r105_92, hl_r105_93, hl_r105_95, hl_r105_96, hl_r105_97, hl_r105_100, hl_r105_103, hl_r105_104, hl_r105_106, hl_r105_107, hl_r105_108, hl_r105_111, hl_r105_112, hl_r105_115, hl_r105_116, hl_o_0, hl_p_0_3, hl_p_0_4, hl_p_0_5, hl_p_0_7, hl_p_0_8, hl_p_0_9, hl_p_0_10, hl_p_0_11, hl_p_0_12, hl_p_0_13, hl_p_0_14, hl_p_0_15, hl_o_1, hl_p_1_0, hl_p_1_1, hl_p_1_2, hl_p_1_3, hl_p_1_4, hl_p_1_5, hl_p_1_6, hl_p_1_7, hl_p_1_9, hl_p_1_14, hl_p_1_15, hl_a_2, hl_z_2, hl_a_3, hl_z_3, hl_a_4, hl_z_4, hl_a_5, hl_z_5, hl_a_6, hl_z_6, hl_s138 hM hb, hl_s147, h1, h2, h3, h4, h5, hz, hl_s43 hc hN, nIc (show c < 2 ^ 31 by omega), hl_tv0, not_false_eq_true, Bool.true_eq_false, or_true, hl_o_63, hl_p_63_0, hl_p_63_1, hl_p_63_2, hl_p_63_3, hl_kill_i, hl_kill_r, hl_kill_n, hl_kill_l, hl_tl_s, hl_tl_n, hl_cal_some, hl_gI, hl_gJ, hl_gsI, hl_gsJ, hl_tv01, if_true, if_false, hl_up_a, hl_row_a]
/-- tie -/
theorem hl_s81f {x y z : Int32} (h : ¬ I 11 3 < 40) : hl_call (d + 1) 81 [.ref 11, .int x, .int y, .int z] (hl_g N I J) = some (some (.int (-1)), hl_g N I J) := by
  rw [hl_e81]
  simp only [hl_r81_0, hl_r81_1, hl_r81_4, hl_r81_6, hl_r81_9, hl_r81_10, hl_r81_11, hl_r81_12, hl_r81_15, hl_r81_16, hl_r81_19, hl_r81_20, hl_r81_21, hl_r81_22, hl_r81_25, hl_r81_26, hl_r81_29, hl_r81_30, hl_r81_31, hl_r81_32, hl_r81_35, hl_r81_36, hl_r81_39, hl_r81_40, hl_r81_41, hl_r81_42, hl_r81_43, hl_r81_46, hl_r81_47, hl_r81_48, hl_r81_51, hl_r81_52, hl_r81_55, hl_o_11, hl_p_11_0, hl_p_11_1, hl_p_11_2, h, hl_kill_i, hl_kill_r, hl_kill_n, hl_kill_l, hl_tl_s, hl_tl_n, hl_cal_some, hl_gI, hl_gJ, hl_gsI, hl_gsJ, hl_tv01, if_true, if_false, hl_up_a, hl_row_a]
theorem hl_s81t {x y z : Int32} {cnt : Nat} (hc : I 11 3 = nI cnt) (h : cnt < 40) : hl_call (d + 1) 81 [.ref 11, .int x, .int y, .int z] (hl_g N I J) = some (some (.int (nI (cnt + 1))), hl_g N (hl_up (hl_up (hl_up (hl_up I 12 cnt x) 13 cnt y) 14 cnt z) 11 3 (nI (cnt + 1))) J) := by
  rw [hl_e81]
  have h1 : I 11 3 < 40 := by rw [hc]; exact nI_lt h (by decide)
  have h2 : hl_inb (nI cnt) 40 = true := hl_inb_nI h (by decide)
  have e : nI cnt + 1 = nI (cnt + 1) := (nI_succ cnt).symm
  rw [hc] at h1
  simp only [hl_r81_0, hl_r81_1, hl_r81_4, hl_r81_6, hl_r81_9, hl_r81_10, hl_r81_11, hl_r81_12, hl_r81_15, hl_r81_16, hl_r81_19, hl_r81_20, hl_r81_21, hl_r81_22, hl_r81_25, hl_r81_26, hl_r81_29, hl_r81_30, hl_r81_31, hl_r81_32, hl_r81_35, hl_r81_36, hl_r81_39, hl_r81_40, hl_r81_41, hl_r81_42, hl_r81_43, hl_r81_46, hl_r81_47, hl_r81_48, hl_r81_51, hl_r81_52, hl_r81_55, hl_o_11, hl_p_11_0, hl_p_11_1, hl_p_11_2, hl_a_12, hl_z_12, hl_a_13, hl_z_13, hl_a_14, hl_z_14, hc, h1, h2, e, nIc (show cnt < 2 ^ 31 by omega), Nat.reduceEqDiff, hl_kill_i, hl_kill_r, hl_kill_n, hl_kill_l, hl_tl_s, hl_tl_n, hl_cal_some, hl_gI, hl_gJ, hl_gsI, hl_gsJ, hl_tv01, if_true, if_false, hl_up_a, hl_row_a]
def hl_gt0 (N : Nat) (x y z : Int32) : Bool := hl_inb x N && hl_inb y N && !decide (x = y) && hl_in z 1 99
theorem hl_s106f {x y z : Int32} (hM : I 0 2 = nI N) (hN : N ≤ 24) (h : hl_gt0 N x y z = false) : hl_call (d + 3) 106 [.ref 0, .int x, .int y, .int z] (hl_g N I J) = some (some (.int (-1)), hl_g N I J) := by
  rw [hl_e106]
  have hb : N < 2 ^ 31 := by omega
  unfold hl_gt0 at h
  cases h1 : hl_inb x N with
  | false => simp only [hl_r106_0, hl_r106_1, hl_r106_2, hl_r106_5, hl_r106_8, hl_r106_9, hl_r106_10, hl_r106_13, hl_r106_16, hl_r106_17, hl_r106_18, hl_r106_21, hl_r106_22, hl_r106_23, hl_r106_25, hl_r106_28, hl_r106_31, hl_r106_32, hl_r106_33, hl_r106_34, hl_r106_37, hl_r106_40, hl_r106_41, hl_r106_42, hl_r106_43, hl_r106_46, hl_o_0, hl_p_0_3, hl_p_0_4, hl_p_0_5, hl_p_0_7, hl_p_0_8, hl_p_0_9, hl_p_0_10, hl_p_0_11, hl_p_0_12, hl_p_0_13, hl_p_0_14, hl_p_0_15, hl_s138 hM hb, h1, hl_tv_f, hl_kill_i, hl_kill_r, hl_kill_n, hl_kill_l, hl_tl_s, hl_tl_n, hl_cal_some, hl_gI, hl_gJ, hl_gsI, hl_gsJ, hl_tv01, if_true, if_false, hl_up_a, hl_row_a]
  | true =>
    cases h2 : hl_inb y N with
    | false => simp only [hl_r106_0, hl_r106_1, hl_r106_2, hl_r106_5, hl_r106_8, hl_r106_9, hl_r106_10, hl_r106_13, hl_r106_16, hl_r106_17, hl_r106_18, hl_r106_21, hl_r106_22, hl_r106_23, hl_r106_25, hl_r106_28, hl_r106_31, hl_r106_32, hl_r106_33, hl_r106_34, hl_r106_37, hl_r106_40, hl_r106_41, hl_r106_42, hl_r106_43, hl_r106_46, hl_o_0, hl_p_0_3, hl_p_0_4, hl_p_0_5, hl_p_0_7, hl_p_0_8, hl_p_0_9, hl_p_0_10, hl_p_0_11, hl_p_0_12, hl_p_0_13, hl_p_0_14, hl_p_0_15, hl_s138 hM hb, h1, h2, hl_tv0, hl_tv_f, Bool.true_eq_false, hl_kill_i, hl_kill_r, hl_kill_n, hl_kill_l, hl_tl_s, hl_tl_n, hl_cal_some, hl_gI, hl_gJ, hl_gsI, hl_gsJ, hl_tv01, if_true, if_false, hl_up_a, hl_row_a]
    | true =>
      by_cases h3 : x = y
      · simp only [hl_r106_0, hl_r106_1, hl_r106_2, hl_r106_5, hl_r106_8, hl_r106_9, hl_r106_10, hl_r106_13, hl_r106_16, hl_r106_17, hl_r106_18, hl_r106_21, hl_r106_22, hl_r106_23, hl_r106_25, hl_r106_28, hl_r106_31, hl_r106_32, hl_r106_33, hl_r106_34, hl_r106_37, hl_r106_40, hl_r106_41, hl_r106_42, hl_r106_43, hl_r106_46, hl_o_0, hl_p_0_3, hl_p_0_4, hl_p_0_5, hl_p_0_7, hl_p_0_8, hl_p_0_9, hl_p_0_10, hl_p_0_11, hl_p_0_12, hl_p_0_13, hl_p_0_14, hl_p_0_15, hl_s138 hM hb, h1, h2, h3, hl_tv0, Bool.true_eq_false, hl_kill_i, hl_kill_r, hl_kill_n, hl_kill_l, hl_tl_s, hl_tl_n, hl_cal_some, hl_gI, hl_gJ, hl_gsI, hl_gsJ, hl_tv01, if_true, if_false, hl_up_a, hl_row_a]
      · cases h4 : hl_in z 1 99 with
        | false => simp only [hl_r106_0, hl_r106_1, hl_r106_2, hl_r106_5, hl_r106_8, hl_r106_9, hl_r106_10, hl_r106_13, hl_r106_16, hl_r106_17, hl_r106_18, hl_r106_21, hl_r106_22, hl_r106_23, hl_r106_25, hl_r106_28, hl_r106_31, hl_r106_32, hl_r106_33, hl_r106_34, hl_r106_37, hl_r106_40, hl_r106_41, hl_r106_42, hl_r106_43, hl_r106_46, hl_o_0, hl_p_0_3, hl_p_0_4, hl_p_0_5, hl_p_0_7, hl_p_0_8, hl_p_0_9, hl_p_0_10, hl_p_0_11, hl_p_0_12, hl_p_0_13, hl_p_0_14, hl_p_0_15, hl_s138 hM hb, hl_s147, h1, h2, h3, h4, hl_tv0, hl_tv_f, not_true, Bool.true_eq_false, hl_kill_i, hl_kill_r, hl_kill_n, hl_kill_l, hl_tl_s, hl_tl_n, hl_cal_some, hl_gI, hl_gJ, hl_gsI, hl_gsJ, hl_tv01, if_true, if_false, hl_up_a, hl_row_a]
        | true => rw [h1, h2, h4, decide_eq_false h3] at h; cases h
theorem hl_s106t {x y z : Int32} (hM : I 0 2 = nI N) (hN : N ≤ 24) (h : hl_gt0 N x y z = true) {r : Int32} {w' : hl_W} (ha : hl_call (d + 2) 81 [.ref 11, .int x, .int y, .int z] (hl_g N I J) = some (some (.int r), w')) : hl_call (d + 3) 106 [.ref 0, .int x, .int y, .int z] (hl_g N I J) = some (some (.int r), w') := by
  rw [hl_e106]
  have hb : N < 2 ^ 31 := by omega
  unfold hl_gt0 at h
  simp only [Bool.and_eq_true, Bool.not_eq_true', decide_eq_false_iff_not] at h
  obtain ⟨⟨⟨h1, h2⟩, h3⟩, h4⟩ := h
  simp only [hl_r106_0, hl_r106_1, hl_r106_2, hl_r106_5, hl_r106_8, hl_r106_9, hl_r106_10, hl_r106_13, hl_r106_16, hl_r106_17, hl_r106_18, hl_r106_21, hl_r106_22, hl_r106_23, hl_r106_25, hl_r106_28, hl_r106_31, hl_r106_32, hl_r106_33, hl_r106_34, hl_r106_37, hl_r106_40, hl_r106_41, hl_r106_42, hl_r106_43, hl_r106_46, hl_o_0, hl_p_0_3, hl_p_0_4, hl_p_0_5, hl_p_0_7, hl_p_0_8, hl_p_0_9, hl_p_0_10, hl_p_0_11, hl_p_0_12, hl_p_0_13, hl_p_0_14, hl_p_0_15, hl_o_1, hl_p_1_0, hl_p_1_1, hl_p_1_2, hl_p_1_3, hl_p_1_4, hl_p_1_5, hl_p_1_6, hl_p_1_7, hl_p_1_9, hl_p_1_14, hl_p_1_15, hl_o_11, hl_p_11_0, hl_p_11_1, hl_p_11_2, hl_s138 hM hb, hl_s147, h1, h2, h3, h4, hl_tv0, not_false_eq_true, Bool.true_eq_false, ha, hl_kill_i, hl_kill_r, hl_kill_n, hl_kill_l, hl_tl_s, hl_tl_n, hl_cal_some, hl_gI, hl_gJ, hl_gsI, hl_gsJ, hl_tv01, if_true, if_false, hl_up_a, hl_row_a]
/-- rise -/
theorem hl_s108f {x y : Int32} (h : (hl_inb x 12 && hl_in y 0 720) = false) : hl_call (d + 3) 108 [.ref 0, .int x, .int y] (hl_g N I J) = some (some (.int 0), hl_g N I J) := by
  rw [hl_e108]
  cases h1 : hl_inb x 12 with
  | false => simp only [hl_r108_0, hl_r108_1, hl_r108_4, hl_r108_7, hl_r108_8, hl_r108_9, hl_r108_12, hl_r108_15, hl_r108_18, hl_r108_19, hl_r108_20, hl_r108_21, hl_r108_24, hl_r108_27, hl_r108_28, hl_r108_29, hl_r108_30, hl_r108_31, hl_r108_34, hl_r108_37, hl_r108_38, hl_o_0, hl_p_0_3, hl_p_0_4, hl_p_0_5, hl_p_0_7, hl_p_0_8, hl_p_0_9, hl_p_0_10, hl_p_0_11, hl_p_0_12, hl_p_0_13, hl_p_0_14, hl_p_0_15, hl_s140, h1, hl_tv_f, true_or, hl_kill_i, hl_kill_r, hl_kill_n, hl_kill_l, hl_tl_s, hl_tl_n, hl_cal_some, hl_gI, hl_gJ, hl_gsI, hl_gsJ, hl_tv01, if_true, if_false, hl_up_a, hl_row_a]
  | true =>
    cases h2 : hl_in y 0 720 with
    | false => simp only [hl_r108_0, hl_r108_1, hl_r108_4, hl_r108_7, hl_r108_8, hl_r108_9, hl_r108_12, hl_r108_15, hl_r108_18, hl_r108_19, hl_r108_20, hl_r108_21, hl_r108_24, hl_r108_27, hl_r108_28, hl_r108_29, hl_r108_30, hl_r108_31, hl_r108_34, hl_r108_37, hl_r108_38, hl_o_0, hl_p_0_3, hl_p_0_4, hl_p_0_5, hl_p_0_7, hl_p_0_8, hl_p_0_9, hl_p_0_10, hl_p_0_11, hl_p_0_12, hl_p_0_13, hl_p_0_14, hl_p_0_15, hl_s140, hl_s147, h1, h2, hl_tv0, hl_tv_f, not_true, Bool.true_eq_false, true_or, hl_kill_i, hl_kill_r, hl_kill_n, hl_kill_l, hl_tl_s, hl_tl_n, hl_cal_some, hl_gI, hl_gJ, hl_gsI, hl_gsJ, hl_tv01, if_true, if_false, hl_up_a, hl_row_a]
    | true => rw [h1, h2] at h; cases h
theorem hl_s108t {k : Nat} {y : Int32} (hN : N ≤ 24) (hk : k < 12) (h : hl_in y 0 720 = true) : hl_call (d + 3) 108 [.ref 0, .int (nI k), .int y] (hl_g N I J) = some (some (.int 1), hl_g N (hl_fz (hl_up I 10 k y) N) J) := by
  rw [hl_e108]
  have h1 : hl_inb (nI k) 12 = true := hl_inb_nI hk (by decide)
  simp only [hl_r108_0, hl_r108_1, hl_r108_4, hl_r108_7, hl_r108_8, hl_r108_9, hl_r108_12, hl_r108_15, hl_r108_18, hl_r108_19, hl_r108_20, hl_r108_21, hl_r108_24, hl_r108_27, hl_r108_28, hl_r108_29, hl_r108_30, hl_r108_31, hl_r108_34, hl_r108_37, hl_r108_38, hl_o_0, hl_p_0_3, hl_p_0_4, hl_p_0_5, hl_p_0_7, hl_p_0_8, hl_p_0_9, hl_p_0_10, hl_p_0_11, hl_p_0_12, hl_p_0_13, hl_p_0_14, hl_p_0_15, hl_o_1, hl_p_1_0, hl_p_1_1, hl_p_1_2, hl_p_1_3, hl_p_1_4, hl_p_1_5, hl_p_1_6, hl_p_1_7, hl_p_1_9, hl_p_1_14, hl_p_1_15, hl_o_63, hl_p_63_0, hl_p_63_1, hl_p_63_2, hl_p_63_3, hl_a_10, hl_z_10, hl_s140, hl_s147, hl_s44 hN, h1, h, nIc (show k < 2 ^ 31 by omega), hl_tv0, not_false_eq_true, Bool.true_eq_false, or_true, hl_kill_i, hl_kill_r, hl_kill_n, hl_kill_l, hl_tl_s, hl_tl_n, hl_cal_some, hl_gI, hl_gJ, hl_gsI, hl_gsJ, hl_tv01, if_true, if_false, hl_up_a, hl_row_a]
/-- summer -/
theorem hl_s109n {y : Int32} (hN : N ≤ 24) : hl_call (d + 3) 109 [.ref 0, .int (-1), .int y] (hl_g N I J) = some (some (.int 1), hl_g N (hl_fz (hl_up (hl_up I 1 10 (-1)) 1 11 (-1)) N) J) := by
  rw [hl_e109]
  simp only [hl_r109_0, hl_r109_1, hl_r109_2, hl_r109_5, hl_r109_6, hl_r109_9, hl_r109_12, hl_r109_13, hl_r109_16, hl_r109_19, hl_r109_20, hl_r109_21, hl_r109_22, hl_r109_25, hl_r109_26, hl_r109_29, hl_r109_30, hl_r109_33, hl_r109_34, hl_r109_35, hl_r109_38, hl_r109_39, hl_r109_42, hl_r109_43, hl_r109_46, hl_r109_47, hl_r109_50, hl_r109_53, hl_r109_54, hl_o_0, hl_p_0_3, hl_p_0_4, hl_p_0_5, hl_p_0_7, hl_p_0_8, hl_p_0_9, hl_p_0_10, hl_p_0_11, hl_p_0_12, hl_p_0_13, hl_p_0_14, hl_p_0_15, hl_o_1, hl_p_1_0, hl_p_1_1, hl_p_1_2, hl_p_1_3, hl_p_1_4, hl_p_1_5, hl_p_1_6, hl_p_1_7, hl_p_1_9, hl_p_1_14, hl_p_1_15, hl_o_63, hl_p_63_0, hl_p_63_1, hl_p_63_2, hl_p_63_3, hl_s44 hN, not_true, or_true, hl_kill_i, hl_kill_r, hl_kill_n, hl_kill_l, hl_tl_s, hl_tl_n, hl_cal_some, hl_gI, hl_gJ, hl_gsI, hl_gsJ, hl_tv01, if_true, if_false, hl_up_a, hl_row_a]
theorem hl_s109t {x y : Int32} (hN : N ≤ 24) (hx : ¬ x = -1) (h1 : hl_inb x 12 = true) (h2 : hl_inb y 12 = true) : hl_call (d + 3) 109 [.ref 0, .int x, .int y] (hl_g N I J) = some (some (.int 1), hl_g N (hl_fz (hl_up (hl_up I 1 10 x) 1 11 y) N) J) := by
  rw [hl_e109]
  simp only [hl_r109_0, hl_r109_1, hl_r109_2, hl_r109_5, hl_r109_6, hl_r109_9, hl_r109_12, hl_r109_13, hl_r109_16, hl_r109_19, hl_r109_20, hl_r109_21, hl_r109_22, hl_r109_25, hl_r109_26, hl_r109_29, hl_r109_30, hl_r109_33, hl_r109_34, hl_r109_35, hl_r109_38, hl_r109_39, hl_r109_42, hl_r109_43, hl_r109_46, hl_r109_47, hl_r109_50, hl_r109_53, hl_r109_54, hl_o_0, hl_p_0_3, hl_p_0_4, hl_p_0_5, hl_p_0_7, hl_p_0_8, hl_p_0_9, hl_p_0_10, hl_p_0_11, hl_p_0_12, hl_p_0_13, hl_p_0_14, hl_p_0_15, hl_o_1, hl_p_1_0, hl_p_1_1, hl_p_1_2, hl_p_1_3, hl_p_1_4, hl_p_1_5, hl_p_1_6, hl_p_1_7, hl_p_1_9, hl_p_1_14, hl_p_1_15, hl_o_63, hl_p_63_0, hl_p_63_1, hl_p_63_2, hl_p_63_3, hl_s44 hN, hl_s140, hx, h1, h2, hl_tv0, not_false_eq_true, Bool.true_eq_false, or_true, hl_kill_i, hl_kill_r, hl_kill_n, hl_kill_l, hl_tl_s, hl_tl_n, hl_cal_some, hl_gI, hl_gJ, hl_gsI, hl_gsJ, hl_tv01, if_true, if_false, hl_up_a, hl_row_a]
theorem hl_s109f {x y : Int32} (hx : ¬ x = -1) (h : (hl_inb x 12 && hl_inb y 12) = false) : hl_call (d + 3) 109 [.ref 0, .int x, .int y] (hl_g N I J) = some (some (.int 0), hl_g N I J) := by
  rw [hl_e109]
  cases h1 : hl_inb x 12 with
  | false => simp only [hl_r109_0, hl_r109_1, hl_r109_2, hl_r109_5, hl_r109_6, hl_r109_9, hl_r109_12, hl_r109_13, hl_r109_16, hl_r109_19, hl_r109_20, hl_r109_21, hl_r109_22, hl_r109_25, hl_r109_26, hl_r109_29, hl_r109_30, hl_r109_33, hl_r109_34, hl_r109_35, hl_r109_38, hl_r109_39, hl_r109_42, hl_r109_43, hl_r109_46, hl_r109_47, hl_r109_50, hl_r109_53, hl_r109_54, hl_o_0, hl_p_0_3, hl_p_0_4, hl_p_0_5, hl_p_0_7, hl_p_0_8, hl_p_0_9, hl_p_0_10, hl_p_0_11, hl_p_0_12, hl_p_0_13, hl_p_0_14, hl_p_0_15, hl_s140, hx, h1, hl_tv_f, true_or, hl_kill_i, hl_kill_r, hl_kill_n, hl_kill_l, hl_tl_s, hl_tl_n, hl_cal_some, hl_gI, hl_gJ, hl_gsI, hl_gsJ, hl_tv01, if_true, if_false, hl_up_a, hl_row_a]
  | true =>
    cases h2 : hl_inb y 12 with
    | false => simp only [hl_r109_0, hl_r109_1, hl_r109_2, hl_r109_5, hl_r109_6, hl_r109_9, hl_r109_12, hl_r109_13, hl_r109_16, hl_r109_19, hl_r109_20, hl_r109_21, hl_r109_22, hl_r109_25, hl_r109_26, hl_r109_29, hl_r109_30, hl_r109_33, hl_r109_34, hl_r109_35, hl_r109_38, hl_r109_39, hl_r109_42, hl_r109_43, hl_r109_46, hl_r109_47, hl_r109_50, hl_r109_53, hl_r109_54, hl_o_0, hl_p_0_3, hl_p_0_4, hl_p_0_5, hl_p_0_7, hl_p_0_8, hl_p_0_9, hl_p_0_10, hl_p_0_11, hl_p_0_12, hl_p_0_13, hl_p_0_14, hl_p_0_15, hl_s140, hx, h1, h2, hl_tv0, hl_tv_f, not_true, Bool.true_eq_false, true_or, hl_kill_i, hl_kill_r, hl_kill_n, hl_kill_l, hl_tl_s, hl_tl_n, hl_cal_some, hl_gI, hl_gJ, hl_gsI, hl_gsJ, hl_tv01, if_true, if_false, hl_up_a, hl_row_a]
    | true => rw [h1, h2] at h; cases h
/-- keep, part -/
theorem hl_s110t {c nh : Nat} {y : Int32} (hM : I 0 2 = nI N) (hH : I 1 8 = nI nh) (hN : N ≤ 24) (hh : nh ≤ 4) (hc : c < N) (h : y = -1 ∨ hl_inb y nh = true) : hl_call (d + 3) 110 [.ref 0, .int (nI c), .int y] (hl_g N I J) = some (some (.int 1), hl_g N (hl_up I 7 c y) J) := by
  rw [hl_e110]
  have hb : N < 2 ^ 31 := by omega
  have hb2 : nh < 2 ^ 31 := by omega
  have h1 : hl_inb (nI c) N = true := hl_inb_nI hc hb
  by_cases hy : y = -1
  · subst hy
    simp only [hl_r110_0, hl_r110_1, hl_r110_2, hl_r110_5, hl_r110_8, hl_r110_9, hl_r110_10, hl_r110_13, hl_r110_14, hl_r110_15, hl_r110_18, hl_r110_21, hl_r110_22, hl_r110_23, hl_r110_24, hl_r110_27, hl_r110_30, hl_r110_31, hl_r110_32, hl_r110_33, hl_r110_34, hl_o_0, hl_p_0_3, hl_p_0_4, hl_p_0_5, hl_p_0_7, hl_p_0_8, hl_p_0_9, hl_p_0_10, hl_p_0_11, hl_p_0_12, hl_p_0_13, hl_p_0_14, hl_p_0_15, hl_o_1, hl_p_1_0, hl_p_1_1, hl_p_1_2, hl_p_1_3, hl_p_1_4, hl_p_1_5, hl_p_1_6, hl_p_1_7, hl_p_1_9, hl_p_1_14, hl_p_1_15, hl_a_7, hl_z_7, hl_s138 hM hb, h1, nIc (show c < 2 ^ 31 by omega), hl_tv0, Bool.true_eq_false, or_true, hl_kill_i, hl_kill_r, hl_kill_n, hl_kill_l, hl_tl_s, hl_tl_n, hl_cal_some, hl_gI, hl_gJ, hl_gsI, hl_gsJ, hl_tv01, if_true, if_false, hl_up_a, hl_row_a]
  · have h2 := h.resolve_left hy
    simp only [hl_r110_0, hl_r110_1, hl_r110_2, hl_r110_5, hl_r110_8, hl_r110_9, hl_r110_10, hl_r110_13, hl_r110_14, hl_r110_15, hl_r110_18, hl_r110_21, hl_r110_22, hl_r110_23, hl_r110_24, hl_r110_27, hl_r110_30, hl_r110_31, hl_r110_32, hl_r110_33, hl_r110_34, hl_o_0, hl_p_0_3, hl_p_0_4, hl_p_0_5, hl_p_0_7, hl_p_0_8, hl_p_0_9, hl_p_0_10, hl_p_0_11, hl_p_0_12, hl_p_0_13, hl_p_0_14, hl_p_0_15, hl_o_1, hl_p_1_0, hl_p_1_1, hl_p_1_2, hl_p_1_3, hl_p_1_4, hl_p_1_5, hl_p_1_6, hl_p_1_7, hl_p_1_9, hl_p_1_14, hl_p_1_15, hl_a_7, hl_z_7, hl_s138 hM hb, hl_s139 hH hb2, hy, h1, h2, nIc (show c < 2 ^ 31 by omega), hl_tv0, not_false_eq_true, Bool.true_eq_false, or_true, hl_kill_i, hl_kill_r, hl_kill_n, hl_kill_l, hl_tl_s, hl_tl_n, hl_cal_some, hl_gI, hl_gJ, hl_gsI, hl_gsJ, hl_tv01, if_true, if_false, hl_up_a, hl_row_a]
theorem hl_s110f {x y : Int32} {nh : Nat} (hM : I 0 2 = nI N) (hH : I 1 8 = nI nh) (hN : N ≤ 24) (hh : nh ≤ 4) (h : (hl_inb x N && (decide (y = -1) || hl_inb y nh)) = false) : hl_call (d + 3) 110 [.ref 0, .int x, .int y] (hl_g N I J) = some (some (.int 0), hl_g N I J) := by
  rw [hl_e110]
  have hb : N < 2 ^ 31 := by omega
  have hb2 : nh < 2 ^ 31 := by omega
  cases h1 : hl_inb x N with
  | false => simp only [hl_r110_0, hl_r110_1, hl_r110_2, hl_r110_5, hl_r110_8, hl_r110_9, hl_r110_10, hl_r110_13, hl_r110_14, hl_r110_15, hl_r110_18, hl_r110_21, hl_r110_22, hl_r110_23, hl_r110_24, hl_r110_27, hl_r110_30, hl_r110_31, hl_r110_32, hl_r110_33, hl_r110_34, hl_o_0, hl_p_0_3, hl_p_0_4, hl_p_0_5, hl_p_0_7, hl_p_0_8, hl_p_0_9, hl_p_0_10, hl_p_0_11, hl_p_0_12, hl_p_0_13, hl_p_0_14, hl_p_0_15, hl_s138 hM hb, h1, hl_tv_f, true_or, hl_kill_i, hl_kill_r, hl_kill_n, hl_kill_l, hl_tl_s, hl_tl_n, hl_cal_some, hl_gI, hl_gJ, hl_gsI, hl_gsJ, hl_tv01, if_true, if_false, hl_up_a, hl_row_a]
  | true =>
    by_cases hy : y = -1
    · rw [h1, decide_eq_true hy] at h; cases h
    · cases h2 : hl_inb y nh with
      | true => rw [h1, h2, Bool.or_true] at h; cases h
      | false => simp only [hl_r110_0, hl_r110_1, hl_r110_2, hl_r110_5, hl_r110_8, hl_r110_9, hl_r110_10, hl_r110_13, hl_r110_14, hl_r110_15, hl_r110_18, hl_r110_21, hl_r110_22, hl_r110_23, hl_r110_24, hl_r110_27, hl_r110_30, hl_r110_31, hl_r110_32, hl_r110_33, hl_r110_34, hl_o_0, hl_p_0_3, hl_p_0_4, hl_p_0_5, hl_p_0_7, hl_p_0_8, hl_p_0_9, hl_p_0_10, hl_p_0_11, hl_p_0_12, hl_p_0_13, hl_p_0_14, hl_p_0_15, hl_s138 hM hb, hl_s139 hH hb2, hy, h1, h2, hl_tv0, hl_tv_f, not_true, Bool.true_eq_false, true_or, hl_kill_i, hl_kill_r, hl_kill_n, hl_kill_l, hl_tl_s, hl_tl_n, hl_cal_some, hl_gI, hl_gJ, hl_gsI, hl_gsJ, hl_tv01, if_true, if_false, hl_up_a, hl_row_a]
theorem hl_s111t {c nh : Nat} {y : Int32} (hM : I 0 2 = nI N) (hH : I 1 8 = nI nh) (hN : N ≤ 24) (hh : nh ≤ 4) (hc : c < N) (h : hl_inb y nh = true) : hl_call (d + 3) 111 [.ref 0, .int (nI c), .int y] (hl_g N I J) = some (some (.int 1), hl_g N (hl_up I 8 c y) J) := by
  rw [hl_e111]
  have hb : N < 2 ^ 31 := by omega
  have hb2 : nh < 2 ^ 31 := by omega
  have h1 : hl_inb (nI c) N = true := hl_inb_nI hc hb
  simp only [hl_r111_0, hl_r111_1, hl_r111_2, hl_r111_5, hl_r111_8, hl_r111_9, hl_r111_10, hl_r111_13, hl_r111_16, hl_r111_17, hl_r111_18, hl_r111_19, hl_r111_22, hl_r111_25, hl_r111_26, hl_r111_27, hl_r111_28, hl_r111_29, hl_o_0, hl_p_0_3, hl_p_0_4, hl_p_0_5, hl_p_0_7, hl_p_0_8, hl_p_0_9, hl_p_0_10, hl_p_0_11, hl_p_0_12, hl_p_0_13, hl_p_0_14, hl_p_0_15, hl_o_1, hl_p_1_0, hl_p_1_1, hl_p_1_2, hl_p_1_3, hl_p_1_4, hl_p_1_5, hl_p_1_6, hl_p_1_7, hl_p_1_9, hl_p_1_14, hl_p_1_15, hl_a_8, hl_z_8, hl_s138 hM hb, hl_s139 hH hb2, h1, h, nIc (show c < 2 ^ 31 by omega), hl_tv0, not_false_eq_true, Bool.true_eq_false, or_true, hl_kill_i, hl_kill_r, hl_kill_n, hl_kill_l, hl_tl_s, hl_tl_n, hl_cal_some, hl_gI, hl_gJ, hl_gsI, hl_gsJ, hl_tv01, if_true, if_false, hl_up_a, hl_row_a]
theorem hl_s111f {x y : Int32} {nh : Nat} (hM : I 0 2 = nI N) (hH : I 1 8 = nI nh) (hN : N ≤ 24) (hh : nh ≤ 4) (h : (hl_inb x N && hl_inb y nh) = false) : hl_call (d + 3) 111 [.ref 0, .int x, .int y] (hl_g N I J) = some (some (.int 0), hl_g N I J) := by
  rw [hl_e111]
  have hb : N < 2 ^ 31 := by omega
  have hb2 : nh < 2 ^ 31 := by omega
  cases h1 : hl_inb x N with
  | false => simp only [hl_r111_0, hl_r111_1, hl_r111_2, hl_r111_5, hl_r111_8, hl_r111_9, hl_r111_10, hl_r111_13, hl_r111_16, hl_r111_17, hl_r111_18, hl_r111_19, hl_r111_22, hl_r111_25, hl_r111_26, hl_r111_27, hl_r111_28, hl_r111_29, hl_o_0, hl_p_0_3, hl_p_0_4, hl_p_0_5, hl_p_0_7, hl_p_0_8, hl_p_0_9, hl_p_0_10, hl_p_0_11, hl_p_0_12, hl_p_0_13, hl_p_0_14, hl_p_0_15, hl_s138 hM hb, h1, hl_tv_f, true_or, hl_kill_i, hl_kill_r, hl_kill_n, hl_kill_l, hl_tl_s, hl_tl_n, hl_cal_some, hl_gI, hl_gJ, hl_gsI, hl_gsJ, hl_tv01, if_true, if_false, hl_up_a, hl_row_a]
  | true =>
    cases h2 : hl_inb y nh with
    | true => rw [h1, h2] at h; cases h
    | false => simp only [hl_r111_0, hl_r111_1, hl_r111_2, hl_r111_5, hl_r111_8, hl_r111_9, hl_r111_10, hl_r111_13, hl_r111_16, hl_r111_17, hl_r111_18, hl_r111_19, hl_r111_22, hl_r111_25, hl_r111_26, hl_r111_27, hl_r111_28, hl_r111_29, hl_o_0, hl_p_0_3, hl_p_0_4, hl_p_0_5, hl_p_0_7, hl_p_0_8, hl_p_0_9, hl_p_0_10, hl_p_0_11, hl_p_0_12, hl_p_0_13, hl_p_0_14, hl_p_0_15, hl_s138 hM hb, hl_s139 hH hb2, h1, h2, hl_tv0, hl_tv_f, not_true, Bool.true_eq_false, true_or, hl_kill_i, hl_kill_r, hl_kill_n, hl_kill_l, hl_tl_s, hl_tl_n, hl_cal_some, hl_gI, hl_gJ, hl_gsI, hl_gsJ, hl_tv01, if_true, if_false, hl_up_a, hl_row_a]
/-- end, fault, by -/
theorem hl_s113t {x : Int32} (h : hl_in x 0 (I 0 6) = true) : hl_call (d + 2) 113 [.ref 0, .int x] (hl_g N I J) = some (some (.int x), hl_g N (hl_up I 0 6 x) J) := by
  rw [hl_e113]
  simp only [hl_r113_0, hl_r113_1, hl_r113_2, hl_r113_3, hl_r113_6, hl_r113_9, hl_r113_12, hl_r113_13, hl_r113_14, hl_r113_15, hl_r113_16, hl_r113_19, hl_r113_20, hl_o_0, hl_p_0_3, hl_p_0_4, hl_p_0_5, hl_p_0_7, hl_p_0_8, hl_p_0_9, hl_p_0_10, hl_p_0_11, hl_p_0_12, hl_p_0_13, hl_p_0_14, hl_p_0_15, hl_s147, h, hl_tv0, not_false_eq_true, Bool.true_eq_false, hl_kill_i, hl_kill_r, hl_kill_n, hl_kill_l, hl_tl_s, hl_tl_n, hl_cal_some, hl_gI, hl_gJ, hl_gsI, hl_gsJ, hl_tv01, if_true, if_false, hl_up_a, hl_row_a]
theorem hl_s113f {x : Int32} (h : hl_in x 0 (I 0 6) = false) : hl_call (d + 2) 113 [.ref 0, .int x] (hl_g N I J) = some (some (.int (-1)), hl_g N I J) := by
  rw [hl_e113]
  simp only [hl_r113_0, hl_r113_1, hl_r113_2, hl_r113_3, hl_r113_6, hl_r113_9, hl_r113_12, hl_r113_13, hl_r113_14, hl_r113_15, hl_r113_16, hl_r113_19, hl_r113_20, hl_o_0, hl_p_0_3, hl_p_0_4, hl_p_0_5, hl_p_0_7, hl_p_0_8, hl_p_0_9, hl_p_0_10, hl_p_0_11, hl_p_0_12, hl_p_0_13, hl_p_0_14, hl_p_0_15, hl_s147, h, hl_tv0, not_true, hl_kill_i, hl_kill_r, hl_kill_n, hl_kill_l, hl_tl_s, hl_tl_n, hl_cal_some, hl_gI, hl_gJ, hl_gsI, hl_gsJ, hl_tv01, if_true, if_false, hl_up_a, hl_row_a]
theorem hl_s115 {x : Int32} : hl_call (d + 1) 115 [.ref 0, .int x] (hl_g N I J) = some (some (.int (if x = 0 then I 38 7 else if x = 1 then I 38 8 else -1)), hl_g N I J) := by
  rw [hl_e115]
  by_cases h : x = 0
  · simp only [hl_r115_0, hl_r115_1, hl_r115_4, hl_r115_5, hl_r115_8, hl_r115_11, hl_r115_12, hl_r115_13, hl_r115_14, hl_r115_17, hl_r115_18, hl_r115_21, hl_r115_24, hl_r115_27, hl_r115_28, hl_o_0, hl_p_0_3, hl_p_0_4, hl_p_0_5, hl_p_0_7, hl_p_0_8, hl_p_0_9, hl_p_0_10, hl_p_0_11, hl_p_0_12, hl_p_0_13, hl_p_0_14, hl_p_0_15, hl_o_38, hl_p_38_0, hl_p_38_1, h, not_true, hl_kill_i, hl_kill_r, hl_kill_n, hl_kill_l, hl_tl_s, hl_tl_n, hl_cal_some, hl_gI, hl_gJ, hl_gsI, hl_gsJ, hl_tv01, if_true, if_false, hl_up_a, hl_row_a]
  · by_cases h1 : x = 1
    · subst h1
      simp only [hl_r115_0, hl_r115_1, hl_r115_4, hl_r115_5, hl_r115_8, hl_r115_11, hl_r115_12, hl_r115_13, hl_r115_14, hl_r115_17, hl_r115_18, hl_r115_21, hl_r115_24, hl_r115_27, hl_r115_28, hl_o_0, hl_p_0_3, hl_p_0_4, hl_p_0_5, hl_p_0_7, hl_p_0_8, hl_p_0_9, hl_p_0_10, hl_p_0_11, hl_p_0_12, hl_p_0_13, hl_p_0_14, hl_p_0_15, hl_o_38, hl_p_38_0, hl_p_38_1, h, not_false_eq_true, not_true, hl_kill_i, hl_kill_r, hl_kill_n, hl_kill_l, hl_tl_s, hl_tl_n, hl_cal_some, hl_gI, hl_gJ, hl_gsI, hl_gsJ, hl_tv01, if_true, if_false, hl_up_a, hl_row_a]
    · simp only [hl_r115_0, hl_r115_1, hl_r115_4, hl_r115_5, hl_r115_8, hl_r115_11, hl_r115_12, hl_r115_13, hl_r115_14, hl_r115_17, hl_r115_18, hl_r115_21, hl_r115_24, hl_r115_27, hl_r115_28, hl_o_0, hl_p_0_3, hl_p_0_4, hl_p_0_5, hl_p_0_7, hl_p_0_8, hl_p_0_9, hl_p_0_10, hl_p_0_11, hl_p_0_12, hl_p_0_13, hl_p_0_14, hl_p_0_15, hl_o_38, hl_p_38_0, hl_p_38_1, h, h1, not_false_eq_true, hl_kill_i, hl_kill_r, hl_kill_n, hl_kill_l, hl_tl_s, hl_tl_n, hl_cal_some, hl_gI, hl_gJ, hl_gsI, hl_gsJ, hl_tv01, if_true, if_false, hl_up_a, hl_row_a]
theorem hl_s116t {x : Int32} (hN : N ≤ 24) (h : hl_in x (-1) (I 1 12 - 1) = true) : hl_call (d + 2) 116 [.ref 0, .int x] (hl_g N I J) = some (some (.int 1), hl_g N (hl_fz (hl_up I 1 13 x) N) J) := by
  rw [hl_e116]
  simp only [hl_r116_0, hl_r116_1, hl_r116_2, hl_r116_3, hl_r116_6, hl_r116_9, hl_r116_10, hl_r116_11, hl_r116_14, hl_r116_17, hl_r116_18, hl_r116_19, hl_r116_20, hl_r116_23, hl_r116_24, hl_r116_27, hl_r116_28, hl_r116_31, hl_r116_34, hl_r116_35, hl_o_0, hl_p_0_3, hl_p_0_4, hl_p_0_5, hl_p_0_7, hl_p_0_8, hl_p_0_9, hl_p_0_10, hl_p_0_11, hl_p_0_12, hl_p_0_13, hl_p_0_14, hl_p_0_15, hl_o_1, hl_p_1_0, hl_p_1_1, hl_p_1_2, hl_p_1_3, hl_p_1_4, hl_p_1_5, hl_p_1_6, hl_p_1_7, hl_p_1_9, hl_p_1_14, hl_p_1_15, hl_o_63, hl_p_63_0, hl_p_63_1, hl_p_63_2, hl_p_63_3, hl_s147, hl_s44 hN, h, hl_tv0, not_false_eq_true, Bool.true_eq_false, or_true, hl_kill_i, hl_kill_r, hl_kill_n, hl_kill_l, hl_tl_s, hl_tl_n, hl_cal_some, hl_gI, hl_gJ, hl_gsI, hl_gsJ, hl_tv01, if_true, if_false, hl_up_a, hl_row_a]
theorem hl_s116f {x : Int32} (h : hl_in x (-1) (I 1 12 - 1) = false) : hl_call (d + 2) 116 [.ref 0, .int x] (hl_g N I J) = some (some (.int 0), hl_g N I J) := by
  rw [hl_e116]
  simp only [hl_r116_0, hl_r116_1, hl_r116_2, hl_r116_3, hl_r116_6, hl_r116_9, hl_r116_10, hl_r116_11, hl_r116_14, hl_r116_17, hl_r116_18, hl_r116_19, hl_r116_20, hl_r116_23, hl_r116_24, hl_r116_27, hl_r116_28, hl_r116_31, hl_r116_34, hl_r116_35, hl_o_0, hl_p_0_3, hl_p_0_4, hl_p_0_5, hl_p_0_7, hl_p_0_8, hl_p_0_9, hl_p_0_10, hl_p_0_11, hl_p_0_12, hl_p_0_13, hl_p_0_14, hl_p_0_15, hl_o_1, hl_p_1_0, hl_p_1_1, hl_p_1_2, hl_p_1_3, hl_p_1_4, hl_p_1_5, hl_p_1_6, hl_p_1_7, hl_p_1_9, hl_p_1_14, hl_p_1_15, hl_o_63, hl_p_63_0, hl_p_63_1, hl_p_63_2, hl_p_63_3, hl_s147, h, hl_tv0, not_true, true_or, hl_kill_i, hl_kill_r, hl_kill_n, hl_kill_l, hl_tl_s, hl_tl_n, hl_cal_some, hl_gI, hl_gJ, hl_gsI, hl_gsJ, hl_tv01, if_true, if_false, hl_up_a, hl_row_a]
/-- off -/
theorem hl_s117t {c h m : Nat} {wh : Int32} {nh : Nat} (hM : I 0 2 = nI N) (hH : I 1 8 = nI nh) (hN : N ≤ 24) (hh : nh ≤ 4) (hc : c < N) (hhh : h < nh) (hm : m < 12) (hw : hl_in wh 0 1 = true) : hl_call (d + 3) 117 [.ref 0, .int (nI c), .int (nI h), .int (nI m), .int wh] (hl_g N I J) = some (some (.int (if wh = 0 then I 9 h - I 2 c + (if hl_smr (I 1 10) (I 1 11) (nI m) = false then 0 else 60) else hl_drk (I 10 m) (I 5 c) (I 9 h - I 2 c + (if hl_smr (I 1 10) (I 1 11) (nI m) = false then 0 else 60)))), hl_g N I J) := by
  rw [hl_e117]
  have hb : N < 2 ^ 31 := by omega
  have hb2 : nh < 2 ^ 31 := by omega
  have h1 : hl_inb (nI c) N = true := hl_inb_nI hc hb
  have h2 : hl_inb (nI h) nh = true := hl_inb_nI hhh hb2
  have h3 : hl_inb (nI m) 12 = true := hl_inb_nI hm (by decide)
  have h4 : hl_inb (nI h) 4 = true := hl_inb_nI (by omega) (by decide)
  by_cases hw0 : wh = 0
  · subst hw0
    simp only [hl_r117_0, hl_r117_1, hl_r117_2, hl_r117_5, hl_r117_8, hl_r117_9, hl_r117_10, hl_r117_13, hl_r117_16, hl_r117_17, hl_r117_20, hl_r117_23, hl_r117_25, hl_r117_26, hl_r117_27, hl_r117_30, hl_r117_33, hl_r117_35, hl_r117_36, hl_r117_37, hl_r117_40, hl_r117_41, hl_r117_42, hl_r117_43, hl_r117_46, hl_r117_47, hl_r117_50, hl_r117_53, hl_r117_55, hl_r117_57, hl_r117_60, hl_r117_62, hl_r117_65, hl_r117_66, hl_r117_69, hl_r117_70, hl_r117_71, hl_r117_73, hl_r117_76, hl_o_0, hl_p_0_3, hl_p_0_4, hl_p_0_5, hl_p_0_7, hl_p_0_8, hl_p_0_9, hl_p_0_10, hl_p_0_11, hl_p_0_12, hl_p_0_13, hl_p_0_14, hl_p_0_15, hl_o_1, hl_p_1_0, hl_p_1_1, hl_p_1_2, hl_p_1_3, hl_p_1_4, hl_p_1_5, hl_p_1_6, hl_p_1_7, hl_p_1_9, hl_p_1_14, hl_p_1_15, hl_s138 hM hb, hl_s139 hH hb2, hl_s140, hl_s147, hl_s9, hl_s10 h1 h4, h1, h2, h3, hw, nIc (show c < 2 ^ 31 by omega), nIc (show h < 2 ^ 31 by omega), hl_tv0, not_false_eq_true, not_true, Bool.true_eq_false, hl_kill_i, hl_kill_r, hl_kill_n, hl_kill_l, hl_tl_s, hl_tl_n, hl_cal_some, hl_gI, hl_gJ, hl_gsI, hl_gsJ, hl_tv01, if_true, if_false, hl_up_a, hl_row_a]
  · simp only [hl_r117_0, hl_r117_1, hl_r117_2, hl_r117_5, hl_r117_8, hl_r117_9, hl_r117_10, hl_r117_13, hl_r117_16, hl_r117_17, hl_r117_20, hl_r117_23, hl_r117_25, hl_r117_26, hl_r117_27, hl_r117_30, hl_r117_33, hl_r117_35, hl_r117_36, hl_r117_37, hl_r117_40, hl_r117_41, hl_r117_42, hl_r117_43, hl_r117_46, hl_r117_47, hl_r117_50, hl_r117_53, hl_r117_55, hl_r117_57, hl_r117_60, hl_r117_62, hl_r117_65, hl_r117_66, hl_r117_69, hl_r117_70, hl_r117_71, hl_r117_73, hl_r117_76, hl_o_0, hl_p_0_3, hl_p_0_4, hl_p_0_5, hl_p_0_7, hl_p_0_8, hl_p_0_9, hl_p_0_10, hl_p_0_11, hl_p_0_12, hl_p_0_13, hl_p_0_14, hl_p_0_15, hl_o_1, hl_p_1_0, hl_p_1_1, hl_p_1_2, hl_p_1_3, hl_p_1_4, hl_p_1_5, hl_p_1_6, hl_p_1_7, hl_p_1_9, hl_p_1_14, hl_p_1_15, hl_s138 hM hb, hl_s139 hH hb2, hl_s140, hl_s147, hl_s9, hl_s10 h1 h4, hl_s11 h1 h3, h1, h2, h3, hw, hw0, nIc (show c < 2 ^ 31 by omega), nIc (show h < 2 ^ 31 by omega), nIc (show m < 2 ^ 31 by omega), hl_tv0, not_false_eq_true, Bool.true_eq_false, hl_kill_i, hl_kill_r, hl_kill_n, hl_kill_l, hl_tl_s, hl_tl_n, hl_cal_some, hl_gI, hl_gJ, hl_gsI, hl_gsJ, hl_tv01, if_true, if_false, hl_up_a, hl_row_a]
theorem hl_s117f {x y z wh : Int32} {nh : Nat} (hM : I 0 2 = nI N) (hH : I 1 8 = nI nh) (hN : N ≤ 24) (hh : nh ≤ 4) (h : (hl_inb x N && hl_inb y nh && hl_inb z 12 && hl_in wh 0 1) = false) : hl_call (d + 3) 117 [.ref 0, .int x, .int y, .int z, .int wh] (hl_g N I J) = some (some (.int (-100000)), hl_g N I J) := by
  rw [hl_e117]
  have hb : N < 2 ^ 31 := by omega
  have hb2 : nh < 2 ^ 31 := by omega
  cases h1 : hl_inb x N with
  | false => simp only [hl_r117_0, hl_r117_1, hl_r117_2, hl_r117_5, hl_r117_8, hl_r117_9, hl_r117_10, hl_r117_13, hl_r117_16, hl_r117_17, hl_r117_20, hl_r117_23, hl_r117_25, hl_r117_26, hl_r117_27, hl_r117_30, hl_r117_33, hl_r117_35, hl_r117_36, hl_r117_37, hl_r117_40, hl_r117_41, hl_r117_42, hl_r117_43, hl_r117_46, hl_r117_47, hl_r117_50, hl_r117_53, hl_r117_55, hl_r117_57, hl_r117_60, hl_r117_62, hl_r117_65, hl_r117_66, hl_r117_69, hl_r117_70, hl_r117_71, hl_r117_73, hl_r117_76, hl_o_0, hl_p_0_3, hl_p_0_4, hl_p_0_5, hl_p_0_7, hl_p_0_8, hl_p_0_9, hl_p_0_10, hl_p_0_11, hl_p_0_12, hl_p_0_13, hl_p_0_14, hl_p_0_15, hl_s138 hM hb, h1, hl_tv_f, hl_kill_i, hl_kill_r, hl_kill_n, hl_kill_l, hl_tl_s, hl_tl_n, hl_cal_some, hl_gI, hl_gJ, hl_gsI, hl_gsJ, hl_tv01, if_true, if_false, hl_up_a, hl_row_a]
  | true =>
    cases h2 : hl_inb y nh with
    | false => simp only [hl_r117_0, hl_r117_1, hl_r117_2, hl_r117_5, hl_r117_8, hl_r117_9, hl_r117_10, hl_r117_13, hl_r117_16, hl_r117_17, hl_r117_20, hl_r117_23, hl_r117_25, hl_r117_26, hl_r117_27, hl_r117_30, hl_r117_33, hl_r117_35, hl_r117_36, hl_r117_37, hl_r117_40, hl_r117_41, hl_r117_42, hl_r117_43, hl_r117_46, hl_r117_47, hl_r117_50, hl_r117_53, hl_r117_55, hl_r117_57, hl_r117_60, hl_r117_62, hl_r117_65, hl_r117_66, hl_r117_69, hl_r117_70, hl_r117_71, hl_r117_73, hl_r117_76, hl_o_0, hl_p_0_3, hl_p_0_4, hl_p_0_5, hl_p_0_7, hl_p_0_8, hl_p_0_9, hl_p_0_10, hl_p_0_11, hl_p_0_12, hl_p_0_13, hl_p_0_14, hl_p_0_15, hl_s138 hM hb, hl_s139 hH hb2, h1, h2, hl_tv0, hl_tv_f, Bool.true_eq_false, hl_kill_i, hl_kill_r, hl_kill_n, hl_kill_l, hl_tl_s, hl_tl_n, hl_cal_some, hl_gI, hl_gJ, hl_gsI, hl_gsJ, hl_tv01, if_true, if_false, hl_up_a, hl_row_a]
    | true =>
      cases h3 : hl_inb z 12 with
      | false => simp only [hl_r117_0, hl_r117_1, hl_r117_2, hl_r117_5, hl_r117_8, hl_r117_9, hl_r117_10, hl_r117_13, hl_r117_16, hl_r117_17, hl_r117_20, hl_r117_23, hl_r117_25, hl_r117_26, hl_r117_27, hl_r117_30, hl_r117_33, hl_r117_35, hl_r117_36, hl_r117_37, hl_r117_40, hl_r117_41, hl_r117_42, hl_r117_43, hl_r117_46, hl_r117_47, hl_r117_50, hl_r117_53, hl_r117_55, hl_r117_57, hl_r117_60, hl_r117_62, hl_r117_65, hl_r117_66, hl_r117_69, hl_r117_70, hl_r117_71, hl_r117_73, hl_r117_76, hl_o_0, hl_p_0_3, hl_p_0_4, hl_p_0_5, hl_p_0_7, hl_p_0_8, hl_p_0_9, hl_p_0_10, hl_p_0_11, hl_p_0_12, hl_p_0_13, hl_p_0_14, hl_p_0_15, hl_s138 hM hb, hl_s139 hH hb2, hl_s140, h1, h2, h3, hl_tv0, hl_tv_f, Bool.true_eq_false, hl_kill_i, hl_kill_r, hl_kill_n, hl_kill_l, hl_tl_s, hl_tl_n, hl_cal_some, hl_gI, hl_gJ, hl_gsI, hl_gsJ, hl_tv01, if_true, if_false, hl_up_a, hl_row_a]
      | true =>
        cases h4 : hl_in wh 0 1 with
        | false => simp only [hl_r117_0, hl_r117_1, hl_r117_2, hl_r117_5, hl_r117_8, hl_r117_9, hl_r117_10, hl_r117_13, hl_r117_16, hl_r117_17, hl_r117_20, hl_r117_23, hl_r117_25, hl_r117_26, hl_r117_27, hl_r117_30, hl_r117_33, hl_r117_35, hl_r117_36, hl_r117_37, hl_r117_40, hl_r117_41, hl_r117_42, hl_r117_43, hl_r117_46, hl_r117_47, hl_r117_50, hl_r117_53, hl_r117_55, hl_r117_57, hl_r117_60, hl_r117_62, hl_r117_65, hl_r117_66, hl_r117_69, hl_r117_70, hl_r117_71, hl_r117_73, hl_r117_76, hl_o_0, hl_p_0_3, hl_p_0_4, hl_p_0_5, hl_p_0_7, hl_p_0_8, hl_p_0_9, hl_p_0_10, hl_p_0_11, hl_p_0_12, hl_p_0_13, hl_p_0_14, hl_p_0_15, hl_s138 hM hb, hl_s139 hH hb2, hl_s140, hl_s147, h1, h2, h3, h4, hl_tv0, hl_tv_f, not_true, Bool.true_eq_false, hl_kill_i, hl_kill_r, hl_kill_n, hl_kill_l, hl_tl_s, hl_tl_n, hl_cal_some, hl_gI, hl_gJ, hl_gsI, hl_gsJ, hl_tv01, if_true, if_false, hl_up_a, hl_row_a]
        | true => rw [h1, h2, h3, h4] at h; cases h
end HLC1
