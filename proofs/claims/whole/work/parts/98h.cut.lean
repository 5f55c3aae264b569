/-! the pair cut -/
/-- is a tie cut; how many of the first n; the first with a property -/
def hx_ic (I : Nat → Nat → Int32) (g : Nat → Int32) (t : Nat) : Bool := !decide (g (I 12 t).toNatClampNeg = g (I 13 t).toNatClampNeg)
def hx_nc (p : Nat → Bool) : Nat → Nat
  | 0 => 0
  | n + 1 => hx_nc p n + (if p n = true then 1 else 0)
theorem hx_nc_le {p : Nat → Bool} (n : Nat) : hx_nc p n ≤ n := by
  induction n with
  | zero => exact Nat.le_refl 0
  | succ n ih => unfold hx_nc; split <;> omega
def hx_ff (p : Nat → Bool) (i z : Int32) : Nat → Nat → Int32
  | 0, _ => z
  | f + 1, k => if p k = true then (if nI (hx_nc p k) = i then nI k else hx_ff p i z f (k + 1)) else hx_ff p i z f (k + 1)
theorem hx_ff_z {p : Nat → Bool} {i z : Int32} {n : Nat} (h : ∀ k, k < n → ¬ nI (hx_nc p k) = i) (f : Nat) : ∀ k, k + f = n → hx_ff p i z f k = z := by
  induction f with
  | zero => exact fun k _ => rfl
  | succ f ih =>
    intro k hk
    unfold hx_ff
    rw [ih (k + 1) (by omega), if_neg (h k (by omega))]
    split <;> rfl
section HXCUT
variable {d N W H nh cn : Nat} {I Is I1 I2 I' : Nat → Nat → Int32} {J J' : Nat → Nat → Int64} {wh : Bool} {x y s : Int32} {g : Nat → Int32}
theorem hx_s88 {t a b : Nat} (ht : t < 40) (hN : N ≤ 24) (ha : a < N) (hb : b < N) (ta : I 12 t = nI a) (tb : I 13 t = nI b) : hl_call (d + 1) 88 [.ref 11, .int (nI t), .ref 79] (hl_g N I J) = some (some (.int (hl_tv (!decide (I 79 a = I 79 b)))), hl_g N I J) := by
  rw [hl_e88]
  have bt : hl_inb (nI t) 40 = true := hl_inb_nI ht (by decide)
  have ba : hl_inb (nI a) N = true := hl_inb_nI ha (by omega)
  have bb : hl_inb (nI b) N = true := hl_inb_nI hb (by omega)
  by_cases q : I 79 a = I 79 b
  · rw [decide_eq_true q]
    simp only [hl_r88_0, hl_r88_1, hl_r88_2, hl_r88_5, hl_r88_6, hl_r88_7, hl_r88_8, hl_r88_9, hl_r88_10, hl_r88_13, hl_r88_14, hl_r88_15, hl_r88_16, hl_r88_19, hl_r88_20, hl_r88_23, hl_r88_24, hl_o_11, hl_p_11_0, hl_p_11_1, hl_p_11_2, hl_a_12, hl_z_12, hl_a_13, hl_z_13, hl_a_79, hl_z_79, bt, ba, bb, hl_cq (show t < 10000 by omega), hl_cq (show a < 10000 by omega), hl_cq (show b < 10000 by omega), ta, tb, q, Bool.not_true, hl_tv_f, true_or, or_true, hl_kill_i, hl_kill_r, hl_kill_n, hl_kill_l, hl_tl_s, hl_tl_n, hl_cal_some, hl_gI, hl_gJ, hl_gsI, hl_gsJ, hl_tv01, if_true, if_false, hl_up_a, hl_row_a, not_true, not_false_eq_true]
  · rw [decide_eq_false q]
    simp only [hl_r88_0, hl_r88_1, hl_r88_2, hl_r88_5, hl_r88_6, hl_r88_7, hl_r88_8, hl_r88_9, hl_r88_10, hl_r88_13, hl_r88_14, hl_r88_15, hl_r88_16, hl_r88_19, hl_r88_20, hl_r88_23, hl_r88_24, hl_o_11, hl_p_11_0, hl_p_11_1, hl_p_11_2, hl_a_12, hl_z_12, hl_a_13, hl_z_13, hl_a_79, hl_z_79, bt, ba, bb, hl_cq (show t < 10000 by omega), hl_cq (show a < 10000 by omega), hl_cq (show b < 10000 by omega), ta, tb, q, Bool.not_false, hl_tv_t, true_or, or_true, hl_kill_i, hl_kill_r, hl_kill_n, hl_kill_l, hl_tl_s, hl_tl_n, hl_cal_some, hl_gI, hl_gJ, hl_gsI, hl_gsJ, hl_tv01, if_true, if_false, hl_up_a, hl_row_a, not_true, not_false_eq_true]
def hx_tt (N cn : Nat) (I : Nat → Nat → Int32) : Prop := ∀ t, t < cn → ∃ a b, a < N ∧ b < N ∧ I 12 t = nI a ∧ I 13 t = nI b
theorem hx_ic_at {t a b : Nat} (ha : a < 10000) (hb : b < 10000) (ta : I 12 t = nI a) (tb : I 13 t = nI b) : hx_ic I g t = !decide (g a = g b) := by
  unfold hx_ic
  rw [ta, tb, hl_cq ha, hl_cq hb]
theorem hx_l89 (hN : N ≤ 24) (hcn : cn ≤ 40) (hc : I 11 3 = nI cn) (hT : hx_tt N cn I) (f : Nat) : ∀ k, k + f = cn → hl_Run 89 (hl_call (d + 1)) 4 [.ref 11, .ref 79, .int (nI (hx_nc (hx_ic I (I 79)) k)), .int (nI k)] [] (hl_g N I J) = some (some (.int (nI (hx_nc (hx_ic I (I 79)) cn))), hl_g N I J) := by
  induction f with
  | zero =>
    intro k hk
    obtain rfl : k = cn := by omega
    simp only [hl_r89_0, hl_r89_1, hl_r89_2, hl_r89_3, hl_r89_4, hl_r89_5, hl_r89_6, hl_r89_9, hl_r89_12, hl_r89_13, hl_r89_14, hl_r89_15, hl_r89_18, hl_r89_21, hl_r89_24, hl_r89_27, hl_r89_30, hl_r89_31, hl_o_11, hl_p_11_0, hl_p_11_1, hl_p_11_2, hc, Int32.le_refl, hl_kill_i, hl_kill_r, hl_kill_n, hl_kill_l, hl_tl_s, hl_tl_n, hl_cal_some, hl_gI, hl_gJ, hl_gsI, hl_gsJ, hl_tv01, if_true, if_false, hl_up_a, hl_row_a, not_true, not_false_eq_true]
  | succ f ih =>
    intro k hk
    have c1 : ¬ nI cn ≤ nI k := nI_ge (by omega) (by omega)
    have en : nI k + 1 = nI (k + 1) := (nI_succ k).symm
    obtain ⟨a, b, a1, b1, ta, tb⟩ := hT k (by omega)
    have s88 := hx_s88 (d := d) (N := N) (J := J) (show k < 40 by omega) hN a1 b1 ta tb
    have e := ih (k + 1) (by omega)
    rw [← hx_ic_at (g := I 79) (by omega) (by omega) ta tb] at s88
    have el : nI (hx_nc (hx_ic I (I 79)) k) + 1 = nI (hx_nc (hx_ic I (I 79)) k + 1) := (nI_succ _).symm
    cases q : hx_ic I (I 79) k with
    | true =>
      rw [q] at s88
      have en2 : hx_nc (hx_ic I (I 79)) (k + 1) = hx_nc (hx_ic I (I 79)) k + 1 := by
        show hx_nc (hx_ic I (I 79)) k + (if hx_ic I (I 79) k = true then 1 else 0) = _
        rw [q, if_pos rfl]
      rw [en2] at e
      rw [← e, hl_r89_4]
      simp only [hl_r89_0, hl_r89_1, hl_r89_2, hl_r89_3, hl_r89_5, hl_r89_6, hl_r89_9, hl_r89_12, hl_r89_13, hl_r89_14, hl_r89_15, hl_r89_18, hl_r89_21, hl_r89_24, hl_r89_27, hl_r89_30, hl_r89_31, hl_o_11, hl_p_11_0, hl_p_11_1, hl_p_11_2, hc, c1, s88, hl_tv_t, hl_10, el, en, hl_kill_i, hl_kill_r, hl_kill_n, hl_kill_l, hl_tl_s, hl_tl_n, hl_cal_some, hl_gI, hl_gJ, hl_gsI, hl_gsJ, hl_tv01, if_true, if_false, hl_up_a, hl_row_a, not_true, not_false_eq_true]
    | false =>
      rw [q] at s88
      have en2 : hx_nc (hx_ic I (I 79)) (k + 1) = hx_nc (hx_ic I (I 79)) k := by
        show hx_nc (hx_ic I (I 79)) k + (if hx_ic I (I 79) k = true then 1 else 0) = _
        rw [q, if_neg (by decide)]
        rfl
      rw [en2] at e
      rw [← e, hl_r89_4]
      simp only [hl_r89_0, hl_r89_1, hl_r89_2, hl_r89_3, hl_r89_5, hl_r89_6, hl_r89_9, hl_r89_12, hl_r89_13, hl_r89_14, hl_r89_15, hl_r89_18, hl_r89_21, hl_r89_24, hl_r89_27, hl_r89_30, hl_r89_31, hl_o_11, hl_p_11_0, hl_p_11_1, hl_p_11_2, hc, c1, s88, hl_tv_f, en, hl_kill_i, hl_kill_r, hl_kill_n, hl_kill_l, hl_tl_s, hl_tl_n, hl_cal_some, hl_gI, hl_gJ, hl_gsI, hl_gsJ, hl_tv01, if_true, if_false, hl_up_a, hl_row_a, not_true, not_false_eq_true]
theorem hx_s89 (hN : N ≤ 24) (hcn : cn ≤ 40) (hc : I 11 3 = nI cn) (hT : hx_tt N cn I) : hl_call (d + 2) 89 [.ref 11, .ref 79] (hl_g N I J) = some (some (.int (nI (hx_nc (hx_ic I (I 79)) cn))), hl_g N I J) := by
  have e := hx_l89 (d := d) (J := J) hN hcn hc hT cn 0 (by omega)
  rw [← e, hl_e89]
  simp only [hl_r89_0, hl_r89_1, hl_r89_2, hl_r89_3, hl_kill_i, hl_kill_r, hl_kill_n, hl_kill_l, hl_tl_s, hl_tl_n, hl_cal_some, hl_gI, hl_gJ, hl_gsI, hl_gsJ, hl_tv01, if_true, if_false, hl_up_a, hl_row_a, not_true, not_false_eq_true]
  rfl
theorem hx_l90 {i : Int32} (hN : N ≤ 24) (hcn : cn ≤ 40) (hc : I 11 3 = nI cn) (hT : hx_tt N cn I) (f : Nat) : ∀ k, k + f = cn → hl_Run 90 (hl_call (d + 1)) 5 [.ref 11, .ref 79, .int i, .int (nI (hx_nc (hx_ic I (I 79)) k)), .int (nI k)] [] (hl_g N I J) = some (some (.int (hx_ff (hx_ic I (I 79)) i (-1) f k)), hl_g N I J) := by
  induction f with
  | zero =>
    intro k hk
    obtain rfl : k = cn := by omega
    simp only [hl_r90_0, hl_r90_1, hl_r90_2, hl_r90_3, hl_r90_5, hl_r90_7, hl_r90_8, hl_r90_11, hl_r90_14, hl_r90_15, hl_r90_17, hl_r90_18, hl_r90_21, hl_r90_24, hl_r90_25, hl_r90_26, hl_r90_29, hl_r90_31, hl_r90_32, hl_r90_35, hl_r90_38, hl_r90_41, hl_r90_42, hl_o_11, hl_p_11_0, hl_p_11_1, hl_p_11_2, hc, Int32.le_refl, hx_ff, hl_kill_i, hl_kill_r, hl_kill_n, hl_kill_l, hl_tl_s, hl_tl_n, hl_cal_some, hl_gI, hl_gJ, hl_gsI, hl_gsJ, hl_tv01, if_true, if_false, hl_up_a, hl_row_a, not_true, not_false_eq_true]
  | succ f ih =>
    intro k hk
    have c1 : ¬ nI cn ≤ nI k := nI_ge (by omega) (by omega)
    have en : nI k + 1 = nI (k + 1) := (nI_succ k).symm
    obtain ⟨a, b, a1, b1, ta, tb⟩ := hT k (by omega)
    have s88 := hx_s88 (d := d) (N := N) (J := J) (show k < 40 by omega) hN a1 b1 ta tb
    have e := ih (k + 1) (by omega)
    rw [← hx_ic_at (g := I 79) (by omega) (by omega) ta tb] at s88
    have el : nI (hx_nc (hx_ic I (I 79)) k) + 1 = nI (hx_nc (hx_ic I (I 79)) k + 1) := (nI_succ _).symm
    unfold hx_ff
    cases q : hx_ic I (I 79) k with
    | true =>
      rw [q] at s88
      have en2 : hx_nc (hx_ic I (I 79)) (k + 1) = hx_nc (hx_ic I (I 79)) k + 1 := by
        show hx_nc (hx_ic I (I 79)) k + (if hx_ic I (I 79) k = true then 1 else 0) = _
        rw [q, if_pos rfl]
      rw [en2] at e
      rw [if_pos rfl]
      by_cases z : nI (hx_nc (hx_ic I (I 79)) k) = i
      · rw [if_pos z, hl_r90_5]
        simp only [hl_r90_0, hl_r90_1, hl_r90_2, hl_r90_3, hl_r90_7, hl_r90_8, hl_r90_11, hl_r90_14, hl_r90_15, hl_r90_17, hl_r90_18, hl_r90_21, hl_r90_24, hl_r90_25, hl_r90_26, hl_r90_29, hl_r90_31, hl_r90_32, hl_r90_35, hl_r90_38, hl_r90_41, hl_r90_42, hl_o_11, hl_p_11_0, hl_p_11_1, hl_p_11_2, hc, c1, s88, hl_tv_t, hl_10, z, hl_kill_i, hl_kill_r, hl_kill_n, hl_kill_l, hl_tl_s, hl_tl_n, hl_cal_some, hl_gI, hl_gJ, hl_gsI, hl_gsJ, hl_tv01, if_true, if_false, hl_up_a, hl_row_a, not_true, not_false_eq_true]
      · rw [if_neg z, ← e, hl_r90_5]
        simp only [hl_r90_0, hl_r90_1, hl_r90_2, hl_r90_3, hl_r90_7, hl_r90_8, hl_r90_11, hl_r90_14, hl_r90_15, hl_r90_17, hl_r90_18, hl_r90_21, hl_r90_24, hl_r90_25, hl_r90_26, hl_r90_29, hl_r90_31, hl_r90_32, hl_r90_35, hl_r90_38, hl_r90_41, hl_r90_42, hl_o_11, hl_p_11_0, hl_p_11_1, hl_p_11_2, hc, c1, s88, hl_tv_t, hl_10, z, el, en, hl_kill_i, hl_kill_r, hl_kill_n, hl_kill_l, hl_tl_s, hl_tl_n, hl_cal_some, hl_gI, hl_gJ, hl_gsI, hl_gsJ, hl_tv01, if_true, if_false, hl_up_a, hl_row_a, not_true, not_false_eq_true]
    | false =>
      rw [q] at s88
      have en2 : hx_nc (hx_ic I (I 79)) (k + 1) = hx_nc (hx_ic I (I 79)) k := by
        show hx_nc (hx_ic I (I 79)) k + (if hx_ic I (I 79) k = true then 1 else 0) = _
        rw [q, if_neg (by decide)]
        rfl
      rw [en2] at e
      rw [if_neg (by decide), ← e, hl_r90_5]
      simp only [hl_r90_0, hl_r90_1, hl_r90_2, hl_r90_3, hl_r90_7, hl_r90_8, hl_r90_11, hl_r90_14, hl_r90_15, hl_r90_17, hl_r90_18, hl_r90_21, hl_r90_24, hl_r90_25, hl_r90_26, hl_r90_29, hl_r90_31, hl_r90_32, hl_r90_35, hl_r90_38, hl_r90_41, hl_r90_42, hl_o_11, hl_p_11_0, hl_p_11_1, hl_p_11_2, hc, c1, s88, hl_tv_f, en, hl_kill_i, hl_kill_r, hl_kill_n, hl_kill_l, hl_tl_s, hl_tl_n, hl_cal_some, hl_gI, hl_gJ, hl_gsI, hl_gsJ, hl_tv01, if_true, if_false, hl_up_a, hl_row_a, not_true, not_false_eq_true]
theorem hx_s90 {i : Int32} (hN : N ≤ 24) (hcn : cn ≤ 40) (hc : I 11 3 = nI cn) (hT : hx_tt N cn I) : hl_call (d + 2) 90 [.ref 11, .ref 79, .int i] (hl_g N I J) = some (some (.int (hx_ff (hx_ic I (I 79)) i (-1) cn 0)), hl_g N I J) := by
  have e := hx_l90 (d := d) (J := J) (i := i) hN hcn hc hT cn 0 (by omega)
  rw [← e, hl_e90]
  simp only [hl_r90_0, hl_r90_1, hl_r90_2, hl_r90_3, hl_kill_i, hl_kill_r, hl_kill_n, hl_kill_l, hl_tl_s, hl_tl_n, hl_cal_some, hl_gI, hl_gJ, hl_gsI, hl_gsJ, hl_tv01, if_true, if_false, hl_up_a, hl_row_a, not_true, not_false_eq_true]
  rfl
/-- the reference's loop; Is names the ties as the class has them -/
theorem hx_l234 {i : Int32} {wv : Int32} {c : hl_C} (hN : N ≤ 24) (hcn : cn ≤ 40) (hm : I 86 1 = nI cn) (hT : ∀ t, t < cn → ∃ a b, a < N ∧ b < N ∧ Is 12 t = nI a ∧ Is 13 t = nI b ∧ I 86 (200 + 3 * t) = nI a ∧ I 86 (200 + 3 * t + 1) = nI b) (hg : I 102 = g) (f : Nat) : ∀ k, k + f = cn → hl_Run 234 c 37 [.ref 85, .int wv, .int i, .int (nI (hx_nc (hx_ic Is g) k)), .int (nI k)] [] (hl_g N I J) = some (some (.int (hx_ff (hx_ic Is g) i (if i = -1 then nI (hx_nc (hx_ic Is g) cn) else -1) f k)), hl_g N I J) := by
  have k1 : hl_inb (1 : Int32) 490 = true := id rfl
  induction f with
  | zero =>
    intro k hk
    obtain rfl : k = cn := by omega
    unfold hx_ff
    by_cases z : i = -1
    · rw [if_pos z]
      simp only [hl_r234_37, hl_r234_39, hl_r234_40, hl_r234_43, hl_r234_44, hl_r234_45, hl_r234_48, hl_r234_49, hl_r234_52, hl_r234_53, hl_r234_56, hl_r234_59, hl_r234_60, hl_r234_62, hl_r234_63, hl_r234_64, hl_r234_65, hl_r234_66, hl_r234_67, hl_r234_70, hl_r234_71, hl_r234_74, hl_r234_77, hl_r234_78, hl_r234_80, hl_r234_81, hl_r234_82, hl_r234_83, hl_r234_84, hl_r234_85, hl_r234_86, hl_r234_89, hl_r234_92, hl_r234_93, hl_r234_94, hl_r234_97, hl_r234_99, hl_r234_100, hl_r234_103, hl_r234_106, hl_r234_109, hl_r234_110, hl_r234_111, hl_r234_114, hl_r234_115, hl_r234_118, hl_r234_119, hl_o_85, hl_p_85_3, hl_p_85_4, hl_p_85_5, hl_p_85_6, hl_p_85_19, hl_p_85_23, hl_p_85_24, hl_p_85_25, hl_p_85_26, hl_p_85_27, hl_p_85_28, hl_p_85_29, hl_p_85_30, hl_p_85_31, hl_p_85_33, hl_p_85_34, hl_p_85_35, hl_p_85_36, hl_p_85_37, hl_a_86, hl_z_86, k1, hl_v1, hm, Int32.le_refl, z, hl_kill_i, hl_kill_r, hl_kill_n, hl_kill_l, hl_tl_s, hl_tl_n, hl_cal_some, hl_gI, hl_gJ, hl_gsI, hl_gsJ, hl_tv01, if_true, if_false, hl_up_a, hl_row_a, not_true, not_false_eq_true]
    · rw [if_neg z]
      simp only [hl_r234_37, hl_r234_39, hl_r234_40, hl_r234_43, hl_r234_44, hl_r234_45, hl_r234_48, hl_r234_49, hl_r234_52, hl_r234_53, hl_r234_56, hl_r234_59, hl_r234_60, hl_r234_62, hl_r234_63, hl_r234_64, hl_r234_65, hl_r234_66, hl_r234_67, hl_r234_70, hl_r234_71, hl_r234_74, hl_r234_77, hl_r234_78, hl_r234_80, hl_r234_81, hl_r234_82, hl_r234_83, hl_r234_84, hl_r234_85, hl_r234_86, hl_r234_89, hl_r234_92, hl_r234_93, hl_r234_94, hl_r234_97, hl_r234_99, hl_r234_100, hl_r234_103, hl_r234_106, hl_r234_109, hl_r234_110, hl_r234_111, hl_r234_114, hl_r234_115, hl_r234_118, hl_r234_119, hl_o_85, hl_p_85_3, hl_p_85_4, hl_p_85_5, hl_p_85_6, hl_p_85_19, hl_p_85_23, hl_p_85_24, hl_p_85_25, hl_p_85_26, hl_p_85_27, hl_p_85_28, hl_p_85_29, hl_p_85_30, hl_p_85_31, hl_p_85_33, hl_p_85_34, hl_p_85_35, hl_p_85_36, hl_p_85_37, hl_a_86, hl_z_86, k1, hl_v1, hm, Int32.le_refl, z, hl_kill_i, hl_kill_r, hl_kill_n, hl_kill_l, hl_tl_s, hl_tl_n, hl_cal_some, hl_gI, hl_gJ, hl_gsI, hl_gsJ, hl_tv01, if_true, if_false, hl_up_a, hl_row_a, not_true, not_false_eq_true]
  | succ f ih =>
    intro k hk
    have c1 : ¬ nI cn ≤ nI k := nI_ge (by omega) (by omega)
    have en : nI k + 1 = nI (k + 1) := (nI_succ k).symm
    obtain ⟨a, b, a1, b1, ta, tb, ma, mb⟩ := hT k (by omega)
    have b5 : hl_inb (nI (200 + 3 * k)) 490 = true := hl_inb_nI (by omega) (by decide)
    have b6 : hl_inb (nI (200 + 3 * k + 1)) 490 = true := hl_inb_nI (by omega) (by decide)
    have ba : hl_inb (nI a) 24 = true := hl_inb_nI (by omega) (by decide)
    have bb : hl_inb (nI b) 24 = true := hl_inb_nI (by omega) (by decide)
    have e := ih (k + 1) (by omega)
    have el : nI (hx_nc (hx_ic Is g) k) + 1 = nI (hx_nc (hx_ic Is g) k + 1) := (nI_succ _).symm
    have ic := hx_ic_at (g := g) (I := Is) (t := k) (a := a) (b := b) (by omega) (by omega) ta tb
    unfold hx_ff
    by_cases y : g a = g b
    · have q : hx_ic Is g k = false := by rw [ic, decide_eq_true y]; rfl
      have en2 : hx_nc (hx_ic Is g) (k + 1) = hx_nc (hx_ic Is g) k := by
        show hx_nc (hx_ic Is g) k + (if hx_ic Is g k = true then 1 else 0) = _
        rw [q, if_neg (by decide)]
        rfl
      rw [en2] at e
      rw [q, if_neg (by decide), ← e, hl_r234_37]
      simp only [hl_r234_39, hl_r234_40, hl_r234_43, hl_r234_44, hl_r234_45, hl_r234_48, hl_r234_49, hl_r234_52, hl_r234_53, hl_r234_56, hl_r234_59, hl_r234_60, hl_r234_62, hl_r234_63, hl_r234_64, hl_r234_65, hl_r234_66, hl_r234_67, hl_r234_70, hl_r234_71, hl_r234_74, hl_r234_77, hl_r234_78, hl_r234_80, hl_r234_81, hl_r234_82, hl_r234_83, hl_r234_84, hl_r234_85, hl_r234_86, hl_r234_89, hl_r234_92, hl_r234_93, hl_r234_94, hl_r234_97, hl_r234_99, hl_r234_100, hl_r234_103, hl_r234_106, hl_o_85, hl_p_85_3, hl_p_85_4, hl_p_85_5, hl_p_85_6, hl_p_85_19, hl_p_85_23, hl_p_85_24, hl_p_85_25, hl_p_85_26, hl_p_85_27, hl_p_85_28, hl_p_85_29, hl_p_85_30, hl_p_85_31, hl_p_85_33, hl_p_85_34, hl_p_85_35, hl_p_85_36, hl_p_85_37, hl_a_86, hl_z_86, hl_a_102, hl_z_102, k1, hl_v1, hm, c1, hl_i3t0, hl_i3t1, b5, b6, ba, bb, hl_cq (show 200 + 3 * k < 10000 by omega), hl_cq (show 200 + 3 * k + 1 < 10000 by omega), hl_cq (show a < 10000 by omega), hl_cq (show b < 10000 by omega), ma, mb, hg, y, en, hl_kill_i, hl_kill_r, hl_kill_n, hl_kill_l, hl_tl_s, hl_tl_n, hl_cal_some, hl_gI, hl_gJ, hl_gsI, hl_gsJ, hl_tv01, if_true, if_false, hl_up_a, hl_row_a, not_true, not_false_eq_true]
      try rw [hl_r234_37]
    · have q : hx_ic Is g k = true := by rw [ic, decide_eq_false y]; rfl
      have en2 : hx_nc (hx_ic Is g) (k + 1) = hx_nc (hx_ic Is g) k + 1 := by
        show hx_nc (hx_ic Is g) k + (if hx_ic Is g k = true then 1 else 0) = _
        rw [q, if_pos rfl]
      rw [en2] at e
      rw [q, if_pos rfl]
      by_cases z : nI (hx_nc (hx_ic Is g) k) = i
      · rw [if_pos z, hl_r234_37]
        simp only [hl_r234_39, hl_r234_40, hl_r234_43, hl_r234_44, hl_r234_45, hl_r234_48, hl_r234_49, hl_r234_52, hl_r234_53, hl_r234_56, hl_r234_59, hl_r234_60, hl_r234_62, hl_r234_63, hl_r234_64, hl_r234_65, hl_r234_66, hl_r234_67, hl_r234_70, hl_r234_71, hl_r234_74, hl_r234_77, hl_r234_78, hl_r234_80, hl_r234_81, hl_r234_82, hl_r234_83, hl_r234_84, hl_r234_85, hl_r234_86, hl_r234_89, hl_r234_92, hl_r234_93, hl_r234_94, hl_r234_97, hl_r234_99, hl_r234_100, hl_r234_103, hl_r234_106, hl_o_85, hl_p_85_3, hl_p_85_4, hl_p_85_5, hl_p_85_6, hl_p_85_19, hl_p_85_23, hl_p_85_24, hl_p_85_25, hl_p_85_26, hl_p_85_27, hl_p_85_28, hl_p_85_29, hl_p_85_30, hl_p_85_31, hl_p_85_33, hl_p_85_34, hl_p_85_35, hl_p_85_36, hl_p_85_37, hl_a_86, hl_z_86, hl_a_102, hl_z_102, k1, hl_v1, hm, c1, hl_i3t0, hl_i3t1, b5, b6, ba, bb, hl_cq (show 200 + 3 * k < 10000 by omega), hl_cq (show 200 + 3 * k + 1 < 10000 by omega), hl_cq (show a < 10000 by omega), hl_cq (show b < 10000 by omega), ma, mb, hg, y, z, hl_kill_i, hl_kill_r, hl_kill_n, hl_kill_l, hl_tl_s, hl_tl_n, hl_cal_some, hl_gI, hl_gJ, hl_gsI, hl_gsJ, hl_tv01, if_true, if_false, hl_up_a, hl_row_a, not_true, not_false_eq_true]
      · rw [if_neg z, ← e, hl_r234_37]
        simp only [hl_r234_39, hl_r234_40, hl_r234_43, hl_r234_44, hl_r234_45, hl_r234_48, hl_r234_49, hl_r234_52, hl_r234_53, hl_r234_56, hl_r234_59, hl_r234_60, hl_r234_62, hl_r234_63, hl_r234_64, hl_r234_65, hl_r234_66, hl_r234_67, hl_r234_70, hl_r234_71, hl_r234_74, hl_r234_77, hl_r234_78, hl_r234_80, hl_r234_81, hl_r234_82, hl_r234_83, hl_r234_84, hl_r234_85, hl_r234_86, hl_r234_89, hl_r234_92, hl_r234_93, hl_r234_94, hl_r234_97, hl_r234_99, hl_r234_100, hl_r234_103, hl_r234_106, hl_o_85, hl_p_85_3, hl_p_85_4, hl_p_85_5, hl_p_85_6, hl_p_85_19, hl_p_85_23, hl_p_85_24, hl_p_85_25, hl_p_85_26, hl_p_85_27, hl_p_85_28, hl_p_85_29, hl_p_85_30, hl_p_85_31, hl_p_85_33, hl_p_85_34, hl_p_85_35, hl_p_85_36, hl_p_85_37, hl_a_86, hl_z_86, hl_a_102, hl_z_102, k1, hl_v1, hm, c1, hl_i3t0, hl_i3t1, b5, b6, ba, bb, hl_cq (show 200 + 3 * k < 10000 by omega), hl_cq (show 200 + 3 * k + 1 < 10000 by omega), hl_cq (show a < 10000 by omega), hl_cq (show b < 10000 by omega), ma, mb, hg, y, z, el, en, hl_kill_i, hl_kill_r, hl_kill_n, hl_kill_l, hl_tl_s, hl_tl_n, hl_cal_some, hl_gI, hl_gJ, hl_gsI, hl_gsJ, hl_tv01, if_true, if_false, hl_up_a, hl_row_a, not_true, not_false_eq_true]
        try rw [hl_r234_37]
theorem hx_ff_congr {p p' : Nat → Bool} {i z : Int32} {n : Nat} (h : ∀ k, k < n → p k = p' k) (hn : ∀ k, k ≤ n → hx_nc p k = hx_nc p' k) (f : Nat) : ∀ k, k + f = n → hx_ff p i z f k = hx_ff p' i z f k := by
  induction f with
  | zero => exact fun k _ => rfl
  | succ f ih =>
    intro k hk
    unfold hx_ff
    rw [h k (by omega), hn k (by omega), ih (k + 1) (by omega)]
theorem hx_nc_congr {p p' : Nat → Bool} {n : Nat} (h : ∀ k, k < n → p k = p' k) : ∀ k, k ≤ n → hx_nc p k = hx_nc p' k := by
  intro k
  induction k with
  | zero => exact fun _ => rfl
  | succ k ih =>
    intro hk
    unfold hx_nc
    rw [ih (by omega), h k (by omega)]
theorem hx_pr17 (hN : N ≤ 24) (f : Nat → Int32) : hl_PQ hl_TX N W H 122 234 (hl_args 17 f) := by
  refine hl_PQ_read hl_TXc fun I J hI => ?_
  obtain ⟨wh, ew⟩ := hx_bz (f 1)
  show ∃ v I1 J1 I2 J2, hl_call 1001 122 [.ref 0, .int (hl_bz (f 1)), .int (f 2)] (hl_g N I J) = some (some (.int v), hl_g N I1 J1) ∧ hl_call 1001 234 [.ref 85, .int (hl_bz (f 1)), .int (f 2)] (hl_g N I1 J1) = some (some (.int v), hl_g N I2 J2) ∧ _
  rw [ew]
  generalize f 2 = i
  have P := hI.2.2.2.2.1
  obtain ⟨nh, cn, I1, e1, tm, R, hc1, hm1, hc2, hm2⟩ := hx_refresh (d := 994) hI hN J
  have h4 := R.2.2.2.1.1
  have c40 := R.2.2.2.2.1.1
  by_cases g0 : nh = 0
  · have z0 : nI nh = 0 := by rw [g0]; rfl
    rw [z0] at hc1 hm1
    refine ⟨-1, I, J, I, J, ?_, ?_, hl_Tm_rf I, P, hl_Tm_rf I, rfl, rfl⟩
    · rw [hl_e122 (d := 1000)]; simp only [hl_r122_0, hl_r122_1, hl_r122_4, hl_r122_7, hl_r122_10, hl_r122_11, hl_r122_12, hl_r122_15, hl_r122_16, hl_r122_17, hl_r122_20, hl_r122_23, hl_r122_26, hl_r122_29, hl_r122_30, hl_o_0, hl_p_0_3, hl_p_0_4, hl_p_0_5, hl_p_0_7, hl_p_0_8, hl_p_0_9, hl_p_0_10, hl_p_0_11, hl_p_0_12, hl_p_0_13, hl_p_0_14, hl_p_0_15, hl_o_1, hl_p_1_0, hl_p_1_1, hl_p_1_2, hl_p_1_3, hl_p_1_4, hl_p_1_5, hl_p_1_6, hl_p_1_7, hl_p_1_9, hl_p_1_14, hl_p_1_15, hc1, hl_kill_i, hl_kill_r, hl_kill_n, hl_kill_l, hl_tl_s, hl_tl_n, hl_cal_some, hl_gI, hl_gJ, hl_gsI, hl_gsJ, hl_tv01, if_true, if_false, hl_up_a, hl_row_a, not_true, not_false_eq_true]
    · rw [hl_e234 (d := 1000)]; simp only [hl_r234_0, hl_r234_1, hl_r234_4, hl_r234_5, hl_r234_6, hl_r234_9, hl_r234_10, hl_r234_11, hl_r234_14, hl_r234_15, hl_r234_16, hl_r234_19, hl_r234_20, hl_r234_21, hl_r234_22, hl_r234_25, hl_r234_26, hl_r234_27, hl_r234_30, hl_r234_31, hl_o_85, hl_p_85_3, hl_p_85_4, hl_p_85_5, hl_p_85_6, hl_p_85_19, hl_p_85_23, hl_p_85_24, hl_p_85_25, hl_p_85_26, hl_p_85_27, hl_p_85_28, hl_p_85_29, hl_p_85_30, hl_p_85_31, hl_p_85_33, hl_p_85_34, hl_p_85_35, hl_p_85_36, hl_p_85_37, hl_a_86, hl_z_86, hl_k0, hl_v0, hm1, hl_kill_i, hl_kill_r, hl_kill_n, hl_kill_l, hl_tl_s, hl_tl_n, hl_cal_some, hl_gI, hl_gJ, hl_gsI, hl_gsJ, hl_tv01, if_true, if_false, hl_up_a, hl_row_a, not_true, not_false_eq_true]
  · have n0 : ¬ nI nh = 0 := nI_ne0 (by omega) (by omega)
    by_cases g1 : i < -1
    · refine ⟨-1, I, J, I, J, ?_, ?_, hl_Tm_rf I, P, hl_Tm_rf I, rfl, rfl⟩
      · rw [hl_e122 (d := 1000)]; simp only [hl_r122_0, hl_r122_1, hl_r122_4, hl_r122_7, hl_r122_10, hl_r122_11, hl_r122_12, hl_r122_15, hl_r122_16, hl_r122_17, hl_r122_20, hl_r122_23, hl_r122_26, hl_r122_29, hl_r122_30, hl_o_0, hl_p_0_3, hl_p_0_4, hl_p_0_5, hl_p_0_7, hl_p_0_8, hl_p_0_9, hl_p_0_10, hl_p_0_11, hl_p_0_12, hl_p_0_13, hl_p_0_14, hl_p_0_15, hl_o_1, hl_p_1_0, hl_p_1_1, hl_p_1_2, hl_p_1_3, hl_p_1_4, hl_p_1_5, hl_p_1_6, hl_p_1_7, hl_p_1_9, hl_p_1_14, hl_p_1_15, hc1, n0, g1, hl_kill_i, hl_kill_r, hl_kill_n, hl_kill_l, hl_tl_s, hl_tl_n, hl_cal_some, hl_gI, hl_gJ, hl_gsI, hl_gsJ, hl_tv01, if_true, if_false, hl_up_a, hl_row_a, not_true, not_false_eq_true]
      · rw [hl_e234 (d := 1000)]; simp only [hl_r234_0, hl_r234_1, hl_r234_4, hl_r234_5, hl_r234_6, hl_r234_9, hl_r234_10, hl_r234_11, hl_r234_14, hl_r234_15, hl_r234_16, hl_r234_19, hl_r234_20, hl_r234_21, hl_r234_22, hl_r234_25, hl_r234_26, hl_r234_27, hl_r234_30, hl_r234_31, hl_o_85, hl_p_85_3, hl_p_85_4, hl_p_85_5, hl_p_85_6, hl_p_85_19, hl_p_85_23, hl_p_85_24, hl_p_85_25, hl_p_85_26, hl_p_85_27, hl_p_85_28, hl_p_85_29, hl_p_85_30, hl_p_85_31, hl_p_85_33, hl_p_85_34, hl_p_85_35, hl_p_85_36, hl_p_85_37, hl_a_86, hl_z_86, hl_k0, hl_v0, hm1, n0, g1, hl_kill_i, hl_kill_r, hl_kill_n, hl_kill_l, hl_tl_s, hl_tl_n, hl_cal_some, hl_gI, hl_gJ, hl_gsI, hl_gsJ, hl_tv01, if_true, if_false, hl_up_a, hl_row_a, not_true, not_false_eq_true]
    · have ch := hx_chs_all (show 1 ≤ nh by omega) h4
      have hTs : ∀ t, t < cn → ∃ a b, a < N ∧ b < N ∧ I1 12 t = nI a ∧ I1 13 t = nI b ∧ I1 86 (200 + 3 * t) = nI a ∧ I1 86 (200 + 3 * t + 1) = nI b := fun t ht => by
        obtain ⟨a, b, w, a1, b1, -, -, -, t1, t2, -, t4, t5, -⟩ := R.1.tie hN R.2.2.2.2.1.2.2.2 ht
        exact ⟨a, b, a1, b1, t1, t2, t4, t5⟩
      -- what the reference does, from wherever the class has left its rows
      have ref : ∀ (p : Option Nat) (hr : Nat → Nat), hx_Sol N nh cn I1 (nI (2 ^ nh - 1)) wh (-1) (-1) p hr → ∀ (I9 : Nat → Nat → Int32) (J9 : Nat → Nat → Int64), hl_vw I1 I9 → ∃ I3 J3, hl_call 1001 234 [.ref 85, .int (hl_tv wh), .int i] (hl_g N I9 J9) = some (some (.int (if p = none then -1 else hx_ff (hx_ic I1 (I3 102)) i (if i = -1 then nI (hx_nc (hx_ic I1 (I3 102)) cn) else -1) cn 0)), hl_g N I3 J3) ∧ (p ≠ none → ∀ c, c < N → I3 102 c = nI (hr c)) ∧ hx_fR I9 I3 := fun p hr S I9 J9 hv => by
        obtain ⟨I3, J3, e3, r3, f3, j3⟩ := hx_least1 (d := 993) (J := J9) R hv ch S
        have e86 : I9 86 0 = nI nh := by rw [hv.2.1]; exact R.2.2.2.1.2.2.1
        have s231 := hx_s231 (d := 999) (N := N) (I := I9) (J := J9) e86 h4
        refine ⟨I3, J3, ?_, r3, f3⟩
        have v3 : hl_vw I1 I3 := hl_vw_tr hv f3.tm.vw
        cases p with
        | none =>
          rw [if_pos rfl, hl_e234 (d := 1000)]
          simp only [hl_r234_0, hl_r234_1, hl_r234_4, hl_r234_5, hl_r234_6, hl_r234_9, hl_r234_10, hl_r234_11, hl_r234_14, hl_r234_15, hl_r234_16, hl_r234_19, hl_r234_20, hl_r234_21, hl_r234_22, hl_r234_25, hl_r234_26, hl_r234_27, hl_r234_30, hl_r234_31, hl_o_85, hl_p_85_3, hl_p_85_4, hl_p_85_5, hl_p_85_6, hl_p_85_19, hl_p_85_23, hl_p_85_24, hl_p_85_25, hl_p_85_26, hl_p_85_27, hl_p_85_28, hl_p_85_29, hl_p_85_30, hl_p_85_31, hl_p_85_33, hl_p_85_34, hl_p_85_35, hl_p_85_36, hl_p_85_37, hl_a_86, hl_z_86, hl_k0, hl_v0, e86, n0, g1, s231, e3, hl_lcmp_ge0, hx_ol_n0, hl_kill_i, hl_kill_r, hl_kill_n, hl_kill_l, hl_tl_s, hl_tl_n, hl_cal_some, hl_gI, hl_gJ, hl_gsI, hl_gsJ, hl_tv01, if_true, if_false, hl_up_a, hl_row_a, not_true, not_false_eq_true]
        | some n =>
          have o1 := hx_ol_s0 (hx_Sol_B S)
          have lp := hx_l234 (N := N) (I := I3) (Is := I1) (J := J3) (i := i) (wv := hl_tv wh) (c := hl_call 1000) (g := I3 102) hN c40 (by rw [v3.2.1]; exact R.2.2.2.2.1.2.2.1) (fun t ht => by rw [v3.2.1]; exact hTs t ht) rfl cn 0 (by omega)
          rw [if_neg (fun q => by cases q), ← lp, hl_e234 (d := 1000)]
          have z0 : nI 0 = 0 := rfl
          simp only [hl_r234_0, hl_r234_1, hl_r234_4, hl_r234_5, hl_r234_6, hl_r234_9, hl_r234_10, hl_r234_11, hl_r234_14, hl_r234_15, hl_r234_16, hl_r234_19, hl_r234_20, hl_r234_21, hl_r234_22, hl_r234_25, hl_r234_26, hl_r234_27, hl_r234_30, hl_r234_31, hl_r234_32, hl_r234_33, hl_r234_34, hl_r234_35, hl_o_85, hl_p_85_3, hl_p_85_4, hl_p_85_5, hl_p_85_6, hl_p_85_19, hl_p_85_23, hl_p_85_24, hl_p_85_25, hl_p_85_26, hl_p_85_27, hl_p_85_28, hl_p_85_29, hl_p_85_30, hl_p_85_31, hl_p_85_33, hl_p_85_34, hl_p_85_35, hl_p_85_36, hl_p_85_37, hl_a_86, hl_z_86, hl_k0, hl_v0, e86, n0, g1, s231, e3, hl_lcmp_ge0, o1, hx_nc, z0, hl_kill_i, hl_kill_r, hl_kill_n, hl_kill_l, hl_tl_s, hl_tl_n, hl_cal_some, hl_gI, hl_gJ, hl_gsI, hl_gsJ, hl_tv01, if_true, if_false, hl_up_a, hl_row_a, not_true, not_false_eq_true]
      by_cases g2 : nI cn ≤ i
      · -- the class answers at once
        obtain ⟨I2, J2, p, hr, S, -, -, f2, -⟩ := hx_solve1 (d := 996) (J := J) (wh := wh) (x := -1) (y := -1) (s := nI (2 ^ nh - 1)) R (.inr rfl) ch
        have vI : hl_vw I1 I := ⟨fun k hk => (tm.2.2.1 k hk).symm, (tm.2.2.2 86 (by omega) (by omega)).symm, (tm.2.2.2 88 (by omega) (by omega)).symm⟩
        obtain ⟨I3, J3, e3, -, f3⟩ := ref p hr S I J vI
        refine ⟨-1, I, J, I3, J3, ?_, ?_, hl_Tm_rf I, P, f3.tm, f3.lo (by omega), f3.lo (by omega)⟩
        · rw [hl_e122 (d := 1000)]; simp only [hl_r122_0, hl_r122_1, hl_r122_4, hl_r122_7, hl_r122_10, hl_r122_11, hl_r122_12, hl_r122_15, hl_r122_16, hl_r122_17, hl_r122_20, hl_r122_23, hl_r122_26, hl_r122_29, hl_r122_30, hl_o_0, hl_p_0_3, hl_p_0_4, hl_p_0_5, hl_p_0_7, hl_p_0_8, hl_p_0_9, hl_p_0_10, hl_p_0_11, hl_p_0_12, hl_p_0_13, hl_p_0_14, hl_p_0_15, hl_o_1, hl_p_1_0, hl_p_1_1, hl_p_1_2, hl_p_1_3, hl_p_1_4, hl_p_1_5, hl_p_1_6, hl_p_1_7, hl_p_1_9, hl_p_1_14, hl_p_1_15, hl_o_11, hl_p_11_0, hl_p_11_1, hl_p_11_2, hc1, n0, g1, hc2, Int32.not_lt.mpr g2, hl_kill_i, hl_kill_r, hl_kill_n, hl_kill_l, hl_tl_s, hl_tl_n, hl_cal_some, hl_gI, hl_gJ, hl_gsI, hl_gsJ, hl_tv01, if_true, if_false, hl_up_a, hl_row_a, not_true, not_false_eq_true]
        · rw [e3]
          have gi : (cn : Int) ≤ i.toInt := by
            have := Int32.le_iff_toInt_le.mp g2
            rw [hl_tI (by omega)] at this
            exact this
          have nm1 : ¬ i = -1 := fun q => by
            rw [q] at gi
            have e1 : (-1 : Int32).toInt = -1 := rfl
            omega
          rw [if_neg nm1, hx_ff_z (n := cn) (fun k hk q => ?_) cn 0 (by omega)]
          · split <;> rfl
          · have le := hx_nc_le (p := hx_ic I1 (I3 102)) k
            have := congrArg Int32.toInt q
            rw [hl_tI (by omega)] at this
            omega
      · obtain ⟨I2, J2, p, hr, S, e2, r2, f2, -⟩ := hx_solve1 (d := 996) (J := J) (wh := wh) (x := -1) (y := -1) (s := nI (2 ^ nh - 1)) R (.inr rfl) ch
        obtain ⟨I3, J3, e3, r3, f3⟩ := ref p hr S I2 J2 f2.tm.vw
        have s141 := hx_s141 (d := 999) (N := N) (I := I1) (J := J) R.2.2.2.1.2.1 h4
        have cA : hl_call 1001 122 [.ref 0, .int (hl_tv wh), .int i] (hl_g N I J) = hl_Run 122 (hl_call 1000) 52 [.ref 0, .int (hl_tv wh), .int i] [.int (hx_oi p)] (hl_g N I2 J2) := by
          rw [hl_e122 (d := 1000)]
          simp only [hl_r122_0, hl_r122_1, hl_r122_4, hl_r122_7, hl_r122_10, hl_r122_11, hl_r122_12, hl_r122_15, hl_r122_16, hl_r122_17, hl_r122_20, hl_r122_23, hl_r122_26, hl_r122_29, hl_r122_30, hl_r122_31, hl_r122_32, hl_r122_35, hl_r122_38, hl_r122_39, hl_r122_42, hl_r122_43, hl_r122_46, hl_r122_47, hl_r122_48, hl_r122_49, hl_o_0, hl_p_0_3, hl_p_0_4, hl_p_0_5, hl_p_0_7, hl_p_0_8, hl_p_0_9, hl_p_0_10, hl_p_0_11, hl_p_0_12, hl_p_0_13, hl_p_0_14, hl_p_0_15, hl_o_1, hl_p_1_0, hl_p_1_1, hl_p_1_2, hl_p_1_3, hl_p_1_4, hl_p_1_5, hl_p_1_6, hl_p_1_7, hl_p_1_9, hl_p_1_14, hl_p_1_15, hl_o_11, hl_p_11_0, hl_p_11_1, hl_p_11_2, hl_o_63, hl_p_63_0, hl_p_63_1, hl_p_63_2, hl_p_63_3, hl_o_68, hl_p_68_0, hl_p_68_1, hl_p_68_2, hl_p_68_3, hl_p_68_4, hl_p_68_5, hc1, n0, g1, hc2, Int32.not_le.mp g2, e1, s141, e2, hl_tl_n, hl_kill_i, hl_kill_r, hl_kill_n, hl_kill_l, hl_tl_s, hl_tl_n, hl_cal_some, hl_gI, hl_gJ, hl_gsI, hl_gsJ, hl_tv01, if_true, if_false, hl_up_a, hl_row_a, not_true, not_false_eq_true]
        rw [cA]
        cases p with
        | none =>
          refine ⟨-1, I2, J2, I3, J3, ?_, by rw [e3, if_pos rfl], hl_Tm_tr tm f2.tm, f2.pu R.2.2.2.2.2, f3.tm, f3.lo (by omega), f3.lo (by omega)⟩
          rw [hx_oi_n]
          simp only [hl_r122_52, hl_r122_53, hl_r122_56, hl_r122_57, hl_kill_i, hl_kill_r, hl_kill_n, hl_kill_l, hl_tl_s, hl_tl_n, hl_cal_some, hl_gI, hl_gJ, hl_gsI, hl_gsJ, hl_tv01, if_true, if_false, hl_up_a, hl_row_a, not_true, not_false_eq_true]
        | some n =>
          have n1 : ¬ nI n = -1 := hx_ni1 (by have := hx_Sol_B S; omega)
          have hT2 : hx_tt N cn I2 := fun t ht => by
            obtain ⟨a, b, a1, b1, t1, t2, -⟩ := hTs t ht
            exact ⟨a, b, a1, b1, by rw [f2.1 12 (by omega)]; exact t1, by rw [f2.1 13 (by omega)]; exact t2⟩
          have hcc : I2 11 3 = nI cn := by rw [f2.1 11 (by omega)]; exact R.2.2.2.2.1.2.1
          have same : ∀ k, k < cn → hx_ic I2 (I2 79) k = hx_ic I1 (I3 102) k := fun k hk => by
            obtain ⟨a, b, a1, b1, t1, t2, -⟩ := hTs k hk
            rw [hx_ic_at (by omega) (by omega) t1 t2, hx_ic_at (I := I2) (a := a) (b := b) (by omega) (by omega) (by rw [f2.1 12 (by omega)]; exact t1) (by rw [f2.1 13 (by omega)]; exact t2), r2 (fun q => by cases q) a a1, r2 (fun q => by cases q) b b1, r3 (fun q => by cases q) a a1, r3 (fun q => by cases q) b b1]
          have snc := hx_nc_congr same
          rw [if_neg (fun q => by cases q)] at e3
          by_cases z : i = -1
          · have e89 := hx_s89 (d := 998) (N := N) (I := I2) (J := J2) hN c40 hcc hT2
            refine ⟨nI (hx_nc (hx_ic I2 (I2 79)) cn), I2, J2, I3, J3, ?_, ?_, hl_Tm_tr tm f2.tm, f2.pu R.2.2.2.2.2, f3.tm, f3.lo (by omega), f3.lo (by omega)⟩
            · rw [hx_oi_s]
              simp only [hl_r122_52, hl_r122_53, hl_r122_56, hl_r122_57, hl_r122_58, hl_r122_59, hl_r122_60, hl_r122_63, hl_r122_64, hl_r122_67, hl_r122_70, hl_r122_71, hl_r122_74, hl_r122_77, hl_r122_80, hl_r122_83, hl_r122_84, hl_r122_87, hl_r122_90, hl_r122_91, hl_r122_94, hl_r122_97, hl_r122_98, hl_r122_101, hl_o_0, hl_p_0_3, hl_p_0_4, hl_p_0_5, hl_p_0_7, hl_p_0_8, hl_p_0_9, hl_p_0_10, hl_p_0_11, hl_p_0_12, hl_p_0_13, hl_p_0_14, hl_p_0_15, hl_o_1, hl_p_1_0, hl_p_1_1, hl_p_1_2, hl_p_1_3, hl_p_1_4, hl_p_1_5, hl_p_1_6, hl_p_1_7, hl_p_1_9, hl_p_1_14, hl_p_1_15, hl_o_11, hl_p_11_0, hl_p_11_1, hl_p_11_2, hl_o_68, hl_p_68_0, hl_p_68_1, hl_p_68_2, hl_p_68_3, hl_p_68_4, hl_p_68_5, hl_a_79, hl_z_79, n1, z, e89, hl_kill_i, hl_kill_r, hl_kill_n, hl_kill_l, hl_tl_s, hl_tl_n, hl_cal_some, hl_gI, hl_gJ, hl_gsI, hl_gsJ, hl_tv01, if_true, if_false, hl_up_a, hl_row_a, not_true, not_false_eq_true]
            · rw [e3, if_pos z, hx_ff_z (n := cn) (fun k hk q => ?_) cn 0 (by omega), snc cn (Nat.le_refl cn)]
              have le := hx_nc_le (p := hx_ic I1 (I3 102)) k
              exact hx_ni1 (by omega) (q.trans z)
          · have e90 := hx_s90 (d := 998) (N := N) (I := I2) (J := J2) (i := i) hN c40 hcc hT2
            refine ⟨hx_ff (hx_ic I2 (I2 79)) i (-1) cn 0, I2, J2, I3, J3, ?_, ?_, hl_Tm_tr tm f2.tm, f2.pu R.2.2.2.2.2, f3.tm, f3.lo (by omega), f3.lo (by omega)⟩
            · rw [hx_oi_s]
              simp only [hl_r122_52, hl_r122_53, hl_r122_56, hl_r122_57, hl_r122_58, hl_r122_59, hl_r122_60, hl_r122_63, hl_r122_64, hl_r122_67, hl_r122_70, hl_r122_71, hl_r122_74, hl_r122_77, hl_r122_80, hl_r122_83, hl_r122_84, hl_r122_87, hl_r122_90, hl_r122_91, hl_r122_94, hl_r122_97, hl_r122_98, hl_r122_101, hl_o_0, hl_p_0_3, hl_p_0_4, hl_p_0_5, hl_p_0_7, hl_p_0_8, hl_p_0_9, hl_p_0_10, hl_p_0_11, hl_p_0_12, hl_p_0_13, hl_p_0_14, hl_p_0_15, hl_o_1, hl_p_1_0, hl_p_1_1, hl_p_1_2, hl_p_1_3, hl_p_1_4, hl_p_1_5, hl_p_1_6, hl_p_1_7, hl_p_1_9, hl_p_1_14, hl_p_1_15, hl_o_11, hl_p_11_0, hl_p_11_1, hl_p_11_2, hl_o_68, hl_p_68_0, hl_p_68_1, hl_p_68_2, hl_p_68_3, hl_p_68_4, hl_p_68_5, hl_a_79, hl_z_79, n1, z, e90, hl_kill_i, hl_kill_r, hl_kill_n, hl_kill_l, hl_tl_s, hl_tl_n, hl_cal_some, hl_gI, hl_gJ, hl_gsI, hl_gsJ, hl_tv01, if_true, if_false, hl_up_a, hl_row_a, not_true, not_false_eq_true]
            · rw [e3, if_neg z, hx_ff_congr same snc cn 0 (by omega)]
end HXCUT
