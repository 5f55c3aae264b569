/-! first contracts: small methods (expanded by wip/whole/pre.py from wip/whole/src) -/
def hl_sum (n : Nat) (f : Nat → Int32) : Int32 := match n with
  | 0 => 0
  | n + 1 => hl_sum n f + f n
theorem hl_sum_congr {n : Nat} {f g : Nat → Int32} (h : ∀ k, k < n → f k = g k) : hl_sum n f = hl_sum n g := by
  induction n with
  | zero => rfl
  | succ n ih =>
    show hl_sum n f + f n = hl_sum n g + g n
    rw [ih (fun k hk => h k (by omega)), h n (by omega)]
def hl_abs (x : Int32) : Int32 := if 0 ≤ x then x else 0 - x
def hl_in (x lo hi : Int32) : Bool := decide (lo ≤ x) && decide (x ≤ hi)
theorem nI_toI {n : Nat} (h : n < 2 ^ 31) : (nI n).toInt = n := nI_toInt h
theorem nI_sub1 {N : Nat} (h : N < 2 ^ 31) : (nI N - 1).toInt = (N : Int) - 1 := by
  cases N with
  | zero => rfl
  | succ n => rw [nI_pred, nI_toInt (by omega)]; omega
theorem hl_in_inb {x : Int32} {N : Nat} (h : N < 2 ^ 31) : hl_in x 0 (nI N - 1) = hl_inb x N := by
  apply Bool.eq_iff_iff.mpr
  rw [hl_inb_iff h]
  simp only [hl_in, Bool.and_eq_true, decide_eq_true_eq, Int32.le_iff_toInt_le, nI_sub1 h]
  have : (0 : Int32).toInt = 0 := rfl
  rw [this]
  omega
theorem nI_mul (a b : Nat) : nI a * nI b = nI (a * b) := (Int32.ofNat_mul a b).symm
section HLB
variable {d N : Nat} {w : hl_W} {I : Nat → Nat → Int32} {J : Nat → Nat → Int64}
theorem hl_s147 {x lo hi : Int32} : hl_call (d + 1) 147 [.int x, .int lo, .int hi] w = some (some (.int (hl_tv (hl_in x lo hi))), w) := by
  rw [hl_e147]
  by_cases h1 : x < lo
  · simp only [hl_r147_0, hl_r147_1, hl_r147_2, hl_r147_5, hl_r147_6, hl_r147_7, hl_r147_10, hl_r147_11, hl_r147_14, hl_r147_15, h1, hl_in, true_or, Int32.not_le.mpr h1, decide_false, Bool.false_and, hl_tv_f, hl_kill_i, hl_kill_r, hl_kill_n, hl_kill_l, hl_tl_s, hl_tl_n, hl_cal_some, hl_gI, hl_gJ, hl_gsI, hl_gsJ, hl_tv01, if_true, if_false, hl_up_a, hl_row_a]
  · by_cases h2 : hi < x
    · simp only [hl_r147_0, hl_r147_1, hl_r147_2, hl_r147_5, hl_r147_6, hl_r147_7, hl_r147_10, hl_r147_11, hl_r147_14, hl_r147_15, h1, h2, hl_in, true_or, Int32.not_le.mpr h2, decide_false, Bool.and_false, hl_tv_f, hl_kill_i, hl_kill_r, hl_kill_n, hl_kill_l, hl_tl_s, hl_tl_n, hl_cal_some, hl_gI, hl_gJ, hl_gsI, hl_gsJ, hl_tv01, if_true, if_false, hl_up_a, hl_row_a]
    · simp only [hl_r147_0, hl_r147_1, hl_r147_2, hl_r147_5, hl_r147_6, hl_r147_7, hl_r147_10, hl_r147_11, hl_r147_14, hl_r147_15, h1, h2, hl_in, or_true, Int32.not_lt.mp h2, Int32.not_lt.mp h1, decide_true, Bool.and_true, hl_tv_t, hl_kill_i, hl_kill_r, hl_kill_n, hl_kill_l, hl_tl_s, hl_tl_n, hl_cal_some, hl_gI, hl_gJ, hl_gsI, hl_gsJ, hl_tv01, if_true, if_false, hl_up_a, hl_row_a]
theorem hl_s151 {x lo hi : Int32} : hl_call (d + 1) 151 [.int x, .int lo, .int hi] w = some (some (.int (hl_tv (hl_in x lo hi))), w) := by
  rw [hl_e151]
  by_cases h1 : x < lo
  · simp only [hl_r151_0, hl_r151_1, hl_r151_2, hl_r151_5, hl_r151_6, hl_r151_7, hl_r151_10, hl_r151_11, hl_r151_14, hl_r151_15, h1, hl_in, true_or, Int32.not_le.mpr h1, decide_false, Bool.false_and, hl_tv_f, hl_kill_i, hl_kill_r, hl_kill_n, hl_kill_l, hl_tl_s, hl_tl_n, hl_cal_some, hl_gI, hl_gJ, hl_gsI, hl_gsJ, hl_tv01, if_true, if_false, hl_up_a, hl_row_a]
  · by_cases h2 : hi < x
    · simp only [hl_r151_0, hl_r151_1, hl_r151_2, hl_r151_5, hl_r151_6, hl_r151_7, hl_r151_10, hl_r151_11, hl_r151_14, hl_r151_15, h1, h2, hl_in, true_or, Int32.not_le.mpr h2, decide_false, Bool.and_false, hl_tv_f, hl_kill_i, hl_kill_r, hl_kill_n, hl_kill_l, hl_tl_s, hl_tl_n, hl_cal_some, hl_gI, hl_gJ, hl_gsI, hl_gsJ, hl_tv01, if_true, if_false, hl_up_a, hl_row_a]
    · simp only [hl_r151_0, hl_r151_1, hl_r151_2, hl_r151_5, hl_r151_6, hl_r151_7, hl_r151_10, hl_r151_11, hl_r151_14, hl_r151_15, h1, h2, hl_in, or_true, Int32.not_lt.mp h2, Int32.not_lt.mp h1, decide_true, Bool.and_true, hl_tv_t, hl_kill_i, hl_kill_r, hl_kill_n, hl_kill_l, hl_tl_s, hl_tl_n, hl_cal_some, hl_gI, hl_gJ, hl_gsI, hl_gsJ, hl_tv01, if_true, if_false, hl_up_a, hl_row_a]
def hl_bnd (x lo hi : Int32) : Int32 := if x < lo then lo else if hi < x then hi else x
theorem hl_s148 {x lo hi : Int32} : hl_call (d + 1) 148 [.int x, .int lo, .int hi] w = some (some (.int (hl_bnd x lo hi)), w) := by
  rw [hl_e148]
  unfold hl_bnd
  by_cases h1 : x < lo
  · simp only [hl_r148_0, hl_r148_1, hl_r148_2, hl_r148_5, hl_r148_6, hl_r148_7, hl_r148_8, hl_r148_9, hl_r148_12, hl_r148_13, hl_r148_16, hl_r148_17, h1, Int32.not_le.mpr h1, hl_kill_i, hl_kill_r, hl_kill_n, hl_kill_l, hl_tl_s, hl_tl_n, hl_cal_some, hl_gI, hl_gJ, hl_gsI, hl_gsJ, hl_tv01, if_true, if_false, hl_up_a, hl_row_a]
  · by_cases h2 : hi < x
    · simp only [hl_r148_0, hl_r148_1, hl_r148_2, hl_r148_5, hl_r148_6, hl_r148_7, hl_r148_8, hl_r148_9, hl_r148_12, hl_r148_13, hl_r148_16, hl_r148_17, h1, h2, Int32.not_lt.mp h1, Int32.not_le.mpr h2, hl_kill_i, hl_kill_r, hl_kill_n, hl_kill_l, hl_tl_s, hl_tl_n, hl_cal_some, hl_gI, hl_gJ, hl_gsI, hl_gsJ, hl_tv01, if_true, if_false, hl_up_a, hl_row_a]
    · simp only [hl_r148_0, hl_r148_1, hl_r148_2, hl_r148_5, hl_r148_6, hl_r148_7, hl_r148_8, hl_r148_9, hl_r148_12, hl_r148_13, hl_r148_16, hl_r148_17, h1, h2, Int32.not_lt.mp h1, Int32.not_lt.mp h2, hl_kill_i, hl_kill_r, hl_kill_n, hl_kill_l, hl_tl_s, hl_tl_n, hl_cal_some, hl_gI, hl_gJ, hl_gsI, hl_gsJ, hl_tv01, if_true, if_false, hl_up_a, hl_row_a]
theorem hl_s138 {x : Int32} (hN : I 0 2 = nI N) (hb : N < 2 ^ 31) : hl_call (d + 2) 138 [.ref 0, .int x] (hl_g N I J) = some (some (.int (hl_tv (hl_inb x N))), hl_g N I J) := by
  rw [hl_e138]
  simp only [hl_r138_0, hl_r138_1, hl_r138_2, hl_r138_3, hl_r138_6, hl_r138_7, hl_r138_8, hl_r138_11, hl_o_0, hl_p_0_3, hl_p_0_4, hl_p_0_5, hl_p_0_7, hl_p_0_8, hl_p_0_9, hl_p_0_10, hl_p_0_11, hl_p_0_12, hl_p_0_13, hl_p_0_14, hl_p_0_15, hN, hl_s147, hl_in_inb hb, hl_kill_i, hl_kill_r, hl_kill_n, hl_kill_l, hl_tl_s, hl_tl_n, hl_cal_some, hl_gI, hl_gJ, hl_gsI, hl_gsJ, hl_tv01, if_true, if_false, hl_up_a, hl_row_a]
theorem hl_s153 {x : Int32} (hN : I 85 2 = nI N) (hb : N < 2 ^ 31) : hl_call (d + 2) 153 [.ref 85, .int x] (hl_g N I J) = some (some (.int (hl_tv (hl_inb x N))), hl_g N I J) := by
  rw [hl_e153]
  simp only [hl_r153_0, hl_r153_1, hl_r153_2, hl_r153_3, hl_r153_6, hl_r153_7, hl_r153_8, hl_r153_11, hl_o_85, hl_p_85_3, hl_p_85_4, hl_p_85_5, hl_p_85_6, hl_p_85_19, hl_p_85_23, hl_p_85_24, hl_p_85_25, hl_p_85_26, hl_p_85_27, hl_p_85_28, hl_p_85_29, hl_p_85_30, hl_p_85_31, hl_p_85_33, hl_p_85_34, hl_p_85_35, hl_p_85_36, hl_p_85_37, hN, hl_s151, hl_in_inb hb, hl_kill_i, hl_kill_r, hl_kill_n, hl_kill_l, hl_tl_s, hl_tl_n, hl_cal_some, hl_gI, hl_gJ, hl_gsI, hl_gsJ, hl_tv01, if_true, if_false, hl_up_a, hl_row_a]
theorem hl_s139 {x : Int32} {nh : Nat} (hN : I 1 8 = nI nh) (hb : nh < 2 ^ 31) : hl_call (d + 2) 139 [.ref 0, .int x] (hl_g N I J) = some (some (.int (hl_tv (hl_inb x nh))), hl_g N I J) := by
  rw [hl_e139]
  simp only [hl_r139_0, hl_r139_1, hl_r139_2, hl_r139_3, hl_r139_6, hl_r139_9, hl_r139_10, hl_r139_11, hl_r139_14, hl_o_0, hl_p_0_3, hl_p_0_4, hl_p_0_5, hl_p_0_7, hl_p_0_8, hl_p_0_9, hl_p_0_10, hl_p_0_11, hl_p_0_12, hl_p_0_13, hl_p_0_14, hl_p_0_15, hl_o_1, hl_p_1_0, hl_p_1_1, hl_p_1_2, hl_p_1_3, hl_p_1_4, hl_p_1_5, hl_p_1_6, hl_p_1_7, hl_p_1_9, hl_p_1_14, hl_p_1_15, hN, hl_s147, hl_in_inb hb, hl_kill_i, hl_kill_r, hl_kill_n, hl_kill_l, hl_tl_s, hl_tl_n, hl_cal_some, hl_gI, hl_gJ, hl_gsI, hl_gsJ, hl_tv01, if_true, if_false, hl_up_a, hl_row_a]
theorem hl_s154 {x : Int32} {nh : Nat} (hN : I 86 0 = nI nh) (hb : nh < 2 ^ 31) : hl_call (d + 2) 154 [.ref 85, .int x] (hl_g N I J) = some (some (.int (hl_tv (hl_inb x nh))), hl_g N I J) := by
  rw [hl_e154]
  have h0 : (0 : Int32).toNatClampNeg = 0 := rfl
  have h1 : hl_inb 0 490 = true := rfl
  simp only [hl_r154_0, hl_r154_1, hl_r154_2, hl_r154_3, hl_r154_6, hl_r154_7, hl_r154_8, hl_r154_9, hl_r154_10, hl_r154_13, hl_o_85, hl_p_85_3, hl_p_85_4, hl_p_85_5, hl_p_85_6, hl_p_85_19, hl_p_85_23, hl_p_85_24, hl_p_85_25, hl_p_85_26, hl_p_85_27, hl_p_85_28, hl_p_85_29, hl_p_85_30, hl_p_85_31, hl_p_85_33, hl_p_85_34, hl_p_85_35, hl_p_85_36, hl_p_85_37, hl_a_86, hl_z_86, h0, h1, hN, hl_s151, hl_in_inb hb, hl_kill_i, hl_kill_r, hl_kill_n, hl_kill_l, hl_tl_s, hl_tl_n, hl_cal_some, hl_gI, hl_gJ, hl_gsI, hl_gsJ, hl_tv01, if_true, if_false, hl_up_a, hl_row_a]
theorem hl_in12 {x : Int32} : hl_in x 0 11 = hl_inb x 12 := hl_in_inb (N := 12) (by decide)
theorem hl_s140 {x : Int32} : hl_call (d + 2) 140 [.int x] w = some (some (.int (hl_tv (hl_inb x 12))), w) := by
  rw [hl_e140]
  simp only [hl_r140_0, hl_r140_1, hl_r140_2, hl_r140_4, hl_r140_7, hl_s147, hl_in12, hl_kill_i, hl_kill_r, hl_kill_n, hl_kill_l, hl_tl_s, hl_tl_n, hl_cal_some, hl_gI, hl_gJ, hl_gsI, hl_gsJ, hl_tv01, if_true, if_false, hl_up_a, hl_row_a]
theorem hl_s160 {x : Int32} : hl_call (d + 2) 160 [.int x] w = some (some (.int (hl_tv (hl_inb x 12))), w) := by
  rw [hl_e160]
  simp only [hl_r160_0, hl_r160_1, hl_r160_2, hl_r160_4, hl_r160_7, hl_s151, hl_in12, hl_kill_i, hl_kill_r, hl_kill_n, hl_kill_l, hl_tl_s, hl_tl_n, hl_cal_some, hl_gI, hl_gJ, hl_gsI, hl_gsJ, hl_tv01, if_true, if_false, hl_up_a, hl_row_a]
theorem hl_ix {c k : Nat} : (30 : Int32) + 7 * nI c + nI k = nI (30 + 7 * c + k) := by
  rw [← nI_add, ← nI_add, ← nI_mul]
  rfl
theorem hl_s155 {c k : Nat} (hc : c < 24) (hk : k < 7) : hl_call (d + 1) 155 [.ref 85, .int (nI c), .int (nI k)] (hl_g N I J) = some (some (.int (I 86 (30 + 7 * c + k))), hl_g N I J) := by
  rw [hl_e155]
  have h1 : hl_inb (nI (30 + 7 * c + k)) 490 = true := hl_inb_nI (by omega) (by decide)
  have h2 : (nI (30 + 7 * c + k)).toNatClampNeg = 30 + 7 * c + k := nI_clamp (by omega)
  simp only [hl_r155_0, hl_r155_1, hl_r155_4, hl_r155_6, hl_r155_8, hl_r155_9, hl_r155_10, hl_r155_11, hl_r155_12, hl_r155_13, hl_r155_14, hl_o_85, hl_p_85_3, hl_p_85_4, hl_p_85_5, hl_p_85_6, hl_p_85_19, hl_p_85_23, hl_p_85_24, hl_p_85_25, hl_p_85_26, hl_p_85_27, hl_p_85_28, hl_p_85_29, hl_p_85_30, hl_p_85_31, hl_p_85_33, hl_p_85_34, hl_p_85_35, hl_p_85_36, hl_p_85_37, hl_a_86, hl_z_86, hl_ix, h1, h2, hl_kill_i, hl_kill_r, hl_kill_n, hl_kill_l, hl_tl_s, hl_tl_n, hl_cal_some, hl_gI, hl_gJ, hl_gsI, hl_gsJ, hl_tv01, if_true, if_false, hl_up_a, hl_row_a]
theorem hl_s156 {h : Nat} (hh : h < 5) : hl_call (d + 1) 156 [.ref 85, .int (nI h)] (hl_g N I J) = some (some (.int (I 86 (10 + h))), hl_g N I J) := by
  rw [hl_e156]
  have h0 : (10 : Int32) + nI h = nI (10 + h) := nI_add 10 h
  have h1 : hl_inb (nI (10 + h)) 490 = true := hl_inb_nI (by omega) (by decide)
  have h2 : (nI (10 + h)).toNatClampNeg = 10 + h := nI_clamp (by omega)
  simp only [hl_r156_0, hl_r156_1, hl_r156_4, hl_r156_6, hl_r156_7, hl_r156_8, hl_r156_9, hl_o_85, hl_p_85_3, hl_p_85_4, hl_p_85_5, hl_p_85_6, hl_p_85_19, hl_p_85_23, hl_p_85_24, hl_p_85_25, hl_p_85_26, hl_p_85_27, hl_p_85_28, hl_p_85_29, hl_p_85_30, hl_p_85_31, hl_p_85_33, hl_p_85_34, hl_p_85_35, hl_p_85_36, hl_p_85_37, hl_a_86, hl_z_86, h0, h1, h2, hl_kill_i, hl_kill_r, hl_kill_n, hl_kill_l, hl_tl_s, hl_tl_n, hl_cal_some, hl_gI, hl_gJ, hl_gsI, hl_gsJ, hl_tv01, if_true, if_false, hl_up_a, hl_row_a]
theorem hl_s152 {x : Int32} : hl_call (d + 1) 152 [.int x] w = some (some (.int (hl_abs x)), w) := by
  rw [hl_e152]
  unfold hl_abs
  by_cases h : x < 0
  · simp only [hl_r152_0, hl_r152_1, hl_r152_4, hl_r152_5, hl_r152_6, hl_r152_9, hl_r152_10, h, Int32.not_le.mpr h, Int32.zero_sub, hl_kill_i, hl_kill_r, hl_kill_n, hl_kill_l, hl_tl_s, hl_tl_n, hl_cal_some, hl_gI, hl_gJ, hl_gsI, hl_gsJ, hl_tv01, if_true, if_false, hl_up_a, hl_row_a]
  · simp only [hl_r152_0, hl_r152_1, hl_r152_4, hl_r152_5, hl_r152_6, hl_r152_9, hl_r152_10, h, Int32.not_lt.mp h, hl_kill_i, hl_kill_r, hl_kill_n, hl_kill_l, hl_tl_s, hl_tl_n, hl_cal_some, hl_gI, hl_gJ, hl_gsI, hl_gsJ, hl_tv01, if_true, if_false, hl_up_a, hl_row_a]
theorem hl_s10 {x y b : Int32} (hx : hl_inb x N = true) (hy : hl_inb y 4 = true) : hl_call (d + 1) 10 [.ref 1, .int x, .int y, .int b] (hl_g N I J) = some (some (.int (I 9 y.toNatClampNeg - I 2 x.toNatClampNeg + (if b = 0 then 0 else 60))), hl_g N I J) := by
  rw [hl_e10]
  by_cases hb : b = 0 <;> simp only [hl_r10_0, hl_r10_1, hl_r10_4, hl_r10_5, hl_r10_6, hl_r10_7, hl_r10_10, hl_r10_11, hl_r10_12, hl_r10_13, hl_r10_14, hl_r10_17, hl_r10_19, hl_r10_22, hl_r10_23, hl_r10_24, hl_o_1, hl_p_1_0, hl_p_1_1, hl_p_1_2, hl_p_1_3, hl_p_1_4, hl_p_1_5, hl_p_1_6, hl_p_1_7, hl_p_1_9, hl_p_1_14, hl_p_1_15, hl_a_9, hl_z_9, hl_a_2, hl_z_2, hx, hy, hb, hl_kill_i, hl_kill_r, hl_kill_n, hl_kill_l, hl_tl_s, hl_tl_n, hl_cal_some, hl_gI, hl_gJ, hl_gsI, hl_gsJ, hl_tv01, if_true, if_false, hl_up_a, hl_row_a]
/-- summer from a to b, round the year -/
def hl_smr (a b m : Int32) : Bool := if a = -1 then false else if a ≤ b then hl_in m a b else decide (a ≤ m) || decide (m ≤ b)
theorem hl_s9 {m : Int32} : hl_call (d + 2) 9 [.ref 1, .int m] (hl_g N I J) = some (some (.int (hl_tv (hl_smr (I 1 10) (I 1 11) m))), hl_g N I J) := by
  rw [hl_e9]
  unfold hl_smr
  by_cases h : I 1 10 = -1
  · simp only [hl_r9_0, hl_r9_1, hl_r9_4, hl_r9_5, hl_r9_8, hl_r9_9, hl_r9_10, hl_r9_11, hl_r9_14, hl_r9_15, hl_r9_18, hl_r9_21, hl_r9_22, hl_r9_23, hl_r9_26, hl_r9_27, hl_r9_30, hl_r9_33, hl_r9_34, hl_r9_35, hl_r9_36, hl_r9_39, hl_r9_42, hl_r9_43, hl_r9_44, hl_r9_47, hl_r9_50, hl_r9_51, hl_r9_54, hl_r9_55, hl_o_1, hl_p_1_0, hl_p_1_1, hl_p_1_2, hl_p_1_3, hl_p_1_4, hl_p_1_5, hl_p_1_6, hl_p_1_7, hl_p_1_9, hl_p_1_14, hl_p_1_15, h, not_true, true_or, hl_tv_f, hl_kill_i, hl_kill_r, hl_kill_n, hl_kill_l, hl_tl_s, hl_tl_n, hl_cal_some, hl_gI, hl_gJ, hl_gsI, hl_gsJ, hl_tv01, if_true, if_false, hl_up_a, hl_row_a]
  · by_cases h2 : I 1 10 ≤ I 1 11
    · simp only [hl_r9_0, hl_r9_1, hl_r9_4, hl_r9_5, hl_r9_8, hl_r9_9, hl_r9_10, hl_r9_11, hl_r9_14, hl_r9_15, hl_r9_18, hl_r9_21, hl_r9_22, hl_r9_23, hl_r9_26, hl_r9_27, hl_r9_30, hl_r9_33, hl_r9_34, hl_r9_35, hl_r9_36, hl_r9_39, hl_r9_42, hl_r9_43, hl_r9_44, hl_r9_47, hl_r9_50, hl_r9_51, hl_r9_54, hl_r9_55, hl_o_1, hl_p_1_0, hl_p_1_1, hl_p_1_2, hl_p_1_3, hl_p_1_4, hl_p_1_5, hl_p_1_6, hl_p_1_7, hl_p_1_9, hl_p_1_14, hl_p_1_15, h, h2, not_false_eq_true, Int32.not_lt.mpr h2, hl_s147, hl_kill_i, hl_kill_r, hl_kill_n, hl_kill_l, hl_tl_s, hl_tl_n, hl_cal_some, hl_gI, hl_gJ, hl_gsI, hl_gsJ, hl_tv01, if_true, if_false, hl_up_a, hl_row_a]
    · have h2' := Int32.not_le.mp h2
      by_cases h3 : I 1 10 ≤ m
      · simp only [hl_r9_0, hl_r9_1, hl_r9_4, hl_r9_5, hl_r9_8, hl_r9_9, hl_r9_10, hl_r9_11, hl_r9_14, hl_r9_15, hl_r9_18, hl_r9_21, hl_r9_22, hl_r9_23, hl_r9_26, hl_r9_27, hl_r9_30, hl_r9_33, hl_r9_34, hl_r9_35, hl_r9_36, hl_r9_39, hl_r9_42, hl_r9_43, hl_r9_44, hl_r9_47, hl_r9_50, hl_r9_51, hl_r9_54, hl_r9_55, hl_o_1, hl_p_1_0, hl_p_1_1, hl_p_1_2, hl_p_1_3, hl_p_1_4, hl_p_1_5, hl_p_1_6, hl_p_1_7, hl_p_1_9, hl_p_1_14, hl_p_1_15, h, h2, h2', h3, not_false_eq_true, decide_true, Bool.true_or, or_true, hl_tv_t, hl_kill_i, hl_kill_r, hl_kill_n, hl_kill_l, hl_tl_s, hl_tl_n, hl_cal_some, hl_gI, hl_gJ, hl_gsI, hl_gsJ, hl_tv01, if_true, if_false, hl_up_a, hl_row_a]
      · by_cases h4 : I 1 11 < m
        · simp only [hl_r9_0, hl_r9_1, hl_r9_4, hl_r9_5, hl_r9_8, hl_r9_9, hl_r9_10, hl_r9_11, hl_r9_14, hl_r9_15, hl_r9_18, hl_r9_21, hl_r9_22, hl_r9_23, hl_r9_26, hl_r9_27, hl_r9_30, hl_r9_33, hl_r9_34, hl_r9_35, hl_r9_36, hl_r9_39, hl_r9_42, hl_r9_43, hl_r9_44, hl_r9_47, hl_r9_50, hl_r9_51, hl_r9_54, hl_r9_55, hl_o_1, hl_p_1_0, hl_p_1_1, hl_p_1_2, hl_p_1_3, hl_p_1_4, hl_p_1_5, hl_p_1_6, hl_p_1_7, hl_p_1_9, hl_p_1_14, hl_p_1_15, h, h2, h2', h3, h4, Int32.not_le.mpr h4, not_false_eq_true, decide_false, Bool.or_false, true_or, hl_tv_f, hl_kill_i, hl_kill_r, hl_kill_n, hl_kill_l, hl_tl_s, hl_tl_n, hl_cal_some, hl_gI, hl_gJ, hl_gsI, hl_gsJ, hl_tv01, if_true, if_false, hl_up_a, hl_row_a]
        · simp only [hl_r9_0, hl_r9_1, hl_r9_4, hl_r9_5, hl_r9_8, hl_r9_9, hl_r9_10, hl_r9_11, hl_r9_14, hl_r9_15, hl_r9_18, hl_r9_21, hl_r9_22, hl_r9_23, hl_r9_26, hl_r9_27, hl_r9_30, hl_r9_33, hl_r9_34, hl_r9_35, hl_r9_36, hl_r9_39, hl_r9_42, hl_r9_43, hl_r9_44, hl_r9_47, hl_r9_50, hl_r9_51, hl_r9_54, hl_r9_55, hl_o_1, hl_p_1_0, hl_p_1_1, hl_p_1_2, hl_p_1_3, hl_p_1_4, hl_p_1_5, hl_p_1_6, hl_p_1_7, hl_p_1_9, hl_p_1_14, hl_p_1_15, h, h2, h2', h3, h4, Int32.not_lt.mp h4, not_false_eq_true, decide_true, decide_false, Bool.or_true, or_true, hl_tv_t, hl_kill_i, hl_kill_r, hl_kill_n, hl_kill_l, hl_tl_s, hl_tl_n, hl_cal_some, hl_gI, hl_gJ, hl_gsI, hl_gsJ, hl_tv01, if_true, if_false, hl_up_a, hl_row_a]
def hl_drk (r b o : Int32) : Int32 := if 0 < r - (b - o) then r - (b - o) else 0
theorem hl_s11 {x m o : Int32} (hx : hl_inb x N = true) (hm : hl_inb m 12 = true) : hl_call (d + 1) 11 [.ref 1, .int x, .int m, .int o] (hl_g N I J) = some (some (.int (hl_drk (I 10 m.toNatClampNeg) (I 5 x.toNatClampNeg) o)), hl_g N I J) := by
  rw [hl_e11]
  unfold hl_drk
  simp only [hl_r11_0, hl_r11_1, hl_r11_2, hl_r11_5, hl_r11_6, hl_r11_7, hl_r11_8, hl_r11_11, hl_r11_12, hl_r11_13, hl_r11_14, hl_r11_15, hl_r11_16, hl_r11_19, hl_o_1, hl_p_1_0, hl_p_1_1, hl_p_1_2, hl_p_1_3, hl_p_1_4, hl_p_1_5, hl_p_1_6, hl_p_1_7, hl_p_1_9, hl_p_1_14, hl_p_1_15, hl_a_10, hl_z_10, hl_a_5, hl_z_5, hx, hm, hl_kill_i, hl_kill_r, hl_kill_n, hl_kill_l, hl_tl_s, hl_tl_n, hl_cal_some, hl_gI, hl_gJ, hl_gsI, hl_gsJ, hl_tv01, if_true, if_false, hl_up_a, hl_row_a]
/-- what a tie pays by the hours in the row h -/
def hl_tie (I : Nat → Nat → Int32) (h k : Nat) : Int32 := I 14 k * hl_abs (I 9 (I h (I 12 k).toNatClampNeg).toNatClampNeg - I 9 (I h (I 13 k).toNatClampNeg).toNatClampNeg)
theorem hl_l83 {c : hl_C} {h cnt : Nat} (hh : hl_ar (hl_g N I J) h 0 = true) (hz : (hl_k (hl_g N I J) h).2 = N) (hc : I 11 3 = nI cnt) (hc40 : cnt ≤ 40) (h1 : ∀ k, k < cnt → hl_inb (I 12 k) N = true) (h2 : ∀ k, k < cnt → hl_inb (I 13 k) N = true) (h3 : ∀ x : Int32, hl_inb x N = true → hl_inb (I h x.toNatClampNeg) 4 = true) (m : Nat) : ∀ k, k + m = cnt → hl_Run 83 c 5 [.ref 11, .ref h, .ref 9, .int (hl_sum k (hl_tie I h)), .int (nI k)] [] (hl_g N I J) = some (some (.int (hl_sum cnt (hl_tie I h))), hl_g N I J) := by
  induction m with
  | zero =>
    intro k hk
    obtain rfl : k = cnt := by omega
    simp only [hl_r83_0, hl_r83_1, hl_r83_2, hl_r83_3, hl_r83_5, hl_r83_7, hl_r83_8, hl_r83_11, hl_r83_14, hl_r83_15, hl_r83_16, hl_r83_19, hl_r83_21, hl_r83_22, hl_r83_23, hl_r83_24, hl_r83_25, hl_r83_28, hl_r83_30, hl_r83_31, hl_r83_32, hl_r83_33, hl_r83_34, hl_r83_35, hl_r83_36, hl_r83_39, hl_r83_41, hl_r83_42, hl_r83_43, hl_r83_44, hl_r83_45, hl_r83_48, hl_r83_49, hl_r83_50, hl_r83_51, hl_r83_54, hl_r83_57, hl_r83_58, hl_o_11, hl_p_11_0, hl_p_11_1, hl_p_11_2, hc, Int32.le_refl, hl_kill_i, hl_kill_r, hl_kill_n, hl_kill_l, hl_tl_s, hl_tl_n, hl_cal_some, hl_gI, hl_gJ, hl_gsI, hl_gsJ, hl_tv01, if_true, if_false, hl_up_a, hl_row_a]
  | succ m ih =>
    intro k hk
    have hlt : ¬ nI cnt ≤ nI k := nI_ge (by omega) (by omega)
    have k40 : hl_inb (nI k) 40 = true := hl_inb_nI (by omega) (by decide)
    have kc : (nI k).toNatClampNeg = k := nI_clamp (by omega)
    have a1 := h1 k (by omega)
    have a2 := h2 k (by omega)
    have e := ih (k + 1) (by omega)
    rw [show hl_sum (k + 1) (hl_tie I h) = hl_sum k (hl_tie I h) + hl_tie I h k from rfl, nI_succ] at e
    rw [hl_r83_5]
    simp only [hl_r83_0, hl_r83_1, hl_r83_2, hl_r83_3, hl_r83_7, hl_r83_8, hl_r83_11, hl_r83_14, hl_r83_15, hl_r83_16, hl_r83_19, hl_r83_21, hl_r83_22, hl_r83_23, hl_r83_24, hl_r83_25, hl_r83_28, hl_r83_30, hl_r83_31, hl_r83_32, hl_r83_33, hl_r83_34, hl_r83_35, hl_r83_36, hl_r83_39, hl_r83_41, hl_r83_42, hl_r83_43, hl_r83_44, hl_r83_45, hl_r83_48, hl_r83_49, hl_r83_50, hl_r83_51, hl_r83_54, hl_r83_57, hl_r83_58, hl_o_11, hl_p_11_0, hl_p_11_1, hl_p_11_2, hl_a_12, hl_z_12, hl_a_13, hl_z_13, hl_a_14, hl_z_14, hl_a_9, hl_z_9, hc, hlt, k40, kc, hh, hz, a1, a2, h3 _ a1, h3 _ a2, hl_kill_i, hl_kill_r, hl_kill_n, hl_kill_l, hl_tl_s, hl_tl_n, hl_cal_some, hl_gI, hl_gJ, hl_gsI, hl_gsJ, hl_tv01, if_true, if_false, hl_up_a, hl_row_a]
    exact e
theorem hl_s83 {h cnt : Nat} (hh : hl_ar (hl_g N I J) h 0 = true) (hz : (hl_k (hl_g N I J) h).2 = N) (hc : I 11 3 = nI cnt) (hc40 : cnt ≤ 40) (h1 : ∀ k, k < cnt → hl_inb (I 12 k) N = true) (h2 : ∀ k, k < cnt → hl_inb (I 13 k) N = true) (h3 : ∀ x : Int32, hl_inb x N = true → hl_inb (I h x.toNatClampNeg) 4 = true) : hl_call (d + 1) 83 [.ref 11, .ref h, .ref 9] (hl_g N I J) = some (some (.int (hl_sum cnt (hl_tie I h))), hl_g N I J) := by
  rw [hl_e83]
  rw [hl_r83_0, hl_r83_1, hl_r83_2, hl_r83_3]
  exact hl_l83 hh hz hc hc40 h1 h2 h3 cnt 0 (Nat.zero_add _)
end HLB
