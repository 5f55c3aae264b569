/-! what the constructors make (printed by wip/whole/gen_cons2.py) -/
theorem hl_lz2 : ((2 : Int32) < 0) = False := by decide
theorem hl_lv2 : (2 : Int32).toNatClampNeg = 2 := id rfl
theorem hl_lz3 : ((3 : Int32) < 0) = False := by decide
theorem hl_lv3 : (3 : Int32).toNatClampNeg = 3 := id rfl
theorem hl_lz4 : ((4 : Int32) < 0) = False := by decide
theorem hl_lv4 : (4 : Int32).toNatClampNeg = 4 := id rfl
theorem hl_lz6 : ((6 : Int32) < 0) = False := by decide
theorem hl_lv6 : (6 : Int32).toNatClampNeg = 6 := id rfl
theorem hl_lz9 : ((9 : Int32) < 0) = False := by decide
theorem hl_lv9 : (9 : Int32).toNatClampNeg = 9 := id rfl
theorem hl_lz12 : ((12 : Int32) < 0) = False := by decide
theorem hl_lv12 : (12 : Int32).toNatClampNeg = 12 := id rfl
theorem hl_lz40 : ((40 : Int32) < 0) = False := by decide
theorem hl_lv40 : (40 : Int32).toNatClampNeg = 40 := id rfl
theorem hl_lz64 : ((64 : Int32) < 0) = False := by decide
theorem hl_lv64 : (64 : Int32).toNatClampNeg = 64 := id rfl
theorem hl_lz72 : ((72 : Int32) < 0) = False := by decide
theorem hl_lv72 : (72 : Int32).toNatClampNeg = 72 := id rfl
theorem hl_lz74 : ((74 : Int32) < 0) = False := by decide
theorem hl_lv74 : (74 : Int32).toNatClampNeg = 74 := id rfl
theorem hl_lz160 : ((160 : Int32) < 0) = False := by decide
theorem hl_lv160 : (160 : Int32).toNatClampNeg = 160 := id rfl
theorem hl_lz300 : ((300 : Int32) < 0) = False := by decide
theorem hl_lv300 : (300 : Int32).toNatClampNeg = 300 := id rfl
theorem hl_lz330 : ((330 : Int32) < 0) = False := by decide
theorem hl_lv330 : (330 : Int32).toNatClampNeg = 330 := id rfl
theorem hl_lz432 : ((432 : Int32) < 0) = False := by decide
theorem hl_lv432 : (432 : Int32).toNatClampNeg = 432 := id rfl
theorem hl_lz490 : ((490 : Int32) < 0) = False := by decide
theorem hl_lv490 : (490 : Int32).toNatClampNeg = 490 := id rfl
theorem hl_lz800 : ((800 : Int32) < 0) = False := by decide
theorem hl_lv800 : (800 : Int32).toNatClampNeg = 800 := id rfl
theorem hl_lz3200 : ((3200 : Int32) < 0) = False := by decide
theorem hl_lv3200 : (3200 : Int32).toNatClampNeg = 3200 := id rfl
theorem hl_lz5476 : ((5476 : Int32) < 0) = False := by decide
theorem hl_lv5476 : (5476 : Int32).toNatClampNeg = 5476 := id rfl
theorem hl_lz24 : ((24 : Int32) < 0) = False := by decide
theorem hl_lv24 : (24 : Int32).toNatClampNeg = 24 := id rfl
theorem hl_lz96 : ((96 : Int32) < 0) = False := by decide
theorem hl_lv96 : (96 : Int32).toNatClampNeg = 96 := id rfl
section HLD
variable {d N : Nat} {P : Nat → Nat → Option Nat} {I : Nat → Nat → Int32}
theorem hl_i80_11 (hP : ∀ a, 11 ≤ a → P a = fun _ => none) (hI : ∀ a, 11 ≤ a → I a = fun _ => 0) : hl_call (d + 1) 80 [.ref 11] (hl_q N 12 P I) = some (none, hl_q N 15 (hl_up (hl_up (hl_up P 11 0 (some 12)) 11 1 (some 13)) 11 2 (some 14)) I) := by
  have p11 := hP 11 (by omega)
  have i11 := hI 11 (by omega)
  have p12 := hP 12 (by omega)
  have i12 := hI 12 (by omega)
  have p13 := hP 13 (by omega)
  have i13 := hI 13 (by omega)
  have p14 := hP 14 (by omega)
  have i14 := hI 14 (by omega)
  rw [hl_e80]
  simp only [hl_r80_0, hl_r80_4, hl_r80_5, hl_r80_12, hl_r80_13, hl_r80_20, hl_r80_21, hl_r80_28, hl_r80_1, hl_r80_7, hl_r80_9, hl_r80_15, hl_r80_17, hl_r80_23, hl_r80_25, p11, i11, p12, i12, p13, i13, p14, i14, hl_gk_11, hl_gk_12, hl_gk_13, hl_gk_14, hl_q_n, hl_q_P, hl_q_I, hl_q_new, hl_q_sP, hl_q_sI, hl_q_ob, hl_q_ar, hl_q_k, hl_up_ne, hl_up_a, hl_row_ne, hl_lz2, hl_lv2, hl_lz3, hl_lv3, hl_lz4, hl_lv4, hl_lz6, hl_lv6, hl_lz9, hl_lv9, hl_lz12, hl_lv12, hl_lz40, hl_lv40, hl_lz64, hl_lv64, hl_lz72, hl_lv72, hl_lz74, hl_lv74, hl_lz160, hl_lv160, hl_lz300, hl_lv300, hl_lz330, hl_lv330, hl_lz432, hl_lv432, hl_lz490, hl_lv490, hl_lz800, hl_lv800, hl_lz3200, hl_lv3200, hl_lz5476, hl_lv5476, hl_lz24, hl_lv24, hl_lz96, hl_lv96, hl_N_0, hl_N_1, hl_N_2, hl_N_3, hl_N_4, hl_N_5, hl_N_6, hl_N_7, hl_N_8, hl_N_9, hl_N_10, hl_N_11, hl_N_12, not_false_eq_true, and_self, and_true, true_and, hl_tl_s, hl_tl_n, hl_cal_some, hl_kill_i, hl_kill_r, hl_kill_n, Nat.reduceAdd, Nat.reduceEqDiff, ne_eq, Nat.reduceLT, Nat.reduceLeDiff, Nat.lt_add_one]
theorem hl_i80_29 (hP : ∀ a, 29 ≤ a → P a = fun _ => none) (hI : ∀ a, 29 ≤ a → I a = fun _ => 0) : hl_call (d + 1) 80 [.ref 29] (hl_q N 30 P I) = some (none, hl_q N 33 (hl_up (hl_up (hl_up P 29 0 (some 30)) 29 1 (some 31)) 29 2 (some 32)) I) := by
  have p29 := hP 29 (by omega)
  have i29 := hI 29 (by omega)
  have p30 := hP 30 (by omega)
  have i30 := hI 30 (by omega)
  have p31 := hP 31 (by omega)
  have i31 := hI 31 (by omega)
  have p32 := hP 32 (by omega)
  have i32 := hI 32 (by omega)
  rw [hl_e80]
  simp only [hl_r80_0, hl_r80_4, hl_r80_5, hl_r80_12, hl_r80_13, hl_r80_20, hl_r80_21, hl_r80_28, hl_r80_1, hl_r80_7, hl_r80_9, hl_r80_15, hl_r80_17, hl_r80_23, hl_r80_25, p29, i29, p30, i30, p31, i31, p32, i32, hl_gk_29, hl_gk_30, hl_gk_31, hl_gk_32, hl_q_n, hl_q_P, hl_q_I, hl_q_new, hl_q_sP, hl_q_sI, hl_q_ob, hl_q_ar, hl_q_k, hl_up_ne, hl_up_a, hl_row_ne, hl_lz2, hl_lv2, hl_lz3, hl_lv3, hl_lz4, hl_lv4, hl_lz6, hl_lv6, hl_lz9, hl_lv9, hl_lz12, hl_lv12, hl_lz40, hl_lv40, hl_lz64, hl_lv64, hl_lz72, hl_lv72, hl_lz74, hl_lv74, hl_lz160, hl_lv160, hl_lz300, hl_lv300, hl_lz330, hl_lv330, hl_lz432, hl_lv432, hl_lz490, hl_lv490, hl_lz800, hl_lv800, hl_lz3200, hl_lv3200, hl_lz5476, hl_lv5476, hl_lz24, hl_lv24, hl_lz96, hl_lv96, hl_N_0, hl_N_1, hl_N_2, hl_N_3, hl_N_4, hl_N_5, hl_N_6, hl_N_7, hl_N_8, hl_N_9, hl_N_10, hl_N_11, hl_N_12, not_false_eq_true, and_self, and_true, true_and, hl_tl_s, hl_tl_n, hl_cal_some, hl_kill_i, hl_kill_r, hl_kill_n, Nat.reduceAdd, Nat.reduceEqDiff, ne_eq, Nat.reduceLT, Nat.reduceLeDiff, Nat.lt_add_one]
theorem hl_i91_15 (hP : ∀ a, 15 ≤ a → P a = fun _ => none) (hI : ∀ a, 15 ≤ a → I a = fun _ => 0) : hl_call (d + 1) 91 [.ref 15] (hl_q N 16 P I) = some (none, hl_q N 19 (hl_up (hl_up (hl_up P 15 0 (some 16)) 15 1 (some 17)) 15 2 (some 18)) I) := by
  have p15 := hP 15 (by omega)
  have i15 := hI 15 (by omega)
  have p16 := hP 16 (by omega)
  have i16 := hI 16 (by omega)
  have p17 := hP 17 (by omega)
  have i17 := hI 17 (by omega)
  have p18 := hP 18 (by omega)
  have i18 := hI 18 (by omega)
  rw [hl_e91]
  simp only [hl_r91_0, hl_r91_4, hl_r91_5, hl_r91_12, hl_r91_13, hl_r91_20, hl_r91_21, hl_r91_28, hl_r91_1, hl_r91_7, hl_r91_9, hl_r91_15, hl_r91_17, hl_r91_23, hl_r91_25, p15, i15, p16, i16, p17, i17, p18, i18, hl_gk_15, hl_gk_16, hl_gk_17, hl_gk_18, hl_q_n, hl_q_P, hl_q_I, hl_q_new, hl_q_sP, hl_q_sI, hl_q_ob, hl_q_ar, hl_q_k, hl_up_ne, hl_up_a, hl_row_ne, hl_lz2, hl_lv2, hl_lz3, hl_lv3, hl_lz4, hl_lv4, hl_lz6, hl_lv6, hl_lz9, hl_lv9, hl_lz12, hl_lv12, hl_lz40, hl_lv40, hl_lz64, hl_lv64, hl_lz72, hl_lv72, hl_lz74, hl_lv74, hl_lz160, hl_lv160, hl_lz300, hl_lv300, hl_lz330, hl_lv330, hl_lz432, hl_lv432, hl_lz490, hl_lv490, hl_lz800, hl_lv800, hl_lz3200, hl_lv3200, hl_lz5476, hl_lv5476, hl_lz24, hl_lv24, hl_lz96, hl_lv96, hl_N_0, hl_N_1, hl_N_2, hl_N_3, hl_N_4, hl_N_5, hl_N_6, hl_N_7, hl_N_8, hl_N_9, hl_N_10, hl_N_11, hl_N_12, not_false_eq_true, and_self, and_true, true_and, hl_tl_s, hl_tl_n, hl_cal_some, hl_kill_i, hl_kill_r, hl_kill_n, Nat.reduceAdd, Nat.reduceEqDiff, ne_eq, Nat.reduceLT, Nat.reduceLeDiff, Nat.lt_add_one]
theorem hl_i91_33 (hP : ∀ a, 33 ≤ a → P a = fun _ => none) (hI : ∀ a, 33 ≤ a → I a = fun _ => 0) : hl_call (d + 1) 91 [.ref 33] (hl_q N 34 P I) = some (none, hl_q N 37 (hl_up (hl_up (hl_up P 33 0 (some 34)) 33 1 (some 35)) 33 2 (some 36)) I) := by
  have p33 := hP 33 (by omega)
  have i33 := hI 33 (by omega)
  have p34 := hP 34 (by omega)
  have i34 := hI 34 (by omega)
  have p35 := hP 35 (by omega)
  have i35 := hI 35 (by omega)
  have p36 := hP 36 (by omega)
  have i36 := hI 36 (by omega)
  rw [hl_e91]
  simp only [hl_r91_0, hl_r91_4, hl_r91_5, hl_r91_12, hl_r91_13, hl_r91_20, hl_r91_21, hl_r91_28, hl_r91_1, hl_r91_7, hl_r91_9, hl_r91_15, hl_r91_17, hl_r91_23, hl_r91_25, p33, i33, p34, i34, p35, i35, p36, i36, hl_gk_33, hl_gk_34, hl_gk_35, hl_gk_36, hl_q_n, hl_q_P, hl_q_I, hl_q_new, hl_q_sP, hl_q_sI, hl_q_ob, hl_q_ar, hl_q_k, hl_up_ne, hl_up_a, hl_row_ne, hl_lz2, hl_lv2, hl_lz3, hl_lv3, hl_lz4, hl_lv4, hl_lz6, hl_lv6, hl_lz9, hl_lv9, hl_lz12, hl_lv12, hl_lz40, hl_lv40, hl_lz64, hl_lv64, hl_lz72, hl_lv72, hl_lz74, hl_lv74, hl_lz160, hl_lv160, hl_lz300, hl_lv300, hl_lz330, hl_lv330, hl_lz432, hl_lv432, hl_lz490, hl_lv490, hl_lz800, hl_lv800, hl_lz3200, hl_lv3200, hl_lz5476, hl_lv5476, hl_lz24, hl_lv24, hl_lz96, hl_lv96, hl_N_0, hl_N_1, hl_N_2, hl_N_3, hl_N_4, hl_N_5, hl_N_6, hl_N_7, hl_N_8, hl_N_9, hl_N_10, hl_N_11, hl_N_12, not_false_eq_true, and_self, and_true, true_and, hl_tl_s, hl_tl_n, hl_cal_some, hl_kill_i, hl_kill_r, hl_kill_n, Nat.reduceAdd, Nat.reduceEqDiff, ne_eq, Nat.reduceLT, Nat.reduceLeDiff, Nat.lt_add_one]
theorem hl_i72_39 (hP : ∀ a, 39 ≤ a → P a = fun _ => none) (hI : ∀ a, 39 ≤ a → I a = fun _ => 0) : hl_call (d + 1) 72 [.ref 39] (hl_q N 40 P I) = some (none, hl_q N 43 (hl_up (hl_up (hl_up P 39 0 (some 40)) 39 1 (some 41)) 39 2 (some 42)) I) := by
  have p39 := hP 39 (by omega)
  have i39 := hI 39 (by omega)
  have p40 := hP 40 (by omega)
  have i40 := hI 40 (by omega)
  have p41 := hP 41 (by omega)
  have i41 := hI 41 (by omega)
  have p42 := hP 42 (by omega)
  have i42 := hI 42 (by omega)
  rw [hl_e72]
  simp only [hl_r72_0, hl_r72_4, hl_r72_5, hl_r72_13, hl_r72_14, hl_r72_20, hl_r72_21, hl_r72_27, hl_r72_1, hl_r72_8, hl_r72_10, hl_r72_15, hl_r72_17, hl_r72_22, hl_r72_24, p39, i39, p40, i40, p41, i41, p42, i42, hl_gk_39, hl_gk_40, hl_gk_41, hl_gk_42, hl_q_n, hl_q_P, hl_q_I, hl_q_new, hl_q_sP, hl_q_sI, hl_q_ob, hl_q_ar, hl_q_k, hl_up_ne, hl_up_a, hl_row_ne, hl_lz2, hl_lv2, hl_lz3, hl_lv3, hl_lz4, hl_lv4, hl_lz6, hl_lv6, hl_lz9, hl_lv9, hl_lz12, hl_lv12, hl_lz40, hl_lv40, hl_lz64, hl_lv64, hl_lz72, hl_lv72, hl_lz74, hl_lv74, hl_lz160, hl_lv160, hl_lz300, hl_lv300, hl_lz330, hl_lv330, hl_lz432, hl_lv432, hl_lz490, hl_lv490, hl_lz800, hl_lv800, hl_lz3200, hl_lv3200, hl_lz5476, hl_lv5476, hl_lz24, hl_lv24, hl_lz96, hl_lv96, hl_N_0, hl_N_1, hl_N_2, hl_N_3, hl_N_4, hl_N_5, hl_N_6, hl_N_7, hl_N_8, hl_N_9, hl_N_10, hl_N_11, hl_N_12, not_false_eq_true, and_self, and_true, true_and, hl_tl_s, hl_tl_n, hl_cal_some, hl_kill_i, hl_kill_r, hl_kill_n, Nat.reduceAdd, Nat.reduceEqDiff, ne_eq, Nat.reduceLT, Nat.reduceLeDiff, Nat.lt_add_one]
theorem hl_i72_44 (hP : ∀ a, 44 ≤ a → P a = fun _ => none) (hI : ∀ a, 44 ≤ a → I a = fun _ => 0) : hl_call (d + 1) 72 [.ref 44] (hl_q N 45 P I) = some (none, hl_q N 48 (hl_up (hl_up (hl_up P 44 0 (some 45)) 44 1 (some 46)) 44 2 (some 47)) I) := by
  have p44 := hP 44 (by omega)
  have i44 := hI 44 (by omega)
  have p45 := hP 45 (by omega)
  have i45 := hI 45 (by omega)
  have p46 := hP 46 (by omega)
  have i46 := hI 46 (by omega)
  have p47 := hP 47 (by omega)
  have i47 := hI 47 (by omega)
  rw [hl_e72]
  simp only [hl_r72_0, hl_r72_4, hl_r72_5, hl_r72_13, hl_r72_14, hl_r72_20, hl_r72_21, hl_r72_27, hl_r72_1, hl_r72_8, hl_r72_10, hl_r72_15, hl_r72_17, hl_r72_22, hl_r72_24, p44, i44, p45, i45, p46, i46, p47, i47, hl_gk_44, hl_gk_45, hl_gk_46, hl_gk_47, hl_q_n, hl_q_P, hl_q_I, hl_q_new, hl_q_sP, hl_q_sI, hl_q_ob, hl_q_ar, hl_q_k, hl_up_ne, hl_up_a, hl_row_ne, hl_lz2, hl_lv2, hl_lz3, hl_lv3, hl_lz4, hl_lv4, hl_lz6, hl_lv6, hl_lz9, hl_lv9, hl_lz12, hl_lv12, hl_lz40, hl_lv40, hl_lz64, hl_lv64, hl_lz72, hl_lv72, hl_lz74, hl_lv74, hl_lz160, hl_lv160, hl_lz300, hl_lv300, hl_lz330, hl_lv330, hl_lz432, hl_lv432, hl_lz490, hl_lv490, hl_lz800, hl_lv800, hl_lz3200, hl_lv3200, hl_lz5476, hl_lv5476, hl_lz24, hl_lv24, hl_lz96, hl_lv96, hl_N_0, hl_N_1, hl_N_2, hl_N_3, hl_N_4, hl_N_5, hl_N_6, hl_N_7, hl_N_8, hl_N_9, hl_N_10, hl_N_11, hl_N_12, not_false_eq_true, and_self, and_true, true_and, hl_tl_s, hl_tl_n, hl_cal_some, hl_kill_i, hl_kill_r, hl_kill_n, Nat.reduceAdd, Nat.reduceEqDiff, ne_eq, Nat.reduceLT, Nat.reduceLeDiff, Nat.lt_add_one]
theorem hl_i72_48 (hP : ∀ a, 48 ≤ a → P a = fun _ => none) (hI : ∀ a, 48 ≤ a → I a = fun _ => 0) : hl_call (d + 1) 72 [.ref 48] (hl_q N 49 P I) = some (none, hl_q N 52 (hl_up (hl_up (hl_up P 48 0 (some 49)) 48 1 (some 50)) 48 2 (some 51)) I) := by
  have p48 := hP 48 (by omega)
  have i48 := hI 48 (by omega)
  have p49 := hP 49 (by omega)
  have i49 := hI 49 (by omega)
  have p50 := hP 50 (by omega)
  have i50 := hI 50 (by omega)
  have p51 := hP 51 (by omega)
  have i51 := hI 51 (by omega)
  rw [hl_e72]
  simp only [hl_r72_0, hl_r72_4, hl_r72_5, hl_r72_13, hl_r72_14, hl_r72_20, hl_r72_21, hl_r72_27, hl_r72_1, hl_r72_8, hl_r72_10, hl_r72_15, hl_r72_17, hl_r72_22, hl_r72_24, p48, i48, p49, i49, p50, i50, p51, i51, hl_gk_48, hl_gk_49, hl_gk_50, hl_gk_51, hl_q_n, hl_q_P, hl_q_I, hl_q_new, hl_q_sP, hl_q_sI, hl_q_ob, hl_q_ar, hl_q_k, hl_up_ne, hl_up_a, hl_row_ne, hl_lz2, hl_lv2, hl_lz3, hl_lv3, hl_lz4, hl_lv4, hl_lz6, hl_lv6, hl_lz9, hl_lv9, hl_lz12, hl_lv12, hl_lz40, hl_lv40, hl_lz64, hl_lv64, hl_lz72, hl_lv72, hl_lz74, hl_lv74, hl_lz160, hl_lv160, hl_lz300, hl_lv300, hl_lz330, hl_lv330, hl_lz432, hl_lv432, hl_lz490, hl_lv490, hl_lz800, hl_lv800, hl_lz3200, hl_lv3200, hl_lz5476, hl_lv5476, hl_lz24, hl_lv24, hl_lz96, hl_lv96, hl_N_0, hl_N_1, hl_N_2, hl_N_3, hl_N_4, hl_N_5, hl_N_6, hl_N_7, hl_N_8, hl_N_9, hl_N_10, hl_N_11, hl_N_12, not_false_eq_true, and_self, and_true, true_and, hl_tl_s, hl_tl_n, hl_cal_some, hl_kill_i, hl_kill_r, hl_kill_n, Nat.reduceAdd, Nat.reduceEqDiff, ne_eq, Nat.reduceLT, Nat.reduceLeDiff, Nat.lt_add_one]
theorem hl_i72_52 (hP : ∀ a, 52 ≤ a → P a = fun _ => none) (hI : ∀ a, 52 ≤ a → I a = fun _ => 0) : hl_call (d + 1) 72 [.ref 52] (hl_q N 53 P I) = some (none, hl_q N 56 (hl_up (hl_up (hl_up P 52 0 (some 53)) 52 1 (some 54)) 52 2 (some 55)) I) := by
  have p52 := hP 52 (by omega)
  have i52 := hI 52 (by omega)
  have p53 := hP 53 (by omega)
  have i53 := hI 53 (by omega)
  have p54 := hP 54 (by omega)
  have i54 := hI 54 (by omega)
  have p55 := hP 55 (by omega)
  have i55 := hI 55 (by omega)
  rw [hl_e72]
  simp only [hl_r72_0, hl_r72_4, hl_r72_5, hl_r72_13, hl_r72_14, hl_r72_20, hl_r72_21, hl_r72_27, hl_r72_1, hl_r72_8, hl_r72_10, hl_r72_15, hl_r72_17, hl_r72_22, hl_r72_24, p52, i52, p53, i53, p54, i54, p55, i55, hl_gk_52, hl_gk_53, hl_gk_54, hl_gk_55, hl_q_n, hl_q_P, hl_q_I, hl_q_new, hl_q_sP, hl_q_sI, hl_q_ob, hl_q_ar, hl_q_k, hl_up_ne, hl_up_a, hl_row_ne, hl_lz2, hl_lv2, hl_lz3, hl_lv3, hl_lz4, hl_lv4, hl_lz6, hl_lv6, hl_lz9, hl_lv9, hl_lz12, hl_lv12, hl_lz40, hl_lv40, hl_lz64, hl_lv64, hl_lz72, hl_lv72, hl_lz74, hl_lv74, hl_lz160, hl_lv160, hl_lz300, hl_lv300, hl_lz330, hl_lv330, hl_lz432, hl_lv432, hl_lz490, hl_lv490, hl_lz800, hl_lv800, hl_lz3200, hl_lv3200, hl_lz5476, hl_lv5476, hl_lz24, hl_lv24, hl_lz96, hl_lv96, hl_N_0, hl_N_1, hl_N_2, hl_N_3, hl_N_4, hl_N_5, hl_N_6, hl_N_7, hl_N_8, hl_N_9, hl_N_10, hl_N_11, hl_N_12, not_false_eq_true, and_self, and_true, true_and, hl_tl_s, hl_tl_n, hl_cal_some, hl_kill_i, hl_kill_r, hl_kill_n, Nat.reduceAdd, Nat.reduceEqDiff, ne_eq, Nat.reduceLT, Nat.reduceLeDiff, Nat.lt_add_one]
theorem hl_i72_56 (hP : ∀ a, 56 ≤ a → P a = fun _ => none) (hI : ∀ a, 56 ≤ a → I a = fun _ => 0) : hl_call (d + 1) 72 [.ref 56] (hl_q N 57 P I) = some (none, hl_q N 60 (hl_up (hl_up (hl_up P 56 0 (some 57)) 56 1 (some 58)) 56 2 (some 59)) I) := by
  have p56 := hP 56 (by omega)
  have i56 := hI 56 (by omega)
  have p57 := hP 57 (by omega)
  have i57 := hI 57 (by omega)
  have p58 := hP 58 (by omega)
  have i58 := hI 58 (by omega)
  have p59 := hP 59 (by omega)
  have i59 := hI 59 (by omega)
  rw [hl_e72]
  simp only [hl_r72_0, hl_r72_4, hl_r72_5, hl_r72_13, hl_r72_14, hl_r72_20, hl_r72_21, hl_r72_27, hl_r72_1, hl_r72_8, hl_r72_10, hl_r72_15, hl_r72_17, hl_r72_22, hl_r72_24, p56, i56, p57, i57, p58, i58, p59, i59, hl_gk_56, hl_gk_57, hl_gk_58, hl_gk_59, hl_q_n, hl_q_P, hl_q_I, hl_q_new, hl_q_sP, hl_q_sI, hl_q_ob, hl_q_ar, hl_q_k, hl_up_ne, hl_up_a, hl_row_ne, hl_lz2, hl_lv2, hl_lz3, hl_lv3, hl_lz4, hl_lv4, hl_lz6, hl_lv6, hl_lz9, hl_lv9, hl_lz12, hl_lv12, hl_lz40, hl_lv40, hl_lz64, hl_lv64, hl_lz72, hl_lv72, hl_lz74, hl_lv74, hl_lz160, hl_lv160, hl_lz300, hl_lv300, hl_lz330, hl_lv330, hl_lz432, hl_lv432, hl_lz490, hl_lv490, hl_lz800, hl_lv800, hl_lz3200, hl_lv3200, hl_lz5476, hl_lv5476, hl_lz24, hl_lv24, hl_lz96, hl_lv96, hl_N_0, hl_N_1, hl_N_2, hl_N_3, hl_N_4, hl_N_5, hl_N_6, hl_N_7, hl_N_8, hl_N_9, hl_N_10, hl_N_11, hl_N_12, not_false_eq_true, and_self, and_true, true_and, hl_tl_s, hl_tl_n, hl_cal_some, hl_kill_i, hl_kill_r, hl_kill_n, Nat.reduceAdd, Nat.reduceEqDiff, ne_eq, Nat.reduceLT, Nat.reduceLeDiff, Nat.lt_add_one]
theorem hl_i14_69 (hP : ∀ a, 69 ≤ a → P a = fun _ => none) (hI : ∀ a, 69 ≤ a → I a = fun _ => 0) : hl_call (d + 1) 14 [.ref 69] (hl_q N 70 P I) = some (none, hl_q N 78 (hl_up (hl_up (hl_up (hl_up (hl_up (hl_up (hl_up (hl_up P 69 2 (some 70)) 69 3 (some 71)) 69 4 (some 72)) 69 5 (some 73)) 69 6 (some 74)) 69 7 (some 75)) 69 8 (some 76)) 69 9 (some 77)) I) := by
  have p69 := hP 69 (by omega)
  have i69 := hI 69 (by omega)
  have p70 := hP 70 (by omega)
  have i70 := hI 70 (by omega)
  have p71 := hP 71 (by omega)
  have i71 := hI 71 (by omega)
  have p72 := hP 72 (by omega)
  have i72 := hI 72 (by omega)
  have p73 := hP 73 (by omega)
  have i73 := hI 73 (by omega)
  have p74 := hP 74 (by omega)
  have i74 := hI 74 (by omega)
  have p75 := hP 75 (by omega)
  have i75 := hI 75 (by omega)
  have p76 := hP 76 (by omega)
  have i76 := hI 76 (by omega)
  have p77 := hP 77 (by omega)
  have i77 := hI 77 (by omega)
  rw [hl_e14]
  simp only [hl_r14_0, hl_r14_4, hl_r14_5, hl_r14_12, hl_r14_13, hl_r14_21, hl_r14_22, hl_r14_30, hl_r14_31, hl_r14_39, hl_r14_40, hl_r14_47, hl_r14_48, hl_r14_55, hl_r14_56, hl_r14_63, hl_r14_64, hl_r14_71, hl_r14_1, hl_r14_7, hl_r14_9, hl_r14_16, hl_r14_18, hl_r14_25, hl_r14_27, hl_r14_34, hl_r14_36, hl_r14_42, hl_r14_44, hl_r14_50, hl_r14_52, hl_r14_58, hl_r14_60, hl_r14_66, hl_r14_68, p69, i69, p70, i70, p71, i71, p72, i72, p73, i73, p74, i74, p75, i75, p76, i76, p77, i77, hl_gk_69, hl_gk_70, hl_gk_71, hl_gk_72, hl_gk_73, hl_gk_74, hl_gk_75, hl_gk_76, hl_gk_77, hl_q_n, hl_q_P, hl_q_I, hl_q_new, hl_q_sP, hl_q_sI, hl_q_ob, hl_q_ar, hl_q_k, hl_up_ne, hl_up_a, hl_row_ne, hl_lz2, hl_lv2, hl_lz3, hl_lv3, hl_lz4, hl_lv4, hl_lz6, hl_lv6, hl_lz9, hl_lv9, hl_lz12, hl_lv12, hl_lz40, hl_lv40, hl_lz64, hl_lv64, hl_lz72, hl_lv72, hl_lz74, hl_lv74, hl_lz160, hl_lv160, hl_lz300, hl_lv300, hl_lz330, hl_lv330, hl_lz432, hl_lv432, hl_lz490, hl_lv490, hl_lz800, hl_lv800, hl_lz3200, hl_lv3200, hl_lz5476, hl_lv5476, hl_lz24, hl_lv24, hl_lz96, hl_lv96, hl_N_0, hl_N_1, hl_N_2, hl_N_3, hl_N_4, hl_N_5, hl_N_6, hl_N_7, hl_N_8, hl_N_9, hl_N_10, hl_N_11, hl_N_12, not_false_eq_true, and_self, and_true, true_and, hl_tl_s, hl_tl_n, hl_cal_some, hl_kill_i, hl_kill_r, hl_kill_n, Nat.reduceAdd, Nat.reduceEqDiff, ne_eq, Nat.reduceLT, Nat.reduceLeDiff, Nat.lt_add_one]
end HLD
