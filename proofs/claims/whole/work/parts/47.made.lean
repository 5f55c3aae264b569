/-! what the constructors make (printed by wip/whole/gen_cons2.py) -/
theorem hl_lz2 : ((2 : Int32) < 0) = False := by decide
theorem hl_lv2 : (2 : Int32).toNatClampNeg = 2 := id rfl
theorem hl_lz3 : ((3 : Int32) < 0) = False := by decide
theorem hl_lv3 : (3 : Int32).toNatClampNeg = 3 := id rfl
theorem hl_lz4 : ((4 : Int32) < 0) = False := by decide
theorem hl_lv4 : (4 : Int32).toNatClampNeg = 4 := id rfl
theorem hl_lz6 : ((6 : Int32) < 0) = False := by decide
theorem hl_lv6 : (6 : Int32).toNatClampNeg = 6 := id rfl
theorem hl_lz9 : ((9 : Int32) < 0) = False := by decide
theorem hl_lv9 : (9 : Int32).toNatClampNeg = 9 := id rfl
theorem hl_lz12 : ((12 : Int32) < 0) = False := by decide
theorem hl_lv12 : (12 : Int32).toNatClampNeg = 12 := id rfl
theorem hl_lz40 : ((40 : Int32) < 0) = False := by decide
theorem hl_lv40 : (40 : Int32).toNatClampNeg = 40 := id rfl
theorem hl_lz64 : ((64 : Int32) < 0) = False := by decide
theorem hl_lv64 : (64 : Int32).toNatClampNeg = 64 := id rfl
theorem hl_lz72 : ((72 : Int32) < 0) = False := by decide
theorem hl_lv72 : (72 : Int32).toNatClampNeg = 72 := id rfl
theorem hl_lz74 : ((74 : Int32) < 0) = False := by decide
theorem hl_lv74 : (74 : Int32).toNatClampNeg = 74 := id rfl
theorem hl_lz160 : ((160 : Int32) < 0) = False := by decide
theorem hl_lv160 : (160 : Int32).toNatClampNeg = 160 := id rfl
theorem hl_lz300 : ((300 : Int32) < 0) = False := by decide
theorem hl_lv300 : (300 : Int32).toNatClampNeg = 300 := id rfl
theorem hl_lz330 : ((330 : Int32) < 0) = False := by decide
theorem hl_lv330 : (330 : Int32).toNatClampNeg = 330 := id rfl
theorem hl_lz432 : ((432 : Int32) < 0) = False := by decide
theorem hl_lv432 : (432 : Int32).toNatClampNeg = 432 := id rfl
theorem hl_lz490 : ((490 : Int32) < 0) = False := by decide
theorem hl_lv490 : (490 : Int32).toNatClampNeg = 490 := id rfl
theorem hl_lz800 : ((800 : Int32) < 0) = False := by decide
theorem hl_lv800 : (800 : Int32).toNatClampNeg = 800 := id rfl
theorem hl_lz3200 : ((3200 : Int32) < 0) = False := by decide
theorem hl_lv3200 : (3200 : Int32).toNatClampNeg = 3200 := id rfl
theorem hl_lz5476 : ((5476 : Int32) < 0) = False := by decide
theorem hl_lv5476 : (5476 : Int32).toNatClampNeg = 5476 := id rfl
theorem hl_lz24 : ((24 : Int32) < 0) = False := by decide
theorem hl_lv24 : (24 : Int32).toNatClampNeg = 24 := id rfl
theorem hl_lz96 : ((96 : Int32) < 0) = False := by decide
theorem hl_lv96 : (96 : Int32).toNatClampNeg = 96 := id rfl
section HLD
variable {d N : Nat} {P : Nat → Nat → Option Nat} {I : Nat → Nat → Int32}
theorem hl_i80_11 (hP : ∀ a, 11 ≤ a → P a = fun _ => none) (hI : ∀ a, 11 ≤ a → I a = fun _ => 0) : hl_call (d + 1) 80 [.ref 11] (hl_q N 12 P I) = some (none, hl_q N 15 (hl_up (hl_up (hl_up P 11 0 (some 12)) 11 1 (some 13)) 11 2 (some 14)) I) := by
  have p11 := hP 11 (by omega)
  have i11 := hI 11 (by omega)
  have p12 := hP 12 (by omega)
  have i12 := hI 12 (by omega)
  have p13 := hP 13 (by omega)
  have i13 := hI 13 (by omega)
  have p14 := hP 14 (by omega)
  have i14 := hI 14 (by omega)
  rw [hl_e80]
  simp only [hl_r80_0, hl_r80_4, hl_r80_5, hl_r80_12, hl_r80_13, hl_r80_20, hl_r80_21, hl_r80_28, hl_r80_1, hl_r80_7, hl_r80_9, hl_r80_15, hl_r80_17, hl_r80_23, hl_r80_25, p11, i11, p12, i12, p13, i13, p14, i14, hl_gk_11, hl_gk_12, hl_gk_13, hl_gk_14, if_true, if_false, hl_q_n, hl_q_P, hl_q_I, hl_q_new, hl_q_sP, hl_q_sI, hl_q_ob, hl_q_ar, hl_q_k, hl_up_ne, hl_up_a, hl_row_ne, hl_lz2, hl_lv2, hl_lz3, hl_lv3, hl_lz4, hl_lv4, hl_lz6, hl_lv6, hl_lz9, hl_lv9, hl_lz12, hl_lv12, hl_lz40, hl_lv40, hl_lz64, hl_lv64, hl_lz72, hl_lv72, hl_lz74, hl_lv74, hl_lz160, hl_lv160, hl_lz300, hl_lv300, hl_lz330, hl_lv330, hl_lz432, hl_lv432, hl_lz490, hl_lv490, hl_lz800, hl_lv800, hl_lz3200, hl_lv3200, hl_lz5476, hl_lv5476, hl_lz24, hl_lv24, hl_lz96, hl_lv96, hl_N_0, hl_N_1, hl_N_2, hl_N_3, hl_N_4, hl_N_5, hl_N_6, hl_N_7, hl_N_8, hl_N_9, hl_N_10, hl_N_11, hl_N_12, not_false_eq_true, and_self, and_true, true_and, hl_tl_s, hl_tl_n, hl_cal_some, hl_kill_i, hl_kill_r, hl_kill_n, Nat.reduceAdd, Nat.reduceEqDiff, ne_eq, Nat.reduceLT, Nat.reduceLeDiff, Nat.lt_add_one]
theorem hl_i80_29 (hP : ∀ a, 29 ≤ a → P a = fun _ => none) (hI : ∀ a, 29 ≤ a → I a = fun _ => 0) : hl_call (d + 1) 80 [.ref 29] (hl_q N 30 P I) = some (none, hl_q N 33 (hl_up (hl_up (hl_up P 29 0 (some 30)) 29 1 (some 31)) 29 2 (some 32)) I) := by
  have p29 := hP 29 (by omega)
  have i29 := hI 29 (by omega)
  have p30 := hP 30 (by omega)
  have i30 := hI 30 (by omega)
  have p31 := hP 31 (by omega)
  have i31 := hI 31 (by omega)
  have p32 := hP 32 (by omega)
  have i32 := hI 32 (by omega)
  rw [hl_e80]
  simp only [hl_r80_0, hl_r80_4, hl_r80_5, hl_r80_12, hl_r80_13, hl_r80_20, hl_r80_21, hl_r80_28, hl_r80_1, hl_r80_7, hl_r80_9, hl_r80_15, hl_r80_17, hl_r80_23, hl_r80_25, p29, i29, p30, i30, p31, i31, p32, i32, hl_gk_29, hl_gk_30, hl_gk_31, hl_gk_32, if_true, if_false, hl_q_n, hl_q_P, hl_q_I, hl_q_new, hl_q_sP, hl_q_sI, hl_q_ob, hl_q_ar, hl_q_k, hl_up_ne, hl_up_a, hl_row_ne, hl_lz2, hl_lv2, hl_lz3, hl_lv3, hl_lz4, hl_lv4, hl_lz6, hl_lv6, hl_lz9, hl_lv9, hl_lz12, hl_lv12, hl_lz40, hl_lv40, hl_lz64, hl_lv64, hl_lz72, hl_lv72, hl_lz74, hl_lv74, hl_lz160, hl_lv160, hl_lz300, hl_lv300, hl_lz330, hl_lv330, hl_lz432, hl_lv432, hl_lz490, hl_lv490, hl_lz800, hl_lv800, hl_lz3200, hl_lv3200, hl_lz5476, hl_lv5476, hl_lz24, hl_lv24, hl_lz96, hl_lv96, hl_N_0, hl_N_1, hl_N_2, hl_N_3, hl_N_4, hl_N_5, hl_N_6, hl_N_7, hl_N_8, hl_N_9, hl_N_10, hl_N_11, hl_N_12, not_false_eq_true, and_self, and_true, true_and, hl_tl_s, hl_tl_n, hl_cal_some, hl_kill_i, hl_kill_r, hl_kill_n, Nat.reduceAdd, Nat.reduceEqDiff, ne_eq, Nat.reduceLT, Nat.reduceLeDiff, Nat.lt_add_one]
theorem hl_i91_15 (hP : ∀ a, 15 ≤ a → P a = fun _ => none) (hI : ∀ a, 15 ≤ a → I a = fun _ => 0) : hl_call (d + 1) 91 [.ref 15] (hl_q N 16 P I) = some (none, hl_q N 19 (hl_up (hl_up (hl_up P 15 0 (some 16)) 15 1 (some 17)) 15 2 (some 18)) I) := by
  have p15 := hP 15 (by omega)
  have i15 := hI 15 (by omega)
  have p16 := hP 16 (by omega)
  have i16 := hI 16 (by omega)
  have p17 := hP 17 (by omega)
  have i17 := hI 17 (by omega)
  have p18 := hP 18 (by omega)
  have i18 := hI 18 (by omega)
  rw [hl_e91]
  simp only [hl_r91_0, hl_r91_4, hl_r91_5, hl_r91_12, hl_r91_13, hl_r91_20, hl_r91_21, hl_r91_28, hl_r91_1, hl_r91_7, hl_r91_9, hl_r91_15, hl_r91_17, hl_r91_23, hl_r91_25, p15, i15, p16, i16, p17, i17, p18, i18, hl_gk_15, hl_gk_16, hl_gk_17, hl_gk_18, if_true, if_false, hl_q_n, hl_q_P, hl_q_I, hl_q_new, hl_q_sP, hl_q_sI, hl_q_ob, hl_q_ar, hl_q_k, hl_up_ne, hl_up_a, hl_row_ne, hl_lz2, hl_lv2, hl_lz3, hl_lv3, hl_lz4, hl_lv4, hl_lz6, hl_lv6, hl_lz9, hl_lv9, hl_lz12, hl_lv12, hl_lz40, hl_lv40, hl_lz64, hl_lv64, hl_lz72, hl_lv72, hl_lz74, hl_lv74, hl_lz160, hl_lv160, hl_lz300, hl_lv300, hl_lz330, hl_lv330, hl_lz432, hl_lv432, hl_lz490, hl_lv490, hl_lz800, hl_lv800, hl_lz3200, hl_lv3200, hl_lz5476, hl_lv5476, hl_lz24, hl_lv24, hl_lz96, hl_lv96, hl_N_0, hl_N_1, hl_N_2, hl_N_3, hl_N_4, hl_N_5, hl_N_6, hl_N_7, hl_N_8, hl_N_9, hl_N_10, hl_N_11, hl_N_12, not_false_eq_true, and_self, and_true, true_and, hl_tl_s, hl_tl_n, hl_cal_some, hl_kill_i, hl_kill_r, hl_kill_n, Nat.reduceAdd, Nat.reduceEqDiff, ne_eq, Nat.reduceLT, Nat.reduceLeDiff, Nat.lt_add_one]
theorem hl_i91_33 (hP : ∀ a, 33 ≤ a → P a = fun _ => none) (hI : ∀ a, 33 ≤ a → I a = fun _ => 0) : hl_call (d + 1) 91 [.ref 33] (hl_q N 34 P I) = some (none, hl_q N 37 (hl_up (hl_up (hl_up P 33 0 (some 34)) 33 1 (some 35)) 33 2 (some 36)) I) := by
  have p33 := hP 33 (by omega)
  have i33 := hI 33 (by omega)
  have p34 := hP 34 (by omega)
  have i34 := hI 34 (by omega)
  have p35 := hP 35 (by omega)
  have i35 := hI 35 (by omega)
  have p36 := hP 36 (by omega)
  have i36 := hI 36 (by omega)
  rw [hl_e91]
  simp only [hl_r91_0, hl_r91_4, hl_r91_5, hl_r91_12, hl_r91_13, hl_r91_20, hl_r91_21, hl_r91_28, hl_r91_1, hl_r91_7, hl_r91_9, hl_r91_15, hl_r91_17, hl_r91_23, hl_r91_25, p33, i33, p34, i34, p35, i35, p36, i36, hl_gk_33, hl_gk_34, hl_gk_35, hl_gk_36, if_true, if_false, hl_q_n, hl_q_P, hl_q_I, hl_q_new, hl_q_sP, hl_q_sI, hl_q_ob, hl_q_ar, hl_q_k, hl_up_ne, hl_up_a, hl_row_ne, hl_lz2, hl_lv2, hl_lz3, hl_lv3, hl_lz4, hl_lv4, hl_lz6, hl_lv6, hl_lz9, hl_lv9, hl_lz12, hl_lv12, hl_lz40, hl_lv40, hl_lz64, hl_lv64, hl_lz72, hl_lv72, hl_lz74, hl_lv74, hl_lz160, hl_lv160, hl_lz300, hl_lv300, hl_lz330, hl_lv330, hl_lz432, hl_lv432, hl_lz490, hl_lv490, hl_lz800, hl_lv800, hl_lz3200, hl_lv3200, hl_lz5476, hl_lv5476, hl_lz24, hl_lv24, hl_lz96, hl_lv96, hl_N_0, hl_N_1, hl_N_2, hl_N_3, hl_N_4, hl_N_5, hl_N_6, hl_N_7, hl_N_8, hl_N_9, hl_N_10, hl_N_11, hl_N_12, not_false_eq_true, and_self, and_true, true_and, hl_tl_s, hl_tl_n, hl_cal_some, hl_kill_i, hl_kill_r, hl_kill_n, Nat.reduceAdd, Nat.reduceEqDiff, ne_eq, Nat.reduceLT, Nat.reduceLeDiff, Nat.lt_add_one]
theorem hl_i72_39 (hP : ∀ a, 39 ≤ a → P a = fun _ => none) (hI : ∀ a, 39 ≤ a → I a = fun _ => 0) : hl_call (d + 1) 72 [.ref 39] (hl_q N 40 P I) = some (none, hl_q N 43 (hl_up (hl_up (hl_up P 39 0 (some 40)) 39 1 (some 41)) 39 2 (some 42)) I) := by
  have p39 := hP 39 (by omega)
  have i39 := hI 39 (by omega)
  have p40 := hP 40 (by omega)
  have i40 := hI 40 (by omega)
  have p41 := hP 41 (by omega)
  have i41 := hI 41 (by omega)
  have p42 := hP 42 (by omega)
  have i42 := hI 42 (by omega)
  rw [hl_e72]
  simp only [hl_r72_0, hl_r72_4, hl_r72_5, hl_r72_13, hl_r72_14, hl_r72_20, hl_r72_21, hl_r72_27, hl_r72_1, hl_r72_8, hl_r72_10, hl_r72_15, hl_r72_17, hl_r72_22, hl_r72_24, p39, i39, p40, i40, p41, i41, p42, i42, hl_gk_39, hl_gk_40, hl_gk_41, hl_gk_42, if_true, if_false, hl_q_n, hl_q_P, hl_q_I, hl_q_new, hl_q_sP, hl_q_sI, hl_q_ob, hl_q_ar, hl_q_k, hl_up_ne, hl_up_a, hl_row_ne, hl_lz2, hl_lv2, hl_lz3, hl_lv3, hl_lz4, hl_lv4, hl_lz6, hl_lv6, hl_lz9, hl_lv9, hl_lz12, hl_lv12, hl_lz40, hl_lv40, hl_lz64, hl_lv64, hl_lz72, hl_lv72, hl_lz74, hl_lv74, hl_lz160, hl_lv160, hl_lz300, hl_lv300, hl_lz330, hl_lv330, hl_lz432, hl_lv432, hl_lz490, hl_lv490, hl_lz800, hl_lv800, hl_lz3200, hl_lv3200, hl_lz5476, hl_lv5476, hl_lz24, hl_lv24, hl_lz96, hl_lv96, hl_N_0, hl_N_1, hl_N_2, hl_N_3, hl_N_4, hl_N_5, hl_N_6, hl_N_7, hl_N_8, hl_N_9, hl_N_10, hl_N_11, hl_N_12, not_false_eq_true, and_self, and_true, true_and, hl_tl_s, hl_tl_n, hl_cal_some, hl_kill_i, hl_kill_r, hl_kill_n, Nat.reduceAdd, Nat.reduceEqDiff, ne_eq, Nat.reduceLT, Nat.reduceLeDiff, Nat.lt_add_one]
theorem hl_i72_44 (hP : ∀ a, 44 ≤ a → P a = fun _ => none) (hI : ∀ a, 44 ≤ a → I a = fun _ => 0) : hl_call (d + 1) 72 [.ref 44] (hl_q N 45 P I) = some (none, hl_q N 48 (hl_up (hl_up (hl_up P 44 0 (some 45)) 44 1 (some 46)) 44 2 (some 47)) I) := by
  have p44 := hP 44 (by omega)
  have i44 := hI 44 (by omega)
  have p45 := hP 45 (by omega)
  have i45 := hI 45 (by omega)
  have p46 := hP 46 (by omega)
  have i46 := hI 46 (by omega)
  have p47 := hP 47 (by omega)
  have i47 := hI 47 (by omega)
  rw [hl_e72]
  simp only [hl_r72_0, hl_r72_4, hl_r72_5, hl_r72_13, hl_r72_14, hl_r72_20, hl_r72_21, hl_r72_27, hl_r72_1, hl_r72_8, hl_r72_10, hl_r72_15, hl_r72_17, hl_r72_22, hl_r72_24, p44, i44, p45, i45, p46, i46, p47, i47, hl_gk_44, hl_gk_45, hl_gk_46, hl_gk_47, if_true, if_false, hl_q_n, hl_q_P, hl_q_I, hl_q_new, hl_q_sP, hl_q_sI, hl_q_ob, hl_q_ar, hl_q_k, hl_up_ne, hl_up_a, hl_row_ne, hl_lz2, hl_lv2, hl_lz3, hl_lv3, hl_lz4, hl_lv4, hl_lz6, hl_lv6, hl_lz9, hl_lv9, hl_lz12, hl_lv12, hl_lz40, hl_lv40, hl_lz64, hl_lv64, hl_lz72, hl_lv72, hl_lz74, hl_lv74, hl_lz160, hl_lv160, hl_lz300, hl_lv300, hl_lz330, hl_lv330, hl_lz432, hl_lv432, hl_lz490, hl_lv490, hl_lz800, hl_lv800, hl_lz3200, hl_lv3200, hl_lz5476, hl_lv5476, hl_lz24, hl_lv24, hl_lz96, hl_lv96, hl_N_0, hl_N_1, hl_N_2, hl_N_3, hl_N_4, hl_N_5, hl_N_6, hl_N_7, hl_N_8, hl_N_9, hl_N_10, hl_N_11, hl_N_12, not_false_eq_true, and_self, and_true, true_and, hl_tl_s, hl_tl_n, hl_cal_some, hl_kill_i, hl_kill_r, hl_kill_n, Nat.reduceAdd, Nat.reduceEqDiff, ne_eq, Nat.reduceLT, Nat.reduceLeDiff, Nat.lt_add_one]
theorem hl_i72_48 (hP : ∀ a, 48 ≤ a → P a = fun _ => none) (hI : ∀ a, 48 ≤ a → I a = fun _ => 0) : hl_call (d + 1) 72 [.ref 48] (hl_q N 49 P I) = some (none, hl_q N 52 (hl_up (hl_up (hl_up P 48 0 (some 49)) 48 1 (some 50)) 48 2 (some 51)) I) := by
  have p48 := hP 48 (by omega)
  have i48 := hI 48 (by omega)
  have p49 := hP 49 (by omega)
  have i49 := hI 49 (by omega)
  have p50 := hP 50 (by omega)
  have i50 := hI 50 (by omega)
  have p51 := hP 51 (by omega)
  have i51 := hI 51 (by omega)
  rw [hl_e72]
  simp only [hl_r72_0, hl_r72_4, hl_r72_5, hl_r72_13, hl_r72_14, hl_r72_20, hl_r72_21, hl_r72_27, hl_r72_1, hl_r72_8, hl_r72_10, hl_r72_15, hl_r72_17, hl_r72_22, hl_r72_24, p48, i48, p49, i49, p50, i50, p51, i51, hl_gk_48, hl_gk_49, hl_gk_50, hl_gk_51, if_true, if_false, hl_q_n, hl_q_P, hl_q_I, hl_q_new, hl_q_sP, hl_q_sI, hl_q_ob, hl_q_ar, hl_q_k, hl_up_ne, hl_up_a, hl_row_ne, hl_lz2, hl_lv2, hl_lz3, hl_lv3, hl_lz4, hl_lv4, hl_lz6, hl_lv6, hl_lz9, hl_lv9, hl_lz12, hl_lv12, hl_lz40, hl_lv40, hl_lz64, hl_lv64, hl_lz72, hl_lv72, hl_lz74, hl_lv74, hl_lz160, hl_lv160, hl_lz300, hl_lv300, hl_lz330, hl_lv330, hl_lz432, hl_lv432, hl_lz490, hl_lv490, hl_lz800, hl_lv800, hl_lz3200, hl_lv3200, hl_lz5476, hl_lv5476, hl_lz24, hl_lv24, hl_lz96, hl_lv96, hl_N_0, hl_N_1, hl_N_2, hl_N_3, hl_N_4, hl_N_5, hl_N_6, hl_N_7, hl_N_8, hl_N_9, hl_N_10, hl_N_11, hl_N_12, not_false_eq_true, and_self, and_true, true_and, hl_tl_s, hl_tl_n, hl_cal_some, hl_kill_i, hl_kill_r, hl_kill_n, Nat.reduceAdd, Nat.reduceEqDiff, ne_eq, Nat.reduceLT, Nat.reduceLeDiff, Nat.lt_add_one]
theorem hl_i72_52 (hP : ∀ a, 52 ≤ a → P a = fun _ => none) (hI : ∀ a, 52 ≤ a → I a = fun _ => 0) : hl_call (d + 1) 72 [.ref 52] (hl_q N 53 P I) = some (none, hl_q N 56 (hl_up (hl_up (hl_up P 52 0 (some 53)) 52 1 (some 54)) 52 2 (some 55)) I) := by
  have p52 := hP 52 (by omega)
  have i52 := hI 52 (by omega)
  have p53 := hP 53 (by omega)
  have i53 := hI 53 (by omega)
  have p54 := hP 54 (by omega)
  have i54 := hI 54 (by omega)
  have p55 := hP 55 (by omega)
  have i55 := hI 55 (by omega)
  rw [hl_e72]
  simp only [hl_r72_0, hl_r72_4, hl_r72_5, hl_r72_13, hl_r72_14, hl_r72_20, hl_r72_21, hl_r72_27, hl_r72_1, hl_r72_8, hl_r72_10, hl_r72_15, hl_r72_17, hl_r72_22, hl_r72_24, p52, i52, p53, i53, p54, i54, p55, i55, hl_gk_52, hl_gk_53, hl_gk_54, hl_gk_55, if_true, if_false, hl_q_n, hl_q_P, hl_q_I, hl_q_new, hl_q_sP, hl_q_sI, hl_q_ob, hl_q_ar, hl_q_k, hl_up_ne, hl_up_a, hl_row_ne, hl_lz2, hl_lv2, hl_lz3, hl_lv3, hl_lz4, hl_lv4, hl_lz6, hl_lv6, hl_lz9, hl_lv9, hl_lz12, hl_lv12, hl_lz40, hl_lv40, hl_lz64, hl_lv64, hl_lz72, hl_lv72, hl_lz74, hl_lv74, hl_lz160, hl_lv160, hl_lz300, hl_lv300, hl_lz330, hl_lv330, hl_lz432, hl_lv432, hl_lz490, hl_lv490, hl_lz800, hl_lv800, hl_lz3200, hl_lv3200, hl_lz5476, hl_lv5476, hl_lz24, hl_lv24, hl_lz96, hl_lv96, hl_N_0, hl_N_1, hl_N_2, hl_N_3, hl_N_4, hl_N_5, hl_N_6, hl_N_7, hl_N_8, hl_N_9, hl_N_10, hl_N_11, hl_N_12, not_false_eq_true, and_self, and_true, true_and, hl_tl_s, hl_tl_n, hl_cal_some, hl_kill_i, hl_kill_r, hl_kill_n, Nat.reduceAdd, Nat.reduceEqDiff, ne_eq, Nat.reduceLT, Nat.reduceLeDiff, Nat.lt_add_one]
theorem hl_i72_56 (hP : ∀ a, 56 ≤ a → P a = fun _ => none) (hI : ∀ a, 56 ≤ a → I a = fun _ => 0) : hl_call (d + 1) 72 [.ref 56] (hl_q N 57 P I) = some (none, hl_q N 60 (hl_up (hl_up (hl_up P 56 0 (some 57)) 56 1 (some 58)) 56 2 (some 59)) I) := by
  have p56 := hP 56 (by omega)
  have i56 := hI 56 (by omega)
  have p57 := hP 57 (by omega)
  have i57 := hI 57 (by omega)
  have p58 := hP 58 (by omega)
  have i58 := hI 58 (by omega)
  have p59 := hP 59 (by omega)
  have i59 := hI 59 (by omega)
  rw [hl_e72]
  simp only [hl_r72_0, hl_r72_4, hl_r72_5, hl_r72_13, hl_r72_14, hl_r72_20, hl_r72_21, hl_r72_27, hl_r72_1, hl_r72_8, hl_r72_10, hl_r72_15, hl_r72_17, hl_r72_22, hl_r72_24, p56, i56, p57, i57, p58, i58, p59, i59, hl_gk_56, hl_gk_57, hl_gk_58, hl_gk_59, if_true, if_false, hl_q_n, hl_q_P, hl_q_I, hl_q_new, hl_q_sP, hl_q_sI, hl_q_ob, hl_q_ar, hl_q_k, hl_up_ne, hl_up_a, hl_row_ne, hl_lz2, hl_lv2, hl_lz3, hl_lv3, hl_lz4, hl_lv4, hl_lz6, hl_lv6, hl_lz9, hl_lv9, hl_lz12, hl_lv12, hl_lz40, hl_lv40, hl_lz64, hl_lv64, hl_lz72, hl_lv72, hl_lz74, hl_lv74, hl_lz160, hl_lv160, hl_lz300, hl_lv300, hl_lz330, hl_lv330, hl_lz432, hl_lv432, hl_lz490, hl_lv490, hl_lz800, hl_lv800, hl_lz3200, hl_lv3200, hl_lz5476, hl_lv5476, hl_lz24, hl_lv24, hl_lz96, hl_lv96, hl_N_0, hl_N_1, hl_N_2, hl_N_3, hl_N_4, hl_N_5, hl_N_6, hl_N_7, hl_N_8, hl_N_9, hl_N_10, hl_N_11, hl_N_12, not_false_eq_true, and_self, and_true, true_and, hl_tl_s, hl_tl_n, hl_cal_some, hl_kill_i, hl_kill_r, hl_kill_n, Nat.reduceAdd, Nat.reduceEqDiff, ne_eq, Nat.reduceLT, Nat.reduceLeDiff, Nat.lt_add_one]
theorem hl_i14_69 (hP : ∀ a, 69 ≤ a → P a = fun _ => none) (hI : ∀ a, 69 ≤ a → I a = fun _ => 0) : hl_call (d + 1) 14 [.ref 69] (hl_q N 70 P I) = some (none, hl_q N 78 (hl_up (hl_up (hl_up (hl_up (hl_up (hl_up (hl_up (hl_up P 69 2 (some 70)) 69 3 (some 71)) 69 4 (some 72)) 69 5 (some 73)) 69 6 (some 74)) 69 7 (some 75)) 69 8 (some 76)) 69 9 (some 77)) I) := by
  have p69 := hP 69 (by omega)
  have i69 := hI 69 (by omega)
  have p70 := hP 70 (by omega)
  have i70 := hI 70 (by omega)
  have p71 := hP 71 (by omega)
  have i71 := hI 71 (by omega)
  have p72 := hP 72 (by omega)
  have i72 := hI 72 (by omega)
  have p73 := hP 73 (by omega)
  have i73 := hI 73 (by omega)
  have p74 := hP 74 (by omega)
  have i74 := hI 74 (by omega)
  have p75 := hP 75 (by omega)
  have i75 := hI 75 (by omega)
  have p76 := hP 76 (by omega)
  have i76 := hI 76 (by omega)
  have p77 := hP 77 (by omega)
  have i77 := hI 77 (by omega)
  rw [hl_e14]
  simp only [hl_r14_0, hl_r14_4, hl_r14_5, hl_r14_12, hl_r14_13, hl_r14_21, hl_r14_22, hl_r14_30, hl_r14_31, hl_r14_39, hl_r14_40, hl_r14_47, hl_r14_48, hl_r14_55, hl_r14_56, hl_r14_63, hl_r14_64, hl_r14_71, hl_r14_1, hl_r14_7, hl_r14_9, hl_r14_16, hl_r14_18, hl_r14_25, hl_r14_27, hl_r14_34, hl_r14_36, hl_r14_42, hl_r14_44, hl_r14_50, hl_r14_52, hl_r14_58, hl_r14_60, hl_r14_66, hl_r14_68, p69, i69, p70, i70, p71, i71, p72, i72, p73, i73, p74, i74, p75, i75, p76, i76, p77, i77, hl_gk_69, hl_gk_70, hl_gk_71, hl_gk_72, hl_gk_73, hl_gk_74, hl_gk_75, hl_gk_76, hl_gk_77, if_true, if_false, hl_q_n, hl_q_P, hl_q_I, hl_q_new, hl_q_sP, hl_q_sI, hl_q_ob, hl_q_ar, hl_q_k, hl_up_ne, hl_up_a, hl_row_ne, hl_lz2, hl_lv2, hl_lz3, hl_lv3, hl_lz4, hl_lv4, hl_lz6, hl_lv6, hl_lz9, hl_lv9, hl_lz12, hl_lv12, hl_lz40, hl_lv40, hl_lz64, hl_lv64, hl_lz72, hl_lv72, hl_lz74, hl_lv74, hl_lz160, hl_lv160, hl_lz300, hl_lv300, hl_lz330, hl_lv330, hl_lz432, hl_lv432, hl_lz490, hl_lv490, hl_lz800, hl_lv800, hl_lz3200, hl_lv3200, hl_lz5476, hl_lv5476, hl_lz24, hl_lv24, hl_lz96, hl_lv96, hl_N_0, hl_N_1, hl_N_2, hl_N_3, hl_N_4, hl_N_5, hl_N_6, hl_N_7, hl_N_8, hl_N_9, hl_N_10, hl_N_11, hl_N_12, not_false_eq_true, and_self, and_true, true_and, hl_tl_s, hl_tl_n, hl_cal_some, hl_kill_i, hl_kill_r, hl_kill_n, Nat.reduceAdd, Nat.reduceEqDiff, ne_eq, Nat.reduceLT, Nat.reduceLeDiff, Nat.lt_add_one]
theorem hl_fill1 {I : Nat → Nat → Int32} {a i : Nat} {u : Int32} : hl_up (hl_row I a (fun j => if j < i then u else 0)) a i u = hl_row I a (fun j => if j < i + 1 then u else 0) := by
  funext c k
  simp only [hl_up, hl_row]
  by_cases e : c = a
  · simp only [e, if_true]
    by_cases q : k = i
    · subst q
      rw [if_pos rfl, if_pos (Nat.lt_succ_self _)]
    · rw [if_neg q]
      by_cases z : k < i
      · rw [if_pos z, if_pos (by omega)]
      · rw [if_neg z, if_neg (by omega)]
  · simp only [e, if_false]
theorem hl_up_row {I : Nat → Nat → Int32} {a b i : Nat} {u : Int32} {g : Nat → Int32} (h : a ≠ b) : hl_up (hl_row I b g) a i u = hl_row (hl_up I a i u) b g := by
  funext c k
  simp only [hl_up, hl_row]
  by_cases e : c = a
  · subst e
    simp only [h, if_false, if_true]
  · by_cases e2 : c = b
    · simp only [e2, if_true, Ne.symm h, if_false]
    · simp only [e, e2, if_false]
theorem hl_fill0 {I : Nat → Nat → Int32} {a : Nat} {u : Int32} (h : I a = fun _ => 0) : hl_row I a (fun j => if j < 0 then u else 0) = I := by
  refine hl_row_id ?_
  rw [h]
  funext j
  rw [if_neg (Nat.not_lt_zero j)]
theorem hl_fill2 {I : Nat → Nat → Int32} {a b i : Nat} {u v : Int32} (h : a ≠ b) : hl_up (hl_up (hl_row (hl_row I a (fun j => if j < i then u else 0)) b (fun j => if j < i then v else 0)) a i u) b i v = hl_row (hl_row I a (fun j => if j < i + 1 then u else 0)) b (fun j => if j < i + 1 then v else 0) := by
  rw [hl_up_row h, hl_fill1, hl_fill1]
theorem hl_jA_1 {c : hl_C} (hN : N ≤ 24) (h3 : P 1 3 = some 5) (h5 : P 1 5 = some 7) (f : Nat) : ∀ i, i + f = N → hl_Run 7 c 92 [.ref 1, .int (nI N), .int (nI i)] [] (hl_q N 19 P (hl_row (hl_row I 5 (fun j => if j < i then 480 else 0)) 7 (fun j => if j < i then -1 else 0))) = hl_Run 7 c 119 [.ref 1, .int (nI N), .int (nI N)] [] (hl_q N 19 P (hl_row (hl_row I 5 (fun j => if j < N then 480 else 0)) 7 (fun j => if j < N then -1 else 0))) := by
  induction f with
  | zero =>
    intro i hi
    obtain rfl : i = N := by omega
    have c1 : nI i ≤ nI i := Int32.le_refl _
    simp only [hl_r7_92, hl_r7_93, hl_r7_94, c1, if_true]
  | succ f ih =>
    intro i hi
    have c1 : ¬ nI N ≤ nI i := nI_ge (by omega) (by omega)
    have b1 : hl_inb (nI i) N = true := hl_inb_nI (by omega) (by omega)
    rw [← ih (i + 1) (by omega), ← hl_fill2 (by decide : 5 ≠ 7), hl_r7_92, hl_r7_93, hl_r7_94, if_neg c1]
    simp only [hl_r7_0, hl_r7_4, hl_r7_5, hl_r7_11, hl_r7_12, hl_r7_18, hl_r7_19, hl_r7_25, hl_r7_26, hl_r7_32, hl_r7_33, hl_r7_39, hl_r7_40, hl_r7_46, hl_r7_47, hl_r7_53, hl_r7_54, hl_r7_60, hl_r7_61, hl_r7_68, hl_r7_72, hl_r7_79, hl_r7_83, hl_r7_90, hl_r7_91, hl_r7_93, hl_r7_94, hl_r7_97, hl_r7_98, hl_r7_101, hl_r7_102, hl_r7_105, hl_r7_106, hl_r7_107, hl_r7_110, hl_r7_111, hl_r7_112, hl_r7_113, hl_r7_116, hl_r7_119, hl_r7_120, hl_r7_121, hl_r7_122, hl_r7_124, hl_r7_127, hl_r7_128, hl_r7_131, hl_r7_132, hl_r7_135, hl_r7_136, hl_r7_139, hl_r7_142, hl_r7_143, hl_r7_144, hl_r7_147, hl_r7_148, hl_r7_149, hl_r7_152, hl_r7_153, hl_r7_154, hl_r7_157, hl_r7_1, hl_r7_6, hl_r7_8, hl_r7_13, hl_r7_15, hl_r7_20, hl_r7_22, hl_r7_27, hl_r7_29, hl_r7_34, hl_r7_36, hl_r7_41, hl_r7_43, hl_r7_48, hl_r7_50, hl_r7_55, hl_r7_57, hl_r7_63, hl_r7_65, hl_r7_69, hl_r7_73, hl_r7_76, hl_r7_80, hl_r7_84, hl_r7_87, b1, h3, h5, va_rf, nIc (show i < 2 ^ 31 by omega), nI_succ i, hl_gk_1, hl_gk_5, hl_gk_7, if_true, if_false, hl_q_n, hl_q_P, hl_q_I, hl_q_new, hl_q_sP, hl_q_sI, hl_q_ob, hl_q_ar, hl_q_k, hl_up_ne, hl_up_a, hl_row_ne, hl_lz2, hl_lv2, hl_lz3, hl_lv3, hl_lz4, hl_lv4, hl_lz6, hl_lv6, hl_lz9, hl_lv9, hl_lz12, hl_lv12, hl_lz40, hl_lv40, hl_lz64, hl_lv64, hl_lz72, hl_lv72, hl_lz74, hl_lv74, hl_lz160, hl_lv160, hl_lz300, hl_lv300, hl_lz330, hl_lv330, hl_lz432, hl_lv432, hl_lz490, hl_lv490, hl_lz800, hl_lv800, hl_lz3200, hl_lv3200, hl_lz5476, hl_lv5476, hl_lz24, hl_lv24, hl_lz96, hl_lv96, hl_N_0, hl_N_1, hl_N_2, hl_N_3, hl_N_4, hl_N_5, hl_N_6, hl_N_7, hl_N_8, hl_N_9, hl_N_10, hl_N_11, hl_N_12, not_false_eq_true, and_self, and_true, true_and, hl_tl_s, hl_tl_n, hl_cal_some, hl_kill_i, hl_kill_r, hl_kill_n, Nat.reduceAdd, Nat.reduceEqDiff, ne_eq, Nat.reduceLT, Nat.reduceLeDiff, Nat.lt_add_one]
theorem hl_jB_1 {c : hl_C} (h8 : P 1 9 = some 10) {n : Int32} (f : Nat) : ∀ i, i + f = 12 → hl_Run 7 c 121 [.ref 1, .int n, .int (nI i)] [] (hl_q N 19 P (hl_row I 10 (fun j => if j < i then 360 else 0))) = hl_Run 7 c 142 [.ref 1, .int n, .int (nI 12)] [] (hl_q N 19 P (hl_row I 10 (fun j => if j < 12 then 360 else 0))) := by
  induction f with
  | zero =>
    intro i hi
    obtain rfl : i = 12 := by omega
    have c1 : (12 : Int32) ≤ nI 12 := Int32.le_refl _
    simp only [hl_r7_121, hl_r7_122, hl_r7_124, c1, if_true]
  | succ f ih =>
    intro i hi
    have c1 : ¬ (12 : Int32) ≤ nI i := show ¬ nI 12 ≤ nI i from nI_ge (by omega) (by decide)
    have b1 : hl_inb (nI i) 12 = true := hl_inb_nI (by omega) (by omega)
    rw [← ih (i + 1) (by omega), ← hl_fill1, hl_r7_121, hl_r7_122, hl_r7_124, if_neg c1]
    simp only [hl_r7_0, hl_r7_4, hl_r7_5, hl_r7_11, hl_r7_12, hl_r7_18, hl_r7_19, hl_r7_25, hl_r7_26, hl_r7_32, hl_r7_33, hl_r7_39, hl_r7_40, hl_r7_46, hl_r7_47, hl_r7_53, hl_r7_54, hl_r7_60, hl_r7_61, hl_r7_68, hl_r7_72, hl_r7_79, hl_r7_83, hl_r7_90, hl_r7_91, hl_r7_92, hl_r7_93, hl_r7_94, hl_r7_97, hl_r7_98, hl_r7_101, hl_r7_102, hl_r7_105, hl_r7_106, hl_r7_107, hl_r7_110, hl_r7_111, hl_r7_112, hl_r7_113, hl_r7_116, hl_r7_119, hl_r7_120, hl_r7_122, hl_r7_124, hl_r7_127, hl_r7_128, hl_r7_131, hl_r7_132, hl_r7_135, hl_r7_136, hl_r7_139, hl_r7_142, hl_r7_143, hl_r7_144, hl_r7_147, hl_r7_148, hl_r7_149, hl_r7_152, hl_r7_153, hl_r7_154, hl_r7_157, hl_r7_1, hl_r7_6, hl_r7_8, hl_r7_13, hl_r7_15, hl_r7_20, hl_r7_22, hl_r7_27, hl_r7_29, hl_r7_34, hl_r7_36, hl_r7_41, hl_r7_43, hl_r7_48, hl_r7_50, hl_r7_55, hl_r7_57, hl_r7_63, hl_r7_65, hl_r7_69, hl_r7_73, hl_r7_76, hl_r7_80, hl_r7_84, hl_r7_87, b1, h8, va_rf, nIc (show i < 2 ^ 31 by omega), nI_succ i, hl_gk_1, hl_gk_10, if_true, if_false, hl_q_n, hl_q_P, hl_q_I, hl_q_new, hl_q_sP, hl_q_sI, hl_q_ob, hl_q_ar, hl_q_k, hl_up_ne, hl_up_a, hl_row_ne, hl_lz2, hl_lv2, hl_lz3, hl_lv3, hl_lz4, hl_lv4, hl_lz6, hl_lv6, hl_lz9, hl_lv9, hl_lz12, hl_lv12, hl_lz40, hl_lv40, hl_lz64, hl_lv64, hl_lz72, hl_lv72, hl_lz74, hl_lv74, hl_lz160, hl_lv160, hl_lz300, hl_lv300, hl_lz330, hl_lv330, hl_lz432, hl_lv432, hl_lz490, hl_lv490, hl_lz800, hl_lv800, hl_lz3200, hl_lv3200, hl_lz5476, hl_lv5476, hl_lz24, hl_lv24, hl_lz96, hl_lv96, hl_N_0, hl_N_1, hl_N_2, hl_N_3, hl_N_4, hl_N_5, hl_N_6, hl_N_7, hl_N_8, hl_N_9, hl_N_10, hl_N_11, hl_N_12, not_false_eq_true, and_self, and_true, true_and, hl_tl_s, hl_tl_n, hl_cal_some, hl_kill_i, hl_kill_r, hl_kill_n, Nat.reduceAdd, Nat.reduceEqDiff, ne_eq, Nat.reduceLT, Nat.reduceLeDiff, Nat.lt_add_one]
theorem hl_i7_1 (hN : 4 ≤ N ∧ N ≤ 24) (hP : ∀ a, 1 ≤ a → P a = fun _ => none) (hI : ∀ a, 1 ≤ a → I a = fun _ => 0) : hl_call (d + 2) 7 [.ref 1, .int (nI N)] (hl_q N 2 P I) = some (none, hl_q N 19 (hl_up (hl_up (hl_up (hl_up (hl_up (hl_up (hl_up (hl_up (hl_up (hl_up (hl_up (hl_up (hl_up (hl_up (hl_up (hl_up (hl_up P 1 0 (some 2)) 1 1 (some 3)) 1 2 (some 4)) 1 3 (some 5)) 1 4 (some 6)) 1 5 (some 7)) 1 6 (some 8)) 1 7 (some 9)) 1 9 (some 10)) 11 0 (some 12)) 11 1 (some 13)) 11 2 (some 14)) 1 14 (some 11)) 15 0 (some 16)) 15 1 (some 17)) 15 2 (some 18)) 1 15 (some 15)) (hl_up (hl_up (hl_up (hl_row (hl_row (hl_row I 5 (fun j => if j < N then 480 else 0)) 7 (fun j => if j < N then -1 else 0)) 10 (fun j => if j < 12 then 360 else 0)) 1 10 (-1)) 1 11 (-1)) 1 13 (-1))) := by
  have p1 := hP 1 (by omega)
  have i1 := hI 1 (by omega)
  have p2 := hP 2 (by omega)
  have i2 := hI 2 (by omega)
  have p3 := hP 3 (by omega)
  have i3 := hI 3 (by omega)
  have p4 := hP 4 (by omega)
  have i4 := hI 4 (by omega)
  have p5 := hP 5 (by omega)
  have i5 := hI 5 (by omega)
  have p6 := hP 6 (by omega)
  have i6 := hI 6 (by omega)
  have p7 := hP 7 (by omega)
  have i7 := hI 7 (by omega)
  have p8 := hP 8 (by omega)
  have i8 := hI 8 (by omega)
  have p9 := hP 9 (by omega)
  have i9 := hI 9 (by omega)
  have p10 := hP 10 (by omega)
  have i10 := hI 10 (by omega)
  have p11 := hP 11 (by omega)
  have i11 := hI 11 (by omega)
  have p12 := hP 12 (by omega)
  have i12 := hI 12 (by omega)
  have p13 := hP 13 (by omega)
  have i13 := hI 13 (by omega)
  have p14 := hP 14 (by omega)
  have i14 := hI 14 (by omega)
  have p15 := hP 15 (by omega)
  have i15 := hI 15 (by omega)
  have p16 := hP 16 (by omega)
  have i16 := hI 16 (by omega)
  have p17 := hP 17 (by omega)
  have i17 := hI 17 (by omega)
  have p18 := hP 18 (by omega)
  have i18 := hI 18 (by omega)
  have z1 : (nI N < 0) = False := eq_false (by have := hl_inb_nI (n := N) (N := 25) (by omega) (by decide); unfold hl_inb at this; rw [Bool.and_eq_true, decide_eq_true_eq] at this; exact this.1)
  have z2 : (nI N).toNatClampNeg = N := nIc (by omega)
  have z3 : (N ≤ 100000) = True := eq_true (by omega)
  have sA := hl_i80_11 (d := d) (N := N) (P := (hl_up (hl_up (hl_up (hl_up (hl_up (hl_up (hl_up (hl_up (hl_up P 1 0 (some 2)) 1 1 (some 3)) 1 2 (some 4)) 1 3 (some 5)) 1 4 (some 6)) 1 5 (some 7)) 1 6 (some 8)) 1 7 (some 9)) 1 9 (some 10))) (I := I) (fun a h => by
    simp only [hl_up_ne _ _ _ (show a ≠ 1 by omega)]
    exact hP a (by omega)) (fun a h => hI a (by omega))
  have sB := hl_i91_15 (d := d) (N := N) (P := (hl_up (hl_up (hl_up (hl_up (hl_up (hl_up (hl_up (hl_up (hl_up (hl_up (hl_up (hl_up (hl_up P 1 0 (some 2)) 1 1 (some 3)) 1 2 (some 4)) 1 3 (some 5)) 1 4 (some 6)) 1 5 (some 7)) 1 6 (some 8)) 1 7 (some 9)) 1 9 (some 10)) 11 0 (some 12)) 11 1 (some 13)) 11 2 (some 14)) 1 14 (some 11))) (I := I) (fun a h => by
    simp only [hl_up_ne _ _ _ (show a ≠ 1 by omega), hl_up_ne _ _ _ (show a ≠ 11 by omega)]
    exact hP a (by omega)) (fun a h => hI a (by omega))
  have stage : hl_Run 7 (hl_call (d + 1)) 0 [.ref 1, .int (nI N), .null] [] (hl_q N 2 P I) = hl_Run 7 (hl_call (d + 1)) 92 [.ref 1, .int (nI N), .int 0] [] (hl_q N 19 (hl_up (hl_up (hl_up (hl_up (hl_up (hl_up (hl_up (hl_up (hl_up (hl_up (hl_up (hl_up (hl_up (hl_up (hl_up (hl_up (hl_up P 1 0 (some 2)) 1 1 (some 3)) 1 2 (some 4)) 1 3 (some 5)) 1 4 (some 6)) 1 5 (some 7)) 1 6 (some 8)) 1 7 (some 9)) 1 9 (some 10)) 11 0 (some 12)) 11 1 (some 13)) 11 2 (some 14)) 1 14 (some 11)) 15 0 (some 16)) 15 1 (some 17)) 15 2 (some 18)) 1 15 (some 15)) I) := by
    simp only [hl_r7_0, hl_r7_4, hl_r7_5, hl_r7_11, hl_r7_12, hl_r7_18, hl_r7_19, hl_r7_25, hl_r7_26, hl_r7_32, hl_r7_33, hl_r7_39, hl_r7_40, hl_r7_46, hl_r7_47, hl_r7_53, hl_r7_54, hl_r7_60, hl_r7_61, hl_r7_68, hl_r7_72, hl_r7_79, hl_r7_83, hl_r7_90, hl_r7_91, hl_r7_93, hl_r7_94, hl_r7_97, hl_r7_98, hl_r7_101, hl_r7_102, hl_r7_105, hl_r7_106, hl_r7_107, hl_r7_110, hl_r7_111, hl_r7_112, hl_r7_113, hl_r7_116, hl_r7_119, hl_r7_120, hl_r7_121, hl_r7_122, hl_r7_124, hl_r7_127, hl_r7_128, hl_r7_131, hl_r7_132, hl_r7_135, hl_r7_136, hl_r7_139, hl_r7_142, hl_r7_143, hl_r7_144, hl_r7_147, hl_r7_148, hl_r7_149, hl_r7_152, hl_r7_153, hl_r7_154, hl_r7_157, hl_r7_1, hl_r7_6, hl_r7_8, hl_r7_13, hl_r7_15, hl_r7_20, hl_r7_22, hl_r7_27, hl_r7_29, hl_r7_34, hl_r7_36, hl_r7_41, hl_r7_43, hl_r7_48, hl_r7_50, hl_r7_55, hl_r7_57, hl_r7_63, hl_r7_65, hl_r7_69, hl_r7_73, hl_r7_76, hl_r7_80, hl_r7_84, hl_r7_87, sA, sB, z1, z2, z3, p1, i1, p2, i2, p3, i3, p4, i4, p5, i5, p6, i6, p7, i7, p8, i8, p9, i9, p10, i10, p11, i11, p12, i12, p13, i13, p14, i14, p15, i15, p16, i16, p17, i17, p18, i18, hl_gk_1, hl_gk_2, hl_gk_3, hl_gk_4, hl_gk_5, hl_gk_6, hl_gk_7, hl_gk_8, hl_gk_9, hl_gk_10, hl_gk_11, hl_gk_12, hl_gk_13, hl_gk_14, hl_gk_15, hl_gk_16, hl_gk_17, hl_gk_18, hl_k0, if_true, if_false, hl_q_n, hl_q_P, hl_q_I, hl_q_new, hl_q_sP, hl_q_sI, hl_q_ob, hl_q_ar, hl_q_k, hl_up_ne, hl_up_a, hl_row_ne, hl_lz2, hl_lv2, hl_lz3, hl_lv3, hl_lz4, hl_lv4, hl_lz6, hl_lv6, hl_lz9, hl_lv9, hl_lz12, hl_lv12, hl_lz40, hl_lv40, hl_lz64, hl_lv64, hl_lz72, hl_lv72, hl_lz74, hl_lv74, hl_lz160, hl_lv160, hl_lz300, hl_lv300, hl_lz330, hl_lv330, hl_lz432, hl_lv432, hl_lz490, hl_lv490, hl_lz800, hl_lv800, hl_lz3200, hl_lv3200, hl_lz5476, hl_lv5476, hl_lz24, hl_lv24, hl_lz96, hl_lv96, hl_N_0, hl_N_1, hl_N_2, hl_N_3, hl_N_4, hl_N_5, hl_N_6, hl_N_7, hl_N_8, hl_N_9, hl_N_10, hl_N_11, hl_N_12, not_false_eq_true, and_self, and_true, true_and, hl_tl_s, hl_tl_n, hl_cal_some, hl_kill_i, hl_kill_r, hl_kill_n, Nat.reduceAdd, Nat.reduceEqDiff, ne_eq, Nat.reduceLT, Nat.reduceLeDiff, Nat.lt_add_one]
  have x1 : hl_row (hl_row I 5 (fun j => if j < 0 then (480 : Int32) else 0)) 7 (fun j => if j < 0 then (-1 : Int32) else 0) = I := by
    rw [hl_fill0 i5, hl_fill0 i7]
  have y1 := hl_jA_1 (c := hl_call (d + 1)) (N := N) (P := (hl_up (hl_up (hl_up (hl_up (hl_up (hl_up (hl_up (hl_up (hl_up (hl_up (hl_up (hl_up (hl_up (hl_up (hl_up (hl_up (hl_up P 1 0 (some 2)) 1 1 (some 3)) 1 2 (some 4)) 1 3 (some 5)) 1 4 (some 6)) 1 5 (some 7)) 1 6 (some 8)) 1 7 (some 9)) 1 9 (some 10)) 11 0 (some 12)) 11 1 (some 13)) 11 2 (some 14)) 1 14 (some 11)) 15 0 (some 16)) 15 1 (some 17)) 15 2 (some 18)) 1 15 (some 15))) (I := I) hN.2 (by simp only [hl_up_a, Nat.reduceEqDiff, if_true, if_false]) (by simp only [hl_up_a, Nat.reduceEqDiff, if_true, if_false]) N 0 (Nat.zero_add _)
  rw [x1, show (nI 0) = (0 : Int32) from rfl] at y1
  have x2 : hl_row (hl_row (hl_row I 5 (fun j => if j < N then (480 : Int32) else 0)) 7 (fun j => if j < N then (-1 : Int32) else 0)) 10 (fun j => if j < 0 then (360 : Int32) else 0) = hl_row (hl_row I 5 (fun j => if j < N then 480 else 0)) 7 (fun j => if j < N then -1 else 0) := hl_fill0 (by rw [hl_row_ne _ _ (by decide : 10 ≠ 7), hl_row_ne _ _ (by decide : 10 ≠ 5)]; exact i10)
  have y2 := hl_jB_1 (c := hl_call (d + 1)) (N := N) (n := nI N) (P := (hl_up (hl_up (hl_up (hl_up (hl_up (hl_up (hl_up (hl_up (hl_up (hl_up (hl_up (hl_up (hl_up (hl_up (hl_up (hl_up (hl_up P 1 0 (some 2)) 1 1 (some 3)) 1 2 (some 4)) 1 3 (some 5)) 1 4 (some 6)) 1 5 (some 7)) 1 6 (some 8)) 1 7 (some 9)) 1 9 (some 10)) 11 0 (some 12)) 11 1 (some 13)) 11 2 (some 14)) 1 14 (some 11)) 15 0 (some 16)) 15 1 (some 17)) 15 2 (some 18)) 1 15 (some 15))) (I := hl_row (hl_row I 5 (fun j => if j < N then 480 else 0)) 7 (fun j => if j < N then -1 else 0)) (by simp only [hl_up_a, Nat.reduceEqDiff, if_true, if_false]) 12 0 rfl
  rw [x2, show (nI 0) = (0 : Int32) from rfl] at y2
  rw [hl_e7, stage, y1, hl_r7_119, hl_r7_120]
  simp only [hl_kill_i, hl_kill_r]
  rw [y2]
  simp only [hl_r7_142, hl_r7_143, hl_r7_144, hl_r7_147, hl_r7_148, hl_r7_149, hl_r7_152, hl_r7_153, hl_r7_154, hl_r7_157, hl_gk_1, if_true, if_false, hl_q_n, hl_q_P, hl_q_I, hl_q_new, hl_q_sP, hl_q_sI, hl_q_ob, hl_q_ar, hl_q_k, hl_up_ne, hl_up_a, hl_row_ne, hl_lz2, hl_lv2, hl_lz3, hl_lv3, hl_lz4, hl_lv4, hl_lz6, hl_lv6, hl_lz9, hl_lv9, hl_lz12, hl_lv12, hl_lz40, hl_lv40, hl_lz64, hl_lv64, hl_lz72, hl_lv72, hl_lz74, hl_lv74, hl_lz160, hl_lv160, hl_lz300, hl_lv300, hl_lz330, hl_lv330, hl_lz432, hl_lv432, hl_lz490, hl_lv490, hl_lz800, hl_lv800, hl_lz3200, hl_lv3200, hl_lz5476, hl_lv5476, hl_lz24, hl_lv24, hl_lz96, hl_lv96, hl_N_0, hl_N_1, hl_N_2, hl_N_3, hl_N_4, hl_N_5, hl_N_6, hl_N_7, hl_N_8, hl_N_9, hl_N_10, hl_N_11, hl_N_12, not_false_eq_true, and_self, and_true, true_and, hl_tl_s, hl_tl_n, hl_cal_some, hl_kill_i, hl_kill_r, hl_kill_n, Nat.reduceAdd, Nat.reduceEqDiff, ne_eq, Nat.reduceLT, Nat.reduceLeDiff, Nat.lt_add_one]
theorem hl_jA_19 {c : hl_C} (hN : N ≤ 24) (h3 : P 19 3 = some 23) (h5 : P 19 5 = some 25) (f : Nat) : ∀ i, i + f = N → hl_Run 7 c 92 [.ref 19, .int (nI N), .int (nI i)] [] (hl_q N 37 P (hl_row (hl_row I 23 (fun j => if j < i then 480 else 0)) 25 (fun j => if j < i then -1 else 0))) = hl_Run 7 c 119 [.ref 19, .int (nI N), .int (nI N)] [] (hl_q N 37 P (hl_row (hl_row I 23 (fun j => if j < N then 480 else 0)) 25 (fun j => if j < N then -1 else 0))) := by
  induction f with
  | zero =>
    intro i hi
    obtain rfl : i = N := by omega
    have c1 : nI i ≤ nI i := Int32.le_refl _
    simp only [hl_r7_92, hl_r7_93, hl_r7_94, c1, if_true]
  | succ f ih =>
    intro i hi
    have c1 : ¬ nI N ≤ nI i := nI_ge (by omega) (by omega)
    have b1 : hl_inb (nI i) N = true := hl_inb_nI (by omega) (by omega)
    rw [← ih (i + 1) (by omega), ← hl_fill2 (by decide : 23 ≠ 25), hl_r7_92, hl_r7_93, hl_r7_94, if_neg c1]
    simp only [hl_r7_0, hl_r7_4, hl_r7_5, hl_r7_11, hl_r7_12, hl_r7_18, hl_r7_19, hl_r7_25, hl_r7_26, hl_r7_32, hl_r7_33, hl_r7_39, hl_r7_40, hl_r7_46, hl_r7_47, hl_r7_53, hl_r7_54, hl_r7_60, hl_r7_61, hl_r7_68, hl_r7_72, hl_r7_79, hl_r7_83, hl_r7_90, hl_r7_91, hl_r7_93, hl_r7_94, hl_r7_97, hl_r7_98, hl_r7_101, hl_r7_102, hl_r7_105, hl_r7_106, hl_r7_107, hl_r7_110, hl_r7_111, hl_r7_112, hl_r7_113, hl_r7_116, hl_r7_119, hl_r7_120, hl_r7_121, hl_r7_122, hl_r7_124, hl_r7_127, hl_r7_128, hl_r7_131, hl_r7_132, hl_r7_135, hl_r7_136, hl_r7_139, hl_r7_142, hl_r7_143, hl_r7_144, hl_r7_147, hl_r7_148, hl_r7_149, hl_r7_152, hl_r7_153, hl_r7_154, hl_r7_157, hl_r7_1, hl_r7_6, hl_r7_8, hl_r7_13, hl_r7_15, hl_r7_20, hl_r7_22, hl_r7_27, hl_r7_29, hl_r7_34, hl_r7_36, hl_r7_41, hl_r7_43, hl_r7_48, hl_r7_50, hl_r7_55, hl_r7_57, hl_r7_63, hl_r7_65, hl_r7_69, hl_r7_73, hl_r7_76, hl_r7_80, hl_r7_84, hl_r7_87, b1, h3, h5, va_rf, nIc (show i < 2 ^ 31 by omega), nI_succ i, hl_gk_19, hl_gk_23, hl_gk_25, if_true, if_false, hl_q_n, hl_q_P, hl_q_I, hl_q_new, hl_q_sP, hl_q_sI, hl_q_ob, hl_q_ar, hl_q_k, hl_up_ne, hl_up_a, hl_row_ne, hl_lz2, hl_lv2, hl_lz3, hl_lv3, hl_lz4, hl_lv4, hl_lz6, hl_lv6, hl_lz9, hl_lv9, hl_lz12, hl_lv12, hl_lz40, hl_lv40, hl_lz64, hl_lv64, hl_lz72, hl_lv72, hl_lz74, hl_lv74, hl_lz160, hl_lv160, hl_lz300, hl_lv300, hl_lz330, hl_lv330, hl_lz432, hl_lv432, hl_lz490, hl_lv490, hl_lz800, hl_lv800, hl_lz3200, hl_lv3200, hl_lz5476, hl_lv5476, hl_lz24, hl_lv24, hl_lz96, hl_lv96, hl_N_0, hl_N_1, hl_N_2, hl_N_3, hl_N_4, hl_N_5, hl_N_6, hl_N_7, hl_N_8, hl_N_9, hl_N_10, hl_N_11, hl_N_12, not_false_eq_true, and_self, and_true, true_and, hl_tl_s, hl_tl_n, hl_cal_some, hl_kill_i, hl_kill_r, hl_kill_n, Nat.reduceAdd, Nat.reduceEqDiff, ne_eq, Nat.reduceLT, Nat.reduceLeDiff, Nat.lt_add_one]
theorem hl_jB_19 {c : hl_C} (h8 : P 19 9 = some 28) {n : Int32} (f : Nat) : ∀ i, i + f = 12 → hl_Run 7 c 121 [.ref 19, .int n, .int (nI i)] [] (hl_q N 37 P (hl_row I 28 (fun j => if j < i then 360 else 0))) = hl_Run 7 c 142 [.ref 19, .int n, .int (nI 12)] [] (hl_q N 37 P (hl_row I 28 (fun j => if j < 12 then 360 else 0))) := by
  induction f with
  | zero =>
    intro i hi
    obtain rfl : i = 12 := by omega
    have c1 : (12 : Int32) ≤ nI 12 := Int32.le_refl _
    simp only [hl_r7_121, hl_r7_122, hl_r7_124, c1, if_true]
  | succ f ih =>
    intro i hi
    have c1 : ¬ (12 : Int32) ≤ nI i := show ¬ nI 12 ≤ nI i from nI_ge (by omega) (by decide)
    have b1 : hl_inb (nI i) 12 = true := hl_inb_nI (by omega) (by omega)
    rw [← ih (i + 1) (by omega), ← hl_fill1, hl_r7_121, hl_r7_122, hl_r7_124, if_neg c1]
    simp only [hl_r7_0, hl_r7_4, hl_r7_5, hl_r7_11, hl_r7_12, hl_r7_18, hl_r7_19, hl_r7_25, hl_r7_26, hl_r7_32, hl_r7_33, hl_r7_39, hl_r7_40, hl_r7_46, hl_r7_47, hl_r7_53, hl_r7_54, hl_r7_60, hl_r7_61, hl_r7_68, hl_r7_72, hl_r7_79, hl_r7_83, hl_r7_90, hl_r7_91, hl_r7_92, hl_r7_93, hl_r7_94, hl_r7_97, hl_r7_98, hl_r7_101, hl_r7_102, hl_r7_105, hl_r7_106, hl_r7_107, hl_r7_110, hl_r7_111, hl_r7_112, hl_r7_113, hl_r7_116, hl_r7_119, hl_r7_120, hl_r7_122, hl_r7_124, hl_r7_127, hl_r7_128, hl_r7_131, hl_r7_132, hl_r7_135, hl_r7_136, hl_r7_139, hl_r7_142, hl_r7_143, hl_r7_144, hl_r7_147, hl_r7_148, hl_r7_149, hl_r7_152, hl_r7_153, hl_r7_154, hl_r7_157, hl_r7_1, hl_r7_6, hl_r7_8, hl_r7_13, hl_r7_15, hl_r7_20, hl_r7_22, hl_r7_27, hl_r7_29, hl_r7_34, hl_r7_36, hl_r7_41, hl_r7_43, hl_r7_48, hl_r7_50, hl_r7_55, hl_r7_57, hl_r7_63, hl_r7_65, hl_r7_69, hl_r7_73, hl_r7_76, hl_r7_80, hl_r7_84, hl_r7_87, b1, h8, va_rf, nIc (show i < 2 ^ 31 by omega), nI_succ i, hl_gk_19, hl_gk_28, if_true, if_false, hl_q_n, hl_q_P, hl_q_I, hl_q_new, hl_q_sP, hl_q_sI, hl_q_ob, hl_q_ar, hl_q_k, hl_up_ne, hl_up_a, hl_row_ne, hl_lz2, hl_lv2, hl_lz3, hl_lv3, hl_lz4, hl_lv4, hl_lz6, hl_lv6, hl_lz9, hl_lv9, hl_lz12, hl_lv12, hl_lz40, hl_lv40, hl_lz64, hl_lv64, hl_lz72, hl_lv72, hl_lz74, hl_lv74, hl_lz160, hl_lv160, hl_lz300, hl_lv300, hl_lz330, hl_lv330, hl_lz432, hl_lv432, hl_lz490, hl_lv490, hl_lz800, hl_lv800, hl_lz3200, hl_lv3200, hl_lz5476, hl_lv5476, hl_lz24, hl_lv24, hl_lz96, hl_lv96, hl_N_0, hl_N_1, hl_N_2, hl_N_3, hl_N_4, hl_N_5, hl_N_6, hl_N_7, hl_N_8, hl_N_9, hl_N_10, hl_N_11, hl_N_12, not_false_eq_true, and_self, and_true, true_and, hl_tl_s, hl_tl_n, hl_cal_some, hl_kill_i, hl_kill_r, hl_kill_n, Nat.reduceAdd, Nat.reduceEqDiff, ne_eq, Nat.reduceLT, Nat.reduceLeDiff, Nat.lt_add_one]
theorem hl_i7_19 (hN : 4 ≤ N ∧ N ≤ 24) (hP : ∀ a, 19 ≤ a → P a = fun _ => none) (hI : ∀ a, 19 ≤ a → I a = fun _ => 0) : hl_call (d + 2) 7 [.ref 19, .int (nI N)] (hl_q N 20 P I) = some (none, hl_q N 37 (hl_up (hl_up (hl_up (hl_up (hl_up (hl_up (hl_up (hl_up (hl_up (hl_up (hl_up (hl_up (hl_up (hl_up (hl_up (hl_up (hl_up P 19 0 (some 20)) 19 1 (some 21)) 19 2 (some 22)) 19 3 (some 23)) 19 4 (some 24)) 19 5 (some 25)) 19 6 (some 26)) 19 7 (some 27)) 19 9 (some 28)) 29 0 (some 30)) 29 1 (some 31)) 29 2 (some 32)) 19 14 (some 29)) 33 0 (some 34)) 33 1 (some 35)) 33 2 (some 36)) 19 15 (some 33)) (hl_up (hl_up (hl_up (hl_row (hl_row (hl_row I 23 (fun j => if j < N then 480 else 0)) 25 (fun j => if j < N then -1 else 0)) 28 (fun j => if j < 12 then 360 else 0)) 19 10 (-1)) 19 11 (-1)) 19 13 (-1))) := by
  have p19 := hP 19 (by omega)
  have i19 := hI 19 (by omega)
  have p20 := hP 20 (by omega)
  have i20 := hI 20 (by omega)
  have p21 := hP 21 (by omega)
  have i21 := hI 21 (by omega)
  have p22 := hP 22 (by omega)
  have i22 := hI 22 (by omega)
  have p23 := hP 23 (by omega)
  have i23 := hI 23 (by omega)
  have p24 := hP 24 (by omega)
  have i24 := hI 24 (by omega)
  have p25 := hP 25 (by omega)
  have i25 := hI 25 (by omega)
  have p26 := hP 26 (by omega)
  have i26 := hI 26 (by omega)
  have p27 := hP 27 (by omega)
  have i27 := hI 27 (by omega)
  have p28 := hP 28 (by omega)
  have i28 := hI 28 (by omega)
  have p29 := hP 29 (by omega)
  have i29 := hI 29 (by omega)
  have p30 := hP 30 (by omega)
  have i30 := hI 30 (by omega)
  have p31 := hP 31 (by omega)
  have i31 := hI 31 (by omega)
  have p32 := hP 32 (by omega)
  have i32 := hI 32 (by omega)
  have p33 := hP 33 (by omega)
  have i33 := hI 33 (by omega)
  have p34 := hP 34 (by omega)
  have i34 := hI 34 (by omega)
  have p35 := hP 35 (by omega)
  have i35 := hI 35 (by omega)
  have p36 := hP 36 (by omega)
  have i36 := hI 36 (by omega)
  have z1 : (nI N < 0) = False := eq_false (by have := hl_inb_nI (n := N) (N := 25) (by omega) (by decide); unfold hl_inb at this; rw [Bool.and_eq_true, decide_eq_true_eq] at this; exact this.1)
  have z2 : (nI N).toNatClampNeg = N := nIc (by omega)
  have z3 : (N ≤ 100000) = True := eq_true (by omega)
  have sA := hl_i80_29 (d := d) (N := N) (P := (hl_up (hl_up (hl_up (hl_up (hl_up (hl_up (hl_up (hl_up (hl_up P 19 0 (some 20)) 19 1 (some 21)) 19 2 (some 22)) 19 3 (some 23)) 19 4 (some 24)) 19 5 (some 25)) 19 6 (some 26)) 19 7 (some 27)) 19 9 (some 28))) (I := I) (fun a h => by
    simp only [hl_up_ne _ _ _ (show a ≠ 19 by omega)]
    exact hP a (by omega)) (fun a h => hI a (by omega))
  have sB := hl_i91_33 (d := d) (N := N) (P := (hl_up (hl_up (hl_up (hl_up (hl_up (hl_up (hl_up (hl_up (hl_up (hl_up (hl_up (hl_up (hl_up P 19 0 (some 20)) 19 1 (some 21)) 19 2 (some 22)) 19 3 (some 23)) 19 4 (some 24)) 19 5 (some 25)) 19 6 (some 26)) 19 7 (some 27)) 19 9 (some 28)) 29 0 (some 30)) 29 1 (some 31)) 29 2 (some 32)) 19 14 (some 29))) (I := I) (fun a h => by
    simp only [hl_up_ne _ _ _ (show a ≠ 19 by omega), hl_up_ne _ _ _ (show a ≠ 29 by omega)]
    exact hP a (by omega)) (fun a h => hI a (by omega))
  have stage : hl_Run 7 (hl_call (d + 1)) 0 [.ref 19, .int (nI N), .null] [] (hl_q N 20 P I) = hl_Run 7 (hl_call (d + 1)) 92 [.ref 19, .int (nI N), .int 0] [] (hl_q N 37 (hl_up (hl_up (hl_up (hl_up (hl_up (hl_up (hl_up (hl_up (hl_up (hl_up (hl_up (hl_up (hl_up (hl_up (hl_up (hl_up (hl_up P 19 0 (some 20)) 19 1 (some 21)) 19 2 (some 22)) 19 3 (some 23)) 19 4 (some 24)) 19 5 (some 25)) 19 6 (some 26)) 19 7 (some 27)) 19 9 (some 28)) 29 0 (some 30)) 29 1 (some 31)) 29 2 (some 32)) 19 14 (some 29)) 33 0 (some 34)) 33 1 (some 35)) 33 2 (some 36)) 19 15 (some 33)) I) := by
    simp only [hl_r7_0, hl_r7_4, hl_r7_5, hl_r7_11, hl_r7_12, hl_r7_18, hl_r7_19, hl_r7_25, hl_r7_26, hl_r7_32, hl_r7_33, hl_r7_39, hl_r7_40, hl_r7_46, hl_r7_47, hl_r7_53, hl_r7_54, hl_r7_60, hl_r7_61, hl_r7_68, hl_r7_72, hl_r7_79, hl_r7_83, hl_r7_90, hl_r7_91, hl_r7_93, hl_r7_94, hl_r7_97, hl_r7_98, hl_r7_101, hl_r7_102, hl_r7_105, hl_r7_106, hl_r7_107, hl_r7_110, hl_r7_111, hl_r7_112, hl_r7_113, hl_r7_116, hl_r7_119, hl_r7_120, hl_r7_121, hl_r7_122, hl_r7_124, hl_r7_127, hl_r7_128, hl_r7_131, hl_r7_132, hl_r7_135, hl_r7_136, hl_r7_139, hl_r7_142, hl_r7_143, hl_r7_144, hl_r7_147, hl_r7_148, hl_r7_149, hl_r7_152, hl_r7_153, hl_r7_154, hl_r7_157, hl_r7_1, hl_r7_6, hl_r7_8, hl_r7_13, hl_r7_15, hl_r7_20, hl_r7_22, hl_r7_27, hl_r7_29, hl_r7_34, hl_r7_36, hl_r7_41, hl_r7_43, hl_r7_48, hl_r7_50, hl_r7_55, hl_r7_57, hl_r7_63, hl_r7_65, hl_r7_69, hl_r7_73, hl_r7_76, hl_r7_80, hl_r7_84, hl_r7_87, sA, sB, z1, z2, z3, p19, i19, p20, i20, p21, i21, p22, i22, p23, i23, p24, i24, p25, i25, p26, i26, p27, i27, p28, i28, p29, i29, p30, i30, p31, i31, p32, i32, p33, i33, p34, i34, p35, i35, p36, i36, hl_gk_19, hl_gk_20, hl_gk_21, hl_gk_22, hl_gk_23, hl_gk_24, hl_gk_25, hl_gk_26, hl_gk_27, hl_gk_28, hl_gk_29, hl_gk_30, hl_gk_31, hl_gk_32, hl_gk_33, hl_gk_34, hl_gk_35, hl_gk_36, hl_k0, if_true, if_false, hl_q_n, hl_q_P, hl_q_I, hl_q_new, hl_q_sP, hl_q_sI, hl_q_ob, hl_q_ar, hl_q_k, hl_up_ne, hl_up_a, hl_row_ne, hl_lz2, hl_lv2, hl_lz3, hl_lv3, hl_lz4, hl_lv4, hl_lz6, hl_lv6, hl_lz9, hl_lv9, hl_lz12, hl_lv12, hl_lz40, hl_lv40, hl_lz64, hl_lv64, hl_lz72, hl_lv72, hl_lz74, hl_lv74, hl_lz160, hl_lv160, hl_lz300, hl_lv300, hl_lz330, hl_lv330, hl_lz432, hl_lv432, hl_lz490, hl_lv490, hl_lz800, hl_lv800, hl_lz3200, hl_lv3200, hl_lz5476, hl_lv5476, hl_lz24, hl_lv24, hl_lz96, hl_lv96, hl_N_0, hl_N_1, hl_N_2, hl_N_3, hl_N_4, hl_N_5, hl_N_6, hl_N_7, hl_N_8, hl_N_9, hl_N_10, hl_N_11, hl_N_12, not_false_eq_true, and_self, and_true, true_and, hl_tl_s, hl_tl_n, hl_cal_some, hl_kill_i, hl_kill_r, hl_kill_n, Nat.reduceAdd, Nat.reduceEqDiff, ne_eq, Nat.reduceLT, Nat.reduceLeDiff, Nat.lt_add_one]
  have x1 : hl_row (hl_row I 23 (fun j => if j < 0 then (480 : Int32) else 0)) 25 (fun j => if j < 0 then (-1 : Int32) else 0) = I := by
    rw [hl_fill0 i23, hl_fill0 i25]
  have y1 := hl_jA_19 (c := hl_call (d + 1)) (N := N) (P := (hl_up (hl_up (hl_up (hl_up (hl_up (hl_up (hl_up (hl_up (hl_up (hl_up (hl_up (hl_up (hl_up (hl_up (hl_up (hl_up (hl_up P 19 0 (some 20)) 19 1 (some 21)) 19 2 (some 22)) 19 3 (some 23)) 19 4 (some 24)) 19 5 (some 25)) 19 6 (some 26)) 19 7 (some 27)) 19 9 (some 28)) 29 0 (some 30)) 29 1 (some 31)) 29 2 (some 32)) 19 14 (some 29)) 33 0 (some 34)) 33 1 (some 35)) 33 2 (some 36)) 19 15 (some 33))) (I := I) hN.2 (by simp only [hl_up_a, Nat.reduceEqDiff, if_true, if_false]) (by simp only [hl_up_a, Nat.reduceEqDiff, if_true, if_false]) N 0 (Nat.zero_add _)
  rw [x1, show (nI 0) = (0 : Int32) from rfl] at y1
  have x2 : hl_row (hl_row (hl_row I 23 (fun j => if j < N then (480 : Int32) else 0)) 25 (fun j => if j < N then (-1 : Int32) else 0)) 28 (fun j => if j < 0 then (360 : Int32) else 0) = hl_row (hl_row I 23 (fun j => if j < N then 480 else 0)) 25 (fun j => if j < N then -1 else 0) := hl_fill0 (by rw [hl_row_ne _ _ (by decide : 28 ≠ 25), hl_row_ne _ _ (by decide : 28 ≠ 23)]; exact i28)
  have y2 := hl_jB_19 (c := hl_call (d + 1)) (N := N) (n := nI N) (P := (hl_up (hl_up (hl_up (hl_up (hl_up (hl_up (hl_up (hl_up (hl_up (hl_up (hl_up (hl_up (hl_up (hl_up (hl_up (hl_up (hl_up P 19 0 (some 20)) 19 1 (some 21)) 19 2 (some 22)) 19 3 (some 23)) 19 4 (some 24)) 19 5 (some 25)) 19 6 (some 26)) 19 7 (some 27)) 19 9 (some 28)) 29 0 (some 30)) 29 1 (some 31)) 29 2 (some 32)) 19 14 (some 29)) 33 0 (some 34)) 33 1 (some 35)) 33 2 (some 36)) 19 15 (some 33))) (I := hl_row (hl_row I 23 (fun j => if j < N then 480 else 0)) 25 (fun j => if j < N then -1 else 0)) (by simp only [hl_up_a, Nat.reduceEqDiff, if_true, if_false]) 12 0 rfl
  rw [x2, show (nI 0) = (0 : Int32) from rfl] at y2
  rw [hl_e7, stage, y1, hl_r7_119, hl_r7_120]
  simp only [hl_kill_i, hl_kill_r]
  rw [y2]
  simp only [hl_r7_142, hl_r7_143, hl_r7_144, hl_r7_147, hl_r7_148, hl_r7_149, hl_r7_152, hl_r7_153, hl_r7_154, hl_r7_157, hl_gk_19, if_true, if_false, hl_q_n, hl_q_P, hl_q_I, hl_q_new, hl_q_sP, hl_q_sI, hl_q_ob, hl_q_ar, hl_q_k, hl_up_ne, hl_up_a, hl_row_ne, hl_lz2, hl_lv2, hl_lz3, hl_lv3, hl_lz4, hl_lv4, hl_lz6, hl_lv6, hl_lz9, hl_lv9, hl_lz12, hl_lv12, hl_lz40, hl_lv40, hl_lz64, hl_lv64, hl_lz72, hl_lv72, hl_lz74, hl_lv74, hl_lz160, hl_lv160, hl_lz300, hl_lv300, hl_lz330, hl_lv330, hl_lz432, hl_lv432, hl_lz490, hl_lv490, hl_lz800, hl_lv800, hl_lz3200, hl_lv3200, hl_lz5476, hl_lv5476, hl_lz24, hl_lv24, hl_lz96, hl_lv96, hl_N_0, hl_N_1, hl_N_2, hl_N_3, hl_N_4, hl_N_5, hl_N_6, hl_N_7, hl_N_8, hl_N_9, hl_N_10, hl_N_11, hl_N_12, not_false_eq_true, and_self, and_true, true_and, hl_tl_s, hl_tl_n, hl_cal_some, hl_kill_i, hl_kill_r, hl_kill_n, Nat.reduceAdd, Nat.reduceEqDiff, ne_eq, Nat.reduceLT, Nat.reduceLeDiff, Nat.lt_add_one]
theorem hl_z4 : ∀ n, n ≤ 24 → Int32.ofNat n * 4 = nI (n * 4) := by decide
theorem hl_z6 : ∀ n, n ≤ 24 → (if Int32.ofNat n < 6 then 6 else Int32.ofNat n) * 4 = nI ((if n < 6 then 6 else n) * 4) := by decide
theorem hl_zn {n : Nat} (h : n ≤ 100) : ((nI n < 0) = False) ∧ (nI n).toNatClampNeg = n ∧ ((n ≤ 100000) = True) := by
  refine ⟨eq_false ?_, nIc (by omega), eq_true (by omega)⟩
  have := hl_inb_nI (n := n) (N := 101) (by omega) (by decide)
  unfold hl_inb at this
  rw [Bool.and_eq_true, decide_eq_true_eq] at this
  exact this.1
theorem hl_mk53 (hP : ∀ a, 38 ≤ a → P a = fun _ => none) (hI : ∀ a, 38 ≤ a → I a = fun _ => 0) : hl_call (d + 2) 53 [.ref 38, .ref 37] (hl_q N 39 P I) = some (none, hl_q N 43 (hl_up (hl_up (hl_up (hl_up (hl_up P 39 0 (some 40)) 39 1 (some 41)) 39 2 (some 42)) 38 1 (some 39)) 38 0 (some 37)) (hl_up (hl_up I 38 7 (-1)) 38 8 (-1))) := by
  have p38 := hP 38 (by omega)
  have i38 := hI 38 (by omega)
  have p39 := hP 39 (by omega)
  have i39 := hI 39 (by omega)
  have p40 := hP 40 (by omega)
  have i40 := hI 40 (by omega)
  have p41 := hP 41 (by omega)
  have i41 := hI 41 (by omega)
  have p42 := hP 42 (by omega)
  have i42 := hI 42 (by omega)
  have sT := hl_i72_39 (d := d) (N := N) (P := P) (I := I) (fun a h => hP a (by omega)) (fun a h => hI a (by omega))
  rw [hl_e53]
  simp only [hl_r53_0, hl_r53_4, hl_r53_8, hl_r53_15, hl_r53_16, hl_r53_17, hl_r53_20, hl_r53_21, hl_r53_22, hl_r53_25, hl_r53_26, hl_r53_30, hl_r53_1, hl_r53_5, hl_r53_9, hl_r53_12, hl_r53_27, sT, p38, i38, p39, i39, p40, i40, p41, i41, p42, i42, hl_gk_38, hl_gk_39, hl_gk_40, hl_gk_41, hl_gk_42, if_true, if_false, hl_q_n, hl_q_P, hl_q_I, hl_q_new, hl_q_sP, hl_q_sI, hl_q_ob, hl_q_ar, hl_q_k, hl_up_ne, hl_up_a, hl_row_ne, hl_lz2, hl_lv2, hl_lz3, hl_lv3, hl_lz4, hl_lv4, hl_lz6, hl_lv6, hl_lz9, hl_lv9, hl_lz12, hl_lv12, hl_lz40, hl_lv40, hl_lz64, hl_lv64, hl_lz72, hl_lv72, hl_lz74, hl_lv74, hl_lz160, hl_lv160, hl_lz300, hl_lv300, hl_lz330, hl_lv330, hl_lz432, hl_lv432, hl_lz490, hl_lv490, hl_lz800, hl_lv800, hl_lz3200, hl_lv3200, hl_lz5476, hl_lv5476, hl_lz24, hl_lv24, hl_lz96, hl_lv96, hl_N_0, hl_N_1, hl_N_2, hl_N_3, hl_N_4, hl_N_5, hl_N_6, hl_N_7, hl_N_8, hl_N_9, hl_N_10, hl_N_11, hl_N_12, not_false_eq_true, and_self, and_true, true_and, hl_tl_s, hl_tl_n, hl_cal_some, hl_kill_i, hl_kill_r, hl_kill_n, Nat.reduceAdd, Nat.reduceEqDiff, ne_eq, Nat.reduceLT, Nat.reduceLeDiff, Nat.lt_add_one]
theorem hl_mk96 (hP : ∀ a, 60 ≤ a → P a = fun _ => none) (hI : ∀ a, 60 ≤ a → I a = fun _ => 0) : hl_call (d + 1) 96 [.ref 60, .ref 1, .ref 43] (hl_q N 61 P I) = some (none, hl_q N 63 (hl_up (hl_up (hl_up (hl_up P 60 2 (some 61)) 60 3 (some 62)) 60 0 (some 1)) 60 1 (some 43)) I) := by
  have p60 := hP 60 (by omega)
  have i60 := hI 60 (by omega)
  have p61 := hP 61 (by omega)
  have i61 := hI 61 (by omega)
  have p62 := hP 62 (by omega)
  have i62 := hI 62 (by omega)
  rw [hl_e96]
  simp only [hl_r96_0, hl_r96_4, hl_r96_5, hl_r96_12, hl_r96_13, hl_r96_20, hl_r96_21, hl_r96_25, hl_r96_26, hl_r96_30, hl_r96_1, hl_r96_7, hl_r96_9, hl_r96_15, hl_r96_17, hl_r96_22, hl_r96_27, p60, i60, p61, i61, p62, i62, hl_gk_60, hl_gk_61, hl_gk_62, if_true, if_false, hl_q_n, hl_q_P, hl_q_I, hl_q_new, hl_q_sP, hl_q_sI, hl_q_ob, hl_q_ar, hl_q_k, hl_up_ne, hl_up_a, hl_row_ne, hl_lz2, hl_lv2, hl_lz3, hl_lv3, hl_lz4, hl_lv4, hl_lz6, hl_lv6, hl_lz9, hl_lv9, hl_lz12, hl_lv12, hl_lz40, hl_lv40, hl_lz64, hl_lv64, hl_lz72, hl_lv72, hl_lz74, hl_lv74, hl_lz160, hl_lv160, hl_lz300, hl_lv300, hl_lz330, hl_lv330, hl_lz432, hl_lv432, hl_lz490, hl_lv490, hl_lz800, hl_lv800, hl_lz3200, hl_lv3200, hl_lz5476, hl_lv5476, hl_lz24, hl_lv24, hl_lz96, hl_lv96, hl_N_0, hl_N_1, hl_N_2, hl_N_3, hl_N_4, hl_N_5, hl_N_6, hl_N_7, hl_N_8, hl_N_9, hl_N_10, hl_N_11, hl_N_12, not_false_eq_true, and_self, and_true, true_and, hl_tl_s, hl_tl_n, hl_cal_some, hl_kill_i, hl_kill_r, hl_kill_n, Nat.reduceAdd, Nat.reduceEqDiff, ne_eq, Nat.reduceLT, Nat.reduceLeDiff, Nat.lt_add_one]
theorem hl_mk42 (hN : 4 ≤ N ∧ N ≤ 24) (h10 : P 1 0 = some 2) (hP : ∀ a, 63 ≤ a → P a = fun _ => none) (hI : ∀ a, 63 ≤ a → I a = fun _ => 0) : hl_call (d + 1) 42 [.ref 63, .ref 1, .ref 60] (hl_q N 64 P I) = some (none, hl_q N 66 (hl_up (hl_up (hl_up (hl_up P 63 0 (some 1)) 63 1 (some 60)) 63 2 (some 64)) 63 3 (some 65)) I) := by
  have p63 := hP 63 (by omega)
  have i63 := hI 63 (by omega)
  have p64 := hP 64 (by omega)
  have i64 := hI 64 (by omega)
  have p65 := hP 65 (by omega)
  have i65 := hI 65 (by omega)
  obtain ⟨z1, z2, z3⟩ := hl_zn (n := N) (by omega)
  obtain ⟨y1, y2, y3⟩ := hl_zn (n := N * 4) (by omega)
  have z4 := hl_z4 N hN.2
  have z0 : Int32.ofNat N = nI N := rfl
  rw [z0] at z4
  rw [hl_e42]
  simp only [hl_r42_0, hl_r42_4, hl_r42_5, hl_r42_9, hl_r42_10, hl_r42_14, hl_r42_15, hl_r42_16, hl_r42_19, hl_r42_20, hl_r42_21, hl_r42_27, hl_r42_28, hl_r42_29, hl_r42_32, hl_r42_38, hl_r42_1, hl_r42_6, hl_r42_11, hl_r42_22, hl_r42_24, hl_r42_33, hl_r42_35, h10, va_rf, z0, z4, z1, z2, z3, y1, y2, y3, p63, i63, p64, i64, p65, i65, hl_gk_63, hl_gk_64, hl_gk_65, hl_gk_1, hl_gk_2, if_true, if_false, hl_q_n, hl_q_P, hl_q_I, hl_q_new, hl_q_sP, hl_q_sI, hl_q_ob, hl_q_ar, hl_q_k, hl_up_ne, hl_up_a, hl_row_ne, hl_lz2, hl_lv2, hl_lz3, hl_lv3, hl_lz4, hl_lv4, hl_lz6, hl_lv6, hl_lz9, hl_lv9, hl_lz12, hl_lv12, hl_lz40, hl_lv40, hl_lz64, hl_lv64, hl_lz72, hl_lv72, hl_lz74, hl_lv74, hl_lz160, hl_lv160, hl_lz300, hl_lv300, hl_lz330, hl_lv330, hl_lz432, hl_lv432, hl_lz490, hl_lv490, hl_lz800, hl_lv800, hl_lz3200, hl_lv3200, hl_lz5476, hl_lv5476, hl_lz24, hl_lv24, hl_lz96, hl_lv96, hl_N_0, hl_N_1, hl_N_2, hl_N_3, hl_N_4, hl_N_5, hl_N_6, hl_N_7, hl_N_8, hl_N_9, hl_N_10, hl_N_11, hl_N_12, not_false_eq_true, and_self, and_true, true_and, hl_tl_s, hl_tl_n, hl_cal_some, hl_kill_i, hl_kill_r, hl_kill_n, Nat.reduceAdd, Nat.reduceEqDiff, ne_eq, Nat.reduceLT, Nat.reduceLeDiff, Nat.lt_add_one]
theorem hl_mk35 {x : Int32} (hN : 4 ≤ N ∧ N ≤ 24) (hP : ∀ a, 66 ≤ a → P a = fun _ => none) (hI : ∀ a, 66 ≤ a → I a = fun _ => 0) : hl_call (d + 1) 35 [.ref 66, .int x, .int (nI N)] (hl_q N 67 P I) = some (none, hl_q N 68 (hl_up P 66 1 (some 67)) (hl_up I 66 0 x)) := by
  have p66 := hP 66 (by omega)
  have i66 := hI 66 (by omega)
  have p67 := hP 67 (by omega)
  have i67 := hI 67 (by omega)
  obtain ⟨z1, z2, z3⟩ := hl_zn (n := N) (by omega)
  rw [hl_e35]
  simp only [hl_r35_0, hl_r35_4, hl_r35_5, hl_r35_9, hl_r35_10, hl_r35_16, hl_r35_1, hl_r35_6, hl_r35_11, hl_r35_13, z1, z2, z3, p66, i66, p67, i67, hl_gk_66, hl_gk_67, if_true, if_false, hl_q_n, hl_q_P, hl_q_I, hl_q_new, hl_q_sP, hl_q_sI, hl_q_ob, hl_q_ar, hl_q_k, hl_up_ne, hl_up_a, hl_row_ne, hl_lz2, hl_lv2, hl_lz3, hl_lv3, hl_lz4, hl_lv4, hl_lz6, hl_lv6, hl_lz9, hl_lv9, hl_lz12, hl_lv12, hl_lz40, hl_lv40, hl_lz64, hl_lv64, hl_lz72, hl_lv72, hl_lz74, hl_lv74, hl_lz160, hl_lv160, hl_lz300, hl_lv300, hl_lz330, hl_lv330, hl_lz432, hl_lv432, hl_lz490, hl_lv490, hl_lz800, hl_lv800, hl_lz3200, hl_lv3200, hl_lz5476, hl_lv5476, hl_lz24, hl_lv24, hl_lz96, hl_lv96, hl_N_0, hl_N_1, hl_N_2, hl_N_3, hl_N_4, hl_N_5, hl_N_6, hl_N_7, hl_N_8, hl_N_9, hl_N_10, hl_N_11, hl_N_12, not_false_eq_true, and_self, and_true, true_and, hl_tl_s, hl_tl_n, hl_cal_some, hl_kill_i, hl_kill_r, hl_kill_n, Nat.reduceAdd, Nat.reduceEqDiff, ne_eq, Nat.reduceLT, Nat.reduceLeDiff, Nat.lt_add_one]
theorem hl_mk25 (hN : 4 ≤ N ∧ N ≤ 24) (h10 : P 1 0 = some 2) (hP : ∀ a, 68 ≤ a → P a = fun _ => none) (hI : ∀ a, 68 ≤ a → I a = fun _ => 0) : hl_call (d + 2) 25 [.ref 68, .ref 1, .ref 63] (hl_q N 69 P I) = some (none, hl_q N 81 (hl_up (hl_up (hl_up (hl_up (hl_up (hl_up (hl_up (hl_up (hl_up (hl_up (hl_up (hl_up (hl_up (hl_up P 69 2 (some 70)) 69 3 (some 71)) 69 4 (some 72)) 69 5 (some 73)) 69 6 (some 74)) 69 7 (some 75)) 69 8 (some 76)) 69 9 (some 77)) 68 2 (some 69)) 68 5 (some 78)) 68 0 (some 1)) 68 1 (some 63)) 68 3 (some 79)) 68 4 (some 80)) I) := by
  have p68 := hP 68 (by omega)
  have i68 := hI 68 (by omega)
  have p69 := hP 69 (by omega)
  have i69 := hI 69 (by omega)
  have p70 := hP 70 (by omega)
  have i70 := hI 70 (by omega)
  have p71 := hP 71 (by omega)
  have i71 := hI 71 (by omega)
  have p72 := hP 72 (by omega)
  have i72 := hI 72 (by omega)
  have p73 := hP 73 (by omega)
  have i73 := hI 73 (by omega)
  have p74 := hP 74 (by omega)
  have i74 := hI 74 (by omega)
  have p75 := hP 75 (by omega)
  have i75 := hI 75 (by omega)
  have p76 := hP 76 (by omega)
  have i76 := hI 76 (by omega)
  have p77 := hP 77 (by omega)
  have i77 := hI 77 (by omega)
  have p78 := hP 78 (by omega)
  have i78 := hI 78 (by omega)
  have p79 := hP 79 (by omega)
  have i79 := hI 79 (by omega)
  have p80 := hP 80 (by omega)
  have i80 := hI 80 (by omega)
  obtain ⟨z1, z2, z3⟩ := hl_zn (n := N) (by omega)
  obtain ⟨y1, y2, y3⟩ := hl_zn (n := (if N < 6 then 6 else N) * 4) (by split <;> omega)
  have z4 := hl_z6 N hN.2
  have z0 : Int32.ofNat N = nI N := rfl
  rw [z0] at z4
  have sN := hl_i14_69 (d := d) (N := N) (P := P) (I := I) (fun a h => hP a (by omega)) (fun a h => hI a (by omega))
  rw [hl_e25]
  simp only [hl_r25_0, hl_r25_4, hl_r25_8, hl_r25_15, hl_r25_16, hl_r25_22, hl_r25_23, hl_r25_27, hl_r25_28, hl_r25_32, hl_r25_33, hl_r25_34, hl_r25_37, hl_r25_43, hl_r25_44, hl_r25_45, hl_r25_48, hl_r25_49, hl_r25_51, hl_r25_54, hl_r25_55, hl_r25_61, hl_r25_1, hl_r25_5, hl_r25_9, hl_r25_12, hl_r25_17, hl_r25_19, hl_r25_24, hl_r25_29, hl_r25_38, hl_r25_40, hl_r25_56, hl_r25_58, sN, h10, va_rf, z0, z4, z1, z2, z3, y1, y2, y3, p68, i68, p69, i69, p70, i70, p71, i71, p72, i72, p73, i73, p74, i74, p75, i75, p76, i76, p77, i77, p78, i78, p79, i79, p80, i80, hl_gk_68, hl_gk_69, hl_gk_70, hl_gk_71, hl_gk_72, hl_gk_73, hl_gk_74, hl_gk_75, hl_gk_76, hl_gk_77, hl_gk_78, hl_gk_79, hl_gk_80, hl_gk_1, hl_gk_2, if_true, if_false, hl_q_n, hl_q_P, hl_q_I, hl_q_new, hl_q_sP, hl_q_sI, hl_q_ob, hl_q_ar, hl_q_k, hl_up_ne, hl_up_a, hl_row_ne, hl_lz2, hl_lv2, hl_lz3, hl_lv3, hl_lz4, hl_lv4, hl_lz6, hl_lv6, hl_lz9, hl_lv9, hl_lz12, hl_lv12, hl_lz40, hl_lv40, hl_lz64, hl_lv64, hl_lz72, hl_lv72, hl_lz74, hl_lv74, hl_lz160, hl_lv160, hl_lz300, hl_lv300, hl_lz330, hl_lv330, hl_lz432, hl_lv432, hl_lz490, hl_lv490, hl_lz800, hl_lv800, hl_lz3200, hl_lv3200, hl_lz5476, hl_lv5476, hl_lz24, hl_lv24, hl_lz96, hl_lv96, hl_N_0, hl_N_1, hl_N_2, hl_N_3, hl_N_4, hl_N_5, hl_N_6, hl_N_7, hl_N_8, hl_N_9, hl_N_10, hl_N_11, hl_N_12, not_false_eq_true, and_self, and_true, true_and, hl_tl_s, hl_tl_n, hl_cal_some, hl_kill_i, hl_kill_r, hl_kill_n, Nat.reduceAdd, Nat.reduceEqDiff, ne_eq, Nat.reduceLT, Nat.reduceLeDiff, Nat.lt_add_one]
theorem hl_mk2 (hN : 4 ≤ N ∧ N ≤ 24) (h10 : P 1 0 = some 2) (hP : ∀ a, 81 ≤ a → P a = fun _ => none) (hI : ∀ a, 81 ≤ a → I a = fun _ => 0) : hl_call (d + 1) 2 [.ref 81, .ref 1, .ref 63, .ref 60] (hl_q N 82 P I) = some (none, hl_q N 83 (hl_up (hl_up (hl_up (hl_up P 81 0 (some 1)) 81 1 (some 63)) 81 2 (some 60)) 81 3 (some 82)) I) := by
  have p81 := hP 81 (by omega)
  have i81 := hI 81 (by omega)
  have p82 := hP 82 (by omega)
  have i82 := hI 82 (by omega)
  obtain ⟨z1, z2, z3⟩ := hl_zn (n := N) (by omega)
  have z0 : Int32.ofNat N = nI N := rfl
  rw [hl_e2]
  simp only [hl_r2_0, hl_r2_4, hl_r2_5, hl_r2_9, hl_r2_10, hl_r2_14, hl_r2_15, hl_r2_19, hl_r2_20, hl_r2_21, hl_r2_24, hl_r2_30, hl_r2_1, hl_r2_6, hl_r2_11, hl_r2_16, hl_r2_25, hl_r2_27, h10, va_rf, z0, z1, z2, z3, p81, i81, p82, i82, hl_gk_81, hl_gk_82, hl_gk_1, hl_gk_2, if_true, if_false, hl_q_n, hl_q_P, hl_q_I, hl_q_new, hl_q_sP, hl_q_sI, hl_q_ob, hl_q_ar, hl_q_k, hl_up_ne, hl_up_a, hl_row_ne, hl_lz2, hl_lv2, hl_lz3, hl_lv3, hl_lz4, hl_lv4, hl_lz6, hl_lv6, hl_lz9, hl_lv9, hl_lz12, hl_lv12, hl_lz40, hl_lv40, hl_lz64, hl_lv64, hl_lz72, hl_lv72, hl_lz74, hl_lv74, hl_lz160, hl_lv160, hl_lz300, hl_lv300, hl_lz330, hl_lv330, hl_lz432, hl_lv432, hl_lz490, hl_lv490, hl_lz800, hl_lv800, hl_lz3200, hl_lv3200, hl_lz5476, hl_lv5476, hl_lz24, hl_lv24, hl_lz96, hl_lv96, hl_N_0, hl_N_1, hl_N_2, hl_N_3, hl_N_4, hl_N_5, hl_N_6, hl_N_7, hl_N_8, hl_N_9, hl_N_10, hl_N_11, hl_N_12, not_false_eq_true, and_self, and_true, true_and, hl_tl_s, hl_tl_n, hl_cal_some, hl_kill_i, hl_kill_r, hl_kill_n, Nat.reduceAdd, Nat.reduceEqDiff, ne_eq, Nat.reduceLT, Nat.reduceLeDiff, Nat.lt_add_one]
theorem hl_a01 : (0 : Int32) + 1 = 1 := id rfl
theorem hl_a12 : (1 : Int32) + 1 = 2 := id rfl
theorem hl_a23 : (2 : Int32) + 1 = 3 := id rfl
theorem hl_a34 : (3 : Int32) + 1 = 4 := id rfl
theorem hl_c40 : ((4 : Int32) ≤ 0) = False := by decide
theorem hl_c41 : ((4 : Int32) ≤ 1) = False := by decide
theorem hl_c42 : ((4 : Int32) ≤ 2) = False := by decide
theorem hl_c43 : ((4 : Int32) ≤ 3) = False := by decide
theorem hl_c44 : ((4 : Int32) ≤ 4) = True := by decide
theorem hl_d40 : hl_inb (0 : Int32) 4 = true := id rfl
theorem hl_d41 : hl_inb (1 : Int32) 4 = true := id rfl
theorem hl_d42 : hl_inb (2 : Int32) 4 = true := id rfl
theorem hl_d43 : hl_inb (3 : Int32) 4 = true := id rfl
def hl_Pc : Nat → Nat → Option Nat := (hl_up (hl_up (hl_up (hl_up (hl_up (hl_up (hl_up (hl_up (hl_up (hl_up (hl_up (hl_up (hl_up (hl_up (hl_up (hl_up (hl_up (hl_up (hl_up (hl_up (hl_up (hl_up (hl_up (hl_up (hl_up (hl_up (hl_up (hl_up (hl_up (hl_up (hl_up (hl_up (hl_up (hl_up (hl_up (hl_up (hl_up (hl_up (hl_up (hl_up (hl_up (hl_up (hl_up (hl_up (hl_up (hl_up (hl_up (hl_up (hl_up (hl_up (hl_up (hl_up (hl_up (hl_up (hl_up (hl_up (hl_up (hl_up (hl_up (hl_up (hl_up (hl_up (hl_up (hl_up (hl_up (hl_up (hl_up (hl_up (hl_up (hl_up (hl_up (hl_up (hl_up (hl_up (hl_up (hl_up (hl_up (hl_up (hl_up (hl_up (hl_up (hl_up (hl_up (hl_up (hl_up (hl_up (hl_up (hl_up (hl_up (hl_up (hl_up (hl_up (hl_up (hl_up (fun _ _ => none) 1 0 (some 2)) 1 1 (some 3)) 1 2 (some 4)) 1 3 (some 5)) 1 4 (some 6)) 1 5 (some 7)) 1 6 (some 8)) 1 7 (some 9)) 1 9 (some 10)) 11 0 (some 12)) 11 1 (some 13)) 11 2 (some 14)) 1 14 (some 11)) 15 0 (some 16)) 15 1 (some 17)) 15 2 (some 18)) 1 15 (some 15)) 0 3 (some 1)) 19 0 (some 20)) 19 1 (some 21)) 19 2 (some 22)) 19 3 (some 23)) 19 4 (some 24)) 19 5 (some 25)) 19 6 (some 26)) 19 7 (some 27)) 19 9 (some 28)) 29 0 (some 30)) 29 1 (some 31)) 29 2 (some 32)) 19 14 (some 29)) 33 0 (some 34)) 33 1 (some 35)) 33 2 (some 36)) 19 15 (some 33)) 0 4 (some 19)) 0 5 (some 37)) 39 0 (some 40)) 39 1 (some 41)) 39 2 (some 42)) 38 1 (some 39)) 38 0 (some 37)) 0 7 (some 38)) 0 8 (some 43)) 44 0 (some 45)) 44 1 (some 46)) 44 2 (some 47)) 43 0 (some 44)) 48 0 (some 49)) 48 1 (some 50)) 48 2 (some 51)) 43 1 (some 48)) 52 0 (some 53)) 52 1 (some 54)) 52 2 (some 55)) 43 2 (some 52)) 56 0 (some 57)) 56 1 (some 58)) 56 2 (some 59)) 43 3 (some 56)) 60 2 (some 61)) 60 3 (some 62)) 60 0 (some 1)) 60 1 (some 43)) 0 9 (some 60)) 63 0 (some 1)) 63 1 (some 60)) 63 2 (some 64)) 63 3 (some 65)) 0 10 (some 63)) 66 1 (some 67)) 0 11 (some 66)) 69 2 (some 70)) 69 3 (some 71)) 69 4 (some 72)) 69 5 (some 73)) 69 6 (some 74)) 69 7 (some 75)) 69 8 (some 76)) 69 9 (some 77)) 68 2 (some 69)) 68 5 (some 78)) 68 0 (some 1)) 68 1 (some 63)) 68 3 (some 79)) 68 4 (some 80)) 0 12 (some 68)) 81 0 (some 1)) 81 1 (some 63)) 81 2 (some 60)) 81 3 (some 82)) 0 13 (some 81)) 0 14 (some 83)) 0 15 (some 84))
def hl_Ic (N W H : Nat) : Nat → Nat → Int32 := (hl_up (hl_up (hl_up (hl_up (hl_up (hl_up (hl_row (hl_row (hl_row (hl_up (hl_up (hl_up (hl_row (hl_row (hl_row (hl_up (hl_up (hl_up (fun _ _ => 0) 0 0 (nI W)) 0 1 (nI H)) 0 2 (nI N)) 5 (fun j => if j < N then 480 else 0)) 7 (fun j => if j < N then -1 else 0)) 10 (fun j => if j < 12 then 360 else 0)) 1 10 (-1)) 1 11 (-1)) 1 13 (-1)) 23 (fun j => if j < N then 480 else 0)) 25 (fun j => if j < N then -1 else 0)) 28 (fun j => if j < 12 then 360 else 0)) 19 10 (-1)) 19 11 (-1)) 19 13 (-1)) 38 7 (-1)) 38 8 (-1)) 66 0 (nI W))
set_option maxHeartbeats 4000000 in
set_option maxRecDepth 100000 in
theorem hl_mk104 {W H : Nat} {x y : Int32} (ex : hl_bnd x 2 6 = nI W) (ey : hl_bnd y 2 4 = nI H) (hN : 4 ≤ N ∧ N ≤ 24) (hNe : nI W * nI H = nI N) : hl_call (d + 3) 104 [.ref 0, .int x, .int y] (hl_q N 1 (fun _ _ => none) (fun _ _ => 0)) = some (none, hl_q N 85 hl_Pc (hl_Ic N W H)) := by
  unfold hl_Pc hl_Ic
  generalize hP0 : (fun _ _ => none : Nat → Nat → Option Nat) = P
  generalize hI0 : (fun _ _ => 0 : Nat → Nat → Int32) = I
  have hP : ∀ a, 0 ≤ a → P a = fun _ => none := fun a _ => by rw [← hP0]
  have hI : ∀ a, 0 ≤ a → I a = fun _ => 0 := fun a _ => by rw [← hI0]
  have u0 := hl_i7_1 (d := d) (N := N) (P := P) (I := (hl_up (hl_up (hl_up I 0 0 (nI W)) 0 1 (nI H)) 0 2 (nI N))) hN (fun a h => hP a (by omega)) (fun a h => by
    simp only [hl_up_ne _ _ _ (show a ≠ 0 by omega), hl_row_ne _ _ (show a ≠ 0 by omega)]
    exact hI a (by omega))
  have u1 := hl_i7_19 (d := d) (N := N) (P := (hl_up (hl_up (hl_up (hl_up (hl_up (hl_up (hl_up (hl_up (hl_up (hl_up (hl_up (hl_up (hl_up (hl_up (hl_up (hl_up (hl_up (hl_up P 1 0 (some 2)) 1 1 (some 3)) 1 2 (some 4)) 1 3 (some 5)) 1 4 (some 6)) 1 5 (some 7)) 1 6 (some 8)) 1 7 (some 9)) 1 9 (some 10)) 11 0 (some 12)) 11 1 (some 13)) 11 2 (some 14)) 1 14 (some 11)) 15 0 (some 16)) 15 1 (some 17)) 15 2 (some 18)) 1 15 (some 15)) 0 3 (some 1))) (I := (hl_up (hl_up (hl_up (hl_row (hl_row (hl_row (hl_up (hl_up (hl_up I 0 0 (nI W)) 0 1 (nI H)) 0 2 (nI N)) 5 (fun j => if j < N then 480 else 0)) 7 (fun j => if j < N then -1 else 0)) 10 (fun j => if j < 12 then 360 else 0)) 1 10 (-1)) 1 11 (-1)) 1 13 (-1))) hN (fun a h => by
    simp only [hl_up_ne _ _ _ (show a ≠ 0 by omega), hl_up_ne _ _ _ (show a ≠ 1 by omega), hl_up_ne _ _ _ (show a ≠ 11 by omega), hl_up_ne _ _ _ (show a ≠ 15 by omega)]
    exact hP a (by omega)) (fun a h => by
    simp only [hl_up_ne _ _ _ (show a ≠ 0 by omega), hl_row_ne _ _ (show a ≠ 0 by omega), hl_up_ne _ _ _ (show a ≠ 1 by omega), hl_row_ne _ _ (show a ≠ 1 by omega), hl_up_ne _ _ _ (show a ≠ 5 by omega), hl_row_ne _ _ (show a ≠ 5 by omega), hl_up_ne _ _ _ (show a ≠ 7 by omega), hl_row_ne _ _ (show a ≠ 7 by omega), hl_up_ne _ _ _ (show a ≠ 10 by omega), hl_row_ne _ _ (show a ≠ 10 by omega)]
    exact hI a (by omega))
  have u2 := hl_mk53 (d := d) (N := N) (P := (hl_up (hl_up (hl_up (hl_up (hl_up (hl_up (hl_up (hl_up (hl_up (hl_up (hl_up (hl_up (hl_up (hl_up (hl_up (hl_up (hl_up (hl_up (hl_up (hl_up (hl_up (hl_up (hl_up (hl_up (hl_up (hl_up (hl_up (hl_up (hl_up (hl_up (hl_up (hl_up (hl_up (hl_up (hl_up (hl_up (hl_up P 1 0 (some 2)) 1 1 (some 3)) 1 2 (some 4)) 1 3 (some 5)) 1 4 (some 6)) 1 5 (some 7)) 1 6 (some 8)) 1 7 (some 9)) 1 9 (some 10)) 11 0 (some 12)) 11 1 (some 13)) 11 2 (some 14)) 1 14 (some 11)) 15 0 (some 16)) 15 1 (some 17)) 15 2 (some 18)) 1 15 (some 15)) 0 3 (some 1)) 19 0 (some 20)) 19 1 (some 21)) 19 2 (some 22)) 19 3 (some 23)) 19 4 (some 24)) 19 5 (some 25)) 19 6 (some 26)) 19 7 (some 27)) 19 9 (some 28)) 29 0 (some 30)) 29 1 (some 31)) 29 2 (some 32)) 19 14 (some 29)) 33 0 (some 34)) 33 1 (some 35)) 33 2 (some 36)) 19 15 (some 33)) 0 4 (some 19)) 0 5 (some 37))) (I := (hl_up (hl_up (hl_up (hl_row (hl_row (hl_row (hl_up (hl_up (hl_up (hl_row (hl_row (hl_row (hl_up (hl_up (hl_up I 0 0 (nI W)) 0 1 (nI H)) 0 2 (nI N)) 5 (fun j => if j < N then 480 else 0)) 7 (fun j => if j < N then -1 else 0)) 10 (fun j => if j < 12 then 360 else 0)) 1 10 (-1)) 1 11 (-1)) 1 13 (-1)) 23 (fun j => if j < N then 480 else 0)) 25 (fun j => if j < N then -1 else 0)) 28 (fun j => if j < 12 then 360 else 0)) 19 10 (-1)) 19 11 (-1)) 19 13 (-1))) (fun a h => by
    simp only [hl_up_ne _ _ _ (show a ≠ 0 by omega), hl_up_ne _ _ _ (show a ≠ 1 by omega), hl_up_ne _ _ _ (show a ≠ 11 by omega), hl_up_ne _ _ _ (show a ≠ 15 by omega), hl_up_ne _ _ _ (show a ≠ 19 by omega), hl_up_ne _ _ _ (show a ≠ 29 by omega), hl_up_ne _ _ _ (show a ≠ 33 by omega)]
    exact hP a (by omega)) (fun a h => by
    simp only [hl_up_ne _ _ _ (show a ≠ 0 by omega), hl_row_ne _ _ (show a ≠ 0 by omega), hl_up_ne _ _ _ (show a ≠ 1 by omega), hl_row_ne _ _ (show a ≠ 1 by omega), hl_up_ne _ _ _ (show a ≠ 5 by omega), hl_row_ne _ _ (show a ≠ 5 by omega), hl_up_ne _ _ _ (show a ≠ 7 by omega), hl_row_ne _ _ (show a ≠ 7 by omega), hl_up_ne _ _ _ (show a ≠ 10 by omega), hl_row_ne _ _ (show a ≠ 10 by omega), hl_up_ne _ _ _ (show a ≠ 19 by omega), hl_row_ne _ _ (show a ≠ 19 by omega), hl_up_ne _ _ _ (show a ≠ 23 by omega), hl_row_ne _ _ (show a ≠ 23 by omega), hl_up_ne _ _ _ (show a ≠ 25 by omega), hl_row_ne _ _ (show a ≠ 25 by omega), hl_up_ne _ _ _ (show a ≠ 28 by omega), hl_row_ne _ _ (show a ≠ 28 by omega)]
    exact hI a (by omega))
  have u3 := hl_i72_44 (d := d + 1) (N := N) (P := (hl_up (hl_up (hl_up (hl_up (hl_up (hl_up (hl_up (hl_up (hl_up (hl_up (hl_up (hl_up (hl_up (hl_up (hl_up (hl_up (hl_up (hl_up (hl_up (hl_up (hl_up (hl_up (hl_up (hl_up (hl_up (hl_up (hl_up (hl_up (hl_up (hl_up (hl_up (hl_up (hl_up (hl_up (hl_up (hl_up (hl_up (hl_up (hl_up (hl_up (hl_up (hl_up (hl_up (hl_up P 1 0 (some 2)) 1 1 (some 3)) 1 2 (some 4)) 1 3 (some 5)) 1 4 (some 6)) 1 5 (some 7)) 1 6 (some 8)) 1 7 (some 9)) 1 9 (some 10)) 11 0 (some 12)) 11 1 (some 13)) 11 2 (some 14)) 1 14 (some 11)) 15 0 (some 16)) 15 1 (some 17)) 15 2 (some 18)) 1 15 (some 15)) 0 3 (some 1)) 19 0 (some 20)) 19 1 (some 21)) 19 2 (some 22)) 19 3 (some 23)) 19 4 (some 24)) 19 5 (some 25)) 19 6 (some 26)) 19 7 (some 27)) 19 9 (some 28)) 29 0 (some 30)) 29 1 (some 31)) 29 2 (some 32)) 19 14 (some 29)) 33 0 (some 34)) 33 1 (some 35)) 33 2 (some 36)) 19 15 (some 33)) 0 4 (some 19)) 0 5 (some 37)) 39 0 (some 40)) 39 1 (some 41)) 39 2 (some 42)) 38 1 (some 39)) 38 0 (some 37)) 0 7 (some 38)) 0 8 (some 43))) (I := (hl_up (hl_up (hl_up (hl_up (hl_up (hl_row (hl_row (hl_row (hl_up (hl_up (hl_up (hl_row (hl_row (hl_row (hl_up (hl_up (hl_up I 0 0 (nI W)) 0 1 (nI H)) 0 2 (nI N)) 5 (fun j => if j < N then 480 else 0)) 7 (fun j => if j < N then -1 else 0)) 10 (fun j => if j < 12 then 360 else 0)) 1 10 (-1)) 1 11 (-1)) 1 13 (-1)) 23 (fun j => if j < N then 480 else 0)) 25 (fun j => if j < N then -1 else 0)) 28 (fun j => if j < 12 then 360 else 0)) 19 10 (-1)) 19 11 (-1)) 19 13 (-1)) 38 7 (-1)) 38 8 (-1))) (fun a h => by
    simp only [hl_up_ne _ _ _ (show a ≠ 0 by omega), hl_up_ne _ _ _ (show a ≠ 1 by omega), hl_up_ne _ _ _ (show a ≠ 11 by omega), hl_up_ne _ _ _ (show a ≠ 15 by omega), hl_up_ne _ _ _ (show a ≠ 19 by omega), hl_up_ne _ _ _ (show a ≠ 29 by omega), hl_up_ne _ _ _ (show a ≠ 33 by omega), hl_up_ne _ _ _ (show a ≠ 38 by omega), hl_up_ne _ _ _ (show a ≠ 39 by omega)]
    exact hP a (by omega)) (fun a h => by
    simp only [hl_up_ne _ _ _ (show a ≠ 0 by omega), hl_row_ne _ _ (show a ≠ 0 by omega), hl_up_ne _ _ _ (show a ≠ 1 by omega), hl_row_ne _ _ (show a ≠ 1 by omega), hl_up_ne _ _ _ (show a ≠ 5 by omega), hl_row_ne _ _ (show a ≠ 5 by omega), hl_up_ne _ _ _ (show a ≠ 7 by omega), hl_row_ne _ _ (show a ≠ 7 by omega), hl_up_ne _ _ _ (show a ≠ 10 by omega), hl_row_ne _ _ (show a ≠ 10 by omega), hl_up_ne _ _ _ (show a ≠ 19 by omega), hl_row_ne _ _ (show a ≠ 19 by omega), hl_up_ne _ _ _ (show a ≠ 23 by omega), hl_row_ne _ _ (show a ≠ 23 by omega), hl_up_ne _ _ _ (show a ≠ 25 by omega), hl_row_ne _ _ (show a ≠ 25 by omega), hl_up_ne _ _ _ (show a ≠ 28 by omega), hl_row_ne _ _ (show a ≠ 28 by omega), hl_up_ne _ _ _ (show a ≠ 38 by omega), hl_row_ne _ _ (show a ≠ 38 by omega)]
    exact hI a (by omega))
  have u4 := hl_i72_48 (d := d + 1) (N := N) (P := (hl_up (hl_up (hl_up (hl_up (hl_up (hl_up (hl_up (hl_up (hl_up (hl_up (hl_up (hl_up (hl_up (hl_up (hl_up (hl_up (hl_up (hl_up (hl_up (hl_up (hl_up (hl_up (hl_up (hl_up (hl_up (hl_up (hl_up (hl_up (hl_up (hl_up (hl_up (hl_up (hl_up (hl_up (hl_up (hl_up (hl_up (hl_up (hl_up (hl_up (hl_up (hl_up (hl_up (hl_up (hl_up (hl_up (hl_up (hl_up P 1 0 (some 2)) 1 1 (some 3)) 1 2 (some 4)) 1 3 (some 5)) 1 4 (some 6)) 1 5 (some 7)) 1 6 (some 8)) 1 7 (some 9)) 1 9 (some 10)) 11 0 (some 12)) 11 1 (some 13)) 11 2 (some 14)) 1 14 (some 11)) 15 0 (some 16)) 15 1 (some 17)) 15 2 (some 18)) 1 15 (some 15)) 0 3 (some 1)) 19 0 (some 20)) 19 1 (some 21)) 19 2 (some 22)) 19 3 (some 23)) 19 4 (some 24)) 19 5 (some 25)) 19 6 (some 26)) 19 7 (some 27)) 19 9 (some 28)) 29 0 (some 30)) 29 1 (some 31)) 29 2 (some 32)) 19 14 (some 29)) 33 0 (some 34)) 33 1 (some 35)) 33 2 (some 36)) 19 15 (some 33)) 0 4 (some 19)) 0 5 (some 37)) 39 0 (some 40)) 39 1 (some 41)) 39 2 (some 42)) 38 1 (some 39)) 38 0 (some 37)) 0 7 (some 38)) 0 8 (some 43)) 44 0 (some 45)) 44 1 (some 46)) 44 2 (some 47)) 43 0 (some 44))) (I := (hl_up (hl_up (hl_up (hl_up (hl_up (hl_row (hl_row (hl_row (hl_up (hl_up (hl_up (hl_row (hl_row (hl_row (hl_up (hl_up (hl_up I 0 0 (nI W)) 0 1 (nI H)) 0 2 (nI N)) 5 (fun j => if j < N then 480 else 0)) 7 (fun j => if j < N then -1 else 0)) 10 (fun j => if j < 12 then 360 else 0)) 1 10 (-1)) 1 11 (-1)) 1 13 (-1)) 23 (fun j => if j < N then 480 else 0)) 25 (fun j => if j < N then -1 else 0)) 28 (fun j => if j < 12 then 360 else 0)) 19 10 (-1)) 19 11 (-1)) 19 13 (-1)) 38 7 (-1)) 38 8 (-1))) (fun a h => by
    simp only [hl_up_ne _ _ _ (show a ≠ 0 by omega), hl_up_ne _ _ _ (show a ≠ 1 by omega), hl_up_ne _ _ _ (show a ≠ 11 by omega), hl_up_ne _ _ _ (show a ≠ 15 by omega), hl_up_ne _ _ _ (show a ≠ 19 by omega), hl_up_ne _ _ _ (show a ≠ 29 by omega), hl_up_ne _ _ _ (show a ≠ 33 by omega), hl_up_ne _ _ _ (show a ≠ 38 by omega), hl_up_ne _ _ _ (show a ≠ 39 by omega), hl_up_ne _ _ _ (show a ≠ 43 by omega), hl_up_ne _ _ _ (show a ≠ 44 by omega)]
    exact hP a (by omega)) (fun a h => by
    simp only [hl_up_ne _ _ _ (show a ≠ 0 by omega), hl_row_ne _ _ (show a ≠ 0 by omega), hl_up_ne _ _ _ (show a ≠ 1 by omega), hl_row_ne _ _ (show a ≠ 1 by omega), hl_up_ne _ _ _ (show a ≠ 5 by omega), hl_row_ne _ _ (show a ≠ 5 by omega), hl_up_ne _ _ _ (show a ≠ 7 by omega), hl_row_ne _ _ (show a ≠ 7 by omega), hl_up_ne _ _ _ (show a ≠ 10 by omega), hl_row_ne _ _ (show a ≠ 10 by omega), hl_up_ne _ _ _ (show a ≠ 19 by omega), hl_row_ne _ _ (show a ≠ 19 by omega), hl_up_ne _ _ _ (show a ≠ 23 by omega), hl_row_ne _ _ (show a ≠ 23 by omega), hl_up_ne _ _ _ (show a ≠ 25 by omega), hl_row_ne _ _ (show a ≠ 25 by omega), hl_up_ne _ _ _ (show a ≠ 28 by omega), hl_row_ne _ _ (show a ≠ 28 by omega), hl_up_ne _ _ _ (show a ≠ 38 by omega), hl_row_ne _ _ (show a ≠ 38 by omega)]
    exact hI a (by omega))
  have u5 := hl_i72_52 (d := d + 1) (N := N) (P := (hl_up (hl_up (hl_up (hl_up (hl_up (hl_up (hl_up (hl_up (hl_up (hl_up (hl_up (hl_up (hl_up (hl_up (hl_up (hl_up (hl_up (hl_up (hl_up (hl_up (hl_up (hl_up (hl_up (hl_up (hl_up (hl_up (hl_up (hl_up (hl_up (hl_up (hl_up (hl_up (hl_up (hl_up (hl_up (hl_up (hl_up (hl_up (hl_up (hl_up (hl_up (hl_up (hl_up (hl_up (hl_up (hl_up (hl_up (hl_up (hl_up (hl_up (hl_up (hl_up P 1 0 (some 2)) 1 1 (some 3)) 1 2 (some 4)) 1 3 (some 5)) 1 4 (some 6)) 1 5 (some 7)) 1 6 (some 8)) 1 7 (some 9)) 1 9 (some 10)) 11 0 (some 12)) 11 1 (some 13)) 11 2 (some 14)) 1 14 (some 11)) 15 0 (some 16)) 15 1 (some 17)) 15 2 (some 18)) 1 15 (some 15)) 0 3 (some 1)) 19 0 (some 20)) 19 1 (some 21)) 19 2 (some 22)) 19 3 (some 23)) 19 4 (some 24)) 19 5 (some 25)) 19 6 (some 26)) 19 7 (some 27)) 19 9 (some 28)) 29 0 (some 30)) 29 1 (some 31)) 29 2 (some 32)) 19 14 (some 29)) 33 0 (some 34)) 33 1 (some 35)) 33 2 (some 36)) 19 15 (some 33)) 0 4 (some 19)) 0 5 (some 37)) 39 0 (some 40)) 39 1 (some 41)) 39 2 (some 42)) 38 1 (some 39)) 38 0 (some 37)) 0 7 (some 38)) 0 8 (some 43)) 44 0 (some 45)) 44 1 (some 46)) 44 2 (some 47)) 43 0 (some 44)) 48 0 (some 49)) 48 1 (some 50)) 48 2 (some 51)) 43 1 (some 48))) (I := (hl_up (hl_up (hl_up (hl_up (hl_up (hl_row (hl_row (hl_row (hl_up (hl_up (hl_up (hl_row (hl_row (hl_row (hl_up (hl_up (hl_up I 0 0 (nI W)) 0 1 (nI H)) 0 2 (nI N)) 5 (fun j => if j < N then 480 else 0)) 7 (fun j => if j < N then -1 else 0)) 10 (fun j => if j < 12 then 360 else 0)) 1 10 (-1)) 1 11 (-1)) 1 13 (-1)) 23 (fun j => if j < N then 480 else 0)) 25 (fun j => if j < N then -1 else 0)) 28 (fun j => if j < 12 then 360 else 0)) 19 10 (-1)) 19 11 (-1)) 19 13 (-1)) 38 7 (-1)) 38 8 (-1))) (fun a h => by
    simp only [hl_up_ne _ _ _ (show a ≠ 0 by omega), hl_up_ne _ _ _ (show a ≠ 1 by omega), hl_up_ne _ _ _ (show a ≠ 11 by omega), hl_up_ne _ _ _ (show a ≠ 15 by omega), hl_up_ne _ _ _ (show a ≠ 19 by omega), hl_up_ne _ _ _ (show a ≠ 29 by omega), hl_up_ne _ _ _ (show a ≠ 33 by omega), hl_up_ne _ _ _ (show a ≠ 38 by omega), hl_up_ne _ _ _ (show a ≠ 39 by omega), hl_up_ne _ _ _ (show a ≠ 43 by omega), hl_up_ne _ _ _ (show a ≠ 44 by omega), hl_up_ne _ _ _ (show a ≠ 48 by omega)]
    exact hP a (by omega)) (fun a h => by
    simp only [hl_up_ne _ _ _ (show a ≠ 0 by omega), hl_row_ne _ _ (show a ≠ 0 by omega), hl_up_ne _ _ _ (show a ≠ 1 by omega), hl_row_ne _ _ (show a ≠ 1 by omega), hl_up_ne _ _ _ (show a ≠ 5 by omega), hl_row_ne _ _ (show a ≠ 5 by omega), hl_up_ne _ _ _ (show a ≠ 7 by omega), hl_row_ne _ _ (show a ≠ 7 by omega), hl_up_ne _ _ _ (show a ≠ 10 by omega), hl_row_ne _ _ (show a ≠ 10 by omega), hl_up_ne _ _ _ (show a ≠ 19 by omega), hl_row_ne _ _ (show a ≠ 19 by omega), hl_up_ne _ _ _ (show a ≠ 23 by omega), hl_row_ne _ _ (show a ≠ 23 by omega), hl_up_ne _ _ _ (show a ≠ 25 by omega), hl_row_ne _ _ (show a ≠ 25 by omega), hl_up_ne _ _ _ (show a ≠ 28 by omega), hl_row_ne _ _ (show a ≠ 28 by omega), hl_up_ne _ _ _ (show a ≠ 38 by omega), hl_row_ne _ _ (show a ≠ 38 by omega)]
    exact hI a (by omega))
  have u6 := hl_i72_56 (d := d + 1) (N := N) (P := (hl_up (hl_up (hl_up (hl_up (hl_up (hl_up (hl_up (hl_up (hl_up (hl_up (hl_up (hl_up (hl_up (hl_up (hl_up (hl_up (hl_up (hl_up (hl_up (hl_up (hl_up (hl_up (hl_up (hl_up (hl_up (hl_up (hl_up (hl_up (hl_up (hl_up (hl_up (hl_up (hl_up (hl_up (hl_up (hl_up (hl_up (hl_up (hl_up (hl_up (hl_up (hl_up (hl_up (hl_up (hl_up (hl_up (hl_up (hl_up (hl_up (hl_up (hl_up (hl_up (hl_up (hl_up (hl_up (hl_up P 1 0 (some 2)) 1 1 (some 3)) 1 2 (some 4)) 1 3 (some 5)) 1 4 (some 6)) 1 5 (some 7)) 1 6 (some 8)) 1 7 (some 9)) 1 9 (some 10)) 11 0 (some 12)) 11 1 (some 13)) 11 2 (some 14)) 1 14 (some 11)) 15 0 (some 16)) 15 1 (some 17)) 15 2 (some 18)) 1 15 (some 15)) 0 3 (some 1)) 19 0 (some 20)) 19 1 (some 21)) 19 2 (some 22)) 19 3 (some 23)) 19 4 (some 24)) 19 5 (some 25)) 19 6 (some 26)) 19 7 (some 27)) 19 9 (some 28)) 29 0 (some 30)) 29 1 (some 31)) 29 2 (some 32)) 19 14 (some 29)) 33 0 (some 34)) 33 1 (some 35)) 33 2 (some 36)) 19 15 (some 33)) 0 4 (some 19)) 0 5 (some 37)) 39 0 (some 40)) 39 1 (some 41)) 39 2 (some 42)) 38 1 (some 39)) 38 0 (some 37)) 0 7 (some 38)) 0 8 (some 43)) 44 0 (some 45)) 44 1 (some 46)) 44 2 (some 47)) 43 0 (some 44)) 48 0 (some 49)) 48 1 (some 50)) 48 2 (some 51)) 43 1 (some 48)) 52 0 (some 53)) 52 1 (some 54)) 52 2 (some 55)) 43 2 (some 52))) (I := (hl_up (hl_up (hl_up (hl_up (hl_up (hl_row (hl_row (hl_row (hl_up (hl_up (hl_up (hl_row (hl_row (hl_row (hl_up (hl_up (hl_up I 0 0 (nI W)) 0 1 (nI H)) 0 2 (nI N)) 5 (fun j => if j < N then 480 else 0)) 7 (fun j => if j < N then -1 else 0)) 10 (fun j => if j < 12 then 360 else 0)) 1 10 (-1)) 1 11 (-1)) 1 13 (-1)) 23 (fun j => if j < N then 480 else 0)) 25 (fun j => if j < N then -1 else 0)) 28 (fun j => if j < 12 then 360 else 0)) 19 10 (-1)) 19 11 (-1)) 19 13 (-1)) 38 7 (-1)) 38 8 (-1))) (fun a h => by
    simp only [hl_up_ne _ _ _ (show a ≠ 0 by omega), hl_up_ne _ _ _ (show a ≠ 1 by omega), hl_up_ne _ _ _ (show a ≠ 11 by omega), hl_up_ne _ _ _ (show a ≠ 15 by omega), hl_up_ne _ _ _ (show a ≠ 19 by omega), hl_up_ne _ _ _ (show a ≠ 29 by omega), hl_up_ne _ _ _ (show a ≠ 33 by omega), hl_up_ne _ _ _ (show a ≠ 38 by omega), hl_up_ne _ _ _ (show a ≠ 39 by omega), hl_up_ne _ _ _ (show a ≠ 43 by omega), hl_up_ne _ _ _ (show a ≠ 44 by omega), hl_up_ne _ _ _ (show a ≠ 48 by omega), hl_up_ne _ _ _ (show a ≠ 52 by omega)]
    exact hP a (by omega)) (fun a h => by
    simp only [hl_up_ne _ _ _ (show a ≠ 0 by omega), hl_row_ne _ _ (show a ≠ 0 by omega), hl_up_ne _ _ _ (show a ≠ 1 by omega), hl_row_ne _ _ (show a ≠ 1 by omega), hl_up_ne _ _ _ (show a ≠ 5 by omega), hl_row_ne _ _ (show a ≠ 5 by omega), hl_up_ne _ _ _ (show a ≠ 7 by omega), hl_row_ne _ _ (show a ≠ 7 by omega), hl_up_ne _ _ _ (show a ≠ 10 by omega), hl_row_ne _ _ (show a ≠ 10 by omega), hl_up_ne _ _ _ (show a ≠ 19 by omega), hl_row_ne _ _ (show a ≠ 19 by omega), hl_up_ne _ _ _ (show a ≠ 23 by omega), hl_row_ne _ _ (show a ≠ 23 by omega), hl_up_ne _ _ _ (show a ≠ 25 by omega), hl_row_ne _ _ (show a ≠ 25 by omega), hl_up_ne _ _ _ (show a ≠ 28 by omega), hl_row_ne _ _ (show a ≠ 28 by omega), hl_up_ne _ _ _ (show a ≠ 38 by omega), hl_row_ne _ _ (show a ≠ 38 by omega)]
    exact hI a (by omega))
  have u7 := hl_mk96 (d := d + 1) (N := N) (P := (hl_up (hl_up (hl_up (hl_up (hl_up (hl_up (hl_up (hl_up (hl_up (hl_up (hl_up (hl_up (hl_up (hl_up (hl_up (hl_up (hl_up (hl_up (hl_up (hl_up (hl_up (hl_up (hl_up (hl_up (hl_up (hl_up (hl_up (hl_up (hl_up (hl_up (hl_up (hl_up (hl_up (hl_up (hl_up (hl_up (hl_up (hl_up (hl_up (hl_up (hl_up (hl_up (hl_up (hl_up (hl_up (hl_up (hl_up (hl_up (hl_up (hl_up (hl_up (hl_up (hl_up (hl_up (hl_up (hl_up (hl_up (hl_up (hl_up (hl_up P 1 0 (some 2)) 1 1 (some 3)) 1 2 (some 4)) 1 3 (some 5)) 1 4 (some 6)) 1 5 (some 7)) 1 6 (some 8)) 1 7 (some 9)) 1 9 (some 10)) 11 0 (some 12)) 11 1 (some 13)) 11 2 (some 14)) 1 14 (some 11)) 15 0 (some 16)) 15 1 (some 17)) 15 2 (some 18)) 1 15 (some 15)) 0 3 (some 1)) 19 0 (some 20)) 19 1 (some 21)) 19 2 (some 22)) 19 3 (some 23)) 19 4 (some 24)) 19 5 (some 25)) 19 6 (some 26)) 19 7 (some 27)) 19 9 (some 28)) 29 0 (some 30)) 29 1 (some 31)) 29 2 (some 32)) 19 14 (some 29)) 33 0 (some 34)) 33 1 (some 35)) 33 2 (some 36)) 19 15 (some 33)) 0 4 (some 19)) 0 5 (some 37)) 39 0 (some 40)) 39 1 (some 41)) 39 2 (some 42)) 38 1 (some 39)) 38 0 (some 37)) 0 7 (some 38)) 0 8 (some 43)) 44 0 (some 45)) 44 1 (some 46)) 44 2 (some 47)) 43 0 (some 44)) 48 0 (some 49)) 48 1 (some 50)) 48 2 (some 51)) 43 1 (some 48)) 52 0 (some 53)) 52 1 (some 54)) 52 2 (some 55)) 43 2 (some 52)) 56 0 (some 57)) 56 1 (some 58)) 56 2 (some 59)) 43 3 (some 56))) (I := (hl_up (hl_up (hl_up (hl_up (hl_up (hl_row (hl_row (hl_row (hl_up (hl_up (hl_up (hl_row (hl_row (hl_row (hl_up (hl_up (hl_up I 0 0 (nI W)) 0 1 (nI H)) 0 2 (nI N)) 5 (fun j => if j < N then 480 else 0)) 7 (fun j => if j < N then -1 else 0)) 10 (fun j => if j < 12 then 360 else 0)) 1 10 (-1)) 1 11 (-1)) 1 13 (-1)) 23 (fun j => if j < N then 480 else 0)) 25 (fun j => if j < N then -1 else 0)) 28 (fun j => if j < 12 then 360 else 0)) 19 10 (-1)) 19 11 (-1)) 19 13 (-1)) 38 7 (-1)) 38 8 (-1))) (fun a h => by
    simp only [hl_up_ne _ _ _ (show a ≠ 0 by omega), hl_up_ne _ _ _ (show a ≠ 1 by omega), hl_up_ne _ _ _ (show a ≠ 11 by omega), hl_up_ne _ _ _ (show a ≠ 15 by omega), hl_up_ne _ _ _ (show a ≠ 19 by omega), hl_up_ne _ _ _ (show a ≠ 29 by omega), hl_up_ne _ _ _ (show a ≠ 33 by omega), hl_up_ne _ _ _ (show a ≠ 38 by omega), hl_up_ne _ _ _ (show a ≠ 39 by omega), hl_up_ne _ _ _ (show a ≠ 43 by omega), hl_up_ne _ _ _ (show a ≠ 44 by omega), hl_up_ne _ _ _ (show a ≠ 48 by omega), hl_up_ne _ _ _ (show a ≠ 52 by omega), hl_up_ne _ _ _ (show a ≠ 56 by omega)]
    exact hP a (by omega)) (fun a h => by
    simp only [hl_up_ne _ _ _ (show a ≠ 0 by omega), hl_row_ne _ _ (show a ≠ 0 by omega), hl_up_ne _ _ _ (show a ≠ 1 by omega), hl_row_ne _ _ (show a ≠ 1 by omega), hl_up_ne _ _ _ (show a ≠ 5 by omega), hl_row_ne _ _ (show a ≠ 5 by omega), hl_up_ne _ _ _ (show a ≠ 7 by omega), hl_row_ne _ _ (show a ≠ 7 by omega), hl_up_ne _ _ _ (show a ≠ 10 by omega), hl_row_ne _ _ (show a ≠ 10 by omega), hl_up_ne _ _ _ (show a ≠ 19 by omega), hl_row_ne _ _ (show a ≠ 19 by omega), hl_up_ne _ _ _ (show a ≠ 23 by omega), hl_row_ne _ _ (show a ≠ 23 by omega), hl_up_ne _ _ _ (show a ≠ 25 by omega), hl_row_ne _ _ (show a ≠ 25 by omega), hl_up_ne _ _ _ (show a ≠ 28 by omega), hl_row_ne _ _ (show a ≠ 28 by omega), hl_up_ne _ _ _ (show a ≠ 38 by omega), hl_row_ne _ _ (show a ≠ 38 by omega)]
    exact hI a (by omega))
  have u8 := hl_mk42 (d := d + 1) (N := N) (P := (hl_up (hl_up (hl_up (hl_up (hl_up (hl_up (hl_up (hl_up (hl_up (hl_up (hl_up (hl_up (hl_up (hl_up (hl_up (hl_up (hl_up (hl_up (hl_up (hl_up (hl_up (hl_up (hl_up (hl_up (hl_up (hl_up (hl_up (hl_up (hl_up (hl_up (hl_up (hl_up (hl_up (hl_up (hl_up (hl_up (hl_up (hl_up (hl_up (hl_up (hl_up (hl_up (hl_up (hl_up (hl_up (hl_up (hl_up (hl_up (hl_up (hl_up (hl_up (hl_up (hl_up (hl_up (hl_up (hl_up (hl_up (hl_up (hl_up (hl_up (hl_up (hl_up (hl_up (hl_up (hl_up P 1 0 (some 2)) 1 1 (some 3)) 1 2 (some 4)) 1 3 (some 5)) 1 4 (some 6)) 1 5 (some 7)) 1 6 (some 8)) 1 7 (some 9)) 1 9 (some 10)) 11 0 (some 12)) 11 1 (some 13)) 11 2 (some 14)) 1 14 (some 11)) 15 0 (some 16)) 15 1 (some 17)) 15 2 (some 18)) 1 15 (some 15)) 0 3 (some 1)) 19 0 (some 20)) 19 1 (some 21)) 19 2 (some 22)) 19 3 (some 23)) 19 4 (some 24)) 19 5 (some 25)) 19 6 (some 26)) 19 7 (some 27)) 19 9 (some 28)) 29 0 (some 30)) 29 1 (some 31)) 29 2 (some 32)) 19 14 (some 29)) 33 0 (some 34)) 33 1 (some 35)) 33 2 (some 36)) 19 15 (some 33)) 0 4 (some 19)) 0 5 (some 37)) 39 0 (some 40)) 39 1 (some 41)) 39 2 (some 42)) 38 1 (some 39)) 38 0 (some 37)) 0 7 (some 38)) 0 8 (some 43)) 44 0 (some 45)) 44 1 (some 46)) 44 2 (some 47)) 43 0 (some 44)) 48 0 (some 49)) 48 1 (some 50)) 48 2 (some 51)) 43 1 (some 48)) 52 0 (some 53)) 52 1 (some 54)) 52 2 (some 55)) 43 2 (some 52)) 56 0 (some 57)) 56 1 (some 58)) 56 2 (some 59)) 43 3 (some 56)) 60 2 (some 61)) 60 3 (some 62)) 60 0 (some 1)) 60 1 (some 43)) 0 9 (some 60))) (I := (hl_up (hl_up (hl_up (hl_up (hl_up (hl_row (hl_row (hl_row (hl_up (hl_up (hl_up (hl_row (hl_row (hl_row (hl_up (hl_up (hl_up I 0 0 (nI W)) 0 1 (nI H)) 0 2 (nI N)) 5 (fun j => if j < N then 480 else 0)) 7 (fun j => if j < N then -1 else 0)) 10 (fun j => if j < 12 then 360 else 0)) 1 10 (-1)) 1 11 (-1)) 1 13 (-1)) 23 (fun j => if j < N then 480 else 0)) 25 (fun j => if j < N then -1 else 0)) 28 (fun j => if j < 12 then 360 else 0)) 19 10 (-1)) 19 11 (-1)) 19 13 (-1)) 38 7 (-1)) 38 8 (-1))) hN (by simp only [hl_up_a, Nat.reduceEqDiff, if_true, if_false]) (fun a h => by
    simp only [hl_up_ne _ _ _ (show a ≠ 0 by omega), hl_up_ne _ _ _ (show a ≠ 1 by omega), hl_up_ne _ _ _ (show a ≠ 11 by omega), hl_up_ne _ _ _ (show a ≠ 15 by omega), hl_up_ne _ _ _ (show a ≠ 19 by omega), hl_up_ne _ _ _ (show a ≠ 29 by omega), hl_up_ne _ _ _ (show a ≠ 33 by omega), hl_up_ne _ _ _ (show a ≠ 38 by omega), hl_up_ne _ _ _ (show a ≠ 39 by omega), hl_up_ne _ _ _ (show a ≠ 43 by omega), hl_up_ne _ _ _ (show a ≠ 44 by omega), hl_up_ne _ _ _ (show a ≠ 48 by omega), hl_up_ne _ _ _ (show a ≠ 52 by omega), hl_up_ne _ _ _ (show a ≠ 56 by omega), hl_up_ne _ _ _ (show a ≠ 60 by omega)]
    exact hP a (by omega)) (fun a h => by
    simp only [hl_up_ne _ _ _ (show a ≠ 0 by omega), hl_row_ne _ _ (show a ≠ 0 by omega), hl_up_ne _ _ _ (show a ≠ 1 by omega), hl_row_ne _ _ (show a ≠ 1 by omega), hl_up_ne _ _ _ (show a ≠ 5 by omega), hl_row_ne _ _ (show a ≠ 5 by omega), hl_up_ne _ _ _ (show a ≠ 7 by omega), hl_row_ne _ _ (show a ≠ 7 by omega), hl_up_ne _ _ _ (show a ≠ 10 by omega), hl_row_ne _ _ (show a ≠ 10 by omega), hl_up_ne _ _ _ (show a ≠ 19 by omega), hl_row_ne _ _ (show a ≠ 19 by omega), hl_up_ne _ _ _ (show a ≠ 23 by omega), hl_row_ne _ _ (show a ≠ 23 by omega), hl_up_ne _ _ _ (show a ≠ 25 by omega), hl_row_ne _ _ (show a ≠ 25 by omega), hl_up_ne _ _ _ (show a ≠ 28 by omega), hl_row_ne _ _ (show a ≠ 28 by omega), hl_up_ne _ _ _ (show a ≠ 38 by omega), hl_row_ne _ _ (show a ≠ 38 by omega)]
    exact hI a (by omega))
  have u9 := hl_mk35 (d := d + 1) (N := N) (P := (hl_up (hl_up (hl_up (hl_up (hl_up (hl_up (hl_up (hl_up (hl_up (hl_up (hl_up (hl_up (hl_up (hl_up (hl_up (hl_up (hl_up (hl_up (hl_up (hl_up (hl_up (hl_up (hl_up (hl_up (hl_up (hl_up (hl_up (hl_up (hl_up (hl_up (hl_up (hl_up (hl_up (hl_up (hl_up (hl_up (hl_up (hl_up (hl_up (hl_up (hl_up (hl_up (hl_up (hl_up (hl_up (hl_up (hl_up (hl_up (hl_up (hl_up (hl_up (hl_up (hl_up (hl_up (hl_up (hl_up (hl_up (hl_up (hl_up (hl_up (hl_up (hl_up (hl_up (hl_up (hl_up (hl_up (hl_up (hl_up (hl_up (hl_up P 1 0 (some 2)) 1 1 (some 3)) 1 2 (some 4)) 1 3 (some 5)) 1 4 (some 6)) 1 5 (some 7)) 1 6 (some 8)) 1 7 (some 9)) 1 9 (some 10)) 11 0 (some 12)) 11 1 (some 13)) 11 2 (some 14)) 1 14 (some 11)) 15 0 (some 16)) 15 1 (some 17)) 15 2 (some 18)) 1 15 (some 15)) 0 3 (some 1)) 19 0 (some 20)) 19 1 (some 21)) 19 2 (some 22)) 19 3 (some 23)) 19 4 (some 24)) 19 5 (some 25)) 19 6 (some 26)) 19 7 (some 27)) 19 9 (some 28)) 29 0 (some 30)) 29 1 (some 31)) 29 2 (some 32)) 19 14 (some 29)) 33 0 (some 34)) 33 1 (some 35)) 33 2 (some 36)) 19 15 (some 33)) 0 4 (some 19)) 0 5 (some 37)) 39 0 (some 40)) 39 1 (some 41)) 39 2 (some 42)) 38 1 (some 39)) 38 0 (some 37)) 0 7 (some 38)) 0 8 (some 43)) 44 0 (some 45)) 44 1 (some 46)) 44 2 (some 47)) 43 0 (some 44)) 48 0 (some 49)) 48 1 (some 50)) 48 2 (some 51)) 43 1 (some 48)) 52 0 (some 53)) 52 1 (some 54)) 52 2 (some 55)) 43 2 (some 52)) 56 0 (some 57)) 56 1 (some 58)) 56 2 (some 59)) 43 3 (some 56)) 60 2 (some 61)) 60 3 (some 62)) 60 0 (some 1)) 60 1 (some 43)) 0 9 (some 60)) 63 0 (some 1)) 63 1 (some 60)) 63 2 (some 64)) 63 3 (some 65)) 0 10 (some 63))) (I := (hl_up (hl_up (hl_up (hl_up (hl_up (hl_row (hl_row (hl_row (hl_up (hl_up (hl_up (hl_row (hl_row (hl_row (hl_up (hl_up (hl_up I 0 0 (nI W)) 0 1 (nI H)) 0 2 (nI N)) 5 (fun j => if j < N then 480 else 0)) 7 (fun j => if j < N then -1 else 0)) 10 (fun j => if j < 12 then 360 else 0)) 1 10 (-1)) 1 11 (-1)) 1 13 (-1)) 23 (fun j => if j < N then 480 else 0)) 25 (fun j => if j < N then -1 else 0)) 28 (fun j => if j < 12 then 360 else 0)) 19 10 (-1)) 19 11 (-1)) 19 13 (-1)) 38 7 (-1)) 38 8 (-1))) (x := nI W) hN (fun a h => by
    simp only [hl_up_ne _ _ _ (show a ≠ 0 by omega), hl_up_ne _ _ _ (show a ≠ 1 by omega), hl_up_ne _ _ _ (show a ≠ 11 by omega), hl_up_ne _ _ _ (show a ≠ 15 by omega), hl_up_ne _ _ _ (show a ≠ 19 by omega), hl_up_ne _ _ _ (show a ≠ 29 by omega), hl_up_ne _ _ _ (show a ≠ 33 by omega), hl_up_ne _ _ _ (show a ≠ 38 by omega), hl_up_ne _ _ _ (show a ≠ 39 by omega), hl_up_ne _ _ _ (show a ≠ 43 by omega), hl_up_ne _ _ _ (show a ≠ 44 by omega), hl_up_ne _ _ _ (show a ≠ 48 by omega), hl_up_ne _ _ _ (show a ≠ 52 by omega), hl_up_ne _ _ _ (show a ≠ 56 by omega), hl_up_ne _ _ _ (show a ≠ 60 by omega), hl_up_ne _ _ _ (show a ≠ 63 by omega)]
    exact hP a (by omega)) (fun a h => by
    simp only [hl_up_ne _ _ _ (show a ≠ 0 by omega), hl_row_ne _ _ (show a ≠ 0 by omega), hl_up_ne _ _ _ (show a ≠ 1 by omega), hl_row_ne _ _ (show a ≠ 1 by omega), hl_up_ne _ _ _ (show a ≠ 5 by omega), hl_row_ne _ _ (show a ≠ 5 by omega), hl_up_ne _ _ _ (show a ≠ 7 by omega), hl_row_ne _ _ (show a ≠ 7 by omega), hl_up_ne _ _ _ (show a ≠ 10 by omega), hl_row_ne _ _ (show a ≠ 10 by omega), hl_up_ne _ _ _ (show a ≠ 19 by omega), hl_row_ne _ _ (show a ≠ 19 by omega), hl_up_ne _ _ _ (show a ≠ 23 by omega), hl_row_ne _ _ (show a ≠ 23 by omega), hl_up_ne _ _ _ (show a ≠ 25 by omega), hl_row_ne _ _ (show a ≠ 25 by omega), hl_up_ne _ _ _ (show a ≠ 28 by omega), hl_row_ne _ _ (show a ≠ 28 by omega), hl_up_ne _ _ _ (show a ≠ 38 by omega), hl_row_ne _ _ (show a ≠ 38 by omega)]
    exact hI a (by omega))
  have u10 := hl_mk25 (d := d) (N := N) (P := (hl_up (hl_up (hl_up (hl_up (hl_up (hl_up (hl_up (hl_up (hl_up (hl_up (hl_up (hl_up (hl_up (hl_up (hl_up (hl_up (hl_up (hl_up (hl_up (hl_up (hl_up (hl_up (hl_up (hl_up (hl_up (hl_up (hl_up (hl_up (hl_up (hl_up (hl_up (hl_up (hl_up (hl_up (hl_up (hl_up (hl_up (hl_up (hl_up (hl_up (hl_up (hl_up (hl_up (hl_up (hl_up (hl_up (hl_up (hl_up (hl_up (hl_up (hl_up (hl_up (hl_up (hl_up (hl_up (hl_up (hl_up (hl_up (hl_up (hl_up (hl_up (hl_up (hl_up (hl_up (hl_up (hl_up (hl_up (hl_up (hl_up (hl_up (hl_up (hl_up P 1 0 (some 2)) 1 1 (some 3)) 1 2 (some 4)) 1 3 (some 5)) 1 4 (some 6)) 1 5 (some 7)) 1 6 (some 8)) 1 7 (some 9)) 1 9 (some 10)) 11 0 (some 12)) 11 1 (some 13)) 11 2 (some 14)) 1 14 (some 11)) 15 0 (some 16)) 15 1 (some 17)) 15 2 (some 18)) 1 15 (some 15)) 0 3 (some 1)) 19 0 (some 20)) 19 1 (some 21)) 19 2 (some 22)) 19 3 (some 23)) 19 4 (some 24)) 19 5 (some 25)) 19 6 (some 26)) 19 7 (some 27)) 19 9 (some 28)) 29 0 (some 30)) 29 1 (some 31)) 29 2 (some 32)) 19 14 (some 29)) 33 0 (some 34)) 33 1 (some 35)) 33 2 (some 36)) 19 15 (some 33)) 0 4 (some 19)) 0 5 (some 37)) 39 0 (some 40)) 39 1 (some 41)) 39 2 (some 42)) 38 1 (some 39)) 38 0 (some 37)) 0 7 (some 38)) 0 8 (some 43)) 44 0 (some 45)) 44 1 (some 46)) 44 2 (some 47)) 43 0 (some 44)) 48 0 (some 49)) 48 1 (some 50)) 48 2 (some 51)) 43 1 (some 48)) 52 0 (some 53)) 52 1 (some 54)) 52 2 (some 55)) 43 2 (some 52)) 56 0 (some 57)) 56 1 (some 58)) 56 2 (some 59)) 43 3 (some 56)) 60 2 (some 61)) 60 3 (some 62)) 60 0 (some 1)) 60 1 (some 43)) 0 9 (some 60)) 63 0 (some 1)) 63 1 (some 60)) 63 2 (some 64)) 63 3 (some 65)) 0 10 (some 63)) 66 1 (some 67)) 0 11 (some 66))) (I := (hl_up (hl_up (hl_up (hl_up (hl_up (hl_up (hl_row (hl_row (hl_row (hl_up (hl_up (hl_up (hl_row (hl_row (hl_row (hl_up (hl_up (hl_up I 0 0 (nI W)) 0 1 (nI H)) 0 2 (nI N)) 5 (fun j => if j < N then 480 else 0)) 7 (fun j => if j < N then -1 else 0)) 10 (fun j => if j < 12 then 360 else 0)) 1 10 (-1)) 1 11 (-1)) 1 13 (-1)) 23 (fun j => if j < N then 480 else 0)) 25 (fun j => if j < N then -1 else 0)) 28 (fun j => if j < 12 then 360 else 0)) 19 10 (-1)) 19 11 (-1)) 19 13 (-1)) 38 7 (-1)) 38 8 (-1)) 66 0 (nI W))) hN (by simp only [hl_up_a, Nat.reduceEqDiff, if_true, if_false]) (fun a h => by
    simp only [hl_up_ne _ _ _ (show a ≠ 0 by omega), hl_up_ne _ _ _ (show a ≠ 1 by omega), hl_up_ne _ _ _ (show a ≠ 11 by omega), hl_up_ne _ _ _ (show a ≠ 15 by omega), hl_up_ne _ _ _ (show a ≠ 19 by omega), hl_up_ne _ _ _ (show a ≠ 29 by omega), hl_up_ne _ _ _ (show a ≠ 33 by omega), hl_up_ne _ _ _ (show a ≠ 38 by omega), hl_up_ne _ _ _ (show a ≠ 39 by omega), hl_up_ne _ _ _ (show a ≠ 43 by omega), hl_up_ne _ _ _ (show a ≠ 44 by omega), hl_up_ne _ _ _ (show a ≠ 48 by omega), hl_up_ne _ _ _ (show a ≠ 52 by omega), hl_up_ne _ _ _ (show a ≠ 56 by omega), hl_up_ne _ _ _ (show a ≠ 60 by omega), hl_up_ne _ _ _ (show a ≠ 63 by omega), hl_up_ne _ _ _ (show a ≠ 66 by omega)]
    exact hP a (by omega)) (fun a h => by
    simp only [hl_up_ne _ _ _ (show a ≠ 0 by omega), hl_row_ne _ _ (show a ≠ 0 by omega), hl_up_ne _ _ _ (show a ≠ 1 by omega), hl_row_ne _ _ (show a ≠ 1 by omega), hl_up_ne _ _ _ (show a ≠ 5 by omega), hl_row_ne _ _ (show a ≠ 5 by omega), hl_up_ne _ _ _ (show a ≠ 7 by omega), hl_row_ne _ _ (show a ≠ 7 by omega), hl_up_ne _ _ _ (show a ≠ 10 by omega), hl_row_ne _ _ (show a ≠ 10 by omega), hl_up_ne _ _ _ (show a ≠ 19 by omega), hl_row_ne _ _ (show a ≠ 19 by omega), hl_up_ne _ _ _ (show a ≠ 23 by omega), hl_row_ne _ _ (show a ≠ 23 by omega), hl_up_ne _ _ _ (show a ≠ 25 by omega), hl_row_ne _ _ (show a ≠ 25 by omega), hl_up_ne _ _ _ (show a ≠ 28 by omega), hl_row_ne _ _ (show a ≠ 28 by omega), hl_up_ne _ _ _ (show a ≠ 38 by omega), hl_row_ne _ _ (show a ≠ 38 by omega), hl_up_ne _ _ _ (show a ≠ 66 by omega), hl_row_ne _ _ (show a ≠ 66 by omega)]
    exact hI a (by omega))
  have u11 := hl_mk2 (d := d + 1) (N := N) (P := (hl_up (hl_up (hl_up (hl_up (hl_up (hl_up (hl_up (hl_up (hl_up (hl_up (hl_up (hl_up (hl_up (hl_up (hl_up (hl_up (hl_up (hl_up (hl_up (hl_up (hl_up (hl_up (hl_up (hl_up (hl_up (hl_up (hl_up (hl_up (hl_up (hl_up (hl_up (hl_up (hl_up (hl_up (hl_up (hl_up (hl_up (hl_up (hl_up (hl_up (hl_up (hl_up (hl_up (hl_up (hl_up (hl_up (hl_up (hl_up (hl_up (hl_up (hl_up (hl_up (hl_up (hl_up (hl_up (hl_up (hl_up (hl_up (hl_up (hl_up (hl_up (hl_up (hl_up (hl_up (hl_up (hl_up (hl_up (hl_up (hl_up (hl_up (hl_up (hl_up (hl_up (hl_up (hl_up (hl_up (hl_up (hl_up (hl_up (hl_up (hl_up (hl_up (hl_up (hl_up (hl_up (hl_up (hl_up P 1 0 (some 2)) 1 1 (some 3)) 1 2 (some 4)) 1 3 (some 5)) 1 4 (some 6)) 1 5 (some 7)) 1 6 (some 8)) 1 7 (some 9)) 1 9 (some 10)) 11 0 (some 12)) 11 1 (some 13)) 11 2 (some 14)) 1 14 (some 11)) 15 0 (some 16)) 15 1 (some 17)) 15 2 (some 18)) 1 15 (some 15)) 0 3 (some 1)) 19 0 (some 20)) 19 1 (some 21)) 19 2 (some 22)) 19 3 (some 23)) 19 4 (some 24)) 19 5 (some 25)) 19 6 (some 26)) 19 7 (some 27)) 19 9 (some 28)) 29 0 (some 30)) 29 1 (some 31)) 29 2 (some 32)) 19 14 (some 29)) 33 0 (some 34)) 33 1 (some 35)) 33 2 (some 36)) 19 15 (some 33)) 0 4 (some 19)) 0 5 (some 37)) 39 0 (some 40)) 39 1 (some 41)) 39 2 (some 42)) 38 1 (some 39)) 38 0 (some 37)) 0 7 (some 38)) 0 8 (some 43)) 44 0 (some 45)) 44 1 (some 46)) 44 2 (some 47)) 43 0 (some 44)) 48 0 (some 49)) 48 1 (some 50)) 48 2 (some 51)) 43 1 (some 48)) 52 0 (some 53)) 52 1 (some 54)) 52 2 (some 55)) 43 2 (some 52)) 56 0 (some 57)) 56 1 (some 58)) 56 2 (some 59)) 43 3 (some 56)) 60 2 (some 61)) 60 3 (some 62)) 60 0 (some 1)) 60 1 (some 43)) 0 9 (some 60)) 63 0 (some 1)) 63 1 (some 60)) 63 2 (some 64)) 63 3 (some 65)) 0 10 (some 63)) 66 1 (some 67)) 0 11 (some 66)) 69 2 (some 70)) 69 3 (some 71)) 69 4 (some 72)) 69 5 (some 73)) 69 6 (some 74)) 69 7 (some 75)) 69 8 (some 76)) 69 9 (some 77)) 68 2 (some 69)) 68 5 (some 78)) 68 0 (some 1)) 68 1 (some 63)) 68 3 (some 79)) 68 4 (some 80)) 0 12 (some 68))) (I := (hl_up (hl_up (hl_up (hl_up (hl_up (hl_up (hl_row (hl_row (hl_row (hl_up (hl_up (hl_up (hl_row (hl_row (hl_row (hl_up (hl_up (hl_up I 0 0 (nI W)) 0 1 (nI H)) 0 2 (nI N)) 5 (fun j => if j < N then 480 else 0)) 7 (fun j => if j < N then -1 else 0)) 10 (fun j => if j < 12 then 360 else 0)) 1 10 (-1)) 1 11 (-1)) 1 13 (-1)) 23 (fun j => if j < N then 480 else 0)) 25 (fun j => if j < N then -1 else 0)) 28 (fun j => if j < 12 then 360 else 0)) 19 10 (-1)) 19 11 (-1)) 19 13 (-1)) 38 7 (-1)) 38 8 (-1)) 66 0 (nI W))) hN (by simp only [hl_up_a, Nat.reduceEqDiff, if_true, if_false]) (fun a h => by
    simp only [hl_up_ne _ _ _ (show a ≠ 0 by omega), hl_up_ne _ _ _ (show a ≠ 1 by omega), hl_up_ne _ _ _ (show a ≠ 11 by omega), hl_up_ne _ _ _ (show a ≠ 15 by omega), hl_up_ne _ _ _ (show a ≠ 19 by omega), hl_up_ne _ _ _ (show a ≠ 29 by omega), hl_up_ne _ _ _ (show a ≠ 33 by omega), hl_up_ne _ _ _ (show a ≠ 38 by omega), hl_up_ne _ _ _ (show a ≠ 39 by omega), hl_up_ne _ _ _ (show a ≠ 43 by omega), hl_up_ne _ _ _ (show a ≠ 44 by omega), hl_up_ne _ _ _ (show a ≠ 48 by omega), hl_up_ne _ _ _ (show a ≠ 52 by omega), hl_up_ne _ _ _ (show a ≠ 56 by omega), hl_up_ne _ _ _ (show a ≠ 60 by omega), hl_up_ne _ _ _ (show a ≠ 63 by omega), hl_up_ne _ _ _ (show a ≠ 66 by omega), hl_up_ne _ _ _ (show a ≠ 68 by omega), hl_up_ne _ _ _ (show a ≠ 69 by omega)]
    exact hP a (by omega)) (fun a h => by
    simp only [hl_up_ne _ _ _ (show a ≠ 0 by omega), hl_row_ne _ _ (show a ≠ 0 by omega), hl_up_ne _ _ _ (show a ≠ 1 by omega), hl_row_ne _ _ (show a ≠ 1 by omega), hl_up_ne _ _ _ (show a ≠ 5 by omega), hl_row_ne _ _ (show a ≠ 5 by omega), hl_up_ne _ _ _ (show a ≠ 7 by omega), hl_row_ne _ _ (show a ≠ 7 by omega), hl_up_ne _ _ _ (show a ≠ 10 by omega), hl_row_ne _ _ (show a ≠ 10 by omega), hl_up_ne _ _ _ (show a ≠ 19 by omega), hl_row_ne _ _ (show a ≠ 19 by omega), hl_up_ne _ _ _ (show a ≠ 23 by omega), hl_row_ne _ _ (show a ≠ 23 by omega), hl_up_ne _ _ _ (show a ≠ 25 by omega), hl_row_ne _ _ (show a ≠ 25 by omega), hl_up_ne _ _ _ (show a ≠ 28 by omega), hl_row_ne _ _ (show a ≠ 28 by omega), hl_up_ne _ _ _ (show a ≠ 38 by omega), hl_row_ne _ _ (show a ≠ 38 by omega), hl_up_ne _ _ _ (show a ≠ 66 by omega), hl_row_ne _ _ (show a ≠ 66 by omega)]
    exact hI a (by omega))
  have p0 := hP 0 (by omega)
  have i0 := hI 0 (by omega)
  have p1 := hP 1 (by omega)
  have i1 := hI 1 (by omega)
  have p19 := hP 19 (by omega)
  have i19 := hI 19 (by omega)
  have p37 := hP 37 (by omega)
  have i37 := hI 37 (by omega)
  have p38 := hP 38 (by omega)
  have i38 := hI 38 (by omega)
  have p43 := hP 43 (by omega)
  have i43 := hI 43 (by omega)
  have p44 := hP 44 (by omega)
  have i44 := hI 44 (by omega)
  have p48 := hP 48 (by omega)
  have i48 := hI 48 (by omega)
  have p52 := hP 52 (by omega)
  have i52 := hI 52 (by omega)
  have p56 := hP 56 (by omega)
  have i56 := hI 56 (by omega)
  have p60 := hP 60 (by omega)
  have i60 := hI 60 (by omega)
  have p63 := hP 63 (by omega)
  have i63 := hI 63 (by omega)
  have p66 := hP 66 (by omega)
  have i66 := hI 66 (by omega)
  have p68 := hP 68 (by omega)
  have i68 := hI 68 (by omega)
  have p81 := hP 81 (by omega)
  have i81 := hI 81 (by omega)
  have p83 := hP 83 (by omega)
  have i83 := hI 83 (by omega)
  have p84 := hP 84 (by omega)
  have i84 := hI 84 (by omega)
  obtain ⟨z1, z2, z3⟩ := hl_zn (n := N) (by omega)
  have e1 : ∀ w, hl_call (d + 2) 148 [.int x, .int 2, .int 6] w = some (some (.int (nI W)), w) := fun w => by rw [← ex]; exact hl_s148
  have e2 : ∀ w, hl_call (d + 2) 148 [.int y, .int 2, .int 4] w = some (some (.int (nI H)), w) := fun w => by rw [← ey]; exact hl_s148
  rw [hl_e104]
  simp only [hl_r104_0, hl_r104_4, hl_r104_5, hl_r104_6, hl_r104_7, hl_r104_9, hl_r104_15, hl_r104_16, hl_r104_17, hl_r104_18, hl_r104_19, hl_r104_25, hl_r104_26, hl_r104_27, hl_r104_30, hl_r104_31, hl_r104_34, hl_r104_38, hl_r104_42, hl_r104_43, hl_r104_44, hl_r104_53, hl_r104_57, hl_r104_58, hl_r104_59, hl_r104_68, hl_r104_69, hl_r104_77, hl_r104_81, hl_r104_82, hl_r104_83, hl_r104_92, hl_r104_93, hl_r104_100, hl_r104_101, hl_r104_102, hl_r104_103, hl_r104_104, hl_r104_107, hl_r104_108, hl_r104_111, hl_r104_115, hl_r104_120, hl_r104_123, hl_r104_126, hl_r104_130, hl_r104_131, hl_r104_132, hl_r104_135, hl_r104_136, hl_r104_145, hl_r104_149, hl_r104_150, hl_r104_151, hl_r104_154, hl_r104_155, hl_r104_164, hl_r104_168, hl_r104_169, hl_r104_170, hl_r104_173, hl_r104_174, hl_r104_183, hl_r104_187, hl_r104_188, hl_r104_189, hl_r104_192, hl_r104_193, hl_r104_202, hl_r104_206, hl_r104_207, hl_r104_208, hl_r104_211, hl_r104_212, hl_r104_215, hl_r104_216, hl_r104_225, hl_r104_226, hl_r104_227, hl_r104_235, hl_r104_236, hl_r104_243, hl_r104_1, hl_r104_12, hl_r104_22, hl_r104_35, hl_r104_39, hl_r104_47, hl_r104_50, hl_r104_54, hl_r104_62, hl_r104_65, hl_r104_72, hl_r104_74, hl_r104_78, hl_r104_86, hl_r104_89, hl_r104_94, hl_r104_97, hl_r104_112, hl_r104_116, hl_r104_119, hl_r104_127, hl_r104_139, hl_r104_142, hl_r104_146, hl_r104_158, hl_r104_161, hl_r104_165, hl_r104_177, hl_r104_180, hl_r104_184, hl_r104_196, hl_r104_199, hl_r104_203, hl_r104_219, hl_r104_222, hl_r104_230, hl_r104_232, hl_r104_238, hl_r104_240, u0, u1, u2, u3, u4, u5, u6, u7, u8, u9, u10, u11, e1, e2, hNe, z1, z2, z3, va_rf, hl_a01, hl_a12, hl_a23, hl_a34, hl_c40, hl_c41, hl_c42, hl_c43, hl_c44, hl_d40, hl_d41, hl_d42, hl_d43, hl_v0, hl_v1, hl_v3, p0, i0, p1, i1, p19, i19, p37, i37, p38, i38, p43, i43, p44, i44, p48, i48, p52, i52, p56, i56, p60, i60, p63, i63, p66, i66, p68, i68, p81, i81, p83, i83, p84, i84, hl_gk_0, hl_gk_1, hl_gk_19, hl_gk_37, hl_gk_38, hl_gk_43, hl_gk_44, hl_gk_48, hl_gk_52, hl_gk_56, hl_gk_60, hl_gk_63, hl_gk_66, hl_gk_68, hl_gk_81, hl_gk_83, hl_gk_84, if_true, if_false, hl_q_n, hl_q_P, hl_q_I, hl_q_new, hl_q_sP, hl_q_sI, hl_q_ob, hl_q_ar, hl_q_k, hl_up_ne, hl_up_a, hl_row_ne, hl_lz2, hl_lv2, hl_lz3, hl_lv3, hl_lz4, hl_lv4, hl_lz6, hl_lv6, hl_lz9, hl_lv9, hl_lz12, hl_lv12, hl_lz40, hl_lv40, hl_lz64, hl_lv64, hl_lz72, hl_lv72, hl_lz74, hl_lv74, hl_lz160, hl_lv160, hl_lz300, hl_lv300, hl_lz330, hl_lv330, hl_lz432, hl_lv432, hl_lz490, hl_lv490, hl_lz800, hl_lv800, hl_lz3200, hl_lv3200, hl_lz5476, hl_lv5476, hl_lz24, hl_lv24, hl_lz96, hl_lv96, hl_N_0, hl_N_1, hl_N_2, hl_N_3, hl_N_4, hl_N_5, hl_N_6, hl_N_7, hl_N_8, hl_N_9, hl_N_10, hl_N_11, hl_N_12, not_false_eq_true, and_self, and_true, true_and, hl_tl_s, hl_tl_n, hl_cal_some, hl_kill_i, hl_kill_r, hl_kill_n, Nat.reduceAdd, Nat.reduceEqDiff, ne_eq, Nat.reduceLT, Nat.reduceLeDiff, Nat.lt_add_one]
end HLD
