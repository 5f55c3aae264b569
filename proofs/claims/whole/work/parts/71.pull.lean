/-! pull -/
theorem hl_b01 (x : Int32) : x &&& 1 = 0 ∨ x &&& 1 = 1 := by
  have h : x &&& 1 = nI (x.toBitVec.toNat % 2) := by
    apply Int32.toBitVec_inj.mp
    apply BitVec.eq_of_toNat_eq
    show (x.toBitVec &&& 1#32).toNat = (BitVec.ofNat 32 (x.toBitVec.toNat % 2)).toNat
    rw [BitVec.toNat_and, BitVec.toNat_ofNat]
    show x.toBitVec.toNat &&& (2 ^ 1 - 1) = _
    rw [Nat.and_two_pow_sub_one_eq_mod]
    have : x.toBitVec.toNat % 2 ^ 1 < 2 := Nat.mod_lt _ (by omega)
    exact (Nat.mod_eq_of_lt (by omega)).symm
  have : x.toBitVec.toNat % 2 = 0 ∨ x.toBitVec.toNat % 2 = 1 := by omega
  rcases this with q | q <;> rw [h, q]
  · exact .inl rfl
  · exact .inr rfl
def hl_pul (g : Nat → Int32) (t : Int32) (W y : Nat) (b : Int32) : Nat → Nat → Int32
  | 0 => g
  | i + 1 => fun c => if b >>> (nI i &&& 31) &&& 1 = 1 ∧ c = i + W * y then t else hl_pul g t W y b i c
theorem hl_pul_or (g : Nat → Int32) (t : Int32) (W y : Nat) (b : Int32) (n c : Nat) : hl_pul g t W y b n c = g c ∨ hl_pul g t W y b n c = t := by
  induction n with
  | zero => exact .inl rfl
  | succ n ih =>
    unfold hl_pul
    split
    · exact .inr rfl
    · exact ih
theorem hl_pul_congr {g g' : Nat → Int32} {t : Int32} {W y N : Nat} {b : Int32} (h : ∀ c, c < N → g' c = g c) (n : Nat) : ∀ c, c < N → hl_pul g' t W y b n c = hl_pul g t W y b n c := by
  induction n with
  | zero => exact h
  | succ n ih =>
    intro c hc
    unfold hl_pul
    rw [ih c hc]
section HLPULL
variable {d N W H : Nat} {I Is I' : Nat → Nat → Int32} {J J' : Nat → Nat → Int64} {nh cn : Nat} {g g' : Nat → Int32}
theorem hl_Co.pc_congr (hCo : hl_Co N W H I) (hN : N ≤ 24) (ts : hl_Sv I 86 1 = (cn : Int)) (h : ∀ c, c < N → g' c = g c) : hl_cp N I g' = hl_cp N I g ∧ hl_tps cn I g' = hl_tps cn I g := by
  refine ⟨hl_sum_congr (fun c hc => by rw [h c hc]), hl_sum_congr (fun k hk => ?_)⟩
  obtain ⟨a, b, w, a1, b1, -, -, -, ta, tb, -⟩ := hCo.tie hN ts hk
  unfold hl_tgw
  rw [ta, tb, nIc (show a < 2 ^ 31 by omega), nIc (show b < 2 ^ 31 by omega), h a a1, h b b1]
theorem hl_Co.pc_congr2 (hCo : hl_Co N W H I) (hN : N ≤ 24) (ts : hl_Sv I 86 1 = (cn : Int)) (h : ∀ c, c < N → g' c = g c) : hl_pc N cn I g' = hl_pc N cn I g := by
  obtain ⟨a, b⟩ := hCo.pc_congr hN ts h
  unfold hl_pc
  rw [a, b]
theorem hl_upr {I : Nat → Nat → Int32} {a i : Nat} {v : Int32} : hl_up I a i v a = fun c => if c = i then v else I a c := by
  funext c
  rw [hl_up_a, if_pos rfl]
/-- the class's row of trial -/
theorem hl_l127 {tw y : Nat} {b : Int32} (hW : W ≤ 6) (hNe : W * H = N) (hN : N ≤ 24) (hy : y < H) (htw : tw < N) (g0 : Nat → Int32) (f : Nat) : ∀ (I : Nat → Nat → Int32) (i : Nat), i + f = W → I 0 0 = nI W → I 83 = hl_pul g0 (I 8 tw) W y b i → ∃ I', hl_Run 127 (hl_call (d + 1)) 94 [.ref 0, .int (nI tw), .int (nI y), .int b, .int (nI i)] [] (hl_g N I J) = hl_Run 127 (hl_call (d + 1)) 141 [.ref 0, .int (nI tw), .int (nI y), .int b, .int (nI W)] [] (hl_g N I' J) ∧ (∀ q, q ≠ 83 → I' q = I q) ∧ I' 83 = hl_pul g0 (I 8 tw) W y b W := by
  induction f with
  | zero =>
    intro I i hi h0 h83
    obtain rfl : i = W := by omega
    refine ⟨I, ?_, fun _ _ => rfl, h83⟩
    simp only [hl_r127_94, hl_r127_96, hl_r127_97, hl_r127_100, hl_o_0, hl_p_0_3, hl_p_0_4, hl_p_0_5, hl_p_0_7, hl_p_0_8, hl_p_0_9, hl_p_0_10, hl_p_0_11, hl_p_0_12, hl_p_0_13, hl_p_0_14, hl_p_0_15, h0, Int32.le_refl, hl_kill_i, hl_kill_r, hl_kill_n, hl_kill_l, hl_tl_s, hl_tl_n, hl_cal_some, hl_gI, hl_gJ, hl_gsI, hl_gsJ, hl_tv01, if_true, if_false, hl_up_a, hl_row_a]
  | succ f ih =>
    intro I i hi h0 h83
    have c1 : ¬ nI W ≤ nI i := nI_ge (by omega) (by omega)
    have en : nI i + 1 = nI (i + 1) := (nI_succ i).symm
    rcases hl_b01 (b >>> (nI i &&& 31)) with q | q
    · have nq : ¬ b >>> (nI i &&& 31) &&& 1 = 1 := by rw [q]; decide
      obtain ⟨I1, e1, f1, k1⟩ := ih I (i + 1) (by omega) h0 (by
        rw [h83]
        funext c
        show _ = if b >>> (nI i &&& 31) &&& 1 = 1 ∧ c = i + W * y then I 8 tw else hl_pul g0 (I 8 tw) W y b i c
        rw [if_neg (fun z => nq z.1)])
      refine ⟨I1, ?_, f1, k1⟩
      rw [← e1, hl_r127_94]
      simp only [hl_r127_96, hl_r127_97, hl_r127_100, hl_r127_103, hl_r127_104, hl_r127_106, hl_r127_107, hl_r127_108, hl_r127_109, hl_r127_135, hl_r127_138, hl_o_0, hl_p_0_3, hl_p_0_4, hl_p_0_5, hl_p_0_7, hl_p_0_8, hl_p_0_9, hl_p_0_10, hl_p_0_11, hl_p_0_12, hl_p_0_13, hl_p_0_14, hl_p_0_15, h0, c1, q, en, hl_kill_i, hl_kill_r, hl_kill_n, hl_kill_l, hl_tl_s, hl_tl_n, hl_cal_some, hl_gI, hl_gJ, hl_gsI, hl_gsJ, hl_tv01, if_true, if_false, hl_up_a, hl_row_a]
    · have hlt : i + W * y < N := by
        rw [← hNe]
        have : W * (y + 1) ≤ W * H := Nat.mul_le_mul_left W hy
        rw [Nat.mul_add, Nat.mul_one] at this
        omega
      have ex : nI i + nI W * nI y = nI (i + W * y) := by rw [nI_mul, nI_add]
      have bx : hl_inb (nI (i + W * y)) N = true := hl_inb_nI hlt (by omega)
      have bt : hl_inb (nI tw) N = true := hl_inb_nI htw (by omega)
      have w8 : hl_up I 83 (i + W * y) (I 8 tw) 8 = I 8 := hl_up_ne _ _ _ (by decide)
      obtain ⟨I1, e1, f1, k1⟩ := ih (hl_up I 83 (i + W * y) (I 8 tw)) (i + 1) (by omega) (by rw [hl_up_ne _ _ _ (by decide)]; exact h0) (by
        rw [w8, hl_upr, h83]
        funext c
        show _ = if b >>> (nI i &&& 31) &&& 1 = 1 ∧ c = i + W * y then I 8 tw else hl_pul g0 (I 8 tw) W y b i c
        by_cases z : c = i + W * y
        · rw [if_pos z, if_pos ⟨q, z⟩]
        · rw [if_neg z, if_neg (fun y => z y.2)])
      rw [w8] at k1
      refine ⟨I1, ?_, fun q hq => by rw [f1 q hq, hl_up_ne _ _ _ hq], k1⟩
      rw [← e1, hl_r127_94]
      simp only [hl_r127_96, hl_r127_97, hl_r127_100, hl_r127_103, hl_r127_104, hl_r127_106, hl_r127_107, hl_r127_108, hl_r127_109, hl_r127_112, hl_r127_113, hl_r127_116, hl_r127_118, hl_r127_119, hl_r127_122, hl_r127_123, hl_r127_124, hl_r127_125, hl_r127_126, hl_r127_129, hl_r127_132, hl_r127_133, hl_r127_134, hl_r127_135, hl_r127_138, hl_o_0, hl_p_0_3, hl_p_0_4, hl_p_0_5, hl_p_0_7, hl_p_0_8, hl_p_0_9, hl_p_0_10, hl_p_0_11, hl_p_0_12, hl_p_0_13, hl_p_0_14, hl_p_0_15, hl_o_1, hl_p_1_0, hl_p_1_1, hl_p_1_2, hl_p_1_3, hl_p_1_4, hl_p_1_5, hl_p_1_6, hl_p_1_7, hl_p_1_9, hl_p_1_14, hl_p_1_15, hl_a_8, hl_z_8, hl_a_83, hl_z_83, h0, c1, q, hl_10, ex, bx, bt, nIc (show i + W * y < 2 ^ 31 by omega), nIc (show tw < 2 ^ 31 by omega), en, hl_kill_i, hl_kill_r, hl_kill_n, hl_kill_l, hl_tl_s, hl_tl_n, hl_cal_some, hl_gI, hl_gJ, hl_gsI, hl_gsJ, hl_tv01, if_true, if_false, hl_up_a, hl_row_a]
theorem hl_l246 {tw y : Nat} {b pr t : Int32} (hW : W ≤ 6) (hNe : W * H = N) (hN : N ≤ 24) (hy : y < H) (htw : tw < N) (g0 : Nat → Int32) (f : Nat) : ∀ (I : Nat → Nat → Int32) (i : Nat), i + f = W → I 85 0 = nI W → I 86 (30 + 7 * tw + 6) = t → I 94 = hl_pul g0 t W y b i → ∃ I', hl_Run 246 (hl_call (d + 1)) 73 [.ref 85, .int (nI tw), .int (nI y), .int b, .int pr, .int (nI i)] [] (hl_g N I J) = hl_Run 246 (hl_call (d + 1)) 119 [.ref 85, .int (nI tw), .int (nI y), .int b, .int pr, .int (nI W)] [] (hl_g N I' J) ∧ (∀ q, q ≠ 94 → I' q = I q) ∧ I' 94 = hl_pul g0 t W y b W := by
  induction f with
  | zero =>
    intro I i hi h0 ht h83
    obtain rfl : i = W := by omega
    refine ⟨I, ?_, fun _ _ => rfl, h83⟩
    simp only [hl_r246_73, hl_r246_75, hl_r246_76, hl_r246_79, hl_o_85, hl_p_85_3, hl_p_85_4, hl_p_85_5, hl_p_85_6, hl_p_85_19, hl_p_85_23, hl_p_85_24, hl_p_85_25, hl_p_85_26, hl_p_85_27, hl_p_85_28, hl_p_85_29, hl_p_85_30, hl_p_85_31, hl_p_85_33, hl_p_85_34, hl_p_85_35, hl_p_85_36, hl_p_85_37, h0, Int32.le_refl, hl_kill_i, hl_kill_r, hl_kill_n, hl_kill_l, hl_tl_s, hl_tl_n, hl_cal_some, hl_gI, hl_gJ, hl_gsI, hl_gsJ, hl_tv01, if_true, if_false, hl_up_a, hl_row_a]
  | succ f ih =>
    intro I i hi h0 ht h83
    have c1 : ¬ nI W ≤ nI i := nI_ge (by omega) (by omega)
    have en : nI i + 1 = nI (i + 1) := (nI_succ i).symm
    by_cases q : b >>> (nI i &&& 31) &&& 1 = 1
    · have hlt : i + W * y < N := by
        rw [← hNe]
        have : W * (y + 1) ≤ W * H := Nat.mul_le_mul_left W hy
        rw [Nat.mul_add, Nat.mul_one] at this
        omega
      have ex : nI i + nI W * nI y = nI (i + W * y) := by rw [nI_mul, nI_add]
      have bx : hl_inb (nI (i + W * y)) 24 = true := hl_inb_nI (by omega) (by omega)
      have o6 := hl_of6 (d := d) (N := N) (I := I) (J := J) (show tw < 24 by omega)
      rw [ht] at o6
      obtain ⟨I1, e1, f1, k1⟩ := ih (hl_up I 94 (i + W * y) t) (i + 1) (by omega) (by rw [hl_up_ne _ _ _ (by decide)]; exact h0) (by rw [hl_up_ne _ _ _ (by decide)]; exact ht) (by
        rw [hl_upr, h83]
        funext c
        show _ = if b >>> (nI i &&& 31) &&& 1 = 1 ∧ c = i + W * y then t else hl_pul g0 t W y b i c
        by_cases z : c = i + W * y
        · rw [if_pos z, if_pos ⟨q, z⟩]
        · rw [if_neg z, if_neg (fun y => z y.2)])
      refine ⟨I1, ?_, fun q hq => by rw [f1 q hq, hl_up_ne _ _ _ hq], k1⟩
      rw [← e1, hl_r246_73]
      simp only [hl_r246_75, hl_r246_76, hl_r246_79, hl_r246_82, hl_r246_83, hl_r246_85, hl_r246_86, hl_r246_87, hl_r246_88, hl_r246_89, hl_r246_92, hl_r246_93, hl_r246_96, hl_r246_98, hl_r246_99, hl_r246_102, hl_r246_103, hl_r246_104, hl_r246_105, hl_r246_106, hl_r246_107, hl_r246_109, hl_r246_112, hl_r246_113, hl_r246_116, hl_o_85, hl_p_85_3, hl_p_85_4, hl_p_85_5, hl_p_85_6, hl_p_85_19, hl_p_85_23, hl_p_85_24, hl_p_85_25, hl_p_85_26, hl_p_85_27, hl_p_85_28, hl_p_85_29, hl_p_85_30, hl_p_85_31, hl_p_85_33, hl_p_85_34, hl_p_85_35, hl_p_85_36, hl_p_85_37, hl_a_94, hl_z_94, h0, c1, q, not_true, ex, bx, o6, nIc (show i + W * y < 2 ^ 31 by omega), en, hl_kill_i, hl_kill_r, hl_kill_n, hl_kill_l, hl_tl_s, hl_tl_n, hl_cal_some, hl_gI, hl_gJ, hl_gsI, hl_gsJ, hl_tv01, if_true, if_false, hl_up_a, hl_row_a]
    · obtain ⟨I1, e1, f1, k1⟩ := ih I (i + 1) (by omega) h0 ht (by
        rw [h83]
        funext c
        show _ = if b >>> (nI i &&& 31) &&& 1 = 1 ∧ c = i + W * y then t else hl_pul g0 t W y b i c
        rw [if_neg (fun z => q z.1)])
      refine ⟨I1, ?_, f1, k1⟩
      rw [← e1, hl_r246_73]
      simp only [hl_r246_75, hl_r246_76, hl_r246_79, hl_r246_82, hl_r246_83, hl_r246_85, hl_r246_86, hl_r246_87, hl_r246_88, hl_r246_89, hl_r246_113, hl_r246_116, hl_o_85, hl_p_85_3, hl_p_85_4, hl_p_85_5, hl_p_85_6, hl_p_85_19, hl_p_85_23, hl_p_85_24, hl_p_85_25, hl_p_85_26, hl_p_85_27, hl_p_85_28, hl_p_85_29, hl_p_85_30, hl_p_85_31, hl_p_85_33, hl_p_85_34, hl_p_85_35, hl_p_85_36, hl_p_85_37, h0, c1, q, not_false_eq_true, en, hl_kill_i, hl_kill_r, hl_kill_n, hl_kill_l, hl_tl_s, hl_tl_n, hl_cal_some, hl_gI, hl_gJ, hl_gsI, hl_gsJ, hl_tv01, if_true, if_false, hl_up_a, hl_row_a]
theorem hl_pr22 (hS : hl_Sh N W H) (f : Nat → Int32) : hl_PQ hl_TX N W H 127 246 (hl_args 22 f) := by
  obtain ⟨w2, w6, g2, g4, hNe, hN⟩ := hS
  refine hl_PQ_read hl_TXc fun I J hI => ?_
  obtain ⟨nh, h4, hc1, hm1, hs1⟩ := hI.nh
  obtain ⟨cn, c40, tc1, tm1, ts1⟩ := hI.cn
  show ∃ v I1 J1 I2 J2, hl_call 1001 127 [.ref 0, .int (f 1), .int (f 2), .int (f 3)] (hl_g N I J) = some (some (.int v), hl_g N I1 J1) ∧ hl_call 1001 246 [.ref 85, .int (f 1), .int (f 2), .int (f 3)] (hl_g N I1 J1) = some (some (.int v), hl_g N I2 J2) ∧ _
  have P := hI.2.2.2.2.1
  by_cases hh0 : nh = 0
  · subst hh0
    have z : nI 0 = 0 := rfl
    rw [z] at hc1 hm1
    refine ⟨-1000000000, I, J, I, J, ?_, ?_, hl_Tm_rf I, P, hl_Tm_rf I, rfl, rfl⟩
    · rw [hl_e127 (d := 1000)]; simp only [hl_r127_0, hl_r127_1, hl_r127_4, hl_r127_7, hl_r127_60, hl_r127_63, hl_o_0, hl_p_0_3, hl_p_0_4, hl_p_0_5, hl_p_0_7, hl_p_0_8, hl_p_0_9, hl_p_0_10, hl_p_0_11, hl_p_0_12, hl_p_0_13, hl_p_0_14, hl_p_0_15, hl_o_1, hl_p_1_0, hl_p_1_1, hl_p_1_2, hl_p_1_3, hl_p_1_4, hl_p_1_5, hl_p_1_6, hl_p_1_7, hl_p_1_9, hl_p_1_14, hl_p_1_15, hc1, hl_kill_i, hl_kill_r, hl_kill_n, hl_kill_l, hl_tl_s, hl_tl_n, hl_cal_some, hl_gI, hl_gJ, hl_gsI, hl_gsJ, hl_tv01, if_true, if_false, hl_up_a, hl_row_a]
    · rw [hl_e246 (d := 1000)]; simp only [hl_r246_0, hl_r246_1, hl_r246_4, hl_r246_5, hl_r246_6, hl_r246_56, hl_r246_59, hl_o_85, hl_p_85_3, hl_p_85_4, hl_p_85_5, hl_p_85_6, hl_p_85_19, hl_p_85_23, hl_p_85_24, hl_p_85_25, hl_p_85_26, hl_p_85_27, hl_p_85_28, hl_p_85_29, hl_p_85_30, hl_p_85_31, hl_p_85_33, hl_p_85_34, hl_p_85_35, hl_p_85_36, hl_p_85_37, hl_a_86, hl_z_86, hl_k0, hl_v0, hm1, hl_kill_i, hl_kill_r, hl_kill_n, hl_kill_l, hl_tl_s, hl_tl_n, hl_cal_some, hl_gI, hl_gJ, hl_gsI, hl_gsJ, hl_tv01, if_true, if_false, hl_up_a, hl_row_a]
  have n0 : ¬ nI nh = 0 := nI_ne0 (by omega) (by omega)
  have k138 := hl_s138 (d := 998) (I := I) (J := J) (x := f 1) hI.cM (by omega)
  have k153 := hl_s153 (d := 998) (I := I) (J := J) (x := f 1) hI.mM (by omega)
  cases g1 : hl_inb (f 1) N with
  | false =>
    rw [g1] at k138 k153
    refine ⟨-1000000000, I, J, I, J, ?_, ?_, hl_Tm_rf I, P, hl_Tm_rf I, rfl, rfl⟩
    · rw [hl_e127 (d := 1000)]; simp only [hl_r127_0, hl_r127_1, hl_r127_4, hl_r127_7, hl_r127_10, hl_r127_11, hl_r127_12, hl_r127_15, hl_r127_60, hl_r127_63, hl_o_0, hl_p_0_3, hl_p_0_4, hl_p_0_5, hl_p_0_7, hl_p_0_8, hl_p_0_9, hl_p_0_10, hl_p_0_11, hl_p_0_12, hl_p_0_13, hl_p_0_14, hl_p_0_15, hl_o_1, hl_p_1_0, hl_p_1_1, hl_p_1_2, hl_p_1_3, hl_p_1_4, hl_p_1_5, hl_p_1_6, hl_p_1_7, hl_p_1_9, hl_p_1_14, hl_p_1_15, hc1, n0, k138, hl_tv_f, hl_kill_i, hl_kill_r, hl_kill_n, hl_kill_l, hl_tl_s, hl_tl_n, hl_cal_some, hl_gI, hl_gJ, hl_gsI, hl_gsJ, hl_tv01, if_true, if_false, hl_up_a, hl_row_a]
    · rw [hl_e246 (d := 1000)]; simp only [hl_r246_0, hl_r246_1, hl_r246_4, hl_r246_5, hl_r246_6, hl_r246_9, hl_r246_10, hl_r246_11, hl_r246_14, hl_r246_56, hl_r246_59, hl_o_85, hl_p_85_3, hl_p_85_4, hl_p_85_5, hl_p_85_6, hl_p_85_19, hl_p_85_23, hl_p_85_24, hl_p_85_25, hl_p_85_26, hl_p_85_27, hl_p_85_28, hl_p_85_29, hl_p_85_30, hl_p_85_31, hl_p_85_33, hl_p_85_34, hl_p_85_35, hl_p_85_36, hl_p_85_37, hl_a_86, hl_z_86, hl_k0, hl_v0, hm1, n0, k153, hl_tv_f, hl_kill_i, hl_kill_r, hl_kill_n, hl_kill_l, hl_tl_s, hl_tl_n, hl_cal_some, hl_gI, hl_gJ, hl_gsI, hl_gsJ, hl_tv01, if_true, if_false, hl_up_a, hl_row_a]
  | true =>
    rw [g1] at k138 k153
    obtain ⟨c, hc, ec⟩ := hl_inb_of g1 (by omega)
    rw [ec] at g1 k138 k153 ⊢
    have bc : hl_inb (nI c) N = true := g1
    have o4 := hl_of4 (d := 999) (N := N) (I := I) (J := J) (show c < 24 by omega)
    rw [← show I 6 c = I 86 (30 + 7 * c + 4) from hI.2.1.1.cell (i := 4) hN hc (by omega)] at o4
    by_cases t0 : I 6 c = 0
    · refine ⟨-1000000000, I, J, I, J, ?_, ?_, hl_Tm_rf I, P, hl_Tm_rf I, rfl, rfl⟩
      · rw [hl_e127 (d := 1000)]; simp only [hl_r127_0, hl_r127_1, hl_r127_4, hl_r127_7, hl_r127_10, hl_r127_11, hl_r127_12, hl_r127_15, hl_r127_18, hl_r127_19, hl_r127_22, hl_r127_25, hl_r127_26, hl_r127_27, hl_r127_60, hl_r127_63, hl_o_0, hl_p_0_3, hl_p_0_4, hl_p_0_5, hl_p_0_7, hl_p_0_8, hl_p_0_9, hl_p_0_10, hl_p_0_11, hl_p_0_12, hl_p_0_13, hl_p_0_14, hl_p_0_15, hl_o_1, hl_p_1_0, hl_p_1_1, hl_p_1_2, hl_p_1_3, hl_p_1_4, hl_p_1_5, hl_p_1_6, hl_p_1_7, hl_p_1_9, hl_p_1_14, hl_p_1_15, hl_a_6, hl_z_6, hc1, n0, k138, hl_tv_t, hl_10, bc, nIc (show c < 2 ^ 31 by omega), t0, hl_kill_i, hl_kill_r, hl_kill_n, hl_kill_l, hl_tl_s, hl_tl_n, hl_cal_some, hl_gI, hl_gJ, hl_gsI, hl_gsJ, hl_tv01, if_true, if_false, hl_up_a, hl_row_a]
      · rw [hl_e246 (d := 1000)]; simp only [hl_r246_0, hl_r246_1, hl_r246_4, hl_r246_5, hl_r246_6, hl_r246_9, hl_r246_10, hl_r246_11, hl_r246_14, hl_r246_17, hl_r246_18, hl_r246_19, hl_r246_20, hl_r246_23, hl_r246_56, hl_r246_59, hl_o_85, hl_p_85_3, hl_p_85_4, hl_p_85_5, hl_p_85_6, hl_p_85_19, hl_p_85_23, hl_p_85_24, hl_p_85_25, hl_p_85_26, hl_p_85_27, hl_p_85_28, hl_p_85_29, hl_p_85_30, hl_p_85_31, hl_p_85_33, hl_p_85_34, hl_p_85_35, hl_p_85_36, hl_p_85_37, hl_a_86, hl_z_86, hl_k0, hl_v0, hm1, n0, k153, hl_tv_t, hl_10, o4, t0, hl_kill_i, hl_kill_r, hl_kill_n, hl_kill_l, hl_tl_s, hl_tl_n, hl_cal_some, hl_gI, hl_gJ, hl_gsI, hl_gsJ, hl_tv01, if_true, if_false, hl_up_a, hl_row_a]
    have ey : hl_in (f 2) 0 (nI H - 1) = hl_inb (f 2) H := hl_in_inb (by omega)
    have w00 : I 0 0 = nI W := hI.1.1.1
    have w01 : I 0 1 = nI H := hI.1.1.2.1
    have w850 : I 85 0 = nI W := hI.1.2.1.1
    have w851 : I 85 1 = nI H := hI.1.2.1.2.1
    cases g2' : hl_inb (f 2) H with
    | false =>
      refine ⟨-1000000000, I, J, I, J, ?_, ?_, hl_Tm_rf I, P, hl_Tm_rf I, rfl, rfl⟩
      · rw [hl_e127 (d := 1000)]; simp only [hl_r127_0, hl_r127_1, hl_r127_4, hl_r127_7, hl_r127_10, hl_r127_11, hl_r127_12, hl_r127_15, hl_r127_18, hl_r127_19, hl_r127_22, hl_r127_25, hl_r127_26, hl_r127_27, hl_r127_30, hl_r127_31, hl_r127_32, hl_r127_33, hl_r127_36, hl_r127_37, hl_r127_38, hl_r127_41, hl_r127_60, hl_r127_63, hl_o_0, hl_p_0_3, hl_p_0_4, hl_p_0_5, hl_p_0_7, hl_p_0_8, hl_p_0_9, hl_p_0_10, hl_p_0_11, hl_p_0_12, hl_p_0_13, hl_p_0_14, hl_p_0_15, hl_o_1, hl_p_1_0, hl_p_1_1, hl_p_1_2, hl_p_1_3, hl_p_1_4, hl_p_1_5, hl_p_1_6, hl_p_1_7, hl_p_1_9, hl_p_1_14, hl_p_1_15, hl_a_6, hl_z_6, hc1, n0, k138, hl_tv_t, hl_tv_f, hl_10, bc, nIc (show c < 2 ^ 31 by omega), t0, w01, hl_s147, ey, g2', hl_kill_i, hl_kill_r, hl_kill_n, hl_kill_l, hl_tl_s, hl_tl_n, hl_cal_some, hl_gI, hl_gJ, hl_gsI, hl_gsJ, hl_tv01, if_true, if_false, hl_up_a, hl_row_a]
      · rw [hl_e246 (d := 1000)]; simp only [hl_r246_0, hl_r246_1, hl_r246_4, hl_r246_5, hl_r246_6, hl_r246_9, hl_r246_10, hl_r246_11, hl_r246_14, hl_r246_17, hl_r246_18, hl_r246_19, hl_r246_20, hl_r246_23, hl_r246_26, hl_r246_27, hl_r246_28, hl_r246_29, hl_r246_32, hl_r246_33, hl_r246_34, hl_r246_37, hl_r246_56, hl_r246_59, hl_o_85, hl_p_85_3, hl_p_85_4, hl_p_85_5, hl_p_85_6, hl_p_85_19, hl_p_85_23, hl_p_85_24, hl_p_85_25, hl_p_85_26, hl_p_85_27, hl_p_85_28, hl_p_85_29, hl_p_85_30, hl_p_85_31, hl_p_85_33, hl_p_85_34, hl_p_85_35, hl_p_85_36, hl_p_85_37, hl_a_86, hl_z_86, hl_k0, hl_v0, hm1, n0, k153, hl_tv_t, hl_tv_f, hl_10, o4, t0, w851, hl_s151, ey, g2', hl_kill_i, hl_kill_r, hl_kill_n, hl_kill_l, hl_tl_s, hl_tl_n, hl_cal_some, hl_gI, hl_gJ, hl_gsI, hl_gsJ, hl_tv01, if_true, if_false, hl_up_a, hl_row_a]
    | true =>
    obtain ⟨y, hy, eyy⟩ := hl_inb_of g2' (by omega)
    rw [eyy] at g2' ey ⊢
    cases g3 : hl_in (f 3) 0 ((1 : Int32) <<< (nI W &&& 31) - 1) with
    | false =>
      refine ⟨-1000000000, I, J, I, J, ?_, ?_, hl_Tm_rf I, P, hl_Tm_rf I, rfl, rfl⟩
      · rw [hl_e127 (d := 1000)]; simp only [hl_r127_0, hl_r127_1, hl_r127_4, hl_r127_7, hl_r127_10, hl_r127_11, hl_r127_12, hl_r127_15, hl_r127_18, hl_r127_19, hl_r127_22, hl_r127_25, hl_r127_26, hl_r127_27, hl_r127_30, hl_r127_31, hl_r127_32, hl_r127_33, hl_r127_36, hl_r127_37, hl_r127_38, hl_r127_41, hl_r127_44, hl_r127_45, hl_r127_46, hl_r127_47, hl_r127_48, hl_r127_51, hl_r127_52, hl_r127_53, hl_r127_54, hl_r127_57, hl_r127_60, hl_r127_63, hl_o_0, hl_p_0_3, hl_p_0_4, hl_p_0_5, hl_p_0_7, hl_p_0_8, hl_p_0_9, hl_p_0_10, hl_p_0_11, hl_p_0_12, hl_p_0_13, hl_p_0_14, hl_p_0_15, hl_o_1, hl_p_1_0, hl_p_1_1, hl_p_1_2, hl_p_1_3, hl_p_1_4, hl_p_1_5, hl_p_1_6, hl_p_1_7, hl_p_1_9, hl_p_1_14, hl_p_1_15, hl_a_6, hl_z_6, hc1, n0, k138, hl_tv_t, hl_tv_f, hl_10, not_true, bc, nIc (show c < 2 ^ 31 by omega), t0, w00, w01, hl_s147, ey, g2', g3, hl_kill_i, hl_kill_r, hl_kill_n, hl_kill_l, hl_tl_s, hl_tl_n, hl_cal_some, hl_gI, hl_gJ, hl_gsI, hl_gsJ, hl_tv01, if_true, if_false, hl_up_a, hl_row_a]
      · rw [hl_e246 (d := 1000)]; simp only [hl_r246_0, hl_r246_1, hl_r246_4, hl_r246_5, hl_r246_6, hl_r246_9, hl_r246_10, hl_r246_11, hl_r246_14, hl_r246_17, hl_r246_18, hl_r246_19, hl_r246_20, hl_r246_23, hl_r246_26, hl_r246_27, hl_r246_28, hl_r246_29, hl_r246_32, hl_r246_33, hl_r246_34, hl_r246_37, hl_r246_40, hl_r246_41, hl_r246_42, hl_r246_43, hl_r246_44, hl_r246_47, hl_r246_48, hl_r246_49, hl_r246_50, hl_r246_53, hl_r246_56, hl_r246_59, hl_o_85, hl_p_85_3, hl_p_85_4, hl_p_85_5, hl_p_85_6, hl_p_85_19, hl_p_85_23, hl_p_85_24, hl_p_85_25, hl_p_85_26, hl_p_85_27, hl_p_85_28, hl_p_85_29, hl_p_85_30, hl_p_85_31, hl_p_85_33, hl_p_85_34, hl_p_85_35, hl_p_85_36, hl_p_85_37, hl_a_86, hl_z_86, hl_k0, hl_v0, hm1, n0, k153, hl_tv_t, hl_tv_f, hl_10, not_true, o4, t0, w850, w851, hl_s151, ey, g2', g3, hl_kill_i, hl_kill_r, hl_kill_n, hl_kill_l, hl_tl_s, hl_tl_n, hl_cal_some, hl_gI, hl_gJ, hl_gsI, hl_gsJ, hl_tv01, if_true, if_false, hl_up_a, hl_row_a]
    | true =>
    generalize f 3 = b at *
    obtain ⟨I1, e1, F⟩ := hl_s45 (d := 994) (J := J) hI hN h4 hc1 hs1
    have tm := F.tm
    have cp := hl_cpd_of (I := I1) (a := 8) (b := 83) (n := N)
    have e88 : hl_Run 127 (hl_call 1000) 88 [.ref 0, .int (nI c), .int (nI y), .int b, .null] [.int (nI N), .int 0, .ref 83, .int 0, .ref 8] (hl_g N I1 J) = hl_Run 127 (hl_call 1000) 91 [.ref 0, .int (nI c), .int (nI y), .int b, .null] [] (hl_g N (hl_row I1 83 (va_cpy (I1 8) (I1 83) 0 0 N)) J) := by
      simp only [hl_r127_88, hl_a_8, hl_z_8, hl_a_83, hl_z_83, hl_nn0, hl_nnN (show N < 2 ^ 31 by omega), hl_v0, nIc (show N < 2 ^ 31 by omega), Nat.zero_add, Nat.le_refl, not_false_eq_true, true_or, and_self, hl_gcp]
    generalize hl_row I1 83 (va_cpy (I1 8) (I1 83) 0 0 N) = I2 at cp e88
    obtain ⟨cp1, cp2⟩ := cp
    have i00 : I2 0 0 = nI W := by rw [cp1 0 (by decide), tm.1 0 (by omega)]; exact w00
    obtain ⟨I3, e3, f3, k3⟩ := hl_l127 (d := 999) (J := J) (tw := c) (y := y) (b := b) w6 hNe hN hy hc (I2 83) W I2 0 (by omega) i00 rfl
    rw [show nI 0 = 0 from rfl] at e3
    have w8 : I3 8 = I1 8 := by rw [f3 8 (by decide), cp1 8 (by decide)]
    have tm3 : hl_Tm I1 I3 := ⟨fun b hb => by rw [f3 b (by omega), cp1 b (by omega)], by rw [f3 66 (by decide), cp1 66 (by decide)], fun k _ => by rw [f3 85 (by decide), cp1 85 (by decide)], fun b h1 h2 => by rw [f3 b (by omega), cp1 b (by omega)]⟩
    have tm13 := hl_Tm_tr tm tm3
    have hCo := hl_Co_t hI.co tm13
    have S86 : ∀ j, hl_Sv I3 86 j = hl_Sv I 86 j := fun j => by unfold hl_Sv; rw [tm13.2.2.2 86 (by omega) (by omega)]
    have hs2 : hl_Sv I3 86 0 = (nh : Int) := (S86 0).trans hs1
    have ts2 : hl_Sv I3 86 1 = (cn : Int) := (S86 1).trans ts1
    have e64 : I3 64 = I1 64 := by rw [f3 64 (by decide), cp1 64 (by decide)]
    have e65 : I3 65 = I1 65 := by rw [f3 65 (by decide), cp1 65 (by decide)]
    have hF3 : ∀ c k, c < N → k < nh → I3 64 (4 * c + k) = hl_pay I3 c k := fun c k hc hk => by
      rw [e64, (F.2 c hc).2 k hk, (tm13.pd c).pay]
    have hg := hCo.hg hN hs2 (by omega)
    -- the row of trial
    have k3' : I3 83 = hl_pul (I2 83) (I3 8 c) W y b W := by rw [k3, f3 8 (by decide)]
    have h83 : ∀ q, q < N → I3 83 q = hl_pul (I3 8) (I3 8 c) W y b W q := fun q hq => by
      rw [k3']
      exact hl_pul_congr (N := N) (fun z hz => by rw [cp2 z hz, w8]) W q hq
    have hgp : hl_hg N nh (hl_pul (I3 8) (I3 8 c) W y b W) := fun q hq => by
      rcases hl_pul_or (I3 8) (I3 8 c) W y b W q with z | z
      · rw [z]; exact hg q hq
      · rw [z]; exact hg c hc
    have hg83 : hl_hg N nh (I3 83) := fun q hq => by rw [h83 q hq]; exact hgp q hq
    have P1 := hl_s142 (d := 997) (J := J) hCo hF3 hN h4 ts2 hl_a_8 hl_z_8 hg
    have P2 := hl_s142 (d := 997) (J := J) hCo hF3 hN h4 ts2 hl_a_83 hl_z_83 hg83
    rw [hCo.pc_congr2 hN ts2 h83] at P2
    -- the reference's
    obtain ⟨I4, e4, f4, k4⟩ := hl_s212 (d := 998) (I := I3) (J := J) hN hCo.mM
    have tm4 := hl_Tm_94 f4
    have h94 : ∀ q, q < N → I4 94 q = I3 8 q := fun q hq => by rw [k4 q hq, show I3 8 q = I3 86 (30 + 7 * q + 6) from hCo.2.1.1.cell (i := 6) hN hq (by omega)]
    obtain ⟨I5, J5, e5, r5, j5⟩ := hl_s215 (d := 992) (J := J) hCo tm4.vw hN hs2 h4 ts2 hg h94
    have tm5 := hl_Tm_tr tm4 r5.tm
    have h94' : ∀ q, q < N → I5 94 q = I3 8 q := fun q hq => by rw [r5 94 (by decide) (by decide)]; exact h94 q hq
    obtain ⟨I6, e6, f6, k6⟩ := hl_l246 (d := 999) (J := J5) (tw := c) (y := y) (b := b) (pr := hl_pc N cn I3 (I3 8)) (t := I3 8 c) w6 hNe hN hy hc (I5 94) W I5 0 (by omega) (by rw [tm5.2.2.1 0 (by omega)]; exact hCo.1.2.1.1) (by rw [tm5.2.2.2 86 (by omega) (by omega)]; exact (hCo.2.1.1.cell (i := 6) hN hc (by omega)).symm) rfl
    rw [show nI 0 = 0 from rfl] at e6
    have tm6 := hl_Tm_tr tm5 (hl_Tm_94 f6)
    have h94'' : ∀ q, q < N → I6 94 q = hl_pul (I3 8) (I3 8 c) W y b W q := fun q hq => by
      rw [k6]
      exact hl_pul_congr (N := N) h94' W q hq
    obtain ⟨I7, J7, e7, r7, j7⟩ := hl_s215 (d := 992) (J := J5) hCo tm6.vw hN hs2 h4 ts2 hgp h94''
    have tm7 := hl_Tm_tr tm6 r7.tm
    refine ⟨hl_pc N cn I3 (I3 8) - hl_pc N cn I3 (hl_pul (I3 8) (I3 8 c) W y b W), I3, J, I7, J7, ?_, ?_, tm13, hl_Pu_t (F.pu hs1) tm3 e64 e65, tm7, ?_, ?_⟩
    · rw [hl_e127 (d := 1000)]
      have i02 : I1 0 2 = nI N := by rw [tm.1 0 (by omega)]; exact hI.cM
      simp only [hl_r127_0, hl_r127_1, hl_r127_4, hl_r127_7, hl_r127_10, hl_r127_11, hl_r127_12, hl_r127_15, hl_r127_18, hl_r127_19, hl_r127_22, hl_r127_25, hl_r127_26, hl_r127_27, hl_r127_30, hl_r127_31, hl_r127_32, hl_r127_33, hl_r127_36, hl_r127_37, hl_r127_38, hl_r127_41, hl_r127_44, hl_r127_45, hl_r127_46, hl_r127_47, hl_r127_48, hl_r127_51, hl_r127_52, hl_r127_53, hl_r127_54, hl_r127_57, hl_r127_64, hl_r127_65, hl_r127_68, hl_r127_71, hl_r127_72, hl_r127_75, hl_r127_78, hl_r127_79, hl_r127_80, hl_r127_83, hl_r127_84, hl_r127_85, hl_o_0, hl_p_0_3, hl_p_0_4, hl_p_0_5, hl_p_0_7, hl_p_0_8, hl_p_0_9, hl_p_0_10, hl_p_0_11, hl_p_0_12, hl_p_0_13, hl_p_0_14, hl_p_0_15, hl_o_1, hl_p_1_0, hl_p_1_1, hl_p_1_2, hl_p_1_3, hl_p_1_4, hl_p_1_5, hl_p_1_6, hl_p_1_7, hl_p_1_9, hl_p_1_14, hl_p_1_15, hl_a_6, hl_z_6, hl_o_63, hl_p_63_0, hl_p_63_1, hl_p_63_2, hl_p_63_3, hc1, n0, k138, hl_tv_t, hl_10, not_false_eq_true, bc, nIc (show c < 2 ^ 31 by omega), t0, w00, w01, hl_s147, ey, g2', g3, e1, i02, hl_tl_n, hl_kill_i, hl_kill_r, hl_kill_n, hl_kill_l, hl_tl_s, hl_tl_n, hl_cal_some, hl_gI, hl_gJ, hl_gsI, hl_gsJ, hl_tv01, if_true, if_false, hl_up_a, hl_row_a]
      rw [e88, hl_r127_91, hl_r127_92, hl_kill_i, e3]
      simp only [hl_r127_141, hl_r127_142, hl_r127_143, hl_r127_146, hl_r127_149, hl_r127_152, hl_r127_153, hl_r127_154, hl_r127_157, hl_r127_160, hl_r127_161, hl_o_0, hl_p_0_3, hl_p_0_4, hl_p_0_5, hl_p_0_7, hl_p_0_8, hl_p_0_9, hl_p_0_10, hl_p_0_11, hl_p_0_12, hl_p_0_13, hl_p_0_14, hl_p_0_15, hl_o_1, hl_p_1_0, hl_p_1_1, hl_p_1_2, hl_p_1_3, hl_p_1_4, hl_p_1_5, hl_p_1_6, hl_p_1_7, hl_p_1_9, hl_p_1_14, hl_p_1_15, P1, P2, hl_kill_i, hl_kill_r, hl_kill_n, hl_kill_l, hl_tl_s, hl_tl_n, hl_cal_some, hl_gI, hl_gJ, hl_gsI, hl_gsJ, hl_tv01, if_true, if_false, hl_up_a, hl_row_a]
    · rw [hl_e246 (d := 1000)]
      have em1 : I3 86 0 = nI nh := by rw [tm13.2.2.2 86 (by omega) (by omega)]; exact hm1
      have k153' := hl_s153 (d := 998) (I := I3) (J := J) (x := nI c) hCo.mM (by omega)
      rw [g1] at k153'
      have o4' := hl_of4 (d := 999) (N := N) (I := I3) (J := J) (show c < 24 by omega)
      rw [← show I3 6 c = I3 86 (30 + 7 * c + 4) from hCo.2.1.1.cell (i := 4) hN hc (by omega), tm13.1 6 (by omega)] at o4'
      have x850 : I3 85 0 = nI W := hCo.1.2.1.1
      have x851 : I3 85 1 = nI H := hCo.1.2.1.2.1
      simp only [hl_r246_0, hl_r246_1, hl_r246_4, hl_r246_5, hl_r246_6, hl_r246_9, hl_r246_10, hl_r246_11, hl_r246_14, hl_r246_17, hl_r246_18, hl_r246_19, hl_r246_20, hl_r246_23, hl_r246_26, hl_r246_27, hl_r246_28, hl_r246_29, hl_r246_32, hl_r246_33, hl_r246_34, hl_r246_37, hl_r246_40, hl_r246_41, hl_r246_42, hl_r246_43, hl_r246_44, hl_r246_47, hl_r246_48, hl_r246_49, hl_r246_50, hl_r246_53, hl_r246_60, hl_r246_61, hl_r246_64, hl_r246_65, hl_r246_68, hl_r246_70, hl_r246_71, hl_o_85, hl_p_85_3, hl_p_85_4, hl_p_85_5, hl_p_85_6, hl_p_85_19, hl_p_85_23, hl_p_85_24, hl_p_85_25, hl_p_85_26, hl_p_85_27, hl_p_85_28, hl_p_85_29, hl_p_85_30, hl_p_85_31, hl_p_85_33, hl_p_85_34, hl_p_85_35, hl_p_85_36, hl_p_85_37, hl_a_86, hl_z_86, hl_k0, hl_v0, em1, n0, k153', hl_tv_t, hl_10, not_false_eq_true, o4', t0, x850, x851, hl_s151, ey, g2', g3, e4, e5, hl_tl_n, hl_kill_i, hl_kill_r, hl_kill_n, hl_kill_l, hl_tl_s, hl_tl_n, hl_cal_some, hl_gI, hl_gJ, hl_gsI, hl_gsJ, hl_tv01, if_true, if_false, hl_up_a, hl_row_a]
      rw [e6]
      simp only [hl_r246_119, hl_r246_121, hl_r246_122, hl_r246_125, hl_r246_126, hl_o_85, hl_p_85_3, hl_p_85_4, hl_p_85_5, hl_p_85_6, hl_p_85_19, hl_p_85_23, hl_p_85_24, hl_p_85_25, hl_p_85_26, hl_p_85_27, hl_p_85_28, hl_p_85_29, hl_p_85_30, hl_p_85_31, hl_p_85_33, hl_p_85_34, hl_p_85_35, hl_p_85_36, hl_p_85_37, e7, hl_kill_i, hl_kill_r, hl_kill_n, hl_kill_l, hl_tl_s, hl_tl_n, hl_cal_some, hl_gI, hl_gJ, hl_gsI, hl_gsJ, hl_tv01, if_true, if_false, hl_up_a, hl_row_a]
    · rw [r7 64 (by decide) (by decide), f6 64 (by decide), r5 64 (by decide) (by decide), f4 64 (by decide)]
    · rw [r7 65 (by decide) (by decide), f6 65 (by decide), r5 65 (by decide) (by decide), f4 65 (by decide)]
end HLPULL
