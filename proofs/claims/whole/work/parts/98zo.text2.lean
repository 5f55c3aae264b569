/-! text: the class's and the reference's method -/
section HXTEXT2
variable {d E N L p n a m nn T : Nat} {I I' : Nat → Nat → Int32} {J : Nat → Nat → Int64} {t : Nat → Nat} {A : List (Nat × Nat × List (Nat × Nat))}
theorem hx_o43 (hT : T < 4) : va_rf (hl_P (hl_g N I J) 43 T) = .ref (44 + 4 * T) := by
  match T, hT with
  | 0, _ => rfl
  | 1, _ => rfl
  | 2, _ => rfl
  | 3, _ => rfl
  | T + 4, h => omega
theorem hx_s114a (hE : 72 ≤ E) (hT : T < 4) (h12 : I 1 12 = nI T) (hL : L ≤ 300) (h6 : I 0 6 = nI L) (ht : ∀ k, k < 300 → I 37 k = nI (t k) ∧ t k ≤ 255) (h0 : (hx_txt t L 300 0 0 0 []).1 = 0) : ∃ I1 I' m' n', hl_call (E + 19) 114 [.ref 0] (hl_g N I J) = some (some (.int (nI T)), hl_g N I' J) ∧ hx_KX t L m' (hx_txt t L 300 0 0 0 []).2.1 n' (hx_txt t L 300 0 0 0 []).2.2 I1 ∧ hx_fG I I1 ∧ (∀ k, k < 300 → I' (45 + 4 * T) k = I1 40 k) ∧ (∀ k, k < 3 → I' (46 + 4 * T) k = I1 41 k ∧ I' (47 + 4 * T) k = I1 42 k) ∧ I' 0 6 = 0 ∧ I' 1 12 = nI (T + 1) ∧ (∀ k, k ≠ 6 → I' 0 k = I1 0 k) ∧ (∀ k, k ≠ 12 → I' 1 k = I1 1 k) ∧ ∀ b, b ≠ 0 → b ≠ 1 → ¬ (44 + 4 * T ≤ b ∧ b ≤ 47 + 4 * T) → I' b = I1 b := by
  obtain ⟨I1, m', n', e1, kx, fg⟩ := (hx_s54 (N := N) (J := J) (t := t) hE hL ht).1 h0
  obtain ⟨I2, e2, a1, a2, a3⟩ := hx_s74 (d := E + 17) (N := N) (I := hl_up I1 0 6 0) (J := J) hT
  have e2' : hl_call (E + 18) 74 [.ref (44 + 4 * T), .ref 39] (hl_g N (hl_up I1 0 6 0) J) = some (none, hl_g N I2 J) := e2
  have lt : nI T < (4 : Int32) := (nI_lt hT (by omega) : _ < nI 4)
  have b4 : hl_inb (nI T) 4 = true := hl_inb_nI hT (by omega)
  have cq : (nI T).toNatClampNeg = T := hl_cq (by omega)
  have g7 : I1 38 7 = 0 := kx.1.2.2.1
  have g12 : I1 1 12 = nI T := by rw [fg 1 (by omega)]; exact h12
  have k12 : I2 1 12 = nI T := by rw [a3 1 (by omega), hl_up_ne _ _ _ (by omega)]; exact g12
  have en : nI T + 1 = nI (T + 1) := (nI_succ T).symm
  have ep : nI (T + 1) - 1 = nI T := nI_pred T
  have ob := fun I => (hl_txo (N := N) (I := I) (J := J) hT).1
  have o43 := fun I => hx_o43 (N := N) (I := I) (J := J) hT
  have u7 : hl_up I1 0 6 0 38 7 = 0 := by rw [hl_up_ne _ _ _ (by omega)]; exact g7
  have u12 : hl_up I1 0 6 0 1 12 = nI T := by rw [hl_up_ne _ _ _ (by omega)]; exact g12
  have w12 : hl_up I2 1 12 (nI (T + 1)) 1 12 = nI (T + 1) := hl_up_at
  refine ⟨I1, hl_up I2 1 12 (nI (T + 1)), m', n', ?_, kx, fg, fun k hk => ?_, fun k hk => ⟨?_, ?_⟩, ?_, hl_up_at, fun k hk => ?_, fun k hk => ?_, fun b b0 b1 hb => ?_⟩
  · rw [hl_e114]
    simp only [hl_r114_0, hl_r114_1, hl_r114_4, hl_r114_7, hl_r114_8, hl_r114_11, hl_r114_12, hl_r114_13, hl_r114_14, hl_r114_17, hl_r114_18, hl_r114_21, hl_r114_24, hl_r114_25, hl_r114_26, hl_r114_29, hl_r114_30, hl_r114_33, hl_r114_36, hl_r114_39, hl_r114_40, hl_r114_41, hl_r114_42, hl_r114_45, hl_r114_46, hl_r114_49, hl_r114_52, hl_r114_53, hl_r114_54, hl_r114_57, hl_r114_60, hl_r114_63, hl_r114_64, hl_r114_67, hl_r114_68, hl_r114_71, hl_r114_72, hl_r114_73, hl_r114_76, hl_r114_77, hl_r114_80, hl_r114_83, hl_r114_84, hl_r114_85, hl_o_0, hl_p_0_3, hl_p_0_4, hl_p_0_5, hl_p_0_7, hl_p_0_8, hl_p_0_9, hl_p_0_10, hl_p_0_11, hl_p_0_12, hl_p_0_13, hl_p_0_14, hl_p_0_15, hl_o_1, hl_p_1_0, hl_p_1_1, hl_p_1_2, hl_p_1_3, hl_p_1_4, hl_p_1_5, hl_p_1_6, hl_p_1_7, hl_p_1_9, hl_p_1_14, hl_p_1_15, hl_o_38, hl_p_38_0, hl_p_38_1, hl_a_43, hl_z_43, hl_p_43_0, hl_p_43_1, hl_p_43_2, hl_p_43_3, h12, lt, h6, e1, u7, u12, b4, cq, o43, ob, e2', k12, en, w12, ep, hl_tl_n, hl_kill_i, hl_kill_r, hl_kill_n, hl_kill_l, hl_tl_s, hl_tl_n, hl_cal_some, hl_gI, hl_gJ, hl_gsI, hl_gsJ, hl_tv01, if_true, if_false, not_true, not_false_eq_true, hl_10, or_true, true_or]
  · rw [hl_up_ne _ _ _ (by omega), a1 k hk, hl_up_ne _ _ _ (by omega)]
  · rw [hl_up_ne _ _ _ (by omega), (a2 k hk).1, hl_up_ne _ _ _ (by omega)]
  · rw [hl_up_ne _ _ _ (by omega), (a2 k hk).2, hl_up_ne _ _ _ (by omega)]
  · rw [hl_up_ne _ _ _ (by omega), a3 0 (by omega)]; exact hl_up_at
  · rw [hl_up_ne _ _ _ (by omega), a3 0 (by omega), hl_up_a, if_pos rfl, if_neg hk]
  · rw [hl_up_a, if_pos rfl, if_neg hk, a3 1 (by omega), hl_up_ne _ _ _ (by omega)]
  · rw [hl_up_ne _ _ _ b1, a3 b hb, hl_up_ne _ _ _ b0]
theorem hx_s114b (hE : 72 ≤ E) (hT : T < 4) (h12 : I 1 12 = nI T) (hL : L ≤ 300) (h6 : I 0 6 = nI L) (ht : ∀ k, k < 300 → I 37 k = nI (t k) ∧ t k ≤ 255) (h0 : (hx_txt t L 300 0 0 0 []).1 ≠ 0) : ∃ I1, hl_call (E + 19) 114 [.ref 0] (hl_g N I J) = some (some (.int (-1)), hl_g N (hl_up I1 0 6 0) J) ∧ hx_CF t L (hx_txt t L 300 0 0 0 []).1 (hx_txt t L 300 0 0 0 []).2.1 I1 ∧ hx_fG I I1 := by
  obtain ⟨I1, e1, cf, fg⟩ := (hx_s54 (N := N) (J := J) (t := t) hE hL ht).2 h0
  have lt : nI T < (4 : Int32) := (nI_lt hT (by omega) : _ < nI 4)
  have f0 : ¬ nI (hx_txt t L 300 0 0 0 []).1 = 0 := nI_ne0 (by have := cf.2.1; omega) (by have := cf.2.1; omega)
  have u7 : hl_up I1 0 6 0 38 7 = nI (hx_txt t L 300 0 0 0 []).1 := by rw [hl_up_ne _ _ _ (by omega)]; exact cf.2.2.1
  refine ⟨I1, ?_, cf, fg⟩
  rw [hl_e114]
  simp only [hl_r114_0, hl_r114_1, hl_r114_4, hl_r114_7, hl_r114_8, hl_r114_11, hl_r114_12, hl_r114_13, hl_r114_14, hl_r114_17, hl_r114_18, hl_r114_21, hl_r114_24, hl_r114_25, hl_r114_26, hl_r114_29, hl_r114_30, hl_r114_33, hl_r114_36, hl_r114_39, hl_r114_40, hl_r114_41, hl_r114_42, hl_r114_45, hl_r114_46, hl_r114_49, hl_r114_52, hl_r114_53, hl_r114_54, hl_r114_57, hl_r114_60, hl_r114_63, hl_r114_64, hl_r114_67, hl_r114_68, hl_r114_71, hl_r114_72, hl_r114_73, hl_r114_76, hl_r114_77, hl_r114_80, hl_r114_83, hl_r114_84, hl_r114_85, hl_o_0, hl_p_0_3, hl_p_0_4, hl_p_0_5, hl_p_0_7, hl_p_0_8, hl_p_0_9, hl_p_0_10, hl_p_0_11, hl_p_0_12, hl_p_0_13, hl_p_0_14, hl_p_0_15, hl_o_1, hl_p_1_0, hl_p_1_1, hl_p_1_2, hl_p_1_3, hl_p_1_4, hl_p_1_5, hl_p_1_6, hl_p_1_7, hl_p_1_9, hl_p_1_14, hl_p_1_15, hl_o_38, hl_p_38_0, hl_p_38_1, hl_a_43, hl_z_43, hl_p_43_0, hl_p_43_1, hl_p_43_2, hl_p_43_3, h12, lt, h6, e1, u7, f0, hl_tl_n, hl_kill_i, hl_kill_r, hl_kill_n, hl_kill_l, hl_tl_s, hl_tl_n, hl_cal_some, hl_gI, hl_gJ, hl_gsI, hl_gsJ, hl_tv01, if_true, if_false, not_true, not_false_eq_true, hl_10, or_true, true_or]
theorem hx_s114c (h12 : I 1 12 = 4) : hl_call (d + 1) 114 [.ref 0] (hl_g N I J) = some (some (.int (-1)), hl_g N I J) := by
  have lt : ¬ (4 : Int32) < 4 := by decide
  rw [hl_e114]
  simp only [hl_r114_0, hl_r114_1, hl_r114_4, hl_r114_7, hl_r114_8, hl_r114_11, hl_r114_12, hl_r114_13, hl_r114_14, hl_r114_17, hl_r114_18, hl_r114_21, hl_r114_24, hl_r114_25, hl_r114_26, hl_r114_29, hl_r114_30, hl_r114_33, hl_r114_36, hl_r114_39, hl_r114_40, hl_r114_41, hl_r114_42, hl_r114_45, hl_r114_46, hl_r114_49, hl_r114_52, hl_r114_53, hl_r114_54, hl_r114_57, hl_r114_60, hl_r114_63, hl_r114_64, hl_r114_67, hl_r114_68, hl_r114_71, hl_r114_72, hl_r114_73, hl_r114_76, hl_r114_77, hl_r114_80, hl_r114_83, hl_r114_84, hl_r114_85, hl_o_0, hl_p_0_3, hl_p_0_4, hl_p_0_5, hl_p_0_7, hl_p_0_8, hl_p_0_9, hl_p_0_10, hl_p_0_11, hl_p_0_12, hl_p_0_13, hl_p_0_14, hl_p_0_15, hl_o_1, hl_p_1_0, hl_p_1_1, hl_p_1_2, hl_p_1_3, hl_p_1_4, hl_p_1_5, hl_p_1_6, hl_p_1_7, hl_p_1_9, hl_p_1_14, hl_p_1_15, h12, lt, hl_kill_i, hl_kill_r, hl_kill_n, hl_kill_l, hl_tl_s, hl_tl_n, hl_cal_some, hl_gI, hl_gJ, hl_gsI, hl_gsJ, hl_tv01, if_true, if_false, not_true, not_false_eq_true, hl_10, or_true, true_or]
/-- the reference's -/
theorem hx_s196a (hT : T < 4) (h2 : I 86 2 = nI T) (TQ : hx_TQ t L I) (h0 : (hx_txt t L 300 0 0 0 []).1 = 0) : ∃ I1 I' J' m' C', hl_call (d + 9) 196 [.ref 85] (hl_g N I J) = some (some (.int (nI T)), hl_g N I' J') ∧ hx_RX t L (800 * T) m' (hx_txt t L 300 0 0 0 []).2.1 C' (hx_txt t L 300 0 0 0 []).2.2 I1 J' ∧ hx_fX (800 * T) I I1 ∧ I' 85 7 = 0 ∧ I' 85 8 = 0 ∧ I' 85 9 = -1 ∧ (∀ k, k < 7 → I' 85 k = I1 85 k) ∧ I' 86 2 = nI (T + 1) ∧ (∀ k, k ≠ 2 → I' 86 k = I1 86 k) ∧ ∀ b, b ≠ 85 → b ≠ 86 → I' b = I1 b := by
  obtain ⟨I1, J1, m', C', e1, rx, fx, gj⟩ := (hx_s195 (d := d) (N := N) (J := J) hT TQ h2).1 h0
  have n4 : (nI T = (4 : Int32)) = False := eq_false (fun y => by have := (nI_eq (b := 4) (by omega) (by omega)).mp y; omega)
  have en : nI T + 1 = nI (T + 1) := (nI_succ T).symm
  have ep : nI (T + 1) - 1 = nI T := nI_pred T
  have r86 : hl_up (hl_up (hl_up I1 85 8 0) 85 9 (-1)) 85 7 0 86 2 = nI T := by
    rw [hl_up_ne _ _ _ (by omega), hl_up_ne _ _ _ (by omega), hl_up_ne _ _ _ (by omega), fx.1 86 (by omega) (by omega) (by omega)]
    exact h2
  have u8 : hl_up I1 85 8 0 85 8 = 0 := hl_up_at
  have v8 : hl_up (hl_up (hl_up I1 85 8 0) 85 9 (-1)) 85 7 0 85 8 = 0 := by rw [hl_up_a, if_pos rfl, if_neg (by omega), hl_up_a, if_pos rfl, if_neg (by omega)]; exact hl_up_at
  have w2 : hl_up (hl_up (hl_up (hl_up I1 85 8 0) 85 9 (-1)) 85 7 0) 86 2 (nI (T + 1)) 86 2 = nI (T + 1) := hl_up_at
  refine ⟨I1, hl_up (hl_up (hl_up (hl_up I1 85 8 0) 85 9 (-1)) 85 7 0) 86 2 (nI (T + 1)), J1, m', C', ?_, rx, fx, ?_, ?_, ?_, fun k hk => ?_, hl_up_at, fun k hk => ?_, fun b b1 b2 => ?_⟩
  · rw [hl_e196]
    simp only [hl_r196_0, hl_r196_1, hl_r196_4, hl_r196_5, hl_r196_6, hl_r196_7, hl_r196_10, hl_r196_11, hl_r196_12, hl_r196_13, hl_r196_14, hl_r196_17, hl_r196_20, hl_r196_21, hl_r196_22, hl_r196_25, hl_r196_28, hl_r196_29, hl_r196_32, hl_r196_33, hl_r196_36, hl_r196_39, hl_r196_40, hl_r196_41, hl_r196_44, hl_r196_45, hl_r196_48, hl_r196_51, hl_r196_52, hl_r196_53, hl_r196_54, hl_r196_57, hl_r196_58, hl_r196_59, hl_r196_60, hl_r196_61, hl_r196_62, hl_r196_63, hl_r196_64, hl_r196_67, hl_r196_68, hl_r196_69, hl_r196_70, hl_r196_71, hl_o_85, hl_p_85_3, hl_p_85_4, hl_p_85_5, hl_p_85_6, hl_p_85_19, hl_p_85_23, hl_p_85_24, hl_p_85_25, hl_p_85_26, hl_p_85_27, hl_p_85_28, hl_p_85_29, hl_p_85_30, hl_p_85_31, hl_p_85_33, hl_p_85_34, hl_p_85_35, hl_p_85_36, hl_p_85_37, hl_a_86, hl_z_86, h2, n4, e1, u8, v8, r86, w2, en, ep, hl_k2, hl_v2, hl_tl_s, hl_kill_i, hl_kill_r, hl_kill_n, hl_kill_l, hl_tl_s, hl_tl_n, hl_cal_some, hl_gI, hl_gJ, hl_gsI, hl_gsJ, hl_tv01, if_true, if_false, not_true, not_false_eq_true, hl_10, or_true, true_or]
  · rw [hl_up_ne _ _ _ (by omega)]; exact hl_up_at
  · rw [hl_up_ne _ _ _ (by omega)]; exact v8
  · rw [hl_up_ne _ _ _ (by omega), hl_up_a, if_pos rfl, if_neg (by omega)]; exact hl_up_at
  · rw [hl_up_ne _ _ _ (by omega), hl_up_a, if_pos rfl, if_neg (by omega), hl_up_a, if_pos rfl, if_neg (by omega), hl_up_a, if_pos rfl, if_neg (by omega)]
  · rw [hl_up_a, if_pos rfl, if_neg hk, hl_up_ne _ _ _ (by omega), hl_up_ne _ _ _ (by omega), hl_up_ne _ _ _ (by omega)]
  · rw [hl_up_ne _ _ _ b2, hl_up_ne _ _ _ b1, hl_up_ne _ _ _ b1, hl_up_ne _ _ _ b1]
theorem hx_s196b (hT : T < 4) (h2 : I 86 2 = nI T) (TQ : hx_TQ t L I) (h0 : (hx_txt t L 300 0 0 0 []).1 ≠ 0) (h4 : (hx_txt t L 300 0 0 0 []).1 ≤ 10) : ∃ I1 I' J', hl_call (d + 9) 196 [.ref 85] (hl_g N I J) = some (some (.int (-1)), hl_g N I' J') ∧ hx_fX (800 * T) I I1 ∧ I' 85 7 = 0 ∧ I' 85 8 = nI (hx_txt t L 300 0 0 0 []).1 ∧ I' 85 9 = nI (hx_txt t L 300 0 0 0 []).2.1 ∧ (∀ k, k < 7 → I' 85 k = I1 85 k) ∧ ∀ b, b ≠ 85 → I' b = I1 b := by
  obtain ⟨I1, J1, e1, s11, fx, gj⟩ := (hx_s195 (d := d) (N := N) (J := J) hT TQ h2).2 h0
  have n4 : (nI T = (4 : Int32)) = False := eq_false (fun y => by have := (nI_eq (b := 4) (by omega) (by omega)).mp y; omega)
  have f0 : ¬ nI (hx_txt t L 300 0 0 0 []).1 = 0 := nI_ne0 (by omega) (by omega)
  have u8 : hl_up I1 85 8 (nI (hx_txt t L 300 0 0 0 []).1) 85 8 = nI (hx_txt t L 300 0 0 0 []).1 := hl_up_at
  have u11 : hl_up I1 85 8 (nI (hx_txt t L 300 0 0 0 []).1) 85 11 = nI (hx_txt t L 300 0 0 0 []).2.1 := by rw [hl_up_a, if_pos rfl, if_neg (by omega)]; exact s11
  have v8 : hl_up (hl_up (hl_up I1 85 8 (nI (hx_txt t L 300 0 0 0 []).1)) 85 9 (nI (hx_txt t L 300 0 0 0 []).2.1)) 85 7 0 85 8 = nI (hx_txt t L 300 0 0 0 []).1 := by rw [hl_up_a, if_pos rfl, if_neg (by omega), hl_up_a, if_pos rfl, if_neg (by omega)]; exact hl_up_at
  refine ⟨I1, hl_up (hl_up (hl_up I1 85 8 (nI (hx_txt t L 300 0 0 0 []).1)) 85 9 (nI (hx_txt t L 300 0 0 0 []).2.1)) 85 7 0, J1, ?_, fx, hl_up_at, v8, ?_, fun k hk => ?_, fun b b1 => ?_⟩
  · rw [hl_e196]
    simp only [hl_r196_0, hl_r196_1, hl_r196_4, hl_r196_5, hl_r196_6, hl_r196_7, hl_r196_10, hl_r196_11, hl_r196_12, hl_r196_13, hl_r196_14, hl_r196_17, hl_r196_20, hl_r196_21, hl_r196_22, hl_r196_25, hl_r196_28, hl_r196_29, hl_r196_32, hl_r196_33, hl_r196_36, hl_r196_39, hl_r196_40, hl_r196_41, hl_r196_44, hl_r196_45, hl_r196_48, hl_r196_51, hl_r196_52, hl_r196_53, hl_r196_54, hl_r196_57, hl_r196_58, hl_r196_59, hl_r196_60, hl_r196_61, hl_r196_62, hl_r196_63, hl_r196_64, hl_r196_67, hl_r196_68, hl_r196_69, hl_r196_70, hl_r196_71, hl_o_85, hl_p_85_3, hl_p_85_4, hl_p_85_5, hl_p_85_6, hl_p_85_19, hl_p_85_23, hl_p_85_24, hl_p_85_25, hl_p_85_26, hl_p_85_27, hl_p_85_28, hl_p_85_29, hl_p_85_30, hl_p_85_31, hl_p_85_33, hl_p_85_34, hl_p_85_35, hl_p_85_36, hl_p_85_37, hl_a_86, hl_z_86, h2, n4, e1, u8, u11, v8, f0, hl_k2, hl_v2, hl_tl_s, hl_kill_i, hl_kill_r, hl_kill_n, hl_kill_l, hl_tl_s, hl_tl_n, hl_cal_some, hl_gI, hl_gJ, hl_gsI, hl_gsJ, hl_tv01, if_true, if_false, not_true, not_false_eq_true, hl_10, or_true, true_or]
  · rw [hl_up_a, if_pos rfl, if_neg (by omega)]; exact hl_up_at
  · rw [hl_up_a, if_pos rfl, if_neg (by omega), hl_up_a, if_pos rfl, if_neg (by omega), hl_up_a, if_pos rfl, if_neg (by omega)]
  · rw [hl_up_ne _ _ _ b1, hl_up_ne _ _ _ b1, hl_up_ne _ _ _ b1]
theorem hx_s196c (h2 : I 86 2 = 4) : hl_call (d + 1) 196 [.ref 85] (hl_g N I J) = some (some (.int (-1)), hl_g N I J) := by
  rw [hl_e196]
  simp only [hl_r196_0, hl_r196_1, hl_r196_4, hl_r196_5, hl_r196_6, hl_r196_7, hl_r196_10, hl_r196_11, hl_r196_12, hl_r196_13, hl_r196_14, hl_r196_17, hl_r196_20, hl_r196_21, hl_r196_22, hl_r196_25, hl_r196_28, hl_r196_29, hl_r196_32, hl_r196_33, hl_r196_36, hl_r196_39, hl_r196_40, hl_r196_41, hl_r196_44, hl_r196_45, hl_r196_48, hl_r196_51, hl_r196_52, hl_r196_53, hl_r196_54, hl_r196_57, hl_r196_58, hl_r196_59, hl_r196_60, hl_r196_61, hl_r196_62, hl_r196_63, hl_r196_64, hl_r196_67, hl_r196_68, hl_r196_69, hl_r196_70, hl_r196_71, hl_o_85, hl_p_85_3, hl_p_85_4, hl_p_85_5, hl_p_85_6, hl_p_85_19, hl_p_85_23, hl_p_85_24, hl_p_85_25, hl_p_85_26, hl_p_85_27, hl_p_85_28, hl_p_85_29, hl_p_85_30, hl_p_85_31, hl_p_85_33, hl_p_85_34, hl_p_85_35, hl_p_85_36, hl_p_85_37, hl_a_86, hl_z_86, h2, hl_k2, hl_v2, hl_kill_i, hl_kill_r, hl_kill_n, hl_kill_l, hl_tl_s, hl_tl_n, hl_cal_some, hl_gI, hl_gJ, hl_gsI, hl_gsJ, hl_tv01, if_true, if_false, not_true, not_false_eq_true, hl_10, or_true, true_or]
end HXTEXT2
