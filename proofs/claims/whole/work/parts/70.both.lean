/-! both -/
/-- the cell across a tie -/
def hl_acr (I : Nat → Nat → Int32) (k c : Nat) : Int32 := if I 12 k = nI c then I 13 k else if I 13 k = nI c then I 12 k else -1
def hl_mx (x y : Int32) : Int32 := if x < y then y else x
def hl_mi (x y : Int32) : Int32 := if y < x then y else x
def hl_sp (I : Nat → Nat → Int32) (g : Nat → Int32) (p c k : Nat) : Int32 := if hl_acr I k c = -1 then 0 else I 14 k * (hl_abs (I 9 p - I 9 (g (hl_acr I k c).toNatClampNeg).toNatClampNeg) - hl_mi (hl_abs (I 9 p - I 9 (g (hl_acr I k c).toNatClampNeg).toNatClampNeg)) (hl_abs (I 9 (p + 1) - I 9 (g (hl_acr I k c).toNatClampNeg).toNatClampNeg)))
theorem hl_mi_le {x y : Int32} : hl_mi x y = if y ≤ x then y else x := by
  unfold hl_mi
  by_cases h : y < x
  · rw [if_pos h, if_pos (Int32.le_of_lt h)]
  · rw [if_neg h]
    by_cases h2 : y ≤ x
    · rw [if_pos h2]; exact Int32.le_antisymm (Int32.not_lt.mp h) h2
    · rw [if_neg h2]
theorem hl_mx_le {x y : Int32} : hl_mx x y = if x ≤ y then y else x := by
  unfold hl_mx
  by_cases h : x < y
  · rw [if_pos h, if_pos (Int32.le_of_lt h)]
  · rw [if_neg h]
    by_cases h2 : x ≤ y
    · rw [if_pos h2]; exact Int32.le_antisymm h2 (Int32.not_lt.mp h)
    · rw [if_neg h2]
section HLBOTH
variable {d N W H : Nat} {I Is I' : Nat → Nat → Int32} {J J' : Nat → Nat → Int64} {nh cn : Nat} {g : Nat → Int32}
/-- what is known of the cell across -/
theorem hl_Co.acr (hCo : hl_Co N W H I) (hN : N ≤ 24) (hs1 : hl_Sv I 86 1 = (cn : Int)) {k c : Nat} (hk : k < cn) (hc : c < N) : hl_acr I k c = -1 ∨ ∃ t, t < N ∧ hl_acr I k c = nI t ∧ ¬ nI t = -1 := by
  obtain ⟨a, b, w, a1, b1, -, -, -, ea, eb, -⟩ := hCo.tie hN hs1 hk
  have nm : ∀ t, t < N → ¬ nI t = -1 := fun t ht q => by
    have := congrArg Int32.toInt q
    rw [hl_tI (by omega), show (-1 : Int32).toInt = -1 from rfl] at this
    omega
  unfold hl_acr
  split
  · exact .inr ⟨b, b1, eb, nm b b1⟩
  · split
    · exact .inr ⟨a, a1, ea, nm a a1⟩
    · exact .inl rfl
theorem hl_s84 (hCo : hl_Co N W H I) (hN : N ≤ 24) (hs1 : hl_Sv I 86 1 = (cn : Int)) {k c : Nat} (hk : k < cn) : hl_call (d + 1) 84 [.ref 11, .int (nI k), .int (nI c)] (hl_g N I J) = some (some (.int (hl_acr I k c)), hl_g N I J) := by
  have b40 := hCo.2.1.2.2.1.2
  have b : hl_inb (nI k) 40 = true := hl_inb_nI (by omega) (by omega)
  rw [hl_e84]
  unfold hl_acr
  by_cases h1 : I 12 k = nI c
  · simp only [hl_r84_0, hl_r84_1, hl_r84_4, hl_r84_5, hl_r84_6, hl_r84_7, hl_r84_10, hl_r84_11, hl_r84_14, hl_r84_15, hl_r84_16, hl_r84_17, hl_r84_18, hl_r84_21, hl_r84_22, hl_r84_23, hl_r84_24, hl_r84_27, hl_r84_28, hl_r84_31, hl_r84_32, hl_r84_33, hl_r84_36, hl_r84_37, hl_o_11, hl_p_11_0, hl_p_11_1, hl_p_11_2, hl_a_12, hl_z_12, hl_a_13, hl_z_13, b, nIc (show k < 2 ^ 31 by omega), h1, not_true, hl_kill_i, hl_kill_r, hl_kill_n, hl_kill_l, hl_tl_s, hl_tl_n, hl_cal_some, hl_gI, hl_gJ, hl_gsI, hl_gsJ, hl_tv01, if_true, if_false, hl_up_a, hl_row_a]
  · by_cases h2 : I 13 k = nI c
    · simp only [hl_r84_0, hl_r84_1, hl_r84_4, hl_r84_5, hl_r84_6, hl_r84_7, hl_r84_10, hl_r84_11, hl_r84_14, hl_r84_15, hl_r84_16, hl_r84_17, hl_r84_18, hl_r84_21, hl_r84_22, hl_r84_23, hl_r84_24, hl_r84_27, hl_r84_28, hl_r84_31, hl_r84_32, hl_r84_33, hl_r84_36, hl_r84_37, hl_o_11, hl_p_11_0, hl_p_11_1, hl_p_11_2, hl_a_12, hl_z_12, hl_a_13, hl_z_13, b, nIc (show k < 2 ^ 31 by omega), h1, h2, not_true, not_false_eq_true, hl_kill_i, hl_kill_r, hl_kill_n, hl_kill_l, hl_tl_s, hl_tl_n, hl_cal_some, hl_gI, hl_gJ, hl_gsI, hl_gsJ, hl_tv01, if_true, if_false, hl_up_a, hl_row_a]
    · simp only [hl_r84_0, hl_r84_1, hl_r84_4, hl_r84_5, hl_r84_6, hl_r84_7, hl_r84_10, hl_r84_11, hl_r84_14, hl_r84_15, hl_r84_16, hl_r84_17, hl_r84_18, hl_r84_21, hl_r84_22, hl_r84_23, hl_r84_24, hl_r84_27, hl_r84_28, hl_r84_31, hl_r84_32, hl_r84_33, hl_r84_36, hl_r84_37, hl_o_11, hl_p_11_0, hl_p_11_1, hl_p_11_2, hl_a_12, hl_z_12, hl_a_13, hl_z_13, b, nIc (show k < 2 ^ 31 by omega), h1, h2, not_false_eq_true, hl_kill_i, hl_kill_r, hl_kill_n, hl_kill_l, hl_tl_s, hl_tl_n, hl_cal_some, hl_gI, hl_gJ, hl_gsI, hl_gsJ, hl_tv01, if_true, if_false, hl_up_a, hl_row_a]
theorem hl_s87 {c p : Nat} (hCo : hl_Co N W H I) (hN : N ≤ 24) (hn : nh ≤ 4) (hs1 : hl_Sv I 86 1 = (cn : Int)) (hg : hl_hg N nh (I 8)) (hc : c < N) (hp : I 8 c = nI p) (hp1 : p + 1 < nh) : hl_call (d + 2) 87 [.ref 11, .int (nI c), .ref 8, .ref 9] (hl_g N I J) = some (some (.int (hl_sum cn (hl_sp I (I 8) p c))), hl_g N I J) := by
  obtain ⟨k0, k1, k2, k3, k4⟩ := hCo.cn
  obtain rfl : k0 = cn := by omega
  have e4 : Int32.ofNat 4 = nI 4 := rfl
  have bc : hl_inb (nI c) N = true := hl_inb_nI hc (by omega)
  have bp : hl_inb (nI p) 4 = true := hl_inb_nI (by omega) (by omega)
  have bp1 : hl_inb (nI (p + 1)) 4 = true := hl_inb_nI (by omega) (by omega)
  have ep : nI p + 1 = nI (p + 1) := (nI_succ p).symm
  have lp : nI (p + 1) < nI 4 := nI_lt (by omega) (by omega)
  have loop : ∀ f i (l7 l8 l9 : Value), i + f = k0 → hl_Run 87 (hl_call (d + 1)) 22 [.ref 11, .int (nI c), .ref 8, .ref 9, .int (nI p), .int (hl_sum i (hl_sp I (I 8) p c)), .int (nI i), l7, l8, l9] [] (hl_g N I J) = some (some (.int (hl_sum k0 (hl_sp I (I 8) p c))), hl_g N I J) := by
    intro f
    induction f with
    | zero =>
      intro i l7 l8 l9 hi
      obtain rfl : i = k0 := by omega
      simp only [hl_r87_22, hl_r87_24, hl_r87_25, hl_r87_28, hl_r87_109, hl_r87_111, hl_o_11, hl_p_11_0, hl_p_11_1, hl_p_11_2, k2, Int32.le_refl, hl_kill_i, hl_kill_r, hl_kill_n, hl_kill_l, hl_tl_s, hl_tl_n, hl_cal_some, hl_gI, hl_gJ, hl_gsI, hl_gsJ, hl_tv01, if_true, if_false, hl_up_a, hl_row_a]
    | succ f ih =>
      intro i l7 l8 l9 hi
      have c1 : ¬ nI k0 ≤ nI i := nI_ge (by omega) (by omega)
      have en : nI i + 1 = nI (i + 1) := (nI_succ i).symm
      have b : hl_inb (nI i) 40 = true := hl_inb_nI (by omega) (by omega)
      have e84 := hl_s84 (d := d) (J := J) (c := c) hCo hN hs1 (show i < k0 by omega)
      rcases hCo.acr hN hs1 (show i < k0 by omega) hc with ha | ⟨t, ht, ha, hne⟩
      · have e := ih (i + 1) (.int (-1)) l8 l9 (by omega)
        rw [show hl_sum (i + 1) (hl_sp I (I 8) p c) = hl_sum i (hl_sp I (I 8) p c) + hl_sp I (I 8) p c i from rfl, show hl_sp I (I 8) p c i = 0 from if_pos ha, Int32.add_zero] at e
        rw [ha] at e84
        rw [← e, hl_r87_22]
        simp only [hl_r87_24, hl_r87_25, hl_r87_28, hl_r87_31, hl_r87_32, hl_r87_34, hl_r87_35, hl_r87_38, hl_r87_40, hl_r87_42, hl_r87_43, hl_r87_103, hl_r87_106, hl_o_11, hl_p_11_0, hl_p_11_1, hl_p_11_2, k2, c1, e84, en, hl_kill_i, hl_kill_r, hl_kill_n, hl_kill_l, hl_tl_s, hl_tl_n, hl_cal_some, hl_gI, hl_gJ, hl_gsI, hl_gsJ, hl_tv01, if_true, if_false, hl_up_a, hl_row_a]
      · obtain ⟨r, r1, r2⟩ := hg t ht
        have bt : hl_inb (nI t) N = true := hl_inb_nI ht (by omega)
        have br : hl_inb (nI r) 4 = true := hl_inb_nI (by omega) (by omega)
        have e := ih (i + 1) (.int (nI t)) (.int (hl_abs (I 9 p - I 9 r))) (.int (hl_abs (I 9 (p + 1) - I 9 r))) (by omega)
        have hx : hl_sp I (I 8) p c i = I 14 i * (hl_abs (I 9 p - I 9 r) - hl_mi (hl_abs (I 9 p - I 9 r)) (hl_abs (I 9 (p + 1) - I 9 r))) := by
          unfold hl_sp
          rw [ha, if_neg hne, nIc (by omega), r2, nIc (by omega)]
        rw [show hl_sum (i + 1) (hl_sp I (I 8) p c) = hl_sum i (hl_sp I (I 8) p c) + hl_sp I (I 8) p c i from rfl, hx] at e
        rw [ha] at e84
        have ab : ∀ o : Int32, (if 0 ≤ o then o else 0 - o) = hl_abs o := fun _ => rfl
        have mi : ∀ x y : Int32, (if y < x then y else x) = hl_mi x y := fun _ _ => rfl
        rw [← e, hl_r87_22]
        simp only [hl_r87_24, hl_r87_25, hl_r87_28, hl_r87_31, hl_r87_32, hl_r87_34, hl_r87_35, hl_r87_38, hl_r87_40, hl_r87_42, hl_r87_43, hl_r87_46, hl_r87_47, hl_r87_49, hl_r87_50, hl_r87_51, hl_r87_52, hl_r87_54, hl_r87_55, hl_r87_56, hl_r87_57, hl_r87_60, hl_r87_62, hl_r87_63, hl_r87_65, hl_r87_66, hl_r87_67, hl_r87_68, hl_r87_69, hl_r87_70, hl_r87_72, hl_r87_73, hl_r87_74, hl_r87_75, hl_r87_78, hl_r87_80, hl_r87_82, hl_r87_83, hl_r87_86, hl_r87_88, hl_r87_89, hl_r87_91, hl_r87_93, hl_r87_95, hl_r87_98, hl_r87_99, hl_r87_100, hl_r87_101, hl_r87_103, hl_r87_106, hl_o_11, hl_p_11_0, hl_p_11_1, hl_p_11_2, hl_a_14, hl_z_14, hl_a_8, hl_z_8, hl_a_9, hl_z_9, k2, c1, e84, hne, bp, bp1, bt, br, b, nIc (show p < 2 ^ 31 by omega), nIc (show p + 1 < 2 ^ 31 by omega), nIc (show t < 2 ^ 31 by omega), nIc (show r < 2 ^ 31 by omega), nIc (show i < 2 ^ 31 by omega), r2, ep, ab, mi, en, hl_kill_i, hl_kill_r, hl_kill_n, hl_kill_l, hl_tl_s, hl_tl_n, hl_cal_some, hl_gI, hl_gJ, hl_gsI, hl_gsJ, hl_tv01, if_true, if_false, hl_up_a, hl_row_a]
  have e := loop k0 0 .null .null .null (by omega)
  rw [show hl_sum 0 (hl_sp I (I 8) p c) = 0 from rfl, show nI 0 = 0 from rfl] at e
  rw [← e, hl_e87]
  have lp' : ¬ nI 4 ≤ nI (p + 1) := nI_ge (by omega) (by omega)
  simp only [hl_r87_0, hl_r87_1, hl_r87_2, hl_r87_3, hl_r87_5, hl_r87_7, hl_r87_8, hl_r87_9, hl_r87_10, hl_r87_11, hl_r87_16, hl_r87_17, hl_r87_19, hl_r87_20, hl_a_8, hl_z_8, hl_a_9, hl_z_9, hl_l_9, e4, bc, nIc (show c < 2 ^ 31 by omega), hp, ep, lp, lp', hl_kill_i, hl_kill_r, hl_kill_n, hl_kill_l, hl_tl_s, hl_tl_n, hl_cal_some, hl_gI, hl_gJ, hl_gsI, hl_gsJ, hl_tv01, if_true, if_false, hl_up_a, hl_row_a]
/-- the reference's loop over the ties -/
theorem hl_l255 {c p : Nat} {x y1 y2 : Int32} (hCo : hl_Co N W H Is) (hv : hl_vw Is I) (hN : N ≤ 24) (hs : hl_Sv Is 86 0 = (nh : Int)) (hn : nh ≤ 4) (hs1 : hl_Sv Is 86 1 = (cn : Int)) (hg : hl_hg N nh g) (h94 : ∀ c, c < N → I 94 c = g c) (hc : c < N) (hp1 : p + 1 < nh) (f : Nat) : ∀ i (l7 l8 l9 : Value), i + f = cn → hl_Run 255 (hl_call (d + 2)) 86 [.ref 85, .int (nI c), .int (nI p), .int y1, .int y2, .int (x + hl_sum i (hl_sp Is g p c)), .int (nI i), l7, l8, l9] [] (hl_g N I J) = some (some (.int (x + hl_sum cn (hl_sp Is g p c))), hl_g N I J) := by
  obtain ⟨k0, k1, k2, k3, k4⟩ := hCo.cn
  obtain rfl : k0 = cn := by omega
  have e1 : I 86 1 = nI k0 := by rw [hv.2.1]; exact k3
  have ep : nI p + 1 = nI (p + 1) := (nI_succ p).symm
  induction f with
  | zero =>
    intro i l7 l8 l9 hi
    obtain rfl : i = k0 := by omega
    simp only [hl_r255_86, hl_r255_88, hl_r255_89, hl_r255_92, hl_r255_93, hl_r255_94, hl_r255_242, hl_r255_244, hl_o_85, hl_p_85_3, hl_p_85_4, hl_p_85_5, hl_p_85_6, hl_p_85_19, hl_p_85_23, hl_p_85_24, hl_p_85_25, hl_p_85_26, hl_p_85_27, hl_p_85_28, hl_p_85_29, hl_p_85_30, hl_p_85_31, hl_p_85_33, hl_p_85_34, hl_p_85_35, hl_p_85_36, hl_p_85_37, hl_a_86, hl_z_86, hl_k1, hl_v1, e1, Int32.le_refl, hl_kill_i, hl_kill_r, hl_kill_n, hl_kill_l, hl_tl_s, hl_tl_n, hl_cal_some, hl_gI, hl_gJ, hl_gsI, hl_gsJ, hl_tv01, if_true, if_false, hl_up_a, hl_row_a]
  | succ f ih =>
    intro i l7 l8 l9 hi
    have c1 : ¬ nI k0 ≤ nI i := nI_ge (by omega) (by omega)
    have en : nI i + 1 = nI (i + 1) := (nI_succ i).symm
    have x1 : nI (200 + 3 * i) + 1 = nI (200 + 3 * i + 1) := nI_add _ 1
    have x2 : nI (200 + 3 * i) + 2 = nI (200 + 3 * i + 2) := nI_add _ 2
    obtain ⟨a, b, w, a1, b1, hab, -, -, ta, tb, tw, ma, mb, mw⟩ := hCo.tie hN hs1 (show i < k0 by omega)
    rw [← hv.2.1] at ma mb mw
    have nm : ∀ t, t < N → ¬ nI t = -1 := fun t ht q => by
      have := congrArg Int32.toInt q
      rw [hl_tI (by omega), show (-1 : Int32).toInt = -1 from rfl] at this
      omega
    have hsum : hl_sum (i + 1) (hl_sp Is g p c) = hl_sum i (hl_sp Is g p c) + hl_sp Is g p c i := rfl
    -- a tie of the cell: t is across
    have go : ∀ t, t < N → hl_acr Is i c = nI t → hl_Run 255 (hl_call (d + 2)) 169 [.ref 85, .int (nI c), .int (nI p), .int y1, .int y2, .int (x + hl_sum i (hl_sp Is g p c)), .int (nI i), .int (nI (200 + 3 * i)), l8, l9] [.int (g t)] (hl_g N I J) = some (some (.int (x + hl_sum k0 (hl_sp Is g p c))), hl_g N I J) := by
      intro t ht ha
      obtain ⟨r, r1, r2⟩ := hg t ht
      have hx : hl_sp Is g p c i = nI w * (hl_abs (Is 9 p - Is 9 r) - hl_mi (hl_abs (Is 9 p - Is 9 r)) (hl_abs (Is 9 (p + 1) - Is 9 r))) := by
        unfold hl_sp
        rw [ha, if_neg (nm t ht), nIc (by omega), r2, nIc (by omega), tw]
      have s1 := hl_s211 (d := d) (J := J) hv hCo hs hn (show p < nh by omega) r1
      have s2 := hl_s211 (d := d) (J := J) hv hCo hs hn hp1 r1
      generalize hl_abs (Is 9 p - Is 9 r) = u1 at *
      generalize hl_abs (Is 9 (p + 1) - Is 9 r) = u2 at *
      rw [r2]
      have e := ih (i + 1) (.int (nI (200 + 3 * i))) (.int (nI r)) (.int (hl_mi u1 u2)) (by omega)
      rw [hsum, hx, ← Int32.add_assoc] at e
      rw [← e]
      by_cases q : u1 < u2
      · have em : hl_mi u1 u2 = u1 := by rw [hl_mi_le, if_neg (Int32.not_le.mpr q)]
        rw [em]
        simp only [hl_r255_169, hl_r255_171, hl_r255_172, hl_r255_173, hl_r255_175, hl_r255_178, hl_r255_179, hl_r255_180, hl_r255_181, hl_r255_182, hl_r255_184, hl_r255_187, hl_r255_190, hl_r255_191, hl_r255_192, hl_r255_194, hl_r255_197, hl_r255_209, hl_r255_211, hl_r255_213, hl_r255_214, hl_r255_217, hl_r255_219, hl_r255_220, hl_r255_221, hl_r255_222, hl_r255_223, hl_r255_224, hl_r255_226, hl_r255_229, hl_r255_231, hl_r255_232, hl_r255_233, hl_r255_234, hl_r255_236, hl_r255_239, hl_o_85, hl_p_85_3, hl_p_85_4, hl_p_85_5, hl_p_85_6, hl_p_85_19, hl_p_85_23, hl_p_85_24, hl_p_85_25, hl_p_85_26, hl_p_85_27, hl_p_85_28, hl_p_85_29, hl_p_85_30, hl_p_85_31, hl_p_85_33, hl_p_85_34, hl_p_85_35, hl_p_85_36, hl_p_85_37, hl_a_86, hl_z_86, s1, s2, ep, Int32.not_le.mpr q, x2, hl_b490 (show 200 + 3 * i + 2 < 490 by omega), hl_c490 (show 200 + 3 * i + 2 < 490 by omega), mw, en, hl_kill_i, hl_kill_r, hl_kill_n, hl_kill_l, hl_tl_s, hl_tl_n, hl_cal_some, hl_gI, hl_gJ, hl_gsI, hl_gsJ, hl_tv01, if_true, if_false, hl_up_a, hl_row_a]
      · have em : hl_mi u1 u2 = u2 := by rw [hl_mi_le, if_pos (Int32.not_lt.mp q)]
        rw [em]
        simp only [hl_r255_169, hl_r255_171, hl_r255_172, hl_r255_173, hl_r255_175, hl_r255_178, hl_r255_179, hl_r255_180, hl_r255_181, hl_r255_182, hl_r255_184, hl_r255_187, hl_r255_200, hl_r255_201, hl_r255_202, hl_r255_203, hl_r255_204, hl_r255_206, hl_r255_209, hl_r255_211, hl_r255_213, hl_r255_214, hl_r255_217, hl_r255_219, hl_r255_220, hl_r255_221, hl_r255_222, hl_r255_223, hl_r255_224, hl_r255_226, hl_r255_229, hl_r255_231, hl_r255_232, hl_r255_233, hl_r255_234, hl_r255_236, hl_r255_239, hl_o_85, hl_p_85_3, hl_p_85_4, hl_p_85_5, hl_p_85_6, hl_p_85_19, hl_p_85_23, hl_p_85_24, hl_p_85_25, hl_p_85_26, hl_p_85_27, hl_p_85_28, hl_p_85_29, hl_p_85_30, hl_p_85_31, hl_p_85_33, hl_p_85_34, hl_p_85_35, hl_p_85_36, hl_p_85_37, hl_a_86, hl_z_86, s1, s2, ep, Int32.not_lt.mp q, x2, hl_b490 (show 200 + 3 * i + 2 < 490 by omega), hl_c490 (show 200 + 3 * i + 2 < 490 by omega), mw, en, hl_kill_i, hl_kill_r, hl_kill_n, hl_kill_l, hl_tl_s, hl_tl_n, hl_cal_some, hl_gI, hl_gJ, hl_gsI, hl_gsJ, hl_tv01, if_true, if_false, hl_up_a, hl_row_a]
    have f0 := hl_b490 (show 200 + 3 * i < 490 by omega)
    have f0' := hl_c490 (show 200 + 3 * i < 490 by omega)
    have f1 := hl_b490 (show 200 + 3 * i + 1 < 490 by omega)
    have f1' := hl_c490 (show 200 + 3 * i + 1 < 490 by omega)
    have ba : hl_inb (nI a) 24 = true := hl_inb_nI (by omega) (by omega)
    have bb : hl_inb (nI b) 24 = true := hl_inb_nI (by omega) (by omega)
    rw [hl_r255_86]
    by_cases q1 : nI a = nI c
    · have ha : hl_acr Is i c = nI b := by unfold hl_acr; rw [ta, tb, if_pos q1]
      rw [← go b b1 ha]
      rw [← q1]
      simp only [hl_r255_88, hl_r255_89, hl_r255_92, hl_r255_93, hl_r255_94, hl_r255_97, hl_r255_100, hl_r255_101, hl_r255_103, hl_r255_104, hl_r255_105, hl_r255_107, hl_r255_108, hl_r255_111, hl_r255_113, hl_r255_114, hl_r255_115, hl_r255_134, hl_r255_135, hl_r255_138, hl_r255_139, hl_r255_142, hl_r255_144, hl_r255_145, hl_r255_146, hl_r255_149, hl_r255_150, hl_r255_153, hl_r255_155, hl_r255_156, hl_r255_157, hl_r255_158, hl_r255_168, hl_o_85, hl_p_85_3, hl_p_85_4, hl_p_85_5, hl_p_85_6, hl_p_85_19, hl_p_85_23, hl_p_85_24, hl_p_85_25, hl_p_85_26, hl_p_85_27, hl_p_85_28, hl_p_85_29, hl_p_85_30, hl_p_85_31, hl_p_85_33, hl_p_85_34, hl_p_85_35, hl_p_85_36, hl_p_85_37, hl_a_86, hl_z_86, hl_a_94, hl_z_94, hl_k1, hl_v1, e1, c1, hl_i200, x1, f0, f0', f1, f1', ma, mb, not_true, bb, nIc (show b < 2 ^ 31 by omega), h94 b b1, hl_kill_i, hl_kill_r, hl_kill_n, hl_kill_l, hl_tl_s, hl_tl_n, hl_cal_some, hl_gI, hl_gJ, hl_gsI, hl_gsJ, hl_tv01, if_true, if_false, hl_up_a, hl_row_a]
    · by_cases q2 : nI b = nI c
      · have ha : hl_acr Is i c = nI a := by unfold hl_acr; rw [ta, tb, if_neg q1, if_pos q2]
        rw [← go a a1 ha]
        rw [← q2] at q1 ⊢
        simp only [hl_r255_88, hl_r255_89, hl_r255_92, hl_r255_93, hl_r255_94, hl_r255_97, hl_r255_100, hl_r255_101, hl_r255_103, hl_r255_104, hl_r255_105, hl_r255_107, hl_r255_108, hl_r255_111, hl_r255_113, hl_r255_114, hl_r255_115, hl_r255_118, hl_r255_119, hl_r255_122, hl_r255_124, hl_r255_125, hl_r255_126, hl_r255_127, hl_r255_128, hl_r255_134, hl_r255_135, hl_r255_138, hl_r255_139, hl_r255_142, hl_r255_144, hl_r255_145, hl_r255_146, hl_r255_161, hl_r255_162, hl_r255_165, hl_r255_167, hl_r255_168, hl_o_85, hl_p_85_3, hl_p_85_4, hl_p_85_5, hl_p_85_6, hl_p_85_19, hl_p_85_23, hl_p_85_24, hl_p_85_25, hl_p_85_26, hl_p_85_27, hl_p_85_28, hl_p_85_29, hl_p_85_30, hl_p_85_31, hl_p_85_33, hl_p_85_34, hl_p_85_35, hl_p_85_36, hl_p_85_37, hl_a_86, hl_z_86, hl_a_94, hl_z_94, hl_k1, hl_v1, e1, c1, hl_i200, x1, f0, f0', f1, f1', ma, mb, q1, not_false_eq_true, ba, nIc (show a < 2 ^ 31 by omega), h94 a a1, hl_kill_i, hl_kill_r, hl_kill_n, hl_kill_l, hl_tl_s, hl_tl_n, hl_cal_some, hl_gI, hl_gJ, hl_gsI, hl_gsJ, hl_tv01, if_true, if_false, hl_up_a, hl_row_a]
      · have ha : hl_acr Is i c = -1 := by unfold hl_acr; rw [ta, tb, if_neg q1, if_neg q2]
        have e := ih (i + 1) (.int (nI (200 + 3 * i))) l8 l9 (by omega)
        rw [hsum, show hl_sp Is g p c i = 0 from if_pos ha, Int32.add_zero] at e
        rw [← e]
        simp only [hl_r255_88, hl_r255_89, hl_r255_92, hl_r255_93, hl_r255_94, hl_r255_97, hl_r255_100, hl_r255_101, hl_r255_103, hl_r255_104, hl_r255_105, hl_r255_107, hl_r255_108, hl_r255_111, hl_r255_113, hl_r255_114, hl_r255_115, hl_r255_118, hl_r255_119, hl_r255_122, hl_r255_124, hl_r255_125, hl_r255_126, hl_r255_127, hl_r255_128, hl_r255_131, hl_r255_236, hl_r255_239, hl_o_85, hl_p_85_3, hl_p_85_4, hl_p_85_5, hl_p_85_6, hl_p_85_19, hl_p_85_23, hl_p_85_24, hl_p_85_25, hl_p_85_26, hl_p_85_27, hl_p_85_28, hl_p_85_29, hl_p_85_30, hl_p_85_31, hl_p_85_33, hl_p_85_34, hl_p_85_35, hl_p_85_36, hl_p_85_37, hl_a_86, hl_z_86, hl_k1, hl_v1, e1, c1, hl_i200, x1, f0, f0', f1, f1', ma, mb, q1, q2, en, hl_kill_i, hl_kill_r, hl_kill_n, hl_kill_l, hl_tl_s, hl_tl_n, hl_cal_some, hl_gI, hl_gJ, hl_gsI, hl_gsJ, hl_tv01, if_true, if_false, hl_up_a, hl_row_a]
theorem hl_pr28 (hN : N ≤ 24) (f : Nat → Int32) : hl_PQ hl_TX N W H 133 255 (hl_args 28 f) := by
  refine hl_PQ_read hl_TXc fun I J hI => ?_
  obtain ⟨nh, h4, hc1, hm1, hs1⟩ := hI.nh
  obtain ⟨cn, c40, tc1, tm1, ts1⟩ := hI.cn
  show ∃ v I1 J1 I2 J2, hl_call 1001 133 [.ref 0, .int (f 1)] (hl_g N I J) = some (some (.int v), hl_g N I1 J1) ∧ hl_call 1001 255 [.ref 85, .int (f 1)] (hl_g N I1 J1) = some (some (.int v), hl_g N I2 J2) ∧ _
  have P := hI.2.2.2.2.1
  by_cases hh0 : nh = 0
  · subst hh0
    have z : nI 0 = 0 := rfl
    rw [z] at hc1 hm1
    refine ⟨-1000000000, I, J, I, J, ?_, ?_, hl_Tm_rf I, P, hl_Tm_rf I, rfl, rfl⟩
    · rw [hl_e133 (d := 1000)]; simp only [hl_r133_0, hl_r133_1, hl_r133_4, hl_r133_7, hl_r133_10, hl_r133_11, hl_r133_12, hl_r133_15, hl_r133_18, hl_r133_19, hl_r133_22, hl_r133_25, hl_r133_26, hl_r133_27, hl_r133_28, hl_r133_29, hl_r133_30, hl_r133_33, hl_r133_36, hl_r133_39, hl_r133_42, hl_r133_43, hl_r133_44, hl_r133_47, hl_r133_50, hl_r133_51, hl_r133_54, hl_r133_57, hl_r133_58, hl_r133_59, hl_r133_60, hl_r133_61, hl_r133_64, hl_r133_65, hl_r133_66, hl_r133_69, hl_r133_70, hl_r133_71, hl_r133_72, hl_r133_75, hl_r133_76, hl_r133_77, hl_r133_78, hl_r133_79, hl_r133_82, hl_r133_85, hl_r133_87, hl_r133_88, hl_r133_90, hl_r133_91, hl_r133_92, hl_r133_95, hl_r133_98, hl_r133_99, hl_r133_100, hl_r133_103, hl_r133_106, hl_r133_107, hl_r133_110, hl_r133_113, hl_r133_116, hl_r133_117, hl_o_0, hl_p_0_3, hl_p_0_4, hl_p_0_5, hl_p_0_7, hl_p_0_8, hl_p_0_9, hl_p_0_10, hl_p_0_11, hl_p_0_12, hl_p_0_13, hl_p_0_14, hl_p_0_15, hl_o_1, hl_p_1_0, hl_p_1_1, hl_p_1_2, hl_p_1_3, hl_p_1_4, hl_p_1_5, hl_p_1_6, hl_p_1_7, hl_p_1_9, hl_p_1_14, hl_p_1_15, hc1, hl_kill_i, hl_kill_r, hl_kill_n, hl_kill_l, hl_tl_s, hl_tl_n, hl_cal_some, hl_gI, hl_gJ, hl_gsI, hl_gsJ, hl_tv01, if_true, if_false, hl_up_a, hl_row_a]
    · rw [hl_e255 (d := 1000)]; simp only [hl_r255_0, hl_r255_1, hl_r255_4, hl_r255_5, hl_r255_6, hl_r255_9, hl_r255_10, hl_r255_11, hl_r255_14, hl_r255_17, hl_r255_18, hl_r255_19, hl_r255_21, hl_r255_24, hl_r255_25, hl_r255_26, hl_r255_27, hl_r255_30, hl_r255_31, hl_r255_32, hl_r255_35, hl_r255_38, hl_r255_39, hl_r255_40, hl_r255_43, hl_r255_44, hl_r255_47, hl_r255_48, hl_r255_49, hl_r255_50, hl_r255_51, hl_r255_52, hl_r255_53, hl_r255_56, hl_r255_57, hl_r255_58, hl_r255_59, hl_r255_60, hl_r255_61, hl_r255_62, hl_r255_65, hl_r255_67, hl_r255_68, hl_r255_69, hl_r255_71, hl_r255_74, hl_r255_75, hl_r255_78, hl_r255_80, hl_r255_81, hl_r255_83, hl_r255_84, hl_r255_88, hl_r255_89, hl_r255_92, hl_r255_93, hl_r255_94, hl_r255_97, hl_r255_100, hl_r255_101, hl_r255_103, hl_r255_104, hl_r255_105, hl_r255_107, hl_r255_108, hl_r255_111, hl_r255_113, hl_r255_114, hl_r255_115, hl_r255_118, hl_r255_119, hl_r255_122, hl_r255_124, hl_r255_125, hl_r255_126, hl_r255_127, hl_r255_128, hl_r255_131, hl_r255_134, hl_r255_135, hl_r255_138, hl_r255_139, hl_r255_142, hl_r255_144, hl_r255_145, hl_r255_146, hl_r255_149, hl_r255_150, hl_r255_153, hl_r255_155, hl_r255_156, hl_r255_157, hl_r255_158, hl_r255_161, hl_r255_162, hl_r255_165, hl_r255_167, hl_r255_168, hl_r255_169, hl_r255_171, hl_r255_172, hl_r255_173, hl_r255_175, hl_r255_178, hl_r255_179, hl_r255_180, hl_r255_181, hl_r255_182, hl_r255_184, hl_r255_187, hl_r255_190, hl_r255_191, hl_r255_192, hl_r255_194, hl_r255_197, hl_r255_200, hl_r255_201, hl_r255_202, hl_r255_203, hl_r255_204, hl_r255_206, hl_r255_209, hl_r255_211, hl_r255_213, hl_r255_214, hl_r255_217, hl_r255_219, hl_r255_220, hl_r255_221, hl_r255_222, hl_r255_223, hl_r255_224, hl_r255_226, hl_r255_229, hl_r255_231, hl_r255_232, hl_r255_233, hl_r255_234, hl_r255_236, hl_r255_239, hl_r255_242, hl_r255_244, hl_o_85, hl_p_85_3, hl_p_85_4, hl_p_85_5, hl_p_85_6, hl_p_85_19, hl_p_85_23, hl_p_85_24, hl_p_85_25, hl_p_85_26, hl_p_85_27, hl_p_85_28, hl_p_85_29, hl_p_85_30, hl_p_85_31, hl_p_85_33, hl_p_85_34, hl_p_85_35, hl_p_85_36, hl_p_85_37, hl_a_86, hl_z_86, hl_k0, hl_v0, hm1, hl_kill_i, hl_kill_r, hl_kill_n, hl_kill_l, hl_tl_s, hl_tl_n, hl_cal_some, hl_gI, hl_gJ, hl_gsI, hl_gsJ, hl_tv01, if_true, if_false, hl_up_a, hl_row_a]
  have n0 : ¬ nI nh = 0 := nI_ne0 (by omega) (by omega)
  have k138 := hl_s138 (d := 998) (I := I) (J := J) (x := f 1) hI.cM (by omega)
  have k153 := hl_s153 (d := 998) (I := I) (J := J) (x := f 1) hI.mM (by omega)
  cases g1 : hl_inb (f 1) N with
  | false =>
    rw [g1] at k138 k153
    refine ⟨-1000000000, I, J, I, J, ?_, ?_, hl_Tm_rf I, P, hl_Tm_rf I, rfl, rfl⟩
    · rw [hl_e133 (d := 1000)]; simp only [hl_r133_0, hl_r133_1, hl_r133_4, hl_r133_7, hl_r133_10, hl_r133_11, hl_r133_12, hl_r133_15, hl_r133_18, hl_r133_19, hl_r133_22, hl_r133_25, hl_r133_26, hl_r133_27, hl_r133_28, hl_r133_29, hl_r133_30, hl_r133_33, hl_r133_36, hl_r133_39, hl_r133_42, hl_r133_43, hl_r133_44, hl_r133_47, hl_r133_50, hl_r133_51, hl_r133_54, hl_r133_57, hl_r133_58, hl_r133_59, hl_r133_60, hl_r133_61, hl_r133_64, hl_r133_65, hl_r133_66, hl_r133_69, hl_r133_70, hl_r133_71, hl_r133_72, hl_r133_75, hl_r133_76, hl_r133_77, hl_r133_78, hl_r133_79, hl_r133_82, hl_r133_85, hl_r133_87, hl_r133_88, hl_r133_90, hl_r133_91, hl_r133_92, hl_r133_95, hl_r133_98, hl_r133_99, hl_r133_100, hl_r133_103, hl_r133_106, hl_r133_107, hl_r133_110, hl_r133_113, hl_r133_116, hl_r133_117, hl_o_0, hl_p_0_3, hl_p_0_4, hl_p_0_5, hl_p_0_7, hl_p_0_8, hl_p_0_9, hl_p_0_10, hl_p_0_11, hl_p_0_12, hl_p_0_13, hl_p_0_14, hl_p_0_15, hl_o_1, hl_p_1_0, hl_p_1_1, hl_p_1_2, hl_p_1_3, hl_p_1_4, hl_p_1_5, hl_p_1_6, hl_p_1_7, hl_p_1_9, hl_p_1_14, hl_p_1_15, hc1, n0, k138, hl_tv_f, hl_kill_i, hl_kill_r, hl_kill_n, hl_kill_l, hl_tl_s, hl_tl_n, hl_cal_some, hl_gI, hl_gJ, hl_gsI, hl_gsJ, hl_tv01, if_true, if_false, hl_up_a, hl_row_a]
    · rw [hl_e255 (d := 1000)]; simp only [hl_r255_0, hl_r255_1, hl_r255_4, hl_r255_5, hl_r255_6, hl_r255_9, hl_r255_10, hl_r255_11, hl_r255_14, hl_r255_17, hl_r255_18, hl_r255_19, hl_r255_21, hl_r255_24, hl_r255_25, hl_r255_26, hl_r255_27, hl_r255_30, hl_r255_31, hl_r255_32, hl_r255_35, hl_r255_38, hl_r255_39, hl_r255_40, hl_r255_43, hl_r255_44, hl_r255_47, hl_r255_48, hl_r255_49, hl_r255_50, hl_r255_51, hl_r255_52, hl_r255_53, hl_r255_56, hl_r255_57, hl_r255_58, hl_r255_59, hl_r255_60, hl_r255_61, hl_r255_62, hl_r255_65, hl_r255_67, hl_r255_68, hl_r255_69, hl_r255_71, hl_r255_74, hl_r255_75, hl_r255_78, hl_r255_80, hl_r255_81, hl_r255_83, hl_r255_84, hl_r255_88, hl_r255_89, hl_r255_92, hl_r255_93, hl_r255_94, hl_r255_97, hl_r255_100, hl_r255_101, hl_r255_103, hl_r255_104, hl_r255_105, hl_r255_107, hl_r255_108, hl_r255_111, hl_r255_113, hl_r255_114, hl_r255_115, hl_r255_118, hl_r255_119, hl_r255_122, hl_r255_124, hl_r255_125, hl_r255_126, hl_r255_127, hl_r255_128, hl_r255_131, hl_r255_134, hl_r255_135, hl_r255_138, hl_r255_139, hl_r255_142, hl_r255_144, hl_r255_145, hl_r255_146, hl_r255_149, hl_r255_150, hl_r255_153, hl_r255_155, hl_r255_156, hl_r255_157, hl_r255_158, hl_r255_161, hl_r255_162, hl_r255_165, hl_r255_167, hl_r255_168, hl_r255_169, hl_r255_171, hl_r255_172, hl_r255_173, hl_r255_175, hl_r255_178, hl_r255_179, hl_r255_180, hl_r255_181, hl_r255_182, hl_r255_184, hl_r255_187, hl_r255_190, hl_r255_191, hl_r255_192, hl_r255_194, hl_r255_197, hl_r255_200, hl_r255_201, hl_r255_202, hl_r255_203, hl_r255_204, hl_r255_206, hl_r255_209, hl_r255_211, hl_r255_213, hl_r255_214, hl_r255_217, hl_r255_219, hl_r255_220, hl_r255_221, hl_r255_222, hl_r255_223, hl_r255_224, hl_r255_226, hl_r255_229, hl_r255_231, hl_r255_232, hl_r255_233, hl_r255_234, hl_r255_236, hl_r255_239, hl_r255_242, hl_r255_244, hl_o_85, hl_p_85_3, hl_p_85_4, hl_p_85_5, hl_p_85_6, hl_p_85_19, hl_p_85_23, hl_p_85_24, hl_p_85_25, hl_p_85_26, hl_p_85_27, hl_p_85_28, hl_p_85_29, hl_p_85_30, hl_p_85_31, hl_p_85_33, hl_p_85_34, hl_p_85_35, hl_p_85_36, hl_p_85_37, hl_a_86, hl_z_86, hl_k0, hl_v0, hm1, n0, k153, hl_tv_f, hl_kill_i, hl_kill_r, hl_kill_n, hl_kill_l, hl_tl_s, hl_tl_n, hl_cal_some, hl_gI, hl_gJ, hl_gsI, hl_gsJ, hl_tv01, if_true, if_false, hl_up_a, hl_row_a]
  | true =>
    rw [g1] at k138 k153
    obtain ⟨c, hc, ec⟩ := hl_inb_of g1 (by omega)
    rw [ec] at g1 k138 k153 ⊢
    obtain ⟨p, p1, p2, p3⟩ := hI.co.part hN hs1 (by omega) hc
    have ep : nI p + 1 = nI (p + 1) := (nI_succ p).symm
    have o6 := hl_of6 (d := 999) (N := N) (I := I) (J := J) (show c < 24 by omega)
    rw [p3] at o6
    by_cases hp1 : p + 1 < nh
    · have lt : nI (p + 1) < nI nh := nI_lt hp1 (by omega)
      obtain ⟨I1, e1, F⟩ := hl_s45 (d := 994) (J := J) hI hN h4 hc1 hs1
      have tm := F.tm
      have hCo := hl_Co_t hI.co tm
      have ts2 : hl_Sv I1 86 1 = (cn : Int) := (F.sv (by omega)).trans ts1
      have hs2 : hl_Sv I1 86 0 = (nh : Int) := (F.sv (by omega)).trans hs1
      have hg := hCo.hg hN hs2 (by omega)
      have p2' : I1 8 c = nI p := by rw [tm.1 8 (by omega)]; exact p2
      have s48 := hl_s48 (d := 999) (I := I1) (J := J) hc hN (show p < 4 by omega)
      have s48' := hl_s48 (d := 999) (I := I1) (J := J) hc hN (show p + 1 < 4 by omega)
      rw [(F.2 c hc).2 p p1, ← (tm.pd c).pay] at s48
      rw [(F.2 c hc).2 (p + 1) hp1, ← (tm.pd c).pay] at s48'
      have s87 := hl_s87 (d := 998) (J := J) hCo hN h4 ts2 hg hc p2' hp1
      obtain ⟨I2, e2, f2, k2⟩ := hl_s212 (d := 998) (I := I1) (J := J) hN hCo.mM
      have tm2 := hl_Tm_94 f2
      have h94 : ∀ c, c < N → I2 94 c = I1 8 c := fun c hc => by rw [k2 c hc, show I1 8 c = I1 86 (30 + 7 * c + 6) from hCo.2.1.1.cell (i := 6) hN hc (by omega)]
      obtain ⟨I3, J3, e3, r3, j3⟩ := hl_s209 (d := 994) (J := J) hCo tm2.vw hN hc (show (p : Int) < hl_Sv I1 86 0 by omega)
      have hv3 := hl_vw_tr tm2.vw r3.vw
      obtain ⟨I4, J4, e4, r4, j4⟩ := hl_s209 (d := 994) (J := J3) hCo hv3 hN hc (show ((p + 1 : Nat) : Int) < hl_Sv I1 86 0 by omega)
      have hv4 := hl_vw_tr hv3 r4.vw
      have r34 := hl_r9_tr r3 r4
      have h94' : ∀ c, c < N → I4 94 c = I1 8 c := fun c hc => by rw [r34 94 (by decide) (by decide)]; exact h94 c hc
      generalize hy1 : hl_pay I1 c p = y1 at s48 e3
      generalize hy2 : hl_pay I1 c (p + 1) = y2 at s48' e4
      have l := hl_l255 (d := 998) (J := J4) (x := y1 - hl_mx y1 y2) (y1 := y1) (y2 := y2) hCo hv4 hN hs2 h4 ts2 hg h94' hc hp1 cn 0 .null .null .null (by omega)
      rw [show hl_sum 0 (hl_sp I1 (I1 8) p c) = 0 from rfl, show nI 0 = 0 from rfl, Int32.add_zero] at l
      have tm24 := hl_Tm_tr tm2 r34.tm
      refine ⟨y1 - hl_mx y1 y2 + hl_sum cn (hl_sp I1 (I1 8) p c), I1, J, I4, J4, ?_, ?_, tm, F.pu hs1, tm24, by rw [r34 64 (by decide) (by decide), f2 64 (by decide)], by rw [r34 65 (by decide) (by decide), f2 65 (by decide)]⟩
      · have bc : hl_inb (nI c) N = true := g1
        have mx : ∀ x y : Int32, (if x < y then y else x) = hl_mx x y := fun _ _ => rfl
        rw [hl_e133 (d := 1000)]
        simp only [hl_r133_0, hl_r133_1, hl_r133_4, hl_r133_7, hl_r133_10, hl_r133_11, hl_r133_12, hl_r133_15, hl_r133_18, hl_r133_19, hl_r133_22, hl_r133_25, hl_r133_26, hl_r133_27, hl_r133_28, hl_r133_29, hl_r133_30, hl_r133_33, hl_r133_36, hl_r133_39, hl_r133_42, hl_r133_43, hl_r133_44, hl_r133_47, hl_r133_50, hl_r133_51, hl_r133_54, hl_r133_57, hl_r133_58, hl_r133_59, hl_r133_60, hl_r133_61, hl_r133_64, hl_r133_65, hl_r133_66, hl_r133_69, hl_r133_70, hl_r133_71, hl_r133_72, hl_r133_75, hl_r133_76, hl_r133_77, hl_r133_78, hl_r133_79, hl_r133_82, hl_r133_85, hl_r133_87, hl_r133_88, hl_r133_90, hl_r133_91, hl_r133_92, hl_r133_95, hl_r133_98, hl_r133_99, hl_r133_100, hl_r133_103, hl_r133_106, hl_r133_107, hl_r133_110, hl_r133_113, hl_r133_116, hl_r133_117, hl_o_0, hl_p_0_3, hl_p_0_4, hl_p_0_5, hl_p_0_7, hl_p_0_8, hl_p_0_9, hl_p_0_10, hl_p_0_11, hl_p_0_12, hl_p_0_13, hl_p_0_14, hl_p_0_15, hl_o_1, hl_p_1_0, hl_p_1_1, hl_p_1_2, hl_p_1_3, hl_p_1_4, hl_p_1_5, hl_p_1_6, hl_p_1_7, hl_p_1_9, hl_p_1_14, hl_p_1_15, hl_o_63, hl_p_63_0, hl_p_63_1, hl_p_63_2, hl_p_63_3, hl_a_8, hl_z_8, hl_o_11, hl_p_11_0, hl_p_11_1, hl_p_11_2, hc1, n0, k138, hl_tv_t, hl_10, bc, nIc (show c < 2 ^ 31 by omega), p2, p2', ep, lt, e1, s48, s48', mx, s87, hl_tl_n, hl_kill_i, hl_kill_r, hl_kill_n, hl_kill_l, hl_tl_s, hl_tl_n, hl_cal_some, hl_gI, hl_gJ, hl_gsI, hl_gsJ, hl_tv01, if_true, if_false, hl_up_a, hl_row_a]
      · have em1 : I1 86 0 = nI nh := by rw [tm.2.2.2 86 (by omega) (by omega)]; exact hm1
        have k153' := hl_s153 (d := 998) (I := I1) (J := J) (x := nI c) hCo.mM (by omega)
        rw [g1] at k153'
        have o6' := hl_of6 (d := 999) (N := N) (I := I1) (J := J) (show c < 24 by omega)
        rw [show I1 86 (30 + 7 * c + 6) = nI p by rw [tm.2.2.2 86 (by omega) (by omega)]; exact p3] at o6'
        have b24 : hl_inb (nI c) 24 = true := hl_inb_nI (by omega) (by omega)
        rw [← l, hl_e255 (d := 1000), hl_mx_le]
        by_cases q : y1 ≤ y2
        · rw [if_pos q]
          simp only [hl_r255_0, hl_r255_1, hl_r255_4, hl_r255_5, hl_r255_6, hl_r255_9, hl_r255_10, hl_r255_11, hl_r255_14, hl_r255_17, hl_r255_18, hl_r255_19, hl_r255_21, hl_r255_24, hl_r255_25, hl_r255_26, hl_r255_27, hl_r255_30, hl_r255_31, hl_r255_32, hl_r255_39, hl_r255_40, hl_r255_43, hl_r255_44, hl_r255_47, hl_r255_48, hl_r255_49, hl_r255_50, hl_r255_51, hl_r255_52, hl_r255_53, hl_r255_56, hl_r255_57, hl_r255_58, hl_r255_59, hl_r255_60, hl_r255_61, hl_r255_62, hl_r255_65, hl_r255_67, hl_r255_68, hl_r255_69, hl_r255_71, hl_r255_78, hl_r255_80, hl_r255_81, hl_r255_83, hl_r255_84, hl_o_85, hl_p_85_3, hl_p_85_4, hl_p_85_5, hl_p_85_6, hl_p_85_19, hl_p_85_23, hl_p_85_24, hl_p_85_25, hl_p_85_26, hl_p_85_27, hl_p_85_28, hl_p_85_29, hl_p_85_30, hl_p_85_31, hl_p_85_33, hl_p_85_34, hl_p_85_35, hl_p_85_36, hl_p_85_37, hl_a_86, hl_z_86, hl_a_94, hl_z_94, hl_k0, hl_v0, em1, n0, k153', hl_tv_t, hl_10, o6', ep, lt, e2, b24, nIc (show c < 2 ^ 31 by omega), h94 c hc, p2', e3, e4, q, hl_tl_n, hl_kill_i, hl_kill_r, hl_kill_n, hl_kill_l, hl_tl_s, hl_tl_n, hl_cal_some, hl_gI, hl_gJ, hl_gsI, hl_gsJ, hl_tv01, if_true, if_false, hl_up_a, hl_row_a]
        · rw [if_neg q]
          simp only [hl_r255_0, hl_r255_1, hl_r255_4, hl_r255_5, hl_r255_6, hl_r255_9, hl_r255_10, hl_r255_11, hl_r255_14, hl_r255_17, hl_r255_18, hl_r255_19, hl_r255_21, hl_r255_24, hl_r255_25, hl_r255_26, hl_r255_27, hl_r255_30, hl_r255_31, hl_r255_32, hl_r255_39, hl_r255_40, hl_r255_43, hl_r255_44, hl_r255_47, hl_r255_48, hl_r255_49, hl_r255_50, hl_r255_51, hl_r255_52, hl_r255_53, hl_r255_56, hl_r255_57, hl_r255_58, hl_r255_59, hl_r255_60, hl_r255_61, hl_r255_62, hl_r255_65, hl_r255_67, hl_r255_68, hl_r255_69, hl_r255_71, hl_r255_74, hl_r255_75, hl_r255_80, hl_r255_81, hl_r255_83, hl_r255_84, hl_o_85, hl_p_85_3, hl_p_85_4, hl_p_85_5, hl_p_85_6, hl_p_85_19, hl_p_85_23, hl_p_85_24, hl_p_85_25, hl_p_85_26, hl_p_85_27, hl_p_85_28, hl_p_85_29, hl_p_85_30, hl_p_85_31, hl_p_85_33, hl_p_85_34, hl_p_85_35, hl_p_85_36, hl_p_85_37, hl_a_86, hl_z_86, hl_a_94, hl_z_94, hl_k0, hl_v0, em1, n0, k153', hl_tv_t, hl_10, o6', ep, lt, e2, b24, nIc (show c < 2 ^ 31 by omega), h94 c hc, p2', e3, e4, q, hl_tl_n, hl_kill_i, hl_kill_r, hl_kill_n, hl_kill_l, hl_tl_s, hl_tl_n, hl_cal_some, hl_gI, hl_gJ, hl_gsI, hl_gsJ, hl_tv01, if_true, if_false, hl_up_a, hl_row_a]
    · have nlt : ¬ nI (p + 1) < nI nh := nI_nlt (by omega) (by omega)
      have bc : hl_inb (nI c) N = true := g1
      refine ⟨-1000000000, I, J, I, J, ?_, ?_, hl_Tm_rf I, P, hl_Tm_rf I, rfl, rfl⟩
      · rw [hl_e133 (d := 1000)]; simp only [hl_r133_0, hl_r133_1, hl_r133_4, hl_r133_7, hl_r133_10, hl_r133_11, hl_r133_12, hl_r133_15, hl_r133_18, hl_r133_19, hl_r133_22, hl_r133_25, hl_r133_26, hl_r133_27, hl_r133_28, hl_r133_29, hl_r133_30, hl_r133_33, hl_r133_36, hl_r133_39, hl_r133_42, hl_r133_43, hl_r133_44, hl_r133_47, hl_r133_50, hl_r133_51, hl_r133_54, hl_r133_57, hl_r133_58, hl_r133_59, hl_r133_60, hl_r133_61, hl_r133_64, hl_r133_65, hl_r133_66, hl_r133_69, hl_r133_70, hl_r133_71, hl_r133_72, hl_r133_75, hl_r133_76, hl_r133_77, hl_r133_78, hl_r133_79, hl_r133_82, hl_r133_85, hl_r133_87, hl_r133_88, hl_r133_90, hl_r133_91, hl_r133_92, hl_r133_95, hl_r133_98, hl_r133_99, hl_r133_100, hl_r133_103, hl_r133_106, hl_r133_107, hl_r133_110, hl_r133_113, hl_r133_116, hl_r133_117, hl_o_0, hl_p_0_3, hl_p_0_4, hl_p_0_5, hl_p_0_7, hl_p_0_8, hl_p_0_9, hl_p_0_10, hl_p_0_11, hl_p_0_12, hl_p_0_13, hl_p_0_14, hl_p_0_15, hl_o_1, hl_p_1_0, hl_p_1_1, hl_p_1_2, hl_p_1_3, hl_p_1_4, hl_p_1_5, hl_p_1_6, hl_p_1_7, hl_p_1_9, hl_p_1_14, hl_p_1_15, hl_a_8, hl_z_8, hc1, n0, k138, hl_tv_t, hl_10, bc, nIc (show c < 2 ^ 31 by omega), p2, ep, nlt, hl_kill_i, hl_kill_r, hl_kill_n, hl_kill_l, hl_tl_s, hl_tl_n, hl_cal_some, hl_gI, hl_gJ, hl_gsI, hl_gsJ, hl_tv01, if_true, if_false, hl_up_a, hl_row_a]
      · rw [hl_e255 (d := 1000)]; simp only [hl_r255_0, hl_r255_1, hl_r255_4, hl_r255_5, hl_r255_6, hl_r255_9, hl_r255_10, hl_r255_11, hl_r255_14, hl_r255_17, hl_r255_18, hl_r255_19, hl_r255_21, hl_r255_24, hl_r255_25, hl_r255_26, hl_r255_27, hl_r255_30, hl_r255_31, hl_r255_32, hl_r255_35, hl_r255_38, hl_r255_39, hl_r255_40, hl_r255_43, hl_r255_44, hl_r255_47, hl_r255_48, hl_r255_49, hl_r255_50, hl_r255_51, hl_r255_52, hl_r255_53, hl_r255_56, hl_r255_57, hl_r255_58, hl_r255_59, hl_r255_60, hl_r255_61, hl_r255_62, hl_r255_65, hl_r255_67, hl_r255_68, hl_r255_69, hl_r255_71, hl_r255_74, hl_r255_75, hl_r255_78, hl_r255_80, hl_r255_81, hl_r255_83, hl_r255_84, hl_r255_88, hl_r255_89, hl_r255_92, hl_r255_93, hl_r255_94, hl_r255_97, hl_r255_100, hl_r255_101, hl_r255_103, hl_r255_104, hl_r255_105, hl_r255_107, hl_r255_108, hl_r255_111, hl_r255_113, hl_r255_114, hl_r255_115, hl_r255_118, hl_r255_119, hl_r255_122, hl_r255_124, hl_r255_125, hl_r255_126, hl_r255_127, hl_r255_128, hl_r255_131, hl_r255_134, hl_r255_135, hl_r255_138, hl_r255_139, hl_r255_142, hl_r255_144, hl_r255_145, hl_r255_146, hl_r255_149, hl_r255_150, hl_r255_153, hl_r255_155, hl_r255_156, hl_r255_157, hl_r255_158, hl_r255_161, hl_r255_162, hl_r255_165, hl_r255_167, hl_r255_168, hl_r255_169, hl_r255_171, hl_r255_172, hl_r255_173, hl_r255_175, hl_r255_178, hl_r255_179, hl_r255_180, hl_r255_181, hl_r255_182, hl_r255_184, hl_r255_187, hl_r255_190, hl_r255_191, hl_r255_192, hl_r255_194, hl_r255_197, hl_r255_200, hl_r255_201, hl_r255_202, hl_r255_203, hl_r255_204, hl_r255_206, hl_r255_209, hl_r255_211, hl_r255_213, hl_r255_214, hl_r255_217, hl_r255_219, hl_r255_220, hl_r255_221, hl_r255_222, hl_r255_223, hl_r255_224, hl_r255_226, hl_r255_229, hl_r255_231, hl_r255_232, hl_r255_233, hl_r255_234, hl_r255_236, hl_r255_239, hl_r255_242, hl_r255_244, hl_o_85, hl_p_85_3, hl_p_85_4, hl_p_85_5, hl_p_85_6, hl_p_85_19, hl_p_85_23, hl_p_85_24, hl_p_85_25, hl_p_85_26, hl_p_85_27, hl_p_85_28, hl_p_85_29, hl_p_85_30, hl_p_85_31, hl_p_85_33, hl_p_85_34, hl_p_85_35, hl_p_85_36, hl_p_85_37, hl_a_86, hl_z_86, hl_k0, hl_v0, hm1, n0, k153, hl_tv_t, hl_10, o6, ep, nlt, hl_kill_i, hl_kill_r, hl_kill_n, hl_kill_l, hl_tl_s, hl_tl_n, hl_cal_some, hl_gI, hl_gJ, hl_gsI, hl_gsJ, hl_tv01, if_true, if_false, hl_up_a, hl_row_a]
end HLBOTH
