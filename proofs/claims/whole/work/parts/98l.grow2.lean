/-! years, the reference: how people grow -/
section HXGRO2
variable {d N W H nh cn : Nat} {I I' I0 K K' : Nat → Nat → Int32} {J J' : Nat → Nat → Int64} {P : Nat → Nat}
/-- (the row of hl_s241, over a view) -/
theorem hx_s241 {c : Nat} (hCo : hl_Co N W H I0) (hN : N ≤ 24) (hn : nh ≤ 4) (ts : hl_Sv I0 86 1 = (cn : Int)) (hv : hl_vw I0 I) (d94 : ∀ c, c < N → P c < nh ∧ I 94 c = nI (P c)) (hc : c < N) : hl_call (d + 1) 241 [.ref 85, .int (nI c)] (hl_g N I J) = some (some (.int (hl_drN I0 cn P c)), hl_g N I J) := by
  obtain ⟨k0, k1, k2, k3, k4⟩ := hCo.cn
  obtain rfl : k0 = cn := by omega
  have e1 : I 86 1 = nI k0 := by rw [hv.2.1]; exact k3
  have loop : ∀ f i (l4 : Value), i + f = k0 → hl_Run 241 (hl_call d) 4 [.ref 85, .int (nI c), .int (hl_sum i (hl_alo I0 (hl_hP P) c)), .int (nI i), l4] [] (hl_g N I J) = some (some (.int (hl_drN I0 k0 P c)), hl_g N I J) := by
    intro f
    induction f with
    | zero =>
      intro i l4 hi
      obtain rfl : i = k0 := by omega
      simp only [hl_r241_0, hl_r241_1, hl_r241_2, hl_r241_3, hl_r241_4, hl_r241_5, hl_r241_6, hl_r241_9, hl_r241_10, hl_r241_11, hl_r241_14, hl_r241_17, hl_r241_18, hl_r241_19, hl_r241_20, hl_r241_21, hl_r241_23, hl_r241_24, hl_r241_27, hl_r241_29, hl_r241_30, hl_r241_31, hl_r241_34, hl_r241_35, hl_r241_38, hl_r241_40, hl_r241_41, hl_r241_42, hl_r241_43, hl_r241_44, hl_r241_47, hl_r241_48, hl_r241_51, hl_r241_52, hl_r241_55, hl_r241_57, hl_r241_58, hl_r241_59, hl_r241_60, hl_r241_63, hl_r241_64, hl_r241_67, hl_r241_69, hl_r241_70, hl_r241_71, hl_r241_72, hl_r241_73, hl_r241_76, hl_r241_77, hl_r241_78, hl_r241_81, hl_r241_83, hl_r241_84, hl_r241_85, hl_r241_86, hl_r241_87, hl_r241_88, hl_r241_91, hl_r241_94, hl_r241_95, hl_o_85, hl_p_85_3, hl_p_85_4, hl_p_85_5, hl_p_85_6, hl_p_85_19, hl_p_85_23, hl_p_85_24, hl_p_85_25, hl_p_85_26, hl_p_85_27, hl_p_85_28, hl_p_85_29, hl_p_85_30, hl_p_85_31, hl_p_85_33, hl_p_85_34, hl_p_85_35, hl_p_85_36, hl_p_85_37, hl_a_86, hl_z_86, hl_k1, hl_v1, e1, Int32.le_refl, hl_drN, hl_kill_i, hl_kill_r, hl_kill_n, hl_kill_l, hl_tl_s, hl_tl_n, hl_cal_some, hl_gI, hl_gJ, hl_gsI, hl_gsJ, hl_tv01, if_true, if_false, hl_up_a, hl_row_a, not_true, not_false_eq_true]
    | succ f ih =>
      intro i l4 hi
      have c1 : ¬ nI k0 ≤ nI i := nI_ge (by omega) (by omega)
      have en : nI i + 1 = nI (i + 1) := (nI_succ i).symm
      have x1 : nI (200 + 3 * i) + 1 = nI (200 + 3 * i + 1) := nI_add _ 1
      have x2 : nI (200 + 3 * i) + 2 = nI (200 + 3 * i + 2) := nI_add _ 2
      obtain ⟨a, b, w, a1, b1, hab, -, -, ta, tb, tw, ma, mb, mw⟩ := hCo.tie hN ts (show i < k0 by omega)
      rw [← hv.2.1] at ma mb mw
      have f0 := hl_b490 (show 200 + 3 * i < 490 by omega)
      have f0' := hl_c490 (show 200 + 3 * i < 490 by omega)
      have f1 := hl_b490 (show 200 + 3 * i + 1 < 490 by omega)
      have f1' := hl_c490 (show 200 + 3 * i + 1 < 490 by omega)
      have f2 := hl_b490 (show 200 + 3 * i + 2 < 490 by omega)
      have f2' := hl_c490 (show 200 + 3 * i + 2 < 490 by omega)
      have ba : hl_inb (nI a) 24 = true := hl_inb_nI (by omega) (by omega)
      have bb : hl_inb (nI b) 24 = true := hl_inb_nI (by omega) (by omega)
      have va := (d94 a a1).2
      have vb := (d94 b b1).2
      have e := ih (i + 1) (.int (nI (200 + 3 * i))) (by omega)
      have hs : hl_sum (i + 1) (hl_alo I0 (hl_hP P) c) = hl_sum i (hl_alo I0 (hl_hP P) c) + hl_alo I0 (hl_hP P) c i := rfl
      -- a tie of the cell
      have go : (hl_acr I0 i c = nI a ∧ nI b = nI c) ∨ (hl_acr I0 i c = nI b ∧ nI a = nI c) → hl_Run 241 (hl_call d) 47 [.ref 85, .int (nI c), .int (hl_sum i (hl_alo I0 (hl_hP P) c)), .int (nI i), .int (nI (200 + 3 * i))] [] (hl_g N I J) = some (some (.int (hl_drN I0 k0 P c)), hl_g N I J) := by
        intro h
        have hx : hl_alo I0 (hl_hP P) c i = if nI (P a) = nI (P b) then 0 else nI w := by
          unfold hl_alo
          rcases h with ⟨h1, h2⟩ | ⟨h1, h2⟩
          · have : b = c := (nI_eq (by omega) (by omega)).mp h2
            subst this
            rw [h1, if_neg (hl_nm1 (by omega)), nIc (by omega), tw]
            rfl
          · have : a = c := (nI_eq (by omega) (by omega)).mp h2
            subst this
            rw [h1, if_neg (hl_nm1 (by omega)), nIc (by omega), tw]
            show (if nI (P b) = nI (P a) then 0 else nI w) = _
            by_cases z : nI (P a) = nI (P b)
            · rw [if_pos z, if_pos z.symm]
            · rw [if_neg z, if_neg (fun y => z y.symm)]
        rw [hs, hx] at e
        by_cases z : nI (P a) = nI (P b)
        · rw [if_pos z, Int32.add_zero] at e
          rw [← e]
          simp only [hl_r241_47, hl_r241_48, hl_r241_51, hl_r241_52, hl_r241_55, hl_r241_57, hl_r241_58, hl_r241_59, hl_r241_60, hl_r241_63, hl_r241_64, hl_r241_67, hl_r241_69, hl_r241_70, hl_r241_71, hl_r241_72, hl_r241_73, hl_r241_88, hl_r241_91, hl_o_85, hl_p_85_3, hl_p_85_4, hl_p_85_5, hl_p_85_6, hl_p_85_19, hl_p_85_23, hl_p_85_24, hl_p_85_25, hl_p_85_26, hl_p_85_27, hl_p_85_28, hl_p_85_29, hl_p_85_30, hl_p_85_31, hl_p_85_33, hl_p_85_34, hl_p_85_35, hl_p_85_36, hl_p_85_37, hl_a_86, hl_z_86, hl_a_94, hl_z_94, x1, f0, f0', f1, f1', ma, mb, ba, bb, nIc (show a < 2 ^ 31 by omega), nIc (show b < 2 ^ 31 by omega), va, vb, z, en, hl_kill_i, hl_kill_r, hl_kill_n, hl_kill_l, hl_tl_s, hl_tl_n, hl_cal_some, hl_gI, hl_gJ, hl_gsI, hl_gsJ, hl_tv01, if_true, if_false, hl_up_a, hl_row_a, not_true, not_false_eq_true]
        · rw [if_neg z] at e
          rw [← e]
          simp only [hl_r241_47, hl_r241_48, hl_r241_51, hl_r241_52, hl_r241_55, hl_r241_57, hl_r241_58, hl_r241_59, hl_r241_60, hl_r241_63, hl_r241_64, hl_r241_67, hl_r241_69, hl_r241_70, hl_r241_71, hl_r241_72, hl_r241_73, hl_r241_76, hl_r241_77, hl_r241_78, hl_r241_81, hl_r241_83, hl_r241_84, hl_r241_85, hl_r241_86, hl_r241_87, hl_r241_88, hl_r241_91, hl_o_85, hl_p_85_3, hl_p_85_4, hl_p_85_5, hl_p_85_6, hl_p_85_19, hl_p_85_23, hl_p_85_24, hl_p_85_25, hl_p_85_26, hl_p_85_27, hl_p_85_28, hl_p_85_29, hl_p_85_30, hl_p_85_31, hl_p_85_33, hl_p_85_34, hl_p_85_35, hl_p_85_36, hl_p_85_37, hl_a_86, hl_z_86, hl_a_94, hl_z_94, x1, x2, f0, f0', f1, f1', f2, f2', ma, mb, mw, ba, bb, nIc (show a < 2 ^ 31 by omega), nIc (show b < 2 ^ 31 by omega), va, vb, z, en, hl_kill_i, hl_kill_r, hl_kill_n, hl_kill_l, hl_tl_s, hl_tl_n, hl_cal_some, hl_gI, hl_gJ, hl_gsI, hl_gsJ, hl_tv01, if_true, if_false, hl_up_a, hl_row_a, not_true, not_false_eq_true]
      rw [hl_r241_4]
      by_cases q1 : nI a = nI c
      · have ha : hl_acr I0 i c = nI b := by unfold hl_acr; rw [ta, tb, if_pos q1]
        rw [← go (.inr ⟨ha, q1⟩)]
        simp only [hl_r241_5, hl_r241_6, hl_r241_9, hl_r241_10, hl_r241_11, hl_r241_14, hl_r241_17, hl_r241_18, hl_r241_19, hl_r241_20, hl_r241_21, hl_r241_23, hl_r241_24, hl_r241_27, hl_r241_29, hl_r241_30, hl_r241_31, hl_o_85, hl_p_85_3, hl_p_85_4, hl_p_85_5, hl_p_85_6, hl_p_85_19, hl_p_85_23, hl_p_85_24, hl_p_85_25, hl_p_85_26, hl_p_85_27, hl_p_85_28, hl_p_85_29, hl_p_85_30, hl_p_85_31, hl_p_85_33, hl_p_85_34, hl_p_85_35, hl_p_85_36, hl_p_85_37, hl_a_86, hl_z_86, hl_k1, hl_v1, e1, c1, hl_i200, f0, f0', ma, q1, hl_kill_i, hl_kill_r, hl_kill_n, hl_kill_l, hl_tl_s, hl_tl_n, hl_cal_some, hl_gI, hl_gJ, hl_gsI, hl_gsJ, hl_tv01, if_true, if_false, hl_up_a, hl_row_a, not_true, not_false_eq_true]
      · by_cases q2 : nI b = nI c
        · have ha : hl_acr I0 i c = nI a := by unfold hl_acr; rw [ta, tb, if_neg q1, if_pos q2]
          rw [← go (.inl ⟨ha, q2⟩)]
          simp only [hl_r241_5, hl_r241_6, hl_r241_9, hl_r241_10, hl_r241_11, hl_r241_14, hl_r241_17, hl_r241_18, hl_r241_19, hl_r241_20, hl_r241_21, hl_r241_23, hl_r241_24, hl_r241_27, hl_r241_29, hl_r241_30, hl_r241_31, hl_r241_34, hl_r241_35, hl_r241_38, hl_r241_40, hl_r241_41, hl_r241_42, hl_r241_43, hl_r241_44, hl_o_85, hl_p_85_3, hl_p_85_4, hl_p_85_5, hl_p_85_6, hl_p_85_19, hl_p_85_23, hl_p_85_24, hl_p_85_25, hl_p_85_26, hl_p_85_27, hl_p_85_28, hl_p_85_29, hl_p_85_30, hl_p_85_31, hl_p_85_33, hl_p_85_34, hl_p_85_35, hl_p_85_36, hl_p_85_37, hl_a_86, hl_z_86, hl_k1, hl_v1, e1, c1, hl_i200, x1, f0, f0', f1, f1', ma, mb, q1, q2, hl_kill_i, hl_kill_r, hl_kill_n, hl_kill_l, hl_tl_s, hl_tl_n, hl_cal_some, hl_gI, hl_gJ, hl_gsI, hl_gsJ, hl_tv01, if_true, if_false, hl_up_a, hl_row_a, not_true, not_false_eq_true]
        · have ha : hl_acr I0 i c = -1 := by unfold hl_acr; rw [ta, tb, if_neg q1, if_neg q2]
          rw [hs, show hl_alo I0 (hl_hP P) c i = 0 from if_pos ha, Int32.add_zero] at e
          rw [← e]
          simp only [hl_r241_5, hl_r241_6, hl_r241_9, hl_r241_10, hl_r241_11, hl_r241_14, hl_r241_17, hl_r241_18, hl_r241_19, hl_r241_20, hl_r241_21, hl_r241_23, hl_r241_24, hl_r241_27, hl_r241_29, hl_r241_30, hl_r241_31, hl_r241_34, hl_r241_35, hl_r241_38, hl_r241_40, hl_r241_41, hl_r241_42, hl_r241_43, hl_r241_44, hl_r241_88, hl_r241_91, hl_o_85, hl_p_85_3, hl_p_85_4, hl_p_85_5, hl_p_85_6, hl_p_85_19, hl_p_85_23, hl_p_85_24, hl_p_85_25, hl_p_85_26, hl_p_85_27, hl_p_85_28, hl_p_85_29, hl_p_85_30, hl_p_85_31, hl_p_85_33, hl_p_85_34, hl_p_85_35, hl_p_85_36, hl_p_85_37, hl_a_86, hl_z_86, hl_k1, hl_v1, e1, c1, hl_i200, x1, f0, f0', f1, f1', ma, mb, q1, q2, en, hl_kill_i, hl_kill_r, hl_kill_n, hl_kill_l, hl_tl_s, hl_tl_n, hl_cal_some, hl_gI, hl_gJ, hl_gsI, hl_gsJ, hl_tv01, if_true, if_false, hl_up_a, hl_row_a, not_true, not_false_eq_true]
  have e := loop k0 0 .null (by omega)
  rw [hl_e241, hl_r241_0, hl_r241_1, hl_r241_2, hl_r241_3]
  exact e
/-- what years may change on the reference's side -/
def hx_fY (I I' : Nat → Nat → Int32) : Prop := (∀ b, b < 85 ∨ (87 ≤ b ∧ b < 90) ∨ b = 104 → I' b = I b) ∧ ∀ k, k ≠ 32 → I' 85 k = I 85 k
theorem hx_fY_rf (I : Nat → Nat → Int32) : hx_fY I I := ⟨fun _ _ => rfl, fun _ _ => rfl⟩
theorem hx_fY_tr {I1 I2 I3 : Nat → Nat → Int32} (h : hx_fY I1 I2) (g : hx_fY I2 I3) : hx_fY I1 I3 := ⟨fun b hb => (g.1 b hb).trans (h.1 b hb), fun k hk => (g.2 k hk).trans (h.2 k hk)⟩
theorem hx_fY_up {a i : Nat} {v : Int32} (ha : a = 86 ∨ (90 ≤ a ∧ a ≠ 104)) : hx_fY I (hl_up I a i v) := ⟨fun b hb => hl_up_ne _ _ _ (by omega), fun k _ => by rw [hl_up_ne _ _ _ (by omega)]⟩
theorem hx_fY_of (h : ∀ b, b ≠ 86 → b < 90 ∨ b = 104 → I' b = I b) : hx_fY I I' := ⟨fun b hb => h b (by omega) (by omega), fun k _ => by rw [h 85 (by omega) (by omega)]⟩
theorem hx_fR.fY (h : hx_fR I I') : hx_fY I I' := ⟨fun b hb => h.1 b (by omega) (by omega) (by omega) (by omega) (by omega) (by omega) (by omega) (by omega), h.2⟩
theorem hx_fY.vw (h : hx_fY I I') (hv : hl_vw K I) (e : I' 86 = K' 86) (e5 : K' 85 = K 85) (e8 : K' 88 = K 88) : hl_vw K' I' := ⟨fun k hk => by rw [h.2 k (by omega), hv.1 k hk, e5], e, by rw [h.1 88 (by omega), hv.2.2, e8]⟩
theorem hx_bnd1 {v : Int64} (h1 : -1000000 ≤ v.toInt) (h2 : v.toInt ≤ 1000000) : hl_bnd v.toInt32 (-100) 100 = if v < -100 then -100 else if 100 < v then 100 else v.toInt32 := by
  have e : v.toInt32.toInt = v.toInt := by rw [Int64.toInt_toInt32, Int.bmod_eq_of_le (by omega) (by omega)]
  have e0 : (-100 : Int32).toInt = -100 := rfl
  have e9 : (100 : Int32).toInt = 100 := rfl
  have f0 : (-100 : Int64).toInt = -100 := rfl
  have f9 : (100 : Int64).toInt = 100 := rfl
  unfold hl_bnd
  by_cases c1 : v < -100
  · rw [if_pos c1, if_pos]
    rw [Int32.lt_iff_toInt_lt, e, e0]
    rw [Int64.lt_iff_toInt_lt, f0] at c1
    exact c1
  · rw [if_neg c1, if_neg]
    · by_cases c2 : 100 < v
      · rw [if_pos c2, if_pos]
        rw [Int32.lt_iff_toInt_lt, e, e9]
        rw [Int64.lt_iff_toInt_lt, f9] at c2
        exact c2
      · rw [if_neg c2, if_neg]
        rw [Int32.lt_iff_toInt_lt, e, e9]
        rw [Int64.lt_iff_toInt_lt, f9] at c2
        exact c2
    · rw [Int32.lt_iff_toInt_lt, e, e0]
      rw [Int64.lt_iff_toInt_lt, f0] at c1
      exact c1
theorem hx_bnd2 (x : Int32) : hl_bnd x 0 999 = if 0 ≤ x then (if x ≤ 999 then x else 999) else 0 := by
  unfold hl_bnd
  by_cases c1 : x < 0
  · rw [if_pos c1, if_neg (Int32.not_le.mpr c1)]
  · rw [if_neg c1, if_pos (Int32.not_lt.mp c1)]
    by_cases c2 : 999 < x
    · rw [if_pos c2, if_neg (Int32.not_le.mpr c2)]
    · rw [if_neg c2, if_pos (Int32.not_lt.mp c2)]
theorem hx_gp_0 (hCo : hl_Co N W H K) (hN : N ≤ 24) {c : Nat} (hc : c < N) (h : hl_has K 1 = false) : hx_gp K cn c = K 3 c := by
  have b := (hCo.2.1.2.2.2.2.2.2.2.2.2.1 c hc).2.1
  unfold hl_Sv at b
  rw [← hCo.people hN hc] at b
  have e0 : (0 : Int32).toInt = 0 := rfl
  have e9 : (999 : Int32).toInt = 999 := rfl
  have z : (0 : Int32) / 100 = 0 := by decide
  unfold hx_gp hx_gw
  rw [h, if_pos rfl, Int32.mul_zero, z, Int32.add_zero, hx_bnd2, if_pos (by rw [Int32.le_iff_toInt_le, e0]; exact b.1), if_pos (by rw [Int32.le_iff_toInt_le, e9]; exact b.2)]
/-- one cell -/
theorem hx_l253 (hCo : hl_Co N W H K) (hN : N ≤ 24) (hs : hl_Sv K 86 0 = (nh : Int)) (n0 : 0 < nh) (ts : hl_Sv K 86 1 = (cn : Int)) (hP : ∀ c, c < N → P c < nh ∧ K 8 c = nI (P c)) (f : Nat) : ∀ (I : Nat → Nat → Int32) (J : Nat → Nat → Int64) (i : Nat) (l2 l3 : Value), i + f = N → hl_vw K I → (∀ c, c < N → I 94 c = nI (P c)) → (∀ c, c < i → I 103 c = hx_gp K cn c) → ∃ I' J' l2' l3', hl_Run 253 (hl_call (d + 5)) 6 [.ref 85, .int (nI i), l2, l3] [] (hl_g N I J) = hl_Run 253 (hl_call (d + 5)) 156 [.ref 85, .int (nI N), l2', l3'] [] (hl_g N I' J') ∧ (∀ c, c < N → I' 103 c = hx_gp K cn c) ∧ ∀ b, b < 91 ∨ b = 104 → I' b = I b := by
  have n4 : nh ≤ 4 := by have := hCo.2.1.2.1.2; omega
  have n100 : ¬ (100 : Int32) = 0 := by decide
  induction f with
  | zero =>
    intro I J i l2 l3 hi hv h94 h103
    obtain rfl : i = N := by omega
    refine ⟨I, J, l2, l3, ?_, h103, fun _ _ => rfl⟩
    have hM : I 85 2 = nI i := by rw [hv.1 2 (by omega)]; exact hCo.mM
    simp only [hl_r253_6, hl_r253_7, hl_r253_8, hl_r253_11, hl_o_85, hl_p_85_3, hl_p_85_4, hl_p_85_5, hl_p_85_6, hl_p_85_19, hl_p_85_23, hl_p_85_24, hl_p_85_25, hl_p_85_26, hl_p_85_27, hl_p_85_28, hl_p_85_29, hl_p_85_30, hl_p_85_31, hl_p_85_33, hl_p_85_34, hl_p_85_35, hl_p_85_36, hl_p_85_37, hM, Int32.le_refl, hl_kill_i, hl_kill_r, hl_kill_n, hl_kill_l, hl_tl_s, hl_tl_n, hl_cal_some, hl_gI, hl_gJ, hl_gsI, hl_gsJ, hl_tv01, if_true, if_false, hl_up_a, hl_row_a, not_true, not_false_eq_true]
  | succ f ih =>
    intro I J i l2 l3 hi hv h94 h103
    have hM : I 85 2 = nI N := by rw [hv.1 2 (by omega)]; exact hCo.mM
    have c1 : ¬ nI N ≤ nI i := nI_ge (by omega) (by omega)
    have en : nI i + 1 = nI (i + 1) := (nI_succ i).symm
    have bi : hl_inb (nI i) 24 = true := hl_inb_nI (by omega) (by omega)
    have o1 := hl_of1 (d := d + 4) (N := N) (I := I) (J := J) (c := i) (by omega)
    have ep : I 86 (30 + 7 * i + 1) = K 3 i := by rw [hv.2.1]; exact (hCo.people hN (by omega)).symm
    rw [ep] at o1
    have v1 : hl_vw K (hl_up I 103 i (K 3 i)) := hl_vw_tr hv (hl_Tm_up (by omega)).vw
    have s202 : hl_call (d + 5) 202 [.ref 85, .int 1] (hl_g N (hl_up I 103 i (K 3 i)) J) = some (some (.int (hl_tv (hl_has K 1))), hl_g N (hl_up I 103 i (K 3 i)) J) := hl_s202 (d := d + 4) (cl := 1) hCo v1 (by decide)
    cases h1 : hl_has K 1 with
    | false =>
      rw [h1] at s202
      obtain ⟨I2, J2, m2, m3, e2, k2, f2⟩ := ih (hl_up I 103 i (K 3 i)) J (i + 1) l2 l3 (by omega) v1 (fun c hc => by rw [hl_up_ne _ _ _ (by omega)]; exact h94 c hc) (fun c hc => by
        rw [hl_up_a, if_pos rfl]
        by_cases z : c = i
        · rw [if_pos z, z]; exact (hx_gp_0 hCo hN (by omega) h1).symm
        · rw [if_neg z]; exact h103 c (by omega))
      refine ⟨I2, J2, m2, m3, ?_, k2, fun b hb => by rw [f2 b hb, hl_up_ne _ _ _ (by omega)]⟩
      rw [← e2, hl_r253_6]
      simp only [hl_r253_7, hl_r253_8, hl_r253_11, hl_r253_14, hl_r253_15, hl_r253_18, hl_r253_19, hl_r253_20, hl_r253_21, hl_r253_22, hl_r253_25, hl_r253_26, hl_r253_27, hl_r253_28, hl_r253_31, hl_r253_34, hl_r253_150, hl_r253_153, hl_o_85, hl_p_85_3, hl_p_85_4, hl_p_85_5, hl_p_85_6, hl_p_85_19, hl_p_85_23, hl_p_85_24, hl_p_85_25, hl_p_85_26, hl_p_85_27, hl_p_85_28, hl_p_85_29, hl_p_85_30, hl_p_85_31, hl_p_85_33, hl_p_85_34, hl_p_85_35, hl_p_85_36, hl_p_85_37, hl_a_103, hl_z_103, hM, c1, o1, bi, hl_cq (show i < 10000 by omega), s202, hl_tv_f, en, hl_kill_i, hl_kill_r, hl_kill_n, hl_kill_l, hl_tl_s, hl_tl_n, hl_cal_some, hl_gI, hl_gJ, hl_gsI, hl_gsJ, hl_tv01, if_true, if_false, hl_up_a, hl_row_a, not_true, not_false_eq_true]
      try rw [hl_r253_6]
    | true =>
      rw [h1] at s202
      have s241 := hx_s241 (d := d + 4) (J := J) hCo hN n4 ts v1 (P := P) (fun c hc => ⟨(hP c hc).1, by rw [hl_up_ne _ _ _ (by omega)]; exact h94 c hc⟩) (show i < N by omega)
      obtain ⟨pi1, pi2⟩ := hP i (by omega)
      have dB := hl_drN_B (P := P) hCo hN ts i
      have edr : hl_drN K cn P i = hl_sum cn (hl_alo K (K 8) i) := hl_sum_congr (fun k hk => hl_alo_congr (g' := hl_hP P) (g := K 8) hCo hN ts hk (by omega) (fun q hq => (hP q hq).2.symm))
      obtain ⟨I3, e3, f3, n3⟩ := hl_s208 (d := d) (I := hl_up I 103 i (K 3 i)) (J := J) (al := hl_drN K cn P i) (m := 0) (c := i) (h := P i) hCo v1 hN (by omega) (by omega) (by decide)
      have v3 : hl_vw K I3 := ⟨fun k hk => by rw [f3 85 (by omega)]; exact v1.1 k hk, by rw [f3 86 (by omega)]; exact v1.2.1, by rw [f3 88 (by omega)]; exact v1.2.2⟩
      obtain ⟨I4, J4, e4, f4, g4, t4⟩ := hl_s203v (d := d + 2) (J := J) (cl := 1) (c := i) (h := P i) (m := 0) hCo v3 hN (by omega) (by omega) (by decide) (by decide) dB n3 h1
      rw [if_neg (by decide)] at t4
      obtain ⟨t5, t6, t7⟩ := t4
      have e3' : hl_call (d + 5) 208 [.ref 85, .int (nI i), .int (nI (P i)), .int 0, .int (hl_drN K cn P i)] (hl_g N (hl_up I 103 i (K 3 i)) J) = some (none, hl_g N I3 J) := e3
      have e4' : hl_call (d + 5) 203 [.ref 85, .int 1] (hl_g N I3 J) = some (none, hl_g N I4 J4) := e4
      have gw : hx_gw K cn i = if J4 92 0 < -100 then -100 else if 100 < J4 92 0 then 100 else (J4 92 0).toInt32 := by
        unfold hx_gw
        rw [h1, if_neg (by decide), pi2, hl_cq (by omega), ← edr, t5, hx_bnd1 t6 t7]
      have f34 : ∀ b, b ≠ 91 → b ≠ 93 → b ≠ 103 → I4 b = I b := fun b h1 h2 h3 => by rw [f4 b h2, f3 b h1, hl_up_ne _ _ _ h3]
      have a103 : ∀ j, I4 103 j = if j = i then K 3 i else I 103 j := fun j => by rw [f4 103 (by omega), f3 103 (by omega), hl_up_a, if_pos rfl]
      have at103 : I4 103 i = K 3 i := by rw [a103, if_pos rfl]
      have q94 : hl_up I 103 i (K 3 i) 94 i = nI (P i) := by rw [hl_up_ne _ _ _ (by omega)]; exact h94 i (by omega)
      -- up to the growth
      have stA : hl_Run 253 (hl_call (d + 5)) 6 [.ref 85, .int (nI i), l2, l3] [] (hl_g N I J) = hl_Run 253 (hl_call (d + 5)) 59 [.ref 85, .int (nI i), l2, l3] [] (hl_g N I4 J4) := by
        simp only [hl_r253_6, hl_r253_7, hl_r253_8, hl_r253_11, hl_r253_14, hl_r253_15, hl_r253_18, hl_r253_19, hl_r253_20, hl_r253_21, hl_r253_22, hl_r253_25, hl_r253_26, hl_r253_27, hl_r253_28, hl_r253_31, hl_r253_34, hl_r253_37, hl_r253_38, hl_r253_39, hl_r253_40, hl_r253_43, hl_r253_44, hl_r253_45, hl_r253_46, hl_r253_47, hl_r253_48, hl_r253_51, hl_r253_54, hl_r253_55, hl_r253_56, hl_o_85, hl_p_85_3, hl_p_85_4, hl_p_85_5, hl_p_85_6, hl_p_85_19, hl_p_85_23, hl_p_85_24, hl_p_85_25, hl_p_85_26, hl_p_85_27, hl_p_85_28, hl_p_85_29, hl_p_85_30, hl_p_85_31, hl_p_85_33, hl_p_85_34, hl_p_85_35, hl_p_85_36, hl_p_85_37, hl_a_94, hl_z_94, hl_a_103, hl_z_103, hM, c1, o1, bi, hl_cq (show i < 10000 by omega), s202, hl_tv_t, hl_10, q94, s241, e3', e4', hl_tl_n, hl_kill_i, hl_kill_r, hl_kill_n, hl_kill_l, hl_tl_s, hl_tl_n, hl_cal_some, hl_gI, hl_gJ, hl_gsI, hl_gsJ, hl_tv01, if_true, if_false, hl_up_a, hl_row_a, not_true, not_false_eq_true]
      have stB : hl_Run 253 (hl_call (d + 5)) 59 [.ref 85, .int (nI i), l2, l3] [] (hl_g N I4 J4) = hl_Run 253 (hl_call (d + 5)) 103 [.ref 85, .int (nI i), .int (hx_gw K cn i), l3] [] (hl_g N I4 J4) := by
        by_cases q1 : J4 92 0 < -100
        · have q1' : ¬ -100 ≤ J4 92 0 := Int64.not_le.mpr q1
          rw [if_pos q1] at gw
          rw [gw]
          simp only [hl_r253_59, hl_r253_60, hl_r253_63, hl_r253_64, hl_r253_65, hl_r253_68, hl_r253_69, hl_r253_72, hl_r253_74, hl_r253_77, hl_r253_78, hl_r253_81, hl_r253_82, hl_r253_83, hl_r253_86, hl_r253_87, hl_r253_90, hl_r253_92, hl_r253_95, hl_r253_96, hl_r253_99, hl_r253_100, hl_r253_101, hl_r253_102, hl_o_85, hl_p_85_3, hl_p_85_4, hl_p_85_5, hl_p_85_6, hl_p_85_19, hl_p_85_23, hl_p_85_24, hl_p_85_25, hl_p_85_26, hl_p_85_27, hl_p_85_28, hl_p_85_29, hl_p_85_30, hl_p_85_31, hl_p_85_33, hl_p_85_34, hl_p_85_35, hl_p_85_36, hl_p_85_37, hl_a_92, hl_z_92, hl_k330, hl_v0, hl_lcmp_ge0, q1', hl_kill_i, hl_kill_r, hl_kill_n, hl_kill_l, hl_tl_s, hl_tl_n, hl_cal_some, hl_gI, hl_gJ, hl_gsI, hl_gsJ, hl_tv01, if_true, if_false, hl_up_a, hl_row_a, not_true, not_false_eq_true]
        · have q1' : -100 ≤ J4 92 0 := Int64.not_lt.mp q1
          rw [if_neg q1] at gw
          by_cases q2 : 100 < J4 92 0
          · have q2' : ¬ J4 92 0 ≤ 100 := Int64.not_le.mpr q2
            rw [if_pos q2] at gw
            rw [gw]
            simp only [hl_r253_59, hl_r253_60, hl_r253_63, hl_r253_64, hl_r253_65, hl_r253_68, hl_r253_69, hl_r253_72, hl_r253_74, hl_r253_77, hl_r253_78, hl_r253_81, hl_r253_82, hl_r253_83, hl_r253_86, hl_r253_87, hl_r253_90, hl_r253_92, hl_r253_95, hl_r253_96, hl_r253_99, hl_r253_100, hl_r253_101, hl_r253_102, hl_o_85, hl_p_85_3, hl_p_85_4, hl_p_85_5, hl_p_85_6, hl_p_85_19, hl_p_85_23, hl_p_85_24, hl_p_85_25, hl_p_85_26, hl_p_85_27, hl_p_85_28, hl_p_85_29, hl_p_85_30, hl_p_85_31, hl_p_85_33, hl_p_85_34, hl_p_85_35, hl_p_85_36, hl_p_85_37, hl_a_92, hl_z_92, hl_k330, hl_v0, hl_lcmp_ge0, hl_lcmp_le0, q1', q2', hl_kill_i, hl_kill_r, hl_kill_n, hl_kill_l, hl_tl_s, hl_tl_n, hl_cal_some, hl_gI, hl_gJ, hl_gsI, hl_gsJ, hl_tv01, if_true, if_false, hl_up_a, hl_row_a, not_true, not_false_eq_true]
          · have q2' : J4 92 0 ≤ 100 := Int64.not_lt.mp q2
            rw [if_neg q2] at gw
            rw [gw]
            simp only [hl_r253_59, hl_r253_60, hl_r253_63, hl_r253_64, hl_r253_65, hl_r253_68, hl_r253_69, hl_r253_72, hl_r253_74, hl_r253_77, hl_r253_78, hl_r253_81, hl_r253_82, hl_r253_83, hl_r253_86, hl_r253_87, hl_r253_90, hl_r253_92, hl_r253_95, hl_r253_96, hl_r253_99, hl_r253_100, hl_r253_101, hl_r253_102, hl_o_85, hl_p_85_3, hl_p_85_4, hl_p_85_5, hl_p_85_6, hl_p_85_19, hl_p_85_23, hl_p_85_24, hl_p_85_25, hl_p_85_26, hl_p_85_27, hl_p_85_28, hl_p_85_29, hl_p_85_30, hl_p_85_31, hl_p_85_33, hl_p_85_34, hl_p_85_35, hl_p_85_36, hl_p_85_37, hl_a_92, hl_z_92, hl_k330, hl_v0, hl_lcmp_ge0, hl_lcmp_le0, q1', q2', hl_kill_i, hl_kill_r, hl_kill_n, hl_kill_l, hl_tl_s, hl_tl_n, hl_cal_some, hl_gI, hl_gJ, hl_gsI, hl_gsJ, hl_tv01, if_true, if_false, hl_up_a, hl_row_a, not_true, not_false_eq_true]
      have egp : hx_gp K cn i = hl_bnd (K 3 i + K 3 i * hx_gw K cn i / 100) 0 999 := rfl
      rw [hx_bnd2] at egp
      have stC : hl_Run 253 (hl_call (d + 5)) 103 [.ref 85, .int (nI i), .int (hx_gw K cn i), l3] [] (hl_g N I4 J4) = hl_Run 253 (hl_call (d + 5)) 150 [.ref 85, .int (nI i), .int (hx_gw K cn i), .int (K 3 i + K 3 i * hx_gw K cn i / 100)] [] (hl_g N (hl_up I4 103 i (hx_gp K cn i)) J4) := by
        generalize hx : K 3 i + K 3 i * hx_gw K cn i / 100 = x at egp
        by_cases q1 : 0 ≤ x
        · rw [if_pos q1] at egp
          by_cases q2 : x ≤ 999
          · rw [if_pos q2] at egp
            rw [egp]
            simp only [hl_r253_103, hl_r253_104, hl_r253_107, hl_r253_108, hl_r253_109, hl_r253_110, hl_r253_113, hl_r253_114, hl_r253_115, hl_r253_116, hl_r253_117, hl_r253_119, hl_r253_120, hl_r253_121, hl_r253_122, hl_r253_123, hl_r253_126, hl_r253_127, hl_r253_128, hl_r253_131, hl_r253_132, hl_r253_135, hl_r253_136, hl_r253_139, hl_r253_142, hl_r253_145, hl_r253_148, hl_r253_149, hl_o_85, hl_p_85_3, hl_p_85_4, hl_p_85_5, hl_p_85_6, hl_p_85_19, hl_p_85_23, hl_p_85_24, hl_p_85_25, hl_p_85_26, hl_p_85_27, hl_p_85_28, hl_p_85_29, hl_p_85_30, hl_p_85_31, hl_p_85_33, hl_p_85_34, hl_p_85_35, hl_p_85_36, hl_p_85_37, hl_a_103, hl_z_103, bi, hl_cq (show i < 10000 by omega), at103, n100, hx, q1, q2, hl_kill_i, hl_kill_r, hl_kill_n, hl_kill_l, hl_tl_s, hl_tl_n, hl_cal_some, hl_gI, hl_gJ, hl_gsI, hl_gsJ, hl_tv01, if_true, if_false, hl_up_a, hl_row_a, not_true, not_false_eq_true]
          · rw [if_neg q2] at egp
            rw [egp]
            simp only [hl_r253_103, hl_r253_104, hl_r253_107, hl_r253_108, hl_r253_109, hl_r253_110, hl_r253_113, hl_r253_114, hl_r253_115, hl_r253_116, hl_r253_117, hl_r253_119, hl_r253_120, hl_r253_121, hl_r253_122, hl_r253_123, hl_r253_126, hl_r253_127, hl_r253_128, hl_r253_131, hl_r253_132, hl_r253_135, hl_r253_136, hl_r253_139, hl_r253_142, hl_r253_145, hl_r253_148, hl_r253_149, hl_o_85, hl_p_85_3, hl_p_85_4, hl_p_85_5, hl_p_85_6, hl_p_85_19, hl_p_85_23, hl_p_85_24, hl_p_85_25, hl_p_85_26, hl_p_85_27, hl_p_85_28, hl_p_85_29, hl_p_85_30, hl_p_85_31, hl_p_85_33, hl_p_85_34, hl_p_85_35, hl_p_85_36, hl_p_85_37, hl_a_103, hl_z_103, bi, hl_cq (show i < 10000 by omega), at103, n100, hx, q1, q2, hl_kill_i, hl_kill_r, hl_kill_n, hl_kill_l, hl_tl_s, hl_tl_n, hl_cal_some, hl_gI, hl_gJ, hl_gsI, hl_gsJ, hl_tv01, if_true, if_false, hl_up_a, hl_row_a, not_true, not_false_eq_true]
        · rw [if_neg q1] at egp
          rw [egp]
          simp only [hl_r253_103, hl_r253_104, hl_r253_107, hl_r253_108, hl_r253_109, hl_r253_110, hl_r253_113, hl_r253_114, hl_r253_115, hl_r253_116, hl_r253_117, hl_r253_119, hl_r253_120, hl_r253_121, hl_r253_122, hl_r253_123, hl_r253_126, hl_r253_127, hl_r253_128, hl_r253_131, hl_r253_132, hl_r253_135, hl_r253_136, hl_r253_139, hl_r253_142, hl_r253_145, hl_r253_148, hl_r253_149, hl_o_85, hl_p_85_3, hl_p_85_4, hl_p_85_5, hl_p_85_6, hl_p_85_19, hl_p_85_23, hl_p_85_24, hl_p_85_25, hl_p_85_26, hl_p_85_27, hl_p_85_28, hl_p_85_29, hl_p_85_30, hl_p_85_31, hl_p_85_33, hl_p_85_34, hl_p_85_35, hl_p_85_36, hl_p_85_37, hl_a_103, hl_z_103, bi, hl_cq (show i < 10000 by omega), at103, n100, hx, q1, hl_kill_i, hl_kill_r, hl_kill_n, hl_kill_l, hl_tl_s, hl_tl_n, hl_cal_some, hl_gI, hl_gJ, hl_gsI, hl_gsJ, hl_tv01, if_true, if_false, hl_up_a, hl_row_a, not_true, not_false_eq_true]
      have v5 : hl_vw K (hl_up I4 103 i (hx_gp K cn i)) := ⟨fun k hk => by rw [hl_up_ne _ _ _ (by omega), f34 85 (by omega) (by omega) (by omega)]; exact hv.1 k hk, by rw [hl_up_ne _ _ _ (by omega), f34 86 (by omega) (by omega) (by omega)]; exact hv.2.1, by rw [hl_up_ne _ _ _ (by omega), f34 88 (by omega) (by omega) (by omega)]; exact hv.2.2⟩
      obtain ⟨I5, J5, m2, m3, e5, k5, f5⟩ := ih (hl_up I4 103 i (hx_gp K cn i)) J4 (i + 1) (.int (hx_gw K cn i)) (.int (K 3 i + K 3 i * hx_gw K cn i / 100)) (by omega) v5 (fun c hc => by rw [hl_up_ne _ _ _ (by omega), f34 94 (by omega) (by omega) (by omega)]; exact h94 c hc) (fun c hc => by
        rw [hl_up_a, if_pos rfl]
        by_cases z : c = i
        · rw [if_pos z, z]
        · rw [if_neg z, a103, if_neg z]; exact h103 c (by omega))
      refine ⟨I5, J5, m2, m3, ?_, k5, fun b hb => by rw [f5 b hb, hl_up_ne _ _ _ (by omega), f34 b (by omega) (by omega) (by omega)]⟩
      rw [stA, stB, stC, ← e5]
      simp only [hl_r253_150, hl_r253_153, en, hl_kill_i, hl_kill_r, hl_kill_n, hl_kill_l, hl_tl_s, hl_tl_n, hl_cal_some, hl_gI, hl_gJ, hl_gsI, hl_gsJ, hl_tv01, if_true, if_false, hl_up_a, hl_row_a, not_true, not_false_eq_true]
/-- the land's row of people -/
theorem hx_l253w {c : hl_C} {l2 l3 : Value} {g : Nat → Int32} (hN : N ≤ 24) (f : Nat) : ∀ (I : Nat → Nat → Int32) (i : Nat), i + f = N → I 85 2 = nI N → (∀ c, c < N → I 103 c = g c) → I 86 = hx_it K 1 g i 86 → ∃ I', hl_Run 253 c 158 [.ref 85, .int (nI i), l2, l3] [] (hl_g N I J) = some (none, hl_g N I' J) ∧ I' 86 = hx_it K 1 g N 86 ∧ ∀ b, b ≠ 86 → I' b = I b := by
  induction f with
  | zero =>
    intro I i hi hM h103 h86
    obtain rfl : i = N := by omega
    refine ⟨I, ?_, h86, fun _ _ => rfl⟩
    simp only [hl_r253_158, hl_r253_159, hl_r253_160, hl_r253_163, hl_r253_192, hl_o_85, hl_p_85_3, hl_p_85_4, hl_p_85_5, hl_p_85_6, hl_p_85_19, hl_p_85_23, hl_p_85_24, hl_p_85_25, hl_p_85_26, hl_p_85_27, hl_p_85_28, hl_p_85_29, hl_p_85_30, hl_p_85_31, hl_p_85_33, hl_p_85_34, hl_p_85_35, hl_p_85_36, hl_p_85_37, hM, Int32.le_refl, hl_kill_i, hl_kill_r, hl_kill_n, hl_kill_l, hl_tl_s, hl_tl_n, hl_cal_some, hl_gI, hl_gJ, hl_gsI, hl_gsJ, hl_tv01, if_true, if_false, hl_up_a, hl_row_a, not_true, not_false_eq_true]
  | succ f ih =>
    intro I i hi hM h103 h86
    have c1 : ¬ nI N ≤ nI i := nI_ge (by omega) (by omega)
    have en : nI i + 1 = nI (i + 1) := (nI_succ i).symm
    have bi : hl_inb (nI i) 24 = true := hl_inb_nI (by omega) (by omega)
    have b5 := hl_b490 (show 30 + 7 * i + 1 < 490 by omega)
    obtain ⟨I1, e1, g1, g2⟩ := ih (hl_up I 86 (30 + 7 * i + 1) (g i)) (i + 1) (by omega) (by rw [hl_up_ne _ _ _ (by omega)]; exact hM) (fun c hc => by rw [hl_up_ne _ _ _ (by omega)]; exact h103 c hc) (by
      funext j
      show _ = hl_up (hl_up (hx_it K 1 g i) (2 + 1) i (g i)) 86 (30 + 7 * i + 1) (g i) 86 j
      rw [hl_up_a, if_pos rfl, hl_up_a, if_pos rfl, hl_up_ne _ _ _ (show 86 ≠ 2 + 1 by omega), h86])
    refine ⟨I1, ?_, g1, fun b hb => by rw [g2 b hb, hl_up_ne _ _ _ hb]⟩
    rw [← e1, hl_r253_158]
    simp only [hl_r253_159, hl_r253_160, hl_r253_163, hl_r253_166, hl_r253_167, hl_r253_170, hl_r253_172, hl_r253_174, hl_r253_175, hl_r253_176, hl_r253_177, hl_r253_178, hl_r253_179, hl_r253_180, hl_r253_183, hl_r253_184, hl_r253_185, hl_r253_186, hl_r253_189, hl_o_85, hl_p_85_3, hl_p_85_4, hl_p_85_5, hl_p_85_6, hl_p_85_19, hl_p_85_23, hl_p_85_24, hl_p_85_25, hl_p_85_26, hl_p_85_27, hl_p_85_28, hl_p_85_29, hl_p_85_30, hl_p_85_31, hl_p_85_33, hl_p_85_34, hl_p_85_35, hl_p_85_36, hl_p_85_37, hl_a_86, hl_z_86, hl_a_103, hl_z_103, hM, c1, hl_ix1, b5, bi, hl_cq (show i < 10000 by omega), hl_cq (show 30 + 7 * i + 1 < 10000 by omega), h103 i (by omega), en, hl_kill_i, hl_kill_r, hl_kill_n, hl_kill_l, hl_tl_s, hl_tl_n, hl_cal_some, hl_gI, hl_gJ, hl_gsI, hl_gsJ, hl_tv01, if_true, if_false, hl_up_a, hl_row_a, not_true, not_false_eq_true]
    try rw [hl_r253_158]
theorem hx_s253 (hCo : hl_Co N W H K) (hN : N ≤ 24) (hs : hl_Sv K 86 0 = (nh : Int)) (n0 : 0 < nh) (ts : hl_Sv K 86 1 = (cn : Int)) (hv : hl_vw K I) : ∃ I' J', hl_call (d + 6) 253 [.ref 85] (hl_g N I J) = some (none, hl_g N I' J') ∧ hl_vw (hx_it K 1 (hx_gp K cn) N) I' ∧ hx_fY I I' := by
  have hM : I 85 2 = nI N := by rw [hv.1 2 (by omega)]; exact hCo.mM
  have ex : ∀ c, ∃ p, c < N → p < nh ∧ K 8 c = nI p := fun c => by
    by_cases z : c < N
    · obtain ⟨p, p1, p2, -⟩ := hCo.part hN hs n0 z
      exact ⟨p, fun _ => ⟨p1, p2⟩⟩
    · exact ⟨0, fun q => absurd q z⟩
  obtain ⟨P, hP⟩ := Classical.axiomOfChoice ex
  obtain ⟨I1, e1, f1, k1⟩ := hl_s212 (d := d + 3) (I := I) (J := J) hN hM
  have v1 : hl_vw K I1 := ⟨fun k hk => by rw [f1 85 (by omega)]; exact hv.1 k hk, by rw [f1 86 (by omega)]; exact hv.2.1, by rw [f1 88 (by omega)]; exact hv.2.2⟩
  obtain ⟨I2, J2, m2, m3, e2, k2, f2⟩ := hx_l253 (d := d) (P := P) hCo hN hs n0 ts hP N I1 J 0 .null .null (by omega) v1 (fun c hc => by
    rw [k1 c hc, hv.2.1]
    obtain ⟨p, p1, p2, p3⟩ := hCo.part hN hs n0 hc
    rw [p3, ← p2]
    exact (hP c hc).2) (fun c hc => absurd hc (Nat.not_lt_zero c))
  obtain ⟨I3, e3, g3, f3⟩ := hx_l253w (K := K) (J := J2) (c := hl_call (d + 5)) (l2 := m2) (l3 := m3) (g := hx_gp K cn) hN N I2 0 (by omega) (by rw [f2 85 (by omega), f1 85 (by omega)]; exact hM) k2 (by rw [f2 86 (by omega)]; exact v1.2.1)
  have fy : hx_fY I I3 := hx_fY_of (fun b h1 h2 => by rw [f3 b h1, f2 b (by omega), f1 b (by omega)])
  refine ⟨I3, J2, ?_, fy.vw hv g3 (hx_it_ne N 85 (by omega) (by omega)) (hx_it_ne N 88 (by omega) (by omega)), fy⟩
  have z0 : nI 0 = 0 := rfl
  rw [z0] at e2 e3
  rw [← e3, hl_e253]
  have s1 : hl_Run 253 (hl_call (d + 5)) 0 [.ref 85, .null, .null, .null] [] (hl_g N I J) = hl_Run 253 (hl_call (d + 5)) 6 [.ref 85, .int 0, .null, .null] [] (hl_g N I1 J) := by
    simp only [hl_r253_0, hl_r253_1, hl_r253_4, hl_r253_5, hl_o_85, hl_p_85_3, hl_p_85_4, hl_p_85_5, hl_p_85_6, hl_p_85_19, hl_p_85_23, hl_p_85_24, hl_p_85_25, hl_p_85_26, hl_p_85_27, hl_p_85_28, hl_p_85_29, hl_p_85_30, hl_p_85_31, hl_p_85_33, hl_p_85_34, hl_p_85_35, hl_p_85_36, hl_p_85_37, e1, hl_tl_n, hl_kill_i, hl_kill_r, hl_kill_n, hl_kill_l, hl_tl_s, hl_tl_n, hl_cal_some, hl_gI, hl_gJ, hl_gsI, hl_gsJ, hl_tv01, if_true, if_false, hl_up_a, hl_row_a, not_true, not_false_eq_true]
  rw [s1, e2]
  simp only [hl_r253_156, hl_r253_157, hl_kill_i, hl_kill_r, hl_kill_n, hl_kill_l, hl_tl_s, hl_tl_n, hl_cal_some, hl_gI, hl_gJ, hl_gsI, hl_gsJ, hl_tv01, if_true, if_false, hl_up_a, hl_row_a, not_true, not_false_eq_true]
end HXGRO2
