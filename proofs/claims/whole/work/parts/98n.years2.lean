/-! years: the reference, the pair -/
section HXYEAR2
variable {d N W H nh cn : Nat} {I I' I0 K K' : Nat → Nat → Int32} {J J' : Nat → Nat → Int64} {an : Bool}
theorem hx_Y1_ne (y : hx_Y1 N nh cn an K K') : ∀ b, b ≠ 3 → b ≠ 8 → b ≠ 86 → K' b = K b := by
  have g : ∀ b, b ≠ 3 → b ≠ 8 → b ≠ 86 → hx_Kg N cn K b = K b := fun b h3 _ h6 => hx_it_ne N b (by omega) h6
  intro b h3 h8 h6
  rcases y with ⟨-, e⟩ | ⟨-, p, hr, S, ⟨-, e⟩ | ⟨-, hh, e⟩⟩
  · rw [e]; exact g b h3 h8 h6
  · rw [e]; exact g b h3 h8 h6
  · rw [e, hx_it_ne N b (by omega) h6]; exact g b h3 h8 h6
theorem hx_YN_ne (n : Nat) : ∀ K, hx_YN N nh cn an n K K' → ∀ b, b ≠ 3 → b ≠ 8 → b ≠ 86 → K' b = K b := by
  induction n with
  | zero => intro K h b _ _ _; rw [show K' = K from h]
  | succ n ih =>
    intro K h b h3 h8 h6
    obtain ⟨K1, y, h1⟩ := h
    rw [ih K1 h1 b h3 h8 h6, hx_Y1_ne y b h3 h8 h6]
theorem hx_l254a {c : hl_C} {n av : Int32} {l4 : Value} (hN : N ≤ 24) (hM : K 85 2 = nI N) (f : Nat) : ∀ (I : Nat → Nat → Int32) (i : Nat), i + f = N → hl_vw K I → (∀ c, c < i → I 104 c = K 86 (30 + 7 * c + 6)) → ∃ I', hl_Run 254 (hl_call (d + 1)) 23 [.ref 85, .int n, .int av, .int (nI i), l4] [] (hl_g N I J) = hl_Run 254 (hl_call (d + 1)) 50 [.ref 85, .int n, .int av, .int (nI N), l4] [] (hl_g N I' J) ∧ (∀ c, c < N → I' 104 c = K 86 (30 + 7 * c + 6)) ∧ ∀ b, b ≠ 104 → I' b = I b := by
  induction f with
  | zero =>
    intro I i hi hv h4
    obtain rfl : i = N := by omega
    refine ⟨I, ?_, h4, fun _ _ => rfl⟩
    have e2 : I 85 2 = nI i := by rw [hv.1 2 (by omega)]; exact hM
    simp only [hl_r254_23, hl_r254_24, hl_r254_25, hl_r254_28, hl_o_85, hl_p_85_3, hl_p_85_4, hl_p_85_5, hl_p_85_6, hl_p_85_19, hl_p_85_23, hl_p_85_24, hl_p_85_25, hl_p_85_26, hl_p_85_27, hl_p_85_28, hl_p_85_29, hl_p_85_30, hl_p_85_31, hl_p_85_33, hl_p_85_34, hl_p_85_35, hl_p_85_36, hl_p_85_37, e2, Int32.le_refl, hl_kill_i, hl_kill_r, hl_kill_n, hl_kill_l, hl_tl_s, hl_tl_n, hl_cal_some, hl_gI, hl_gJ, hl_gsI, hl_gsJ, hl_tv01, if_true, if_false, hl_up_a, hl_row_a, not_true, not_false_eq_true]
  | succ f ih =>
    intro I i hi hv h4
    have e2 : I 85 2 = nI N := by rw [hv.1 2 (by omega)]; exact hM
    have c1 : ¬ nI N ≤ nI i := nI_ge (by omega) (by omega)
    have en : nI i + 1 = nI (i + 1) := (nI_succ i).symm
    have bi : hl_inb (nI i) 24 = true := hl_inb_nI (by omega) (by omega)
    have o6 := hl_of6 (d := d) (N := N) (I := I) (J := J) (c := i) (by omega)
    obtain ⟨I1, e1, g1, f1⟩ := ih (hl_up I 104 i (I 86 (30 + 7 * i + 6))) (i + 1) (by omega) (hl_vw_tr hv (hl_Tm_up (by omega)).vw) (fun c hc => by
      rw [hl_up_a, if_pos rfl]
      by_cases z : c = i
      · rw [if_pos z, z, hv.2.1]
      · rw [if_neg z]; exact h4 c (by omega))
    refine ⟨I1, ?_, g1, fun b hb => by rw [f1 b hb, hl_up_ne _ _ _ hb]⟩
    rw [← e1, hl_r254_23]
    simp only [hl_r254_24, hl_r254_25, hl_r254_28, hl_r254_31, hl_r254_32, hl_r254_35, hl_r254_36, hl_r254_37, hl_r254_38, hl_r254_40, hl_r254_43, hl_r254_44, hl_r254_47, hl_o_85, hl_p_85_3, hl_p_85_4, hl_p_85_5, hl_p_85_6, hl_p_85_19, hl_p_85_23, hl_p_85_24, hl_p_85_25, hl_p_85_26, hl_p_85_27, hl_p_85_28, hl_p_85_29, hl_p_85_30, hl_p_85_31, hl_p_85_33, hl_p_85_34, hl_p_85_35, hl_p_85_36, hl_p_85_37, hl_a_104, hl_z_104, e2, c1, o6, bi, hl_cq (show i < 10000 by omega), en, hl_kill_i, hl_kill_r, hl_kill_n, hl_kill_l, hl_tl_s, hl_tl_n, hl_cal_some, hl_gI, hl_gJ, hl_gsI, hl_gsJ, hl_tv01, if_true, if_false, hl_up_a, hl_row_a, not_true, not_false_eq_true]
    try rw [hl_r254_23]
theorem hx_l254c {c : hl_C} {n av k : Int32} {g : Nat → Int32} (hN : N ≤ 24) (f : Nat) : ∀ (I : Nat → Nat → Int32) (i : Nat), i + f = N → I 85 2 = nI N → (∀ c, c < N → I 102 c = g c) → I 86 = hx_it K 6 g i 86 → ∃ I', hl_Run 254 c 87 [.ref 85, .int n, .int av, .int k, .int (nI i)] [] (hl_g N I J) = hl_Run 254 c 125 [.ref 85, .int n, .int av, .int k, .int (nI N)] [] (hl_g N I' J) ∧ I' 86 = hx_it K 6 g N 86 ∧ ∀ b, b ≠ 86 → I' b = I b := by
  induction f with
  | zero =>
    intro I i hi hM h2 h86
    obtain rfl : i = N := by omega
    refine ⟨I, ?_, h86, fun _ _ => rfl⟩
    simp only [hl_r254_87, hl_r254_89, hl_r254_90, hl_r254_93, hl_o_85, hl_p_85_3, hl_p_85_4, hl_p_85_5, hl_p_85_6, hl_p_85_19, hl_p_85_23, hl_p_85_24, hl_p_85_25, hl_p_85_26, hl_p_85_27, hl_p_85_28, hl_p_85_29, hl_p_85_30, hl_p_85_31, hl_p_85_33, hl_p_85_34, hl_p_85_35, hl_p_85_36, hl_p_85_37, hM, Int32.le_refl, hl_kill_i, hl_kill_r, hl_kill_n, hl_kill_l, hl_tl_s, hl_tl_n, hl_cal_some, hl_gI, hl_gJ, hl_gsI, hl_gsJ, hl_tv01, if_true, if_false, hl_up_a, hl_row_a, not_true, not_false_eq_true]
  | succ f ih =>
    intro I i hi hM h2 h86
    have c1 : ¬ nI N ≤ nI i := nI_ge (by omega) (by omega)
    have en : nI i + 1 = nI (i + 1) := (nI_succ i).symm
    have bi : hl_inb (nI i) 24 = true := hl_inb_nI (by omega) (by omega)
    have b5 := hl_b490 (show 30 + 7 * i + 6 < 490 by omega)
    have ix6 : (30 : Int32) + 7 * nI i + 6 = nI (30 + 7 * i + 6) := hl_ix (k := 6)
    obtain ⟨I1, e1, g1, g2⟩ := ih (hl_up I 86 (30 + 7 * i + 6) (g i)) (i + 1) (by omega) (by rw [hl_up_ne _ _ _ (by omega)]; exact hM) (fun c hc => by rw [hl_up_ne _ _ _ (by omega)]; exact h2 c hc) (by
      funext j
      show _ = hl_up (hl_up (hx_it K 6 g i) (2 + 6) i (g i)) 86 (30 + 7 * i + 6) (g i) 86 j
      rw [hl_up_a, if_pos rfl, hl_up_a, if_pos rfl, hl_up_ne _ _ _ (show 86 ≠ 2 + 6 by omega), h86])
    refine ⟨I1, ?_, g1, fun b hb => by rw [g2 b hb, hl_up_ne _ _ _ hb]⟩
    rw [← e1, hl_r254_87]
    simp only [hl_r254_89, hl_r254_90, hl_r254_93, hl_r254_96, hl_r254_97, hl_r254_100, hl_r254_102, hl_r254_104, hl_r254_106, hl_r254_107, hl_r254_108, hl_r254_110, hl_r254_111, hl_r254_112, hl_r254_115, hl_r254_117, hl_r254_118, hl_r254_119, hl_r254_122, hl_o_85, hl_p_85_3, hl_p_85_4, hl_p_85_5, hl_p_85_6, hl_p_85_19, hl_p_85_23, hl_p_85_24, hl_p_85_25, hl_p_85_26, hl_p_85_27, hl_p_85_28, hl_p_85_29, hl_p_85_30, hl_p_85_31, hl_p_85_33, hl_p_85_34, hl_p_85_35, hl_p_85_36, hl_p_85_37, hl_a_86, hl_z_86, hl_a_102, hl_z_102, hM, c1, ix6, b5, bi, hl_cq (show i < 10000 by omega), hl_cq (show 30 + 7 * i + 6 < 10000 by omega), h2 i (by omega), en, hl_kill_i, hl_kill_r, hl_kill_n, hl_kill_l, hl_tl_s, hl_tl_n, hl_cal_some, hl_gI, hl_gJ, hl_gsI, hl_gsJ, hl_tv01, if_true, if_false, hl_up_a, hl_row_a, not_true, not_false_eq_true]
    try rw [hl_r254_87]
theorem hx_l254 {n : Nat} (hn : n ≤ 60) (f : Nat) : ∀ (K I : Nat → Nat → Int32) (J : Nat → Nat → Int64) (k : Nat) (l4 : Value), k + f = n → hx_KK N W H nh cn K → hl_vw K I → hx_YN N nh cn an f K K' → ∃ I' J' l4', hl_Run 254 (hl_call (d + 7)) 52 [.ref 85, .int (nI n), .int (hl_tv an), .int (nI k), l4] [] (hl_g N I J) = hl_Run 254 (hl_call (d + 7)) 131 [.ref 85, .int (nI n), .int (hl_tv an), .int (nI n), l4'] [] (hl_g N I' J') ∧ hl_vw K' I' ∧ hx_fY I I' := by
  induction f with
  | zero =>
    intro K I J k l4 hk hK hv hy
    obtain rfl : k = n := by omega
    have ek : K' = K := hy
    rw [ek]
    refine ⟨I, J, l4, ?_, hv, hx_fY_rf I⟩
    simp only [hl_r254_52, hl_r254_53, hl_r254_54, Int32.le_refl, hl_kill_i, hl_kill_r, hl_kill_n, hl_kill_l, hl_tl_s, hl_tl_n, hl_cal_some, hl_gI, hl_gJ, hl_gsI, hl_gsJ, hl_tv01, if_true, if_false, hl_up_a, hl_row_a, not_true, not_false_eq_true]
  | succ f ih =>
    intro K I J k l4 hk hK hv hy
    obtain ⟨K1, y1, yN⟩ := hy
    have c1 : ¬ nI n ≤ nI k := nI_ge (by omega) (by omega)
    have en : nI k + 1 = nI (k + 1) := (nI_succ k).symm
    obtain ⟨I1, J1, e1, v1, f1⟩ := hx_s253 (d := d + 1) (J := J) hK.1 hK.2.1 hK.2.2.2.1 hK.2.2.1 hK.2.2.2.2 hv
    have hKg := hx_KK_g hK
    have hK1 := hK.y1 y1
    rcases y1 with ⟨ea, ek⟩ | ⟨ea, p, hr, S, y2⟩
    · subst ea
      rw [ek] at yN hK1
      obtain ⟨I2, J2, m4, e2, v2, f2⟩ := ih (hx_Kg N cn K) I1 J1 (k + 1) l4 (by omega) hK1 v1 yN
      refine ⟨I2, J2, m4, ?_, v2, hx_fY_tr f1 f2⟩
      rw [← e2, hl_r254_52]
      simp only [hl_r254_53, hl_r254_54, hl_r254_57, hl_r254_58, hl_r254_61, hl_r254_62, hl_r254_125, hl_r254_128, hl_o_85, hl_p_85_3, hl_p_85_4, hl_p_85_5, hl_p_85_6, hl_p_85_19, hl_p_85_23, hl_p_85_24, hl_p_85_25, hl_p_85_26, hl_p_85_27, hl_p_85_28, hl_p_85_29, hl_p_85_30, hl_p_85_31, hl_p_85_33, hl_p_85_34, hl_p_85_35, hl_p_85_36, hl_p_85_37, c1, e1, hl_tl_n, hl_tv_f, en, hl_kill_i, hl_kill_r, hl_kill_n, hl_kill_l, hl_tl_s, hl_tl_n, hl_cal_some, hl_gI, hl_gJ, hl_gsI, hl_gsJ, hl_tv01, if_true, if_false, hl_up_a, hl_row_a, not_true, not_false_eq_true]
      try rw [hl_r254_52]
    · subst ea
      obtain ⟨n4, c40, -, k2, -, -⟩ := hKg.num
      have ch := hx_chs_all (show 1 ≤ nh from hK.2.2.1) n4
      have s231 := hx_s231 (d := d + 6) (N := N) (I := I1) (J := J1) (by rw [v1.2.1]; exact k2) n4
      obtain ⟨I2, J2, p', hr', S', e2, r2, f2, -⟩ := hx_least (d := d) (J := J1) (wh := false) (x := -1) (y := -1) (s := nI (2 ^ nh - 1)) hKg.1 v1 hKg.2.1 hKg.2.2.2.1 hKg.2.2.2.2 ch
      obtain ⟨u1, u2⟩ := hx_Sol_u S' S
      subst u1
      rw [hl_tv_f] at e2
      have v2 : hl_vw (hx_Kg N cn K) I2 := hl_vw_tr v1 f2.tm.vw
      rcases y2 with ⟨ep, ek⟩ | ⟨ep, hh, ek⟩
      · subst ep
        rw [ek] at yN hK1
        obtain ⟨I3, J3, m4, e3, v3, f3⟩ := ih (hx_Kg N cn K) I2 J2 (k + 1) l4 (by omega) hK1 v2 yN
        refine ⟨I3, J3, m4, ?_, v3, hx_fY_tr f1 (hx_fY_tr f2.fY f3)⟩
        rw [← e3, hl_r254_52]
        simp only [hl_r254_53, hl_r254_54, hl_r254_57, hl_r254_58, hl_r254_61, hl_r254_62, hl_r254_65, hl_r254_66, hl_r254_67, hl_r254_70, hl_r254_71, hl_r254_72, hl_r254_73, hl_r254_76, hl_r254_77, hl_r254_78, hl_r254_81, hl_r254_125, hl_r254_128, hl_o_85, hl_p_85_3, hl_p_85_4, hl_p_85_5, hl_p_85_6, hl_p_85_19, hl_p_85_23, hl_p_85_24, hl_p_85_25, hl_p_85_26, hl_p_85_27, hl_p_85_28, hl_p_85_29, hl_p_85_30, hl_p_85_31, hl_p_85_33, hl_p_85_34, hl_p_85_35, hl_p_85_36, hl_p_85_37, c1, e1, s231, e2, hl_lcmp_ge0, hx_ol_n0, hl_tl_n, hl_tv_t, hl_10, en, hl_kill_i, hl_kill_r, hl_kill_n, hl_kill_l, hl_tl_s, hl_tl_n, hl_cal_some, hl_gI, hl_gJ, hl_gsI, hl_gsJ, hl_tv01, if_true, if_false, hl_up_a, hl_row_a, not_true, not_false_eq_true]
        try rw [hl_r254_52]
      · cases p' with
        | none => exact absurd rfl ep
        | some q =>
          have o1 := hx_ol_s0 (hx_Sol_B S)
          obtain ⟨I3, e3, g3, f3⟩ := hx_l254c (K := hx_Kg N cn K) (J := J2) (c := hl_call (d + 7)) (n := nI n) (av := hl_tv true) (k := nI k) (g := fun c => nI (hr c)) hK.2.1 N I2 0 (by omega) (by rw [v2.1 2 (by omega)]; exact hKg.1.mM) (fun c hc => by rw [r2 ep c hc, u2 ep c hc]) v2.2.1
          have fy3 : hx_fY I2 I3 := hx_fY_of (fun b h1 _ => f3 b h1)
          have v3 : hl_vw K1 I3 := by
            rw [ek]
            exact fy3.vw v2 g3 (hx_it_ne N 85 (by omega) (by omega)) (hx_it_ne N 88 (by omega) (by omega))
          obtain ⟨I4, J4, m4, e4, v4, f4⟩ := ih K1 I3 J2 (k + 1) (.int (nI N)) (by omega) hK1 v3 yN
          refine ⟨I4, J4, m4, ?_, v4, hx_fY_tr f1 (hx_fY_tr f2.fY (hx_fY_tr fy3 f4))⟩
          have z0 : nI 0 = 0 := rfl
          rw [z0] at e3
          have st : hl_Run 254 (hl_call (d + 7)) 52 [.ref 85, .int (nI n), .int (hl_tv true), .int (nI k), l4] [] (hl_g N I J) = hl_Run 254 (hl_call (d + 7)) 87 [.ref 85, .int (nI n), .int (hl_tv true), .int (nI k), .int 0] [] (hl_g N I2 J2) := by
            simp only [hl_r254_52, hl_r254_53, hl_r254_54, hl_r254_57, hl_r254_58, hl_r254_61, hl_r254_62, hl_r254_65, hl_r254_66, hl_r254_67, hl_r254_70, hl_r254_71, hl_r254_72, hl_r254_73, hl_r254_76, hl_r254_77, hl_r254_78, hl_r254_81, hl_r254_84, hl_r254_85, hl_o_85, hl_p_85_3, hl_p_85_4, hl_p_85_5, hl_p_85_6, hl_p_85_19, hl_p_85_23, hl_p_85_24, hl_p_85_25, hl_p_85_26, hl_p_85_27, hl_p_85_28, hl_p_85_29, hl_p_85_30, hl_p_85_31, hl_p_85_33, hl_p_85_34, hl_p_85_35, hl_p_85_36, hl_p_85_37, c1, e1, s231, e2, hl_lcmp_ge0, o1, hl_tl_n, hl_tv_t, hl_10, hl_kill_i, hl_kill_r, hl_kill_n, hl_kill_l, hl_tl_s, hl_tl_n, hl_cal_some, hl_gI, hl_gJ, hl_gsI, hl_gsJ, hl_tv01, if_true, if_false, hl_up_a, hl_row_a, not_true, not_false_eq_true]
          rw [st, e3, ← e4]
          simp only [hl_r254_125, hl_r254_128, en, hl_kill_i, hl_kill_r, hl_kill_n, hl_kill_l, hl_tl_s, hl_tl_n, hl_cal_some, hl_gI, hl_gJ, hl_gsI, hl_gsJ, hl_tv01, if_true, if_false, hl_up_a, hl_row_a, not_true, not_false_eq_true]
/-- how many have moved -/
theorem hx_l132m {c : hl_C} {n av : Int32} (hN : N ≤ 24) (hM : I 0 2 = nI N) (f : Nat) : ∀ i, i + f = N → hl_Run 132 c 79 [.ref 0, .int n, .int av, .int (nI (hx_nc (fun c => !decide (I 8 c = I 83 c)) i)), .int (nI i)] [] (hl_g N I J) = some (some (.int (nI (hx_nc (fun c => !decide (I 8 c = I 83 c)) N))), hl_g N I J) := by
  induction f with
  | zero =>
    intro i hi
    obtain rfl : i = N := by omega
    simp only [hl_r132_79, hl_r132_81, hl_r132_82, hl_r132_85, hl_r132_117, hl_r132_118, hl_o_0, hl_p_0_3, hl_p_0_4, hl_p_0_5, hl_p_0_7, hl_p_0_8, hl_p_0_9, hl_p_0_10, hl_p_0_11, hl_p_0_12, hl_p_0_13, hl_p_0_14, hl_p_0_15, hM, Int32.le_refl, hl_kill_i, hl_kill_r, hl_kill_n, hl_kill_l, hl_tl_s, hl_tl_n, hl_cal_some, hl_gI, hl_gJ, hl_gsI, hl_gsJ, hl_tv01, if_true, if_false, hl_up_a, hl_row_a, not_true, not_false_eq_true]
  | succ f ih =>
    intro i hi
    have c1 : ¬ nI N ≤ nI i := nI_ge (by omega) (by omega)
    have en : nI i + 1 = nI (i + 1) := (nI_succ i).symm
    have bi : hl_inb (nI i) N = true := hl_inb_nI (by omega) (by omega)
    have e := ih (i + 1) (by omega)
    have el : nI (hx_nc (fun c => !decide (I 8 c = I 83 c)) i) + 1 = nI (hx_nc (fun c => !decide (I 8 c = I 83 c)) i + 1) := (nI_succ _).symm
    have en2 : hx_nc (fun c => !decide (I 8 c = I 83 c)) (i + 1) = hx_nc (fun c => !decide (I 8 c = I 83 c)) i + (if (!decide (I 8 i = I 83 i)) = true then 1 else 0) := rfl
    by_cases z : I 8 i = I 83 i
    · rw [decide_eq_true z, if_neg (by decide)] at en2
      have en3 : hx_nc (fun c => !decide (I 8 c = I 83 c)) (i + 1) = hx_nc (fun c => !decide (I 8 c = I 83 c)) i := en2
      rw [en3] at e
      rw [← e, hl_r132_79]
      simp only [hl_r132_81, hl_r132_82, hl_r132_85, hl_r132_88, hl_r132_89, hl_r132_92, hl_r132_95, hl_r132_97, hl_r132_98, hl_r132_99, hl_r132_102, hl_r132_104, hl_r132_105, hl_r132_108, hl_r132_111, hl_r132_114, hl_o_0, hl_p_0_3, hl_p_0_4, hl_p_0_5, hl_p_0_7, hl_p_0_8, hl_p_0_9, hl_p_0_10, hl_p_0_11, hl_p_0_12, hl_p_0_13, hl_p_0_14, hl_p_0_15, hl_o_1, hl_p_1_0, hl_p_1_1, hl_p_1_2, hl_p_1_3, hl_p_1_4, hl_p_1_5, hl_p_1_6, hl_p_1_7, hl_p_1_9, hl_p_1_14, hl_p_1_15, hl_a_8, hl_z_8, hl_a_83, hl_z_83, hM, c1, bi, hl_cq (show i < 10000 by omega), z, en, hl_kill_i, hl_kill_r, hl_kill_n, hl_kill_l, hl_tl_s, hl_tl_n, hl_cal_some, hl_gI, hl_gJ, hl_gsI, hl_gsJ, hl_tv01, if_true, if_false, hl_up_a, hl_row_a, not_true, not_false_eq_true]
      try rw [hl_r132_79]
    · rw [decide_eq_false z, if_pos (by decide)] at en2
      rw [en2] at e
      rw [← e, hl_r132_79]
      simp only [hl_r132_81, hl_r132_82, hl_r132_85, hl_r132_88, hl_r132_89, hl_r132_92, hl_r132_95, hl_r132_97, hl_r132_98, hl_r132_99, hl_r132_102, hl_r132_104, hl_r132_105, hl_r132_108, hl_r132_111, hl_r132_114, hl_o_0, hl_p_0_3, hl_p_0_4, hl_p_0_5, hl_p_0_7, hl_p_0_8, hl_p_0_9, hl_p_0_10, hl_p_0_11, hl_p_0_12, hl_p_0_13, hl_p_0_14, hl_p_0_15, hl_o_1, hl_p_1_0, hl_p_1_1, hl_p_1_2, hl_p_1_3, hl_p_1_4, hl_p_1_5, hl_p_1_6, hl_p_1_7, hl_p_1_9, hl_p_1_14, hl_p_1_15, hl_a_8, hl_z_8, hl_a_83, hl_z_83, hM, c1, bi, hl_cq (show i < 10000 by omega), z, el, en, hl_kill_i, hl_kill_r, hl_kill_n, hl_kill_l, hl_tl_s, hl_tl_n, hl_cal_some, hl_gI, hl_gJ, hl_gsI, hl_gsJ, hl_tv01, if_true, if_false, hl_up_a, hl_row_a, not_true, not_false_eq_true]
      try rw [hl_r132_79]
theorem hx_l254m {n av : Int32} {p : Nat → Bool} (hN : N ≤ 24) (hM : I 85 2 = nI N) (hp : ∀ c, c < N → p c = !decide (I 86 (30 + 7 * c + 6) = I 104 c)) (f : Nat) : ∀ i, i + f = N → hl_Run 254 (hl_call (d + 1)) 136 [.ref 85, .int n, .int av, .int (nI (hx_nc p i)), .int (nI i)] [] (hl_g N I J) = some (some (.int (nI (hx_nc p N))), hl_g N I J) := by
  induction f with
  | zero =>
    intro i hi
    obtain rfl : i = N := by omega
    simp only [hl_r254_136, hl_r254_138, hl_r254_139, hl_r254_142, hl_r254_177, hl_r254_178, hl_o_85, hl_p_85_3, hl_p_85_4, hl_p_85_5, hl_p_85_6, hl_p_85_19, hl_p_85_23, hl_p_85_24, hl_p_85_25, hl_p_85_26, hl_p_85_27, hl_p_85_28, hl_p_85_29, hl_p_85_30, hl_p_85_31, hl_p_85_33, hl_p_85_34, hl_p_85_35, hl_p_85_36, hl_p_85_37, hM, Int32.le_refl, hl_kill_i, hl_kill_r, hl_kill_n, hl_kill_l, hl_tl_s, hl_tl_n, hl_cal_some, hl_gI, hl_gJ, hl_gsI, hl_gsJ, hl_tv01, if_true, if_false, hl_up_a, hl_row_a, not_true, not_false_eq_true]
  | succ f ih =>
    intro i hi
    have c1 : ¬ nI N ≤ nI i := nI_ge (by omega) (by omega)
    have en : nI i + 1 = nI (i + 1) := (nI_succ i).symm
    have bi : hl_inb (nI i) 24 = true := hl_inb_nI (by omega) (by omega)
    have o6 := hl_of6 (d := d) (N := N) (I := I) (J := J) (c := i) (by omega)
    have e := ih (i + 1) (by omega)
    have el : nI (hx_nc p i) + 1 = nI (hx_nc p i + 1) := (nI_succ _).symm
    have en2 : hx_nc p (i + 1) = hx_nc p i + (if p i = true then 1 else 0) := rfl
    rw [hp i (by omega)] at en2
    have z0 : nI (hx_nc p i) + 0 = nI (hx_nc p i) := Int32.add_zero _
    by_cases z : I 86 (30 + 7 * i + 6) = I 104 i
    · rw [decide_eq_true z, if_neg (by decide)] at en2
      have en3 : hx_nc p (i + 1) = hx_nc p i := en2
      rw [en3] at e
      rw [← e, hl_r254_136]
      simp only [hl_r254_138, hl_r254_139, hl_r254_142, hl_r254_145, hl_r254_146, hl_r254_147, hl_r254_149, hl_r254_151, hl_r254_154, hl_r254_155, hl_r254_158, hl_r254_160, hl_r254_161, hl_r254_164, hl_r254_165, hl_r254_168, hl_r254_169, hl_r254_170, hl_r254_171, hl_r254_174, hl_o_85, hl_p_85_3, hl_p_85_4, hl_p_85_5, hl_p_85_6, hl_p_85_19, hl_p_85_23, hl_p_85_24, hl_p_85_25, hl_p_85_26, hl_p_85_27, hl_p_85_28, hl_p_85_29, hl_p_85_30, hl_p_85_31, hl_p_85_33, hl_p_85_34, hl_p_85_35, hl_p_85_36, hl_p_85_37, hl_a_104, hl_z_104, hM, c1, o6, bi, hl_cq (show i < 10000 by omega), z, z0, en, hl_kill_i, hl_kill_r, hl_kill_n, hl_kill_l, hl_tl_s, hl_tl_n, hl_cal_some, hl_gI, hl_gJ, hl_gsI, hl_gsJ, hl_tv01, if_true, if_false, hl_up_a, hl_row_a, not_true, not_false_eq_true]
      try rw [hl_r254_136]
    · rw [decide_eq_false z, if_pos (by decide)] at en2
      rw [en2] at e
      rw [← e, hl_r254_136]
      simp only [hl_r254_138, hl_r254_139, hl_r254_142, hl_r254_145, hl_r254_146, hl_r254_147, hl_r254_149, hl_r254_151, hl_r254_154, hl_r254_155, hl_r254_158, hl_r254_160, hl_r254_161, hl_r254_164, hl_r254_165, hl_r254_168, hl_r254_169, hl_r254_170, hl_r254_171, hl_r254_174, hl_o_85, hl_p_85_3, hl_p_85_4, hl_p_85_5, hl_p_85_6, hl_p_85_19, hl_p_85_23, hl_p_85_24, hl_p_85_25, hl_p_85_26, hl_p_85_27, hl_p_85_28, hl_p_85_29, hl_p_85_30, hl_p_85_31, hl_p_85_33, hl_p_85_34, hl_p_85_35, hl_p_85_36, hl_p_85_37, hl_a_104, hl_z_104, hM, c1, o6, bi, hl_cq (show i < 10000 by omega), z, el, en, hl_kill_i, hl_kill_r, hl_kill_n, hl_kill_l, hl_tl_s, hl_tl_n, hl_cal_some, hl_gI, hl_gJ, hl_gsI, hl_gsJ, hl_tv01, if_true, if_false, hl_up_a, hl_row_a, not_true, not_false_eq_true]
      try rw [hl_r254_136]
theorem hx_pr27 (hN : N ≤ 24) (f : Nat → Int32) : hl_PQ hl_TX N W H 132 254 (hl_args 27 f) := by
  intro I J hI
  have hI' : hl_Inv hl_TX N W H I := hI
  obtain ⟨an, ew⟩ := hx_bz (f 2)
  show ∃ v I1 J1 I2 J2, hl_call 1001 132 [.ref 0, .int (f 1), .int (hl_bz (f 2))] (hl_g N I J) = some (some (.int v), hl_g N I1 J1) ∧ hl_call 1001 254 [.ref 85, .int (f 1), .int (hl_bz (f 2))] (hl_g N I1 J1) = some (some (.int v), hl_g N I2 J2) ∧ hl_Inv hl_TX N W H I2
  rw [ew]
  generalize hk1 : f 1 = k1
  obtain ⟨nh, h4, hc1, hm1, hs1⟩ := hI'.nh
  obtain ⟨cn, c40, hc2, hm2, hs2⟩ := hI'.cn
  by_cases g0 : nh = 0
  · have z0 : nI nh = 0 := by rw [g0]; rfl
    rw [z0] at hc1 hm1
    refine ⟨-1, I, J, I, J, ?_, ?_, hI'⟩
    · rw [hl_e132 (d := 1000)]; simp only [hl_r132_0, hl_r132_1, hl_r132_4, hl_r132_7, hl_r132_10, hl_r132_11, hl_r132_12, hl_r132_14, hl_r132_17, hl_r132_20, hl_r132_21, hl_o_0, hl_p_0_3, hl_p_0_4, hl_p_0_5, hl_p_0_7, hl_p_0_8, hl_p_0_9, hl_p_0_10, hl_p_0_11, hl_p_0_12, hl_p_0_13, hl_p_0_14, hl_p_0_15, hl_o_1, hl_p_1_0, hl_p_1_1, hl_p_1_2, hl_p_1_3, hl_p_1_4, hl_p_1_5, hl_p_1_6, hl_p_1_7, hl_p_1_9, hl_p_1_14, hl_p_1_15, hc1, hl_kill_i, hl_kill_r, hl_kill_n, hl_kill_l, hl_tl_s, hl_tl_n, hl_cal_some, hl_gI, hl_gJ, hl_gsI, hl_gsJ, hl_tv01, if_true, if_false, hl_up_a, hl_row_a, not_true, not_false_eq_true]
    · rw [hl_e254 (d := 1000)]; simp only [hl_r254_0, hl_r254_1, hl_r254_4, hl_r254_5, hl_r254_6, hl_r254_9, hl_r254_10, hl_r254_11, hl_r254_13, hl_r254_16, hl_r254_19, hl_r254_20, hl_o_85, hl_p_85_3, hl_p_85_4, hl_p_85_5, hl_p_85_6, hl_p_85_19, hl_p_85_23, hl_p_85_24, hl_p_85_25, hl_p_85_26, hl_p_85_27, hl_p_85_28, hl_p_85_29, hl_p_85_30, hl_p_85_31, hl_p_85_33, hl_p_85_34, hl_p_85_35, hl_p_85_36, hl_p_85_37, hl_a_86, hl_z_86, hl_k0, hl_v0, hm1, hl_kill_i, hl_kill_r, hl_kill_n, hl_kill_l, hl_tl_s, hl_tl_n, hl_cal_some, hl_gI, hl_gJ, hl_gsI, hl_gsJ, hl_tv01, if_true, if_false, hl_up_a, hl_row_a, not_true, not_false_eq_true]
  · have n0 : ¬ nI nh = 0 := nI_ne0 (by omega) (by omega)
    cases g1 : hl_in k1 1 60 with
    | false =>
      refine ⟨-1, I, J, I, J, ?_, ?_, hI'⟩
      · rw [hl_e132 (d := 1000)]; simp only [hl_r132_0, hl_r132_1, hl_r132_4, hl_r132_7, hl_r132_10, hl_r132_11, hl_r132_12, hl_r132_14, hl_r132_17, hl_r132_20, hl_r132_21, hl_o_0, hl_p_0_3, hl_p_0_4, hl_p_0_5, hl_p_0_7, hl_p_0_8, hl_p_0_9, hl_p_0_10, hl_p_0_11, hl_p_0_12, hl_p_0_13, hl_p_0_14, hl_p_0_15, hl_o_1, hl_p_1_0, hl_p_1_1, hl_p_1_2, hl_p_1_3, hl_p_1_4, hl_p_1_5, hl_p_1_6, hl_p_1_7, hl_p_1_9, hl_p_1_14, hl_p_1_15, hc1, n0, hl_s147, g1, hl_tv_f, hl_kill_i, hl_kill_r, hl_kill_n, hl_kill_l, hl_tl_s, hl_tl_n, hl_cal_some, hl_gI, hl_gJ, hl_gsI, hl_gsJ, hl_tv01, if_true, if_false, hl_up_a, hl_row_a, not_true, not_false_eq_true]
      · rw [hl_e254 (d := 1000)]; simp only [hl_r254_0, hl_r254_1, hl_r254_4, hl_r254_5, hl_r254_6, hl_r254_9, hl_r254_10, hl_r254_11, hl_r254_13, hl_r254_16, hl_r254_19, hl_r254_20, hl_o_85, hl_p_85_3, hl_p_85_4, hl_p_85_5, hl_p_85_6, hl_p_85_19, hl_p_85_23, hl_p_85_24, hl_p_85_25, hl_p_85_26, hl_p_85_27, hl_p_85_28, hl_p_85_29, hl_p_85_30, hl_p_85_31, hl_p_85_33, hl_p_85_34, hl_p_85_35, hl_p_85_36, hl_p_85_37, hl_a_86, hl_z_86, hl_k0, hl_v0, hm1, n0, hl_s151, g1, hl_tv_f, hl_kill_i, hl_kill_r, hl_kill_n, hl_kill_l, hl_tl_s, hl_tl_n, hl_cal_some, hl_gI, hl_gJ, hl_gsI, hl_gsJ, hl_tv01, if_true, if_false, hl_up_a, hl_row_a, not_true, not_false_eq_true]
    | true =>
      obtain ⟨b1, b2⟩ := hl_in_E g1
      have i1 : (1 : Int32).toInt = 1 := rfl
      have i6 : (60 : Int32).toInt = 60 := rfl
      obtain ⟨n, -, ek, kk⟩ := hl_nat (x := k1) (by omega)
      have nr : 1 ≤ n ∧ n ≤ 60 := by omega
      rw [ek] at g1 ⊢
      have hK : hx_KK N W H nh cn I := ⟨hI'.co, hN, by omega, hs1, hs2⟩
      -- the class: what was is kept
      have cp := hl_cpd_of (I := I) (a := 8) (b := 83) (n := N)
      have e39 : hl_Run 132 (hl_call 1000) 39 [.ref 0, .int (nI n), .int (hl_tv an), .null, .null] [.int (nI N), .int 0, .ref 83, .int 0, .ref 8] (hl_g N I J) = hl_Run 132 (hl_call 1000) 42 [.ref 0, .int (nI n), .int (hl_tv an), .null, .null] [] (hl_g N (hl_row I 83 (va_cpy (I 8) (I 83) 0 0 N)) J) := by
        simp only [hl_r132_39, hl_a_8, hl_z_8, hl_a_83, hl_z_83, hl_nn0, hl_nnN (show N < 2 ^ 31 by omega), hl_v0, nIc (show N < 2 ^ 31 by omega), Nat.zero_add, Nat.le_refl, not_false_eq_true, true_or, and_self, hl_gcp]
      generalize hl_row I 83 (va_cpy (I 8) (I 83) 0 0 N) = I1 at cp e39
      obtain ⟨cp1, cp2⟩ := cp
      have ag1 : ∀ b, b < 60 → I1 b = I b := fun b hb => cp1 b (by omega)
      have P1 : hx_Pc N nh I1 := fun c hc => by
        rw [cp1 65 (by omega), cp1 64 (by omega)]
        rcases hI'.2.2.2.2.1 c hc with q | ⟨q1, q2⟩
        · exact .inl q
        · refine .inr ⟨q1, fun h hh => ?_⟩
          rw [q2 h (by omega)]
          exact ((hl_PD_of (I := I) (I' := I1) (fun b hb => cp1 b (by omega)) c).pay h).symm
      obtain ⟨K', I2, J2, e2, yN, hK', ag2, P2, z2⟩ := hx_l132 (d := 994) (an := an) nr.2 n I I1 J 0 .null (by omega) hK ag1 P1
      have z12 : ∀ b, (b = 66 ∨ 80 ≤ b) → I2 b = I1 b := fun b hb => z2 b (by omega) (by omega) (by omega) (by omega) (by omega) (by omega) (by omega) (by omega)
      have hM2 : I2 0 2 = nI N := by rw [ag2 0 (by omega)]; exact hK'.1.cM
      have m1 := hx_l132m (I := I2) (J := J2) (c := hl_call 1000) (n := nI n) (av := hl_tv an) hN hM2 N 0 (by omega)
      -- the reference
      have ne := hx_YN_ne n I yN
      have v2 : hl_vw I I2 := ⟨fun k hk => by rw [z12 85 (by omega), cp1 85 (by omega)], by rw [z12 86 (by omega), cp1 86 (by omega)], by rw [z12 88 (by omega), cp1 88 (by omega)]⟩
      obtain ⟨I3, e3, g3, f3⟩ := hx_l254a (d := 999) (K := I) (J := J2) (c := hl_call 1000) (n := nI n) (av := hl_tv an) (l4 := .null) hN hI'.mM N I2 0 (by omega) v2 (fun c hc => absurd hc (Nat.not_lt_zero c))
      have v3 : hl_vw I I3 := ⟨fun k hk => by rw [f3 85 (by omega)]; exact v2.1 k hk, by rw [f3 86 (by omega)]; exact v2.2.1, by rw [f3 88 (by omega)]; exact v2.2.2⟩
      obtain ⟨I4, J4, m4, e4, v4, f4⟩ := hx_l254 (d := 993) (an := an) nr.2 n I I3 J2 0 .null (by omega) hK v3 yN
      have hM4 : I4 85 2 = nI N := by rw [v4.1 2 (by omega)]; exact hK'.1.mM
      have low : ∀ b, b < 85 → I4 b = I2 b := fun b hb => by rw [f4.1 b (by omega), f3 b (by omega)]
      have hp : ∀ c, c < N → (fun c => !decide (I2 8 c = I2 83 c)) c = !decide (I4 86 (30 + 7 * c + 6) = I4 104 c) := fun c hc => by
        have q1 : I2 8 c = I4 86 (30 + 7 * c + 6) := by
          rw [v4.2.1, ag2 8 (by omega)]
          exact hK'.1.2.1.1.cell (i := 6) hN hc (by omega)
        have q2 : I2 83 c = I4 104 c := by
          rw [z12 83 (by omega), cp2 c hc, f4.1 104 (by omega), g3 c hc]
          exact hI'.2.1.1.cell (i := 6) hN hc (by omega)
        show (!decide (I2 8 c = I2 83 c)) = _
        rw [q1, q2]
      have m2 := hx_l254m (d := 999) (I := I4) (J := J4) (n := nI n) (av := hl_tv an) hN hM4 hp N 0 (by omega)
      have tm : hl_Tm K' I4 := ⟨fun b hb => by rw [low b (by omega), ag2 b hb], by rw [low 66 (by omega), z12 66 (by omega), cp1 66 (by omega), ne 66 (by omega) (by omega) (by omega)], v4.1, fun b h1 h2 => by
        by_cases z : b = 86
        · rw [z]; exact v4.2.1
        · rw [f4.1 b (by omega), f3 b (by omega), z12 b (by omega), cp1 b (by omega), ne b (by omega) (by omega) z]⟩
      have Co4 := hl_Co_t hK'.1 tm
      have Pu4 : hl_Pu N I4 := fun c hc => by
        rw [low 65 (by omega), low 64 (by omega)]
        rcases P2 c hc with q | ⟨q1, q2⟩
        · exact .inl q
        · refine .inr ⟨q1, fun h hh => ?_⟩
          have e6 : hl_Sv I4 86 0 = (nh : Int) := by
            unfold hl_Sv
            rw [v4.2.1]
            exact hK'.2.2.2.1
          rw [q2 h (by omega)]
          exact ((hl_PD_of (I := I2) (I' := I4) (fun b hb => low b (by omega)) c).pay h).symm
      refine ⟨nI (hx_nc (fun c => !decide (I2 8 c = I2 83 c)) N), I2, J2, I4, J4, ?_, ?_, Co4.inv Pu4⟩
      · have z0 : nI 0 = 0 := rfl
        have zn : hx_nc (fun c => !decide (I2 8 c = I2 83 c)) 0 = 0 := rfl
        rw [zn, z0] at m1
        rw [z0] at e2
        rw [hl_e132 (d := 1000)]
        simp only [hl_r132_0, hl_r132_1, hl_r132_4, hl_r132_7, hl_r132_10, hl_r132_11, hl_r132_12, hl_r132_14, hl_r132_17, hl_r132_20, hl_r132_21, hl_r132_22, hl_r132_23, hl_r132_26, hl_r132_29, hl_r132_30, hl_r132_31, hl_r132_34, hl_r132_35, hl_r132_36, hl_o_0, hl_p_0_3, hl_p_0_4, hl_p_0_5, hl_p_0_7, hl_p_0_8, hl_p_0_9, hl_p_0_10, hl_p_0_11, hl_p_0_12, hl_p_0_13, hl_p_0_14, hl_p_0_15, hl_o_1, hl_p_1_0, hl_p_1_1, hl_p_1_2, hl_p_1_3, hl_p_1_4, hl_p_1_5, hl_p_1_6, hl_p_1_7, hl_p_1_9, hl_p_1_14, hl_p_1_15, hc1, n0, hl_s147, g1, hl_tv_t, hl_10, hI'.cM, hl_kill_i, hl_kill_r, hl_kill_n, hl_kill_l, hl_tl_s, hl_tl_n, hl_cal_some, hl_gI, hl_gJ, hl_gsI, hl_gsJ, hl_tv01, if_true, if_false, hl_up_a, hl_row_a, not_true, not_false_eq_true]
        rw [e39]
        simp only [hl_r132_42, hl_r132_43, hl_kill_i, hl_kill_r, hl_kill_n, hl_kill_l, hl_tl_s, hl_tl_n, hl_cal_some, hl_gI, hl_gJ, hl_gsI, hl_gsJ, hl_tv01, if_true, if_false, hl_up_a, hl_row_a, not_true, not_false_eq_true]
        rw [e2, ← m1]
        simp only [hl_r132_74, hl_r132_75, hl_r132_76, hl_r132_77, hl_kill_i, hl_kill_r, hl_kill_n, hl_kill_l, hl_tl_s, hl_tl_n, hl_cal_some, hl_gI, hl_gJ, hl_gsI, hl_gsJ, hl_tv01, if_true, if_false, hl_up_a, hl_row_a, not_true, not_false_eq_true]
      · have z0 : nI 0 = 0 := rfl
        have zn : hx_nc (fun c => !decide (I2 8 c = I2 83 c)) 0 = 0 := rfl
        rw [zn, z0] at m2
        rw [z0] at e3 e4
        rw [hl_e254 (d := 1000)]
        have e86 : I2 86 0 = nI nh := by rw [v2.2.1]; exact hm1
        have s1 : hl_Run 254 (hl_call 1000) 0 [.ref 85, .int (nI n), .int (hl_tv an), .null, .null] [] (hl_g N I2 J2) = hl_Run 254 (hl_call 1000) 23 [.ref 85, .int (nI n), .int (hl_tv an), .int 0, .null] [] (hl_g N I2 J2) := by
          simp only [hl_r254_0, hl_r254_1, hl_r254_4, hl_r254_5, hl_r254_6, hl_r254_9, hl_r254_10, hl_r254_11, hl_r254_13, hl_r254_16, hl_r254_19, hl_r254_20, hl_r254_21, hl_r254_22, hl_o_85, hl_p_85_3, hl_p_85_4, hl_p_85_5, hl_p_85_6, hl_p_85_19, hl_p_85_23, hl_p_85_24, hl_p_85_25, hl_p_85_26, hl_p_85_27, hl_p_85_28, hl_p_85_29, hl_p_85_30, hl_p_85_31, hl_p_85_33, hl_p_85_34, hl_p_85_35, hl_p_85_36, hl_p_85_37, hl_a_86, hl_z_86, hl_k0, hl_v0, e86, n0, hl_s151, g1, hl_tv_t, hl_10, hl_kill_i, hl_kill_r, hl_kill_n, hl_kill_l, hl_tl_s, hl_tl_n, hl_cal_some, hl_gI, hl_gJ, hl_gsI, hl_gsJ, hl_tv01, if_true, if_false, hl_up_a, hl_row_a, not_true, not_false_eq_true]
        have s2 : hl_Run 254 (hl_call 1000) 50 [.ref 85, .int (nI n), .int (hl_tv an), .int (nI N), .null] [] (hl_g N I3 J2) = hl_Run 254 (hl_call 1000) 52 [.ref 85, .int (nI n), .int (hl_tv an), .int 0, .null] [] (hl_g N I3 J2) := by
          simp only [hl_r254_50, hl_r254_51, hl_kill_i, hl_kill_r, hl_kill_n, hl_kill_l, hl_tl_s, hl_tl_n, hl_cal_some, hl_gI, hl_gJ, hl_gsI, hl_gsJ, hl_tv01, if_true, if_false, hl_up_a, hl_row_a, not_true, not_false_eq_true]
        have s3 : hl_Run 254 (hl_call 1000) 131 [.ref 85, .int (nI n), .int (hl_tv an), .int (nI n), m4] [] (hl_g N I4 J4) = hl_Run 254 (hl_call 1000) 136 [.ref 85, .int (nI n), .int (hl_tv an), .int 0, .int 0] [] (hl_g N I4 J4) := by
          simp only [hl_r254_131, hl_r254_132, hl_r254_133, hl_r254_134, hl_kill_i, hl_kill_r, hl_kill_n, hl_kill_l, hl_tl_s, hl_tl_n, hl_cal_some, hl_gI, hl_gJ, hl_gsI, hl_gsJ, hl_tv01, if_true, if_false, hl_up_a, hl_row_a, not_true, not_false_eq_true]
        exact s1.trans (e3.trans (s2.trans (e4.trans (s3.trans m2))))
end HXYEAR2
