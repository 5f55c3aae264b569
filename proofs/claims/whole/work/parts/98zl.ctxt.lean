/-! the class's text: clause, read -/
def hx_fG (I I' : Nat → Nat → Int32) : Prop := (∀ b, b < 38 ∨ 42 < b → I' b = I b)
def hx_KX (t : Nat → Nat) (L m p n : Nat) (A : List (Nat × Nat × List (Nat × Nat))) (I : Nat → Nat → Int32) : Prop := hx_CR t L p n I ∧ m < 8 ∧ (∀ κ, κ < 3 → hx_sn m κ = false → I 41 κ = -1) ∧ (∀ a ∈ A, a.1 < 3 ∧ hx_sn m a.1 = true ∧ ∃ s e, s ≤ e ∧ e ≤ n ∧ I 41 a.1 = nI s ∧ I 42 a.1 = nI e ∧ (if a.1 = 2 then hx_SB (I 40) s e a.2.2 46 else hx_SN (I 40) s e a.2.2 46)) ∧ ∀ κ, κ < 3 → hx_sn m κ = true → ∃ a ∈ A, a.1 = κ
theorem hx_fG_rf (I : Nat → Nat → Int32) : hx_fG I I := fun _ _ => rfl
theorem hx_fG_tr {I1 I2 I3 : Nat → Nat → Int32} (h : hx_fG I1 I2) (g : hx_fG I2 I3) : hx_fG I1 I3 := fun b hb => (g b hb).trans (h b hb)
theorem hx_fF.fG {I I' : Nat → Nat → Int32} (h : hx_fF I I') : hx_fG I I' := fun b hb => h.1 b (by omega) (by omega) (by omega)
theorem hx_fG_u {I : Nat → Nat → Int32} {b j : Nat} {v : Int32} (h : 38 ≤ b ∧ b ≤ 42) : hx_fG I (hl_up I b j v) := fun c hc => hl_up_ne _ _ _ (by omega)
section HXCTXT
variable {d E N L p n a m nn : Nat} {I I' : Nat → Nat → Int32} {J : Nat → Nat → Int64} {t : Nat → Nat} {A : List (Nat × Nat × List (Nat × Nat))}
theorem hx_s75 {κ : Nat} (hk : κ < 3) : hl_call (d + 1) 75 [.ref 39, .int (nI κ)] (hl_g N I J) = some (some (.int (if I 41 κ = -1 then 0 else 1)), hl_g N I J) := by
  have b3 : hl_inb (nI κ) 3 = true := hl_inb_nI hk (by omega)
  have cq : (nI κ).toNatClampNeg = κ := hl_cq (by omega)
  rw [hl_e75]
  by_cases z : I 41 κ = -1
  · rw [if_pos z]
    simp only [hl_r75_0, hl_r75_1, hl_r75_4, hl_r75_5, hl_r75_6, hl_r75_7, hl_r75_10, hl_r75_11, hl_r75_14, hl_r75_15, hl_o_39, hl_p_39_0, hl_p_39_1, hl_p_39_2, hl_a_41, hl_z_41, b3, cq, z, hl_kill_i, hl_kill_r, hl_kill_n, hl_kill_l, hl_tl_s, hl_tl_n, hl_cal_some, hl_gI, hl_gJ, hl_gsI, hl_gsJ, hl_tv01, if_true, if_false, not_true, not_false_eq_true, hl_10, or_true, true_or]
  · rw [if_neg z]
    simp only [hl_r75_0, hl_r75_1, hl_r75_4, hl_r75_5, hl_r75_6, hl_r75_7, hl_r75_10, hl_r75_11, hl_r75_14, hl_r75_15, hl_o_39, hl_p_39_0, hl_p_39_1, hl_p_39_2, hl_a_41, hl_z_41, b3, cq, z, hl_kill_i, hl_kill_r, hl_kill_n, hl_kill_l, hl_tl_s, hl_tl_n, hl_cal_some, hl_gI, hl_gJ, hl_gsI, hl_gsJ, hl_tv01, if_true, if_false, not_true, not_false_eq_true, hl_10, or_true, true_or]
/-- clause -/
theorem hx_s55 (hE : 72 ≤ E) (h : hx_KX t L m p n A I) (hn : (hx_tk t L p).1 ≠ 21) :
    ((hx_cl t L m p).1 = 0 → ∃ I' n', hl_call (E + 17) 55 [.ref 38] (hl_g N I J) = some (none, hl_g N I' J) ∧ hx_KX t L (m + 2 ^ (hx_tk t L p).1) (hx_cl t L m p).2.1 n' (A ++ [((hx_tk t L p).1, nn, (hx_cl t L m p).2.2)]) I' ∧ hx_fG I I') ∧
    ((hx_cl t L m p).1 ≠ 0 → ∃ I', hl_call (E + 17) 55 [.ref 38] (hl_g N I J) = some (none, hl_g N I' J) ∧ hx_CF t L (hx_cl t L m p).1 (hx_cl t L m p).2.1 I' ∧ hx_fG I I') := by
  obtain ⟨cr, hm, hu, hA, hs⟩ := h
  have h5 := cr.2.1.2.2.1
  have h3 := cr.2.2.2.2.1
  have hnp := cr.2.2.2.2.2.1
  have L3 : L ≤ 300 := cr.1.1
  obtain ⟨ta, tb, te, td, k44, -⟩ := hx_tk_in (t := t) cr.2.2.2.2.2.2
  have i2 : hl_in (nI (hx_tk t L p).1) 0 2 = (decide (0 ≤ (hx_tk t L p).1) && decide ((hx_tk t L p).1 ≤ 2)) := hx_in_n (a := 0) (b := 2) (by omega) (by omega) (by omega)
  have i2' : hl_in (nI (hx_tk t L p).1) 0 2 = decide ((hx_tk t L p).1 ≤ 2) := by rw [i2, decide_eq_true (Nat.zero_le _), Bool.true_and]
  unfold hx_cl
  by_cases z1 : 2 < (hx_tk t L p).1
  · rw [if_pos z1]
    refine ⟨fun y => absurd y (by show (1 : Nat) ≠ 0; omega), fun _ => ?_⟩
    obtain ⟨I1, e1, c1, f1⟩ := hx_rf0 (d := E + 15) (N := N) (J := J) (r := 1) cr (by omega)
    have e1' : hl_call (E + 16) 64 [.ref 38, .int 1] (hl_g N I J) = some (none, hl_g N I1 J) := e1
    rw [decide_eq_false (by omega)] at i2'
    refine ⟨I1, ?_, c1, f1.fG⟩
    rw [hl_e55]
    simp only [hl_r55_0, hl_r55_1, hl_r55_4, hl_r55_5, hl_r55_6, hl_r55_7, hl_r55_8, hl_r55_11, hl_r55_14, hl_r55_15, hl_r55_16, hl_r55_19, hl_r55_20, hl_r55_21, hl_r55_24, hl_r55_25, hl_r55_28, hl_r55_31, hl_r55_32, hl_r55_33, hl_r55_36, hl_r55_37, hl_r55_38, hl_r55_41, hl_r55_44, hl_r55_45, hl_r55_46, hl_r55_49, hl_r55_52, hl_r55_53, hl_r55_54, hl_r55_57, hl_r55_58, hl_r55_59, hl_r55_62, hl_r55_63, hl_r55_64, hl_r55_67, hl_r55_70, hl_r55_71, hl_r55_72, hl_r55_75, hl_r55_76, hl_r55_79, hl_r55_82, hl_r55_83, hl_r55_84, hl_r55_87, hl_r55_90, hl_r55_91, hl_r55_92, hl_r55_94, hl_r55_97, hl_o_38, hl_p_38_0, hl_p_38_1, hl_o_39, hl_p_39_0, hl_p_39_1, hl_p_39_2, h5, hl_s147, i2', hl_tv_f, e1', hl_tl_s, hl_tl_n, hl_kill_i, hl_kill_r, hl_kill_n, hl_kill_l, hl_tl_s, hl_tl_n, hl_cal_some, hl_gI, hl_gJ, hl_gsI, hl_gsJ, hl_tv01, if_true, if_false, not_true, not_false_eq_true, hl_10, or_true, true_or]
  · rw [if_neg z1]
    rw [decide_eq_true (by omega)] at i2'
    have k3 : (hx_tk t L p).1 < 3 := by omega
    have e75 := hx_s75 (d := E + 15) (N := N) (I := I) (J := J) k3
    have e75' : hl_call (E + 16) 75 [.ref 39, .int (nI (hx_tk t L p).1)] (hl_g N I J) = _ := e75
    by_cases z2 : hx_sn m (hx_tk t L p).1 = true
    · rw [if_pos z2]
      refine ⟨fun y => absurd y (by show (4 : Nat) ≠ 0; omega), fun _ => ?_⟩
      obtain ⟨a, ha, hae⟩ := hs _ k3 z2
      obtain ⟨-, -, s, e, se, en, g41, -⟩ := hA a ha
      have n41 : ¬ I 41 (hx_tk t L p).1 = -1 := by
        rw [← hae, g41]
        intro y
        have : (nI s).toInt = (-1 : Int32).toInt := by rw [y]
        rw [hl_tI (by omega)] at this
        have e1 : (-1 : Int32).toInt = -1 := by decide
        omega
      rw [if_neg n41] at e75'
      have n1 : ¬ (1 : Int32) = 0 := by decide
      obtain ⟨I1, e1, c1, f1⟩ := hx_rf0 (d := E + 15) (N := N) (J := J) (r := 4) cr (by omega)
      have e1' : hl_call (E + 16) 64 [.ref 38, .int 4] (hl_g N I J) = some (none, hl_g N I1 J) := e1
      refine ⟨I1, ?_, c1, f1.fG⟩
      rw [hl_e55]
      simp only [hl_r55_0, hl_r55_1, hl_r55_4, hl_r55_5, hl_r55_6, hl_r55_7, hl_r55_8, hl_r55_11, hl_r55_14, hl_r55_15, hl_r55_16, hl_r55_19, hl_r55_20, hl_r55_21, hl_r55_24, hl_r55_25, hl_r55_28, hl_r55_31, hl_r55_32, hl_r55_33, hl_r55_36, hl_r55_37, hl_r55_38, hl_r55_41, hl_r55_44, hl_r55_45, hl_r55_46, hl_r55_49, hl_r55_52, hl_r55_53, hl_r55_54, hl_r55_57, hl_r55_58, hl_r55_59, hl_r55_62, hl_r55_63, hl_r55_64, hl_r55_67, hl_r55_70, hl_r55_71, hl_r55_72, hl_r55_75, hl_r55_76, hl_r55_79, hl_r55_82, hl_r55_83, hl_r55_84, hl_r55_87, hl_r55_90, hl_r55_91, hl_r55_92, hl_r55_94, hl_r55_97, hl_o_38, hl_p_38_0, hl_p_38_1, hl_o_39, hl_p_39_0, hl_p_39_1, hl_p_39_2, h5, hl_s147, i2', hl_tv_t, e75', n1, e1', hl_tl_s, hl_tl_n, hl_kill_i, hl_kill_r, hl_kill_n, hl_kill_l, hl_tl_s, hl_tl_n, hl_cal_some, hl_gI, hl_gJ, hl_gsI, hl_gsJ, hl_tv01, if_true, if_false, not_true, not_false_eq_true, hl_10, or_true, true_or]
    · rw [if_neg z2]
      have z2' : hx_sn m (hx_tk t L p).1 = false := Bool.eq_false_iff.mpr z2
      rw [if_pos (hu _ k3 z2')] at e75'
      have c3 := hx_came3 m hm _ k3 z2'
      have c4 := hx_came4 m hm _ k3 z2'
      have b3 : hl_inb (nI (hx_tk t L p).1) 3 = true := hl_inb_nI k3 (by omega)
      have cq : (nI (hx_tk t L p).1).toNatClampNeg = (hx_tk t L p).1 := hl_cq (by omega)
      -- first
      have cr1 : hx_CR t L p n (hl_up I 41 (hx_tk t L p).1 (nI n)) := by
        obtain ⟨T, S, a7, a8, a3, a1, a2⟩ := cr
        have r : ∀ b, b ≠ 41 → hl_up I 41 (hx_tk t L p).1 (nI n) b = I b := fun b hb => hl_up_ne _ _ _ hb
        refine ⟨⟨T.1, by rw [r 38 (by omega)]; exact T.2.1, fun k hk => by rw [r 37 (by omega)]; exact T.2.2 k hk⟩, ?_, by rw [r 38 (by omega)]; exact a7, by rw [r 38 (by omega)]; exact a8, by rw [r 39 (by omega)]; exact a3, a1, a2⟩
        unfold hx_TS
        rw [r 38 (by omega)]
        exact S
      obtain ⟨I2, e2, c2, f2⟩ := hx_adv (d := E + 2) (N := N) (J := J) cr1
      have e2' : hl_call (E + 16) 66 [.ref 38] (hl_g N (hl_up I 41 (hx_tk t L p).1 (nI n)) J) = some (none, hl_g N I2 J) := e2
      have g41 : ∀ k, I2 41 k = if k = (hx_tk t L p).1 then nI n else I 41 k := fun k => by rw [f2.1 41 (by omega), hl_up_a, if_pos rfl]
      have g42 : I2 42 = I 42 := by rw [f2.1 42 (by omega), hl_up_ne _ _ _ (by omega)]
      have g40 : I2 40 = I 40 := by rw [f2.1 40 (by omega), hl_up_ne _ _ _ (by omega)]
      have fc2 : hx_fG I I2 := hx_fG_tr (hx_fG_u (by omega)) f2.fF.fG
      have lt : p < (hx_tk t L p).2.2.2 := by omega
      generalize hκ : (hx_tk t L p).1 = κ at h5 i2' e75' k3 z2' c3 c4 b3 cq e2' g41 ⊢
      generalize (hx_tk t L p).2.2.2 = e at c2 te lt ⊢
      -- the expression
      have mid : ∃ I3, hl_call (E + 16) (if κ = 2 then 56 else 59) [.ref 38, .int 0] (hl_g N I2 J) = some (none, hl_g N I3 J) ∧ hx_CO t L e n I2 I3 (hx_rd t L 8 (if κ = 2 then 3 else 1) e) (if κ = 2 then hx_mB 46 else hx_mN 46) := by
        have up := hx_UP_8 (N := N) (t := t) (L := L)
        by_cases z : κ = 2
        · rw [if_pos z, if_pos z, if_pos z]
          exact (up.2.2.2.1 E hE).1 I2 J e n c2
        · rw [if_neg z, if_neg z, if_neg z]
          exact (up.2.1 E hE).1 I2 J e n c2
      have g1 := hx_gd_rd (t := t) (L := L) 8 (if κ = 2 then 3 else 1) e te
      obtain ⟨I3, e3, o3, x3⟩ := mid
      generalize hx_rd t L 8 (if κ = 2 then 3 else 1) e = r at o3 x3 g1 ⊢
      have st : ∀ v, I3 39 3 = v → hl_call (E + 17) 55 [.ref 38] (hl_g N I J) = hl_Run 55 (hl_call (E + 16)) 91 [.ref 38, .int (nI κ)] [] (hl_g N (hl_up I3 42 κ v) J) := fun v hv => by
        have q2 : (nI κ = (2 : Int32)) = (κ = 2) := propext (nI_eq (b := 2) (by omega) (by omega))
        rw [hl_e55]
        by_cases z : κ = 2
        · have p2 : (κ = 2) = True := eq_true z
          rw [if_pos z] at e3
          simp only [hl_r55_0, hl_r55_1, hl_r55_4, hl_r55_5, hl_r55_6, hl_r55_7, hl_r55_8, hl_r55_11, hl_r55_14, hl_r55_15, hl_r55_16, hl_r55_19, hl_r55_20, hl_r55_21, hl_r55_24, hl_r55_25, hl_r55_28, hl_r55_31, hl_r55_32, hl_r55_33, hl_r55_36, hl_r55_37, hl_r55_38, hl_r55_41, hl_r55_44, hl_r55_45, hl_r55_46, hl_r55_49, hl_r55_52, hl_r55_53, hl_r55_54, hl_r55_57, hl_r55_58, hl_r55_59, hl_r55_62, hl_r55_63, hl_r55_64, hl_r55_67, hl_r55_70, hl_r55_71, hl_r55_72, hl_r55_75, hl_r55_76, hl_r55_79, hl_r55_82, hl_r55_83, hl_r55_84, hl_r55_87, hl_r55_90, hl_o_38, hl_p_38_0, hl_p_38_1, hl_o_39, hl_p_39_0, hl_p_39_1, hl_p_39_2, hl_a_41, hl_z_41, hl_a_42, hl_z_42, h5, hl_s147, i2', hl_tv_t, e75', h3, b3, cq, e2', q2, p2, e3, hv, hl_tl_s, hl_tl_n, hl_kill_i, hl_kill_r, hl_kill_n, hl_kill_l, hl_tl_s, hl_tl_n, hl_cal_some, hl_gI, hl_gJ, hl_gsI, hl_gsJ, hl_tv01, if_true, if_false, not_true, not_false_eq_true, hl_10, or_true, true_or]
        · have p2 : (κ = 2) = False := eq_false z
          rw [if_neg z] at e3
          simp only [hl_r55_0, hl_r55_1, hl_r55_4, hl_r55_5, hl_r55_6, hl_r55_7, hl_r55_8, hl_r55_11, hl_r55_14, hl_r55_15, hl_r55_16, hl_r55_19, hl_r55_20, hl_r55_21, hl_r55_24, hl_r55_25, hl_r55_28, hl_r55_31, hl_r55_32, hl_r55_33, hl_r55_36, hl_r55_37, hl_r55_38, hl_r55_41, hl_r55_44, hl_r55_45, hl_r55_46, hl_r55_49, hl_r55_52, hl_r55_53, hl_r55_54, hl_r55_57, hl_r55_58, hl_r55_59, hl_r55_62, hl_r55_63, hl_r55_64, hl_r55_67, hl_r55_70, hl_r55_71, hl_r55_72, hl_r55_75, hl_r55_76, hl_r55_79, hl_r55_82, hl_r55_83, hl_r55_84, hl_r55_87, hl_r55_90, hl_o_38, hl_p_38_0, hl_p_38_1, hl_o_39, hl_p_39_0, hl_p_39_1, hl_p_39_2, hl_a_41, hl_z_41, hl_a_42, hl_z_42, h5, hl_s147, i2', hl_tv_t, e75', h3, b3, cq, e2', q2, p2, e3, hv, hl_tl_s, hl_tl_n, hl_kill_i, hl_kill_r, hl_kill_n, hl_kill_l, hl_tl_s, hl_tl_n, hl_cal_some, hl_gI, hl_gJ, hl_gsI, hl_gsJ, hl_tv01, if_true, if_false, not_true, not_false_eq_true, hl_10, or_true, true_or]
      by_cases w : r.1 = 0
      · obtain ⟨n1, cc, a1, a2, ft, sm⟩ := o3 w
        obtain ⟨ga, gb, gc, -⟩ := g1.1 w
        clear o3 x3 g1
        rw [hx_ths_0 w]
        have st4 := st _ cc.2.2.2.2.1
        have cr4 : hx_CR t L r.2.1 n1 (hl_up I3 42 κ (nI n1)) := by
          obtain ⟨T, S, a7, a8, a3, a1, a2⟩ := cc
          have q : ∀ b, b ≠ 42 → hl_up I3 42 κ (nI n1) b = I3 b := fun b hb => hl_up_ne _ _ _ hb
          refine ⟨⟨T.1, by rw [q 38 (by omega)]; exact T.2.1, fun k hk => by rw [q 37 (by omega)]; exact T.2.2 k hk⟩, ?_, by rw [q 38 (by omega)]; exact a7, by rw [q 38 (by omega)]; exact a8, by rw [q 39 (by omega)]; exact a3, a1, a2⟩
          unfold hx_TS
          rw [q 38 (by omega)]
          exact S
        have fc4 : hx_fG I (hl_up I3 42 κ (nI n1)) := hx_fG_tr fc2 (hx_fG_tr ft.1.fG (hx_fG_u (by omega)))
        obtain ⟨I5, e5, k5, m5⟩ := hx_s65 (d := E + 1) (N := N) (J := J) (k := 40) cr4 (by omega)
        have e5' : hl_call (E + 16) 65 [.ref 38, .int 40] (hl_g N (hl_up I3 42 κ (nI n1)) J) = some (none, hl_g N I5 J) := e5
        have fin : hl_call (E + 17) 55 [.ref 38] (hl_g N I J) = some (none, hl_g N I5 J) := by
          rw [st4]
          simp only [hl_r55_91, hl_r55_92, hl_r55_94, hl_r55_97, hl_o_38, hl_p_38_0, hl_p_38_1, e5', hl_tl_n, hl_kill_i, hl_kill_r, hl_kill_n, hl_kill_l, hl_tl_s, hl_tl_n, hl_cal_some, hl_gI, hl_gJ, hl_gsI, hl_gsJ, hl_tv01, if_true, if_false, not_true, not_false_eq_true, hl_10, or_true, true_or]
        by_cases z40 : (hx_tk t L r.2.1).1 = 40
        · rw [hx_exp_y z40]
          refine ⟨fun _ => ?_, fun y => absurd rfl y⟩
          obtain ⟨c5, f5⟩ := k5 z40
          clear k5 m5
          have h41 : ∀ k, I5 41 k = if k = κ then nI n else I 41 k := fun k => by
            rw [f5.1 41 (by omega), hl_up_ne _ _ _ (by omega), ft.1.1 41 (by omega) (by omega) (by omega), g41]
          have h42 : ∀ k, I5 42 k = if k = κ then nI n1 else I 42 k := fun k => by
            rw [f5.1 42 (by omega), hl_up_a, if_pos rfl, ft.1.1 42 (by omega) (by omega) (by omega), g42]
          have h40 : ∀ j, j < n → I5 40 j = I 40 j := fun j hj => by
            rw [f5.1 40 (by omega), hl_up_ne _ _ _ (by omega), ft.2 j hj, g40]
          have h40' : ∀ j, I5 40 j = I3 40 j := fun j => by
            rw [f5.1 40 (by omega), hl_up_ne _ _ _ (by omega)]
          refine ⟨I5, n1, fin, ⟨c5, c3, fun k hk hsn => ?_, fun b hb => ?_, fun k hk hsn => ?_⟩, hx_fG_tr fc4 f5.fF.fG⟩
          · rw [c4 k hk, Bool.or_eq_false_iff, decide_eq_false_iff_not] at hsn
            rw [h41, if_neg hsn.1]
            exact hu k hk hsn.2
          · rcases List.mem_append.mp hb with hb | hb
            · obtain ⟨b1, b2, s, e', se, en, g1', g2', sem⟩ := hA b hb
              have ne : b.1 ≠ κ := fun y => by rw [y, z2'] at b2; exact Bool.false_ne_true b2
              refine ⟨b1, by rw [c4 _ b1, b2, Bool.or_true], s, e', se, by omega, by rw [h41, if_neg ne]; exact g1', by rw [h42, if_neg ne]; exact g2', ?_⟩
              by_cases y : b.1 = 2
              · rw [if_pos y] at sem ⊢
                exact hx_SB_S sem (fun j h1 h2 => h40 j (by omega)) (Nat.le_refl _)
              · rw [if_neg y] at sem ⊢
                exact hx_SN_S sem (fun j h1 h2 => h40 j (by omega)) (Nat.le_refl _)
            · rw [List.mem_singleton.mp hb]
              refine ⟨k3, ?_, n, n1, a1, Nat.le_refl _, ?_, ?_, ?_⟩
              · show hx_sn (m + 2 ^ κ) κ = true
                rw [c4 κ k3, decide_eq_true rfl]; rfl
              · show I5 41 κ = nI n
                rw [h41, if_pos rfl]
              · show I5 42 κ = nI n1
                rw [h42, if_pos rfl]
              · show if κ = 2 then hx_SB (I5 40) n n1 r.2.2 46 else hx_SN (I5 40) n n1 r.2.2 46
                by_cases y : κ = 2
                · rw [if_pos y] at sm ⊢
                  exact hx_SB_S sm (fun j h1 h2 => h40' j) (Nat.le_refl _)
                · rw [if_neg y] at sm ⊢
                  exact hx_SN_S sm (fun j h1 h2 => h40' j) (Nat.le_refl _)
          · rw [c4 k hk, Bool.or_eq_true, decide_eq_true_eq] at hsn
            rcases hsn with y | y
            · exact ⟨_, List.mem_append.mpr (Or.inr (List.mem_singleton.mpr rfl)), y.symm⟩
            · obtain ⟨b, hb, e⟩ := hs k hk y
              exact ⟨b, List.mem_append.mpr (Or.inl hb), e⟩
        · rw [hx_exp_n z40]
          obtain ⟨c5, f5⟩ := m5 z40
          exact ⟨fun y => absurd y (by show (1 : Nat) ≠ 0; omega), fun _ => ⟨I5, fin, c5, hx_fG_tr fc4 f5.fG⟩⟩
      · rw [hx_ths_n w]
        refine ⟨fun y => absurd y w, fun _ => ?_⟩
        obtain ⟨cf, ff⟩ := x3 w
        obtain ⟨T, hf, h7, h8, q, hq, hq3⟩ := cf
        have st4 := st _ hq3
        have rr : ∀ b, b ≠ 42 → hl_up I3 42 κ (nI q) b = I3 b := fun b hb => hl_up_ne _ _ _ hb
        have cf4 : hx_CF t L r.1 r.2.1 (hl_up I3 42 κ (nI q)) := ⟨⟨T.1, by rw [rr 38 (by omega)]; exact T.2.1, fun k hk => by rw [rr 37 (by omega)]; exact T.2.2 k hk⟩, hf, by rw [rr 38 (by omega)]; exact h7, by rw [rr 38 (by omega)]; exact h8, q, hq, by rw [rr 39 (by omega)]; exact hq3⟩
        have e5 := hx_s65f (d := E + 1) (N := N) (J := J) (k := 40) cf4
        have e5' : hl_call (E + 16) 65 [.ref 38, .int 40] (hl_g N (hl_up I3 42 κ (nI q)) J) = some (none, hl_g N (hl_up I3 42 κ (nI q)) J) := e5
        refine ⟨_, ?_, cf4, hx_fG_tr fc2 (hx_fG_tr ff.fG (hx_fG_u (by omega)))⟩
        rw [st4]
        simp only [hl_r55_91, hl_r55_92, hl_r55_94, hl_r55_97, hl_o_38, hl_p_38_0, hl_p_38_1, e5', hl_tl_n, hl_kill_i, hl_kill_r, hl_kill_n, hl_kill_l, hl_tl_s, hl_tl_n, hl_cal_some, hl_gI, hl_gJ, hl_gsI, hl_gsJ, hl_tv01, if_true, if_false, not_true, not_false_eq_true, hl_10, or_true, true_or]
end HXCTXT
