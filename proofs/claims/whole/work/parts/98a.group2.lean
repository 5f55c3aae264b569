/-! the reference's groups, all cells -/
section HLGR2
variable {d N : Nat} {I I' : Nat → Nat → Int32} {J : Nat → Nat → Int64} {st : Nat → Int32} {wh : Bool}
theorem hl_lwc_le {c : Nat} : hl_lwc st wh c ≤ c := by
  unfold hl_lwc
  split
  · exact (hl_lo_in c c (Nat.le_refl c) (Nat.le_refl c) rfl (fun i a b => by omega)).1
  · exact Nat.le_refl c
theorem hl_l229 (hN : N ≤ 24) (f : Nat) : ∀ (I : Nat → Nat → Int32) (i : Nat) (l4 l5 : Value), i + f = N → I 85 2 = nI N → (∀ c, c < N → I 86 (30 + 7 * c + 2) = st c) → (∀ k, k < i → I 100 k = nI ((hl_grp st wh i).1 k)) → ∃ I', hl_Run 229 (hl_call (d + 1)) 4 [.ref 85, .int (hl_tv wh), .int (nI (hl_grp st wh i).2), .int (nI i), l4, l5] [] (hl_g N I J) = some (some (.int (nI (hl_grp st wh N).2)), hl_g N I' J) ∧ (∀ k, k < N → I' 100 k = nI ((hl_grp st wh N).1 k)) ∧ ∀ b, b ≠ 100 → I' b = I b := by
  induction f with
  | zero =>
    intro I i l4 l5 hi hM hst hg
    obtain rfl : i = N := by omega
    refine ⟨I, ?_, hg, fun _ _ => rfl⟩
    simp only [hl_r229_4, hl_r229_5, hl_r229_6, hl_r229_9, hl_r229_98, hl_r229_99, hl_o_85, hl_p_85_3, hl_p_85_4, hl_p_85_5, hl_p_85_6, hl_p_85_19, hl_p_85_23, hl_p_85_24, hl_p_85_25, hl_p_85_26, hl_p_85_27, hl_p_85_28, hl_p_85_29, hl_p_85_30, hl_p_85_31, hl_p_85_33, hl_p_85_34, hl_p_85_35, hl_p_85_36, hl_p_85_37, hM, Int32.le_refl, hl_kill_i, hl_kill_r, hl_kill_n, hl_kill_l, hl_tl_s, hl_tl_n, hl_cal_some, hl_gI, hl_gJ, hl_gsI, hl_gsJ, hl_tv01, if_true, if_false, hl_up_a, hl_row_a]
  | succ f ih =>
    intro I i l4 l5 hi hM hst hg
    have c1 : ¬ nI N ≤ nI i := nI_ge (by omega) (by omega)
    have en : nI i + 1 = nI (i + 1) := (nI_succ i).symm
    have scan : ∃ v : Int32, hl_Run 229 (hl_call (d + 1)) 4 [.ref 85, .int (hl_tv wh), .int (nI (hl_grp st wh i).2), .int (nI i), l4, l5] [] (hl_g N I J) = hl_Run 229 (hl_call (d + 1)) 55 [.ref 85, .int (hl_tv wh), .int (nI (hl_grp st wh i).2), .int (nI i), .int (nI (hl_lwc st wh i)), .int v] [] (hl_g N I J) := by
      have s0 : hl_Run 229 (hl_call (d + 1)) 4 [.ref 85, .int (hl_tv wh), .int (nI (hl_grp st wh i).2), .int (nI i), l4, l5] [] (hl_g N I J) = hl_Run 229 (hl_call (d + 1)) 20 [.ref 85, .int (hl_tv wh), .int (nI (hl_grp st wh i).2), .int (nI i), .int (nI i), .int (hl_di i)] [] (hl_g N I J) := by
        simp only [hl_r229_4, hl_r229_5, hl_r229_6, hl_r229_9, hl_r229_12, hl_r229_13, hl_r229_15, hl_r229_16, hl_r229_17, hl_r229_18, hl_o_85, hl_p_85_3, hl_p_85_4, hl_p_85_5, hl_p_85_6, hl_p_85_19, hl_p_85_23, hl_p_85_24, hl_p_85_25, hl_p_85_26, hl_p_85_27, hl_p_85_28, hl_p_85_29, hl_p_85_30, hl_p_85_31, hl_p_85_33, hl_p_85_34, hl_p_85_35, hl_p_85_36, hl_p_85_37, hM, c1, hl_di_sub, hl_kill_i, hl_kill_r, hl_kill_n, hl_kill_l, hl_tl_s, hl_tl_n, hl_cal_some, hl_gI, hl_gJ, hl_gsI, hl_gsJ, hl_tv01, if_true, if_false, hl_up_a, hl_row_a]
      cases wh with
      | true =>
        obtain ⟨v, e⟩ := hl_l229j (d := d) (J := J) (cnt := nI (hl_grp st true i).2) hN (show i < N by omega) hst i i (Nat.le_refl i)
        exact ⟨v, s0.trans e⟩
      | false =>
        refine ⟨hl_di i, s0.trans ?_⟩
        have el : hl_lwc st false i = i := by unfold hl_lwc; rw [if_neg (by decide)]
        rw [el]
        by_cases z : hl_di i < 0
        · simp only [hl_r229_20, hl_r229_22, hl_r229_25, hl_r229_26, z, hl_tv_f, hl_kill_i, hl_kill_r, hl_kill_n, hl_kill_l, hl_tl_s, hl_tl_n, hl_cal_some, hl_gI, hl_gJ, hl_gsI, hl_gsJ, hl_tv01, if_true, if_false, hl_up_a, hl_row_a]
        · simp only [hl_r229_20, hl_r229_22, hl_r229_25, hl_r229_26, z, hl_tv_f, hl_kill_i, hl_kill_r, hl_kill_n, hl_kill_l, hl_tl_s, hl_tl_n, hl_cal_some, hl_gI, hl_gJ, hl_gsI, hl_gsJ, hl_tv01, if_true, if_false, hl_up_a, hl_row_a]
    obtain ⟨v, e0⟩ := scan
    have lle := hl_lwc_le (st := st) (wh := wh) (c := i)
    have bi : hl_inb (nI i) 24 = true := hl_inb_nI (by omega) (by decide)
    by_cases q : hl_lwc st wh i < i
    · have e1 : hl_grp st wh (i + 1) = (hl_us (hl_grp st wh i).1 i ((hl_grp st wh i).1 (hl_lwc st wh i)), (hl_grp st wh i).2) := if_pos q
      have c2 : ¬ nI i ≤ nI (hl_lwc st wh i) := nI_ge q (by omega)
      have bl : hl_inb (nI (hl_lwc st wh i)) 24 = true := hl_inb_nI (by omega) (by decide)
      have hl := hg _ q
      generalize hl_grp st wh i = gp at hg e0 e1 hl
      generalize hl_lwc st wh i = lw at e0 e1 q c2 bl hl
      obtain ⟨I1, g1, g2, g3⟩ := ih (hl_up I 100 i (nI (gp.1 lw))) (i + 1) (.int (nI lw)) (.int v) (by omega) (by rw [hl_up_ne _ _ _ (by decide)]; exact hM) (fun c hc => by rw [hl_up_ne _ _ _ (by decide)]; exact hst c hc) (fun k hk => by
        rw [e1, hl_up_a, if_pos rfl]
        show (if k = i then _ else _) = nI (if k = i then gp.1 lw else gp.1 k)
        by_cases z : k = i
        · rw [if_pos z, if_pos z]
        · rw [if_neg z, if_neg z]; exact hg k (by omega))
      refine ⟨I1, ?_, g2, fun b hb => by rw [g3 b hb, hl_up_ne _ _ _ hb]⟩
      have z0 : ∀ x : Int32, x + 0 = x := Int32.add_zero
      rw [e0, ← g1, e1]
      simp only [hl_r229_55, hl_r229_56, hl_r229_59, hl_r229_60, hl_r229_62, hl_r229_63, hl_r229_66, hl_r229_67, hl_r229_70, hl_r229_72, hl_r229_73, hl_r229_76, hl_r229_77, hl_r229_78, hl_r229_79, hl_r229_81, hl_r229_82, hl_r229_85, hl_r229_86, hl_r229_89, hl_r229_90, hl_r229_91, hl_r229_92, hl_r229_95, hl_o_85, hl_p_85_3, hl_p_85_4, hl_p_85_5, hl_p_85_6, hl_p_85_19, hl_p_85_23, hl_p_85_24, hl_p_85_25, hl_p_85_26, hl_p_85_27, hl_p_85_28, hl_p_85_29, hl_p_85_30, hl_p_85_31, hl_p_85_33, hl_p_85_34, hl_p_85_35, hl_p_85_36, hl_p_85_37, hl_a_100, hl_z_100, c2, bl, bi, hl_cq (show i < 10000 by omega), hl_cq (show lw < 10000 by omega), hl, z0, en, hl_kill_i, hl_kill_r, hl_kill_n, hl_kill_l, hl_tl_s, hl_tl_n, hl_cal_some, hl_gI, hl_gJ, hl_gsI, hl_gsJ, hl_tv01, if_true, if_false, hl_up_a, hl_row_a]
    · have e1 : hl_grp st wh (i + 1) = (hl_us (hl_grp st wh i).1 i (hl_grp st wh i).2, (hl_grp st wh i).2 + 1) := if_neg q
      have c2 : nI i ≤ nI (hl_lwc st wh i) := nI_le (by omega) (by omega)
      generalize hl_grp st wh i = gp at hg e0 e1
      generalize hl_lwc st wh i = lw at e0 e1 q c2
      have ec : nI gp.2 + 1 = nI (gp.2 + 1) := (nI_succ gp.2).symm
      obtain ⟨I1, g1, g2, g3⟩ := ih (hl_up I 100 i (nI gp.2)) (i + 1) (.int (nI lw)) (.int v) (by omega) (by rw [hl_up_ne _ _ _ (by decide)]; exact hM) (fun c hc => by rw [hl_up_ne _ _ _ (by decide)]; exact hst c hc) (fun k hk => by
        rw [e1, hl_up_a, if_pos rfl]
        show (if k = i then _ else _) = nI (if k = i then gp.2 else gp.1 k)
        by_cases z : k = i
        · rw [if_pos z, if_pos z]
        · rw [if_neg z, if_neg z]; exact hg k (by omega))
      refine ⟨I1, ?_, g2, fun b hb => by rw [g3 b hb, hl_up_ne _ _ _ hb]⟩
      rw [e0, ← g1, e1]
      simp only [hl_r229_55, hl_r229_56, hl_r229_59, hl_r229_60, hl_r229_62, hl_r229_63, hl_r229_66, hl_r229_67, hl_r229_70, hl_r229_72, hl_r229_73, hl_r229_76, hl_r229_77, hl_r229_78, hl_r229_79, hl_r229_81, hl_r229_82, hl_r229_85, hl_r229_86, hl_r229_89, hl_r229_90, hl_r229_91, hl_r229_92, hl_r229_95, hl_o_85, hl_p_85_3, hl_p_85_4, hl_p_85_5, hl_p_85_6, hl_p_85_19, hl_p_85_23, hl_p_85_24, hl_p_85_25, hl_p_85_26, hl_p_85_27, hl_p_85_28, hl_p_85_29, hl_p_85_30, hl_p_85_31, hl_p_85_33, hl_p_85_34, hl_p_85_35, hl_p_85_36, hl_p_85_37, hl_a_100, hl_z_100, c2, bi, hl_cq (show i < 10000 by omega), ec, en, hl_kill_i, hl_kill_r, hl_kill_n, hl_kill_l, hl_tl_s, hl_tl_n, hl_cal_some, hl_gI, hl_gJ, hl_gsI, hl_gsJ, hl_tv01, if_true, if_false, hl_up_a, hl_row_a]
end HLGR2
