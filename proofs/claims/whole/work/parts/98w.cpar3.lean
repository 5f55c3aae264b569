/-! the class's reader: opened, one -/
theorem hx_CO_m {t : Nat → Nat} {L p e n : Nat} {I I1 I' : Nat → Nat → Int32} {r : Nat × Nat × List (Nat × Nat)} {sem : (Nat → Int32) → Nat → Nat → List (Nat × Nat) → Prop} (h : hx_CO t L e n I1 I' r sem) (f : hx_fT n I I1) (hp : p ≤ e) : hx_CO t L p n I I' r sem := by
  refine ⟨fun z => ?_, fun z => ?_⟩
  · obtain ⟨n', a, b, c, d, s⟩ := h.1 z
    clear h
    exact ⟨n', a, b, by omega, hx_fT_tr f d (Nat.le_refl n), s⟩
  · obtain ⟨a, b⟩ := h.2 z
    exact ⟨a, hx_fF_tr f.1 b⟩
section HXCPAR3
variable {D d E N L p n a M M1 : Nat} {I I' : Nat → Nat → Int32} {J : Nat → Nat → Int64} {t : Nat → Nat} {u : Nat → Nat → Nat × Nat × List (Nat × Nat)} {up : Option (Nat → Nat → Nat × Nat × List (Nat × Nat))}
theorem hx_add_adv {k v : Nat} (h : hx_CR t L p n I) (hl : p < (hx_tk t L p).2.2.2) : ∃ I', hl_call (d + 14) 66 [.ref 38] (hl_g N (hl_up (hl_up I 40 n (hx_enc k v)) 39 3 (nI (n + 1))) J) = some (none, hl_g N I' J) ∧ hx_CR t L (hx_tk t L p).2.2.2 (n + 1) I' ∧ hx_fT n I I' ∧ I' 40 n = hx_enc k v := by
  obtain ⟨T, S, h7, h8, h3, hn, hp⟩ := h
  obtain ⟨a, b, c, -⟩ := hx_tk_in (t := t) hp
  have fa := hx_fT_add (I := I) (k := k) (v := v) (Nat.le_refl n)
  have aa := (hx_add_at (n := n) (I := I) (k := k) (v := v)).2
  have r38 : hl_up (hl_up I 40 n (hx_enc k v)) 39 3 (nI (n + 1)) 38 = I 38 := by rw [hl_up_ne _ _ _ (by omega), hl_up_ne _ _ _ (by omega)]
  have r37 : hl_up (hl_up I 40 n (hx_enc k v)) 39 3 (nI (n + 1)) 37 = I 37 := by rw [hl_up_ne _ _ _ (by omega), hl_up_ne _ _ _ (by omega)]
  have u3 : hl_up (hl_up I 40 n (hx_enc k v)) 39 3 (nI (n + 1)) 39 3 = nI (n + 1) := hl_up_at
  generalize hl_up (hl_up I 40 n (hx_enc k v)) 39 3 (nI (n + 1)) = X at fa aa r38 r37 u3
  have T' : hx_TP t L X := ⟨T.1, by rw [r38]; exact T.2.1, fun k hk => by rw [r37]; exact T.2.2 k hk⟩
  obtain ⟨I1, e1, S1, f1⟩ := hx_s66 (d := d) (N := N) (J := J) T' (by rw [r38]; exact S.2.1) c
  exact ⟨I1, e1, ⟨f1.tp T', S1, by rw [f1.2 7 (by omega), r38]; exact h7, by rw [f1.2 8 (by omega), r38]; exact h8, by rw [f1.1 39 (by omega)]; exact u3, by omega, c⟩, hx_fT_tr fa f1.fT (Nat.le_refl n), by rw [f1.1 40 (by omega)]; exact aa⟩
/-- opened -/
theorem hx_c62 (hu : hx_UP N t L D a u M) (hD : D ≤ E) (hM : 1 ≤ M) (h : hx_CR t L p n I) (hk : (hx_tk t L p).1 = 38 ∨ (hx_tk t L p).1 = 35 ∨ (hx_tk t L p).1 = 15) : ∃ I', hl_call (E + 18) 62 [.ref 38, .int (nI a)] (hl_g N I J) = some (none, hl_g N I' J) ∧ hx_CO t L p n I I' (hx_opn t L u (hx_tk t L p).1 (hx_tk t L p).2.2.2) (hx_mN M) := by
  obtain ⟨ta, tb, tc, td, -⟩ := hx_tk_in (t := t) h.2.2.2.2.2.2
  have h5 := h.2.1.2.2.1
  have hn := h.2.2.2.2.2.1
  have L3 : L ≤ 300 := h.1.1
  obtain ⟨I1, e1, c1, f1⟩ := hx_adv (d := E + 3) (N := N) (J := J) h
  have e1' : hl_call (E + 17) 66 [.ref 38] (hl_g N I J) = some (none, hl_g N I1 J) := e1
  have lt : p < (hx_tk t L p).2.2.2 := by omega
  generalize (hx_tk t L p).2.2.2 = e at c1 lt tb tc td ⊢
  rcases hk with z | z | z
  · have h5' : I 38 5 = 38 := by rw [h5, z]; rfl
    have ho : hx_opn t L u 38 e = hx_ths (u 1 e) (fun q C => hx_exp t L 39 q C) := if_pos rfl
    rw [z, ho]
    obtain ⟨I2, e2, o2, x2⟩ := (hu.2.1 (E + 1) (by omega)).1 I1 J e n c1
    have e2' : hl_call (E + 17) 59 [.ref 38, .int (nI a)] (hl_g N I1 J) = some (none, hl_g N I2 J) := e2
    have g2 := hu.2.2.2.2 1 e tc
    generalize u 1 e = r at o2 x2 g2 ⊢
    by_cases z1 : r.1 = 0
    · obtain ⟨n1, c2, a2, b2, f2, s2⟩ := o2 z1
      obtain ⟨y1, y2, -⟩ := g2.1 z1
      clear o2 x2 g2
      obtain ⟨I3, e3, k3, m3⟩ := hx_s65 (d := E + 2) (N := N) (J := J) (k := 39) c2 (by omega)
      have e3' : hl_call (E + 17) 65 [.ref 38, .int 39] (hl_g N I2 J) = some (none, hl_g N I3 J) := e3
      have st : hl_call (E + 18) 62 [.ref 38, .int (nI a)] (hl_g N I J) = some (none, hl_g N I3 J) := by
        rw [hl_e62]
        simp only [hl_r62_0, hl_r62_1, hl_r62_4, hl_r62_5, hl_r62_6, hl_r62_9, hl_r62_10, hl_r62_12, hl_r62_15, hl_r62_16, hl_r62_17, hl_r62_20, hl_r62_21, hl_r62_23, hl_r62_26, hl_r62_29, hl_r62_30, hl_r62_32, hl_r62_35, hl_r62_36, hl_r62_37, hl_r62_40, hl_r62_41, hl_r62_44, hl_r62_46, hl_r62_47, hl_r62_50, hl_r62_51, hl_r62_54, hl_r62_55, hl_r62_56, hl_r62_59, hl_o_38, hl_p_38_0, hl_p_38_1, hl_o_39, hl_p_39_0, hl_p_39_1, hl_p_39_2, h5', e1', e2', e3', hl_tl_n, hl_kill_i, hl_kill_r, hl_kill_n, hl_kill_l, hl_tl_s, hl_tl_n, hl_cal_some, hl_gI, hl_gJ, hl_gsI, hl_gsJ, hl_tv01, if_true, if_false, hl_up_a, hl_row_a, not_true, not_false_eq_true, hl_10]
      obtain ⟨ua, ub, uc, -⟩ := hx_tk_in (t := t) y2
      by_cases z2 : (hx_tk t L r.2.1).1 = 39
      · obtain ⟨c3, f3⟩ := k3 z2
        clear k3 m3
        refine ⟨I3, st, hx_CO_o (q := (hx_tk t L r.2.1).2.2.2) (n' := n1) (C := r.2.2) (by rw [hx_ths_0 z1, hx_exp_y z2]) c3 a2 (by omega) (hx_fT_tr f1.fT (hx_fT_tr f2 f3.fT (Nat.le_refl n)) (Nat.le_refl n)) ?_⟩
        rw [f3.1 40 (by omega)]
        exact s2
      · obtain ⟨c3, f3⟩ := m3 z2
        exact ⟨I3, st, hx_CO_f (f := 1) (pl := (hx_tk t L r.2.1).2.2.1) (C := []) (by omega) (by rw [hx_ths_0 z1, hx_exp_n z2]) c3 (hx_fF_tr f1.fF (hx_fF_tr f2.1 f3))⟩
    · obtain ⟨c2, f2⟩ := x2 z1
      have e3 := hx_s65f (d := E + 2) (N := N) (J := J) (k := 39) c2
      have e3' : hl_call (E + 17) 65 [.ref 38, .int 39] (hl_g N I2 J) = some (none, hl_g N I2 J) := e3
      refine ⟨I2, ?_, hx_CO_f (f := r.1) (pl := r.2.1) (C := r.2.2) z1 (by rw [hx_ths_n z1]) c2 (hx_fF_tr f1.fF f2)⟩
      rw [hl_e62]
      simp only [hl_r62_0, hl_r62_1, hl_r62_4, hl_r62_5, hl_r62_6, hl_r62_9, hl_r62_10, hl_r62_12, hl_r62_15, hl_r62_16, hl_r62_17, hl_r62_20, hl_r62_21, hl_r62_23, hl_r62_26, hl_r62_29, hl_r62_30, hl_r62_32, hl_r62_35, hl_r62_36, hl_r62_37, hl_r62_40, hl_r62_41, hl_r62_44, hl_r62_46, hl_r62_47, hl_r62_50, hl_r62_51, hl_r62_54, hl_r62_55, hl_r62_56, hl_r62_59, hl_o_38, hl_p_38_0, hl_p_38_1, hl_o_39, hl_p_39_0, hl_p_39_1, hl_p_39_2, h5', e1', e2', e3', hl_tl_n, hl_kill_i, hl_kill_r, hl_kill_n, hl_kill_l, hl_tl_s, hl_tl_n, hl_cal_some, hl_gI, hl_gJ, hl_gsI, hl_gsJ, hl_tv01, if_true, if_false, hl_up_a, hl_row_a, not_true, not_false_eq_true, hl_10]
  · have h5' : I 38 5 = 35 := by rw [h5, z]; rfl
    have d1 : ¬ (35 : Int32) = 38 := by decide
    have ho : hx_opn t L u 35 e = hx_ths (u 0 e) (fun q C => (0, q, C ++ [(2, 0)])) := (if_neg (by decide)).trans (if_pos rfl)
    rw [z, ho]
    obtain ⟨I2, e2, o2, x2⟩ := (hu.1 (E + 1) (by omega)).1 I1 J e n c1
    have e2' : hl_call (E + 17) 61 [.ref 38, .int (nI a)] (hl_g N I1 J) = some (none, hl_g N I2 J) := e2
    have g2 := hu.2.2.2.2 0 e tc
    generalize u 0 e = r at o2 x2 g2 ⊢
    by_cases z1 : r.1 = 0
    · obtain ⟨n1, c2, a2, b2, f2, s2⟩ := o2 z1
      obtain ⟨y1, y2, -⟩ := g2.1 z1
      clear o2 x2 g2
      have n3 : n1 < 300 := by omega
      have add1 := hx_s78 (d := E + 16) (N := N) (J := J) (k := 50) (v := 0) c2.2.2.2.2.1 n3
      have c3 := hx_CR_add (k := 50) (v := 0) c2 (show n1 + 1 ≤ r.2.1 by omega)
      have f3 := hx_fT_add (I := I2) (k := 50) (v := 0) (Nat.le_refl n1)
      obtain ⟨at3a, at3b⟩ := hx_add_at (n := n1) (I := I2) (k := 50) (v := 0)
      have add1' : hl_call (E + 17) 78 [.ref 39, .int 50, .int 0] (hl_g N I2 J) = some (some (.int (nI n1)), hl_g N (hl_up (hl_up I2 40 n1 (hx_enc 50 0)) 39 3 (nI (n1 + 1))) J) := add1
      generalize hl_up (hl_up I2 40 n1 (hx_enc 50 0)) 39 3 (nI (n1 + 1)) = I3 at add1' c3 f3 at3a at3b
      refine ⟨I3, ?_, hx_CO_o (q := r.2.1) (n' := n1 + 1) (C := r.2.2 ++ [(2, 0)]) (by rw [hx_ths_0 z1]) c3 (by omega) (by omega) (hx_fT_tr f1.fT (hx_fT_tr f2 f3 (by omega)) (Nat.le_refl n)) ?_⟩
      · rw [hl_e62]
        simp only [hl_r62_0, hl_r62_1, hl_r62_4, hl_r62_5, hl_r62_6, hl_r62_9, hl_r62_10, hl_r62_12, hl_r62_15, hl_r62_16, hl_r62_17, hl_r62_20, hl_r62_21, hl_r62_23, hl_r62_26, hl_r62_29, hl_r62_30, hl_r62_32, hl_r62_35, hl_r62_36, hl_r62_37, hl_r62_40, hl_r62_41, hl_r62_44, hl_r62_46, hl_r62_47, hl_r62_50, hl_r62_51, hl_r62_54, hl_r62_55, hl_r62_56, hl_r62_59, hl_o_38, hl_p_38_0, hl_p_38_1, hl_o_39, hl_p_39_0, hl_p_39_1, hl_p_39_2, h5', d1, e1', e2', add1', hl_tl_n, hl_kill_i, hl_kill_r, hl_kill_n, hl_kill_l, hl_tl_s, hl_tl_n, hl_cal_some, hl_gI, hl_gJ, hl_gsI, hl_gsJ, hl_tv01, if_true, if_false, hl_up_a, hl_row_a, not_true, not_false_eq_true, hl_10]
      · exact hx_SN_neg (hx_SN_S s2 (fun j h1 h2 => at3a j h2) (Nat.le_refl M)) a2 n3 at3b hM
    · obtain ⟨c2, f2⟩ := x2 z1
      obtain ⟨I3, w, e3, c3, f3⟩ := hx_s78f (d := E + 16) (N := N) (J := J) (k := 50) (v := 0) c2
      have e3' : hl_call (E + 17) 78 [.ref 39, .int 50, .int 0] (hl_g N I2 J) = some (some (.int w), hl_g N I3 J) := e3
      refine ⟨I3, ?_, hx_CO_f (f := r.1) (pl := r.2.1) (C := r.2.2) z1 (by rw [hx_ths_n z1]) c3 (hx_fF_tr f1.fF (hx_fF_tr f2 f3))⟩
      rw [hl_e62]
      simp only [hl_r62_0, hl_r62_1, hl_r62_4, hl_r62_5, hl_r62_6, hl_r62_9, hl_r62_10, hl_r62_12, hl_r62_15, hl_r62_16, hl_r62_17, hl_r62_20, hl_r62_21, hl_r62_23, hl_r62_26, hl_r62_29, hl_r62_30, hl_r62_32, hl_r62_35, hl_r62_36, hl_r62_37, hl_r62_40, hl_r62_41, hl_r62_44, hl_r62_46, hl_r62_47, hl_r62_50, hl_r62_51, hl_r62_54, hl_r62_55, hl_r62_56, hl_r62_59, hl_o_38, hl_p_38_0, hl_p_38_1, hl_o_39, hl_p_39_0, hl_p_39_1, hl_p_39_2, h5', d1, e1', e2', e3', hl_tl_n, hl_kill_i, hl_kill_r, hl_kill_n, hl_kill_l, hl_tl_s, hl_tl_n, hl_cal_some, hl_gI, hl_gJ, hl_gsI, hl_gsJ, hl_tv01, if_true, if_false, hl_up_a, hl_row_a, not_true, not_false_eq_true, hl_10]
  · have h5' : I 38 5 = 15 := by rw [h5, z]; rfl
    have d1 : ¬ (15 : Int32) = 38 := by decide
    have d2 : ¬ (15 : Int32) = 35 := by decide
    have ho : hx_opn t L u 15 e = hx_cho t L u e := (if_neg (by decide)).trans (if_neg (by decide))
    rw [z, ho]
    obtain ⟨I2, e2, o2⟩ := hx_c63 (E := E) (J := J) hu hD hM c1 (show n + 1 ≤ e by omega)
    refine ⟨I2, ?_, hx_CO_m o2 f1.fT (by omega)⟩
    rw [hl_e62]
    simp only [hl_r62_0, hl_r62_1, hl_r62_4, hl_r62_5, hl_r62_6, hl_r62_9, hl_r62_10, hl_r62_12, hl_r62_15, hl_r62_16, hl_r62_17, hl_r62_20, hl_r62_21, hl_r62_23, hl_r62_26, hl_r62_29, hl_r62_30, hl_r62_32, hl_r62_35, hl_r62_36, hl_r62_37, hl_r62_40, hl_r62_41, hl_r62_44, hl_r62_46, hl_r62_47, hl_r62_50, hl_r62_51, hl_r62_54, hl_r62_55, hl_r62_56, hl_r62_59, hl_o_38, hl_p_38_0, hl_p_38_1, hl_o_39, hl_p_39_0, hl_p_39_1, hl_p_39_2, h5', d1, d2, e1', e2, hl_tl_n, hl_kill_i, hl_kill_r, hl_kill_n, hl_kill_l, hl_tl_s, hl_tl_n, hl_cal_some, hl_gI, hl_gJ, hl_gsI, hl_gsJ, hl_tv01, if_true, if_false, hl_up_a, hl_row_a, not_true, not_false_eq_true, hl_10]
/-- one -/
theorem hx_c61 (hU : (up = none ∧ a = 8) ∨ ∃ u, up = some u ∧ a < 8 ∧ hx_UP N t L D (a + 1) u M) (hD : D ≤ E) (hM : 1 ≤ M) : hx_CK N t L (E + 19) 61 a (hx_one t L up) (hx_mN M) := by
  refine ⟨fun I J p n h => ?_, fun I J f pl h => ⟨I, ?_, h, hx_fF_rf I⟩⟩
  · obtain ⟨ta, tb, tc, td, k44, tv⟩ := hx_tk_in (t := t) h.2.2.2.2.2.2
    have h5 := h.2.1.2.2.1
    have h6 := h.2.1.2.2.2
    have h7 := h.2.2.1
    have hn := h.2.2.2.2.2.1
    have L3 : L ≤ 300 := h.1.1
    by_cases z1 : (hx_tk t L p).1 = 20
    · have h5' : I 38 5 = 20 := by rw [h5, z1]; rfl
      have h6' := h6 z1
      clear h6
      have lt : p < (hx_tk t L p).2.2.2 := by omega
      by_cases z2 : 9999 < (hx_tk t L p).2.1
      · obtain ⟨I1, e1, c1, f1⟩ := hx_rf0 (d := E + 17) (N := N) (J := J) (r := 2) h (by omega)
        have e1' : hl_call (E + 18) 64 [.ref 38, .int 2] (hl_g N I J) = some (none, hl_g N I1 J) := e1
        have c9 : (9999 : Int32) < nI (hx_tk t L p).2.1 := (nI_lt z2 (by omega) : nI 9999 < _)
        have c9' : ¬ nI (hx_tk t L p).2.1 ≤ 9999 := Int32.not_le.mpr c9
        refine ⟨I1, ?_, hx_CO_f (f := 2) (pl := (hx_tk t L p).2.2.1) (C := []) (by omega) ?_ c1 f1⟩
        · rw [hl_e61]
          simp only [hl_r61_0, hl_r61_1, hl_r61_4, hl_r61_7, hl_r61_8, hl_r61_9, hl_r61_12, hl_r61_14, hl_r61_17, hl_r61_18, hl_r61_21, hl_r61_24, hl_r61_27, hl_r61_28, hl_r61_29, hl_r61_32, hl_r61_35, hl_r61_36, hl_r61_39, hl_r61_41, hl_r61_44, hl_r61_45, hl_r61_48, hl_r61_49, hl_r61_51, hl_r61_54, hl_r61_57, hl_r61_58, hl_r61_61, hl_r61_62, hl_r61_65, hl_r61_66, hl_r61_69, hl_r61_71, hl_r61_74, hl_r61_75, hl_r61_78, hl_r61_81, hl_r61_82, hl_r61_85, hl_r61_86, hl_r61_87, hl_r61_90, hl_r61_93, hl_r61_94, hl_r61_97, hl_r61_99, hl_r61_102, hl_r61_103, hl_r61_106, hl_r61_108, hl_r61_111, hl_r61_112, hl_r61_115, hl_r61_117, hl_r61_120, hl_r61_121, hl_r61_122, hl_r61_125, hl_r61_128, hl_r61_129, hl_r61_131, hl_r61_134, hl_r61_135, hl_r61_136, hl_r61_139, hl_r61_142, hl_r61_143, hl_r61_144, hl_r61_145, hl_r61_146, hl_r61_149, hl_o_38, hl_p_38_0, hl_p_38_1, h5', h6', h7, c9, c9', e1', hl_tl_n, hl_kill_i, hl_kill_r, hl_kill_n, hl_kill_l, hl_tl_s, hl_tl_n, hl_cal_some, hl_gI, hl_gJ, hl_gsI, hl_gsJ, hl_tv01, if_true, if_false, hl_up_a, hl_row_a, not_true, not_false_eq_true, hl_10]
        · unfold hx_one
          rw [if_pos z1, if_pos z2]
      · have c9 : nI (hx_tk t L p).2.1 ≤ (9999 : Int32) := (nI_le (by omega) (by omega) : _ ≤ nI 9999)
        have c9' : ¬ (9999 : Int32) < nI (hx_tk t L p).2.1 := Int32.not_lt.mpr c9
        have n3 : n < 300 := by omega
        have add1 := hx_s78 (d := E + 17) (N := N) (J := J) (k := 20) (v := nI (hx_tk t L p).2.1) h.2.2.2.2.1 n3
        have add1' : hl_call (E + 18) 78 [.ref 39, .int 20, .int (nI (hx_tk t L p).2.1)] (hl_g N I J) = some (some (.int (nI n)), hl_g N (hl_up (hl_up I 40 n (hx_enc 20 (hx_tk t L p).2.1)) 39 3 (nI (n + 1))) J) := add1
        obtain ⟨I2, e2, c2, f2, s2⟩ := hx_add_adv (d := E + 4) (N := N) (J := J) (k := 20) (v := (hx_tk t L p).2.1) h lt
        have e2' : hl_call (E + 18) 66 [.ref 38] (hl_g N (hl_up (hl_up I 40 n (hx_enc 20 (hx_tk t L p).2.1)) 39 3 (nI (n + 1))) J) = some (none, hl_g N I2 J) := e2
        refine ⟨I2, ?_, hx_CO_o (q := (hx_tk t L p).2.2.2) (n' := n + 1) (C := [(0, (hx_tk t L p).2.1)]) ?_ c2 (by omega) (by omega) f2 (hx_SN_num n3 (by omega) s2 hM)⟩
        · rw [hl_e61]
          simp only [hl_r61_0, hl_r61_1, hl_r61_4, hl_r61_7, hl_r61_8, hl_r61_9, hl_r61_12, hl_r61_14, hl_r61_17, hl_r61_18, hl_r61_21, hl_r61_24, hl_r61_27, hl_r61_28, hl_r61_29, hl_r61_32, hl_r61_35, hl_r61_36, hl_r61_39, hl_r61_41, hl_r61_44, hl_r61_45, hl_r61_48, hl_r61_49, hl_r61_51, hl_r61_54, hl_r61_57, hl_r61_58, hl_r61_61, hl_r61_62, hl_r61_65, hl_r61_66, hl_r61_69, hl_r61_71, hl_r61_74, hl_r61_75, hl_r61_78, hl_r61_81, hl_r61_82, hl_r61_85, hl_r61_86, hl_r61_87, hl_r61_90, hl_r61_93, hl_r61_94, hl_r61_97, hl_r61_99, hl_r61_102, hl_r61_103, hl_r61_106, hl_r61_108, hl_r61_111, hl_r61_112, hl_r61_115, hl_r61_117, hl_r61_120, hl_r61_121, hl_r61_122, hl_r61_125, hl_r61_128, hl_r61_129, hl_r61_131, hl_r61_134, hl_r61_135, hl_r61_136, hl_r61_139, hl_r61_142, hl_r61_143, hl_r61_144, hl_r61_145, hl_r61_146, hl_r61_149, hl_o_38, hl_p_38_0, hl_p_38_1, hl_o_39, hl_p_39_0, hl_p_39_1, hl_p_39_2, h5', h6', h7, c9, c9', add1', e2', hl_tl_n, hl_kill_i, hl_kill_r, hl_kill_n, hl_kill_l, hl_tl_s, hl_tl_n, hl_cal_some, hl_gI, hl_gJ, hl_gsI, hl_gsJ, hl_tv01, if_true, if_false, hl_up_a, hl_row_a, not_true, not_false_eq_true, hl_10]
        · unfold hx_one
          rw [if_pos z1, if_neg z2]
    · have n20 : ¬ nI (hx_tk t L p).1 = 20 := fun x => z1 ((nI_eq (b := 20) (by omega) (by omega)).mp x)
      clear h6
      have i3 : hl_in (nI (hx_tk t L p).1) 3 11 = (decide (3 ≤ (hx_tk t L p).1) && decide ((hx_tk t L p).1 ≤ 11)) := hx_in_n (a := 3) (b := 11) (by omega) (by omega) (by omega)
      by_cases z2 : 3 ≤ (hx_tk t L p).1 ∧ (hx_tk t L p).1 ≤ 11
      · have i3' : hl_in (nI (hx_tk t L p).1) 3 11 = true := by rw [i3, decide_eq_true z2.1, decide_eq_true z2.2]; rfl
        have lt : p < (hx_tk t L p).2.2.2 := by omega
        have n3 : n < 300 := by omega
        have add1 := hx_s78 (d := E + 17) (N := N) (J := J) (k := nI (hx_tk t L p).1) (v := 0) h.2.2.2.2.1 n3
        have add1' : hl_call (E + 18) 78 [.ref 39, .int (nI (hx_tk t L p).1), .int 0] (hl_g N I J) = some (some (.int (nI n)), hl_g N (hl_up (hl_up I 40 n (hx_enc (hx_tk t L p).1 0)) 39 3 (nI (n + 1))) J) := add1
        obtain ⟨I2, e2, c2, f2, s2⟩ := hx_add_adv (d := E + 4) (N := N) (J := J) (k := (hx_tk t L p).1) (v := 0) h lt
        have e2' : hl_call (E + 18) 66 [.ref 38] (hl_g N (hl_up (hl_up I 40 n (hx_enc (hx_tk t L p).1 0)) 39 3 (nI (n + 1))) J) = some (none, hl_g N I2 J) := e2
        refine ⟨I2, ?_, hx_CO_o (q := (hx_tk t L p).2.2.2) (n' := n + 1) (C := [(1, (hx_tk t L p).1 - 3)]) ?_ c2 (by omega) (by omega) f2 (hx_SN_name n3 z2 s2 hM)⟩
        · have u5 : hl_up (hl_up I 40 n (hx_enc (hx_tk t L p).1 0)) 39 3 (nI (n + 1)) 38 = I 38 := by rw [hl_up_ne _ _ _ (by omega), hl_up_ne _ _ _ (by omega)]
          rw [hl_e61]
          simp only [hl_r61_0, hl_r61_1, hl_r61_4, hl_r61_7, hl_r61_8, hl_r61_9, hl_r61_12, hl_r61_14, hl_r61_17, hl_r61_18, hl_r61_21, hl_r61_24, hl_r61_27, hl_r61_28, hl_r61_29, hl_r61_32, hl_r61_35, hl_r61_36, hl_r61_39, hl_r61_41, hl_r61_44, hl_r61_45, hl_r61_48, hl_r61_49, hl_r61_51, hl_r61_54, hl_r61_57, hl_r61_58, hl_r61_61, hl_r61_62, hl_r61_65, hl_r61_66, hl_r61_69, hl_r61_71, hl_r61_74, hl_r61_75, hl_r61_78, hl_r61_81, hl_r61_82, hl_r61_85, hl_r61_86, hl_r61_87, hl_r61_90, hl_r61_93, hl_r61_94, hl_r61_97, hl_r61_99, hl_r61_102, hl_r61_103, hl_r61_106, hl_r61_108, hl_r61_111, hl_r61_112, hl_r61_115, hl_r61_117, hl_r61_120, hl_r61_121, hl_r61_122, hl_r61_125, hl_r61_128, hl_r61_129, hl_r61_131, hl_r61_134, hl_r61_135, hl_r61_136, hl_r61_139, hl_r61_142, hl_r61_143, hl_r61_144, hl_r61_145, hl_r61_146, hl_r61_149, hl_o_38, hl_p_38_0, hl_p_38_1, hl_o_39, hl_p_39_0, hl_p_39_1, hl_p_39_2, h5, h7, n20, hl_s147, i3', hl_tv_t, add1', e2', hl_tl_n, hl_kill_i, hl_kill_r, hl_kill_n, hl_kill_l, hl_tl_s, hl_tl_n, hl_cal_some, hl_gI, hl_gJ, hl_gsI, hl_gsJ, hl_tv01, if_true, if_false, hl_up_a, hl_row_a, not_true, not_false_eq_true, hl_10]
        · unfold hx_one
          rw [if_neg z1, if_pos z2]
      · have i3' : hl_in (nI (hx_tk t L p).1) 3 11 = false := by
          rw [i3]
          by_cases y : 3 ≤ (hx_tk t L p).1
          · rw [decide_eq_false (fun x => z2 ⟨y, x⟩), Bool.and_false]
          · rw [decide_eq_false y, Bool.false_and]
        by_cases z3 : (hx_tk t L p).1 = 38 ∨ (hx_tk t L p).1 = 35 ∨ (hx_tk t L p).1 = 15
        · rcases hU with ⟨rfl, rfl⟩ | ⟨u, rfl, ha, hu⟩
          · obtain ⟨I1, e1, c1, f1⟩ := hx_rf0 (d := E + 17) (N := N) (J := J) (r := 3) h (by omega)
            have e1' : hl_call (E + 18) 64 [.ref 38, .int 3] (hl_g N I J) = some (none, hl_g N I1 J) := e1
            have c8 : ¬ nI 8 < (8 : Int32) := by decide
            refine ⟨I1, ?_, hx_CO_f (f := 3) (pl := (hx_tk t L p).2.2.1) (C := []) (by omega) ?_ c1 f1⟩
            · rw [hl_e61]
              rcases z3 with z | z | z
              · have h5' : I 38 5 = 38 := by rw [h5, z]; rfl
                rw [z] at n20 i3'
                have n20' : ¬ (38 : Int32) = 20 := by decide
                have i3'' : hl_in 38 3 11 = false := i3'
                simp only [hl_r61_0, hl_r61_1, hl_r61_4, hl_r61_7, hl_r61_8, hl_r61_9, hl_r61_12, hl_r61_14, hl_r61_17, hl_r61_18, hl_r61_21, hl_r61_24, hl_r61_27, hl_r61_28, hl_r61_29, hl_r61_32, hl_r61_35, hl_r61_36, hl_r61_39, hl_r61_41, hl_r61_44, hl_r61_45, hl_r61_48, hl_r61_49, hl_r61_51, hl_r61_54, hl_r61_57, hl_r61_58, hl_r61_61, hl_r61_62, hl_r61_65, hl_r61_66, hl_r61_69, hl_r61_71, hl_r61_74, hl_r61_75, hl_r61_78, hl_r61_81, hl_r61_82, hl_r61_85, hl_r61_86, hl_r61_87, hl_r61_90, hl_r61_93, hl_r61_94, hl_r61_97, hl_r61_99, hl_r61_102, hl_r61_103, hl_r61_106, hl_r61_108, hl_r61_111, hl_r61_112, hl_r61_115, hl_r61_117, hl_r61_120, hl_r61_121, hl_r61_122, hl_r61_125, hl_r61_128, hl_r61_129, hl_r61_131, hl_r61_134, hl_r61_135, hl_r61_136, hl_r61_139, hl_r61_142, hl_r61_143, hl_r61_144, hl_r61_145, hl_r61_146, hl_r61_149, hl_o_38, hl_p_38_0, hl_p_38_1, hl_o_39, hl_p_39_0, hl_p_39_1, hl_p_39_2, h5', h7, n20', hl_s147, i3'', hl_tv_f, c8, e1', hl_tl_n, hl_kill_i, hl_kill_r, hl_kill_n, hl_kill_l, hl_tl_s, hl_tl_n, hl_cal_some, hl_gI, hl_gJ, hl_gsI, hl_gsJ, hl_tv01, if_true, if_false, hl_up_a, hl_row_a, not_true, not_false_eq_true, hl_10]
              · have h5' : I 38 5 = 35 := by rw [h5, z]; rfl
                rw [z] at n20 i3'
                have n20' : ¬ (35 : Int32) = 20 := by decide
                have n38' : ¬ (35 : Int32) = 38 := by decide
                have i3'' : hl_in 35 3 11 = false := i3'
                simp only [hl_r61_0, hl_r61_1, hl_r61_4, hl_r61_7, hl_r61_8, hl_r61_9, hl_r61_12, hl_r61_14, hl_r61_17, hl_r61_18, hl_r61_21, hl_r61_24, hl_r61_27, hl_r61_28, hl_r61_29, hl_r61_32, hl_r61_35, hl_r61_36, hl_r61_39, hl_r61_41, hl_r61_44, hl_r61_45, hl_r61_48, hl_r61_49, hl_r61_51, hl_r61_54, hl_r61_57, hl_r61_58, hl_r61_61, hl_r61_62, hl_r61_65, hl_r61_66, hl_r61_69, hl_r61_71, hl_r61_74, hl_r61_75, hl_r61_78, hl_r61_81, hl_r61_82, hl_r61_85, hl_r61_86, hl_r61_87, hl_r61_90, hl_r61_93, hl_r61_94, hl_r61_97, hl_r61_99, hl_r61_102, hl_r61_103, hl_r61_106, hl_r61_108, hl_r61_111, hl_r61_112, hl_r61_115, hl_r61_117, hl_r61_120, hl_r61_121, hl_r61_122, hl_r61_125, hl_r61_128, hl_r61_129, hl_r61_131, hl_r61_134, hl_r61_135, hl_r61_136, hl_r61_139, hl_r61_142, hl_r61_143, hl_r61_144, hl_r61_145, hl_r61_146, hl_r61_149, hl_o_38, hl_p_38_0, hl_p_38_1, hl_o_39, hl_p_39_0, hl_p_39_1, hl_p_39_2, h5', h7, n20', n38', hl_s147, i3'', hl_tv_f, c8, e1', hl_tl_n, hl_kill_i, hl_kill_r, hl_kill_n, hl_kill_l, hl_tl_s, hl_tl_n, hl_cal_some, hl_gI, hl_gJ, hl_gsI, hl_gsJ, hl_tv01, if_true, if_false, hl_up_a, hl_row_a, not_true, not_false_eq_true, hl_10]
              · have h5' : I 38 5 = 15 := by rw [h5, z]; rfl
                rw [z] at n20 i3'
                have n20' : ¬ (15 : Int32) = 20 := by decide
                have n38' : ¬ (15 : Int32) = 38 := by decide
                have n35' : ¬ (15 : Int32) = 35 := by decide
                have i3'' : hl_in 15 3 11 = false := i3'
                simp only [hl_r61_0, hl_r61_1, hl_r61_4, hl_r61_7, hl_r61_8, hl_r61_9, hl_r61_12, hl_r61_14, hl_r61_17, hl_r61_18, hl_r61_21, hl_r61_24, hl_r61_27, hl_r61_28, hl_r61_29, hl_r61_32, hl_r61_35, hl_r61_36, hl_r61_39, hl_r61_41, hl_r61_44, hl_r61_45, hl_r61_48, hl_r61_49, hl_r61_51, hl_r61_54, hl_r61_57, hl_r61_58, hl_r61_61, hl_r61_62, hl_r61_65, hl_r61_66, hl_r61_69, hl_r61_71, hl_r61_74, hl_r61_75, hl_r61_78, hl_r61_81, hl_r61_82, hl_r61_85, hl_r61_86, hl_r61_87, hl_r61_90, hl_r61_93, hl_r61_94, hl_r61_97, hl_r61_99, hl_r61_102, hl_r61_103, hl_r61_106, hl_r61_108, hl_r61_111, hl_r61_112, hl_r61_115, hl_r61_117, hl_r61_120, hl_r61_121, hl_r61_122, hl_r61_125, hl_r61_128, hl_r61_129, hl_r61_131, hl_r61_134, hl_r61_135, hl_r61_136, hl_r61_139, hl_r61_142, hl_r61_143, hl_r61_144, hl_r61_145, hl_r61_146, hl_r61_149, hl_o_38, hl_p_38_0, hl_p_38_1, hl_o_39, hl_p_39_0, hl_p_39_1, hl_p_39_2, h5', h7, n20', n38', n35', hl_s147, i3'', hl_tv_f, c8, e1', hl_tl_n, hl_kill_i, hl_kill_r, hl_kill_n, hl_kill_l, hl_tl_s, hl_tl_n, hl_cal_some, hl_gI, hl_gJ, hl_gsI, hl_gsJ, hl_tv01, if_true, if_false, hl_up_a, hl_row_a, not_true, not_false_eq_true, hl_10]
            · unfold hx_one
              rw [if_neg z1, if_neg z2, if_neg (fun x => x z3)]
          · obtain ⟨I1, e1, o1⟩ := hx_c62 (J := J) hu hD hM h z3
            have c8 : nI a < (8 : Int32) := (nI_lt ha (by omega) : _ < nI 8)
            have ea : nI a + 1 = nI (a + 1) := (nI_succ a).symm
            have ho : hx_one t L (some u) p = hx_opn t L u (hx_tk t L p).1 (hx_tk t L p).2.2.2 := by
              unfold hx_one
              rw [if_neg z1, if_neg z2, if_neg (fun x => x z3)]
            refine ⟨I1, ?_, by rw [ho]; exact o1⟩
            rw [hl_e61]
            clear o1 ho
            rcases z3 with z | z | z
            · have h5' : I 38 5 = 38 := by rw [h5, z]; rfl
              rw [z] at n20 i3'
              have n20' : ¬ (38 : Int32) = 20 := by decide
              have i3'' : hl_in 38 3 11 = false := i3'
              simp only [hl_r61_0, hl_r61_1, hl_r61_4, hl_r61_7, hl_r61_8, hl_r61_9, hl_r61_12, hl_r61_14, hl_r61_17, hl_r61_18, hl_r61_21, hl_r61_24, hl_r61_27, hl_r61_28, hl_r61_29, hl_r61_32, hl_r61_35, hl_r61_36, hl_r61_39, hl_r61_41, hl_r61_44, hl_r61_45, hl_r61_48, hl_r61_49, hl_r61_51, hl_r61_54, hl_r61_57, hl_r61_58, hl_r61_61, hl_r61_62, hl_r61_65, hl_r61_66, hl_r61_69, hl_r61_71, hl_r61_74, hl_r61_75, hl_r61_78, hl_r61_81, hl_r61_82, hl_r61_85, hl_r61_86, hl_r61_87, hl_r61_90, hl_r61_93, hl_r61_94, hl_r61_97, hl_r61_99, hl_r61_102, hl_r61_103, hl_r61_106, hl_r61_108, hl_r61_111, hl_r61_112, hl_r61_115, hl_r61_117, hl_r61_120, hl_r61_121, hl_r61_122, hl_r61_125, hl_r61_128, hl_r61_129, hl_r61_131, hl_r61_134, hl_r61_135, hl_r61_136, hl_r61_139, hl_r61_142, hl_r61_143, hl_r61_144, hl_r61_145, hl_r61_146, hl_r61_149, hl_o_38, hl_p_38_0, hl_p_38_1, hl_o_39, hl_p_39_0, hl_p_39_1, hl_p_39_2, h5', h7, n20', hl_s147, i3'', hl_tv_f, c8, ea, e1, hl_tl_n, hl_kill_i, hl_kill_r, hl_kill_n, hl_kill_l, hl_tl_s, hl_tl_n, hl_cal_some, hl_gI, hl_gJ, hl_gsI, hl_gsJ, hl_tv01, if_true, if_false, hl_up_a, hl_row_a, not_true, not_false_eq_true, hl_10]
            · have h5' : I 38 5 = 35 := by rw [h5, z]; rfl
              rw [z] at n20 i3'
              have n20' : ¬ (35 : Int32) = 20 := by decide
              have n38' : ¬ (35 : Int32) = 38 := by decide
              have i3'' : hl_in 35 3 11 = false := i3'
              simp only [hl_r61_0, hl_r61_1, hl_r61_4, hl_r61_7, hl_r61_8, hl_r61_9, hl_r61_12, hl_r61_14, hl_r61_17, hl_r61_18, hl_r61_21, hl_r61_24, hl_r61_27, hl_r61_28, hl_r61_29, hl_r61_32, hl_r61_35, hl_r61_36, hl_r61_39, hl_r61_41, hl_r61_44, hl_r61_45, hl_r61_48, hl_r61_49, hl_r61_51, hl_r61_54, hl_r61_57, hl_r61_58, hl_r61_61, hl_r61_62, hl_r61_65, hl_r61_66, hl_r61_69, hl_r61_71, hl_r61_74, hl_r61_75, hl_r61_78, hl_r61_81, hl_r61_82, hl_r61_85, hl_r61_86, hl_r61_87, hl_r61_90, hl_r61_93, hl_r61_94, hl_r61_97, hl_r61_99, hl_r61_102, hl_r61_103, hl_r61_106, hl_r61_108, hl_r61_111, hl_r61_112, hl_r61_115, hl_r61_117, hl_r61_120, hl_r61_121, hl_r61_122, hl_r61_125, hl_r61_128, hl_r61_129, hl_r61_131, hl_r61_134, hl_r61_135, hl_r61_136, hl_r61_139, hl_r61_142, hl_r61_143, hl_r61_144, hl_r61_145, hl_r61_146, hl_r61_149, hl_o_38, hl_p_38_0, hl_p_38_1, hl_o_39, hl_p_39_0, hl_p_39_1, hl_p_39_2, h5', h7, n20', n38', hl_s147, i3'', hl_tv_f, c8, ea, e1, hl_tl_n, hl_kill_i, hl_kill_r, hl_kill_n, hl_kill_l, hl_tl_s, hl_tl_n, hl_cal_some, hl_gI, hl_gJ, hl_gsI, hl_gsJ, hl_tv01, if_true, if_false, hl_up_a, hl_row_a, not_true, not_false_eq_true, hl_10]
            · have h5' : I 38 5 = 15 := by rw [h5, z]; rfl
              rw [z] at n20 i3'
              have n20' : ¬ (15 : Int32) = 20 := by decide
              have n38' : ¬ (15 : Int32) = 38 := by decide
              have n35' : ¬ (15 : Int32) = 35 := by decide
              have i3'' : hl_in 15 3 11 = false := i3'
              simp only [hl_r61_0, hl_r61_1, hl_r61_4, hl_r61_7, hl_r61_8, hl_r61_9, hl_r61_12, hl_r61_14, hl_r61_17, hl_r61_18, hl_r61_21, hl_r61_24, hl_r61_27, hl_r61_28, hl_r61_29, hl_r61_32, hl_r61_35, hl_r61_36, hl_r61_39, hl_r61_41, hl_r61_44, hl_r61_45, hl_r61_48, hl_r61_49, hl_r61_51, hl_r61_54, hl_r61_57, hl_r61_58, hl_r61_61, hl_r61_62, hl_r61_65, hl_r61_66, hl_r61_69, hl_r61_71, hl_r61_74, hl_r61_75, hl_r61_78, hl_r61_81, hl_r61_82, hl_r61_85, hl_r61_86, hl_r61_87, hl_r61_90, hl_r61_93, hl_r61_94, hl_r61_97, hl_r61_99, hl_r61_102, hl_r61_103, hl_r61_106, hl_r61_108, hl_r61_111, hl_r61_112, hl_r61_115, hl_r61_117, hl_r61_120, hl_r61_121, hl_r61_122, hl_r61_125, hl_r61_128, hl_r61_129, hl_r61_131, hl_r61_134, hl_r61_135, hl_r61_136, hl_r61_139, hl_r61_142, hl_r61_143, hl_r61_144, hl_r61_145, hl_r61_146, hl_r61_149, hl_o_38, hl_p_38_0, hl_p_38_1, hl_o_39, hl_p_39_0, hl_p_39_1, hl_p_39_2, h5', h7, n20', n38', n35', hl_s147, i3'', hl_tv_f, c8, ea, e1, hl_tl_n, hl_kill_i, hl_kill_r, hl_kill_n, hl_kill_l, hl_tl_s, hl_tl_n, hl_cal_some, hl_gI, hl_gJ, hl_gsI, hl_gsJ, hl_tv01, if_true, if_false, hl_up_a, hl_row_a, not_true, not_false_eq_true, hl_10]
        · obtain ⟨I1, e1, c1, f1⟩ := hx_rf0 (d := E + 17) (N := N) (J := J) (r := 1) h (by omega)
          have e1' : hl_call (E + 18) 64 [.ref 38, .int 1] (hl_g N I J) = some (none, hl_g N I1 J) := e1
          have n38 : ¬ nI (hx_tk t L p).1 = 38 := fun x => z3 (Or.inl ((nI_eq (b := 38) (by omega) (by omega)).mp x))
          have n35 : ¬ nI (hx_tk t L p).1 = 35 := fun x => z3 (Or.inr (Or.inl ((nI_eq (b := 35) (by omega) (by omega)).mp x)))
          have n15 : ¬ nI (hx_tk t L p).1 = 15 := fun x => z3 (Or.inr (Or.inr ((nI_eq (b := 15) (by omega) (by omega)).mp x)))
          refine ⟨I1, ?_, hx_CO_f (f := 1) (pl := (hx_tk t L p).2.2.1) (C := []) (by omega) ?_ c1 f1⟩
          · rw [hl_e61]
            simp only [hl_r61_0, hl_r61_1, hl_r61_4, hl_r61_7, hl_r61_8, hl_r61_9, hl_r61_12, hl_r61_14, hl_r61_17, hl_r61_18, hl_r61_21, hl_r61_24, hl_r61_27, hl_r61_28, hl_r61_29, hl_r61_32, hl_r61_35, hl_r61_36, hl_r61_39, hl_r61_41, hl_r61_44, hl_r61_45, hl_r61_48, hl_r61_49, hl_r61_51, hl_r61_54, hl_r61_57, hl_r61_58, hl_r61_61, hl_r61_62, hl_r61_65, hl_r61_66, hl_r61_69, hl_r61_71, hl_r61_74, hl_r61_75, hl_r61_78, hl_r61_81, hl_r61_82, hl_r61_85, hl_r61_86, hl_r61_87, hl_r61_90, hl_r61_93, hl_r61_94, hl_r61_97, hl_r61_99, hl_r61_102, hl_r61_103, hl_r61_106, hl_r61_108, hl_r61_111, hl_r61_112, hl_r61_115, hl_r61_117, hl_r61_120, hl_r61_121, hl_r61_122, hl_r61_125, hl_r61_128, hl_r61_129, hl_r61_131, hl_r61_134, hl_r61_135, hl_r61_136, hl_r61_139, hl_r61_142, hl_r61_143, hl_r61_144, hl_r61_145, hl_r61_146, hl_r61_149, hl_o_38, hl_p_38_0, hl_p_38_1, hl_o_39, hl_p_39_0, hl_p_39_1, hl_p_39_2, h5, h7, n20, n38, n35, n15, hl_s147, i3', hl_tv_f, e1', hl_tl_n, hl_kill_i, hl_kill_r, hl_kill_n, hl_kill_l, hl_tl_s, hl_tl_n, hl_cal_some, hl_gI, hl_gJ, hl_gsI, hl_gsJ, hl_tv01, if_true, if_false, hl_up_a, hl_row_a, not_true, not_false_eq_true, hl_10]
          · unfold hx_one
            rw [if_neg z1, if_neg z2, if_pos z3]
  · have f0 : ¬ nI f = 0 := nI_ne0 (by have := h.2.1; omega) (by have := h.2.1; omega)
    rw [hl_e61]
    simp only [hl_r61_0, hl_r61_1, hl_r61_4, hl_r61_7, hl_r61_8, hl_r61_9, hl_r61_12, hl_r61_14, hl_r61_17, hl_r61_18, hl_r61_21, hl_r61_24, hl_r61_27, hl_r61_28, hl_r61_29, hl_r61_32, hl_r61_35, hl_r61_36, hl_r61_39, hl_r61_41, hl_r61_44, hl_r61_45, hl_r61_48, hl_r61_49, hl_r61_51, hl_r61_54, hl_r61_57, hl_r61_58, hl_r61_61, hl_r61_62, hl_r61_65, hl_r61_66, hl_r61_69, hl_r61_71, hl_r61_74, hl_r61_75, hl_r61_78, hl_r61_81, hl_r61_82, hl_r61_85, hl_r61_86, hl_r61_87, hl_r61_90, hl_r61_93, hl_r61_94, hl_r61_97, hl_r61_99, hl_r61_102, hl_r61_103, hl_r61_106, hl_r61_108, hl_r61_111, hl_r61_112, hl_r61_115, hl_r61_117, hl_r61_120, hl_r61_121, hl_r61_122, hl_r61_125, hl_r61_128, hl_r61_129, hl_r61_131, hl_r61_134, hl_r61_135, hl_r61_136, hl_r61_139, hl_r61_142, hl_r61_143, hl_r61_144, hl_r61_145, hl_r61_146, hl_r61_149, hl_o_38, hl_p_38_0, hl_p_38_1, h.2.2.1, f0, hl_kill_i, hl_kill_r, hl_kill_n, hl_kill_l, hl_tl_s, hl_tl_n, hl_cal_some, hl_gI, hl_gJ, hl_gsI, hl_gsJ, hl_tv01, if_true, if_false, hl_up_a, hl_row_a, not_true, not_false_eq_true, hl_10]
end HXCPAR3
