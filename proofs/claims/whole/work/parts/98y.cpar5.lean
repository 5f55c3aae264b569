/-! the class's reader: ask, levels -/
section HXCPAR5
variable {D d E N L p n a M M1 : Nat} {I I' : Nat → Nat → Int32} {J : Nat → Nat → Int64} {t : Nat → Nat} {u : Nat → Nat → Nat × Nat × List (Nat × Nat)} {up : Option (Nat → Nat → Nat × Nat × List (Nat × Nat))} {X : Nat → Nat × Nat × List (Nat × Nat)}
theorem hx_CK_mN {j : Nat} (h : hx_CK N t L D j a X (hx_mN M)) (hM : M ≤ M1) : hx_CK N t L D j a X (hx_mN M1) := by
  refine ⟨fun I J p n hc => ?_, h.2⟩
  obtain ⟨I', e, o⟩ := h.1 I J p n hc
  refine ⟨I', e, fun z => ?_, o.2⟩
  obtain ⟨n', a1, a2, a3, a4, a5⟩ := o.1 z
  exact ⟨n', a1, a2, a3, a4, hx_SN_S a5 (fun _ _ _ => rfl) hM⟩
theorem hx_CK_mB {j : Nat} (h : hx_CK N t L D j a X (hx_mB M)) (hM : M ≤ M1) : hx_CK N t L D j a X (hx_mB M1) := by
  refine ⟨fun I J p n hc => ?_, h.2⟩
  obtain ⟨I', e, o⟩ := h.1 I J p n hc
  refine ⟨I', e, fun z => ?_, o.2⟩
  obtain ⟨n', a1, a2, a3, a4, a5⟩ := o.1 z
  exact ⟨n', a1, a2, a3, a4, hx_SB_S a5 (fun _ _ _ => rfl) hM⟩
theorem hx_cm_in {k : Nat} (hk : k ≤ 44) : hx_cm k = (hl_in (nI k) 30 33 || hl_in (nI k) 43 44) := by
  have a : hl_in (nI k) 30 33 = (decide (30 ≤ k) && decide (k ≤ 33)) := hx_in_n (a := 30) (b := 33) (by omega) (by omega) (by omega)
  have b : hl_in (nI k) 43 44 = (decide (43 ≤ k) && decide (k ≤ 44)) := hx_in_n (a := 43) (b := 44) (by omega) (by omega) (by omega)
  rw [a, b]
  rfl
theorem hx_58z {a b : Int32} (h : a = b) : (a = b) = True := eq_true h
/-- from the sum on, in a good place -/
theorem hx_c58a (hS : hx_CK N t L (E + 21) 59 a X (hx_mN (M + 2))) (hg : ∀ p, p ≤ L → hx_gd L p (X p)) (h : hx_CR t L p n I) (z14 : ¬ (hx_tk t L p).1 = 14) : ∃ I', hl_call (E + 22) 58 [.ref 38, .int (nI a)] (hl_g N I J) = some (none, hl_g N I' J) ∧ hx_CO t L p n I I' (hx_ths (X p) (fun q C => if hx_cm (hx_tk t L q).1 = true then hx_ths (X (hx_tk t L q).2.2.2) (fun q' C' => (0, q', C ++ C' ++ [(hx_op (hx_tk t L q).1, 0)])) else (1, (hx_tk t L q).2.2.1, []))) (hx_mB (M + 3)) := by
  obtain ⟨-, -, -, -, k44, -⟩ := hx_tk_in (t := t) h.2.2.2.2.2.2
  have h5 := h.2.1.2.2.1
  have h7 := h.2.2.1
  have hn0 := h.2.2.2.2.2.1
  have L3 : L ≤ 300 := h.1.1
  have n14 : ¬ nI (hx_tk t L p).1 = 14 := fun x => z14 ((nI_eq (b := 14) (by omega) (by omega)).mp x)
  obtain ⟨I1, e1, o1, x1⟩ := hS.1 I J p n h
  have g1 := hg p h.2.2.2.2.2.2
  generalize X p = r at o1 x1 g1 ⊢
  have st : hl_call (E + 22) 58 [.ref 38, .int (nI a)] (hl_g N I J) = hl_Run 58 (hl_call (E + 21)) 57 [.ref 38, .int (nI a), .null] [] (hl_g N I1 J) := by
    rw [hl_e58]
    simp only [hl_r58_0, hl_r58_1, hl_r58_4, hl_r58_7, hl_r58_8, hl_r58_9, hl_r58_12, hl_r58_14, hl_r58_17, hl_r58_18, hl_r58_20, hl_r58_23, hl_r58_24, hl_r58_25, hl_r58_28, hl_r58_29, hl_r58_30, hl_r58_33, hl_r58_34, hl_r58_35, hl_r58_36, hl_r58_37, hl_r58_40, hl_r58_41, hl_r58_44, hl_r58_46, hl_r58_47, hl_r58_50, hl_r58_51, hl_r58_52, hl_r58_53, hl_r58_54, hl_o_38, hl_p_38_0, hl_p_38_1, h5, h7, n14, e1, hl_tl_n, hl_kill_i, hl_kill_r, hl_kill_n, hl_kill_l, hl_tl_s, hl_tl_n, hl_cal_some, hl_gI, hl_gJ, hl_gsI, hl_gsJ, hl_tv01, if_true, if_false, hl_up_a, hl_row_a, not_true, not_false_eq_true, hl_10]
  by_cases z1 : r.1 = 0
  · obtain ⟨n1, c1, a1, b1, f1, s1⟩ := o1 z1
    obtain ⟨y1, y2, -⟩ := g1.1 z1
    clear o1 x1 g1
    rw [hx_ths_0 z1]
    obtain ⟨ta, tb, tc, td, k44', -⟩ := hx_tk_in (t := t) y2
    have g5 := c1.2.1.2.2.1
    have hn1 := c1.2.2.2.2.2.1
    have cm := hx_cm_in k44'
    by_cases z2 : hx_cm (hx_tk t L r.2.1).1 = true
    · rw [if_pos z2]
      rw [z2] at cm
      have ne := hx_cm21 z2
      obtain ⟨I2, e2, k2, -⟩ := hx_s65 (d := E + 6) (N := N) (J := J) (k := (hx_tk t L r.2.1).1) c1 (by omega)
      have e2' : hl_call (E + 21) 65 [.ref 38, .int (nI (hx_tk t L r.2.1).1)] (hl_g N I1 J) = some (none, hl_g N I2 J) := e2
      obtain ⟨c2, f2⟩ := k2 rfl
      clear k2
      generalize hκ : (hx_tk t L r.2.1).1 = κ at e2' g5 z2 cm ne td k44' e2 ⊢
      generalize (hx_tk t L r.2.1).2.2.2 = e at c2 tb tc td ⊢
      obtain ⟨I3, e3, o3, x3⟩ := hS.1 I2 J e n1 c2
      have g3 := hg e tc
      generalize X e = r2 at o3 x3 g3 ⊢
      have st2 : ∀ (w : Int32) (I4 : Nat → Nat → Int32), hl_call (E + 21) 78 [.ref 39, .int (nI κ), .int 0] (hl_g N I3 J) = some (some (.int w), hl_g N I4 J) → hl_call (E + 22) 58 [.ref 38, .int (nI a)] (hl_g N I J) = some (none, hl_g N I4 J) := fun w I4 e4 => by
        rw [st]
        cases w1 : hl_in (nI κ) 30 33 with
        | true => simp only [hl_r58_57, hl_r58_58, hl_r58_61, hl_r58_62, hl_r58_63, hl_r58_65, hl_r58_67, hl_r58_70, hl_r58_73, hl_r58_74, hl_r58_76, hl_r58_78, hl_r58_81, hl_r58_84, hl_r58_85, hl_r58_86, hl_r58_89, hl_r58_90, hl_r58_91, hl_r58_92, hl_r58_95, hl_r58_96, hl_r58_97, hl_r58_100, hl_r58_101, hl_r58_104, hl_r58_105, hl_r58_106, hl_r58_109, hl_r58_110, hl_o_38, hl_p_38_0, hl_p_38_1, hl_o_39, hl_p_39_0, hl_p_39_1, hl_p_39_2, g5, hl_s147, w1, hl_tv_t, e2', e3, e4, hl_tl_n, hl_kill_i, hl_kill_r, hl_kill_n, hl_kill_l, hl_tl_s, hl_tl_n, hl_cal_some, hl_gI, hl_gJ, hl_gsI, hl_gsJ, hl_tv01, if_true, if_false, hl_up_a, hl_row_a, not_true, not_false_eq_true, hl_10]
        | false =>
          rw [w1] at cm
          have w2 : hl_in (nI κ) 43 44 = true := cm.symm
          simp only [hl_r58_57, hl_r58_58, hl_r58_61, hl_r58_62, hl_r58_63, hl_r58_65, hl_r58_67, hl_r58_70, hl_r58_73, hl_r58_74, hl_r58_76, hl_r58_78, hl_r58_81, hl_r58_84, hl_r58_85, hl_r58_86, hl_r58_89, hl_r58_90, hl_r58_91, hl_r58_92, hl_r58_95, hl_r58_96, hl_r58_97, hl_r58_100, hl_r58_101, hl_r58_104, hl_r58_105, hl_r58_106, hl_r58_109, hl_r58_110, hl_o_38, hl_p_38_0, hl_p_38_1, hl_o_39, hl_p_39_0, hl_p_39_1, hl_p_39_2, g5, hl_s147, w1, w2, hl_tv_t, hl_tv_f, e2', e3, e4, hl_tl_n, hl_kill_i, hl_kill_r, hl_kill_n, hl_kill_l, hl_tl_s, hl_tl_n, hl_cal_some, hl_gI, hl_gJ, hl_gsI, hl_gsJ, hl_tv01, if_true, if_false, hl_up_a, hl_row_a, not_true, not_false_eq_true, hl_10]
      by_cases z3 : r2.1 = 0
      · obtain ⟨n2, c3, a3, b3, f3, s3⟩ := o3 z3
        obtain ⟨y3, y4, -⟩ := g3.1 z3
        clear o3 x3 g3
        have n3 : n2 < 300 := by omega
        have add1 := hx_s78 (d := E + 20) (N := N) (J := J) (k := nI κ) (v := 0) c3.2.2.2.2.1 n3
        have add1' : hl_call (E + 21) 78 [.ref 39, .int (nI κ), .int 0] (hl_g N I3 J) = some (some (.int (nI n2)), hl_g N (hl_up (hl_up I3 40 n2 (hx_enc κ 0)) 39 3 (nI (n2 + 1))) J) := add1
        have c4 := hx_CR_add (k := κ) (v := 0) c3 (show n2 + 1 ≤ r2.2.1 by omega)
        have f4 := hx_fT_add (I := I3) (k := κ) (v := 0) (Nat.le_refl n2)
        obtain ⟨a4a, a4b⟩ := hx_add_at (n := n2) (I := I3) (k := κ) (v := 0)
        generalize hl_up (hl_up I3 40 n2 (hx_enc κ 0)) 39 3 (nI (n2 + 1)) = I4 at add1' c4 f4 a4a a4b
        refine ⟨I4, st2 _ _ add1', hx_CO_o (q := r2.2.1) (n' := n2 + 1) (C := r.2.2 ++ r2.2.2 ++ [(hx_op κ, 0)]) (by rw [hx_ths_0 z3]) c4 (by omega) (by omega) (hx_fT_tr f1 (hx_fT_tr f2.fT (hx_fT_tr f3 f4 a3) (Nat.le_refl n1)) a1) ?_⟩
        refine hx_SB_cmp (hx_SN_S s1 (fun j h1 h2 => ?_) (Nat.le_refl _)) (hx_SN_S s3 (fun j h1 h2 => a4a j h2) (Nat.le_refl _)) a1 a3 n3 z2 a4b (by omega) (by omega)
        rw [a4a j (by omega), f3.2 j h2, f2.1 40 (by omega)]
      · obtain ⟨c3, f3⟩ := x3 z3
        obtain ⟨I4, w, e4, c4, f4⟩ := hx_s78f (d := E + 20) (N := N) (J := J) (k := nI κ) (v := 0) c3
        have e4' : hl_call (E + 21) 78 [.ref 39, .int (nI κ), .int 0] (hl_g N I3 J) = some (some (.int w), hl_g N I4 J) := e4
        exact ⟨I4, st2 _ _ e4', hx_CO_f (f := r2.1) (pl := r2.2.1) (C := r2.2.2) z3 (by rw [hx_ths_n z3]) c4 (hx_fF_tr f1.1 (hx_fF_tr f2.fF (hx_fF_tr f3 f4)))⟩
    · rw [if_neg z2]
      rw [Bool.eq_false_iff.mpr z2] at cm
      obtain ⟨w1, w2⟩ := Bool.or_eq_false_iff.mp cm.symm
      obtain ⟨I2, e2, c2, f2⟩ := hx_rf0 (d := E + 20) (N := N) (J := J) (r := 1) c1 (by omega)
      have e2' : hl_call (E + 21) 64 [.ref 38, .int 1] (hl_g N I1 J) = some (none, hl_g N I2 J) := e2
      refine ⟨I2, ?_, hx_CO_f (f := 1) (pl := (hx_tk t L r.2.1).2.2.1) (C := []) (by omega) rfl c2 (hx_fF_tr f1.1 f2)⟩
      rw [st]
      simp only [hl_r58_57, hl_r58_58, hl_r58_61, hl_r58_62, hl_r58_63, hl_r58_65, hl_r58_67, hl_r58_70, hl_r58_73, hl_r58_74, hl_r58_76, hl_r58_78, hl_r58_81, hl_r58_84, hl_r58_85, hl_r58_86, hl_r58_89, hl_r58_90, hl_r58_91, hl_r58_92, hl_r58_95, hl_r58_96, hl_r58_97, hl_r58_100, hl_r58_101, hl_r58_104, hl_r58_105, hl_r58_106, hl_r58_109, hl_r58_110, hl_o_38, hl_p_38_0, hl_p_38_1, hl_o_39, hl_p_39_0, hl_p_39_1, hl_p_39_2, g5, hl_s147, w1, w2, hl_tv_f, e2', hl_tl_n, hl_kill_i, hl_kill_r, hl_kill_n, hl_kill_l, hl_tl_s, hl_tl_n, hl_cal_some, hl_gI, hl_gJ, hl_gsI, hl_gsJ, hl_tv01, if_true, if_false, hl_up_a, hl_row_a, not_true, not_false_eq_true, hl_10]
  · obtain ⟨c1, f1⟩ := x1 z1
    rw [hx_ths_n z1]
    cases hw : (hl_in (I1 38 5) 30 33 || hl_in (I1 38 5) 43 44) with
    | false =>
      obtain ⟨w1, w2⟩ := Bool.or_eq_false_iff.mp hw
      have e2 := hx_rff (d := E + 20) (N := N) (J := J) (r := 1) c1
      have e2' : hl_call (E + 21) 64 [.ref 38, .int 1] (hl_g N I1 J) = some (none, hl_g N I1 J) := e2
      refine ⟨I1, ?_, hx_CO_f (f := r.1) (pl := r.2.1) (C := r.2.2) z1 rfl c1 f1⟩
      rw [st]
      simp only [hl_r58_57, hl_r58_58, hl_r58_61, hl_r58_62, hl_r58_63, hl_r58_65, hl_r58_67, hl_r58_70, hl_r58_73, hl_r58_74, hl_r58_76, hl_r58_78, hl_r58_81, hl_r58_84, hl_r58_85, hl_r58_86, hl_r58_89, hl_r58_90, hl_r58_91, hl_r58_92, hl_r58_95, hl_r58_96, hl_r58_97, hl_r58_100, hl_r58_101, hl_r58_104, hl_r58_105, hl_r58_106, hl_r58_109, hl_r58_110, hl_o_38, hl_p_38_0, hl_p_38_1, hl_o_39, hl_p_39_0, hl_p_39_1, hl_p_39_2, hl_s147, w1, w2, hl_tv_f, e2', hl_tl_n, hl_kill_i, hl_kill_r, hl_kill_n, hl_kill_l, hl_tl_s, hl_tl_n, hl_cal_some, hl_gI, hl_gJ, hl_gsI, hl_gsJ, hl_tv01, if_true, if_false, hl_up_a, hl_row_a, not_true, not_false_eq_true, hl_10]
    | true =>
      have e2 := hx_s65f (d := E + 6) (N := N) (J := J) (k := I1 38 5) c1
      have e2' : hl_call (E + 21) 65 [.ref 38, .int (I1 38 5)] (hl_g N I1 J) = some (none, hl_g N I1 J) := e2
      obtain ⟨I3, e3, c3, f3⟩ := hS.2 I1 J _ _ c1
      obtain ⟨I4, w, e4, c4, f4⟩ := hx_s78f (d := E + 20) (N := N) (J := J) (k := I1 38 5) (v := 0) c3
      have e4' : hl_call (E + 21) 78 [.ref 39, .int (I1 38 5), .int 0] (hl_g N I3 J) = some (some (.int w), hl_g N I4 J) := e4
      refine ⟨I4, ?_, hx_CO_f (f := r.1) (pl := r.2.1) (C := r.2.2) z1 rfl c4 (hx_fF_tr f1 (hx_fF_tr f3 f4))⟩
      rw [st]
      cases w1 : hl_in (I1 38 5) 30 33 with
      | true => simp only [hl_r58_57, hl_r58_58, hl_r58_61, hl_r58_62, hl_r58_63, hl_r58_65, hl_r58_67, hl_r58_70, hl_r58_73, hl_r58_74, hl_r58_76, hl_r58_78, hl_r58_81, hl_r58_84, hl_r58_85, hl_r58_86, hl_r58_89, hl_r58_90, hl_r58_91, hl_r58_92, hl_r58_95, hl_r58_96, hl_r58_97, hl_r58_100, hl_r58_101, hl_r58_104, hl_r58_105, hl_r58_106, hl_r58_109, hl_r58_110, hl_o_38, hl_p_38_0, hl_p_38_1, hl_o_39, hl_p_39_0, hl_p_39_1, hl_p_39_2, hl_s147, w1, hl_tv_t, e2', e3, e4', hl_tl_n, hl_kill_i, hl_kill_r, hl_kill_n, hl_kill_l, hl_tl_s, hl_tl_n, hl_cal_some, hl_gI, hl_gJ, hl_gsI, hl_gsJ, hl_tv01, if_true, if_false, hl_up_a, hl_row_a, not_true, not_false_eq_true, hl_10]
      | false =>
        rw [w1] at hw
        have w2 : hl_in (I1 38 5) 43 44 = true := hw
        simp only [hl_r58_57, hl_r58_58, hl_r58_61, hl_r58_62, hl_r58_63, hl_r58_65, hl_r58_67, hl_r58_70, hl_r58_73, hl_r58_74, hl_r58_76, hl_r58_78, hl_r58_81, hl_r58_84, hl_r58_85, hl_r58_86, hl_r58_89, hl_r58_90, hl_r58_91, hl_r58_92, hl_r58_95, hl_r58_96, hl_r58_97, hl_r58_100, hl_r58_101, hl_r58_104, hl_r58_105, hl_r58_106, hl_r58_109, hl_r58_110, hl_o_38, hl_p_38_0, hl_p_38_1, hl_o_39, hl_p_39_0, hl_p_39_1, hl_p_39_2, hl_s147, w1, w2, hl_tv_t, hl_tv_f, e2', e3, e4', hl_tl_n, hl_kill_i, hl_kill_r, hl_kill_n, hl_kill_l, hl_tl_s, hl_tl_n, hl_cal_some, hl_gI, hl_gJ, hl_gsI, hl_gsJ, hl_tv01, if_true, if_false, hl_up_a, hl_row_a, not_true, not_false_eq_true, hl_10]
/-- ask -/
theorem hx_c58 (hU : (up = none ∧ a = 8) ∨ ∃ u, up = some u ∧ a < 8 ∧ hx_UP N t L D (a + 1) u M) (hD : D ≤ E) (hM : 1 ≤ M) (hS : hx_CK N t L (E + 21) 59 a (hx_sum2 t L up) (hx_mN (M + 2))) (hg : ∀ p, p ≤ L → hx_gd L p (hx_sum2 t L up p)) : hx_CK N t L (E + 22) 58 a (hx_ask t L up) (hx_mB (M + 3)) := by
  refine ⟨fun I J p n h => ?_, fun I J f pl h => ⟨I, ?_, h, hx_fF_rf I⟩⟩
  · by_cases z14 : (hx_tk t L p).1 = 14
    · obtain ⟨ta, tb, tc, td, k44, -⟩ := hx_tk_in (t := t) h.2.2.2.2.2.2
      have h5 : I 38 5 = 14 := by rw [h.2.1.2.2.1, z14]; rfl
      have h7 := h.2.2.1
      have hn0 := h.2.2.2.2.2.1
      have L3 : L ≤ 300 := h.1.1
      rcases hU with ⟨rfl, rfl⟩ | ⟨u, rfl, ha, hu⟩
      · obtain ⟨I1, e1, c1, f1⟩ := hx_rf0 (d := E + 20) (N := N) (J := J) (r := 3) h (by omega)
        have e1' : hl_call (E + 21) 64 [.ref 38, .int 3] (hl_g N I J) = some (none, hl_g N I1 J) := e1
        have c8 : ¬ nI 8 < (8 : Int32) := by decide
        refine ⟨I1, ?_, hx_CO_f (f := 3) (pl := (hx_tk t L p).2.2.1) (C := []) (by omega) ?_ c1 f1⟩
        · rw [hl_e58]
          simp only [hl_r58_0, hl_r58_1, hl_r58_4, hl_r58_7, hl_r58_8, hl_r58_9, hl_r58_12, hl_r58_14, hl_r58_17, hl_r58_18, hl_r58_20, hl_r58_23, hl_r58_24, hl_r58_25, hl_r58_28, hl_o_38, hl_p_38_0, hl_p_38_1, h5, h7, c8, e1', hl_tl_n, hl_kill_i, hl_kill_r, hl_kill_n, hl_kill_l, hl_tl_s, hl_tl_n, hl_cal_some, hl_gI, hl_gJ, hl_gsI, hl_gsJ, hl_tv01, if_true, if_false, hl_up_a, hl_row_a, not_true, not_false_eq_true, hl_10]
        · unfold hx_ask
          rw [if_pos z14]
      · have c8 : nI a < (8 : Int32) := (nI_lt ha (by omega) : _ < nI 8)
        have ea : nI a + 1 = nI (a + 1) := (nI_succ a).symm
        have ho : hx_ask t L (some u) p = hx_ths (u 2 (hx_tk t L p).2.2.2) (fun q C => (0, q, C ++ [(20, 0)])) := if_pos z14
        rw [ho]
        have lt : p < (hx_tk t L p).2.2.2 := by omega
        obtain ⟨I1, e1, c1, f1⟩ := hx_adv (d := E + 7) (N := N) (J := J) h
        have e1' : hl_call (E + 21) 66 [.ref 38] (hl_g N I J) = some (none, hl_g N I1 J) := e1
        generalize (hx_tk t L p).2.2.2 = e at c1 lt tb tc td ⊢
        obtain ⟨I2, e2, o2, x2⟩ := (hu.2.2.1 (E + 5) (by omega)).1 I1 J e n c1
        have e2' : hl_call (E + 21) 58 [.ref 38, .int (nI (a + 1))] (hl_g N I1 J) = some (none, hl_g N I2 J) := e2
        have g2 := hu.2.2.2.2 2 e tc
        generalize u 2 e = r at o2 x2 g2 ⊢
        by_cases z1 : r.1 = 0
        · obtain ⟨n1, c2, a2, b2, f2, s2⟩ := o2 z1
          obtain ⟨y1, y2, -⟩ := g2.1 z1
          clear o2 x2 g2
          have n3 : n1 < 300 := by omega
          have add1 := hx_s78 (d := E + 20) (N := N) (J := J) (k := 14) (v := 0) c2.2.2.2.2.1 n3
          have c3 := hx_CR_add (k := 14) (v := 0) c2 (show n1 + 1 ≤ r.2.1 by omega)
          have f3 := hx_fT_add (I := I2) (k := 14) (v := 0) (Nat.le_refl n1)
          obtain ⟨at3a, at3b⟩ := hx_add_at (n := n1) (I := I2) (k := 14) (v := 0)
          have add1' : hl_call (E + 21) 78 [.ref 39, .int 14, .int 0] (hl_g N I2 J) = some (some (.int (nI n1)), hl_g N (hl_up (hl_up I2 40 n1 (hx_enc 14 0)) 39 3 (nI (n1 + 1))) J) := add1
          generalize hl_up (hl_up I2 40 n1 (hx_enc 14 0)) 39 3 (nI (n1 + 1)) = I3 at add1' c3 f3 at3a at3b
          refine ⟨I3, ?_, hx_CO_o (q := r.2.1) (n' := n1 + 1) (C := r.2.2 ++ [(20, 0)]) (by rw [hx_ths_0 z1]) c3 (by omega) (by omega) (hx_fT_tr f1.fT (hx_fT_tr f2 f3 (by omega)) (Nat.le_refl n)) ?_⟩
          · rw [hl_e58]
            simp only [hl_r58_0, hl_r58_1, hl_r58_4, hl_r58_7, hl_r58_8, hl_r58_9, hl_r58_12, hl_r58_14, hl_r58_17, hl_r58_18, hl_r58_20, hl_r58_23, hl_r58_24, hl_r58_25, hl_r58_28, hl_r58_29, hl_r58_30, hl_r58_33, hl_r58_34, hl_r58_35, hl_r58_36, hl_r58_37, hl_r58_40, hl_r58_41, hl_r58_44, hl_r58_46, hl_r58_47, hl_r58_50, hl_r58_51, hl_o_38, hl_p_38_0, hl_p_38_1, hl_o_39, hl_p_39_0, hl_p_39_1, hl_p_39_2, h5, h7, c8, ea, e1', e2', add1', hl_tl_n, hl_kill_i, hl_kill_r, hl_kill_n, hl_kill_l, hl_tl_s, hl_tl_n, hl_cal_some, hl_gI, hl_gJ, hl_gsI, hl_gsJ, hl_tv01, if_true, if_false, hl_up_a, hl_row_a, not_true, not_false_eq_true, hl_10]
          · exact hx_SB_not (hx_SB_S s2 (fun j h1 h2 => at3a j h2) (by omega)) a2 n3 at3b (by omega)
        · obtain ⟨c2, f2⟩ := x2 z1
          obtain ⟨I3, w, e3, c3, f3⟩ := hx_s78f (d := E + 20) (N := N) (J := J) (k := 14) (v := 0) c2
          have e3' : hl_call (E + 21) 78 [.ref 39, .int 14, .int 0] (hl_g N I2 J) = some (some (.int w), hl_g N I3 J) := e3
          refine ⟨I3, ?_, hx_CO_f (f := r.1) (pl := r.2.1) (C := r.2.2) z1 (by rw [hx_ths_n z1]) c3 (hx_fF_tr f1.fF (hx_fF_tr f2 f3))⟩
          rw [hl_e58]
          simp only [hl_r58_0, hl_r58_1, hl_r58_4, hl_r58_7, hl_r58_8, hl_r58_9, hl_r58_12, hl_r58_14, hl_r58_17, hl_r58_18, hl_r58_20, hl_r58_23, hl_r58_24, hl_r58_25, hl_r58_28, hl_r58_29, hl_r58_30, hl_r58_33, hl_r58_34, hl_r58_35, hl_r58_36, hl_r58_37, hl_r58_40, hl_r58_41, hl_r58_44, hl_r58_46, hl_r58_47, hl_r58_50, hl_r58_51, hl_o_38, hl_p_38_0, hl_p_38_1, hl_o_39, hl_p_39_0, hl_p_39_1, hl_p_39_2, h5, h7, c8, ea, e1', e2', e3', hl_tl_n, hl_kill_i, hl_kill_r, hl_kill_n, hl_kill_l, hl_tl_s, hl_tl_n, hl_cal_some, hl_gI, hl_gJ, hl_gsI, hl_gsJ, hl_tv01, if_true, if_false, hl_up_a, hl_row_a, not_true, not_false_eq_true, hl_10]
    · have ho : hx_ask t L up p = _ := if_neg z14
      rw [ho]
      exact hx_c58a hS hg h z14
  · have f0 : ¬ nI f = 0 := nI_ne0 (by have := h.2.1; omega) (by have := h.2.1; omega)
    rw [hl_e58]
    simp only [hl_r58_0, hl_r58_1, hl_r58_4, hl_r58_7, hl_o_38, hl_p_38_0, hl_p_38_1, h.2.2.1, f0, hl_kill_i, hl_kill_r, hl_kill_n, hl_kill_l, hl_tl_s, hl_tl_n, hl_cal_some, hl_gI, hl_gJ, hl_gsI, hl_gsJ, hl_tv01, if_true, if_false, hl_up_a, hl_row_a, not_true, not_false_eq_true, hl_10]
/-- one level from the next -/
theorem hx_UP_s (hU : (up = none ∧ a = 8) ∨ ∃ u, up = some u ∧ a < 8 ∧ hx_UP N t L D (a + 1) u M) (hM : 1 ≤ M) : hx_UP N t L (D + 8) a (hx_lv t L up) (M + 5) := by
  have hu : ∀ u, up = some u → ∀ tag p, p ≤ L → hx_gd L p (u tag p) := fun u e => by
    rcases hU with ⟨x, -⟩ | ⟨u', x, -, y⟩
    · rw [x] at e; cases e
    · rw [x] at e; cases e; exact y.2.2.2.2
  have l0 : hx_lv t L up 0 = hx_one t L up := funext fun p => if_pos rfl
  have l1 : hx_lv t L up 1 = hx_sum2 t L up := funext fun p => (if_neg (by decide)).trans (if_pos rfl)
  have l2 : hx_lv t L up 2 = hx_ask t L up := funext fun p => (if_neg (by decide)).trans ((if_neg (by decide)).trans (if_pos rfl))
  have l3 : hx_lv t L up 3 = hx_eit t L up := funext fun p => (if_neg (by decide)).trans ((if_neg (by decide)).trans (if_neg (by decide)))
  have g1 := fun p hp => hx_gd_one (t := t) (L := L) hu (p := p) hp
  have g2 := fun p hp => hx_gd_rep (t := t) (L := L) (a := 36) (b := 37) (by omega) (by omega) g1 (p := p) hp
  have g3 := fun p hp => hx_gd_sum2 (t := t) (L := L) hu (p := p) hp
  have g4 := fun p hp => hx_gd_ask (t := t) (L := L) hu (p := p) hp
  have g5 := fun p hp => hx_gd_rep (t := t) (L := L) (a := 13) (b := 13) (by omega) (by omega) g4 (p := p) hp
  have k59 : ∀ E, D ≤ E → hx_CK N t L (E + 21) 59 a (hx_sum2 t L up) (hx_mN (M + 2)) := fun E hE => hx_c59 (hx_c60 (hx_c61 hU hE hM) g1) g2
  have k58 : ∀ E, D ≤ E → hx_CK N t L (E + 22) 58 a (hx_ask t L up) (hx_mB (M + 3)) := fun E hE => hx_c58 hU hE hM (k59 E hE) g3
  have k56 : ∀ E, D ≤ E → hx_CK N t L (E + 24) 56 a (hx_eit t L up) (hx_mB (M + 5)) := fun E hE => hx_c56 (hx_c57 (k58 E hE) g4) g5
  refine ⟨fun E hE => ?_, fun E hE => ?_, fun E hE => ?_, fun E hE => ?_, hx_gd_lv hu⟩
  · rw [l0, show E = E - 3 + 3 by omega]
    exact hx_CK_mN (hx_c61 (E := E - 3) hU (by omega) hM) (by omega)
  · rw [l1, show E = E - 5 + 5 by omega]
    exact hx_CK_mN (k59 (E - 5) (by omega)) (by omega)
  · rw [l2, show E = E - 6 + 6 by omega]
    exact hx_CK_mB (k58 (E - 6) (by omega)) (by omega)
  · rw [l3, show E = E - 8 + 8 by omega]
    exact k56 (E - 8) (by omega)
theorem hx_UP_k (k : Nat) : k ≤ 8 → hx_UP N t L (8 * k + 8) (8 - k) (hx_rd t L k) (5 * k + 6) := by
  induction k with
  | zero => exact fun _ => hx_UP_s (D := 0) (M := 1) (Or.inl ⟨rfl, rfl⟩) (Nat.le_refl 1)
  | succ k ih =>
    intro hk
    have h := ih (by omega)
    rw [show 8 - k = 8 - (k + 1) + 1 by omega] at h
    exact hx_UP_s (D := 8 * k + 8) (M := 5 * k + 6) (Or.inr ⟨hx_rd t L k, rfl, by omega, h⟩) (by omega)
theorem hx_UP_8 : hx_UP N t L 72 0 (hx_rd t L 8) 46 := hx_UP_k 8 (Nat.le_refl 8)
end HXCPAR5
