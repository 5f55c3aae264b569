/-! the reference's text -/
section HXRTX2
variable {d N L x p m T : Nat} {I I' I1 : Nat → Nat → Int32} {J : Nat → Nat → Int64} {t : Nat → Nat} {C : List (Nat × Nat)} {A : List (Nat × Nat × List (Nat × Nat))}
theorem hx_cl_lt (hp : p ≤ L) (hn : (hx_tk t L p).1 ≠ 21) : ((hx_cl t L m p).1 = 0 → p < (hx_cl t L m p).2.1 ∧ (hx_cl t L m p).2.1 ≤ L) ∧ (hx_cl t L m p).1 ≤ 4 := by
  obtain ⟨ta, tb, te, td, -⟩ := hx_tk_in (t := t) hp
  unfold hx_cl
  by_cases z1 : 2 < (hx_tk t L p).1
  · rw [if_pos z1]
    exact ⟨fun y => absurd y (by show (1 : Nat) ≠ 0; omega), by show 1 ≤ 4; omega⟩
  · rw [if_neg z1]
    by_cases z2 : hx_sn m (hx_tk t L p).1 = true
    · rw [if_pos z2]
      exact ⟨fun y => absurd y (by show (4 : Nat) ≠ 0; omega), Nat.le_refl 4⟩
    · rw [if_neg z2]
      have g1 := hx_gd_rd (t := t) (L := L) 8 (if (hx_tk t L p).1 = 2 then 3 else 1) (hx_tk t L p).2.2.2 te
      generalize hx_rd t L 8 (if (hx_tk t L p).1 = 2 then 3 else 1) (hx_tk t L p).2.2.2 = r at g1 ⊢
      by_cases w : r.1 = 0
      · obtain ⟨ga, gb, -⟩ := g1.1 w
        clear g1
        rw [hx_ths_0 w]
        obtain ⟨va, vb, ve, -⟩ := hx_tk_in (t := t) gb
        by_cases z : (hx_tk t L r.2.1).1 = 40
        · rw [hx_exp_y z]
          exact ⟨fun _ => ⟨by show p < (hx_tk t L r.2.1).2.2.2; omega, ve⟩, Nat.zero_le _⟩
        · rw [hx_exp_n z]
          exact ⟨fun y => absurd y (by show (1 : Nat) ≠ 0; omega), by show 1 ≤ 4; omega⟩
      · rw [hx_ths_n w]
        have := (g1.2 w).2
        exact ⟨fun y => absurd y w, by omega⟩
theorem hx_l195 (f : Nat) : ∀ {m p : Nat} {C : List (Nat × Nat)} {A : List (Nat × Nat × List (Nat × Nat))} {I : Nat → Nat → Int32} {J : Nat → Nat → Int64} {l1 : Value}, hx_RX t L x m p C A I J → 300 ≤ f + p →
    ((hx_txt t L f m p C.length A).1 = 0 → ∃ I' J' m' C', hl_Run 195 (hl_call (d + 7)) 64 [.ref 85, l1] [] (hl_g N I J) = some (some (.int 0), hl_g N I' J') ∧ hx_RX t L x m' (hx_txt t L f m p C.length A).2.1 C' (hx_txt t L f m p C.length A).2.2 I' J' ∧ hx_fX x I I' ∧ hx_g85 J J') ∧
    ((hx_txt t L f m p C.length A).1 ≠ 0 → ∃ I' J', hl_Run 195 (hl_call (d + 7)) 64 [.ref 85, l1] [] (hl_g N I J) = some (some (.int (nI (hx_txt t L f m p C.length A).1)), hl_g N I' J') ∧ I' 85 11 = nI (hx_txt t L f m p C.length A).2.1 ∧ hx_fX x I I' ∧ hx_g85 J J') := by
  induction f with
  | zero =>
    intro m p C A I J l1 h hf
    have hp := h.2.2.2.2.2.2.2.1.2
    have L3 : L ≤ 300 := h.1.1
    have e21 := hx_k21 (t := t) (show L ≤ p by omega) hp
    obtain ⟨-, -, -, -, k44, -⟩ := hx_tk_in (t := t) hp
    have q0 := hx_TR_0 h.2.1.2.2 k44
    have q0' : (I 85 12 = 0) = True := by rw [q0]; exact eq_true e21
    refine ⟨fun _ => ⟨I, J, m, C, ?_, h, hx_fX_rf x I, fun _ _ => rfl⟩, fun y => absurd rfl y⟩
    simp only [hl_r195_64, hl_r195_65, hl_r195_68, hl_r195_85, hl_r195_86, hl_o_85, hl_p_85_3, hl_p_85_4, hl_p_85_5, hl_p_85_6, hl_p_85_19, hl_p_85_23, hl_p_85_24, hl_p_85_25, hl_p_85_26, hl_p_85_27, hl_p_85_28, hl_p_85_29, hl_p_85_30, hl_p_85_31, hl_p_85_33, hl_p_85_34, hl_p_85_35, hl_p_85_36, hl_p_85_37, q0', hl_kill_i, hl_kill_r, hl_kill_n, hl_kill_l, hl_tl_s, hl_tl_n, hl_cal_some, hl_gI, hl_gJ, hl_gsI, hl_gsJ, hl_tv01, if_true, if_false, not_true, not_false_eq_true, hl_10, or_true, true_or]
  | succ f ih =>
    intro m p C A I J l1 h hf
    have hp := h.2.2.2.2.2.2.2.1.2
    obtain ⟨-, -, -, -, k44, -⟩ := hx_tk_in (t := t) hp
    have q0 : (I 85 12 = 0) = ((hx_tk t L p).1 = 21) := hx_TR_0 h.2.1.2.2 k44
    unfold hx_txt
    by_cases e21 : (hx_tk t L p).1 = 21
    · rw [if_pos e21]
      have q0' : (I 85 12 = 0) = True := by rw [q0]; exact eq_true e21
      refine ⟨fun _ => ⟨I, J, m, C, ?_, h, hx_fX_rf x I, fun _ _ => rfl⟩, fun y => absurd rfl y⟩
      simp only [hl_r195_64, hl_r195_65, hl_r195_68, hl_r195_85, hl_r195_86, hl_o_85, hl_p_85_3, hl_p_85_4, hl_p_85_5, hl_p_85_6, hl_p_85_19, hl_p_85_23, hl_p_85_24, hl_p_85_25, hl_p_85_26, hl_p_85_27, hl_p_85_28, hl_p_85_29, hl_p_85_30, hl_p_85_31, hl_p_85_33, hl_p_85_34, hl_p_85_35, hl_p_85_36, hl_p_85_37, q0', hl_kill_i, hl_kill_r, hl_kill_n, hl_kill_l, hl_tl_s, hl_tl_n, hl_cal_some, hl_gI, hl_gJ, hl_gsI, hl_gsJ, hl_tv01, if_true, if_false, not_true, not_false_eq_true, hl_10, or_true, true_or]
    · rw [if_neg e21]
      have q0' : (I 85 12 = 0) = False := by rw [q0]; exact eq_false e21
      obtain ⟨y0, y1⟩ := hx_s194 (d := d) (N := N) h e21
      obtain ⟨lt, le4⟩ := hx_cl_lt (m := m) hp e21
      by_cases w : (hx_cl t L m p).1 = 0
      · rw [if_pos w]
        obtain ⟨I1, J1, e1, rx1, f1, g1⟩ := y0 w
        obtain ⟨lt1, lt2⟩ := lt w
        obtain ⟨x0, x1⟩ := ih (l1 := .int 0) rx1 (by omega)
        rw [List.length_append] at x0 x1
        have st : hl_Run 195 (hl_call (d + 7)) 64 [.ref 85, l1] [] (hl_g N I J) = hl_Run 195 (hl_call (d + 7)) 64 [.ref 85, .int 0] [] (hl_g N I1 J1) := by
          have s1 : hl_Run 195 (hl_call (d + 7)) 64 [.ref 85, l1] [] (hl_g N I J) = hl_Run 195 (hl_call (d + 7)) 82 [.ref 85, .int 0] [] (hl_g N I1 J1) := by
            simp only [hl_r195_64, hl_r195_65, hl_r195_68, hl_r195_71, hl_r195_72, hl_r195_75, hl_r195_76, hl_r195_77, hl_r195_80, hl_r195_81, hl_o_85, hl_p_85_3, hl_p_85_4, hl_p_85_5, hl_p_85_6, hl_p_85_19, hl_p_85_23, hl_p_85_24, hl_p_85_25, hl_p_85_26, hl_p_85_27, hl_p_85_28, hl_p_85_29, hl_p_85_30, hl_p_85_31, hl_p_85_33, hl_p_85_34, hl_p_85_35, hl_p_85_36, hl_p_85_37, q0', e1, hl_tl_s, hl_kill_i, hl_kill_r, hl_kill_n, hl_kill_l, hl_tl_s, hl_tl_n, hl_cal_some, hl_gI, hl_gJ, hl_gsI, hl_gsJ, hl_tv01, if_true, if_false, not_true, not_false_eq_true, hl_10, or_true, true_or]
          rw [s1]
          simp only [hl_r195_82]
        rw [st]
        refine ⟨fun z => ?_, fun z => ?_⟩
        · obtain ⟨I2, J2, m', C', e2, rx2, f2, g2⟩ := x0 z
          exact ⟨I2, J2, m', C', e2, rx2, hx_fX_tr f1 f2, fun b hb => (g2 b hb).trans (g1 b hb)⟩
        · obtain ⟨I2, J2, e2, s11, f2, g2⟩ := x1 z
          exact ⟨I2, J2, e2, s11, hx_fX_tr f1 f2, fun b hb => (g2 b hb).trans (g1 b hb)⟩
      · rw [if_neg w]
        refine ⟨fun y => absurd y w, fun _ => ?_⟩
        obtain ⟨I1, J1, e1, s11, f1, g1⟩ := y1 w
        have nf : ¬ nI (hx_cl t L m p).1 = 0 := nI_ne0 (by omega) (by omega)
        refine ⟨I1, J1, ?_, s11, f1, g1⟩
        simp only [hl_r195_64, hl_r195_65, hl_r195_68, hl_r195_71, hl_r195_72, hl_r195_75, hl_r195_76, hl_r195_77, hl_r195_80, hl_r195_81, hl_o_85, hl_p_85_3, hl_p_85_4, hl_p_85_5, hl_p_85_6, hl_p_85_19, hl_p_85_23, hl_p_85_24, hl_p_85_25, hl_p_85_26, hl_p_85_27, hl_p_85_28, hl_p_85_29, hl_p_85_30, hl_p_85_31, hl_p_85_33, hl_p_85_34, hl_p_85_35, hl_p_85_36, hl_p_85_37, q0', e1, nf, hl_tl_s, hl_kill_i, hl_kill_r, hl_kill_n, hl_kill_l, hl_tl_s, hl_tl_n, hl_cal_some, hl_gI, hl_gJ, hl_gsI, hl_gsJ, hl_tv01, if_true, if_false, not_true, not_false_eq_true, hl_10, or_true, true_or]
theorem hx_l195a (hx : x ≤ 2400) (f : Nat) : ∀ {i : Nat} {I : Nat → Nat → Int32}, I 85 15 = nI x → i + f = 6 → ∃ I', hl_Run 195 (hl_call (d + 7)) 16 [.ref 85, .int (nI i)] [] (hl_g N I J) = hl_Run 195 (hl_call (d + 7)) 40 [.ref 85, .int 6] [] (hl_g N I' J) ∧ (∀ b, b ≠ 88 → I' b = I b) ∧ ∀ j, I' 88 j = if x + i ≤ j ∧ j < x + 6 then 0 else I 88 j := by
  induction f with
  | zero =>
    intro i I h15 hi
    have ei : i = 6 := by omega
    subst ei
    have c : (6 : Int32) ≤ nI 6 := by decide
    have e6 : nI 6 = 6 := rfl
    refine ⟨I, ?_, fun _ _ => rfl, fun j => by rw [if_neg (by omega)]⟩
    simp only [hl_r195_16, hl_r195_17, hl_r195_19, c, e6, hl_kill_i, hl_kill_r, hl_kill_n, hl_kill_l, hl_tl_s, hl_tl_n, hl_cal_some, hl_gI, hl_gJ, hl_gsI, hl_gsJ, hl_tv01, if_true, if_false, not_true, not_false_eq_true, hl_10, or_true, true_or]
    try rfl
  | succ f ih =>
    intro i I h15 hi
    have c : ¬ (6 : Int32) ≤ nI i := nI_ge (a := i) (b := 6) (by omega) (by omega)
    have en : nI i + 1 = nI (i + 1) := (nI_succ i).symm
    have u15 : hl_up I 88 (x + i) 0 85 15 = nI x := by rw [hl_up_ne _ _ _ (by omega)]; exact h15
    obtain ⟨I2, e2, a2, b2⟩ := ih (I := hl_up I 88 (x + i) 0) (i := i + 1) u15 (by omega)
    have ex : nI x + nI i = nI (x + i) := hx_nA x i
    have s1 : hl_Run 195 (hl_call (d + 7)) 16 [.ref 85, .int (nI i)] [] (hl_g N I J) = hl_Run 195 (hl_call (d + 7)) 37 [.ref 85, .int (nI (i + 1))] [] (hl_g N (hl_up I 88 (x + i) 0) J) := by
      simp only [hl_r195_16, hl_r195_17, hl_r195_19, hl_r195_22, hl_r195_23, hl_r195_26, hl_r195_27, hl_r195_30, hl_r195_31, hl_r195_32, hl_r195_33, hl_r195_34, hl_o_85, hl_p_85_3, hl_p_85_4, hl_p_85_5, hl_p_85_6, hl_p_85_19, hl_p_85_23, hl_p_85_24, hl_p_85_25, hl_p_85_26, hl_p_85_27, hl_p_85_28, hl_p_85_29, hl_p_85_30, hl_p_85_31, hl_p_85_33, hl_p_85_34, hl_p_85_35, hl_p_85_36, hl_p_85_37, hl_a_88, hl_z_88, c, h15, ex, hl_b3200 (show x + i < 3200 by omega), hl_cq (show x + i < 10000 by omega), en, hl_kill_i, hl_kill_r, hl_kill_n, hl_kill_l, hl_tl_s, hl_tl_n, hl_cal_some, hl_gI, hl_gJ, hl_gsI, hl_gsJ, hl_tv01, if_true, if_false, not_true, not_false_eq_true, hl_10, or_true, true_or]
    refine ⟨I2, ?_, fun b hb => by rw [a2 b hb, hl_up_ne _ _ _ hb], fun j => ?_⟩
    · rw [s1, ← e2]
      simp only [hl_r195_37]
    · rw [b2 j, hl_up_a, if_pos rfl]
      by_cases z : j = x + i
      · rw [if_neg (by omega), if_pos z, if_pos (by omega)]
      · rw [if_neg z]
        by_cases y : x + (i + 1) ≤ j ∧ j < x + 6
        · rw [if_pos y, if_pos (by omega)]
        · rw [if_neg y, if_neg (by omega)]
/-- readText -/
theorem hx_s195 (hT : T < 4) (TQ : hx_TQ t L I) (h86 : I 86 2 = nI T) :
    ((hx_txt t L 300 0 0 0 []).1 = 0 → ∃ I' J' m' C', hl_call (d + 8) 195 [.ref 85] (hl_g N I J) = some (some (.int 0), hl_g N I' J') ∧ hx_RX t L (800 * T) m' (hx_txt t L 300 0 0 0 []).2.1 C' (hx_txt t L 300 0 0 0 []).2.2 I' J' ∧ hx_fX (800 * T) I I' ∧ hx_g85 J J') ∧
    ((hx_txt t L 300 0 0 0 []).1 ≠ 0 → ∃ I' J', hl_call (d + 8) 195 [.ref 85] (hl_g N I J) = some (some (.int (nI (hx_txt t L 300 0 0 0 []).1)), hl_g N I' J') ∧ I' 85 11 = nI (hx_txt t L 300 0 0 0 []).2.1 ∧ hx_fX (800 * T) I I' ∧ hx_g85 J J') := by
  have em : (800 : Int32) * nI T = nI (800 * T) := by
    have b : (800 : Int32) = nI 800 := rfl
    rw [b, nI_mul]
  obtain ⟨I1, e1, a1, b1⟩ := hx_l195a (d := d) (N := N) (J := J) (x := 800 * T) (by omega) 6 (I := hl_up I 85 15 (nI (800 * T))) (i := 0) hl_up_at rfl
  have f0 : hx_fX (800 * T) I (hl_up I 85 15 (nI (800 * T))) := hx_fX_85 (by omega)
  have f1 : hx_fX (800 * T) (hl_up I 85 15 (nI (800 * T))) I1 := ⟨fun b _ h2 _ => a1 b h2, fun j _ => by rw [a1 85 (by omega)], fun j hj => by rw [b1, if_neg (by omega)]⟩
  have f2 : hx_fX (800 * T) I1 (hl_up (hl_up (hl_up (hl_up I1 85 17 0) 85 21 0) 85 18 0) 85 10 0) := hx_fX_tr (hx_fX_85 (by omega)) (hx_fX_tr (hx_fX_85 (by omega)) (hx_fX_tr (hx_fX_85 (by omega)) (hx_fX_85 (by omega))))
  have fall := hx_fX_tr f0 (hx_fX_tr f1 f2)
  have u15 : hl_up (hl_up (hl_up (hl_up I1 85 17 0) 85 21 0) 85 18 0) 85 10 0 85 15 = nI (800 * T) := by
    rw [hl_up_a, if_pos rfl, if_neg (by omega), hl_up_a, if_pos rfl, if_neg (by omega), hl_up_a, if_pos rfl, if_neg (by omega), hl_up_a, if_pos rfl, if_neg (by omega), a1 85 (by omega)]
    exact hl_up_at
  have u17 : hl_up (hl_up (hl_up (hl_up I1 85 17 0) 85 21 0) 85 18 0) 85 10 0 85 17 = nI 0 := by
    rw [hl_up_a, if_pos rfl, if_neg (by omega), hl_up_a, if_pos rfl, if_neg (by omega), hl_up_a, if_pos rfl, if_neg (by omega)]
    exact hl_up_at
  have u21 : hl_up (hl_up (hl_up (hl_up I1 85 17 0) 85 21 0) 85 18 0) 85 10 0 85 21 = 0 := by
    rw [hl_up_a, if_pos rfl, if_neg (by omega), hl_up_a, if_pos rfl, if_neg (by omega)]
    exact hl_up_at
  have u18 : hl_up (hl_up (hl_up (hl_up I1 85 17 0) 85 21 0) 85 18 0) 85 10 0 85 18 = nI 0 := by
    rw [hl_up_a, if_pos rfl, if_neg (by omega)]
    exact hl_up_at
  have u88 : hl_up (hl_up (hl_up (hl_up I1 85 17 0) 85 21 0) 85 18 0) 85 10 0 88 = I1 88 := by
    rw [hl_up_ne _ _ _ (by omega), hl_up_ne _ _ _ (by omega), hl_up_ne _ _ _ (by omega), hl_up_ne _ _ _ (by omega)]
  have u10 : hl_up (hl_up (hl_up (hl_up I1 85 17 0) 85 21 0) 85 18 0) 85 10 0 85 10 = nI 0 := hl_up_at
  have z0 : nI 0 = 0 := rfl
  have st : ∀ (I3 : Nat → Nat → Int32) (J3 : Nat → Nat → Int64), hl_call (d + 7) 171 [.ref 85] (hl_g N (hl_up (hl_up (hl_up (hl_up I1 85 17 0) 85 21 0) 85 18 0) 85 10 0) J) = some (none, hl_g N I3 J3) → hl_call (d + 8) 195 [.ref 85] (hl_g N I J) = hl_Run 195 (hl_call (d + 7)) 64 [.ref 85, .int 6] [] (hl_g N I3 J3) := fun I3 J3 e3 => by
    have s1 : hl_call (d + 8) 195 [.ref 85] (hl_g N I J) = hl_Run 195 (hl_call (d + 7)) 16 [.ref 85, .int (nI 0)] [] (hl_g N (hl_up I 85 15 (nI (800 * T))) J) := by
      rw [hl_e195]
      simp only [hl_r195_0, hl_r195_1, hl_r195_4, hl_r195_5, hl_r195_8, hl_r195_9, hl_r195_10, hl_r195_11, hl_r195_14, hl_r195_15, hl_o_85, hl_p_85_3, hl_p_85_4, hl_p_85_5, hl_p_85_6, hl_p_85_19, hl_p_85_23, hl_p_85_24, hl_p_85_25, hl_p_85_26, hl_p_85_27, hl_p_85_28, hl_p_85_29, hl_p_85_30, hl_p_85_31, hl_p_85_33, hl_p_85_34, hl_p_85_35, hl_p_85_36, hl_p_85_37, hl_a_86, hl_z_86, h86, em, z0, hl_k2, hl_v2, hl_kill_i, hl_kill_r, hl_kill_n, hl_kill_l, hl_tl_s, hl_tl_n, hl_cal_some, hl_gI, hl_gJ, hl_gsI, hl_gsJ, hl_tv01, if_true, if_false, not_true, not_false_eq_true, hl_10, or_true, true_or]
      try rfl
    rw [s1, e1]
    simp only [hl_r195_40, hl_r195_41, hl_r195_42, hl_r195_45, hl_r195_46, hl_r195_47, hl_r195_50, hl_r195_51, hl_r195_52, hl_r195_55, hl_r195_56, hl_r195_57, hl_r195_60, hl_r195_61, hl_o_85, hl_p_85_3, hl_p_85_4, hl_p_85_5, hl_p_85_6, hl_p_85_19, hl_p_85_23, hl_p_85_24, hl_p_85_25, hl_p_85_26, hl_p_85_27, hl_p_85_28, hl_p_85_29, hl_p_85_30, hl_p_85_31, hl_p_85_33, hl_p_85_34, hl_p_85_35, hl_p_85_36, hl_p_85_37, e3, hl_tl_n, hl_kill_i, hl_kill_r, hl_kill_n, hl_kill_l, hl_tl_s, hl_tl_n, hl_cal_some, hl_gI, hl_gJ, hl_gsI, hl_gsJ, hl_tv01, if_true, if_false, not_true, not_false_eq_true, hl_10, or_true, true_or]
  generalize hl_up (hl_up (hl_up (hl_up I1 85 17 0) 85 21 0) 85 18 0) 85 10 0 = I2 at f2 fall u15 u17 u21 u18 u88 u10 st
  obtain ⟨I3, J3, e3, tt3, f3, g3⟩ := hx_s171 (d := d + 4) (N := N) (J := J) (fall.tq TQ) u10 (Nat.zero_le _)
  have st' := st I3 J3 e3
  have k3 : ∀ j, 13 < j → I3 85 j = I2 85 j := fun j hj => f3.2 j (Or.inr hj)
  have rx : hx_RX t L (800 * T) 0 0 [] [] I3 J3 := ⟨(hx_fX_tr fall f3.fX).tq TQ, tt3, ⟨(k3 15 (by omega)).trans u15, by omega⟩, (k3 17 (by omega)).trans u17, (k3 21 (by omega)).trans u21, fun i hi => absurd hi (Nat.not_lt_zero i), ⟨(k3 18 (by omega)).trans u18, by omega⟩, ⟨Nat.le_refl 0, Nat.zero_le _⟩, fun k hk _ => by rw [f3.1 88 (by omega), u88, b1, b1, if_pos (by omega), if_pos (by omega)]; exact ⟨rfl, rfl⟩, fun a ha => absurd ha List.not_mem_nil, fun k hk hs => (by
    have : ∀ k, k < 3 → hx_sn 0 k = false := by decide
    rw [this k hk] at hs
    exact absurd hs Bool.false_ne_true)⟩
  obtain ⟨x0, x1⟩ := hx_l195 (d := d) (N := N) 300 (l1 := .int 6) rx (by omega)
  rw [st']
  refine ⟨fun z => ?_, fun z => ?_⟩
  · obtain ⟨I4, J4, m', C', e4, rx4, f4, g4⟩ := x0 z
    exact ⟨I4, J4, m', C', e4, rx4, hx_fX_tr fall (hx_fX_tr f3.fX f4), fun b hb => (g4 b hb).trans (g3 b hb)⟩
  · obtain ⟨I4, J4, e4, s11, f4, g4⟩ := x1 z
    exact ⟨I4, J4, e4, s11, hx_fX_tr fall (hx_fX_tr f3.fX f4), fun b hb => (g4 b hb).trans (g3 b hb)⟩
end HXRTX2
