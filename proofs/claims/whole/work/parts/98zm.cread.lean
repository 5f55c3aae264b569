/-! the class's text: read -/
section HXCREAD
variable {d E N L p n a m nn : Nat} {I I' : Nat → Nat → Int32} {J : Nat → Nat → Int64} {t : Nat → Nat} {A : List (Nat × Nat × List (Nat × Nat))}
theorem hx_s73 : ∃ I', hl_call (d + 1) 73 [.ref 39] (hl_g N I J) = some (none, hl_g N I' J) ∧ I' 39 3 = 0 ∧ (∀ k, k < 3 → I' 41 k = -1 ∧ I' 42 k = -1) ∧ ∀ b, b ≠ 39 → b ≠ 41 → b ≠ 42 → I' b = I b := by
  have n0 : ¬ (3 : Int32) ≤ 0 := by decide
  have n1 : ¬ (3 : Int32) ≤ 1 := by decide
  have n2 : ¬ (3 : Int32) ≤ 2 := by decide
  have a0 : (0 : Int32) + 1 = 1 := by decide
  have a1 : (1 : Int32) + 1 = 2 := by decide
  have a2 : (2 : Int32) + 1 = 3 := by decide
  have b0 : hl_inb (0 : Int32) 3 = true := by decide
  have b1 : hl_inb (1 : Int32) 3 = true := by decide
  have b2 : hl_inb (2 : Int32) 3 = true := by decide
  refine ⟨hl_up (hl_up (hl_up (hl_up (hl_up (hl_up (hl_up I 39 3 0) 41 0 (-1)) 42 0 (-1)) 41 1 (-1)) 42 1 (-1)) 41 2 (-1)) 42 2 (-1), ?_, ?_, fun k hk => ?_, fun b h1 h2 h3 => ?_⟩
  · rw [hl_e73]
    simp only [hl_r73_0, hl_r73_1, hl_r73_2, hl_r73_5, hl_r73_6, hl_r73_7, hl_r73_8, hl_r73_9, hl_r73_12, hl_r73_13, hl_r73_16, hl_r73_17, hl_r73_18, hl_r73_19, hl_r73_20, hl_r73_23, hl_r73_24, hl_r73_25, hl_r73_26, hl_r73_29, hl_r73_32, hl_o_39, hl_p_39_0, hl_p_39_1, hl_p_39_2, hl_a_41, hl_z_41, hl_a_42, hl_z_42, n0, n1, n2, a0, a1, a2, b0, b1, b2, hl_v0, hl_v1, hl_v2, Int32.le_refl, hl_kill_i, hl_kill_r, hl_kill_n, hl_kill_l, hl_tl_s, hl_tl_n, hl_cal_some, hl_gI, hl_gJ, hl_gsI, hl_gsJ, hl_tv01, if_true, if_false, not_true, not_false_eq_true, hl_10, or_true, true_or]
  · rw [hl_up_ne _ _ _ (by omega), hl_up_ne _ _ _ (by omega), hl_up_ne _ _ _ (by omega), hl_up_ne _ _ _ (by omega), hl_up_ne _ _ _ (by omega), hl_up_ne _ _ _ (by omega)]
    exact hl_up_at
  · have ks : k = 0 ∨ k = 1 ∨ k = 2 := by omega
    rcases ks with rfl | rfl | rfl <;> exact ⟨rfl, rfl⟩
  · rw [hl_up_ne _ _ _ h3, hl_up_ne _ _ _ h2, hl_up_ne _ _ _ h3, hl_up_ne _ _ _ h2, hl_up_ne _ _ _ h3, hl_up_ne _ _ _ h2, hl_up_ne _ _ _ h1]
theorem hx_l54 (hE : 72 ≤ E) (f : Nat) : ∀ {i m p n nn : Nat} {A : List (Nat × Nat × List (Nat × Nat))} {I : Nat → Nat → Int32}, hx_KX t L m p n A I → i + f = 300 →
    ((hx_txt t L f m p nn A).1 = 0 → ∃ I' m' n', hl_Run 54 (hl_call (E + 17)) 33 [.ref 38, .int (nI L), .int (nI i)] [] (hl_g N I J) = some (none, hl_g N I' J) ∧ hx_KX t L m' (hx_txt t L f m p nn A).2.1 n' (hx_txt t L f m p nn A).2.2 I' ∧ hx_fG I I') ∧
    ((hx_txt t L f m p nn A).1 ≠ 0 → ∃ I', hl_Run 54 (hl_call (E + 17)) 33 [.ref 38, .int (nI L), .int (nI i)] [] (hl_g N I J) = some (none, hl_g N I' J) ∧ hx_CF t L (hx_txt t L f m p nn A).1 (hx_txt t L f m p nn A).2.1 I' ∧ hx_fG I I') := by
  induction f with
  | zero =>
    intro i m p n nn A I h hi
    have ei : i = 300 := by omega
    subst ei
    have c : (300 : Int32) ≤ nI 300 := by decide
    refine ⟨fun _ => ⟨I, m, n, ?_, h, hx_fG_rf I⟩, fun y => absurd rfl y⟩
    simp only [hl_r54_33, hl_r54_34, hl_r54_37, hl_r54_40, hl_r54_41, hl_r54_44, hl_r54_47, hl_r54_48, hl_r54_51, hl_r54_53, hl_r54_56, hl_r54_57, hl_r54_60, hl_r54_63, hl_r54_66, c, hl_kill_i, hl_kill_r, hl_kill_n, hl_kill_l, hl_tl_s, hl_tl_n, hl_cal_some, hl_gI, hl_gJ, hl_gsI, hl_gsJ, hl_tv01, if_true, if_false, not_true, not_false_eq_true, hl_10, or_true, true_or]
  | succ f ih =>
    intro i m p n nn A I h hi
    have c : ¬ (300 : Int32) ≤ nI i := nI_ge (a := i) (b := 300) (by omega) (by omega)
    have h5 := h.1.2.1.2.2.1
    have h7 := h.1.2.2.1
    have hp := h.1.2.2.2.2.2.2
    obtain ⟨-, -, -, -, k44, -⟩ := hx_tk_in (t := t) hp
    have q21 : (nI (hx_tk t L p).1 = (21 : Int32)) = ((hx_tk t L p).1 = 21) := propext (nI_eq (b := 21) (by omega) (by omega))
    unfold hx_txt
    by_cases e21 : (hx_tk t L p).1 = 21
    · rw [if_pos e21]
      have p21 : ((hx_tk t L p).1 = 21) = True := eq_true e21
      refine ⟨fun _ => ⟨I, m, n, ?_, h, hx_fG_rf I⟩, fun y => absurd rfl y⟩
      simp only [hl_r54_33, hl_r54_34, hl_r54_37, hl_r54_40, hl_r54_41, hl_r54_44, hl_r54_47, hl_r54_48, hl_r54_51, hl_r54_53, hl_r54_56, hl_r54_57, hl_r54_60, hl_r54_63, hl_r54_66, hl_o_38, hl_p_38_0, hl_p_38_1, c, h5, h7, q21, p21, hl_kill_i, hl_kill_r, hl_kill_n, hl_kill_l, hl_tl_s, hl_tl_n, hl_cal_some, hl_gI, hl_gJ, hl_gsI, hl_gsJ, hl_tv01, if_true, if_false, not_true, not_false_eq_true, hl_10, or_true, true_or]
    · rw [if_neg e21]
      have p21 : ((hx_tk t L p).1 = 21) = False := eq_false e21
      have en : nI i + 1 = nI (i + 1) := (nI_succ i).symm
      obtain ⟨y0, y1⟩ := hx_s55 (N := N) (J := J) (nn := nn) hE h e21
      have st : ∀ I1, hl_call (E + 17) 55 [.ref 38] (hl_g N I J) = some (none, hl_g N I1 J) → hl_Run 54 (hl_call (E + 17)) 33 [.ref 38, .int (nI L), .int (nI i)] [] (hl_g N I J) = hl_Run 54 (hl_call (E + 17)) 33 [.ref 38, .int (nI L), .int (nI (i + 1))] [] (hl_g N I1 J) := fun I1 e1 => by
        have s1 : hl_Run 54 (hl_call (E + 17)) 33 [.ref 38, .int (nI L), .int (nI i)] [] (hl_g N I J) = hl_Run 54 (hl_call (E + 17)) 63 [.ref 38, .int (nI L), .int (nI (i + 1))] [] (hl_g N I1 J) := by
          simp only [hl_r54_33, hl_r54_34, hl_r54_37, hl_r54_40, hl_r54_41, hl_r54_44, hl_r54_47, hl_r54_48, hl_r54_51, hl_r54_53, hl_r54_56, hl_r54_57, hl_r54_60, hl_o_38, hl_p_38_0, hl_p_38_1, c, h5, h7, q21, p21, e1, en, hl_tl_n, hl_kill_i, hl_kill_r, hl_kill_n, hl_kill_l, hl_tl_s, hl_tl_n, hl_cal_some, hl_gI, hl_gJ, hl_gsI, hl_gsJ, hl_tv01, if_true, if_false, not_true, not_false_eq_true, hl_10, or_true, true_or]
        rw [s1]
        simp only [hl_r54_63]
      by_cases w : (hx_cl t L m p).1 = 0
      · rw [if_pos w]
        obtain ⟨I1, n1, e1, k1, f1⟩ := y0 w
        obtain ⟨x0, x1⟩ := ih (i := i + 1) (nn := nn + (hx_cl t L m p).2.2.length) k1 (by omega)
        rw [st I1 e1]
        refine ⟨fun z => ?_, fun z => ?_⟩
        · obtain ⟨I2, m', n', e2, k2, f2⟩ := x0 z
          exact ⟨I2, m', n', e2, k2, hx_fG_tr f1 f2⟩
        · obtain ⟨I2, e2, k2, f2⟩ := x1 z
          exact ⟨I2, e2, k2, hx_fG_tr f1 f2⟩
      · rw [if_neg w]
        refine ⟨fun y => absurd y w, fun _ => ?_⟩
        obtain ⟨I1, e1, k1, f1⟩ := y1 w
        refine ⟨I1, ?_, k1, f1⟩
        rw [st I1 e1]
        have f0 : ¬ nI (hx_cl t L m p).1 = 0 := nI_ne0 (by have := k1.2.1; omega) (by have := k1.2.1; omega)
        by_cases c2 : (300 : Int32) ≤ nI (i + 1)
        · simp only [hl_r54_33, hl_r54_34, hl_r54_37, hl_r54_40, hl_r54_41, hl_r54_44, hl_r54_47, hl_r54_48, hl_r54_51, hl_r54_53, hl_r54_56, hl_r54_57, hl_r54_60, hl_r54_63, hl_r54_66, hl_o_38, hl_p_38_0, hl_p_38_1, c2, hl_kill_i, hl_kill_r, hl_kill_n, hl_kill_l, hl_tl_s, hl_tl_n, hl_cal_some, hl_gI, hl_gJ, hl_gsI, hl_gsJ, hl_tv01, if_true, if_false, not_true, not_false_eq_true, hl_10, or_true, true_or]
        · simp only [hl_r54_33, hl_r54_34, hl_r54_37, hl_r54_40, hl_r54_41, hl_r54_44, hl_r54_47, hl_r54_48, hl_r54_51, hl_r54_53, hl_r54_56, hl_r54_57, hl_r54_60, hl_r54_63, hl_r54_66, hl_o_38, hl_p_38_0, hl_p_38_1, c2, k1.2.2.1, f0, hl_kill_i, hl_kill_r, hl_kill_n, hl_kill_l, hl_tl_s, hl_tl_n, hl_cal_some, hl_gI, hl_gJ, hl_gsI, hl_gsJ, hl_tv01, if_true, if_false, not_true, not_false_eq_true, hl_10, or_true, true_or]
/-- read -/
theorem hx_s54 (hE : 72 ≤ E) (hL : L ≤ 300) (ht : ∀ k, k < 300 → I 37 k = nI (t k) ∧ t k ≤ 255) :
    ((hx_txt t L 300 0 0 0 []).1 = 0 → ∃ I' m' n', hl_call (E + 18) 54 [.ref 38, .int (nI L)] (hl_g N I J) = some (none, hl_g N I' J) ∧ hx_KX t L m' (hx_txt t L 300 0 0 0 []).2.1 n' (hx_txt t L 300 0 0 0 []).2.2 I' ∧ hx_fG I I') ∧
    ((hx_txt t L 300 0 0 0 []).1 ≠ 0 → ∃ I', hl_call (E + 18) 54 [.ref 38, .int (nI L)] (hl_g N I J) = some (none, hl_g N I' J) ∧ hx_CF t L (hx_txt t L 300 0 0 0 []).1 (hx_txt t L 300 0 0 0 []).2.1 I' ∧ hx_fG I I') := by
  obtain ⟨I2, e2, g3, g4, g5⟩ := hx_s73 (d := E + 16) (N := N) (I := hl_up (hl_up (hl_up (hl_up I 38 2 (nI L)) 38 4 0) 38 7 0) 38 8 (-1)) (J := J)
  have e2' : hl_call (E + 17) 73 [.ref 39] (hl_g N (hl_up (hl_up (hl_up (hl_up I 38 2 (nI L)) 38 4 0) 38 7 0) 38 8 (-1)) J) = some (none, hl_g N I2 J) := e2
  have g38 : I2 38 = hl_up (hl_up (hl_up (hl_up I 38 2 (nI L)) 38 4 0) 38 7 0) 38 8 (-1) 38 := g5 38 (by omega) (by omega) (by omega)
  have v2 : I2 38 2 = nI L := by rw [g38, hx_up_j (by omega), hx_up_j (by omega), hx_up_j (by omega)]; exact hl_up_at
  have v4 : I2 38 4 = nI 0 := by rw [g38, hx_up_j (by omega), hx_up_j (by omega)]; exact hl_up_at
  have v7 : I2 38 7 = 0 := by rw [g38, hx_up_j (by omega)]; exact hl_up_at
  have v8 : I2 38 8 = -1 := by rw [g38]; exact hl_up_at
  have fg2 : hx_fG I I2 := fun b hb => by rw [g5 b (by omega) (by omega) (by omega), hl_up_ne _ _ _ (by omega), hl_up_ne _ _ _ (by omega), hl_up_ne _ _ _ (by omega), hl_up_ne _ _ _ (by omega)]
  have T2 : hx_TP t L I2 := ⟨hL, v2, fun k hk => by rw [fg2 37 (by omega)]; exact ht k hk⟩
  obtain ⟨I3, e3, S3, f3⟩ := hx_s66 (d := E + 3) (N := N) (J := J) T2 v4 (Nat.zero_le _)
  have e3' : hl_call (E + 17) 66 [.ref 38] (hl_g N I2 J) = some (none, hl_g N I3 J) := e3
  have kx : hx_KX t L 0 0 0 [] I3 := ⟨⟨f3.tp T2, S3, by rw [f3.2 7 (by omega)]; exact v7, by rw [f3.2 8 (by omega)]; exact v8, by rw [f3.1 39 (by omega)]; exact g3, Nat.le_refl 0, Nat.zero_le _⟩, by omega, fun k hk _ => by rw [f3.1 41 (by omega)]; exact (g4 k hk).1, fun b hb => absurd hb List.not_mem_nil, fun k hk hs => (by
    have : ∀ k, k < 3 → hx_sn 0 k = false := by decide
    rw [this k hk] at hs
    exact absurd hs Bool.false_ne_true)⟩
  have z0 : nI 0 = 0 := rfl
  have st : hl_call (E + 18) 54 [.ref 38, .int (nI L)] (hl_g N I J) = hl_Run 54 (hl_call (E + 17)) 33 [.ref 38, .int (nI L), .int (nI 0)] [] (hl_g N I3 J) := by
    rw [hl_e54]
    simp only [hl_r54_0, hl_r54_1, hl_r54_2, hl_r54_5, hl_r54_6, hl_r54_7, hl_r54_10, hl_r54_11, hl_r54_12, hl_r54_15, hl_r54_16, hl_r54_17, hl_r54_20, hl_r54_21, hl_r54_24, hl_r54_27, hl_r54_28, hl_r54_31, hl_r54_32, hl_o_38, hl_p_38_0, hl_p_38_1, hl_o_39, hl_p_39_0, hl_p_39_1, hl_p_39_2, e2', e3', z0, hl_tl_n, hl_kill_i, hl_kill_r, hl_kill_n, hl_kill_l, hl_tl_s, hl_tl_n, hl_cal_some, hl_gI, hl_gJ, hl_gsI, hl_gsJ, hl_tv01, if_true, if_false, not_true, not_false_eq_true, hl_10, or_true, true_or]
  obtain ⟨x0, x1⟩ := hx_l54 (N := N) (J := J) hE 300 (i := 0) (nn := 0) kx rfl
  rw [st]
  refine ⟨fun z => ?_, fun z => ?_⟩
  · obtain ⟨I4, m', n', e4, k4, f4⟩ := x0 z
    exact ⟨I4, m', n', e4, k4, hx_fG_tr fg2 (hx_fG_tr f3.fF.fG f4)⟩
  · obtain ⟨I4, e4, k4, f4⟩ := x1 z
    exact ⟨I4, e4, k4, hx_fG_tr fg2 (hx_fG_tr f3.fF.fG f4)⟩
end HXCREAD
