/-! the reference's search, whole -/
/-- what the reference's search leaves -/
def hl_FE (I : Nat → Nat → Int32) (r : Nat → Int) (D : Nat → Nat) : Prop := (∀ u, u < 74 → (D u = 0 → I 97 u = -1) ∧ (0 < D u → u ≠ 0 → ∃ w, w < 74 ∧ I 97 u = nI w ∧ D u = D w + 1 ∧ 0 < D w ∧ 0 < r (74 * w + u))) ∧ I 97 0 = nI 0
section HLRE2
variable {d N : Nat} {I I' : Nat → Nat → Int32} {J J' : Nat → Nat → Int64} {r : Nat → Int}
theorem hl_l227i {c : hl_C} (hR : ∀ p, p < 5476 → (J 96 p).toInt = r p) (f : Nat) : ∀ (I : Nat → Nat → Int32) (s : (Nat → Nat) × (Nat → Nat) × Nat) (i : Nat) (l3 l4 : Value), i + f = 74 → i ≤ s.2.2 → hl_bI 5476 74 hl_sR hl_dR (hl_rR r) i s → (i < s.2.2 → ∀ j, j < s.2.2 → s.1 (s.2.1 j) ≤ s.1 (s.2.1 i) + 1) → hl_FQ I r s → ∃ I' D, hl_Run 227 c 39 [.ref 85, .int (nI s.2.2), .int (nI i), l3, l4] [] (hl_g N I J) = some (some (.int (hl_tv (decide (0 < D 1)))), hl_g N I' J) ∧ hl_bF 5476 74 hl_sR hl_dR (hl_rR r) D ∧ hl_FE I' r D ∧ hl_fQ I I' := by
  have done : ∀ (I : Nat → Nat → Int32) (s : (Nat → Nat) × (Nat → Nat) × Nat) (l3 l4 : Value), hl_bI 5476 74 hl_sR hl_dR (hl_rR r) s.2.2 s → hl_FQ I r s → ∃ I' D, hl_Run 227 c 39 [.ref 85, .int (nI s.2.2), .int (nI s.2.2), l3, l4] [] (hl_g N I J) = some (some (.int (hl_tv (decide (0 < D 1)))), hl_g N I' J) ∧ hl_bF 5476 74 hl_sR hl_dR (hl_rR r) D ∧ hl_FE I' r D ∧ hl_fQ I I' := by
    intro I s l3 l4 hB hQ
    obtain ⟨q1, q2, q3⟩ := hQ
    refine ⟨I, s.1, ?_, hl_bI_end (fun p hp => by unfold hl_sR; omega) hB, ⟨q1, q2⟩, fun _ _ _ => rfl⟩
    have k1 : hl_inb (1 : Int32) 74 = true := id rfl
    by_cases z : 0 < s.1 1
    · obtain ⟨w, w1, w2, -⟩ := (q1 1 (by decide)).2 z (by decide)
      have c2 : ¬ nI w < 0 := Int32.not_lt.mpr (show nI 0 ≤ nI w from nI_le (by omega) (by omega))
      rw [decide_eq_true z]
      simp only [hl_r227_39, hl_r227_40, hl_r227_41, hl_r227_122, hl_r227_123, hl_r227_126, hl_r227_127, hl_r227_128, hl_r227_131, hl_r227_132, hl_r227_135, hl_r227_136, hl_o_85, hl_p_85_3, hl_p_85_4, hl_p_85_5, hl_p_85_6, hl_p_85_19, hl_p_85_23, hl_p_85_24, hl_p_85_25, hl_p_85_26, hl_p_85_27, hl_p_85_28, hl_p_85_29, hl_p_85_30, hl_p_85_31, hl_p_85_33, hl_p_85_34, hl_p_85_35, hl_p_85_36, hl_p_85_37, hl_a_97, hl_z_97, Int32.le_refl, k1, hl_v1, w2, c2, or_true, hl_tv_t, hl_kill_i, hl_kill_r, hl_kill_n, hl_kill_l, hl_tl_s, hl_tl_n, hl_cal_some, hl_gI, hl_gJ, hl_gsI, hl_gsJ, hl_tv01, if_true, if_false, hl_up_a, hl_row_a]
    · have e1 := (q1 1 (by decide)).1 (by omega)
      have c2 : (-1 : Int32) < 0 := by decide
      rw [decide_eq_false z]
      simp only [hl_r227_39, hl_r227_40, hl_r227_41, hl_r227_122, hl_r227_123, hl_r227_126, hl_r227_127, hl_r227_128, hl_r227_131, hl_r227_132, hl_r227_135, hl_r227_136, hl_o_85, hl_p_85_3, hl_p_85_4, hl_p_85_5, hl_p_85_6, hl_p_85_19, hl_p_85_23, hl_p_85_24, hl_p_85_25, hl_p_85_26, hl_p_85_27, hl_p_85_28, hl_p_85_29, hl_p_85_30, hl_p_85_31, hl_p_85_33, hl_p_85_34, hl_p_85_35, hl_p_85_36, hl_p_85_37, hl_a_97, hl_z_97, Int32.le_refl, k1, hl_v1, e1, c2, true_or, hl_tv_f, hl_kill_i, hl_kill_r, hl_kill_n, hl_kill_l, hl_tl_s, hl_tl_n, hl_cal_some, hl_gI, hl_gJ, hl_gsI, hl_gsJ, hl_tv01, if_true, if_false, hl_up_a, hl_row_a]
  induction f with
  | zero =>
    intro I s i l3 l4 hi hle hB hM hQ
    have := hB.1.1
    obtain rfl : i = s.2.2 := by omega
    exact done I s l3 l4 hB hQ
  | succ f ih =>
    intro I s i l3 l4 hi hle hB hM hQ
    by_cases y : i < s.2.2
    · have n74 := hB.1.1
      have xlt := (hB.2.1 i y).1
      obtain ⟨I1, s1, e1, B1, K1, h1, h2, Q1, f1⟩ := hl_l227v (N := N) (c := c) hR xlt 74 I s 0 (by omega) rfl y hB ⟨hM y, fun p p1 p2 p3 => by
        unfold hl_sR at p3
        omega⟩ hQ
      have K0 : hl_bK 5476 hl_sR hl_dR (hl_rR r) (s.2.1 i) 0 s1 := ⟨K1.1, fun p p1 p2 p3 p4 => K1.2 p (by unfold hl_sR at p3; omega) p2 p3 p4⟩
      have B2 := hl_bI_next h1 B1 K0
      obtain ⟨I2, D, e2, g1, g2, g3⟩ := ih I1 s1 (i + 1) (.int (nI (s.2.1 i))) (.int (nI 74)) (by omega) (by omega) B2 (fun hlt j hj => by
        have m1 := K1.1 j hj
        have m2 := B1.2.2.2.2.1 i (i + 1) (by omega) hlt
        rw [h1] at m2
        omega) Q1
      refine ⟨I2, D, ?_, g1, g2, hl_fQ_tr f1 g3⟩
      have c1 : ¬ nI s.2.2 ≤ nI i := nI_ge y (by omega)
      have bi : hl_inb (nI i) 74 = true := hl_inb_nI (by omega) (by decide)
      have z0 : nI 0 = 0 := rfl
      rw [z0] at e1
      rw [← e2, ← e1, hl_r227_39]
      simp only [hl_r227_40, hl_r227_41, hl_r227_44, hl_r227_45, hl_r227_48, hl_r227_49, hl_r227_50, hl_r227_51, hl_r227_52, hl_o_85, hl_p_85_3, hl_p_85_4, hl_p_85_5, hl_p_85_6, hl_p_85_19, hl_p_85_23, hl_p_85_24, hl_p_85_25, hl_p_85_26, hl_p_85_27, hl_p_85_28, hl_p_85_29, hl_p_85_30, hl_p_85_31, hl_p_85_33, hl_p_85_34, hl_p_85_35, hl_p_85_36, hl_p_85_37, hl_a_98, hl_z_98, c1, bi, hl_cq (show i < 10000 by omega), hQ.2.2 i y, hl_kill_i, hl_kill_r, hl_kill_n, hl_kill_l, hl_tl_s, hl_tl_n, hl_cal_some, hl_gI, hl_gJ, hl_gsI, hl_gsJ, hl_tv01, if_true, if_false, hl_up_a, hl_row_a]
    · have et : i = s.2.2 := by omega
      subst et
      exact done I s l3 l4 hB hQ
theorem hl_l227a {c : hl_C} (f : Nat) : ∀ (I : Nat → Nat → Int32) (i : Nat), i + f = 74 → ∃ I', hl_Run 227 c 2 [.ref 85, .int (nI i), .null, .null, .null] [] (hl_g N I J) = hl_Run 227 c 21 [.ref 85, .int (nI 74), .null, .null, .null] [] (hl_g N I' J) ∧ (∀ b, b ≠ 97 → I' b = I b) ∧ (∀ u, u < i → I' 97 u = I 97 u) ∧ ∀ u, i ≤ u → u < 74 → I' 97 u = -1 := by
  induction f with
  | zero =>
    intro I i hi
    obtain rfl : i = 74 := by omega
    refine ⟨I, ?_, fun _ _ => rfl, fun _ _ => rfl, fun u h1 h2 => by omega⟩
    have c1 : (74 : Int32) ≤ nI 74 := Int32.le_refl 74
    simp only [hl_r227_2, hl_r227_3, hl_r227_5, c1, hl_kill_i, hl_kill_r, hl_kill_n, hl_kill_l, hl_tl_s, hl_tl_n, hl_cal_some, hl_gI, hl_gJ, hl_gsI, hl_gsJ, hl_tv01, if_true, if_false, hl_up_a, hl_row_a]
  | succ f ih =>
    intro I i hi
    have c1 : ¬ (74 : Int32) ≤ nI i := show ¬ nI 74 ≤ nI i from nI_ge (by omega) (by omega)
    have en : nI i + 1 = nI (i + 1) := (nI_succ i).symm
    obtain ⟨I1, e1, f1, g1, k1⟩ := ih (hl_up I 97 i (-1)) (i + 1) (by omega)
    refine ⟨I1, ?_, fun q hq => by rw [f1 q hq, hl_up_ne _ _ _ hq], fun u hu => ?_, fun u h1 h2 => ?_⟩
    · rw [← e1, hl_r227_2]
      simp only [hl_r227_3, hl_r227_5, hl_r227_8, hl_r227_9, hl_r227_12, hl_r227_13, hl_r227_14, hl_r227_15, hl_r227_18, hl_o_85, hl_p_85_3, hl_p_85_4, hl_p_85_5, hl_p_85_6, hl_p_85_19, hl_p_85_23, hl_p_85_24, hl_p_85_25, hl_p_85_26, hl_p_85_27, hl_p_85_28, hl_p_85_29, hl_p_85_30, hl_p_85_31, hl_p_85_33, hl_p_85_34, hl_p_85_35, hl_p_85_36, hl_p_85_37, hl_a_97, hl_z_97, c1, hl_b74 (show i < 74 by omega), hl_cq (show i < 10000 by omega), en, hl_kill_i, hl_kill_r, hl_kill_n, hl_kill_l, hl_tl_s, hl_tl_n, hl_cal_some, hl_gI, hl_gJ, hl_gsI, hl_gsJ, hl_tv01, if_true, if_false, hl_up_a, hl_row_a]
      try rw [hl_r227_2]
    · rw [g1 u (by omega), hl_up_a, if_pos rfl, if_neg (by omega)]
    · by_cases z : u = i
      · subst z
        rw [g1 u (by omega), hl_up_at]
      · exact k1 u (by omega) h2
theorem hl_s227 (hR : ∀ p, p < 5476 → (J 96 p).toInt = r p) : ∃ I' D, hl_call (d + 1) 227 [.ref 85] (hl_g N I J) = some (some (.int (hl_tv (decide (0 < D 1)))), hl_g N I' J) ∧ hl_bF 5476 74 hl_sR hl_dR (hl_rR r) D ∧ hl_FE I' r D ∧ hl_fQ I I' := by
  obtain ⟨I1, e1, f1, -, k1⟩ := hl_l227a (N := N) (J := J) (c := hl_call d) 74 I 0 (by omega)
  generalize hI2 : hl_up (hl_up I1 97 0 0) 98 0 0 = I2
  have r2 : ∀ w, w ≠ 97 → w ≠ 98 → I2 w = I w := fun w w1 w2 => by rw [← hI2, hl_up_ne _ _ _ w2, hl_up_ne _ _ _ w1, f1 w w1]
  have z1 : hl_cnt (fun _ => decide ((0 : Nat) < 0)) 74 = 0 := by decide
  have us0 : ∀ u, 0 < hl_us (fun _ => 0) 0 1 u → u = 0 := fun u hu => Decidable.byContradiction fun z => by
    unfold hl_us at hu
    rw [if_neg z] at hu
    exact absurd hu (Nat.lt_irrefl 0)
  have hB : hl_bI 5476 74 hl_sR hl_dR (hl_rR r) 0 (hl_us (fun _ => 0) 0 1, fun _ => 0, 1) := by
    refine ⟨⟨by show 1 ≤ 74; omega, by show 0 < 1; omega, rfl, rfl⟩, fun j hj => ?_, fun u hu hD => ?_, ?_, fun j k _ _ => Nat.le_refl _, fun X X0 _ u hu hD => ?_, fun u hu hD h0 => ?_, fun j hj => by omega⟩
    · have hj' : j < 1 := hj
      exact ⟨by show 0 < 74; omega, by show 0 < 1; omega, by show 1 ≤ j + 1; omega⟩
    · exact ⟨0, by show 0 < 1; omega, (us0 u hD).symm⟩
    · show 1 = hl_cnt (fun u => decide (0 < hl_us (fun _ => 0) 0 1 u)) 74
      rw [hl_cnt_us (by omega) rfl (by omega), z1]
    · rw [us0 u hD]; exact X0
    · exact absurd (us0 u hD) h0
  have hQ : hl_FQ I2 r (hl_us (fun _ => 0) 0 1, fun _ => 0, 1) := by
    refine ⟨fun u hu => ⟨fun hz => ?_, fun hp h0 => absurd (us0 u hp) h0⟩, ?_, fun j hj => ?_⟩
    · have hz' : (if u = 0 then 1 else 0) = 0 := hz
      by_cases y : u = 0
      · rw [if_pos y] at hz'; cases hz'
      · rw [← hI2, hl_up_ne _ _ _ (by decide), hl_up_a, if_pos rfl, if_neg y]; exact k1 u (by omega) hu
    · rw [← hI2, hl_up_ne _ _ _ (by decide)]; exact hl_up_at
    · have hj' : j < 1 := hj
      have : j = 0 := by omega
      subst this
      rw [← hI2]; exact hl_up_at
  obtain ⟨I3, D, e3, g1, g2, g3⟩ := hl_l227i (N := N) (c := hl_call d) hR 74 I2 (hl_us (fun _ => 0) 0 1, fun _ => 0, 1) 0 .null .null (by omega) (Nat.zero_le _) hB (fun _ j hj => by show 1 ≤ 1 + 1; omega) hQ
  refine ⟨I3, D, ?_, g1, g2, fun w w1 w2 => by rw [g3 w w1 w2, r2 w w1 w2]⟩
  have e1' : hl_Run 227 (hl_call d) 2 [.ref 85, .int 0, .null, .null, .null] [] (hl_g N I J) = hl_Run 227 (hl_call d) 21 [.ref 85, .int (nI 74), .null, .null, .null] [] (hl_g N I1 J) := e1
  have k0 : hl_inb (0 : Int32) 74 = true := id rfl
  rw [← e3, ← hI2, hl_e227]
  simp only [hl_r227_0, hl_r227_1, hl_kill_n, e1', hl_r227_21, hl_r227_22, hl_r227_25, hl_r227_26, hl_r227_27, hl_r227_28, hl_r227_29, hl_r227_32, hl_r227_33, hl_r227_34, hl_r227_35, hl_r227_36, hl_r227_37, hl_r227_38, hl_o_85, hl_p_85_3, hl_p_85_4, hl_p_85_5, hl_p_85_6, hl_p_85_19, hl_p_85_23, hl_p_85_24, hl_p_85_25, hl_p_85_26, hl_p_85_27, hl_p_85_28, hl_p_85_29, hl_p_85_30, hl_p_85_31, hl_p_85_33, hl_p_85_34, hl_p_85_35, hl_p_85_36, hl_p_85_37, hl_a_97, hl_z_97, hl_a_98, hl_z_98, k0, hl_v0, hl_kill_i, hl_kill_r, hl_kill_n, hl_kill_l, hl_tl_s, hl_tl_n, hl_cal_some, hl_gI, hl_gJ, hl_gsI, hl_gsJ, hl_tv01, if_true, if_false, hl_up_a, hl_row_a]
  rfl
end HLRE2
