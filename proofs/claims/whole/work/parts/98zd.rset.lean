/-! the reference's reader: settle, marker, compared, kinds -/
section HXRSET
variable {d N L x m : Nat} {I I' : Nat → Nat → Int32} {J : Nat → Nat → Int64} {w : hl_W} {b : Bool}
theorem hx_l180 {r : Nat} (hr : 1 ≤ r ∧ r ≤ 7) : ∀ (P : List Nat) (C : List (Nat × Nat)) (I : Nat → Nat → Int32), hx_RC x P C (hx_opP P + m) I → hx_opP P + m ≤ 200 → P.length + C.length ≤ 320 → ∃ I', hl_Run 180 (hl_call (d + 1)) 0 [.ref 85, .int (nI r)] [] (hl_g N I J) = some (none, hl_g N I' J) ∧ hx_RC x (hx_stl r P C).1 (hx_stl r P C).2 (hx_opP (hx_stl r P C).1 + m) I' ∧ hx_fS x I I' := by
  intro P
  induction P with
  | nil =>
    intro C I h _ _
    have l0 : (nI 0 : Int32) ≤ 0 := by decide
    have h3 : I 85 20 = nI 0 := h.2.2.1.1
    refine ⟨I, ?_, h, hx_fS_rf x I⟩
    simp only [hl_r180_0, hl_r180_1, hl_r180_4, hl_r180_7, hl_r180_8, hl_r180_11, hl_r180_12, hl_r180_15, hl_r180_16, hl_r180_17, hl_r180_18, hl_r180_21, hl_r180_22, hl_r180_25, hl_r180_26, hl_r180_27, hl_r180_30, hl_r180_31, hl_r180_32, hl_r180_35, hl_r180_36, hl_r180_37, hl_r180_40, hl_r180_41, hl_r180_44, hl_r180_45, hl_r180_46, hl_r180_49, hl_r180_50, hl_r180_53, hl_r180_54, hl_r180_57, hl_r180_58, hl_r180_59, hl_r180_62, hl_r180_63, hl_r180_66, hl_r180_67, hl_r180_70, hl_r180_71, hl_r180_73, hl_r180_76, hl_r180_77, hl_r180_78, hl_r180_81, hl_r180_82, hl_r180_83, hl_r180_86, hl_r180_89, hl_o_85, hl_p_85_3, hl_p_85_4, hl_p_85_5, hl_p_85_6, hl_p_85_19, hl_p_85_23, hl_p_85_24, hl_p_85_25, hl_p_85_26, hl_p_85_27, hl_p_85_28, hl_p_85_29, hl_p_85_30, hl_p_85_31, hl_p_85_33, hl_p_85_34, hl_p_85_35, hl_p_85_36, hl_p_85_37, h3, l0, hl_kill_i, hl_kill_r, hl_kill_n, hl_kill_l, hl_tl_s, hl_tl_n, hl_cal_some, hl_gI, hl_gJ, hl_gsI, hl_gsJ, hl_tv01, if_true, if_false, not_true, not_false_eq_true, hl_10, or_true, true_or]
  | cons k P ih =>
    intro C I h ho hc
    obtain ⟨⟨h1, h1'⟩, h2, ⟨h3, h3'⟩, h4, ⟨⟨h5, h5'⟩, h5''⟩, h6⟩ := h
    have h3a : I 85 20 = nI (P.length + 1) := h3
    have hl : P.length + 1 ≤ 150 := h3'
    have hc' : P.length + 1 + C.length ≤ 320 := hc
    have c1 : ¬ nI (P.length + 1) ≤ 0 := nI_ge (a := 0) (b := P.length + 1) (by omega) (by omega)
    have eb : nI (P.length + 1) - 1 = nI P.length := nI_pred _
    have bn : hl_inb (nI P.length) 160 = true := hl_inb_nI (by omega) (by omega)
    have cq : (nI P.length).toNatClampNeg = P.length := hl_cq (by omega)
    have rk := fun w => hx_s179 (d := d) (w := w) h5'
    have r7 : hx_rk k ≤ 7 := by
      unfold hx_rk
      repeat' split
      all_goals omega
    show ∃ I', _ ∧ hx_RC x (if r ≤ hx_rk k then hx_stl r P (C ++ [(k, 0)]) else (k :: P, C)).1 (if r ≤ hx_rk k then hx_stl r P (C ++ [(k, 0)]) else (k :: P, C)).2 (hx_opP (if r ≤ hx_rk k then hx_stl r P (C ++ [(k, 0)]) else (k :: P, C)).1 + m) I' ∧ _
    by_cases z : r ≤ hx_rk k
    · rw [if_pos z]
      have nlt : ¬ nI (hx_rk k) < nI r := Int32.not_lt.mpr (nI_le z (by omega))
      have k40 : ¬ 40 ≤ k := hx_rk40 (by omega)
      -- pop
      have rc1 : hx_RC x P C (hx_isO k + hx_opP P + m) (hl_up I 85 20 (nI P.length)) := by
        have r85 : ∀ j, j ≠ 20 → hl_up I 85 20 (nI P.length) 85 j = I 85 j := fun j hj => by rw [hl_up_a, if_pos rfl, if_neg hj]
        exact ⟨⟨(r85 15 (by omega)).trans h1, h1'⟩, (r85 17 (by omega)).trans h2, ⟨hl_up_at, by omega⟩, (r85 21 (by omega)).trans h4, by rw [hl_up_ne _ _ _ (by omega)]; exact h5'', by rw [hl_up_ne _ _ _ (by omega)]; exact h6⟩
      have u90 : hl_up I 85 20 (nI P.length) 90 P.length = nI k := by rw [hl_up_ne _ _ _ (by omega)]; exact h5
      have u20 : hl_up I 85 20 (nI P.length) 85 20 = nI P.length := hl_up_at
      have em := hx_s177 (d := d) (N := N) (J := J) (o := k) (v := 0) (x := x) (n := C.length) rc1.1.1 rc1.2.1 (by omega)
      obtain ⟨rc2, f2⟩ := hx_RC_emit (k := k) (v := 0) rc1 (by omega)
      have fp := hx_fS_u (x := x) (I := I) (j := 20) (v := nI P.length) (by omega)
      have u90' : hl_up (hl_up (hl_up (hl_up I 85 20 (nI P.length)) 88 (x + 30 + 2 * C.length) (nI k)) 88 (x + 30 + 2 * C.length + 1) (nI 0)) 85 17 (nI (C.length + 1)) 90 P.length = nI k := by
        rw [hl_up_ne _ _ _ (by omega), hl_up_ne _ _ _ (by omega), hl_up_ne _ _ _ (by omega)]; exact u90
      generalize hl_up (hl_up (hl_up (hl_up I 85 20 (nI P.length)) 88 (x + 30 + 2 * C.length) (nI k)) 88 (x + 30 + 2 * C.length + 1) (nI 0)) 85 17 (nI (C.length + 1)) = I2 at em rc2 f2 u90'
      have em' : hl_call (d + 1) 177 [.ref 85, .int (nI k), .int 0] (hl_g N (hl_up I 85 20 (nI P.length)) J) = some (none, hl_g N I2 J) := em
      have st4 : hl_Run 180 (hl_call (d + 1)) 0 [.ref 85, .int (nI r)] [] (hl_g N I J) = hl_Run 180 (hl_call (d + 1)) 4 [.ref 85, .int (nI r)] [.int (nI (P.length + 1))] (hl_g N I J) := by
        simp only [hl_r180_0, hl_r180_1, hl_o_85, hl_p_85_3, hl_p_85_4, hl_p_85_5, hl_p_85_6, hl_p_85_19, hl_p_85_23, hl_p_85_24, hl_p_85_25, hl_p_85_26, hl_p_85_27, hl_p_85_28, hl_p_85_29, hl_p_85_30, hl_p_85_31, hl_p_85_33, hl_p_85_34, hl_p_85_35, hl_p_85_36, hl_p_85_37, h3a, hl_kill_i, hl_kill_r, hl_kill_n, hl_kill_l, hl_tl_s, hl_tl_n, hl_cal_some, hl_gI, hl_gJ, hl_gsI, hl_gsJ, hl_tv01, if_true, if_false, not_true, not_false_eq_true, hl_10, or_true, true_or]
      have q2 : (nI k = (2 : Int32)) = (k = 2) := propext (nI_eq (b := 2) (by omega) (by omega))
      have q20 : (nI k = (20 : Int32)) = (k = 20) := propext (nI_eq (b := 20) (by omega) (by omega))
      have v20 : I2 85 20 = nI P.length := rc2.2.2.1.1
      have v21 := rc2.2.2.2.1
      have tot : P.length + (C ++ [(k, 0)]).length ≤ 320 := by rw [List.length_append, List.length_singleton]; omega
      by_cases k2 : k = 2 ∨ k = 20
      · have io : hx_isO k = 1 := if_pos (by omega)
        have ho' : hx_isO k + hx_opP P + m ≤ 200 := ho
        have eo : nI (hx_isO k + hx_opP P + m) - 1 = nI (hx_opP P + m) := by rw [io, show 1 + hx_opP P + m = hx_opP P + m + 1 by omega]; exact nI_pred _
        have st : hl_Run 180 (hl_call (d + 1)) 4 [.ref 85, .int (nI r)] [.int (nI (P.length + 1))] (hl_g N I J) = hl_Run 180 (hl_call (d + 1)) 86 [.ref 85, .int (nI r)] [] (hl_g N (hl_up I2 85 21 (nI (hx_opP P + m))) J) := by
          rcases k2 with y | y
          · have y2 : (nI k = (2 : Int32)) = True := by rw [q2]; exact eq_true y
            simp only [hl_r180_4, hl_r180_7, hl_r180_8, hl_r180_11, hl_r180_12, hl_r180_15, hl_r180_16, hl_r180_17, hl_r180_18, hl_r180_21, hl_r180_22, hl_r180_25, hl_r180_26, hl_r180_27, hl_r180_30, hl_r180_31, hl_r180_32, hl_r180_35, hl_r180_36, hl_r180_37, hl_r180_40, hl_r180_41, hl_r180_44, hl_r180_45, hl_r180_46, hl_r180_49, hl_r180_50, hl_r180_53, hl_r180_54, hl_r180_57, hl_r180_58, hl_r180_59, hl_r180_62, hl_r180_63, hl_r180_66, hl_r180_67, hl_r180_70, hl_r180_71, hl_r180_73, hl_r180_76, hl_r180_77, hl_r180_78, hl_r180_81, hl_r180_82, hl_r180_83, hl_o_85, hl_p_85_3, hl_p_85_4, hl_p_85_5, hl_p_85_6, hl_p_85_19, hl_p_85_23, hl_p_85_24, hl_p_85_25, hl_p_85_26, hl_p_85_27, hl_p_85_28, hl_p_85_29, hl_p_85_30, hl_p_85_31, hl_p_85_33, hl_p_85_34, hl_p_85_35, hl_p_85_36, hl_p_85_37, hl_a_90, hl_z_90, h3a, c1, eb, bn, cq, h5, rk, nlt, u90, u20, em', u90', v20, v21, y2, eo, hl_kill_i, hl_kill_r, hl_kill_n, hl_kill_l, hl_tl_s, hl_tl_n, hl_cal_some, hl_gI, hl_gJ, hl_gsI, hl_gsJ, hl_tv01, if_true, if_false, not_true, not_false_eq_true, hl_10, or_true, true_or]
          · have y2 : (nI k = (2 : Int32)) = False := by rw [q2]; exact eq_false (by omega)
            have y20 : (nI k = (20 : Int32)) = True := by rw [q20]; exact eq_true y
            simp only [hl_r180_4, hl_r180_7, hl_r180_8, hl_r180_11, hl_r180_12, hl_r180_15, hl_r180_16, hl_r180_17, hl_r180_18, hl_r180_21, hl_r180_22, hl_r180_25, hl_r180_26, hl_r180_27, hl_r180_30, hl_r180_31, hl_r180_32, hl_r180_35, hl_r180_36, hl_r180_37, hl_r180_40, hl_r180_41, hl_r180_44, hl_r180_45, hl_r180_46, hl_r180_49, hl_r180_50, hl_r180_53, hl_r180_54, hl_r180_57, hl_r180_58, hl_r180_59, hl_r180_62, hl_r180_63, hl_r180_66, hl_r180_67, hl_r180_70, hl_r180_71, hl_r180_73, hl_r180_76, hl_r180_77, hl_r180_78, hl_r180_81, hl_r180_82, hl_r180_83, hl_o_85, hl_p_85_3, hl_p_85_4, hl_p_85_5, hl_p_85_6, hl_p_85_19, hl_p_85_23, hl_p_85_24, hl_p_85_25, hl_p_85_26, hl_p_85_27, hl_p_85_28, hl_p_85_29, hl_p_85_30, hl_p_85_31, hl_p_85_33, hl_p_85_34, hl_p_85_35, hl_p_85_36, hl_p_85_37, hl_a_90, hl_z_90, h3a, c1, eb, bn, cq, h5, rk, nlt, u90, u20, em', u90', v20, v21, y2, y20, eo, hl_kill_i, hl_kill_r, hl_kill_n, hl_kill_l, hl_tl_s, hl_tl_n, hl_cal_some, hl_gI, hl_gJ, hl_gsI, hl_gsJ, hl_tv01, if_true, if_false, not_true, not_false_eq_true, hl_10, or_true, true_or]
        have rc3 : hx_RC x P (C ++ [(k, 0)]) (hx_opP P + m) (hl_up I2 85 21 (nI (hx_opP P + m))) := by
          obtain ⟨⟨g1, g1'⟩, g2, ⟨g3, g3'⟩, g4, g5, g6⟩ := rc2
          have r85 : ∀ j, j ≠ 21 → hl_up I2 85 21 (nI (hx_opP P + m)) 85 j = I2 85 j := fun j hj => by rw [hl_up_a, if_pos rfl, if_neg hj]
          exact ⟨⟨(r85 15 (by omega)).trans g1, g1'⟩, (r85 17 (by omega)).trans g2, ⟨(r85 20 (by omega)).trans g3, g3'⟩, hl_up_at, by rw [hl_up_ne _ _ _ (by omega)]; exact g5, by rw [hl_up_ne _ _ _ (by omega)]; exact g6⟩
        have f3 := hx_fS_u (x := x) (I := I2) (j := 21) (v := nI (hx_opP P + m)) (by omega)
        obtain ⟨I4, e4, rc4, f4⟩ := ih _ _ rc3 (by omega) tot
        refine ⟨I4, ?_, rc4, hx_fS_tr fp (hx_fS_tr f2 (hx_fS_tr f3 f4))⟩
        rw [st4, st, ← e4]
        simp only [hl_r180_86]
      · have io : hx_isO k = 0 := if_neg (by omega)
        rw [io, Nat.zero_add] at rc2
        have ho' : hx_isO k + hx_opP P + m ≤ 200 := ho
        have y2 : (nI k = (2 : Int32)) = False := by rw [q2]; exact eq_false (by omega)
        have y20 : (nI k = (20 : Int32)) = False := by rw [q20]; exact eq_false (by omega)
        obtain ⟨I4, e4, rc4, f4⟩ := ih _ _ rc2 (by omega) tot
        refine ⟨I4, ?_, rc4, hx_fS_tr fp (hx_fS_tr f2 f4)⟩
        rw [st4, ← e4]
        simp only [hl_r180_4, hl_r180_7, hl_r180_8, hl_r180_11, hl_r180_12, hl_r180_15, hl_r180_16, hl_r180_17, hl_r180_18, hl_r180_21, hl_r180_22, hl_r180_25, hl_r180_26, hl_r180_27, hl_r180_30, hl_r180_31, hl_r180_32, hl_r180_35, hl_r180_36, hl_r180_37, hl_r180_40, hl_r180_41, hl_r180_44, hl_r180_45, hl_r180_46, hl_r180_49, hl_r180_50, hl_r180_53, hl_r180_54, hl_r180_57, hl_r180_58, hl_r180_59, hl_r180_62, hl_r180_63, hl_r180_66, hl_r180_67, hl_r180_70, hl_r180_71, hl_r180_73, hl_o_85, hl_p_85_3, hl_p_85_4, hl_p_85_5, hl_p_85_6, hl_p_85_19, hl_p_85_23, hl_p_85_24, hl_p_85_25, hl_p_85_26, hl_p_85_27, hl_p_85_28, hl_p_85_29, hl_p_85_30, hl_p_85_31, hl_p_85_33, hl_p_85_34, hl_p_85_35, hl_p_85_36, hl_p_85_37, hl_a_90, hl_z_90, h3a, c1, eb, bn, cq, h5, rk, nlt, u90, u20, em', u90', v20, v21, y2, y20, hl_kill_i, hl_kill_r, hl_kill_n, hl_kill_l, hl_tl_s, hl_tl_n, hl_cal_some, hl_gI, hl_gJ, hl_gsI, hl_gsJ, hl_tv01, if_true, if_false, not_true, not_false_eq_true, hl_10, or_true, true_or]
    · rw [if_neg z]
      have lt : nI (hx_rk k) < nI r := nI_lt (by omega) (by omega)
      refine ⟨I, ?_, ⟨⟨h1, h1'⟩, h2, ⟨h3, h3'⟩, h4, ⟨⟨h5, h5'⟩, h5''⟩, h6⟩, hx_fS_rf x I⟩
      simp only [hl_r180_0, hl_r180_1, hl_r180_4, hl_r180_7, hl_r180_8, hl_r180_11, hl_r180_12, hl_r180_15, hl_r180_16, hl_r180_17, hl_r180_18, hl_r180_21, hl_r180_22, hl_r180_25, hl_r180_26, hl_r180_27, hl_r180_30, hl_r180_31, hl_r180_32, hl_r180_35, hl_r180_36, hl_r180_37, hl_r180_40, hl_r180_41, hl_r180_44, hl_r180_45, hl_r180_46, hl_r180_49, hl_r180_50, hl_r180_53, hl_r180_54, hl_r180_57, hl_r180_58, hl_r180_59, hl_r180_62, hl_r180_63, hl_r180_66, hl_r180_67, hl_r180_70, hl_r180_71, hl_r180_73, hl_r180_76, hl_r180_77, hl_r180_78, hl_r180_81, hl_r180_82, hl_r180_83, hl_r180_86, hl_r180_89, hl_o_85, hl_p_85_3, hl_p_85_4, hl_p_85_5, hl_p_85_6, hl_p_85_19, hl_p_85_23, hl_p_85_24, hl_p_85_25, hl_p_85_26, hl_p_85_27, hl_p_85_28, hl_p_85_29, hl_p_85_30, hl_p_85_31, hl_p_85_33, hl_p_85_34, hl_p_85_35, hl_p_85_36, hl_p_85_37, hl_a_90, hl_z_90, h3a, c1, eb, bn, cq, h5, rk, lt, hl_kill_i, hl_kill_r, hl_kill_n, hl_kill_l, hl_tl_s, hl_tl_n, hl_cal_some, hl_gI, hl_gJ, hl_gsI, hl_gsJ, hl_tv01, if_true, if_false, not_true, not_false_eq_true, hl_10, or_true, true_or]
theorem hx_s180 {r o : Nat} {P : List Nat} {C : List (Nat × Nat)} (hr : 1 ≤ r ∧ r ≤ 7) (h : hx_RC x P C (hx_opP P + m) I) (ho : hx_opP P + m ≤ 200) (hc : P.length + C.length ≤ 320) : ∃ I', hl_call (d + 2) 180 [.ref 85, .int (nI r)] (hl_g N I J) = some (none, hl_g N I' J) ∧ hx_RC x (hx_stl r P C).1 (hx_stl r P C).2 (hx_opP (hx_stl r P C).1 + m) I' ∧ hx_fS x I I' := by
  obtain ⟨I', e, a, c⟩ := hx_l180 (d := d) (N := N) (J := J) hr P C I h ho hc
  refine ⟨I', ?_, a, c⟩
  rw [hl_e180]
  exact e
/-- whole -/
theorem hx_s181 {P : List Nat} {C : List (Nat × Nat)} (h : hx_RC x P C (hx_opP P + m) I) (ho : hx_opP P + m ≤ 200) (hc : P.length + C.length ≤ 320) : ∃ I', hl_call (d + 3) 181 [.ref 85] (hl_g N I J) = some (none, hl_g N I' J) ∧ hx_RC x (hx_stl 7 P C).1 (hx_stl 7 P C).2 (hx_opP (hx_stl 7 P C).1 + m) I' ∧ hx_fM x I I' ∧ I' 85 22 = 1 ∧ (∀ j, (j ≠ 17 ∧ j ≠ 20 ∧ j ≠ 21 ∧ j ≠ 22) → I' 85 j = I 85 j) := by
  obtain ⟨⟨g1, g1'⟩, g2, ⟨g3, g3'⟩, g4, g5, g6⟩ := h
  have r85 : ∀ j, j ≠ 22 → hl_up I 85 22 1 85 j = I 85 j := fun j hj => by rw [hl_up_a, if_pos rfl, if_neg hj]
  have rc1 : hx_RC x P C (hx_opP P + m) (hl_up I 85 22 1) := ⟨⟨(r85 15 (by omega)).trans g1, g1'⟩, (r85 17 (by omega)).trans g2, ⟨(r85 20 (by omega)).trans g3, g3'⟩, (r85 21 (by omega)).trans g4, by rw [hl_up_ne _ _ _ (by omega)]; exact g5, by rw [hl_up_ne _ _ _ (by omega)]; exact g6⟩
  obtain ⟨I', e, a, c⟩ := hx_s180 (d := d) (N := N) (J := J) (r := 7) (o := 0) (by omega) rc1 ho hc
  have e' : hl_call (d + 2) 180 [.ref 85, .int 7] (hl_g N (hl_up I 85 22 1) J) = some (none, hl_g N I' J) := e
  refine ⟨I', ?_, a, hx_fM_tr (hx_fM_u (by omega)) c.1, by rw [c.2 22 (by omega)]; exact hl_up_at, fun j hj => by rw [c.2 j (by omega), r85 j (by omega)]⟩
  rw [hl_e181]
  simp only [hl_r181_0, hl_r181_1, hl_r181_2, hl_r181_5, hl_r181_6, hl_r181_8, hl_r181_11, hl_o_85, hl_p_85_3, hl_p_85_4, hl_p_85_5, hl_p_85_6, hl_p_85_19, hl_p_85_23, hl_p_85_24, hl_p_85_25, hl_p_85_26, hl_p_85_27, hl_p_85_28, hl_p_85_29, hl_p_85_30, hl_p_85_31, hl_p_85_33, hl_p_85_34, hl_p_85_35, hl_p_85_36, hl_p_85_37, e', hl_tl_n, hl_kill_i, hl_kill_r, hl_kill_n, hl_kill_l, hl_tl_s, hl_tl_n, hl_cal_some, hl_gI, hl_gJ, hl_gsI, hl_gsJ, hl_tv01, if_true, if_false, not_true, not_false_eq_true, hl_10, or_true, true_or]
/-- marker -/
theorem hx_l182 (h9 : I 85 20 = I 85 20) : ∀ P : List Nat, hx_PL (I 90) P → P.length ≤ 150 → hl_Run 182 (hl_call d) 7 [.ref 85, .int (nI P.length - 1)] [] (hl_g N I J) = some (some (.int (nI (hx_mk P).length - 1)), hl_g N I J) := by
  intro P
  induction P with
  | nil =>
    intro _ _
    have z : (nI 0 - 1 : Int32) < 0 := by decide
    show hl_Run 182 (hl_call d) 7 [.ref 85, .int (nI 0 - 1)] [] (hl_g N I J) = some (some (.int (nI 0 - 1)), hl_g N I J)
    simp only [hl_r182_7, hl_r182_8, hl_r182_28, hl_r182_29, z, hl_kill_i, hl_kill_r, hl_kill_n, hl_kill_l, hl_tl_s, hl_tl_n, hl_cal_some, hl_gI, hl_gJ, hl_gsI, hl_gsJ, hl_tv01, if_true, if_false, not_true, not_false_eq_true, hl_10, or_true, true_or]
  | cons k P ih =>
    intro h hl
    have hl' : P.length + 1 ≤ 150 := hl
    obtain ⟨⟨h5, h5'⟩, h6⟩ := h
    have eb : nI (P.length + 1) - 1 = nI P.length := nI_pred _
    have n0 : ¬ nI P.length < 0 := Int32.not_lt.mpr (nI_le (a := 0) (Nat.zero_le _) (by omega))
    have bn : hl_inb (nI P.length) 160 = true := hl_inb_nI (by omega) (by omega)
    have cq : (nI P.length).toNatClampNeg = P.length := hl_cq (by omega)
    have l40 : ((40 : Int32) ≤ nI k) = (40 ≤ k) := propext (nI_leI (a := 40) (by omega) (by omega))
    have em : nI P.length + (-1) = nI P.length - 1 := (Int32.sub_eq_add_neg _ _).symm
    show hl_Run 182 (hl_call d) 7 [.ref 85, .int (nI (P.length + 1) - 1)] [] (hl_g N I J) = some (some (.int (nI (if 40 ≤ k then k :: P else hx_mk P).length - 1)), hl_g N I J)
    rw [eb]
    by_cases z : 40 ≤ k
    · rw [if_pos z]
      show _ = some (some (Value.int (nI (P.length + 1) - 1)), hl_g N I J)
      rw [eb]
      simp only [hl_r182_7, hl_r182_8, hl_r182_11, hl_r182_12, hl_r182_15, hl_r182_16, hl_r182_17, hl_r182_19, hl_r182_28, hl_r182_29, hl_o_85, hl_p_85_3, hl_p_85_4, hl_p_85_5, hl_p_85_6, hl_p_85_19, hl_p_85_23, hl_p_85_24, hl_p_85_25, hl_p_85_26, hl_p_85_27, hl_p_85_28, hl_p_85_29, hl_p_85_30, hl_p_85_31, hl_p_85_33, hl_p_85_34, hl_p_85_35, hl_p_85_36, hl_p_85_37, hl_a_90, hl_z_90, n0, bn, cq, h5, l40, z, hl_kill_i, hl_kill_r, hl_kill_n, hl_kill_l, hl_tl_s, hl_tl_n, hl_cal_some, hl_gI, hl_gJ, hl_gsI, hl_gsJ, hl_tv01, if_true, if_false, not_true, not_false_eq_true, hl_10, or_true, true_or]
    · rw [if_neg z, ← ih h6 (by omega)]
      have st : hl_Run 182 (hl_call d) 7 [.ref 85, .int (nI P.length)] [] (hl_g N I J) = hl_Run 182 (hl_call d) 25 [.ref 85, .int (nI P.length - 1)] [] (hl_g N I J) := by
        simp only [hl_r182_7, hl_r182_8, hl_r182_11, hl_r182_12, hl_r182_15, hl_r182_16, hl_r182_17, hl_r182_19, hl_r182_22, hl_o_85, hl_p_85_3, hl_p_85_4, hl_p_85_5, hl_p_85_6, hl_p_85_19, hl_p_85_23, hl_p_85_24, hl_p_85_25, hl_p_85_26, hl_p_85_27, hl_p_85_28, hl_p_85_29, hl_p_85_30, hl_p_85_31, hl_p_85_33, hl_p_85_34, hl_p_85_35, hl_p_85_36, hl_p_85_37, hl_a_90, hl_z_90, n0, bn, cq, h5, l40, z, em, hl_kill_i, hl_kill_r, hl_kill_n, hl_kill_l, hl_tl_s, hl_tl_n, hl_cal_some, hl_gI, hl_gJ, hl_gsI, hl_gsJ, hl_tv01, if_true, if_false, not_true, not_false_eq_true, hl_10, or_true, true_or]
      rw [st]
      simp only [hl_r182_25]
theorem hx_s182 {P : List Nat} {C : List (Nat × Nat)} {o : Nat} (h : hx_RC x P C o I) : hl_call (d + 1) 182 [.ref 85] (hl_g N I J) = some (some (.int (nI (hx_mk P).length - 1)), hl_g N I J) := by
  have e := hx_l182 (d := d) (N := N) (J := J) (I := I) rfl P h.2.2.2.2.1 h.2.2.1.2
  rw [hl_e182, ← e]
  simp only [hl_r182_0, hl_r182_1, hl_r182_4, hl_r182_5, hl_r182_6, hl_o_85, hl_p_85_3, hl_p_85_4, hl_p_85_5, hl_p_85_6, hl_p_85_19, hl_p_85_23, hl_p_85_24, hl_p_85_25, hl_p_85_26, hl_p_85_27, hl_p_85_28, hl_p_85_29, hl_p_85_30, hl_p_85_31, hl_p_85_33, hl_p_85_34, hl_p_85_35, hl_p_85_36, hl_p_85_37, h.2.2.1.1, hl_kill_i, hl_kill_r, hl_kill_n, hl_kill_l, hl_tl_s, hl_tl_n, hl_cal_some, hl_gI, hl_gJ, hl_gsI, hl_gsJ, hl_tv01, if_true, if_false, not_true, not_false_eq_true, hl_10, or_true, true_or]
theorem hx_mk_at : ∀ P : List Nat, ∀ R : Nat → Int32, hx_PL R P → hx_mk P ≠ [] → R ((hx_mk P).length - 1) = nI (hx_mh P) ∧ (hx_mk P).length ≤ P.length ∧ 40 ≤ hx_mh P ∧ hx_mh P ≤ 43 ∧ 0 < (hx_mk P).length := by
  intro P
  induction P with
  | nil => exact fun R _ h => absurd rfl h
  | cons k P ih =>
    intro R h hn
    by_cases z : 40 ≤ k
    · have e : hx_mk (k :: P) = k :: P := if_pos z
      have e2 : hx_mh (k :: P) = k := hx_mh_c z
      rw [e, e2]
      exact ⟨h.1.1, Nat.le_refl _, z, h.1.2, Nat.succ_pos _⟩
    · have e : hx_mk (k :: P) = hx_mk P := if_neg z
      have e2 : hx_mh (k :: P) = hx_mh P := by unfold hx_mh; rw [e]
      rw [e] at hn
      rw [e, e2]
      obtain ⟨a, c, d, f, g⟩ := ih R h.2 hn
      exact ⟨a, Nat.le_succ_of_le c, d, f, g⟩
/-- kindOpen -/
theorem hx_s183 {P : List Nat} {C : List (Nat × Nat)} {o : Nat} (h : hx_RC x P C o I) : hl_call (d + 2) 183 [.ref 85, .int (hl_tv b)] (hl_g N I J) = some (some (.int (nI (hx_ko b P))), hl_g N I J) := by
  have e := hx_s182 (d := d) (N := N) (J := J) h
  have hp := h.2.2.1.2
  unfold hx_ko
  by_cases z : hx_mk P = []
  · rw [z] at e
    rw [if_pos z, hl_e183]
    have z0 : (nI ([] : List Nat).length - 1 : Int32) < 0 := by decide
    cases b with
    | true =>
      have t1 : hl_tv true = 1 := rfl
      have n1 : ¬ (1 : Int32) = 0 := by decide
      simp only [hl_r183_0, hl_r183_1, hl_r183_4, hl_r183_5, hl_r183_6, hl_r183_9, hl_r183_10, hl_r183_13, hl_r183_14, hl_r183_15, hl_r183_18, hl_r183_19, hl_r183_22, hl_r183_24, hl_r183_27, hl_r183_29, hl_o_85, hl_p_85_3, hl_p_85_4, hl_p_85_5, hl_p_85_6, hl_p_85_19, hl_p_85_23, hl_p_85_24, hl_p_85_25, hl_p_85_26, hl_p_85_27, hl_p_85_28, hl_p_85_29, hl_p_85_30, hl_p_85_31, hl_p_85_33, hl_p_85_34, hl_p_85_35, hl_p_85_36, hl_p_85_37, hl_a_90, hl_z_90, e, z0, t1, n1, hl_tl_s, hl_kill_i, hl_kill_r, hl_kill_n, hl_kill_l, hl_tl_s, hl_tl_n, hl_cal_some, hl_gI, hl_gJ, hl_gsI, hl_gsJ, hl_tv01, if_true, if_false, not_true, not_false_eq_true, hl_10, or_true, true_or]
      rfl
    | false =>
      have t1 : hl_tv false = 0 := rfl
      simp only [hl_r183_0, hl_r183_1, hl_r183_4, hl_r183_5, hl_r183_6, hl_r183_9, hl_r183_10, hl_r183_13, hl_r183_14, hl_r183_15, hl_r183_18, hl_r183_19, hl_r183_22, hl_r183_24, hl_r183_27, hl_r183_29, hl_o_85, hl_p_85_3, hl_p_85_4, hl_p_85_5, hl_p_85_6, hl_p_85_19, hl_p_85_23, hl_p_85_24, hl_p_85_25, hl_p_85_26, hl_p_85_27, hl_p_85_28, hl_p_85_29, hl_p_85_30, hl_p_85_31, hl_p_85_33, hl_p_85_34, hl_p_85_35, hl_p_85_36, hl_p_85_37, hl_a_90, hl_z_90, e, z0, t1, hl_tl_s, hl_kill_i, hl_kill_r, hl_kill_n, hl_kill_l, hl_tl_s, hl_tl_n, hl_cal_some, hl_gI, hl_gJ, hl_gsI, hl_gsJ, hl_tv01, if_true, if_false, not_true, not_false_eq_true, hl_10, or_true, true_or]
      rfl
  · obtain ⟨a, c, d40, d43, g⟩ := hx_mk_at P _ h.2.2.2.2.1 z
    rw [if_neg z, hl_e183]
    have em : nI (hx_mk P).length - 1 = nI ((hx_mk P).length - 1) := by
      rw [show nI (hx_mk P).length = nI ((hx_mk P).length - 1 + 1) by rw [Nat.sub_add_cancel g]]
      exact nI_pred _
    rw [em] at e
    have n0 : ¬ nI ((hx_mk P).length - 1) < 0 := Int32.not_lt.mpr (nI_le (a := 0) (Nat.zero_le _) (by omega))
    have bn : hl_inb (nI ((hx_mk P).length - 1)) 160 = true := hl_inb_nI (by omega) (by omega)
    have cq : (nI ((hx_mk P).length - 1)).toNatClampNeg = (hx_mk P).length - 1 := hl_cq (by omega)
    simp only [hl_r183_0, hl_r183_1, hl_r183_4, hl_r183_5, hl_r183_6, hl_r183_9, hl_r183_10, hl_r183_13, hl_r183_14, hl_r183_15, hl_r183_18, hl_r183_19, hl_r183_22, hl_r183_24, hl_r183_27, hl_r183_29, hl_o_85, hl_p_85_3, hl_p_85_4, hl_p_85_5, hl_p_85_6, hl_p_85_19, hl_p_85_23, hl_p_85_24, hl_p_85_25, hl_p_85_26, hl_p_85_27, hl_p_85_28, hl_p_85_29, hl_p_85_30, hl_p_85_31, hl_p_85_33, hl_p_85_34, hl_p_85_35, hl_p_85_36, hl_p_85_37, hl_a_90, hl_z_90, e, n0, bn, cq, a, hl_tl_s, hl_kill_i, hl_kill_r, hl_kill_n, hl_kill_l, hl_tl_s, hl_tl_n, hl_cal_some, hl_gI, hl_gJ, hl_gsI, hl_gsJ, hl_tv01, if_true, if_false, not_true, not_false_eq_true, hl_10, or_true, true_or]
/-- isCompared -/
theorem hx_l184 : ∀ P : List Nat, hx_PL (I 90) P → P.length ≤ 150 → hl_Run 184 (hl_call (d + 1)) 7 [.ref 85, .int (nI P.length - 1)] [] (hl_g N I J) = some (some (.int (hl_tv (hx_cd P))), hl_g N I J) := by
  intro P
  induction P with
  | nil =>
    intro _ _
    have z : (nI 0 - 1 : Int32) < 0 := by decide
    show hl_Run 184 (hl_call (d + 1)) 7 [.ref 85, .int (nI 0 - 1)] [] (hl_g N I J) = some (some (.int 0), hl_g N I J)
    simp only [hl_r184_7, hl_r184_8, hl_r184_30, hl_r184_31, hl_r184_34, hl_r184_35, hl_r184_38, hl_r184_39, hl_r184_40, hl_r184_43, hl_r184_44, hl_r184_47, hl_r184_48, hl_r184_51, hl_r184_52, z, hl_kill_i, hl_kill_r, hl_kill_n, hl_kill_l, hl_tl_s, hl_tl_n, hl_cal_some, hl_gI, hl_gJ, hl_gsI, hl_gsJ, hl_tv01, if_true, if_false, not_true, not_false_eq_true, hl_10, or_true, true_or]
  | cons k P ih =>
    intro h hl
    have hl' : P.length + 1 ≤ 150 := hl
    obtain ⟨⟨h5, h5'⟩, h6⟩ := h
    have eb : nI (P.length + 1) - 1 = nI P.length := nI_pred _
    have n0 : ¬ nI P.length < 0 := Int32.not_lt.mpr (nI_le (a := 0) (Nat.zero_le _) (by omega))
    have bn : hl_inb (nI P.length) 160 = true := hl_inb_nI (by omega) (by omega)
    have cq : (nI P.length).toNatClampNeg = P.length := hl_cq (by omega)
    have rk := fun w => hx_s179 (d := d) (w := w) h5'
    have r7 : hx_rk k ≤ 7 := by
      unfold hx_rk
      repeat' split
      all_goals omega
    have l4 : (nI (hx_rk k) ≤ (4 : Int32)) = (hx_rk k ≤ 4) := propext (nI_leI (b := 4) (by omega) (by omega))
    have q4 : (nI (hx_rk k) = (4 : Int32)) = (hx_rk k = 4) := propext (nI_eq (b := 4) (by omega) (by omega))
    have em : nI P.length + (-1) = nI P.length - 1 := (Int32.sub_eq_add_neg _ _).symm
    show hl_Run 184 (hl_call (d + 1)) 7 [.ref 85, .int (nI (P.length + 1) - 1)] [] (hl_g N I J) = some (some (.int (hl_tv (if 4 < hx_rk k then hx_cd P else decide (hx_rk k = 4)))), hl_g N I J)
    rw [eb]
    by_cases z : 4 < hx_rk k
    · rw [if_pos z, ← ih h6 (by omega)]
      have z' : (hx_rk k ≤ 4) = False := eq_false (by omega)
      have st : hl_Run 184 (hl_call (d + 1)) 7 [.ref 85, .int (nI P.length)] [] (hl_g N I J) = hl_Run 184 (hl_call (d + 1)) 27 [.ref 85, .int (nI P.length - 1)] [] (hl_g N I J) := by
        simp only [hl_r184_7, hl_r184_8, hl_r184_11, hl_r184_12, hl_r184_15, hl_r184_16, hl_r184_17, hl_r184_20, hl_r184_21, hl_r184_24, hl_o_85, hl_p_85_3, hl_p_85_4, hl_p_85_5, hl_p_85_6, hl_p_85_19, hl_p_85_23, hl_p_85_24, hl_p_85_25, hl_p_85_26, hl_p_85_27, hl_p_85_28, hl_p_85_29, hl_p_85_30, hl_p_85_31, hl_p_85_33, hl_p_85_34, hl_p_85_35, hl_p_85_36, hl_p_85_37, hl_a_90, hl_z_90, n0, bn, cq, h5, rk, l4, z', em, hl_tl_s, hl_kill_i, hl_kill_r, hl_kill_n, hl_kill_l, hl_tl_s, hl_tl_n, hl_cal_some, hl_gI, hl_gJ, hl_gsI, hl_gsJ, hl_tv01, if_true, if_false, not_true, not_false_eq_true, hl_10, or_true, true_or]
      rw [st]
      simp only [hl_r184_27]
    · rw [if_neg z]
      have z' : (hx_rk k ≤ 4) = True := eq_true (by omega)
      by_cases y : hx_rk k = 4
      · rw [decide_eq_true y, hl_tv_t]
        have y' : (nI (hx_rk k) = (4 : Int32)) = True := by rw [q4]; exact eq_true y
        simp only [hl_r184_7, hl_r184_8, hl_r184_11, hl_r184_12, hl_r184_15, hl_r184_16, hl_r184_17, hl_r184_20, hl_r184_21, hl_r184_30, hl_r184_31, hl_r184_34, hl_r184_35, hl_r184_38, hl_r184_39, hl_r184_40, hl_r184_43, hl_r184_44, hl_r184_47, hl_r184_48, hl_r184_51, hl_r184_52, hl_o_85, hl_p_85_3, hl_p_85_4, hl_p_85_5, hl_p_85_6, hl_p_85_19, hl_p_85_23, hl_p_85_24, hl_p_85_25, hl_p_85_26, hl_p_85_27, hl_p_85_28, hl_p_85_29, hl_p_85_30, hl_p_85_31, hl_p_85_33, hl_p_85_34, hl_p_85_35, hl_p_85_36, hl_p_85_37, hl_a_90, hl_z_90, n0, bn, cq, h5, rk, l4, z', y', hl_tl_s, hl_kill_i, hl_kill_r, hl_kill_n, hl_kill_l, hl_tl_s, hl_tl_n, hl_cal_some, hl_gI, hl_gJ, hl_gsI, hl_gsJ, hl_tv01, if_true, if_false, not_true, not_false_eq_true, hl_10, or_true, true_or]
      · rw [decide_eq_false y, hl_tv_f]
        have y' : (nI (hx_rk k) = (4 : Int32)) = False := by rw [q4]; exact eq_false y
        simp only [hl_r184_7, hl_r184_8, hl_r184_11, hl_r184_12, hl_r184_15, hl_r184_16, hl_r184_17, hl_r184_20, hl_r184_21, hl_r184_30, hl_r184_31, hl_r184_34, hl_r184_35, hl_r184_38, hl_r184_39, hl_r184_40, hl_r184_43, hl_r184_44, hl_r184_47, hl_r184_48, hl_r184_51, hl_r184_52, hl_o_85, hl_p_85_3, hl_p_85_4, hl_p_85_5, hl_p_85_6, hl_p_85_19, hl_p_85_23, hl_p_85_24, hl_p_85_25, hl_p_85_26, hl_p_85_27, hl_p_85_28, hl_p_85_29, hl_p_85_30, hl_p_85_31, hl_p_85_33, hl_p_85_34, hl_p_85_35, hl_p_85_36, hl_p_85_37, hl_a_90, hl_z_90, n0, bn, cq, h5, rk, l4, z', y', hl_tl_s, hl_kill_i, hl_kill_r, hl_kill_n, hl_kill_l, hl_tl_s, hl_tl_n, hl_cal_some, hl_gI, hl_gJ, hl_gsI, hl_gsJ, hl_tv01, if_true, if_false, not_true, not_false_eq_true, hl_10, or_true, true_or]
theorem hx_s184 {P : List Nat} {C : List (Nat × Nat)} {o : Nat} (h : hx_RC x P C o I) : hl_call (d + 2) 184 [.ref 85] (hl_g N I J) = some (some (.int (hl_tv (hx_cd P))), hl_g N I J) := by
  have e := hx_l184 (d := d) (N := N) (J := J) P h.2.2.2.2.1 h.2.2.1.2
  rw [hl_e184, ← e]
  simp only [hl_r184_0, hl_r184_1, hl_r184_4, hl_r184_5, hl_r184_6, hl_o_85, hl_p_85_3, hl_p_85_4, hl_p_85_5, hl_p_85_6, hl_p_85_19, hl_p_85_23, hl_p_85_24, hl_p_85_25, hl_p_85_26, hl_p_85_27, hl_p_85_28, hl_p_85_29, hl_p_85_30, hl_p_85_31, hl_p_85_33, hl_p_85_34, hl_p_85_35, hl_p_85_36, hl_p_85_37, h.2.2.1.1, hl_kill_i, hl_kill_r, hl_kill_n, hl_kill_l, hl_tl_s, hl_tl_n, hl_cal_some, hl_gI, hl_gJ, hl_gsI, hl_gsJ, hl_tv01, if_true, if_false, not_true, not_false_eq_true, hl_10, or_true, true_or]
/-- isAskAhead -/
theorem hx_s185 {P : List Nat} {C : List (Nat × Nat)} {o : Nat} (h : hx_RC x P C o I) : hl_call (d + 3) 185 [.ref 85, .int (hl_tv b)] (hl_g N I J) = some (some (.int (hl_tv (hx_aa b P))), hl_g N I J) := by
  have e := hx_s183 (d := d) (N := N) (J := J) (b := b) h
  obtain ⟨-, -, ⟨h3, h3'⟩, -, h5, -⟩ := h
  have ek : (nI (hx_ko b P) = (41 : Int32)) = (hx_ko b P = 41) := by
    refine propext (nI_eq (b := 41) ?_ (by omega))
    unfold hx_ko
    by_cases z : hx_mk P = []
    · rw [if_pos z]
      cases b
      · rw [if_neg (by decide)]; omega
      · rw [if_pos rfl]; omega
    · rw [if_neg z]
      have := (hx_mk_at P _ h5 z).2.2.2.1
      omega
  unfold hx_aa
  rw [hl_e185]
  by_cases y : hx_ko b P = 41
  · have y' : (nI (hx_ko b P) = (41 : Int32)) = True := by rw [ek]; exact eq_true y
    rw [decide_eq_true y, Bool.true_and]
    cases P with
    | nil =>
      have h3a : I 85 20 = 0 := h3
      have ht : hx_tp [] = true := rfl
      rw [ht, hl_tv_t]
      simp only [hl_r185_0, hl_r185_1, hl_r185_2, hl_r185_5, hl_r185_7, hl_r185_10, hl_r185_11, hl_r185_14, hl_r185_17, hl_r185_18, hl_r185_21, hl_r185_22, hl_r185_25, hl_r185_26, hl_r185_27, hl_r185_28, hl_r185_30, hl_r185_33, hl_r185_34, hl_r185_37, hl_r185_38, hl_r185_41, hl_r185_42, hl_r185_43, hl_r185_44, hl_r185_47, hl_r185_48, hl_r185_49, hl_r185_52, hl_r185_55, hl_r185_56, hl_r185_59, hl_r185_60, hl_o_85, hl_p_85_3, hl_p_85_4, hl_p_85_5, hl_p_85_6, hl_p_85_19, hl_p_85_23, hl_p_85_24, hl_p_85_25, hl_p_85_26, hl_p_85_27, hl_p_85_28, hl_p_85_29, hl_p_85_30, hl_p_85_31, hl_p_85_33, hl_p_85_34, hl_p_85_35, hl_p_85_36, hl_p_85_37, hl_a_90, hl_z_90, e, y', h3a, hl_tl_s, hl_kill_i, hl_kill_r, hl_kill_n, hl_kill_l, hl_tl_s, hl_tl_n, hl_cal_some, hl_gI, hl_gJ, hl_gsI, hl_gsJ, hl_tv01, if_true, if_false, not_true, not_false_eq_true, hl_10, or_true, true_or]
    | cons k P =>
      have h3a : I 85 20 = nI (P.length + 1) := h3
      have hl' : P.length + 1 ≤ 150 := h3'
      obtain ⟨⟨g5, g5'⟩, -⟩ := h5
      have n0 : ¬ nI (P.length + 1) = 0 := nI_n0 (by omega)
      have eb : nI (P.length + 1) - 1 = nI P.length := nI_pred _
      have bn : hl_inb (nI P.length) 160 = true := hl_inb_nI (by omega) (by omega)
      have cq : (nI P.length).toNatClampNeg = P.length := hl_cq (by omega)
      have rk := fun w => hx_s179 (d := d + 1) (w := w) g5'
      have rk' : ∀ w, hl_call (d + 2) 179 [.int (nI k)] w = some (some (.int (nI (hx_rk k))), w) := rk
      have q41 : (nI k = (41 : Int32)) = (k = 41) := propext (nI_eq (b := 41) (by omega) (by omega))
      have r7 : hx_rk k ≤ 7 := by
        unfold hx_rk
        repeat' split
        all_goals omega
      show _ = some (some (Value.int (hl_tv (decide (k = 41) || (decide (1 ≤ hx_rk k) && decide (hx_rk k ≤ 3))))), hl_g N I J)
      by_cases z : k = 41
      · have z' : (nI k = (41 : Int32)) = True := by rw [q41]; exact eq_true z
        rw [decide_eq_true z, Bool.true_or, hl_tv_t]
        simp only [hl_r185_0, hl_r185_1, hl_r185_2, hl_r185_5, hl_r185_7, hl_r185_10, hl_r185_11, hl_r185_14, hl_r185_17, hl_r185_18, hl_r185_21, hl_r185_22, hl_r185_25, hl_r185_26, hl_r185_27, hl_r185_28, hl_r185_30, hl_r185_33, hl_r185_34, hl_r185_37, hl_r185_38, hl_r185_41, hl_r185_42, hl_r185_43, hl_r185_44, hl_r185_47, hl_r185_48, hl_r185_49, hl_r185_52, hl_r185_55, hl_r185_56, hl_r185_59, hl_r185_60, hl_o_85, hl_p_85_3, hl_p_85_4, hl_p_85_5, hl_p_85_6, hl_p_85_19, hl_p_85_23, hl_p_85_24, hl_p_85_25, hl_p_85_26, hl_p_85_27, hl_p_85_28, hl_p_85_29, hl_p_85_30, hl_p_85_31, hl_p_85_33, hl_p_85_34, hl_p_85_35, hl_p_85_36, hl_p_85_37, hl_a_90, hl_z_90, e, y', h3a, n0, eb, bn, cq, g5, z', hl_tl_s, hl_kill_i, hl_kill_r, hl_kill_n, hl_kill_l, hl_tl_s, hl_tl_n, hl_cal_some, hl_gI, hl_gJ, hl_gsI, hl_gsJ, hl_tv01, if_true, if_false, not_true, not_false_eq_true, hl_10, or_true, true_or]
      · have z' : (nI k = (41 : Int32)) = False := by rw [q41]; exact eq_false z
        have i3 : hl_in (nI (hx_rk k)) 1 3 = (decide (1 ≤ hx_rk k) && decide (hx_rk k ≤ 3)) := hx_in_n (a := 1) (b := 3) (by omega) (by omega) (by omega)
        rw [decide_eq_false z, Bool.false_or, ← i3]
        cases i : hl_in (nI (hx_rk k)) 1 3 with
        | true => simp only [hl_r185_0, hl_r185_1, hl_r185_2, hl_r185_5, hl_r185_7, hl_r185_10, hl_r185_11, hl_r185_14, hl_r185_17, hl_r185_18, hl_r185_21, hl_r185_22, hl_r185_25, hl_r185_26, hl_r185_27, hl_r185_28, hl_r185_30, hl_r185_33, hl_r185_34, hl_r185_37, hl_r185_38, hl_r185_41, hl_r185_42, hl_r185_43, hl_r185_44, hl_r185_47, hl_r185_48, hl_r185_49, hl_r185_52, hl_r185_55, hl_r185_56, hl_r185_59, hl_r185_60, hl_o_85, hl_p_85_3, hl_p_85_4, hl_p_85_5, hl_p_85_6, hl_p_85_19, hl_p_85_23, hl_p_85_24, hl_p_85_25, hl_p_85_26, hl_p_85_27, hl_p_85_28, hl_p_85_29, hl_p_85_30, hl_p_85_31, hl_p_85_33, hl_p_85_34, hl_p_85_35, hl_p_85_36, hl_p_85_37, hl_a_90, hl_z_90, e, y', h3a, n0, eb, bn, cq, g5, z', rk', hl_s151, i, hl_tv_t, hl_tl_s, hl_kill_i, hl_kill_r, hl_kill_n, hl_kill_l, hl_tl_s, hl_tl_n, hl_cal_some, hl_gI, hl_gJ, hl_gsI, hl_gsJ, hl_tv01, if_true, if_false, not_true, not_false_eq_true, hl_10, or_true, true_or]
        | false => simp only [hl_r185_0, hl_r185_1, hl_r185_2, hl_r185_5, hl_r185_7, hl_r185_10, hl_r185_11, hl_r185_14, hl_r185_17, hl_r185_18, hl_r185_21, hl_r185_22, hl_r185_25, hl_r185_26, hl_r185_27, hl_r185_28, hl_r185_30, hl_r185_33, hl_r185_34, hl_r185_37, hl_r185_38, hl_r185_41, hl_r185_42, hl_r185_43, hl_r185_44, hl_r185_47, hl_r185_48, hl_r185_49, hl_r185_52, hl_r185_55, hl_r185_56, hl_r185_59, hl_r185_60, hl_o_85, hl_p_85_3, hl_p_85_4, hl_p_85_5, hl_p_85_6, hl_p_85_19, hl_p_85_23, hl_p_85_24, hl_p_85_25, hl_p_85_26, hl_p_85_27, hl_p_85_28, hl_p_85_29, hl_p_85_30, hl_p_85_31, hl_p_85_33, hl_p_85_34, hl_p_85_35, hl_p_85_36, hl_p_85_37, hl_a_90, hl_z_90, e, y', h3a, n0, eb, bn, cq, g5, z', rk', hl_s151, i, hl_tv_f, hl_tl_s, hl_kill_i, hl_kill_r, hl_kill_n, hl_kill_l, hl_tl_s, hl_tl_n, hl_cal_some, hl_gI, hl_gJ, hl_gsI, hl_gsJ, hl_tv01, if_true, if_false, not_true, not_false_eq_true, hl_10, or_true, true_or]
  · have y' : (nI (hx_ko b P) = (41 : Int32)) = False := by rw [ek]; exact eq_false y
    rw [decide_eq_false y, Bool.false_and, hl_tv_f]
    simp only [hl_r185_0, hl_r185_1, hl_r185_2, hl_r185_5, hl_r185_7, hl_r185_10, hl_r185_11, hl_r185_14, hl_r185_17, hl_r185_18, hl_r185_21, hl_r185_22, hl_r185_25, hl_r185_26, hl_r185_27, hl_r185_28, hl_r185_30, hl_r185_33, hl_r185_34, hl_r185_37, hl_r185_38, hl_r185_41, hl_r185_42, hl_r185_43, hl_r185_44, hl_r185_47, hl_r185_48, hl_r185_49, hl_r185_52, hl_r185_55, hl_r185_56, hl_r185_59, hl_r185_60, hl_o_85, hl_p_85_3, hl_p_85_4, hl_p_85_5, hl_p_85_6, hl_p_85_19, hl_p_85_23, hl_p_85_24, hl_p_85_25, hl_p_85_26, hl_p_85_27, hl_p_85_28, hl_p_85_29, hl_p_85_30, hl_p_85_31, hl_p_85_33, hl_p_85_34, hl_p_85_35, hl_p_85_36, hl_p_85_37, hl_a_90, hl_z_90, e, y', hl_tl_s, hl_kill_i, hl_kill_r, hl_kill_n, hl_kill_l, hl_tl_s, hl_tl_n, hl_cal_some, hl_gI, hl_gJ, hl_gsI, hl_gsJ, hl_tv01, if_true, if_false, not_true, not_false_eq_true, hl_10, or_true, true_or]
end HXRSET
