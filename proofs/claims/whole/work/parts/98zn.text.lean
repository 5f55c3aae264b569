/-! text: both methods -/
section HXTEXT
variable {d E N L p n a m nn T : Nat} {I I' : Nat → Nat → Int32} {J : Nat → Nat → Int64} {t : Nat → Nat} {A : List (Nat × Nat × List (Nat × Nat))}
theorem hx_s74 (hT : T < 4) : ∃ I', hl_call (d + 1) 74 [.ref (44 + 4 * T), .ref 39] (hl_g N I J) = some (none, hl_g N I' J) ∧ (∀ k, k < 300 → I' (45 + 4 * T) k = I 40 k) ∧ (∀ k, k < 3 → I' (46 + 4 * T) k = I 41 k ∧ I' (47 + 4 * T) k = I 42 k) ∧ ∀ b, ¬ (44 + 4 * T ≤ b ∧ b ≤ 47 + 4 * T) → I' b = I b := by
  have o := fun I => hl_txo (N := N) (I := I) (J := J) hT
  have o1 := fun I => (o I).1
  have o2 := fun I => (o I).2.1
  have o3 := fun I => (o I).2.2.1
  have o4 := fun I => (o I).2.2.2.1
  have o5 := fun I => (o I).2.2.2.2.1
  have o6 := fun I => (o I).2.2.2.2.2.1
  have o7 := fun I => (o I).2.2.2.2.2.2.1
  have o8 := fun I => (o I).2.2.2.2.2.2.2.1
  have o9 := fun I => (o I).2.2.2.2.2.2.2.2.1
  have o10 := fun I => (o I).2.2.2.2.2.2.2.2.2.1
  have z0 : ¬ (0 : Int32) < 0 := by decide
  have z3 : ¬ (3 : Int32) < 0 := by decide
  have z300 : ¬ (300 : Int32) < 0 := by decide
  have v300 : (300 : Int32).toNatClampNeg = 300 := by decide
  have e41 : hl_row I (45 + 4 * T) (va_cpy (I 40) (I (45 + 4 * T)) 0 0 300) 41 = I 41 := hl_row_ne _ _ (by omega)
  have e46 : hl_row I (45 + 4 * T) (va_cpy (I 40) (I (45 + 4 * T)) 0 0 300) (46 + 4 * T) = I (46 + 4 * T) := hl_row_ne _ _ (by omega)
  have c1 := hl_cpd_of (I := I) (a := 40) (b := 45 + 4 * T) (n := 300)
  have s74 : ∃ I', hl_call (d + 1) 74 [.ref (44 + 4 * T), .ref 39] (hl_g N I J) = some (none, hl_g N I' J) ∧ I' = hl_up (hl_row (hl_row (hl_row I (45 + 4 * T) (va_cpy (I 40) (I (45 + 4 * T)) 0 0 300)) (46 + 4 * T) (va_cpy (hl_row I (45 + 4 * T) (va_cpy (I 40) (I (45 + 4 * T)) 0 0 300) 41) (hl_row I (45 + 4 * T) (va_cpy (I 40) (I (45 + 4 * T)) 0 0 300) (46 + 4 * T)) 0 0 3)) (47 + 4 * T) (va_cpy (hl_row (hl_row I (45 + 4 * T) (va_cpy (I 40) (I (45 + 4 * T)) 0 0 300)) (46 + 4 * T) (va_cpy (hl_row I (45 + 4 * T) (va_cpy (I 40) (I (45 + 4 * T)) 0 0 300) 41) (hl_row I (45 + 4 * T) (va_cpy (I 40) (I (45 + 4 * T)) 0 0 300) (46 + 4 * T)) 0 0 3) 42) (hl_row (hl_row I (45 + 4 * T) (va_cpy (I 40) (I (45 + 4 * T)) 0 0 300)) (46 + 4 * T) (va_cpy (hl_row I (45 + 4 * T) (va_cpy (I 40) (I (45 + 4 * T)) 0 0 300) 41) (hl_row I (45 + 4 * T) (va_cpy (I 40) (I (45 + 4 * T)) 0 0 300) (46 + 4 * T)) 0 0 3) (47 + 4 * T)) 0 0 3)) (44 + 4 * T) 3 (hl_row (hl_row (hl_row I (45 + 4 * T) (va_cpy (I 40) (I (45 + 4 * T)) 0 0 300)) (46 + 4 * T) (va_cpy (hl_row I (45 + 4 * T) (va_cpy (I 40) (I (45 + 4 * T)) 0 0 300) 41) (hl_row I (45 + 4 * T) (va_cpy (I 40) (I (45 + 4 * T)) 0 0 300) (46 + 4 * T)) 0 0 3)) (47 + 4 * T) (va_cpy (hl_row (hl_row I (45 + 4 * T) (va_cpy (I 40) (I (45 + 4 * T)) 0 0 300)) (46 + 4 * T) (va_cpy (hl_row I (45 + 4 * T) (va_cpy (I 40) (I (45 + 4 * T)) 0 0 300) 41) (hl_row I (45 + 4 * T) (va_cpy (I 40) (I (45 + 4 * T)) 0 0 300) (46 + 4 * T)) 0 0 3) 42) (hl_row (hl_row I (45 + 4 * T) (va_cpy (I 40) (I (45 + 4 * T)) 0 0 300)) (46 + 4 * T) (va_cpy (hl_row I (45 + 4 * T) (va_cpy (I 40) (I (45 + 4 * T)) 0 0 300) 41) (hl_row I (45 + 4 * T) (va_cpy (I 40) (I (45 + 4 * T)) 0 0 300) (46 + 4 * T)) 0 0 3) (47 + 4 * T)) 0 0 3) 39 3) := by
    refine ⟨_, ?_, rfl⟩
    rw [hl_e74]
    simp only [hl_r74_0, hl_r74_1, hl_r74_4, hl_r74_5, hl_r74_6, hl_r74_9, hl_r74_10, hl_r74_13, hl_r74_16, hl_r74_17, hl_r74_20, hl_r74_21, hl_r74_22, hl_r74_25, hl_r74_26, hl_r74_27, hl_r74_30, hl_r74_31, hl_r74_34, hl_r74_35, hl_r74_36, hl_r74_39, hl_r74_40, hl_r74_41, hl_r74_44, hl_r74_45, hl_r74_46, hl_r74_49, hl_r74_52, hl_o_39, hl_p_39_0, hl_p_39_1, hl_p_39_2, hl_a_40, hl_z_40, hl_a_41, hl_z_41, hl_a_42, hl_z_42, o1, o2, o3, o4, o5, o6, o7, o8, o9, o10, z0, z3, z300, v300, hl_v0, hl_v3, hl_gcp, and_self, Nat.zero_add, Nat.le_refl, hl_kill_i, hl_kill_r, hl_kill_n, hl_kill_l, hl_tl_s, hl_tl_n, hl_cal_some, hl_gI, hl_gJ, hl_gsI, hl_gsJ, hl_tv01, if_true, if_false, not_true, not_false_eq_true, hl_10, or_true, true_or]
  obtain ⟨I', e', he⟩ := s74
  have cp2 := hl_cpd_of (I := hl_row I (45 + 4 * T) (va_cpy (I 40) (I (45 + 4 * T)) 0 0 300)) (a := 41) (b := 46 + 4 * T) (n := 3)
  generalize hl_row I (45 + 4 * T) (va_cpy (I 40) (I (45 + 4 * T)) 0 0 300) = X1 at he c1 cp2 e41 e46
  have cp3 := hl_cpd_of (I := hl_row X1 (46 + 4 * T) (va_cpy (X1 41) (X1 (46 + 4 * T)) 0 0 3)) (a := 42) (b := 47 + 4 * T) (n := 3)
  generalize hl_row X1 (46 + 4 * T) (va_cpy (X1 41) (X1 (46 + 4 * T)) 0 0 3) = X2 at he cp2 cp3
  generalize hl_row X2 (47 + 4 * T) (va_cpy (X2 42) (X2 (47 + 4 * T)) 0 0 3) = X3 at he cp3
  refine ⟨I', e', fun k hk => ?_, fun k hk => ⟨?_, ?_⟩, fun b hb => ?_⟩
  · rw [he, hl_up_ne _ _ _ (by omega), cp3.1 _ (by omega), cp2.1 _ (by omega), c1.2 k hk]
  · rw [he, hl_up_ne _ _ _ (by omega), cp3.1 _ (by omega), cp2.2 k hk, c1.1 41 (by omega)]
  · rw [he, hl_up_ne _ _ _ (by omega), cp3.2 k hk, cp2.1 42 (by omega), c1.1 42 (by omega)]
  · rw [he, hl_up_ne _ _ _ (by omega), cp3.1 b (by omega), cp2.1 b (by omega), c1.1 b (by omega)]
end HXTEXT
