/-! the reference's least: chosen hours, empty rows -/
section HLRN
variable {d N m G nh cn nd : Nat} {I I' : Nat → Nat → Int32} {J J' : Nat → Nat → Int64} {C : (Nat → Bool) → Int} {Bd : Int} {al : Nat → Nat}
theorem hl_s226 {ga gb : Nat → Nat} {wt : Nat → Nat → Int} (h4 : m ≤ 4) (h1 : 1 ≤ m) (hG : G ≤ 24) (hN : N ≤ 24) (hcn : cn ≤ 40) (end_ : nd = 2 + G * (m - 1)) (hn74 : nd ≤ 74) (hm : I 85 32 = nI m) (hc : I 86 1 = nI cn) (hal : ∀ k, k < m → I 99 k = nI (al k) ∧ al k < 4) (hgr : ∀ t, t < cn → ∃ a b, a < N ∧ b < N ∧ I 86 (200 + 3 * t) = nI a ∧ I 86 (200 + 3 * t + 1) = nI b ∧ I 100 a = nI (ga t) ∧ I 100 b = nI (gb t) ∧ ga t < G ∧ gb t < G) (hwt : ∀ t k, t < cn → k + 1 < m → ((I 86 (200 + 3 * t + 2)).toInt64 * (I 86 (10 + al (k + 1)) - I 86 (10 + al k)).toInt64).toInt = wt t k ∧ 0 ≤ wt t k ∧ wt t k ≤ 100000) (hW : hl_NR J Bd C) (hB : Bd + 64000000000000 ≤ 1000000000000000) : ∃ J', hl_call (d + 2) 226 [.ref 85] (hl_g N I J) = some (none, hl_g N I J') ∧ hl_NR J' (Bd + 64000000000000) (fun S => C S + hl_si cn (fun t => hl_si (m - 1) (hl_ct m (ga t) (gb t) (wt t) S))) ∧ ∀ q, q ≠ 96 → J' q = J q := by
  obtain ⟨J1, e1, W1, j1⟩ := hl_l226 (d := d) (N := N) h4 h1 hG hN hcn end_ hn74 hm hc hal hgr hwt cn J Bd C 0 .null .null .null .null .null (by omega) hW (by omega)
  refine ⟨J1, ?_, hl_NR_le W1 (by omega) (fun S => by show C S + (_ - 0) = _; rw [Int.sub_zero]), j1⟩
  have z0 : nI 0 = 0 := rfl
  rw [z0] at e1
  rw [← e1, hl_e226]
  simp only [hl_r226_0, hl_r226_1, hl_kill_r]
theorem hl_l230c {s : Int32} {c : hl_C} {l2 l3 : Value} {hv : Int32} (hn : nh ≤ 4) (f : Nat) : ∀ (I : Nat → Nat → Int32) (i : Nat), i + f = nh → I 86 0 = nI nh → I 85 32 = nI (hl_chs s i).2 → (∀ k, k < (hl_chs s i).2 → I 99 k = nI ((hl_chs s i).1 k)) → ∃ I', hl_Run 230 c 8 [.ref 85, .int s, l2, l3, .int hv, .int (nI i), .null, .null, .null, .null] [] (hl_g N I J) = hl_Run 230 c 58 [.ref 85, .int s, l2, l3, .int hv, .int (nI nh), .null, .null, .null, .null] [] (hl_g N I' J) ∧ I' 85 32 = nI (hl_chs s nh).2 ∧ (∀ k, k < (hl_chs s nh).2 → I' 99 k = nI ((hl_chs s nh).1 k)) ∧ (∀ b, b ≠ 85 → b ≠ 99 → I' b = I b) ∧ ∀ k, k ≠ 32 → I' 85 k = I 85 k := by
  have k0 : hl_inb (0 : Int32) 490 = true := id rfl
  induction f with
  | zero =>
    intro I i hi h1 h2 h3
    obtain rfl : i = nh := by omega
    refine ⟨I, ?_, h2, h3, fun _ _ _ => rfl, fun _ _ => rfl⟩
    simp only [hl_r230_8, hl_r230_10, hl_r230_11, hl_r230_14, hl_r230_15, hl_r230_16, hl_o_85, hl_p_85_3, hl_p_85_4, hl_p_85_5, hl_p_85_6, hl_p_85_19, hl_p_85_23, hl_p_85_24, hl_p_85_25, hl_p_85_26, hl_p_85_27, hl_p_85_28, hl_p_85_29, hl_p_85_30, hl_p_85_31, hl_p_85_33, hl_p_85_34, hl_p_85_35, hl_p_85_36, hl_p_85_37, hl_a_86, hl_z_86, k0, hl_v0, h1, Int32.le_refl, hl_kill_i, hl_kill_r, hl_kill_n, hl_kill_l, hl_tl_s, hl_tl_n, hl_cal_some, hl_gI, hl_gJ, hl_gsI, hl_gsJ, hl_tv01, if_true, if_false, hl_up_a, hl_row_a]
  | succ f ih =>
    intro I i hi h1 h2 h3
    have c1 : ¬ nI nh ≤ nI i := nI_ge (by omega) (by omega)
    have en : nI i + 1 = nI (i + 1) := (nI_succ i).symm
    have mle := (hl_chs_in (s := s) i).1
    by_cases q : (s >>> (nI i &&& 31)) &&& 1 = 0
    · have e1 : hl_chs s (i + 1) = hl_chs s i := if_pos q
      obtain ⟨I1, g1, g2, g3, g4, g5⟩ := ih I (i + 1) (by omega) h1 (by rw [e1]; exact h2) (by rw [e1]; exact h3)
      refine ⟨I1, ?_, g2, g3, g4, g5⟩
      rw [← g1, hl_r230_8]
      simp only [hl_r230_10, hl_r230_11, hl_r230_14, hl_r230_15, hl_r230_16, hl_r230_19, hl_r230_20, hl_r230_22, hl_r230_23, hl_r230_24, hl_r230_25, hl_r230_28, hl_r230_31, hl_r230_32, hl_r230_35, hl_r230_36, hl_r230_39, hl_r230_41, hl_r230_42, hl_r230_43, hl_r230_44, hl_r230_47, hl_r230_48, hl_r230_49, hl_r230_52, hl_r230_55, hl_o_85, hl_p_85_3, hl_p_85_4, hl_p_85_5, hl_p_85_6, hl_p_85_19, hl_p_85_23, hl_p_85_24, hl_p_85_25, hl_p_85_26, hl_p_85_27, hl_p_85_28, hl_p_85_29, hl_p_85_30, hl_p_85_31, hl_p_85_33, hl_p_85_34, hl_p_85_35, hl_p_85_36, hl_p_85_37, hl_a_86, hl_z_86, k0, hl_v0, h1, c1, q, not_true, en, hl_kill_i, hl_kill_r, hl_kill_n, hl_kill_l, hl_tl_s, hl_tl_n, hl_cal_some, hl_gI, hl_gJ, hl_gsI, hl_gsJ, hl_tv01, if_true, if_false, hl_up_a, hl_row_a]
      try rw [hl_r230_8]
    · have e1 : hl_chs s (i + 1) = (hl_us (hl_chs s i).1 (hl_chs s i).2 i, (hl_chs s i).2 + 1) := if_neg q
      generalize hl_chs s i = st at h2 h3 e1 mle
      have ec : nI st.2 + 1 = nI (st.2 + 1) := (nI_succ st.2).symm
      have b4 : hl_inb (nI st.2) 4 = true := hl_inb_nI (by omega) (by decide)
      have n9 : ((85 : Nat) = 99) = False := by decide
      obtain ⟨I1, g1, g2, g3, g4, g5⟩ := ih (hl_up (hl_up I 99 st.2 (nI i)) 85 32 (nI (st.2 + 1))) (i + 1) (by omega) (by rw [hl_up_ne _ _ _ (by decide), hl_up_ne _ _ _ (by decide)]; exact h1) (by rw [e1]; exact hl_up_at) (fun k hk => by
        rw [e1] at hk ⊢
        have hk' : k < st.2 + 1 := hk
        rw [hl_up_ne _ _ _ (by decide), hl_up_a, if_pos rfl]
        show (if k = st.2 then nI i else I 99 k) = nI (if k = st.2 then i else st.1 k)
        by_cases z : k = st.2
        · rw [if_pos z, if_pos z]
        · rw [if_neg z, if_neg z]; exact h3 k (by omega))
      refine ⟨I1, ?_, g2, g3, fun b b1 b2 => by rw [g4 b b1 b2, hl_up_ne _ _ _ b1, hl_up_ne _ _ _ b2], fun k hk => ?_⟩
      · rw [← g1, hl_r230_8]
        simp only [hl_r230_10, hl_r230_11, hl_r230_14, hl_r230_15, hl_r230_16, hl_r230_19, hl_r230_20, hl_r230_22, hl_r230_23, hl_r230_24, hl_r230_25, hl_r230_28, hl_r230_31, hl_r230_32, hl_r230_35, hl_r230_36, hl_r230_39, hl_r230_41, hl_r230_42, hl_r230_43, hl_r230_44, hl_r230_47, hl_r230_48, hl_r230_49, hl_r230_52, hl_r230_55, hl_o_85, hl_p_85_3, hl_p_85_4, hl_p_85_5, hl_p_85_6, hl_p_85_19, hl_p_85_23, hl_p_85_24, hl_p_85_25, hl_p_85_26, hl_p_85_27, hl_p_85_28, hl_p_85_29, hl_p_85_30, hl_p_85_31, hl_p_85_33, hl_p_85_34, hl_p_85_35, hl_p_85_36, hl_p_85_37, hl_a_86, hl_z_86, hl_a_99, hl_z_99, k0, hl_v0, h1, h2, c1, q, not_false_eq_true, b4, hl_cq (show st.2 < 10000 by omega), n9, ec, en, hl_kill_i, hl_kill_r, hl_kill_n, hl_kill_l, hl_tl_s, hl_tl_n, hl_cal_some, hl_gI, hl_gJ, hl_gsI, hl_gsJ, hl_tv01, if_true, if_false, hl_up_a, hl_row_a]
        try rw [hl_r230_8]
      · rw [g5 k hk, hl_up_a, if_pos rfl, if_neg hk, hl_up_ne _ _ _ (by decide)]
theorem hl_NR_0 (h : ∀ p, p < 5476 → J 96 p = 0) : hl_NR J 0 (fun _ => 0) := by
  refine ⟨fun _ => 0, fun p hp => ⟨by rw [h p hp]; rfl, Int.le_refl 0, Int.le_refl 0⟩, fun S => hl_si_z 5476 (fun k _ => ?_)⟩
  unfold hl_fs
  split <;> rfl
theorem hl_l230z {c : hl_C} {l1 l2 l3 l4 l7 l8 l9 : Value} {gv : Int32} (f : Nat) : ∀ (J : Nat → Nat → Int64) (i : Nat), i + f = 5476 → ∃ J', hl_Run 230 c 225 [.ref 85, l1, l2, l3, l4, .int gv, .int (nI i), l7, l8, l9] [] (hl_g N I J) = hl_Run 230 c 247 [.ref 85, l1, l2, l3, l4, .int gv, .int (nI 5476), l7, l8, l9] [] (hl_g N I J') ∧ (∀ q, q < i → J' 96 q = J 96 q) ∧ (∀ q, i ≤ q → q < 5476 → J' 96 q = 0) ∧ ∀ q, q ≠ 96 → J' q = J q := by
  induction f with
  | zero =>
    intro J i hi
    obtain rfl : i = 5476 := by omega
    refine ⟨J, ?_, fun _ _ => rfl, fun q h1 h2 => by omega, fun _ _ => rfl⟩
    have c1 : (5476 : Int32) ≤ nI 5476 := Int32.le_refl _
    simp only [hl_r230_225, hl_r230_227, hl_r230_230, c1, hl_kill_i, hl_kill_r, hl_kill_n, hl_kill_l, hl_tl_s, hl_tl_n, hl_cal_some, hl_gI, hl_gJ, hl_gsI, hl_gsJ, hl_tv01, if_true, if_false, hl_up_a, hl_row_a]
  | succ f ih =>
    intro J i hi
    have c1 : ¬ (5476 : Int32) ≤ nI i := show ¬ nI 5476 ≤ nI i from nI_ge (by omega) (by omega)
    have en : nI i + 1 = nI (i + 1) := (nI_succ i).symm
    have bi : hl_inb (nI i) 5476 = true := hl_inb_nI (by omega) (by decide)
    obtain ⟨J1, e1, g1, g2, g3⟩ := ih (hl_up J 96 i 0) (i + 1) (by omega)
    refine ⟨J1, ?_, fun q hq => by rw [g1 q (by omega), hl_up_a, if_pos rfl, if_neg (by omega)], fun q h1 h2 => ?_, fun q hq => by rw [g3 q hq, hl_up_ne _ _ _ hq]⟩
    · rw [← e1, hl_r230_225]
      simp only [hl_r230_227, hl_r230_230, hl_r230_233, hl_r230_234, hl_r230_237, hl_r230_239, hl_r230_240, hl_r230_241, hl_r230_244, hl_o_85, hl_p_85_3, hl_p_85_4, hl_p_85_5, hl_p_85_6, hl_p_85_19, hl_p_85_23, hl_p_85_24, hl_p_85_25, hl_p_85_26, hl_p_85_27, hl_p_85_28, hl_p_85_29, hl_p_85_30, hl_p_85_31, hl_p_85_33, hl_p_85_34, hl_p_85_35, hl_p_85_36, hl_p_85_37, hl_a_96, hl_z_96, c1, bi, hl_cq (show i < 10000 by omega), en, hl_kill_i, hl_kill_r, hl_kill_n, hl_kill_l, hl_tl_s, hl_tl_n, hl_cal_some, hl_gI, hl_gJ, hl_gsI, hl_gsJ, hl_tv01, if_true, if_false, hl_up_a, hl_row_a]
      try rw [hl_r230_225]
    · by_cases z : q = i
      · rw [z, g1 i (by omega)]; exact hl_up_at
      · exact g2 q (by omega) h2
theorem hl_l230y {c : hl_C} {l1 l2 l3 l4 l7 l8 l9 : Value} {gv : Int32} (f : Nat) : ∀ (J : Nat → Nat → Int64) (i : Nat), i + f = 96 → ∃ J', hl_Run 230 c 68 [.ref 85, l1, l2, l3, l4, .int gv, .int (nI i), l7, l8, l9] [] (hl_g N I J) = hl_Run 230 c 89 [.ref 85, l1, l2, l3, l4, .int gv, .int (nI 96), l7, l8, l9] [] (hl_g N I J') ∧ (∀ q, q < i → J' 101 q = J 101 q) ∧ (∀ q, i ≤ q → q < 96 → J' 101 q = 0) ∧ ∀ q, q ≠ 101 → J' q = J q := by
  induction f with
  | zero =>
    intro J i hi
    obtain rfl : i = 96 := by omega
    refine ⟨J, ?_, fun _ _ => rfl, fun q h1 h2 => by omega, fun _ _ => rfl⟩
    have c1 : (96 : Int32) ≤ nI 96 := Int32.le_refl _
    simp only [hl_r230_68, hl_r230_70, hl_r230_72, c1, hl_kill_i, hl_kill_r, hl_kill_n, hl_kill_l, hl_tl_s, hl_tl_n, hl_cal_some, hl_gI, hl_gJ, hl_gsI, hl_gsJ, hl_tv01, if_true, if_false, hl_up_a, hl_row_a]
  | succ f ih =>
    intro J i hi
    have c1 : ¬ (96 : Int32) ≤ nI i := show ¬ nI 96 ≤ nI i from nI_ge (by omega) (by omega)
    have en : nI i + 1 = nI (i + 1) := (nI_succ i).symm
    have bi : hl_inb (nI i) 96 = true := hl_inb_nI (by omega) (by decide)
    obtain ⟨J1, e1, g1, g2, g3⟩ := ih (hl_up J 101 i 0) (i + 1) (by omega)
    refine ⟨J1, ?_, fun q hq => by rw [g1 q (by omega), hl_up_a, if_pos rfl, if_neg (by omega)], fun q h1 h2 => ?_, fun q hq => by rw [g3 q hq, hl_up_ne _ _ _ hq]⟩
    · rw [← e1, hl_r230_68]
      simp only [hl_r230_70, hl_r230_72, hl_r230_75, hl_r230_76, hl_r230_79, hl_r230_81, hl_r230_82, hl_r230_83, hl_r230_86, hl_o_85, hl_p_85_3, hl_p_85_4, hl_p_85_5, hl_p_85_6, hl_p_85_19, hl_p_85_23, hl_p_85_24, hl_p_85_25, hl_p_85_26, hl_p_85_27, hl_p_85_28, hl_p_85_29, hl_p_85_30, hl_p_85_31, hl_p_85_33, hl_p_85_34, hl_p_85_35, hl_p_85_36, hl_p_85_37, hl_a_101, hl_z_101, c1, bi, hl_cq (show i < 10000 by omega), en, hl_kill_i, hl_kill_r, hl_kill_n, hl_kill_l, hl_tl_s, hl_tl_n, hl_cal_some, hl_gI, hl_gJ, hl_gsI, hl_gsJ, hl_tv01, if_true, if_false, hl_up_a, hl_row_a]
      try rw [hl_r230_68]
    · by_cases z : q = i
      · rw [z, g1 i (by omega)]; exact hl_up_at
      · exact g2 q (by omega) h2
end HLRN
