/-! the reference's chains and ties -/
theorem hl_i3t0 {t : Nat} : (200 : Int32) + 3 * nI t = nI (200 + 3 * t) := by
  have e : (200 : Int32) = nI 200 := rfl
  have e3 : (3 : Int32) = nI 3 := rfl
  rw [e, e3, nI_mul, nI_add]
theorem hl_i3t1 {t : Nat} : nI (200 + 3 * t) + 1 = nI (200 + 3 * t + 1) := (nI_succ _).symm
theorem hl_i3t2 {t : Nat} : nI (200 + 3 * t) + 2 = nI (200 + 3 * t + 2) := by
  have e : (2 : Int32) = nI 2 := rfl
  rw [e, nI_add]
section HLRT
variable {d N m G nh cn nd : Nat} {I I' : Nat → Nat → Int32} {J J' : Nat → Nat → Int64} {C : (Nat → Bool) → Int} {Bd : Int} {al : Nat → Nat}
theorem hl_s225 {g : Nat} (h4 : m ≤ 4) (hg : g < G) (hG : G ≤ 24) (end_ : nd = 2 + G * (m - 1)) (hn74 : nd ≤ 74) (gp : Nat → Int) (hm : I 85 32 = nI m) (hW : hl_NR J Bd C) (hB : Bd + 1600000000000 ≤ 1000000000000000) (hgp : ∀ k, k < m → (J 101 (4 * g + k)).toInt = gp (4 * g + k) ∧ 0 ≤ gp (4 * g + k) ∧ gp (4 * g + k) ≤ 100000000000) : ∃ J', hl_call (d + 2) 225 [.ref 85, .int (nI g)] (hl_g N I J) = some (none, hl_g N I J') ∧ hl_NR J' (Bd + 1600000000000) (fun S => C S + hl_si m (hl_ch 40000000000 m gp g S)) ∧ ∀ q, q ≠ 96 → J' q = J q := by
  obtain ⟨J1, e1, W1, j1⟩ := hl_l225 (d := d) (N := N) h4 hg hG end_ hn74 gp hm m J Bd C 0 .null .null (by omega) hW (by omega) hgp
  refine ⟨J1, ?_, hl_NR_le W1 (by omega) (fun S => by show C S + (_ - 0) = _; rw [Int.sub_zero]), j1⟩
  rw [← e1, hl_e225]
  simp only [hl_r225_0, hl_r225_1, hl_kill_i, hl_kill_r, hl_kill_n, hl_kill_l, hl_tl_s, hl_tl_n, hl_cal_some, hl_gI, hl_gJ, hl_gsI, hl_gsJ, hl_tv01, if_true, if_false, hl_up_a, hl_row_a]
  rfl
theorem hl_l226j {t ga gb : Nat} {wt : Nat → Int} (h4 : m ≤ 4) (h1 : 1 ≤ m) (hga : ga < G) (hgb : gb < G) (hG : G ≤ 24) (ht : t < 40) (end_ : nd = 2 + G * (m - 1)) (hn74 : nd ≤ 74) (hne : ¬ ga = gb) (hm : I 85 32 = nI m) (hal : ∀ k, k < m → I 99 k = nI (al k) ∧ al k < 4) (hwt : ∀ k, k + 1 < m → ((I 86 (200 + 3 * t + 2)).toInt64 * (I 86 (10 + al (k + 1)) - I 86 (10 + al k)).toInt64).toInt = wt k ∧ 0 ≤ wt k ∧ wt k ≤ 100000) (f : Nat) : ∀ (J : Nat → Nat → Int64) (Bd : Int) (C : (Nat → Bool) → Int) (k : Nat) (l5 l6 : Value), k + f = m - 1 → hl_NR J Bd C → Bd + (f : Int) * 400000000000 ≤ 1000000000000000 → ∃ J' l5' l6', hl_Run 226 (hl_call (d + 1)) 61 [.ref 85, .int (nI t), .int (nI ga), .int (nI gb), .int (nI k), l5, l6] [] (hl_g N I J) = hl_Run 226 (hl_call (d + 1)) 162 [.ref 85, .int (nI t), .int (nI ga), .int (nI gb), .int (nI (m - 1)), l5', l6'] [] (hl_g N I J') ∧ hl_NR J' (Bd + (f : Int) * 400000000000) (fun S => C S + (hl_si (m - 1) (hl_ct m ga gb wt S) - hl_si k (hl_ct m ga gb wt S))) ∧ ∀ q, q ≠ 96 → J' q = J q := by
  have em1 : nI m - 1 = nI (m - 1) := hl_nsb (by omega)
  induction f with
  | zero =>
    intro J Bd C k l5 l6 hk hW hB
    obtain rfl : k = m - 1 := by omega
    refine ⟨J, l5, l6, ?_, hl_NR_le hW (by omega) (fun S => by rw [Int.sub_self, Int.add_zero]), fun _ _ => rfl⟩
    simp only [hl_r226_61, hl_r226_63, hl_r226_64, hl_r226_67, hl_r226_68, hl_r226_69, hl_o_85, hl_p_85_3, hl_p_85_4, hl_p_85_5, hl_p_85_6, hl_p_85_19, hl_p_85_23, hl_p_85_24, hl_p_85_25, hl_p_85_26, hl_p_85_27, hl_p_85_28, hl_p_85_29, hl_p_85_30, hl_p_85_31, hl_p_85_33, hl_p_85_34, hl_p_85_35, hl_p_85_36, hl_p_85_37, hm, em1, Int32.le_refl, hl_kill_i, hl_kill_r, hl_kill_n, hl_kill_l, hl_tl_s, hl_tl_n, hl_cal_some, hl_gI, hl_gJ, hl_gsI, hl_gsJ, hl_tv01, if_true, if_false, hl_up_a, hl_row_a]
  | succ f ih =>
    intro J Bd C k l5 l6 hk hW hB
    have c1 : ¬ nI (m - 1) ≤ nI k := nI_ge (by omega) (by omega)
    have en : nI k + 1 = nI (k + 1) := (nI_succ k).symm
    have e4 : ((f + 1 : Nat) : Int) * 400000000000 = (f : Int) * 400000000000 + 400000000000 := by omega
    rw [e4] at hB ⊢
    obtain ⟨p1, p2, p3⟩ := hwt k (by omega)
    obtain ⟨a1, a2⟩ := hal k (by omega)
    obtain ⟨a3, a4⟩ := hal (k + 1) (by omega)
    generalize hv : (I 86 (200 + 3 * t + 2)).toInt64 * (I 86 (10 + al (k + 1)) - I 86 (10 + al k)).toInt64 = v at p1
    have lu : hl_nd m ga (k + 1) < 74 := by have := hl_nd_lt (m := m) (k := k + 1) hga end_; omega
    have lv : hl_nd m gb (k + 1) < 74 := by have := hl_nd_lt (m := m) (k := k + 1) hgb end_; omega
    obtain ⟨J1, e1, W1, j1⟩ := hl_s224 (d := d) (N := N) (I := I) (t := v) hW lu lv (by omega) (by omega) (by omega)
    obtain ⟨J2, e2, W2, j2⟩ := hl_s224 (d := d) (N := N) (I := I) (t := v) W1 lv lu (by omega) (by omega) (by omega)
    obtain ⟨J3, m5, m6, e3, W3, j3⟩ := ih J2 _ _ (k + 1) (.long v) .null (by omega) W2 (by omega)
    refine ⟨J3, m5, m6, ?_, hl_NR_le W3 (by omega) (fun S => ?_), fun q hq => by rw [j3 q hq, j2 q hq, j1 q hq]⟩
    · have b1 : hl_inb (nI (k + 1)) 4 = true := hl_inb_nI (by omega) (by decide)
      have b2 : hl_inb (nI k) 4 = true := hl_inb_nI (by omega) (by decide)
      have b5 : hl_inb (nI (200 + 3 * t + 2)) 490 = true := hl_inb_nI (by omega) (by decide)
      have sA := hl_s156 (d := d) (N := N) (I := I) (J := J) (h := al (k + 1)) (by omega)
      have sB := hl_s156 (d := d) (N := N) (I := I) (J := J) (h := al k) (by omega)
      have n1 := fun J => hl_s223 (d := d) (N := N) (I := I) (J := J) (g := ga) (k := k) hm (by omega)
      have n2 := fun J => hl_s223 (d := d) (N := N) (I := I) (J := J) (g := gb) (k := k) hm (by omega)
      rw [← e3, hl_r226_61]
      simp only [hl_r226_63, hl_r226_64, hl_r226_67, hl_r226_68, hl_r226_69, hl_r226_72, hl_r226_73, hl_r226_76, hl_r226_79, hl_r226_80, hl_r226_81, hl_r226_82, hl_r226_83, hl_r226_84, hl_r226_85, hl_r226_86, hl_r226_87, hl_r226_88, hl_r226_89, hl_r226_92, hl_r226_94, hl_r226_95, hl_r226_96, hl_r226_97, hl_r226_100, hl_r226_101, hl_r226_102, hl_r226_105, hl_r226_107, hl_r226_108, hl_r226_111, hl_r226_112, hl_r226_113, hl_r226_114, hl_r226_116, hl_r226_117, hl_r226_118, hl_r226_119, hl_r226_121, hl_r226_124, hl_r226_125, hl_r226_126, hl_r226_128, hl_r226_131, hl_r226_133, hl_r226_136, hl_r226_137, hl_r226_138, hl_r226_139, hl_r226_141, hl_r226_144, hl_r226_145, hl_r226_146, hl_r226_148, hl_r226_151, hl_r226_153, hl_r226_156, hl_r226_159, hl_o_85, hl_p_85_3, hl_p_85_4, hl_p_85_5, hl_p_85_6, hl_p_85_19, hl_p_85_23, hl_p_85_24, hl_p_85_25, hl_p_85_26, hl_p_85_27, hl_p_85_28, hl_p_85_29, hl_p_85_30, hl_p_85_31, hl_p_85_33, hl_p_85_34, hl_p_85_35, hl_p_85_36, hl_p_85_37, hl_a_86, hl_z_86, hl_a_99, hl_z_99, hm, em1, c1, hl_i3t0, hl_i3t2, b1, b2, b5, hl_cq (show 200 + 3 * t + 2 < 10000 by omega), hl_cq (show k + 1 < 10000 by omega), hl_cq (show k < 10000 by omega), a1, a3, sA, sB, hv, n1, n2, e1, e2, en, hl_kill_i, hl_kill_r, hl_kill_n, hl_kill_l, hl_tl_s, hl_tl_n, hl_cal_some, hl_gI, hl_gJ, hl_gsI, hl_gsJ, hl_tv01, if_true, if_false, hl_up_a, hl_row_a]
      try rw [hl_r226_61]
    · show C S + hl_fs S _ _ _ + hl_fs S _ _ _ + (hl_si (m - 1) _ - (hl_si k (hl_ct m ga gb wt S) + (if ga = gb then 0 else hl_fs S (hl_nd m ga (k + 1)) (hl_nd m gb (k + 1)) (wt k) + hl_fs S (hl_nd m gb (k + 1)) (hl_nd m ga (k + 1)) (wt k)))) = _
      rw [if_neg hne, p1]
      omega
theorem hl_l226 {ga gb : Nat → Nat} {wt : Nat → Nat → Int} (h4 : m ≤ 4) (h1 : 1 ≤ m) (hG : G ≤ 24) (hN : N ≤ 24) (hcn : cn ≤ 40) (end_ : nd = 2 + G * (m - 1)) (hn74 : nd ≤ 74) (hm : I 85 32 = nI m) (hc : I 86 1 = nI cn) (hal : ∀ k, k < m → I 99 k = nI (al k) ∧ al k < 4) (hgr : ∀ t, t < cn → ∃ a b, a < N ∧ b < N ∧ I 86 (200 + 3 * t) = nI a ∧ I 86 (200 + 3 * t + 1) = nI b ∧ I 100 a = nI (ga t) ∧ I 100 b = nI (gb t) ∧ ga t < G ∧ gb t < G) (hwt : ∀ t k, t < cn → k + 1 < m → ((I 86 (200 + 3 * t + 2)).toInt64 * (I 86 (10 + al (k + 1)) - I 86 (10 + al k)).toInt64).toInt = wt t k ∧ 0 ≤ wt t k ∧ wt t k ≤ 100000) (f : Nat) : ∀ (J : Nat → Nat → Int64) (Bd : Int) (C : (Nat → Bool) → Int) (t : Nat) (l2 l3 l4 l5 l6 : Value), t + f = cn → hl_NR J Bd C → Bd + (f : Int) * 1600000000000 ≤ 1000000000000000 → ∃ J', hl_Run 226 (hl_call (d + 1)) 2 [.ref 85, .int (nI t), l2, l3, l4, l5, l6] [] (hl_g N I J) = some (none, hl_g N I J') ∧ hl_NR J' (Bd + (f : Int) * 1600000000000) (fun S => C S + (hl_si cn (fun t => hl_si (m - 1) (hl_ct m (ga t) (gb t) (wt t) S)) - hl_si t (fun t => hl_si (m - 1) (hl_ct m (ga t) (gb t) (wt t) S)))) ∧ ∀ q, q ≠ 96 → J' q = J q := by
  have k1 : hl_inb (1 : Int32) 490 = true := id rfl
  induction f with
  | zero =>
    intro J Bd C t l2 l3 l4 l5 l6 ht hW hB
    obtain rfl : t = cn := by omega
    refine ⟨J, ?_, hl_NR_le hW (by omega) (fun S => by rw [Int.sub_self, Int.add_zero]), fun _ _ => rfl⟩
    simp only [hl_r226_2, hl_r226_3, hl_r226_4, hl_r226_7, hl_r226_8, hl_r226_9, hl_r226_168, hl_o_85, hl_p_85_3, hl_p_85_4, hl_p_85_5, hl_p_85_6, hl_p_85_19, hl_p_85_23, hl_p_85_24, hl_p_85_25, hl_p_85_26, hl_p_85_27, hl_p_85_28, hl_p_85_29, hl_p_85_30, hl_p_85_31, hl_p_85_33, hl_p_85_34, hl_p_85_35, hl_p_85_36, hl_p_85_37, hl_a_86, hl_z_86, k1, hl_v1, hc, Int32.le_refl, hl_kill_i, hl_kill_r, hl_kill_n, hl_kill_l, hl_tl_s, hl_tl_n, hl_cal_some, hl_gI, hl_gJ, hl_gsI, hl_gsJ, hl_tv01, if_true, if_false, hl_up_a, hl_row_a]
  | succ f ih =>
    intro J Bd C t l2 l3 l4 l5 l6 ht hW hB
    have c1 : ¬ nI cn ≤ nI t := nI_ge (by omega) (by omega)
    have en : nI t + 1 = nI (t + 1) := (nI_succ t).symm
    have e4 : ((f + 1 : Nat) : Int) * 1600000000000 = (f : Int) * 1600000000000 + 1600000000000 := by omega
    rw [e4] at hB ⊢
    obtain ⟨a, b, a1, b1, ta, tb, qa, qb, la, lb⟩ := hgr t (by omega)
    have b5 : hl_inb (nI (200 + 3 * t)) 490 = true := hl_inb_nI (by omega) (by decide)
    have b6 : hl_inb (nI (200 + 3 * t + 1)) 490 = true := hl_inb_nI (by omega) (by decide)
    have ba : hl_inb (nI a) 24 = true := hl_inb_nI (by omega) (by decide)
    have bb : hl_inb (nI b) 24 = true := hl_inb_nI (by omega) (by decide)
    have si1 : ∀ S, hl_si (t + 1) (fun t => hl_si (m - 1) (hl_ct m (ga t) (gb t) (wt t) S)) = hl_si t (fun t => hl_si (m - 1) (hl_ct m (ga t) (gb t) (wt t) S)) + hl_si (m - 1) (hl_ct m (ga t) (gb t) (wt t) S) := fun S => rfl
    by_cases z : ga t = gb t
    · obtain ⟨J3, e3, W3, j3⟩ := ih J Bd C (t + 1) (.int (nI (ga t))) (.int (nI (gb t))) l4 l5 l6 (by omega) hW (by omega)
      refine ⟨J3, ?_, hl_NR_le W3 (by omega) (fun S => ?_), j3⟩
      · have zz : nI (ga t) = nI (gb t) := by rw [z]
        rw [← e3, hl_r226_2]
        simp only [hl_r226_3, hl_r226_4, hl_r226_7, hl_r226_8, hl_r226_9, hl_r226_12, hl_r226_13, hl_r226_16, hl_r226_17, hl_r226_20, hl_r226_23, hl_r226_24, hl_r226_25, hl_r226_26, hl_r226_27, hl_r226_28, hl_r226_29, hl_r226_30, hl_r226_31, hl_r226_34, hl_r226_35, hl_r226_38, hl_r226_41, hl_r226_42, hl_r226_43, hl_r226_44, hl_r226_45, hl_r226_46, hl_r226_47, hl_r226_48, hl_r226_49, hl_r226_50, hl_r226_51, hl_r226_52, hl_r226_55, hl_r226_162, hl_r226_165, hl_o_85, hl_p_85_3, hl_p_85_4, hl_p_85_5, hl_p_85_6, hl_p_85_19, hl_p_85_23, hl_p_85_24, hl_p_85_25, hl_p_85_26, hl_p_85_27, hl_p_85_28, hl_p_85_29, hl_p_85_30, hl_p_85_31, hl_p_85_33, hl_p_85_34, hl_p_85_35, hl_p_85_36, hl_p_85_37, hl_a_86, hl_z_86, hl_a_100, hl_z_100, k1, hl_v1, hc, c1, hl_i3t0, hl_i3t1, b5, b6, ba, bb, hl_cq (show 200 + 3 * t < 10000 by omega), hl_cq (show 200 + 3 * t + 1 < 10000 by omega), hl_cq (show a < 10000 by omega), hl_cq (show b < 10000 by omega), ta, tb, qa, qb, zz, not_true, en, hl_kill_i, hl_kill_r, hl_kill_n, hl_kill_l, hl_tl_s, hl_tl_n, hl_cal_some, hl_gI, hl_gJ, hl_gsI, hl_gsJ, hl_tv01, if_true, if_false, hl_up_a, hl_row_a]
        try rw [hl_r226_2]
      · rw [si1 S, hl_si_z (f := hl_ct m (ga t) (gb t) (wt t) S) (m - 1) (fun k _ => by unfold hl_ct; exact if_pos z)]
        omega
    · obtain ⟨J1, m5, m6, e1, W1, j1⟩ := hl_l226j (d := d) (N := N) (wt := wt t) h4 h1 la lb hG (by omega) end_ hn74 z hm hal (fun k hk => hwt t k (by omega) hk) (m - 1) J Bd C 0 l5 l6 (by omega) hW (by omega)
      obtain ⟨J3, e3, W3, j3⟩ := ih J1 _ _ (t + 1) (.int (nI (ga t))) (.int (nI (gb t))) (.int (nI (m - 1))) m5 m6 (by omega) (hl_NR_le (Bd' := Bd + 1600000000000) W1 (by omega) (fun S => rfl)) (by omega)
      refine ⟨J3, ?_, hl_NR_le W3 (by omega) (fun S => ?_), fun q hq => by rw [j3 q hq, j1 q hq]⟩
      · have zz : ¬ nI (ga t) = nI (gb t) := fun q => z ((nI_eq (by omega) (by omega)).mp q)
        have z0 : nI 0 = 0 := rfl
        rw [z0] at e1
        have st : hl_Run 226 (hl_call (d + 1)) 2 [.ref 85, .int (nI t), l2, l3, l4, l5, l6] [] (hl_g N I J) = hl_Run 226 (hl_call (d + 1)) 61 [.ref 85, .int (nI t), .int (nI (ga t)), .int (nI (gb t)), .int 0, l5, l6] [] (hl_g N I J) := by
          simp only [hl_r226_2, hl_r226_3, hl_r226_4, hl_r226_7, hl_r226_8, hl_r226_9, hl_r226_12, hl_r226_13, hl_r226_16, hl_r226_17, hl_r226_20, hl_r226_23, hl_r226_24, hl_r226_25, hl_r226_26, hl_r226_27, hl_r226_28, hl_r226_29, hl_r226_30, hl_r226_31, hl_r226_34, hl_r226_35, hl_r226_38, hl_r226_41, hl_r226_42, hl_r226_43, hl_r226_44, hl_r226_45, hl_r226_46, hl_r226_47, hl_r226_48, hl_r226_49, hl_r226_50, hl_r226_51, hl_r226_52, hl_r226_55, hl_r226_58, hl_r226_59, hl_o_85, hl_p_85_3, hl_p_85_4, hl_p_85_5, hl_p_85_6, hl_p_85_19, hl_p_85_23, hl_p_85_24, hl_p_85_25, hl_p_85_26, hl_p_85_27, hl_p_85_28, hl_p_85_29, hl_p_85_30, hl_p_85_31, hl_p_85_33, hl_p_85_34, hl_p_85_35, hl_p_85_36, hl_p_85_37, hl_a_86, hl_z_86, hl_a_100, hl_z_100, k1, hl_v1, hc, c1, hl_i3t0, hl_i3t1, b5, b6, ba, bb, hl_cq (show 200 + 3 * t < 10000 by omega), hl_cq (show 200 + 3 * t + 1 < 10000 by omega), hl_cq (show a < 10000 by omega), hl_cq (show b < 10000 by omega), ta, tb, qa, qb, zz, not_false_eq_true, hl_kill_i, hl_kill_r, hl_kill_n, hl_kill_l, hl_tl_s, hl_tl_n, hl_cal_some, hl_gI, hl_gJ, hl_gsI, hl_gsJ, hl_tv01, if_true, if_false, hl_up_a, hl_row_a]
        rw [st, e1, ← e3]
        simp only [hl_r226_162, hl_r226_165, en, hl_kill_i, hl_kill_r, hl_kill_n, hl_kill_l, hl_tl_s, hl_tl_n, hl_cal_some, hl_gI, hl_gJ, hl_gsI, hl_gsJ, hl_tv01, if_true, if_false, hl_up_a, hl_row_a]
      · rw [si1 S]
        show C S + (hl_si (m - 1) _ - 0) + _ = _
        omega
end HLRT
