/-! the parter's ties and chosen hours -/
/-- the hours of a set -/
def hl_chs (s : Int32) : Nat → (Nat → Nat) × Nat
  | 0 => (fun _ => 0, 0)
  | n + 1 => if (s >>> (nI n &&& 31)) &&& 1 = 0 then hl_chs s n else (hl_us (hl_chs s n).1 (hl_chs s n).2 n, (hl_chs s n).2 + 1)
theorem hl_chs_in {s : Int32} (n : Nat) : (hl_chs s n).2 ≤ n ∧ (∀ k, k < (hl_chs s n).2 → (hl_chs s n).1 k < n) ∧ ∀ j k, j < k → k < (hl_chs s n).2 → (hl_chs s n).1 j < (hl_chs s n).1 k := by
  induction n with
  | zero => exact ⟨Nat.le_refl 0, fun k hk => absurd hk (Nat.not_lt_zero k), fun j k _ hk => absurd hk (Nat.not_lt_zero k)⟩
  | succ n ih =>
    obtain ⟨a, b, c⟩ := ih
    unfold hl_chs
    by_cases q : (s >>> (nI n &&& 31)) &&& 1 = 0
    · rw [if_pos q]
      exact ⟨by omega, fun k hk => by have := b k hk; omega, c⟩
    · rw [if_neg q]
      generalize (hl_chs s n).1 = al at b c ⊢
      generalize (hl_chs s n).2 = ct at a b c ⊢
      have at1 : hl_us al ct n ct = n := if_pos rfl
      have ne : ∀ k, k < ct → hl_us al ct n k = al k := fun k hk => if_neg (by omega)
      refine ⟨by show ct + 1 ≤ n + 1; omega, fun k hk => ?_, fun j k hj hk => ?_⟩
      · have hk' : k < ct + 1 := hk
        show hl_us al ct n k < n + 1
        by_cases z : k = ct
        · rw [z, at1]; omega
        · rw [ne k (by omega)]; have := b k (by omega); omega
      · have hk' : k < ct + 1 := hk
        show hl_us al ct n j < hl_us al ct n k
        by_cases z : k = ct
        · rw [z, at1, ne j (by omega)]; exact b j (by omega)
        · rw [ne k (by omega), ne j (by omega)]; exact c j k hj (by omega)
theorem hl_n6878 : ((68 : Nat) = 78) = False := by decide
section HLTIE
variable {d N m G nh : Nat} {I I' : Nat → Nat → Int32} {J J' : Nat → Nat → Int64} {nd np : Nat} {C : (Nat → Bool) → Int}
theorem hl_l27 {s : Int32} {c : hl_C} (hn : nh ≤ 4) (f : Nat) : ∀ (I : Nat → Nat → Int32) (i : Nat), i + f = nh → I 1 8 = nI nh → I 68 6 = nI (hl_chs s i).2 → (∀ k, k < (hl_chs s i).2 → I 78 k = nI ((hl_chs s i).1 k)) → ∃ I', hl_Run 27 c 7 [.ref 68, .int s, .int (nI i)] [] (hl_g N I J) = some (none, hl_g N I' J) ∧ I' 68 6 = nI (hl_chs s nh).2 ∧ (∀ k, k < (hl_chs s nh).2 → I' 78 k = nI ((hl_chs s nh).1 k)) ∧ (∀ b, b ≠ 68 → b ≠ 78 → I' b = I b) ∧ I' 68 7 = I 68 7 := by
  induction f with
  | zero =>
    intro I i hi h1 h2 h3
    obtain rfl : i = nh := by omega
    refine ⟨I, ?_, h2, h3, fun _ _ _ => rfl, rfl⟩
    simp only [hl_r27_7, hl_r27_8, hl_r27_9, hl_r27_12, hl_r27_15, hl_r27_52, hl_o_68, hl_p_68_0, hl_p_68_1, hl_p_68_2, hl_p_68_3, hl_p_68_4, hl_p_68_5, hl_o_1, hl_p_1_0, hl_p_1_1, hl_p_1_2, hl_p_1_3, hl_p_1_4, hl_p_1_5, hl_p_1_6, hl_p_1_7, hl_p_1_9, hl_p_1_14, hl_p_1_15, h1, Int32.le_refl, hl_kill_i, hl_kill_r, hl_kill_n, hl_kill_l, hl_tl_s, hl_tl_n, hl_cal_some, hl_gI, hl_gJ, hl_gsI, hl_gsJ, hl_tv01, if_true, if_false, hl_up_a, hl_row_a]
  | succ f ih =>
    intro I i hi h1 h2 h3
    have c1 : ¬ nI nh ≤ nI i := nI_ge (by omega) (by omega)
    have en : nI i + 1 = nI (i + 1) := (nI_succ i).symm
    have mle := (hl_chs_in (s := s) i).1
    by_cases q : (s >>> (nI i &&& 31)) &&& 1 = 0
    · have e1 : hl_chs s (i + 1) = hl_chs s i := if_pos q
      obtain ⟨I1, g1, g2, g3, g4, g5⟩ := ih I (i + 1) (by omega) h1 (by rw [e1]; exact h2) (by rw [e1]; exact h3)
      refine ⟨I1, ?_, g2, g3, g4, g5⟩
      rw [← g1, hl_r27_7]
      simp only [hl_r27_8, hl_r27_9, hl_r27_12, hl_r27_15, hl_r27_18, hl_r27_19, hl_r27_20, hl_r27_21, hl_r27_22, hl_r27_23, hl_r27_46, hl_r27_49, hl_o_68, hl_p_68_0, hl_p_68_1, hl_p_68_2, hl_p_68_3, hl_p_68_4, hl_p_68_5, hl_o_1, hl_p_1_0, hl_p_1_1, hl_p_1_2, hl_p_1_3, hl_p_1_4, hl_p_1_5, hl_p_1_6, hl_p_1_7, hl_p_1_9, hl_p_1_14, hl_p_1_15, h1, c1, q, en, hl_kill_i, hl_kill_r, hl_kill_n, hl_kill_l, hl_tl_s, hl_tl_n, hl_cal_some, hl_gI, hl_gJ, hl_gsI, hl_gsJ, hl_tv01, if_true, if_false, hl_up_a, hl_row_a]
    · have e1 : hl_chs s (i + 1) = (hl_us (hl_chs s i).1 (hl_chs s i).2 i, (hl_chs s i).2 + 1) := if_neg q
      generalize hl_chs s i = st at h2 h3 e1 mle
      have ec : nI st.2 + 1 = nI (st.2 + 1) := (nI_succ st.2).symm
      have b4 : hl_inb (nI st.2) 4 = true := hl_inb_nI (by omega) (by decide)
      obtain ⟨I1, g1, g2, g3, g4, g5⟩ := ih (hl_up (hl_up I 78 st.2 (nI i)) 68 6 (nI (st.2 + 1))) (i + 1) (by omega) (by rw [hl_up_ne _ _ _ (by decide), hl_up_ne _ _ _ (by decide)]; exact h1) (by rw [e1]; exact hl_up_at) (fun k hk => by
        rw [e1] at hk ⊢
        have hk' : k < st.2 + 1 := hk
        rw [hl_up_ne _ _ _ (by decide), hl_up_a, if_pos rfl]
        show (if k = st.2 then nI i else I 78 k) = nI (if k = st.2 then i else st.1 k)
        by_cases z : k = st.2
        · rw [if_pos z, if_pos z]
        · rw [if_neg z, if_neg z]; exact h3 k (by omega))
      refine ⟨I1, ?_, g2, g3, fun b b1 b2 => by rw [g4 b b1 b2, hl_up_ne _ _ _ b1, hl_up_ne _ _ _ b2], ?_⟩
      · rw [← g1, hl_r27_7]
        simp only [hl_r27_8, hl_r27_9, hl_r27_12, hl_r27_15, hl_r27_18, hl_r27_19, hl_r27_20, hl_r27_21, hl_r27_22, hl_r27_23, hl_r27_26, hl_r27_27, hl_r27_30, hl_r27_31, hl_r27_34, hl_r27_35, hl_r27_36, hl_r27_37, hl_r27_38, hl_r27_41, hl_r27_42, hl_r27_43, hl_r27_46, hl_r27_49, hl_o_68, hl_p_68_0, hl_p_68_1, hl_p_68_2, hl_p_68_3, hl_p_68_4, hl_p_68_5, hl_o_1, hl_p_1_0, hl_p_1_1, hl_p_1_2, hl_p_1_3, hl_p_1_4, hl_p_1_5, hl_p_1_6, hl_p_1_7, hl_p_1_9, hl_p_1_14, hl_p_1_15, hl_a_78, hl_z_78, h1, h2, c1, q, b4, hl_cq (show st.2 < 10000 by omega), hl_n6878, ec, en, hl_kill_i, hl_kill_r, hl_kill_n, hl_kill_l, hl_tl_s, hl_tl_n, hl_cal_some, hl_gI, hl_gJ, hl_gsI, hl_gsJ, hl_tv01, if_true, if_false, hl_up_a, hl_row_a]
      · rw [g5, hl_up_a, if_pos rfl, if_neg (by decide), hl_up_ne _ _ _ (by decide)]
theorem hl_s27 {s : Int32} (hn : nh ≤ 4) (h1 : I 1 8 = nI nh) : ∃ I', hl_call (d + 1) 27 [.ref 68, .int s] (hl_g N I J) = some (none, hl_g N I' J) ∧ I' 68 6 = nI (hl_chs s nh).2 ∧ (∀ k, k < (hl_chs s nh).2 → I' 78 k = nI ((hl_chs s nh).1 k)) ∧ (∀ b, b ≠ 68 → b ≠ 78 → I' b = I b) ∧ I' 68 7 = I 68 7 := by
  obtain ⟨I1, g1, g2, g3, g4, g5⟩ := hl_l27 (N := N) (J := J) (s := s) (c := hl_call d) hn nh (hl_up I 68 6 0) 0 (by omega) (by rw [hl_up_ne _ _ _ (by decide)]; exact h1) hl_up_at (fun k hk => absurd hk (Nat.not_lt_zero k))
  refine ⟨I1, ?_, g2, g3, fun b b1 b2 => by rw [g4 b b1 b2, hl_up_ne _ _ _ b1], ?_⟩
  · rw [← g1, hl_e27]
    simp only [hl_r27_0, hl_r27_1, hl_r27_2, hl_r27_5, hl_r27_6, hl_o_68, hl_p_68_0, hl_p_68_1, hl_p_68_2, hl_p_68_3, hl_p_68_4, hl_p_68_5, hl_kill_i, hl_kill_r, hl_kill_n, hl_kill_l, hl_tl_s, hl_tl_n, hl_cal_some, hl_gI, hl_gJ, hl_gsI, hl_gsJ, hl_tv01, if_true, if_false, hl_up_a, hl_row_a]
    rfl
  · rw [g5, hl_up_a, if_pos rfl, if_neg (by decide)]
theorem hl_l32 {t ga gb : Nat} {wh : Int32} {wt : Nat → Int} {al : Nat → Nat} (h4 : m ≤ 4) (h1 : 1 ≤ m) (hga : ga < G) (hgb : gb < G) (hG : G ≤ 24) (ht : t < 40) (end_ : nd = 2 + G * (m - 1)) (hne : ¬ ga = gb) (f : Nat) : ∀ (I : Nat → Nat → Int32) (J : Nat → Nat → Int64) (np : Nat) (C : (Nat → Bool) → Int) (j : Nat) (l6 l7 l8 : Value), j + f = m - 1 → I 68 6 = nI m → (∀ k, k < m → I 78 k = nI (al k) ∧ al k < 4) → (∀ k, k + 1 < m → (I 14 t * (I 9 (al (k + 1)) - I 9 (al k))).toInt = wt k ∧ 0 ≤ wt k ∧ wt k ≤ 100000) → hl_NW I J nd np C → np + 2 * f ≤ 432 → ∃ I' J', hl_Run 32 (hl_call (d + 2)) 47 [.ref 68, .int (nI t), .int wh, .int (nI ga), .int (nI gb), .int (nI (j + 1)), l6, l7, l8] [] (hl_g N I J) = some (none, hl_g N I' J') ∧ hl_NW I' J' nd (np + 2 * f) (fun S => C S + (hl_si (m - 1) (hl_ct m ga gb wt S) - hl_si j (hl_ct m ga gb wt S))) ∧ hl_fN I I' ∧ ∀ q, q ≠ 73 → J' q = J q := by
  induction f with
  | zero =>
    intro I J np C j l6 l7 l8 hj hm hal hwt hW hnp
    obtain rfl : j = m - 1 := by omega
    refine ⟨I, J, ?_, hl_NW_eq hW (fun S => by rw [Int.sub_self, Int.add_zero]) rfl, hl_fN_rf I, fun _ _ => rfl⟩
    have c1 : nI m ≤ nI (m - 1 + 1) := nI_le (by omega) (by omega)
    simp only [hl_r32_47, hl_r32_49, hl_r32_50, hl_r32_53, hl_r32_141, hl_o_68, hl_p_68_0, hl_p_68_1, hl_p_68_2, hl_p_68_3, hl_p_68_4, hl_p_68_5, hm, c1, hl_kill_i, hl_kill_r, hl_kill_n, hl_kill_l, hl_tl_s, hl_tl_n, hl_cal_some, hl_gI, hl_gJ, hl_gsI, hl_gsJ, hl_tv01, if_true, if_false, hl_up_a, hl_row_a]
  | succ f ih =>
    intro I J np C j l6 l7 l8 hj hm hal hwt hW hnp
    have c1 : ¬ nI m ≤ nI (j + 1) := nI_ge (by omega) (by omega)
    have en : nI (j + 1) + 1 = nI (j + 1 + 1) := (nI_succ (j + 1)).symm
    have ep : nI (j + 1) - 1 = nI j := nI_pred j
    obtain ⟨p1, p2, p3⟩ := hwt j (by omega)
    obtain ⟨a1, a2⟩ := hal j (by omega)
    obtain ⟨a3, a4⟩ := hal (j + 1) (by omega)
    have e64 : (I 14 t * (I 9 (al (j + 1)) - I 9 (al j))).toInt64.toInt = wt j := by rw [Int32.toInt_toInt64]; exact p1
    obtain ⟨I1, J1, e1, W1, f1, j1⟩ := hl_s16 (d := d) (N := N) (u := hl_nd m ga (j + 1)) (v := hl_nd m gb (j + 1)) (t := (I 14 t * (I 9 (al (j + 1)) - I 9 (al j))).toInt64) (b := (I 14 t * (I 9 (al (j + 1)) - I 9 (al j))).toInt64) hW (by omega) (hl_nd_lt hga end_) (hl_nd_lt hgb end_) (by omega) (by omega) (by omega)
    have fr : ∀ b, b < 69 → I1 b = I b := fun b hb => f1 b (by omega) (by omega) (by omega) (by omega)
    have f78 := f1 78 (by decide) (by decide) (by decide) (by decide)
    obtain ⟨I2, J2, e2, W2, f2, j2⟩ := ih I1 J1 (np + 2) _ (j + 1) (.int (I 9 (al (j + 1)) - I 9 (al j))) (.long (I 14 t * (I 9 (al (j + 1)) - I 9 (al j))).toInt64) .null (by omega) (by rw [fr 68 (by omega)]; exact hm) (fun k hk => by rw [f78]; exact hal k hk) (fun k hk => by rw [fr 14 (by omega), fr 9 (by omega)]; exact hwt k hk) W1 (by omega)
    refine ⟨I2, J2, ?_, hl_NW_eq W2 (fun S => ?_) (by omega), hl_fN_tr f1 f2, fun q hq => by rw [j2 q hq, j1 q hq]⟩
    · rw [← e2, hl_r32_47]
      have s1 := hl_s30 (d := d + 1) (N := N) (J := J) (g := ga) (k := j + 1) hm h4 (by omega) (by omega)
      have s2 := hl_s30 (d := d + 1) (N := N) (J := J) (g := gb) (k := j + 1) hm h4 (by omega) (by omega)
      have b1 : hl_inb (nI (j + 1)) 4 = true := hl_inb_nI (by omega) (by decide)
      have b2 : hl_inb (nI j) 4 = true := hl_inb_nI (by omega) (by decide)
      have b3 : hl_inb (nI (al (j + 1))) 4 = true := hl_inb_nI (by omega) (by decide)
      have b4 : hl_inb (nI (al j)) 4 = true := hl_inb_nI (by omega) (by decide)
      have b5 : hl_inb (nI t) 40 = true := hl_inb_nI (by omega) (by decide)
      simp only [hl_r32_49, hl_r32_50, hl_r32_53, hl_r32_56, hl_r32_57, hl_r32_60, hl_r32_63, hl_r32_64, hl_r32_67, hl_r32_69, hl_r32_70, hl_r32_71, hl_r32_72, hl_r32_75, hl_r32_78, hl_r32_79, hl_r32_82, hl_r32_84, hl_r32_85, hl_r32_86, hl_r32_87, hl_r32_88, hl_r32_89, hl_r32_91, hl_r32_92, hl_r32_95, hl_r32_98, hl_r32_101, hl_r32_102, hl_r32_103, hl_r32_105, hl_r32_106, hl_r32_107, hl_r32_109, hl_r32_110, hl_r32_113, hl_r32_114, hl_r32_115, hl_r32_117, hl_r32_120, hl_r32_121, hl_r32_123, hl_r32_125, hl_r32_128, hl_r32_130, hl_r32_132, hl_r32_135, hl_r32_138, hl_o_68, hl_p_68_0, hl_p_68_1, hl_p_68_2, hl_p_68_3, hl_p_68_4, hl_p_68_5, hl_o_69, hl_p_69_2, hl_p_69_3, hl_p_69_4, hl_p_69_5, hl_p_69_6, hl_p_69_7, hl_p_69_8, hl_p_69_9, hl_a_78, hl_z_78, hl_o_1, hl_p_1_0, hl_p_1_1, hl_p_1_2, hl_p_1_3, hl_p_1_4, hl_p_1_5, hl_p_1_6, hl_p_1_7, hl_p_1_9, hl_p_1_14, hl_p_1_15, hl_a_9, hl_z_9, hl_o_11, hl_p_11_0, hl_p_11_1, hl_p_11_2, hl_a_14, hl_z_14, hm, c1, s1, s2, en, ep, b1, b2, b3, b4, b5, hl_cq (show j + 1 < 10000 by omega), hl_cq (show j < 10000 by omega), hl_cq (show al (j + 1) < 10000 by omega), hl_cq (show al j < 10000 by omega), hl_cq (show t < 10000 by omega), a1, a3, e1, hl_kill_i, hl_kill_r, hl_kill_n, hl_kill_l, hl_tl_s, hl_tl_n, hl_cal_some, hl_gI, hl_gJ, hl_gsI, hl_gsJ, hl_tv01, if_true, if_false, hl_up_a, hl_row_a]
    · show C S + hl_fs S _ _ _ + hl_fs S _ _ _ + (hl_si (m - 1) _ - (hl_si j (hl_ct m ga gb wt S) + (if ga = gb then 0 else hl_fs S (hl_nd m ga (j + 1)) (hl_nd m gb (j + 1)) (wt j) + hl_fs S (hl_nd m gb (j + 1)) (hl_nd m ga (j + 1)) (wt j)))) = _
      rw [if_neg hne, e64]
      omega
theorem hl_s32 {t a b qa qb : Nat} {wh : Bool} {wt : Nat → Int} {al : Nat → Nat} (h4 : m ≤ 4) (h1 : 1 ≤ m) (hga : hl_gr I wh a < G) (hgb : hl_gr I wh b < G) (hG : G ≤ 24) (ht : t < 40) (hN : N ≤ 24) (end_ : nd = 2 + G * (m - 1)) (ta : I 12 t = nI a) (tb : I 13 t = nI b) (haN : a < N) (hbN : b < N) (qa1 : qa < 6) (qa2 : I 4 a = nI qa) (qb1 : qb < 6) (qb2 : I 4 b = nI qb) (hm : I 68 6 = nI m) (hal : ∀ k, k < m → I 78 k = nI (al k) ∧ al k < 4) (hwt : ∀ k, k + 1 < m → (I 14 t * (I 9 (al (k + 1)) - I 9 (al k))).toInt = wt k ∧ 0 ≤ wt k ∧ wt k ≤ 100000) (hW : hl_NW I J nd np C) (hnp : np + 2 * (m - 1) ≤ 432) : ∃ I' J' np', np' ≤ np + 2 * (m - 1) ∧ hl_call (d + 3) 32 [.ref 68, .int (nI t), .int (hl_tv wh)] (hl_g N I J) = some (none, hl_g N I' J') ∧ hl_NW I' J' nd np' (fun S => C S + hl_si (m - 1) (hl_ct m (hl_gr I wh a) (hl_gr I wh b) wt S)) ∧ hl_fN I I' ∧ ∀ q, q ≠ 73 → J' q = J q := by
  have s1 := hl_s28 (d := d + 1) (N := N) (J := J) (b := wh) (c := a) haN hN qa1 qa2
  have s2 := hl_s28 (d := d + 1) (N := N) (J := J) (b := wh) (c := b) hbN hN qb1 qb2
  generalize hl_gr I wh a = ga at s1 hga ⊢
  generalize hl_gr I wh b = gb at s2 hgb ⊢
  have b5 : hl_inb (nI t) 40 = true := hl_inb_nI (by omega) (by decide)
  by_cases z : ga = gb
  · refine ⟨I, J, np, by omega, ?_, hl_NW_eq hW (fun S => ?_) rfl, hl_fN_rf I, fun _ _ => rfl⟩
    · rw [hl_e32]
      simp only [hl_r32_0, hl_r32_1, hl_r32_2, hl_r32_5, hl_r32_8, hl_r32_11, hl_r32_12, hl_r32_13, hl_r32_14, hl_r32_17, hl_r32_18, hl_r32_19, hl_r32_20, hl_r32_23, hl_r32_26, hl_r32_29, hl_r32_30, hl_r32_31, hl_r32_32, hl_r32_35, hl_r32_37, hl_r32_38, hl_r32_40, hl_r32_43, hl_o_68, hl_p_68_0, hl_p_68_1, hl_p_68_2, hl_p_68_3, hl_p_68_4, hl_p_68_5, hl_o_1, hl_p_1_0, hl_p_1_1, hl_p_1_2, hl_p_1_3, hl_p_1_4, hl_p_1_5, hl_p_1_6, hl_p_1_7, hl_p_1_9, hl_p_1_14, hl_p_1_15, hl_o_11, hl_p_11_0, hl_p_11_1, hl_p_11_2, hl_a_12, hl_z_12, hl_a_13, hl_z_13, b5, hl_cq (show t < 10000 by omega), ta, tb, s1, s2, z, not_true, hl_kill_i, hl_kill_r, hl_kill_n, hl_kill_l, hl_tl_s, hl_tl_n, hl_cal_some, hl_gI, hl_gJ, hl_gsI, hl_gsJ, hl_tv01, if_true, if_false, hl_up_a, hl_row_a]
    · rw [hl_si_z (f := hl_ct m ga gb wt S) (m - 1) (fun k _ => by unfold hl_ct; exact if_pos z), Int.add_zero]
  · obtain ⟨I1, J1, e1, W1, f1, j1⟩ := hl_l32 (d := d) (N := N) (wh := hl_tv wh) h4 h1 hga hgb hG ht end_ z (m - 1) I J np C 0 .null .null .null (by omega) hm hal hwt hW hnp
    refine ⟨I1, J1, np + 2 * (m - 1), Nat.le_refl _, ?_, hl_NW_eq W1 (fun S => by show C S + (_ - 0) = _; rw [Int.sub_zero]) rfl, f1, j1⟩
    have z' : ¬ nI ga = nI gb := fun q => z ((nI_eq (by omega) (by omega)).mp q)
    rw [← e1, hl_e32]
    simp only [hl_r32_0, hl_r32_1, hl_r32_2, hl_r32_5, hl_r32_8, hl_r32_11, hl_r32_12, hl_r32_13, hl_r32_14, hl_r32_17, hl_r32_18, hl_r32_19, hl_r32_20, hl_r32_23, hl_r32_26, hl_r32_29, hl_r32_30, hl_r32_31, hl_r32_32, hl_r32_35, hl_r32_37, hl_r32_38, hl_r32_40, hl_r32_43, hl_r32_44, hl_r32_45, hl_o_68, hl_p_68_0, hl_p_68_1, hl_p_68_2, hl_p_68_3, hl_p_68_4, hl_p_68_5, hl_o_1, hl_p_1_0, hl_p_1_1, hl_p_1_2, hl_p_1_3, hl_p_1_4, hl_p_1_5, hl_p_1_6, hl_p_1_7, hl_p_1_9, hl_p_1_14, hl_p_1_15, hl_o_11, hl_p_11_0, hl_p_11_1, hl_p_11_2, hl_a_12, hl_z_12, hl_a_13, hl_z_13, b5, hl_cq (show t < 10000 by omega), ta, tb, s1, s2, z', not_false_eq_true, hl_kill_i, hl_kill_r, hl_kill_n, hl_kill_l, hl_tl_s, hl_tl_n, hl_cal_some, hl_gI, hl_gJ, hl_gsI, hl_gsJ, hl_tv01, if_true, if_false, hl_up_a, hl_row_a]
    rfl
end HLTIE
