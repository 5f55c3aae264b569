/-! the parter's network: nodes, chains, ties -/
def hl_nd (m g k : Nat) : Nat := if k = 0 then 0 else if m ≤ k then 1 else 2 + g * (m - 1) + k - 1
def hl_gr (I : Nat → Nat → Int32) (b : Bool) (c : Nat) : Nat := if b = true then (I 4 c).toNatClampNeg else c
theorem hl_nd_lt {m g k G nd : Nat} (hg : g < G) (e : nd = 2 + G * (m - 1)) : hl_nd m g k < nd := by
  unfold hl_nd
  have := Nat.mul_le_mul_right (m - 1) (show g + 1 ≤ G by omega)
  rw [Nat.succ_mul] at this
  split
  · omega
  · split <;> omega
/-- what a chain adds to a cut -/
def hl_ch (B : Int) (m : Nat) (gp : Nat → Int) (g : Nat) (S : Nat → Bool) (k : Nat) : Int := hl_fs S (hl_nd m g k) (hl_nd m g (k + 1)) (gp (4 * g + k)) + hl_fs S (hl_nd m g (k + 1)) (hl_nd m g k) (if 0 < k ∧ k + 1 < m then B else 0)
/-- what a tie adds to a cut -/
def hl_ct (m ga gb : Nat) (w : Nat → Int) (S : Nat → Bool) (k : Nat) : Int := if ga = gb then 0 else hl_fs S (hl_nd m ga (k + 1)) (hl_nd m gb (k + 1)) (w k) + hl_fs S (hl_nd m gb (k + 1)) (hl_nd m ga (k + 1)) (w k)
theorem hl_NW_eq {I : Nat → Nat → Int32} {J : Nat → Nat → Int64} {nd np np' : Nat} {C C' : (Nat → Bool) → Int} (h : hl_NW I J nd np C) (e : ∀ S, C S = C' S) (en : np = np') : hl_NW I J nd np' C' := by
  subst en
  obtain ⟨sr, ds, r, a, b, c, f⟩ := h
  exact ⟨sr, ds, r, a, b, c, fun S => (f S).trans (e S)⟩
theorem hl_i4k {g k : Nat} : nI g * 4 + nI k = nI (4 * g + k) := by
  have e : (4 : Int32) = nI 4 := rfl
  rw [e, nI_mul, nI_add, Nat.mul_comm]
theorem hl_nsb {n : Nat} (h : 0 < n) : nI n - 1 = nI (n - 1) := by
  cases n with
  | zero => omega
  | succ n => exact nI_pred n
section HLLAY
variable {d N m g G k : Nat} {I I' : Nat → Nat → Int32} {J J' : Nat → Nat → Int64} {nd np : Nat} {C : (Nat → Bool) → Int}
theorem hl_s30 (hm : I 68 6 = nI m) (h4 : m ≤ 4) (hg : g < 24) (hk : k ≤ 4) : hl_call (d + 1) 30 [.ref 68, .int (nI g), .int (nI k)] (hl_g N I J) = some (some (.int (nI (hl_nd m g k))), hl_g N I J) := by
  rw [hl_e30]
  unfold hl_nd
  by_cases z : k = 0
  · subst z
    have z0 : nI 0 ≤ 0 := Int32.le_refl 0
    rw [if_pos rfl]
    have c1 : ¬ (0 : Int32) < nI 0 := by decide
    have z1 : (0 : Int32) = nI 0 := rfl
    simp only [hl_r30_0, hl_r30_1, hl_r30_4, hl_r30_5, hl_r30_6, hl_r30_7, hl_r30_8, hl_r30_11, hl_r30_14, hl_r30_15, hl_r30_16, hl_r30_17, hl_r30_18, hl_r30_19, hl_r30_22, hl_r30_23, hl_r30_24, hl_r30_25, hl_r30_26, hl_r30_27, hl_r30_28, hl_r30_29, hl_r30_30, c1, if_false, hl_kill_i, hl_kill_r, hl_kill_n, hl_kill_l, hl_tl_s, hl_tl_n, hl_cal_some, hl_gI, hl_gJ, hl_gsI, hl_gsJ, hl_tv01, if_true, if_false, hl_up_a, hl_row_a]
    exact congrArg (fun v => some (some (Value.int v), hl_g N I J)) z1
  · have c1 : (0 : Int32) < nI k := show nI 0 < nI k from nI_lt (by omega) (by omega)
    rw [if_neg z]
    by_cases y : m ≤ k
    · have c2 : ¬ nI k < nI m := Int32.not_lt.mpr (nI_le (by omega) (by omega))
      have o1 : (1 : Int32) = nI 1 := rfl
      rw [if_pos y]
      simp only [hl_r30_0, hl_r30_1, hl_r30_4, hl_r30_5, hl_r30_6, hl_r30_7, hl_r30_8, hl_r30_11, hl_r30_14, hl_r30_15, hl_r30_16, hl_r30_17, hl_r30_18, hl_r30_19, hl_r30_22, hl_r30_23, hl_r30_24, hl_r30_25, hl_r30_26, hl_r30_27, hl_r30_28, hl_r30_29, hl_r30_30, hl_o_68, hl_p_68_0, hl_p_68_1, hl_p_68_2, hl_p_68_3, hl_p_68_4, hl_p_68_5, c1, hm, c2, if_false, hl_kill_i, hl_kill_r, hl_kill_n, hl_kill_l, hl_tl_s, hl_tl_n, hl_cal_some, hl_gI, hl_gJ, hl_gsI, hl_gsJ, hl_tv01, if_true, if_false, hl_up_a, hl_row_a]
      exact congrArg (fun v => some (some (Value.int v), hl_g N I J)) o1
    · have c2 : nI k < nI m := nI_lt (by omega) (by omega)
      have e1 : nI m - 1 = nI (m - 1) := hl_nsb (by omega)
      have e2 : (2 : Int32) + nI g * nI (m - 1) + nI k - 1 = nI (2 + g * (m - 1) + k - 1) := by
        have e : (2 : Int32) = nI 2 := rfl
        rw [e, nI_mul, nI_add, nI_add]
        exact hl_nsb (by omega)
      rw [if_neg y]
      simp only [hl_r30_0, hl_r30_1, hl_r30_4, hl_r30_5, hl_r30_6, hl_r30_7, hl_r30_8, hl_r30_11, hl_r30_14, hl_r30_15, hl_r30_16, hl_r30_17, hl_r30_18, hl_r30_19, hl_r30_22, hl_r30_23, hl_r30_24, hl_r30_25, hl_r30_26, hl_r30_27, hl_r30_28, hl_r30_29, hl_r30_30, hl_o_68, hl_p_68_0, hl_p_68_1, hl_p_68_2, hl_p_68_3, hl_p_68_4, hl_p_68_5, c1, hm, c2, e1, e2, if_false, hl_kill_i, hl_kill_r, hl_kill_n, hl_kill_l, hl_tl_s, hl_tl_n, hl_cal_some, hl_gI, hl_gJ, hl_gsI, hl_gsJ, hl_tv01, if_true, if_false, hl_up_a, hl_row_a]
theorem hl_s28 {b : Bool} {c q : Nat} (hc : c < N) (hN : N ≤ 24) (hq : q < 6) (h4 : I 4 c = nI q) : hl_call (d + 1) 28 [.ref 68, .int (nI c), .int (hl_tv b)] (hl_g N I J) = some (some (.int (nI (hl_gr I b c))), hl_g N I J) := by
  rw [hl_e28]
  unfold hl_gr
  have bc : hl_inb (nI c) N = true := hl_inb_nI hc (by omega)
  cases b with
  | true =>
    simp only [hl_r28_0, hl_r28_1, hl_r28_4, hl_r28_5, hl_r28_8, hl_r28_11, hl_r28_12, hl_r28_13, hl_r28_16, hl_r28_17, hl_o_68, hl_p_68_0, hl_p_68_1, hl_p_68_2, hl_p_68_3, hl_p_68_4, hl_p_68_5, hl_o_1, hl_p_1_0, hl_p_1_1, hl_p_1_2, hl_p_1_3, hl_p_1_4, hl_p_1_5, hl_p_1_6, hl_p_1_7, hl_p_1_9, hl_p_1_14, hl_p_1_15, hl_a_4, hl_z_4, hl_tv_t, hl_10, bc, hl_cq (show c < 10000 by omega), h4, hl_cq (show q < 10000 by omega), if_false, hl_kill_i, hl_kill_r, hl_kill_n, hl_kill_l, hl_tl_s, hl_tl_n, hl_cal_some, hl_gI, hl_gJ, hl_gsI, hl_gsJ, hl_tv01, if_true, if_false, hl_up_a, hl_row_a]
  | false =>
    simp only [hl_r28_0, hl_r28_1, hl_r28_4, hl_r28_5, hl_r28_8, hl_r28_11, hl_r28_12, hl_r28_13, hl_r28_16, hl_r28_17, hl_o_68, hl_p_68_0, hl_p_68_1, hl_p_68_2, hl_p_68_3, hl_p_68_4, hl_p_68_5, hl_o_1, hl_p_1_0, hl_p_1_1, hl_p_1_2, hl_p_1_3, hl_p_1_4, hl_p_1_5, hl_p_1_6, hl_p_1_7, hl_p_1_9, hl_p_1_14, hl_p_1_15, hl_a_4, hl_z_4, hl_tv_f, Bool.false_eq_true, if_false, hl_kill_i, hl_kill_r, hl_kill_n, hl_kill_l, hl_tl_s, hl_tl_n, hl_cal_some, hl_gI, hl_gJ, hl_gsI, hl_gsJ, hl_tv01, if_true, if_false, hl_up_a, hl_row_a]
theorem hl_l31 (h4 : m ≤ 4) (hg : g < G) (hG : G ≤ 24) (hz : 4 * g + 4 ≤ (if N < 6 then 6 else N) * 4) (hN : N ≤ 24) (end_ : nd = 2 + G * (m - 1)) (gp : Nat → Int) (f : Nat) : ∀ (I : Nat → Nat → Int32) (J : Nat → Nat → Int64) (np : Nat) (C : (Nat → Bool) → Int) (k : Nat) (l3 : Value), k + f = m → I 68 6 = nI m → hl_NW I J nd np C → np + 2 * f ≤ 432 → (∀ k, k < m → (J 80 (4 * g + k)).toInt = gp (4 * g + k) ∧ 0 ≤ gp (4 * g + k) ∧ gp (4 * g + k) ≤ 100000000000) → ∃ I' J', hl_Run 31 (hl_call (d + 2)) 2 [.ref 68, .int (nI g), .int (nI k), l3] [] (hl_g N I J) = some (none, hl_g N I' J') ∧ hl_NW I' J' nd (np + 2 * f) (fun S => C S + (hl_si m (hl_ch 1000000000 m gp g S) - hl_si k (hl_ch 1000000000 m gp g S))) ∧ hl_fN I I' ∧ ∀ q, q ≠ 73 → J' q = J q := by
  induction f with
  | zero =>
    intro I J np C k l3 hk hm hW hnp hgp
    obtain rfl : k = m := by omega
    refine ⟨I, J, ?_, hl_NW_eq hW (fun S => by rw [Int.sub_self, Int.add_zero]) rfl, hl_fN_rf I, fun _ _ => rfl⟩
    simp only [hl_r31_2, hl_r31_3, hl_r31_4, hl_r31_7, hl_r31_78, hl_o_68, hl_p_68_0, hl_p_68_1, hl_p_68_2, hl_p_68_3, hl_p_68_4, hl_p_68_5, hm, Int32.le_refl, hl_kill_i, hl_kill_r, hl_kill_n, hl_kill_l, hl_tl_s, hl_tl_n, hl_cal_some, hl_gI, hl_gJ, hl_gsI, hl_gsJ, hl_tv01, if_true, if_false, hl_up_a, hl_row_a]
  | succ f ih =>
    intro I J np C k l3 hk hm hW hnp hgp
    have c1 : ¬ nI m ≤ nI k := nI_ge (by omega) (by omega)
    have en : nI k + 1 = nI (k + 1) := (nI_succ k).symm
    have seg : hl_Run 31 (hl_call (d + 2)) 2 [.ref 68, .int (nI g), .int (nI k), l3] [] (hl_g N I J) = hl_Run 31 (hl_call (d + 2)) 30 [.ref 68, .int (nI g), .int (nI k), .int (hl_tv (decide (0 < k ∧ k + 1 < m)))] [] (hl_g N I J) := by
      by_cases z : k = 0
      · have c2 : nI k ≤ 0 := by rw [z]; exact Int32.le_refl 0
        rw [decide_eq_false (by omega)]
        simp only [hl_r31_2, hl_r31_3, hl_r31_4, hl_r31_7, hl_r31_10, hl_r31_11, hl_r31_14, hl_r31_15, hl_r31_16, hl_r31_17, hl_r31_18, hl_r31_21, hl_r31_24, hl_r31_25, hl_r31_28, hl_r31_29, hl_o_68, hl_p_68_0, hl_p_68_1, hl_p_68_2, hl_p_68_3, hl_p_68_4, hl_p_68_5, hm, c1, c2, hl_tv_f, if_false, hl_kill_i, hl_kill_r, hl_kill_n, hl_kill_l, hl_tl_s, hl_tl_n, hl_cal_some, hl_gI, hl_gJ, hl_gsI, hl_gsJ, hl_tv01, if_true, if_false, hl_up_a, hl_row_a]
      · have c2 : ¬ nI k ≤ 0 := show ¬ nI k ≤ nI 0 from nI_ge (by omega) (by omega)
        by_cases y : k + 1 < m
        · have c3 : ¬ nI m ≤ nI (k + 1) := nI_ge y (by omega)
          rw [decide_eq_true ⟨by omega, y⟩]
          simp only [hl_r31_2, hl_r31_3, hl_r31_4, hl_r31_7, hl_r31_10, hl_r31_11, hl_r31_14, hl_r31_15, hl_r31_16, hl_r31_17, hl_r31_18, hl_r31_21, hl_r31_24, hl_r31_25, hl_r31_28, hl_r31_29, hl_o_68, hl_p_68_0, hl_p_68_1, hl_p_68_2, hl_p_68_3, hl_p_68_4, hl_p_68_5, hm, c1, c2, c3, en, hl_tv_t, if_false, hl_kill_i, hl_kill_r, hl_kill_n, hl_kill_l, hl_tl_s, hl_tl_n, hl_cal_some, hl_gI, hl_gJ, hl_gsI, hl_gsJ, hl_tv01, if_true, if_false, hl_up_a, hl_row_a]
        · have c3 : nI m ≤ nI (k + 1) := nI_le (by omega) (by omega)
          rw [decide_eq_false (by omega)]
          simp only [hl_r31_2, hl_r31_3, hl_r31_4, hl_r31_7, hl_r31_10, hl_r31_11, hl_r31_14, hl_r31_15, hl_r31_16, hl_r31_17, hl_r31_18, hl_r31_21, hl_r31_24, hl_r31_25, hl_r31_28, hl_r31_29, hl_o_68, hl_p_68_0, hl_p_68_1, hl_p_68_2, hl_p_68_3, hl_p_68_4, hl_p_68_5, hm, c1, c2, c3, en, hl_tv_f, if_false, hl_kill_i, hl_kill_r, hl_kill_n, hl_kill_l, hl_tl_s, hl_tl_n, hl_cal_some, hl_gI, hl_gJ, hl_gsI, hl_gsJ, hl_tv01, if_true, if_false, hl_up_a, hl_row_a]
    rw [seg]
    obtain ⟨p1, p2, p3⟩ := hgp k (by omega)
    have bz : hl_inb (nI (4 * g + k)) ((if N < 6 then 6 else N) * 4) = true := hl_inb_nI (by omega) (by split <;> omega)
    have bB : (1000000000 : Int64).toInt = 1000000000 := rfl
    have b0 : (0 : Int64).toInt = 0 := rfl
    have fin : ∀ bk : Int64, bk.toInt = (if 0 < k ∧ k + 1 < m then 1000000000 else 0) → bk.toInt ≤ 1000000000 → 0 ≤ bk.toInt → (∀ w, hl_Run 31 (hl_call (d + 2)) 58 [.ref 68, .int (nI g), .int (nI k), .int (hl_tv (decide (0 < k ∧ k + 1 < m)))] [.long (J 80 (4 * g + k)), .int (nI (hl_nd m g (k + 1))), .int (nI (hl_nd m g k)), .ref 69] w = hl_Run 31 (hl_call (d + 2)) 69 [.ref 68, .int (nI g), .int (nI k), .int (hl_tv (decide (0 < k ∧ k + 1 < m)))] [.long bk, .long (J 80 (4 * g + k)), .int (nI (hl_nd m g (k + 1))), .int (nI (hl_nd m g k)), .ref 69] w) → ∃ I' J', hl_Run 31 (hl_call (d + 2)) 30 [.ref 68, .int (nI g), .int (nI k), .int (hl_tv (decide (0 < k ∧ k + 1 < m)))] [] (hl_g N I J) = some (none, hl_g N I' J') ∧ hl_NW I' J' nd (np + 2 * (f + 1)) (fun S => C S + (hl_si m (hl_ch 1000000000 m gp g S) - hl_si k (hl_ch 1000000000 m gp g S))) ∧ hl_fN I I' ∧ ∀ q, q ≠ 73 → J' q = J q := by
      intro bk hbk hb1 hb2 hseg
      obtain ⟨I1, J1, e1, W1, f1, j1⟩ := hl_s16 (d := d) (N := N) (u := hl_nd m g k) (v := hl_nd m g (k + 1)) (t := J 80 (4 * g + k)) (b := bk) hW (by omega) (hl_nd_lt hg end_) (hl_nd_lt hg end_) (by omega) hb2 (by omega)
      obtain ⟨I2, J2, e2, W2, f2, j2⟩ := ih I1 J1 (np + 2) _ (k + 1) (.int (hl_tv (decide (0 < k ∧ k + 1 < m)))) (by omega) (by rw [f1 68 (by decide) (by decide) (by decide) (by decide)]; exact hm) W1 (by omega) (fun q hq => by rw [j1 80 (by decide)]; exact hgp q hq)
      refine ⟨I2, J2, ?_, hl_NW_eq W2 (fun S => ?_) (by omega), hl_fN_tr f1 f2, fun q hq => by rw [j2 q hq, j1 q hq]⟩
      · rw [← e2, hl_r31_2]
        have s1 := hl_s30 (d := d + 1) (N := N) (J := J) (g := g) (k := k) hm h4 (by omega) (by omega)
        have s2 := hl_s30 (d := d + 1) (N := N) (J := J) (g := g) (k := k + 1) hm h4 (by omega) (by omega)
        simp only [hl_r31_30, hl_r31_31, hl_r31_34, hl_r31_35, hl_r31_36, hl_r31_37, hl_r31_40, hl_r31_41, hl_r31_42, hl_r31_43, hl_r31_44, hl_r31_45, hl_r31_48, hl_r31_49, hl_r31_52, hl_r31_53, hl_r31_54, hl_r31_55, hl_r31_56, hl_r31_57, hl_r31_69, hl_r31_72, hl_r31_75, hl_o_68, hl_p_68_0, hl_p_68_1, hl_p_68_2, hl_p_68_3, hl_p_68_4, hl_p_68_5, hl_o_69, hl_p_69_2, hl_p_69_3, hl_p_69_4, hl_p_69_5, hl_p_69_6, hl_p_69_7, hl_p_69_8, hl_p_69_9, hl_a_80, hl_z_80, s1, s2, en, hl_i4k, bz, hl_cq (show 4 * g + k < 10000 by omega), hseg, e1, hl_kill_i, hl_kill_r, hl_kill_n, hl_kill_l, hl_tl_s, hl_tl_n, hl_cal_some, hl_gI, hl_gJ, hl_gsI, hl_gsJ, hl_tv01, if_true, if_false, hl_up_a, hl_row_a]
        rw [hl_r31_2]
      · show C S + hl_fs S _ _ _ + hl_fs S _ _ _ + (hl_si m _ - (hl_si k (hl_ch 1000000000 m gp g S) + (hl_fs S (hl_nd m g k) (hl_nd m g (k + 1)) (gp (4 * g + k)) + hl_fs S (hl_nd m g (k + 1)) (hl_nd m g k) (if 0 < k ∧ k + 1 < m then 1000000000 else 0)))) = _
        rw [p1, hbk]
        omega
    by_cases y : 0 < k ∧ k + 1 < m
    · rw [decide_eq_true y] at fin ⊢
      exact fin 1000000000 (by rw [if_pos y]; exact bB) (by rw [bB]; omega) (by rw [bB]; omega) (fun w => by simp only [hl_r31_58, hl_r31_59, hl_r31_62, hl_r31_65, hl_r31_68, hl_tv_t, hl_10, if_false, hl_kill_i, hl_kill_r, hl_kill_n, hl_kill_l, hl_tl_s, hl_tl_n, hl_cal_some, hl_gI, hl_gJ, hl_gsI, hl_gsJ, hl_tv01, if_true, if_false, hl_up_a, hl_row_a])
    · rw [decide_eq_false y] at fin ⊢
      exact fin 0 (by rw [if_neg y]; exact b0) (by rw [b0]; omega) (by rw [b0]; omega) (fun w => by simp only [hl_r31_58, hl_r31_59, hl_r31_62, hl_r31_65, hl_r31_68, hl_tv_f, hl_kill_i, hl_kill_r, hl_kill_n, hl_kill_l, hl_tl_s, hl_tl_n, hl_cal_some, hl_gI, hl_gJ, hl_gsI, hl_gsJ, hl_tv01, if_true, if_false, hl_up_a, hl_row_a])
theorem hl_s31 (h4 : m ≤ 4) (hg : g < G) (hG : G ≤ 24) (hz : 4 * g + 4 ≤ (if N < 6 then 6 else N) * 4) (hN : N ≤ 24) (end_ : nd = 2 + G * (m - 1)) (gp : Nat → Int) (hm : I 68 6 = nI m) (hW : hl_NW I J nd np C) (hnp : np + 2 * m ≤ 432) (hgp : ∀ k, k < m → (J 80 (4 * g + k)).toInt = gp (4 * g + k) ∧ 0 ≤ gp (4 * g + k) ∧ gp (4 * g + k) ≤ 100000000000) : ∃ I' J', hl_call (d + 3) 31 [.ref 68, .int (nI g)] (hl_g N I J) = some (none, hl_g N I' J') ∧ hl_NW I' J' nd (np + 2 * m) (fun S => C S + hl_si m (hl_ch 1000000000 m gp g S)) ∧ hl_fN I I' ∧ ∀ q, q ≠ 73 → J' q = J q := by
  obtain ⟨I1, J1, e1, W1, f1, j1⟩ := hl_l31 (d := d) h4 hg hG hz hN end_ gp m I J np C 0 .null (by omega) hm hW hnp hgp
  refine ⟨I1, J1, ?_, hl_NW_eq W1 (fun S => by show C S + (_ - 0) = _; rw [Int.sub_zero]) rfl, f1, j1⟩
  rw [← e1, hl_e31]
  simp only [hl_r31_0, hl_r31_1, hl_kill_i, hl_kill_r, hl_kill_n, hl_kill_l, hl_tl_s, hl_tl_n, hl_cal_some, hl_gI, hl_gJ, hl_gsI, hl_gsJ, hl_tv01, if_true, if_false, hl_up_a, hl_row_a]
  rfl
end HLLAY
