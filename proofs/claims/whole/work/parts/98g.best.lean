/-! the pairs best and held -/
theorem hx_bz (x : Int32) : ∃ b, hl_bz x = hl_tv b := by
  unfold hl_bz
  by_cases h : x = 0
  · exact ⟨false, by rw [if_pos h]; rfl⟩
  · exact ⟨true, by rw [if_neg h]; rfl⟩
theorem hx_oi_n : hx_oi none = -1 := rfl
theorem hx_oi_s {n : Nat} : hx_oi (some n) = nI n := rfl
theorem hx_ni1 {n : Nat} (h : n < 2 ^ 31) : ¬ nI n = -1 := fun z => by
  have := congrArg Int32.toInt z
  rw [hl_tI h] at this
  have e1 : (-1 : Int32).toInt = -1 := rfl
  omega
theorem hx_olI {n : Nat} (h : n < 1000000000) : (hx_ol (some n)).toInt = (n : Int) := Int64.toInt_ofNat_of_lt (by omega)
theorem hx_ol_n0 : ¬ (0 : Int64) ≤ hx_ol none := by decide
theorem hx_ol_nl : hx_ol none < (0 : Int64) := by decide
theorem hx_ol_s0 {n : Nat} (h : n < 1000000000) : (0 : Int64) ≤ hx_ol (some n) := by
  rw [Int64.le_iff_toInt_le, hx_olI h]
  have e0 : (0 : Int64).toInt = 0 := rfl
  omega
theorem hx_ol_sl {n : Nat} (h : n < 1000000000) : ¬ hx_ol (some n) < (0 : Int64) := Int64.not_lt.mpr (hx_ol_s0 h)
theorem hx_ol_32 {n : Nat} (h : n < 1000000000) : (hx_ol (some n)).toInt32 = nI n := by
  apply Int32.toInt_inj.mp
  rw [Int64.toInt_toInt32, hx_olI h, hl_tI (by omega), Int.bmod_eq_of_le (by omega) (by omega)]
theorem hx_ol_sub {a b : Nat} (ha : a < 1000000000) (hb : b < 1000000000) : (hx_ol (some a) - hx_ol (some b)).toInt32 = nI a - nI b := by
  have q : ((a : Int) - b).bmod (2 ^ 64) = a - b := Int.bmod_eq_of_le (by omega) (by omega)
  apply Int32.toInt_inj.mp
  rw [Int64.toInt_toInt32, Int64.toInt_sub, hx_olI ha, hx_olI hb, Int32.toInt_sub, hl_tI (by omega), hl_tI (by omega), q]
theorem hx_2p {nh : Nat} (h : nh ≤ 4) : (1 : Int32) <<< (nI nh &&& 31) = nI (2 ^ nh) := by
  match nh, h with
  | 0, _ => decide
  | 1, _ => decide
  | 2, _ => decide
  | 3, _ => decide
  | 4, _ => decide
  | n + 5, h => omega
theorem hx_2q {nh : Nat} (h : nh ≤ 4) : 1 ≤ 2 ^ nh ∧ 2 ^ nh ≤ 16 := by
  match nh, h with
  | 0, _ => decide
  | 1, _ => decide
  | 2, _ => decide
  | 3, _ => decide
  | 4, _ => decide
  | n + 5, h => omega
theorem hx_all {nh : Nat} (h : nh ≤ 4) : (1 : Int32) <<< (nI nh &&& 31) - 1 = nI (2 ^ nh - 1) := by
  rw [hx_2p h]
  exact hl_nsb (hx_2q h).1
theorem hx_chs1 : ∀ nh, nh < 5 → ∀ k, k < 16 → 1 ≤ k → k ≤ 2 ^ nh - 1 → 1 ≤ (hl_chs (nI k) nh).2 := by decide +kernel
theorem hx_chs_all {nh : Nat} (h0 : 1 ≤ nh) (h : nh ≤ 4) : 1 ≤ (hl_chs (nI (2 ^ nh - 1)) nh).2 := by
  obtain ⟨a, b⟩ := hx_2q h
  have c : 2 ≤ 2 ^ nh := by
    have := Nat.pow_le_pow_right (n := 2) (by omega) h0
    omega
  exact hx_chs1 nh (by omega) _ (by omega) (by omega) (Nat.le_refl _)
theorem hx_chs_in {nh : Nat} {s : Int32} (h : nh ≤ 4) (g : hl_in s 1 (nI (2 ^ nh - 1)) = true) : 1 ≤ (hl_chs s nh).2 := by
  obtain ⟨a, b⟩ := hx_2q h
  obtain ⟨g1, g2⟩ := hl_in_E g
  have e1 : (1 : Int32).toInt = 1 := rfl
  rw [hl_tI (by omega)] at g2
  obtain ⟨k, k1, k2, k3⟩ := hl_nat (x := s) (by omega)
  rw [k2]
  exact hx_chs1 nh (by omega) k (by omega) (by omega) (by omega)
section HXBEST
variable {d N W H nh cn : Nat} {I Is I1 I2 I' : Nat → Nat → Int32} {J J' : Nat → Nat → Int64} {wh : Bool} {x y s : Int32}
theorem hx_s141 (hc : I 1 8 = nI nh) (h : nh ≤ 4) : hl_call (d + 1) 141 [.ref 0] (hl_g N I J) = some (some (.int (nI (2 ^ nh - 1))), hl_g N I J) := by
  rw [hl_e141]
  simp only [hl_r141_0, hl_r141_1, hl_r141_2, hl_r141_5, hl_r141_8, hl_r141_9, hl_r141_10, hl_r141_11, hl_o_0, hl_p_0_3, hl_p_0_4, hl_p_0_5, hl_p_0_7, hl_p_0_8, hl_p_0_9, hl_p_0_10, hl_p_0_11, hl_p_0_12, hl_p_0_13, hl_p_0_14, hl_p_0_15, hl_o_1, hl_p_1_0, hl_p_1_1, hl_p_1_2, hl_p_1_3, hl_p_1_4, hl_p_1_5, hl_p_1_6, hl_p_1_7, hl_p_1_9, hl_p_1_14, hl_p_1_15, hc, hx_all h, hl_kill_i, hl_kill_r, hl_kill_n, hl_kill_l, hl_tl_s, hl_tl_n, hl_cal_some, hl_gI, hl_gJ, hl_gsI, hl_gsJ, hl_tv01, if_true, if_false, hl_up_a, hl_row_a, not_true, not_false_eq_true]
theorem hx_s231 (hc : I 86 0 = nI nh) (h : nh ≤ 4) : hl_call (d + 1) 231 [.ref 85] (hl_g N I J) = some (some (.int (nI (2 ^ nh - 1))), hl_g N I J) := by
  rw [hl_e231]
  simp only [hl_r231_0, hl_r231_1, hl_r231_2, hl_r231_5, hl_r231_6, hl_r231_7, hl_r231_8, hl_r231_9, hl_r231_10, hl_o_85, hl_p_85_3, hl_p_85_4, hl_p_85_5, hl_p_85_6, hl_p_85_19, hl_p_85_23, hl_p_85_24, hl_p_85_25, hl_p_85_26, hl_p_85_27, hl_p_85_28, hl_p_85_29, hl_p_85_30, hl_p_85_31, hl_p_85_33, hl_p_85_34, hl_p_85_35, hl_p_85_36, hl_p_85_37, hl_a_86, hl_z_86, hl_k0, hl_v0, hc, hx_all h, hl_kill_i, hl_kill_r, hl_kill_n, hl_kill_l, hl_tl_s, hl_tl_n, hl_cal_some, hl_gI, hl_gJ, hl_gsI, hl_gsJ, hl_tv01, if_true, if_false, hl_up_a, hl_row_a, not_true, not_false_eq_true]
/-- the class, its purse fresh -/
def hx_Rd (N W H nh cn : Nat) (I : Nat → Nat → Int32) : Prop := hl_Co N W H I ∧ hx_Fp N nh I ∧ N ≤ 24 ∧ (nh ≤ 4 ∧ I 1 8 = nI nh ∧ I 86 0 = nI nh ∧ hl_Sv I 86 0 = (nh : Int)) ∧ (cn ≤ 40 ∧ I 11 3 = nI cn ∧ I 86 1 = nI cn ∧ hl_Sv I 86 1 = (cn : Int)) ∧ hl_Pu N I
theorem hx_Fp_f (h : hx_Fp N nh I) (f : ∀ b, b < 68 → I' b = I b) : hx_Fp N nh I' := fun c hc k hk => by
  rw [f 64 (by omega), (hl_PD_of (fun b hb => f b (by omega)) c).pay]
  exact h c hc k hk
theorem hx_Rd.ph (h : hx_Rd N W H nh cn I) : hl_PH N nh cn I := hx_PH h.1 h.2.1 h.2.2.1 h.2.2.2.1.2.2.2 h.2.2.2.1.2.1 h.2.2.2.2.1.2.2.2 h.2.2.2.2.1.2.1
theorem hx_fC.pu (h : hx_fC I I') (p : hl_Pu N I) : hl_Pu N I' := hl_Pu_t p h.tm (h.1 64 (by omega)) (h.1 65 (by omega))
theorem hx_refresh (hI : hl_Inv hl_TX N W H I) (hN : N ≤ 24) (J : Nat → Nat → Int64) : ∃ nh cn I1, hl_call (d + 6) 45 [.ref 63] (hl_g N I J) = some (none, hl_g N I1 J) ∧ hl_Tm I I1 ∧ hx_Rd N W H nh cn I1 ∧ I 1 8 = nI nh ∧ I 86 0 = nI nh ∧ I 11 3 = nI cn ∧ I 86 1 = nI cn := by
  obtain ⟨nh, h4, hc1, hm1, hs1⟩ := hI.nh
  obtain ⟨cn, c4, hc2, hm2, hs2⟩ := hI.cn
  obtain ⟨I1, e1, F⟩ := hl_s45 (d := d) (J := J) hI hN h4 hc1 hs1
  have tm := F.tm
  refine ⟨nh, cn, I1, e1, tm, ⟨hl_Co_t hI.co tm, fun c hc h hh => by rw [(F.2 c hc).2 h hh, (tm.pd c).pay], hN, ⟨h4, ?_, ?_, (F.sv (by omega)).trans hs1⟩, ⟨c4, ?_, ?_, (F.sv (by omega)).trans hs2⟩, F.pu hs1⟩, hc1, hm1, hc2, hm2⟩
  · rw [tm.1 1 (by omega)]; exact hc1
  · rw [tm.2.2.2 86 (by omega) (by omega)]; exact hm1
  · rw [tm.1 11 (by omega)]; exact hc2
  · rw [tm.2.2.2 86 (by omega) (by omega)]; exact hm2
/-- one solve of each -/
theorem hx_solve1 (h : hx_Rd N W H nh cn I1) (f : hx_fC I1 I ∨ I = I1) (h1 : 1 ≤ (hl_chs s nh).2) : ∃ I' J' p hr, hx_Sol N nh cn I1 s wh x y p hr ∧ hl_call (d + 4) 26 [.ref 68, .int s, .int (hl_tv wh), .int x, .int y] (hl_g N I J) = some (some (.int (hx_oi p)), hl_g N I' J') ∧ (p ≠ none → ∀ c, c < N → I' 79 c = nI (hr c)) ∧ hx_fC I1 I' ∧ I' 68 7 = I 68 7 := by
  have fl : ∀ b, b < 68 → I b = I1 b := fun b hb => by
    rcases f with f | f
    · exact f.1 b (.inl hb)
    · rw [f]
  obtain ⟨I2, J2, p, hr, S, e, r, f2⟩ := hx_solve (d := d) (J := J) (wh := wh) (x := x) (y := y) (s := s) (hl_PH_f h.ph fl) (hx_Fp_f h.2.1 fl) h1
  refine ⟨I2, J2, p, hr, hx_Sol_f S (fun b hb => (fl b (by omega)).symm), e, r, ?_, f2.2⟩
  rcases f with f | f
  · exact hx_fC_tr f f2
  · rw [← f]; exact f2
theorem hx_least1 (h : hx_Rd N W H nh cn I1) (hv : hl_vw I1 I) (h1 : 1 ≤ (hl_chs s nh).2) {p : Option Nat} {hr : Nat → Nat} (S : hx_Sol N nh cn I1 s wh x y p hr) : ∃ I' J', hl_call (d + 7) 230 [.ref 85, .int s, .int (hl_tv wh), .int x, .int y] (hl_g N I J) = some (some (.long (hx_ol p)), hl_g N I' J') ∧ (p ≠ none → ∀ c, c < N → I' 102 c = nI (hr c)) ∧ hx_fR I I' ∧ hx_fJ J J' := by
  obtain ⟨I', J', p', hr', S', e, r, f, j⟩ := hx_least (d := d) (J := J) (wh := wh) (x := x) (y := y) (s := s) h.1 hv h.2.2.1 h.2.2.2.1.2.2.2 h.2.2.2.2.1.2.2.2 h1
  obtain ⟨u1, u2⟩ := hx_Sol_u S' S
  subst u1
  exact ⟨I', J', e, fun hp c hc => by rw [r hp c hc, u2 hp c hc], f, j⟩
theorem hx_pr15 (hN : N ≤ 24) (f : Nat → Int32) : hl_PQ hl_TX N W H 120 232 (hl_args 15 f) := by
  refine hl_PQ_read hl_TXc fun I J hI => ?_
  obtain ⟨wh, ew⟩ := hx_bz (f 2)
  show ∃ v I1 J1 I2 J2, hl_call 1001 120 [.ref 0, .int (f 1), .int (hl_bz (f 2)), .int (f 3)] (hl_g N I J) = some (some (.int v), hl_g N I1 J1) ∧ hl_call 1001 232 [.ref 85, .int (f 1), .int (hl_bz (f 2)), .int (f 3)] (hl_g N I1 J1) = some (some (.int v), hl_g N I2 J2) ∧ _
  rw [ew]
  have P := hI.2.2.2.2.1
  obtain ⟨nh, cn, I1, e1, tm, R, hc1, hm1, -, -⟩ := hx_refresh (d := 994) hI hN J
  have h4 := R.2.2.2.1.1
  have s141 := hx_s141 (d := 999) (N := N) (J := J) hc1 h4
  have s231 := fun J => hx_s231 (d := 999) (N := N) (I := I) (J := J) hm1 h4
  have bN : N < 2 ^ 31 := by omega
  have k138 := hl_s138 (d := 998) (N := N) (I := I) (J := J) (x := f 3) hI.cM bN
  have k153 := hl_s153 (d := 998) (N := N) (I := I) (J := J) (x := f 3) hI.mM bN
  have ni1 : ¬ (¬ (-1 : Int32) = -1) := fun z => z rfl
  cases g1 : hl_in (f 1) 1 (nI (2 ^ nh - 1)) with
  | false =>
    refine ⟨-1, I, J, I, J, ?_, ?_, hl_Tm_rf I, P, hl_Tm_rf I, rfl, rfl⟩
    · rw [hl_e120 (d := 1000)]; simp only [hl_r120_0, hl_r120_1, hl_r120_2, hl_r120_3, hl_r120_6, hl_r120_9, hl_r120_12, hl_r120_13, hl_r120_14, hl_r120_17, hl_r120_18, hl_r120_19, hl_r120_22, hl_r120_25, hl_r120_26, hl_o_0, hl_p_0_3, hl_p_0_4, hl_p_0_5, hl_p_0_7, hl_p_0_8, hl_p_0_9, hl_p_0_10, hl_p_0_11, hl_p_0_12, hl_p_0_13, hl_p_0_14, hl_p_0_15, s141, hl_s147, g1, hl_tv_f, hl_kill_i, hl_kill_r, hl_kill_n, hl_kill_l, hl_tl_s, hl_tl_n, hl_cal_some, hl_gI, hl_gJ, hl_gsI, hl_gsJ, hl_tv01, if_true, if_false, hl_up_a, hl_row_a, not_true, not_false_eq_true]
    · rw [hl_e232 (d := 1000)]; simp only [hl_r232_0, hl_r232_1, hl_r232_2, hl_r232_3, hl_r232_6, hl_r232_9, hl_r232_12, hl_r232_13, hl_r232_14, hl_r232_17, hl_r232_18, hl_r232_19, hl_r232_22, hl_r232_25, hl_r232_26, hl_o_85, hl_p_85_3, hl_p_85_4, hl_p_85_5, hl_p_85_6, hl_p_85_19, hl_p_85_23, hl_p_85_24, hl_p_85_25, hl_p_85_26, hl_p_85_27, hl_p_85_28, hl_p_85_29, hl_p_85_30, hl_p_85_31, hl_p_85_33, hl_p_85_34, hl_p_85_35, hl_p_85_36, hl_p_85_37, s231, hl_s151, g1, hl_tv_f, hl_kill_i, hl_kill_r, hl_kill_n, hl_kill_l, hl_tl_s, hl_tl_n, hl_cal_some, hl_gI, hl_gJ, hl_gsI, hl_gsJ, hl_tv01, if_true, if_false, hl_up_a, hl_row_a, not_true, not_false_eq_true]
  | true =>
    by_cases g2 : ¬ f 3 = -1 ∧ hl_inb (f 3) N = false
    · rw [g2.2] at k138 k153
      refine ⟨-1, I, J, I, J, ?_, ?_, hl_Tm_rf I, P, hl_Tm_rf I, rfl, rfl⟩
      · rw [hl_e120 (d := 1000)]; simp only [hl_r120_0, hl_r120_1, hl_r120_2, hl_r120_3, hl_r120_6, hl_r120_9, hl_r120_12, hl_r120_13, hl_r120_14, hl_r120_17, hl_r120_18, hl_r120_19, hl_r120_22, hl_r120_25, hl_r120_26, hl_o_0, hl_p_0_3, hl_p_0_4, hl_p_0_5, hl_p_0_7, hl_p_0_8, hl_p_0_9, hl_p_0_10, hl_p_0_11, hl_p_0_12, hl_p_0_13, hl_p_0_14, hl_p_0_15, s141, hl_s147, g1, hl_tv_t, hl_tv_f, hl_10, g2.1, k138, hl_kill_i, hl_kill_r, hl_kill_n, hl_kill_l, hl_tl_s, hl_tl_n, hl_cal_some, hl_gI, hl_gJ, hl_gsI, hl_gsJ, hl_tv01, if_true, if_false, hl_up_a, hl_row_a, not_true, not_false_eq_true]
      · rw [hl_e232 (d := 1000)]; simp only [hl_r232_0, hl_r232_1, hl_r232_2, hl_r232_3, hl_r232_6, hl_r232_9, hl_r232_12, hl_r232_13, hl_r232_14, hl_r232_17, hl_r232_18, hl_r232_19, hl_r232_22, hl_r232_25, hl_r232_26, hl_o_85, hl_p_85_3, hl_p_85_4, hl_p_85_5, hl_p_85_6, hl_p_85_19, hl_p_85_23, hl_p_85_24, hl_p_85_25, hl_p_85_26, hl_p_85_27, hl_p_85_28, hl_p_85_29, hl_p_85_30, hl_p_85_31, hl_p_85_33, hl_p_85_34, hl_p_85_35, hl_p_85_36, hl_p_85_37, s231, hl_s151, g1, hl_tv_t, hl_tv_f, hl_10, g2.1, k153, hl_kill_i, hl_kill_r, hl_kill_n, hl_kill_l, hl_tl_s, hl_tl_n, hl_cal_some, hl_gI, hl_gJ, hl_gsI, hl_gsJ, hl_tv01, if_true, if_false, hl_up_a, hl_row_a, not_true, not_false_eq_true]
    · have ch := hx_chs_in h4 g1
      obtain ⟨I2, J2, p, hr, S, e2, r2, f2, -⟩ := hx_solve1 (d := 996) (J := J) (wh := wh) (x := -1) (y := -1) (s := f 1) R (.inr rfl) ch
      have vI2 : hl_vw I1 I2 := f2.tm.vw
      obtain ⟨I3, J3, e3, r3, f3, j3⟩ := hx_least1 (d := 993) (J := J2) R vI2 ch S
      have tm2 := hl_Tm_tr tm f2.tm
      have P2 := f2.pu R.2.2.2.2.2
      have s231' := hx_s231 (d := 999) (N := N) (I := I2) (J := J2) (by rw [tm2.2.2.2 86 (by omega) (by omega)]; exact hm1) h4
      have k153' := hl_s153 (d := 998) (N := N) (I := I2) (J := J2) (x := f 3) (by rw [tm2.2.2.1 2 (by omega)]; exact hI.mM) bN
      -- both go to the solves
      have cA : hl_call 1001 120 [.ref 0, .int (f 1), .int (hl_tv wh), .int (f 3)] (hl_g N I J) = hl_Run 120 (hl_call 1000) 47 [.ref 0, .int (f 1), .int (hl_tv wh), .int (f 3), .int (hx_oi p)] [] (hl_g N I2 J2) := by
        rw [hl_e120 (d := 1000)]
        by_cases z : f 3 = -1
        · simp only [hl_r120_0, hl_r120_1, hl_r120_2, hl_r120_3, hl_r120_6, hl_r120_9, hl_r120_12, hl_r120_13, hl_r120_14, hl_r120_17, hl_r120_18, hl_r120_19, hl_r120_22, hl_r120_25, hl_r120_26, hl_r120_27, hl_r120_28, hl_r120_31, hl_r120_34, hl_r120_35, hl_r120_38, hl_r120_39, hl_r120_40, hl_r120_41, hl_r120_42, hl_r120_45, hl_o_0, hl_p_0_3, hl_p_0_4, hl_p_0_5, hl_p_0_7, hl_p_0_8, hl_p_0_9, hl_p_0_10, hl_p_0_11, hl_p_0_12, hl_p_0_13, hl_p_0_14, hl_p_0_15, hl_o_63, hl_p_63_0, hl_p_63_1, hl_p_63_2, hl_p_63_3, hl_o_68, hl_p_68_0, hl_p_68_1, hl_p_68_2, hl_p_68_3, hl_p_68_4, hl_p_68_5, s141, hl_s147, g1, hl_tv_t, hl_10, z, e1, e2, hl_tl_n, hl_kill_i, hl_kill_r, hl_kill_n, hl_kill_l, hl_tl_s, hl_tl_n, hl_cal_some, hl_gI, hl_gJ, hl_gsI, hl_gsJ, hl_tv01, if_true, if_false, hl_up_a, hl_row_a, not_true, not_false_eq_true]
        · have zt : hl_inb (f 3) N = true := by
            cases q : hl_inb (f 3) N with
            | true => rfl
            | false => exact absurd ⟨z, q⟩ g2
          rw [zt] at k138
          simp only [hl_r120_0, hl_r120_1, hl_r120_2, hl_r120_3, hl_r120_6, hl_r120_9, hl_r120_12, hl_r120_13, hl_r120_14, hl_r120_17, hl_r120_18, hl_r120_19, hl_r120_22, hl_r120_25, hl_r120_26, hl_r120_27, hl_r120_28, hl_r120_31, hl_r120_34, hl_r120_35, hl_r120_38, hl_r120_39, hl_r120_40, hl_r120_41, hl_r120_42, hl_r120_45, hl_o_0, hl_p_0_3, hl_p_0_4, hl_p_0_5, hl_p_0_7, hl_p_0_8, hl_p_0_9, hl_p_0_10, hl_p_0_11, hl_p_0_12, hl_p_0_13, hl_p_0_14, hl_p_0_15, hl_o_63, hl_p_63_0, hl_p_63_1, hl_p_63_2, hl_p_63_3, hl_o_68, hl_p_68_0, hl_p_68_1, hl_p_68_2, hl_p_68_3, hl_p_68_4, hl_p_68_5, s141, hl_s147, g1, hl_tv_t, hl_10, z, k138, e1, e2, hl_tl_n, hl_kill_i, hl_kill_r, hl_kill_n, hl_kill_l, hl_tl_s, hl_tl_n, hl_cal_some, hl_gI, hl_gJ, hl_gsI, hl_gsJ, hl_tv01, if_true, if_false, hl_up_a, hl_row_a, not_true, not_false_eq_true]
      have cB : hl_call 1001 232 [.ref 85, .int (f 1), .int (hl_tv wh), .int (f 3)] (hl_g N I2 J2) = hl_Run 232 (hl_call 1000) 37 [.ref 85, .int (f 1), .int (hl_tv wh), .int (f 3), .long (hx_ol p), .null] [] (hl_g N I3 J3) := by
        rw [hl_e232 (d := 1000)]
        by_cases z : f 3 = -1
        · simp only [hl_r232_0, hl_r232_1, hl_r232_2, hl_r232_3, hl_r232_6, hl_r232_9, hl_r232_12, hl_r232_13, hl_r232_14, hl_r232_17, hl_r232_18, hl_r232_19, hl_r232_22, hl_r232_25, hl_r232_26, hl_r232_27, hl_r232_28, hl_r232_29, hl_r232_30, hl_r232_31, hl_r232_32, hl_r232_35, hl_o_85, hl_p_85_3, hl_p_85_4, hl_p_85_5, hl_p_85_6, hl_p_85_19, hl_p_85_23, hl_p_85_24, hl_p_85_25, hl_p_85_26, hl_p_85_27, hl_p_85_28, hl_p_85_29, hl_p_85_30, hl_p_85_31, hl_p_85_33, hl_p_85_34, hl_p_85_35, hl_p_85_36, hl_p_85_37, s231', hl_s151, g1, hl_tv_t, hl_10, z, e3, hl_tl_n, hl_kill_i, hl_kill_r, hl_kill_n, hl_kill_l, hl_tl_s, hl_tl_n, hl_cal_some, hl_gI, hl_gJ, hl_gsI, hl_gsJ, hl_tv01, if_true, if_false, hl_up_a, hl_row_a, not_true, not_false_eq_true]
        · have zt : hl_inb (f 3) N = true := by
            cases q : hl_inb (f 3) N with
            | true => rfl
            | false => exact absurd ⟨z, q⟩ g2
          rw [zt] at k153'
          simp only [hl_r232_0, hl_r232_1, hl_r232_2, hl_r232_3, hl_r232_6, hl_r232_9, hl_r232_12, hl_r232_13, hl_r232_14, hl_r232_17, hl_r232_18, hl_r232_19, hl_r232_22, hl_r232_25, hl_r232_26, hl_r232_27, hl_r232_28, hl_r232_29, hl_r232_30, hl_r232_31, hl_r232_32, hl_r232_35, hl_o_85, hl_p_85_3, hl_p_85_4, hl_p_85_5, hl_p_85_6, hl_p_85_19, hl_p_85_23, hl_p_85_24, hl_p_85_25, hl_p_85_26, hl_p_85_27, hl_p_85_28, hl_p_85_29, hl_p_85_30, hl_p_85_31, hl_p_85_33, hl_p_85_34, hl_p_85_35, hl_p_85_36, hl_p_85_37, s231', hl_s151, g1, hl_tv_t, hl_10, z, k153', e3, hl_tl_n, hl_kill_i, hl_kill_r, hl_kill_n, hl_kill_l, hl_tl_s, hl_tl_n, hl_cal_some, hl_gI, hl_gJ, hl_gsI, hl_gsJ, hl_tv01, if_true, if_false, hl_up_a, hl_row_a, not_true, not_false_eq_true]
      rw [cA]
      cases p with
      | none =>
        refine ⟨-1, I2, J2, I3, J3, ?_, ?_, tm2, P2, f3.tm, f3.lo (by omega), f3.lo (by omega)⟩
        · rw [hx_oi_n]
          simp only [hl_r120_47, hl_r120_49, hl_r120_50, hl_r120_53, hl_r120_54, hl_r120_55, hl_r120_58, hl_r120_60, hl_kill_i, hl_kill_r, hl_kill_n, hl_kill_l, hl_tl_s, hl_tl_n, hl_cal_some, hl_gI, hl_gJ, hl_gsI, hl_gsJ, hl_tv01, if_true, if_false, hl_up_a, hl_row_a, not_true, not_false_eq_true]
        · rw [cB]
          simp only [hl_r232_37, hl_r232_39, hl_r232_40, hl_r232_41, hl_r232_44, hl_r232_45, hl_r232_48, hl_r232_49, hl_r232_52, hl_r232_54, hl_r232_55, hl_r232_58, hl_r232_59, hl_r232_62, hl_r232_63, hl_r232_64, hl_lcmp_ge0, hx_ol_n0, hl_kill_i, hl_kill_r, hl_kill_n, hl_kill_l, hl_tl_s, hl_tl_n, hl_cal_some, hl_gI, hl_gJ, hl_gsI, hl_gsJ, hl_tv01, if_true, if_false, hl_up_a, hl_row_a, not_true, not_false_eq_true]
      | some n =>
        have nB := hx_Sol_B S
        have n1 : ¬ nI n = -1 := hx_ni1 (by omega)
        have o1 := hx_ol_s0 nB
        have o2 := hx_ol_32 nB
        by_cases z : f 3 = -1
        · refine ⟨nI n, I2, J2, I3, J3, ?_, ?_, tm2, P2, f3.tm, f3.lo (by omega), f3.lo (by omega)⟩
          · rw [hx_oi_s]
            simp only [hl_r120_47, hl_r120_49, hl_r120_50, hl_r120_53, hl_r120_54, hl_r120_55, hl_r120_58, hl_r120_60, n1, z, hl_kill_i, hl_kill_r, hl_kill_n, hl_kill_l, hl_tl_s, hl_tl_n, hl_cal_some, hl_gI, hl_gJ, hl_gsI, hl_gsJ, hl_tv01, if_true, if_false, hl_up_a, hl_row_a, not_true, not_false_eq_true]
          · have zn : ¬ (0 : Int32) ≤ -1 := by decide
            rw [cB]
            simp only [hl_r232_37, hl_r232_39, hl_r232_40, hl_r232_41, hl_r232_44, hl_r232_45, hl_r232_48, hl_r232_49, hl_r232_52, hl_r232_54, hl_r232_55, hl_r232_58, hl_r232_59, hl_r232_62, hl_r232_63, hl_r232_64, hl_lcmp_ge0, o1, o2, z, zn, hl_kill_i, hl_kill_r, hl_kill_n, hl_kill_l, hl_tl_s, hl_tl_n, hl_cal_some, hl_gI, hl_gJ, hl_gsI, hl_gsJ, hl_tv01, if_true, if_false, hl_up_a, hl_row_a, not_true, not_false_eq_true]
        · have zt : hl_inb (f 3) N = true := by
            cases q : hl_inb (f 3) N with
            | true => rfl
            | false => exact absurd ⟨z, q⟩ g2
          obtain ⟨c, hc, ec⟩ := hl_inb_of zt bN
          have bc : hl_inb (nI c) N = true := hl_inb_nI hc bN
          have b24 : hl_inb (nI c) 24 = true := hl_inb_nI (by omega) (by decide)
          have c0 : (0 : Int32) ≤ nI c := show nI 0 ≤ nI c from nI_le (by omega) (by omega)
          have q79 := r2 (fun q => by cases q) c hc
          have q102 := r3 (fun q => by cases q) c hc
          rw [ec] at z ⊢
          rw [ec] at cB
          refine ⟨nI (hr c), I2, J2, I3, J3, ?_, ?_, tm2, P2, f3.tm, f3.lo (by omega), f3.lo (by omega)⟩
          · rw [hx_oi_s]
            simp only [hl_r120_47, hl_r120_49, hl_r120_50, hl_r120_53, hl_r120_54, hl_r120_55, hl_r120_58, hl_r120_60, hl_r120_61, hl_r120_62, hl_r120_65, hl_r120_68, hl_r120_69, hl_r120_70, hl_o_0, hl_p_0_3, hl_p_0_4, hl_p_0_5, hl_p_0_7, hl_p_0_8, hl_p_0_9, hl_p_0_10, hl_p_0_11, hl_p_0_12, hl_p_0_13, hl_p_0_14, hl_p_0_15, hl_o_68, hl_p_68_0, hl_p_68_1, hl_p_68_2, hl_p_68_3, hl_p_68_4, hl_p_68_5, hl_a_79, hl_z_79, n1, z, bc, hl_cq (show c < 10000 by omega), q79, hl_kill_i, hl_kill_r, hl_kill_n, hl_kill_l, hl_tl_s, hl_tl_n, hl_cal_some, hl_gI, hl_gJ, hl_gsI, hl_gsJ, hl_tv01, if_true, if_false, hl_up_a, hl_row_a, not_true, not_false_eq_true]
          · rw [cB]
            simp only [hl_r232_37, hl_r232_39, hl_r232_40, hl_r232_41, hl_r232_44, hl_r232_45, hl_r232_48, hl_r232_49, hl_r232_52, hl_r232_54, hl_r232_55, hl_r232_58, hl_r232_59, hl_r232_62, hl_r232_63, hl_r232_64, hl_o_85, hl_p_85_3, hl_p_85_4, hl_p_85_5, hl_p_85_6, hl_p_85_19, hl_p_85_23, hl_p_85_24, hl_p_85_25, hl_p_85_26, hl_p_85_27, hl_p_85_28, hl_p_85_29, hl_p_85_30, hl_p_85_31, hl_p_85_33, hl_p_85_34, hl_p_85_35, hl_p_85_36, hl_p_85_37, hl_a_102, hl_z_102, hl_lcmp_ge0, o1, c0, b24, hl_cq (show c < 10000 by omega), q102, hl_kill_i, hl_kill_r, hl_kill_n, hl_kill_l, hl_tl_s, hl_tl_n, hl_cal_some, hl_gI, hl_gJ, hl_gsI, hl_gsJ, hl_tv01, if_true, if_false, hl_up_a, hl_row_a, not_true, not_false_eq_true]
theorem hx_pr16 (hN : N ≤ 24) (f : Nat → Int32) : hl_PQ hl_TX N W H 121 233 (hl_args 16 f) := by
  refine hl_PQ_read hl_TXc fun I J hI => ?_
  obtain ⟨wh, ew⟩ := hx_bz (f 2)
  show ∃ v I1 J1 I2 J2, hl_call 1001 121 [.ref 0, .int (f 1), .int (hl_bz (f 2))] (hl_g N I J) = some (some (.int v), hl_g N I1 J1) ∧ hl_call 1001 233 [.ref 85, .int (f 1), .int (hl_bz (f 2))] (hl_g N I1 J1) = some (some (.int v), hl_g N I2 J2) ∧ _
  rw [ew]
  have P := hI.2.2.2.2.1
  obtain ⟨nh, cn, I1, e1, tm, R, hc1, hm1, -, -⟩ := hx_refresh (d := 994) hI hN J
  have h4 := R.2.2.2.1.1
  have bN : N < 2 ^ 31 := by omega
  have k138 := hl_s138 (d := 998) (N := N) (I := I) (J := J) (x := f 1) hI.cM bN
  have k153 := hl_s153 (d := 998) (N := N) (I := I) (J := J) (x := f 1) hI.mM bN
  cases g1 : hl_inb (f 1) N with
  | false =>
    rw [g1] at k138 k153
    refine ⟨-1, I, J, I, J, ?_, ?_, hl_Tm_rf I, P, hl_Tm_rf I, rfl, rfl⟩
    · rw [hl_e121 (d := 1000)]; simp only [hl_r121_0, hl_r121_1, hl_r121_2, hl_r121_5, hl_r121_8, hl_r121_9, hl_r121_12, hl_r121_15, hl_r121_18, hl_r121_19, hl_o_0, hl_p_0_3, hl_p_0_4, hl_p_0_5, hl_p_0_7, hl_p_0_8, hl_p_0_9, hl_p_0_10, hl_p_0_11, hl_p_0_12, hl_p_0_13, hl_p_0_14, hl_p_0_15, k138, hl_tv_f, hl_kill_i, hl_kill_r, hl_kill_n, hl_kill_l, hl_tl_s, hl_tl_n, hl_cal_some, hl_gI, hl_gJ, hl_gsI, hl_gsJ, hl_tv01, if_true, if_false, hl_up_a, hl_row_a, not_true, not_false_eq_true]
    · rw [hl_e233 (d := 1000)]; simp only [hl_r233_0, hl_r233_1, hl_r233_2, hl_r233_5, hl_r233_8, hl_r233_9, hl_r233_12, hl_r233_13, hl_r233_14, hl_r233_17, hl_r233_18, hl_o_85, hl_p_85_3, hl_p_85_4, hl_p_85_5, hl_p_85_6, hl_p_85_19, hl_p_85_23, hl_p_85_24, hl_p_85_25, hl_p_85_26, hl_p_85_27, hl_p_85_28, hl_p_85_29, hl_p_85_30, hl_p_85_31, hl_p_85_33, hl_p_85_34, hl_p_85_35, hl_p_85_36, hl_p_85_37, k153, hl_tv_f, hl_kill_i, hl_kill_r, hl_kill_n, hl_kill_l, hl_tl_s, hl_tl_n, hl_cal_some, hl_gI, hl_gJ, hl_gsI, hl_gsJ, hl_tv01, if_true, if_false, hl_up_a, hl_row_a, not_true, not_false_eq_true]
  | true =>
    rw [g1] at k138 k153
    by_cases g2 : nh = 0
    · have z0 : nI nh = 0 := by rw [g2]; rfl
      rw [z0] at hc1 hm1
      refine ⟨-1, I, J, I, J, ?_, ?_, hl_Tm_rf I, P, hl_Tm_rf I, rfl, rfl⟩
      · rw [hl_e121 (d := 1000)]; simp only [hl_r121_0, hl_r121_1, hl_r121_2, hl_r121_5, hl_r121_8, hl_r121_9, hl_r121_12, hl_r121_15, hl_r121_18, hl_r121_19, hl_o_0, hl_p_0_3, hl_p_0_4, hl_p_0_5, hl_p_0_7, hl_p_0_8, hl_p_0_9, hl_p_0_10, hl_p_0_11, hl_p_0_12, hl_p_0_13, hl_p_0_14, hl_p_0_15, hl_o_1, hl_p_1_0, hl_p_1_1, hl_p_1_2, hl_p_1_3, hl_p_1_4, hl_p_1_5, hl_p_1_6, hl_p_1_7, hl_p_1_9, hl_p_1_14, hl_p_1_15, k138, hl_tv_t, hl_10, hc1, hl_kill_i, hl_kill_r, hl_kill_n, hl_kill_l, hl_tl_s, hl_tl_n, hl_cal_some, hl_gI, hl_gJ, hl_gsI, hl_gsJ, hl_tv01, if_true, if_false, hl_up_a, hl_row_a, not_true, not_false_eq_true]
      · rw [hl_e233 (d := 1000)]; simp only [hl_r233_0, hl_r233_1, hl_r233_2, hl_r233_5, hl_r233_8, hl_r233_9, hl_r233_12, hl_r233_13, hl_r233_14, hl_r233_17, hl_r233_18, hl_o_85, hl_p_85_3, hl_p_85_4, hl_p_85_5, hl_p_85_6, hl_p_85_19, hl_p_85_23, hl_p_85_24, hl_p_85_25, hl_p_85_26, hl_p_85_27, hl_p_85_28, hl_p_85_29, hl_p_85_30, hl_p_85_31, hl_p_85_33, hl_p_85_34, hl_p_85_35, hl_p_85_36, hl_p_85_37, hl_a_86, hl_z_86, hl_k0, hl_v0, k153, hl_tv_t, hl_10, hm1, hl_kill_i, hl_kill_r, hl_kill_n, hl_kill_l, hl_tl_s, hl_tl_n, hl_cal_some, hl_gI, hl_gJ, hl_gsI, hl_gsJ, hl_tv01, if_true, if_false, hl_up_a, hl_row_a, not_true, not_false_eq_true]
    · have n0 : ¬ nI nh = 0 := nI_ne0 (by omega) (by omega)
      have ch := hx_chs_all (show 1 ≤ nh by omega) h4
      obtain ⟨c, hc, ec⟩ := hl_inb_of g1 bN
      rw [ec] at k138 ⊢
      obtain ⟨I2, J2, p, hr, S, e2, r2, f2, -⟩ := hx_solve1 (d := 996) (J := J) (wh := wh) (x := -1) (y := -1) (s := nI (2 ^ nh - 1)) R (.inr rfl) ch
      have s141 := hx_s141 (d := 999) (N := N) (I := I1) (J := J) R.2.2.2.1.2.1 h4
      have s141' := hx_s141 (d := 999) (N := N) (I := I2) (J := J2) (by rw [f2.1 1 (by omega)]; exact R.2.2.2.1.2.1) h4
      have bc : hl_inb (nI c) N = true := hl_inb_nI hc bN
      have b24 : hl_inb (nI c) 24 = true := hl_inb_nI (by omega) (by decide)
      have cA : hl_call 1001 121 [.ref 0, .int (nI c), .int (hl_tv wh)] (hl_g N I J) = hl_Run 121 (hl_call 1000) 42 [.ref 0, .int (nI c), .int (hl_tv wh), .int (hx_oi p), .null] [] (hl_g N I2 J2) := by
        rw [hl_e121 (d := 1000)]
        simp only [hl_r121_0, hl_r121_1, hl_r121_2, hl_r121_5, hl_r121_8, hl_r121_9, hl_r121_12, hl_r121_15, hl_r121_18, hl_r121_19, hl_r121_20, hl_r121_21, hl_r121_24, hl_r121_27, hl_r121_28, hl_r121_31, hl_r121_32, hl_r121_35, hl_r121_36, hl_r121_37, hl_r121_38, hl_r121_41, hl_o_0, hl_p_0_3, hl_p_0_4, hl_p_0_5, hl_p_0_7, hl_p_0_8, hl_p_0_9, hl_p_0_10, hl_p_0_11, hl_p_0_12, hl_p_0_13, hl_p_0_14, hl_p_0_15, hl_o_1, hl_p_1_0, hl_p_1_1, hl_p_1_2, hl_p_1_3, hl_p_1_4, hl_p_1_5, hl_p_1_6, hl_p_1_7, hl_p_1_9, hl_p_1_14, hl_p_1_15, hl_o_63, hl_p_63_0, hl_p_63_1, hl_p_63_2, hl_p_63_3, hl_o_68, hl_p_68_0, hl_p_68_1, hl_p_68_2, hl_p_68_3, hl_p_68_4, hl_p_68_5, k138, hl_tv_t, hl_10, hc1, n0, e1, s141, e2, hl_tl_n, hl_kill_i, hl_kill_r, hl_kill_n, hl_kill_l, hl_tl_s, hl_tl_n, hl_cal_some, hl_gI, hl_gJ, hl_gsI, hl_gsJ, hl_tv01, if_true, if_false, hl_up_a, hl_row_a, not_true, not_false_eq_true]
      rw [cA]
      -- the reference's first
      have first : ∀ (I9 : Nat → Nat → Int32) (J9 : Nat → Nat → Int64), hl_vw I1 I9 → ∃ I3 J3, hl_call 1001 233 [.ref 85, .int (nI c), .int (hl_tv wh)] (hl_g N I9 J9) = hl_Run 233 (hl_call 1000) 31 [.ref 85, .int (nI c), .int (hl_tv wh), .long (hx_ol p), .null, .null, .null] [] (hl_g N I3 J3) ∧ (p ≠ none → ∀ c, c < N → I3 102 c = nI (hr c)) ∧ hx_fR I9 I3 := fun I9 J9 hv => by
        obtain ⟨I3, J3, e3, r3, f3, j3⟩ := hx_least1 (d := 993) (J := J9) R hv ch S
        have eM : I9 85 2 = nI N := by rw [hv.1 2 (by omega)]; exact R.1.mM
        have k153' := hl_s153 (d := 998) (N := N) (I := I9) (J := J9) (x := nI c) eM bN
        rw [bc] at k153'
        have e86 : I9 86 0 = nI nh := by rw [hv.2.1]; exact R.2.2.2.1.2.2.1
        have s231 := hx_s231 (d := 999) (N := N) (I := I9) (J := J9) e86 h4
        refine ⟨I3, J3, ?_, r3, f3⟩
        rw [hl_e233 (d := 1000)]
        simp only [hl_r233_0, hl_r233_1, hl_r233_2, hl_r233_5, hl_r233_8, hl_r233_9, hl_r233_12, hl_r233_13, hl_r233_14, hl_r233_17, hl_r233_18, hl_r233_19, hl_r233_20, hl_r233_21, hl_r233_24, hl_r233_25, hl_r233_26, hl_r233_27, hl_r233_30, hl_o_85, hl_p_85_3, hl_p_85_4, hl_p_85_5, hl_p_85_6, hl_p_85_19, hl_p_85_23, hl_p_85_24, hl_p_85_25, hl_p_85_26, hl_p_85_27, hl_p_85_28, hl_p_85_29, hl_p_85_30, hl_p_85_31, hl_p_85_33, hl_p_85_34, hl_p_85_35, hl_p_85_36, hl_p_85_37, hl_a_86, hl_z_86, hl_k0, hl_v0, k153', hl_tv_t, hl_10, e86, n0, s231, e3, hl_tl_n, hl_kill_i, hl_kill_r, hl_kill_n, hl_kill_l, hl_tl_s, hl_tl_n, hl_cal_some, hl_gI, hl_gJ, hl_gsI, hl_gsJ, hl_tv01, if_true, if_false, hl_up_a, hl_row_a, not_true, not_false_eq_true]
      cases p with
      | none =>
        obtain ⟨I3, J3, e3, -, f3⟩ := first I2 J2 f2.tm.vw
        refine ⟨-1, I2, J2, I3, J3, ?_, ?_, hl_Tm_tr tm f2.tm, f2.pu R.2.2.2.2.2, f3.tm, f3.lo (by omega), f3.lo (by omega)⟩
        · rw [hx_oi_n]
          simp only [hl_r121_42, hl_r121_43, hl_r121_44, hl_r121_47, hl_r121_48, hl_kill_i, hl_kill_r, hl_kill_n, hl_kill_l, hl_tl_s, hl_tl_n, hl_cal_some, hl_gI, hl_gJ, hl_gsI, hl_gsJ, hl_tv01, if_true, if_false, hl_up_a, hl_row_a, not_true, not_false_eq_true]
        · rw [e3]
          simp only [hl_r233_31, hl_r233_32, hl_r233_33, hl_r233_34, hl_r233_37, hl_r233_38, hl_lcmp_ge0, hx_ol_n0, hl_kill_i, hl_kill_r, hl_kill_n, hl_kill_l, hl_tl_s, hl_tl_n, hl_cal_some, hl_gI, hl_gJ, hl_gsI, hl_gsJ, hl_tv01, if_true, if_false, hl_up_a, hl_row_a, not_true, not_false_eq_true]
      | some n =>
        have nB := hx_Sol_B S
        have n1 : ¬ nI n = -1 := hx_ni1 (by omega)
        have o1 := hx_ol_s0 nB
        have q79 := r2 (fun q => by cases q) c hc
        obtain ⟨I3, J3, p2, hr2, S2, e3, r3, f3, -⟩ := hx_solve1 (d := 996) (J := J2) (wh := wh) (x := nI c) (y := nI (hr c)) (s := nI (2 ^ nh - 1)) R (.inl f2) ch
        obtain ⟨I4, J4, e4, r4, f4⟩ := first I3 J3 f3.tm.vw
        have q102 := r4 (fun q => by cases q) c hc
        have v4 : hl_vw I1 I4 := hl_vw_tr f3.tm.vw f4.tm.vw
        obtain ⟨I5, J5, e5, -, f5, -⟩ := hx_least1 (d := 993) (J := J4) R v4 ch S2
        have s231 := hx_s231 (d := 999) (N := N) (I := I4) (J := J4) (by rw [v4.2.1]; exact R.2.2.2.1.2.2.1) h4
        have f45 := hx_fR_tr f4 f5
        cases p2 with
        | none =>
          refine ⟨-1, I3, J3, I5, J5, ?_, ?_, hl_Tm_tr tm f3.tm, f3.pu R.2.2.2.2.2, f45.tm, f45.lo (by omega), f45.lo (by omega)⟩
          · rw [hx_oi_s]
            rw [hx_oi_n] at e3
            simp only [hl_r121_42, hl_r121_43, hl_r121_44, hl_r121_47, hl_r121_48, hl_r121_49, hl_r121_50, hl_r121_53, hl_r121_54, hl_r121_57, hl_r121_58, hl_r121_59, hl_r121_60, hl_r121_63, hl_r121_66, hl_r121_67, hl_r121_68, hl_r121_71, hl_r121_73, hl_r121_75, hl_r121_76, hl_r121_79, hl_r121_80, hl_r121_83, hl_r121_85, hl_r121_86, hl_r121_87, hl_o_0, hl_p_0_3, hl_p_0_4, hl_p_0_5, hl_p_0_7, hl_p_0_8, hl_p_0_9, hl_p_0_10, hl_p_0_11, hl_p_0_12, hl_p_0_13, hl_p_0_14, hl_p_0_15, hl_o_68, hl_p_68_0, hl_p_68_1, hl_p_68_2, hl_p_68_3, hl_p_68_4, hl_p_68_5, hl_a_79, hl_z_79, n1, s141', bc, hl_cq (show c < 10000 by omega), q79, e3, hl_kill_i, hl_kill_r, hl_kill_n, hl_kill_l, hl_tl_s, hl_tl_n, hl_cal_some, hl_gI, hl_gJ, hl_gsI, hl_gsJ, hl_tv01, if_true, if_false, hl_up_a, hl_row_a, not_true, not_false_eq_true]
          · rw [e4]
            simp only [hl_r233_31, hl_r233_32, hl_r233_33, hl_r233_34, hl_r233_37, hl_r233_38, hl_r233_39, hl_r233_40, hl_r233_41, hl_r233_44, hl_r233_45, hl_r233_46, hl_r233_47, hl_r233_50, hl_r233_51, hl_r233_52, hl_r233_55, hl_r233_57, hl_r233_59, hl_r233_60, hl_r233_61, hl_r233_64, hl_r233_65, hl_r233_68, hl_r233_70, hl_r233_71, hl_r233_72, hl_r233_73, hl_o_85, hl_p_85_3, hl_p_85_4, hl_p_85_5, hl_p_85_6, hl_p_85_19, hl_p_85_23, hl_p_85_24, hl_p_85_25, hl_p_85_26, hl_p_85_27, hl_p_85_28, hl_p_85_29, hl_p_85_30, hl_p_85_31, hl_p_85_33, hl_p_85_34, hl_p_85_35, hl_p_85_36, hl_p_85_37, hl_a_102, hl_z_102, hl_lcmp_ge0, o1, s231, b24, hl_cq (show c < 10000 by omega), q102, e5, hx_ol_n0, hl_kill_i, hl_kill_r, hl_kill_n, hl_kill_l, hl_tl_s, hl_tl_n, hl_cal_some, hl_gI, hl_gJ, hl_gsI, hl_gsJ, hl_tv01, if_true, if_false, hl_up_a, hl_row_a, not_true, not_false_eq_true]
        | some n2 =>
          have nB2 := hx_Sol_B S2
          have n12 : ¬ nI n2 = -1 := hx_ni1 (by omega)
          have o12 := hx_ol_s0 nB2
          have osb := hx_ol_sub nB2 nB
          refine ⟨nI n2 - nI n, I3, J3, I5, J5, ?_, ?_, hl_Tm_tr tm f3.tm, f3.pu R.2.2.2.2.2, f45.tm, f45.lo (by omega), f45.lo (by omega)⟩
          · rw [hx_oi_s]
            rw [hx_oi_s] at e3
            simp only [hl_r121_42, hl_r121_43, hl_r121_44, hl_r121_47, hl_r121_48, hl_r121_49, hl_r121_50, hl_r121_53, hl_r121_54, hl_r121_57, hl_r121_58, hl_r121_59, hl_r121_60, hl_r121_63, hl_r121_66, hl_r121_67, hl_r121_68, hl_r121_71, hl_r121_73, hl_r121_75, hl_r121_76, hl_r121_79, hl_r121_80, hl_r121_83, hl_r121_85, hl_r121_86, hl_r121_87, hl_o_0, hl_p_0_3, hl_p_0_4, hl_p_0_5, hl_p_0_7, hl_p_0_8, hl_p_0_9, hl_p_0_10, hl_p_0_11, hl_p_0_12, hl_p_0_13, hl_p_0_14, hl_p_0_15, hl_o_68, hl_p_68_0, hl_p_68_1, hl_p_68_2, hl_p_68_3, hl_p_68_4, hl_p_68_5, hl_a_79, hl_z_79, n1, n12, s141', bc, hl_cq (show c < 10000 by omega), q79, e3, hl_kill_i, hl_kill_r, hl_kill_n, hl_kill_l, hl_tl_s, hl_tl_n, hl_cal_some, hl_gI, hl_gJ, hl_gsI, hl_gsJ, hl_tv01, if_true, if_false, hl_up_a, hl_row_a, not_true, not_false_eq_true]
          · rw [e4]
            simp only [hl_r233_31, hl_r233_32, hl_r233_33, hl_r233_34, hl_r233_37, hl_r233_38, hl_r233_39, hl_r233_40, hl_r233_41, hl_r233_44, hl_r233_45, hl_r233_46, hl_r233_47, hl_r233_50, hl_r233_51, hl_r233_52, hl_r233_55, hl_r233_57, hl_r233_59, hl_r233_60, hl_r233_61, hl_r233_64, hl_r233_65, hl_r233_68, hl_r233_70, hl_r233_71, hl_r233_72, hl_r233_73, hl_o_85, hl_p_85_3, hl_p_85_4, hl_p_85_5, hl_p_85_6, hl_p_85_19, hl_p_85_23, hl_p_85_24, hl_p_85_25, hl_p_85_26, hl_p_85_27, hl_p_85_28, hl_p_85_29, hl_p_85_30, hl_p_85_31, hl_p_85_33, hl_p_85_34, hl_p_85_35, hl_p_85_36, hl_p_85_37, hl_a_102, hl_z_102, hl_lcmp_ge0, o1, o12, s231, b24, hl_cq (show c < 10000 by omega), q102, e5, osb, hl_kill_i, hl_kill_r, hl_kill_n, hl_kill_l, hl_tl_s, hl_tl_n, hl_cal_some, hl_gI, hl_gJ, hl_gsI, hl_gsJ, hl_tv01, if_true, if_false, hl_up_a, hl_row_a, not_true, not_false_eq_true]
end HXBEST
