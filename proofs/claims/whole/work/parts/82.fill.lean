/-! fill: phases until the sink is not reached -/
section HLFILL
variable {d N : Nat} {I I' : Nat → Nat → Int32} {J J' : Nat → Nat → Int64} {nd np : Nat} {sr ds : Nat → Nat} {r r0 : Nat → Int} {D D2 : Nat → Nat}
theorem hl_phA (hds : ∀ p, p < np → ds p < nd ∧ sr p < nd) (hB : hl_bF np nd sr ds r0 D) (h1 : hl_jv1 np sr ds r0 D r) (hB2 : hl_bF np nd sr ds r D2) (n : Nat) : ∀ u, u < nd → D2 u ≤ n → 0 < D2 u → 0 < D u ∧ D u ≤ D2 u := by
  induction n with
  | zero => intro u _ h h'; omega
  | succ n ih =>
    intro u hu hn hp
    by_cases z : u = 0
    · subst z
      have a := hB.1
      have b := hB2.1
      omega
    · obtain ⟨p, p1, p2, p3, p4, p5⟩ := hB2.2.2.2.1 u hu hp z
      obtain ⟨a, b⟩ := ih (sr p) (hds p p1).2 (by omega) p4
      rcases h1 p p1 p3 with q | ⟨q1, q2⟩
      · have := hB.2.2.2.2 p p1 a q
        rw [p2] at this
        omega
      · rw [p2] at q1 q2
        omega
theorem hl_phB (hds : ∀ p, p < np → ds p < nd ∧ sr p < nd) (hB : hl_bF np nd sr ds r0 D) (h1 : hl_jv1 np sr ds r0 D r) (hB2 : hl_bF np nd sr ds r D2) {dead : Nat → Bool} (hd : ∀ u, (u = 0 ∨ dead u = true) → ∀ p, p < np → sr p = u → ¬ hl_ub D dead sr ds r p) (n : Nat) : ∀ u, u < nd → D2 u ≤ n → 0 < D2 u → u ≠ 0 → D2 u = D u → dead u = true := by
  induction n with
  | zero => intro u _ h h'; omega
  | succ n ih =>
    intro u hu hn hp z e
    obtain ⟨p, p1, p2, p3, p4, p5⟩ := hB2.2.2.2.1 u hu hp z
    obtain ⟨a, b⟩ := hl_phA hds hB h1 hB2 n (sr p) (hds p p1).2 (by omega) p4
    have key : D (sr p) = D2 (sr p) ∧ D (ds p) = D (sr p) + 1 := by
      rcases h1 p p1 p3 with q | ⟨q1, q2⟩
      · have := hB.2.2.2.2 p p1 a q
        rw [p2] at this ⊢
        omega
      · rw [p2] at q1 q2
        omega
    have sd : sr p = 0 ∨ dead (sr p) = true := by
      by_cases y : sr p = 0
      · exact .inl y
      · exact .inr (ih (sr p) (hds p p1).2 (by omega) p4 y key.1.symm)
    have nub := hd (sr p) sd p p1 rfl
    cases w : dead u with
    | true => rfl
    | false => exact absurd ⟨p3, ⟨a, key.2⟩, by rw [p2]; exact w⟩ nub
theorem hl_phC (hn : 1 < nd) (hds : ∀ p, p < np → ds p < nd ∧ sr p < nd) (hB : hl_bF np nd sr ds r0 D) (hE : hl_pE np sr ds r0 D r) (hB2 : hl_bF np nd sr ds r D2) (h : 0 < D2 1) : D 1 < D2 1 := by
  obtain ⟨h1, dead, d1, hd⟩ := hE
  have a := (hl_phA hds hB h1 hB2 _ 1 hn (Nat.le_refl _) h).2
  by_cases e : D2 1 = D 1
  · have := hl_phB hds hB h1 hB2 hd _ 1 hn (Nat.le_refl _) h (by decide) e
    rw [d1] at this
    cases this
  · omega
theorem hl_s22 {S0 : Nat → Bool} (hPr : hl_Pr np sr ds) (hL : hl_NL I nd np sr ds) (hR : hl_Rm J np r) (hB : hl_bF np nd sr ds r D) (s0 : S0 0 = true) (s1 : S0 1 = false) (h74 : ∀ u, u < nd → I 74 u = hl_di (D u)) (h75 : ∀ u, u < nd → I 75 u = hl_lst sr u np) (hbd : hl_fM np sr ds r S0 ≤ 1000000000000000) : ∃ I' J' r' fl', hl_call (d + 2) 22 [.ref 69] (hl_g N I J) = some (some (.long fl'), hl_g N I' J') ∧ 0 ≤ fl'.toInt ∧ (∀ S, hl_fM np sr ds r' S = hl_fM np sr ds r S - fl'.toInt * (hl_sg S 0 - hl_sg S 1)) ∧ hl_NL I' nd np sr ds ∧ hl_Rm J' np r' ∧ hl_pE np sr ds r D r' ∧ hl_fP I I' ∧ ∀ q, q ≠ 73 → J' q = J q := by
  have z0 : (0 : Int64).toInt = 0 := rfl
  have c1 := hl_cnt_le (fun p => decide (0 < r p) && (decide (0 < D (sr p)) && decide (D (ds p) = D (sr p) + 1))) np
  have c2 := hl_cnt_le (fun u => !(fun _ : Nat => false) u) nd
  have n2 := hL.1
  obtain ⟨I1, J1, r1, fl, e, g1, g2, g3, g4, g5, g6, g7⟩ := hl_l22 (d := d) (N := N) (S0 := S0) (r0 := r) (D := D) hPr hB.1 hB.2.1 s0 s1 100000 I J r (fun _ => false) (fun _ => np) (fun _ => 0) 0 0 0 0 .null ⟨hL, hR, fun u hu => by rw [h74 u hu]; rfl, h75, fun j hj => by omega⟩ (fun p hp h => .inl h) (fun j hj => by omega) rfl hB.1 rfl (by omega) (fun u hu => ⟨Nat.le_refl _, fun p a b => by have a' : np ≤ p := a; omega⟩) (fun u hu => by cases hu) (by unfold hl_ph; omega) (by omega) (by rw [z0]; exact Int.le_refl _) (by rw [z0]; omega)
  refine ⟨I1, J1, r1, fl, ?_, by omega, fun S => by rw [g2 S, z0, Int.sub_zero], g3, g4, g5, g6, g7⟩
  rw [← e, hl_e22]
  simp only [hl_r22_0, hl_r22_1, hl_r22_2, hl_r22_3, hl_r22_4, hl_r22_5, hl_r22_7, hl_r22_8, hl_kill_i, hl_kill_r, hl_kill_n, hl_kill_l, hl_tl_s, hl_tl_n, hl_cal_some, hl_gI, hl_gJ, hl_gsI, hl_gsJ, hl_tv01, if_true, if_false, hl_up_a, hl_row_a]
  rfl
/-- what fill leaves -/
def hl_fE (I I' : Nat → Nat → Int32) : Prop := ∀ b, b ≠ 74 → b ≠ 75 → b ≠ 76 → b ≠ 77 → I' b = I b
theorem hl_fE_tr {I1 I2 I3 : Nat → Nat → Int32} (h : hl_fE I1 I2) (g : hl_fE I2 I3) : hl_fE I1 I3 := fun b h1 h2 h3 h4 => (g b h1 h2 h3 h4).trans (h b h1 h2 h3 h4)
def hl_Rs (nd : Nat) (D : Nat → Nat) : Nat → Bool := fun u => decide (u < nd) && decide (0 < D u)
theorem hl_Rs_iff {nd u : Nat} : hl_Rs nd D u = true ↔ u < nd ∧ 0 < D u := by unfold hl_Rs; rw [Bool.and_eq_true, decide_eq_true_eq, decide_eq_true_eq]
theorem hl_l18 {C : (Nat → Bool) → Int} {S0 : Nat → Bool} (hPr : hl_Pr np sr ds) (s0 : S0 0 = true) (s1 : S0 1 = false) (hC : C S0 ≤ 1000000000000000) (f : Nat) : ∀ (I : Nat → Nat → Int32) (J : Nat → Nat → Int64) (r : Nat → Int) (fl : Int64) (i : Nat), i + f = 73 → hl_NL I nd np sr ds → hl_Rm J np r → 0 ≤ fl.toInt → (∀ S, S 0 = true → S 1 = false → fl.toInt + hl_fM np sr ds r S = C S) → (∀ D, hl_bF np nd sr ds r D → 0 < D 1 → i + 2 ≤ D 1) → ∃ I' J' F D, hl_Run 18 (hl_call (d + 2)) 4 [.ref 69, .long fl, .null, .int (nI i)] [] (hl_g N I J) = some (some (.long F), hl_g N I' J') ∧ hl_NL I' nd np sr ds ∧ hl_MC C F.toInt (hl_Rs nd D) ∧ (∀ u, u < nd → I' 74 u = hl_di (D u)) ∧ (∀ u, u < nd → D u ≤ nd) ∧ hl_fE I I' ∧ ∀ q, q ≠ 73 → J' q = J q := by
  induction f with
  | zero =>
    intro I J r fl i hi hL hR hfl hF hD
    have hL' := hL
    obtain ⟨⟨n2, n74, n432⟩, h0, hnp, h72, h70, h71⟩ := hL
    obtain ⟨I1, D, e1, g1, g2, g3⟩ := hl_s20 (d := d) (N := N) hL' hR
    by_cases z : 0 < D 1
    · have := hD D g1 z
      have := g1.2.1 1 (by omega)
      omega
    · have c1 : ¬ (74 : Int32) ≤ nI i := show ¬ nI 74 ≤ nI i from nI_ge (by omega) (by omega)
      rw [decide_eq_false z] at e1
      refine ⟨I1, J, fl, D, ?_, hl_NL_f hL' (g3 69 (by decide) (by decide)) (g3 70 (by decide) (by decide)) (g3 71 (by decide) (by decide)) (g3 72 (by decide) (by decide)), hl_MC_of hF (fun q hq => (hR q hq).2.1) (hl_Rs_iff.mpr ⟨by omega, by rw [g1.1]; omega⟩) ?_ ?_ ?_, g2, g1.2.1, fun b b1 b2 b3 b4 => g3 b b1 b3, fun _ _ => rfl⟩
      · simp only [hl_r18_4, hl_r18_5, hl_r18_7, hl_r18_10, hl_r18_11, hl_r18_14, hl_r18_47, hl_r18_48, hl_o_69, hl_p_69_2, hl_p_69_3, hl_p_69_4, hl_p_69_5, hl_p_69_6, hl_p_69_7, hl_p_69_8, hl_p_69_9, c1, e1, hl_tv_f, hl_kill_i, hl_kill_r, hl_kill_n, hl_kill_l, hl_tl_s, hl_tl_n, hl_cal_some, hl_gI, hl_gJ, hl_gsI, hl_gsJ, hl_tv01, if_true, if_false, hl_up_a, hl_row_a]
      · cases y : hl_Rs nd D 1 with
        | false => rfl
        | true => exact absurd (hl_Rs_iff.mp y).2 z
      · intro p hp h h'
        exact hl_Rs_iff.mpr ⟨(h72 p hp).2.1, (g1.2.2.2.2 p hp (hl_Rs_iff.mp h).2 h').1⟩
      · intro X X0 Xc u hu
        exact g1.2.2.1 X X0 Xc u (hl_Rs_iff.mp hu).1 (hl_Rs_iff.mp hu).2
  | succ f ih =>
    intro I J r fl i hi hL hR hfl hF hD
    have hL' := hL
    obtain ⟨⟨n2, n74, n432⟩, h0, hnp, h72, h70, h71⟩ := hL
    have hds : ∀ p, p < np → ds p < nd ∧ sr p < nd := fun p hp => (h72 p hp).2
    obtain ⟨I1, D, e1, g1, g2, g3⟩ := hl_s20 (d := d) (N := N) hL' hR
    have c1 : ¬ (74 : Int32) ≤ nI i := show ¬ nI 74 ≤ nI i from nI_ge (by omega) (by omega)
    by_cases z : 0 < D 1
    · rw [decide_eq_true z] at e1
      have hL1 := hl_NL_f hL' (g3 69 (by decide) (by decide)) (g3 70 (by decide) (by decide)) (g3 71 (by decide) (by decide)) (g3 72 (by decide) (by decide))
      have cp := hl_cpd_of (I := I1) (a := 70) (b := 75) (n := nd)
      have ecp : hl_copy (hl_g N I1 J) 70 75 0 0 (nI nd) = hl_g N (hl_row I1 75 (va_cpy (I1 70) (I1 75) 0 0 nd)) J := by
        rw [hl_gcp, hl_v0, hl_cq (by omega)]
      generalize hl_row I1 75 (va_cpy (I1 70) (I1 75) 0 0 nd) = I2 at cp ecp
      have hL2 := hl_NL_f hL1 (cp.1 69 (by decide)) (cp.1 70 (by decide)) (cp.1 71 (by decide)) (cp.1 72 (by decide))
      have hF0 := hF S0 s0 s1
      obtain ⟨I3, J3, r3, fx, e3, k1, k2, k3, k4, k5, k6, k7⟩ := hl_s22 (d := d) (N := N) (S0 := S0) hPr hL2 hR g1 s0 s1 (fun u hu => by rw [cp.1 74 (by decide)]; exact g2 u hu) (fun u hu => by rw [cp.2 u hu, hL1.2.2.2.2.1 u hu]) (by omega)
      have nn := hl_fM_nn (sr := sr) (ds := ds) (S := S0) (r := r3) (n := np) (fun q hq => (k4 q hq).2.1)
      have sg0 : ∀ S : Nat → Bool, S 0 = true → S 1 = false → hl_sg S 0 - hl_sg S 1 = 1 := fun S a b => by unfold hl_sg; rw [a, b]; rfl
      have kS0 := k2 S0
      rw [sg0 S0 s0 s1, Int.mul_one] at kS0
      have efl : (fl + fx).toInt = fl.toInt + fx.toInt := by rw [Int64.toInt_add, Int.bmod_eq_of_le (by omega) (by omega)]
      have en : nI i + 1 = nI (i + 1) := (nI_succ i).symm
      obtain ⟨I4, J4, F, D4, e4, m1, m2, m3, m4, m5, m6⟩ := ih I3 J3 r3 (fl + fx) (i + 1) (by omega) k3 k4 (by omega) (fun S a b => by
        have := k2 S
        rw [sg0 S a b, Int.mul_one] at this
        have := hF S a b
        omega) (fun D' hD' h => by
        have := hl_phC (by omega) hds g1 k5 hD' h
        have := hD D g1 z
        omega)
      refine ⟨I4, J4, F, D4, ?_, m1, m2, m3, m4, hl_fE_tr (fun b b1 b2 b3 b4 => by rw [k6 b b1 b2 b4, cp.1 b b2, g3 b b1 b3]) m5, fun q hq => by rw [m6 q hq, k7 q hq]⟩
      rw [← e4, hl_r18_4]
      have h02 : I1 69 0 = nI nd := hL1.2.1
      have cb : nd ≤ 74 := n74
      simp only [hl_r18_5, hl_r18_7, hl_r18_10, hl_r18_11, hl_r18_14, hl_r18_17, hl_r18_18, hl_r18_21, hl_r18_22, hl_r18_23, hl_r18_26, hl_r18_27, hl_r18_28, hl_r18_31, hl_r18_34, hl_r18_35, hl_r18_36, hl_r18_39, hl_r18_40, hl_r18_41, hl_r18_44, hl_o_69, hl_p_69_2, hl_p_69_3, hl_p_69_4, hl_p_69_5, hl_p_69_6, hl_p_69_7, hl_p_69_8, hl_p_69_9, hl_a_70, hl_z_70, hl_a_75, hl_z_75, c1, e1, hl_tv_t, hl_10, h02, hl_nn0, hl_nnN (show nd < 2 ^ 31 by omega), hl_v0, hl_cq (show nd < 10000 by omega), Nat.zero_add, cb, not_false_eq_true, true_or, and_self, ecp, e3, en, hl_kill_i, hl_kill_r, hl_kill_n, hl_kill_l, hl_tl_s, hl_tl_n, hl_cal_some, hl_gI, hl_gJ, hl_gsI, hl_gsJ, hl_tv01, if_true, if_false, hl_up_a, hl_row_a]
    · rw [decide_eq_false z] at e1
      refine ⟨I1, J, fl, D, ?_, hl_NL_f hL' (g3 69 (by decide) (by decide)) (g3 70 (by decide) (by decide)) (g3 71 (by decide) (by decide)) (g3 72 (by decide) (by decide)), hl_MC_of hF (fun q hq => (hR q hq).2.1) (hl_Rs_iff.mpr ⟨by omega, by rw [g1.1]; omega⟩) ?_ ?_ ?_, g2, g1.2.1, fun b b1 b2 b3 b4 => g3 b b1 b3, fun _ _ => rfl⟩
      · simp only [hl_r18_4, hl_r18_5, hl_r18_7, hl_r18_10, hl_r18_11, hl_r18_14, hl_r18_47, hl_r18_48, hl_o_69, hl_p_69_2, hl_p_69_3, hl_p_69_4, hl_p_69_5, hl_p_69_6, hl_p_69_7, hl_p_69_8, hl_p_69_9, c1, e1, hl_tv_f, hl_kill_i, hl_kill_r, hl_kill_n, hl_kill_l, hl_tl_s, hl_tl_n, hl_cal_some, hl_gI, hl_gJ, hl_gsI, hl_gsJ, hl_tv01, if_true, if_false, hl_up_a, hl_row_a]
      · cases y : hl_Rs nd D 1 with
        | false => rfl
        | true => exact absurd (hl_Rs_iff.mp y).2 z
      · intro p hp h h'
        exact hl_Rs_iff.mpr ⟨(h72 p hp).2.1, (g1.2.2.2.2 p hp (hl_Rs_iff.mp h).2 h').1⟩
      · intro X X0 Xc u hu
        exact g1.2.2.1 X X0 Xc u (hl_Rs_iff.mp hu).1 (hl_Rs_iff.mp hu).2
theorem hl_s18 {C : (Nat → Bool) → Int} {S0 : Nat → Bool} (h : hl_NW I J nd np C) (s0 : S0 0 = true) (s1 : S0 1 = false) (hC : C S0 ≤ 1000000000000000) : ∃ I' J' F D, hl_call (d + 3) 18 [.ref 69] (hl_g N I J) = some (some (.long F), hl_g N I' J') ∧ (∃ sr ds, hl_NL I' nd np sr ds) ∧ hl_MC C F.toInt (hl_Rs nd D) ∧ (∀ u, u < nd → I' 74 u = hl_di (D u)) ∧ (∀ u, u < nd → D u ≤ nd) ∧ hl_fE I I' ∧ ∀ q, q ≠ 73 → J' q = J q := by
  obtain ⟨sr, ds, r, hL, hPr, hR, hF⟩ := h
  have z0 : (0 : Int64).toInt = 0 := rfl
  have n2 := hL.1.1
  obtain ⟨I1, J1, F, D, e, g1, g2, g3, g4, g5, g6⟩ := hl_l18 (d := d) (N := N) hPr s0 s1 hC 73 I J r 0 0 (by omega) hL hR (by rw [z0]; exact Int.le_refl _) (fun S _ _ => by rw [z0, Int.zero_add]; exact hF S) (fun D hD h => by
    obtain ⟨p, p1, p2, p3, p4, p5⟩ := hD.2.2.2.1 1 (by omega) h (by decide)
    omega)
  refine ⟨I1, J1, F, D, ?_, ⟨sr, ds, g1⟩, g2, g3, g4, g5, g6⟩
  rw [← e, hl_e18]
  simp only [hl_r18_0, hl_r18_1, hl_r18_2, hl_r18_3, hl_kill_i, hl_kill_r, hl_kill_n, hl_kill_l, hl_tl_s, hl_tl_n, hl_cal_some, hl_gI, hl_gJ, hl_gsI, hl_gsJ, hl_tv01, if_true, if_false, hl_up_a, hl_row_a]
  rfl
end HLFILL
