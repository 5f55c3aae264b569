/-! the reference's flow: reach and pour until the sink is not reached -/
section HLRF
variable {d N : Nat} {I I' : Nat → Nat → Int32} {J J' : Nat → Nat → Int64} {r : Nat → Int} {D : Nat → Nat} {Bd : Int}
theorem hl_MC_R {C : (Nat → Bool) → Int} {F : Int} (hR : hl_Rq J Bd r) (hI : ∀ S, S 0 = true → S 1 = false → F + hl_fM 5476 (fun p => p / 74) (fun p => p % 74) r S = C S) (hF : hl_bF 5476 74 hl_sR hl_dR (hl_rR r) D) (z : ¬ 0 < D 1) : hl_MC C F (hl_Rs 74 D) := by
  refine hl_MC_of hI (fun q hq => (hR q hq).2.1) (hl_Rs_iff.mpr ⟨by omega, by rw [hF.1]; omega⟩) ?_ ?_ ?_
  · cases y : hl_Rs 74 D 1 with
    | false => rfl
    | true => exact absurd (hl_Rs_iff.mp y).2 z
  · intro i hi h h'
    have e1 : hl_sR (74 * (i / 74) + (73 - i % 74)) = i / 74 := by unfold hl_sR; omega
    have e2 : hl_dR (74 * (i / 74) + (73 - i % 74)) = i % 74 := by unfold hl_dR; omega
    have e3 : hl_rR r (74 * (i / 74) + (73 - i % 74)) = r i := by
      unfold hl_rR
      exact congrArg r (by omega)
    have k := hF.2.2.2.2 (74 * (i / 74) + (73 - i % 74)) (by omega)
    rw [e1, e2, e3] at k
    exact hl_Rs_iff.mpr ⟨by show i % 74 < 74; omega, (k (hl_Rs_iff.mp h).2 h').1⟩
  · intro X X0 Xc u hu
    refine hF.2.2.1 X X0 (fun p hp h1 h2 => ?_) u (hl_Rs_iff.mp hu).1 (hl_Rs_iff.mp hu).2
    have e1 : (74 * (p / 74) + (73 - p % 74)) / 74 = p / 74 := by omega
    have e2 : (74 * (p / 74) + (73 - p % 74)) % 74 = 73 - p % 74 := by omega
    have k := Xc (74 * (p / 74) + (73 - p % 74)) (by omega)
    have k' : X ((74 * (p / 74) + (73 - p % 74)) / 74) = true → 0 < r (74 * (p / 74) + (73 - p % 74)) → X ((74 * (p / 74) + (73 - p % 74)) % 74) = true := k
    rw [e1, e2] at k'
    exact k' h1 h2
theorem hl_l230r {C : (Nat → Bool) → Int} {S0 : Nat → Bool} {l1 l2 l3 l4 l8 l9 : Value} {gv : Int32} (s0 : S0 0 = true) (s1 : S0 1 = false) (hC : C S0 ≤ 1000000000000000) (hB : Bd ≤ 1000000000000000) (n : Nat) : ∀ (I : Nat → Nat → Int32) (J : Nat → Nat → Int64) (r : Nat → Int) (F : Int64), hl_Rq J Bd r → 0 ≤ F.toInt → (∀ S, S 0 = true → S 1 = false → F.toInt + hl_fM 5476 (fun p => p / 74) (fun p => p % 74) r S = C S) → C S0 - F.toInt ≤ n → ∃ I' J' F' D r', hl_Run 230 (hl_call (d + 1)) 276 [.ref 85, l1, l2, l3, l4, .int gv, .long F, .null, l8, l9] [] (hl_g N I J) = hl_Run 230 (hl_call (d + 1)) 295 [.ref 85, l1, l2, l3, l4, .int gv, .long F', .null, l8, l9] [] (hl_g N I' J') ∧ hl_MC C F'.toInt (hl_Rs 74 D) ∧ hl_FE I' r' D ∧ hl_fQ I I' ∧ ∀ q, q ≠ 96 → J' q = J q := by
  induction n with
  | zero =>
    intro I J r F hR hF0 hF hn
    obtain ⟨I1, D, e1, g1, g2, g3⟩ := hl_s227 (d := d) (N := N) (I := I) (J := J) (r := r) (fun p hp => (hR p hp).1)
    by_cases z : 0 < D 1
    · exfalso
      obtain ⟨J2, r2, x, e2, x0, x1, R2, k2, k3⟩ := hl_s228 (d := d) (N := N) g2 hR hB (g1.2.1 1 (by decide)) z
      have nn := hl_fM_nn (sr := fun p => p / 74) (ds := fun p => p % 74) (S := S0) (r := r2) (n := 5476) (fun q hq => (R2 q hq).2.1)
      have a := hF S0 s0 s1
      have b := k2 S0
      have sg0 : hl_sg S0 0 - hl_sg S0 1 = 1 := by unfold hl_sg; rw [s0, s1]; rfl
      rw [sg0, Int.mul_one] at b
      rw [b] at nn
      have hn' : C S0 - F.toInt ≤ 0 := hn
      generalize hl_fM 5476 (fun p => p / 74) (fun p => p % 74) r S0 = A at a nn
      omega
    · rw [decide_eq_false z] at e1
      refine ⟨I1, J, F, D, r, ?_, hl_MC_R hR hF g1 z, g2, g3, fun _ _ => rfl⟩
      simp only [hl_r230_276, hl_r230_277, hl_r230_280, hl_o_85, hl_p_85_3, hl_p_85_4, hl_p_85_5, hl_p_85_6, hl_p_85_19, hl_p_85_23, hl_p_85_24, hl_p_85_25, hl_p_85_26, hl_p_85_27, hl_p_85_28, hl_p_85_29, hl_p_85_30, hl_p_85_31, hl_p_85_33, hl_p_85_34, hl_p_85_35, hl_p_85_36, hl_p_85_37, e1, hl_tv_f, hl_kill_i, hl_kill_r, hl_kill_n, hl_kill_l, hl_tl_s, hl_tl_n, hl_cal_some, hl_gI, hl_gJ, hl_gsI, hl_gsJ, hl_tv01, if_true, if_false, hl_up_a, hl_row_a]
  | succ n ih =>
    intro I J r F hR hF0 hF hn
    obtain ⟨I1, D, e1, g1, g2, g3⟩ := hl_s227 (d := d) (N := N) (I := I) (J := J) (r := r) (fun p hp => (hR p hp).1)
    by_cases z : 0 < D 1
    · obtain ⟨J2, r2, x, e2, x0, x1, R2, k2, k3⟩ := hl_s228 (d := d) (N := N) g2 hR hB (g1.2.1 1 (by decide)) z
      have nn := hl_fM_nn (sr := fun p => p / 74) (ds := fun p => p % 74) (S := S0) (r := r2) (n := 5476) (fun q hq => (R2 q hq).2.1)
      have sg0 : ∀ S : Nat → Bool, S 0 = true → S 1 = false → hl_sg S 0 - hl_sg S 1 = 1 := fun S a b => by unfold hl_sg; rw [a, b]; rfl
      have inv : ∀ S, S 0 = true → S 1 = false → F.toInt + x.toInt + hl_fM 5476 (fun p => p / 74) (fun p => p % 74) r2 S = C S := fun S a b => by
        have k := k2 S
        rw [sg0 S a b, Int.mul_one] at k
        have h := hF S a b
        rw [k]
        generalize hl_fM 5476 (fun p => p / 74) (fun p => p % 74) r S = A at h
        omega
      have i0 := inv S0 s0 s1
      have bnd : F.toInt + x.toInt ≤ C S0 := by
        generalize hl_fM 5476 (fun p => p / 74) (fun p => p % 74) r2 S0 = A at i0 nn
        omega
      have efl : (F + x).toInt = F.toInt + x.toInt := by rw [Int64.toInt_add, Int.bmod_eq_of_le (by omega) (by omega)]
      obtain ⟨I3, J3, F3, D3, r3, e3, m1, m2, m3, m4⟩ := ih I1 J2 r2 (F + x) R2 (by omega) (fun S a b => by rw [efl]; exact inv S a b) (by rw [efl]; omega)
      refine ⟨I3, J3, F3, D3, r3, ?_, m1, m2, hl_fQ_tr g3 m3, fun q hq => by rw [m4 q hq, k3 q hq]⟩
      rw [decide_eq_true z] at e1
      rw [← e3, hl_r230_276]
      simp only [hl_r230_277, hl_r230_280, hl_r230_283, hl_r230_285, hl_r230_286, hl_r230_289, hl_r230_290, hl_r230_292, hl_o_85, hl_p_85_3, hl_p_85_4, hl_p_85_5, hl_p_85_6, hl_p_85_19, hl_p_85_23, hl_p_85_24, hl_p_85_25, hl_p_85_26, hl_p_85_27, hl_p_85_28, hl_p_85_29, hl_p_85_30, hl_p_85_31, hl_p_85_33, hl_p_85_34, hl_p_85_35, hl_p_85_36, hl_p_85_37, e1, e2, hl_tv_t, hl_10, hl_kill_i, hl_kill_r, hl_kill_n, hl_kill_l, hl_tl_s, hl_tl_n, hl_cal_some, hl_gI, hl_gJ, hl_gsI, hl_gsJ, hl_tv01, if_true, if_false, hl_up_a, hl_row_a]
      try rw [hl_r230_276]
    · rw [decide_eq_false z] at e1
      refine ⟨I1, J, F, D, r, ?_, hl_MC_R hR hF g1 z, g2, g3, fun _ _ => rfl⟩
      simp only [hl_r230_276, hl_r230_277, hl_r230_280, hl_o_85, hl_p_85_3, hl_p_85_4, hl_p_85_5, hl_p_85_6, hl_p_85_19, hl_p_85_23, hl_p_85_24, hl_p_85_25, hl_p_85_26, hl_p_85_27, hl_p_85_28, hl_p_85_29, hl_p_85_30, hl_p_85_31, hl_p_85_33, hl_p_85_34, hl_p_85_35, hl_p_85_36, hl_p_85_37, e1, hl_tv_f, hl_kill_i, hl_kill_r, hl_kill_n, hl_kill_l, hl_tl_s, hl_tl_n, hl_cal_some, hl_gI, hl_gJ, hl_gsI, hl_gsJ, hl_tv01, if_true, if_false, hl_up_a, hl_row_a]
end HLRF
