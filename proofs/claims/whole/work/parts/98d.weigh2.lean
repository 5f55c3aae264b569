/-! what the groups pay, in the reference -/
def hx_gs (gr : Nat → Nat) (m : Nat) (w : Nat → Nat → Int) (n q : Nat) : Int := hl_si n (fun c => if gr c = q / 4 ∧ q % 4 < m then w c (q % 4) else 0)
def hx_may (I : Nat → Nat → Int32) (al : Nat → Nat) (x y : Int32) (c k : Nat) : Prop := (I 7 c = -1 ∨ I 7 c = nI (al k)) ∧ ¬ (nI c = x ∧ nI (al k) = y)
noncomputable def hx_rw (I : Nat → Nat → Int32) (al : Nat → Nat) (x y : Int32) (c k : Nat) : Int := if (I 7 c = -1 ∨ I 7 c = nI (al k)) ∧ ¬ (nI c = x ∧ nI (al k) = y) then (hl_pay I c (al k)).toInt else 1000000000
theorem hx_gs_B {gr : Nat → Nat} {m : Nat} {w : Nat → Nat → Int} {n : Nat} (h : ∀ c k, c < n → k < m → 0 ≤ w c k ∧ w c k ≤ 1000000000) (q : Nat) : 0 ≤ hx_gs gr m w n q ∧ hx_gs gr m w n q ≤ (n : Int) * 1000000000 := by
  refine hl_si_B n (fun c hc => ?_)
  split
  · next z => exact h c _ hc z.2
  · omega
theorem hx_gq_gs {I : Nat → Nat → Int32} {wh : Bool} {m : Nat} {al : Nat → Nat} {x y : Int32} {n q : Nat} {w : Nat → Nat → Int} (h : ∀ c k, c < n → k < m → hl_cw I al x y c k = w c k) : hl_gq I wh m al x y n q = hx_gs (hl_gr I wh) m w n q := by
  refine hl_si_congr n (fun c hc => ?_)
  by_cases z : hl_gr I wh c = q / 4 ∧ q % 4 < m
  · rw [if_pos z, if_pos z]; exact h c _ hc z.2
  · rw [if_neg z, if_neg z]
section HXWEI
variable {d N W H m nh : Nat} {I Is I0 I' : Nat → Nat → Int32} {J J' : Nat → Nat → Int64} {wh : Bool} {al gr : Nat → Nat} {x y s : Int32}
theorem hx_pay_B (hCo : hl_Co N W H Is) (hN : N ≤ 24) {c h : Nat} (hc : c < N) (hh : (h : Int) < hl_Sv Is 86 0) : 0 ≤ (hl_pay Is c h).toInt ∧ (hl_pay Is c h).toInt ≤ 4315680 := by
  have := hl_sum_B (f := fun m => hl_inM Is c h m (hl_offv Is c h (hl_sm Is m))) (B := 359640) 12 (fun k hk => hl_inM_B hCo hN hc (hl_offB2 hCo hN hc hh _)) (by omega)
  have e : ((12 * 359640 : Nat) : Int) = 4315680 := rfl
  rw [e] at this
  exact this
theorem hx_rw_B (hCo : hl_Co N W H Is) (hN : N ≤ 24) {c k : Nat} (hc : c < N) (hh : (al k : Int) < hl_Sv Is 86 0) : 0 ≤ hx_rw Is al x y c k ∧ hx_rw Is al x y c k ≤ 1000000000 := by
  have := hx_pay_B hCo hN hc hh
  unfold hx_rw
  split <;> omega
theorem hx_l230j {c : Nat} {l9 : Value} {gv : Int32} (hCo : hl_Co N W H Is) (hN : N ≤ 24) (hs : hl_Sv Is 86 0 = (nh : Int)) (hc : c < N) (h4 : m ≤ 4) (hv : hl_vw Is I0) (hm : I0 85 32 = nI m) (hal : ∀ k, k < m → I0 99 k = nI (al k) ∧ al k < nh) (hgr : I0 100 c = nI (gr c) ∧ gr c < 24) (f : Nat) : ∀ (I : Nat → Nat → Int32) (J : Nat → Nat → Int64) (k : Nat) (l8 : Value), k + f = m → hl_r9 I0 I → (∀ q, q < 96 → (J 101 q).toInt = hx_gs gr m (hx_rw Is al x y) c q + (if gr c = q / 4 ∧ q % 4 < k then hx_rw Is al x y c (q % 4) else 0)) → ∃ I' J' m8, hl_Run 230 (hl_call (d + 6)) 104 [.ref 85, .int s, .int (hl_tv wh), .int x, .int y, .int gv, .int (nI c), .int (nI k), l8, l9] [] (hl_g N I J) = hl_Run 230 (hl_call (d + 6)) 216 [.ref 85, .int s, .int (hl_tv wh), .int x, .int y, .int gv, .int (nI c), .int (nI m), m8, l9] [] (hl_g N I' J') ∧ hl_r9 I0 I' ∧ (∀ q, q < 96 → (J' 101 q).toInt = hx_gs gr m (hx_rw Is al x y) (c + 1) q) ∧ ∀ q, q ≠ 92 → q ≠ 101 → J' q = J q := by
  have n4 : nh ≤ 4 := by have := hCo.2.1.2.1.2; omega
  obtain ⟨hg1, hg2⟩ := hgr
  obtain ⟨kp1, kp2⟩ := hCo.kept hN hs hc
  induction f with
  | zero =>
    intro I J k l8 hk r hJ
    obtain rfl : k = m := by omega
    refine ⟨I, J, l8, ?_, r, fun q hq => hJ q hq, fun _ _ _ => rfl⟩
    have em : I 85 32 = nI k := by rw [r 85 (by decide) (by decide)]; exact hm
    simp only [hl_r230_104, hl_r230_106, hl_r230_107, hl_r230_110, hl_o_85, hl_p_85_3, hl_p_85_4, hl_p_85_5, hl_p_85_6, hl_p_85_19, hl_p_85_23, hl_p_85_24, hl_p_85_25, hl_p_85_26, hl_p_85_27, hl_p_85_28, hl_p_85_29, hl_p_85_30, hl_p_85_31, hl_p_85_33, hl_p_85_34, hl_p_85_35, hl_p_85_36, hl_p_85_37, em, Int32.le_refl, hl_kill_i, hl_kill_r, hl_kill_n, hl_kill_l, hl_tl_s, hl_tl_n, hl_cal_some, hl_gI, hl_gJ, hl_gsI, hl_gsJ, hl_tv01, if_true, if_false, hl_up_a, hl_row_a]
  | succ f ih =>
    intro I J k l8 hk r hJ
    have c1 : ¬ nI m ≤ nI k := nI_ge (by omega) (by omega)
    have en : nI k + 1 = nI (k + 1) := (nI_succ k).symm
    obtain ⟨a1, a2⟩ := hal k (by omega)
    have em : I 85 32 = nI m := by rw [r 85 (by decide) (by decide)]; exact hm
    have ea : I 99 k = nI (al k) := by rw [r 99 (by decide) (by decide)]; exact a1
    have eg : I 100 c = nI (gr c) := by rw [r 100 (by decide) (by decide)]; exact hg1
    have vI : hl_vw Is I := hl_vw_tr hv r.vw
    have o5 := hl_of5 (d := d + 5) (N := N) (I := I) (J := J) (c := c) (by omega)
    rw [vI.2.1, ← kp1] at o5
    have bk : hl_inb (nI k) 4 = true := hl_inb_nI (by omega) (by decide)
    have bc : hl_inb (nI c) 24 = true := hl_inb_nI (by omega) (by decide)
    have hah : (al k : Int) < hl_Sv Is 86 0 := by omega
    -- whether it may
    have seg : hl_Run 230 (hl_call (d + 6)) 104 [.ref 85, .int s, .int (hl_tv wh), .int x, .int y, .int gv, .int (nI c), .int (nI k), l8, l9] [] (hl_g N I J) = hl_Run 230 (hl_call (d + 6)) 165 [.ref 85, .int s, .int (hl_tv wh), .int x, .int y, .int gv, .int (nI c), .int (nI k), .int (hl_tv (decide ((Is 7 c = -1 ∨ Is 7 c = nI (al k)) ∧ ¬ (nI c = x ∧ nI (al k) = y)))), l9] [] (hl_g N I J) := by
      have seg2 : ∀ p : Prop, ∀ _ : Decidable p, p → hl_Run 230 (hl_call (d + 6)) 140 [.ref 85, .int s, .int (hl_tv wh), .int x, .int y, .int gv, .int (nI c), .int (nI k), l8, l9] [] (hl_g N I J) = hl_Run 230 (hl_call (d + 6)) 165 [.ref 85, .int s, .int (hl_tv wh), .int x, .int y, .int gv, .int (nI c), .int (nI k), .int (hl_tv (decide (p ∧ ¬ (nI c = x ∧ nI (al k) = y)))), l9] [] (hl_g N I J) := fun p _ hp => by
        by_cases A : nI c = x
        · by_cases B : nI (al k) = y
          · rw [decide_eq_false (fun z => z.2 ⟨A, B⟩)]
            simp only [hl_r230_140, hl_r230_142, hl_r230_143, hl_r230_146, hl_r230_147, hl_r230_150, hl_r230_152, hl_r230_153, hl_r230_155, hl_r230_158, hl_r230_159, hl_r230_162, hl_r230_163, hl_o_85, hl_p_85_3, hl_p_85_4, hl_p_85_5, hl_p_85_6, hl_p_85_19, hl_p_85_23, hl_p_85_24, hl_p_85_25, hl_p_85_26, hl_p_85_27, hl_p_85_28, hl_p_85_29, hl_p_85_30, hl_p_85_31, hl_p_85_33, hl_p_85_34, hl_p_85_35, hl_p_85_36, hl_p_85_37, hl_a_99, hl_z_99, bk, hl_cq (show k < 10000 by omega), ea, eq_true A, eq_true B, not_true, hl_tv_f, hl_kill_i, hl_kill_r, hl_kill_n, hl_kill_l, hl_tl_s, hl_tl_n, hl_cal_some, hl_gI, hl_gJ, hl_gsI, hl_gsJ, hl_tv01, if_true, if_false, hl_up_a, hl_row_a]
          · rw [decide_eq_true ⟨hp, fun z => B z.2⟩]
            simp only [hl_r230_140, hl_r230_142, hl_r230_143, hl_r230_146, hl_r230_147, hl_r230_150, hl_r230_152, hl_r230_153, hl_r230_155, hl_r230_158, hl_r230_159, hl_r230_162, hl_r230_163, hl_o_85, hl_p_85_3, hl_p_85_4, hl_p_85_5, hl_p_85_6, hl_p_85_19, hl_p_85_23, hl_p_85_24, hl_p_85_25, hl_p_85_26, hl_p_85_27, hl_p_85_28, hl_p_85_29, hl_p_85_30, hl_p_85_31, hl_p_85_33, hl_p_85_34, hl_p_85_35, hl_p_85_36, hl_p_85_37, hl_a_99, hl_z_99, bk, hl_cq (show k < 10000 by omega), ea, eq_true A, eq_false B, not_true, not_false_eq_true, hl_tv_t, hl_kill_i, hl_kill_r, hl_kill_n, hl_kill_l, hl_tl_s, hl_tl_n, hl_cal_some, hl_gI, hl_gJ, hl_gsI, hl_gsJ, hl_tv01, if_true, if_false, hl_up_a, hl_row_a]
        · rw [decide_eq_true ⟨hp, fun z => A z.1⟩]
          simp only [hl_r230_140, hl_r230_142, hl_r230_143, hl_r230_146, hl_r230_147, hl_r230_150, hl_r230_152, hl_r230_153, hl_r230_155, hl_r230_158, hl_r230_159, hl_r230_162, hl_r230_163, hl_o_85, hl_p_85_3, hl_p_85_4, hl_p_85_5, hl_p_85_6, hl_p_85_19, hl_p_85_23, hl_p_85_24, hl_p_85_25, hl_p_85_26, hl_p_85_27, hl_p_85_28, hl_p_85_29, hl_p_85_30, hl_p_85_31, hl_p_85_33, hl_p_85_34, hl_p_85_35, hl_p_85_36, hl_p_85_37, hl_a_99, hl_z_99, bk, hl_cq (show k < 10000 by omega), ea, eq_false A, not_false_eq_true, hl_tv_t, hl_kill_i, hl_kill_r, hl_kill_n, hl_kill_l, hl_tl_s, hl_tl_n, hl_cal_some, hl_gI, hl_gJ, hl_gsI, hl_gsJ, hl_tv01, if_true, if_false, hl_up_a, hl_row_a]
      rcases kp2 with q | ⟨h, h1, q⟩
      · rw [← seg2 (Is 7 c = -1 ∨ Is 7 c = nI (al k)) _ (.inl q)]
        have c2 : (-1 : Int32) < 0 := by decide
        rw [q] at o5
        simp only [hl_r230_104, hl_r230_106, hl_r230_107, hl_r230_110, hl_r230_113, hl_r230_114, hl_r230_116, hl_r230_117, hl_r230_120, hl_o_85, hl_p_85_3, hl_p_85_4, hl_p_85_5, hl_p_85_6, hl_p_85_19, hl_p_85_23, hl_p_85_24, hl_p_85_25, hl_p_85_26, hl_p_85_27, hl_p_85_28, hl_p_85_29, hl_p_85_30, hl_p_85_31, hl_p_85_33, hl_p_85_34, hl_p_85_35, hl_p_85_36, hl_p_85_37, em, c1, o5, c2, hl_kill_i, hl_kill_r, hl_kill_n, hl_kill_l, hl_tl_s, hl_tl_n, hl_cal_some, hl_gI, hl_gJ, hl_gsI, hl_gsJ, hl_tv01, if_true, if_false, hl_up_a, hl_row_a]
      · have c2 : ¬ nI h < 0 := Int32.not_lt.mpr (show nI 0 ≤ nI h from nI_le (by omega) (by omega))
        by_cases B : h = al k
        · subst B
          rw [← seg2 (Is 7 c = -1 ∨ Is 7 c = nI (al k)) _ (.inr q)]
          rw [q] at o5
          simp only [hl_r230_104, hl_r230_106, hl_r230_107, hl_r230_110, hl_r230_113, hl_r230_114, hl_r230_116, hl_r230_117, hl_r230_120, hl_r230_123, hl_r230_124, hl_r230_126, hl_r230_127, hl_r230_130, hl_r230_131, hl_r230_134, hl_r230_136, hl_r230_137, hl_o_85, hl_p_85_3, hl_p_85_4, hl_p_85_5, hl_p_85_6, hl_p_85_19, hl_p_85_23, hl_p_85_24, hl_p_85_25, hl_p_85_26, hl_p_85_27, hl_p_85_28, hl_p_85_29, hl_p_85_30, hl_p_85_31, hl_p_85_33, hl_p_85_34, hl_p_85_35, hl_p_85_36, hl_p_85_37, hl_a_99, hl_z_99, em, c1, o5, c2, bk, hl_cq (show k < 10000 by omega), ea, not_true, hl_kill_i, hl_kill_r, hl_kill_n, hl_kill_l, hl_tl_s, hl_tl_n, hl_cal_some, hl_gI, hl_gJ, hl_gsI, hl_gsJ, hl_tv01, if_true, if_false, hl_up_a, hl_row_a]
        · have ne : ¬ nI h = nI (al k) := fun z => B ((nI_eq (by omega) (by omega)).mp z)
          have n1 : ¬ nI h = -1 := fun z => by
            have := congrArg Int32.toInt z
            rw [hl_tI (by omega)] at this
            have e1 : (-1 : Int32).toInt = -1 := rfl
            omega
          rw [q] at o5
          rw [decide_eq_false (fun z => by rw [q] at z; exact z.1.elim n1 ne)]
          simp only [hl_r230_104, hl_r230_106, hl_r230_107, hl_r230_110, hl_r230_113, hl_r230_114, hl_r230_116, hl_r230_117, hl_r230_120, hl_r230_123, hl_r230_124, hl_r230_126, hl_r230_127, hl_r230_130, hl_r230_131, hl_r230_134, hl_r230_136, hl_r230_137, hl_r230_162, hl_r230_163, hl_o_85, hl_p_85_3, hl_p_85_4, hl_p_85_5, hl_p_85_6, hl_p_85_19, hl_p_85_23, hl_p_85_24, hl_p_85_25, hl_p_85_26, hl_p_85_27, hl_p_85_28, hl_p_85_29, hl_p_85_30, hl_p_85_31, hl_p_85_33, hl_p_85_34, hl_p_85_35, hl_p_85_36, hl_p_85_37, hl_a_99, hl_z_99, em, c1, o5, c2, bk, hl_cq (show k < 10000 by omega), ea, ne, not_false_eq_true, hl_tv_f, hl_kill_i, hl_kill_r, hl_kill_n, hl_kill_l, hl_tl_s, hl_tl_n, hl_cal_some, hl_gI, hl_gJ, hl_gsI, hl_gsJ, hl_tv01, if_true, if_false, hl_up_a, hl_row_a]
    rw [seg]
    have eix : (4 : Int32) * nI (gr c) + nI k = nI (4 * gr c + k) := by
      have e : (4 : Int32) = nI 4 := rfl
      rw [e, nI_mul, nI_add]
    have bz : hl_inb (nI (4 * gr c + k)) 96 = true := hl_inb_nI (by omega) (by decide)
    have fin : ∀ (v : Int64) (b8 : Bool) (I1 : Nat → Nat → Int32) (J1 : Nat → Nat → Int64), v.toInt = hx_rw Is al x y c k → hl_r9 I I1 → hl_j9 J J1 → hl_Run 230 (hl_call (d + 6)) 165 [.ref 85, .int s, .int (hl_tv wh), .int x, .int y, .int gv, .int (nI c), .int (nI k), .int (hl_tv b8), l9] [] (hl_g N I J) = hl_Run 230 (hl_call (d + 6)) 104 [.ref 85, .int s, .int (hl_tv wh), .int x, .int y, .int gv, .int (nI c), .int (nI (k + 1)), .int (hl_tv b8), l9] [] (hl_g N I1 (hl_up J1 101 (4 * gr c + k) (J 101 (4 * gr c + k) + v))) → ∃ I' J' m8, hl_Run 230 (hl_call (d + 6)) 165 [.ref 85, .int s, .int (hl_tv wh), .int x, .int y, .int gv, .int (nI c), .int (nI k), .int (hl_tv b8), l9] [] (hl_g N I J) = hl_Run 230 (hl_call (d + 6)) 216 [.ref 85, .int s, .int (hl_tv wh), .int x, .int y, .int gv, .int (nI c), .int (nI m), m8, l9] [] (hl_g N I' J') ∧ hl_r9 I0 I' ∧ (∀ q, q < 96 → (J' 101 q).toInt = hx_gs gr m (hx_rw Is al x y) (c + 1) q) ∧ ∀ q, q ≠ 92 → q ≠ 101 → J' q = J q := by
      intro v b8 I1 J1 hvv r1 j1 hr
      have cb := hx_rw_B (x := x) (y := y) hCo hN hc hah
      obtain ⟨I2, J2, m8, e2, r2, g1, g2⟩ := ih I1 (hl_up J1 101 (4 * gr c + k) (J 101 (4 * gr c + k) + v)) (k + 1) (.int (hl_tv b8)) (by omega) (hl_r9_tr r r1) (fun q hq => by
        rw [hl_upJ]
        by_cases z : q = 4 * gr c + k
        · have z1 : q / 4 = gr c := by omega
          have z2 : q % 4 = k := by omega
          have o := hJ q hq
          rw [z1, z2, if_neg (by omega)] at o
          have gb := hx_gs_B (gr := gr) (m := m) (w := hx_rw Is al x y) (n := c) (fun c' k' hc' hk' => hx_rw_B hCo hN (by omega) (by have := (hal k' hk').2; omega)) q
          rw [if_pos z, z1, z2, if_pos ⟨rfl, by omega⟩, ← z, Int64.toInt_add, hvv, o, Int.bmod_eq_of_le (by omega) (by omega)]
          omega
        · rw [if_neg z, j1 101 (by decide), hJ q hq]
          congr 1
          by_cases w : gr c = q / 4 ∧ q % 4 < k
          · rw [if_pos w, if_pos ⟨w.1, by omega⟩]
          · rw [if_neg w, if_neg (fun w' => w ⟨w'.1, by omega⟩)])
      exact ⟨I2, J2, m8, hr.trans e2, r2, g1, fun q q1 q2 => by rw [g2 q q1 q2, hl_up_ne _ _ _ q2, j1 q q1]⟩
    have bB : (1000000000 : Int64).toInt = 1000000000 := rfl
    by_cases A : (Is 7 c = -1 ∨ Is 7 c = nI (al k)) ∧ ¬ (nI c = x ∧ nI (al k) = y)
    · rw [decide_eq_true A]
      obtain ⟨I1, J1, e1, r1, j1⟩ := hl_s209 (d := d) (J := J) hCo vI hN hc hah
      refine fin (hl_pay Is c (al k)).toInt64 true I1 J1 (by unfold hx_rw; rw [if_pos A, Int32.toInt_toInt64]) r1 j1 ?_
      simp only [hl_r230_165, hl_r230_166, hl_r230_169, hl_r230_170, hl_r230_171, hl_r230_174, hl_r230_176, hl_r230_177, hl_r230_178, hl_r230_180, hl_r230_181, hl_r230_182, hl_r230_183, hl_r230_185, hl_r230_188, hl_r230_189, hl_r230_191, hl_r230_192, hl_r230_195, hl_r230_197, hl_r230_198, hl_r230_201, hl_r230_202, hl_r230_205, hl_r230_208, hl_r230_209, hl_r230_210, hl_r230_213, hl_o_85, hl_p_85_3, hl_p_85_4, hl_p_85_5, hl_p_85_6, hl_p_85_19, hl_p_85_23, hl_p_85_24, hl_p_85_25, hl_p_85_26, hl_p_85_27, hl_p_85_28, hl_p_85_29, hl_p_85_30, hl_p_85_31, hl_p_85_33, hl_p_85_34, hl_p_85_35, hl_p_85_36, hl_p_85_37, hl_a_99, hl_z_99, hl_a_100, hl_z_100, hl_a_101, hl_z_101, bc, bk, bz, hl_cq (show c < 10000 by omega), hl_cq (show k < 10000 by omega), hl_cq (show 4 * gr c + k < 10000 by omega), ea, eg, eix, hl_tv_t, hl_10, e1, en, hl_kill_i, hl_kill_r, hl_kill_n, hl_kill_l, hl_tl_s, hl_tl_n, hl_cal_some, hl_gI, hl_gJ, hl_gsI, hl_gsJ, hl_tv01, if_true, if_false, hl_up_a, hl_row_a]
    · rw [decide_eq_false A]
      refine fin 1000000000 false I J (by unfold hx_rw; rw [if_neg A]; exact bB) (hl_r9_rf I) (hl_j9_rf J) ?_
      simp only [hl_r230_165, hl_r230_166, hl_r230_169, hl_r230_170, hl_r230_171, hl_r230_174, hl_r230_176, hl_r230_177, hl_r230_178, hl_r230_180, hl_r230_181, hl_r230_182, hl_r230_183, hl_r230_185, hl_r230_188, hl_r230_189, hl_r230_191, hl_r230_192, hl_r230_195, hl_r230_197, hl_r230_198, hl_r230_201, hl_r230_202, hl_r230_205, hl_r230_208, hl_r230_209, hl_r230_210, hl_r230_213, hl_o_85, hl_p_85_3, hl_p_85_4, hl_p_85_5, hl_p_85_6, hl_p_85_19, hl_p_85_23, hl_p_85_24, hl_p_85_25, hl_p_85_26, hl_p_85_27, hl_p_85_28, hl_p_85_29, hl_p_85_30, hl_p_85_31, hl_p_85_33, hl_p_85_34, hl_p_85_35, hl_p_85_36, hl_p_85_37, hl_a_100, hl_z_100, hl_a_101, hl_z_101, bc, bz, hl_cq (show c < 10000 by omega), hl_cq (show 4 * gr c + k < 10000 by omega), eg, eix, hl_tv_f, en, hl_kill_i, hl_kill_r, hl_kill_n, hl_kill_l, hl_tl_s, hl_tl_n, hl_cal_some, hl_gI, hl_gJ, hl_gsI, hl_gsJ, hl_tv01, if_true, if_false, hl_up_a, hl_row_a]
theorem hx_l230w {gv : Int32} (hCo : hl_Co N W H Is) (hN : N ≤ 24) (hs : hl_Sv Is 86 0 = (nh : Int)) (h4 : m ≤ 4) (hv : hl_vw Is I0) (hm : I0 85 32 = nI m) (hal : ∀ k, k < m → I0 99 k = nI (al k) ∧ al k < nh) (hgr : ∀ c, c < N → I0 100 c = nI (gr c) ∧ gr c < 24) (f : Nat) : ∀ (I : Nat → Nat → Int32) (J : Nat → Nat → Int64) (c : Nat) (l7 l8 l9 : Value), c + f = N → hl_r9 I0 I → (∀ q, q < 96 → (J 101 q).toInt = hx_gs gr m (hx_rw Is al x y) c q) → ∃ I' J' m7 m8, hl_Run 230 (hl_call (d + 6)) 92 [.ref 85, .int s, .int (hl_tv wh), .int x, .int y, .int gv, .int (nI c), l7, l8, l9] [] (hl_g N I J) = hl_Run 230 (hl_call (d + 6)) 222 [.ref 85, .int s, .int (hl_tv wh), .int x, .int y, .int gv, .int (nI N), m7, m8, l9] [] (hl_g N I' J') ∧ hl_r9 I0 I' ∧ (∀ q, q < 96 → (J' 101 q).toInt = hx_gs gr m (hx_rw Is al x y) N q) ∧ ∀ q, q ≠ 92 → q ≠ 101 → J' q = J q := by
  induction f with
  | zero =>
    intro I J c l7 l8 l9 hc r hJ
    obtain rfl : c = N := by omega
    refine ⟨I, J, l7, l8, ?_, r, hJ, fun _ _ _ => rfl⟩
    have eM : I 85 2 = nI c := by rw [(hl_vw_tr hv r.vw).1 2 (by omega)]; exact hCo.mM
    simp only [hl_r230_92, hl_r230_94, hl_r230_95, hl_r230_98, hl_o_85, hl_p_85_3, hl_p_85_4, hl_p_85_5, hl_p_85_6, hl_p_85_19, hl_p_85_23, hl_p_85_24, hl_p_85_25, hl_p_85_26, hl_p_85_27, hl_p_85_28, hl_p_85_29, hl_p_85_30, hl_p_85_31, hl_p_85_33, hl_p_85_34, hl_p_85_35, hl_p_85_36, hl_p_85_37, eM, Int32.le_refl, hl_kill_i, hl_kill_r, hl_kill_n, hl_kill_l, hl_tl_s, hl_tl_n, hl_cal_some, hl_gI, hl_gJ, hl_gsI, hl_gsJ, hl_tv01, if_true, if_false, hl_up_a, hl_row_a]
  | succ f ih =>
    intro I J c l7 l8 l9 hc r hJ
    have c1 : ¬ nI N ≤ nI c := nI_ge (by omega) (by omega)
    have en : nI c + 1 = nI (c + 1) := (nI_succ c).symm
    have eM : I 85 2 = nI N := by rw [(hl_vw_tr hv r.vw).1 2 (by omega)]; exact hCo.mM
    obtain ⟨I1, J1, m8, e1, r1, g1, g2⟩ := hx_l230j (d := d) (wh := wh) (x := x) (y := y) (s := s) (l9 := l9) (gv := gv) hCo hN hs (show c < N by omega) h4 hv hm hal (hgr c (by omega)) m I J 0 l8 (by omega) r (fun q hq => by rw [hJ q hq, if_neg (by omega)]; omega)
    obtain ⟨I2, J2, m7, m8', e2, r2, k1, k2⟩ := ih I1 J1 (c + 1) (.int (nI m)) m8 l9 (by omega) r1 g1
    refine ⟨I2, J2, m7, m8', ?_, r2, k1, fun q q1 q2 => by rw [k2 q q1 q2, g2 q q1 q2]⟩
    have z0 : (0 : Int32) = nI 0 := rfl
    have st : hl_Run 230 (hl_call (d + 6)) 92 [.ref 85, .int s, .int (hl_tv wh), .int x, .int y, .int gv, .int (nI c), l7, l8, l9] [] (hl_g N I J) = hl_Run 230 (hl_call (d + 6)) 104 [.ref 85, .int s, .int (hl_tv wh), .int x, .int y, .int gv, .int (nI c), .int (nI 0), l8, l9] [] (hl_g N I J) := by
      rw [← z0]
      simp only [hl_r230_92, hl_r230_94, hl_r230_95, hl_r230_98, hl_r230_101, hl_r230_102, hl_o_85, hl_p_85_3, hl_p_85_4, hl_p_85_5, hl_p_85_6, hl_p_85_19, hl_p_85_23, hl_p_85_24, hl_p_85_25, hl_p_85_26, hl_p_85_27, hl_p_85_28, hl_p_85_29, hl_p_85_30, hl_p_85_31, hl_p_85_33, hl_p_85_34, hl_p_85_35, hl_p_85_36, hl_p_85_37, eM, c1, hl_kill_i, hl_kill_r, hl_kill_n, hl_kill_l, hl_tl_s, hl_tl_n, hl_cal_some, hl_gI, hl_gJ, hl_gsI, hl_gsJ, hl_tv01, if_true, if_false, hl_up_a, hl_row_a]
    rw [st, e1, ← e2]
    simp only [hl_r230_216, hl_r230_219, en, hl_kill_i, hl_kill_r, hl_kill_n, hl_kill_l, hl_tl_s, hl_tl_n, hl_cal_some, hl_gI, hl_gJ, hl_gsI, hl_gsJ, hl_tv01, if_true, if_false, hl_up_a, hl_row_a]
end HXWEI
