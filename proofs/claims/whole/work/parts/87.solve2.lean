/-! solve -/
section HLSOL2
variable {d N nh cn : Nat} {I I' : Nat → Nat → Int32} {J J' : Nat → Nat → Int64} {wh : Bool} {x y s : Int32}
/-- the numbers of a class's cut -/
def hl_Cc (N cn : Nat) (I : Nat → Nat → Int32) (wh : Bool) (m : Nat) (al : Nat → Nat) (x y : Int32) : (Nat → Bool) → Int := hl_CT 1000000000 m (if wh = true then 6 else N) cn (fun q => hl_gq I wh m al x y N q) (fun t => hl_gr I wh (I 12 t).toNatClampNeg) (fun t => hl_gr I wh (I 13 t).toNatClampNeg) (fun t k => (I 14 t * (I 9 (al (k + 1)) - I 9 (al k))).toInt)
theorem hl_s26 {m : Nat} {al : Nat → Nat} (hP : hl_PH N nh cn I) (em : (hl_chs s nh).2 = m) (ea : (hl_chs s nh).1 = al) (h1 : 1 ≤ m) : ∃ I' J' F R, hl_MC (hl_Cc N cn I wh m al x y) F R ∧ 0 ≤ F ∧ hl_call (d + 4) 26 [.ref 68, .int s, .int (hl_tv wh), .int x, .int y] (hl_g N I J) = some (some (.int (if F < 1000000000 then nI F.toNat else -1)), hl_g N I' J') ∧ (F < 1000000000 → ∀ c, c < N → I' 79 c = nI (al (hl_hk R m (hl_gr I wh c) (m - 1) 0))) ∧ (∀ b, b < 68 ∨ 79 < b → I' b = I b) ∧ I' 68 7 = I 68 7 ∧ ∀ q, q ≠ 73 → q ≠ 80 → J' q = J q := by
  have hP0 := hP
  obtain ⟨⟨n24, n4, c40⟩, p1, p2, p3, p4, p5, p6⟩ := hP
  obtain ⟨m1, m2, m3⟩ := hl_chs_in (s := s) nh
  obtain ⟨I1, e1, g1, g2, g3, g4⟩ := hl_s27 (d := d + 2) (N := N) (J := J) (s := s) n4 p1
  rw [em] at m1 m2 m3 g1 g2
  rw [ea] at m2 m3 g2
  have m4 : m ≤ 4 := by omega
  have fr1 : ∀ b, b < 68 → I1 b = I b := fun b hb => g3 b (by omega) (by omega)
  have hal : ∀ k, k < m → I1 78 k = nI (al k) ∧ al k < 4 := fun k hk => ⟨g2 k hk, by have := m2 k hk; omega⟩
  obtain ⟨J1, e2, w1, j1⟩ := hl_s29 (d := d + 1) (N := N) (I := I1) (J := J) (m := m) (wh := wh) (al := al) (x := x) (y := y) n24 m4 g1 hal (fun i hi => by rw [fr1 4 (by omega)]; exact p4 i hi) (fun c k hc hk => by rw [fr1 64 (by omega)]; exact p5 c _ hc (m2 k hk))
  have gqB := fun q => hl_gq_B (N := N) (I := I) (al := al) (wh := wh) (x := x) (y := y) (m := m) (fun c k hc hk => p5 c _ hc (m2 k hk)) (Nat.le_refl N) q
  generalize hG : (if wh = true then 6 else N) = G
  have hGZ : G ≤ (if N < 6 then 6 else N) := by rw [← hG]; cases wh <;> simp <;> split <;> omega
  have hG24 : G ≤ 24 := by rw [← hG]; split <;> omega
  generalize hnd : 2 + G * (m - 1) = nd
  have nd74 : 2 ≤ nd ∧ nd ≤ 74 := by
    have := Nat.mul_le_mul hG24 (show m - 1 ≤ 3 by omega)
    omega
  obtain ⟨I2, e3, W2, f2⟩ := hl_s15 (d := d + 1) (N := N) (I := I1) (J := J1) nd74.1 nd74.2
  have fr2 : ∀ b, b < 69 → I2 b = I1 b := fun b hb => f2 b (by omega) (by omega) (by omega) (by omega)
  obtain ⟨I3, J3, np3, n3, e4, W3, f3, j3⟩ := hl_l26a (d := d) (N := N) (x := x) (y := y) (s0 := s) (wv := hl_tv wh) (gp := fun q => hl_gq I wh m al x y N q) m4 hGZ n24 hnd.symm G I2 J1 0 0 (fun _ => 0) (by omega) (by omega) (by rw [fr2 68 (by omega)]; exact g1) W2 (fun q hq => by
    have := gqB q
    refine ⟨?_, by omega, by omega⟩
    rw [w1 q (by omega), hl_gq_f fr1])
  have fr3 : ∀ b, b < 69 → I3 b = I1 b := fun b hb => by rw [f3 b (by omega) (by omega) (by omega) (by omega), fr2 b hb]
  have f78 : I3 78 = I1 78 := by rw [f3 78 (by decide) (by decide) (by decide) (by decide), f2 78 (by decide) (by decide) (by decide) (by decide)]
  obtain ⟨I4, J4, np4, e5, W4, f4, j4⟩ := hl_l26b (d := d) (N := N) (nh := nh) (cn := cn) (x := x) (y := y) (s0 := s) (wh := wh) (al := al) (m := m) (G := G) (l6 := .null) h1 m1 hG24 hnd.symm hG.symm m3 m2 I cn I3 J3 np3 0 _ (by omega) (by omega) (fun b hb => by rw [fr3 b (by omega), fr1 b hb]) hP0 (by rw [fr3 68 (by omega)]; exact g1) (fun k hk => by rw [f78]; exact hal k hk) W3
  have fr4 : ∀ b, b < 69 → I4 b = I1 b := fun b hb => by rw [f4 b (by omega) (by omega) (by omega) (by omega), fr3 b hb]
  have f478 : I4 78 = I1 78 := by rw [f4 78 (by decide) (by decide) (by decide) (by decide), f78]
  have W5 : hl_NW I4 J4 nd np4 (hl_Cc N cn I wh m al x y) := hl_NW_eq W4 (fun S => by
    unfold hl_Cc hl_CT
    rw [hG]
    show 0 + (_ - 0) + (_ - 0) = _
    rw [Int.zero_add, Int.sub_zero, Int.sub_zero]) rfl
  have CB : hl_Cc N cn I wh m al x y (fun u => decide (u = 0)) ≤ 1000000000000000 := by
    unfold hl_Cc
    rw [hG]
    exact hl_CT_B m4 hG24 c40 (fun q => by have := gqB q; show 0 ≤ hl_gq I wh m al x y N q ∧ hl_gq I wh m al x y N q ≤ 24000000000; omega) (fun t k ht hk => p6 t _ _ ht (m3 k (k + 1) (by omega) hk) (m2 (k + 1) hk))
  obtain ⟨I5, J5, F, D, e6, ⟨sr, ds, L5⟩, MC, D5, Dle, f5, j5⟩ := hl_s18 (d := d) (N := N) W5 (S0 := fun u => decide (u = 0)) rfl rfl CB
  have fr5 : ∀ b, b < 69 → I5 b = I1 b := fun b hb => by rw [f5 b (by omega) (by omega) (by omega) (by omega), fr4 b hb]
  have f578 : I5 78 = I1 78 := by rw [f5 78 (by decide) (by decide) (by decide) (by decide), f478]
  have far : ∀ b, b < 68 ∨ 79 < b → I5 b = I b := fun b hb => by
    rw [f5 b (by omega) (by omega) (by omega) (by omega), f4 b (by omega) (by omega) (by omega) (by omega), f3 b (by omega) (by omega) (by omega) (by omega), f2 b (by omega) (by omega) (by omega) (by omega), g3 b (by omega) (by omega)]
  have fJ : ∀ q, q ≠ 73 → q ≠ 80 → J5 q = J q := fun q h1 h2 => by rw [j5 q h1, j4 q h1, j3 q h1, j1 q h2]
  have F0 : 0 ≤ F.toInt := by
    rw [MC.2.2.1]
    unfold hl_Cc hl_CT
    rw [hG]
    have a1 : 0 ≤ hl_si G (fun g => hl_si m (hl_ch 1000000000 m (fun q => hl_gq I wh m al x y N q) g (hl_Rs nd D))) := hl_si_nn G (fun g hg => hl_si_nn m (fun k hk => by
      have q1 := gqB (4 * g + k)
      have a := (hl_fs_le (S := hl_Rs nd D) (u := hl_nd m g k) (v := hl_nd m g (k + 1)) q1.1 q1.2).1
      have b := (hl_fs_le (S := hl_Rs nd D) (u := hl_nd m g (k + 1)) (v := hl_nd m g k) (x := if 0 < k ∧ k + 1 < m then 1000000000 else 0) (B := 1000000000) (by split <;> omega) (by split <;> omega)).1
      exact Int.add_nonneg a b))
    refine Int.add_nonneg a1 (hl_si_nn cn (fun t ht => hl_si_nn (m - 1) (fun k hk => ?_)))
    have q1 := p6 t _ _ ht (m3 k (k + 1) (by omega) (by omega)) (m2 (k + 1) (by omega))
    unfold hl_ct
    split
    · exact Int.le_refl 0
    · exact Int.add_nonneg (hl_fs_le q1.1 q1.2).1 (hl_fs_le q1.1 q1.2).1
  have e0 : Int32.ofNat N = nI N := rfl
  have end2 : (2 : Int32) + nI G * nI (m - 1) = nI nd := by
    have e : (2 : Int32) = nI 2 := rfl
    rw [e, nI_mul, nI_add, hnd]
  have em1 : nI m - 1 = nI (m - 1) := hl_nsb h1
  have z0 : nI 0 = 0 := rfl
  rw [z0] at e4 e5
  -- up to the flow
  have st : hl_call (d + 4) 26 [.ref 68, .int s, .int (hl_tv wh), .int x, .int y] (hl_g N I J) = hl_Run 26 (hl_call (d + 3)) 109 [.ref 68, .int s, .int (hl_tv wh), .int x, .int y, .int (nI G), .long F, .null, .null] [] (hl_g N I5 J5) := by
    rw [hl_e26]
    have sA : hl_Run 26 (hl_call (d + 3)) 0 [.ref 68, .int s, .int (hl_tv wh), .int x, .int y, .null, .null, .null, .null] [] (hl_g N I J) = hl_Run 26 (hl_call (d + 3)) 29 [.ref 68, .int s, .int (hl_tv wh), .int x, .int y, .int (nI G), .null, .null, .null] [] (hl_g N I1 J1) := by
      cases wh with
      | true =>
        have k6 : (6 : Int32) = nI G := by rw [← hG]; rfl
        simp only [hl_r26_0, hl_r26_1, hl_r26_2, hl_r26_5, hl_r26_6, hl_r26_7, hl_r26_8, hl_r26_10, hl_r26_13, hl_r26_14, hl_r26_17, hl_r26_19, hl_r26_22, hl_r26_23, hl_r26_26, hl_r26_27, hl_o_68, hl_p_68_0, hl_p_68_1, hl_p_68_2, hl_p_68_3, hl_p_68_4, hl_p_68_5, e1, e2, hl_tv_t, hl_10, k6, hl_kill_i, hl_kill_r, hl_kill_n, hl_kill_l, hl_tl_s, hl_tl_n, hl_cal_some, hl_gI, hl_gJ, hl_gsI, hl_gsJ, hl_tv01, if_true, if_false, hl_up_a, hl_row_a] at e2 ⊢
      | false =>
        have kN : nI N = nI G := by rw [← hG]; rfl
        simp only [hl_r26_0, hl_r26_1, hl_r26_2, hl_r26_5, hl_r26_6, hl_r26_7, hl_r26_8, hl_r26_10, hl_r26_13, hl_r26_14, hl_r26_17, hl_r26_19, hl_r26_22, hl_r26_23, hl_r26_26, hl_r26_27, hl_o_68, hl_p_68_0, hl_p_68_1, hl_p_68_2, hl_p_68_3, hl_p_68_4, hl_p_68_5, hl_a_79, hl_z_79, hl_l_79, e0, e1, e2, hl_tv_f, kN, hl_kill_i, hl_kill_r, hl_kill_n, hl_kill_l, hl_tl_s, hl_tl_n, hl_cal_some, hl_gI, hl_gJ, hl_gsI, hl_gsJ, hl_tv01, if_true, if_false, hl_up_a, hl_row_a] at e2 ⊢
    rw [sA]
    simp only [hl_r26_29, hl_r26_30, hl_r26_33, hl_r26_34, hl_r26_36, hl_r26_37, hl_r26_40, hl_r26_41, hl_r26_42, hl_r26_43, hl_r26_44, hl_r26_47, hl_r26_48, hl_o_68, hl_p_68_0, hl_p_68_1, hl_p_68_2, hl_p_68_3, hl_p_68_4, hl_p_68_5, hl_o_69, hl_p_69_2, hl_p_69_3, hl_p_69_4, hl_p_69_5, hl_p_69_6, hl_p_69_7, hl_p_69_8, hl_p_69_9, g1, em1, end2, e3, hl_kill_i, hl_kill_r, hl_kill_n, hl_kill_l, hl_tl_s, hl_tl_n, hl_cal_some, hl_gI, hl_gJ, hl_gsI, hl_gsJ, hl_tv01, if_true, if_false, hl_up_a, hl_row_a]
    rw [e4]
    simp only [hl_r26_69, hl_r26_70, hl_kill_i, hl_kill_r, hl_kill_n, hl_kill_l, hl_tl_s, hl_tl_n, hl_cal_some, hl_gI, hl_gJ, hl_gsI, hl_gsJ, hl_tv01, if_true, if_false, hl_up_a, hl_row_a]
    rw [e5]
    simp only [hl_r26_100, hl_r26_101, hl_r26_104, hl_r26_107, hl_o_68, hl_p_68_0, hl_p_68_1, hl_p_68_2, hl_p_68_3, hl_p_68_4, hl_p_68_5, hl_o_69, hl_p_69_2, hl_p_69_3, hl_p_69_4, hl_p_69_5, hl_p_69_6, hl_p_69_7, hl_p_69_8, hl_p_69_9, e6, hl_kill_i, hl_kill_r, hl_kill_n, hl_kill_l, hl_tl_s, hl_tl_n, hl_cal_some, hl_gI, hl_gJ, hl_gsI, hl_gsJ, hl_tv01, if_true, if_false, hl_up_a, hl_row_a]
  by_cases z : F.toInt < 1000000000
  · have zz : F < 1000000000 := by rw [Int64.lt_iff_toInt_lt]; exact z
    obtain ⟨I6, e7, k1, k2, k3⟩ := hl_l26c (d := d) (N := N) (J := J5) (wh := wh) (x := x) (y := y) (s0 := s) (l5 := .int (nI G)) (l6 := .null) (l7 := .null) (F := F) (al := al) Dle h1 m4 hG24 n24 hnd.symm N I5 0 (by omega) L5 D5 (by rw [fr5 68 (by omega)]; exact g1) (fun k hk => by rw [f578]; exact hal k hk) (fun c hc => by
      obtain ⟨q, q1, q2⟩ := p4 c hc
      refine ⟨?_, q, q1, by rw [far 4 (by omega)]; exact q2⟩
      rw [hl_gr_f (fun b hb => far b (.inl hb))]
      unfold hl_gr
      rw [← hG]
      cases wh with
      | true => rw [if_pos rfl, if_pos rfl, q2, nIc (show q < 2 ^ 31 by omega)]; exact q1
      | false => rw [if_neg (by decide), if_neg (by decide)]; exact hc)
    refine ⟨I6, J5, F.toInt, hl_Rs nd D, MC, F0, ?_, fun _ c hc => ?_, fun b hb => by rw [k1 b (by omega), far b hb], by rw [k1 68 (by decide), fr5 68 (by omega), g4], fJ⟩
    · have e32 : F.toInt32 = nI F.toInt.toNat := by
        apply Int32.toInt_inj.mp
        rw [hl_tI (by omega), Int64.toInt_toInt32, Int.bmod_eq_of_le (by omega) (by omega)]
        omega
      rw [st, if_pos z, ← e32, ← e7]
      simp only [hl_r26_109, hl_r26_111, hl_r26_114, hl_r26_115, hl_r26_118, hl_r26_119, hl_r26_120, hl_r26_121, hl_lcmp_lt0, zz, hl_kill_i, hl_kill_r, hl_kill_n, hl_kill_l, hl_tl_s, hl_tl_n, hl_cal_some, hl_gI, hl_gJ, hl_gsI, hl_gsJ, hl_tv01, if_true, if_false, hl_up_a, hl_row_a]
      rfl
    · rw [k3 c (Nat.zero_le c) hc, hl_gr_f (fun b hb => far b (.inl hb))]
  · have zz : ¬ F < 1000000000 := by rw [Int64.lt_iff_toInt_lt]; exact z
    refine ⟨I5, J5, F.toInt, hl_Rs nd D, MC, F0, ?_, fun h => absurd h z, far, by rw [fr5 68 (by omega), g4], fJ⟩
    rw [st, if_neg z]
    simp only [hl_r26_109, hl_r26_111, hl_r26_114, hl_r26_115, hl_r26_118, hl_r26_119, hl_lcmp_lt0, zz, hl_kill_i, hl_kill_r, hl_kill_n, hl_kill_l, hl_tl_s, hl_tl_n, hl_cal_some, hl_gI, hl_gJ, hl_gsI, hl_gsJ, hl_tv01, if_true, if_false, hl_up_a, hl_row_a]
end HLSOL2
