/-! judge: the pair -/
theorem hl_Cl_congr {h h' : Nat → Int32} {ps : List (Nat × Nat)} {X : Nat → Nat} {N : Nat} (hb : ∀ p, p ∈ ps → p.1 < N ∧ p.2 < N) (hh : ∀ c, c < N → h' c = h c) : hl_Cl h' ps X ↔ hl_Cl h ps X := by
  constructor
  · intro a p hp heq
    obtain ⟨n1, n2⟩ := hb p hp
    exact a p hp (by rw [hh _ n1, hh _ n2]; exact heq)
  · intro a p hp heq
    obtain ⟨n1, n2⟩ := hb p hp
    exact a p hp (by rw [← hh _ n1, ← hh _ n2]; exact heq)
theorem hl_Gd_congr {h h' : Nat → Int32} {ps : List (Nat × Nat)} {L : Nat → Nat} {N : Nat} (hb : ∀ p, p ∈ ps → p.1 < N ∧ p.2 < N) (hh : ∀ c, c < N → h' c = h c) (hG : hl_Gd h' ps L) : hl_Gd h ps L := ⟨hG.1, fun c X hX => hG.2 c X ((hl_Cl_congr hb hh).mpr hX)⟩
theorem hl_fnd_congr {p q : Nat → Bool} (f : Nat) : ∀ i, (∀ j, j < i + f → p j = q j) → hl_fnd p f i = hl_fnd q f i := by
  induction f with
  | zero => intro i _; rfl
  | succ f ih =>
    intro i h
    unfold hl_fnd
    rw [h i (by omega), ih (i + 1) (fun j hj => h j (by omega))]
theorem hl_dvh_congr {st st' pt pt' : Nat → Int32} {s : Int32} (n : Nat) (h1 : ∀ i, i < n → st' i = st i) (h2 : ∀ i, i < n → pt' i = pt i) : hl_dvh st' pt' s n = hl_dvh st pt s n ∧ hl_dvi st' pt' s n = hl_dvi st pt s n := by
  induction n with
  | zero => exact ⟨rfl, rfl⟩
  | succ n ih =>
    obtain ⟨i1, i2⟩ := ih (fun i hi => h1 i (by omega)) (fun i hi => h2 i (by omega))
    unfold hl_dvh hl_dvi
    rw [i1, i2, h1 n (by omega), h2 n (by omega)]
    exact ⟨rfl, rfl⟩
section HLJPR
variable {d N W H : Nat} {I Is I' : Nat → Nat → Int32} {J J' : Nat → Nat → Int64} {L : Nat → Nat} {nh cn : Nat} {g : Nat → Int32}
theorem hl_Tm_67 (h : ∀ q, q ≠ 67 → I' q = I q) : hl_Tm I I' := ⟨fun b hb => h b (by omega), h 66 (by decide), fun k _ => by rw [h 85 (by decide)], fun b h1 h2 => h b (by omega)⟩
theorem hl_Tm_94 (h : ∀ q, q ≠ 94 → I' q = I q) : hl_Tm I I' := ⟨fun b hb => h b (by omega), h 66 (by decide), fun k _ => by rw [h 85 (by decide)], fun b h1 h2 => h b (by omega)⟩
theorem hl_Tm_95 (h : ∀ q, q ≠ 95 → I' q = I q) : hl_Tm I I' := ⟨fun b hb => h b (by omega), h 66 (by decide), fun k _ => by rw [h 85 (by decide)], fun b h1 h2 => h b (by omega)⟩
/-- the land's shape -/
def hl_Sh (N W H : Nat) : Prop := 2 ≤ W ∧ W ≤ 6 ∧ 2 ≤ H ∧ H ≤ 4 ∧ W * H = N ∧ N ≤ 24
theorem hl_sw05 {x : Int32} (h : hl_in x 0 5 = true) : x = 0 ∨ x = 1 ∨ x = 2 ∨ x = 3 ∨ x = 4 ∨ x = 5 := by
  have i := hl_in_E h
  have e0 : (0 : Int32).toInt = 0 := rfl
  have e5 : (5 : Int32).toInt = 5 := rfl
  obtain ⟨k, k1, k2, k3⟩ := hl_nat (x := x) (by omega)
  have k5 : k ≤ 5 := by omega
  rw [k2]
  match k, k5 with
  | 0, _ => exact .inl rfl
  | 1, _ => exact .inr (.inl rfl)
  | 2, _ => exact .inr (.inr (.inl rfl))
  | 3, _ => exact .inr (.inr (.inr (.inl rfl)))
  | 4, _ => exact .inr (.inr (.inr (.inr (.inl rfl))))
  | 5, _ => exact .inr (.inr (.inr (.inr (.inr rfl))))
  | k + 6, h => omega
theorem hl_pr14 (hS : hl_Sh N W H) (f : Nat → Int32) : hl_PQ hl_TX N W H 119 222 (hl_args 14 f) := by
  obtain ⟨w2, w6, g2, g4, hNe, hN⟩ := hS
  refine hl_PQ_read hl_TXc fun I J hI => ?_
  obtain ⟨nh, h4, hc1, hm1, hs1⟩ := hI.nh
  obtain ⟨cn, c40, tc1, tm1, ts1⟩ := hI.cn
  show ∃ v I1 J1 I2 J2, hl_call 1001 119 [.ref 0, .int (f 1)] (hl_g N I J) = some (some (.int v), hl_g N I1 J1) ∧ hl_call 1001 222 [.ref 85, .int (f 1)] (hl_g N I1 J1) = some (some (.int v), hl_g N I2 J2) ∧ _
  have P := hI.2.2.2.2.1
  by_cases hh0 : nh = 0
  · subst hh0
    have z : nI 0 = 0 := rfl
    rw [z] at hc1 hm1
    refine ⟨-1, I, J, I, J, ?_, ?_, hl_Tm_rf I, P, hl_Tm_rf I, rfl, rfl⟩
    · rw [hl_e119 (d := 1000)]; simp only [hl_r119_0, hl_r119_1, hl_r119_4, hl_r119_7, hl_r119_10, hl_r119_11, hl_r119_12, hl_r119_13, hl_r119_16, hl_r119_19, hl_r119_20, hl_r119_21, hl_r119_22, hl_r119_25, hl_r119_28, hl_r119_29, hl_r119_32, hl_r119_33, hl_r119_36, hl_r119_39, hl_r119_42, hl_r119_76, hl_r119_77, hl_r119_78, hl_r119_81, hl_r119_84, hl_r119_87, hl_r119_88, hl_r119_89, hl_r119_92, hl_r119_93, hl_r119_96, hl_r119_99, hl_r119_102, hl_r119_103, hl_r119_104, hl_r119_107, hl_r119_110, hl_r119_111, hl_r119_114, hl_r119_117, hl_r119_118, hl_r119_121, hl_r119_124, hl_r119_127, hl_r119_128, hl_r119_129, hl_r119_132, hl_r119_135, hl_r119_136, hl_r119_137, hl_r119_140, hl_r119_143, hl_r119_144, hl_r119_145, hl_r119_148, hl_r119_149, hl_r119_152, hl_r119_155, hl_r119_156, hl_r119_159, hl_r119_162, hl_r119_165, hl_o_0, hl_p_0_3, hl_p_0_4, hl_p_0_5, hl_p_0_7, hl_p_0_8, hl_p_0_9, hl_p_0_10, hl_p_0_11, hl_p_0_12, hl_p_0_13, hl_p_0_14, hl_p_0_15, hl_o_1, hl_p_1_0, hl_p_1_1, hl_p_1_2, hl_p_1_3, hl_p_1_4, hl_p_1_5, hl_p_1_6, hl_p_1_7, hl_p_1_9, hl_p_1_14, hl_p_1_15, hc1, not_true, hl_kill_i, hl_kill_r, hl_kill_n, hl_kill_l, hl_tl_s, hl_tl_n, hl_cal_some, hl_gI, hl_gJ, hl_gsI, hl_gsJ, hl_tv01, if_true, if_false, hl_up_a, hl_row_a]
    · rw [hl_e222 (d := 1000)]
      cases g1 : hl_in (f 1) 0 5 <;> simp only [hl_r222_0, hl_r222_1, hl_r222_2, hl_r222_3, hl_r222_6, hl_r222_9, hl_r222_10, hl_r222_13, hl_r222_14, hl_r222_15, hl_r222_18, hl_r222_19, hl_r222_20, hl_r222_21, hl_r222_24, hl_r222_25, hl_r222_28, hl_r222_64, hl_r222_65, hl_r222_68, hl_r222_69, hl_r222_70, hl_r222_73, hl_r222_74, hl_r222_75, hl_r222_78, hl_r222_79, hl_r222_80, hl_r222_83, hl_r222_84, hl_r222_85, hl_r222_88, hl_r222_89, hl_r222_90, hl_r222_93, hl_o_85, hl_p_85_3, hl_p_85_4, hl_p_85_5, hl_p_85_6, hl_p_85_19, hl_p_85_23, hl_p_85_24, hl_p_85_25, hl_p_85_26, hl_p_85_27, hl_p_85_28, hl_p_85_29, hl_p_85_30, hl_p_85_31, hl_p_85_33, hl_p_85_34, hl_p_85_35, hl_p_85_36, hl_p_85_37, hl_a_86, hl_z_86, hl_k0, hl_v0, hm1, hl_s151, g1, hl_tv_t, hl_tv_f, hl_10, not_true, hl_kill_i, hl_kill_r, hl_kill_n, hl_kill_l, hl_tl_s, hl_tl_n, hl_cal_some, hl_gI, hl_gJ, hl_gsI, hl_gsJ, hl_tv01, if_true, if_false, hl_up_a, hl_row_a]
  have n0 : ¬ nI nh = 0 := nI_ne0 (by omega) (by omega)
  cases g1 : hl_in (f 1) 0 5 with
  | false =>
    refine ⟨-1, I, J, I, J, ?_, ?_, hl_Tm_rf I, P, hl_Tm_rf I, rfl, rfl⟩
    · rw [hl_e119 (d := 1000)]; simp only [hl_r119_0, hl_r119_1, hl_r119_4, hl_r119_7, hl_r119_10, hl_r119_11, hl_r119_12, hl_r119_13, hl_r119_16, hl_r119_19, hl_r119_20, hl_r119_21, hl_r119_22, hl_r119_25, hl_r119_28, hl_r119_29, hl_r119_32, hl_r119_33, hl_r119_36, hl_r119_39, hl_r119_42, hl_r119_76, hl_r119_77, hl_r119_78, hl_r119_81, hl_r119_84, hl_r119_87, hl_r119_88, hl_r119_89, hl_r119_92, hl_r119_93, hl_r119_96, hl_r119_99, hl_r119_102, hl_r119_103, hl_r119_104, hl_r119_107, hl_r119_110, hl_r119_111, hl_r119_114, hl_r119_117, hl_r119_118, hl_r119_121, hl_r119_124, hl_r119_127, hl_r119_128, hl_r119_129, hl_r119_132, hl_r119_135, hl_r119_136, hl_r119_137, hl_r119_140, hl_r119_143, hl_r119_144, hl_r119_145, hl_r119_148, hl_r119_149, hl_r119_152, hl_r119_155, hl_r119_156, hl_r119_159, hl_r119_162, hl_r119_165, hl_o_0, hl_p_0_3, hl_p_0_4, hl_p_0_5, hl_p_0_7, hl_p_0_8, hl_p_0_9, hl_p_0_10, hl_p_0_11, hl_p_0_12, hl_p_0_13, hl_p_0_14, hl_p_0_15, hl_o_1, hl_p_1_0, hl_p_1_1, hl_p_1_2, hl_p_1_3, hl_p_1_4, hl_p_1_5, hl_p_1_6, hl_p_1_7, hl_p_1_9, hl_p_1_14, hl_p_1_15, hc1, n0, not_true, hl_s147, g1, hl_tv_f, hl_kill_i, hl_kill_r, hl_kill_n, hl_kill_l, hl_tl_s, hl_tl_n, hl_cal_some, hl_gI, hl_gJ, hl_gsI, hl_gsJ, hl_tv01, if_true, if_false, hl_up_a, hl_row_a]
    · rw [hl_e222 (d := 1000)]; simp only [hl_r222_0, hl_r222_1, hl_r222_2, hl_r222_3, hl_r222_6, hl_r222_9, hl_r222_10, hl_r222_13, hl_r222_14, hl_r222_15, hl_r222_18, hl_r222_19, hl_r222_20, hl_r222_21, hl_r222_24, hl_r222_25, hl_r222_28, hl_r222_64, hl_r222_65, hl_r222_68, hl_r222_69, hl_r222_70, hl_r222_73, hl_r222_74, hl_r222_75, hl_r222_78, hl_r222_79, hl_r222_80, hl_r222_83, hl_r222_84, hl_r222_85, hl_r222_88, hl_r222_89, hl_r222_90, hl_r222_93, hl_o_85, hl_p_85_3, hl_p_85_4, hl_p_85_5, hl_p_85_6, hl_p_85_19, hl_p_85_23, hl_p_85_24, hl_p_85_25, hl_p_85_26, hl_p_85_27, hl_p_85_28, hl_p_85_29, hl_p_85_30, hl_p_85_31, hl_p_85_33, hl_p_85_34, hl_p_85_35, hl_p_85_36, hl_p_85_37, hl_a_86, hl_z_86, hl_k0, hl_v0, hm1, hl_s151, g1, hl_tv_f, hl_kill_i, hl_kill_r, hl_kill_n, hl_kill_l, hl_tl_s, hl_tl_n, hl_cal_some, hl_gI, hl_gJ, hl_gsI, hl_gsJ, hl_tv01, if_true, if_false, hl_up_a, hl_row_a]
  | true =>
    obtain ⟨I1, e1, F⟩ := hl_s45 (d := 994) (J := J) hI hN h4 hc1 hs1
    have tm := F.tm
    have h66 : I1 66 0 = nI W := by rw [tm.2.1]; exact hI.1.2.2.1
    obtain ⟨I2, L, e2, lb, gd, cl, f2⟩ := hl_s36 (d := 997) (J := J) ⟨w2, w6⟩ hNe hN h66
    have tm2 := hl_Tm_tr tm (hl_Tm_67 f2)
    have hCo := hl_Co_t hI.co tm2
    have S86 : ∀ j, hl_Sv I2 86 j = hl_Sv I 86 j := fun j => by unfold hl_Sv; rw [tm2.2.2.2 86 (by omega) (by omega)]
    have hs2 : hl_Sv I2 86 0 = (nh : Int) := (S86 0).trans hs1
    have ts2 : hl_Sv I2 86 1 = (cn : Int) := (S86 1).trans ts1
    have hF2 : ∀ c k, c < N → k < nh → I2 64 (4 * c + k) = hl_pay I2 c k := fun c k hc hk => by
      rw [f2 64 (by decide), (F.2 c hc).2 k hk, (tm2.pd c).pay]
    have hP2 : hl_Pu N I2 := hl_Pu_t (F.pu hs1) (hl_Tm_67 f2) (f2 64 (by decide)) (f2 65 (by decide))
    have hg := hCo.hg hN hs2 (by omega)
    have hg4 : ∀ i, i < N → ∃ p, p < 4 ∧ I2 8 i = nI p := fun i hi => by obtain ⟨p, p1, p2⟩ := hg i hi; exact ⟨p, by omega, p2⟩
    -- the reference's beginning
    obtain ⟨I3, e3, f3, k3⟩ := hl_s212 (d := 998) (I := I2) (J := J) hN hCo.mM
    have tm3 := hl_Tm_94 f3
    have h94 : ∀ c, c < N → I3 94 c = I2 8 c := fun c hc => by rw [k3 c hc, show I2 8 c = I2 86 (30 + 7 * c + 6) from hCo.2.1.1.cell (i := 6) hN hc (by omega)]
    have w850 : I3 85 0 = nI W := by rw [tm3.2.2.1 0 (by omega)]; exact hCo.1.2.1.1
    have w852 : I3 85 2 = nI N := by rw [tm3.2.2.1 2 (by omega)]; exact hCo.mM
    obtain ⟨I4, L', e4, lb', gd', cl', f4⟩ := hl_s216 (d := 998) (J := J) ⟨w2, w6⟩ hN w850 w852
    have tm4 := hl_Tm_tr tm3 (hl_Tm_95 f4)
    have hv4 : hl_vw I2 I4 := tm4.vw
    have h94' : ∀ c, c < N → I4 94 c = I2 8 c := fun c hc => by rw [f4 94 (by decide)]; exact h94 c hc
    -- one labelling
    have b2 := hl_p2_b (W := W) (N := N)
    have gdr : hl_Gd (I1 8) (hl_ps (hl_p1 N W) N) L' := by
      have q := hl_Gd_congr (h := I1 8) b2 (fun c hc => by rw [h94 c hc, f2 8 (by decide)]) gd'
      rw [← hNe] at q ⊢
      exact (hl_Gd12 w2).mpr q
    have clr : hl_Cl (I1 8) (hl_ps (hl_p1 N W) N) L' := by
      have q := (hl_Cl_congr (h := I1 8) b2 (fun c hc => by rw [h94 c hc, f2 8 (by decide)])).mp cl'
      rw [← hNe] at q ⊢
      exact (hl_Cl12 w2).mpr q
    have eL : L = L' := hl_Gd_one gd cl gdr clr
    subst eL
    have lb2 : hl_Lb 67 N I2 L := lb
    have e64 : I4 64 = I2 64 := by rw [f4 64 (by decide), f3 64 (by decide)]
    have e65 : I4 65 = I2 65 := by rw [f4 65 (by decide), f3 65 (by decide)]
    have fin : ∀ v I5 J5, hl_r9 I4 I5 → hl_call 1001 119 [.ref 0, .int (f 1)] (hl_g N I J) = some (some (.int v), hl_g N I2 J) → hl_call 1001 222 [.ref 85, .int (f 1)] (hl_g N I2 J) = some (some (.int v), hl_g N I5 J5) → ∃ v I1 J1 I2 J2, hl_call 1001 119 [.ref 0, .int (f 1)] (hl_g N I J) = some (some (.int v), hl_g N I1 J1) ∧ hl_call 1001 222 [.ref 85, .int (f 1)] (hl_g N I1 J1) = some (some (.int v), hl_g N I2 J2) ∧ hl_Tm I I1 ∧ hl_Pu N I1 ∧ hl_Tm I1 I2 ∧ I2 64 = I1 64 ∧ I2 65 = I1 65 := fun v I5 J5 r a b => ⟨v, I2, J, I5, J5, a, b, tm2, hP2, hl_Tm_tr tm4 r.tm, by rw [r 64 (by decide) (by decide), e64], by rw [r 65 (by decide) (by decide), e65]⟩
    have st1 : hl_call 1001 119 [.ref 0, .int (f 1)] (hl_g N I J) = hl_Run 119 (hl_call 1000) 43 [.ref 0, .int (f 1)] [.int (f 1)] (hl_g N I2 J) := by
      rw [hl_e119 (d := 1000)]
      simp only [hl_r119_0, hl_r119_1, hl_r119_4, hl_r119_7, hl_r119_10, hl_r119_11, hl_r119_12, hl_r119_13, hl_r119_16, hl_r119_21, hl_r119_22, hl_r119_25, hl_r119_28, hl_r119_29, hl_r119_32, hl_r119_33, hl_r119_36, hl_r119_39, hl_r119_42, hl_o_0, hl_p_0_3, hl_p_0_4, hl_p_0_5, hl_p_0_7, hl_p_0_8, hl_p_0_9, hl_p_0_10, hl_p_0_11, hl_p_0_12, hl_p_0_13, hl_p_0_14, hl_p_0_15, hl_o_1, hl_p_1_0, hl_p_1_1, hl_p_1_2, hl_p_1_3, hl_p_1_4, hl_p_1_5, hl_p_1_6, hl_p_1_7, hl_p_1_9, hl_p_1_14, hl_p_1_15, hl_o_63, hl_p_63_0, hl_p_63_1, hl_p_63_2, hl_p_63_3, hl_o_66, hl_p_66_1, hc1, n0, hl_s147, g1, hl_tv_t, hl_10, not_false_eq_true, e1, e2, hl_tl_n, hl_kill_i, hl_kill_r, hl_kill_n, hl_kill_l, hl_tl_s, hl_tl_n, hl_cal_some, hl_gI, hl_gJ, hl_gsI, hl_gsJ, hl_tv01, if_true, if_false, hl_up_a, hl_row_a]
    have st2 : hl_call 1001 222 [.ref 85, .int (f 1)] (hl_g N I2 J) = hl_Run 222 (hl_call 1000) 29 [.ref 85, .int (f 1)] [.int (f 1)] (hl_g N I4 J) := by
      rw [hl_e222 (d := 1000)]
      have em : I2 86 0 = nI nh := by rw [tm2.2.2.2 86 (by omega) (by omega)]; exact hm1
      simp only [hl_r222_0, hl_r222_1, hl_r222_2, hl_r222_3, hl_r222_6, hl_r222_9, hl_r222_10, hl_r222_13, hl_r222_14, hl_r222_15, hl_r222_20, hl_r222_21, hl_r222_24, hl_r222_25, hl_r222_28, hl_o_85, hl_p_85_3, hl_p_85_4, hl_p_85_5, hl_p_85_6, hl_p_85_19, hl_p_85_23, hl_p_85_24, hl_p_85_25, hl_p_85_26, hl_p_85_27, hl_p_85_28, hl_p_85_29, hl_p_85_30, hl_p_85_31, hl_p_85_33, hl_p_85_34, hl_p_85_35, hl_p_85_36, hl_p_85_37, hl_a_86, hl_z_86, hl_k0, hl_v0, em, n0, hl_s151, g1, hl_tv_t, hl_10, not_false_eq_true, e3, e4, hl_tl_n, hl_kill_i, hl_kill_r, hl_kill_n, hl_kill_l, hl_tl_s, hl_tl_n, hl_cal_some, hl_gI, hl_gJ, hl_gsI, hl_gsJ, hl_tv01, if_true, if_false, hl_up_a, hl_row_a]
    have cZ := hl_z_8 (N := N) (I := I2) (J := J)
    rcases hl_sw05 g1 with w | w | w | w | w | w
    · obtain ⟨I5, J5, e5, r5, j5⟩ := hl_s215 (d := 992) (J := J) hCo hv4 hN hs2 h4 ts2 hg h94'
      refine fin (hl_pc N cn I2 (I2 8)) I5 J5 r5 ?_ ?_
      rotate_left
      · rw [st2, w, hl_r222_29_0]; simp only [hl_r222_64, hl_r222_65, hl_r222_68, hl_o_85, hl_p_85_3, hl_p_85_4, hl_p_85_5, hl_p_85_6, hl_p_85_19, hl_p_85_23, hl_p_85_24, hl_p_85_25, hl_p_85_26, hl_p_85_27, hl_p_85_28, hl_p_85_29, hl_p_85_30, hl_p_85_31, hl_p_85_33, hl_p_85_34, hl_p_85_35, hl_p_85_36, hl_p_85_37, e5, hl_kill_i, hl_kill_r, hl_kill_n, hl_kill_l, hl_tl_s, hl_tl_n, hl_cal_some, hl_gI, hl_gJ, hl_gsI, hl_gsJ, hl_tv01, if_true, if_false, hl_up_a, hl_row_a]
      · rw [st1, w, hl_r119_43_0]
        simp only [hl_r119_76, hl_r119_77, hl_r119_78, hl_r119_81, hl_r119_84, hl_r119_87, hl_o_0, hl_p_0_3, hl_p_0_4, hl_p_0_5, hl_p_0_7, hl_p_0_8, hl_p_0_9, hl_p_0_10, hl_p_0_11, hl_p_0_12, hl_p_0_13, hl_p_0_14, hl_p_0_15, hl_o_1, hl_p_1_0, hl_p_1_1, hl_p_1_2, hl_p_1_3, hl_p_1_4, hl_p_1_5, hl_p_1_6, hl_p_1_7, hl_p_1_9, hl_p_1_14, hl_p_1_15, hl_s142 (d := 997) (J := J) hCo hF2 hN h4 ts2 hl_a_8 cZ hg, hl_kill_i, hl_kill_r, hl_kill_n, hl_kill_l, hl_tl_s, hl_tl_n, hl_cal_some, hl_gI, hl_gJ, hl_gsI, hl_gsJ, hl_tv01, if_true, if_false, hl_up_a, hl_row_a]
    · obtain ⟨I5, J5, e5, r5, j5⟩ := hl_s213 (d := 993) (J := J) hCo hv4 hN hs2 h4 hg h94'
      refine fin (hl_cp N I2 (I2 8)) I5 J5 r5 ?_ ?_
      rotate_left
      · rw [st2, w, hl_r222_29_1]; simp only [hl_r222_69, hl_r222_70, hl_r222_73, hl_o_85, hl_p_85_3, hl_p_85_4, hl_p_85_5, hl_p_85_6, hl_p_85_19, hl_p_85_23, hl_p_85_24, hl_p_85_25, hl_p_85_26, hl_p_85_27, hl_p_85_28, hl_p_85_29, hl_p_85_30, hl_p_85_31, hl_p_85_33, hl_p_85_34, hl_p_85_35, hl_p_85_36, hl_p_85_37, e5, hl_kill_i, hl_kill_r, hl_kill_n, hl_kill_l, hl_tl_s, hl_tl_n, hl_cal_some, hl_gI, hl_gJ, hl_gsI, hl_gsJ, hl_tv01, if_true, if_false, hl_up_a, hl_row_a]
      · rw [st1, w, hl_r119_43_1]
        simp only [hl_r119_88, hl_r119_89, hl_r119_92, hl_r119_93, hl_r119_96, hl_r119_99, hl_r119_102, hl_o_0, hl_p_0_3, hl_p_0_4, hl_p_0_5, hl_p_0_7, hl_p_0_8, hl_p_0_9, hl_p_0_10, hl_p_0_11, hl_p_0_12, hl_p_0_13, hl_p_0_14, hl_p_0_15, hl_o_1, hl_p_1_0, hl_p_1_1, hl_p_1_2, hl_p_1_3, hl_p_1_4, hl_p_1_5, hl_p_1_6, hl_p_1_7, hl_p_1_9, hl_p_1_14, hl_p_1_15, hl_o_63, hl_p_63_0, hl_p_63_1, hl_p_63_2, hl_p_63_3, hl_s50 (d := 998) (J := J) hF2 hN h4 hl_a_8 cZ hg, hl_kill_i, hl_kill_r, hl_kill_n, hl_kill_l, hl_tl_s, hl_tl_n, hl_cal_some, hl_gI, hl_gJ, hl_gsI, hl_gsJ, hl_tv01, if_true, if_false, hl_up_a, hl_row_a]
    · have e5 := hl_s214 (d := 997) (J := J) hCo hv4 hN hs2 h4 ts2 hg h94'
      refine fin (hl_tps cn I2 (I2 8)) I4 J (hl_r9_rf I4) ?_ ?_
      rotate_left
      · rw [st2, w, hl_r222_29_2]; simp only [hl_r222_74, hl_r222_75, hl_r222_78, hl_o_85, hl_p_85_3, hl_p_85_4, hl_p_85_5, hl_p_85_6, hl_p_85_19, hl_p_85_23, hl_p_85_24, hl_p_85_25, hl_p_85_26, hl_p_85_27, hl_p_85_28, hl_p_85_29, hl_p_85_30, hl_p_85_31, hl_p_85_33, hl_p_85_34, hl_p_85_35, hl_p_85_36, hl_p_85_37, e5, hl_kill_i, hl_kill_r, hl_kill_n, hl_kill_l, hl_tl_s, hl_tl_n, hl_cal_some, hl_gI, hl_gJ, hl_gsI, hl_gsJ, hl_tv01, if_true, if_false, hl_up_a, hl_row_a]
      · rw [st1, w, hl_r119_43_2]
        simp only [hl_r119_103, hl_r119_104, hl_r119_107, hl_r119_110, hl_r119_111, hl_r119_114, hl_r119_117, hl_r119_118, hl_r119_121, hl_r119_124, hl_r119_127, hl_o_0, hl_p_0_3, hl_p_0_4, hl_p_0_5, hl_p_0_7, hl_p_0_8, hl_p_0_9, hl_p_0_10, hl_p_0_11, hl_p_0_12, hl_p_0_13, hl_p_0_14, hl_p_0_15, hl_o_1, hl_p_1_0, hl_p_1_1, hl_p_1_2, hl_p_1_3, hl_p_1_4, hl_p_1_5, hl_p_1_6, hl_p_1_7, hl_p_1_9, hl_p_1_14, hl_p_1_15, hl_o_11, hl_p_11_0, hl_p_11_1, hl_p_11_2, hCo.s83 (d := 999) (J := J) hN h4 ts2 hl_a_8 cZ hg, hl_kill_i, hl_kill_r, hl_kill_n, hl_kill_l, hl_tl_s, hl_tl_n, hl_cal_some, hl_gI, hl_gJ, hl_gsI, hl_gsJ, hl_tv01, if_true, if_false, hl_up_a, hl_row_a]
    · have e5 := hl_s218 (d := 999) (J := J) hN (show I4 85 2 = nI N by rw [tm4.2.2.1 2 (by omega)]; exact hCo.mM) lb'
      refine fin (hl_sum N (hl_pn L)) I4 J (hl_r9_rf I4) ?_ ?_
      rotate_left
      · rw [st2, w, hl_r222_29_3]; simp only [hl_r222_79, hl_r222_80, hl_r222_83, hl_o_85, hl_p_85_3, hl_p_85_4, hl_p_85_5, hl_p_85_6, hl_p_85_19, hl_p_85_23, hl_p_85_24, hl_p_85_25, hl_p_85_26, hl_p_85_27, hl_p_85_28, hl_p_85_29, hl_p_85_30, hl_p_85_31, hl_p_85_33, hl_p_85_34, hl_p_85_35, hl_p_85_36, hl_p_85_37, e5, hl_kill_i, hl_kill_r, hl_kill_n, hl_kill_l, hl_tl_s, hl_tl_n, hl_cal_some, hl_gI, hl_gJ, hl_gsI, hl_gsJ, hl_tv01, if_true, if_false, hl_up_a, hl_row_a]
      · rw [st1, w, hl_r119_43_3]
        simp only [hl_r119_128, hl_r119_129, hl_r119_132, hl_r119_135, hl_o_0, hl_p_0_3, hl_p_0_4, hl_p_0_5, hl_p_0_7, hl_p_0_8, hl_p_0_9, hl_p_0_10, hl_p_0_11, hl_p_0_12, hl_p_0_13, hl_p_0_14, hl_p_0_15, hl_o_66, hl_p_66_1, hl_s39 (d := 999) (J := J) hN lb2, hl_kill_i, hl_kill_r, hl_kill_n, hl_kill_l, hl_tl_s, hl_tl_n, hl_cal_some, hl_gI, hl_gJ, hl_gsI, hl_gsJ, hl_tv01, if_true, if_false, hl_up_a, hl_row_a]
    · have e5 := hl_s219 (d := 998) (J := J) hCo hv4 hN h94' hg4
      refine fin (hl_sum 6 (hl_dvs N (I2 4) (I2 8))) I4 J (hl_r9_rf I4) ?_ ?_
      rotate_left
      · rw [st2, w, hl_r222_29_4]; simp only [hl_r222_84, hl_r222_85, hl_r222_88, hl_o_85, hl_p_85_3, hl_p_85_4, hl_p_85_5, hl_p_85_6, hl_p_85_19, hl_p_85_23, hl_p_85_24, hl_p_85_25, hl_p_85_26, hl_p_85_27, hl_p_85_28, hl_p_85_29, hl_p_85_30, hl_p_85_31, hl_p_85_33, hl_p_85_34, hl_p_85_35, hl_p_85_36, hl_p_85_37, e5, hl_kill_i, hl_kill_r, hl_kill_n, hl_kill_l, hl_tl_s, hl_tl_n, hl_cal_some, hl_gI, hl_gJ, hl_gsI, hl_gsJ, hl_tv01, if_true, if_false, hl_up_a, hl_row_a]
      · rw [st1, w, hl_r119_43_4]
        simp only [hl_r119_136, hl_r119_137, hl_r119_140, hl_r119_143, hl_o_0, hl_p_0_3, hl_p_0_4, hl_p_0_5, hl_p_0_7, hl_p_0_8, hl_p_0_9, hl_p_0_10, hl_p_0_11, hl_p_0_12, hl_p_0_13, hl_p_0_14, hl_p_0_15, hl_o_1, hl_p_1_0, hl_p_1_1, hl_p_1_2, hl_p_1_3, hl_p_1_4, hl_p_1_5, hl_p_1_6, hl_p_1_7, hl_p_1_9, hl_p_1_14, hl_p_1_15, hl_s12 (d := 998) (I := I2) (J := J) hN, hl_kill_i, hl_kill_r, hl_kill_n, hl_kill_l, hl_tl_s, hl_tl_n, hl_cal_some, hl_gI, hl_gJ, hl_gsI, hl_gsJ, hl_tv01, if_true, if_false, hl_up_a, hl_row_a]
    · have e5 := hl_s221 (d := 998) (J := J) hCo hv4 hN hs2 h4 lb' h94'
      have w5 : (5 : Int32).toInt < 0 ∨ 4 < (5 : Int32).toInt := .inr (by decide)
      refine fin (hl_fnd (hl_asp (I2 7) (I2 8) L) N 0) I4 J (hl_r9_rf I4) ?_ ?_
      rotate_left
      · rw [st2, w, hl_r222_29_d w5]; simp only [hl_r222_89, hl_r222_90, hl_r222_93, hl_o_85, hl_p_85_3, hl_p_85_4, hl_p_85_5, hl_p_85_6, hl_p_85_19, hl_p_85_23, hl_p_85_24, hl_p_85_25, hl_p_85_26, hl_p_85_27, hl_p_85_28, hl_p_85_29, hl_p_85_30, hl_p_85_31, hl_p_85_33, hl_p_85_34, hl_p_85_35, hl_p_85_36, hl_p_85_37, e5, hl_kill_i, hl_kill_r, hl_kill_n, hl_kill_l, hl_tl_s, hl_tl_n, hl_cal_some, hl_gI, hl_gJ, hl_gsI, hl_gsJ, hl_tv01, if_true, if_false, hl_up_a, hl_row_a]
      · rw [st1, w, hl_r119_43_d w5]
        simp only [hl_r119_144, hl_r119_145, hl_r119_148, hl_r119_149, hl_r119_152, hl_r119_155, hl_r119_156, hl_r119_159, hl_r119_162, hl_r119_165, hl_o_0, hl_p_0_3, hl_p_0_4, hl_p_0_5, hl_p_0_7, hl_p_0_8, hl_p_0_9, hl_p_0_10, hl_p_0_11, hl_p_0_12, hl_p_0_13, hl_p_0_14, hl_p_0_15, hl_o_1, hl_p_1_0, hl_p_1_1, hl_p_1_2, hl_p_1_3, hl_p_1_4, hl_p_1_5, hl_p_1_6, hl_p_1_7, hl_p_1_9, hl_p_1_14, hl_p_1_15, hl_o_66, hl_p_66_1, hl_s40 (d := 998) (J := J) hN lb2, hl_kill_i, hl_kill_r, hl_kill_n, hl_kill_l, hl_tl_s, hl_tl_n, hl_cal_some, hl_gI, hl_gJ, hl_gsI, hl_gsJ, hl_tv01, if_true, if_false, hl_up_a, hl_row_a]
end HLJPR
