/-! when: the two methods, the pair -/
def hl_f84 (I I' : Nat → Nat → Int32) : Prop := ∀ b, b ≠ 60 → b ≠ 61 → b ≠ 62 → b ≠ 84 → I' b = I b
theorem hl_f84.tm {I I' : Nat → Nat → Int32} (h : hl_f84 I I') : hl_Tm I I' := ⟨fun b hb => h b (by omega) (by omega) (by omega) (by omega), h 66 (by omega) (by omega) (by omega) (by omega), fun k _ => by rw [h 85 (by omega) (by omega) (by omega) (by omega)], fun b h1 h2 => h b (by omega) (by omega) (by omega) (by omega)⟩
theorem hl_f6.f84 {I I' : Nat → Nat → Int32} (h : hl_f6 I I') : hl_f84 I I' := fun b h1 h2 h3 _ => h b h1 h2 h3
theorem hl_f84_tr {I1 I2 I3 : Nat → Nat → Int32} (h : hl_f84 I1 I2) (g : hl_f84 I2 I3) : hl_f84 I1 I3 := fun b h1 h2 h3 h4 => (g b h1 h2 h3 h4).trans (h b h1 h2 h3 h4)
theorem hl_Tm.pm {I I' : Nat → Nat → Int32} (t : hl_Tm I I') (N : Nat) (g : Nat → Int32) (m : Nat) (s : Bool) : hl_pm N I' g m s = hl_pm N I g m s := by
  refine hl_sum_congr (fun c hc => ?_)
  have e3 : ∀ b, hl_offv I' c (g c).toNatClampNeg b = hl_offv I c (g c).toNatClampNeg b := fun b => by
    unfold hl_offv
    rw [t.1 9 (by omega), t.1 2 (by omega)]
  rw [hl_inM_c (I := I) (by rw [t.1 1 (by omega)]) (fun b hb => t.1 b (by omega)), e3]
section HLW2
variable {d N W H : Nat} {I Is I' : Nat → Nat → Int32} {J J' : Nat → Nat → Int64} {nh cn : Nat} {g g' : Nat → Int32}
theorem hl_s52 {m : Nat} {s : Bool} (hTB : hl_TB I) (ht : ∀ c, c < N → I 6 c = 0 ∨ I 6 c = 1) (hN : N ≤ 24) (hn : nh ≤ 4) (hg : hl_hg N nh (I 8)) (hm : m < 12) : ∃ I', hl_call (d + 5) 52 [.ref 63, .int (nI m), .int (hl_tv s)] (hl_g N I J) = some (some (.int (hl_pm N I (I 8) m s)), hl_g N I' J) ∧ hl_f6 I I' := by
  have eN : Int32.ofNat N = nI N := rfl
  have loop : ∀ f (I1 : Nat → Nat → Int32) i, i + f = N → hl_f6 I I1 → ∃ I', hl_Run 52 (hl_call (d + 4)) 5 [.ref 63, .int (nI m), .int (hl_tv s), .int (hl_sum i (fun c => hl_inM I c (I 8 c).toNatClampNeg m (hl_offv I c (I 8 c).toNatClampNeg s))), .int (nI i)] [] (hl_g N I1 J) = some (some (.int (hl_pm N I (I 8) m s)), hl_g N I' J) ∧ hl_f6 I I' := by
    intro f
    induction f with
    | zero =>
      intro I1 i hi hf
      obtain rfl : i = N := by omega
      refine ⟨I1, ?_, hf⟩
      simp only [hl_r52_0, hl_r52_1, hl_r52_2, hl_r52_3, hl_r52_5, hl_r52_7, hl_r52_8, hl_r52_11, hl_r52_12, hl_r52_15, hl_r52_16, hl_r52_17, hl_r52_19, hl_r52_20, hl_r52_23, hl_r52_26, hl_r52_28, hl_r52_29, hl_r52_30, hl_r52_31, hl_r52_34, hl_r52_35, hl_r52_36, hl_r52_39, hl_r52_42, hl_r52_43, hl_o_63, hl_p_63_0, hl_p_63_1, hl_p_63_2, hl_p_63_3, hl_a_65, hl_z_65, hl_l_65, eN, Int32.le_refl, hl_pm, hl_kill_i, hl_kill_r, hl_kill_n, hl_kill_l, hl_tl_s, hl_tl_n, hl_cal_some, hl_gI, hl_gJ, hl_gsI, hl_gsJ, hl_tv01, if_true, if_false, hl_up_a, hl_row_a]
    | succ f ih =>
      intro I1 i hi hf
      have c1 : ¬ nI N ≤ nI i := nI_ge (by omega) (by omega)
      have en : nI i + 1 = nI (i + 1) := (nI_succ i).symm
      have b : hl_inb (nI i) N = true := hl_inb_nI (by omega) (by omega)
      obtain ⟨p, p1, p2⟩ := hg i (by omega)
      have e8 : I1 8 i = nI p := by rw [hf 8 (by decide) (by decide) (by decide)]; exact p2
      have hTB' : hl_TB I1 := fun T cl hT hcl => by
        rw [hf (46 + 4 * T) (by omega) (by omega) (by omega), hf (47 + 4 * T) (by omega) (by omega) (by omega)]
        exact hTB T cl hT hcl
      obtain ⟨I2, e2, f2⟩ := hl_s47 (d := d) (N := N) (J := J) (I := I1) (c := i) (h := p) (m := m) (sm := hl_tv s) hTB' (by omega) hN (by omega) hm (by rw [hf 6 (by decide) (by decide) (by decide)]; exact ht i (by omega))
      have es : (!decide (hl_tv s = 0)) = s := by cases s <;> rfl
      have eo : hl_offv I1 i p s = hl_offv I i p s := by
        unfold hl_offv
        rw [hf 9 (by decide) (by decide) (by decide), hf 2 (by decide) (by decide) (by decide)]
      rw [es, eo, hf.same.inM] at e2
      obtain ⟨I3, e3, f3⟩ := ih I2 (i + 1) (by omega) (hl_f6_tr hf f2)
      refine ⟨I3, ?_, f3⟩
      rw [show hl_sum (i + 1) (fun c => hl_inM I c (I 8 c).toNatClampNeg m (hl_offv I c (I 8 c).toNatClampNeg s)) = hl_sum i (fun c => hl_inM I c (I 8 c).toNatClampNeg m (hl_offv I c (I 8 c).toNatClampNeg s)) + hl_inM I i (I 8 i).toNatClampNeg m (hl_offv I i (I 8 i).toNatClampNeg s) from rfl, p2, nIc (show p < 2 ^ 31 by omega)] at e3
      rw [← e3, hl_r52_5]
      simp only [hl_r52_0, hl_r52_1, hl_r52_2, hl_r52_3, hl_r52_7, hl_r52_8, hl_r52_11, hl_r52_12, hl_r52_15, hl_r52_16, hl_r52_17, hl_r52_19, hl_r52_20, hl_r52_23, hl_r52_26, hl_r52_28, hl_r52_29, hl_r52_30, hl_r52_31, hl_r52_34, hl_r52_35, hl_r52_36, hl_r52_39, hl_r52_42, hl_r52_43, hl_o_63, hl_p_63_0, hl_p_63_1, hl_p_63_2, hl_p_63_3, hl_a_65, hl_z_65, hl_o_1, hl_p_1_0, hl_p_1_1, hl_p_1_2, hl_p_1_3, hl_p_1_4, hl_p_1_5, hl_p_1_6, hl_p_1_7, hl_p_1_9, hl_p_1_14, hl_p_1_15, hl_a_8, hl_z_8, hl_l_65, eN, c1, b, nIc (show i < 2 ^ 31 by omega), e8, e2, en, hl_kill_i, hl_kill_r, hl_kill_n, hl_kill_l, hl_tl_s, hl_tl_n, hl_cal_some, hl_gI, hl_gJ, hl_gsI, hl_gsJ, hl_tv01, if_true, if_false, hl_up_a, hl_row_a]
  obtain ⟨I', e, f⟩ := loop N I 0 (by omega) (hl_f6_rf I)
  refine ⟨I', ?_, f⟩
  rw [hl_e52, hl_r52_0, hl_r52_1, hl_r52_2, hl_r52_3]
  exact e
/-- the months -/
theorem hl_l128 {x : Int32} (hCo : hl_Co N W H I) (hN : N ≤ 24) (hn : nh ≤ 4) (hg : hl_hg N nh (I 8)) (t : Int32) (f : Nat) : ∀ (I1 : Nat → Nat → Int32) (i : Nat) (l4 l5 l6 l7 l8 : Value), i + f = 12 → hl_f84 I I1 → (∀ j, j < i → I1 84 j = hl_pm N I (I 8) j true - hl_pm N I (I 8) j false) → ∃ I' l4', hl_Run 128 (hl_call (d + 5)) 49 [.ref 0, .int x, .int (t + hl_sum i (fun m => hl_pm N I (I 8) m false)), .int (nI i), l4, l5, l6, l7, l8] [] (hl_g N I1 J) = hl_Run 128 (hl_call (d + 5)) 95 [.ref 0, .int x, .int (t + hl_sum 12 (fun m => hl_pm N I (I 8) m false)), .int (nI 12), l4', l5, l6, l7, l8] [] (hl_g N I' J) ∧ hl_f84 I I' ∧ ∀ j, j < 12 → I' 84 j = hl_pm N I (I 8) j true - hl_pm N I (I 8) j false := by
  induction f with
  | zero =>
    intro I1 i l4 l5 l6 l7 l8 hi hf hr
    obtain rfl : i = 12 := by omega
    refine ⟨I1, l4, ?_, hf, hr⟩
    have c1 : (12 : Int32) ≤ nI 12 := Int32.le_refl _
    simp only [hl_r128_49, hl_r128_50, hl_r128_52, c1, hl_kill_i, hl_kill_r, hl_kill_n, hl_kill_l, hl_tl_s, hl_tl_n, hl_cal_some, hl_gI, hl_gJ, hl_gsI, hl_gsJ, hl_tv01, if_true, if_false, hl_up_a, hl_row_a]
  | succ f ih =>
    intro I1 i l4 l5 l6 l7 l8 hi hf hr
    have c1 : ¬ (12 : Int32) ≤ nI i := show ¬ nI 12 ≤ nI i from nI_ge (by omega) (by omega)
    have en : nI i + 1 = nI (i + 1) := (nI_succ i).symm
    have b : hl_inb (nI i) 12 = true := hl_inb_nI (by omega) (by omega)
    have pre : ∀ I2, hl_f84 I I2 → hl_TB I2 ∧ (∀ c, c < N → I2 6 c = 0 ∨ I2 6 c = 1) ∧ hl_hg N nh (I2 8) ∧ I2 8 = I 8 := fun I2 h2 => by
      have e8 := h2.tm.1 8 (by omega)
      refine ⟨fun T cl hT hcl => ?_, fun c hc => ?_, by rw [e8]; exact hg, e8⟩
      · rw [h2.tm.1 (46 + 4 * T) (by omega), h2.tm.1 (47 + 4 * T) (by omega)]
        exact hCo.2.2.2.2.1 T cl hT hcl
      · rw [h2.tm.1 6 (by omega)]; exact hCo.town hN hc
    obtain ⟨a1, a2, a3, a4⟩ := pre I1 hf
    obtain ⟨I2, e2, f2⟩ := hl_s52 (d := d) (J := J) (m := i) (s := false) a1 a2 hN hn a3 (by omega)
    rw [a4, hf.tm.pm] at e2
    have hf2 := hl_f84_tr hf f2.f84
    obtain ⟨b1, b2, b3, b4⟩ := pre I2 hf2
    obtain ⟨I3, e3, f3⟩ := hl_s52 (d := d) (J := J) (m := i) (s := true) b1 b2 hN hn b3 (by omega)
    rw [b4, hf2.tm.pm] at e3
    have hf3 := hl_f84_tr hf2 f3.f84
    have e84 : I3 84 = I1 84 := by rw [f3 84 (by decide) (by decide) (by decide), f2 84 (by decide) (by decide) (by decide)]
    obtain ⟨I4, l4', e4, f4, r4⟩ := ih (hl_up I3 84 i (hl_pm N I (I 8) i true - hl_pm N I (I 8) i false)) (i + 1) (.int (hl_pm N I (I 8) i false)) l5 l6 l7 l8 (by omega) (fun q h1 h2 h3 h4 => by rw [hl_up_ne _ _ _ h4]; exact hf3 q h1 h2 h3 h4) (fun j hj => by
      rw [hl_up_a, if_pos rfl]
      by_cases z : j = i
      · rw [if_pos z, z]
      · rw [if_neg z, e84]; exact hr j (by omega))
    refine ⟨I4, l4', ?_, f4, r4⟩
    rw [show hl_sum (i + 1) (fun m => hl_pm N I (I 8) m false) = hl_sum i (fun m => hl_pm N I (I 8) m false) + hl_pm N I (I 8) i false from rfl, ← Int32.add_assoc] at e4
    rw [hl_tv_f] at e2
    rw [hl_tv_t] at e3
    rw [← e4, hl_r128_49]
    simp only [hl_r128_50, hl_r128_52, hl_r128_55, hl_r128_56, hl_r128_59, hl_r128_60, hl_r128_61, hl_r128_64, hl_r128_66, hl_r128_67, hl_r128_69, hl_r128_70, hl_r128_71, hl_r128_72, hl_r128_75, hl_r128_76, hl_r128_77, hl_r128_80, hl_r128_81, hl_r128_82, hl_r128_85, hl_r128_87, hl_r128_88, hl_r128_89, hl_r128_92, hl_o_0, hl_p_0_3, hl_p_0_4, hl_p_0_5, hl_p_0_7, hl_p_0_8, hl_p_0_9, hl_p_0_10, hl_p_0_11, hl_p_0_12, hl_p_0_13, hl_p_0_14, hl_p_0_15, hl_o_63, hl_p_63_0, hl_p_63_1, hl_p_63_2, hl_p_63_3, hl_a_84, hl_z_84, c1, e2, e3, b, nIc (show i < 2 ^ 31 by omega), en, hl_kill_i, hl_kill_r, hl_kill_n, hl_kill_l, hl_tl_s, hl_tl_n, hl_cal_some, hl_gI, hl_gJ, hl_gsI, hl_gsJ, hl_tv01, if_true, if_false, hl_up_a, hl_row_a]
/-- the class's scan -/
theorem hl_l128i {x pl : Int32} {r : Nat → Int32} {a : Nat} {c : hl_C} (ha : a < 12) (hr : ∀ j, j < 12 → I 84 j = r j) (f : Nat) : ∀ (b : Nat) (s : Int32) (st : Int32 × Int32 × Int32), b + f = 12 → ∃ s', hl_Run 128 c 120 [.ref 0, .int x, .int pl, .int st.1, .int st.2.1, .int st.2.2, .int (nI a), .int s, .int (nI b)] [] (hl_g N I J) = hl_Run 128 c 163 [.ref 0, .int x, .int pl, .int (hl_wi r a f b s st).1, .int (hl_wi r a f b s st).2.1, .int (hl_wi r a f b s st).2.2, .int (nI a), .int s', .int (nI 12)] [] (hl_g N I J) := by
  induction f with
  | zero =>
    intro b s st hb
    obtain rfl : b = 12 := by omega
    refine ⟨s, ?_⟩
    have c1 : (12 : Int32) ≤ nI 12 := Int32.le_refl _
    simp only [hl_r128_120, hl_r128_122, hl_r128_124, c1, hl_wi, hl_kill_i, hl_kill_r, hl_kill_n, hl_kill_l, hl_tl_s, hl_tl_n, hl_cal_some, hl_gI, hl_gJ, hl_gsI, hl_gsJ, hl_tv01, if_true, if_false, hl_up_a, hl_row_a]
  | succ f ih =>
    intro b s st hb
    have c1 : ¬ (12 : Int32) ≤ nI b := show ¬ nI 12 ≤ nI b from nI_ge (by omega) (by omega)
    have en : nI b + 1 = nI (b + 1) := (nI_succ b).symm
    have bb : hl_inb (nI b) 12 = true := hl_inb_nI (by omega) (by omega)
    have er := hr b (by omega)
    unfold hl_wi
    by_cases q : s + r b < st.2.2
    · rw [if_pos q]
      obtain ⟨s', e⟩ := ih (b + 1) (s + r b) (nI a, nI b, s + r b) (by omega)
      refine ⟨s', ?_⟩
      rw [← e, hl_r128_120]
      simp only [hl_r128_122, hl_r128_124, hl_r128_127, hl_r128_129, hl_r128_130, hl_r128_133, hl_r128_135, hl_r128_136, hl_r128_137, hl_r128_139, hl_r128_141, hl_r128_143, hl_r128_146, hl_r128_148, hl_r128_150, hl_r128_152, hl_r128_153, hl_r128_155, hl_r128_157, hl_r128_160, hl_o_0, hl_p_0_3, hl_p_0_4, hl_p_0_5, hl_p_0_7, hl_p_0_8, hl_p_0_9, hl_p_0_10, hl_p_0_11, hl_p_0_12, hl_p_0_13, hl_p_0_14, hl_p_0_15, hl_a_84, hl_z_84, c1, bb, nIc (show b < 2 ^ 31 by omega), er, Int32.not_le.mpr q, en, hl_kill_i, hl_kill_r, hl_kill_n, hl_kill_l, hl_tl_s, hl_tl_n, hl_cal_some, hl_gI, hl_gJ, hl_gsI, hl_gsJ, hl_tv01, if_true, if_false, hl_up_a, hl_row_a]
    · rw [if_neg q]
      obtain ⟨s', e⟩ := ih (b + 1) (s + r b) st (by omega)
      refine ⟨s', ?_⟩
      rw [← e, hl_r128_120]
      simp only [hl_r128_122, hl_r128_124, hl_r128_127, hl_r128_129, hl_r128_130, hl_r128_133, hl_r128_135, hl_r128_136, hl_r128_137, hl_r128_139, hl_r128_141, hl_r128_143, hl_r128_157, hl_r128_160, hl_o_0, hl_p_0_3, hl_p_0_4, hl_p_0_5, hl_p_0_7, hl_p_0_8, hl_p_0_9, hl_p_0_10, hl_p_0_11, hl_p_0_12, hl_p_0_13, hl_p_0_14, hl_p_0_15, hl_a_84, hl_z_84, c1, bb, nIc (show b < 2 ^ 31 by omega), er, Int32.not_lt.mp q, en, hl_kill_i, hl_kill_r, hl_kill_n, hl_kill_l, hl_tl_s, hl_tl_n, hl_cal_some, hl_gI, hl_gJ, hl_gsI, hl_gsJ, hl_tv01, if_true, if_false, hl_up_a, hl_row_a]
theorem hl_l128o {x pl : Int32} {r : Nat → Int32} {c : hl_C} (hr : ∀ j, j < 12 → I 84 j = r j) (f : Nat) : ∀ (a : Nat) (st : Int32 × Int32 × Int32) (l7 l8 : Value), a + f = 12 → ∃ l7' l8', hl_Run 128 c 106 [.ref 0, .int x, .int pl, .int st.1, .int st.2.1, .int st.2.2, .int (nI a), l7, l8] [] (hl_g N I J) = hl_Run 128 c 169 [.ref 0, .int x, .int pl, .int (hl_wo r f a st).1, .int (hl_wo r f a st).2.1, .int (hl_wo r f a st).2.2, .int (nI 12), l7', l8'] [] (hl_g N I J) := by
  induction f with
  | zero =>
    intro a st l7 l8 ha
    obtain rfl : a = 12 := by omega
    refine ⟨l7, l8, ?_⟩
    have c1 : (12 : Int32) ≤ nI 12 := Int32.le_refl _
    simp only [hl_r128_106, hl_r128_108, hl_r128_110, c1, hl_wo, hl_kill_i, hl_kill_r, hl_kill_n, hl_kill_l, hl_tl_s, hl_tl_n, hl_cal_some, hl_gI, hl_gJ, hl_gsI, hl_gsJ, hl_tv01, if_true, if_false, hl_up_a, hl_row_a]
  | succ f ih =>
    intro a st l7 l8 ha
    have c1 : ¬ (12 : Int32) ≤ nI a := show ¬ nI 12 ≤ nI a from nI_ge (by omega) (by omega)
    have en : nI a + 1 = nI (a + 1) := (nI_succ a).symm
    obtain ⟨s', e1⟩ := hl_l128i (N := N) (J := J) (x := x) (pl := pl) (c := c) (a := a) (by omega) hr (12 - a) a 0 st (by omega)
    obtain ⟨l7', l8', e2⟩ := ih (a + 1) (hl_wi r a (12 - a) a 0 st) (.int s') (.int (nI 12)) (by omega)
    refine ⟨l7', l8', ?_⟩
    unfold hl_wo
    rw [← e2]
    have stt : hl_Run 128 c 106 [.ref 0, .int x, .int pl, .int st.1, .int st.2.1, .int st.2.2, .int (nI a), l7, l8] [] (hl_g N I J) = hl_Run 128 c 120 [.ref 0, .int x, .int pl, .int st.1, .int st.2.1, .int st.2.2, .int (nI a), .int 0, .int (nI a)] [] (hl_g N I J) := by
      simp only [hl_r128_106, hl_r128_108, hl_r128_110, hl_r128_113, hl_r128_114, hl_r128_116, hl_r128_118, c1, hl_kill_i, hl_kill_r, hl_kill_n, hl_kill_l, hl_tl_s, hl_tl_n, hl_cal_some, hl_gI, hl_gJ, hl_gsI, hl_gsJ, hl_tv01, if_true, if_false, hl_up_a, hl_row_a]
    rw [stt, e1]
    simp only [hl_r128_163, hl_r128_166, en, hl_kill_i, hl_kill_r, hl_kill_n, hl_kill_l, hl_tl_s, hl_tl_n, hl_cal_some, hl_gI, hl_gJ, hl_gsI, hl_gsJ, hl_tv01, if_true, if_false, hl_up_a, hl_row_a]
/-- the reference's states meanwhile -/
def hl_wS (N : Nat) (I0 I : Nat → Nat → Int32) : Prop := (∀ q, q ≠ 86 → q ≠ 91 → q ≠ 93 → q ≠ 94 → I q = I0 q) ∧ (∀ c, c < N → I 94 c = I0 8 c) ∧ ∀ j, j ≠ 4 → j ≠ 5 → I 86 j = I0 86 j
theorem hl_wS_r9 {I0 I I' : Nat → Nat → Int32} (h : hl_wS N I0 I) (r : hl_r9 I I') : hl_wS N I0 I' := ⟨fun q h1 h2 h3 h4 => by rw [r q h2 h3]; exact h.1 q h1 h2 h3 h4, fun c hc => by rw [r 94 (by decide) (by decide)]; exact h.2.1 c hc, fun j h1 h2 => by rw [r 86 (by decide) (by decide)]; exact h.2.2 j h1 h2⟩
theorem hl_wS_up {I0 I : Nat → Nat → Int32} {k : Nat} {v : Int32} (h : hl_wS N I0 I) (hk : k = 4 ∨ k = 5) : hl_wS N I0 (hl_up I 86 k v) := ⟨fun q h1 h2 h3 h4 => by rw [hl_up_ne _ _ _ h1]; exact h.1 q h1 h2 h3 h4, fun c hc => by rw [hl_up_ne _ _ _ (by decide)]; exact h.2.1 c hc, fun j h1 h2 => by rw [hl_up_a, if_pos rfl, if_neg (by omega)]; exact h.2.2 j h1 h2⟩
theorem hl_wS_vw {I0 I : Nat → Nat → Int32} {x y : Int32} (h : hl_wS N I0 I) (e4 : I 86 4 = x) (e5 : I 86 5 = y) : hl_vw (hl_Vw N I0 x y) I := by
  refine ⟨fun k hk => ?_, ?_, ?_⟩
  · rw [h.1 85 (by decide) (by decide) (by decide) (by decide)]; rfl
  · funext j
    show I 86 j = if j = 5 then y else if j = 4 then x else I0 86 j
    by_cases q5 : j = 5
    · rw [if_pos q5, q5, e5]
    · rw [if_neg q5]
      by_cases q4 : j = 4
      · rw [if_pos q4, q4, e4]
      · rw [if_neg q4]; exact h.2.2 j q4 q5
  · rw [h.1 88 (by decide) (by decide) (by decide) (by decide)]; rfl
theorem hl_wS_price {I0 : Nat → Nat → Int32} {x y : Int32} (hI0 : hl_Inv hl_TX N W H I0) (hN : N ≤ 24) (hs : hl_Sv I0 86 0 = (nh : Int)) (hn : nh ≤ 4) (ts : hl_Sv I0 86 1 = (cn : Int)) (hg : hl_hg N nh (I0 8)) (hxy : x.toInt = -1 ∨ (0 ≤ x.toInt ∧ x.toInt ≤ 11 ∧ 0 ≤ y.toInt ∧ y.toInt ≤ 11)) (h : hl_wS N I0 I) (e4 : I 86 4 = x) (e5 : I 86 5 = y) : ∃ I' J', hl_call (d + 8) 215 [.ref 85] (hl_g N I J) = some (some (.int (hl_pc N cn (hl_Vw N I0 x y) (I0 8))), hl_g N I' J') ∧ hl_wS N I0 I' ∧ I' 86 = I 86 := by
  have hV := hl_Inv_sum hl_TXc hN hI0 x y hxy
  obtain ⟨I', J', e, r, j⟩ := hl_s215 (d := d) (I := I) (J := J) (Is := hl_Vw N I0 x y) (g := I0 8) hV.co (hl_wS_vw h e4 e5) hN hs hn ts hg h.2.1
  exact ⟨I', J', e, hl_wS_r9 h r, r 86 (by decide) (by decide)⟩
theorem hl_l247i {I0 : Nat → Nat → Int32} {x wA wB : Int32} {a : Nat} (hI0 : hl_Inv hl_TX N W H I0) (hN : N ≤ 24) (hs : hl_Sv I0 86 0 = (nh : Int)) (hn : nh ≤ 4) (ts : hl_Sv I0 86 1 = (cn : Int)) (hg : hl_hg N nh (I0 8)) (ha : a < 12) (f : Nat) : ∀ (I : Nat → Nat → Int32) (J : Nat → Nat → Int64) (b : Nat) (st : Int32 × Int32 × Int32) (l9 : Value), b + f = 12 → hl_wS N I0 I → ∃ I' J' l9', hl_Run 247 (hl_call (d + 8)) 72 [.ref 85, .int x, .int wA, .int wB, .int st.1, .int st.2.1, .int st.2.2, .int (nI a), .int (nI b), l9] [] (hl_g N I J) = hl_Run 247 (hl_call (d + 8)) 129 [.ref 85, .int x, .int wA, .int wB, .int (hl_vi (fun a b => hl_pc N cn (hl_Vw N I0 (nI a) (nI b)) (I0 8)) a f b st).1, .int (hl_vi (fun a b => hl_pc N cn (hl_Vw N I0 (nI a) (nI b)) (I0 8)) a f b st).2.1, .int (hl_vi (fun a b => hl_pc N cn (hl_Vw N I0 (nI a) (nI b)) (I0 8)) a f b st).2.2, .int (nI a), .int (nI 12), l9'] [] (hl_g N I' J') ∧ hl_wS N I0 I' := by
  induction f with
  | zero =>
    intro I J b st l9 hb hS
    obtain rfl : b = 12 := by omega
    refine ⟨I, J, l9, ?_, hS⟩
    have c1 : (12 : Int32) ≤ nI 12 := Int32.le_refl _
    simp only [hl_r247_72, hl_r247_74, hl_r247_76, c1, hl_vi, hl_kill_i, hl_kill_r, hl_kill_n, hl_kill_l, hl_tl_s, hl_tl_n, hl_cal_some, hl_gI, hl_gJ, hl_gsI, hl_gsJ, hl_tv01, if_true, if_false, hl_up_a, hl_row_a]
  | succ f ih =>
    intro I J b st l9 hb hS
    have c1 : ¬ (12 : Int32) ≤ nI b := show ¬ nI 12 ≤ nI b from nI_ge (by omega) (by omega)
    have en : nI b + 1 = nI (b + 1) := (nI_succ b).symm
    have hS2 := hl_wS_up (v := nI b) (hl_wS_up (v := nI a) hS (.inl rfl)) (k := 5) (.inr rfl)
    have r4 : hl_up (hl_up I 86 4 (nI a)) 86 5 (nI b) 86 4 = nI a := by rw [hl_up_a, if_pos rfl, if_neg (by decide), hl_up_at]
    have r5 : hl_up (hl_up I 86 4 (nI a)) 86 5 (nI b) 86 5 = nI b := hl_up_at
    obtain ⟨I1, J1, e1, hS1, -⟩ := hl_wS_price (d := d) (J := J) (x := nI a) (y := nI b) hI0 hN hs hn ts hg (.inr ⟨by rw [hl_tI (by omega)]; omega, by rw [hl_tI (by omega)]; omega, by rw [hl_tI (by omega)]; omega, by rw [hl_tI (by omega)]; omega⟩) hS2 r4 r5
    unfold hl_vi
    generalize hl_pc N cn (hl_Vw N I0 (nI a) (nI b)) (I0 8) = v at e1 ⊢
    by_cases q : v < st.2.2
    · rw [if_pos q]
      obtain ⟨I2, J2, l9', e2, hS3⟩ := ih I1 J1 (b + 1) (nI a, nI b, v) (.int v) (by omega) hS1
      refine ⟨I2, J2, l9', ?_, hS3⟩
      rw [← e2, hl_r247_72]
      simp only [hl_r247_74, hl_r247_76, hl_r247_79, hl_r247_80, hl_r247_83, hl_r247_84, hl_r247_86, hl_r247_87, hl_r247_88, hl_r247_91, hl_r247_92, hl_r247_94, hl_r247_95, hl_r247_96, hl_r247_99, hl_r247_101, hl_r247_103, hl_r247_105, hl_r247_111, hl_r247_113, hl_r247_115, hl_r247_117, hl_r247_119, hl_r247_121, hl_r247_123, hl_r247_126, hl_o_85, hl_p_85_3, hl_p_85_4, hl_p_85_5, hl_p_85_6, hl_p_85_19, hl_p_85_23, hl_p_85_24, hl_p_85_25, hl_p_85_26, hl_p_85_27, hl_p_85_28, hl_p_85_29, hl_p_85_30, hl_p_85_31, hl_p_85_33, hl_p_85_34, hl_p_85_35, hl_p_85_36, hl_p_85_37, hl_a_86, hl_z_86, c1, hl_k4, hl_k5, hl_v4, hl_v5, e1, q, en, hl_kill_i, hl_kill_r, hl_kill_n, hl_kill_l, hl_tl_s, hl_tl_n, hl_cal_some, hl_gI, hl_gJ, hl_gsI, hl_gsJ, hl_tv01, if_true, if_false, hl_up_a, hl_row_a]
    · rw [if_neg q]
      obtain ⟨I2, J2, l9', e2, hS3⟩ := ih I1 J1 (b + 1) st (.int v) (by omega) hS1
      refine ⟨I2, J2, l9', ?_, hS3⟩
      rw [← e2, hl_r247_72]
      simp only [hl_r247_74, hl_r247_76, hl_r247_79, hl_r247_80, hl_r247_83, hl_r247_84, hl_r247_86, hl_r247_87, hl_r247_88, hl_r247_91, hl_r247_92, hl_r247_94, hl_r247_95, hl_r247_96, hl_r247_99, hl_r247_101, hl_r247_103, hl_r247_105, hl_r247_108, hl_r247_123, hl_r247_126, hl_o_85, hl_p_85_3, hl_p_85_4, hl_p_85_5, hl_p_85_6, hl_p_85_19, hl_p_85_23, hl_p_85_24, hl_p_85_25, hl_p_85_26, hl_p_85_27, hl_p_85_28, hl_p_85_29, hl_p_85_30, hl_p_85_31, hl_p_85_33, hl_p_85_34, hl_p_85_35, hl_p_85_36, hl_p_85_37, hl_a_86, hl_z_86, c1, hl_k4, hl_k5, hl_v4, hl_v5, e1, q, en, hl_kill_i, hl_kill_r, hl_kill_n, hl_kill_l, hl_tl_s, hl_tl_n, hl_cal_some, hl_gI, hl_gJ, hl_gsI, hl_gsJ, hl_tv01, if_true, if_false, hl_up_a, hl_row_a]
theorem hl_l247o {I0 : Nat → Nat → Int32} {x wA wB : Int32} (hI0 : hl_Inv hl_TX N W H I0) (hN : N ≤ 24) (hs : hl_Sv I0 86 0 = (nh : Int)) (hn : nh ≤ 4) (ts : hl_Sv I0 86 1 = (cn : Int)) (hg : hl_hg N nh (I0 8)) (f : Nat) : ∀ (I : Nat → Nat → Int32) (J : Nat → Nat → Int64) (a : Nat) (st : Int32 × Int32 × Int32) (l8 l9 : Value), a + f = 12 → hl_wS N I0 I → ∃ I' J' l8' l9', hl_Run 247 (hl_call (d + 8)) 61 [.ref 85, .int x, .int wA, .int wB, .int st.1, .int st.2.1, .int st.2.2, .int (nI a), l8, l9] [] (hl_g N I J) = hl_Run 247 (hl_call (d + 8)) 135 [.ref 85, .int x, .int wA, .int wB, .int (hl_vo (fun a b => hl_pc N cn (hl_Vw N I0 (nI a) (nI b)) (I0 8)) f a st).1, .int (hl_vo (fun a b => hl_pc N cn (hl_Vw N I0 (nI a) (nI b)) (I0 8)) f a st).2.1, .int (hl_vo (fun a b => hl_pc N cn (hl_Vw N I0 (nI a) (nI b)) (I0 8)) f a st).2.2, .int (nI 12), l8', l9'] [] (hl_g N I' J') ∧ hl_wS N I0 I' := by
  induction f with
  | zero =>
    intro I J a st l8 l9 ha hS
    obtain rfl : a = 12 := by omega
    refine ⟨I, J, l8, l9, ?_, hS⟩
    have c1 : (12 : Int32) ≤ nI 12 := Int32.le_refl _
    simp only [hl_r247_61, hl_r247_63, hl_r247_65, c1, hl_vo, hl_kill_i, hl_kill_r, hl_kill_n, hl_kill_l, hl_tl_s, hl_tl_n, hl_cal_some, hl_gI, hl_gJ, hl_gsI, hl_gsJ, hl_tv01, if_true, if_false, hl_up_a, hl_row_a]
  | succ f ih =>
    intro I J a st l8 l9 ha hS
    have c1 : ¬ (12 : Int32) ≤ nI a := show ¬ nI 12 ≤ nI a from nI_ge (by omega) (by omega)
    have en : nI a + 1 = nI (a + 1) := (nI_succ a).symm
    obtain ⟨I1, J1, l9', e1, hS1⟩ := hl_l247i (d := d) (x := x) (wA := wA) (wB := wB) (a := a) hI0 hN hs hn ts hg (by omega) (12 - a) I J a st l9 (by omega) hS
    unfold hl_vo
    generalize hl_vi (fun a b => hl_pc N cn (hl_Vw N I0 (nI a) (nI b)) (I0 8)) a (12 - a) a st = st' at e1 ⊢
    obtain ⟨I2, J2, l8'', l9'', e2, hS2⟩ := ih I1 J1 (a + 1) st' (.int (nI 12)) l9' (by omega) hS1
    refine ⟨I2, J2, l8'', l9'', ?_, hS2⟩
    rw [← e2]
    have stt : hl_Run 247 (hl_call (d + 8)) 61 [.ref 85, .int x, .int wA, .int wB, .int st.1, .int st.2.1, .int st.2.2, .int (nI a), l8, l9] [] (hl_g N I J) = hl_Run 247 (hl_call (d + 8)) 72 [.ref 85, .int x, .int wA, .int wB, .int st.1, .int st.2.1, .int st.2.2, .int (nI a), .int (nI a), l9] [] (hl_g N I J) := by
      simp only [hl_r247_61, hl_r247_63, hl_r247_65, hl_r247_68, hl_r247_70, c1, hl_kill_i, hl_kill_r, hl_kill_n, hl_kill_l, hl_tl_s, hl_tl_n, hl_cal_some, hl_gI, hl_gJ, hl_gsI, hl_gsJ, hl_tv01, if_true, if_false, hl_up_a, hl_row_a]
    rw [stt, e1]
    simp only [hl_r247_129, hl_r247_132, en, hl_kill_i, hl_kill_r, hl_kill_n, hl_kill_l, hl_tl_s, hl_tl_n, hl_cal_some, hl_gI, hl_gJ, hl_gsI, hl_gsJ, hl_tv01, if_true, if_false, hl_up_a, hl_row_a]
theorem hl_sw02 {x : Int32} (h : hl_in x 0 2 = true) : x = 0 ∨ x = 1 ∨ x = 2 := by
  have i := hl_in_E h
  have e0 : (0 : Int32).toInt = 0 := rfl
  have e5 : (2 : Int32).toInt = 2 := rfl
  obtain ⟨k, k1, k2, k3⟩ := hl_nat (x := x) (by omega)
  have k5 : k ≤ 2 := by omega
  rw [k2]
  match k, k5 with
  | 0, _ => exact .inl rfl
  | 1, _ => exact .inr (.inl rfl)
  | 2, _ => exact .inr (.inr rfl)
  | k + 3, h => omega
theorem hl_pr23 (hN : N ≤ 24) (f : Nat → Int32) : hl_PQ hl_TX N W H 128 247 (hl_args 23 f) := by
  refine hl_PQ_read hl_TXc fun I J hI => ?_
  obtain ⟨nh, h4, hc1, hm1, hs1⟩ := hI.nh
  obtain ⟨cn, c40, tc1, tm1, ts1⟩ := hI.cn
  show ∃ v I1 J1 I2 J2, hl_call 1001 128 [.ref 0, .int (f 1)] (hl_g N I J) = some (some (.int v), hl_g N I1 J1) ∧ hl_call 1001 247 [.ref 85, .int (f 1)] (hl_g N I1 J1) = some (some (.int v), hl_g N I2 J2) ∧ _
  have P := hI.2.2.2.2.1
  by_cases hh0 : nh = 0
  · subst hh0
    have z : nI 0 = 0 := rfl
    rw [z] at hc1 hm1
    refine ⟨-2, I, J, I, J, ?_, ?_, hl_Tm_rf I, P, hl_Tm_rf I, rfl, rfl⟩
    · rw [hl_e128 (d := 1000)]; simp only [hl_r128_0, hl_r128_1, hl_r128_4, hl_r128_7, hl_r128_19, hl_r128_21, hl_o_0, hl_p_0_3, hl_p_0_4, hl_p_0_5, hl_p_0_7, hl_p_0_8, hl_p_0_9, hl_p_0_10, hl_p_0_11, hl_p_0_12, hl_p_0_13, hl_p_0_14, hl_p_0_15, hl_o_1, hl_p_1_0, hl_p_1_1, hl_p_1_2, hl_p_1_3, hl_p_1_4, hl_p_1_5, hl_p_1_6, hl_p_1_7, hl_p_1_9, hl_p_1_14, hl_p_1_15, hc1, hl_kill_i, hl_kill_r, hl_kill_n, hl_kill_l, hl_tl_s, hl_tl_n, hl_cal_some, hl_gI, hl_gJ, hl_gsI, hl_gsJ, hl_tv01, if_true, if_false, hl_up_a, hl_row_a]
    · rw [hl_e247 (d := 1000)]; simp only [hl_r247_0, hl_r247_1, hl_r247_4, hl_r247_5, hl_r247_6, hl_r247_18, hl_r247_20, hl_o_85, hl_p_85_3, hl_p_85_4, hl_p_85_5, hl_p_85_6, hl_p_85_19, hl_p_85_23, hl_p_85_24, hl_p_85_25, hl_p_85_26, hl_p_85_27, hl_p_85_28, hl_p_85_29, hl_p_85_30, hl_p_85_31, hl_p_85_33, hl_p_85_34, hl_p_85_35, hl_p_85_36, hl_p_85_37, hl_a_86, hl_z_86, hl_k0, hl_v0, hm1, hl_kill_i, hl_kill_r, hl_kill_n, hl_kill_l, hl_tl_s, hl_tl_n, hl_cal_some, hl_gI, hl_gJ, hl_gsI, hl_gsJ, hl_tv01, if_true, if_false, hl_up_a, hl_row_a]
  have n0 : ¬ nI nh = 0 := nI_ne0 (by omega) (by omega)
  cases g1 : hl_in (f 1) 0 2 with
  | false =>
    refine ⟨-2, I, J, I, J, ?_, ?_, hl_Tm_rf I, P, hl_Tm_rf I, rfl, rfl⟩
    · rw [hl_e128 (d := 1000)]; simp only [hl_r128_0, hl_r128_1, hl_r128_4, hl_r128_7, hl_r128_10, hl_r128_11, hl_r128_12, hl_r128_13, hl_r128_16, hl_r128_19, hl_r128_21, hl_o_0, hl_p_0_3, hl_p_0_4, hl_p_0_5, hl_p_0_7, hl_p_0_8, hl_p_0_9, hl_p_0_10, hl_p_0_11, hl_p_0_12, hl_p_0_13, hl_p_0_14, hl_p_0_15, hl_o_1, hl_p_1_0, hl_p_1_1, hl_p_1_2, hl_p_1_3, hl_p_1_4, hl_p_1_5, hl_p_1_6, hl_p_1_7, hl_p_1_9, hl_p_1_14, hl_p_1_15, hc1, n0, hl_s147, g1, hl_tv_f, not_true, hl_kill_i, hl_kill_r, hl_kill_n, hl_kill_l, hl_tl_s, hl_tl_n, hl_cal_some, hl_gI, hl_gJ, hl_gsI, hl_gsJ, hl_tv01, if_true, if_false, hl_up_a, hl_row_a]
    · rw [hl_e247 (d := 1000)]; simp only [hl_r247_0, hl_r247_1, hl_r247_4, hl_r247_5, hl_r247_6, hl_r247_9, hl_r247_10, hl_r247_11, hl_r247_12, hl_r247_15, hl_r247_18, hl_r247_20, hl_o_85, hl_p_85_3, hl_p_85_4, hl_p_85_5, hl_p_85_6, hl_p_85_19, hl_p_85_23, hl_p_85_24, hl_p_85_25, hl_p_85_26, hl_p_85_27, hl_p_85_28, hl_p_85_29, hl_p_85_30, hl_p_85_31, hl_p_85_33, hl_p_85_34, hl_p_85_35, hl_p_85_36, hl_p_85_37, hl_a_86, hl_z_86, hl_k0, hl_v0, hm1, n0, hl_s151, g1, hl_tv_f, not_true, hl_kill_i, hl_kill_r, hl_kill_n, hl_kill_l, hl_tl_s, hl_tl_n, hl_cal_some, hl_gI, hl_gJ, hl_gsI, hl_gsJ, hl_tv01, if_true, if_false, hl_up_a, hl_row_a]
  | true =>
    have hCoI := hI.co
    have hgI := hCoI.hg hN hs1 (by omega)
    have s83 := hCoI.s83 (d := 999) (J := J) hN h4 ts1 hl_a_8 hl_z_8 hgI
    -- the class's
    obtain ⟨I1, l4, e1, f1, r1⟩ := hl_l128 (d := 995) (J := J) (x := f 1) hCoI hN h4 hgI (hl_tps cn I (I 8)) 12 I 0 .null .null .null .null .null (by omega) (fun _ _ _ _ _ => rfl) (fun j hj => by omega)
    rw [show hl_sum 0 (fun m => hl_pm N I (I 8) m false) = 0 from rfl, Int32.add_zero, show nI 0 = 0 from rfl] at e1
    generalize hpl : hl_tps cn I (I 8) + hl_sum 12 (fun m => hl_pm N I (I 8) m false) = pl at e1
    obtain ⟨l7', l8', e2⟩ := hl_l128o (N := N) (J := J) (x := f 1) (pl := pl) (c := hl_call 1000) r1 12 0 (-1, -1, 0) .null .null (by omega)
    have tm1 := f1.tm
    have hP1 : hl_Pu N I1 := hl_Pu_t P tm1 (f1 64 (by decide) (by decide) (by decide) (by decide)) (f1 65 (by decide) (by decide) (by decide) (by decide))
    have hI1 : hl_Inv hl_TX N W H I1 := hl_Inv_t hl_TXc hI tm1 hP1
    have e8 : I1 8 = I 8 := tm1.1 8 (by omega)
    have S86 : ∀ j, hl_Sv I1 86 j = hl_Sv I 86 j := fun j => by unfold hl_Sv; rw [tm1.2.2.2 86 (by omega) (by omega)]
    have hs2 : hl_Sv I1 86 0 = (nh : Int) := (S86 0).trans hs1
    have ts2 : hl_Sv I1 86 1 = (cn : Int) := (S86 1).trans ts1
    have hg1 : hl_hg N nh (I1 8) := by rw [e8]; exact hgI
    -- the reference's
    obtain ⟨I2, e3, f3, k3⟩ := hl_s212 (d := 998) (I := I1) (J := J) hN hI1.mM
    have S2 : hl_wS N I1 I2 := ⟨fun q h1 h2 h3 h4 => f3 q h4, fun c hc => by rw [k3 c hc]; exact (hI1.2.1.1.cell (i := 6) hN hc (by omega)).symm, fun j _ _ => by rw [f3 86 (by decide)]⟩
    have S3 := hl_wS_up (v := (-1 : Int32)) S2 (k := 4) (.inl rfl)
    have w5 : hl_up I2 86 4 (-1) 86 5 = I2 86 5 := by rw [hl_up_a, if_pos rfl, if_neg (by decide)]
    obtain ⟨I3, J3, e4, S4, -⟩ := hl_wS_price (d := 992) (J := J) (x := -1) (y := I2 86 5) hI1 hN hs2 h4 ts2 hg1 (.inl rfl) S3 hl_up_at w5
    obtain ⟨I4, J4, l8'', l9'', e5, S5⟩ := hl_l247o (d := 992) (x := f 1) (wA := I2 86 4) (wB := I2 86 5) hI1 hN hs2 h4 ts2 hg1 12 I3 J3 0 (-1, -1, hl_pc N cn (hl_Vw N I1 (-1) (I2 86 5)) (I1 8)) .null .null (by omega) S4
    -- one scan
    have hplI1 : hl_tps cn I1 (I1 8) + hl_sum 12 (fun m => hl_pm N I1 (I1 8) m false) = pl := by
      rw [← hpl, e8, tm1.tps, hl_sum_congr (g := fun m => hl_pm N I (I 8) m false) (fun m _ => tm1.pm N (I 8) m false)]
    have hRp : hl_Rg pl := by
      have := hl_Vw_R hI1.co hN hs2 ts2 hg1 (-1) 0
      rw [hl_Vw_none, hplI1] at this
      exact this
    have scan := hl_wv_o (r := fun j => hl_pm N I (I 8) j true - hl_pm N I (I 8) j false) (V := fun a b => hl_pc N cn (hl_Vw N I1 (nI a) (nI b)) (I1 8)) (p := pl) hRp (fun a k h1 h2 => by
      rw [hl_Vw_add h1 h2, hplI1]
      refine congrArg (pl + ·) (hl_sum_congr (fun j _ => ?_))
      rw [e8, tm1.pm, tm1.pm]) (fun a k _ _ => hl_Vw_R hI1.co hN hs2 ts2 hg1 _ _) 12 0 (-1, -1, 0) rfl (by show hl_Rg (pl + 0); rw [Int32.add_zero]; exact hRp)
    have scan' : hl_vo (fun a b => hl_pc N cn (hl_Vw N I1 (nI a) (nI b)) (I1 8)) 12 0 (-1, -1, hl_pc N cn (hl_Vw N I1 (-1) (I2 86 5)) (I1 8)) = ((hl_wo (fun j => hl_pm N I (I 8) j true - hl_pm N I (I 8) j false) 12 0 (-1, -1, 0)).1, (hl_wo (fun j => hl_pm N I (I 8) j true - hl_pm N I (I 8) j false) 12 0 (-1, -1, 0)).2.1, pl + (hl_wo (fun j => hl_pm N I (I 8) j true - hl_pm N I (I 8) j false) 12 0 (-1, -1, 0)).2.2) := by
      rw [hl_Vw_none, hplI1]
      have z : pl + ((-1, -1, 0) : Int32 × Int32 × Int32).2.2 = pl := Int32.add_zero pl
      rw [z] at scan
      exact scan
    rw [scan'] at e5
    generalize hl_wo (fun j => hl_pm N I (I 8) j true - hl_pm N I (I 8) j false) 12 0 (-1, -1, 0) = st at e2 e5
    obtain ⟨sA, sB, sL⟩ := st
    have st1 : hl_call 1001 128 [.ref 0, .int (f 1)] (hl_g N I J) = hl_Run 128 (hl_call 1000) 169 [.ref 0, .int (f 1), .int pl, .int sA, .int sB, .int sL, .int (nI 12), l7', l8'] [] (hl_g N I1 J) := by
      rw [← e2, hl_e128 (d := 1000)]
      have e1' : hl_Run 128 (hl_call 1000) 49 [.ref 0, .int (f 1), .int (hl_tps cn I (I 8)), .int 0, .null, .null, .null, .null, .null] [] (hl_g N I J) = hl_Run 128 (hl_call 1000) 95 [.ref 0, .int (f 1), .int pl, .int (nI 12), l4, .null, .null, .null, .null] [] (hl_g N I1 J) := e1
      simp only [hl_r128_0, hl_r128_1, hl_r128_4, hl_r128_7, hl_r128_10, hl_r128_11, hl_r128_12, hl_r128_13, hl_r128_16, hl_r128_22, hl_r128_23, hl_r128_26, hl_r128_29, hl_r128_30, hl_r128_33, hl_r128_36, hl_r128_37, hl_r128_40, hl_r128_43, hl_r128_46, hl_r128_47, hl_r128_48, hl_o_0, hl_p_0_3, hl_p_0_4, hl_p_0_5, hl_p_0_7, hl_p_0_8, hl_p_0_9, hl_p_0_10, hl_p_0_11, hl_p_0_12, hl_p_0_13, hl_p_0_14, hl_p_0_15, hl_o_1, hl_p_1_0, hl_p_1_1, hl_p_1_2, hl_p_1_3, hl_p_1_4, hl_p_1_5, hl_p_1_6, hl_p_1_7, hl_p_1_9, hl_p_1_14, hl_p_1_15, hl_o_11, hl_p_11_0, hl_p_11_1, hl_p_11_2, hc1, n0, hl_s147, g1, hl_tv_t, hl_10, not_false_eq_true, s83, hl_kill_i, hl_kill_r, hl_kill_n, hl_kill_l, hl_tl_s, hl_tl_n, hl_cal_some, hl_gI, hl_gJ, hl_gsI, hl_gsJ, hl_tv01, if_true, if_false, hl_up_a, hl_row_a]
      rw [e1']
      simp only [hl_r128_95, hl_r128_96, hl_r128_97, hl_r128_98, hl_r128_100, hl_r128_101, hl_r128_103, hl_r128_104, hl_kill_i, hl_kill_r, hl_kill_n, hl_kill_l, hl_tl_s, hl_tl_n, hl_cal_some, hl_gI, hl_gJ, hl_gsI, hl_gsJ, hl_tv01, if_true, if_false, hl_up_a, hl_row_a]
      rfl
    have st2 : hl_call 1001 247 [.ref 85, .int (f 1)] (hl_g N I1 J) = hl_Run 247 (hl_call 1000) 135 [.ref 85, .int (f 1), .int (I2 86 4), .int (I2 86 5), .int sA, .int sB, .int (pl + sL), .int (nI 12), l8'', l9''] [] (hl_g N I4 J4) := by
      rw [← e5, hl_e247 (d := 1000)]
      have em1 : I1 86 0 = nI nh := by rw [tm1.2.2.2 86 (by omega) (by omega)]; exact hm1
      simp only [hl_r247_0, hl_r247_1, hl_r247_4, hl_r247_5, hl_r247_6, hl_r247_9, hl_r247_10, hl_r247_11, hl_r247_12, hl_r247_15, hl_r247_21, hl_r247_22, hl_r247_25, hl_r247_26, hl_r247_29, hl_r247_30, hl_r247_31, hl_r247_32, hl_r247_33, hl_r247_36, hl_r247_37, hl_r247_38, hl_r247_39, hl_r247_40, hl_r247_43, hl_r247_44, hl_r247_45, hl_r247_46, hl_r247_47, hl_r247_49, hl_r247_50, hl_r247_52, hl_r247_53, hl_r247_56, hl_r247_58, hl_r247_59, hl_o_85, hl_p_85_3, hl_p_85_4, hl_p_85_5, hl_p_85_6, hl_p_85_19, hl_p_85_23, hl_p_85_24, hl_p_85_25, hl_p_85_26, hl_p_85_27, hl_p_85_28, hl_p_85_29, hl_p_85_30, hl_p_85_31, hl_p_85_33, hl_p_85_34, hl_p_85_35, hl_p_85_36, hl_p_85_37, hl_a_86, hl_z_86, hl_k0, hl_v0, hl_k4, hl_v4, hl_k5, hl_v5, em1, n0, hl_s151, g1, hl_tv_t, hl_10, not_false_eq_true, e3, e4, hl_tl_n, hl_kill_i, hl_kill_r, hl_kill_n, hl_kill_l, hl_tl_s, hl_tl_n, hl_cal_some, hl_gI, hl_gJ, hl_gsI, hl_gsJ, hl_tv01, if_true, if_false, hl_up_a, hl_row_a]
      rfl
    -- all is as it was
    generalize hI5 : hl_up (hl_up I4 86 4 (I2 86 4)) 86 5 (I2 86 5) = I5
    have r5 : ∀ q, q ≠ 86 → I5 q = I4 q := fun q hq => by rw [← hI5, hl_up_ne _ _ _ hq, hl_up_ne _ _ _ hq]
    have tm5 : hl_Tm I1 I5 := by
      refine ⟨fun b hb => ?_, ?_, fun k _ => ?_, fun b h1 h2 => ?_⟩
      · rw [r5 b (by omega), S5.1 b (by omega) (by omega) (by omega) (by omega)]
      · rw [r5 66 (by decide), S5.1 66 (by decide) (by decide) (by decide) (by decide)]
      · rw [r5 85 (by decide), S5.1 85 (by decide) (by decide) (by decide) (by decide)]
      · by_cases q : b = 86
        · subst q
          funext j
          rw [← hI5]
          show (if j = 5 then I2 86 5 else if j = 4 then I2 86 4 else I4 86 j) = I1 86 j
          rw [f3 86 (by decide)]
          by_cases q5 : j = 5
          · rw [if_pos q5, q5]
          · rw [if_neg q5]
            by_cases q4 : j = 4
            · rw [if_pos q4, q4]
            · rw [if_neg q4]; exact S5.2.2 j q4 q5
        · rw [r5 b q, S5.1 b q (by omega) (by omega) (by omega)]
    have c64 : I5 64 = I1 64 := by rw [r5 64 (by decide), S5.1 64 (by decide) (by decide) (by decide) (by decide)]
    have c65 : I5 65 = I1 65 := by rw [r5 65 (by decide), S5.1 65 (by decide) (by decide) (by decide) (by decide)]
    have n01 : ¬ (0 : Int32) = 2 := by decide
    have n12 : ¬ (1 : Int32) = 2 := by decide
    have n20 : ¬ (2 : Int32) = 0 := by decide
    have n21 : ¬ (2 : Int32) = 1 := by decide
    have base : hl_Run 247 (hl_call 1000) 135 [.ref 85, .int (f 1), .int (I2 86 4), .int (I2 86 5), .int sA, .int sB, .int (pl + sL), .int (nI 12), l8'', l9''] [] (hl_g N I4 J4) = hl_Run 247 (hl_call 1000) 149 [.ref 85, .int (f 1), .int (I2 86 4), .int (I2 86 5), .int sA, .int sB, .int (pl + sL), .int (nI 12), l8'', l9''] [] (hl_g N I5 J4) := by
      rw [← hI5]
      simp only [hl_r247_135, hl_r247_136, hl_r247_139, hl_r247_140, hl_r247_141, hl_r247_142, hl_r247_143, hl_r247_146, hl_r247_147, hl_r247_148, hl_o_85, hl_p_85_3, hl_p_85_4, hl_p_85_5, hl_p_85_6, hl_p_85_19, hl_p_85_23, hl_p_85_24, hl_p_85_25, hl_p_85_26, hl_p_85_27, hl_p_85_28, hl_p_85_29, hl_p_85_30, hl_p_85_31, hl_p_85_33, hl_p_85_34, hl_p_85_35, hl_p_85_36, hl_p_85_37, hl_a_86, hl_z_86, hl_k4, hl_v4, hl_k5, hl_v5, hl_kill_i, hl_kill_r, hl_kill_n, hl_kill_l, hl_tl_s, hl_tl_n, hl_cal_some, hl_gI, hl_gJ, hl_gsI, hl_gsJ, hl_tv01, if_true, if_false, hl_up_a, hl_row_a]
    rcases hl_sw02 g1 with w | w | w
    · refine ⟨sA, I1, J, I5, J4, ?_, ?_, tm1, hP1, tm5, c64, c65⟩
      · rw [st1, w]; simp only [hl_r128_169, hl_r128_170, hl_r128_171, hl_r128_179, hl_r128_180, hl_r128_183, hl_r128_184, hl_r128_189, n01, not_false_eq_true, not_true, hl_kill_i, hl_kill_r, hl_kill_n, hl_kill_l, hl_tl_s, hl_tl_n, hl_cal_some, hl_gI, hl_gJ, hl_gsI, hl_gsJ, hl_tv01, if_true, if_false, hl_up_a, hl_row_a]
      · rw [st2, base, w]; simp only [hl_r247_149, hl_r247_150, hl_r247_153, hl_r247_155, hl_r247_170, not_true, hl_kill_i, hl_kill_r, hl_kill_n, hl_kill_l, hl_tl_s, hl_tl_n, hl_cal_some, hl_gI, hl_gJ, hl_gsI, hl_gsJ, hl_tv01, if_true, if_false, hl_up_a, hl_row_a]
    · refine ⟨sB, I1, J, I5, J4, ?_, ?_, tm1, hP1, tm5, c64, c65⟩
      · rw [st1, w]; simp only [hl_r128_169, hl_r128_170, hl_r128_171, hl_r128_179, hl_r128_180, hl_r128_187, hl_r128_189, n12, hl_10, not_false_eq_true, hl_kill_i, hl_kill_r, hl_kill_n, hl_kill_l, hl_tl_s, hl_tl_n, hl_cal_some, hl_gI, hl_gJ, hl_gsI, hl_gsJ, hl_tv01, if_true, if_false, hl_up_a, hl_row_a]
      · rw [st2, base, w]; simp only [hl_r247_149, hl_r247_150, hl_r247_158, hl_r247_159, hl_r247_160, hl_r247_163, hl_r247_165, hl_r247_170, hl_10, not_false_eq_true, not_true, hl_kill_i, hl_kill_r, hl_kill_n, hl_kill_l, hl_tl_s, hl_tl_n, hl_cal_some, hl_gI, hl_gJ, hl_gsI, hl_gsJ, hl_tv01, if_true, if_false, hl_up_a, hl_row_a]
    · refine ⟨pl + sL, I1, J, I5, J4, ?_, ?_, tm1, hP1, tm5, c64, c65⟩
      · rw [st1, w]; simp only [hl_r128_169, hl_r128_170, hl_r128_171, hl_r128_174, hl_r128_175, hl_r128_177, hl_r128_178, not_true, hl_kill_i, hl_kill_r, hl_kill_n, hl_kill_l, hl_tl_s, hl_tl_n, hl_cal_some, hl_gI, hl_gJ, hl_gsI, hl_gsJ, hl_tv01, if_true, if_false, hl_up_a, hl_row_a]
      · rw [st2, base, w]; simp only [hl_r247_149, hl_r247_150, hl_r247_158, hl_r247_159, hl_r247_160, hl_r247_168, hl_r247_170, n20, n21, not_false_eq_true, hl_kill_i, hl_kill_r, hl_kill_n, hl_kill_l, hl_tl_s, hl_tl_n, hl_cal_some, hl_gI, hl_gJ, hl_gsI, hl_gsJ, hl_tv01, if_true, if_false, hl_up_a, hl_row_a]
end HLW2
