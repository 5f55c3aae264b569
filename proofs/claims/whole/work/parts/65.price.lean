/-! prices: what cells and ties pay by hours in a row -/
/-- what a tie pays by the hours g -/
def hl_tgw (I : Nat → Nat → Int32) (g : Nat → Int32) (k : Nat) : Int32 := I 14 k * hl_abs (I 9 (g (I 12 k).toNatClampNeg).toNatClampNeg - I 9 (g (I 13 k).toNatClampNeg).toNatClampNeg)
theorem hl_tie_tgw (I : Nat → Nat → Int32) (h : Nat) : hl_tie I h = hl_tgw I (I h) := rfl
/-- hours that are told -/
def hl_hg (N nh : Nat) (g : Nat → Int32) : Prop := ∀ c, c < N → ∃ p, p < nh ∧ g c = nI p
def hl_cp (N : Nat) (I : Nat → Nat → Int32) (g : Nat → Int32) : Int32 := hl_sum N (fun c => hl_pay I c (g c).toNatClampNeg)
def hl_tps (cn : Nat) (I : Nat → Nat → Int32) (g : Nat → Int32) : Int32 := hl_sum cn (hl_tgw I g)
def hl_pc (N cn : Nat) (I : Nat → Nat → Int32) (g : Nat → Int32) : Int32 := hl_cp N I g + hl_tps cn I g
section HLPRC
variable {d N W H : Nat} {I Is I' : Nat → Nat → Int32} {J J' : Nat → Nat → Int64} {nh cn : Nat} {g : Nat → Int32}
theorem hl_Co.hg (h : hl_Co N W H I) (hN : N ≤ 24) (hs : hl_Sv I 86 0 = (nh : Int)) (h0 : 0 < nh) : hl_hg N nh (I 8) := fun c hc => by
  obtain ⟨p, p1, p2, -⟩ := h.part hN hs h0 hc
  exact ⟨p, p1, p2⟩
/-- the class's: a row of hours -/
theorem hl_l50 {h : Nat} (hN : N ≤ 24) (hn : nh ≤ 4) (hh : hl_ar (hl_g N I J) h 0 = true) (hz : (hl_k (hl_g N I J) h).2 = N) (hg : hl_hg N nh (I h)) (f : Nat) : ∀ i, i + f = N → hl_Run 50 (hl_call (d + 1)) 4 [.ref 63, .ref h, .int (hl_sum i (fun c => I 64 (4 * c + (I h c).toNatClampNeg))), .int (nI i)] [] (hl_g N I J) = some (some (.int (hl_sum N (fun c => I 64 (4 * c + (I h c).toNatClampNeg)))), hl_g N I J) := by
  have eN : Int32.ofNat N = nI N := rfl
  induction f with
  | zero =>
    intro i hi
    obtain rfl : i = N := by omega
    simp only [hl_r50_0, hl_r50_1, hl_r50_2, hl_r50_3, hl_r50_4, hl_r50_5, hl_r50_6, hl_r50_9, hl_r50_10, hl_r50_13, hl_r50_14, hl_r50_15, hl_r50_16, hl_r50_17, hl_r50_18, hl_r50_19, hl_r50_22, hl_r50_23, hl_r50_24, hl_r50_27, hl_r50_30, hl_r50_31, hl_o_63, hl_p_63_0, hl_p_63_1, hl_p_63_2, hl_p_63_3, hl_a_65, hl_z_65, hl_l_65, eN, Int32.le_refl, hl_kill_i, hl_kill_r, hl_kill_n, hl_kill_l, hl_tl_s, hl_tl_n, hl_cal_some, hl_gI, hl_gJ, hl_gsI, hl_gsJ, hl_tv01, if_true, if_false, hl_up_a, hl_row_a]
  | succ f ih =>
    intro i hi
    have c1 : ¬ nI N ≤ nI i := nI_ge (by omega) (by omega)
    have e := ih (i + 1) (by omega)
    have en : nI i + 1 = nI (i + 1) := (nI_succ i).symm
    have b : hl_inb (nI i) N = true := hl_inb_nI (by omega) (by omega)
    obtain ⟨p, p1, p2⟩ := hg i (by omega)
    rw [show hl_sum (i + 1) (fun c => I 64 (4 * c + (I h c).toNatClampNeg)) = hl_sum i (fun c => I 64 (4 * c + (I h c).toNatClampNeg)) + I 64 (4 * i + (I h i).toNatClampNeg) from rfl, p2, nIc (show p < 2 ^ 31 by omega)] at e
    rw [← e, hl_r50_4]
    simp only [hl_r50_0, hl_r50_1, hl_r50_2, hl_r50_3, hl_r50_5, hl_r50_6, hl_r50_9, hl_r50_10, hl_r50_13, hl_r50_14, hl_r50_15, hl_r50_16, hl_r50_17, hl_r50_18, hl_r50_19, hl_r50_22, hl_r50_23, hl_r50_24, hl_r50_27, hl_r50_30, hl_r50_31, hl_o_63, hl_p_63_0, hl_p_63_1, hl_p_63_2, hl_p_63_3, hl_a_65, hl_z_65, hl_l_65, eN, c1, hh, hz, b, nIc (show i < 2 ^ 31 by omega), p2, hl_s48 (d := d) (I := I) (J := J) (show i < N by omega) hN (show p < 4 by omega), en, hl_kill_i, hl_kill_r, hl_kill_n, hl_kill_l, hl_tl_s, hl_tl_n, hl_cal_some, hl_gI, hl_gJ, hl_gsI, hl_gsJ, hl_tv01, if_true, if_false, hl_up_a, hl_row_a]
/-- after refresh, by the hours of the row h, which refresh left alone -/
theorem hl_s50 {h : Nat} (hF : ∀ c k, c < N → k < nh → I 64 (4 * c + k) = hl_pay Is c k) (hN : N ≤ 24) (hn : nh ≤ 4) (hh : hl_ar (hl_g N I J) h 0 = true) (hz : (hl_k (hl_g N I J) h).2 = N) (hg : hl_hg N nh (I h)) : hl_call (d + 2) 50 [.ref 63, .ref h] (hl_g N I J) = some (some (.int (hl_cp N Is (I h))), hl_g N I J) := by
  have e := hl_l50 (d := d) (I := I) (J := J) hN hn hh hz hg N 0 (by omega)
  have e2 : hl_sum N (fun c => I 64 (4 * c + (I h c).toNatClampNeg)) = hl_cp N Is (I h) := hl_sum_congr (fun c hc => by
    obtain ⟨p, p1, p2⟩ := hg c hc
    rw [p2, nIc (by omega)]
    exact hF c p hc p1)
  rw [e2] at e
  rw [hl_e50, hl_r50_0, hl_r50_1, hl_r50_2, hl_r50_3]
  exact e
theorem hl_Co.s83 (hCo : hl_Co N W H I) (hN : N ≤ 24) (hn : nh ≤ 4) (hs1 : hl_Sv I 86 1 = (cn : Int)) {h : Nat} (hh : hl_ar (hl_g N I J) h 0 = true) (hz : (hl_k (hl_g N I J) h).2 = N) (hg : hl_hg N nh (I h)) : hl_call (d + 1) 83 [.ref 11, .ref h, .ref 9] (hl_g N I J) = some (some (.int (hl_tps cn I (I h))), hl_g N I J) := by
  obtain ⟨k, k1, k2, k3, k4⟩ := hCo.cn
  obtain rfl : k = cn := by omega
  refine hl_s83 hh hz k2 k1 (fun q hq => ?_) (fun q hq => ?_) (fun x hx => ?_)
  · obtain ⟨a, b, w, a1, b1, -, -, -, e1, e2, -⟩ := hCo.tie hN hs1 hq
    rw [e1]; exact hl_inb_nI a1 (by omega)
  · obtain ⟨a, b, w, a1, b1, -, -, -, e1, e2, -⟩ := hCo.tie hN hs1 hq
    rw [e2]; exact hl_inb_nI b1 (by omega)
  · obtain ⟨c, hc, e⟩ := hl_inb_of hx (by omega)
    obtain ⟨p, p1, p2⟩ := hg c hc
    rw [e, nIc (by omega), p2]
    exact hl_inb_nI (by omega) (by omega)
theorem hl_tgw_congr {I I' : Nat → Nat → Int32} (h : ∀ b, b < 60 → I' b = I b) (k : Nat) : hl_tgw I' g k = hl_tgw I g k := by
  unfold hl_tgw
  rw [h 14 (by omega), h 9 (by omega), h 12 (by omega), h 13 (by omega)]
theorem hl_Tm.cps (t : hl_Tm I I') : hl_cp N I' g = hl_cp N I g := hl_sum_congr (fun c _ => (t.pd c).pay _)
theorem hl_Tm.tps (t : hl_Tm I I') : hl_tps cn I' g = hl_tps cn I g := hl_sum_congr (fun k _ => hl_tgw_congr t.1 k)
theorem hl_Tm.pcs (t : hl_Tm I I') : hl_pc N cn I' g = hl_pc N cn I g := by
  unfold hl_pc
  rw [t.cps, t.tps]
/-- price of a row, the class's -/
theorem hl_s142 {h : Nat} (hCo : hl_Co N W H I) (hF : ∀ c k, c < N → k < nh → I 64 (4 * c + k) = hl_pay I c k) (hN : N ≤ 24) (hn : nh ≤ 4) (hs1 : hl_Sv I 86 1 = (cn : Int)) (hh : hl_ar (hl_g N I J) h 0 = true) (hz : (hl_k (hl_g N I J) h).2 = N) (hg : hl_hg N nh (I h)) : hl_call (d + 3) 142 [.ref 0, .ref h] (hl_g N I J) = some (some (.int (hl_pc N cn I (I h))), hl_g N I J) := by
  rw [hl_e142]
  simp only [hl_r142_0, hl_r142_1, hl_r142_4, hl_r142_5, hl_r142_8, hl_r142_9, hl_r142_12, hl_r142_15, hl_r142_16, hl_r142_17, hl_r142_20, hl_r142_23, hl_r142_26, hl_r142_27, hl_o_0, hl_p_0_3, hl_p_0_4, hl_p_0_5, hl_p_0_7, hl_p_0_8, hl_p_0_9, hl_p_0_10, hl_p_0_11, hl_p_0_12, hl_p_0_13, hl_p_0_14, hl_p_0_15, hl_o_1, hl_p_1_0, hl_p_1_1, hl_p_1_2, hl_p_1_3, hl_p_1_4, hl_p_1_5, hl_p_1_6, hl_p_1_7, hl_p_1_9, hl_p_1_14, hl_p_1_15, hl_o_63, hl_p_63_0, hl_p_63_1, hl_p_63_2, hl_p_63_3, hl_o_11, hl_p_11_0, hl_p_11_1, hl_p_11_2, hl_s50 (d := d) (J := J) hF hN hn hh hz hg, hCo.s83 (d := d + 1) (J := J) hN hn hs1 hh hz hg, hl_pc, hl_kill_i, hl_kill_r, hl_kill_n, hl_kill_l, hl_tl_s, hl_tl_n, hl_cal_some, hl_gI, hl_gJ, hl_gsI, hl_gsJ, hl_tv01, if_true, if_false, hl_up_a, hl_row_a]
/-- the reference's -/
theorem hl_s211 {a b : Nat} (hv : hl_vw Is I) (hCo : hl_Co N W H Is) (hs : hl_Sv Is 86 0 = (nh : Int)) (hn : nh ≤ 4) (ha : a < nh) (hb : b < nh) : hl_call (d + 2) 211 [.ref 85, .int (nI a), .int (nI b)] (hl_g N I J) = some (some (.int (hl_abs (Is 9 a - Is 9 b))), hl_g N I J) := by
  rw [hl_e211]
  have ea := hl_s156 (d := d) (N := N) (I := I) (J := J) (show a < 5 by omega)
  have eb := hl_s156 (d := d) (N := N) (I := I) (J := J) (show b < 5 by omega)
  rw [hv.2.1, ← hCo.2.1.1.off (show a < 4 by omega)] at ea
  rw [hv.2.1, ← hCo.2.1.1.off (show b < 4 by omega)] at eb
  simp only [hl_r211_0, hl_r211_1, hl_r211_2, hl_r211_5, hl_r211_6, hl_r211_7, hl_r211_10, hl_r211_11, hl_r211_14, hl_o_85, hl_p_85_3, hl_p_85_4, hl_p_85_5, hl_p_85_6, hl_p_85_19, hl_p_85_23, hl_p_85_24, hl_p_85_25, hl_p_85_26, hl_p_85_27, hl_p_85_28, hl_p_85_29, hl_p_85_30, hl_p_85_31, hl_p_85_33, hl_p_85_34, hl_p_85_35, hl_p_85_36, hl_p_85_37, ea, eb, hl_s152, hl_kill_i, hl_kill_r, hl_kill_n, hl_kill_l, hl_tl_s, hl_tl_n, hl_cal_some, hl_gI, hl_gJ, hl_gsI, hl_gsJ, hl_tv01, if_true, if_false, hl_up_a, hl_row_a]
/-- the parting taken -/
theorem hl_l212 (hN : N ≤ 24) (f : Nat) : ∀ (I : Nat → Nat → Int32) (i : Nat), i + f = N → I 85 2 = nI N → ∃ I', hl_Run 212 (hl_call (d + 1)) 2 [.ref 85, .int (nI i)] [] (hl_g N I J) = some (none, hl_g N I' J) ∧ (∀ b, b ≠ 94 → I' b = I b) ∧ (∀ c, c < i → I' 94 c = I 94 c) ∧ ∀ c, i ≤ c → c < N → I' 94 c = I 86 (30 + 7 * c + 6) := by
  induction f with
  | zero =>
    intro I i hi h2
    obtain rfl : i = N := by omega
    refine ⟨I, ?_, fun _ _ => rfl, fun _ _ => rfl, fun c h1 h2 => by omega⟩
    simp only [hl_r212_0, hl_r212_1, hl_r212_2, hl_r212_3, hl_r212_4, hl_r212_7, hl_r212_10, hl_r212_11, hl_r212_14, hl_r212_15, hl_r212_16, hl_r212_17, hl_r212_19, hl_r212_22, hl_r212_23, hl_r212_26, hl_r212_29, hl_o_85, hl_p_85_3, hl_p_85_4, hl_p_85_5, hl_p_85_6, hl_p_85_19, hl_p_85_23, hl_p_85_24, hl_p_85_25, hl_p_85_26, hl_p_85_27, hl_p_85_28, hl_p_85_29, hl_p_85_30, hl_p_85_31, hl_p_85_33, hl_p_85_34, hl_p_85_35, hl_p_85_36, hl_p_85_37, h2, Int32.le_refl, hl_kill_i, hl_kill_r, hl_kill_n, hl_kill_l, hl_tl_s, hl_tl_n, hl_cal_some, hl_gI, hl_gJ, hl_gsI, hl_gsJ, hl_tv01, if_true, if_false, hl_up_a, hl_row_a]
  | succ f ih =>
    intro I i hi h2
    have c1 : ¬ nI N ≤ nI i := nI_ge (by omega) (by omega)
    have en : nI i + 1 = nI (i + 1) := (nI_succ i).symm
    have b : hl_inb (nI i) 24 = true := hl_inb_nI (by omega) (by omega)
    obtain ⟨I1, e1, f1, g1, k1⟩ := ih (hl_up I 94 i (I 86 (30 + 7 * i + 6))) (i + 1) (by omega) (by rw [hl_up_ne _ _ _ (by decide)]; exact h2)
    refine ⟨I1, ?_, fun q hq => by rw [f1 q hq, hl_up_ne _ _ _ hq], fun c hc => ?_, fun c h3 h4 => ?_⟩
    · rw [← e1, hl_r212_2]
      simp only [hl_r212_0, hl_r212_1, hl_r212_3, hl_r212_4, hl_r212_7, hl_r212_10, hl_r212_11, hl_r212_14, hl_r212_15, hl_r212_16, hl_r212_17, hl_r212_19, hl_r212_22, hl_r212_23, hl_r212_26, hl_r212_29, hl_o_85, hl_p_85_3, hl_p_85_4, hl_p_85_5, hl_p_85_6, hl_p_85_19, hl_p_85_23, hl_p_85_24, hl_p_85_25, hl_p_85_26, hl_p_85_27, hl_p_85_28, hl_p_85_29, hl_p_85_30, hl_p_85_31, hl_p_85_33, hl_p_85_34, hl_p_85_35, hl_p_85_36, hl_p_85_37, hl_a_94, hl_z_94, h2, c1, hl_of6 (d := d) (N := N) (I := I) (J := J) (show i < 24 by omega), b, nIc (show i < 2 ^ 31 by omega), en, hl_kill_i, hl_kill_r, hl_kill_n, hl_kill_l, hl_tl_s, hl_tl_n, hl_cal_some, hl_gI, hl_gJ, hl_gsI, hl_gsJ, hl_tv01, if_true, if_false, hl_up_a, hl_row_a]
    · rw [g1 c (by omega), hl_up_a, if_pos rfl, if_neg (by omega)]
    · by_cases q : c = i
      · subst q
        rw [g1 c (by omega), hl_up_at]
      · rw [k1 c (by omega) h4, hl_up_ne _ _ _ (by decide)]
theorem hl_s212 (hN : N ≤ 24) (h2 : I 85 2 = nI N) : ∃ I', hl_call (d + 2) 212 [.ref 85] (hl_g N I J) = some (none, hl_g N I' J) ∧ (∀ b, b ≠ 94 → I' b = I b) ∧ ∀ c, c < N → I' 94 c = I 86 (30 + 7 * c + 6) := by
  obtain ⟨I', e, f, -, k⟩ := hl_l212 (d := d) (J := J) hN N I 0 (by omega) h2
  refine ⟨I', ?_, f, fun c hc => k c (by omega) hc⟩
  rw [hl_e212, hl_r212_0, hl_r212_1]
  exact e
theorem hl_l213 (hCo : hl_Co N W H Is) (hN : N ≤ 24) (hs : hl_Sv Is 86 0 = (nh : Int)) (hn : nh ≤ 4) (hg : hl_hg N nh g) (f : Nat) : ∀ (I : Nat → Nat → Int32) (J : Nat → Nat → Int64) (i : Nat), i + f = N → hl_vw Is I → (∀ c, c < N → I 94 c = g c) → ∃ I' J', hl_Run 213 (hl_call (d + 6)) 4 [.ref 85, .int (hl_sum i (fun c => hl_pay Is c (g c).toNatClampNeg)), .int (nI i)] [] (hl_g N I J) = some (some (.int (hl_cp N Is g)), hl_g N I' J') ∧ hl_r9 I I' ∧ hl_j9 J J' := by
  induction f with
  | zero =>
    intro I J i hi hv h94
    obtain rfl : i = N := by omega
    refine ⟨I, J, ?_, hl_r9_rf I, hl_j9_rf J⟩
    have e2 : I 85 2 = nI i := (hv.1 2 (by omega)).trans hCo.mM
    simp only [hl_r213_0, hl_r213_1, hl_r213_2, hl_r213_3, hl_r213_4, hl_r213_5, hl_r213_6, hl_r213_9, hl_r213_12, hl_r213_13, hl_r213_14, hl_r213_15, hl_r213_16, hl_r213_19, hl_r213_20, hl_r213_21, hl_r213_24, hl_r213_25, hl_r213_26, hl_r213_29, hl_r213_32, hl_r213_33, hl_o_85, hl_p_85_3, hl_p_85_4, hl_p_85_5, hl_p_85_6, hl_p_85_19, hl_p_85_23, hl_p_85_24, hl_p_85_25, hl_p_85_26, hl_p_85_27, hl_p_85_28, hl_p_85_29, hl_p_85_30, hl_p_85_31, hl_p_85_33, hl_p_85_34, hl_p_85_35, hl_p_85_36, hl_p_85_37, e2, Int32.le_refl, hl_cp, hl_kill_i, hl_kill_r, hl_kill_n, hl_kill_l, hl_tl_s, hl_tl_n, hl_cal_some, hl_gI, hl_gJ, hl_gsI, hl_gsJ, hl_tv01, if_true, if_false, hl_up_a, hl_row_a]
  | succ f ih =>
    intro I J i hi hv h94
    have e2 : I 85 2 = nI N := (hv.1 2 (by omega)).trans hCo.mM
    have c1 : ¬ nI N ≤ nI i := nI_ge (by omega) (by omega)
    have en : nI i + 1 = nI (i + 1) := (nI_succ i).symm
    have b : hl_inb (nI i) 24 = true := hl_inb_nI (by omega) (by omega)
    obtain ⟨p, p1, p2⟩ := hg i (by omega)
    have e9 : I 94 i = nI p := (h94 i (by omega)).trans p2
    obtain ⟨I1, J1, e1, r1, j1⟩ := hl_s209 (d := d) (J := J) hCo hv hN (show i < N by omega) (show (p : Int) < hl_Sv Is 86 0 by omega)
    obtain ⟨I2, J2, e3, r2, j2⟩ := ih I1 J1 (i + 1) (by omega) (hl_vw_tr hv r1.vw) (fun c hc => by rw [r1 94 (by decide) (by decide)]; exact h94 c hc)
    refine ⟨I2, J2, ?_, hl_r9_tr r1 r2, hl_j9_tr j1 j2⟩
    rw [show hl_sum (i + 1) (fun c => hl_pay Is c (g c).toNatClampNeg) = hl_sum i (fun c => hl_pay Is c (g c).toNatClampNeg) + hl_pay Is i (g i).toNatClampNeg from rfl, p2, nIc (show p < 2 ^ 31 by omega)] at e3
    rw [← e3, hl_r213_4]
    simp only [hl_r213_0, hl_r213_1, hl_r213_2, hl_r213_3, hl_r213_5, hl_r213_6, hl_r213_9, hl_r213_12, hl_r213_13, hl_r213_14, hl_r213_15, hl_r213_16, hl_r213_19, hl_r213_20, hl_r213_21, hl_r213_24, hl_r213_25, hl_r213_26, hl_r213_29, hl_r213_32, hl_r213_33, hl_o_85, hl_p_85_3, hl_p_85_4, hl_p_85_5, hl_p_85_6, hl_p_85_19, hl_p_85_23, hl_p_85_24, hl_p_85_25, hl_p_85_26, hl_p_85_27, hl_p_85_28, hl_p_85_29, hl_p_85_30, hl_p_85_31, hl_p_85_33, hl_p_85_34, hl_p_85_35, hl_p_85_36, hl_p_85_37, hl_a_94, hl_z_94, e2, c1, b, nIc (show i < 2 ^ 31 by omega), e9, e1, en, hl_kill_i, hl_kill_r, hl_kill_n, hl_kill_l, hl_tl_s, hl_tl_n, hl_cal_some, hl_gI, hl_gJ, hl_gsI, hl_gsJ, hl_tv01, if_true, if_false, hl_up_a, hl_row_a]
theorem hl_s213 (hCo : hl_Co N W H Is) (hv : hl_vw Is I) (hN : N ≤ 24) (hs : hl_Sv Is 86 0 = (nh : Int)) (hn : nh ≤ 4) (hg : hl_hg N nh g) (h94 : ∀ c, c < N → I 94 c = g c) : ∃ I' J', hl_call (d + 7) 213 [.ref 85] (hl_g N I J) = some (some (.int (hl_cp N Is g)), hl_g N I' J') ∧ hl_r9 I I' ∧ hl_j9 J J' := by
  obtain ⟨I', J', e, r⟩ := hl_l213 (d := d) hCo hN hs hn hg N I J 0 (by omega) hv h94
  refine ⟨I', J', ?_, r⟩
  rw [hl_e213, hl_r213_0, hl_r213_1, hl_r213_2, hl_r213_3]
  exact e
theorem hl_i200 {k : Nat} : (200 : Int32) + 3 * nI k = nI (200 + 3 * k) := by
  have e : (200 : Int32) = nI 200 := rfl
  have e3 : (3 : Int32) = nI 3 := rfl
  rw [e, e3, nI_mul, nI_add]
theorem hl_l214 (hCo : hl_Co N W H Is) (hv : hl_vw Is I) (hN : N ≤ 24) (hs : hl_Sv Is 86 0 = (nh : Int)) (hn : nh ≤ 4) (hs1 : hl_Sv Is 86 1 = (cn : Int)) (hg : hl_hg N nh g) (h94 : ∀ c, c < N → I 94 c = g c) (f : Nat) : ∀ (i : Nat) (l : Value), i + f = cn → hl_Run 214 (hl_call (d + 2)) 4 [.ref 85, .int (hl_sum i (hl_tgw Is g)), .int (nI i), l] [] (hl_g N I J) = some (some (.int (hl_tps cn Is g)), hl_g N I J) := by
  obtain ⟨k, k1, k2, k3, k4⟩ := hCo.cn
  obtain rfl : k = cn := by omega
  have e1 : I 86 1 = nI k := by rw [hv.2.1]; exact k3
  induction f with
  | zero =>
    intro i l hi
    obtain rfl : i = k := by omega
    simp only [hl_r214_0, hl_r214_1, hl_r214_2, hl_r214_3, hl_r214_4, hl_r214_5, hl_r214_6, hl_r214_9, hl_r214_10, hl_r214_11, hl_r214_14, hl_r214_17, hl_r214_18, hl_r214_19, hl_r214_20, hl_r214_21, hl_r214_22, hl_r214_23, hl_r214_24, hl_r214_27, hl_r214_28, hl_r214_29, hl_r214_30, hl_r214_31, hl_r214_32, hl_r214_33, hl_r214_36, hl_r214_37, hl_r214_40, hl_r214_41, hl_r214_42, hl_r214_43, hl_r214_44, hl_r214_47, hl_r214_48, hl_r214_51, hl_r214_52, hl_r214_53, hl_r214_54, hl_r214_55, hl_r214_56, hl_r214_59, hl_r214_60, hl_r214_61, hl_r214_62, hl_r214_65, hl_r214_68, hl_r214_69, hl_o_85, hl_p_85_3, hl_p_85_4, hl_p_85_5, hl_p_85_6, hl_p_85_19, hl_p_85_23, hl_p_85_24, hl_p_85_25, hl_p_85_26, hl_p_85_27, hl_p_85_28, hl_p_85_29, hl_p_85_30, hl_p_85_31, hl_p_85_33, hl_p_85_34, hl_p_85_35, hl_p_85_36, hl_p_85_37, hl_a_86, hl_z_86, hl_k1, hl_v1, e1, Int32.le_refl, hl_tps, hl_kill_i, hl_kill_r, hl_kill_n, hl_kill_l, hl_tl_s, hl_tl_n, hl_cal_some, hl_gI, hl_gJ, hl_gsI, hl_gsJ, hl_tv01, if_true, if_false, hl_up_a, hl_row_a]
  | succ f ih =>
    intro i l hi
    have c1 : ¬ nI k ≤ nI i := nI_ge (by omega) (by omega)
    have en : nI i + 1 = nI (i + 1) := (nI_succ i).symm
    have x1 : nI (200 + 3 * i) + 1 = nI (200 + 3 * i + 1) := nI_add _ 1
    have x2 : nI (200 + 3 * i) + 2 = nI (200 + 3 * i + 2) := nI_add _ 2
    obtain ⟨a, b, w, a1, b1, -, -, -, ta, tb, tw, ma, mb, mw⟩ := hCo.tie hN hs1 (show i < k by omega)
    rw [← hv.2.1] at ma mb mw
    obtain ⟨p, p1, p2⟩ := hg a a1
    obtain ⟨q, q1, q2⟩ := hg b b1
    have e := ih (i + 1) (.int (nI (200 + 3 * i))) (by omega)
    have et : hl_tgw Is g i = nI w * hl_abs (Is 9 p - Is 9 q) := by
      unfold hl_tgw
      rw [ta, tb, tw, nIc (show a < 2 ^ 31 by omega), nIc (show b < 2 ^ 31 by omega), p2, q2, nIc (show p < 2 ^ 31 by omega), nIc (show q < 2 ^ 31 by omega)]
    rw [show hl_sum (i + 1) (hl_tgw Is g) = hl_sum i (hl_tgw Is g) + hl_tgw Is g i from rfl, et] at e
    rw [← e, hl_r214_4]
    simp only [hl_r214_0, hl_r214_1, hl_r214_2, hl_r214_3, hl_r214_5, hl_r214_6, hl_r214_9, hl_r214_10, hl_r214_11, hl_r214_14, hl_r214_17, hl_r214_18, hl_r214_19, hl_r214_20, hl_r214_21, hl_r214_22, hl_r214_23, hl_r214_24, hl_r214_27, hl_r214_28, hl_r214_29, hl_r214_30, hl_r214_31, hl_r214_32, hl_r214_33, hl_r214_36, hl_r214_37, hl_r214_40, hl_r214_41, hl_r214_42, hl_r214_43, hl_r214_44, hl_r214_47, hl_r214_48, hl_r214_51, hl_r214_52, hl_r214_53, hl_r214_54, hl_r214_55, hl_r214_56, hl_r214_59, hl_r214_60, hl_r214_61, hl_r214_62, hl_r214_65, hl_r214_68, hl_r214_69, hl_o_85, hl_p_85_3, hl_p_85_4, hl_p_85_5, hl_p_85_6, hl_p_85_19, hl_p_85_23, hl_p_85_24, hl_p_85_25, hl_p_85_26, hl_p_85_27, hl_p_85_28, hl_p_85_29, hl_p_85_30, hl_p_85_31, hl_p_85_33, hl_p_85_34, hl_p_85_35, hl_p_85_36, hl_p_85_37, hl_a_86, hl_z_86, hl_a_94, hl_z_94, hl_k1, hl_v1, e1, c1, hl_i200, x1, x2, hl_b490 (show 200 + 3 * i < 490 by omega), hl_c490 (show 200 + 3 * i < 490 by omega), hl_b490 (show 200 + 3 * i + 1 < 490 by omega), hl_c490 (show 200 + 3 * i + 1 < 490 by omega), hl_b490 (show 200 + 3 * i + 2 < 490 by omega), hl_c490 (show 200 + 3 * i + 2 < 490 by omega), ma, mb, mw, hl_inb_nI (show a < 24 by omega) (show 24 < 2 ^ 31 by omega), hl_inb_nI (show b < 24 by omega) (show 24 < 2 ^ 31 by omega), nIc (show a < 2 ^ 31 by omega), nIc (show b < 2 ^ 31 by omega), h94 a a1, h94 b b1, p2, q2, hl_s211 (d := d) (J := J) hv hCo hs hn p1 q1, en, hl_kill_i, hl_kill_r, hl_kill_n, hl_kill_l, hl_tl_s, hl_tl_n, hl_cal_some, hl_gI, hl_gJ, hl_gsI, hl_gsJ, hl_tv01, if_true, if_false, hl_up_a, hl_row_a]
theorem hl_s214 (hCo : hl_Co N W H Is) (hv : hl_vw Is I) (hN : N ≤ 24) (hs : hl_Sv Is 86 0 = (nh : Int)) (hn : nh ≤ 4) (hs1 : hl_Sv Is 86 1 = (cn : Int)) (hg : hl_hg N nh g) (h94 : ∀ c, c < N → I 94 c = g c) : hl_call (d + 3) 214 [.ref 85] (hl_g N I J) = some (some (.int (hl_tps cn Is g)), hl_g N I J) := by
  have e := hl_l214 (d := d) (J := J) hCo hv hN hs hn hs1 hg h94 cn 0 .null (by omega)
  rw [hl_e214, hl_r214_0, hl_r214_1, hl_r214_2, hl_r214_3]
  exact e
theorem hl_s215 (hCo : hl_Co N W H Is) (hv : hl_vw Is I) (hN : N ≤ 24) (hs : hl_Sv Is 86 0 = (nh : Int)) (hn : nh ≤ 4) (hs1 : hl_Sv Is 86 1 = (cn : Int)) (hg : hl_hg N nh g) (h94 : ∀ c, c < N → I 94 c = g c) : ∃ I' J', hl_call (d + 8) 215 [.ref 85] (hl_g N I J) = some (some (.int (hl_pc N cn Is g)), hl_g N I' J') ∧ hl_r9 I I' ∧ hl_j9 J J' := by
  obtain ⟨I1, J1, e1, r1, j1⟩ := hl_s213 (d := d) (J := J) hCo hv hN hs hn hg h94
  have e2 := hl_s214 (d := d + 4) (J := J1) hCo (hl_vw_tr hv r1.vw) hN hs hn hs1 hg (fun c hc => by rw [r1 94 (by decide) (by decide)]; exact h94 c hc)
  refine ⟨I1, J1, ?_, r1, j1⟩
  rw [hl_e215]
  simp only [hl_r215_0, hl_r215_1, hl_r215_4, hl_r215_5, hl_r215_8, hl_r215_9, hl_o_85, hl_p_85_3, hl_p_85_4, hl_p_85_5, hl_p_85_6, hl_p_85_19, hl_p_85_23, hl_p_85_24, hl_p_85_25, hl_p_85_26, hl_p_85_27, hl_p_85_28, hl_p_85_29, hl_p_85_30, hl_p_85_31, hl_p_85_33, hl_p_85_34, hl_p_85_35, hl_p_85_36, hl_p_85_37, e1, e2, hl_pc, hl_kill_i, hl_kill_r, hl_kill_n, hl_kill_l, hl_tl_s, hl_tl_n, hl_cal_some, hl_gI, hl_gJ, hl_gsI, hl_gsJ, hl_tv01, if_true, if_false, hl_up_a, hl_row_a]
end HLPRC
