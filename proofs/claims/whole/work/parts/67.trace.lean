/-! pieces: the class's trace, the reference's findPieces -/
theorem hl_swf_cnt2 {h : Nat → Int32} {ps : List (Nat × Nat)} {N : Nat} {F L : Nat → Nat} {b : Bool} (hb : ∀ p, p ∈ ps → p.1 < N ∧ p.2 < N) (hF : hl_Gd h ps F) (cF : hl_Cl h ps F) (hL : hl_Gd h ps L) {k : Nat} (hk : k ≤ hl_cnt (fun c => decide (L c = F c)) N) (hkN : k < N) : k + 1 ≤ hl_cnt (fun c => decide ((hl_swf h ps (L, b)).1 c = F c)) N := by
  rcases hl_swf_cnt (b := b) hb hF cF hL with q | q
  · have hL' := hl_swf_gd (h := h) (ps := ps) ps (L, b) (fun _ h => h) hL
    have lowL' := hl_Gd_low hF cF hL'
    have le' : ∀ c, (hl_swf h ps (L, b)).1 c ≤ L c := hl_swf_le (h := h) ps (L, b)
    have mono := hl_cnt_mono (p := fun c => decide (L c = F c)) (q := fun c => decide ((hl_swf h ps (L, b)).1 c = F c)) N (fun c _ hc => by
      have := of_decide_eq_true hc
      have a := le' c
      have b' := lowL' c
      exact decide_eq_true (by omega))
    omega
  · omega
theorem hl_lv_or {h : Nat → Int32} {p : Nat × Nat} {L : Nat → Nat} {b : Bool} : hl_lv h p (L, b) = ((hl_lv h p (L, false)).1, b || (hl_lv h p (L, false)).2) := by
  unfold hl_lv
  by_cases q : h p.1 = h p.2 ∧ ¬ L p.1 = L p.2
  · rw [if_pos q, if_pos q]
    show _ = (_, b || true)
    rw [Bool.or_true]
  · rw [if_neg q, if_neg q]
    show _ = (_, b || false)
    rw [Bool.or_false]
theorem hl_tv_or (a b : Bool) : hl_tv a ||| hl_tv b = hl_tv (a || b) := by cases a <;> cases b <;> rfl
/-- labels in a row -/
def hl_Lb (r N : Nat) (I : Nat → Nat → Int32) (L : Nat → Nat) : Prop := (∀ c, L c ≤ c) ∧ ∀ c, c < N → I r c = nI (L c)
theorem hl_dvI {a b : Nat} (ha : a < 2 ^ 31) (hb : b < 2 ^ 31) : nI a / nI b = nI (a / b) := by
  apply Int32.toInt_inj.mp
  have hq : a / b ≤ a := Nat.div_le_self a b
  rw [Int32.toInt_div, hl_tI ha, hl_tI hb, hl_tI (by omega)]
  rw [show (a : Int).tdiv (b : Int) = ((a / b : Nat) : Int) from (Int.ofNat_tdiv a b).symm]
  generalize a / b = q at hq ⊢
  rw [Int.bmod_eq_of_le (by omega) (by omega)]
theorem hl_rmI {a b : Nat} (ha : a < 2 ^ 31) (hb : b < 2 ^ 31) : nI a - nI a / nI b * nI b = nI (a % b) := by
  have hm : a / b * b ≤ a := Nat.div_mul_le_self a b
  have h2 := Nat.mod_le a b
  have h3 := Nat.div_add_mod a b
  rw [hl_dvI ha hb, nI_mul]
  apply Int32.toInt_inj.mp
  rw [Int32.toInt_sub, hl_tI ha, hl_tI (by omega), hl_tI (by omega), Int.bmod_eq_of_le (by omega) (by omega)]
  rw [Nat.mul_comm] at h3
  omega
section HLTRC
variable {d N W H : Nat} {I Is I' : Nat → Nat → Int32} {J J' : Nat → Nat → Int64} {L : Nat → Nat}
theorem hl_Lb_up {r a b v : Nat} (hL : hl_Lb r N I L) (hv : v ≤ a ∧ v ≤ b) (ha : a < N) (hb : b < N) : hl_Lb r N (hl_up (hl_up I r a (nI v)) r b (nI v)) (fun c => if c = a ∨ c = b then v else L c) := by
  refine ⟨fun c => ?_, fun c hc => ?_⟩
  · show (if c = a ∨ c = b then v else L c) ≤ c
    split
    · next e => rcases e with e | e <;> subst e <;> omega
    · exact hL.1 c
  · show _ = nI (if c = a ∨ c = b then v else L c)
    rw [hl_up_a, if_pos rfl]
    by_cases e1 : c = b
    · rw [if_pos e1, if_pos (.inr e1)]
    · rw [if_neg e1, hl_up_a, if_pos rfl]
      by_cases e2 : c = a
      · rw [if_pos e2, if_pos (.inl e2)]
      · rw [if_neg e2, if_neg (by omega)]
        exact hL.2 c hc
theorem hl_s38 {a b : Nat} (hN : N ≤ 24) (hL : hl_Lb 67 N I L) (ha : a < N) (hb : b < N) : ∃ I', hl_call (d + 1) 38 [.ref 66, .ref 8, .int (nI a), .int (nI b)] (hl_g N I J) = some (some (.int (hl_tv (hl_lv (I 8) (a, b) (L, false)).2)), hl_g N I' J) ∧ hl_Lb 67 N I' (hl_lv (I 8) (a, b) (L, false)).1 ∧ ∀ q, q ≠ 67 → I' q = I q := by
  have eN : Int32.ofNat N = nI N := rfl
  have c1 : ¬ nI N ≤ nI b := nI_ge hb (by omega)
  have ba : hl_inb (nI a) N = true := hl_inb_nI ha (by omega)
  have bb : hl_inb (nI b) N = true := hl_inb_nI hb (by omega)
  have la := hL.1 a
  have lb := hL.1 b
  have ea := hL.2 a ha
  have eb := hL.2 b hb
  by_cases h1 : I 8 a = I 8 b
  · by_cases h2 : L a = L b
    · have e : hl_lv (I 8) (a, b) (L, false) = (L, false) := if_neg (fun q => q.2 h2)
      rw [e]
      refine ⟨I, ?_, hL, fun _ _ => rfl⟩
      rw [hl_e38]
      simp only [hl_r38_0, hl_r38_1, hl_r38_2, hl_r38_5, hl_r38_6, hl_r38_9, hl_r38_10, hl_r38_11, hl_r38_12, hl_r38_13, hl_r38_14, hl_r38_15, hl_r38_18, hl_r38_19, hl_r38_22, hl_r38_23, hl_r38_24, hl_r38_25, hl_r38_28, hl_r38_29, hl_r38_30, hl_r38_33, hl_r38_34, hl_r38_35, hl_r38_36, hl_r38_39, hl_r38_40, hl_r38_41, hl_r38_44, hl_r38_45, hl_r38_46, hl_r38_47, hl_r38_50, hl_r38_51, hl_r38_52, hl_r38_55, hl_r38_56, hl_r38_57, hl_r38_60, hl_r38_61, hl_r38_62, hl_r38_65, hl_r38_66, hl_r38_67, hl_r38_68, hl_r38_69, hl_o_66, hl_p_66_1, hl_a_67, hl_z_67, hl_a_8, hl_z_8, hl_l_67, eN, c1, ba, bb, nIc (show a < 2 ^ 31 by omega), nIc (show b < 2 ^ 31 by omega), h1, ea, eb, h2, not_true, true_or, hl_tv_f, hl_kill_i, hl_kill_r, hl_kill_n, hl_kill_l, hl_tl_s, hl_tl_n, hl_cal_some, hl_gI, hl_gJ, hl_gsI, hl_gsJ, hl_tv01, if_true, if_false, hl_up_a, hl_row_a]
    · have e : hl_lv (I 8) (a, b) (L, false) = (fun c => if c = a ∨ c = b then min (L a) (L b) else L c, true) := if_pos ⟨h1, h2⟩
      rw [e]
      have n2 : ¬ nI (L a) = nI (L b) := fun q => h2 ((nI_eq (by omega) (by omega)).mp q)
      have em : (if nI (L b) < nI (L a) then nI (L b) else nI (L a)) = nI (min (L a) (L b)) := by
        by_cases z : L b < L a
        · rw [if_pos (nI_lt z (by omega)), Nat.min_eq_right (by omega)]
        · rw [if_neg (nI_nlt (by omega) (by omega)), Nat.min_eq_left (by omega)]
      refine ⟨hl_up (hl_up I 67 a (nI (min (L a) (L b)))) 67 b (nI (min (L a) (L b))), ?_, hl_Lb_up hL ⟨by omega, by omega⟩ ha hb, fun q hq => by rw [hl_up_ne _ _ _ hq, hl_up_ne _ _ _ hq]⟩
      rw [hl_e38]
      simp only [hl_r38_0, hl_r38_1, hl_r38_2, hl_r38_5, hl_r38_6, hl_r38_9, hl_r38_10, hl_r38_11, hl_r38_12, hl_r38_13, hl_r38_14, hl_r38_15, hl_r38_18, hl_r38_19, hl_r38_22, hl_r38_23, hl_r38_24, hl_r38_25, hl_r38_28, hl_r38_29, hl_r38_30, hl_r38_33, hl_r38_34, hl_r38_35, hl_r38_36, hl_r38_39, hl_r38_40, hl_r38_41, hl_r38_44, hl_r38_45, hl_r38_46, hl_r38_47, hl_r38_50, hl_r38_51, hl_r38_52, hl_r38_55, hl_r38_56, hl_r38_57, hl_r38_60, hl_r38_61, hl_r38_62, hl_r38_65, hl_r38_66, hl_r38_67, hl_r38_68, hl_r38_69, hl_o_66, hl_p_66_1, hl_a_67, hl_z_67, hl_a_8, hl_z_8, hl_l_67, eN, c1, ba, bb, nIc (show a < 2 ^ 31 by omega), nIc (show b < 2 ^ 31 by omega), h1, ea, eb, n2, em, not_true, not_false_eq_true, or_true, hl_tv_t, hl_kill_i, hl_kill_r, hl_kill_n, hl_kill_l, hl_tl_s, hl_tl_n, hl_cal_some, hl_gI, hl_gJ, hl_gsI, hl_gsJ, hl_tv01, if_true, if_false, hl_up_a, hl_row_a]
  · have e : hl_lv (I 8) (a, b) (L, false) = (L, false) := if_neg (fun q => h1 q.1)
    rw [e]
    refine ⟨I, ?_, hL, fun _ _ => rfl⟩
    rw [hl_e38]
    simp only [hl_r38_0, hl_r38_1, hl_r38_2, hl_r38_5, hl_r38_6, hl_r38_9, hl_r38_10, hl_r38_11, hl_r38_12, hl_r38_13, hl_r38_14, hl_r38_15, hl_r38_18, hl_r38_19, hl_r38_22, hl_r38_23, hl_r38_24, hl_r38_25, hl_r38_28, hl_r38_29, hl_r38_30, hl_r38_33, hl_r38_34, hl_r38_35, hl_r38_36, hl_r38_39, hl_r38_40, hl_r38_41, hl_r38_44, hl_r38_45, hl_r38_46, hl_r38_47, hl_r38_50, hl_r38_51, hl_r38_52, hl_r38_55, hl_r38_56, hl_r38_57, hl_r38_60, hl_r38_61, hl_r38_62, hl_r38_65, hl_r38_66, hl_r38_67, hl_r38_68, hl_r38_69, hl_o_66, hl_p_66_1, hl_a_67, hl_z_67, hl_a_8, hl_z_8, hl_l_67, eN, c1, ba, bb, nIc (show a < 2 ^ 31 by omega), nIc (show b < 2 ^ 31 by omega), h1, not_false_eq_true, true_or, hl_tv_f, hl_kill_i, hl_kill_r, hl_kill_n, hl_kill_l, hl_tl_s, hl_tl_n, hl_cal_some, hl_gI, hl_gJ, hl_gsI, hl_gsJ, hl_tv01, if_true, if_false, hl_up_a, hl_row_a]
theorem hl_s38o {a b : Nat} (hN : N ≤ 24) (hb : N ≤ b) (hb2 : b < 1000) : hl_call (d + 1) 38 [.ref 66, .ref 8, .int (nI a), .int (nI b)] (hl_g N I J) = some (some (.int (hl_tv false)), hl_g N I J) := by
  have eN : Int32.ofNat N = nI N := rfl
  have c1 : nI N ≤ nI b := nI_le hb (by omega)
  rw [hl_e38]
  simp only [hl_r38_0, hl_r38_1, hl_r38_2, hl_r38_5, hl_r38_6, hl_r38_9, hl_r38_10, hl_r38_11, hl_r38_12, hl_r38_13, hl_r38_14, hl_r38_15, hl_r38_18, hl_r38_19, hl_r38_22, hl_r38_23, hl_r38_24, hl_r38_25, hl_r38_28, hl_r38_29, hl_r38_30, hl_r38_33, hl_r38_34, hl_r38_35, hl_r38_36, hl_r38_39, hl_r38_40, hl_r38_41, hl_r38_44, hl_r38_45, hl_r38_46, hl_r38_47, hl_r38_50, hl_r38_51, hl_r38_52, hl_r38_55, hl_r38_56, hl_r38_57, hl_r38_60, hl_r38_61, hl_r38_62, hl_r38_65, hl_r38_66, hl_r38_67, hl_r38_68, hl_r38_69, hl_o_66, hl_p_66_1, hl_a_67, hl_z_67, hl_l_67, eN, c1, true_or, hl_tv_f, hl_kill_i, hl_kill_r, hl_kill_n, hl_kill_l, hl_tl_s, hl_tl_n, hl_cal_some, hl_gI, hl_gJ, hl_gsI, hl_gsJ, hl_tv01, if_true, if_false, hl_up_a, hl_row_a]
theorem hl_swf_1 (h : Nat → Int32) (p : Nat × Nat) (s : (Nat → Nat) × Bool) : hl_swf h [p] s = hl_lv h p s := rfl
/-- a sweep of the class -/
theorem hl_l37 {hw : Nat → Int32} (hW : 2 ≤ W ∧ W ≤ 6) (hNe : W * H = N) (hN : N ≤ 24) (L0 : Nat → Nat) (f : Nat) : ∀ (I : Nat → Nat → Int32) (i : Nat), i + f = N → I 66 0 = nI W → I 8 = hw → hl_Lb 67 N I (hl_swf hw (hl_ps (hl_p1 N W) i) (L0, false)).1 → ∃ I', hl_Run 37 (hl_call (d + 1)) 4 [.ref 66, .ref 8, .int (hl_tv (hl_swf hw (hl_ps (hl_p1 N W) i) (L0, false)).2), .int (nI i)] [] (hl_g N I J) = some (some (.int (hl_tv (hl_swf hw (hl_ps (hl_p1 N W) N) (L0, false)).2)), hl_g N I' J) ∧ hl_Lb 67 N I' (hl_swf hw (hl_ps (hl_p1 N W) N) (L0, false)).1 ∧ ∀ q, q ≠ 67 → I' q = I q := by
  have eN : Int32.ofNat N = nI N := rfl
  induction f with
  | zero =>
    intro I i hi _ _ hL
    obtain rfl : i = N := by omega
    refine ⟨I, ?_, hL, fun _ _ => rfl⟩
    simp only [hl_r37_0, hl_r37_1, hl_r37_2, hl_r37_3, hl_r37_4, hl_r37_5, hl_r37_6, hl_r37_9, hl_r37_10, hl_r37_13, hl_r37_14, hl_r37_15, hl_r37_16, hl_r37_17, hl_r37_20, hl_r37_21, hl_r37_24, hl_r37_25, hl_r37_26, hl_r37_27, hl_r37_28, hl_r37_29, hl_r37_30, hl_r37_31, hl_r37_34, hl_r37_35, hl_r37_36, hl_r37_37, hl_r37_38, hl_r37_39, hl_r37_40, hl_r37_41, hl_r37_42, hl_r37_45, hl_r37_46, hl_r37_49, hl_r37_50, hl_r37_51, hl_r37_54, hl_r37_57, hl_r37_58, hl_o_66, hl_p_66_1, hl_a_67, hl_z_67, hl_l_67, eN, Int32.le_refl, hl_tv01, hl_kill_i, hl_kill_r, hl_kill_n, hl_kill_l, hl_tl_s, hl_tl_n, hl_cal_some, hl_gI, hl_gJ, hl_gsI, hl_gsJ, hl_tv01, if_true, if_false, hl_up_a, hl_row_a]
  | succ f ih =>
    intro I i hi h66 h8 hL
    have c1 : ¬ nI N ≤ nI i := nI_ge (by omega) (by omega)
    have en : nI i + 1 = nI (i + 1) := (nI_succ i).symm
    have nW : ¬ nI W = 0 := nI_ne0 (by omega) (by omega)
    have em : nI (i + 1) - nI (i + 1) / nI W * nI W = nI ((i + 1) % W) := hl_rmI (by omega) (by omega)
    have hm := Nat.mod_lt (i + 1) (show 0 < W by omega)
    generalize hs : hl_swf hw (hl_ps (hl_p1 N W) i) (L0, false) = s at hL ⊢
    obtain ⟨L, b⟩ := s
    have hnx : hl_swf hw (hl_ps (hl_p1 N W) (i + 1)) (L0, false) = hl_swf hw (hl_p1 N W i) (L, b) := by
      show hl_swf hw (hl_ps (hl_p1 N W) i ++ hl_p1 N W i) (L0, false) = _
      rw [hl_swf_app, hs]
    -- to the right
    have A : ∃ I1 L1 b1, hl_Run 37 (hl_call (d + 1)) 4 [.ref 66, .ref 8, .int (hl_tv b), .int (nI i)] [] (hl_g N I J) = hl_Run 37 (hl_call (d + 1)) 36 [.ref 66, .ref 8, .int (hl_tv b1), .int (nI i)] [] (hl_g N I1 J) ∧ hl_Lb 67 N I1 L1 ∧ (∀ q, q ≠ 67 → I1 q = I q) ∧ hl_swf hw (if (i + 1) % W = 0 then [] else [(i, i + 1)]) (L, b) = (L1, b1) := by
      by_cases z : (i + 1) % W = 0
      · refine ⟨I, L, b, ?_, hL, fun _ _ => rfl, by rw [if_pos z]; rfl⟩
        have ez : nI ((i + 1) % W) = 0 := by rw [z]; rfl
        simp only [hl_r37_4, hl_r37_5, hl_r37_6, hl_r37_9, hl_r37_10, hl_r37_13, hl_r37_14, hl_r37_15, hl_r37_16, hl_r37_17, hl_r37_20, hl_r37_21, hl_o_66, hl_p_66_1, hl_a_67, hl_z_67, hl_l_67, eN, c1, h66, en, nW, not_false_eq_true, em, ez, hl_kill_i, hl_kill_r, hl_kill_n, hl_kill_l, hl_tl_s, hl_tl_n, hl_cal_some, hl_gI, hl_gJ, hl_gsI, hl_gsJ, hl_tv01, if_true, if_false, hl_up_a, hl_row_a]
      · have hb : i + 1 < N := by rw [← hNe]; exact hl_modN hW.1 (by rw [hNe]; omega) z
        have nz : ¬ nI ((i + 1) % W) = 0 := nI_ne0 (by omega) (by omega)
        obtain ⟨I1, e1, l1, f1⟩ := hl_s38 (d := d) (J := J) (a := i) (b := i + 1) hN hL (by omega) hb
        rw [h8] at e1 l1
        refine ⟨I1, (hl_lv hw (i, i + 1) (L, false)).1, b || (hl_lv hw (i, i + 1) (L, false)).2, ?_, l1, f1, by rw [if_neg z, hl_swf_1, hl_lv_or]⟩
        simp only [hl_r37_4, hl_r37_5, hl_r37_6, hl_r37_9, hl_r37_10, hl_r37_13, hl_r37_14, hl_r37_15, hl_r37_16, hl_r37_17, hl_r37_20, hl_r37_21, hl_r37_24, hl_r37_25, hl_r37_26, hl_r37_27, hl_r37_28, hl_r37_29, hl_r37_30, hl_r37_31, hl_r37_34, hl_r37_35, hl_o_66, hl_p_66_1, hl_a_67, hl_z_67, hl_l_67, eN, c1, h66, en, nW, not_false_eq_true, em, nz, e1, hl_tv_or, hl_kill_i, hl_kill_r, hl_kill_n, hl_kill_l, hl_tl_s, hl_tl_n, hl_cal_some, hl_gI, hl_gJ, hl_gsI, hl_gsJ, hl_tv01, if_true, if_false, hl_up_a, hl_row_a]
    obtain ⟨I1, L1, b1, a1, a2, a3, a4⟩ := A
    have h66' : I1 66 0 = nI W := by rw [a3 66 (by decide)]; exact h66
    have h8' : I1 8 = hw := by rw [a3 8 (by decide)]; exact h8
    have ew : nI i + nI W = nI (i + W) := nI_add i W
    -- below
    have B : ∃ I2 L2 b2, hl_Run 37 (hl_call (d + 1)) 36 [.ref 66, .ref 8, .int (hl_tv b1), .int (nI i)] [] (hl_g N I1 J) = hl_Run 37 (hl_call (d + 1)) 4 [.ref 66, .ref 8, .int (hl_tv b2), .int (nI (i + 1))] [] (hl_g N I2 J) ∧ hl_Lb 67 N I2 L2 ∧ (∀ q, q ≠ 67 → I2 q = I1 q) ∧ hl_swf hw (if i + W < N then [(i, i + W)] else []) (L1, b1) = (L2, b2) := by
      by_cases z : i + W < N
      · obtain ⟨I2, e2, l2, f2⟩ := hl_s38 (d := d) (J := J) (a := i) (b := i + W) hN a2 (by omega) z
        rw [h8'] at e2 l2
        refine ⟨I2, (hl_lv hw (i, i + W) (L1, false)).1, b1 || (hl_lv hw (i, i + W) (L1, false)).2, ?_, l2, f2, by rw [if_pos z, hl_swf_1, hl_lv_or]⟩
        simp only [hl_r37_36, hl_r37_37, hl_r37_38, hl_r37_39, hl_r37_40, hl_r37_41, hl_r37_42, hl_r37_45, hl_r37_46, hl_r37_49, hl_r37_50, hl_r37_51, hl_r37_54, hl_o_66, hl_p_66_1, h66', ew, e2, en, hl_tv_or, hl_kill_i, hl_kill_r, hl_kill_n, hl_kill_l, hl_tl_s, hl_tl_n, hl_cal_some, hl_gI, hl_gJ, hl_gsI, hl_gsJ, hl_tv01, if_true, if_false, hl_up_a, hl_row_a]
      · refine ⟨I1, L1, b1, ?_, a2, fun _ _ => rfl, by rw [if_neg z]; rfl⟩
        have e2 := hl_s38o (d := d) (I := I1) (J := J) (a := i) (b := i + W) hN (by omega) (by omega)
        simp only [hl_r37_36, hl_r37_37, hl_r37_38, hl_r37_39, hl_r37_40, hl_r37_41, hl_r37_42, hl_r37_45, hl_r37_46, hl_r37_49, hl_r37_50, hl_r37_51, hl_r37_54, hl_o_66, hl_p_66_1, h66', ew, e2, en, hl_tv_or, Bool.or_false, hl_kill_i, hl_kill_r, hl_kill_n, hl_kill_l, hl_tl_s, hl_tl_n, hl_cal_some, hl_gI, hl_gJ, hl_gsI, hl_gsJ, hl_tv01, if_true, if_false, hl_up_a, hl_row_a]
    obtain ⟨I2, L2, b2, g1, g2, g3, g4⟩ := B
    have hfin : hl_swf hw (hl_ps (hl_p1 N W) (i + 1)) (L0, false) = (L2, b2) := by
      rw [hnx]
      unfold hl_p1
      rw [hl_swf_app, a4, g4]
    have e := ih I2 (i + 1) (by omega) (by rw [g3 66 (by decide)]; exact h66') (by rw [g3 8 (by decide)]; exact h8') (by rw [hfin]; exact g2)
    rw [hfin] at e
    obtain ⟨I3, e1, e2, e3⟩ := e
    exact ⟨I3, by rw [a1, g1]; exact e1, e2, fun q hq => by rw [e3 q hq, g3 q hq, a3 q hq]⟩
theorem hl_s37 (hW : 2 ≤ W ∧ W ≤ 6) (hNe : W * H = N) (hN : N ≤ 24) (h66 : I 66 0 = nI W) (hL : hl_Lb 67 N I L) : ∃ I', hl_call (d + 2) 37 [.ref 66, .ref 8] (hl_g N I J) = some (some (.int (hl_tv (hl_swf (I 8) (hl_ps (hl_p1 N W) N) (L, false)).2)), hl_g N I' J) ∧ hl_Lb 67 N I' (hl_swf (I 8) (hl_ps (hl_p1 N W) N) (L, false)).1 ∧ ∀ q, q ≠ 67 → I' q = I q := by
  obtain ⟨I', e, r⟩ := hl_l37 (d := d) (J := J) hW hNe hN L N I 0 (by omega) h66 rfl hL
  refine ⟨I', ?_, r⟩
  rw [hl_e37, hl_r37_0, hl_r37_1, hl_r37_2, hl_r37_3]
  exact e
/-- the labels at first -/
theorem hl_l36a (hN : N ≤ 24) {c : hl_C} (f : Nat) : ∀ (I : Nat → Nat → Int32) (i : Nat), i + f = N → ∃ I', hl_Run 36 c 2 [.ref 66, .ref 8, .int (nI i), .null] [] (hl_g N I J) = hl_Run 36 c 24 [.ref 66, .ref 8, .int (nI N), .null] [] (hl_g N I' J) ∧ (∀ q, q ≠ 67 → I' q = I q) ∧ (∀ c, c < i → I' 67 c = I 67 c) ∧ ∀ c, i ≤ c → c < N → I' 67 c = nI c := by
  have eN : Int32.ofNat N = nI N := rfl
  induction f with
  | zero =>
    intro I i hi
    obtain rfl : i = N := by omega
    refine ⟨I, ?_, fun _ _ => rfl, fun _ _ => rfl, fun c h1 h2 => by omega⟩
    simp only [hl_r36_2, hl_r36_3, hl_r36_4, hl_r36_7, hl_r36_8, hl_o_66, hl_p_66_1, hl_a_67, hl_z_67, hl_l_67, eN, Int32.le_refl, hl_kill_i, hl_kill_r, hl_kill_n, hl_kill_l, hl_tl_s, hl_tl_n, hl_cal_some, hl_gI, hl_gJ, hl_gsI, hl_gsJ, hl_tv01, if_true, if_false, hl_up_a, hl_row_a]
  | succ f ih =>
    intro I i hi
    have c1 : ¬ nI N ≤ nI i := nI_ge (by omega) (by omega)
    have en : nI i + 1 = nI (i + 1) := (nI_succ i).symm
    have b : hl_inb (nI i) N = true := hl_inb_nI (by omega) (by omega)
    obtain ⟨I1, e1, f1, g1, k1⟩ := ih (hl_up I 67 i (nI i)) (i + 1) (by omega)
    refine ⟨I1, ?_, fun q hq => by rw [f1 q hq, hl_up_ne _ _ _ hq], fun c hc => ?_, fun c h3 h4 => ?_⟩
    · rw [← e1, hl_r36_2]
      simp only [hl_r36_3, hl_r36_4, hl_r36_7, hl_r36_8, hl_r36_11, hl_r36_12, hl_r36_15, hl_r36_16, hl_r36_17, hl_r36_18, hl_r36_21, hl_o_66, hl_p_66_1, hl_a_67, hl_z_67, hl_l_67, eN, c1, b, nIc (show i < 2 ^ 31 by omega), en, hl_kill_i, hl_kill_r, hl_kill_n, hl_kill_l, hl_tl_s, hl_tl_n, hl_cal_some, hl_gI, hl_gJ, hl_gsI, hl_gsJ, hl_tv01, if_true, if_false, hl_up_a, hl_row_a]
    · rw [g1 c (by omega), hl_up_a, if_pos rfl, if_neg (by omega)]
    · by_cases q : c = i
      · subst q
        rw [g1 c (by omega), hl_up_at]
      · exact k1 c (by omega) h4
theorem hl_l36b {hw : Nat → Int32} {F : Nat → Nat} (hW : 2 ≤ W ∧ W ≤ 6) (hNe : W * H = N) (hN : N ≤ 24) (hF : hl_Gd hw (hl_ps (hl_p1 N W) N) F) (cF : hl_Cl hw (hl_ps (hl_p1 N W) N) F) (f : Nat) : ∀ (I : Nat → Nat → Int32) (i : Nat) (L : Nat → Nat) (b : Bool), i + f = N → I 66 0 = nI W → I 8 = hw → hl_Lb 67 N I L → hl_Gd hw (hl_ps (hl_p1 N W) N) L → (b = true → i ≤ hl_cnt (fun c => decide (L c = F c)) N) → (b = false → hl_Cl hw (hl_ps (hl_p1 N W) N) L) → ∃ I' L', hl_Run 36 (hl_call (d + 2)) 28 [.ref 66, .ref 8, .int (hl_tv b), .int (nI i)] [] (hl_g N I J) = some (none, hl_g N I' J) ∧ hl_Lb 67 N I' L' ∧ hl_Gd hw (hl_ps (hl_p1 N W) N) L' ∧ hl_Cl hw (hl_ps (hl_p1 N W) N) L' ∧ ∀ q, q ≠ 67 → I' q = I q := by
  have eN : Int32.ofNat N = nI N := rfl
  have hb1 := hl_p1_b (W := W) (H := H) hW.1
  rw [hNe] at hb1
  induction f with
  | zero =>
    intro I i L b hi h66 h8 hL hG ht hf
    obtain rfl : i = N := by omega
    refine ⟨I, L, ?_, hL, hG, ?_, fun _ _ => rfl⟩
    · simp only [hl_r36_28, hl_r36_29, hl_r36_30, hl_r36_33, hl_r36_34, hl_r36_53, hl_o_66, hl_p_66_1, hl_a_67, hl_z_67, hl_l_67, eN, Int32.le_refl, hl_kill_i, hl_kill_r, hl_kill_n, hl_kill_l, hl_tl_s, hl_tl_n, hl_cal_some, hl_gI, hl_gJ, hl_gsI, hl_gsJ, hl_tv01, if_true, if_false, hl_up_a, hl_row_a]
    · cases b with
      | false => exact hf rfl
      | true =>
        have all := hl_cnt_all i (Nat.le_antisymm (hl_cnt_le _ i) (ht rfl))
        intro p hp heq
        obtain ⟨n1, n2⟩ := hb1 p hp
        rw [of_decide_eq_true (all p.1 n1), of_decide_eq_true (all p.2 n2)]
        exact cF p hp heq
  | succ f ih =>
    intro I i L b hi h66 h8 hL hG ht hf
    have c1 : ¬ nI N ≤ nI i := nI_ge (by omega) (by omega)
    have en : nI i + 1 = nI (i + 1) := (nI_succ i).symm
    cases b with
    | false =>
      refine ⟨I, L, ?_, hL, hG, hf rfl, fun _ _ => rfl⟩
      simp only [hl_r36_28, hl_r36_29, hl_r36_30, hl_r36_33, hl_r36_34, hl_r36_37, hl_r36_38, hl_r36_53, hl_o_66, hl_p_66_1, hl_a_67, hl_z_67, hl_l_67, eN, c1, hl_tv_f, hl_kill_i, hl_kill_r, hl_kill_n, hl_kill_l, hl_tl_s, hl_tl_n, hl_cal_some, hl_gI, hl_gJ, hl_gsI, hl_gsJ, hl_tv01, if_true, if_false, hl_up_a, hl_row_a]
    | true =>
      obtain ⟨I1, e1, l1, f1⟩ := hl_s37 (d := d) (J := J) hW hNe hN h66 hL
      rw [h8] at e1 l1
      have cnt := hl_swf_cnt2 (b := false) hb1 hF cF hG (ht rfl) (by omega)
      have gd := hl_swf_gd (h := hw) (ps := hl_ps (hl_p1 N W) N) (hl_ps (hl_p1 N W) N) (L, false) (fun _ h => h) hG
      have cl := hl_swf_f (h := hw) (hl_ps (hl_p1 N W) N) L
      generalize hl_swf hw (hl_ps (hl_p1 N W) N) (L, false) = s at e1 l1 cnt gd cl
      obtain ⟨L', b'⟩ := s
      obtain ⟨I2, L2, e2, r1, r2, r3, r4⟩ := ih I1 (i + 1) L' b' (by omega) (by rw [f1 66 (by decide)]; exact h66) (by rw [f1 8 (by decide)]; exact h8) l1 gd (fun _ => cnt) (fun z => by
        obtain ⟨y1, y2⟩ := cl z
        rw [show L' = L from y1]
        exact y2)
      refine ⟨I2, L2, ?_, r1, r2, r3, fun q hq => by rw [r4 q hq, f1 q hq]⟩
      rw [← e2, hl_r36_28]
      simp only [hl_r36_29, hl_r36_30, hl_r36_33, hl_r36_34, hl_r36_37, hl_r36_38, hl_r36_41, hl_r36_42, hl_r36_43, hl_r36_46, hl_r36_47, hl_r36_50, hl_o_66, hl_p_66_1, hl_a_67, hl_z_67, hl_l_67, eN, c1, hl_tv_t, hl_10, e1, en, hl_kill_i, hl_kill_r, hl_kill_n, hl_kill_l, hl_tl_s, hl_tl_n, hl_cal_some, hl_gI, hl_gJ, hl_gsI, hl_gsJ, hl_tv01, if_true, if_false, hl_up_a, hl_row_a]
theorem hl_s36 (hW : 2 ≤ W ∧ W ≤ 6) (hNe : W * H = N) (hN : N ≤ 24) (h66 : I 66 0 = nI W) : ∃ I' L, hl_call (d + 3) 36 [.ref 66, .ref 8] (hl_g N I J) = some (none, hl_g N I' J) ∧ hl_Lb 67 N I' L ∧ hl_Gd (I 8) (hl_ps (hl_p1 N W) N) L ∧ hl_Cl (I 8) (hl_ps (hl_p1 N W) N) L ∧ ∀ q, q ≠ 67 → I' q = I q := by
  have hb1 := hl_p1_b (W := W) (H := H) hW.1
  rw [hNe] at hb1
  obtain ⟨F, hF, cF⟩ := hl_Gd_ex (h := I 8) hb1 _ (fun c => c) (Nat.le_refl _) (hl_Gd_id _ _)
  obtain ⟨I1, e1, f1, -, k1⟩ := hl_l36a (J := J) (c := hl_call (d + 2)) hN N I 0 (by omega)
  obtain ⟨I2, L2, e2, r1, r2, r3, r4⟩ := hl_l36b (d := d) (J := J) hW hNe hN hF cF N I1 0 (fun c => c) true (by omega) (by rw [f1 66 (by decide)]; exact h66) (f1 8 (by decide)) ⟨fun c => Nat.le_refl c, fun c hc => k1 c (by omega) hc⟩ (hl_Gd_id _ _) (fun _ => Nat.zero_le _) (fun z => by cases z)
  refine ⟨I2, L2, ?_, r1, r2, r3, fun q hq => by rw [r4 q hq, f1 q hq]⟩
  rw [← e2, hl_e36]
  have e1' : hl_Run 36 (hl_call (d + 2)) 2 [.ref 66, .ref 8, .int 0, .null] [] (hl_g N I J) = hl_Run 36 (hl_call (d + 2)) 24 [.ref 66, .ref 8, .int (nI N), .null] [] (hl_g N I1 J) := e1
  simp only [hl_r36_0, hl_r36_1, e1', hl_r36_24, hl_r36_25, hl_r36_26, hl_r36_27, hl_kill_i, hl_kill_r, hl_kill_n, hl_kill_l, hl_tl_s, hl_tl_n, hl_cal_some, hl_gI, hl_gJ, hl_gsI, hl_gsJ, hl_tv01, if_true, if_false, hl_up_a, hl_row_a]
  rfl
/-- the reference's -/
theorem hl_s217 {a b : Nat} (hN : N ≤ 24) (hL : hl_Lb 95 N I L) (ha : a < N) (hb : b < N) : ∃ I', hl_call (d + 1) 217 [.ref 85, .int (nI a), .int (nI b)] (hl_g N I J) = some (some (.int (hl_tv (hl_lv (I 94) (a, b) (L, false)).2)), hl_g N I' J) ∧ hl_Lb 95 N I' (hl_lv (I 94) (a, b) (L, false)).1 ∧ ∀ q, q ≠ 95 → I' q = I q := by
  have ba : hl_inb (nI a) 24 = true := hl_inb_nI (by omega) (by omega)
  have bb : hl_inb (nI b) 24 = true := hl_inb_nI (by omega) (by omega)
  have la := hL.1 a
  have lb := hL.1 b
  have ea := hL.2 a ha
  have eb := hL.2 b hb
  by_cases h1 : I 94 a = I 94 b
  · by_cases h2 : L a = L b
    · have e : hl_lv (I 94) (a, b) (L, false) = (L, false) := if_neg (fun q => q.2 h2)
      rw [e]
      refine ⟨I, ?_, hL, fun _ _ => rfl⟩
      rw [hl_e217]
      simp only [hl_r217_0, hl_r217_1, hl_r217_4, hl_r217_5, hl_r217_6, hl_r217_7, hl_r217_10, hl_r217_11, hl_r217_12, hl_r217_15, hl_r217_16, hl_r217_19, hl_r217_20, hl_r217_21, hl_r217_22, hl_r217_25, hl_r217_26, hl_r217_27, hl_r217_30, hl_r217_31, hl_r217_32, hl_r217_33, hl_r217_36, hl_r217_37, hl_r217_38, hl_r217_39, hl_r217_42, hl_r217_43, hl_r217_44, hl_r217_47, hl_r217_48, hl_r217_51, hl_r217_52, hl_r217_53, hl_r217_56, hl_r217_57, hl_r217_60, hl_r217_61, hl_r217_62, hl_r217_63, hl_r217_64, hl_r217_67, hl_r217_68, hl_r217_69, hl_r217_70, hl_r217_71, hl_r217_74, hl_r217_75, hl_r217_76, hl_r217_77, hl_r217_78, hl_o_85, hl_p_85_3, hl_p_85_4, hl_p_85_5, hl_p_85_6, hl_p_85_19, hl_p_85_23, hl_p_85_24, hl_p_85_25, hl_p_85_26, hl_p_85_27, hl_p_85_28, hl_p_85_29, hl_p_85_30, hl_p_85_31, hl_p_85_33, hl_p_85_34, hl_p_85_35, hl_p_85_36, hl_p_85_37, hl_a_94, hl_z_94, hl_a_95, hl_z_95, ba, bb, nIc (show a < 2 ^ 31 by omega), nIc (show b < 2 ^ 31 by omega), h1, ea, eb, h2, not_true, true_or, hl_tv_f, hl_kill_i, hl_kill_r, hl_kill_n, hl_kill_l, hl_tl_s, hl_tl_n, hl_cal_some, hl_gI, hl_gJ, hl_gsI, hl_gsJ, hl_tv01, if_true, if_false, hl_up_a, hl_row_a]
    · have e : hl_lv (I 94) (a, b) (L, false) = (fun c => if c = a ∨ c = b then min (L a) (L b) else L c, true) := if_pos ⟨h1, h2⟩
      rw [e]
      have n2 : ¬ nI (L a) = nI (L b) := fun q => h2 ((nI_eq (by omega) (by omega)).mp q)
      refine ⟨hl_up (hl_up I 95 a (nI (min (L a) (L b)))) 95 b (nI (min (L a) (L b))), ?_, hl_Lb_up hL ⟨by omega, by omega⟩ ha hb, fun q hq => by rw [hl_up_ne _ _ _ hq, hl_up_ne _ _ _ hq]⟩
      rw [hl_e217]
      by_cases z : L a < L b
      · have em : nI (min (L a) (L b)) = nI (L a) := by rw [Nat.min_eq_left (by omega)]
        have c2 : ¬ nI (L b) ≤ nI (L a) := nI_ge z (by omega)
        simp only [hl_r217_0, hl_r217_1, hl_r217_4, hl_r217_5, hl_r217_6, hl_r217_7, hl_r217_10, hl_r217_11, hl_r217_12, hl_r217_15, hl_r217_16, hl_r217_19, hl_r217_20, hl_r217_21, hl_r217_22, hl_r217_25, hl_r217_26, hl_r217_27, hl_r217_30, hl_r217_31, hl_r217_32, hl_r217_33, hl_r217_36, hl_r217_37, hl_r217_38, hl_r217_39, hl_r217_42, hl_r217_43, hl_r217_44, hl_r217_47, hl_r217_48, hl_r217_51, hl_r217_52, hl_r217_53, hl_r217_56, hl_r217_57, hl_r217_60, hl_r217_61, hl_r217_62, hl_r217_63, hl_r217_64, hl_r217_67, hl_r217_68, hl_r217_69, hl_r217_70, hl_r217_71, hl_r217_74, hl_r217_75, hl_r217_76, hl_r217_77, hl_r217_78, hl_o_85, hl_p_85_3, hl_p_85_4, hl_p_85_5, hl_p_85_6, hl_p_85_19, hl_p_85_23, hl_p_85_24, hl_p_85_25, hl_p_85_26, hl_p_85_27, hl_p_85_28, hl_p_85_29, hl_p_85_30, hl_p_85_31, hl_p_85_33, hl_p_85_34, hl_p_85_35, hl_p_85_36, hl_p_85_37, hl_a_94, hl_z_94, hl_a_95, hl_z_95, ba, bb, nIc (show a < 2 ^ 31 by omega), nIc (show b < 2 ^ 31 by omega), h1, ea, eb, n2, em, c2, not_true, not_false_eq_true, or_true, hl_tv_t, hl_kill_i, hl_kill_r, hl_kill_n, hl_kill_l, hl_tl_s, hl_tl_n, hl_cal_some, hl_gI, hl_gJ, hl_gsI, hl_gsJ, hl_tv01, if_true, if_false, hl_up_a, hl_row_a]
      · have em : nI (min (L a) (L b)) = nI (L b) := by rw [Nat.min_eq_right (by omega)]
        have c2 : nI (L b) ≤ nI (L a) := nI_le (by omega) (by omega)
        simp only [hl_r217_0, hl_r217_1, hl_r217_4, hl_r217_5, hl_r217_6, hl_r217_7, hl_r217_10, hl_r217_11, hl_r217_12, hl_r217_15, hl_r217_16, hl_r217_19, hl_r217_20, hl_r217_21, hl_r217_22, hl_r217_25, hl_r217_26, hl_r217_27, hl_r217_30, hl_r217_31, hl_r217_32, hl_r217_33, hl_r217_36, hl_r217_37, hl_r217_38, hl_r217_39, hl_r217_42, hl_r217_43, hl_r217_44, hl_r217_47, hl_r217_48, hl_r217_51, hl_r217_52, hl_r217_53, hl_r217_56, hl_r217_57, hl_r217_60, hl_r217_61, hl_r217_62, hl_r217_63, hl_r217_64, hl_r217_67, hl_r217_68, hl_r217_69, hl_r217_70, hl_r217_71, hl_r217_74, hl_r217_75, hl_r217_76, hl_r217_77, hl_r217_78, hl_o_85, hl_p_85_3, hl_p_85_4, hl_p_85_5, hl_p_85_6, hl_p_85_19, hl_p_85_23, hl_p_85_24, hl_p_85_25, hl_p_85_26, hl_p_85_27, hl_p_85_28, hl_p_85_29, hl_p_85_30, hl_p_85_31, hl_p_85_33, hl_p_85_34, hl_p_85_35, hl_p_85_36, hl_p_85_37, hl_a_94, hl_z_94, hl_a_95, hl_z_95, ba, bb, nIc (show a < 2 ^ 31 by omega), nIc (show b < 2 ^ 31 by omega), h1, ea, eb, n2, em, c2, not_true, not_false_eq_true, or_true, hl_tv_t, hl_kill_i, hl_kill_r, hl_kill_n, hl_kill_l, hl_tl_s, hl_tl_n, hl_cal_some, hl_gI, hl_gJ, hl_gsI, hl_gsJ, hl_tv01, if_true, if_false, hl_up_a, hl_row_a]
  · have e : hl_lv (I 94) (a, b) (L, false) = (L, false) := if_neg (fun q => h1 q.1)
    rw [e]
    refine ⟨I, ?_, hL, fun _ _ => rfl⟩
    rw [hl_e217]
    simp only [hl_r217_0, hl_r217_1, hl_r217_4, hl_r217_5, hl_r217_6, hl_r217_7, hl_r217_10, hl_r217_11, hl_r217_12, hl_r217_15, hl_r217_16, hl_r217_19, hl_r217_20, hl_r217_21, hl_r217_22, hl_r217_25, hl_r217_26, hl_r217_27, hl_r217_30, hl_r217_31, hl_r217_32, hl_r217_33, hl_r217_36, hl_r217_37, hl_r217_38, hl_r217_39, hl_r217_42, hl_r217_43, hl_r217_44, hl_r217_47, hl_r217_48, hl_r217_51, hl_r217_52, hl_r217_53, hl_r217_56, hl_r217_57, hl_r217_60, hl_r217_61, hl_r217_62, hl_r217_63, hl_r217_64, hl_r217_67, hl_r217_68, hl_r217_69, hl_r217_70, hl_r217_71, hl_r217_74, hl_r217_75, hl_r217_76, hl_r217_77, hl_r217_78, hl_o_85, hl_p_85_3, hl_p_85_4, hl_p_85_5, hl_p_85_6, hl_p_85_19, hl_p_85_23, hl_p_85_24, hl_p_85_25, hl_p_85_26, hl_p_85_27, hl_p_85_28, hl_p_85_29, hl_p_85_30, hl_p_85_31, hl_p_85_33, hl_p_85_34, hl_p_85_35, hl_p_85_36, hl_p_85_37, hl_a_94, hl_z_94, hl_a_95, hl_z_95, ba, bb, nIc (show a < 2 ^ 31 by omega), nIc (show b < 2 ^ 31 by omega), h1, not_false_eq_true, true_or, hl_tv_f, hl_kill_i, hl_kill_r, hl_kill_n, hl_kill_l, hl_tl_s, hl_tl_n, hl_cal_some, hl_gI, hl_gJ, hl_gsI, hl_gsJ, hl_tv01, if_true, if_false, hl_up_a, hl_row_a]
theorem hl_l216 {hw : Nat → Int32} (hW : 2 ≤ W ∧ W ≤ 6) (hN : N ≤ 24) (L0 : Nat → Nat) (f : Nat) : ∀ (I : Nat → Nat → Int32) (i : Nat), i + f = N → I 85 0 = nI W → I 85 2 = nI N → I 94 = hw → hl_Lb 95 N I (hl_swf hw (hl_ps (hl_p2 W) i) (L0, false)).1 → ∃ I', hl_Run 216 (hl_call (d + 1)) 33 [.ref 85, .int (hl_tv (hl_swf hw (hl_ps (hl_p2 W) i) (L0, false)).2), .int (nI i)] [] (hl_g N I J) = hl_Run 216 (hl_call (d + 1)) 25 [.ref 85, .int (hl_tv (hl_swf hw (hl_ps (hl_p2 W) N) (L0, false)).2), .int (nI N)] [] (hl_g N I' J) ∧ hl_Lb 95 N I' (hl_swf hw (hl_ps (hl_p2 W) N) (L0, false)).1 ∧ ∀ q, q ≠ 95 → I' q = I q := by
  induction f with
  | zero =>
    intro I i hi _ h2 _ hL
    obtain rfl : i = N := by omega
    refine ⟨I, ?_, hL, fun _ _ => rfl⟩
    simp only [hl_r216_33, hl_r216_34, hl_r216_35, hl_r216_38, hl_r216_109, hl_o_85, hl_p_85_3, hl_p_85_4, hl_p_85_5, hl_p_85_6, hl_p_85_19, hl_p_85_23, hl_p_85_24, hl_p_85_25, hl_p_85_26, hl_p_85_27, hl_p_85_28, hl_p_85_29, hl_p_85_30, hl_p_85_31, hl_p_85_33, hl_p_85_34, hl_p_85_35, hl_p_85_36, hl_p_85_37, h2, Int32.le_refl, hl_kill_i, hl_kill_r, hl_kill_n, hl_kill_l, hl_tl_s, hl_tl_n, hl_cal_some, hl_gI, hl_gJ, hl_gsI, hl_gsJ, hl_tv01, if_true, if_false, hl_up_a, hl_row_a]
  | succ f ih =>
    intro I i hi h66 h2 h8 hL
    have c1 : ¬ nI N ≤ nI i := nI_ge (by omega) (by omega)
    have en : nI i + 1 = nI (i + 1) := (nI_succ i).symm
    have nW : ¬ nI W = 0 := nI_ne0 (by omega) (by omega)
    have em : nI i - nI i / nI W * nI W = nI (i % W) := hl_rmI (by omega) (by omega)
    have hm := Nat.mod_lt i (show 0 < W by omega)
    generalize hs : hl_swf hw (hl_ps (hl_p2 W) i) (L0, false) = s at hL ⊢
    obtain ⟨L, b⟩ := s
    have hnx : hl_swf hw (hl_ps (hl_p2 W) (i + 1)) (L0, false) = hl_swf hw (hl_p2 W i) (L, b) := by
      show hl_swf hw (hl_ps (hl_p2 W) i ++ hl_p2 W i) (L0, false) = _
      rw [hl_swf_app, hs]
    have A : ∃ I1 L1 b1, hl_Run 216 (hl_call (d + 1)) 33 [.ref 85, .int (hl_tv b), .int (nI i)] [] (hl_g N I J) = hl_Run 216 (hl_call (d + 1)) 71 [.ref 85, .int (hl_tv b1), .int (nI i)] [] (hl_g N I1 J) ∧ hl_Lb 95 N I1 L1 ∧ (∀ q, q ≠ 95 → I1 q = I q) ∧ hl_swf hw (if 0 < i % W then [(i, i - 1)] else []) (L, b) = (L1, b1) := by
      by_cases z : 0 < i % W
      · have i0 : 0 < i := Nat.pos_of_ne_zero fun y => by subst y; rw [Nat.zero_mod] at z; omega
        have nz : ¬ nI (i % W) ≤ 0 := nI_nle z (by omega)
        have e1m : nI i - 1 = nI (i - 1) := by
          obtain ⟨k, rfl⟩ : ∃ k, i = k + 1 := ⟨i - 1, by omega⟩
          exact nI_pred k
        obtain ⟨I1, e1, l1, f1⟩ := hl_s217 (d := d) (J := J) (a := i) (b := i - 1) hN hL (by omega) (by omega)
        rw [h8] at e1 l1
        refine ⟨I1, (hl_lv hw (i, i - 1) (L, false)).1, b || (hl_lv hw (i, i - 1) (L, false)).2, ?_, l1, f1, by rw [if_pos z, hl_swf_1, hl_lv_or]⟩
        generalize (hl_lv hw (i, i - 1) (L, false)).2 = r at e1
        cases r <;> cases b <;> simp only [hl_r216_33, hl_r216_34, hl_r216_35, hl_r216_38, hl_r216_41, hl_r216_42, hl_r216_43, hl_r216_46, hl_r216_47, hl_r216_50, hl_r216_51, hl_r216_52, hl_r216_53, hl_r216_54, hl_r216_55, hl_r216_58, hl_r216_61, hl_r216_62, hl_r216_65, hl_r216_66, hl_r216_69, hl_r216_70, hl_o_85, hl_p_85_3, hl_p_85_4, hl_p_85_5, hl_p_85_6, hl_p_85_19, hl_p_85_23, hl_p_85_24, hl_p_85_25, hl_p_85_26, hl_p_85_27, hl_p_85_28, hl_p_85_29, hl_p_85_30, hl_p_85_31, hl_p_85_33, hl_p_85_34, hl_p_85_35, hl_p_85_36, hl_p_85_37, h2, c1, h66, nW, not_false_eq_true, not_true, em, nz, e1m, e1, hl_tv_t, hl_tv_f, hl_10, Bool.or_true, Bool.or_false, hl_kill_i, hl_kill_r, hl_kill_n, hl_kill_l, hl_tl_s, hl_tl_n, hl_cal_some, hl_gI, hl_gJ, hl_gsI, hl_gsJ, hl_tv01, if_true, if_false, hl_up_a, hl_row_a]
      · have nz : nI (i % W) ≤ 0 := by
          have : i % W = 0 := by omega
          rw [this]; exact Int32.le_refl 0
        refine ⟨I, L, b, ?_, hL, fun _ _ => rfl, by rw [if_neg z]; rfl⟩
        simp only [hl_r216_33, hl_r216_34, hl_r216_35, hl_r216_38, hl_r216_41, hl_r216_42, hl_r216_43, hl_r216_46, hl_r216_47, hl_o_85, hl_p_85_3, hl_p_85_4, hl_p_85_5, hl_p_85_6, hl_p_85_19, hl_p_85_23, hl_p_85_24, hl_p_85_25, hl_p_85_26, hl_p_85_27, hl_p_85_28, hl_p_85_29, hl_p_85_30, hl_p_85_31, hl_p_85_33, hl_p_85_34, hl_p_85_35, hl_p_85_36, hl_p_85_37, h2, c1, h66, nW, not_false_eq_true, em, nz, hl_kill_i, hl_kill_r, hl_kill_n, hl_kill_l, hl_tl_s, hl_tl_n, hl_cal_some, hl_gI, hl_gJ, hl_gsI, hl_gsJ, hl_tv01, if_true, if_false, hl_up_a, hl_row_a]
    obtain ⟨I1, L1, b1, a1, a2, a3, a4⟩ := A
    have h66' : I1 85 0 = nI W := by rw [a3 85 (by decide)]; exact h66
    have h8' : I1 94 = hw := by rw [a3 94 (by decide)]; exact h8
    have B : ∃ I2 L2 b2, hl_Run 216 (hl_call (d + 1)) 71 [.ref 85, .int (hl_tv b1), .int (nI i)] [] (hl_g N I1 J) = hl_Run 216 (hl_call (d + 1)) 33 [.ref 85, .int (hl_tv b2), .int (nI (i + 1))] [] (hl_g N I2 J) ∧ hl_Lb 95 N I2 L2 ∧ (∀ q, q ≠ 95 → I2 q = I1 q) ∧ hl_swf hw (if i < W then [] else [(i, i - W)]) (L1, b1) = (L2, b2) := by
      by_cases z : i < W
      · have nz : nI i < nI W := nI_lt z (by omega)
        refine ⟨I1, L1, b1, ?_, a2, fun _ _ => rfl, by rw [if_pos z]; rfl⟩
        simp only [hl_r216_71, hl_r216_72, hl_r216_73, hl_r216_76, hl_r216_103, hl_r216_106, hl_o_85, hl_p_85_3, hl_p_85_4, hl_p_85_5, hl_p_85_6, hl_p_85_19, hl_p_85_23, hl_p_85_24, hl_p_85_25, hl_p_85_26, hl_p_85_27, hl_p_85_28, hl_p_85_29, hl_p_85_30, hl_p_85_31, hl_p_85_33, hl_p_85_34, hl_p_85_35, hl_p_85_36, hl_p_85_37, h66', nz, en, hl_kill_i, hl_kill_r, hl_kill_n, hl_kill_l, hl_tl_s, hl_tl_n, hl_cal_some, hl_gI, hl_gJ, hl_gsI, hl_gsJ, hl_tv01, if_true, if_false, hl_up_a, hl_row_a]
      · have nz : ¬ nI i < nI W := nI_nlt (by omega) (by omega)
        have e1m : nI i - nI W = nI (i - W) := by
          have := nI_add (i - W) W
          rw [show i - W + W = i by omega] at this
          rw [← this, Int32.add_sub_cancel]
        obtain ⟨I2, e1, l2, f2⟩ := hl_s217 (d := d) (J := J) (a := i) (b := i - W) hN a2 (by omega) (by omega)
        rw [h8'] at e1 l2
        refine ⟨I2, (hl_lv hw (i, i - W) (L1, false)).1, b1 || (hl_lv hw (i, i - W) (L1, false)).2, ?_, l2, f2, by rw [if_neg z, hl_swf_1, hl_lv_or]⟩
        generalize (hl_lv hw (i, i - W) (L1, false)).2 = r at e1
        cases r <;> cases b1 <;> simp only [hl_r216_71, hl_r216_72, hl_r216_73, hl_r216_76, hl_r216_79, hl_r216_80, hl_r216_81, hl_r216_82, hl_r216_83, hl_r216_86, hl_r216_87, hl_r216_90, hl_r216_93, hl_r216_94, hl_r216_97, hl_r216_98, hl_r216_101, hl_r216_102, hl_r216_103, hl_r216_106, hl_o_85, hl_p_85_3, hl_p_85_4, hl_p_85_5, hl_p_85_6, hl_p_85_19, hl_p_85_23, hl_p_85_24, hl_p_85_25, hl_p_85_26, hl_p_85_27, hl_p_85_28, hl_p_85_29, hl_p_85_30, hl_p_85_31, hl_p_85_33, hl_p_85_34, hl_p_85_35, hl_p_85_36, hl_p_85_37, h66', nz, e1m, e1, en, not_false_eq_true, not_true, hl_tv_t, hl_tv_f, hl_10, Bool.or_true, Bool.or_false, hl_kill_i, hl_kill_r, hl_kill_n, hl_kill_l, hl_tl_s, hl_tl_n, hl_cal_some, hl_gI, hl_gJ, hl_gsI, hl_gsJ, hl_tv01, if_true, if_false, hl_up_a, hl_row_a]
    obtain ⟨I2, L2, b2, g1, g2, g3, g4⟩ := B
    have hfin : hl_swf hw (hl_ps (hl_p2 W) (i + 1)) (L0, false) = (L2, b2) := by
      rw [hnx]
      unfold hl_p2
      rw [hl_swf_app, a4, g4]
    have e := ih I2 (i + 1) (by omega) (by rw [g3 85 (by decide)]; exact h66') (by rw [g3 85 (by decide), a3 85 (by decide)]; exact h2) (by rw [g3 94 (by decide)]; exact h8') (by rw [hfin]; exact g2)
    rw [hfin] at e
    obtain ⟨I3, e1, e2, e3⟩ := e
    exact ⟨I3, by rw [a1, g1]; exact e1, e2, fun q hq => by rw [e3 q hq, g3 q hq, a3 q hq]⟩
theorem hl_l216b {hw : Nat → Int32} (hW : 2 ≤ W ∧ W ≤ 6) (hN : N ≤ 24) (m : Nat) : ∀ (I : Nat → Nat → Int32) (L : Nat → Nat) (l2 : Value), hl_mes L N ≤ m → I 85 0 = nI W → I 85 2 = nI N → I 94 = hw → hl_Lb 95 N I L → hl_Gd hw (hl_ps (hl_p2 W) N) L → ∃ I' L', hl_Run 216 (hl_call (d + 1)) 25 [.ref 85, .int (hl_tv true), l2] [] (hl_g N I J) = some (none, hl_g N I' J) ∧ hl_Lb 95 N I' L' ∧ hl_Gd hw (hl_ps (hl_p2 W) N) L' ∧ hl_Cl hw (hl_ps (hl_p2 W) N) L' ∧ ∀ q, q ≠ 95 → I' q = I q := by
  induction m with
  | zero =>
    intro I L l2 hm h66 h2 h8 hL hG
    obtain ⟨I1, e1, l1, f1⟩ := hl_l216 (d := d) (J := J) hW hN L N I 0 (by omega) h66 h2 h8 hL
    have gd := hl_swf_gd (h := hw) (ps := hl_ps (hl_p2 W) N) (hl_ps (hl_p2 W) N) (L, false) (fun _ h => h) hG
    have cl := hl_swf_f (h := hw) (hl_ps (hl_p2 W) N) L
    have ms := hl_swf_mes (h := hw) (N := N) (hl_ps (hl_p2 W) N) L hl_p2_b
    rw [show hl_tv (hl_swf hw (hl_ps (hl_p2 W) 0) (L, false)).2 = 0 from rfl, show nI 0 = 0 from rfl] at e1
    generalize hl_swf hw (hl_ps (hl_p2 W) N) (L, false) = s at e1 l1 gd cl ms
    obtain ⟨L', b'⟩ := s
    cases b' with
    | true => have := ms rfl; omega
    | false =>
      obtain ⟨y1, y2⟩ := cl rfl
      have y1' : L' = L := y1
      refine ⟨I1, L', ?_, l1, gd, by rw [y1']; exact y2, f1⟩
      simp only [hl_tv_f] at e1
      simp only [hl_r216_25, hl_r216_26, hl_r216_29, hl_r216_30, hl_r216_31, hl_r216_32, hl_tv_t, hl_10, e1, hl_r216_112, hl_kill_i, hl_kill_r, hl_kill_n, hl_kill_l, hl_tl_s, hl_tl_n, hl_cal_some, hl_gI, hl_gJ, hl_gsI, hl_gsJ, hl_tv01, if_true, if_false, hl_up_a, hl_row_a]
  | succ m ih =>
    intro I L l2 hm h66 h2 h8 hL hG
    obtain ⟨I1, e1, l1, f1⟩ := hl_l216 (d := d) (J := J) hW hN L N I 0 (by omega) h66 h2 h8 hL
    have gd := hl_swf_gd (h := hw) (ps := hl_ps (hl_p2 W) N) (hl_ps (hl_p2 W) N) (L, false) (fun _ h => h) hG
    have cl := hl_swf_f (h := hw) (hl_ps (hl_p2 W) N) L
    have ms := hl_swf_mes (h := hw) (N := N) (hl_ps (hl_p2 W) N) L hl_p2_b
    rw [show hl_tv (hl_swf hw (hl_ps (hl_p2 W) 0) (L, false)).2 = 0 from rfl, show nI 0 = 0 from rfl] at e1
    generalize hl_swf hw (hl_ps (hl_p2 W) N) (L, false) = s at e1 l1 gd cl ms
    obtain ⟨L', b'⟩ := s
    cases b' with
    | true =>
      obtain ⟨I2, L2, e2, r1, r2, r3, r4⟩ := ih I1 L' (.int (nI N)) (by have z : hl_mes L' N < hl_mes L N := ms rfl; omega) (by rw [f1 85 (by decide)]; exact h66) (by rw [f1 85 (by decide)]; exact h2) (by rw [f1 94 (by decide)]; exact h8) l1 gd
      refine ⟨I2, L2, ?_, r1, r2, r3, fun q hq => by rw [r4 q hq, f1 q hq]⟩
      rw [← e2]
      have st : hl_Run 216 (hl_call (d + 1)) 25 [.ref 85, .int (hl_tv true), l2] [] (hl_g N I J) = hl_Run 216 (hl_call (d + 1)) 33 [.ref 85, .int 0, .int 0] [] (hl_g N I J) := by
        simp only [hl_r216_25, hl_r216_26, hl_r216_29, hl_r216_30, hl_r216_31, hl_r216_32, hl_tv_t, hl_10, hl_kill_i, hl_kill_r, hl_kill_n, hl_kill_l, hl_tl_s, hl_tl_n, hl_cal_some, hl_gI, hl_gJ, hl_gsI, hl_gsJ, hl_tv01, if_true, if_false, hl_up_a, hl_row_a]
      rw [st, e1]
    | false =>
      obtain ⟨y1, y2⟩ := cl rfl
      have y1' : L' = L := y1
      refine ⟨I1, L', ?_, l1, gd, by rw [y1']; exact y2, f1⟩
      simp only [hl_tv_f] at e1
      simp only [hl_r216_25, hl_r216_26, hl_r216_29, hl_r216_30, hl_r216_31, hl_r216_32, hl_tv_t, hl_10, e1, hl_r216_112, hl_kill_i, hl_kill_r, hl_kill_n, hl_kill_l, hl_tl_s, hl_tl_n, hl_cal_some, hl_gI, hl_gJ, hl_gsI, hl_gsJ, hl_tv01, if_true, if_false, hl_up_a, hl_row_a]
theorem hl_l216a (hN : N ≤ 24) {c : hl_C} (f : Nat) : ∀ (I : Nat → Nat → Int32) (i : Nat), i + f = N → I 85 2 = nI N → ∃ I', hl_Run 216 c 2 [.ref 85, .int (nI i), .null] [] (hl_g N I J) = hl_Run 216 c 23 [.ref 85, .int (nI N), .null] [] (hl_g N I' J) ∧ (∀ q, q ≠ 95 → I' q = I q) ∧ (∀ c, c < i → I' 95 c = I 95 c) ∧ ∀ c, i ≤ c → c < N → I' 95 c = nI c := by
  induction f with
  | zero =>
    intro I i hi h2
    obtain rfl : i = N := by omega
    refine ⟨I, ?_, fun _ _ => rfl, fun _ _ => rfl, fun c h1 h2 => by omega⟩
    simp only [hl_r216_2, hl_r216_3, hl_r216_4, hl_r216_7, hl_o_85, hl_p_85_3, hl_p_85_4, hl_p_85_5, hl_p_85_6, hl_p_85_19, hl_p_85_23, hl_p_85_24, hl_p_85_25, hl_p_85_26, hl_p_85_27, hl_p_85_28, hl_p_85_29, hl_p_85_30, hl_p_85_31, hl_p_85_33, hl_p_85_34, hl_p_85_35, hl_p_85_36, hl_p_85_37, h2, Int32.le_refl, hl_kill_i, hl_kill_r, hl_kill_n, hl_kill_l, hl_tl_s, hl_tl_n, hl_cal_some, hl_gI, hl_gJ, hl_gsI, hl_gsJ, hl_tv01, if_true, if_false, hl_up_a, hl_row_a]
  | succ f ih =>
    intro I i hi h2
    have c1 : ¬ nI N ≤ nI i := nI_ge (by omega) (by omega)
    have en : nI i + 1 = nI (i + 1) := (nI_succ i).symm
    have b : hl_inb (nI i) 24 = true := hl_inb_nI (by omega) (by omega)
    obtain ⟨I1, e1, f1, g1, k1⟩ := ih (hl_up I 95 i (nI i)) (i + 1) (by omega) (by rw [hl_up_ne _ _ _ (by decide)]; exact h2)
    refine ⟨I1, ?_, fun q hq => by rw [f1 q hq, hl_up_ne _ _ _ hq], fun c hc => ?_, fun c h3 h4 => ?_⟩
    · rw [← e1, hl_r216_2]
      simp only [hl_r216_3, hl_r216_4, hl_r216_7, hl_r216_10, hl_r216_11, hl_r216_14, hl_r216_15, hl_r216_16, hl_r216_17, hl_r216_20, hl_o_85, hl_p_85_3, hl_p_85_4, hl_p_85_5, hl_p_85_6, hl_p_85_19, hl_p_85_23, hl_p_85_24, hl_p_85_25, hl_p_85_26, hl_p_85_27, hl_p_85_28, hl_p_85_29, hl_p_85_30, hl_p_85_31, hl_p_85_33, hl_p_85_34, hl_p_85_35, hl_p_85_36, hl_p_85_37, hl_a_95, hl_z_95, h2, c1, b, nIc (show i < 2 ^ 31 by omega), en, hl_kill_i, hl_kill_r, hl_kill_n, hl_kill_l, hl_tl_s, hl_tl_n, hl_cal_some, hl_gI, hl_gJ, hl_gsI, hl_gsJ, hl_tv01, if_true, if_false, hl_up_a, hl_row_a]
    · rw [g1 c (by omega), hl_up_a, if_pos rfl, if_neg (by omega)]
    · by_cases q : c = i
      · subst q
        rw [g1 c (by omega), hl_up_at]
      · exact k1 c (by omega) h4
theorem hl_s216 (hW : 2 ≤ W ∧ W ≤ 6) (hN : N ≤ 24) (h66 : I 85 0 = nI W) (h2 : I 85 2 = nI N) : ∃ I' L, hl_call (d + 2) 216 [.ref 85] (hl_g N I J) = some (none, hl_g N I' J) ∧ hl_Lb 95 N I' L ∧ hl_Gd (I 94) (hl_ps (hl_p2 W) N) L ∧ hl_Cl (I 94) (hl_ps (hl_p2 W) N) L ∧ ∀ q, q ≠ 95 → I' q = I q := by
  obtain ⟨I1, e1, f1, -, k1⟩ := hl_l216a (J := J) (c := hl_call (d + 1)) hN N I 0 (by omega) h2
  obtain ⟨I2, L2, e2, r1, r2, r3, r4⟩ := hl_l216b (d := d) (J := J) hW hN _ I1 (fun c => c) .null (Nat.le_refl _) (by rw [f1 85 (by decide)]; exact h66) (by rw [f1 85 (by decide)]; exact h2) (f1 94 (by decide)) ⟨fun c => Nat.le_refl c, fun c hc => k1 c (by omega) hc⟩ (hl_Gd_id _ _)
  refine ⟨I2, L2, ?_, r1, r2, r3, fun q hq => by rw [r4 q hq, f1 q hq]⟩
  rw [← e2, hl_e216]
  have e1' : hl_Run 216 (hl_call (d + 1)) 2 [.ref 85, .int 0, .null] [] (hl_g N I J) = hl_Run 216 (hl_call (d + 1)) 23 [.ref 85, .int (nI N), .null] [] (hl_g N I1 J) := e1
  simp only [hl_r216_0, hl_r216_1, e1', hl_r216_23, hl_r216_24, hl_kill_i, hl_kill_r, hl_kill_n, hl_kill_l, hl_tl_s, hl_tl_n, hl_cal_some, hl_gI, hl_gJ, hl_gsI, hl_gsJ, hl_tv01, if_true, if_false, hl_up_a, hl_row_a]
  rfl
end HLTRC
