/-! what a cell pays: the class's purse -/
theorem hl_wk_congr {S nm nm' : Nat → Int32} {bh : Int32} (h : ∀ j, j < 9 → nm j = nm' j) (f : Nat) : ∀ (p : Int32) (K : List Int32), hl_wk S nm bh f p K = hl_wk S nm' bh f p K := by
  induction f with
  | zero => intro p K; rfl
  | succ f ih =>
    intro p K
    unfold hl_wk
    have e : hl_wst S nm p K = hl_wst S nm' p K := by
      unfold hl_wst
      by_cases k3 : hl_in (S p.toNatClampNeg &&& 63) 3 11 = true
      · have hb : (S p.toNatClampNeg &&& 63 - 3).toNatClampNeg < 9 ∨ True := Or.inr trivial
        have q : (S p.toNatClampNeg &&& 63) - 3 = (S p.toNatClampNeg &&& 63) - 3 := rfl
        have e9 : ((S p.toNatClampNeg &&& 63) - 3).toNatClampNeg < 9 := by
          generalize S p.toNatClampNeg &&& 63 = k at k3
          simp only [hl_in, Bool.and_eq_true, decide_eq_true_eq] at k3
          obtain ⟨u1, u2⟩ := k3
          have e3 : (3 : Int32).toInt = 3 := rfl
          have e11 : (11 : Int32).toInt = 11 := rfl
          have u1' := Int32.le_iff_toInt_le.mp u1
          have u2' := Int32.le_iff_toInt_le.mp u2
          have es : (k - 3).toInt = k.toInt - 3 := by
            rw [Int32.toInt_sub, e3, Int.bmod_eq_of_le] <;> omega
          show (k - 3).toInt.toNat < 9
          omega
        simp only [h _ e9]
      · simp only [k3, Bool.false_eq_true, if_false]
    rw [e]
    split
    · exact ih _ _
    · rfl
/-- the ruling text's number, if one rules -/
def hl_rul (I : Nat → Nat → Int32) : Nat := (I 1 13).toNatClampNeg
def hl_has (I : Nat → Nat → Int32) (cl : Nat) : Bool := hl_inb (I 1 13) 4 && !decide (I (46 + 4 * hl_rul I) cl = -1)
/-- the texts' clauses lie in their rows -/
def hl_TB (I : Nat → Nat → Int32) : Prop := ∀ T cl, T < 4 → cl < 3 → I (46 + 4 * T) cl = -1 ∨ ∃ b, b ≤ 300 ∧ I (47 + 4 * T) cl = nI b
def hl_nmf (I : Nat → Nat → Int32) (c h m : Nat) (o al : Int32) (j : Nat) : Int32 := match j with
  | 0 => o
  | 1 => hl_abs o
  | 2 => I 3 c
  | 3 => I 4 c
  | 4 => if I 6 c = 0 then 0 else 1
  | 5 => nI h
  | 6 => nI m
  | 7 => hl_drk (I 10 m) (I 5 c) o
  | _ => al
def hl_ask (I : Nat → Nat → Int32) (cl c h m : Nat) (o al : Int32) : Int32 := hl_wk (I (45 + 4 * hl_rul I)) (hl_nmf I c h m o al) (I (47 + 4 * hl_rul I) cl) 300 (I (46 + 4 * hl_rul I) cl) []
def hl_offv (I : Nat → Nat → Int32) (c h : Nat) (b : Bool) : Int32 := I 9 h - I 2 c + (if b = false then 0 else 60)
def hl_inM (I : Nat → Nat → Int32) (c h m : Nat) (o : Int32) : Int32 := if hl_has I 0 = false then hl_abs o * I 3 c else hl_bnd (hl_ask I 0 c h m o 0) 0 9999
def hl_sm (I : Nat → Nat → Int32) (m : Nat) : Bool := hl_smr (I 1 10) (I 1 11) (nI m)
def hl_pay (I : Nat → Nat → Int32) (c h : Nat) : Int32 := hl_sum 12 (fun m => hl_inM I c h m (hl_offv I c h (hl_sm I m)))
section HLP
variable {d N : Nat} {w : hl_W} {I : Nat → Nat → Int32} {J : Nat → Nat → Int64}
theorem hl_s97 {cl : Nat} (hcl : cl < 3) : hl_call (d + 2) 97 [.ref 60, .int (nI cl)] (hl_g N I J) = some (some (.int (hl_tv (hl_has I cl))), hl_g N I J) := by
  rw [hl_e97]
  have e3 : hl_in (I 1 13) 0 3 = hl_inb (I 1 13) 4 := hl_in_inb (N := 4) (by decide)
  cases h1 : hl_inb (I 1 13) 4 with
  | false =>
    have e : hl_has I cl = false := by unfold hl_has; rw [h1]; rfl
    simp only [hl_r97_0, hl_r97_1, hl_r97_4, hl_r97_7, hl_r97_8, hl_r97_9, hl_r97_12, hl_r97_15, hl_r97_16, hl_r97_19, hl_r97_20, hl_r97_23, hl_r97_26, hl_r97_27, hl_r97_28, hl_r97_31, hl_r97_34, hl_r97_35, hl_r97_38, hl_r97_39, hl_o_60, hl_p_60_0, hl_p_60_1, hl_p_60_2, hl_p_60_3, hl_o_1, hl_p_1_0, hl_p_1_1, hl_p_1_2, hl_p_1_3, hl_p_1_4, hl_p_1_5, hl_p_1_6, hl_p_1_7, hl_p_1_9, hl_p_1_14, hl_p_1_15, hl_s147, e3, h1, e, hl_tv_f, true_or, hl_kill_i, hl_kill_r, hl_kill_n, hl_kill_l, hl_tl_s, hl_tl_n, hl_cal_some, hl_gI, hl_gJ, hl_gsI, hl_gsJ, hl_tv01, if_true, if_false, hl_up_a, hl_row_a]
  | true =>
    obtain ⟨T, hT, hR⟩ := hl_inb_of h1 (by decide)
    obtain ⟨o1, p0, p1, p2, a5, z5, a6, z6, a7, z7, q43⟩ := hl_txo (N := N) (I := I) (J := J) hT
    have eT : hl_rul I = T := by unfold hl_rul; rw [hR]; exact nIc (by omega)
    have hb : hl_inb (nI cl) 3 = true := hl_inb_nI hcl (by decide)
    have h75 := hl_s75 (d := d) (N := N) (I := I) (J := J) hT hb
    rw [nIc (show cl < 2 ^ 31 by omega)] at h75
    have e : hl_has I cl = !decide (I (46 + 4 * T) cl = -1) := by unfold hl_has; rw [h1, eT]; rfl
    rw [hR] at e3 h1
    rw [e]
    cases hq : !decide (I (46 + 4 * T) cl = -1) with
    | false =>
      rw [hq] at h75
      simp only [hl_r97_0, hl_r97_1, hl_r97_4, hl_r97_7, hl_r97_8, hl_r97_9, hl_r97_12, hl_r97_15, hl_r97_16, hl_r97_19, hl_r97_20, hl_r97_23, hl_r97_26, hl_r97_27, hl_r97_28, hl_r97_31, hl_r97_34, hl_r97_35, hl_r97_38, hl_r97_39, hl_o_60, hl_p_60_0, hl_p_60_1, hl_p_60_2, hl_p_60_3, hl_o_1, hl_p_1_0, hl_p_1_1, hl_p_1_2, hl_p_1_3, hl_p_1_4, hl_p_1_5, hl_p_1_6, hl_p_1_7, hl_p_1_9, hl_p_1_14, hl_p_1_15, hl_a_43, hl_z_43, hl_p_43_0, hl_p_43_1, hl_p_43_2, hl_p_43_3, hl_s147, hR, e3, h1, h75, o1, q43, nIc (show T < 2 ^ 31 by omega), hl_tv0, hl_tv_f, Bool.true_eq_false, true_or, hl_kill_i, hl_kill_r, hl_kill_n, hl_kill_l, hl_tl_s, hl_tl_n, hl_cal_some, hl_gI, hl_gJ, hl_gsI, hl_gsJ, hl_tv01, if_true, if_false, hl_up_a, hl_row_a]
    | true =>
      rw [hq] at h75
      simp only [hl_r97_0, hl_r97_1, hl_r97_4, hl_r97_7, hl_r97_8, hl_r97_9, hl_r97_12, hl_r97_15, hl_r97_16, hl_r97_19, hl_r97_20, hl_r97_23, hl_r97_26, hl_r97_27, hl_r97_28, hl_r97_31, hl_r97_34, hl_r97_35, hl_r97_38, hl_r97_39, hl_o_60, hl_p_60_0, hl_p_60_1, hl_p_60_2, hl_p_60_3, hl_o_1, hl_p_1_0, hl_p_1_1, hl_p_1_2, hl_p_1_3, hl_p_1_4, hl_p_1_5, hl_p_1_6, hl_p_1_7, hl_p_1_9, hl_p_1_14, hl_p_1_15, hl_a_43, hl_z_43, hl_p_43_0, hl_p_43_1, hl_p_43_2, hl_p_43_3, hl_s147, hR, e3, h1, h75, o1, q43, nIc (show T < 2 ^ 31 by omega), hl_tv0, hl_tv_t, hl_10, Bool.true_eq_false, or_true, hl_kill_i, hl_kill_r, hl_kill_n, hl_kill_l, hl_tl_s, hl_tl_n, hl_cal_some, hl_gI, hl_gJ, hl_gsI, hl_gsJ, hl_tv01, if_true, if_false, hl_up_a, hl_row_a]
theorem hl_q9 {k : Nat} (h : k < 9) : hl_inb (nI k) 9 = true := hl_inb_nI h (by decide)
theorem hl_s98 {T cl c h m b : Nat} {sm al : Int32} (hR : I 1 13 = nI T) (hT : T < 4) (hcl : cl < 3) (hh : ¬ I (46 + 4 * T) cl = -1) (hc : c < N) (hN : N ≤ 24) (h4 : h < 4) (hm : m < 12) (hb : I (47 + 4 * T) cl = nI b) (hb3 : b ≤ 300) (htown : I 6 c = 0 ∨ I 6 c = 1) : ∃ I', hl_call (d + 3) 98 [.ref 60, .int (nI cl), .int (nI c), .int (nI h), .int (nI m), .int sm, .int al] (hl_g N I J) = some (some (.int (hl_ask I cl c h m (hl_offv I c h (!decide (sm = 0))) al)), hl_g N I' J) ∧ hl_f6 I I' := by
  have eT : hl_rul I = T := by unfold hl_rul; rw [hR]; exact nIc (by omega)
  have eh : hl_has I cl = true := by
    unfold hl_has
    rw [eT, hR, hl_inb_nI hT (by decide), decide_eq_false hh]
    rfl
  obtain ⟨o1, p0, p1, p2, a5, z5, a6, z6, a7, z7, q43⟩ := hl_txo (N := N) (I := I) (J := J) hT
  have bc : hl_inb (nI c) N = true := hl_inb_nI hc (by omega)
  have bh : hl_inb (nI h) 4 = true := hl_inb_nI h4 (by decide)
  have bm : hl_inb (nI m) 12 = true := hl_inb_nI hm (by decide)
  have bcl : hl_inb (nI cl) 3 = true := hl_inb_nI hcl (by decide)
  have bT : hl_inb (nI T) 4 = true := hl_inb_nI hT (by decide)
  generalize ho : hl_offv I c h (!decide (sm = 0)) = o
  have e10 := hl_s10 (d := d + 1) (N := N) (I := I) (J := J) (b := sm) bc bh
  rw [nIc (show c < 2 ^ 31 by omega), nIc (show h < 2 ^ 31 by omega)] at e10
  have ho' : I 9 h - I 2 c + (if sm = 0 then 0 else 60) = o := by
    rw [← ho]
    unfold hl_offv
    by_cases hs : sm = 0 <;> simp [hs]
  rw [ho'] at e10
  generalize hI1 : hl_up (hl_up (hl_up (hl_up (hl_up (hl_up (hl_up (hl_up (hl_up I 61 0 o) 61 1 (hl_abs o)) 61 2 (I 3 c)) 61 3 (I 4 c)) 61 4 (if I 6 c = 0 then 0 else 1)) 61 5 (nI h)) 61 6 (nI m)) 61 7 (hl_drk (I 10 m) (I 5 c) o)) 61 8 al = I1
  have f1 : hl_f6 I I1 := by
    rw [← hI1]
    intro q h1 h2 h3
    rw [hl_up_ne _ _ _ h2, hl_up_ne _ _ _ h2, hl_up_ne _ _ _ h2, hl_up_ne _ _ _ h2, hl_up_ne _ _ _ h2, hl_up_ne _ _ _ h2, hl_up_ne _ _ _ h2, hl_up_ne _ _ _ h2, hl_up_ne _ _ _ h2]
  obtain ⟨I', e99, f99⟩ := hl_s99 (d := d) (N := N) (I := I1) (J := J) (T := T) (b := b) (p := I (46 + 4 * T) cl) hT hb3
  refine ⟨I', ?_, hl_f6_tr f1 f99⟩
  have e5 : hl_wk (I1 (45 + 4 * T)) (I1 61) (nI b) 300 (I (46 + 4 * T) cl) [] = hl_ask I cl c h m o al := by
    unfold hl_ask
    rw [eT, hb, f1 (45 + 4 * T) (by omega) (by omega) (by omega)]
    apply hl_wk_congr
    intro j hj
    rw [← hI1]
    match j, hj with
    | 0, _ => rfl
    | 1, _ => rfl
    | 2, _ => rfl
    | 3, _ => rfl
    | 4, _ => rfl
    | 5, _ => rfl
    | 6, _ => rfl
    | 7, _ => rfl
    | 8, _ => rfl
    | j + 9, hj => omega
  rw [e5] at e99
  have e11 : ∀ I2 : Nat → Nat → Int32, I2 10 m = I 10 m → I2 5 c = I 5 c → hl_call (d + 2) 11 [.ref 1, .int (nI c), .int (nI m), .int o] (hl_g N I2 J) = some (some (.int (hl_drk (I 10 m) (I 5 c) o)), hl_g N I2 J) := by
    intro I2 u1 u2
    have := hl_s11 (d := d + 1) (N := N) (I := I2) (J := J) (o := o) bc bm
    rw [nIc (show c < 2 ^ 31 by omega), nIc (show m < 2 ^ 31 by omega), u1, u2] at this
    exact this
  have k6 : hl_inb (6 : Int32) 9 = true := id rfl
  have k7 : hl_inb (7 : Int32) 9 = true := id rfl
  have k8 : hl_inb (8 : Int32) 9 = true := id rfl
  have m0 : hl_inb (0 : Int32) 9 = true := id rfl
  have m1 : hl_inb (1 : Int32) 9 = true := id rfl
  have m2 : hl_inb (2 : Int32) 9 = true := id rfl
  have m3 : hl_inb (3 : Int32) 9 = true := id rfl
  have m4 : hl_inb (4 : Int32) 9 = true := id rfl
  have m5 : hl_inb (5 : Int32) 9 = true := id rfl
  have v6 : (6 : Int32).toNatClampNeg = 6 := id rfl
  have v7 : (7 : Int32).toNatClampNeg = 7 := id rfl
  have v8 : (8 : Int32).toNatClampNeg = 8 := id rfl
  have ab : (if 0 ≤ o then o else 0 - o) = hl_abs o := rfl
  have d1 : ∀ q : Nat, q ≠ 61 → I1 q = I q := fun q hq => by
    rw [← hI1, hl_up_ne _ _ _ hq, hl_up_ne _ _ _ hq, hl_up_ne _ _ _ hq, hl_up_ne _ _ _ hq, hl_up_ne _ _ _ hq, hl_up_ne _ _ _ hq, hl_up_ne _ _ _ hq, hl_up_ne _ _ _ hq, hl_up_ne _ _ _ hq]
  have g46 := d1 (46 + 4 * T) (by omega)
  have g47 := d1 (47 + 4 * T) (by omega)
  have g1 := d1 1 (by omega)
  rw [hl_e98]
  have stage : hl_Run 98 (hl_call (d + 2)) 0 [.ref 60, .int (nI cl), .int (nI c), .int (nI h), .int (nI m), .int sm, .int al, .null, .null] [] (hl_g N I J) = hl_Run 98 (hl_call (d + 2)) 139 [.ref 60, .int (nI cl), .int (nI c), .int (nI h), .int (nI m), .int sm, .int al, .int o, .null] [] (hl_g N I1 J) := by
    rcases htown with ht | ht
    · rw [ht] at hI1
      rw [if_pos rfl] at hI1
      simp only [hl_r98_0, hl_r98_1, hl_r98_2, hl_r98_5, hl_r98_8, hl_r98_9, hl_r98_10, hl_r98_11, hl_r98_14, hl_r98_15, hl_r98_16, hl_r98_18, hl_r98_21, hl_r98_23, hl_r98_24, hl_r98_27, hl_r98_28, hl_r98_30, hl_r98_31, hl_r98_32, hl_r98_35, hl_r98_36, hl_r98_38, hl_r98_41, hl_r98_42, hl_r98_43, hl_r98_46, hl_r98_47, hl_r98_48, hl_r98_51, hl_r98_54, hl_r98_55, hl_r98_56, hl_r98_57, hl_r98_58, hl_r98_61, hl_r98_62, hl_r98_63, hl_r98_66, hl_r98_69, hl_r98_70, hl_r98_71, hl_r98_72, hl_r98_73, hl_r98_76, hl_r98_77, hl_r98_78, hl_r98_81, hl_r98_84, hl_r98_85, hl_r98_86, hl_r98_89, hl_r98_90, hl_r98_93, hl_r98_94, hl_r98_95, hl_r98_96, hl_r98_99, hl_r98_100, hl_r98_101, hl_r98_102, hl_r98_103, hl_r98_106, hl_r98_108, hl_r98_110, hl_r98_111, hl_r98_112, hl_r98_115, hl_r98_117, hl_r98_118, hl_r98_121, hl_r98_122, hl_r98_124, hl_r98_126, hl_r98_129, hl_r98_130, hl_r98_131, hl_r98_134, hl_r98_136, hl_r98_138, hl_r98_140, hl_r98_143, hl_r98_144, hl_r98_147, hl_r98_150, hl_r98_151, hl_r98_153, hl_r98_154, hl_r98_156, hl_r98_158, hl_r98_161, hl_r98_162, hl_r98_163, hl_r98_165, hl_r98_168, hl_r98_169, hl_r98_170, hl_r98_173, hl_o_60, hl_p_60_0, hl_p_60_1, hl_p_60_2, hl_p_60_3, hl_o_1, hl_p_1_0, hl_p_1_1, hl_p_1_2, hl_p_1_3, hl_p_1_4, hl_p_1_5, hl_p_1_6, hl_p_1_7, hl_p_1_9, hl_p_1_14, hl_p_1_15, hl_a_61, hl_z_61, hl_a_3, hl_z_3, hl_a_4, hl_z_4, hl_a_6, hl_z_6, hl_s97 hcl, eh, e10, e11, ht, ab, bc, m0, m1, m2, m3, m4, m5, k6, k7, k8, hl_v0, hl_v1, hl_v2, hl_v3, hl_v4, hl_v5, v6, v7, v8, nIc (show c < 2 ^ 31 by omega), hl_tv0, not_false_eq_true, Bool.true_eq_false, Nat.reduceEqDiff, hl_up_a, hl_kill_i, hl_kill_r, hl_kill_n, hl_tl_s, hl_cal_some, hl_gI, hl_gJ, hl_gsI, if_true, if_false]
      rw [hI1]
    · rw [ht, if_neg (by decide : ¬ (1 : Int32) = 0)] at hI1
      simp only [hl_r98_0, hl_r98_1, hl_r98_2, hl_r98_5, hl_r98_8, hl_r98_9, hl_r98_10, hl_r98_11, hl_r98_14, hl_r98_15, hl_r98_16, hl_r98_18, hl_r98_21, hl_r98_23, hl_r98_24, hl_r98_27, hl_r98_28, hl_r98_30, hl_r98_31, hl_r98_32, hl_r98_35, hl_r98_36, hl_r98_38, hl_r98_41, hl_r98_42, hl_r98_43, hl_r98_46, hl_r98_47, hl_r98_48, hl_r98_51, hl_r98_54, hl_r98_55, hl_r98_56, hl_r98_57, hl_r98_58, hl_r98_61, hl_r98_62, hl_r98_63, hl_r98_66, hl_r98_69, hl_r98_70, hl_r98_71, hl_r98_72, hl_r98_73, hl_r98_76, hl_r98_77, hl_r98_78, hl_r98_81, hl_r98_84, hl_r98_85, hl_r98_86, hl_r98_89, hl_r98_90, hl_r98_93, hl_r98_94, hl_r98_95, hl_r98_96, hl_r98_99, hl_r98_100, hl_r98_101, hl_r98_102, hl_r98_103, hl_r98_106, hl_r98_108, hl_r98_110, hl_r98_111, hl_r98_112, hl_r98_115, hl_r98_117, hl_r98_118, hl_r98_121, hl_r98_122, hl_r98_124, hl_r98_126, hl_r98_129, hl_r98_130, hl_r98_131, hl_r98_134, hl_r98_136, hl_r98_138, hl_r98_140, hl_r98_143, hl_r98_144, hl_r98_147, hl_r98_150, hl_r98_151, hl_r98_153, hl_r98_154, hl_r98_156, hl_r98_158, hl_r98_161, hl_r98_162, hl_r98_163, hl_r98_165, hl_r98_168, hl_r98_169, hl_r98_170, hl_r98_173, hl_o_60, hl_p_60_0, hl_p_60_1, hl_p_60_2, hl_p_60_3, hl_o_1, hl_p_1_0, hl_p_1_1, hl_p_1_2, hl_p_1_3, hl_p_1_4, hl_p_1_5, hl_p_1_6, hl_p_1_7, hl_p_1_9, hl_p_1_14, hl_p_1_15, hl_a_61, hl_z_61, hl_a_3, hl_z_3, hl_a_4, hl_z_4, hl_a_6, hl_z_6, hl_s97 hcl, eh, e10, e11, ht, hl_10, ab, bc, m0, m1, m2, m3, m4, m5, k6, k7, k8, hl_v0, hl_v1, hl_v2, hl_v3, hl_v4, hl_v5, v6, v7, v8, nIc (show c < 2 ^ 31 by omega), hl_tv0, not_false_eq_true, Bool.true_eq_false, Nat.reduceEqDiff, hl_up_a, hl_kill_i, hl_kill_r, hl_kill_n, hl_tl_s, hl_cal_some, hl_gI, hl_gJ, hl_gsI, if_true, if_false]
      rw [hI1]
  rw [stage]
  obtain ⟨o1', p0', p1', p2', a5', z5', a6', z6', a7', z7', q43'⟩ := hl_txo (N := N) (I := I1) (J := J) hT
  simp only [hl_r98_139, hl_r98_140, hl_r98_143, hl_r98_144, hl_r98_147, hl_r98_150, hl_r98_151, hl_r98_153, hl_r98_154, hl_r98_156, hl_r98_158, hl_r98_161, hl_r98_162, hl_r98_163, hl_r98_165, hl_r98_168, hl_r98_169, hl_r98_170, hl_r98_173, hl_o_60, hl_p_60_0, hl_p_60_1, hl_p_60_2, hl_p_60_3, hl_o_1, hl_p_1_0, hl_p_1_1, hl_p_1_2, hl_p_1_3, hl_p_1_4, hl_p_1_5, hl_p_1_6, hl_p_1_7, hl_p_1_9, hl_p_1_14, hl_p_1_15, hl_a_43, hl_z_43, hl_p_43_0, hl_p_43_1, hl_p_43_2, hl_p_43_3, g1, hR, bT, q43', o1', p1', p2', a6', z6', a7', z7', bcl, g46, g47, hb, e99, nIc (show T < 2 ^ 31 by omega), nIc (show cl < 2 ^ 31 by omega), hl_kill_i, hl_kill_r, hl_kill_n, hl_kill_l, hl_tl_s, hl_tl_n, hl_cal_some, hl_gI, hl_gJ, hl_gsI, hl_gsJ, hl_tv01, if_true, if_false, hl_up_a, hl_row_a]
/-- what of the land the pays rest on is as it was -/
def hl_same (I I' : Nat → Nat → Int32) : Prop := ∀ b, b ≠ 60 → b ≠ 61 → b ≠ 62 → b ≠ 64 → b ≠ 65 → I' b = I b
theorem hl_f6.same {I I' : Nat → Nat → Int32} (h : hl_f6 I I') : hl_same I I' := fun b h1 h2 h3 _ _ => h b h1 h2 h3
theorem hl_same.rul {I I' : Nat → Nat → Int32} (h : hl_same I I') : hl_rul I' = hl_rul I := by unfold hl_rul; rw [h 1 (by decide) (by decide) (by decide) (by decide) (by decide)]
theorem hl_rul_lt {I : Nat → Nat → Int32} (h : hl_has I 0 = true ∨ hl_has I 1 = true ∨ hl_has I 2 = true) : hl_rul I < 4 := by
  have h1 : hl_inb (I 1 13) 4 = true := by
    rcases h with h | h | h <;> (unfold hl_has at h; rw [Bool.and_eq_true] at h; exact h.1)
  obtain ⟨T, hT, e⟩ := hl_inb_of h1 (by decide)
  unfold hl_rul
  rw [e, nIc (by omega)]
  exact hT
theorem hl_same.has {I I' : Nat → Nat → Int32} (h : hl_same I I') (cl : Nat) : hl_has I' cl = hl_has I cl := by
  unfold hl_has
  rw [h.rul, h 1 (by decide) (by decide) (by decide) (by decide) (by decide)]
  cases h1 : hl_inb (I 1 13) 4 with
  | false => rfl
  | true =>
    obtain ⟨T, hT, e⟩ := hl_inb_of h1 (by decide)
    have eT : hl_rul I = T := by unfold hl_rul; rw [e]; exact nIc (by omega)
    rw [eT, h (46 + 4 * T) (by omega) (by omega) (by omega) (by omega) (by omega)]
theorem hl_wk_eq {S S' nm nm' : Nat → Int32} {bh bh' p p' : Int32} (f : Nat) (hS : S' = S) (hb : bh' = bh) (hp : p' = p) (hn : ∀ j, j < 9 → nm' j = nm j) (K : List Int32) : hl_wk S' nm' bh' f p' K = hl_wk S nm bh f p K := by
  subst hS hb hp
  exact hl_wk_congr hn f p' K
theorem hl_same.nmf {I I' : Nat → Nat → Int32} (h : hl_same I I') (c hh m : Nat) (o al : Int32) (j : Nat) : hl_nmf I' c hh m o al j = hl_nmf I c hh m o al j := by
  unfold hl_nmf
  rw [h 3 (by decide) (by decide) (by decide) (by decide) (by decide), h 4 (by decide) (by decide) (by decide) (by decide) (by decide), h 6 (by decide) (by decide) (by decide) (by decide) (by decide), h 10 (by decide) (by decide) (by decide) (by decide) (by decide), h 5 (by decide) (by decide) (by decide) (by decide) (by decide)]
theorem hl_same.ask {I I' : Nat → Nat → Int32} (h : hl_same I I') {cl c hh m : Nat} {o al : Int32} (hr : hl_rul I < 4) : hl_ask I' cl c hh m o al = hl_ask I cl c hh m o al := by
  have eS : I' (45 + 4 * hl_rul I') = I (45 + 4 * hl_rul I) := by rw [h.rul, h (45 + 4 * hl_rul I) (by omega) (by omega) (by omega) (by omega) (by omega)]
  have ep : I' (46 + 4 * hl_rul I') cl = I (46 + 4 * hl_rul I) cl := by rw [h.rul, h (46 + 4 * hl_rul I) (by omega) (by omega) (by omega) (by omega) (by omega)]
  have eb : I' (47 + 4 * hl_rul I') cl = I (47 + 4 * hl_rul I) cl := by rw [h.rul, h (47 + 4 * hl_rul I) (by omega) (by omega) (by omega) (by omega) (by omega)]
  exact hl_wk_eq 300 eS eb ep (fun j _ => h.nmf c hh m o al j) []
theorem hl_same.inM {I I' : Nat → Nat → Int32} (h : hl_same I I') (c hh m : Nat) (o : Int32) : hl_inM I' c hh m o = hl_inM I c hh m o := by
  unfold hl_inM
  rw [h.has, h 3 (by decide) (by decide) (by decide) (by decide) (by decide)]
  cases h0 : hl_has I 0 with
  | false => rw [if_pos rfl, if_pos rfl]
  | true => rw [h.ask (hl_rul_lt (Or.inl h0))]
theorem hl_same.pay {I I' : Nat → Nat → Int32} (h : hl_same I I') (c hh : Nat) : hl_pay I' c hh = hl_pay I c hh := by
  unfold hl_pay
  apply hl_sum_congr
  intro m hm
  rw [h.inM]
  unfold hl_offv hl_sm
  rw [h 9 (by decide) (by decide) (by decide) (by decide) (by decide), h 2 (by decide) (by decide) (by decide) (by decide) (by decide), h 1 (by decide) (by decide) (by decide) (by decide) (by decide)]
theorem hl_same_rf (I : Nat → Nat → Int32) : hl_same I I := fun _ _ _ _ _ _ => rfl
theorem hl_same_tr {I1 I2 I3 : Nat → Nat → Int32} (h : hl_same I1 I2) (g : hl_same I2 I3) : hl_same I1 I3 := fun b h1 h2 h3 h4 h5 => (g b h1 h2 h3 h4 h5).trans (h b h1 h2 h3 h4 h5)
theorem hl_s47 {c h m : Nat} {sm : Int32} (hTB : hl_TB I) (hc : c < N) (hN : N ≤ 24) (h4 : h < 4) (hm : m < 12) (htown : I 6 c = 0 ∨ I 6 c = 1) : ∃ I', hl_call (d + 4) 47 [.ref 63, .int (nI c), .int (nI h), .int (nI m), .int sm] (hl_g N I J) = some (some (.int (hl_inM I c h m (hl_offv I c h (!decide (sm = 0))))), hl_g N I' J) ∧ hl_f6 I I' := by
  have bc : hl_inb (nI c) N = true := hl_inb_nI hc (by omega)
  have bh : hl_inb (nI h) 4 = true := hl_inb_nI h4 (by decide)
  have z0 : hl_call (d + 3) 97 [.ref 60, .int 0] (hl_g N I J) = some (some (.int (hl_tv (hl_has I 0))), hl_g N I J) := hl_s97 (cl := 0) (by decide)
  unfold hl_inM
  cases h0 : hl_has I 0 with
  | false =>
    refine ⟨I, ?_, hl_f6_rf I⟩
    rw [h0] at z0
    have e10 := hl_s10 (d := d + 2) (N := N) (I := I) (J := J) (b := sm) bc bh
    rw [nIc (show c < 2 ^ 31 by omega), nIc (show h < 2 ^ 31 by omega)] at e10
    have ho' : I 9 h - I 2 c + (if sm = 0 then 0 else 60) = hl_offv I c h (!decide (sm = 0)) := by
      unfold hl_offv
      by_cases hs : sm = 0 <;> simp [hs]
    rw [ho'] at e10
    have ab : ∀ o : Int32, (if 0 ≤ o then o else 0 - o) = hl_abs o := fun _ => rfl
    rw [hl_e47]
    simp only [hl_r47_0, hl_r47_1, hl_r47_4, hl_r47_5, hl_r47_8, hl_r47_11, hl_r47_12, hl_r47_15, hl_r47_16, hl_r47_17, hl_r47_19, hl_r47_22, hl_r47_25, hl_r47_26, hl_r47_29, hl_r47_32, hl_r47_33, hl_r47_34, hl_r47_35, hl_r47_36, hl_r47_37, hl_r47_40, hl_r47_41, hl_r47_42, hl_r47_43, hl_r47_44, hl_r47_46, hl_r47_47, hl_r47_50, hl_r47_51, hl_r47_54, hl_r47_57, hl_o_63, hl_p_63_0, hl_p_63_1, hl_p_63_2, hl_p_63_3, hl_o_60, hl_p_60_0, hl_p_60_1, hl_p_60_2, hl_p_60_3, hl_o_1, hl_p_1_0, hl_p_1_1, hl_p_1_2, hl_p_1_3, hl_p_1_4, hl_p_1_5, hl_p_1_6, hl_p_1_7, hl_p_1_9, hl_p_1_14, hl_p_1_15, hl_a_3, hl_z_3, z0, e10, ab, bc, nIc (show c < 2 ^ 31 by omega), hl_tv_f, not_true, hl_kill_i, hl_kill_r, hl_kill_n, hl_kill_l, hl_tl_s, hl_tl_n, hl_cal_some, hl_gI, hl_gJ, hl_gsI, hl_gsJ, hl_tv01, if_true, if_false, hl_up_a, hl_row_a]
  | true =>
    have hr := hl_rul_lt (I := I) (Or.inl h0)
    have h0' := h0
    unfold hl_has at h0'
    rw [Bool.and_eq_true] at h0'
    obtain ⟨T, hT, eR⟩ := hl_inb_of h0'.1 (by decide)
    have eT : hl_rul I = T := by unfold hl_rul; rw [eR]; exact nIc (by omega)
    have hne : ¬ I (46 + 4 * T) 0 = -1 := by
      have := h0'.2
      rw [eT] at this
      simpa using this
    obtain ⟨b, hb3, hb⟩ := (hTB T 0 hT (by decide)).resolve_left hne
    obtain ⟨I', e98, f⟩ := hl_s98 (d := d) (N := N) (J := J) (sm := sm) (al := 0) eR hT (show 0 < 3 by decide) hne hc hN h4 hm hb hb3 htown
    refine ⟨I', ?_, f⟩
    have e98' : hl_call (d + 3) 98 [.ref 60, .int 0, .int (nI c), .int (nI h), .int (nI m), .int sm, .int 0] (hl_g N I J) = some (some (.int (hl_ask I 0 c h m (hl_offv I c h (!decide (sm = 0))) 0)), hl_g N I' J) := e98
    rw [h0] at z0
    rw [hl_e47]
    simp only [hl_r47_0, hl_r47_1, hl_r47_4, hl_r47_5, hl_r47_8, hl_r47_11, hl_r47_12, hl_r47_15, hl_r47_16, hl_r47_17, hl_r47_19, hl_r47_22, hl_r47_25, hl_r47_26, hl_r47_29, hl_r47_32, hl_r47_33, hl_r47_34, hl_r47_35, hl_r47_36, hl_r47_37, hl_r47_40, hl_r47_41, hl_r47_42, hl_r47_43, hl_r47_44, hl_r47_46, hl_r47_47, hl_r47_50, hl_r47_51, hl_r47_54, hl_r47_57, hl_o_63, hl_p_63_0, hl_p_63_1, hl_p_63_2, hl_p_63_3, hl_o_60, hl_p_60_0, hl_p_60_1, hl_p_60_2, hl_p_60_3, hl_o_1, hl_p_1_0, hl_p_1_1, hl_p_1_2, hl_p_1_3, hl_p_1_4, hl_p_1_5, hl_p_1_6, hl_p_1_7, hl_p_1_9, hl_p_1_14, hl_p_1_15, z0, e98', hl_s148, hl_tv_t, hl_10, not_false_eq_true, Bool.true_eq_false, hl_kill_i, hl_kill_r, hl_kill_n, hl_kill_l, hl_tl_s, hl_tl_n, hl_cal_some, hl_gI, hl_gJ, hl_gsI, hl_gsJ, hl_tv01, if_true, if_false, hl_up_a, hl_row_a]
theorem hl_l46 {c h : Nat} (hc : c < N) (hN : N ≤ 24) (h4 : h < 4) (f : Nat) : ∀ (I0 I : Nat → Nat → Int32) (m : Nat), m + f = 12 → hl_f6 I0 I → hl_TB I0 → (I0 6 c = 0 ∨ I0 6 c = 1) → ∃ I', hl_Run 46 (hl_call (d + 4)) 5 [.ref 63, .int (nI c), .int (nI h), .int (hl_sum m (fun m => hl_inM I0 c h m (hl_offv I0 c h (hl_sm I0 m)))), .int (nI m)] [] (hl_g N I J) = some (some (.int (hl_pay I0 c h)), hl_g N I' J) ∧ hl_f6 I0 I' := by
  induction f with
  | zero =>
    intro I0 I m hm hf hTB ht
    obtain rfl : m = 12 := by omega
    refine ⟨I, ?_, hf⟩
    have c1 : (12 : Int32) ≤ nI 12 := Int32.le_refl _
    simp only [hl_r46_0, hl_r46_1, hl_r46_2, hl_r46_3, hl_r46_5, hl_r46_7, hl_r46_9, hl_r46_12, hl_r46_13, hl_r46_14, hl_r46_15, hl_r46_16, hl_r46_18, hl_r46_19, hl_r46_22, hl_r46_24, hl_r46_27, hl_r46_30, hl_r46_31, hl_r46_32, hl_r46_35, hl_r46_38, hl_r46_39, c1, hl_pay, hl_kill_i, hl_kill_r, hl_kill_n, hl_kill_l, hl_tl_s, hl_tl_n, hl_cal_some, hl_gI, hl_gJ, hl_gsI, hl_gsJ, hl_tv01, if_true, if_false, hl_up_a, hl_row_a]
  | succ f ih =>
    intro I0 I m hm hf hTB ht
    have hs := hf.same
    have c1 : ¬ (12 : Int32) ≤ nI m := show ¬ nI 12 ≤ nI m from nI_ge (by omega) (by decide)
    have hTB' : hl_TB I := by
      intro T cl hT hcl
      rw [hf (46 + 4 * T) (by omega) (by omega) (by omega), hf (47 + 4 * T) (by omega) (by omega) (by omega)]
      exact hTB T cl hT hcl
    have ht' : I 6 c = 0 ∨ I 6 c = 1 := by rw [hf 6 (by decide) (by decide) (by decide)]; exact ht
    obtain ⟨I1, e47, f1⟩ := hl_s47 (d := d) (N := N) (I := I) (J := J) (m := m) (sm := hl_tv (hl_sm I0 m)) hTB' hc hN h4 (by omega) ht'
    have es : hl_smr (I 1 10) (I 1 11) (nI m) = hl_sm I0 m := by unfold hl_sm; rw [hf 1 (by decide) (by decide) (by decide)]
    have eo : hl_offv I c h (!decide (hl_tv (hl_sm I0 m) = 0)) = hl_offv I0 c h (hl_sm I0 m) := by
      unfold hl_offv
      rw [hf 9 (by decide) (by decide) (by decide), hf 2 (by decide) (by decide) (by decide)]
      cases hl_sm I0 m <;> rfl
    rw [eo, hs.inM] at e47
    obtain ⟨I2, e2, f2⟩ := ih I0 I1 (m + 1) (by omega) (hl_f6_tr hf f1) hTB ht
    refine ⟨I2, ?_, f2⟩
    rw [← e2, hl_r46_5]
    have en : nI m + 1 = nI (m + 1) := (nI_succ m).symm
    have h9 : hl_call (d + 4) 9 [.ref 1, .int (nI m)] (hl_g N I J) = some (some (.int (hl_tv (hl_sm I0 m))), hl_g N I J) := by
      have := hl_s9 (d := d + 2) (N := N) (I := I) (J := J) (m := nI m)
      rw [es] at this
      exact this
    simp only [hl_r46_0, hl_r46_1, hl_r46_2, hl_r46_3, hl_r46_7, hl_r46_9, hl_r46_12, hl_r46_13, hl_r46_14, hl_r46_15, hl_r46_16, hl_r46_18, hl_r46_19, hl_r46_22, hl_r46_24, hl_r46_27, hl_r46_30, hl_r46_31, hl_r46_32, hl_r46_35, hl_r46_38, hl_r46_39, hl_o_63, hl_p_63_0, hl_p_63_1, hl_p_63_2, hl_p_63_3, hl_o_1, hl_p_1_0, hl_p_1_1, hl_p_1_2, hl_p_1_3, hl_p_1_4, hl_p_1_5, hl_p_1_6, hl_p_1_7, hl_p_1_9, hl_p_1_14, hl_p_1_15, c1, h9, e47, en, hl_sum, hl_kill_i, hl_kill_r, hl_kill_n, hl_kill_l, hl_tl_s, hl_tl_n, hl_cal_some, hl_gI, hl_gJ, hl_gsI, hl_gsJ, hl_tv01, if_true, if_false, hl_up_a, hl_row_a]
theorem hl_s46 {c h : Nat} (hTB : hl_TB I) (hc : c < N) (hN : N ≤ 24) (h4 : h < 4) (htown : I 6 c = 0 ∨ I 6 c = 1) : ∃ I', hl_call (d + 5) 46 [.ref 63, .int (nI c), .int (nI h)] (hl_g N I J) = some (some (.int (hl_pay I c h)), hl_g N I' J) ∧ hl_f6 I I' := by
  obtain ⟨I', e, f⟩ := hl_l46 (d := d) (N := N) (J := J) hc hN h4 12 I I 0 rfl (hl_f6_rf I) hTB htown
  refine ⟨I', ?_, f⟩
  rw [hl_e46, hl_r46_0, hl_r46_1, hl_r46_2, hl_r46_3]
  exact e
end HLP
