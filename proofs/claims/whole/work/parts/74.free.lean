/-! free: what cells like, round by round -/
def hl_alo (I : Nat → Nat → Int32) (g : Nat → Int32) (c k : Nat) : Int32 := if hl_acr I k c = -1 then 0 else if g (hl_acr I k c).toNatClampNeg = g c then 0 else I 14 k
def hl_pk (I : Nat → Nat → Int32) (g : Nat → Int32) (c h k : Nat) : Int32 := if hl_acr I k c = -1 then 0 else I 14 k * hl_abs (I 9 h - I 9 (g (hl_acr I k c).toNatClampNeg).toNatClampNeg)
def hl_hP (P : Nat → Nat) : Nat → Int32 := fun c => nI (P c)
def hl_lk (A : Nat → Int32) : Nat → Nat → Nat → Int32 → Nat
  | 0, _, ch, _ => ch
  | f + 1, i, ch, l => if A i < l then hl_lk A f (i + 1) i (A i) else hl_lk A f (i + 1) ch l
theorem hl_lk_lt {A : Nat → Int32} {n : Nat} (f : Nat) : ∀ i ch l, i + f = n → ch < n → hl_lk A f i ch l < n := by
  induction f with
  | zero => intro i ch l _ h; exact h
  | succ f ih =>
    intro i ch l h1 h2
    unfold hl_lk
    split
    · exact ih (i + 1) i _ (by omega) (by omega)
    · exact ih (i + 1) ch l (by omega) h2
def hl_drA (I : Nat → Nat → Int32) (cn : Nat) (P : Nat → Nat) (c h : Nat) : Int32 := hl_pay I c h + hl_sum cn (hl_pk I (hl_hP P) c h)
def hl_drN (I : Nat → Nat → Int32) (cn : Nat) (P : Nat → Nat) (c : Nat) : Int32 := hl_sum cn (hl_alo I (hl_hP P) c)
def hl_drS (I : Nat → Nat → Int32) (cn : Nat) (P : Nat → Nat) (c : Nat) : Bool := !decide (I 7 c = -1) || (hl_has I 2 && !decide (hl_ask I 2 c (P c) 0 (hl_offv I c (P c) (hl_sm I 0)) (hl_drN I cn P c) = 0))
def hl_drL (I : Nat → Nat → Int32) (cn nh : Nat) (P : Nat → Nat) (c : Nat) : Nat := hl_lk (hl_drA I cn P c) nh 0 (P c) (hl_drA I cn P c (P c))
def hl_drT (I : Nat → Nat → Int32) (cn nh : Nat) (s : (Nat → Nat) × Nat) (c : Nat) : (Nat → Nat) × Nat :=
  if hl_drS I cn s.1 c = true then s else if hl_drL I cn nh s.1 c = s.1 c then s else (fun q => if q = c then hl_drL I cn nh s.1 c else s.1 q, s.2 + 1)
def hl_drR (I : Nat → Nat → Int32) (cn nh : Nat) : Nat → (Nat → Nat) × Nat → (Nat → Nat) × Nat
  | 0, s => s
  | n + 1, s => hl_drT I cn nh (hl_drR I cn nh n s) n
def hl_drF (I : Nat → Nat → Int32) (cn nh N : Nat) : Nat → Nat → (Nat → Nat) × Nat → ((Nat → Nat) × Nat) × Int32
  | 0, _, s => (s, -1)
  | f + 1, i, s => if (hl_drR I cn nh N s).2 = s.2 then (hl_drR I cn nh N s, nI (i + 1)) else hl_drF I cn nh N f (i + 1) (hl_drR I cn nh N s)
theorem hl_drT_le {I : Nat → Nat → Int32} {cn nh : Nat} {s : (Nat → Nat) × Nat} {c : Nat} : s.2 ≤ (hl_drT I cn nh s c).2 ∧ (hl_drT I cn nh s c).2 ≤ s.2 + 1 := by
  unfold hl_drT
  split
  · omega
  · split
    · omega
    · show s.2 ≤ s.2 + 1 ∧ s.2 + 1 ≤ s.2 + 1; omega
theorem hl_drR_le {I : Nat → Nat → Int32} {cn nh : Nat} {s : (Nat → Nat) × Nat} (n : Nat) : s.2 ≤ (hl_drR I cn nh n s).2 ∧ (hl_drR I cn nh n s).2 ≤ s.2 + n := by
  induction n with
  | zero => exact ⟨Nat.le_refl _, Nat.le_refl _⟩
  | succ n ih =>
    have := hl_drT_le (I := I) (cn := cn) (nh := nh) (s := hl_drR I cn nh n s) (c := n)
    show s.2 ≤ (hl_drT I cn nh (hl_drR I cn nh n s) n).2 ∧ (hl_drT I cn nh (hl_drR I cn nh n s) n).2 ≤ s.2 + (n + 1)
    omega
section HLFREE
variable {d N W H : Nat} {I Is I' I0 : Nat → Nat → Int32} {J J' : Nat → Nat → Int64} {nh cn : Nat} {g g' : Nat → Int32}
theorem hl_alo_congr (hCo : hl_Co N W H I) (hN : N ≤ 24) (ts : hl_Sv I 86 1 = (cn : Int)) {c k : Nat} (hk : k < cn) (hc : c < N) (h : ∀ q, q < N → g' q = g q) : hl_alo I g' c k = hl_alo I g c k := by
  unfold hl_alo
  rcases hCo.acr hN ts hk hc with ha | ⟨t, ht, ha, hne⟩
  · rw [if_pos ha, if_pos ha]
  · rw [ha, if_neg hne, if_neg hne, nIc (by omega), h t ht, h c hc]
theorem hl_pk_congr (hCo : hl_Co N W H I) (hN : N ≤ 24) (ts : hl_Sv I 86 1 = (cn : Int)) {c h k : Nat} (hk : k < cn) (hc : c < N) (hh : ∀ q, q < N → g' q = g q) : hl_pk I g' c h k = hl_pk I g c h k := by
  unfold hl_pk
  rcases hCo.acr hN ts hk hc with ha | ⟨t, ht, ha, hne⟩
  · rw [if_pos ha, if_pos ha]
  · rw [ha, if_neg hne, if_neg hne, nIc (by omega), hh t ht]
theorem hl_s86 {c r : Nat} (hCo : hl_Co N W H I) (hN : N ≤ 24) (ts : hl_Sv I 86 1 = (cn : Int)) (hc : c < N) (hh : hl_ar (hl_g N I J) r 0 = true) (hz : (hl_k (hl_g N I J) r).2 = N) : hl_call (d + 2) 86 [.ref 11, .int (nI c), .ref r] (hl_g N I J) = some (some (.int (hl_sum cn (hl_alo I (I r) c))), hl_g N I J) := by
  obtain ⟨k0, k1, k2, k3, k4⟩ := hCo.cn
  obtain rfl : k0 = cn := by omega
  have bc : hl_inb (nI c) N = true := hl_inb_nI hc (by omega)
  have loop : ∀ f i (l5 : Value), i + f = k0 → hl_Run 86 (hl_call (d + 1)) 5 [.ref 11, .int (nI c), .ref r, .int (hl_sum i (hl_alo I (I r) c)), .int (nI i), l5] [] (hl_g N I J) = some (some (.int (hl_sum k0 (hl_alo I (I r) c))), hl_g N I J) := by
    intro f
    induction f with
    | zero =>
      intro i l5 hi
      obtain rfl : i = k0 := by omega
      simp only [hl_r86_0, hl_r86_1, hl_r86_2, hl_r86_3, hl_r86_5, hl_r86_7, hl_r86_8, hl_r86_11, hl_r86_14, hl_r86_15, hl_r86_17, hl_r86_18, hl_r86_21, hl_r86_23, hl_r86_25, hl_r86_26, hl_r86_29, hl_r86_30, hl_r86_32, hl_r86_33, hl_r86_34, hl_r86_35, hl_r86_36, hl_r86_39, hl_r86_40, hl_r86_41, hl_r86_44, hl_r86_46, hl_r86_47, hl_r86_48, hl_r86_49, hl_r86_52, hl_r86_55, hl_r86_56, hl_o_11, hl_p_11_0, hl_p_11_1, hl_p_11_2, k2, Int32.le_refl, hl_kill_i, hl_kill_r, hl_kill_n, hl_kill_l, hl_tl_s, hl_tl_n, hl_cal_some, hl_gI, hl_gJ, hl_gsI, hl_gsJ, hl_tv01, if_true, if_false, hl_up_a, hl_row_a]
    | succ f ih =>
      intro i l5 hi
      have c1 : ¬ nI k0 ≤ nI i := nI_ge (by omega) (by omega)
      have en : nI i + 1 = nI (i + 1) := (nI_succ i).symm
      have b : hl_inb (nI i) 40 = true := hl_inb_nI (by omega) (by omega)
      have e84 := hl_s84 (d := d) (J := J) (c := c) hCo hN ts (show i < k0 by omega)
      have hs : hl_sum (i + 1) (hl_alo I (I r) c) = hl_sum i (hl_alo I (I r) c) + hl_alo I (I r) c i := rfl
      rcases hCo.acr hN ts (show i < k0 by omega) hc with ha | ⟨t, ht, ha, hne⟩
      · have e := ih (i + 1) (.int (-1)) (by omega)
        rw [hs, show hl_alo I (I r) c i = 0 from if_pos ha, Int32.add_zero] at e
        rw [ha] at e84
        rw [← e, hl_r86_5]
        simp only [hl_r86_0, hl_r86_1, hl_r86_2, hl_r86_3, hl_r86_7, hl_r86_8, hl_r86_11, hl_r86_14, hl_r86_15, hl_r86_17, hl_r86_18, hl_r86_21, hl_r86_23, hl_r86_25, hl_r86_26, hl_r86_29, hl_r86_30, hl_r86_32, hl_r86_33, hl_r86_34, hl_r86_35, hl_r86_36, hl_r86_39, hl_r86_40, hl_r86_41, hl_r86_44, hl_r86_46, hl_r86_47, hl_r86_48, hl_r86_49, hl_r86_52, hl_r86_55, hl_r86_56, hl_o_11, hl_p_11_0, hl_p_11_1, hl_p_11_2, k2, c1, e84, en, hl_kill_i, hl_kill_r, hl_kill_n, hl_kill_l, hl_tl_s, hl_tl_n, hl_cal_some, hl_gI, hl_gJ, hl_gsI, hl_gsJ, hl_tv01, if_true, if_false, hl_up_a, hl_row_a]
      · have bt : hl_inb (nI t) N = true := hl_inb_nI ht (by omega)
        have e := ih (i + 1) (.int (nI t)) (by omega)
        rw [ha] at e84
        by_cases q : I r t = I r c
        · have hx : hl_alo I (I r) c i = 0 := by unfold hl_alo; rw [ha, if_neg hne, nIc (by omega), if_pos q]
          rw [hs, hx, Int32.add_zero] at e
          rw [← e, hl_r86_5]
          simp only [hl_r86_0, hl_r86_1, hl_r86_2, hl_r86_3, hl_r86_7, hl_r86_8, hl_r86_11, hl_r86_14, hl_r86_15, hl_r86_17, hl_r86_18, hl_r86_21, hl_r86_23, hl_r86_25, hl_r86_26, hl_r86_29, hl_r86_30, hl_r86_32, hl_r86_33, hl_r86_34, hl_r86_35, hl_r86_36, hl_r86_39, hl_r86_40, hl_r86_41, hl_r86_44, hl_r86_46, hl_r86_47, hl_r86_48, hl_r86_49, hl_r86_52, hl_r86_55, hl_r86_56, hl_o_11, hl_p_11_0, hl_p_11_1, hl_p_11_2, k2, c1, e84, hne, hh, hz, bt, bc, nIc (show t < 2 ^ 31 by omega), nIc (show c < 2 ^ 31 by omega), q, en, hl_kill_i, hl_kill_r, hl_kill_n, hl_kill_l, hl_tl_s, hl_tl_n, hl_cal_some, hl_gI, hl_gJ, hl_gsI, hl_gsJ, hl_tv01, if_true, if_false, hl_up_a, hl_row_a]
        · have hx : hl_alo I (I r) c i = I 14 i := by unfold hl_alo; rw [ha, if_neg hne, nIc (by omega), if_neg q]
          rw [hs, hx] at e
          rw [← e, hl_r86_5]
          simp only [hl_r86_0, hl_r86_1, hl_r86_2, hl_r86_3, hl_r86_7, hl_r86_8, hl_r86_11, hl_r86_14, hl_r86_15, hl_r86_17, hl_r86_18, hl_r86_21, hl_r86_23, hl_r86_25, hl_r86_26, hl_r86_29, hl_r86_30, hl_r86_32, hl_r86_33, hl_r86_34, hl_r86_35, hl_r86_36, hl_r86_39, hl_r86_40, hl_r86_41, hl_r86_44, hl_r86_46, hl_r86_47, hl_r86_48, hl_r86_49, hl_r86_52, hl_r86_55, hl_r86_56, hl_o_11, hl_p_11_0, hl_p_11_1, hl_p_11_2, hl_a_14, hl_z_14, k2, c1, e84, hne, hh, hz, bt, bc, b, nIc (show t < 2 ^ 31 by omega), nIc (show c < 2 ^ 31 by omega), nIc (show i < 2 ^ 31 by omega), q, en, hl_kill_i, hl_kill_r, hl_kill_n, hl_kill_l, hl_tl_s, hl_tl_n, hl_cal_some, hl_gI, hl_gJ, hl_gsI, hl_gsJ, hl_tv01, if_true, if_false, hl_up_a, hl_row_a]
  have e := loop k0 0 .null (by omega)
  rw [hl_e86, hl_r86_0, hl_r86_1, hl_r86_2, hl_r86_3]
  exact e
theorem hl_s85 {c h r : Nat} (hCo : hl_Co N W H I) (hN : N ≤ 24) (hn : nh ≤ 4) (ts : hl_Sv I 86 1 = (cn : Int)) (hc : c < N) (hh4 : h < nh) (hg : hl_hg N nh (I r)) (hh : hl_ar (hl_g N I J) r 0 = true) (hz : (hl_k (hl_g N I J) r).2 = N) : hl_call (d + 2) 85 [.ref 11, .int (nI c), .int (nI h), .ref r, .ref 9] (hl_g N I J) = some (some (.int (hl_sum cn (hl_pk I (I r) c h))), hl_g N I J) := by
  obtain ⟨k0, k1, k2, k3, k4⟩ := hCo.cn
  obtain rfl : k0 = cn := by omega
  have bh : hl_inb (nI h) 4 = true := hl_inb_nI (by omega) (by omega)
  have ab : ∀ o : Int32, (if 0 ≤ o then o else 0 - o) = hl_abs o := fun _ => rfl
  have loop : ∀ f i (l7 : Value), i + f = k0 → hl_Run 85 (hl_call (d + 1)) 6 [.ref 11, .int (nI c), .int (nI h), .ref r, .ref 9, .int (hl_sum i (hl_pk I (I r) c h)), .int (nI i), l7] [] (hl_g N I J) = some (some (.int (hl_sum k0 (hl_pk I (I r) c h))), hl_g N I J) := by
    intro f
    induction f with
    | zero =>
      intro i l7 hi
      obtain rfl : i = k0 := by omega
      simp only [hl_r85_0, hl_r85_1, hl_r85_3, hl_r85_4, hl_r85_6, hl_r85_8, hl_r85_9, hl_r85_12, hl_r85_15, hl_r85_16, hl_r85_18, hl_r85_19, hl_r85_22, hl_r85_24, hl_r85_26, hl_r85_27, hl_r85_30, hl_r85_32, hl_r85_33, hl_r85_36, hl_r85_38, hl_r85_39, hl_r85_41, hl_r85_42, hl_r85_43, hl_r85_45, hl_r85_46, hl_r85_48, hl_r85_49, hl_r85_50, hl_r85_51, hl_r85_54, hl_r85_55, hl_r85_56, hl_r85_58, hl_r85_61, hl_r85_64, hl_r85_66, hl_o_11, hl_p_11_0, hl_p_11_1, hl_p_11_2, k2, Int32.le_refl, hl_kill_i, hl_kill_r, hl_kill_n, hl_kill_l, hl_tl_s, hl_tl_n, hl_cal_some, hl_gI, hl_gJ, hl_gsI, hl_gsJ, hl_tv01, if_true, if_false, hl_up_a, hl_row_a]
    | succ f ih =>
      intro i l7 hi
      have c1 : ¬ nI k0 ≤ nI i := nI_ge (by omega) (by omega)
      have en : nI i + 1 = nI (i + 1) := (nI_succ i).symm
      have b : hl_inb (nI i) 40 = true := hl_inb_nI (by omega) (by omega)
      have e84 := hl_s84 (d := d) (J := J) (c := c) hCo hN ts (show i < k0 by omega)
      have hs : hl_sum (i + 1) (hl_pk I (I r) c h) = hl_sum i (hl_pk I (I r) c h) + hl_pk I (I r) c h i := rfl
      rcases hCo.acr hN ts (show i < k0 by omega) hc with ha | ⟨t, ht, ha, hne⟩
      · have e := ih (i + 1) (.int (-1)) (by omega)
        rw [hs, show hl_pk I (I r) c h i = 0 from if_pos ha, Int32.add_zero] at e
        rw [ha] at e84
        rw [← e, hl_r85_6]
        simp only [hl_r85_0, hl_r85_1, hl_r85_3, hl_r85_4, hl_r85_8, hl_r85_9, hl_r85_12, hl_r85_15, hl_r85_16, hl_r85_18, hl_r85_19, hl_r85_22, hl_r85_24, hl_r85_26, hl_r85_27, hl_r85_30, hl_r85_32, hl_r85_33, hl_r85_36, hl_r85_38, hl_r85_39, hl_r85_41, hl_r85_42, hl_r85_43, hl_r85_45, hl_r85_46, hl_r85_48, hl_r85_49, hl_r85_50, hl_r85_51, hl_r85_54, hl_r85_55, hl_r85_56, hl_r85_58, hl_r85_61, hl_r85_64, hl_r85_66, hl_o_11, hl_p_11_0, hl_p_11_1, hl_p_11_2, k2, c1, e84, en, hl_kill_i, hl_kill_r, hl_kill_n, hl_kill_l, hl_tl_s, hl_tl_n, hl_cal_some, hl_gI, hl_gJ, hl_gsI, hl_gsJ, hl_tv01, if_true, if_false, hl_up_a, hl_row_a]
      · have bt : hl_inb (nI t) N = true := hl_inb_nI ht (by omega)
        obtain ⟨p, p1, p2⟩ := hg t ht
        have bp : hl_inb (nI p) 4 = true := hl_inb_nI (by omega) (by omega)
        have e := ih (i + 1) (.int (nI t)) (by omega)
        rw [ha] at e84
        have hx : hl_pk I (I r) c h i = I 14 i * hl_abs (I 9 h - I 9 p) := by unfold hl_pk; rw [ha, if_neg hne, nIc (by omega), p2, nIc (by omega)]
        rw [hs, hx] at e
        rw [← e, hl_r85_6]
        simp only [hl_r85_0, hl_r85_1, hl_r85_3, hl_r85_4, hl_r85_8, hl_r85_9, hl_r85_12, hl_r85_15, hl_r85_16, hl_r85_18, hl_r85_19, hl_r85_22, hl_r85_24, hl_r85_26, hl_r85_27, hl_r85_30, hl_r85_32, hl_r85_33, hl_r85_36, hl_r85_38, hl_r85_39, hl_r85_41, hl_r85_42, hl_r85_43, hl_r85_45, hl_r85_46, hl_r85_48, hl_r85_49, hl_r85_50, hl_r85_51, hl_r85_54, hl_r85_55, hl_r85_56, hl_r85_58, hl_r85_61, hl_r85_64, hl_r85_66, hl_o_11, hl_p_11_0, hl_p_11_1, hl_p_11_2, hl_a_14, hl_z_14, hl_a_9, hl_z_9, k2, c1, e84, hne, hh, hz, bt, bh, bp, b, p2, nIc (show t < 2 ^ 31 by omega), nIc (show h < 2 ^ 31 by omega), nIc (show p < 2 ^ 31 by omega), nIc (show i < 2 ^ 31 by omega), ab, en, hl_kill_i, hl_kill_r, hl_kill_n, hl_kill_l, hl_tl_s, hl_tl_n, hl_cal_some, hl_gI, hl_gJ, hl_gsI, hl_gsJ, hl_tv01, if_true, if_false, hl_up_a, hl_row_a]
  have e := loop k0 0 .null (by omega)
  rw [hl_e85, hl_r85_0, hl_r85_1, hl_r85_3, hl_r85_4]
  exact e
/-- the class's states -/
def hl_dC (N nh : Nat) (I0 I : Nat → Nat → Int32) (s : (Nat → Nat) × Nat) : Prop := hl_Tm I0 I ∧ I 64 = I0 64 ∧ I 65 = I0 65 ∧ (∀ c, c < N → s.1 c < nh ∧ I 82 c = nI (s.1 c)) ∧ I 81 5 = nI s.2
theorem hl_Sv_tm (t : hl_Tm I I') {b j : Nat} (hb : 86 ≤ b ∧ b < 90) : hl_Sv I' b j = hl_Sv I b j := by
  unfold hl_Sv
  rw [t.2.2.2 b hb.1 hb.2]
theorem hl_acr_tm (t : hl_Tm I I') (k c : Nat) : hl_acr I' k c = hl_acr I k c := by
  unfold hl_acr
  rw [t.1 12 (by omega), t.1 13 (by omega)]
theorem hl_alo_tm (t : hl_Tm I I') (c k : Nat) : hl_alo I' g c k = hl_alo I g c k := by
  unfold hl_alo
  rw [hl_acr_tm t, t.1 14 (by omega)]
theorem hl_pk_tm (t : hl_Tm I I') (c h k : Nat) : hl_pk I' g c h k = hl_pk I g c h k := by
  unfold hl_pk
  rw [hl_acr_tm t, t.1 14 (by omega), t.1 9 (by omega)]
theorem hl_s5 {c h : Nat} {s : (Nat → Nat) × Nat} (hCo : hl_Co N W H I0) (hN : N ≤ 24) (hn : nh ≤ 4) (ts : hl_Sv I0 86 1 = (cn : Int)) (hF : ∀ c k, c < N → k < nh → I0 64 (4 * c + k) = hl_pay I0 c k) (hD : hl_dC N nh I0 I s) (hc : c < N) (hh : h < nh) : hl_call (d + 3) 5 [.ref 81, .int (nI c), .int (nI h)] (hl_g N I J) = some (some (.int (hl_drA I0 cn s.1 c h)), hl_g N I J) := by
  obtain ⟨tm, d64, d65, d82, d81⟩ := hD
  have hCoI := hl_Co_t hCo tm
  have tsI : hl_Sv I 86 1 = (cn : Int) := (hl_Sv_tm tm (by omega)).trans ts
  have hgI : hl_hg N nh (I 82) := fun q hq => ⟨s.1 q, (d82 q hq).1, (d82 q hq).2⟩
  have e48 := hl_s48 (d := d + 1) (I := I) (J := J) hc hN (show h < 4 by omega)
  rw [d64, hF c h hc hh] at e48
  have e85 := hl_s85 (d := d) (J := J) (r := 82) hCoI hN hn tsI hc hh hgI hl_a_82 hl_z_82
  rw [hl_sum_congr (g := hl_pk I0 (hl_hP s.1) c h) (fun k hk => by rw [hl_pk_tm tm]; exact hl_pk_congr hCo hN ts hk hc (fun q hq => (d82 q hq).2))] at e85
  rw [hl_e5]
  simp only [hl_r5_0, hl_r5_1, hl_r5_4, hl_r5_5, hl_r5_6, hl_r5_9, hl_r5_10, hl_r5_13, hl_r5_16, hl_r5_17, hl_r5_18, hl_r5_19, hl_r5_22, hl_r5_23, hl_r5_26, hl_r5_29, hl_r5_32, hl_r5_33, hl_o_81, hl_p_81_0, hl_p_81_1, hl_p_81_2, hl_p_81_3, hl_o_63, hl_p_63_0, hl_p_63_1, hl_p_63_2, hl_p_63_3, hl_o_1, hl_p_1_0, hl_p_1_1, hl_p_1_2, hl_p_1_3, hl_p_1_4, hl_p_1_5, hl_p_1_6, hl_p_1_7, hl_p_1_9, hl_p_1_14, hl_p_1_15, hl_o_11, hl_p_11_0, hl_p_11_1, hl_p_11_2, e48, e85, hl_drA, hl_kill_i, hl_kill_r, hl_kill_n, hl_kill_l, hl_tl_s, hl_tl_n, hl_cal_some, hl_gI, hl_gJ, hl_gsI, hl_gsJ, hl_tv01, if_true, if_false, hl_up_a, hl_row_a]
theorem hl_s6 {c : Nat} {s : (Nat → Nat) × Nat} (hCo : hl_Co N W H I0) (hN : N ≤ 24) (hn : nh ≤ 4) (ts : hl_Sv I0 86 1 = (cn : Int)) (hD : hl_dC N nh I0 I s) (hc : c < N) : ∃ I', hl_call (d + 4) 6 [.ref 81, .int (nI c)] (hl_g N I J) = some (some (.int (hl_tv (hl_has I0 2 && !decide (hl_ask I0 2 c (s.1 c) 0 (hl_offv I0 c (s.1 c) (hl_sm I0 0)) (hl_drN I0 cn s.1 c) = 0)))), hl_g N I' J) ∧ hl_f6 I I' := by
  obtain ⟨tm, d64, d65, d82, d81⟩ := hD
  have hCoI := hl_Co_t hCo tm
  have tsI : hl_Sv I 86 1 = (cn : Int) := (hl_Sv_tm tm (by omega)).trans ts
  have e97 : hl_call (d + 3) 97 [.ref 60, .int 2] (hl_g N I J) = some (some (.int (hl_tv (hl_has I0 2))), hl_g N I J) := by
    have := hl_s97 (d := d + 1) (N := N) (I := I) (J := J) (cl := 2) (by decide)
    rw [(tm.pd c).has] at this
    exact this
  cases h2 : hl_has I0 2 with
  | false =>
    rw [h2] at e97
    refine ⟨I, ?_, hl_f6_rf I⟩
    rw [hl_e6]
    simp only [hl_r6_0, hl_r6_1, hl_r6_4, hl_r6_5, hl_r6_8, hl_r6_11, hl_r6_12, hl_r6_13, hl_r6_14, hl_r6_17, hl_r6_20, hl_r6_21, hl_r6_22, hl_r6_25, hl_r6_28, hl_r6_29, hl_r6_30, hl_r6_33, hl_r6_34, hl_r6_35, hl_r6_36, hl_r6_39, hl_r6_40, hl_r6_41, hl_r6_42, hl_r6_43, hl_r6_46, hl_r6_47, hl_r6_50, hl_r6_51, hl_r6_54, hl_r6_57, hl_r6_58, hl_r6_61, hl_r6_62, hl_o_81, hl_p_81_0, hl_p_81_1, hl_p_81_2, hl_p_81_3, hl_o_60, hl_p_60_0, hl_p_60_1, hl_p_60_2, hl_p_60_3, e97, hl_tv_f, not_true, true_or, Bool.false_and, hl_kill_i, hl_kill_r, hl_kill_n, hl_kill_l, hl_tl_s, hl_tl_n, hl_cal_some, hl_gI, hl_gJ, hl_gsI, hl_gsJ, hl_tv01, if_true, if_false, hl_up_a, hl_row_a]
  | true =>
    rw [h2] at e97
    have e86 := hl_s86 (d := d + 1) (J := J) (r := 82) hCoI hN tsI hc hl_a_82 hl_z_82
    rw [hl_sum_congr (g := hl_alo I0 (hl_hP s.1) c) (fun k hk => by rw [hl_alo_tm tm]; exact hl_alo_congr hCo hN ts hk hc (fun q hq => (d82 q hq).2))] at e86
    have e9 : hl_call (d + 3) 9 [.ref 1, .int 0] (hl_g N I J) = some (some (.int (hl_tv (hl_sm I 0))), hl_g N I J) := hl_s9 (d := d + 1) (m := 0)
    have h2I : hl_has I 2 = true := by rw [(tm.pd c).has]; exact h2
    obtain ⟨T, hT, e3, eT, hne, hTs⟩ := hl_has_T hCoI h2I
    have e13 : I 1 13 = nI T := by rw [hCoI.2.1.1.h3]; exact e3
    obtain ⟨b, hb3, hb⟩ := (hCoI.2.2.2.2.1 T 2 hT (by decide)).resolve_left hne
    obtain ⟨p1, p2⟩ := d82 c hc
    obtain ⟨I', e98, f⟩ := hl_s98 (d := d) (N := N) (J := J) (m := 0) (h := s.1 c) (sm := hl_tv (hl_sm I 0)) (al := hl_drN I0 cn s.1 c) e13 hT (show 2 < 3 by decide) hne hc hN (by omega) (by decide) hb hb3 (hCoI.town hN hc)
    have es : (!decide (hl_tv (hl_sm I 0) = 0)) = hl_sm I 0 := by cases hl_sm I 0 <;> rfl
    have esm : hl_sm I 0 = hl_sm I0 0 := by unfold hl_sm; rw [tm.1 1 (by omega)]
    have eo : hl_offv I c (s.1 c) (hl_sm I0 0) = hl_offv I0 c (s.1 c) (hl_sm I0 0) := by
      unfold hl_offv
      rw [tm.1 9 (by omega), tm.1 2 (by omega)]
    rw [es, esm, eo, (tm.pd c).ask (hl_rul_lt (.inr (.inr h2)))] at e98
    rw [esm] at e9
    have e98' : hl_call (d + 3) 98 [.ref 60, .int 2, .int (nI c), .int (nI (s.1 c)), .int 0, .int (hl_tv (hl_sm I0 0)), .int (hl_drN I0 cn s.1 c)] (hl_g N I J) = some (some (.int (hl_ask I0 2 c (s.1 c) 0 (hl_offv I0 c (s.1 c) (hl_sm I0 0)) (hl_drN I0 cn s.1 c))), hl_g N I' J) := e98
    have bc : hl_inb (nI c) N = true := hl_inb_nI hc (by omega)
    refine ⟨I', ?_, f⟩
    rw [hl_e6]
    have e86' : hl_call (d + 3) 86 [.ref 11, .int (nI c), .ref 82] (hl_g N I J) = some (some (.int (hl_drN I0 cn s.1 c)), hl_g N I J) := e86
    by_cases q : hl_ask I0 2 c (s.1 c) 0 (hl_offv I0 c (s.1 c) (hl_sm I0 0)) (hl_drN I0 cn s.1 c) = 0
    · rw [q] at e98'
      rw [decide_eq_true q]
      simp only [hl_r6_0, hl_r6_1, hl_r6_4, hl_r6_5, hl_r6_8, hl_r6_11, hl_r6_12, hl_r6_13, hl_r6_14, hl_r6_17, hl_r6_20, hl_r6_21, hl_r6_22, hl_r6_25, hl_r6_28, hl_r6_29, hl_r6_30, hl_r6_33, hl_r6_34, hl_r6_35, hl_r6_36, hl_r6_39, hl_r6_40, hl_r6_41, hl_r6_42, hl_r6_43, hl_r6_46, hl_r6_47, hl_r6_50, hl_r6_51, hl_r6_54, hl_r6_57, hl_r6_58, hl_r6_61, hl_r6_62, hl_o_81, hl_p_81_0, hl_p_81_1, hl_p_81_2, hl_p_81_3, hl_o_60, hl_p_60_0, hl_p_60_1, hl_p_60_2, hl_p_60_3, hl_o_1, hl_p_1_0, hl_p_1_1, hl_p_1_2, hl_p_1_3, hl_p_1_4, hl_p_1_5, hl_p_1_6, hl_p_1_7, hl_p_1_9, hl_p_1_14, hl_p_1_15, hl_o_11, hl_p_11_0, hl_p_11_1, hl_p_11_2, hl_a_82, hl_z_82, e97, hl_tv_t, hl_10, not_false_eq_true, e86', e9, bc, nIc (show c < 2 ^ 31 by omega), p2, e98', Bool.not_true, Bool.and_false, hl_tv_f, true_or, hl_kill_i, hl_kill_r, hl_kill_n, hl_kill_l, hl_tl_s, hl_tl_n, hl_cal_some, hl_gI, hl_gJ, hl_gsI, hl_gsJ, hl_tv01, if_true, if_false, hl_up_a, hl_row_a]
    · rw [decide_eq_false q]
      simp only [hl_r6_0, hl_r6_1, hl_r6_4, hl_r6_5, hl_r6_8, hl_r6_11, hl_r6_12, hl_r6_13, hl_r6_14, hl_r6_17, hl_r6_20, hl_r6_21, hl_r6_22, hl_r6_25, hl_r6_28, hl_r6_29, hl_r6_30, hl_r6_33, hl_r6_34, hl_r6_35, hl_r6_36, hl_r6_39, hl_r6_40, hl_r6_41, hl_r6_42, hl_r6_43, hl_r6_46, hl_r6_47, hl_r6_50, hl_r6_51, hl_r6_54, hl_r6_57, hl_r6_58, hl_r6_61, hl_r6_62, hl_o_81, hl_p_81_0, hl_p_81_1, hl_p_81_2, hl_p_81_3, hl_o_60, hl_p_60_0, hl_p_60_1, hl_p_60_2, hl_p_60_3, hl_o_1, hl_p_1_0, hl_p_1_1, hl_p_1_2, hl_p_1_3, hl_p_1_4, hl_p_1_5, hl_p_1_6, hl_p_1_7, hl_p_1_9, hl_p_1_14, hl_p_1_15, hl_o_11, hl_p_11_0, hl_p_11_1, hl_p_11_2, hl_a_82, hl_z_82, e97, hl_tv_t, hl_10, not_false_eq_true, e86', e9, bc, nIc (show c < 2 ^ 31 by omega), p2, e98', q, Bool.not_false, Bool.and_true, or_true, hl_kill_i, hl_kill_r, hl_kill_n, hl_kill_l, hl_tl_s, hl_tl_n, hl_cal_some, hl_gI, hl_gJ, hl_gsI, hl_gsJ, hl_tv01, if_true, if_false, hl_up_a, hl_row_a]
theorem hl_dC_f6 {s : (Nat → Nat) × Nat} (hD : hl_dC N nh I0 I s) (f : hl_f6 I I') : hl_dC N nh I0 I' s := by
  obtain ⟨tm, d64, d65, d82, d81⟩ := hD
  refine ⟨hl_Tm_tr tm f.tm, ?_, ?_, fun c hc => ?_, ?_⟩
  · rw [f 64 (by decide) (by decide) (by decide)]; exact d64
  · rw [f 65 (by decide) (by decide) (by decide)]; exact d65
  · rw [f 82 (by decide) (by decide) (by decide)]; exact d82 c hc
  · rw [f 81 (by decide) (by decide) (by decide)]; exact d81
/-- a cell chooses -/
theorem hl_l4 {c : Nat} {s : (Nat → Nat) × Nat} (hCo : hl_Co N W H I0) (hN : N ≤ 24) (hn : nh ≤ 4) (hs : hl_Sv I0 86 0 = (nh : Int)) (ts : hl_Sv I0 86 1 = (cn : Int)) (hF : ∀ c k, c < N → k < nh → I0 64 (4 * c + k) = hl_pay I0 c k) (hD : hl_dC N nh I0 I s) (hc : c < N) (f : Nat) : ∀ (i ch : Nat) (l : Int32) (l6 : Value), i + f = nh → ch < nh → ∃ l' l6', hl_Run 4 (hl_call (d + 3)) 42 [.ref 81, .int (nI c), .int (nI (s.1 c)), .int (nI ch), .int l, .int (nI i), l6] [] (hl_g N I J) = hl_Run 4 (hl_call (d + 3)) 83 [.ref 81, .int (nI c), .int (nI (s.1 c)), .int (nI (hl_lk (hl_drA I0 cn s.1 c) f i ch l)), .int l', .int (nI nh), l6'] [] (hl_g N I J) := by
  have e18 : I 1 8 = nI nh := by
    obtain ⟨k, k1, k2, k3, k4⟩ := hCo.nh
    obtain rfl : k = nh := by omega
    rw [hD.1.1 1 (by omega)]
    exact k2
  induction f with
  | zero =>
    intro i ch l l6 hi hch
    obtain rfl : i = nh := by omega
    refine ⟨l, l6, ?_⟩
    simp only [hl_r4_42, hl_r4_44, hl_r4_45, hl_r4_48, hl_r4_51, hl_o_81, hl_p_81_0, hl_p_81_1, hl_p_81_2, hl_p_81_3, hl_o_1, hl_p_1_0, hl_p_1_1, hl_p_1_2, hl_p_1_3, hl_p_1_4, hl_p_1_5, hl_p_1_6, hl_p_1_7, hl_p_1_9, hl_p_1_14, hl_p_1_15, e18, Int32.le_refl, hl_lk, hl_kill_i, hl_kill_r, hl_kill_n, hl_kill_l, hl_tl_s, hl_tl_n, hl_cal_some, hl_gI, hl_gJ, hl_gsI, hl_gsJ, hl_tv01, if_true, if_false, hl_up_a, hl_row_a]
  | succ f ih =>
    intro i ch l l6 hi hch
    have c1 : ¬ nI nh ≤ nI i := nI_ge (by omega) (by omega)
    have en : nI i + 1 = nI (i + 1) := (nI_succ i).symm
    have e5 := hl_s5 (d := d) (J := J) hCo hN hn ts hF hD hc (show i < nh by omega)
    unfold hl_lk
    by_cases q : hl_drA I0 cn s.1 c i < l
    · rw [if_pos q]
      obtain ⟨l', l6', e⟩ := ih (i + 1) i (hl_drA I0 cn s.1 c i) (.int (hl_drA I0 cn s.1 c i)) (by omega) (by omega)
      refine ⟨l', l6', ?_⟩
      rw [← e, hl_r4_42]
      simp only [hl_r4_44, hl_r4_45, hl_r4_48, hl_r4_51, hl_r4_54, hl_r4_55, hl_r4_56, hl_r4_58, hl_r4_61, hl_r4_63, hl_r4_65, hl_r4_67, hl_r4_70, hl_r4_72, hl_r4_73, hl_r4_75, hl_r4_77, hl_r4_80, hl_o_81, hl_p_81_0, hl_p_81_1, hl_p_81_2, hl_p_81_3, hl_o_1, hl_p_1_0, hl_p_1_1, hl_p_1_2, hl_p_1_3, hl_p_1_4, hl_p_1_5, hl_p_1_6, hl_p_1_7, hl_p_1_9, hl_p_1_14, hl_p_1_15, e18, c1, e5, Int32.not_le.mpr q, en, hl_kill_i, hl_kill_r, hl_kill_n, hl_kill_l, hl_tl_s, hl_tl_n, hl_cal_some, hl_gI, hl_gJ, hl_gsI, hl_gsJ, hl_tv01, if_true, if_false, hl_up_a, hl_row_a]
    · rw [if_neg q]
      obtain ⟨l', l6', e⟩ := ih (i + 1) ch l (.int (hl_drA I0 cn s.1 c i)) (by omega) hch
      refine ⟨l', l6', ?_⟩
      rw [← e, hl_r4_42]
      simp only [hl_r4_44, hl_r4_45, hl_r4_48, hl_r4_51, hl_r4_54, hl_r4_55, hl_r4_56, hl_r4_58, hl_r4_61, hl_r4_63, hl_r4_65, hl_r4_67, hl_r4_77, hl_r4_80, hl_o_81, hl_p_81_0, hl_p_81_1, hl_p_81_2, hl_p_81_3, hl_o_1, hl_p_1_0, hl_p_1_1, hl_p_1_2, hl_p_1_3, hl_p_1_4, hl_p_1_5, hl_p_1_6, hl_p_1_7, hl_p_1_9, hl_p_1_14, hl_p_1_15, e18, c1, e5, Int32.not_lt.mp q, en, hl_kill_i, hl_kill_r, hl_kill_n, hl_kill_l, hl_tl_s, hl_tl_n, hl_cal_some, hl_gI, hl_gJ, hl_gsI, hl_gsJ, hl_tv01, if_true, if_false, hl_up_a, hl_row_a]
theorem hl_s4 {c : Nat} {s : (Nat → Nat) × Nat} (hCo : hl_Co N W H I0) (hN : N ≤ 24) (hn : nh ≤ 4) (hs : hl_Sv I0 86 0 = (nh : Int)) (ts : hl_Sv I0 86 1 = (cn : Int)) (hF : ∀ c k, c < N → k < nh → I0 64 (4 * c + k) = hl_pay I0 c k) (hD : hl_dC N nh I0 I s) (hc : c < N) : ∃ I', hl_call (d + 5) 4 [.ref 81, .int (nI c)] (hl_g N I J) = some (none, hl_g N I' J) ∧ hl_dC N nh I0 I' (hl_drT I0 cn nh s c) ∧ I' 81 4 = I 81 4 := by
  have bc : hl_inb (nI c) N = true := hl_inb_nI hc (by omega)
  have e7 : I 7 c = I0 7 c := by rw [hD.1.1 7 (by omega)]
  unfold hl_drT
  rw [hl_e4]
  by_cases k1 : I0 7 c = -1
  · have e7' : I 7 c = -1 := e7.trans k1
    obtain ⟨I1, e6, f6⟩ := hl_s6 (d := d) (J := J) hCo hN hn ts hD hc
    have eS : hl_drS I0 cn s.1 c = (hl_has I0 2 && !decide (hl_ask I0 2 c (s.1 c) 0 (hl_offv I0 c (s.1 c) (hl_sm I0 0)) (hl_drN I0 cn s.1 c) = 0)) := by unfold hl_drS; rw [decide_eq_true k1]; rfl
    rw [← eS] at e6
    have hD1 := hl_dC_f6 hD f6
    cases hS : hl_drS I0 cn s.1 c with
    | true =>
      rw [hS] at e6
      refine ⟨I1, ?_, by rw [if_pos rfl]; exact hD1, by rw [f6 81 (by decide) (by decide) (by decide)]⟩
      simp only [hl_r4_0, hl_r4_1, hl_r4_4, hl_r4_7, hl_r4_8, hl_r4_9, hl_r4_10, hl_r4_13, hl_r4_14, hl_r4_15, hl_r4_18, hl_r4_21, hl_o_81, hl_p_81_0, hl_p_81_1, hl_p_81_2, hl_p_81_3, hl_o_1, hl_p_1_0, hl_p_1_1, hl_p_1_2, hl_p_1_3, hl_p_1_4, hl_p_1_5, hl_p_1_6, hl_p_1_7, hl_p_1_9, hl_p_1_14, hl_p_1_15, hl_a_7, hl_z_7, bc, nIc (show c < 2 ^ 31 by omega), e7', not_true, e6, hl_tv_t, hl_10, hl_kill_i, hl_kill_r, hl_kill_n, hl_kill_l, hl_tl_s, hl_tl_n, hl_cal_some, hl_gI, hl_gJ, hl_gsI, hl_gsJ, hl_tv01, if_true, if_false, hl_up_a, hl_row_a]
    | false =>
      rw [hS] at e6
      rw [if_neg (by decide)]
      obtain ⟨p1, p2⟩ := hD1.2.2.2.1 c hc
      have e5 := hl_s5 (d := d + 1) (J := J) hCo hN hn ts hF hD1 hc p1
      obtain ⟨l', l6', el⟩ := hl_l4 (d := d + 1) (J := J) hCo hN hn hs ts hF hD1 hc nh 0 (s.1 c) (hl_drA I0 cn s.1 c (s.1 c)) .null (by omega) p1
      have eL : hl_lk (hl_drA I0 cn s.1 c) nh 0 (s.1 c) (hl_drA I0 cn s.1 c (s.1 c)) = hl_drL I0 cn nh s.1 c := rfl
      have hlt : hl_drL I0 cn nh s.1 c < nh := hl_lk_lt nh 0 _ _ (by omega) p1
      rw [eL, show nI 0 = 0 from rfl] at el
      have st : hl_Run 4 (hl_call (d + 4)) 0 [.ref 81, .int (nI c), .null, .null, .null, .null, .null] [] (hl_g N I J) = hl_Run 4 (hl_call (d + 4)) 83 [.ref 81, .int (nI c), .int (nI (s.1 c)), .int (nI (hl_drL I0 cn nh s.1 c)), .int l', .int (nI nh), l6'] [] (hl_g N I1 J) := by
        rw [← el]
        simp only [hl_r4_0, hl_r4_1, hl_r4_4, hl_r4_7, hl_r4_8, hl_r4_9, hl_r4_10, hl_r4_13, hl_r4_14, hl_r4_15, hl_r4_18, hl_r4_22, hl_r4_23, hl_r4_26, hl_r4_27, hl_r4_28, hl_r4_29, hl_r4_30, hl_r4_31, hl_r4_32, hl_r4_33, hl_r4_34, hl_r4_37, hl_r4_39, hl_r4_40, hl_o_81, hl_p_81_0, hl_p_81_1, hl_p_81_2, hl_p_81_3, hl_o_1, hl_p_1_0, hl_p_1_1, hl_p_1_2, hl_p_1_3, hl_p_1_4, hl_p_1_5, hl_p_1_6, hl_p_1_7, hl_p_1_9, hl_p_1_14, hl_p_1_15, hl_a_7, hl_z_7, hl_a_82, hl_z_82, bc, nIc (show c < 2 ^ 31 by omega), e7', not_true, e6, hl_tv_f, p2, e5, hl_kill_i, hl_kill_r, hl_kill_n, hl_kill_l, hl_tl_s, hl_tl_n, hl_cal_some, hl_gI, hl_gJ, hl_gsI, hl_gsJ, hl_tv01, if_true, if_false, hl_up_a, hl_row_a]
      rw [st]
      by_cases q : hl_drL I0 cn nh s.1 c = s.1 c
      · rw [if_pos q]
        refine ⟨I1, ?_, hD1, by rw [f6 81 (by decide) (by decide) (by decide)]⟩
        simp only [hl_r4_83, hl_r4_84, hl_r4_85, hl_r4_105, q, hl_kill_i, hl_kill_r, hl_kill_n, hl_kill_l, hl_tl_s, hl_tl_n, hl_cal_some, hl_gI, hl_gJ, hl_gsI, hl_gsJ, hl_tv01, if_true, if_false, hl_up_a, hl_row_a]
      · rw [if_neg q]
        have nq : ¬ nI (hl_drL I0 cn nh s.1 c) = nI (s.1 c) := fun z => q ((nI_eq (by omega) (by omega)).mp z)
        have e81 : I1 81 5 = nI s.2 := hD1.2.2.2.2
        have en : nI s.2 + 1 = nI (s.2 + 1) := (nI_succ _).symm
        refine ⟨hl_up (hl_up I1 82 c (nI (hl_drL I0 cn nh s.1 c))) 81 5 (nI (s.2 + 1)), ?_, ⟨hl_Tm_tr hD1.1 (hl_Tm_tr (hl_Tm_up (by omega)) (hl_Tm_up (by omega))), ?_, ?_, fun q hq => ?_, hl_up_at⟩, ?_⟩
        · simp only [hl_r4_83, hl_r4_84, hl_r4_85, hl_r4_88, hl_r4_89, hl_r4_92, hl_r4_93, hl_r4_94, hl_r4_95, hl_r4_96, hl_r4_97, hl_r4_100, hl_r4_101, hl_r4_102, hl_r4_105, hl_o_81, hl_p_81_0, hl_p_81_1, hl_p_81_2, hl_p_81_3, hl_a_82, hl_z_82, nq, bc, nIc (show c < 2 ^ 31 by omega), hl_up_ne _ _ _ (show (81 : Nat) ≠ 82 by decide), e81, en, hl_kill_i, hl_kill_r, hl_kill_n, hl_gI, hl_gJ, hl_gsI, if_true, if_false]
        · rw [hl_up_ne _ _ _ (by decide), hl_up_ne _ _ _ (by decide)]; exact hD1.2.1
        · rw [hl_up_ne _ _ _ (by decide), hl_up_ne _ _ _ (by decide)]; exact hD1.2.2.1
        · obtain ⟨q1, q2⟩ := hD1.2.2.2.1 q hq
          rw [hl_up_ne _ _ _ (by decide), hl_up_a, if_pos rfl]
          show (if q = c then _ else s.1 q) < nh ∧ _ = nI (if q = c then _ else s.1 q)
          by_cases z : q = c
          · rw [if_pos z, if_pos z]; exact ⟨hlt, rfl⟩
          · rw [if_neg z, if_neg z]; exact ⟨q1, q2⟩
        · rw [hl_up_a, if_pos rfl, if_neg (by decide), hl_up_ne _ _ _ (by decide), f6 81 (by decide) (by decide) (by decide)]
  · have e7' : ¬ I 7 c = -1 := by rw [e7]; exact k1
    have eS : hl_drS I0 cn s.1 c = true := by unfold hl_drS; rw [decide_eq_false k1]; rfl
    rw [if_pos eS]
    refine ⟨I, ?_, hD, rfl⟩
    simp only [hl_r4_0, hl_r4_1, hl_r4_4, hl_r4_7, hl_r4_8, hl_r4_9, hl_r4_10, hl_r4_21, hl_o_81, hl_p_81_0, hl_p_81_1, hl_p_81_2, hl_p_81_3, hl_o_1, hl_p_1_0, hl_p_1_1, hl_p_1_2, hl_p_1_3, hl_p_1_4, hl_p_1_5, hl_p_1_6, hl_p_1_7, hl_p_1_9, hl_p_1_14, hl_p_1_15, hl_a_7, hl_z_7, bc, nIc (show c < 2 ^ 31 by omega), e7', not_false_eq_true, hl_kill_i, hl_kill_r, hl_kill_n, hl_kill_l, hl_tl_s, hl_tl_n, hl_cal_some, hl_gI, hl_gJ, hl_gsI, hl_gsJ, hl_tv01, if_true, if_false, hl_up_a, hl_row_a]
/-- a round -/
theorem hl_l3 {s : (Nat → Nat) × Nat} {x1 x2 : Int32} (hCo : hl_Co N W H I0) (hN : N ≤ 24) (hn : nh ≤ 4) (hs : hl_Sv I0 86 0 = (nh : Int)) (ts : hl_Sv I0 86 1 = (cn : Int)) (hF : ∀ c k, c < N → k < nh → I0 64 (4 * c + k) = hl_pay I0 c k) (f : Nat) : ∀ (I : Nat → Nat → Int32) (i : Nat), i + f = N → hl_dC N nh I0 I (hl_drR I0 cn nh i s) → ∃ I', hl_Run 3 (hl_call (d + 5)) 54 [.ref 81, .int x1, .int x2, .int (nI i)] [] (hl_g N I J) = hl_Run 3 (hl_call (d + 5)) 74 [.ref 81, .int x1, .int x2, .int (nI N)] [] (hl_g N I' J) ∧ hl_dC N nh I0 I' (hl_drR I0 cn nh N s) ∧ I' 81 4 = I 81 4 := by
  have eN : Int32.ofNat N = nI N := rfl
  induction f with
  | zero =>
    intro I i hi hD
    obtain rfl : i = N := by omega
    refine ⟨I, ?_, hD, rfl⟩
    simp only [hl_r3_54, hl_r3_55, hl_r3_56, hl_r3_59, hl_r3_60, hl_o_81, hl_p_81_0, hl_p_81_1, hl_p_81_2, hl_p_81_3, hl_a_82, hl_z_82, hl_l_82, eN, Int32.le_refl, hl_kill_i, hl_kill_r, hl_kill_n, hl_kill_l, hl_tl_s, hl_tl_n, hl_cal_some, hl_gI, hl_gJ, hl_gsI, hl_gsJ, hl_tv01, if_true, if_false, hl_up_a, hl_row_a]
  | succ f ih =>
    intro I i hi hD
    have c1 : ¬ nI N ≤ nI i := nI_ge (by omega) (by omega)
    have en : nI i + 1 = nI (i + 1) := (nI_succ i).symm
    obtain ⟨I1, e1, D1, r1⟩ := hl_s4 (d := d) (J := J) hCo hN hn hs ts hF hD (show i < N by omega)
    obtain ⟨I2, e2, D2, r2⟩ := ih I1 (i + 1) (by omega) D1
    refine ⟨I2, ?_, D2, r2.trans r1⟩
    rw [← e2, hl_r3_54]
    simp only [hl_r3_55, hl_r3_56, hl_r3_59, hl_r3_60, hl_r3_63, hl_r3_64, hl_r3_65, hl_r3_68, hl_r3_71, hl_o_81, hl_p_81_0, hl_p_81_1, hl_p_81_2, hl_p_81_3, hl_a_82, hl_z_82, hl_l_82, eN, c1, e1, en, hl_tl_n, hl_kill_i, hl_kill_r, hl_kill_n, hl_kill_l, hl_tl_s, hl_tl_n, hl_cal_some, hl_gI, hl_gJ, hl_gsI, hl_gsJ, hl_tv01, if_true, if_false, hl_up_a, hl_row_a]
theorem hl_l3b (hCo : hl_Co N W H I0) (hN : N ≤ 24) (hn : nh ≤ 4) (hs : hl_Sv I0 86 0 = (nh : Int)) (ts : hl_Sv I0 86 1 = (cn : Int)) (hF : ∀ c k, c < N → k < nh → I0 64 (4 * c + k) = hl_pay I0 c k) (f : Nat) : ∀ (I : Nat → Nat → Int32) (i : Nat) (s : (Nat → Nat) × Nat) (l2 l3 : Value), i + f = 20 → s.2 ≤ 24 * i → hl_dC N nh I0 I s → I 81 4 = -1 → ∃ I', hl_Run 3 (hl_call (d + 5)) 33 [.ref 81, .int (nI (i + 1)), l2, l3] [] (hl_g N I J) = some (none, hl_g N I' J) ∧ hl_dC N nh I0 I' (hl_drF I0 cn nh N f i s).1 ∧ I' 81 4 = (hl_drF I0 cn nh N f i s).2 := by
  induction f with
  | zero =>
    intro I i s l2 l3 hi hb hD h81
    obtain rfl : i = 20 := by omega
    refine ⟨I, ?_, hD, h81⟩
    have c1 : (20 : Int32) < nI (20 + 1) := show nI 20 < nI 21 from nI_lt (by omega) (by omega)
    simp only [hl_r3_33, hl_r3_34, hl_r3_36, hl_r3_93, c1, hl_kill_i, hl_kill_r, hl_kill_n, hl_kill_l, hl_tl_s, hl_tl_n, hl_cal_some, hl_gI, hl_gJ, hl_gsI, hl_gsJ, hl_tv01, if_true, if_false, hl_up_a, hl_row_a]
  | succ f ih =>
    intro I i s l2 l3 hi hb hD h81
    have c1 : ¬ (20 : Int32) < nI (i + 1) := show ¬ nI 20 < nI (i + 1) from nI_nlt (by omega) (by omega)
    have en : nI (i + 1) + 1 = nI (i + 1 + 1) := (nI_succ _).symm
    obtain ⟨I1, e1, D1, r1⟩ := hl_l3 (d := d) (J := J) (s := s) (x1 := nI (i + 1)) (x2 := nI s.2) hCo hN hn hs ts hF N I 0 (by omega) hD
    have e81 : I 81 5 = nI s.2 := hD.2.2.2.2
    have e81' : I1 81 5 = nI (hl_drR I0 cn nh N s).2 := D1.2.2.2.2
    have hle := hl_drR_le (I := I0) (cn := cn) (nh := nh) (s := s) N
    rw [show nI 0 = 0 from rfl] at e1
    have st : hl_Run 3 (hl_call (d + 5)) 33 [.ref 81, .int (nI (i + 1)), l2, l3] [] (hl_g N I J) = hl_Run 3 (hl_call (d + 5)) 74 [.ref 81, .int (nI (i + 1)), .int (nI s.2), .int (nI N)] [] (hl_g N I1 J) := by
      rw [← e1]
      simp only [hl_r3_33, hl_r3_34, hl_r3_36, hl_r3_39, hl_r3_40, hl_r3_43, hl_r3_44, hl_r3_47, hl_r3_48, hl_r3_51, hl_r3_52, hl_r3_53, hl_o_81, hl_p_81_0, hl_p_81_1, hl_p_81_2, hl_p_81_3, c1, h81, not_true, e81, hl_kill_i, hl_kill_r, hl_kill_n, hl_kill_l, hl_tl_s, hl_tl_n, hl_cal_some, hl_gI, hl_gJ, hl_gsI, hl_gsJ, hl_tv01, if_true, if_false, hl_up_a, hl_row_a]
    rw [st]
    unfold hl_drF
    by_cases q : (hl_drR I0 cn nh N s).2 = s.2
    · rw [if_pos q]
      refine ⟨hl_up I1 81 4 (nI (i + 1)), ?_, ⟨hl_Tm_tr D1.1 (hl_Tm_up (by omega)), ?_, ?_, fun c hc => ?_, ?_⟩, hl_up_at⟩
      · have c2 : hl_up I1 81 4 (nI (i + 1)) 81 4 = nI (i + 1) := hl_up_at
        have n1 : ¬ nI (i + 1) = -1 := fun z => by
          have := congrArg Int32.toInt z
          rw [hl_tI (by omega), show (-1 : Int32).toInt = -1 from rfl] at this
          omega
        rw [q] at e81'
        have tail : hl_Run 3 (hl_call (d + 5)) 33 [.ref 81, .int (nI (i + 1 + 1)), .int (nI s.2), .int (nI N)] [] (hl_g N (hl_up I1 81 4 (nI (i + 1))) J) = some (none, hl_g N (hl_up I1 81 4 (nI (i + 1))) J) := by
          by_cases z : i + 1 = 20
          · have c3 : (20 : Int32) < nI (i + 1 + 1) := show nI 20 < nI (i + 1 + 1) from nI_lt (by omega) (by omega)
            simp only [hl_r3_33, hl_r3_34, hl_r3_36, hl_r3_93, c3, hl_kill_i, hl_kill_r, hl_kill_n, hl_kill_l, hl_tl_s, hl_tl_n, hl_cal_some, hl_gI, hl_gJ, hl_gsI, hl_gsJ, hl_tv01, if_true, if_false, hl_up_a, hl_row_a]
          · have c3 : ¬ (20 : Int32) < nI (i + 1 + 1) := show ¬ nI 20 < nI (i + 1 + 1) from nI_nlt (by omega) (by omega)
            simp only [hl_r3_33, hl_r3_34, hl_r3_36, hl_r3_39, hl_r3_40, hl_r3_43, hl_r3_44, hl_r3_93, hl_o_81, hl_p_81_0, hl_p_81_1, hl_p_81_2, hl_p_81_3, c3, c2, n1, not_false_eq_true, hl_kill_i, hl_kill_r, hl_kill_n, hl_gI, hl_gJ, hl_gsI, if_true, if_false]
        rw [← tail]
        simp only [hl_r3_74, hl_r3_75, hl_r3_78, hl_r3_79, hl_r3_82, hl_r3_83, hl_r3_84, hl_r3_87, hl_r3_90, hl_o_81, hl_p_81_0, hl_p_81_1, hl_p_81_2, hl_p_81_3, e81', not_true, en, hl_kill_i, hl_kill_r, hl_kill_n, hl_gI, hl_gJ, hl_gsI, if_true, if_false]
      · rw [hl_up_ne _ _ _ (by decide)]; exact D1.2.1
      · rw [hl_up_ne _ _ _ (by decide)]; exact D1.2.2.1
      · rw [hl_up_ne _ _ _ (by decide)]; exact D1.2.2.2.1 c hc
      · rw [hl_up_a, if_pos rfl, if_neg (by decide)]; exact e81'
    · rw [if_neg q]
      have nq : ¬ nI (hl_drR I0 cn nh N s).2 = nI s.2 := fun z => q ((nI_eq (by omega) (by omega)).mp z)
      obtain ⟨I2, e2, D2, r2⟩ := ih I1 (i + 1) (hl_drR I0 cn nh N s) (.int (nI s.2)) (.int (nI N)) (by omega) (by omega) D1 (by rw [r1]; exact h81)
      refine ⟨I2, ?_, D2, r2⟩
      rw [← e2]
      simp only [hl_r3_74, hl_r3_75, hl_r3_78, hl_r3_79, hl_r3_87, hl_r3_90, hl_o_81, hl_p_81_0, hl_p_81_1, hl_p_81_2, hl_p_81_3, e81', nq, not_false_eq_true, en, hl_kill_i, hl_kill_r, hl_kill_n, hl_kill_l, hl_tl_s, hl_tl_n, hl_cal_some, hl_gI, hl_gJ, hl_gsI, hl_gsJ, hl_tv01, if_true, if_false, hl_up_a, hl_row_a]
/-- all rounds -/
theorem hl_s3 (hCo : hl_Co N W H I) (hN : N ≤ 24) (hn : nh ≤ 4) (hs : hl_Sv I 86 0 = (nh : Int)) (ts : hl_Sv I 86 1 = (cn : Int)) (hF : ∀ c k, c < N → k < nh → I 64 (4 * c + k) = hl_pay I c k) {P : Nat → Nat} (hP : ∀ c, c < N → P c < nh ∧ I 8 c = nI (P c)) : ∃ I', hl_call (d + 6) 3 [.ref 81] (hl_g N I J) = some (none, hl_g N I' J) ∧ hl_dC N nh I I' (hl_drF I cn nh N 20 0 (P, 0)).1 ∧ I' 81 4 = (hl_drF I cn nh N 20 0 (P, 0)).2 := by
  have eN : Int32.ofNat N = nI N := rfl
  have cp := hl_cpd_of (I := I) (a := 8) (b := 82) (n := N)
  have e18 : hl_Run 3 (hl_call (d + 5)) 0 [.ref 81, .null, .null, .null] [] (hl_g N I J) = hl_Run 3 (hl_call (d + 5)) 21 [.ref 81, .null, .null, .null] [] (hl_g N (hl_row I 82 (va_cpy (I 8) (I 82) 0 0 N)) J) := by
    simp only [hl_r3_0, hl_r3_1, hl_r3_4, hl_r3_7, hl_r3_8, hl_r3_9, hl_r3_12, hl_r3_13, hl_r3_14, hl_r3_17, hl_r3_18, hl_o_81, hl_p_81_0, hl_p_81_1, hl_p_81_2, hl_p_81_3, hl_o_1, hl_p_1_0, hl_p_1_1, hl_p_1_2, hl_p_1_3, hl_p_1_4, hl_p_1_5, hl_p_1_6, hl_p_1_7, hl_p_1_9, hl_p_1_14, hl_p_1_15, hl_a_8, hl_z_8, hl_a_82, hl_z_82, hl_l_82, eN, hl_nn0, hl_nnN (show N < 2 ^ 31 by omega), hl_v0, nIc (show N < 2 ^ 31 by omega), Nat.zero_add, Nat.le_refl, not_false_eq_true, true_or, and_self, hl_gcp, hl_kill_i, hl_kill_r, hl_kill_n, hl_kill_l, hl_tl_s, hl_tl_n, hl_cal_some, hl_gI, hl_gJ, hl_gsI, hl_gsJ, hl_tv01, if_true, if_false, hl_up_a, hl_row_a]
  generalize hl_row I 82 (va_cpy (I 8) (I 82) 0 0 N) = I1 at cp e18
  obtain ⟨cp1, cp2⟩ := cp
  generalize hI2 : hl_up (hl_up I1 81 5 0) 81 4 (-1) = I2
  have r2 : ∀ q, q ≠ 81 → q ≠ 82 → I2 q = I q := fun q h1 h2 => by rw [← hI2, hl_up_ne _ _ _ h1, hl_up_ne _ _ _ h1, cp1 q h2]
  have D2 : hl_dC N nh I I2 (P, 0) := by
    refine ⟨⟨fun b hb => r2 b (by omega) (by omega), r2 66 (by decide) (by decide), fun k _ => by rw [r2 85 (by decide) (by decide)], fun b h1 h2 => r2 b (by omega) (by omega)⟩, r2 64 (by decide) (by decide), r2 65 (by decide) (by decide), fun c hc => ⟨(hP c hc).1, ?_⟩, ?_⟩
    · rw [← hI2, hl_up_ne _ _ _ (by decide), hl_up_ne _ _ _ (by decide), cp2 c hc]; exact (hP c hc).2
    · rw [← hI2, hl_up_a, if_pos rfl, if_neg (by decide), hl_up_at]; rfl
  obtain ⟨I3, e3, D3, r3⟩ := hl_l3b (d := d) (J := J) hCo hN hn hs ts hF 20 I2 0 (P, 0) .null .null rfl (Nat.zero_le _) D2 (by rw [← hI2]; exact hl_up_at)
  refine ⟨I3, ?_, D3, r3⟩
  rw [← e3, ← hI2, hl_e3, e18]
  simp only [hl_r3_21, hl_r3_22, hl_r3_23, hl_r3_26, hl_r3_27, hl_r3_28, hl_r3_31, hl_r3_32, hl_o_81, hl_p_81_0, hl_p_81_1, hl_p_81_2, hl_p_81_3, hl_kill_i, hl_kill_r, hl_kill_n, hl_kill_l, hl_tl_s, hl_tl_n, hl_cal_some, hl_gI, hl_gJ, hl_gsI, hl_gsJ, hl_tv01, if_true, if_false, hl_up_a, hl_row_a]
  rfl
end HLFREE
