/-! judge -/
def hl_pn (L : Nat → Nat) (c : Nat) : Int32 := if L c = c then 1 else 0
def hl_lof (h : Nat → Int32) (c : Nat) : Nat → Nat → Nat
  | 0, i => i
  | f + 1, i => if h i = h c then i else hl_lof h c f (i + 1)
theorem hl_lof_le {h : Nat → Int32} {c : Nat} (f : Nat) : ∀ i, i + f = c → hl_lof h c f i ≤ c := by
  induction f with
  | zero => intro i hi; show i ≤ c; omega
  | succ f ih =>
    intro i hi
    unfold hl_lof
    split
    · omega
    · exact ih (i + 1) (by omega)
theorem hl_lof_congr {h h' : Nat → Int32} {c : Nat} (hh : ∀ i, i ≤ c → h' i = h i) (f : Nat) : ∀ i, i + f = c → hl_lof h' c f i = hl_lof h c f i := by
  induction f with
  | zero => intro i _; rfl
  | succ f ih =>
    intro i hi
    unfold hl_lof
    rw [hh i (by omega), hh c (Nat.le_refl c), ih (i + 1) (by omega)]
def hl_asp (k h : Nat → Int32) (L : Nat → Nat) (i : Nat) : Bool := (!decide (k i = -1) && !decide (k i = h i)) || !decide (L i = hl_lof h i i 0)
def hl_dvh (st pt : Nat → Int32) (s : Int32) : Nat → Int32
  | 0 => -1
  | n + 1 => if st n = s then pt n else hl_dvh st pt s n
def hl_dvi (st pt : Nat → Int32) (s : Int32) : Nat → Bool
  | 0 => false
  | n + 1 => hl_dvi st pt s n || (decide (st n = s) && !decide (hl_dvh st pt s n = -1) && !decide (pt n = hl_dvh st pt s n))
theorem hl_dvi_mono {st pt : Nat → Int32} {s : Int32} {i : Nat} (h : hl_dvi st pt s i = true) (n : Nat) (hn : i ≤ n) : hl_dvi st pt s n = true := by
  induction n with
  | zero =>
    have : i = 0 := by omega
    subst this
    exact h
  | succ n ih =>
    by_cases e : i = n + 1
    · subst e; exact h
    · unfold hl_dvi
      rw [ih (by omega)]
      rfl
def hl_dvs (N : Nat) (st pt : Nat → Int32) (s : Nat) : Int32 := if hl_dvi st pt (nI s) N = true then 1 else 0
section HLJDG
variable {d N W H : Nat} {I Is I' : Nat → Nat → Int32} {J J' : Nat → Nat → Int64} {L : Nat → Nat} {nh cn : Nat} {g : Nat → Int32}
theorem hl_nIL {a b : Nat} (ha : a < 2 ^ 31) (hb : b < 2 ^ 31) : (nI a = nI b) = (a = b) := propext (nI_eq ha hb)
theorem hl_s39 (hN : N ≤ 24) (hL : hl_Lb 67 N I L) : hl_call (d + 1) 39 [.ref 66] (hl_g N I J) = some (some (.int (hl_sum N (hl_pn L))), hl_g N I J) := by
  have eN : Int32.ofNat N = nI N := rfl
  have loop : ∀ f i, i + f = N → hl_Run 39 (hl_call d) 4 [.ref 66, .int (hl_sum i (hl_pn L)), .int (nI i)] [] (hl_g N I J) = some (some (.int (hl_sum N (hl_pn L))), hl_g N I J) := by
    intro f
    induction f with
    | zero =>
      intro i hi
      obtain rfl : i = N := by omega
      simp only [hl_r39_0, hl_r39_1, hl_r39_2, hl_r39_3, hl_r39_4, hl_r39_5, hl_r39_6, hl_r39_9, hl_r39_10, hl_r39_13, hl_r39_14, hl_r39_17, hl_r39_18, hl_r39_19, hl_r39_20, hl_r39_23, hl_r39_26, hl_r39_29, hl_r39_32, hl_r39_33, hl_o_66, hl_p_66_1, hl_a_67, hl_z_67, hl_l_67, eN, Int32.le_refl, hl_kill_i, hl_kill_r, hl_kill_n, hl_kill_l, hl_tl_s, hl_tl_n, hl_cal_some, hl_gI, hl_gJ, hl_gsI, hl_gsJ, hl_tv01, if_true, if_false, hl_up_a, hl_row_a]
    | succ f ih =>
      intro i hi
      have c1 : ¬ nI N ≤ nI i := nI_ge (by omega) (by omega)
      have en : nI i + 1 = nI (i + 1) := (nI_succ i).symm
      have b : hl_inb (nI i) N = true := hl_inb_nI (by omega) (by omega)
      have l1 := hL.1 i
      have e := ih (i + 1) (by omega)
      rw [show hl_sum (i + 1) (hl_pn L) = hl_sum i (hl_pn L) + hl_pn L i from rfl] at e
      by_cases z : L i = i
      · rw [show hl_pn L i = 1 from if_pos z] at e
        rw [← e, hl_r39_4]
        simp only [hl_r39_0, hl_r39_1, hl_r39_2, hl_r39_3, hl_r39_5, hl_r39_6, hl_r39_9, hl_r39_10, hl_r39_13, hl_r39_14, hl_r39_17, hl_r39_18, hl_r39_19, hl_r39_20, hl_r39_23, hl_r39_26, hl_r39_29, hl_r39_32, hl_r39_33, hl_o_66, hl_p_66_1, hl_a_67, hl_z_67, hl_l_67, eN, c1, b, nIc (show i < 2 ^ 31 by omega), hL.2 i (by omega), z, not_true, en, hl_kill_i, hl_kill_r, hl_kill_n, hl_kill_l, hl_tl_s, hl_tl_n, hl_cal_some, hl_gI, hl_gJ, hl_gsI, hl_gsJ, hl_tv01, if_true, if_false, hl_up_a, hl_row_a]
      · rw [show hl_pn L i = 0 from if_neg z, Int32.add_zero] at e
        rw [← e, hl_r39_4]
        simp only [hl_r39_0, hl_r39_1, hl_r39_2, hl_r39_3, hl_r39_5, hl_r39_6, hl_r39_9, hl_r39_10, hl_r39_13, hl_r39_14, hl_r39_17, hl_r39_18, hl_r39_19, hl_r39_20, hl_r39_23, hl_r39_26, hl_r39_29, hl_r39_32, hl_r39_33, hl_o_66, hl_p_66_1, hl_a_67, hl_z_67, hl_l_67, eN, c1, b, nIc (show i < 2 ^ 31 by omega), hL.2 i (by omega), hl_nIL (show L i < 2 ^ 31 by omega) (show i < 2 ^ 31 by omega), z, not_false_eq_true, en, hl_kill_i, hl_kill_r, hl_kill_n, hl_kill_l, hl_tl_s, hl_tl_n, hl_cal_some, hl_gI, hl_gJ, hl_gsI, hl_gsJ, hl_tv01, if_true, if_false, hl_up_a, hl_row_a]
  have e := loop N 0 (by omega)
  rw [hl_e39, hl_r39_0, hl_r39_1, hl_r39_2, hl_r39_3]
  exact e
theorem hl_s218 (hN : N ≤ 24) (h2 : I 85 2 = nI N) (hL : hl_Lb 95 N I L) : hl_call (d + 1) 218 [.ref 85] (hl_g N I J) = some (some (.int (hl_sum N (hl_pn L))), hl_g N I J) := by
  have loop : ∀ f i, i + f = N → hl_Run 218 (hl_call d) 4 [.ref 85, .int (hl_sum i (hl_pn L)), .int (nI i)] [] (hl_g N I J) = some (some (.int (hl_sum N (hl_pn L))), hl_g N I J) := by
    intro f
    induction f with
    | zero =>
      intro i hi
      obtain rfl : i = N := by omega
      simp only [hl_r218_0, hl_r218_1, hl_r218_2, hl_r218_3, hl_r218_4, hl_r218_5, hl_r218_6, hl_r218_9, hl_r218_12, hl_r218_13, hl_r218_14, hl_r218_17, hl_r218_18, hl_r218_19, hl_r218_20, hl_r218_23, hl_r218_24, hl_r218_27, hl_r218_28, hl_r218_29, hl_r218_30, hl_r218_33, hl_r218_36, hl_r218_37, hl_o_85, hl_p_85_3, hl_p_85_4, hl_p_85_5, hl_p_85_6, hl_p_85_19, hl_p_85_23, hl_p_85_24, hl_p_85_25, hl_p_85_26, hl_p_85_27, hl_p_85_28, hl_p_85_29, hl_p_85_30, hl_p_85_31, hl_p_85_33, hl_p_85_34, hl_p_85_35, hl_p_85_36, hl_p_85_37, h2, Int32.le_refl, hl_kill_i, hl_kill_r, hl_kill_n, hl_kill_l, hl_tl_s, hl_tl_n, hl_cal_some, hl_gI, hl_gJ, hl_gsI, hl_gsJ, hl_tv01, if_true, if_false, hl_up_a, hl_row_a]
    | succ f ih =>
      intro i hi
      have c1 : ¬ nI N ≤ nI i := nI_ge (by omega) (by omega)
      have en : nI i + 1 = nI (i + 1) := (nI_succ i).symm
      have b : hl_inb (nI i) 24 = true := hl_inb_nI (by omega) (by omega)
      have l1 := hL.1 i
      have e := ih (i + 1) (by omega)
      rw [show hl_sum (i + 1) (hl_pn L) = hl_sum i (hl_pn L) + hl_pn L i from rfl] at e
      by_cases z : L i = i
      · rw [show hl_pn L i = 1 from if_pos z] at e
        rw [← e, hl_r218_4]
        simp only [hl_r218_0, hl_r218_1, hl_r218_2, hl_r218_3, hl_r218_5, hl_r218_6, hl_r218_9, hl_r218_12, hl_r218_13, hl_r218_14, hl_r218_17, hl_r218_18, hl_r218_19, hl_r218_20, hl_r218_23, hl_r218_24, hl_r218_27, hl_r218_28, hl_r218_29, hl_r218_30, hl_r218_33, hl_r218_36, hl_r218_37, hl_o_85, hl_p_85_3, hl_p_85_4, hl_p_85_5, hl_p_85_6, hl_p_85_19, hl_p_85_23, hl_p_85_24, hl_p_85_25, hl_p_85_26, hl_p_85_27, hl_p_85_28, hl_p_85_29, hl_p_85_30, hl_p_85_31, hl_p_85_33, hl_p_85_34, hl_p_85_35, hl_p_85_36, hl_p_85_37, hl_a_95, hl_z_95, h2, c1, b, nIc (show i < 2 ^ 31 by omega), hL.2 i (by omega), z, not_true, en, hl_kill_i, hl_kill_r, hl_kill_n, hl_kill_l, hl_tl_s, hl_tl_n, hl_cal_some, hl_gI, hl_gJ, hl_gsI, hl_gsJ, hl_tv01, if_true, if_false, hl_up_a, hl_row_a]
      · rw [show hl_pn L i = 0 from if_neg z] at e
        rw [← e, hl_r218_4]
        simp only [hl_r218_0, hl_r218_1, hl_r218_2, hl_r218_3, hl_r218_5, hl_r218_6, hl_r218_9, hl_r218_12, hl_r218_13, hl_r218_14, hl_r218_17, hl_r218_18, hl_r218_19, hl_r218_20, hl_r218_23, hl_r218_24, hl_r218_27, hl_r218_28, hl_r218_29, hl_r218_30, hl_r218_33, hl_r218_36, hl_r218_37, hl_o_85, hl_p_85_3, hl_p_85_4, hl_p_85_5, hl_p_85_6, hl_p_85_19, hl_p_85_23, hl_p_85_24, hl_p_85_25, hl_p_85_26, hl_p_85_27, hl_p_85_28, hl_p_85_29, hl_p_85_30, hl_p_85_31, hl_p_85_33, hl_p_85_34, hl_p_85_35, hl_p_85_36, hl_p_85_37, hl_a_95, hl_z_95, h2, c1, b, nIc (show i < 2 ^ 31 by omega), hL.2 i (by omega), hl_nIL (show L i < 2 ^ 31 by omega) (show i < 2 ^ 31 by omega), z, not_false_eq_true, en, hl_kill_i, hl_kill_r, hl_kill_n, hl_kill_l, hl_tl_s, hl_tl_n, hl_cal_some, hl_gI, hl_gJ, hl_gsI, hl_gsJ, hl_tv01, if_true, if_false, hl_up_a, hl_row_a]
  have e := loop N 0 (by omega)
  rw [hl_e218, hl_r218_0, hl_r218_1, hl_r218_2, hl_r218_3]
  exact e
theorem hl_s41 {c : Nat} (hc : c < N) (hN : N ≤ 24) : hl_call (d + 1) 41 [.ref 8, .int (nI c)] (hl_g N I J) = some (some (.int (nI (hl_lof (I 8) c c 0))), hl_g N I J) := by
  have bc : hl_inb (nI c) N = true := hl_inb_nI hc (by omega)
  have loop : ∀ f i, i + f = c → hl_Run 41 (hl_call d) 2 [.ref 8, .int (nI c), .int (nI i)] [] (hl_g N I J) = some (some (.int (nI (hl_lof (I 8) c f i))), hl_g N I J) := by
    intro f
    induction f with
    | zero =>
      intro i hi
      obtain rfl : i = c := by omega
      simp only [hl_r41_0, hl_r41_1, hl_r41_2, hl_r41_3, hl_r41_4, hl_r41_7, hl_r41_8, hl_r41_9, hl_r41_10, hl_r41_11, hl_r41_12, hl_r41_13, hl_r41_16, hl_r41_17, hl_r41_18, hl_r41_21, hl_r41_24, hl_r41_25, Int32.le_refl, hl_lof, hl_kill_i, hl_kill_r, hl_kill_n, hl_kill_l, hl_tl_s, hl_tl_n, hl_cal_some, hl_gI, hl_gJ, hl_gsI, hl_gsJ, hl_tv01, if_true, if_false, hl_up_a, hl_row_a]
    | succ f ih =>
      intro i hi
      have c1 : ¬ nI c ≤ nI i := nI_ge (by omega) (by omega)
      have en : nI i + 1 = nI (i + 1) := (nI_succ i).symm
      have b : hl_inb (nI i) N = true := hl_inb_nI (by omega) (by omega)
      unfold hl_lof
      by_cases z : I 8 i = I 8 c
      · rw [if_pos z, hl_r41_2]
        simp only [hl_r41_0, hl_r41_1, hl_r41_3, hl_r41_4, hl_r41_7, hl_r41_8, hl_r41_9, hl_r41_10, hl_r41_11, hl_r41_12, hl_r41_13, hl_r41_16, hl_r41_17, hl_r41_18, hl_r41_21, hl_r41_24, hl_r41_25, hl_a_8, hl_z_8, c1, b, bc, nIc (show i < 2 ^ 31 by omega), nIc (show c < 2 ^ 31 by omega), z, not_true, hl_kill_i, hl_kill_r, hl_kill_n, hl_kill_l, hl_tl_s, hl_tl_n, hl_cal_some, hl_gI, hl_gJ, hl_gsI, hl_gsJ, hl_tv01, if_true, if_false, hl_up_a, hl_row_a]
      · rw [if_neg z, ← ih (i + 1) (by omega), hl_r41_2]
        simp only [hl_r41_0, hl_r41_1, hl_r41_3, hl_r41_4, hl_r41_7, hl_r41_8, hl_r41_9, hl_r41_10, hl_r41_11, hl_r41_12, hl_r41_13, hl_r41_16, hl_r41_17, hl_r41_18, hl_r41_21, hl_r41_24, hl_r41_25, hl_a_8, hl_z_8, c1, b, bc, nIc (show i < 2 ^ 31 by omega), nIc (show c < 2 ^ 31 by omega), z, not_false_eq_true, en, hl_kill_i, hl_kill_r, hl_kill_n, hl_kill_l, hl_tl_s, hl_tl_n, hl_cal_some, hl_gI, hl_gJ, hl_gsI, hl_gsJ, hl_tv01, if_true, if_false, hl_up_a, hl_row_a]
  have e := loop c 0 (by omega)
  rw [hl_e41, hl_r41_0, hl_r41_1]
  exact e
theorem hl_s220 {c : Nat} (hc : c < N) (hN : N ≤ 24) (h94 : ∀ i, i < N → I 94 i = g i) : hl_call (d + 1) 220 [.ref 85, .int (g c)] (hl_g N I J) = some (some (.int (nI (hl_lof g c c 0))), hl_g N I J) := by
  have loop : ∀ f i, i + f = c → hl_Run 220 (hl_call d) 2 [.ref 85, .int (g c), .int (nI i)] [] (hl_g N I J) = some (some (.int (nI (hl_lof g c f i))), hl_g N I J) := by
    intro f
    induction f with
    | zero =>
      intro i hi
      obtain rfl : i = c := by omega
      have b : hl_inb (nI i) 24 = true := hl_inb_nI (by omega) (by omega)
      simp only [hl_r220_0, hl_r220_1, hl_r220_2, hl_r220_3, hl_r220_6, hl_r220_7, hl_r220_8, hl_r220_9, hl_r220_12, hl_r220_15, hl_r220_18, hl_r220_19, hl_o_85, hl_p_85_3, hl_p_85_4, hl_p_85_5, hl_p_85_6, hl_p_85_19, hl_p_85_23, hl_p_85_24, hl_p_85_25, hl_p_85_26, hl_p_85_27, hl_p_85_28, hl_p_85_29, hl_p_85_30, hl_p_85_31, hl_p_85_33, hl_p_85_34, hl_p_85_35, hl_p_85_36, hl_p_85_37, hl_a_94, hl_z_94, b, nIc (show i < 2 ^ 31 by omega), h94 i (by omega), hl_lof, hl_kill_i, hl_kill_r, hl_kill_n, hl_kill_l, hl_tl_s, hl_tl_n, hl_cal_some, hl_gI, hl_gJ, hl_gsI, hl_gsJ, hl_tv01, if_true, if_false, hl_up_a, hl_row_a]
    | succ f ih =>
      intro i hi
      have en : nI i + 1 = nI (i + 1) := (nI_succ i).symm
      have b : hl_inb (nI i) 24 = true := hl_inb_nI (by omega) (by omega)
      unfold hl_lof
      by_cases z : g i = g c
      · rw [if_pos z, hl_r220_2]
        simp only [hl_r220_0, hl_r220_1, hl_r220_3, hl_r220_6, hl_r220_7, hl_r220_8, hl_r220_9, hl_r220_12, hl_r220_15, hl_r220_18, hl_r220_19, hl_o_85, hl_p_85_3, hl_p_85_4, hl_p_85_5, hl_p_85_6, hl_p_85_19, hl_p_85_23, hl_p_85_24, hl_p_85_25, hl_p_85_26, hl_p_85_27, hl_p_85_28, hl_p_85_29, hl_p_85_30, hl_p_85_31, hl_p_85_33, hl_p_85_34, hl_p_85_35, hl_p_85_36, hl_p_85_37, hl_a_94, hl_z_94, b, nIc (show i < 2 ^ 31 by omega), h94 i (by omega), z, hl_kill_i, hl_kill_r, hl_kill_n, hl_kill_l, hl_tl_s, hl_tl_n, hl_cal_some, hl_gI, hl_gJ, hl_gsI, hl_gsJ, hl_tv01, if_true, if_false, hl_up_a, hl_row_a]
      · rw [if_neg z, ← ih (i + 1) (by omega), hl_r220_2]
        simp only [hl_r220_0, hl_r220_1, hl_r220_3, hl_r220_6, hl_r220_7, hl_r220_8, hl_r220_9, hl_r220_12, hl_r220_15, hl_r220_18, hl_r220_19, hl_o_85, hl_p_85_3, hl_p_85_4, hl_p_85_5, hl_p_85_6, hl_p_85_19, hl_p_85_23, hl_p_85_24, hl_p_85_25, hl_p_85_26, hl_p_85_27, hl_p_85_28, hl_p_85_29, hl_p_85_30, hl_p_85_31, hl_p_85_33, hl_p_85_34, hl_p_85_35, hl_p_85_36, hl_p_85_37, hl_a_94, hl_z_94, b, nIc (show i < 2 ^ 31 by omega), h94 i (by omega), z, en, hl_kill_i, hl_kill_r, hl_kill_n, hl_kill_l, hl_tl_s, hl_tl_n, hl_cal_some, hl_gI, hl_gJ, hl_gsI, hl_gsJ, hl_tv01, if_true, if_false, hl_up_a, hl_row_a]
  have e := loop c 0 (by omega)
  rw [hl_e220, hl_r220_0, hl_r220_1]
  exact e
theorem hl_s40 (hN : N ≤ 24) (hL : hl_Lb 67 N I L) : hl_call (d + 2) 40 [.ref 66, .ref 8, .ref 7] (hl_g N I J) = some (some (.int (hl_fnd (hl_asp (I 7) (I 8) L) N 0)), hl_g N I J) := by
  have eN : Int32.ofNat N = nI N := rfl
  have loop : ∀ f i, i + f = N → hl_Run 40 (hl_call (d + 1)) 2 [.ref 66, .ref 8, .ref 7, .int (nI i)] [] (hl_g N I J) = some (some (.int (hl_fnd (hl_asp (I 7) (I 8) L) f i)), hl_g N I J) := by
    intro f
    induction f with
    | zero =>
      intro i hi
      obtain rfl : i = N := by omega
      simp only [hl_r40_0, hl_r40_1, hl_r40_2, hl_r40_3, hl_r40_4, hl_r40_7, hl_r40_8, hl_r40_11, hl_r40_12, hl_r40_13, hl_r40_14, hl_r40_15, hl_r40_18, hl_r40_19, hl_r40_20, hl_r40_21, hl_r40_22, hl_r40_23, hl_r40_24, hl_r40_27, hl_r40_28, hl_r40_29, hl_r40_30, hl_r40_33, hl_r40_34, hl_r40_35, hl_r40_36, hl_r40_37, hl_r40_40, hl_r40_43, hl_r40_44, hl_r40_45, hl_r40_48, hl_r40_51, hl_r40_52, hl_o_66, hl_p_66_1, hl_a_67, hl_z_67, hl_l_67, eN, Int32.le_refl, hl_fnd, hl_kill_i, hl_kill_r, hl_kill_n, hl_kill_l, hl_tl_s, hl_tl_n, hl_cal_some, hl_gI, hl_gJ, hl_gsI, hl_gsJ, hl_tv01, if_true, if_false, hl_up_a, hl_row_a]
    | succ f ih =>
      intro i hi
      have c1 : ¬ nI N ≤ nI i := nI_ge (by omega) (by omega)
      have en : nI i + 1 = nI (i + 1) := (nI_succ i).symm
      have b : hl_inb (nI i) N = true := hl_inb_nI (by omega) (by omega)
      have e41 := hl_s41 (d := d) (I := I) (J := J) (c := i) (show i < N by omega) hN
      have lle := hl_lof_le (h := I 8) (c := i) i 0 (by omega)
      have l1 := hL.1 i
      have eL := hL.2 i (by omega)
      unfold hl_fnd hl_asp
      rw [hl_r40_2]
      by_cases k1 : I 7 i = -1
      · by_cases z : L i = hl_lof (I 8) i i 0
        · rw [decide_eq_true k1, decide_eq_true z]
          rw [if_neg (by simp)]
          rw [show (fun i => !decide (I 7 i = -1) && !decide (I 7 i = I 8 i) || !decide (L i = hl_lof (I 8) i i 0)) = hl_asp (I 7) (I 8) L from rfl, ← ih (i + 1) (by omega)]
          simp only [hl_r40_0, hl_r40_1, hl_r40_3, hl_r40_4, hl_r40_7, hl_r40_8, hl_r40_11, hl_r40_12, hl_r40_13, hl_r40_14, hl_r40_15, hl_r40_18, hl_r40_19, hl_r40_20, hl_r40_21, hl_r40_22, hl_r40_23, hl_r40_24, hl_r40_27, hl_r40_28, hl_r40_29, hl_r40_30, hl_r40_33, hl_r40_34, hl_r40_35, hl_r40_36, hl_r40_37, hl_r40_40, hl_r40_43, hl_r40_44, hl_r40_45, hl_r40_48, hl_r40_51, hl_r40_52, hl_o_66, hl_p_66_1, hl_a_67, hl_z_67, hl_a_7, hl_z_7, hl_a_8, hl_z_8, hl_l_67, eN, c1, b, nIc (show i < 2 ^ 31 by omega), k1, eL, e41, z, en, hl_kill_i, hl_kill_r, hl_kill_n, hl_kill_l, hl_tl_s, hl_tl_n, hl_cal_some, hl_gI, hl_gJ, hl_gsI, hl_gsJ, hl_tv01, if_true, if_false, hl_up_a, hl_row_a]
        · rw [decide_eq_true k1, decide_eq_false z]
          rw [if_pos (by simp)]
          simp only [hl_r40_0, hl_r40_1, hl_r40_3, hl_r40_4, hl_r40_7, hl_r40_8, hl_r40_11, hl_r40_12, hl_r40_13, hl_r40_14, hl_r40_15, hl_r40_18, hl_r40_19, hl_r40_20, hl_r40_21, hl_r40_22, hl_r40_23, hl_r40_24, hl_r40_27, hl_r40_28, hl_r40_29, hl_r40_30, hl_r40_33, hl_r40_34, hl_r40_35, hl_r40_36, hl_r40_37, hl_r40_40, hl_r40_43, hl_r40_44, hl_r40_45, hl_r40_48, hl_r40_51, hl_r40_52, hl_o_66, hl_p_66_1, hl_a_67, hl_z_67, hl_a_7, hl_z_7, hl_a_8, hl_z_8, hl_l_67, eN, c1, b, nIc (show i < 2 ^ 31 by omega), k1, eL, e41, hl_nIL (show L i < 2 ^ 31 by omega) (show hl_lof (I 8) i i 0 < 2 ^ 31 by omega), z, hl_kill_i, hl_kill_r, hl_kill_n, hl_kill_l, hl_tl_s, hl_tl_n, hl_cal_some, hl_gI, hl_gJ, hl_gsI, hl_gsJ, hl_tv01, if_true, if_false, hl_up_a, hl_row_a]
      · by_cases k2 : I 7 i = I 8 i
        · by_cases z : L i = hl_lof (I 8) i i 0
          · rw [decide_eq_false k1, decide_eq_true k2, decide_eq_true z]
            rw [if_neg (by simp)]
            rw [show (fun i => !decide (I 7 i = -1) && !decide (I 7 i = I 8 i) || !decide (L i = hl_lof (I 8) i i 0)) = hl_asp (I 7) (I 8) L from rfl, ← ih (i + 1) (by omega)]
            have k1' : ¬ I 8 i = -1 := by rw [← k2]; exact k1
            simp only [hl_r40_0, hl_r40_1, hl_r40_3, hl_r40_4, hl_r40_7, hl_r40_8, hl_r40_11, hl_r40_12, hl_r40_13, hl_r40_14, hl_r40_15, hl_r40_18, hl_r40_19, hl_r40_20, hl_r40_21, hl_r40_22, hl_r40_23, hl_r40_24, hl_r40_27, hl_r40_28, hl_r40_29, hl_r40_30, hl_r40_33, hl_r40_34, hl_r40_35, hl_r40_36, hl_r40_37, hl_r40_40, hl_r40_43, hl_r40_44, hl_r40_45, hl_r40_48, hl_r40_51, hl_r40_52, hl_o_66, hl_p_66_1, hl_a_67, hl_z_67, hl_a_7, hl_z_7, hl_a_8, hl_z_8, hl_l_67, eN, c1, b, nIc (show i < 2 ^ 31 by omega), k1', k2, eL, e41, z, en, hl_kill_i, hl_kill_r, hl_kill_n, hl_kill_l, hl_tl_s, hl_tl_n, hl_cal_some, hl_gI, hl_gJ, hl_gsI, hl_gsJ, hl_tv01, if_true, if_false, hl_up_a, hl_row_a]
          · rw [decide_eq_false k1, decide_eq_true k2, decide_eq_false z]
            rw [if_pos (by simp)]
            have k1' : ¬ I 8 i = -1 := by rw [← k2]; exact k1
            simp only [hl_r40_0, hl_r40_1, hl_r40_3, hl_r40_4, hl_r40_7, hl_r40_8, hl_r40_11, hl_r40_12, hl_r40_13, hl_r40_14, hl_r40_15, hl_r40_18, hl_r40_19, hl_r40_20, hl_r40_21, hl_r40_22, hl_r40_23, hl_r40_24, hl_r40_27, hl_r40_28, hl_r40_29, hl_r40_30, hl_r40_33, hl_r40_34, hl_r40_35, hl_r40_36, hl_r40_37, hl_r40_40, hl_r40_43, hl_r40_44, hl_r40_45, hl_r40_48, hl_r40_51, hl_r40_52, hl_o_66, hl_p_66_1, hl_a_67, hl_z_67, hl_a_7, hl_z_7, hl_a_8, hl_z_8, hl_l_67, eN, c1, b, nIc (show i < 2 ^ 31 by omega), k1', k2, eL, e41, hl_nIL (show L i < 2 ^ 31 by omega) (show hl_lof (I 8) i i 0 < 2 ^ 31 by omega), z, hl_kill_i, hl_kill_r, hl_kill_n, hl_kill_l, hl_tl_s, hl_tl_n, hl_cal_some, hl_gI, hl_gJ, hl_gsI, hl_gsJ, hl_tv01, if_true, if_false, hl_up_a, hl_row_a]
        · rw [decide_eq_false k1, decide_eq_false k2]
          rw [if_pos (by cases decide (L i = hl_lof (I 8) i i 0) <;> rfl)]
          simp only [hl_r40_0, hl_r40_1, hl_r40_3, hl_r40_4, hl_r40_7, hl_r40_8, hl_r40_11, hl_r40_12, hl_r40_13, hl_r40_14, hl_r40_15, hl_r40_18, hl_r40_19, hl_r40_20, hl_r40_21, hl_r40_22, hl_r40_23, hl_r40_24, hl_r40_27, hl_r40_28, hl_r40_29, hl_r40_30, hl_r40_33, hl_r40_34, hl_r40_35, hl_r40_36, hl_r40_37, hl_r40_40, hl_r40_43, hl_r40_44, hl_r40_45, hl_r40_48, hl_r40_51, hl_r40_52, hl_o_66, hl_p_66_1, hl_a_67, hl_z_67, hl_a_7, hl_z_7, hl_a_8, hl_z_8, hl_l_67, eN, c1, b, nIc (show i < 2 ^ 31 by omega), k1, k2, hl_kill_i, hl_kill_r, hl_kill_n, hl_kill_l, hl_tl_s, hl_tl_n, hl_cal_some, hl_gI, hl_gJ, hl_gsI, hl_gsJ, hl_tv01, if_true, if_false, hl_up_a, hl_row_a]
  have e := loop N 0 (by omega)
  rw [hl_e40, hl_r40_0, hl_r40_1]
  exact e
theorem hl_s221 (hCo : hl_Co N W H Is) (hv : hl_vw Is I) (hN : N ≤ 24) (hs : hl_Sv Is 86 0 = (nh : Int)) (hn : nh ≤ 4) (hL : hl_Lb 95 N I L) (h94 : ∀ i, i < N → I 94 i = g i) : hl_call (d + 2) 221 [.ref 85] (hl_g N I J) = some (some (.int (hl_fnd (hl_asp (Is 7) g L) N 0)), hl_g N I J) := by
  have e2 : I 85 2 = nI N := (hv.1 2 (by omega)).trans hCo.mM
  have loop : ∀ f i, i + f = N → hl_Run 221 (hl_call (d + 1)) 2 [.ref 85, .int (nI i)] [] (hl_g N I J) = some (some (.int (hl_fnd (hl_asp (Is 7) g L) f i)), hl_g N I J) := by
    intro f
    induction f with
    | zero =>
      intro i hi
      obtain rfl : i = N := by omega
      simp only [hl_r221_0, hl_r221_1, hl_r221_2, hl_r221_3, hl_r221_4, hl_r221_7, hl_r221_10, hl_r221_11, hl_r221_12, hl_r221_13, hl_r221_16, hl_r221_19, hl_r221_20, hl_r221_21, hl_r221_22, hl_r221_25, hl_r221_26, hl_r221_29, hl_r221_30, hl_r221_31, hl_r221_34, hl_r221_35, hl_r221_38, hl_r221_39, hl_r221_40, hl_r221_41, hl_r221_42, hl_r221_45, hl_r221_46, hl_r221_47, hl_r221_50, hl_r221_53, hl_r221_54, hl_r221_55, hl_r221_58, hl_r221_61, hl_r221_62, hl_o_85, hl_p_85_3, hl_p_85_4, hl_p_85_5, hl_p_85_6, hl_p_85_19, hl_p_85_23, hl_p_85_24, hl_p_85_25, hl_p_85_26, hl_p_85_27, hl_p_85_28, hl_p_85_29, hl_p_85_30, hl_p_85_31, hl_p_85_33, hl_p_85_34, hl_p_85_35, hl_p_85_36, hl_p_85_37, e2, Int32.le_refl, hl_fnd, hl_kill_i, hl_kill_r, hl_kill_n, hl_kill_l, hl_tl_s, hl_tl_n, hl_cal_some, hl_gI, hl_gJ, hl_gsI, hl_gsJ, hl_tv01, if_true, if_false, hl_up_a, hl_row_a]
    | succ f ih =>
      intro i hi
      have c1 : ¬ nI N ≤ nI i := nI_ge (by omega) (by omega)
      have en : nI i + 1 = nI (i + 1) := (nI_succ i).symm
      have b : hl_inb (nI i) 24 = true := hl_inb_nI (by omega) (by omega)
      have e41 := hl_s220 (d := d) (I := I) (J := J) (c := i) (show i < N by omega) hN h94
      have lle := hl_lof_le (h := g) (c := i) i 0 (by omega)
      have l1 := hL.1 i
      have eL := hL.2 i (by omega)
      have eg := h94 i (by omega)
      obtain ⟨ek, hk⟩ := hCo.kept hN hs (show i < N by omega)
      have o5 := hl_of5 (d := d) (N := N) (I := I) (J := J) (show i < 24 by omega)
      rw [hv.2.1, ← ek] at o5
      unfold hl_fnd hl_asp
      rw [hl_r221_2]
      by_cases k1 : Is 7 i = -1
      · have kn : ((-1 : Int32) < 0) = True := by decide
        rw [k1] at o5
        by_cases z : L i = hl_lof g i i 0
        · rw [decide_eq_true k1, decide_eq_true z]
          rw [if_neg (by simp)]
          rw [show (fun i => !decide (Is 7 i = -1) && !decide (Is 7 i = g i) || !decide (L i = hl_lof g i i 0)) = hl_asp (Is 7) g L from rfl, ← ih (i + 1) (by omega)]
          simp only [hl_r221_0, hl_r221_1, hl_r221_3, hl_r221_4, hl_r221_7, hl_r221_10, hl_r221_11, hl_r221_12, hl_r221_13, hl_r221_16, hl_r221_19, hl_r221_20, hl_r221_21, hl_r221_22, hl_r221_25, hl_r221_26, hl_r221_29, hl_r221_30, hl_r221_31, hl_r221_34, hl_r221_35, hl_r221_38, hl_r221_39, hl_r221_40, hl_r221_41, hl_r221_42, hl_r221_45, hl_r221_46, hl_r221_47, hl_r221_50, hl_r221_53, hl_r221_54, hl_r221_55, hl_r221_58, hl_r221_61, hl_r221_62, hl_o_85, hl_p_85_3, hl_p_85_4, hl_p_85_5, hl_p_85_6, hl_p_85_19, hl_p_85_23, hl_p_85_24, hl_p_85_25, hl_p_85_26, hl_p_85_27, hl_p_85_28, hl_p_85_29, hl_p_85_30, hl_p_85_31, hl_p_85_33, hl_p_85_34, hl_p_85_35, hl_p_85_36, hl_p_85_37, hl_a_94, hl_z_94, hl_a_95, hl_z_95, e2, c1, o5, kn, b, nIc (show i < 2 ^ 31 by omega), eg, eL, e41, z, en, hl_kill_i, hl_kill_r, hl_kill_n, hl_kill_l, hl_tl_s, hl_tl_n, hl_cal_some, hl_gI, hl_gJ, hl_gsI, hl_gsJ, hl_tv01, if_true, if_false, hl_up_a, hl_row_a]
        · rw [decide_eq_true k1, decide_eq_false z]
          rw [if_pos (by simp)]
          simp only [hl_r221_0, hl_r221_1, hl_r221_3, hl_r221_4, hl_r221_7, hl_r221_10, hl_r221_11, hl_r221_12, hl_r221_13, hl_r221_16, hl_r221_19, hl_r221_20, hl_r221_21, hl_r221_22, hl_r221_25, hl_r221_26, hl_r221_29, hl_r221_30, hl_r221_31, hl_r221_34, hl_r221_35, hl_r221_38, hl_r221_39, hl_r221_40, hl_r221_41, hl_r221_42, hl_r221_45, hl_r221_46, hl_r221_47, hl_r221_50, hl_r221_53, hl_r221_54, hl_r221_55, hl_r221_58, hl_r221_61, hl_r221_62, hl_o_85, hl_p_85_3, hl_p_85_4, hl_p_85_5, hl_p_85_6, hl_p_85_19, hl_p_85_23, hl_p_85_24, hl_p_85_25, hl_p_85_26, hl_p_85_27, hl_p_85_28, hl_p_85_29, hl_p_85_30, hl_p_85_31, hl_p_85_33, hl_p_85_34, hl_p_85_35, hl_p_85_36, hl_p_85_37, hl_a_94, hl_z_94, hl_a_95, hl_z_95, e2, c1, o5, kn, b, nIc (show i < 2 ^ 31 by omega), eg, eL, e41, hl_nIL (show L i < 2 ^ 31 by omega) (show hl_lof g i i 0 < 2 ^ 31 by omega), z, hl_kill_i, hl_kill_r, hl_kill_n, hl_kill_l, hl_tl_s, hl_tl_n, hl_cal_some, hl_gI, hl_gJ, hl_gsI, hl_gsJ, hl_tv01, if_true, if_false, hl_up_a, hl_row_a]
      · obtain ⟨k, hk1, hk2⟩ := hk.resolve_left k1
        have kn : ¬ Is 7 i < 0 := by rw [hk2]; exact nI_pos (by omega)
        by_cases k2 : Is 7 i = g i
        · have kn' : ¬ g i < 0 := by rw [← k2]; exact kn
          rw [k2] at o5
          by_cases z : L i = hl_lof g i i 0
          · rw [decide_eq_false k1, decide_eq_true k2, decide_eq_true z]
            rw [if_neg (by simp)]
            rw [show (fun i => !decide (Is 7 i = -1) && !decide (Is 7 i = g i) || !decide (L i = hl_lof g i i 0)) = hl_asp (Is 7) g L from rfl, ← ih (i + 1) (by omega)]
            simp only [hl_r221_0, hl_r221_1, hl_r221_3, hl_r221_4, hl_r221_7, hl_r221_10, hl_r221_11, hl_r221_12, hl_r221_13, hl_r221_16, hl_r221_19, hl_r221_20, hl_r221_21, hl_r221_22, hl_r221_25, hl_r221_26, hl_r221_29, hl_r221_30, hl_r221_31, hl_r221_34, hl_r221_35, hl_r221_38, hl_r221_39, hl_r221_40, hl_r221_41, hl_r221_42, hl_r221_45, hl_r221_46, hl_r221_47, hl_r221_50, hl_r221_53, hl_r221_54, hl_r221_55, hl_r221_58, hl_r221_61, hl_r221_62, hl_o_85, hl_p_85_3, hl_p_85_4, hl_p_85_5, hl_p_85_6, hl_p_85_19, hl_p_85_23, hl_p_85_24, hl_p_85_25, hl_p_85_26, hl_p_85_27, hl_p_85_28, hl_p_85_29, hl_p_85_30, hl_p_85_31, hl_p_85_33, hl_p_85_34, hl_p_85_35, hl_p_85_36, hl_p_85_37, hl_a_94, hl_z_94, hl_a_95, hl_z_95, e2, c1, o5, kn', not_true, b, nIc (show i < 2 ^ 31 by omega), eg, eL, e41, z, en, hl_kill_i, hl_kill_r, hl_kill_n, hl_kill_l, hl_tl_s, hl_tl_n, hl_cal_some, hl_gI, hl_gJ, hl_gsI, hl_gsJ, hl_tv01, if_true, if_false, hl_up_a, hl_row_a]
          · rw [decide_eq_false k1, decide_eq_true k2, decide_eq_false z]
            rw [if_pos (by simp)]
            simp only [hl_r221_0, hl_r221_1, hl_r221_3, hl_r221_4, hl_r221_7, hl_r221_10, hl_r221_11, hl_r221_12, hl_r221_13, hl_r221_16, hl_r221_19, hl_r221_20, hl_r221_21, hl_r221_22, hl_r221_25, hl_r221_26, hl_r221_29, hl_r221_30, hl_r221_31, hl_r221_34, hl_r221_35, hl_r221_38, hl_r221_39, hl_r221_40, hl_r221_41, hl_r221_42, hl_r221_45, hl_r221_46, hl_r221_47, hl_r221_50, hl_r221_53, hl_r221_54, hl_r221_55, hl_r221_58, hl_r221_61, hl_r221_62, hl_o_85, hl_p_85_3, hl_p_85_4, hl_p_85_5, hl_p_85_6, hl_p_85_19, hl_p_85_23, hl_p_85_24, hl_p_85_25, hl_p_85_26, hl_p_85_27, hl_p_85_28, hl_p_85_29, hl_p_85_30, hl_p_85_31, hl_p_85_33, hl_p_85_34, hl_p_85_35, hl_p_85_36, hl_p_85_37, hl_a_94, hl_z_94, hl_a_95, hl_z_95, e2, c1, o5, kn', not_true, b, nIc (show i < 2 ^ 31 by omega), eg, eL, e41, hl_nIL (show L i < 2 ^ 31 by omega) (show hl_lof g i i 0 < 2 ^ 31 by omega), z, hl_kill_i, hl_kill_r, hl_kill_n, hl_kill_l, hl_tl_s, hl_tl_n, hl_cal_some, hl_gI, hl_gJ, hl_gsI, hl_gsJ, hl_tv01, if_true, if_false, hl_up_a, hl_row_a]
        · rw [decide_eq_false k1, decide_eq_false k2]
          rw [if_pos (by cases decide (L i = hl_lof g i i 0) <;> rfl)]
          simp only [hl_r221_0, hl_r221_1, hl_r221_3, hl_r221_4, hl_r221_7, hl_r221_10, hl_r221_11, hl_r221_12, hl_r221_13, hl_r221_16, hl_r221_19, hl_r221_20, hl_r221_21, hl_r221_22, hl_r221_25, hl_r221_26, hl_r221_29, hl_r221_30, hl_r221_31, hl_r221_34, hl_r221_35, hl_r221_38, hl_r221_39, hl_r221_40, hl_r221_41, hl_r221_42, hl_r221_45, hl_r221_46, hl_r221_47, hl_r221_50, hl_r221_53, hl_r221_54, hl_r221_55, hl_r221_58, hl_r221_61, hl_r221_62, hl_o_85, hl_p_85_3, hl_p_85_4, hl_p_85_5, hl_p_85_6, hl_p_85_19, hl_p_85_23, hl_p_85_24, hl_p_85_25, hl_p_85_26, hl_p_85_27, hl_p_85_28, hl_p_85_29, hl_p_85_30, hl_p_85_31, hl_p_85_33, hl_p_85_34, hl_p_85_35, hl_p_85_36, hl_p_85_37, hl_a_94, hl_z_94, hl_a_95, hl_z_95, e2, c1, o5, kn, not_false_eq_true, b, nIc (show i < 2 ^ 31 by omega), eg, k2, hl_kill_i, hl_kill_r, hl_kill_n, hl_kill_l, hl_tl_s, hl_tl_n, hl_cal_some, hl_gI, hl_gJ, hl_gsI, hl_gsJ, hl_tv01, if_true, if_false, hl_up_a, hl_row_a]
  have e := loop N 0 (by omega)
  rw [hl_e221, hl_r221_0, hl_r221_1]
  exact e
/-- divided -/
theorem hl_s13 {s : Nat} (hN : N ≤ 24) : hl_call (d + 1) 13 [.ref 1, .int (nI s)] (hl_g N I J) = some (some (.int (hl_tv (hl_dvi (I 4) (I 8) (nI s) N))), hl_g N I J) := by
  have eN : Int32.ofNat N = nI N := rfl
  have loop : ∀ f i, i + f = N → hl_dvi (I 4) (I 8) (nI s) i = false → hl_Run 13 (hl_call d) 4 [.ref 1, .int (nI s), .int (hl_dvh (I 4) (I 8) (nI s) i), .int (nI i)] [] (hl_g N I J) = some (some (.int (hl_tv (hl_dvi (I 4) (I 8) (nI s) N))), hl_g N I J) := by
    intro f
    induction f with
    | zero =>
      intro i hi hd
      obtain rfl : i = N := by omega
      rw [hd]
      simp only [hl_r13_0, hl_r13_1, hl_r13_2, hl_r13_3, hl_r13_4, hl_r13_5, hl_r13_6, hl_r13_9, hl_r13_10, hl_r13_13, hl_r13_14, hl_r13_17, hl_r13_18, hl_r13_19, hl_r13_20, hl_r13_23, hl_r13_24, hl_r13_25, hl_r13_28, hl_r13_29, hl_r13_32, hl_r13_33, hl_r13_34, hl_r13_35, hl_r13_38, hl_r13_39, hl_r13_40, hl_r13_41, hl_r13_44, hl_r13_45, hl_r13_46, hl_r13_47, hl_r13_50, hl_r13_51, hl_r13_54, hl_r13_55, hl_r13_56, hl_r13_57, hl_r13_60, hl_r13_63, hl_r13_64, hl_o_1, hl_p_1_0, hl_p_1_1, hl_p_1_2, hl_p_1_3, hl_p_1_4, hl_p_1_5, hl_p_1_6, hl_p_1_7, hl_p_1_9, hl_p_1_14, hl_p_1_15, hl_a_4, hl_z_4, hl_l_4, eN, Int32.le_refl, true_or, hl_tv_f, hl_kill_i, hl_kill_r, hl_kill_n, hl_kill_l, hl_tl_s, hl_tl_n, hl_cal_some, hl_gI, hl_gJ, hl_gsI, hl_gsJ, hl_tv01, if_true, if_false, hl_up_a, hl_row_a]
    | succ f ih =>
      intro i hi hd
      have c1 : ¬ nI N ≤ nI i := nI_ge (by omega) (by omega)
      have en : nI i + 1 = nI (i + 1) := (nI_succ i).symm
      have b : hl_inb (nI i) N = true := hl_inb_nI (by omega) (by omega)
      have ih' := ih (i + 1) (by omega)
      have hd1 : hl_dvi (I 4) (I 8) (nI s) (i + 1) = (hl_dvi (I 4) (I 8) (nI s) i || (decide (I 4 i = nI s) && !decide (hl_dvh (I 4) (I 8) (nI s) i = -1) && !decide (I 8 i = hl_dvh (I 4) (I 8) (nI s) i))) := rfl
      have hh1 : hl_dvh (I 4) (I 8) (nI s) (i + 1) = if I 4 i = nI s then I 8 i else hl_dvh (I 4) (I 8) (nI s) i := rfl
      rw [hd, Bool.false_or] at hd1
      rw [hl_r13_4]
      by_cases z1 : I 4 i = nI s
      · rw [if_pos z1] at hh1
        rw [hh1] at ih'
        by_cases z2 : hl_dvh (I 4) (I 8) (nI s) i = -1
        · rw [← ih' (by rw [hd1, decide_eq_true z2]; cases decide (I 4 i = nI s) <;> rfl)]
          simp only [hl_r13_0, hl_r13_1, hl_r13_2, hl_r13_3, hl_r13_5, hl_r13_6, hl_r13_9, hl_r13_10, hl_r13_13, hl_r13_14, hl_r13_17, hl_r13_18, hl_r13_19, hl_r13_20, hl_r13_23, hl_r13_24, hl_r13_25, hl_r13_28, hl_r13_29, hl_r13_32, hl_r13_33, hl_r13_34, hl_r13_35, hl_r13_38, hl_r13_39, hl_r13_40, hl_r13_41, hl_r13_44, hl_r13_45, hl_r13_46, hl_r13_47, hl_r13_50, hl_r13_51, hl_r13_54, hl_r13_55, hl_r13_56, hl_r13_57, hl_r13_60, hl_r13_63, hl_r13_64, hl_o_1, hl_p_1_0, hl_p_1_1, hl_p_1_2, hl_p_1_3, hl_p_1_4, hl_p_1_5, hl_p_1_6, hl_p_1_7, hl_p_1_9, hl_p_1_14, hl_p_1_15, hl_a_4, hl_z_4, hl_a_8, hl_z_8, hl_l_4, eN, c1, b, nIc (show i < 2 ^ 31 by omega), z1, z2, not_true, en, hl_kill_i, hl_kill_r, hl_kill_n, hl_kill_l, hl_tl_s, hl_tl_n, hl_cal_some, hl_gI, hl_gJ, hl_gsI, hl_gsJ, hl_tv01, if_true, if_false, hl_up_a, hl_row_a]
        · by_cases z3 : I 8 i = hl_dvh (I 4) (I 8) (nI s) i
          · rw [← ih' (by rw [hd1, decide_eq_true z3]; cases decide (I 4 i = nI s) <;> cases decide (hl_dvh (I 4) (I 8) (nI s) i = -1) <;> rfl)]
            simp only [hl_r13_0, hl_r13_1, hl_r13_2, hl_r13_3, hl_r13_5, hl_r13_6, hl_r13_9, hl_r13_10, hl_r13_13, hl_r13_14, hl_r13_17, hl_r13_18, hl_r13_19, hl_r13_20, hl_r13_23, hl_r13_24, hl_r13_25, hl_r13_28, hl_r13_29, hl_r13_32, hl_r13_33, hl_r13_34, hl_r13_35, hl_r13_38, hl_r13_39, hl_r13_40, hl_r13_41, hl_r13_44, hl_r13_45, hl_r13_46, hl_r13_47, hl_r13_50, hl_r13_51, hl_r13_54, hl_r13_55, hl_r13_56, hl_r13_57, hl_r13_60, hl_r13_63, hl_r13_64, hl_o_1, hl_p_1_0, hl_p_1_1, hl_p_1_2, hl_p_1_3, hl_p_1_4, hl_p_1_5, hl_p_1_6, hl_p_1_7, hl_p_1_9, hl_p_1_14, hl_p_1_15, hl_a_4, hl_z_4, hl_a_8, hl_z_8, hl_l_4, eN, c1, b, nIc (show i < 2 ^ 31 by omega), z1, z2, z3, not_true, en, hl_kill_i, hl_kill_r, hl_kill_n, hl_kill_l, hl_tl_s, hl_tl_n, hl_cal_some, hl_gI, hl_gJ, hl_gsI, hl_gsJ, hl_tv01, if_true, if_false, hl_up_a, hl_row_a]
          · rw [decide_eq_true z1, decide_eq_false z2, decide_eq_false z3] at hd1
            rw [hl_dvi_mono hd1 N (by omega)]
            simp only [hl_r13_0, hl_r13_1, hl_r13_2, hl_r13_3, hl_r13_5, hl_r13_6, hl_r13_9, hl_r13_10, hl_r13_13, hl_r13_14, hl_r13_17, hl_r13_18, hl_r13_19, hl_r13_20, hl_r13_23, hl_r13_24, hl_r13_25, hl_r13_28, hl_r13_29, hl_r13_32, hl_r13_33, hl_r13_34, hl_r13_35, hl_r13_38, hl_r13_39, hl_r13_40, hl_r13_41, hl_r13_44, hl_r13_45, hl_r13_46, hl_r13_47, hl_r13_50, hl_r13_51, hl_r13_54, hl_r13_55, hl_r13_56, hl_r13_57, hl_r13_60, hl_r13_63, hl_r13_64, hl_o_1, hl_p_1_0, hl_p_1_1, hl_p_1_2, hl_p_1_3, hl_p_1_4, hl_p_1_5, hl_p_1_6, hl_p_1_7, hl_p_1_9, hl_p_1_14, hl_p_1_15, hl_a_4, hl_z_4, hl_a_8, hl_z_8, hl_l_4, eN, c1, b, nIc (show i < 2 ^ 31 by omega), z1, z2, z3, not_true, or_true, hl_tv_t, hl_kill_i, hl_kill_r, hl_kill_n, hl_kill_l, hl_tl_s, hl_tl_n, hl_cal_some, hl_gI, hl_gJ, hl_gsI, hl_gsJ, hl_tv01, if_true, if_false, hl_up_a, hl_row_a]
      · rw [if_neg z1] at hh1
        rw [hh1] at ih'
        rw [← ih' (by rw [hd1, decide_eq_false z1]; rfl)]
        simp only [hl_r13_0, hl_r13_1, hl_r13_2, hl_r13_3, hl_r13_5, hl_r13_6, hl_r13_9, hl_r13_10, hl_r13_13, hl_r13_14, hl_r13_17, hl_r13_18, hl_r13_19, hl_r13_20, hl_r13_23, hl_r13_24, hl_r13_25, hl_r13_28, hl_r13_29, hl_r13_32, hl_r13_33, hl_r13_34, hl_r13_35, hl_r13_38, hl_r13_39, hl_r13_40, hl_r13_41, hl_r13_44, hl_r13_45, hl_r13_46, hl_r13_47, hl_r13_50, hl_r13_51, hl_r13_54, hl_r13_55, hl_r13_56, hl_r13_57, hl_r13_60, hl_r13_63, hl_r13_64, hl_o_1, hl_p_1_0, hl_p_1_1, hl_p_1_2, hl_p_1_3, hl_p_1_4, hl_p_1_5, hl_p_1_6, hl_p_1_7, hl_p_1_9, hl_p_1_14, hl_p_1_15, hl_a_4, hl_z_4, hl_a_8, hl_z_8, hl_l_4, eN, c1, b, nIc (show i < 2 ^ 31 by omega), z1, not_false_eq_true, en, hl_kill_i, hl_kill_r, hl_kill_n, hl_kill_l, hl_tl_s, hl_tl_n, hl_cal_some, hl_gI, hl_gJ, hl_gsI, hl_gsJ, hl_tv01, if_true, if_false, hl_up_a, hl_row_a]
  have e := loop N 0 (by omega) rfl
  rw [hl_e13, hl_r13_0, hl_r13_1, hl_r13_2, hl_r13_3]
  exact e
theorem hl_s12 (hN : N ≤ 24) : hl_call (d + 2) 12 [.ref 1] (hl_g N I J) = some (some (.int (hl_sum 6 (hl_dvs N (I 4) (I 8)))), hl_g N I J) := by
  have loop : ∀ f i, i + f = 6 → hl_Run 12 (hl_call (d + 1)) 4 [.ref 1, .int (hl_sum i (hl_dvs N (I 4) (I 8))), .int (nI i)] [] (hl_g N I J) = some (some (.int (hl_sum 6 (hl_dvs N (I 4) (I 8)))), hl_g N I J) := by
    intro f
    induction f with
    | zero =>
      intro i hi
      obtain rfl : i = 6 := by omega
      have c1 : (6 : Int32) ≤ nI 6 := Int32.le_refl _
      simp only [hl_r12_0, hl_r12_1, hl_r12_2, hl_r12_3, hl_r12_4, hl_r12_5, hl_r12_7, hl_r12_10, hl_r12_11, hl_r12_12, hl_r12_15, hl_r12_18, hl_r12_21, hl_r12_24, hl_r12_27, hl_r12_28, c1, hl_kill_i, hl_kill_r, hl_kill_n, hl_kill_l, hl_tl_s, hl_tl_n, hl_cal_some, hl_gI, hl_gJ, hl_gsI, hl_gsJ, hl_tv01, if_true, if_false, hl_up_a, hl_row_a]
    | succ f ih =>
      intro i hi
      have c1 : ¬ (6 : Int32) ≤ nI i := show ¬ nI 6 ≤ nI i from nI_ge (by omega) (by omega)
      have en : nI i + 1 = nI (i + 1) := (nI_succ i).symm
      have e := ih (i + 1) (by omega)
      rw [show hl_sum (i + 1) (hl_dvs N (I 4) (I 8)) = hl_sum i (hl_dvs N (I 4) (I 8)) + hl_dvs N (I 4) (I 8) i from rfl] at e
      have e13 := hl_s13 (d := d) (I := I) (J := J) (s := i) hN
      unfold hl_dvs at e
      cases z : hl_dvi (I 4) (I 8) (nI i) N with
      | true =>
        rw [z, if_pos rfl] at e
        rw [z] at e13
        unfold hl_dvs
        rw [← e, hl_r12_4]
        simp only [hl_r12_0, hl_r12_1, hl_r12_2, hl_r12_3, hl_r12_5, hl_r12_7, hl_r12_10, hl_r12_11, hl_r12_12, hl_r12_15, hl_r12_18, hl_r12_21, hl_r12_24, hl_r12_27, hl_r12_28, hl_o_1, hl_p_1_0, hl_p_1_1, hl_p_1_2, hl_p_1_3, hl_p_1_4, hl_p_1_5, hl_p_1_6, hl_p_1_7, hl_p_1_9, hl_p_1_14, hl_p_1_15, c1, e13, hl_tv_t, hl_10, en, hl_kill_i, hl_kill_r, hl_kill_n, hl_kill_l, hl_tl_s, hl_tl_n, hl_cal_some, hl_gI, hl_gJ, hl_gsI, hl_gsJ, hl_tv01, if_true, if_false, hl_up_a, hl_row_a]
      | false =>
        rw [z, if_neg (by decide), Int32.add_zero] at e
        rw [z] at e13
        unfold hl_dvs
        rw [← e, hl_r12_4]
        simp only [hl_r12_0, hl_r12_1, hl_r12_2, hl_r12_3, hl_r12_5, hl_r12_7, hl_r12_10, hl_r12_11, hl_r12_12, hl_r12_15, hl_r12_18, hl_r12_21, hl_r12_24, hl_r12_27, hl_r12_28, hl_o_1, hl_p_1_0, hl_p_1_1, hl_p_1_2, hl_p_1_3, hl_p_1_4, hl_p_1_5, hl_p_1_6, hl_p_1_7, hl_p_1_9, hl_p_1_14, hl_p_1_15, c1, e13, hl_tv_f, en, hl_kill_i, hl_kill_r, hl_kill_n, hl_kill_l, hl_tl_s, hl_tl_n, hl_cal_some, hl_gI, hl_gJ, hl_gsI, hl_gsJ, hl_tv01, if_true, if_false, hl_up_a, hl_row_a]
  have e := loop 6 0 (by omega)
  rw [hl_e12, hl_r12_0, hl_r12_1, hl_r12_2, hl_r12_3]
  exact e
theorem hl_dvh_n {st pt : Nat → Int32} {s : Int32} (h : ∀ i, i < N → ∃ p, p < 4 ∧ pt i = nI p) (i : Nat) (hi : i ≤ N) : hl_dvh st pt s i = -1 ∨ ∃ p, p < 4 ∧ hl_dvh st pt s i = nI p := by
  induction i with
  | zero => exact .inl rfl
  | succ i ih =>
    unfold hl_dvh
    split
    · exact .inr (h i (by omega))
    · exact ih (by omega)
theorem hl_l219 {s : Nat} {n : Int32} (hCo : hl_Co N W H Is) (hv : hl_vw Is I) (hN : N ≤ 24) (h94 : ∀ i, i < N → I 94 i = g i) (hg : ∀ i, i < N → ∃ p, p < 4 ∧ g i = nI p) (f : Nat) : ∀ i, i + f = N → hl_Run 219 (hl_call (d + 1)) 18 [.ref 85, .int n, .int (nI s), .int (hl_dvh (Is 4) g (nI s) i), .int (hl_tv (hl_dvi (Is 4) g (nI s) i)), .int (nI i)] [] (hl_g N I J) = hl_Run 219 (hl_call (d + 1)) 82 [.ref 85, .int n, .int (nI s), .int (hl_dvh (Is 4) g (nI s) N), .int (hl_tv (hl_dvi (Is 4) g (nI s) N)), .int (nI N)] [] (hl_g N I J) := by
  have e2 : I 85 2 = nI N := (hv.1 2 (by omega)).trans hCo.mM
  induction f with
  | zero =>
    intro i hi
    obtain rfl : i = N := by omega
    simp only [hl_r219_18, hl_r219_20, hl_r219_21, hl_r219_24, hl_o_85, hl_p_85_3, hl_p_85_4, hl_p_85_5, hl_p_85_6, hl_p_85_19, hl_p_85_23, hl_p_85_24, hl_p_85_25, hl_p_85_26, hl_p_85_27, hl_p_85_28, hl_p_85_29, hl_p_85_30, hl_p_85_31, hl_p_85_33, hl_p_85_34, hl_p_85_35, hl_p_85_36, hl_p_85_37, e2, Int32.le_refl, hl_kill_i, hl_kill_r, hl_kill_n, hl_kill_l, hl_tl_s, hl_tl_n, hl_cal_some, hl_gI, hl_gJ, hl_gsI, hl_gsJ, hl_tv01, if_true, if_false, hl_up_a, hl_row_a]
  | succ f ih =>
    intro i hi
    have c1 : ¬ nI N ≤ nI i := nI_ge (by omega) (by omega)
    have en : nI i + 1 = nI (i + 1) := (nI_succ i).symm
    have b : hl_inb (nI i) 24 = true := hl_inb_nI (by omega) (by omega)
    have eg := h94 i (by omega)
    have o2 := hl_of2 (d := d) (N := N) (I := I) (J := J) (show i < 24 by omega)
    rw [hv.2.1, ← show Is 4 i = Is 86 (30 + 7 * i + 2) from hCo.2.1.1.cell (i := 2) hN (by omega) (by omega)] at o2
    have hd1 : hl_dvi (Is 4) g (nI s) (i + 1) = (hl_dvi (Is 4) g (nI s) i || (decide (Is 4 i = nI s) && !decide (hl_dvh (Is 4) g (nI s) i = -1) && !decide (g i = hl_dvh (Is 4) g (nI s) i))) := rfl
    have hh1 : hl_dvh (Is 4) g (nI s) (i + 1) = if Is 4 i = nI s then g i else hl_dvh (Is 4) g (nI s) i := rfl
    rw [← ih (i + 1) (by omega), hd1, hh1, hl_r219_18]
    by_cases z1 : Is 4 i = nI s
    · rw [if_pos z1, decide_eq_true z1]
      cases hd : hl_dvi (Is 4) g (nI s) i with
      | true =>
        simp only [hl_r219_20, hl_r219_21, hl_r219_24, hl_r219_27, hl_r219_28, hl_r219_30, hl_r219_31, hl_r219_34, hl_r219_35, hl_r219_41, hl_r219_43, hl_r219_61, hl_r219_62, hl_r219_66, hl_r219_68, hl_r219_69, hl_r219_72, hl_r219_74, hl_r219_75, hl_r219_76, hl_r219_79, hl_o_85, hl_p_85_3, hl_p_85_4, hl_p_85_5, hl_p_85_6, hl_p_85_19, hl_p_85_23, hl_p_85_24, hl_p_85_25, hl_p_85_26, hl_p_85_27, hl_p_85_28, hl_p_85_29, hl_p_85_30, hl_p_85_31, hl_p_85_33, hl_p_85_34, hl_p_85_35, hl_p_85_36, hl_p_85_37, hl_a_94, hl_z_94, e2, c1, o2, z1, hl_tv_t, hl_10, not_false_eq_true, Bool.true_or, b, nIc (show i < 2 ^ 31 by omega), eg, en, hl_kill_i, hl_kill_r, hl_kill_n, hl_kill_l, hl_tl_s, hl_tl_n, hl_cal_some, hl_gI, hl_gJ, hl_gsI, hl_gsJ, hl_tv01, if_true, if_false, hl_up_a, hl_row_a]
      | false =>
        rcases hl_dvh_n (st := Is 4) (pt := g) (s := nI s) hg i (by omega) with z2 | ⟨p, p1, p2⟩
        · have kn : ((-1 : Int32) < 0) = True := by decide
          rw [decide_eq_true z2, z2]
          simp only [hl_r219_20, hl_r219_21, hl_r219_24, hl_r219_27, hl_r219_28, hl_r219_30, hl_r219_31, hl_r219_34, hl_r219_35, hl_r219_41, hl_r219_43, hl_r219_46, hl_r219_47, hl_r219_65, hl_r219_66, hl_r219_68, hl_r219_69, hl_r219_72, hl_r219_74, hl_r219_75, hl_r219_76, hl_r219_79, hl_o_85, hl_p_85_3, hl_p_85_4, hl_p_85_5, hl_p_85_6, hl_p_85_19, hl_p_85_23, hl_p_85_24, hl_p_85_25, hl_p_85_26, hl_p_85_27, hl_p_85_28, hl_p_85_29, hl_p_85_30, hl_p_85_31, hl_p_85_33, hl_p_85_34, hl_p_85_35, hl_p_85_36, hl_p_85_37, hl_a_94, hl_z_94, e2, c1, o2, z1, kn, hl_tv_f, not_true, Bool.not_true, Bool.and_false, Bool.false_and, Bool.or_false, b, nIc (show i < 2 ^ 31 by omega), eg, en, hl_kill_i, hl_kill_r, hl_kill_n, hl_kill_l, hl_tl_s, hl_tl_n, hl_cal_some, hl_gI, hl_gJ, hl_gsI, hl_gsJ, hl_tv01, if_true, if_false, hl_up_a, hl_row_a]
        · have z2 : ¬ hl_dvh (Is 4) g (nI s) i = -1 := by
            rw [p2]
            intro q
            have := congrArg Int32.toInt q
            rw [hl_tI (by omega), show (-1 : Int32).toInt = -1 from rfl] at this
            omega
          have kn : ¬ nI p < 0 := nI_pos (by omega)
          rw [decide_eq_false z2]
          by_cases z3 : g i = hl_dvh (Is 4) g (nI s) i
          · rw [decide_eq_true z3, ← z3]
            rw [p2] at z3
            rw [z3] at eg ⊢
            simp only [hl_r219_20, hl_r219_21, hl_r219_24, hl_r219_27, hl_r219_28, hl_r219_30, hl_r219_31, hl_r219_34, hl_r219_35, hl_r219_41, hl_r219_43, hl_r219_46, hl_r219_47, hl_r219_50, hl_r219_51, hl_r219_54, hl_r219_56, hl_r219_57, hl_r219_58, hl_r219_65, hl_r219_66, hl_r219_68, hl_r219_69, hl_r219_72, hl_r219_74, hl_r219_75, hl_r219_76, hl_r219_79, hl_o_85, hl_p_85_3, hl_p_85_4, hl_p_85_5, hl_p_85_6, hl_p_85_19, hl_p_85_23, hl_p_85_24, hl_p_85_25, hl_p_85_26, hl_p_85_27, hl_p_85_28, hl_p_85_29, hl_p_85_30, hl_p_85_31, hl_p_85_33, hl_p_85_34, hl_p_85_35, hl_p_85_36, hl_p_85_37, hl_a_94, hl_z_94, e2, c1, o2, z1, kn, hl_tv_f, not_true, Bool.not_true, Bool.and_false, Bool.or_false, b, nIc (show i < 2 ^ 31 by omega), eg, en, hl_kill_i, hl_kill_r, hl_kill_n, hl_kill_l, hl_tl_s, hl_tl_n, hl_cal_some, hl_gI, hl_gJ, hl_gsI, hl_gsJ, hl_tv01, if_true, if_false, hl_up_a, hl_row_a]
          · rw [decide_eq_false z3]
            rw [p2] at z3 ⊢
            simp only [hl_r219_20, hl_r219_21, hl_r219_24, hl_r219_27, hl_r219_28, hl_r219_30, hl_r219_31, hl_r219_34, hl_r219_35, hl_r219_41, hl_r219_43, hl_r219_46, hl_r219_47, hl_r219_50, hl_r219_51, hl_r219_54, hl_r219_56, hl_r219_57, hl_r219_58, hl_r219_61, hl_r219_62, hl_r219_66, hl_r219_68, hl_r219_69, hl_r219_72, hl_r219_74, hl_r219_75, hl_r219_76, hl_r219_79, hl_o_85, hl_p_85_3, hl_p_85_4, hl_p_85_5, hl_p_85_6, hl_p_85_19, hl_p_85_23, hl_p_85_24, hl_p_85_25, hl_p_85_26, hl_p_85_27, hl_p_85_28, hl_p_85_29, hl_p_85_30, hl_p_85_31, hl_p_85_33, hl_p_85_34, hl_p_85_35, hl_p_85_36, hl_p_85_37, hl_a_94, hl_z_94, e2, c1, o2, z1, kn, z3, hl_tv_f, hl_tv_t, not_true, Bool.not_false, Bool.and_true, Bool.or_true, b, nIc (show i < 2 ^ 31 by omega), eg, en, hl_kill_i, hl_kill_r, hl_kill_n, hl_kill_l, hl_tl_s, hl_tl_n, hl_cal_some, hl_gI, hl_gJ, hl_gsI, hl_gsJ, hl_tv01, if_true, if_false, hl_up_a, hl_row_a]
    · rw [if_neg z1, decide_eq_false z1, Bool.false_and, Bool.false_and, Bool.or_false]
      simp only [hl_r219_20, hl_r219_21, hl_r219_24, hl_r219_27, hl_r219_28, hl_r219_30, hl_r219_31, hl_r219_34, hl_r219_35, hl_r219_38, hl_r219_76, hl_r219_79, hl_o_85, hl_p_85_3, hl_p_85_4, hl_p_85_5, hl_p_85_6, hl_p_85_19, hl_p_85_23, hl_p_85_24, hl_p_85_25, hl_p_85_26, hl_p_85_27, hl_p_85_28, hl_p_85_29, hl_p_85_30, hl_p_85_31, hl_p_85_33, hl_p_85_34, hl_p_85_35, hl_p_85_36, hl_p_85_37, e2, c1, o2, z1, en, hl_kill_i, hl_kill_r, hl_kill_n, hl_kill_l, hl_tl_s, hl_tl_n, hl_cal_some, hl_gI, hl_gJ, hl_gsI, hl_gsJ, hl_tv01, if_true, if_false, hl_up_a, hl_row_a]
theorem hl_s219 (hCo : hl_Co N W H Is) (hv : hl_vw Is I) (hN : N ≤ 24) (h94 : ∀ i, i < N → I 94 i = g i) (hg : ∀ i, i < N → ∃ p, p < 4 ∧ g i = nI p) : hl_call (d + 2) 219 [.ref 85] (hl_g N I J) = some (some (.int (hl_sum 6 (hl_dvs N (Is 4) g))), hl_g N I J) := by
  have loop : ∀ f i (l3 l4 l5 : Value), i + f = 6 → hl_Run 219 (hl_call (d + 1)) 4 [.ref 85, .int (hl_sum i (hl_dvs N (Is 4) g)), .int (nI i), l3, l4, l5] [] (hl_g N I J) = some (some (.int (hl_sum 6 (hl_dvs N (Is 4) g))), hl_g N I J) := by
    intro f
    induction f with
    | zero =>
      intro i l3 l4 l5 hi
      obtain rfl : i = 6 := by omega
      have c1 : (6 : Int32) ≤ nI 6 := Int32.le_refl _
      simp only [hl_r219_4, hl_r219_5, hl_r219_7, hl_r219_101, hl_r219_102, c1, hl_kill_i, hl_kill_r, hl_kill_n, hl_kill_l, hl_tl_s, hl_tl_n, hl_cal_some, hl_gI, hl_gJ, hl_gsI, hl_gsJ, hl_tv01, if_true, if_false, hl_up_a, hl_row_a]
    | succ f ih =>
      intro i l3 l4 l5 hi
      have c1 : ¬ (6 : Int32) ≤ nI i := show ¬ nI 6 ≤ nI i from nI_ge (by omega) (by omega)
      have en : nI i + 1 = nI (i + 1) := (nI_succ i).symm
      have e := ih (i + 1) (.int (hl_dvh (Is 4) g (nI i) N)) (.int (hl_tv (hl_dvi (Is 4) g (nI i) N))) (.int (nI N)) (by omega)
      have li := hl_l219 (d := d) (J := J) (s := i) (n := hl_sum i (hl_dvs N (Is 4) g)) hCo hv hN h94 hg N 0 (by omega)
      rw [show hl_dvh (Is 4) g (nI i) 0 = -1 from rfl, show hl_tv (hl_dvi (Is 4) g (nI i) 0) = 0 from rfl, show nI 0 = 0 from rfl] at li
      rw [show hl_sum (i + 1) (hl_dvs N (Is 4) g) = hl_sum i (hl_dvs N (Is 4) g) + hl_dvs N (Is 4) g i from rfl, show hl_dvs N (Is 4) g i = if hl_dvi (Is 4) g (nI i) N = true then 1 else 0 from rfl] at e
      have st : hl_Run 219 (hl_call (d + 1)) 4 [.ref 85, .int (hl_sum i (hl_dvs N (Is 4) g)), .int (nI i), l3, l4, l5] [] (hl_g N I J) = hl_Run 219 (hl_call (d + 1)) 18 [.ref 85, .int (hl_sum i (hl_dvs N (Is 4) g)), .int (nI i), .int (-1), .int 0, .int 0] [] (hl_g N I J) := by
        simp only [hl_r219_4, hl_r219_5, hl_r219_7, hl_r219_10, hl_r219_11, hl_r219_12, hl_r219_13, hl_r219_15, hl_r219_16, c1, hl_kill_i, hl_kill_r, hl_kill_n, hl_kill_l, hl_tl_s, hl_tl_n, hl_cal_some, hl_gI, hl_gJ, hl_gsI, hl_gsJ, hl_tv01, if_true, if_false, hl_up_a, hl_row_a]
      rw [st, li]
      cases z : hl_dvi (Is 4) g (nI i) N with
      | true =>
        rw [z, if_pos rfl] at e
        rw [← e]
        simp only [hl_r219_82, hl_r219_83, hl_r219_85, hl_r219_88, hl_r219_89, hl_r219_93, hl_r219_94, hl_r219_95, hl_r219_98, hl_tv_t, hl_10, en, hl_kill_i, hl_kill_r, hl_kill_n, hl_kill_l, hl_tl_s, hl_tl_n, hl_cal_some, hl_gI, hl_gJ, hl_gsI, hl_gsJ, hl_tv01, if_true, if_false, hl_up_a, hl_row_a]
      | false =>
        rw [z, if_neg (by decide)] at e
        rw [← e]
        simp only [hl_r219_82, hl_r219_83, hl_r219_85, hl_r219_92, hl_r219_93, hl_r219_94, hl_r219_95, hl_r219_98, hl_tv_f, en, hl_kill_i, hl_kill_r, hl_kill_n, hl_kill_l, hl_tl_s, hl_tl_n, hl_cal_some, hl_gI, hl_gJ, hl_gsI, hl_gsJ, hl_tv01, if_true, if_false, hl_up_a, hl_row_a]
  have e := loop 6 0 .null .null .null (by omega)
  rw [hl_e219, hl_r219_0, hl_r219_1, hl_r219_2, hl_r219_3]
  exact e
end HLJDG
