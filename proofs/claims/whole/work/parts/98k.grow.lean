/-! years, the class: how people grow -/
/-- states that grow: a row of the land, cell by cell, both sides -/
def hx_it (K : Nat → Nat → Int32) (i : Nat) (f : Nat → Int32) : Nat → Nat → Nat → Int32
  | 0 => K
  | n + 1 => hl_up (hl_up (hx_it K i f n) (2 + i) n (f n)) 86 (30 + 7 * n + i) (f n)
theorem hx_it_ne {K : Nat → Nat → Int32} {i : Nat} {f : Nat → Int32} (n : Nat) : ∀ b, b ≠ 2 + i → b ≠ 86 → hx_it K i f n b = K b := by
  induction n with
  | zero => exact fun _ _ _ => rfl
  | succ n ih =>
    intro b h1 h2
    show hl_up (hl_up (hx_it K i f n) (2 + i) n (f n)) 86 (30 + 7 * n + i) (f n) b = K b
    rw [hl_up_ne _ _ _ h2, hl_up_ne _ _ _ h1, ih b h1 h2]
theorem hx_it_r {K : Nat → Nat → Int32} {i : Nat} {f : Nat → Int32} (hi : i < 7) (n : Nat) : ∀ j, hx_it K i f n (2 + i) j = if j < n then f j else K (2 + i) j := by
  induction n with
  | zero => intro j; rw [if_neg (by omega)]; rfl
  | succ n ih =>
    intro j
    show hl_up (hl_up (hx_it K i f n) (2 + i) n (f n)) 86 (30 + 7 * n + i) (f n) (2 + i) j = _
    rw [hl_up_ne _ _ _ (by omega), hl_up_a, if_pos rfl]
    by_cases z : j = n
    · rw [if_pos z, if_pos (by omega), z]
    · rw [if_neg z, ih j]
      by_cases y : j < n
      · rw [if_pos y, if_pos (by omega)]
      · rw [if_neg y, if_neg (by omega)]
theorem hx_it_m {K : Nat → Nat → Int32} {i : Nat} {f : Nat → Int32} (hi : i < 7) (n : Nat) : (∀ c, c < n → hx_it K i f n 86 (30 + 7 * c + i) = f c) ∧ ∀ j, (∀ c, c < n → j ≠ 30 + 7 * c + i) → hx_it K i f n 86 j = K 86 j := by
  induction n with
  | zero => exact ⟨fun c hc => absurd hc (Nat.not_lt_zero c), fun _ _ => rfl⟩
  | succ n ih =>
    obtain ⟨a, b⟩ := ih
    have e : ∀ j, hx_it K i f (n + 1) 86 j = if j = 30 + 7 * n + i then f n else hx_it K i f n 86 j := fun j => by
      show hl_up (hl_up (hx_it K i f n) (2 + i) n (f n)) 86 (30 + 7 * n + i) (f n) 86 j = _
      rw [hl_up_a, if_pos rfl]
      by_cases z : j = 30 + 7 * n + i
      · rw [if_pos z, if_pos z]
      · rw [if_neg z, if_neg z, hl_up_ne _ _ _ (by omega)]
    refine ⟨fun c hc => ?_, fun j hj => ?_⟩
    · rw [e]
      by_cases z : c = n
      · rw [z, if_pos rfl]
      · rw [if_neg (by omega)]; exact a c (by omega)
    · rw [e, if_neg (hj n (by omega))]
      exact b j (fun c hc => hj c (by omega))
section HXGROW
variable {d N W H nh cn : Nat} {I I' I0 K K' : Nat → Nat → Int32} {J J' : Nat → Nat → Int64}
/-- all but the purse, over states that differ in the land alone -/
theorem hx_Co_q (h : hl_Co N W H K) (q : hl_Qt K K') (hL : hl_La N K') : hl_Co N W H K' := by
  obtain ⟨q0, q1, q2, q3, q4, q5, q6⟩ := q
  have r : ∀ (X : Nat → Nat → Int32) b, b ≠ 65 → hl_row X 65 (fun _ => 0) b = X b := fun X b hb => hl_row_ne _ _ hb
  have qz : hl_Qt (hl_row K 65 (fun _ => 0)) (hl_row K' 65 (fun _ => 0)) := by
    refine ⟨?_, fun b h1 h2 => ?_, fun b h1 h2 => ?_, ?_, ?_, fun b h1 h2 => ?_, ?_⟩
    · rw [r _ _ (by omega), r _ _ (by omega)]; exact q0
    · rw [r _ _ (by omega), r _ _ (by omega)]; exact q1 b h1 h2
    · rw [r _ _ (by omega), r _ _ (by omega)]; exact q2 b h1 h2
    · rw [r _ _ (by omega), r _ _ (by omega)]; exact q3
    · rw [r _ _ (by omega), r _ _ (by omega)]; exact q4
    · rw [r _ _ (by omega), r _ _ (by omega)]; exact q5 b h1 h2
    · rw [r _ _ (by omega), r _ _ (by omega)]; exact q6
  have hLz : hl_La N (hl_row K' 65 (fun _ => 0)) := ⟨hl_LE_congr hL.1 (fun b hb => r _ _ (by omega)) (r _ _ (by omega)), hL.2⟩
  have g := (hl_Inv_q hl_TXc h.any qz hLz (fun c _ => .inl rfl)).co
  exact hl_Co_t g ⟨fun b hb => (r _ _ (by omega)).symm, (r _ _ (by omega)).symm, fun k hk => by rw [r _ 85 (by omega)], fun b h1 h2 => (r _ _ (by omega)).symm⟩
theorem hx_it_Co {i : Nat} {f : Nat → Int32} (h : hl_Co N W H K) (hN : N ≤ 24) (hi : i < 7) (hf : ∀ c, c < N → hl_cr i (f c).toInt (hl_Sv K 86 0)) (n : Nat) : n ≤ N → hl_Co N W H (hx_it K i f n) := by
  induction n with
  | zero => exact fun _ => h
  | succ n ih =>
    intro hn
    have g := ih (by omega)
    have e0 : hl_Sv (hx_it K i f n) 86 0 = hl_Sv K 86 0 := by
      unfold hl_Sv
      rw [(hx_it_m hi n).2 0 (fun c _ => by omega)]
    show hl_Co N W H (hl_up (hl_up (hx_it K i f n) (2 + i) n (f n)) 86 (30 + 7 * n + i) (f n))
    generalize hx_it K i f n = X at g e0
    have hr := hl_ri_cell (i := i) hN (show n < N by omega) hi
    have hL : hl_LE N (hl_up (hl_up X (2 + i) n (f n)) 86 (30 + 7 * n + i) (f n)) 1 86 := by
      have := hl_La_up (v := f n) g.2.1.1 hr
      rw [show 1 + (1 + i) = 2 + i by omega] at this
      exact this
    refine hx_Co_q g ⟨?_, fun b h1 h2 => ?_, fun b h1 h2 => ?_, ?_, ?_, fun b h1 h2 => ?_, ?_⟩ ⟨hL, ?_⟩
    · rw [hl_up_ne _ _ _ (by omega), hl_up_ne _ _ _ (by omega)]
    · rw [hl_up_ne _ _ _ (by omega), hl_up_ne _ _ _ (by omega)]
    · rw [hl_up_ne _ _ _ (by omega), hl_up_ne _ _ _ (by omega)]
    · rw [hl_up_ne _ _ _ (by omega), hl_up_ne _ _ _ (by omega)]
    · rw [hl_up_ne _ _ _ (by omega), hl_up_ne _ _ _ (by omega)]
    · rw [hl_up_ne _ _ _ (by omega), hl_up_ne _ _ _ (by omega)]
    · rw [hl_up_a, if_pos rfl, if_neg (by omega), hl_up_ne _ _ _ (by omega)]
    · have eS : ∀ j, hl_Sv (hl_up (hl_up X (2 + i) n (f n)) 86 (30 + 7 * n + i) (f n)) 86 j = if j = 30 + 7 * n + i then (f n).toInt else hl_Sv X 86 j := fun j => by
        rw [hl_Sup]
        show (if j = 30 + 7 * n + i then (f n).toInt else hl_Sv (hl_up X (2 + i) n (f n)) 86 j) = _
        rw [hl_Sne (by omega)]
      refine hl_V_ch hN g.2.1.2 (fun j => j = 30 + 7 * n + i) (fun j hj => by rw [eS, if_neg hj]) (fun j hj => by omega) (fun q _ hq => by omega) (fun c hc i' hi' hq => ?_) (fun j hj => by omega)
      rw [eS, if_pos hq, e0]
      obtain rfl : i' = i := by omega
      exact hf n (by omega)
theorem hx_acr (T : ∀ k, k < cn → ∃ a b, a < N ∧ b < N ∧ I 12 k = nI a ∧ I 13 k = nI b) (hN : N ≤ 24) {k c : Nat} (hk : k < cn) : hl_acr I k c = -1 ∨ ∃ t, t < N ∧ hl_acr I k c = nI t ∧ ¬ nI t = -1 := by
  obtain ⟨a, b, a1, b1, ea, eb⟩ := T k hk
  unfold hl_acr
  split
  · exact .inr ⟨b, b1, eb, hl_nm1 (by omega)⟩
  · split
    · exact .inr ⟨a, a1, ea, hl_nm1 (by omega)⟩
    · exact .inl rfl
theorem hx_s84 (c40 : cn ≤ 40) {k c : Nat} (hk : k < cn) : hl_call (d + 1) 84 [.ref 11, .int (nI k), .int (nI c)] (hl_g N I J) = some (some (.int (hl_acr I k c)), hl_g N I J) := by
  have b : hl_inb (nI k) 40 = true := hl_inb_nI (by omega) (by omega)
  rw [hl_e84]
  unfold hl_acr
  by_cases h1 : I 12 k = nI c
  · simp only [hl_r84_0, hl_r84_1, hl_r84_4, hl_r84_5, hl_r84_6, hl_r84_7, hl_r84_10, hl_r84_11, hl_r84_14, hl_r84_15, hl_r84_16, hl_r84_17, hl_r84_18, hl_r84_21, hl_r84_22, hl_r84_23, hl_r84_24, hl_r84_27, hl_r84_28, hl_r84_31, hl_r84_32, hl_r84_33, hl_r84_36, hl_r84_37, hl_o_11, hl_p_11_0, hl_p_11_1, hl_p_11_2, hl_a_12, hl_z_12, hl_a_13, hl_z_13, b, nIc (show k < 2 ^ 31 by omega), h1, hl_kill_i, hl_kill_r, hl_kill_n, hl_kill_l, hl_tl_s, hl_tl_n, hl_cal_some, hl_gI, hl_gJ, hl_gsI, hl_gsJ, hl_tv01, if_true, if_false, hl_up_a, hl_row_a, not_true, not_false_eq_true]
  · by_cases h2 : I 13 k = nI c
    · simp only [hl_r84_0, hl_r84_1, hl_r84_4, hl_r84_5, hl_r84_6, hl_r84_7, hl_r84_10, hl_r84_11, hl_r84_14, hl_r84_15, hl_r84_16, hl_r84_17, hl_r84_18, hl_r84_21, hl_r84_22, hl_r84_23, hl_r84_24, hl_r84_27, hl_r84_28, hl_r84_31, hl_r84_32, hl_r84_33, hl_r84_36, hl_r84_37, hl_o_11, hl_p_11_0, hl_p_11_1, hl_p_11_2, hl_a_12, hl_z_12, hl_a_13, hl_z_13, b, nIc (show k < 2 ^ 31 by omega), h1, h2, hl_kill_i, hl_kill_r, hl_kill_n, hl_kill_l, hl_tl_s, hl_tl_n, hl_cal_some, hl_gI, hl_gJ, hl_gsI, hl_gsJ, hl_tv01, if_true, if_false, hl_up_a, hl_row_a, not_true, not_false_eq_true]
    · simp only [hl_r84_0, hl_r84_1, hl_r84_4, hl_r84_5, hl_r84_6, hl_r84_7, hl_r84_10, hl_r84_11, hl_r84_14, hl_r84_15, hl_r84_16, hl_r84_17, hl_r84_18, hl_r84_21, hl_r84_22, hl_r84_23, hl_r84_24, hl_r84_27, hl_r84_28, hl_r84_31, hl_r84_32, hl_r84_33, hl_r84_36, hl_r84_37, hl_o_11, hl_p_11_0, hl_p_11_1, hl_p_11_2, hl_a_12, hl_z_12, hl_a_13, hl_z_13, b, nIc (show k < 2 ^ 31 by omega), h1, h2, hl_kill_i, hl_kill_r, hl_kill_n, hl_kill_l, hl_tl_s, hl_tl_n, hl_cal_some, hl_gI, hl_gJ, hl_gsI, hl_gsJ, hl_tv01, if_true, if_false, hl_up_a, hl_row_a, not_true, not_false_eq_true]
theorem hx_s86 {c : Nat} (T : ∀ k, k < cn → ∃ a b, a < N ∧ b < N ∧ I 12 k = nI a ∧ I 13 k = nI b) (hN : N ≤ 24) (c40 : cn ≤ 40) (k2 : I 11 3 = nI cn) (hc : c < N) : hl_call (d + 2) 86 [.ref 11, .int (nI c), .ref 8] (hl_g N I J) = some (some (.int (hl_sum cn (hl_alo I (I 8) c))), hl_g N I J) := by
  have bc : hl_inb (nI c) N = true := hl_inb_nI hc (by omega)
  have loop : ∀ f i (l5 : Value), i + f = cn → hl_Run 86 (hl_call (d + 1)) 5 [.ref 11, .int (nI c), .ref 8, .int (hl_sum i (hl_alo I (I 8) c)), .int (nI i), l5] [] (hl_g N I J) = some (some (.int (hl_sum cn (hl_alo I (I 8) c))), hl_g N I J) := by
    intro f
    induction f with
    | zero =>
      intro i l5 hi
      obtain rfl : i = cn := by omega
      simp only [hl_r86_0, hl_r86_1, hl_r86_2, hl_r86_3, hl_r86_5, hl_r86_7, hl_r86_8, hl_r86_11, hl_r86_14, hl_r86_15, hl_r86_17, hl_r86_18, hl_r86_21, hl_r86_23, hl_r86_25, hl_r86_26, hl_r86_29, hl_r86_30, hl_r86_32, hl_r86_33, hl_r86_34, hl_r86_35, hl_r86_36, hl_r86_39, hl_r86_40, hl_r86_41, hl_r86_44, hl_r86_46, hl_r86_47, hl_r86_48, hl_r86_49, hl_r86_52, hl_r86_55, hl_r86_56, hl_o_11, hl_p_11_0, hl_p_11_1, hl_p_11_2, k2, Int32.le_refl, hl_kill_i, hl_kill_r, hl_kill_n, hl_kill_l, hl_tl_s, hl_tl_n, hl_cal_some, hl_gI, hl_gJ, hl_gsI, hl_gsJ, hl_tv01, if_true, if_false, hl_up_a, hl_row_a, not_true, not_false_eq_true]
    | succ f ih =>
      intro i l5 hi
      have c1 : ¬ nI cn ≤ nI i := nI_ge (by omega) (by omega)
      have en : nI i + 1 = nI (i + 1) := (nI_succ i).symm
      have b : hl_inb (nI i) 40 = true := hl_inb_nI (by omega) (by omega)
      have e84 := hx_s84 (d := d) (N := N) (I := I) (J := J) (c := c) c40 (show i < cn by omega)
      have hs : hl_sum (i + 1) (hl_alo I (I 8) c) = hl_sum i (hl_alo I (I 8) c) + hl_alo I (I 8) c i := rfl
      rcases hx_acr T hN (c := c) (show i < cn by omega) with ha | ⟨t, ht, ha, hne⟩
      · have e := ih (i + 1) (.int (-1)) (by omega)
        rw [hs, show hl_alo I (I 8) c i = 0 from if_pos ha, Int32.add_zero] at e
        rw [ha] at e84
        rw [← e, hl_r86_5]
        simp only [hl_r86_0, hl_r86_1, hl_r86_2, hl_r86_3, hl_r86_7, hl_r86_8, hl_r86_11, hl_r86_14, hl_r86_15, hl_r86_17, hl_r86_18, hl_r86_21, hl_r86_23, hl_r86_25, hl_r86_26, hl_r86_29, hl_r86_30, hl_r86_32, hl_r86_33, hl_r86_34, hl_r86_35, hl_r86_36, hl_r86_39, hl_r86_40, hl_r86_41, hl_r86_44, hl_r86_46, hl_r86_47, hl_r86_48, hl_r86_49, hl_r86_52, hl_r86_55, hl_r86_56, hl_o_11, hl_p_11_0, hl_p_11_1, hl_p_11_2, k2, c1, e84, en, hl_kill_i, hl_kill_r, hl_kill_n, hl_kill_l, hl_tl_s, hl_tl_n, hl_cal_some, hl_gI, hl_gJ, hl_gsI, hl_gsJ, hl_tv01, if_true, if_false, hl_up_a, hl_row_a, not_true, not_false_eq_true]
      · have bt : hl_inb (nI t) N = true := hl_inb_nI ht (by omega)
        have e := ih (i + 1) (.int (nI t)) (by omega)
        rw [ha] at e84
        by_cases q : I 8 t = I 8 c
        · have hx : hl_alo I (I 8) c i = 0 := by unfold hl_alo; rw [ha, if_neg hne, nIc (by omega), if_pos q]
          rw [hs, hx, Int32.add_zero] at e
          rw [← e, hl_r86_5]
          simp only [hl_r86_0, hl_r86_1, hl_r86_2, hl_r86_3, hl_r86_7, hl_r86_8, hl_r86_11, hl_r86_14, hl_r86_15, hl_r86_17, hl_r86_18, hl_r86_21, hl_r86_23, hl_r86_25, hl_r86_26, hl_r86_29, hl_r86_30, hl_r86_32, hl_r86_33, hl_r86_34, hl_r86_35, hl_r86_36, hl_r86_39, hl_r86_40, hl_r86_41, hl_r86_44, hl_r86_46, hl_r86_47, hl_r86_48, hl_r86_49, hl_r86_52, hl_r86_55, hl_r86_56, hl_o_11, hl_p_11_0, hl_p_11_1, hl_p_11_2, hl_a_8, hl_z_8, k2, c1, e84, hne, bt, bc, nIc (show t < 2 ^ 31 by omega), nIc (show c < 2 ^ 31 by omega), q, en, hl_kill_i, hl_kill_r, hl_kill_n, hl_kill_l, hl_tl_s, hl_tl_n, hl_cal_some, hl_gI, hl_gJ, hl_gsI, hl_gsJ, hl_tv01, if_true, if_false, hl_up_a, hl_row_a, not_true, not_false_eq_true]
        · have hx : hl_alo I (I 8) c i = I 14 i := by unfold hl_alo; rw [ha, if_neg hne, nIc (by omega), if_neg q]
          rw [hs, hx] at e
          rw [← e, hl_r86_5]
          simp only [hl_r86_0, hl_r86_1, hl_r86_2, hl_r86_3, hl_r86_7, hl_r86_8, hl_r86_11, hl_r86_14, hl_r86_15, hl_r86_17, hl_r86_18, hl_r86_21, hl_r86_23, hl_r86_25, hl_r86_26, hl_r86_29, hl_r86_30, hl_r86_32, hl_r86_33, hl_r86_34, hl_r86_35, hl_r86_36, hl_r86_39, hl_r86_40, hl_r86_41, hl_r86_44, hl_r86_46, hl_r86_47, hl_r86_48, hl_r86_49, hl_r86_52, hl_r86_55, hl_r86_56, hl_o_11, hl_p_11_0, hl_p_11_1, hl_p_11_2, hl_a_14, hl_z_14, hl_a_8, hl_z_8, k2, c1, e84, hne, bt, bc, b, nIc (show t < 2 ^ 31 by omega), nIc (show c < 2 ^ 31 by omega), nIc (show i < 2 ^ 31 by omega), q, en, hl_kill_i, hl_kill_r, hl_kill_n, hl_kill_l, hl_tl_s, hl_tl_n, hl_cal_some, hl_gI, hl_gJ, hl_gsI, hl_gsJ, hl_tv01, if_true, if_false, hl_up_a, hl_row_a, not_true, not_false_eq_true]
  have e := loop cn 0 .null (by omega)
  rw [hl_e86, hl_r86_0, hl_r86_1, hl_r86_2, hl_r86_3]
  exact e
/-- by how many in a hundred; how many then -/
def hx_gw (K : Nat → Nat → Int32) (cn c : Nat) : Int32 := if hl_has K 1 = false then 0 else hl_bnd (hl_ask K 1 c (K 8 c).toNatClampNeg 0 (hl_offv K c (K 8 c).toNatClampNeg (hl_sm K 0)) (hl_sum cn (hl_alo K (K 8) c))) (-100) 100
def hx_gp (K : Nat → Nat → Int32) (cn c : Nat) : Int32 := hl_bnd (K 3 c + K 3 c * hx_gw K cn c / 100) 0 999
theorem hx_gp_B (c : Nat) : 0 ≤ (hx_gp K cn c).toInt ∧ (hx_gp K cn c).toInt ≤ 999 := by
  unfold hx_gp
  generalize K 3 c + K 3 c * hx_gw K cn c / 100 = x
  unfold hl_bnd
  have e0 : (0 : Int32).toInt = 0 := rfl
  have e9 : (999 : Int32).toInt = 999 := rfl
  by_cases h1 : x < 0
  · rw [if_pos h1, e0]; omega
  · rw [if_neg h1]
    by_cases h2 : 999 < x
    · rw [if_pos h2, e9]; omega
    · rw [if_neg h2]
      rw [Int32.lt_iff_toInt_lt, e0] at h1
      rw [Int32.lt_iff_toInt_lt, e9] at h2
      omega
theorem hx_s145 {c : Nat} (hCo : hl_Co N W H K) (hN : N ≤ 24) (hs : hl_Sv K 86 0 = (nh : Int)) (n0 : 0 < nh) (ts : hl_Sv K 86 1 = (cn : Int)) (ag : ∀ b, b < 60 → b ≠ 3 → I b = K b) (hp : I 3 c = K 3 c) (hc : c < N) : ∃ I', hl_call (d + 5) 145 [.ref 0, .int (nI c)] (hl_g N I J) = some (some (.int (hx_gw K cn c)), hl_g N I' J) ∧ hl_f6 I I' := by
  have c40 : cn ≤ 40 := by have := hCo.2.1.2.2.1.2; omega
  have n4 : nh ≤ 4 := by have := hCo.2.1.2.1.2; omega
  have pd : hl_PD K I c := by
    refine ⟨?_, ?_, ag 9 (by omega) (by omega), ag 10 (by omega) (by omega), fun r h1 h2 => ag r h2 (by omega)⟩
    · rw [ag 1 (by omega) (by omega)]; exact ⟨rfl, rfl, rfl⟩
    · rw [ag 2 (by omega) (by omega), ag 4 (by omega) (by omega), ag 5 (by omega) (by omega), ag 6 (by omega) (by omega)]; exact ⟨rfl, hp, rfl, rfl, rfl⟩
  have e97 : hl_call (d + 4) 97 [.ref 60, .int 1] (hl_g N I J) = some (some (.int (hl_tv (hl_has K 1))), hl_g N I J) := by
    have := hl_s97 (d := d + 2) (N := N) (I := I) (J := J) (cl := 1) (by decide)
    rw [pd.has] at this
    exact this
  cases h2 : hl_has K 1 with
  | false =>
    rw [h2] at e97
    refine ⟨I, ?_, hl_f6_rf I⟩
    have eg : hx_gw K cn c = 0 := by unfold hx_gw; rw [h2, if_pos rfl]
    rw [eg, hl_e145]
    simp only [hl_r145_0, hl_r145_1, hl_r145_4, hl_r145_5, hl_r145_8, hl_r145_11, hl_r145_12, hl_r145_13, hl_r145_14, hl_r145_17, hl_r145_20, hl_r145_21, hl_r145_22, hl_r145_25, hl_r145_28, hl_r145_31, hl_r145_32, hl_r145_33, hl_r145_36, hl_r145_37, hl_r145_38, hl_r145_39, hl_r145_42, hl_r145_45, hl_r145_46, hl_r145_47, hl_r145_48, hl_r145_49, hl_r145_52, hl_r145_53, hl_r145_56, hl_r145_57, hl_r145_60, hl_r145_61, hl_r145_62, hl_r145_64, hl_r145_66, hl_r145_69, hl_o_0, hl_p_0_3, hl_p_0_4, hl_p_0_5, hl_p_0_7, hl_p_0_8, hl_p_0_9, hl_p_0_10, hl_p_0_11, hl_p_0_12, hl_p_0_13, hl_p_0_14, hl_p_0_15, hl_o_60, hl_p_60_0, hl_p_60_1, hl_p_60_2, hl_p_60_3, e97, hl_tv_f, hl_kill_i, hl_kill_r, hl_kill_n, hl_kill_l, hl_tl_s, hl_tl_n, hl_cal_some, hl_gI, hl_gJ, hl_gsI, hl_gsJ, hl_tv01, if_true, if_false, hl_up_a, hl_row_a, not_true, not_false_eq_true]
  | true =>
    rw [h2] at e97
    have T : ∀ k, k < cn → ∃ a b, a < N ∧ b < N ∧ I 12 k = nI a ∧ I 13 k = nI b := fun k hk => by
      obtain ⟨a, b, w, a1, b1, -, -, -, t1, t2, -⟩ := hCo.tie hN ts hk
      exact ⟨a, b, a1, b1, by rw [ag 12 (by omega) (by omega)]; exact t1, by rw [ag 13 (by omega) (by omega)]; exact t2⟩
    have k2 : I 11 3 = nI cn := by
      obtain ⟨k0, -, q2, -, q4⟩ := hCo.cn
      obtain rfl : k0 = cn := by omega
      rw [ag 11 (by omega) (by omega)]; exact q2
    have e86 := hx_s86 (d := d + 2) (J := J) T hN c40 k2 hc
    have ealo : hl_sum cn (hl_alo I (I 8) c) = hl_sum cn (hl_alo K (K 8) c) := hl_sum_congr (fun k hk => by
      unfold hl_alo hl_acr
      rw [ag 8 (by omega) (by omega), ag 12 (by omega) (by omega), ag 13 (by omega) (by omega), ag 14 (by omega) (by omega)])
    rw [ealo] at e86
    have e9 : hl_call (d + 4) 9 [.ref 1, .int 0] (hl_g N I J) = some (some (.int (hl_tv (hl_sm I 0))), hl_g N I J) := hl_s9 (d := d + 2) (m := 0)
    have esm : hl_sm I 0 = hl_sm K 0 := by unfold hl_sm; rw [ag 1 (by omega) (by omega)]
    rw [esm] at e9
    obtain ⟨Tx, hT, e3, eT, hne, hTs⟩ := hl_has_T hCo h2
    have e13 : I 1 13 = nI Tx := by rw [ag 1 (by omega) (by omega), hCo.2.1.1.h3]; exact e3
    obtain ⟨b, hb3, hb⟩ := (hCo.2.2.2.2.1 Tx 1 hT (by decide)).resolve_left hne
    obtain ⟨p, p1, p2, p3⟩ := hCo.part hN hs n0 hc
    obtain ⟨I', e98, f⟩ := hl_s98 (d := d + 1) (N := N) (J := J) (m := 0) (h := p) (cl := 1) (sm := hl_tv (hl_sm K 0)) (al := hl_sum cn (hl_alo K (K 8) c)) e13 hT (by decide) (by rw [ag (46 + 4 * Tx) (by omega) (by omega)]; exact hne) hc hN (by omega) (by decide) (by rw [ag (47 + 4 * Tx) (by omega) (by omega)]; exact hb) hb3 (by rw [ag 6 (by omega) (by omega)]; exact hCo.town hN hc)
    have es : (!decide (hl_tv (hl_sm K 0) = 0)) = hl_sm K 0 := by cases hl_sm K 0 <;> rfl
    have eo : hl_offv I c p (hl_sm K 0) = hl_offv K c p (hl_sm K 0) := by
      unfold hl_offv
      rw [ag 9 (by omega) (by omega), ag 2 (by omega) (by omega)]
    rw [es, eo, pd.ask (hl_rul_lt (.inr (.inl h2)))] at e98
    have e98' : hl_call (d + 4) 98 [.ref 60, .int 1, .int (nI c), .int (nI p), .int 0, .int (hl_tv (hl_sm K 0)), .int (hl_sum cn (hl_alo K (K 8) c))] (hl_g N I J) = some (some (.int (hl_ask K 1 c p 0 (hl_offv K c p (hl_sm K 0)) (hl_sum cn (hl_alo K (K 8) c)))), hl_g N I' J) := e98
    have bc : hl_inb (nI c) N = true := hl_inb_nI hc (by omega)
    have i8 : I 8 c = nI p := by rw [ag 8 (by omega) (by omega)]; exact p2
    refine ⟨I', ?_, f⟩
    have eg : hx_gw K cn c = hl_bnd (hl_ask K 1 c p 0 (hl_offv K c p (hl_sm K 0)) (hl_sum cn (hl_alo K (K 8) c))) (-100) 100 := by
      unfold hx_gw
      rw [h2, if_neg (by decide), p2, hl_cq (by omega)]
    have e86' : hl_call (d + 4) 86 [.ref 11, .int (nI c), .ref 8] (hl_g N I J) = some (some (.int (hl_sum cn (hl_alo K (K 8) c))), hl_g N I J) := e86
    rw [eg, hl_e145]
    simp only [hl_r145_0, hl_r145_1, hl_r145_4, hl_r145_5, hl_r145_8, hl_r145_11, hl_r145_12, hl_r145_13, hl_r145_14, hl_r145_17, hl_r145_20, hl_r145_21, hl_r145_22, hl_r145_25, hl_r145_28, hl_r145_31, hl_r145_32, hl_r145_33, hl_r145_36, hl_r145_37, hl_r145_38, hl_r145_39, hl_r145_42, hl_r145_45, hl_r145_46, hl_r145_47, hl_r145_48, hl_r145_49, hl_r145_52, hl_r145_53, hl_r145_56, hl_r145_57, hl_r145_60, hl_r145_61, hl_r145_62, hl_r145_64, hl_r145_66, hl_r145_69, hl_o_0, hl_p_0_3, hl_p_0_4, hl_p_0_5, hl_p_0_7, hl_p_0_8, hl_p_0_9, hl_p_0_10, hl_p_0_11, hl_p_0_12, hl_p_0_13, hl_p_0_14, hl_p_0_15, hl_o_1, hl_p_1_0, hl_p_1_1, hl_p_1_2, hl_p_1_3, hl_p_1_4, hl_p_1_5, hl_p_1_6, hl_p_1_7, hl_p_1_9, hl_p_1_14, hl_p_1_15, hl_a_8, hl_z_8, hl_o_11, hl_p_11_0, hl_p_11_1, hl_p_11_2, hl_o_60, hl_p_60_0, hl_p_60_1, hl_p_60_2, hl_p_60_3, e97, hl_tv_t, hl_10, e86', e9, bc, hl_cq (show c < 10000 by omega), i8, e98', hl_s148, hl_kill_i, hl_kill_r, hl_kill_n, hl_kill_l, hl_tl_s, hl_tl_n, hl_cal_some, hl_gI, hl_gJ, hl_gsI, hl_gsJ, hl_tv01, if_true, if_false, hl_up_a, hl_row_a, not_true, not_false_eq_true]
/-- all cells: what stands after the first i -/
def hx_GS (N i cn : Nat) (K I0 I : Nat → Nat → Int32) : Prop := (∀ b, b ≠ 3 → b ≠ 60 → b ≠ 61 → b ≠ 62 → b ≠ 65 → I b = I0 b) ∧ (∀ j, I 3 j = if j < i then hx_gp K cn j else K 3 j) ∧ (∀ c, c < i → I 65 c = 0 ∨ (I 65 c = I0 65 c ∧ hx_gp K cn c = K 3 c)) ∧ ∀ c, i ≤ c → I 65 c = I0 65 c
theorem hx_l144 (hCo : hl_Co N W H K) (hN : N ≤ 24) (hs : hl_Sv K 86 0 = (nh : Int)) (n0 : 0 < nh) (ts : hl_Sv K 86 1 = (cn : Int)) (ag : ∀ b, b < 60 → I0 b = K b) (f : Nat) : ∀ (I : Nat → Nat → Int32) (i : Nat) (l2 l3 : Value), i + f = N → hx_GS N i cn K I0 I → ∃ I', hl_Run 144 (hl_call (d + 5)) 2 [.ref 0, .int (nI i), l2, l3] [] (hl_g N I J) = some (none, hl_g N I' J) ∧ hx_GS N N cn K I0 I' := by
  have n100 : ¬ (100 : Int32) = 0 := by decide
  induction f with
  | zero =>
    intro I i l2 l3 hi hG
    obtain rfl : i = N := by omega
    refine ⟨I, ?_, hG⟩
    have hM : I 0 2 = nI i := by rw [hG.1 0 (by omega) (by omega) (by omega) (by omega) (by omega), ag 0 (by omega)]; exact hCo.cM
    simp only [hl_r144_2, hl_r144_3, hl_r144_4, hl_r144_7, hl_r144_77, hl_o_0, hl_p_0_3, hl_p_0_4, hl_p_0_5, hl_p_0_7, hl_p_0_8, hl_p_0_9, hl_p_0_10, hl_p_0_11, hl_p_0_12, hl_p_0_13, hl_p_0_14, hl_p_0_15, hM, Int32.le_refl, hl_kill_i, hl_kill_r, hl_kill_n, hl_kill_l, hl_tl_s, hl_tl_n, hl_cal_some, hl_gI, hl_gJ, hl_gsI, hl_gsJ, hl_tv01, if_true, if_false, hl_up_a, hl_row_a, not_true, not_false_eq_true]
  | succ f ih =>
    intro I i l2 l3 hi hG
    obtain ⟨g1, g2, g3, g4⟩ := hG
    have agI : ∀ b, b < 60 → b ≠ 3 → I b = K b := fun b hb h3 => by rw [g1 b h3 (by omega) (by omega) (by omega) (by omega), ag b hb]
    have hM : I 0 2 = nI N := by rw [agI 0 (by omega) (by omega)]; exact hCo.cM
    have c1 : ¬ nI N ≤ nI i := nI_ge (by omega) (by omega)
    have en : nI i + 1 = nI (i + 1) := (nI_succ i).symm
    have p3 : I 3 i = K 3 i := by rw [g2 i, if_neg (by omega)]
    have bi : hl_inb (nI i) N = true := hl_inb_nI (by omega) (by omega)
    obtain ⟨I1, e1, f1⟩ := hx_s145 (d := d) (J := J) hCo hN hs n0 ts agI p3 (show i < N by omega)
    have q3 : I1 3 = I 3 := f1 3 (by omega) (by omega) (by omega)
    have e148 : ∀ w, hl_call (d + 5) 148 [.int (K 3 i + K 3 i * hx_gw K cn i / 100), .int 0, .int 999] w = some (some (.int (hx_gp K cn i)), w) := fun w => hl_s148
    have st : hl_Run 144 (hl_call (d + 5)) 2 [.ref 0, .int (nI i), l2, l3] [] (hl_g N I J) = hl_Run 144 (hl_call (d + 5)) 50 [.ref 0, .int (nI i), .int (K 3 i), .int (K 3 i + K 3 i * hx_gw K cn i / 100)] [] (hl_g N (hl_up I1 3 i (hx_gp K cn i)) J) := by
      simp only [hl_r144_2, hl_r144_3, hl_r144_4, hl_r144_7, hl_r144_10, hl_r144_11, hl_r144_14, hl_r144_17, hl_r144_18, hl_r144_19, hl_r144_20, hl_r144_21, hl_r144_22, hl_r144_23, hl_r144_24, hl_r144_27, hl_r144_28, hl_r144_30, hl_r144_31, hl_r144_32, hl_r144_33, hl_r144_34, hl_r144_37, hl_r144_40, hl_r144_41, hl_r144_42, hl_r144_43, hl_r144_46, hl_r144_49, hl_o_0, hl_p_0_3, hl_p_0_4, hl_p_0_5, hl_p_0_7, hl_p_0_8, hl_p_0_9, hl_p_0_10, hl_p_0_11, hl_p_0_12, hl_p_0_13, hl_p_0_14, hl_p_0_15, hl_o_1, hl_p_1_0, hl_p_1_1, hl_p_1_2, hl_p_1_3, hl_p_1_4, hl_p_1_5, hl_p_1_6, hl_p_1_7, hl_p_1_9, hl_p_1_14, hl_p_1_15, hl_a_3, hl_z_3, hM, c1, bi, hl_cq (show i < 10000 by omega), p3, e1, n100, e148, hl_kill_i, hl_kill_r, hl_kill_n, hl_kill_l, hl_tl_s, hl_tl_n, hl_cal_some, hl_gI, hl_gJ, hl_gsI, hl_gsJ, hl_tv01, if_true, if_false, hl_up_a, hl_row_a, not_true, not_false_eq_true]
    have a3 : ∀ j, hl_up I1 3 i (hx_gp K cn i) 3 j = if j = i then hx_gp K cn i else I 3 j := fun j => by rw [hl_up_a, if_pos rfl, q3]
    have base : ∀ b, b ≠ 3 → b ≠ 60 → b ≠ 61 → b ≠ 62 → hl_up I1 3 i (hx_gp K cn i) b = I b := fun b h3 h4 h5 h6 => by rw [hl_up_ne _ _ _ h3]; exact f1 b h4 h5 h6
    have a3' : ∀ j, hl_up I1 3 i (hx_gp K cn i) 3 j = if j < i + 1 then hx_gp K cn j else K 3 j := fun j => by
      rw [a3]
      by_cases z : j = i
      · rw [if_pos z, if_pos (by omega), z]
      · rw [if_neg z, g2 j]
        by_cases y : j < i
        · rw [if_pos y, if_pos (by omega)]
        · rw [if_neg y, if_neg (by omega)]
    have at3 : hl_up I1 3 i (hx_gp K cn i) 3 i = hx_gp K cn i := by rw [a3, if_pos rfl]
    have b65 : hl_up I1 3 i (hx_gp K cn i) 65 = I 65 := base 65 (by omega) (by omega) (by omega) (by omega)
    by_cases z : hx_gp K cn i = K 3 i
    · have hG2 : hx_GS N (i + 1) cn K I0 (hl_up I1 3 i (hx_gp K cn i)) := by
        refine ⟨fun b h3 h4 h5 h6 h7 => by rw [base b h3 h4 h5 h6]; exact g1 b h3 h4 h5 h6 h7, a3', fun c hc => ?_, fun c hc => by rw [b65]; exact g4 c (by omega)⟩
        rw [b65]
        by_cases y : c = i
        · exact .inr ⟨g4 c (by omega), by rw [y]; exact z⟩
        · exact g3 c (by omega)
      obtain ⟨I2, e2, h2⟩ := ih _ (i + 1) (.int (K 3 i)) (.int (K 3 i + K 3 i * hx_gw K cn i / 100)) (by omega) hG2
      refine ⟨I2, ?_, h2⟩
      rw [st, ← e2]
      simp only [hl_r144_50, hl_r144_51, hl_r144_54, hl_r144_57, hl_r144_58, hl_r144_59, hl_r144_60, hl_r144_63, hl_r144_64, hl_r144_67, hl_r144_68, hl_r144_71, hl_r144_74, hl_o_0, hl_p_0_3, hl_p_0_4, hl_p_0_5, hl_p_0_7, hl_p_0_8, hl_p_0_9, hl_p_0_10, hl_p_0_11, hl_p_0_12, hl_p_0_13, hl_p_0_14, hl_p_0_15, hl_o_1, hl_p_1_0, hl_p_1_1, hl_p_1_2, hl_p_1_3, hl_p_1_4, hl_p_1_5, hl_p_1_6, hl_p_1_7, hl_p_1_9, hl_p_1_14, hl_p_1_15, hl_a_3, hl_z_3, bi, hl_cq (show i < 10000 by omega), at3, z, en, hl_kill_i, hl_kill_r, hl_kill_n, hl_kill_l, hl_tl_s, hl_tl_n, hl_cal_some, hl_gI, hl_gJ, hl_gsI, hl_gsJ, hl_tv01, if_true, if_false, hl_up_a, hl_row_a, not_true, not_false_eq_true]
    · have hG2 : hx_GS N (i + 1) cn K I0 (hl_up (hl_up I1 3 i (hx_gp K cn i)) 65 i 0) := by
        refine ⟨fun b h3 h4 h5 h6 h7 => by rw [hl_up_ne _ _ _ h7, base b h3 h4 h5 h6]; exact g1 b h3 h4 h5 h6 h7, fun j => by rw [hl_up_ne _ _ _ (by omega)]; exact a3' j, fun c hc => ?_, fun c hc => by rw [hl_up_a, if_pos rfl, if_neg (by omega), b65]; exact g4 c (by omega)⟩
        rw [hl_up_a, if_pos rfl, b65]
        by_cases y : c = i
        · rw [if_pos y]; exact .inl rfl
        · rw [if_neg y]; exact g3 c (by omega)
      obtain ⟨I2, e2, h2⟩ := ih _ (i + 1) (.int (K 3 i)) (.int (K 3 i + K 3 i * hx_gw K cn i / 100)) (by omega) hG2
      refine ⟨I2, ?_, h2⟩
      have s43 := hl_s43 (d := d + 4) (I := hl_up I1 3 i (hx_gp K cn i)) (J := J) (show i < N by omega) hN
      rw [st, ← e2]
      simp only [hl_r144_50, hl_r144_51, hl_r144_54, hl_r144_57, hl_r144_58, hl_r144_59, hl_r144_60, hl_r144_63, hl_r144_64, hl_r144_67, hl_r144_68, hl_r144_71, hl_r144_74, hl_o_0, hl_p_0_3, hl_p_0_4, hl_p_0_5, hl_p_0_7, hl_p_0_8, hl_p_0_9, hl_p_0_10, hl_p_0_11, hl_p_0_12, hl_p_0_13, hl_p_0_14, hl_p_0_15, hl_o_1, hl_p_1_0, hl_p_1_1, hl_p_1_2, hl_p_1_3, hl_p_1_4, hl_p_1_5, hl_p_1_6, hl_p_1_7, hl_p_1_9, hl_p_1_14, hl_p_1_15, hl_a_3, hl_z_3, hl_o_63, hl_p_63_0, hl_p_63_1, hl_p_63_2, hl_p_63_3, bi, hl_cq (show i < 10000 by omega), at3, z, s43, hl_tl_n, en, hl_kill_i, hl_kill_r, hl_kill_n, hl_kill_l, hl_tl_s, hl_tl_n, hl_cal_some, hl_gI, hl_gJ, hl_gsI, hl_gsJ, hl_tv01, if_true, if_false, hl_up_a, hl_row_a, not_true, not_false_eq_true]
theorem hx_s144 (hCo : hl_Co N W H K) (hN : N ≤ 24) (hs : hl_Sv K 86 0 = (nh : Int)) (n0 : 0 < nh) (ts : hl_Sv K 86 1 = (cn : Int)) (ag : ∀ b, b < 60 → I b = K b) : ∃ I', hl_call (d + 6) 144 [.ref 0] (hl_g N I J) = some (none, hl_g N I' J) ∧ hx_GS N N cn K I I' := by
  obtain ⟨I1, e1, h1⟩ := hx_l144 (d := d) (J := J) hCo hN hs n0 ts ag N I 0 .null .null (by omega) ⟨fun _ _ _ _ _ _ => rfl, fun j => by rw [if_neg (by omega), ag 3 (by omega)], fun c hc => absurd hc (Nat.not_lt_zero c), fun _ _ => rfl⟩
  refine ⟨I1, ?_, h1⟩
  have z0 : nI 0 = 0 := rfl
  rw [z0] at e1
  rw [← e1, hl_e144]
  simp only [hl_r144_0, hl_r144_1, hl_kill_i, hl_kill_r, hl_kill_n, hl_kill_l, hl_tl_s, hl_tl_n, hl_cal_some, hl_gI, hl_gJ, hl_gsI, hl_gsJ, hl_tv01, if_true, if_false, hl_up_a, hl_row_a, not_true, not_false_eq_true]
end HXGROW
