/-! the class's reader: states, small methods -/
def hx_CR (t : Nat → Nat) (L p n : Nat) (I : Nat → Nat → Int32) : Prop := hx_TP t L I ∧ hx_TS t L p I ∧ I 38 7 = 0 ∧ I 38 8 = -1 ∧ I 39 3 = nI n ∧ n ≤ p ∧ p ≤ L
def hx_CF (t : Nat → Nat) (L f pl : Nat) (I : Nat → Nat → Int32) : Prop := hx_TP t L I ∧ (1 ≤ f ∧ f < 10) ∧ I 38 7 = nI f ∧ I 38 8 = nI pl ∧ ∃ n, n ≤ 300 ∧ I 39 3 = nI n
def hx_fF (I I' : Nat → Nat → Int32) : Prop := (∀ b, b ≠ 38 → b ≠ 39 → b ≠ 40 → I' b = I b) ∧ ∀ j, j ≠ 3 → I' 39 j = I 39 j
def hx_fT (n : Nat) (I I' : Nat → Nat → Int32) : Prop := hx_fF I I' ∧ ∀ j, j < n → I' 40 j = I 40 j
def hx_CO (t : Nat → Nat) (L p n : Nat) (I I' : Nat → Nat → Int32) (r : Nat × Nat × List (Nat × Nat)) (sem : (Nat → Int32) → Nat → Nat → List (Nat × Nat) → Prop) : Prop := (r.1 = 0 → ∃ n', hx_CR t L r.2.1 n' I' ∧ n ≤ n' ∧ n' ≤ n + (r.2.1 - p) ∧ hx_fT n I I' ∧ sem (I' 40) n n' r.2.2) ∧ (r.1 ≠ 0 → hx_CF t L r.1 r.2.1 I' ∧ hx_fF I I')
def hx_CK (N : Nat) (t : Nat → Nat) (L D j a : Nat) (X : Nat → Nat × Nat × List (Nat × Nat)) (sem : (Nat → Int32) → Nat → Nat → List (Nat × Nat) → Prop) : Prop := (∀ I J p n, hx_CR t L p n I → ∃ I', hl_call D j [.ref 38, .int (nI a)] (hl_g N I J) = some (none, hl_g N I' J) ∧ hx_CO t L p n I I' (X p) sem) ∧ ∀ I J f pl, hx_CF t L f pl I → ∃ I', hl_call D j [.ref 38, .int (nI a)] (hl_g N I J) = some (none, hl_g N I' J) ∧ hx_CF t L f pl I' ∧ hx_fF I I'
theorem hx_fF_rf (I : Nat → Nat → Int32) : hx_fF I I := ⟨fun _ _ _ _ => rfl, fun _ _ => rfl⟩
theorem hx_fF_tr {I1 I2 I3 : Nat → Nat → Int32} (h : hx_fF I1 I2) (g : hx_fF I2 I3) : hx_fF I1 I3 := ⟨fun b h1 h2 h3 => (g.1 b h1 h2 h3).trans (h.1 b h1 h2 h3), fun j hj => (g.2 j hj).trans (h.2 j hj)⟩
theorem hx_fT_rf (n : Nat) (I : Nat → Nat → Int32) : hx_fT n I I := ⟨hx_fF_rf I, fun _ _ => rfl⟩
theorem hx_fT_tr {n n1 : Nat} {I1 I2 I3 : Nat → Nat → Int32} (h : hx_fT n I1 I2) (g : hx_fT n1 I2 I3) (hn : n ≤ n1) : hx_fT n I1 I3 := ⟨hx_fF_tr h.1 g.1, fun j hj => (g.2 j (by omega)).trans (h.2 j hj)⟩
theorem hx_f38.fF {I I' : Nat → Nat → Int32} (h : hx_f38 I I') : hx_fF I I' := ⟨fun b h1 _ _ => h.1 b h1, fun j _ => by rw [h.1 39 (by omega)]⟩
theorem hx_f38.fT {n : Nat} {I I' : Nat → Nat → Int32} (h : hx_f38 I I') : hx_fT n I I' := ⟨h.fF, fun j _ => by rw [h.1 40 (by omega)]⟩
section HXCPAR
variable {d N L p n : Nat} {I I' : Nat → Nat → Int32} {J : Nat → Nat → Int64} {t : Nat → Nat}
theorem hx_adv (h : hx_CR t L p n I) : ∃ I', hl_call (d + 14) 66 [.ref 38] (hl_g N I J) = some (none, hl_g N I' J) ∧ hx_CR t L (hx_tk t L p).2.2.2 n I' ∧ hx_f38 I I' := by
  obtain ⟨T, S, h7, h8, h3, hn, hp⟩ := h
  obtain ⟨a, b, c, -⟩ := hx_tk_in (t := t) hp
  obtain ⟨I1, e1, S1, f1⟩ := hx_s66 (d := d) (N := N) (J := J) T S.2.1 c
  exact ⟨I1, e1, ⟨f1.tp T, S1, by rw [f1.2 7 (by omega)]; exact h7, by rw [f1.2 8 (by omega)]; exact h8, by rw [f1.1 39 (by omega)]; exact h3, by omega, c⟩, f1⟩
theorem hx_rf0 {r : Nat} (h : hx_CR t L p n I) (hr : 1 ≤ r ∧ r < 10) : ∃ I', hl_call (d + 1) 64 [.ref 38, .int (nI r)] (hl_g N I J) = some (none, hl_g N I' J) ∧ hx_CF t L r (hx_tk t L p).2.2.1 I' ∧ hx_fF I I' := by
  obtain ⟨T, S, h7, h8, h3, hn, hp⟩ := h
  have L3 := T.1
  have u3 : hl_up I 38 7 (nI r) 38 3 = nI (hx_tk t L p).2.2.1 := by rw [hx_up_j (by omega)]; exact S.1
  refine ⟨hl_up (hl_up I 38 7 (nI r)) 38 8 (nI (hx_tk t L p).2.2.1), ?_, ⟨⟨T.1, by rw [hx_up_j (by omega), hx_up_j (by omega)]; exact T.2.1, fun k hk => by rw [hl_up_ne _ _ _ (by omega), hl_up_ne _ _ _ (by omega)]; exact T.2.2 k hk⟩, hr, by rw [hx_up_j (by omega)]; exact hl_up_at, hl_up_at, n, by omega, by rw [hl_up_ne _ _ _ (by omega), hl_up_ne _ _ _ (by omega)]; exact h3⟩, ⟨fun b h1 _ _ => by rw [hl_up_ne _ _ _ h1, hl_up_ne _ _ _ h1], fun j _ => by rw [hl_up_ne _ _ _ (by omega), hl_up_ne _ _ _ (by omega)]⟩⟩
  rw [hl_e64]
  simp only [hl_r64_0, hl_r64_1, hl_r64_4, hl_r64_7, hl_r64_8, hl_r64_9, hl_r64_12, hl_r64_13, hl_r64_14, hl_r64_17, hl_r64_20, hl_o_38, hl_p_38_0, hl_p_38_1, h7, u3, hl_kill_i, hl_kill_r, hl_kill_n, hl_kill_l, hl_tl_s, hl_tl_n, hl_cal_some, hl_gI, hl_gJ, hl_gsI, hl_gsJ, hl_tv01, if_true, if_false, hl_up_a, hl_row_a, not_true, not_false_eq_true, hl_10]
theorem hx_rff {f pl : Nat} {r : Int32} (h : hx_CF t L f pl I) : hl_call (d + 1) 64 [.ref 38, .int r] (hl_g N I J) = some (none, hl_g N I J) := by
  have f0 : ¬ nI f = 0 := nI_ne0 (by have := h.2.1; omega) (by have := h.2.1; omega)
  rw [hl_e64]
  simp only [hl_r64_0, hl_r64_1, hl_r64_4, hl_r64_7, hl_r64_8, hl_r64_9, hl_r64_12, hl_r64_13, hl_r64_14, hl_r64_17, hl_r64_20, hl_o_38, hl_p_38_0, hl_p_38_1, h.2.2.1, f0, hl_kill_i, hl_kill_r, hl_kill_n, hl_kill_l, hl_tl_s, hl_tl_n, hl_cal_some, hl_gI, hl_gJ, hl_gsI, hl_gsJ, hl_tv01, if_true, if_false, hl_up_a, hl_row_a, not_true, not_false_eq_true, hl_10]
/-- demand -/
theorem hx_s65 {k : Nat} (h : hx_CR t L p n I) (hk : k < 100) : ∃ I', hl_call (d + 15) 65 [.ref 38, .int (nI k)] (hl_g N I J) = some (none, hl_g N I' J) ∧ ((hx_tk t L p).1 = k → hx_CR t L (hx_tk t L p).2.2.2 n I' ∧ hx_f38 I I') ∧ (¬ (hx_tk t L p).1 = k → hx_CF t L 1 (hx_tk t L p).2.2.1 I' ∧ hx_fF I I') := by
  obtain ⟨-, -, -, -, k44, -⟩ := hx_tk_in (t := t) h.2.2.2.2.2.2
  have h5 := h.2.1.2.2.1
  have h7 := h.2.2.1
  by_cases z : (hx_tk t L p).1 = k
  · obtain ⟨I1, e1, c1, f1⟩ := hx_adv (d := d) (N := N) (J := J) h
    refine ⟨I1, ?_, fun _ => ⟨c1, f1⟩, fun y => absurd z y⟩
    rw [hl_e65]
    simp only [hl_r65_0, hl_r65_1, hl_r65_4, hl_r65_5, hl_r65_8, hl_r65_9, hl_r65_10, hl_r65_13, hl_r65_14, hl_r65_17, hl_r65_20, hl_r65_21, hl_r65_24, hl_o_38, hl_p_38_0, hl_p_38_1, h5, z, h7, e1, hl_tl_n, hl_kill_i, hl_kill_r, hl_kill_n, hl_kill_l, hl_tl_s, hl_tl_n, hl_cal_some, hl_gI, hl_gJ, hl_gsI, hl_gsJ, hl_tv01, if_true, if_false, hl_up_a, hl_row_a, not_true, not_false_eq_true, hl_10]
  · obtain ⟨I1, e1, c1, f1⟩ := hx_rf0 (d := d + 13) (N := N) (J := J) (r := 1) h (by omega)
    have z' : ¬ nI (hx_tk t L p).1 = nI k := fun y => z ((nI_eq (by omega) (by omega)).mp y)
    refine ⟨I1, ?_, fun y => absurd y z, fun _ => ⟨c1, f1⟩⟩
    have e1' : hl_call (d + 14) 64 [.ref 38, .int 1] (hl_g N I J) = some (none, hl_g N I1 J) := e1
    have q7 : I1 38 7 = nI 1 := c1.2.2.1
    have n1 : ¬ nI 1 = 0 := by decide
    rw [hl_e65]
    simp only [hl_r65_0, hl_r65_1, hl_r65_4, hl_r65_5, hl_r65_8, hl_r65_9, hl_r65_10, hl_r65_13, hl_r65_14, hl_r65_17, hl_r65_20, hl_r65_21, hl_r65_24, hl_o_38, hl_p_38_0, hl_p_38_1, h5, z', e1', q7, n1, hl_tl_n, hl_kill_i, hl_kill_r, hl_kill_n, hl_kill_l, hl_tl_s, hl_tl_n, hl_cal_some, hl_gI, hl_gJ, hl_gsI, hl_gsJ, hl_tv01, if_true, if_false, hl_up_a, hl_row_a, not_true, not_false_eq_true, hl_10]
theorem hx_s65f {f pl : Nat} {k : Int32} (h : hx_CF t L f pl I) : hl_call (d + 15) 65 [.ref 38, .int k] (hl_g N I J) = some (none, hl_g N I J) := by
  have f0 : ¬ nI f = 0 := nI_ne0 (by have := h.2.1; omega) (by have := h.2.1; omega)
  have e1 := hx_rff (d := d + 13) (N := N) (J := J) (r := 1) h
  have e1' : hl_call (d + 14) 64 [.ref 38, .int 1] (hl_g N I J) = some (none, hl_g N I J) := e1
  rw [hl_e65]
  by_cases z : I 38 5 = k
  · simp only [hl_r65_0, hl_r65_1, hl_r65_4, hl_r65_5, hl_r65_8, hl_r65_9, hl_r65_10, hl_r65_13, hl_r65_14, hl_r65_17, hl_r65_20, hl_r65_21, hl_r65_24, hl_o_38, hl_p_38_0, hl_p_38_1, z, h.2.2.1, f0, hl_kill_i, hl_kill_r, hl_kill_n, hl_kill_l, hl_tl_s, hl_tl_n, hl_cal_some, hl_gI, hl_gJ, hl_gsI, hl_gsJ, hl_tv01, if_true, if_false, hl_up_a, hl_row_a, not_true, not_false_eq_true, hl_10]
  · simp only [hl_r65_0, hl_r65_1, hl_r65_4, hl_r65_5, hl_r65_8, hl_r65_9, hl_r65_10, hl_r65_13, hl_r65_14, hl_r65_17, hl_r65_20, hl_r65_21, hl_r65_24, hl_o_38, hl_p_38_0, hl_p_38_1, z, e1', h.2.2.1, f0, hl_tl_n, hl_kill_i, hl_kill_r, hl_kill_n, hl_kill_l, hl_tl_s, hl_tl_n, hl_cal_some, hl_gI, hl_gJ, hl_gsI, hl_gsJ, hl_tv01, if_true, if_false, hl_up_a, hl_row_a, not_true, not_false_eq_true, hl_10]
/-- add -/
theorem hx_s78 {k v : Int32} (h3 : I 39 3 = nI n) (hn : n < 300) : hl_call (d + 1) 78 [.ref 39, .int k, .int v] (hl_g N I J) = some (some (.int (nI n)), hl_g N (hl_up (hl_up I 40 n (k ||| v <<< (6 &&& 31))) 39 3 (nI (n + 1))) J) := by
  have c1 : nI n < 300 := (nI_lt hn (by omega) : nI n < nI 300)
  have bn : hl_inb (nI n) 300 = true := hl_inb_nI hn (by omega)
  have en : nI n + 1 = nI (n + 1) := (nI_succ n).symm
  have eb : nI (n + 1) - 1 = nI n := nI_pred n
  have u3 : hl_up I 40 n (k ||| v <<< (6 &&& 31)) 39 3 = nI n := by rw [hl_up_ne _ _ _ (by omega)]; exact h3
  have v3 : hl_up (hl_up I 40 n (k ||| v <<< (6 &&& 31))) 39 3 (nI (n + 1)) 39 3 = nI (n + 1) := hl_up_at
  rw [hl_e78]
  simp only [hl_r78_0, hl_r78_1, hl_r78_4, hl_r78_7, hl_r78_10, hl_r78_11, hl_r78_12, hl_r78_13, hl_r78_16, hl_r78_17, hl_r78_20, hl_r78_21, hl_r78_22, hl_r78_24, hl_r78_25, hl_r78_26, hl_r78_27, hl_r78_28, hl_r78_29, hl_r78_32, hl_r78_33, hl_r78_34, hl_r78_37, hl_r78_38, hl_r78_41, hl_r78_42, hl_r78_43, hl_o_39, hl_p_39_0, hl_p_39_1, hl_p_39_2, hl_a_40, hl_z_40, h3, c1, bn, hl_cq (show n < 10000 by omega), u3, v3, en, eb, hl_kill_i, hl_kill_r, hl_kill_n, hl_kill_l, hl_tl_s, hl_tl_n, hl_cal_some, hl_gI, hl_gJ, hl_gsI, hl_gsJ, hl_tv01, if_true, if_false, hl_up_a, hl_row_a, not_true, not_false_eq_true, hl_10]
theorem hx_s78f {f pl : Nat} {k v : Int32} (h : hx_CF t L f pl I) : ∃ I' w, hl_call (d + 1) 78 [.ref 39, .int k, .int v] (hl_g N I J) = some (some (.int w), hl_g N I' J) ∧ hx_CF t L f pl I' ∧ hx_fF I I' := by
  obtain ⟨T, hf, h7, h8, m, hm, h3⟩ := h
  by_cases z : m < 300
  · refine ⟨_, _, hx_s78 (d := d) (N := N) (J := J) (k := k) (v := v) h3 z, ⟨⟨T.1, by rw [hl_up_ne _ _ _ (by omega), hl_up_ne _ _ _ (by omega)]; exact T.2.1, fun k hk => by rw [hl_up_ne _ _ _ (by omega), hl_up_ne _ _ _ (by omega)]; exact T.2.2 k hk⟩, hf, by rw [hl_up_ne _ _ _ (by omega), hl_up_ne _ _ _ (by omega)]; exact h7, by rw [hl_up_ne _ _ _ (by omega), hl_up_ne _ _ _ (by omega)]; exact h8, m + 1, by omega, hl_up_at⟩, ⟨fun b h1 h2 h3' => by rw [hl_up_ne _ _ _ h2, hl_up_ne _ _ _ h3'], fun j hj => by rw [hl_up_a, if_pos rfl, if_neg hj, hl_up_ne _ _ _ (by omega)]⟩⟩
  · have c1 : ¬ nI m < 300 := Int32.not_lt.mpr ((nI_le (by omega) (by omega) : nI 300 ≤ nI m))
    refine ⟨I, -1, ?_, ⟨T, hf, h7, h8, m, hm, h3⟩, hx_fF_rf I⟩
    rw [hl_e78]
    simp only [hl_r78_0, hl_r78_1, hl_r78_4, hl_r78_7, hl_r78_10, hl_r78_11, hl_r78_12, hl_r78_13, hl_r78_16, hl_r78_17, hl_r78_20, hl_r78_21, hl_r78_22, hl_r78_24, hl_r78_25, hl_r78_26, hl_r78_27, hl_r78_28, hl_r78_29, hl_r78_32, hl_r78_33, hl_r78_34, hl_r78_37, hl_r78_38, hl_r78_41, hl_r78_42, hl_r78_43, hl_o_39, hl_p_39_0, hl_p_39_1, hl_p_39_2, h3, c1, hl_kill_i, hl_kill_r, hl_kill_n, hl_kill_l, hl_tl_s, hl_tl_n, hl_cal_some, hl_gI, hl_gJ, hl_gsI, hl_gsJ, hl_tv01, if_true, if_false, hl_up_a, hl_row_a, not_true, not_false_eq_true, hl_10]
/-- aimHere -/
theorem hx_s79 {j k : Nat} (h3 : I 39 3 = nI n) (hn : n ≤ 300) (hj : j < n) (hk : k < 64) (h4 : I 40 j = hx_enc k 0) : hl_call (d + 2) 79 [.ref 39, .int (nI j)] (hl_g N I J) = some (none, hl_g N (hl_up I 40 j (hx_enc k n)) J) := by
  have w : hl_in (nI j) 0 (nI n - 1) = true := by rw [hl_in_inb (by omega)]; exact hl_inb_nI hj (by omega)
  have bj : hl_inb (nI j) 300 = true := hl_inb_nI (by omega) (by omega)
  have e76 : hl_call (d + 1) 76 [.ref 39, .int (nI j)] (hl_g N I J) = some (some (.int (nI k)), hl_g N I J) := by
    rw [hl_e76]
    simp only [hl_r76_0, hl_r76_1, hl_r76_4, hl_r76_5, hl_r76_6, hl_r76_8, hl_r76_9, hl_o_39, hl_p_39_0, hl_p_39_1, hl_p_39_2, hl_a_40, hl_z_40, bj, hl_cq (show j < 10000 by omega), h4, hx_enc_k hk (show 0 < 2 ^ 20 by omega), hl_kill_i, hl_kill_r, hl_kill_n, hl_kill_l, hl_tl_s, hl_tl_n, hl_cal_some, hl_gI, hl_gJ, hl_gsI, hl_gsJ, hl_tv01, if_true, if_false, hl_up_a, hl_row_a, not_true, not_false_eq_true, hl_10]
  have ee : nI k ||| nI n <<< (6 &&& 31) = hx_enc k n := rfl
  rw [hl_e79]
  simp only [hl_r79_0, hl_r79_1, hl_r79_2, hl_r79_3, hl_r79_6, hl_r79_7, hl_r79_8, hl_r79_11, hl_r79_14, hl_r79_15, hl_r79_18, hl_r79_19, hl_r79_20, hl_r79_21, hl_r79_24, hl_r79_25, hl_r79_28, hl_r79_30, hl_r79_31, hl_r79_32, hl_r79_33, hl_o_39, hl_p_39_0, hl_p_39_1, hl_p_39_2, hl_a_40, hl_z_40, h3, hl_s147, w, hl_tv_t, e76, bj, hl_cq (show j < 10000 by omega), ee, hl_kill_i, hl_kill_r, hl_kill_n, hl_kill_l, hl_tl_s, hl_tl_n, hl_cal_some, hl_gI, hl_gJ, hl_gsI, hl_gsJ, hl_tv01, if_true, if_false, hl_up_a, hl_row_a, not_true, not_false_eq_true, hl_10]
theorem hx_s79f {f pl : Nat} {x : Int32} (h : hx_CF t L f pl I) : ∃ I', hl_call (d + 2) 79 [.ref 39, .int x] (hl_g N I J) = some (none, hl_g N I' J) ∧ hx_CF t L f pl I' ∧ hx_fF I I' := by
  obtain ⟨T, hf, h7, h8, m, hm, h3⟩ := h
  cases w : hl_in x 0 (nI m - 1) with
  | false =>
    refine ⟨I, ?_, ⟨T, hf, h7, h8, m, hm, h3⟩, hx_fF_rf I⟩
    rw [hl_e79]
    simp only [hl_r79_0, hl_r79_1, hl_r79_2, hl_r79_3, hl_r79_6, hl_r79_7, hl_r79_8, hl_r79_11, hl_r79_14, hl_r79_15, hl_r79_18, hl_r79_19, hl_r79_20, hl_r79_21, hl_r79_24, hl_r79_25, hl_r79_28, hl_r79_30, hl_r79_31, hl_r79_32, hl_r79_33, hl_o_39, hl_p_39_0, hl_p_39_1, hl_p_39_2, h3, hl_s147, w, hl_tv_f, hl_kill_i, hl_kill_r, hl_kill_n, hl_kill_l, hl_tl_s, hl_tl_n, hl_cal_some, hl_gI, hl_gJ, hl_gsI, hl_gsJ, hl_tv01, if_true, if_false, hl_up_a, hl_row_a, not_true, not_false_eq_true, hl_10]
  | true =>
    have w' := w
    rw [hl_in_inb (by omega)] at w'
    obtain ⟨j, hj, ej⟩ := hl_inb_of w' (by omega)
    rw [ej] at w ⊢
    have bj : hl_inb (nI j) 300 = true := hl_inb_nI (by omega) (by omega)
    have e76 : hl_call (d + 1) 76 [.ref 39, .int (nI j)] (hl_g N I J) = some (some (.int (I 40 j &&& 63)), hl_g N I J) := by
      rw [hl_e76]
      simp only [hl_r76_0, hl_r76_1, hl_r76_4, hl_r76_5, hl_r76_6, hl_r76_8, hl_r76_9, hl_o_39, hl_p_39_0, hl_p_39_1, hl_p_39_2, hl_a_40, hl_z_40, bj, hl_cq (show j < 10000 by omega), hl_kill_i, hl_kill_r, hl_kill_n, hl_kill_l, hl_tl_s, hl_tl_n, hl_cal_some, hl_gI, hl_gJ, hl_gsI, hl_gsJ, hl_tv01, if_true, if_false, hl_up_a, hl_row_a, not_true, not_false_eq_true, hl_10]
    refine ⟨hl_up I 40 j ((I 40 j &&& (63 : Int32)) ||| nI m <<< ((6 : Int32) &&& 31)), ?_, ⟨⟨T.1, by rw [hl_up_ne _ _ _ (by omega)]; exact T.2.1, fun k hk => by rw [hl_up_ne _ _ _ (by omega)]; exact T.2.2 k hk⟩, hf, by rw [hl_up_ne _ _ _ (by omega)]; exact h7, by rw [hl_up_ne _ _ _ (by omega)]; exact h8, m, hm, by rw [hl_up_ne _ _ _ (by omega)]; exact h3⟩, ⟨fun b h1 h2 h3' => hl_up_ne _ _ _ h3', fun j' hj' => by rw [hl_up_ne _ _ _ (by omega)]⟩⟩
    rw [hl_e79]
    simp only [hl_r79_0, hl_r79_1, hl_r79_2, hl_r79_3, hl_r79_6, hl_r79_7, hl_r79_8, hl_r79_11, hl_r79_14, hl_r79_15, hl_r79_18, hl_r79_19, hl_r79_20, hl_r79_21, hl_r79_24, hl_r79_25, hl_r79_28, hl_r79_30, hl_r79_31, hl_r79_32, hl_r79_33, hl_o_39, hl_p_39_0, hl_p_39_1, hl_p_39_2, hl_a_40, hl_z_40, h3, hl_s147, w, hl_tv_t, e76, bj, hl_cq (show j < 10000 by omega), hl_kill_i, hl_kill_r, hl_kill_n, hl_kill_l, hl_tl_s, hl_tl_n, hl_cal_some, hl_gI, hl_gJ, hl_gsI, hl_gsJ, hl_tv01, if_true, if_false, hl_up_a, hl_row_a, not_true, not_false_eq_true, hl_10]
/-- after an add in a good state -/
theorem hx_CR_add {k v : Nat} (h : hx_CR t L p n I) (hq : n + 1 ≤ p) : hx_CR t L p (n + 1) (hl_up (hl_up I 40 n (hx_enc k v)) 39 3 (nI (n + 1))) := by
  obtain ⟨T, S, h7, h8, h3, hn, hp⟩ := h
  have r38 : hl_up (hl_up I 40 n (hx_enc k v)) 39 3 (nI (n + 1)) 38 = I 38 := by rw [hl_up_ne _ _ _ (by omega), hl_up_ne _ _ _ (by omega)]
  refine ⟨⟨T.1, by rw [r38]; exact T.2.1, fun k hk => by rw [hl_up_ne _ _ _ (by omega), hl_up_ne _ _ _ (by omega)]; exact T.2.2 k hk⟩, ?_, by rw [r38]; exact h7, by rw [r38]; exact h8, hl_up_at, hq, hp⟩
  unfold hx_TS
  rw [r38]
  exact S
theorem hx_fT_add {k v m : Nat} (hm : m ≤ n) : hx_fT m I (hl_up (hl_up I 40 n (hx_enc k v)) 39 3 (nI (n + 1))) := ⟨⟨fun b h1 h2 h3' => by rw [hl_up_ne _ _ _ h2, hl_up_ne _ _ _ h3'], fun j hj => by rw [hl_up_a, if_pos rfl, if_neg hj, hl_up_ne _ _ _ (by omega)]⟩, fun j hj => by rw [hl_up_ne _ _ _ (by omega), hl_up_a, if_pos rfl, if_neg (by omega)]⟩
theorem hx_add_at {k v : Nat} : (∀ j, j < n → hl_up (hl_up I 40 n (hx_enc k v)) 39 3 (nI (n + 1)) 40 j = I 40 j) ∧ hl_up (hl_up I 40 n (hx_enc k v)) 39 3 (nI (n + 1)) 40 n = hx_enc k v := ⟨fun j hj => by rw [hl_up_ne _ _ _ (by omega), hl_up_a, if_pos rfl, if_neg (by omega)], by rw [hl_up_ne _ _ _ (by omega)]; exact hl_up_at⟩
end HXCPAR
