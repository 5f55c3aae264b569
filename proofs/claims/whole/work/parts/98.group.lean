/-! the reference's groups -/
def hl_lo (st : Nat → Int32) (c : Nat) : Nat → Nat → Nat
  | 0, low => low
  | j + 1, low => hl_lo st c j (if st j = st c then j else low)
theorem hl_lo_in {st : Nat → Int32} {c : Nat} (j : Nat) : ∀ low, j ≤ low → low ≤ c → st low = st c → (∀ i, j ≤ i → i < low → ¬ st i = st c) → hl_lo st c j low ≤ c ∧ st (hl_lo st c j low) = st c ∧ ∀ i, i < hl_lo st c j low → ¬ st i = st c := by
  induction j with
  | zero => intro low _ h2 h3 h4; exact ⟨h2, h3, fun i hi => h4 i (Nat.zero_le i) hi⟩
  | succ j ih =>
    intro low h1 h2 h3 h4
    unfold hl_lo
    by_cases q : st j = st c
    · rw [if_pos q]
      exact ih j (Nat.le_refl j) (by omega) q (fun i a b => by omega)
    · rw [if_neg q]
      refine ih low (by omega) h2 h3 (fun i a b => ?_)
      by_cases e : i = j
      · rw [e]; exact q
      · exact h4 i (by omega) b
def hl_lwc (st : Nat → Int32) (wh : Bool) (c : Nat) : Nat := if wh = true then hl_lo st c c c else c
/-- groups of the first n cells, and how many -/
def hl_grp (st : Nat → Int32) (wh : Bool) : Nat → (Nat → Nat) × Nat
  | 0 => (fun _ => 0, 0)
  | n + 1 => if hl_lwc st wh n < n then (hl_us (hl_grp st wh n).1 n ((hl_grp st wh n).1 (hl_lwc st wh n)), (hl_grp st wh n).2) else (hl_us (hl_grp st wh n).1 n (hl_grp st wh n).2, (hl_grp st wh n).2 + 1)
theorem hl_grp_le {st : Nat → Int32} {wh : Bool} (n : Nat) : (hl_grp st wh n).2 ≤ n ∧ ∀ c, c < n → (hl_grp st wh n).1 c < (hl_grp st wh n).2 := by
  induction n with
  | zero => exact ⟨Nat.le_refl 0, fun c hc => absurd hc (Nat.not_lt_zero c)⟩
  | succ n ih =>
    obtain ⟨a, b⟩ := ih
    unfold hl_grp
    by_cases q : hl_lwc st wh n < n
    · rw [if_pos q]
      refine ⟨by show (hl_grp st wh n).2 ≤ n + 1; omega, fun c hc => ?_⟩
      show hl_us (hl_grp st wh n).1 n ((hl_grp st wh n).1 (hl_lwc st wh n)) c < (hl_grp st wh n).2
      unfold hl_us
      split
      · exact b _ q
      · exact b c (by omega)
    · rw [if_neg q]
      refine ⟨by show (hl_grp st wh n).2 + 1 ≤ n + 1; omega, fun c hc => ?_⟩
      show hl_us (hl_grp st wh n).1 n (hl_grp st wh n).2 c < (hl_grp st wh n).2 + 1
      unfold hl_us
      split
      · omega
      · have := b c (by omega); omega
theorem hl_di_dec {j : Nat} : nI j + (-1) = hl_di j := by
  cases j with
  | zero => rfl
  | succ n => exact hl_im1
theorem hl_di_sub {j : Nat} : nI j - 1 = hl_di j := by
  cases j with
  | zero => rfl
  | succ n => exact nI_pred n
section HLGR
variable {d N : Nat} {I I' : Nat → Nat → Int32} {J : Nat → Nat → Int64} {st : Nat → Int32}
theorem hl_l229j {c : Nat} {cnt : Int32} (hN : N ≤ 24) (hc : c < N) (hst : ∀ c, c < N → I 86 (30 + 7 * c + 2) = st c) (j : Nat) : ∀ low, j ≤ c → ∃ v : Int32, hl_Run 229 (hl_call (d + 1)) 20 [.ref 85, .int 1, .int cnt, .int (nI c), .int (nI low), .int (hl_di j)] [] (hl_g N I J) = hl_Run 229 (hl_call (d + 1)) 55 [.ref 85, .int 1, .int cnt, .int (nI c), .int (nI (hl_lo st c j low)), .int v] [] (hl_g N I J) := by
  have k2 : (2 : Int32) = nI 2 := rfl
  induction j with
  | zero =>
    intro low _
    have c1 : hl_di 0 < 0 := by decide
    exact ⟨hl_di 0, by simp only [hl_r229_20, hl_r229_22, c1, hl_lo, hl_kill_i, hl_kill_r, hl_kill_n, hl_kill_l, hl_tl_s, hl_tl_n, hl_cal_some, hl_gI, hl_gJ, hl_gsI, hl_gsJ, hl_tv01, if_true, if_false, hl_up_a, hl_row_a]⟩
  | succ j ih =>
    intro low hj
    have ed : hl_di (j + 1) = nI j := rfl
    have c1 : ¬ nI j < 0 := Int32.not_lt.mpr (show nI 0 ≤ nI j from nI_le (by omega) (by omega))
    have s1 := hl_s155 (d := d) (N := N) (I := I) (J := J) (c := j) (k := 2) (by omega) (by decide)
    have s2 := hl_s155 (d := d) (N := N) (I := I) (J := J) (c := c) (k := 2) (by omega) (by decide)
    rw [hst j (by omega)] at s1
    rw [hst c hc] at s2
    rw [← k2] at s1 s2
    unfold hl_lo
    by_cases q : st j = st c
    · obtain ⟨v, e⟩ := ih j (by omega)
      refine ⟨v, ?_⟩
      rw [if_pos q, ← e, ed, hl_r229_20]
      simp only [hl_r229_22, hl_r229_25, hl_r229_26, hl_r229_29, hl_r229_30, hl_r229_32, hl_r229_33, hl_r229_36, hl_r229_37, hl_r229_38, hl_r229_39, hl_r229_42, hl_r229_45, hl_r229_47, hl_r229_49, hl_r229_52, hl_o_85, hl_p_85_3, hl_p_85_4, hl_p_85_5, hl_p_85_6, hl_p_85_19, hl_p_85_23, hl_p_85_24, hl_p_85_25, hl_p_85_26, hl_p_85_27, hl_p_85_28, hl_p_85_29, hl_p_85_30, hl_p_85_31, hl_p_85_33, hl_p_85_34, hl_p_85_35, hl_p_85_36, hl_p_85_37, c1, s1, s2, q, not_true, hl_10, hl_di_dec, hl_kill_i, hl_kill_r, hl_kill_n, hl_kill_l, hl_tl_s, hl_tl_n, hl_cal_some, hl_gI, hl_gJ, hl_gsI, hl_gsJ, hl_tv01, if_true, if_false, hl_up_a, hl_row_a]
      try rw [hl_r229_20]
    · obtain ⟨v, e⟩ := ih low (by omega)
      refine ⟨v, ?_⟩
      rw [if_neg q, ← e, ed, hl_r229_20]
      simp only [hl_r229_22, hl_r229_25, hl_r229_26, hl_r229_29, hl_r229_30, hl_r229_32, hl_r229_33, hl_r229_36, hl_r229_37, hl_r229_38, hl_r229_39, hl_r229_42, hl_r229_45, hl_r229_47, hl_r229_49, hl_r229_52, hl_o_85, hl_p_85_3, hl_p_85_4, hl_p_85_5, hl_p_85_6, hl_p_85_19, hl_p_85_23, hl_p_85_24, hl_p_85_25, hl_p_85_26, hl_p_85_27, hl_p_85_28, hl_p_85_29, hl_p_85_30, hl_p_85_31, hl_p_85_33, hl_p_85_34, hl_p_85_35, hl_p_85_36, hl_p_85_37, c1, s1, s2, q, not_false_eq_true, hl_10, hl_di_dec, hl_kill_i, hl_kill_r, hl_kill_n, hl_kill_l, hl_tl_s, hl_tl_n, hl_cal_some, hl_gI, hl_gJ, hl_gsI, hl_gsJ, hl_tv01, if_true, if_false, hl_up_a, hl_row_a]
      try rw [hl_r229_20]
end HLGR
