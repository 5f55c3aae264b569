/-! the next pipe that goes deeper; flow along a path -/
theorem hl_di_inj {a b : Nat} (ha : a < 1000) (hb : b < 1000) : (hl_di a = hl_di b) = (a = b) := by
  apply propext
  cases a with
  | zero =>
    cases b with
    | zero => exact ⟨fun _ => rfl, fun _ => rfl⟩
    | succ b => exact ⟨fun q => absurd q.symm (hl_nm1 (by omega)), fun q => by omega⟩
  | succ a =>
    cases b with
    | zero => exact ⟨fun q => absurd q (hl_nm1 (by omega)), fun q => by omega⟩
    | succ b =>
      constructor
      · intro q
        have : a = b := (nI_eq (by omega) (by omega)).mp q
        omega
      · intro q
        have : a = b := by omega
        rw [this]
def hl_dp (use : Nat → Bool) (sr : Nat → Nat) (u : Nat) : Nat → Nat
  | 0 => 0
  | k + 1 => if sr k = u ∧ use k = true then k + 1 else hl_dp use sr u k
theorem hl_dp_le {use : Nat → Bool} {sr : Nat → Nat} {u : Nat} (k : Nat) : hl_dp use sr u k ≤ k := by
  induction k with
  | zero => exact Nat.le_refl 0
  | succ k ih => unfold hl_dp; split <;> omega
theorem hl_dp_s {use : Nat → Bool} {sr : Nat → Nat} {u : Nat} (k : Nat) (h : 0 < hl_dp use sr u k) : sr (hl_dp use sr u k - 1) = u ∧ use (hl_dp use sr u k - 1) = true := by
  induction k with
  | zero => exact absurd h (Nat.lt_irrefl 0)
  | succ k ih =>
    unfold hl_dp at h ⊢
    by_cases q : sr k = u ∧ use k = true
    · rw [if_pos q]; exact q
    · rw [if_neg q] at h ⊢; exact ih h
theorem hl_dp_n {use : Nat → Bool} {sr : Nat → Nat} {u : Nat} (k : Nat) : ∀ p, hl_dp use sr u k ≤ p → p < k → sr p = u → use p = false := by
  induction k with
  | zero => intro p _ h; omega
  | succ k ih =>
    intro p h1 h2 h3
    unfold hl_dp at h1
    by_cases q : sr k = u ∧ use k = true
    · rw [if_pos q] at h1; omega
    · rw [if_neg q] at h1
      by_cases z : p = k
      · subst z
        cases h : use p with
        | false => rfl
        | true => exact absurd ⟨h3, h⟩ q
      · exact ih p h1 (by omega) h3
/-- along a path -/
def hl_pa (P : Nat → Nat) (x : Int) (r : Nat → Int) : Nat → Nat → Int
  | 0 => r
  | j + 1 => hl_ag (hl_pa P x r j) (P j) (hl_pe (P j)) x
def hl_pmn (P : Nat → Nat) (r : Nat → Int) : Nat → Int
  | 0 => 9223372036854775807
  | j + 1 => if r (P j) < hl_pmn P r j then r (P j) else hl_pmn P r j
section HLPUSH
variable {d N : Nat} {I I' : Nat → Nat → Int32} {J J' : Nat → Nat → Int64} {nd np : Nat} {sr ds : Nat → Nat} {r : Nat → Int}
theorem hl_pmn_le {P : Nat → Nat} (n : Nat) : ∀ j, j < n → hl_pmn P r n ≤ r (P j) := by
  induction n with
  | zero => intro j hj; omega
  | succ n ih =>
    intro j hj
    unfold hl_pmn
    by_cases e : j = n
    · subst e; split <;> omega
    · have := ih j (by omega); split <;> omega
theorem hl_pmn_ex {P : Nat → Nat} (n : Nat) (h : ∀ j, j < n + 1 → r (P j) < 9223372036854775807) : ∃ j, j < n + 1 ∧ hl_pmn P r (n + 1) = r (P j) := by
  induction n with
  | zero =>
    refine ⟨0, by omega, ?_⟩
    show (if r (P 0) < 9223372036854775807 then r (P 0) else 9223372036854775807) = _
    rw [if_pos (h 0 (by omega))]
  | succ n ih =>
    obtain ⟨j, j1, j2⟩ := ih (fun j hj => h j (by omega))
    show ∃ j', _ ∧ (if r (P (n + 1)) < hl_pmn P r (n + 1) then r (P (n + 1)) else hl_pmn P r (n + 1)) = _
    by_cases q : r (P (n + 1)) < hl_pmn P r (n + 1)
    · rw [if_pos q]; exact ⟨n + 1, by omega, rfl⟩
    · rw [if_neg q]; exact ⟨j, by omega, j2⟩
/-- deeperPipe -/
theorem hl_l23 {E : Nat → Nat} {u : Nat} (hR : hl_Rm J np r) (hu : u < nd) (hE : ∀ v, v < nd → E v < 900) (hEu : 0 < E u) (k : Nat) : ∀ (I : Nat → Nat → Int32) (i : Nat) (l3 : Value), hl_NL I nd np sr ds → i + k ≤ np → (∀ v, v < nd → I 74 v = hl_di (E v)) → I 75 u = hl_lst sr u k → ∃ I', hl_Run 23 (hl_call d) 2 [.ref 69, .int (nI u), .int (nI i), l3] [] (hl_g N I J) = some (some (.int (hl_di (hl_dp (fun p => decide (0 < r p) && decide (E (ds p) = E u + 1)) sr u k))), hl_g N I' J) ∧ (∀ b, b ≠ 75 → I' b = I b) ∧ (∀ v, v ≠ u → I' 75 v = I 75 v) ∧ I' 75 u = hl_lst sr u (hl_dp (fun p => decide (0 < r p) && decide (E (ds p) = E u + 1)) sr u k) := by
  induction k with
  | zero =>
    intro I i l3 hL hi h74 h75
    refine ⟨I, ?_, fun _ _ => rfl, fun _ _ => rfl, h75⟩
    obtain ⟨⟨n2, n74, n432⟩, -⟩ := hL
    have e1 : I 75 u = -1 := h75
    by_cases c : i < 432
    · have c1 : ¬ (432 : Int32) ≤ nI i := show ¬ nI 432 ≤ nI i from nI_ge c (by omega)
      simp only [hl_r23_2, hl_r23_3, hl_r23_6, hl_r23_9, hl_r23_10, hl_r23_13, hl_r23_14, hl_r23_15, hl_r23_16, hl_r23_79, hl_r23_80, hl_o_69, hl_p_69_2, hl_p_69_3, hl_p_69_4, hl_p_69_5, hl_p_69_6, hl_p_69_7, hl_p_69_8, hl_p_69_9, hl_a_75, hl_z_75, hl_b74 (show u < 74 by omega), hl_cq (show u < 10000 by omega), c1, e1, hl_dp, hl_di, hl_kill_i, hl_kill_r, hl_kill_n, hl_kill_l, hl_tl_s, hl_tl_n, hl_cal_some, hl_gI, hl_gJ, hl_gsI, hl_gsJ, hl_tv01, if_true, if_false, hl_up_a, hl_row_a]
    · have c1 : (432 : Int32) ≤ nI i := show nI 432 ≤ nI i from nI_le (by omega) (by omega)
      simp only [hl_r23_2, hl_r23_3, hl_r23_6, hl_r23_9, hl_r23_10, hl_r23_13, hl_r23_14, hl_r23_15, hl_r23_16, hl_r23_79, hl_r23_80, c1, hl_dp, hl_di, hl_kill_i, hl_kill_r, hl_kill_n, hl_kill_l, hl_tl_s, hl_tl_n, hl_cal_some, hl_gI, hl_gJ, hl_gsI, hl_gsJ, hl_tv01, if_true, if_false, hl_up_a, hl_row_a]
  | succ k ih =>
    intro I i l3 hL hi h74 h75
    have hL' := hL
    obtain ⟨⟨n2, n74, n432⟩, h0, hnp, h72, h70, h71⟩ := hL
    by_cases q : sr k = u
    · have el : I 75 u = nI k := by rw [h75]; exact if_pos q
      obtain ⟨d1, d2, -⟩ := h72 k (by omega)
      have c1 : ¬ (432 : Int32) ≤ nI i := show ¬ nI 432 ≤ nI i from nI_ge (by omega) (by omega)
      have en : nI i + 1 = nI (i + 1) := (nI_succ i).symm
      have enx : I 71 k = hl_lst sr u k := by rw [h71 k (by omega), q]
      have bk := hl_b432 (show k < 432 by omega)
      have ck := hl_cq (show k < 10000 by omega)
      have bv := hl_b74 (show ds k < 74 by omega)
      have cv := hl_cq (show ds k < 10000 by omega)
      have bu := hl_b74 (show u < 74 by omega)
      have cu := hl_cq (show u < 10000 by omega)
      have er := hl_Jpos (hR k (by omega)).1
      have eD := h74 (ds k) d2
      have eU := h74 u hu
      have ed : hl_di (E u) + 1 = hl_di (E u + 1) := hl_di_s hEu
      have h1 := hE (ds k) d2
      have h2 := hE u hu
      unfold hl_dp
      by_cases z : (decide (0 < r k) && decide (E (ds k) = E u + 1)) = true
      · rw [if_pos ⟨q, z⟩]
        rw [Bool.and_eq_true, decide_eq_true_eq, decide_eq_true_eq] at z
        obtain ⟨z1, z2⟩ := z
        have nr : ¬ r k ≤ 0 := by omega
        rw [z2] at eD
        refine ⟨I, ?_, fun _ _ => rfl, fun _ _ => rfl, h75⟩
        rw [show hl_di (k + 1) = nI k from rfl]
        simp only [hl_r23_2, hl_r23_3, hl_r23_6, hl_r23_9, hl_r23_10, hl_r23_13, hl_r23_14, hl_r23_15, hl_r23_16, hl_r23_19, hl_r23_20, hl_r23_23, hl_r23_24, hl_r23_25, hl_r23_26, hl_r23_27, hl_r23_30, hl_r23_31, hl_r23_32, hl_r23_33, hl_r23_34, hl_r23_37, hl_r23_38, hl_r23_41, hl_r23_42, hl_r23_45, hl_r23_46, hl_r23_47, hl_r23_48, hl_r23_49, hl_r23_52, hl_r23_53, hl_r23_54, hl_r23_55, hl_r23_56, hl_r23_59, hl_r23_60, hl_o_69, hl_p_69_2, hl_p_69_3, hl_p_69_4, hl_p_69_5, hl_p_69_6, hl_p_69_7, hl_p_69_8, hl_p_69_9, hl_a_75, hl_z_75, hl_a_73, hl_z_73, hl_a_74, hl_z_74, hl_a_72, hl_z_72, c1, bu, cu, el, hl_nm1 (show k < 1000 by omega), bk, ck, hl_lcmp_le0, er, nr, d1, bv, cv, eD, eU, ed, not_true, hl_kill_i, hl_kill_r, hl_kill_n, hl_kill_l, hl_tl_s, hl_tl_n, hl_cal_some, hl_gI, hl_gJ, hl_gsI, hl_gsJ, hl_tv01, if_true, if_false, hl_up_a, hl_row_a]
      · rw [if_neg (fun y => z y.2)]
        obtain ⟨I2, e2, f2, g2, k2⟩ := ih (hl_up I 75 u (hl_lst sr u k)) (i + 1) (.int (nI k)) (hl_NL_f hL' (hl_up_ne _ _ _ (by decide)) (hl_up_ne _ _ _ (by decide)) (hl_up_ne _ _ _ (by decide)) (hl_up_ne _ _ _ (by decide))) (by omega) (fun v hv => by rw [hl_up_ne _ _ _ (by decide)]; exact h74 v hv) hl_up_at
        refine ⟨I2, ?_, fun b hb => by rw [f2 b hb, hl_up_ne _ _ _ hb], fun v hv => by rw [g2 v hv, hl_up_a, if_pos rfl, if_neg hv], k2⟩
        rw [← e2]
        have stop : hl_Run 23 (hl_call d) 61 [.ref 69, .int (nI u), .int (nI i), .int (nI k)] [] (hl_g N I J) = hl_Run 23 (hl_call d) 2 [.ref 69, .int (nI u), .int (nI (i + 1)), .int (nI k)] [] (hl_g N (hl_up I 75 u (hl_lst sr u k)) J) := by
          simp only [hl_r23_61, hl_r23_62, hl_r23_65, hl_r23_66, hl_r23_67, hl_r23_70, hl_r23_71, hl_r23_72, hl_r23_73, hl_r23_76, hl_o_69, hl_p_69_2, hl_p_69_3, hl_p_69_4, hl_p_69_5, hl_p_69_6, hl_p_69_7, hl_p_69_8, hl_p_69_9, hl_a_75, hl_z_75, hl_a_71, hl_z_71, bu, cu, bk, ck, enx, en, hl_kill_i, hl_kill_r, hl_kill_n, hl_kill_l, hl_tl_s, hl_tl_n, hl_cal_some, hl_gI, hl_gJ, hl_gsI, hl_gsJ, hl_tv01, if_true, if_false, hl_up_a, hl_row_a]
        rw [← stop]
        by_cases z1 : r k ≤ 0
        · simp only [hl_r23_2, hl_r23_3, hl_r23_6, hl_r23_9, hl_r23_10, hl_r23_13, hl_r23_14, hl_r23_15, hl_r23_16, hl_r23_19, hl_r23_20, hl_r23_23, hl_r23_24, hl_r23_25, hl_r23_26, hl_r23_27, hl_r23_30, hl_r23_31, hl_r23_32, hl_r23_33, hl_r23_34, hl_o_69, hl_p_69_2, hl_p_69_3, hl_p_69_4, hl_p_69_5, hl_p_69_6, hl_p_69_7, hl_p_69_8, hl_p_69_9, hl_a_75, hl_z_75, hl_a_73, hl_z_73, c1, bu, cu, el, hl_nm1 (show k < 1000 by omega), bk, ck, hl_lcmp_le0, er, z1, hl_kill_i, hl_kill_r, hl_kill_n, hl_kill_l, hl_tl_s, hl_tl_n, hl_cal_some, hl_gI, hl_gJ, hl_gsI, hl_gsJ, hl_tv01, if_true, if_false, hl_up_a, hl_row_a]
        · have z2 : ¬ hl_di (E (ds k)) = hl_di (E u + 1) := by
            rw [hl_di_inj (by omega) (by omega)]
            intro y
            exact z (by rw [Bool.and_eq_true, decide_eq_true_eq, decide_eq_true_eq]; exact ⟨by omega, y⟩)
          simp only [hl_r23_2, hl_r23_3, hl_r23_6, hl_r23_9, hl_r23_10, hl_r23_13, hl_r23_14, hl_r23_15, hl_r23_16, hl_r23_19, hl_r23_20, hl_r23_23, hl_r23_24, hl_r23_25, hl_r23_26, hl_r23_27, hl_r23_30, hl_r23_31, hl_r23_32, hl_r23_33, hl_r23_34, hl_r23_37, hl_r23_38, hl_r23_41, hl_r23_42, hl_r23_45, hl_r23_46, hl_r23_47, hl_r23_48, hl_r23_49, hl_r23_52, hl_r23_53, hl_r23_54, hl_r23_55, hl_r23_56, hl_o_69, hl_p_69_2, hl_p_69_3, hl_p_69_4, hl_p_69_5, hl_p_69_6, hl_p_69_7, hl_p_69_8, hl_p_69_9, hl_a_75, hl_z_75, hl_a_73, hl_z_73, hl_a_74, hl_z_74, hl_a_72, hl_z_72, c1, bu, cu, el, hl_nm1 (show k < 1000 by omega), bk, ck, hl_lcmp_le0, er, z1, d1, bv, cv, eD, eU, ed, z2, not_false_eq_true, hl_kill_i, hl_kill_r, hl_kill_n, hl_kill_l, hl_tl_s, hl_tl_n, hl_cal_some, hl_gI, hl_gJ, hl_gsI, hl_gsJ, hl_tv01, if_true, if_false, hl_up_a, hl_row_a]
    · have el : hl_lst sr u (k + 1) = hl_lst sr u k := if_neg q
      unfold hl_dp
      rw [if_neg (fun y => q y.1)]
      rw [el] at h75
      exact ih I i l3 hL' (by omega) h74 h75
theorem hl_s23 {E : Nat → Nat} {u k : Nat} (hL : hl_NL I nd np sr ds) (hR : hl_Rm J np r) (hu : u < nd) (hE : ∀ v, v < nd → E v < 900) (hEu : 0 < E u) (hk : k ≤ np) (h74 : ∀ v, v < nd → I 74 v = hl_di (E v)) (h75 : I 75 u = hl_lst sr u k) : ∃ I', hl_call (d + 1) 23 [.ref 69, .int (nI u)] (hl_g N I J) = some (some (.int (hl_di (hl_dp (fun p => decide (0 < r p) && decide (E (ds p) = E u + 1)) sr u k))), hl_g N I' J) ∧ (∀ b, b ≠ 75 → I' b = I b) ∧ (∀ v, v ≠ u → I' 75 v = I 75 v) ∧ I' 75 u = hl_lst sr u (hl_dp (fun p => decide (0 < r p) && decide (E (ds p) = E u + 1)) sr u k) := by
  obtain ⟨I', e, r'⟩ := hl_l23 (d := d) (N := N) hR hu hE hEu k I 0 .null hL (by omega) h74 h75
  refine ⟨I', ?_, r'⟩
  rw [hl_e23, hl_r23_0, hl_r23_1]
  exact e
/-- pushAlong: the least room -/
theorem hl_l24a {P : Nat → Nat} {n : Nat} {c : hl_C} (hR : hl_Rm J np r) (hn : n ≤ 74) (hP : ∀ j, j < n → P j < np ∧ I 77 j = nI (P j)) (hnp : np ≤ 432) (f : Nat) : ∀ (i : Nat) (fl : Int64), i + f = n → fl.toInt = hl_pmn P r i → ∃ fl' : Int64, hl_Run 24 c 23 [.ref 69, .int (nI n), .long fl, .null, .int (nI i)] [] (hl_g N I J) = hl_Run 24 c 52 [.ref 69, .int (nI n), .long fl', .null, .int (nI n)] [] (hl_g N I J) ∧ fl'.toInt = hl_pmn P r n := by
  induction f with
  | zero =>
    intro i fl hi hf
    obtain rfl : i = n := by omega
    refine ⟨fl, ?_, hf⟩
    simp only [hl_r24_23, hl_r24_25, hl_r24_26, Int32.le_refl, hl_kill_i, hl_kill_r, hl_kill_n, hl_kill_l, hl_tl_s, hl_tl_n, hl_cal_some, hl_gI, hl_gJ, hl_gsI, hl_gsJ, hl_tv01, if_true, if_false, hl_up_a, hl_row_a]
  | succ f ih =>
    intro i fl hi hf
    have c1 : ¬ nI n ≤ nI i := nI_ge (by omega) (by omega)
    have en : nI i + 1 = nI (i + 1) := (nI_succ i).symm
    obtain ⟨p1, p2⟩ := hP i (by omega)
    have er := (hR (P i) p1).1
    have e1 : (if J 73 (P i) < fl then J 73 (P i) else fl).toInt = hl_pmn P r (i + 1) := by
      show _ = if r (P i) < hl_pmn P r i then r (P i) else hl_pmn P r i
      by_cases q : r (P i) < hl_pmn P r i
      · rw [if_pos q, if_pos (by rw [Int64.lt_iff_toInt_lt, er, hf]; exact q), er]
      · rw [if_neg q, if_neg (by rw [Int64.lt_iff_toInt_lt, er, hf]; exact q), hf]
    obtain ⟨fl', e2, f2⟩ := ih (i + 1) (if J 73 (P i) < fl then J 73 (P i) else fl) (by omega) e1
    refine ⟨fl', ?_, f2⟩
    rw [← e2, hl_r24_23]
    simp only [hl_r24_25, hl_r24_26, hl_r24_29, hl_r24_30, hl_r24_31, hl_r24_34, hl_r24_35, hl_r24_38, hl_r24_40, hl_r24_41, hl_r24_42, hl_r24_45, hl_r24_46, hl_r24_49, hl_o_69, hl_p_69_2, hl_p_69_3, hl_p_69_4, hl_p_69_5, hl_p_69_6, hl_p_69_7, hl_p_69_8, hl_p_69_9, hl_a_73, hl_z_73, hl_a_77, hl_z_77, c1, hl_b74 (show i < 74 by omega), hl_cq (show i < 10000 by omega), p2, hl_b432 (show P i < 432 by omega), hl_cq (show P i < 10000 by omega), en, hl_kill_i, hl_kill_r, hl_kill_n, hl_kill_l, hl_tl_s, hl_tl_n, hl_cal_some, hl_gI, hl_gJ, hl_gsI, hl_gsJ, hl_tv01, if_true, if_false, hl_up_a, hl_row_a]
/-- its rooms, step by step -/
theorem hl_upJ {J : Nat → Nat → Int64} {a i j : Nat} {v : Int64} : hl_up J a i v a j = if j = i then v else J a j := by rw [hl_up_a, if_pos rfl]
theorem hl_l24b {P : Nat → Nat} {n : Nat} {fl : Int64} {c : hl_C} (hn : n ≤ 74) (hnp : np ≤ 432) (he : np % 2 = 0) (hP : ∀ j, j < n → P j < np ∧ I 77 j = nI (P j)) (hx : 0 ≤ fl.toInt ∧ fl.toInt ≤ 1000000000000) (hS : ∀ j, j < n → fl.toInt ≤ hl_pa P fl.toInt r j (P j)) (f : Nat) : ∀ (J : Nat → Nat → Int64) (i : Nat), i + f = n → hl_Rm J np (hl_pa P fl.toInt r i) → ∃ J', hl_Run 24 c 55 [.ref 69, .int (nI n), .long fl, .null, .int (nI i)] [] (hl_g N I J) = some (some (.long fl), hl_g N I J') ∧ hl_Rm J' np (hl_pa P fl.toInt r n) ∧ ∀ q, q ≠ 73 → J' q = J q := by
  induction f with
  | zero =>
    intro J i hi hR
    obtain rfl : i = n := by omega
    refine ⟨J, ?_, hR, fun _ _ => rfl⟩
    simp only [hl_r24_55, hl_r24_57, hl_r24_58, hl_r24_101, hl_r24_102, Int32.le_refl, hl_kill_i, hl_kill_r, hl_kill_n, hl_kill_l, hl_tl_s, hl_tl_n, hl_cal_some, hl_gI, hl_gJ, hl_gsI, hl_gsJ, hl_tv01, if_true, if_false, hl_up_a, hl_row_a]
  | succ f ih =>
    intro J i hi hR
    have c1 : ¬ nI n ≤ nI i := nI_ge (by omega) (by omega)
    have en : nI i + 1 = nI (i + 1) := (nI_succ i).symm
    obtain ⟨p1, p2⟩ := hP i (by omega)
    have hs := hS i (by omega)
    have pl := hl_pe_lt p1 he
    have pne := hl_pe_ne (P i)
    obtain ⟨r1, r2, r3⟩ := hR (P i) p1
    obtain ⟨t1, t2, t3⟩ := hR (hl_pe (P i)) pl
    generalize hv1 : J 73 (P i) - fl = v1
    generalize hv2 : J 73 (hl_pe (P i)) + fl = v2
    have ev1 : v1.toInt = hl_pa P fl.toInt r i (P i) - fl.toInt := by
      rw [← hv1, Int64.toInt_sub, r1, Int.bmod_eq_of_le (by omega) (by omega)]
    have ev2 : v2.toInt = hl_pa P fl.toInt r i (hl_pe (P i)) + fl.toInt := by
      rw [← hv2, Int64.toInt_add, t1, Int.bmod_eq_of_le (by omega) (by omega)]
    have step : ∀ q, hl_pa P fl.toInt r (i + 1) q = if q = hl_pe (P i) then hl_pa P fl.toInt r i (hl_pe (P i)) + fl.toInt else if q = P i then hl_pa P fl.toInt r i (P i) - fl.toInt else hl_pa P fl.toInt r i q := fun q => rfl
    have hR' : hl_Rm (hl_up (hl_up J 73 (P i) v1) 73 (hl_pe (P i)) v2) np (hl_pa P fl.toInt r (i + 1)) := by
      intro q hq
      rw [step, step, hl_upJ, hl_upJ]
      by_cases y2 : q = hl_pe (P i)
      · subst y2
        rw [if_pos rfl, if_pos rfl, hl_pe_pe, if_neg pne, if_pos rfl]
        exact ⟨ev2, by omega, by omega⟩
      · rw [if_neg y2, if_neg y2]
        by_cases y1 : q = P i
        · subst y1
          rw [if_pos rfl, if_pos rfl, if_pos rfl]
          exact ⟨ev1, by omega, by omega⟩
        · have z1 : ¬ hl_pe q = hl_pe (P i) := fun z => y1 (by rw [← hl_pe_pe q, z, hl_pe_pe])
          have z2 : ¬ hl_pe q = P i := fun z => y2 (by rw [← z, hl_pe_pe])
          rw [if_neg y1, if_neg y1, if_neg z1, if_neg z2]
          exact hR q hq
    obtain ⟨J2, e2, R2, f2⟩ := ih (hl_up (hl_up J 73 (P i) v1) 73 (hl_pe (P i)) v2) (i + 1) (by omega) hR'
    refine ⟨J2, ?_, R2, fun q hq => by rw [f2 q hq, hl_up_ne _ _ _ hq, hl_up_ne _ _ _ hq]⟩
    have j2 : hl_up J 73 (P i) v1 73 (hl_pe (P i)) = J 73 (hl_pe (P i)) := by rw [hl_upJ, if_neg (fun z => pne z.symm)]
    rw [← e2, hl_r24_55]
    simp only [hl_r24_57, hl_r24_58, hl_r24_61, hl_r24_62, hl_r24_65, hl_r24_66, hl_r24_69, hl_r24_71, hl_r24_72, hl_r24_73, hl_r24_74, hl_r24_75, hl_r24_76, hl_r24_77, hl_r24_78, hl_r24_81, hl_r24_82, hl_r24_85, hl_r24_87, hl_r24_88, hl_r24_89, hl_r24_90, hl_r24_91, hl_r24_92, hl_r24_93, hl_r24_94, hl_r24_95, hl_r24_98, hl_o_69, hl_p_69_2, hl_p_69_3, hl_p_69_4, hl_p_69_5, hl_p_69_6, hl_p_69_7, hl_p_69_8, hl_p_69_9, hl_a_73, hl_z_73, hl_a_77, hl_z_77, c1, hl_b74 (show i < 74 by omega), hl_cq (show i < 10000 by omega), p2, hl_b432 (show P i < 432 by omega), hl_cq (show P i < 10000 by omega), hl_xor1 (P i) (show P i < 432 by omega), hl_b432 (show hl_pe (P i) < 432 by omega), hl_cq (show hl_pe (P i) < 10000 by omega), hv1, j2, hv2, en, hl_kill_i, hl_kill_r, hl_kill_n, hl_kill_l, hl_gI, hl_gJ, hl_gsI, hl_gsJ, if_true, if_false]
theorem hl_s24 {P : Nat → Nat} {n : Nat} (hR : hl_Rm J np r) (hn0 : 0 < n) (hn : n ≤ 74) (hnp : np ≤ 432) (he : np % 2 = 0) (hP : ∀ j, j < n → P j < np ∧ I 77 j = nI (P j)) (hS : ∀ j, j < n → hl_pmn P r n ≤ hl_pa P (hl_pmn P r n) r j (P j)) : ∃ J' fl, hl_call (d + 1) 24 [.ref 69, .int (nI n)] (hl_g N I J) = some (some (.long fl), hl_g N I J') ∧ fl.toInt = hl_pmn P r n ∧ hl_Rm J' np (hl_pa P (hl_pmn P r n) r n) ∧ ∀ q, q ≠ 73 → J' q = J q := by
  obtain ⟨p0, p02⟩ := hP 0 hn0
  have em : hl_pmn P r 1 = r (P 0) := if_pos (by
    obtain ⟨-, q2, q3⟩ := hR (P 0) p0
    obtain ⟨-, q4, q5⟩ := hR (hl_pe (P 0)) (hl_pe_lt p0 he)
    show r (P 0) < 9223372036854775807
    omega)
  obtain ⟨fl, e1, f1⟩ := hl_l24a (N := N) (c := hl_call d) hR hn hP hnp (n - 1) 1 (J 73 (P 0)) (by omega) (by rw [em]; exact (hR (P 0) p0).1)
  have b1 := hl_pmn_le (P := P) (r := r) n 0 hn0
  obtain ⟨j, j1, j2⟩ := hl_pmn_ex (P := P) (r := r) (n - 1) (fun j hj => by
    obtain ⟨-, q2, q3⟩ := hR (P j) (hP j (by omega)).1
    obtain ⟨-, q4, q5⟩ := hR (hl_pe (P j)) (hl_pe_lt (hP j (by omega)).1 he)
    omega)
  rw [show n - 1 + 1 = n by omega] at j1 j2
  obtain ⟨-, q2, q3⟩ := hR (P j) (hP j j1).1
  obtain ⟨-, q4, q5⟩ := hR (hl_pe (P j)) (hl_pe_lt (hP j j1).1 he)
  obtain ⟨J', e2, R2, g2⟩ := hl_l24b (N := N) (c := hl_call d) (fl := fl) hn hnp he hP (by rw [f1]; omega) (by rw [f1]; exact hS) n J 0 (by omega) hR
  rw [f1] at R2
  refine ⟨J', fl, ?_, f1, R2, g2⟩
  rw [← e2, hl_e24]
  have e1' : hl_Run 24 (hl_call d) 23 [.ref 69, .int (nI n), .long (J 73 (P 0)), .null, .int 1] [] (hl_g N I J) = hl_Run 24 (hl_call d) 52 [.ref 69, .int (nI n), .long fl, .null, .int (nI n)] [] (hl_g N I J) := e1
  have nn : ¬ nI n ≤ 0 := show ¬ nI n ≤ nI 0 from nI_ge hn0 (by omega)
  have b0 : hl_inb (0 : Int32) 74 = true := hl_b74 (show 0 < 74 by omega)
  have c0 : (0 : Int32).toNatClampNeg = 0 := hl_cq (show 0 < 10000 by omega)
  simp only [hl_r24_0, hl_r24_1, hl_r24_4, hl_r24_5, hl_r24_8, hl_r24_9, hl_r24_12, hl_r24_13, hl_r24_14, hl_r24_15, hl_r24_18, hl_r24_19, hl_r24_20, hl_r24_21, hl_o_69, hl_p_69_2, hl_p_69_3, hl_p_69_4, hl_p_69_5, hl_p_69_6, hl_p_69_7, hl_p_69_8, hl_p_69_9, hl_a_73, hl_z_73, hl_a_77, hl_z_77, nn, b0, c0, p02, hl_b432 (show P 0 < 432 by omega), hl_cq (show P 0 < 10000 by omega), e1', hl_r24_52, hl_r24_53, hl_kill_i, hl_kill_r, hl_kill_n, hl_kill_l, hl_tl_s, hl_tl_n, hl_cal_some, hl_gI, hl_gJ, hl_gsI, hl_gsJ, hl_tv01, if_true, if_false, hl_up_a, hl_row_a]
  rfl
end HLPUSH
