/-! depths: the class's methods -/
theorem hl_di_m1 {n : Nat} (h : n < 1000) : (hl_di n = -1) = (n = 0) := by
  apply propext
  cases n with
  | zero => exact ⟨fun _ => rfl, fun _ => rfl⟩
  | succ n => exact ⟨fun q => absurd q (hl_nm1 (by omega)), fun q => by omega⟩
theorem hl_di_s {n : Nat} (h : 0 < n) : hl_di n + 1 = hl_di (n + 1) := by
  cases n with
  | zero => omega
  | succ n => exact (nI_succ n).symm
def hl_DQ (I : Nat → Nat → Int32) (nd : Nat) (s : (Nat → Nat) × (Nat → Nat) × Nat) : Prop := (∀ u, u < nd → I 74 u = hl_di (s.1 u)) ∧ ∀ j, j < s.2.2 → I 76 j = nI (s.2.1 j)
def hl_fD (I I' : Nat → Nat → Int32) : Prop := ∀ b, b ≠ 74 → b ≠ 76 → I' b = I b
theorem hl_fD_tr {I1 I2 I3 : Nat → Nat → Int32} (h : hl_fD I1 I2) (g : hl_fD I2 I3) : hl_fD I1 I3 := fun b h1 h2 => (g b h1 h2).trans (h b h1 h2)
theorem hl_bI_le {np nd : Nat} {sr ds : Nat → Nat} {r : Nat → Int} {i : Nat} {s : (Nat → Nat) × (Nat → Nat) × Nat} (h : hl_bI np nd sr ds r i s) {u : Nat} (hu : u < nd) : s.1 u ≤ nd := by
  by_cases z : 0 < s.1 u
  · obtain ⟨j, j1, j2⟩ := h.2.2.1 u hu z
    have := (h.2.1 j j1).2.2
    rw [j2] at this
    have := h.1.1
    omega
  · omega
theorem hl_NL_f {I I' : Nat → Nat → Int32} {nd np : Nat} {sr ds : Nat → Nat} (h : hl_NL I nd np sr ds) (h69 : I' 69 = I 69) (h70 : I' 70 = I 70) (h71 : I' 71 = I 71) (h72 : I' 72 = I 72) : hl_NL I' nd np sr ds := by
  unfold hl_NL
  rw [h69, h70, h71, h72]
  exact h
section HLDEP
variable {d N : Nat} {I I' : Nat → Nat → Int32} {J J' : Nat → Nat → Int64} {nd np : Nat} {sr ds : Nat → Nat} {r : Nat → Int}
theorem hl_Jpos {x : Int64} {v : Int} (h : x.toInt = v) : (x ≤ 0) = (v ≤ 0) := by
  apply propext
  rw [Int64.le_iff_toInt_le, h, show (0 : Int64).toInt = 0 from rfl]
theorem hl_l21 {i0 x : Nat} {t0 : Int32} (hR : hl_Rm J np r) (hx : x < nd) (k : Nat) : ∀ (I : Nat → Nat → Int32) (s : (Nat → Nat) × (Nat → Nat) × Nat) (i : Nat) (l6 : Value), hl_NL I nd np sr ds → i + k ≤ np → k ≤ np → s.2.1 i0 = x → i0 < s.2.2 → hl_bI np nd sr ds r i0 s → hl_bK np sr ds r x k s → hl_DQ I nd s → ∃ I', hl_Run 21 (hl_call d) 13 [.ref 69, .int (nI x), .int t0, .int (nI s.2.2), .int (hl_lst sr x k), .int (nI i), l6] [] (hl_g N I J) = some (some (.int (nI (hl_qb sr ds r nd x k s).2.2)), hl_g N I' J) ∧ hl_DQ I' nd (hl_qb sr ds r nd x k s) ∧ hl_fD I I' := by
  induction k with
  | zero =>
    intro I s i l6 hL hi hk h1 h2 hB hK hQ
    refine ⟨I, ?_, hQ, fun _ _ _ => rfl⟩
    obtain ⟨⟨n2, n74, n432⟩, -⟩ := hL
    have e1 : hl_lst sr x 0 = -1 := rfl
    by_cases c : i < 432
    · have c1 : ¬ (432 : Int32) ≤ nI i := show ¬ nI 432 ≤ nI i from nI_ge c (by omega)
      simp only [hl_r21_13, hl_r21_15, hl_r21_18, hl_r21_21, hl_r21_23, hl_r21_24, hl_r21_108, hl_r21_109, c1, e1, not_true, hl_qb, hl_kill_i, hl_kill_r, hl_kill_n, hl_kill_l, hl_tl_s, hl_tl_n, hl_cal_some, hl_gI, hl_gJ, hl_gsI, hl_gsJ, hl_tv01, if_true, if_false, hl_up_a, hl_row_a]
    · have c1 : (432 : Int32) ≤ nI i := show nI 432 ≤ nI i from nI_le (by omega) (by omega)
      simp only [hl_r21_13, hl_r21_15, hl_r21_18, hl_r21_21, hl_r21_23, hl_r21_24, hl_r21_108, hl_r21_109, c1, hl_qb, hl_kill_i, hl_kill_r, hl_kill_n, hl_kill_l, hl_tl_s, hl_tl_n, hl_cal_some, hl_gI, hl_gJ, hl_gsI, hl_gsJ, hl_tv01, if_true, if_false, hl_up_a, hl_row_a]
  | succ k ih =>
    intro I s i l6 hL hi hk h1 h2 hB hK hQ
    unfold hl_qb
    by_cases q : sr k = x
    · rw [if_pos q]
      have hL' := hL
      obtain ⟨⟨n2, n74, n432⟩, h0, hnp, h72, h70, h71⟩ := hL
      obtain ⟨d1, d2, -⟩ := h72 k (by omega)
      obtain ⟨a, b, c, e⟩ := hl_qs_bI (by omega) d2 q h1 h2 hB hK
      have el : hl_lst sr x (k + 1) = nI k := if_pos q
      have c1 : ¬ (432 : Int32) ≤ nI i := show ¬ nI 432 ≤ nI i from nI_ge (by omega) (by omega)
      have en : nI i + 1 = nI (i + 1) := (nI_succ i).symm
      have enx : I 71 k = hl_lst sr x k := by rw [h71 k (by omega), q]
      have bk := hl_b432 (show k < 432 by omega)
      have ck := hl_cq (show k < 10000 by omega)
      have bv := hl_b74 (show ds k < 74 by omega)
      have cv := hl_cq (show ds k < 10000 by omega)
      have bx := hl_b74 (show x < 74 by omega)
      have cx := hl_cq (show x < 10000 by omega)
      have er := hl_Jpos (hR k (by omega)).1
      have eD := hQ.1 (ds k) d2
      have eX := hQ.1 x hx
      have leD := hl_bI_le hB d2
      have leX := hl_bI_le hB hx
      have ht := hB.1.1
      have stop : ∀ (l6' : Value) (I1 : Nat → Nat → Int32) (t : Nat), I1 71 = I 71 → hl_Run 21 (hl_call d) 93 [.ref 69, .int (nI x), .int t0, .int (nI t), .int (nI k), .int (nI i), l6'] [] (hl_g N I1 J) = hl_Run 21 (hl_call d) 13 [.ref 69, .int (nI x), .int t0, .int (nI t), .int (hl_lst sr x k), .int (nI (i + 1)), l6'] [] (hl_g N I1 J) := fun l6' I1 t h => by
        simp only [hl_r21_93, hl_r21_94, hl_r21_97, hl_r21_99, hl_r21_100, hl_r21_102, hl_r21_105, hl_o_69, hl_p_69_2, hl_p_69_3, hl_p_69_4, hl_p_69_5, hl_p_69_6, hl_p_69_7, hl_p_69_8, hl_p_69_9, hl_a_71, hl_z_71, bk, ck, h, enx, en, hl_kill_i, hl_kill_r, hl_kill_n, hl_kill_l, hl_tl_s, hl_tl_n, hl_cal_some, hl_gI, hl_gJ, hl_gsI, hl_gsJ, hl_tv01, if_true, if_false, hl_up_a, hl_row_a]
      unfold hl_qs at a b c e ⊢
      by_cases z : 0 < r k ∧ s.1 (ds k) = 0 ∧ s.2.2 < nd
      · rw [if_pos z] at a b c e ⊢
        obtain ⟨z1, z2, z3⟩ := z
        have xp : 0 < s.1 x := by rw [← h1]; exact (hB.2.1 i0 h2).2.1
        have ed : hl_di (s.1 x) + 1 = hl_di (s.1 x + 1) := hl_di_s xp
        have e0 : hl_di (s.1 (ds k)) = -1 := by rw [z2]; rfl
        have nr : ¬ r k ≤ 0 := by omega
        have nt : ¬ nI nd ≤ nI s.2.2 := nI_ge z3 (by omega)
        have bt := hl_b74 (show s.2.2 < 74 by omega)
        have ct := hl_cq (show s.2.2 < 10000 by omega)
        have et : nI s.2.2 + 1 = nI (s.2.2 + 1) := (nI_succ _).symm
        generalize hI1 : hl_up (hl_up I 74 (ds k) (hl_di (s.1 x + 1))) 76 s.2.2 (nI (ds k)) = I1
        have r1 : ∀ w, w ≠ 74 → w ≠ 76 → I1 w = I w := fun w w1 w2 => by rw [← hI1, hl_up_ne _ _ _ w2, hl_up_ne _ _ _ w1]
        have hQ1 : hl_DQ I1 nd (hl_us s.1 (ds k) (s.1 x + 1), hl_us s.2.1 s.2.2 (ds k), s.2.2 + 1) := by
          refine ⟨fun u hu => ?_, fun j hj => ?_⟩
          · rw [← hI1, hl_up_ne _ _ _ (by decide), hl_up_a, if_pos rfl]
            show _ = hl_di (if u = ds k then s.1 x + 1 else s.1 u)
            by_cases y : u = ds k
            · rw [if_pos y, if_pos y]
            · rw [if_neg y, if_neg y]; exact hQ.1 u hu
          · have hj' : j < s.2.2 + 1 := hj
            rw [← hI1, hl_up_a, if_pos rfl]
            show _ = nI (if j = s.2.2 then ds k else s.2.1 j)
            by_cases y : j = s.2.2
            · rw [if_pos y, if_pos y]
            · rw [if_neg y, if_neg y, hl_up_ne _ _ _ (by decide)]; exact hQ.2 j (by omega)
        obtain ⟨I2, e2, Q2, f2⟩ := ih I1 (hl_us s.1 (ds k) (s.1 x + 1), hl_us s.2.1 s.2.2 (ds k), s.2.2 + 1) (i + 1) (.int (nI (ds k))) (hl_NL_f hL' (r1 69 (by decide) (by decide)) (r1 70 (by decide) (by decide)) (r1 71 (by decide) (by decide)) (r1 72 (by decide) (by decide))) (by omega) (by omega) c e a b hQ1
        refine ⟨I2, ?_, Q2, hl_fD_tr (fun w w1 w2 => r1 w w1 w2) f2⟩
        rw [← e2, ← stop (.int (nI (ds k))) I1 (s.2.2 + 1) (r1 71 (by decide) (by decide)), ← hI1, el]
        simp only [hl_r21_13, hl_r21_15, hl_r21_18, hl_r21_21, hl_r21_23, hl_r21_24, hl_r21_27, hl_r21_28, hl_r21_31, hl_r21_33, hl_r21_34, hl_r21_36, hl_r21_37, hl_r21_40, hl_r21_42, hl_r21_43, hl_r21_44, hl_r21_45, hl_r21_48, hl_r21_49, hl_r21_52, hl_r21_54, hl_r21_55, hl_r21_56, hl_r21_59, hl_r21_60, hl_r21_61, hl_r21_64, hl_r21_67, hl_r21_68, hl_r21_71, hl_r21_73, hl_r21_74, hl_r21_77, hl_r21_78, hl_r21_79, hl_r21_80, hl_r21_81, hl_r21_82, hl_r21_83, hl_r21_86, hl_r21_87, hl_r21_89, hl_r21_90, hl_o_69, hl_p_69_2, hl_p_69_3, hl_p_69_4, hl_p_69_5, hl_p_69_6, hl_p_69_7, hl_p_69_8, hl_p_69_9, hl_a_72, hl_z_72, hl_a_73, hl_z_73, hl_a_74, hl_z_74, hl_a_76, hl_z_76, c1, hl_nm1 (show k < 1000 by omega), not_false_eq_true, not_true, bk, ck, d1, hl_lcmp_le0, er, nr, bv, cv, eD, e0, h0, nt, bx, cx, eX, ed, bt, ct, et, hl_kill_i, hl_kill_r, hl_kill_n, hl_kill_l, hl_tl_s, hl_tl_n, hl_cal_some, hl_gI, hl_gJ, hl_gsI, hl_gsJ, hl_tv01, if_true, if_false, hl_up_a, hl_row_a]
      · rw [if_neg z] at a b c e ⊢
        obtain ⟨I2, e2, Q2, f2⟩ := ih I s (i + 1) (.int (nI (ds k))) hL' (by omega) (by omega) c e a b hQ
        refine ⟨I2, ?_, Q2, f2⟩
        rw [← e2, ← stop (.int (nI (ds k))) I s.2.2 rfl, el]
        by_cases z1 : r k ≤ 0
        · simp only [hl_r21_13, hl_r21_15, hl_r21_18, hl_r21_21, hl_r21_23, hl_r21_24, hl_r21_27, hl_r21_28, hl_r21_31, hl_r21_33, hl_r21_34, hl_r21_36, hl_r21_37, hl_r21_40, hl_r21_42, hl_r21_43, hl_r21_44, hl_r21_45, hl_o_69, hl_p_69_2, hl_p_69_3, hl_p_69_4, hl_p_69_5, hl_p_69_6, hl_p_69_7, hl_p_69_8, hl_p_69_9, hl_a_72, hl_z_72, hl_a_73, hl_z_73, c1, hl_nm1 (show k < 1000 by omega), bk, ck, d1, hl_lcmp_le0, er, z1, hl_kill_i, hl_kill_r, hl_kill_n, hl_kill_l, hl_tl_s, hl_tl_n, hl_cal_some, hl_gI, hl_gJ, hl_gsI, hl_gsJ, hl_tv01, if_true, if_false, hl_up_a, hl_row_a]
        · by_cases z2 : s.1 (ds k) = 0
          · have z3 : nI nd ≤ nI s.2.2 := nI_le (by omega) (by omega)
            have e0 : hl_di (s.1 (ds k)) = -1 := by rw [z2]; rfl
            simp only [hl_r21_13, hl_r21_15, hl_r21_18, hl_r21_21, hl_r21_23, hl_r21_24, hl_r21_27, hl_r21_28, hl_r21_31, hl_r21_33, hl_r21_34, hl_r21_36, hl_r21_37, hl_r21_40, hl_r21_42, hl_r21_43, hl_r21_44, hl_r21_45, hl_r21_48, hl_r21_49, hl_r21_52, hl_r21_54, hl_r21_55, hl_r21_56, hl_r21_59, hl_r21_60, hl_r21_61, hl_r21_64, hl_o_69, hl_p_69_2, hl_p_69_3, hl_p_69_4, hl_p_69_5, hl_p_69_6, hl_p_69_7, hl_p_69_8, hl_p_69_9, hl_a_72, hl_z_72, hl_a_73, hl_z_73, hl_a_74, hl_z_74, c1, hl_nm1 (show k < 1000 by omega), not_true, bk, ck, d1, hl_lcmp_le0, er, z1, bv, cv, eD, e0, h0, z3, hl_kill_i, hl_kill_r, hl_kill_n, hl_kill_l, hl_tl_s, hl_tl_n, hl_cal_some, hl_gI, hl_gJ, hl_gsI, hl_gsJ, hl_tv01, if_true, if_false, hl_up_a, hl_row_a]
          · have e0 : ¬ hl_di (s.1 (ds k)) = -1 := by rw [hl_di_m1 (by omega)]; exact z2
            simp only [hl_r21_13, hl_r21_15, hl_r21_18, hl_r21_21, hl_r21_23, hl_r21_24, hl_r21_27, hl_r21_28, hl_r21_31, hl_r21_33, hl_r21_34, hl_r21_36, hl_r21_37, hl_r21_40, hl_r21_42, hl_r21_43, hl_r21_44, hl_r21_45, hl_r21_48, hl_r21_49, hl_r21_52, hl_r21_54, hl_r21_55, hl_r21_56, hl_o_69, hl_p_69_2, hl_p_69_3, hl_p_69_4, hl_p_69_5, hl_p_69_6, hl_p_69_7, hl_p_69_8, hl_p_69_9, hl_a_72, hl_z_72, hl_a_73, hl_z_73, hl_a_74, hl_z_74, c1, hl_nm1 (show k < 1000 by omega), not_false_eq_true, bk, ck, d1, hl_lcmp_le0, er, z1, bv, cv, eD, e0, hl_kill_i, hl_kill_r, hl_kill_n, hl_kill_l, hl_tl_s, hl_tl_n, hl_cal_some, hl_gI, hl_gJ, hl_gsI, hl_gsJ, hl_tv01, if_true, if_false, hl_up_a, hl_row_a]
    · rw [if_neg q]
      have el : hl_lst sr x (k + 1) = hl_lst sr x k := if_neg q
      rw [el]
      refine ih I s i l6 hL (by omega) (by omega) h1 h2 hB ⟨hK.1, fun w hw1 hw2 hw3 hw4 => ?_⟩ hQ
      by_cases z : w = k
      · subst z; exact absurd hw3 q
      · exact hK.2 w (by omega) hw2 hw3 hw4
theorem hl_s21 {i0 x : Nat} {s : (Nat → Nat) × (Nat → Nat) × Nat} (hL : hl_NL I nd np sr ds) (hR : hl_Rm J np r) (hx : x < nd) (h1 : s.2.1 i0 = x) (h2 : i0 < s.2.2) (hB : hl_bI np nd sr ds r i0 s) (hK : hl_bK np sr ds r x np s) (hQ : hl_DQ I nd s) : ∃ I', hl_call (d + 1) 21 [.ref 69, .int (nI x), .int (nI s.2.2)] (hl_g N I J) = some (some (.int (nI (hl_qb sr ds r nd x np s).2.2)), hl_g N I' J) ∧ hl_DQ I' nd (hl_qb sr ds r nd x np s) ∧ hl_fD I I' := by
  obtain ⟨I', e, r1, r2⟩ := hl_l21 (d := d) (N := N) (t0 := nI s.2.2) hR hx np I s 0 .null hL (by omega) (Nat.le_refl _) h1 h2 hB hK hQ
  refine ⟨I', ?_, r1, r2⟩
  obtain ⟨⟨n2, n74, n432⟩, h0, hnp, h72, h70, h71⟩ := hL
  rw [← e, hl_e21]
  simp only [hl_r21_0, hl_r21_1, hl_r21_2, hl_r21_3, hl_r21_6, hl_r21_7, hl_r21_8, hl_r21_10, hl_r21_11, hl_o_69, hl_p_69_2, hl_p_69_3, hl_p_69_4, hl_p_69_5, hl_p_69_6, hl_p_69_7, hl_p_69_8, hl_p_69_9, hl_a_70, hl_z_70, hl_b74 (show x < 74 by omega), hl_cq (show x < 10000 by omega), h70 x hx, hl_kill_i, hl_kill_r, hl_kill_n, hl_kill_l, hl_tl_s, hl_tl_n, hl_cal_some, hl_gI, hl_gJ, hl_gsI, hl_gsJ, hl_tv01, if_true, if_false, hl_up_a, hl_row_a]
  rfl
/-- the whole search -/
theorem hl_l20 (hR : hl_Rm J np r) (f : Nat) : ∀ (I : Nat → Nat → Int32) (i : Nat) (s : (Nat → Nat) × (Nat → Nat) × Nat), hl_NL I nd np sr ds → i + f = nd → i ≤ s.2.2 → hl_bI np nd sr ds r i s → (i < s.2.2 → ∀ j, j < s.2.2 → s.1 (s.2.1 j) ≤ s.1 (s.2.1 i) + 1) → hl_DQ I nd s → ∃ I' D, hl_Run 20 (hl_call (d + 1)) 41 [.ref 69, .int (nI s.2.2), .int (nI i)] [] (hl_g N I J) = some (some (.int (hl_tv (decide (0 < D 1)))), hl_g N I' J) ∧ hl_bF np nd sr ds r D ∧ (∀ u, u < nd → I' 74 u = hl_di (D u)) ∧ hl_fD I I' := by
  induction f with
  | zero =>
    intro I i s hL hi his hB hm hQ
    have hsr : ∀ p, p < np → sr p < nd := fun p hp => (hL.2.2.2.1 p hp).2.2
    obtain ⟨⟨n2, n74, n432⟩, h0, hnp, h72, h70, h71⟩ := hL
    have et : i = s.2.2 := by have := hB.1.1; omega
    rw [et] at hB
    refine ⟨I, s.1, ?_, hl_bI_end hsr hB, hQ.1, fun _ _ _ => rfl⟩
    have c1 : nI s.2.2 ≤ nI i := by rw [et]; exact Int32.le_refl _
    have e1 := hQ.1 1 (by omega)
    have k1 : hl_inb (1 : Int32) 74 = true := id rfl
    have leD := hl_bI_le hB (show 1 < nd by omega)
    by_cases z : 0 < s.1 1
    · have z' : ¬ hl_di (s.1 1) = -1 := by rw [hl_di_m1 (by omega)]; omega
      rw [decide_eq_true z]
      simp only [hl_r20_41, hl_r20_42, hl_r20_43, hl_r20_72, hl_r20_73, hl_r20_76, hl_r20_77, hl_r20_78, hl_r20_79, hl_r20_82, hl_r20_83, hl_r20_86, hl_r20_87, hl_o_69, hl_p_69_2, hl_p_69_3, hl_p_69_4, hl_p_69_5, hl_p_69_6, hl_p_69_7, hl_p_69_8, hl_p_69_9, hl_a_74, hl_z_74, c1, k1, hl_v1, e1, z', or_true, hl_tv_t, hl_kill_i, hl_kill_r, hl_kill_n, hl_kill_l, hl_tl_s, hl_tl_n, hl_cal_some, hl_gI, hl_gJ, hl_gsI, hl_gsJ, hl_tv01, if_true, if_false, hl_up_a, hl_row_a]
    · have z' : hl_di (s.1 1) = -1 := by rw [hl_di_m1 (by omega)]; omega
      rw [decide_eq_false z]
      simp only [hl_r20_41, hl_r20_42, hl_r20_43, hl_r20_72, hl_r20_73, hl_r20_76, hl_r20_77, hl_r20_78, hl_r20_79, hl_r20_82, hl_r20_83, hl_r20_86, hl_r20_87, hl_o_69, hl_p_69_2, hl_p_69_3, hl_p_69_4, hl_p_69_5, hl_p_69_6, hl_p_69_7, hl_p_69_8, hl_p_69_9, hl_a_74, hl_z_74, c1, k1, hl_v1, e1, z', true_or, hl_tv_f, hl_kill_i, hl_kill_r, hl_kill_n, hl_kill_l, hl_tl_s, hl_tl_n, hl_cal_some, hl_gI, hl_gJ, hl_gsI, hl_gsJ, hl_tv01, if_true, if_false, hl_up_a, hl_row_a]
  | succ f ih =>
    intro I i s hL hi his hB hm hQ
    have hL' := hL
    have hsr : ∀ p, p < np → sr p < nd := fun p hp => (hL.2.2.2.1 p hp).2.2
    obtain ⟨⟨n2, n74, n432⟩, h0, hnp, h72, h70, h71⟩ := hL
    have ht := hB.1.1
    by_cases y : i < s.2.2
    · have hx := (hB.2.1 i y).1
      have hK : hl_bK np sr ds r (s.2.1 i) np s := ⟨hm y, fun p h1 h2 => by omega⟩
      obtain ⟨I1, e1, Q1, f1⟩ := hl_s21 (d := d) (N := N) hL' hR hx rfl y hB hK hQ
      obtain ⟨a, b, c, e⟩ := hl_qb_bI (i := i) (x := s.2.1 i) (fun p hp => (h72 p hp).2.1) np s (Nat.le_refl _) rfl y hB hK
      generalize hl_qb sr ds r nd (s.2.1 i) np s = s' at e1 Q1 a b c e
      have hB' := hl_bI_next c a b
      obtain ⟨I2, D, e2, g1, g2, g3⟩ := ih I1 (i + 1) s' (hl_NL_f hL' (f1 69 (by decide) (by decide)) (f1 70 (by decide) (by decide)) (f1 71 (by decide) (by decide)) (f1 72 (by decide) (by decide))) (by omega) (by omega) hB' (fun hlt j hj => by
        have m1 := b.1 j hj
        have m2 := a.2.2.2.2.1 i (i + 1) (by omega) hlt
        rw [c] at m2
        omega) Q1
      refine ⟨I2, D, ?_, g1, g2, hl_fD_tr f1 g3⟩
      have c1 : ¬ nI s.2.2 ≤ nI i := nI_ge y (by omega)
      have c2 : ¬ nI nd ≤ nI i := nI_ge (by omega) (by omega)
      have en : nI i + 1 = nI (i + 1) := (nI_succ i).symm
      rw [← e2, hl_r20_41]
      simp only [hl_r20_42, hl_r20_43, hl_r20_46, hl_r20_47, hl_r20_48, hl_r20_51, hl_r20_54, hl_r20_55, hl_r20_56, hl_r20_59, hl_r20_60, hl_r20_61, hl_r20_62, hl_r20_65, hl_r20_66, hl_r20_69, hl_o_69, hl_p_69_2, hl_p_69_3, hl_p_69_4, hl_p_69_5, hl_p_69_6, hl_p_69_7, hl_p_69_8, hl_p_69_9, hl_a_76, hl_z_76, c1, c2, h0, hl_b74 (show i < 74 by omega), hl_cq (show i < 10000 by omega), hQ.2 i y, e1, en, hl_kill_i, hl_kill_r, hl_kill_n, hl_kill_l, hl_tl_s, hl_tl_n, hl_cal_some, hl_gI, hl_gJ, hl_gsI, hl_gsJ, hl_tv01, if_true, if_false, hl_up_a, hl_row_a]
    · have et : i = s.2.2 := by omega
      have hB2 := hB
      rw [et] at hB2
      refine ⟨I, s.1, ?_, hl_bI_end hsr hB2, hQ.1, fun _ _ _ => rfl⟩
      have c1 : nI s.2.2 ≤ nI i := by rw [et]; exact Int32.le_refl _
      have e1 := hQ.1 1 (by omega)
      have k1 : hl_inb (1 : Int32) 74 = true := id rfl
      have leD := hl_bI_le hB (show 1 < nd by omega)
      by_cases z : 0 < s.1 1
      · have z' : ¬ hl_di (s.1 1) = -1 := by rw [hl_di_m1 (by omega)]; omega
        rw [decide_eq_true z]
        simp only [hl_r20_41, hl_r20_42, hl_r20_43, hl_r20_72, hl_r20_73, hl_r20_76, hl_r20_77, hl_r20_78, hl_r20_79, hl_r20_82, hl_r20_83, hl_r20_86, hl_r20_87, hl_o_69, hl_p_69_2, hl_p_69_3, hl_p_69_4, hl_p_69_5, hl_p_69_6, hl_p_69_7, hl_p_69_8, hl_p_69_9, hl_a_74, hl_z_74, c1, k1, hl_v1, e1, z', or_true, hl_tv_t, hl_kill_i, hl_kill_r, hl_kill_n, hl_kill_l, hl_tl_s, hl_tl_n, hl_cal_some, hl_gI, hl_gJ, hl_gsI, hl_gsJ, hl_tv01, if_true, if_false, hl_up_a, hl_row_a]
      · have z' : hl_di (s.1 1) = -1 := by rw [hl_di_m1 (by omega)]; omega
        rw [decide_eq_false z]
        simp only [hl_r20_41, hl_r20_42, hl_r20_43, hl_r20_72, hl_r20_73, hl_r20_76, hl_r20_77, hl_r20_78, hl_r20_79, hl_r20_82, hl_r20_83, hl_r20_86, hl_r20_87, hl_o_69, hl_p_69_2, hl_p_69_3, hl_p_69_4, hl_p_69_5, hl_p_69_6, hl_p_69_7, hl_p_69_8, hl_p_69_9, hl_a_74, hl_z_74, c1, k1, hl_v1, e1, z', true_or, hl_tv_f, hl_kill_i, hl_kill_r, hl_kill_n, hl_kill_l, hl_tl_s, hl_tl_n, hl_cal_some, hl_gI, hl_gJ, hl_gsI, hl_gsJ, hl_tv01, if_true, if_false, hl_up_a, hl_row_a]
theorem hl_l20a {c : hl_C} (hnd : nd ≤ 74) (f : Nat) : ∀ (I : Nat → Nat → Int32) (i : Nat), i + f = nd → I 69 0 = nI nd → ∃ I', hl_Run 20 c 2 [.ref 69, .int (nI i), .null] [] (hl_g N I J) = hl_Run 20 c 23 [.ref 69, .int (nI nd), .null] [] (hl_g N I' J) ∧ (∀ b, b ≠ 74 → I' b = I b) ∧ (∀ u, u < i → I' 74 u = I 74 u) ∧ ∀ u, i ≤ u → u < nd → I' 74 u = -1 := by
  induction f with
  | zero =>
    intro I i hi h0
    obtain rfl : i = nd := by omega
    refine ⟨I, ?_, fun _ _ => rfl, fun _ _ => rfl, fun u h1 h2 => by omega⟩
    simp only [hl_r20_2, hl_r20_3, hl_r20_4, hl_r20_7, hl_o_69, hl_p_69_2, hl_p_69_3, hl_p_69_4, hl_p_69_5, hl_p_69_6, hl_p_69_7, hl_p_69_8, hl_p_69_9, h0, Int32.le_refl, hl_kill_i, hl_kill_r, hl_kill_n, hl_kill_l, hl_tl_s, hl_tl_n, hl_cal_some, hl_gI, hl_gJ, hl_gsI, hl_gsJ, hl_tv01, if_true, if_false, hl_up_a, hl_row_a]
  | succ f ih =>
    intro I i hi h0
    have c1 : ¬ nI nd ≤ nI i := nI_ge (by omega) (by omega)
    have en : nI i + 1 = nI (i + 1) := (nI_succ i).symm
    obtain ⟨I1, e1, f1, g1, k1⟩ := ih (hl_up I 74 i (-1)) (i + 1) (by omega) (by rw [hl_up_ne _ _ _ (by decide)]; exact h0)
    refine ⟨I1, ?_, fun q hq => by rw [f1 q hq, hl_up_ne _ _ _ hq], fun u hu => ?_, fun u h1 h2 => ?_⟩
    · rw [← e1, hl_r20_2]
      simp only [hl_r20_3, hl_r20_4, hl_r20_7, hl_r20_10, hl_r20_11, hl_r20_14, hl_r20_15, hl_r20_16, hl_r20_17, hl_r20_20, hl_o_69, hl_p_69_2, hl_p_69_3, hl_p_69_4, hl_p_69_5, hl_p_69_6, hl_p_69_7, hl_p_69_8, hl_p_69_9, hl_a_74, hl_z_74, h0, c1, hl_b74 (show i < 74 by omega), hl_cq (show i < 10000 by omega), en, hl_kill_i, hl_kill_r, hl_kill_n, hl_kill_l, hl_tl_s, hl_tl_n, hl_cal_some, hl_gI, hl_gJ, hl_gsI, hl_gsJ, hl_tv01, if_true, if_false, hl_up_a, hl_row_a]
    · rw [g1 u (by omega), hl_up_a, if_pos rfl, if_neg (by omega)]
    · by_cases z : u = i
      · subst z
        rw [g1 u (by omega), hl_up_at]
      · exact k1 u (by omega) h2
theorem hl_s20 (hL : hl_NL I nd np sr ds) (hR : hl_Rm J np r) : ∃ I' D, hl_call (d + 2) 20 [.ref 69] (hl_g N I J) = some (some (.int (hl_tv (decide (0 < D 1)))), hl_g N I' J) ∧ hl_bF np nd sr ds r D ∧ (∀ u, u < nd → I' 74 u = hl_di (D u)) ∧ hl_fD I I' := by
  have hL' := hL
  obtain ⟨⟨n2, n74, n432⟩, h0, hnp, h72, h70, h71⟩ := hL
  obtain ⟨I1, e1, f1, -, k1⟩ := hl_l20a (N := N) (J := J) (c := hl_call (d + 1)) n74 nd I 0 (by omega) h0
  generalize hI2 : hl_up (hl_up I1 74 0 0) 76 0 0 = I2
  have r2 : ∀ w, w ≠ 74 → w ≠ 76 → I2 w = I w := fun w w1 w2 => by rw [← hI2, hl_up_ne _ _ _ w2, hl_up_ne _ _ _ w1, f1 w w1]
  have z1 : hl_cnt (fun _ => decide ((0 : Nat) < 0)) nd = 0 := by
    have : ∀ n, hl_cnt (fun _ => decide ((0 : Nat) < 0)) n = 0 := by
      intro n
      induction n with
      | zero => rfl
      | succ n ih => unfold hl_cnt; rw [ih]; rfl
    exact this nd
  have us0 : ∀ u, 0 < hl_us (fun _ => 0) 0 1 u → u = 0 := fun u hu => Decidable.byContradiction fun z => by
    unfold hl_us at hu
    rw [if_neg z] at hu
    exact absurd hu (Nat.lt_irrefl 0)
  have hB : hl_bI np nd sr ds r 0 (hl_us (fun _ => 0) 0 1, fun _ => 0, 1) := by
    refine ⟨⟨by show 1 ≤ nd; omega, by show 0 < 1; omega, rfl, rfl⟩, fun j hj => ?_, fun u hu hD => ?_, ?_, fun j k _ _ => Nat.le_refl _, fun X X0 _ u hu hD => ?_, fun u hu hD h0 => ?_, fun j hj => by omega⟩
    · have hj' : j < 1 := hj
      exact ⟨by show 0 < nd; omega, by show 0 < 1; omega, by show 1 ≤ j + 1; omega⟩
    · exact ⟨0, by show 0 < 1; omega, (us0 u hD).symm⟩
    · show 1 = hl_cnt (fun u => decide (0 < hl_us (fun _ => 0) 0 1 u)) nd
      rw [hl_cnt_us (by omega) rfl (by omega), z1]
    · rw [us0 u hD]; exact X0
    · exact absurd (us0 u hD) h0
  have hQ : hl_DQ I2 nd (hl_us (fun _ => 0) 0 1, fun _ => 0, 1) := by
    refine ⟨fun u hu => ?_, fun j hj => ?_⟩
    · rw [← hI2, hl_up_ne _ _ _ (by decide), hl_up_a, if_pos rfl]
      show _ = hl_di (if u = 0 then 1 else 0)
      by_cases y : u = 0
      · rw [if_pos y, if_pos y]; rfl
      · rw [if_neg y, if_neg y]; exact k1 u (by omega) hu
    · have hj' : j < 1 := hj
      have : j = 0 := by omega
      subst this
      rw [← hI2]; exact hl_up_at
  obtain ⟨I3, D, e3, g1, g2, g3⟩ := hl_l20 (d := d) (N := N) hR nd I2 0 (hl_us (fun _ => 0) 0 1, fun _ => 0, 1) (hl_NL_f hL' (r2 69 (by decide) (by decide)) (r2 70 (by decide) (by decide)) (r2 71 (by decide) (by decide)) (r2 72 (by decide) (by decide))) (by omega) (Nat.zero_le _) hB (fun _ j hj => by show 1 ≤ 1 + 1; omega) hQ
  refine ⟨I3, D, ?_, g1, g2, fun w w1 w2 => by rw [g3 w w1 w2, r2 w w1 w2]⟩
  have e1' : hl_Run 20 (hl_call (d + 1)) 2 [.ref 69, .int 0, .null] [] (hl_g N I J) = hl_Run 20 (hl_call (d + 1)) 23 [.ref 69, .int (nI nd), .null] [] (hl_g N I1 J) := e1
  have k0 : hl_inb (0 : Int32) 74 = true := id rfl
  rw [← e3, ← hI2, hl_e20]
  simp only [hl_r20_0, hl_r20_1, e1', hl_r20_23, hl_r20_24, hl_r20_27, hl_r20_28, hl_r20_29, hl_r20_30, hl_r20_31, hl_r20_34, hl_r20_35, hl_r20_36, hl_r20_37, hl_r20_38, hl_r20_39, hl_r20_40, hl_o_69, hl_p_69_2, hl_p_69_3, hl_p_69_4, hl_p_69_5, hl_p_69_6, hl_p_69_7, hl_p_69_8, hl_p_69_9, hl_a_74, hl_z_74, hl_a_76, hl_z_76, k0, hl_v0, hl_kill_i, hl_kill_r, hl_kill_n, hl_kill_l, hl_tl_s, hl_tl_n, hl_cal_some, hl_gI, hl_gJ, hl_gsI, hl_gsJ, hl_tv01, if_true, if_false, hl_up_a, hl_row_a]
  rfl
theorem hl_s19 {D : Nat → Nat} {u : Nat} (hL : hl_NL I nd np sr ds) (hD : ∀ u, u < nd → I 74 u = hl_di (D u)) (hle : ∀ u, u < nd → D u ≤ nd) (hu : u < nd) : hl_call (d + 2) 19 [.ref 69, .int (nI u)] (hl_g N I J) = some (some (.int (hl_tv (decide (0 < D u)))), hl_g N I J) := by
  obtain ⟨⟨n2, n74, n432⟩, h0, -⟩ := hL
  have w1 : hl_in (nI u) 0 (nI nd - 1) = true := by rw [hl_in_inb (by omega)]; exact hl_inb_nI hu (by omega)
  have := hle u hu
  rw [hl_e19]
  by_cases z : 0 < D u
  · have z' : ¬ hl_di (D u) = -1 := by rw [hl_di_m1 (by omega)]; omega
    rw [decide_eq_true z]
    simp only [hl_r19_0, hl_r19_1, hl_r19_2, hl_r19_3, hl_r19_6, hl_r19_7, hl_r19_8, hl_r19_11, hl_r19_14, hl_r19_15, hl_r19_18, hl_r19_19, hl_r19_20, hl_r19_21, hl_r19_24, hl_r19_25, hl_r19_28, hl_r19_29, hl_o_69, hl_p_69_2, hl_p_69_3, hl_p_69_4, hl_p_69_5, hl_p_69_6, hl_p_69_7, hl_p_69_8, hl_p_69_9, hl_a_74, hl_z_74, h0, hl_s147, w1, hl_tv_t, hl_10, hl_b74 (show u < 74 by omega), hl_cq (show u < 10000 by omega), hD u hu, z', or_true, hl_kill_i, hl_kill_r, hl_kill_n, hl_kill_l, hl_tl_s, hl_tl_n, hl_cal_some, hl_gI, hl_gJ, hl_gsI, hl_gsJ, hl_tv01, if_true, if_false, hl_up_a, hl_row_a]
  · have z' : hl_di (D u) = -1 := by rw [hl_di_m1 (by omega)]; omega
    rw [decide_eq_false z]
    simp only [hl_r19_0, hl_r19_1, hl_r19_2, hl_r19_3, hl_r19_6, hl_r19_7, hl_r19_8, hl_r19_11, hl_r19_14, hl_r19_15, hl_r19_18, hl_r19_19, hl_r19_20, hl_r19_21, hl_r19_24, hl_r19_25, hl_r19_28, hl_r19_29, hl_o_69, hl_p_69_2, hl_p_69_3, hl_p_69_4, hl_p_69_5, hl_p_69_6, hl_p_69_7, hl_p_69_8, hl_p_69_9, hl_a_74, hl_z_74, h0, hl_s147, w1, hl_tv_t, hl_tv_f, hl_10, hl_b74 (show u < 74 by omega), hl_cq (show u < 10000 by omega), hD u hu, z', true_or, hl_kill_i, hl_kill_r, hl_kill_n, hl_kill_l, hl_tl_s, hl_tl_n, hl_cal_some, hl_gI, hl_gJ, hl_gsI, hl_gsJ, hl_tv01, if_true, if_false, hl_up_a, hl_row_a]
end HLDEP
