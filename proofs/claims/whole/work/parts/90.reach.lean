/-! the reference's search -/
def hl_sR (p : Nat) : Nat := p / 74
def hl_dR (p : Nat) : Nat := 73 - p % 74
def hl_rR (r : Nat → Int) (p : Nat) : Int := r (74 * (p / 74) + (73 - p % 74))
def hl_FQ (I : Nat → Nat → Int32) (r : Nat → Int) (s : (Nat → Nat) × (Nat → Nat) × Nat) : Prop := (∀ u, u < 74 → (s.1 u = 0 → I 97 u = -1) ∧ (0 < s.1 u → u ≠ 0 → ∃ w, w < 74 ∧ I 97 u = nI w ∧ s.1 u = s.1 w + 1 ∧ 0 < s.1 w ∧ 0 < r (74 * w + u))) ∧ I 97 0 = nI 0 ∧ ∀ j, j < s.2.2 → I 98 j = nI (s.2.1 j)
def hl_fQ (I I' : Nat → Nat → Int32) : Prop := ∀ b, b ≠ 97 → b ≠ 98 → I' b = I b
theorem hl_fQ_tr {I1 I2 I3 : Nat → Nat → Int32} (h : hl_fQ I1 I2) (g : hl_fQ I2 I3) : hl_fQ I1 I3 := fun b h1 h2 => (g b h1 h2).trans (h b h1 h2)
section HLRE
variable {d N : Nat} {I I' : Nat → Nat → Int32} {J J' : Nat → Nat → Int64} {r : Nat → Int}
theorem hl_l227v {c : hl_C} {i0 x : Nat} (hR : ∀ p, p < 5476 → (J 96 p).toInt = r p) (hx : x < 74) (f : Nat) : ∀ (I : Nat → Nat → Int32) (s : (Nat → Nat) × (Nat → Nat) × Nat) (v : Nat), v + f = 74 → s.2.1 i0 = x → i0 < s.2.2 → hl_bI 5476 74 hl_sR hl_dR (hl_rR r) i0 s → hl_bK 5476 hl_sR hl_dR (hl_rR r) x (74 * x + 74 - v) s → hl_FQ I r s → ∃ I' s', hl_Run 227 c 54 [.ref 85, .int (nI s.2.2), .int (nI i0), .int (nI x), .int (nI v)] [] (hl_g N I J) = hl_Run 227 c 39 [.ref 85, .int (nI s'.2.2), .int (nI (i0 + 1)), .int (nI x), .int (nI 74)] [] (hl_g N I' J) ∧ hl_bI 5476 74 hl_sR hl_dR (hl_rR r) i0 s' ∧ hl_bK 5476 hl_sR hl_dR (hl_rR r) x (74 * x) s' ∧ s'.2.1 i0 = x ∧ i0 < s'.2.2 ∧ hl_FQ I' r s' ∧ hl_fQ I I' := by
  induction f with
  | zero =>
    intro I s v hv h1 h2 hB hK hQ
    obtain rfl : v = 74 := by omega
    rw [Nat.add_sub_cancel] at hK
    refine ⟨I, s, ?_, hB, hK, h1, h2, hQ, fun _ _ _ => rfl⟩
    have c1 : (74 : Int32) ≤ nI 74 := Int32.le_refl 74
    have en : nI i0 + 1 = nI (i0 + 1) := (nI_succ i0).symm
    simp only [hl_r227_54, hl_r227_56, hl_r227_58, hl_r227_116, hl_r227_119, c1, en, hl_kill_i, hl_kill_r, hl_kill_n, hl_kill_l, hl_tl_s, hl_tl_n, hl_cal_some, hl_gI, hl_gJ, hl_gsI, hl_gsJ, hl_tv01, if_true, if_false, hl_up_a, hl_row_a]
  | succ f ih =>
    intro I s v hv h1 h2 hB hK hQ
    have c1 : ¬ (74 : Int32) ≤ nI v := show ¬ nI 74 ≤ nI v from nI_ge (by omega) (by omega)
    have en : nI v + 1 = nI (v + 1) := (nI_succ v).symm
    have bv : hl_inb (nI v) 74 = true := hl_inb_nI (by omega) (by decide)
    have bp : hl_inb (nI (74 * x + v)) 5476 = true := hl_inb_nI (by omega) (by decide)
    have ep : 74 * x + 74 - v = 74 * x + 73 - v + 1 := by omega
    have ep2 : 74 * x + 73 - v = 74 * x + 74 - (v + 1) := by omega
    rw [ep] at hK
    have esr : hl_sR (74 * x + 73 - v) = x := by unfold hl_sR; omega
    have eds : hl_dR (74 * x + 73 - v) = v := by unfold hl_dR; omega
    have err : hl_rR r (74 * x + 73 - v) = r (74 * x + v) := by
      unfold hl_rR
      congr 1
      omega
    obtain ⟨a, b, c', e⟩ := hl_qs_bI (by omega) (by rw [eds]; omega) esr h1 h2 hB hK
    have sB := hB
    obtain ⟨⟨b0, b0', b9, b9'⟩, bq1, bq2, b3, b5, b6, b7, b8⟩ := hB
    obtain ⟨q1, q2, q3⟩ := hQ
    have hr := hR (74 * x + v) (by omega)
    unfold hl_qs at a b c' e
    rw [eds, err] at a b c' e
    rw [ep2] at b
    have sx : 0 < s.1 x := by rw [← h1]; exact (bq1 i0 h2).2.1
    by_cases z : s.1 v = 0
    · have c2 : ¬ (0 : Int32) ≤ I 97 v := by rw [(q1 v (by omega)).1 z]; decide
      by_cases y : 0 < r (74 * x + v)
      · have lt : s.2.2 < 74 := by
          have := hl_cnt_us (D := s.1) (m := 1) (show v < 74 by omega) z (by omega)
          have := hl_cnt_le (fun u => decide (0 < hl_us s.1 v 1 u)) 74
          omega
        rw [if_pos ⟨y, z, lt⟩] at a b c' e
        have c3 : (0 : Int64) < J 96 (74 * x + v) := by rw [Int64.lt_iff_toInt_lt, hr]; exact y
        have bt : hl_inb (nI s.2.2) 74 = true := hl_inb_nI lt (by decide)
        have et : nI s.2.2 + 1 = nI (s.2.2 + 1) := (nI_succ s.2.2).symm
        have v0 : v ≠ 0 := fun q => by rw [q] at z; omega
        have vx : v ≠ x := fun q => by rw [q] at z; omega
        have hQ' : hl_FQ (hl_up (hl_up I 97 v (nI x)) 98 s.2.2 (nI v)) r (hl_us s.1 v (s.1 x + 1), hl_us s.2.1 s.2.2 v, s.2.2 + 1) := by
          refine ⟨fun u hu => ⟨fun hz => ?_, fun hp h0 => ?_⟩, ?_, fun j hj => ?_⟩
          · have hz' : hl_us s.1 v (s.1 x + 1) u = 0 := hz
            rw [hl_up_ne _ _ _ (by decide), hl_up_a, if_pos rfl]
            by_cases w : u = v
            · exfalso
              have h9 : hl_us s.1 v (s.1 x + 1) u = s.1 x + 1 := if_pos w
              omega
            · have h9 : hl_us s.1 v (s.1 x + 1) u = s.1 u := if_neg w
              rw [if_neg w]
              exact (q1 u hu).1 (h9.symm.trans hz')
          · have hp' : 0 < hl_us s.1 v (s.1 x + 1) u := hp
            show ∃ w, w < 74 ∧ _ ∧ hl_us s.1 v (s.1 x + 1) u = hl_us s.1 v (s.1 x + 1) w + 1 ∧ 0 < hl_us s.1 v (s.1 x + 1) w ∧ _
            rw [hl_up_ne _ _ _ (by decide), hl_up_a, if_pos rfl]
            unfold hl_us at hp' ⊢
            by_cases w : u = v
            · refine ⟨x, hx, by rw [if_pos w], by rw [if_pos w, if_neg (fun q => vx q.symm)], by rw [if_neg (fun q => vx q.symm)]; exact sx, by rw [w]; exact y⟩
            · rw [if_neg w] at hp'
              rw [if_neg w, if_neg w]
              obtain ⟨w1, w2, w3, w4, w5, w6⟩ := (q1 u hu).2 hp' h0
              have wv : w1 ≠ v := fun q => by rw [q] at w5; omega
              exact ⟨w1, w2, w3, by rw [if_neg wv]; exact w4, by rw [if_neg wv]; exact w5, w6⟩
          · rw [hl_up_ne _ _ _ (by decide), hl_up_a, if_pos rfl, if_neg (fun q => v0 q.symm)]
            exact q2
          · have hj' : j < s.2.2 + 1 := hj
            show _ = nI (hl_us s.2.1 s.2.2 v j)
            rw [hl_up_a, if_pos rfl]
            unfold hl_us
            by_cases w : j = s.2.2
            · rw [if_pos w, if_pos w]
            · rw [if_neg w, if_neg w, hl_up_ne _ _ _ (by decide)]; exact q3 j (by omega)
        obtain ⟨I1, s1, e1, g1, g2, g3, g4, g5, g6⟩ := ih (hl_up (hl_up I 97 v (nI x)) 98 s.2.2 (nI v)) _ (v + 1) (by omega) c' e a b hQ'
        refine ⟨I1, s1, ?_, g1, g2, g3, g4, g5, fun b b1 b2 => by rw [g6 b b1 b2, hl_up_ne _ _ _ b2, hl_up_ne _ _ _ b1]⟩
        rw [← e1, hl_r227_54]
        simp only [hl_r227_56, hl_r227_58, hl_r227_61, hl_r227_62, hl_r227_65, hl_r227_67, hl_r227_68, hl_r227_71, hl_r227_72, hl_r227_75, hl_r227_77, hl_r227_78, hl_r227_79, hl_r227_81, hl_r227_82, hl_r227_83, hl_r227_84, hl_r227_85, hl_r227_88, hl_r227_91, hl_r227_92, hl_r227_95, hl_r227_97, hl_r227_98, hl_r227_99, hl_r227_100, hl_r227_103, hl_r227_104, hl_r227_106, hl_r227_107, hl_r227_110, hl_r227_113, hl_o_85, hl_p_85_3, hl_p_85_4, hl_p_85_5, hl_p_85_6, hl_p_85_19, hl_p_85_23, hl_p_85_24, hl_p_85_25, hl_p_85_26, hl_p_85_27, hl_p_85_28, hl_p_85_29, hl_p_85_30, hl_p_85_31, hl_p_85_33, hl_p_85_34, hl_p_85_35, hl_p_85_36, hl_p_85_37, hl_a_96, hl_z_96, hl_a_97, hl_z_97, hl_a_98, hl_z_98, c1, bv, bp, bt, hl_i74, hl_cq (show v < 10000 by omega), hl_cq (show 74 * x + v < 10000 by omega), hl_cq (show s.2.2 < 10000 by omega), c2, c3, hl_lcmp_gt0, et, en, hl_kill_i, hl_kill_r, hl_kill_n, hl_kill_l, hl_tl_s, hl_tl_n, hl_cal_some, hl_gI, hl_gJ, hl_gsI, hl_gsJ, hl_tv01, if_true, if_false, hl_up_a, hl_row_a]
        try rw [hl_r227_54]
      · rw [if_neg (fun q => y q.1)] at a b c' e
        have c3 : ¬ (0 : Int64) < J 96 (74 * x + v) := by rw [Int64.lt_iff_toInt_lt, hr]; exact y
        obtain ⟨I1, s1, e1, g1, g2, g3, g4, g5, g6⟩ := ih I s (v + 1) (by omega) c' e a b ⟨q1, q2, q3⟩
        refine ⟨I1, s1, ?_, g1, g2, g3, g4, g5, g6⟩
        rw [← e1, hl_r227_54]
        simp only [hl_r227_56, hl_r227_58, hl_r227_61, hl_r227_62, hl_r227_65, hl_r227_67, hl_r227_68, hl_r227_71, hl_r227_72, hl_r227_75, hl_r227_77, hl_r227_78, hl_r227_79, hl_r227_81, hl_r227_82, hl_r227_83, hl_r227_84, hl_r227_85, hl_r227_88, hl_r227_91, hl_r227_92, hl_r227_95, hl_r227_97, hl_r227_98, hl_r227_99, hl_r227_100, hl_r227_103, hl_r227_104, hl_r227_106, hl_r227_107, hl_r227_110, hl_r227_113, hl_o_85, hl_p_85_3, hl_p_85_4, hl_p_85_5, hl_p_85_6, hl_p_85_19, hl_p_85_23, hl_p_85_24, hl_p_85_25, hl_p_85_26, hl_p_85_27, hl_p_85_28, hl_p_85_29, hl_p_85_30, hl_p_85_31, hl_p_85_33, hl_p_85_34, hl_p_85_35, hl_p_85_36, hl_p_85_37, hl_a_96, hl_z_96, hl_a_97, hl_z_97, hl_a_98, hl_z_98, c1, bv, bp, hl_i74, hl_cq (show v < 10000 by omega), hl_cq (show 74 * x + v < 10000 by omega), c2, c3, hl_lcmp_gt0, en, hl_kill_i, hl_kill_r, hl_kill_n, hl_kill_l, hl_tl_s, hl_tl_n, hl_cal_some, hl_gI, hl_gJ, hl_gsI, hl_gsJ, hl_tv01, if_true, if_false, hl_up_a, hl_row_a]
        try rw [hl_r227_54]
    · rw [if_neg (fun q => z q.2.1)] at a b c' e
      have c2 : (0 : Int32) ≤ I 97 v := by
        by_cases v0 : v = 0
        · rw [v0, q2]; exact Int32.le_refl 0
        · obtain ⟨w1, w2, w3, -⟩ := (q1 v (by omega)).2 (by omega) v0
          rw [w3]
          exact show nI 0 ≤ nI w1 from nI_le (by omega) (by omega)
      obtain ⟨I1, s1, e1, g1, g2, g3, g4, g5, g6⟩ := ih I s (v + 1) (by omega) c' e a b ⟨q1, q2, q3⟩
      refine ⟨I1, s1, ?_, g1, g2, g3, g4, g5, g6⟩
      rw [← e1, hl_r227_54]
      simp only [hl_r227_56, hl_r227_58, hl_r227_61, hl_r227_62, hl_r227_65, hl_r227_67, hl_r227_68, hl_r227_71, hl_r227_72, hl_r227_75, hl_r227_77, hl_r227_78, hl_r227_79, hl_r227_81, hl_r227_82, hl_r227_83, hl_r227_84, hl_r227_85, hl_r227_88, hl_r227_91, hl_r227_92, hl_r227_95, hl_r227_97, hl_r227_98, hl_r227_99, hl_r227_100, hl_r227_103, hl_r227_104, hl_r227_106, hl_r227_107, hl_r227_110, hl_r227_113, hl_o_85, hl_p_85_3, hl_p_85_4, hl_p_85_5, hl_p_85_6, hl_p_85_19, hl_p_85_23, hl_p_85_24, hl_p_85_25, hl_p_85_26, hl_p_85_27, hl_p_85_28, hl_p_85_29, hl_p_85_30, hl_p_85_31, hl_p_85_33, hl_p_85_34, hl_p_85_35, hl_p_85_36, hl_p_85_37, hl_a_96, hl_z_96, hl_a_97, hl_z_97, hl_a_98, hl_z_98, c1, bv, hl_cq (show v < 10000 by omega), c2, en, hl_kill_i, hl_kill_r, hl_kill_n, hl_kill_l, hl_tl_s, hl_tl_n, hl_cal_some, hl_gI, hl_gJ, hl_gsI, hl_gsJ, hl_tv01, if_true, if_false, hl_up_a, hl_row_a]
      try rw [hl_r227_54]
end HLRE
