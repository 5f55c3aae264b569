/-! the reference's reader: bounds of the machine; between, opens, begin -/
def hx_wf : List Nat → Prop
  | [] => True
  | k :: P => hx_wf P ∧ P.length + 1 ≤ 7 * (hx_isO k + hx_opP P) + (if hx_isO k = 1 then 0 else hx_rk k)
def hx_iv (s : Nat × List Nat × List (Nat × Nat) × Bool) : Prop := hx_wf s.2.1 ∧ hx_opP s.2.1 ≤ 8 ∧ s.2.1.length + s.2.2.1.length ≤ s.1
def hx_bv (o : Option Nat) : Int32 := match o with
  | some o => nI o
  | none => -1
def hx_RM (t : Nat → Nat) (L x : Nat) (s : Nat × List Nat × List (Nat × Nat) × Bool) (I : Nat → Nat → Int32) (J : Nat → Nat → Int64) : Prop := hx_TQ t L I ∧ hx_TT t L s.1 I J ∧ hx_RC x s.2.1 s.2.2.1 (hx_opP s.2.1) I ∧ I 85 22 = hl_tv s.2.2.2 ∧ s.1 ≤ L
section HXRBEG
variable {d N L x p : Nat} {I I' : Nat → Nat → Int32} {J : Nat → Nat → Int64} {t : Nat → Nat} {b w : Bool} {P : List Nat} {C : List (Nat × Nat)}
theorem hx_rk7 (k : Nat) : hx_rk k ≤ 7 := by
  unfold hx_rk
  repeat' split
  all_goals omega
theorem hx_isO1 (k : Nat) : hx_isO k ≤ 1 := by
  unfold hx_isO
  split <;> omega
theorem hx_rk6 {k : Nat} (h : ¬ hx_isO k = 1) : hx_rk k ≤ 6 := by
  unfold hx_isO at h
  unfold hx_rk
  by_cases z : k = 2 ∨ k = 20 ∨ 40 ≤ k
  · rw [if_pos z] at h; exact absurd rfl h
  · repeat' split
    all_goals omega
theorem hx_wf_len (P : List Nat) (h : hx_wf P) : P.length ≤ 7 * hx_opP P + 6 := by
  cases P with
  | nil => exact Nat.zero_le _
  | cons k P =>
    have h2 := h.2
    show P.length + 1 ≤ 7 * (hx_isO k + hx_opP P) + 6
    by_cases z : hx_isO k = 1
    · rw [if_pos z] at h2; omega
    · rw [if_neg z] at h2; have := hx_rk6 z; omega
theorem hx_wf_o {k : Nat} (h : hx_wf P) (hk : hx_isO k = 1) : hx_wf (k :: P) := by
  have := hx_wf_len P h
  refine ⟨h, ?_⟩
  rw [if_pos hk, hk]
  omega
theorem hx_stl_wf {r : Nat} : ∀ (P : List Nat) (C : List (Nat × Nat)), hx_wf P → hx_wf (hx_stl r P C).1 ∧ hx_opP (hx_stl r P C).1 ≤ hx_opP P ∧ (hx_stl r P C).1.length + (hx_stl r P C).2.length = P.length + C.length ∧ hx_lw r (hx_stl r P C).1 := by
  intro P
  induction P with
  | nil => exact fun C _ => ⟨True.intro, Nat.le_refl _, rfl, fun k P e => by cases e⟩
  | cons k P ih =>
    intro C h
    show hx_wf (if r ≤ hx_rk k then hx_stl r P (C ++ [(k, 0)]) else (k :: P, C)).1 ∧ hx_opP (if r ≤ hx_rk k then hx_stl r P (C ++ [(k, 0)]) else (k :: P, C)).1 ≤ hx_isO k + hx_opP P ∧ (if r ≤ hx_rk k then hx_stl r P (C ++ [(k, 0)]) else (k :: P, C)).1.length + (if r ≤ hx_rk k then hx_stl r P (C ++ [(k, 0)]) else (k :: P, C)).2.length = P.length + 1 + C.length ∧ hx_lw r (if r ≤ hx_rk k then hx_stl r P (C ++ [(k, 0)]) else (k :: P, C)).1
    by_cases z : r ≤ hx_rk k
    · rw [if_pos z]
      obtain ⟨a, c, e, f⟩ := ih (C ++ [(k, 0)]) h.1
      refine ⟨a, by omega, ?_, f⟩
      rw [e, List.length_append, List.length_singleton]
      omega
    · rw [if_neg z]
      exact ⟨h, Nat.le_refl _, rfl, fun k' P' e => by cases e; omega⟩
theorem hx_wf_n {o : Nat} (h : hx_wf P) (hl : hx_lw (hx_rk o) P) (h1 : 1 ≤ hx_rk o) (ho : hx_isO o = 0) : hx_wf (o :: P) := by
  refine ⟨h, ?_⟩
  rw [ho, if_neg (by omega)]
  cases P with
  | nil => show 0 + 1 ≤ _; omega
  | cons k P =>
    have h2 := h.2
    have h3 := hl k P rfl
    show P.length + 1 + 1 ≤ 7 * (0 + (hx_isO k + hx_opP P)) + hx_rk o
    by_cases z : hx_isO k = 1
    · rw [if_pos z] at h2; omega
    · rw [if_neg z] at h2; omega
theorem hx_stl1 : ∀ (P : List Nat) (C : List (Nat × Nat)), (hx_stl 1 P C).1 = hx_mk P := by
  intro P
  induction P with
  | nil => exact fun C => rfl
  | cons k P ih =>
    intro C
    show (if 1 ≤ hx_rk k then hx_stl 1 P (C ++ [(k, 0)]) else (k :: P, C)).1 = if 40 ≤ k then k :: P else hx_mk P
    by_cases z : 40 ≤ k
    · have : hx_rk k = 0 := if_pos z
      rw [if_pos z, if_neg (by omega)]
    · have : 1 ≤ hx_rk k := by
        unfold hx_rk
        rw [if_neg z]
        repeat' split
        all_goals omega
      rw [if_neg z, if_pos this]
      exact ih _
theorem hx_bt_rk {o κ : Nat} (h : hx_bt b P κ = some o) : 1 ≤ hx_rk o ∧ hx_isO o = 0 ∧ o ≤ 43 ∧ κ ≠ 21 := by
  unfold hx_bt at h
  by_cases z1 : 34 ≤ κ ∧ κ ≤ 37
  · rw [if_pos z1] at h
    have e : hx_op κ = o := Option.some.inj h
    have cs : κ = 34 ∨ κ = 35 ∨ κ = 36 ∨ κ = 37 := by omega
    rw [← e]
    rcases cs with rfl | rfl | rfl | rfl <;> exact ⟨by decide, by decide, by decide, by decide⟩
  · rw [if_neg z1] at h
    by_cases z2 : hx_ko b P ≠ 41
    · rw [if_pos z2] at h; cases h
    · rw [if_neg z2] at h
      by_cases z3 : hx_cd P = false
      · rw [if_pos z3] at h
        by_cases z4 : hx_cm κ = true
        · rw [if_pos z4] at h
          have e : hx_op κ = o := Option.some.inj h
          rw [← e]
          have k6 : κ = 30 ∨ κ = 31 ∨ κ = 32 ∨ κ = 33 ∨ κ = 43 ∨ κ = 44 := by
            unfold hx_cm at z4
            rw [Bool.or_eq_true, Bool.and_eq_true, Bool.and_eq_true, decide_eq_true_eq, decide_eq_true_eq, decide_eq_true_eq, decide_eq_true_eq] at z4
            omega
          rcases k6 with rfl | rfl | rfl | rfl | rfl | rfl <;> exact ⟨by decide, by decide, by decide, by decide⟩
        · rw [if_neg z4] at h; cases h
      · rw [if_neg z3] at h
        by_cases z4 : κ = 12 ∨ κ = 13
        · rw [if_pos z4] at h
          have e : hx_op κ = o := Option.some.inj h
          rw [← e]
          rcases z4 with rfl | rfl <;> exact ⟨by decide, by decide, by decide, by decide⟩
        · rw [if_neg z4] at h; cases h
/-- betweenOf -/
theorem hx_s189 (h : hx_RM t L x (p, P, C, w) I J) : hl_call (d + 4) 189 [.ref 85, .int (hl_tv b)] (hl_g N I J) = some (some (.int (hx_bv (hx_bt b P (hx_tk t L p).1))), hl_g N I J) := by
  obtain ⟨T, ⟨-, -, tr⟩, rc, -, hp⟩ := h
  obtain ⟨-, -, -, -, k44, -⟩ := hx_tk_in (t := t) hp
  have ek := hx_s183 (d := d + 1) (N := N) (J := J) (b := b) rc
  have ec := hx_s184 (d := d + 1) (N := N) (J := J) rc
  have eo := hx_s188 (d := d + 2) (N := N) (I := I) (J := J) tr k44
  have e13 := hx_s176 (d := d + 2) (N := N) (I := I) (J := J) (i := 13) tr k44 (by omega)
  have w12 := hx_TR_w (i := 12) tr k44 (by omega)
  have q34 : (I 85 12 = (43 : Int32)) = ((hx_tk t L p).1 = 34) := hx_TR_c (c := 34) tr k44 (by omega)
  have q35 : (I 85 12 = (45 : Int32)) = ((hx_tk t L p).1 = 35) := hx_TR_c (c := 35) tr k44 (by omega)
  have q36 : (I 85 12 = (42 : Int32)) = ((hx_tk t L p).1 = 36) := hx_TR_c (c := 36) tr k44 (by omega)
  have q37 : (I 85 12 = (47 : Int32)) = ((hx_tk t L p).1 = 37) := hx_TR_c (c := 37) tr k44 (by omega)
  have q41 : (nI (hx_ko b P) = (41 : Int32)) = (hx_ko b P = 41) := by
    refine propext (nI_eq (b := 41) ?_ (by omega))
    unfold hx_ko
    by_cases z : hx_mk P = []
    · rw [if_pos z]
      cases b
      · rw [if_neg (by decide)]; omega
      · rw [if_pos rfl]; omega
    · rw [if_neg z]
      have := (hx_mk_at P _ rc.2.2.2.2.1 z).2.2.2.1
      omega
  generalize (hx_tk t L p).1 = κ at tr k44 eo e13 w12 q34 q35 q36 q37 ⊢
  rw [hl_e189]
  unfold hx_bt
  by_cases z1 : 34 ≤ κ ∧ κ ≤ 37
  · rw [if_pos z1]
    have cs : κ = 34 ∨ κ = 35 ∨ κ = 36 ∨ κ = 37 := by omega
    rcases cs with z | z | z | z
    · have p1 : (κ = 34) = True := eq_true z
      have r : hx_bv (some (hx_op κ)) = 3 := by rw [z]; rfl
      rw [r]
      simp only [hl_r189_0, hl_r189_1, hl_r189_4, hl_r189_6, hl_r189_9, hl_r189_10, hl_r189_11, hl_r189_12, hl_r189_15, hl_r189_17, hl_r189_20, hl_r189_21, hl_r189_22, hl_r189_23, hl_r189_26, hl_r189_28, hl_r189_31, hl_r189_32, hl_r189_33, hl_r189_34, hl_r189_37, hl_r189_39, hl_r189_42, hl_r189_44, hl_r189_45, hl_r189_46, hl_r189_47, hl_r189_50, hl_r189_52, hl_r189_55, hl_r189_56, hl_r189_57, hl_r189_58, hl_r189_61, hl_r189_64, hl_r189_65, hl_r189_68, hl_r189_69, hl_r189_70, hl_r189_72, hl_r189_74, hl_r189_76, hl_r189_79, hl_r189_82, hl_r189_85, hl_r189_87, hl_r189_90, hl_r189_91, hl_r189_94, hl_r189_95, hl_r189_98, hl_r189_99, hl_r189_102, hl_r189_105, hl_r189_106, hl_r189_109, hl_r189_111, hl_r189_114, hl_r189_115, hl_o_85, hl_p_85_3, hl_p_85_4, hl_p_85_5, hl_p_85_6, hl_p_85_19, hl_p_85_23, hl_p_85_24, hl_p_85_25, hl_p_85_26, hl_p_85_27, hl_p_85_28, hl_p_85_29, hl_p_85_30, hl_p_85_31, hl_p_85_33, hl_p_85_34, hl_p_85_35, hl_p_85_36, hl_p_85_37, q34, p1, hl_kill_i, hl_kill_r, hl_kill_n, hl_kill_l, hl_tl_s, hl_tl_n, hl_cal_some, hl_gI, hl_gJ, hl_gsI, hl_gsJ, hl_tv01, if_true, if_false, not_true, not_false_eq_true, hl_10, or_true, true_or]
    · have p1 : (κ = 34) = False := eq_false (by omega)
      have p2 : (κ = 35) = True := eq_true z
      have r : hx_bv (some (hx_op κ)) = 4 := by rw [z]; rfl
      rw [r]
      simp only [hl_r189_0, hl_r189_1, hl_r189_4, hl_r189_6, hl_r189_9, hl_r189_10, hl_r189_11, hl_r189_12, hl_r189_15, hl_r189_17, hl_r189_20, hl_r189_21, hl_r189_22, hl_r189_23, hl_r189_26, hl_r189_28, hl_r189_31, hl_r189_32, hl_r189_33, hl_r189_34, hl_r189_37, hl_r189_39, hl_r189_42, hl_r189_44, hl_r189_45, hl_r189_46, hl_r189_47, hl_r189_50, hl_r189_52, hl_r189_55, hl_r189_56, hl_r189_57, hl_r189_58, hl_r189_61, hl_r189_64, hl_r189_65, hl_r189_68, hl_r189_69, hl_r189_70, hl_r189_72, hl_r189_74, hl_r189_76, hl_r189_79, hl_r189_82, hl_r189_85, hl_r189_87, hl_r189_90, hl_r189_91, hl_r189_94, hl_r189_95, hl_r189_98, hl_r189_99, hl_r189_102, hl_r189_105, hl_r189_106, hl_r189_109, hl_r189_111, hl_r189_114, hl_r189_115, hl_o_85, hl_p_85_3, hl_p_85_4, hl_p_85_5, hl_p_85_6, hl_p_85_19, hl_p_85_23, hl_p_85_24, hl_p_85_25, hl_p_85_26, hl_p_85_27, hl_p_85_28, hl_p_85_29, hl_p_85_30, hl_p_85_31, hl_p_85_33, hl_p_85_34, hl_p_85_35, hl_p_85_36, hl_p_85_37, q34, q35, p1, p2, hl_kill_i, hl_kill_r, hl_kill_n, hl_kill_l, hl_tl_s, hl_tl_n, hl_cal_some, hl_gI, hl_gJ, hl_gsI, hl_gsJ, hl_tv01, if_true, if_false, not_true, not_false_eq_true, hl_10, or_true, true_or]
    · have p1 : (κ = 34) = False := eq_false (by omega)
      have p2 : (κ = 35) = False := eq_false (by omega)
      have p3 : (κ = 36) = True := eq_true z
      have r : hx_bv (some (hx_op κ)) = 5 := by rw [z]; rfl
      rw [r]
      simp only [hl_r189_0, hl_r189_1, hl_r189_4, hl_r189_6, hl_r189_9, hl_r189_10, hl_r189_11, hl_r189_12, hl_r189_15, hl_r189_17, hl_r189_20, hl_r189_21, hl_r189_22, hl_r189_23, hl_r189_26, hl_r189_28, hl_r189_31, hl_r189_32, hl_r189_33, hl_r189_34, hl_r189_37, hl_r189_39, hl_r189_42, hl_r189_44, hl_r189_45, hl_r189_46, hl_r189_47, hl_r189_50, hl_r189_52, hl_r189_55, hl_r189_56, hl_r189_57, hl_r189_58, hl_r189_61, hl_r189_64, hl_r189_65, hl_r189_68, hl_r189_69, hl_r189_70, hl_r189_72, hl_r189_74, hl_r189_76, hl_r189_79, hl_r189_82, hl_r189_85, hl_r189_87, hl_r189_90, hl_r189_91, hl_r189_94, hl_r189_95, hl_r189_98, hl_r189_99, hl_r189_102, hl_r189_105, hl_r189_106, hl_r189_109, hl_r189_111, hl_r189_114, hl_r189_115, hl_o_85, hl_p_85_3, hl_p_85_4, hl_p_85_5, hl_p_85_6, hl_p_85_19, hl_p_85_23, hl_p_85_24, hl_p_85_25, hl_p_85_26, hl_p_85_27, hl_p_85_28, hl_p_85_29, hl_p_85_30, hl_p_85_31, hl_p_85_33, hl_p_85_34, hl_p_85_35, hl_p_85_36, hl_p_85_37, q34, q35, q36, p1, p2, p3, hl_kill_i, hl_kill_r, hl_kill_n, hl_kill_l, hl_tl_s, hl_tl_n, hl_cal_some, hl_gI, hl_gJ, hl_gsI, hl_gsJ, hl_tv01, if_true, if_false, not_true, not_false_eq_true, hl_10, or_true, true_or]
    · have p1 : (κ = 34) = False := eq_false (by omega)
      have p2 : (κ = 35) = False := eq_false (by omega)
      have p3 : (κ = 36) = False := eq_false (by omega)
      have p4 : (κ = 37) = True := eq_true z
      have r : hx_bv (some (hx_op κ)) = 6 := by rw [z]; rfl
      rw [r]
      simp only [hl_r189_0, hl_r189_1, hl_r189_4, hl_r189_6, hl_r189_9, hl_r189_10, hl_r189_11, hl_r189_12, hl_r189_15, hl_r189_17, hl_r189_20, hl_r189_21, hl_r189_22, hl_r189_23, hl_r189_26, hl_r189_28, hl_r189_31, hl_r189_32, hl_r189_33, hl_r189_34, hl_r189_37, hl_r189_39, hl_r189_42, hl_r189_44, hl_r189_45, hl_r189_46, hl_r189_47, hl_r189_50, hl_r189_52, hl_r189_55, hl_r189_56, hl_r189_57, hl_r189_58, hl_r189_61, hl_r189_64, hl_r189_65, hl_r189_68, hl_r189_69, hl_r189_70, hl_r189_72, hl_r189_74, hl_r189_76, hl_r189_79, hl_r189_82, hl_r189_85, hl_r189_87, hl_r189_90, hl_r189_91, hl_r189_94, hl_r189_95, hl_r189_98, hl_r189_99, hl_r189_102, hl_r189_105, hl_r189_106, hl_r189_109, hl_r189_111, hl_r189_114, hl_r189_115, hl_o_85, hl_p_85_3, hl_p_85_4, hl_p_85_5, hl_p_85_6, hl_p_85_19, hl_p_85_23, hl_p_85_24, hl_p_85_25, hl_p_85_26, hl_p_85_27, hl_p_85_28, hl_p_85_29, hl_p_85_30, hl_p_85_31, hl_p_85_33, hl_p_85_34, hl_p_85_35, hl_p_85_36, hl_p_85_37, q34, q35, q36, q37, p1, p2, p3, p4, hl_kill_i, hl_kill_r, hl_kill_n, hl_kill_l, hl_tl_s, hl_tl_n, hl_cal_some, hl_gI, hl_gJ, hl_gsI, hl_gsJ, hl_tv01, if_true, if_false, not_true, not_false_eq_true, hl_10, or_true, true_or]
  · have p1 : (κ = 34) = False := eq_false (by omega)
    have p2 : (κ = 35) = False := eq_false (by omega)
    have p3 : (κ = 36) = False := eq_false (by omega)
    have p4 : (κ = 37) = False := eq_false (by omega)
    rw [if_neg z1]
    by_cases z2 : hx_ko b P ≠ 41
    · have p5 : (hx_ko b P = 41) = False := eq_false z2
      rw [if_pos z2]
      show _ = some (some (Value.int (-1)), hl_g N I J)
      simp only [hl_r189_0, hl_r189_1, hl_r189_4, hl_r189_6, hl_r189_9, hl_r189_10, hl_r189_11, hl_r189_12, hl_r189_15, hl_r189_17, hl_r189_20, hl_r189_21, hl_r189_22, hl_r189_23, hl_r189_26, hl_r189_28, hl_r189_31, hl_r189_32, hl_r189_33, hl_r189_34, hl_r189_37, hl_r189_39, hl_r189_42, hl_r189_44, hl_r189_45, hl_r189_46, hl_r189_47, hl_r189_50, hl_r189_52, hl_r189_55, hl_r189_56, hl_r189_57, hl_r189_58, hl_r189_61, hl_r189_64, hl_r189_65, hl_r189_68, hl_r189_69, hl_r189_70, hl_r189_72, hl_r189_74, hl_r189_76, hl_r189_79, hl_r189_82, hl_r189_85, hl_r189_87, hl_r189_90, hl_r189_91, hl_r189_94, hl_r189_95, hl_r189_98, hl_r189_99, hl_r189_102, hl_r189_105, hl_r189_106, hl_r189_109, hl_r189_111, hl_r189_114, hl_r189_115, hl_o_85, hl_p_85_3, hl_p_85_4, hl_p_85_5, hl_p_85_6, hl_p_85_19, hl_p_85_23, hl_p_85_24, hl_p_85_25, hl_p_85_26, hl_p_85_27, hl_p_85_28, hl_p_85_29, hl_p_85_30, hl_p_85_31, hl_p_85_33, hl_p_85_34, hl_p_85_35, hl_p_85_36, hl_p_85_37, q34, q35, q36, q37, p1, p2, p3, p4, ek, q41, p5, hl_tl_s, hl_kill_i, hl_kill_r, hl_kill_n, hl_kill_l, hl_tl_s, hl_tl_n, hl_cal_some, hl_gI, hl_gJ, hl_gsI, hl_gsJ, hl_tv01, if_true, if_false, not_true, not_false_eq_true, hl_10, or_true, true_or]
    · have p5 : (hx_ko b P = 41) = True := eq_true (Decidable.of_not_not z2)
      rw [if_neg z2]
      by_cases z3 : hx_cd P = false
      · rw [if_pos z3]
        rw [z3, hl_tv_f] at ec
        have r : hx_bv (if hx_cm κ = true then some (hx_op κ) else none) = if hx_cm κ = true then nI (hx_op κ) else -1 := by
          by_cases y : hx_cm κ = true
          · rw [if_pos y, if_pos y]; rfl
          · rw [if_neg y, if_neg y]; rfl
        rw [r]
        simp only [hl_r189_0, hl_r189_1, hl_r189_4, hl_r189_6, hl_r189_9, hl_r189_10, hl_r189_11, hl_r189_12, hl_r189_15, hl_r189_17, hl_r189_20, hl_r189_21, hl_r189_22, hl_r189_23, hl_r189_26, hl_r189_28, hl_r189_31, hl_r189_32, hl_r189_33, hl_r189_34, hl_r189_37, hl_r189_39, hl_r189_42, hl_r189_44, hl_r189_45, hl_r189_46, hl_r189_47, hl_r189_50, hl_r189_52, hl_r189_55, hl_r189_56, hl_r189_57, hl_r189_58, hl_r189_61, hl_r189_64, hl_r189_65, hl_r189_68, hl_r189_69, hl_r189_70, hl_r189_72, hl_r189_74, hl_r189_76, hl_r189_79, hl_r189_82, hl_r189_85, hl_r189_87, hl_r189_90, hl_r189_91, hl_r189_94, hl_r189_95, hl_r189_98, hl_r189_99, hl_r189_102, hl_r189_105, hl_r189_106, hl_r189_109, hl_r189_111, hl_r189_114, hl_r189_115, hl_o_85, hl_p_85_3, hl_p_85_4, hl_p_85_5, hl_p_85_6, hl_p_85_19, hl_p_85_23, hl_p_85_24, hl_p_85_25, hl_p_85_26, hl_p_85_27, hl_p_85_28, hl_p_85_29, hl_p_85_30, hl_p_85_31, hl_p_85_33, hl_p_85_34, hl_p_85_35, hl_p_85_36, hl_p_85_37, q34, q35, q36, q37, p1, p2, p3, p4, ek, q41, p5, ec, eo, hl_tl_s, hl_kill_i, hl_kill_r, hl_kill_n, hl_kill_l, hl_tl_s, hl_tl_n, hl_cal_some, hl_gI, hl_gJ, hl_gsI, hl_gsJ, hl_tv01, if_true, if_false, not_true, not_false_eq_true, hl_10, or_true, true_or]
      · rw [if_neg z3]
        have cd1 : hx_cd P = true := by
          cases y : hx_cd P with
          | true => rfl
          | false => exact absurd y z3
        have n1 : ¬ (1 : Int32) = 0 := by decide
        rw [cd1, hl_tv_t] at ec
        by_cases y13 : κ = 13
        · rw [if_pos (Or.inr y13)]
          have r : hx_bv (some (hx_op κ)) = 21 := by rw [y13]; rfl
          rw [r]
          rw [decide_eq_true y13, hl_tv_t] at e13
          simp only [hl_r189_0, hl_r189_1, hl_r189_4, hl_r189_6, hl_r189_9, hl_r189_10, hl_r189_11, hl_r189_12, hl_r189_15, hl_r189_17, hl_r189_20, hl_r189_21, hl_r189_22, hl_r189_23, hl_r189_26, hl_r189_28, hl_r189_31, hl_r189_32, hl_r189_33, hl_r189_34, hl_r189_37, hl_r189_39, hl_r189_42, hl_r189_44, hl_r189_45, hl_r189_46, hl_r189_47, hl_r189_50, hl_r189_52, hl_r189_55, hl_r189_56, hl_r189_57, hl_r189_58, hl_r189_61, hl_r189_64, hl_r189_65, hl_r189_68, hl_r189_69, hl_r189_70, hl_r189_72, hl_r189_74, hl_r189_76, hl_r189_79, hl_r189_82, hl_r189_85, hl_r189_87, hl_r189_90, hl_r189_91, hl_r189_94, hl_r189_95, hl_r189_98, hl_r189_99, hl_r189_102, hl_r189_105, hl_r189_106, hl_r189_109, hl_r189_111, hl_r189_114, hl_r189_115, hl_o_85, hl_p_85_3, hl_p_85_4, hl_p_85_5, hl_p_85_6, hl_p_85_19, hl_p_85_23, hl_p_85_24, hl_p_85_25, hl_p_85_26, hl_p_85_27, hl_p_85_28, hl_p_85_29, hl_p_85_30, hl_p_85_31, hl_p_85_33, hl_p_85_34, hl_p_85_35, hl_p_85_36, hl_p_85_37, q34, q35, q36, q37, p1, p2, p3, p4, ek, q41, p5, ec, n1, hx_v13, e13, hl_tl_s, hl_kill_i, hl_kill_r, hl_kill_n, hl_kill_l, hl_tl_s, hl_tl_n, hl_cal_some, hl_gI, hl_gJ, hl_gsI, hl_gsJ, hl_tv01, if_true, if_false, not_true, not_false_eq_true, hl_10, or_true, true_or]
        · rw [decide_eq_false y13, hl_tv_f] at e13
          by_cases y12 : κ = 12
          · rw [if_pos (Or.inl y12)]
            have r : hx_bv (some (hx_op κ)) = 22 := by rw [y12]; rfl
            rw [r]
            obtain ⟨t2, j12⟩ := w12.mpr y12
            have j12' : (J 85 14 = Int64.ofNat (hx_pw 12)) = True := eq_true j12
            simp only [hl_r189_0, hl_r189_1, hl_r189_4, hl_r189_6, hl_r189_9, hl_r189_10, hl_r189_11, hl_r189_12, hl_r189_15, hl_r189_17, hl_r189_20, hl_r189_21, hl_r189_22, hl_r189_23, hl_r189_26, hl_r189_28, hl_r189_31, hl_r189_32, hl_r189_33, hl_r189_34, hl_r189_37, hl_r189_39, hl_r189_42, hl_r189_44, hl_r189_45, hl_r189_46, hl_r189_47, hl_r189_50, hl_r189_52, hl_r189_55, hl_r189_56, hl_r189_57, hl_r189_58, hl_r189_61, hl_r189_64, hl_r189_65, hl_r189_68, hl_r189_69, hl_r189_70, hl_r189_72, hl_r189_74, hl_r189_76, hl_r189_79, hl_r189_82, hl_r189_85, hl_r189_87, hl_r189_90, hl_r189_91, hl_r189_94, hl_r189_95, hl_r189_98, hl_r189_99, hl_r189_102, hl_r189_105, hl_r189_106, hl_r189_109, hl_r189_111, hl_r189_114, hl_r189_115, hl_o_85, hl_p_85_3, hl_p_85_4, hl_p_85_5, hl_p_85_6, hl_p_85_19, hl_p_85_23, hl_p_85_24, hl_p_85_25, hl_p_85_26, hl_p_85_27, hl_p_85_28, hl_p_85_29, hl_p_85_30, hl_p_85_31, hl_p_85_33, hl_p_85_34, hl_p_85_35, hl_p_85_36, hl_p_85_37, q34, q35, q36, q37, p1, p2, p3, p4, ek, q41, p5, ec, n1, hx_v13, e13, t2, hx_v12, hl_lcmp_eq0, j12', hl_tl_s, hl_kill_i, hl_kill_r, hl_kill_n, hl_kill_l, hl_tl_s, hl_tl_n, hl_cal_some, hl_gI, hl_gJ, hl_gsI, hl_gsJ, hl_tv01, if_true, if_false, not_true, not_false_eq_true, hl_10, or_true, true_or]
            rfl
          · rw [if_neg (fun y => y.elim y12 y13)]
            show _ = some (some (Value.int (-1)), hl_g N I J)
            by_cases t2 : I 85 12 = 2
            · have j12 : (J 85 14 = Int64.ofNat (hx_pw 12)) = False := eq_false (fun y => y12 (w12.mp ⟨t2, y⟩))
              have c1 : ((2 : Int32) = 43) = False := by decide
              simp only [hl_r189_0, hl_r189_1, hl_r189_4, hl_r189_6, hl_r189_9, hl_r189_10, hl_r189_11, hl_r189_12, hl_r189_15, hl_r189_17, hl_r189_20, hl_r189_21, hl_r189_22, hl_r189_23, hl_r189_26, hl_r189_28, hl_r189_31, hl_r189_32, hl_r189_33, hl_r189_34, hl_r189_37, hl_r189_39, hl_r189_42, hl_r189_44, hl_r189_45, hl_r189_46, hl_r189_47, hl_r189_50, hl_r189_52, hl_r189_55, hl_r189_56, hl_r189_57, hl_r189_58, hl_r189_61, hl_r189_64, hl_r189_65, hl_r189_68, hl_r189_69, hl_r189_70, hl_r189_72, hl_r189_74, hl_r189_76, hl_r189_79, hl_r189_82, hl_r189_85, hl_r189_87, hl_r189_90, hl_r189_91, hl_r189_94, hl_r189_95, hl_r189_98, hl_r189_99, hl_r189_102, hl_r189_105, hl_r189_106, hl_r189_109, hl_r189_111, hl_r189_114, hl_r189_115, hl_o_85, hl_p_85_3, hl_p_85_4, hl_p_85_5, hl_p_85_6, hl_p_85_19, hl_p_85_23, hl_p_85_24, hl_p_85_25, hl_p_85_26, hl_p_85_27, hl_p_85_28, hl_p_85_29, hl_p_85_30, hl_p_85_31, hl_p_85_33, hl_p_85_34, hl_p_85_35, hl_p_85_36, hl_p_85_37, q34, q35, q36, q37, p1, p2, p3, p4, ek, q41, p5, ec, n1, hx_v13, e13, t2, hx_v12, hl_lcmp_eq0, j12, hl_tl_s, hl_kill_i, hl_kill_r, hl_kill_n, hl_kill_l, hl_tl_s, hl_tl_n, hl_cal_some, hl_gI, hl_gJ, hl_gsI, hl_gsJ, hl_tv01, if_true, if_false, not_true, not_false_eq_true, hl_10, or_true, true_or]
              rfl
            · simp only [hl_r189_0, hl_r189_1, hl_r189_4, hl_r189_6, hl_r189_9, hl_r189_10, hl_r189_11, hl_r189_12, hl_r189_15, hl_r189_17, hl_r189_20, hl_r189_21, hl_r189_22, hl_r189_23, hl_r189_26, hl_r189_28, hl_r189_31, hl_r189_32, hl_r189_33, hl_r189_34, hl_r189_37, hl_r189_39, hl_r189_42, hl_r189_44, hl_r189_45, hl_r189_46, hl_r189_47, hl_r189_50, hl_r189_52, hl_r189_55, hl_r189_56, hl_r189_57, hl_r189_58, hl_r189_61, hl_r189_64, hl_r189_65, hl_r189_68, hl_r189_69, hl_r189_70, hl_r189_72, hl_r189_74, hl_r189_76, hl_r189_79, hl_r189_82, hl_r189_85, hl_r189_87, hl_r189_90, hl_r189_91, hl_r189_94, hl_r189_95, hl_r189_98, hl_r189_99, hl_r189_102, hl_r189_105, hl_r189_106, hl_r189_109, hl_r189_111, hl_r189_114, hl_r189_115, hl_o_85, hl_p_85_3, hl_p_85_4, hl_p_85_5, hl_p_85_6, hl_p_85_19, hl_p_85_23, hl_p_85_24, hl_p_85_25, hl_p_85_26, hl_p_85_27, hl_p_85_28, hl_p_85_29, hl_p_85_30, hl_p_85_31, hl_p_85_33, hl_p_85_34, hl_p_85_35, hl_p_85_36, hl_p_85_37, q34, q35, q36, q37, p1, p2, p3, p4, ek, q41, p5, ec, n1, hx_v13, e13, t2, hl_tl_s, hl_kill_i, hl_kill_r, hl_kill_n, hl_kill_l, hl_tl_s, hl_tl_n, hl_cal_some, hl_gI, hl_gJ, hl_gsI, hl_gsJ, hl_tv01, if_true, if_false, not_true, not_false_eq_true, hl_10, or_true, true_or]
end HXRBEG
