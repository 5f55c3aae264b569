/-! the class's tokens -/
theorem hx_chE : ∀ i, i < 82 → hl_inb (nI i) hl_words.toList.length = true ∧ hl_chr hl_words i = nI (hx_WC.getD i 0) := by decide +kernel
theorem hx_lenE : hl_words.toList.length = 82 ∧ hx_WC.length = 82 := by decide +kernel
theorem hx_ixE : ∀ c, c < 256 → (match hl_signs.toList.findIdx? (fun ch => ch.toNat == c) with
  | some k => Int32.ofNat k
  | none => -1) = (if hx_sg c = 22 then -1 else nI (hx_sg c - 30)) := by decide +kernel
theorem hx_i2c : ∀ c, c < 256 → ((nI c).toUInt32 % 65536).toInt32 = nI c := by decide +kernel
theorem hx_ext {d j : Nat} {as : List Value} {v : Value} {w : hl_W} (hk : hl_kd j = 3) (h : hl_ext j as = some v) : hl_call (d + 12) j as w = some (some v, w) := by
  have e : hl_call (d + 12) j as w = if hl_kd j = 3 then (if 12 ≤ d + 12 then (hl_ext j as).map (fun v => (some v, w)) else none) else if hl_kd j < 3 ∧ j < 268 ∧ (hl_lay as).length ≤ hl_m j then hl_Run j (hl_call (d + 11)) 0 (hl_ent (hl_m j) as) [] w else none := rfl
  rw [e, if_pos hk, if_pos (by omega), h]
  rfl
theorem hx_s265 {d : Nat} {w : hl_W} : hl_call (d + 12) 265 [.ref 1000001] w = some (some (.int (nI 82)), w) := by
  refine hx_ext (by decide) ?_
  show ((hl_txt 1000001).map fun s => Value.int (Int32.ofNat s.toList.length)) = _
  have e1 : hl_txt 1000001 = some hl_words := rfl
  rw [e1, Option.map_some, hx_lenE.1]
  rfl
theorem hx_s266 {d i : Nat} {w : hl_W} (hi : i < 82) : hl_call (d + 12) 266 [.ref 1000001, .int (nI i)] w = some (some (.int (nI (hx_WC.getD i 0))), w) := by
  refine hx_ext (by decide) ?_
  obtain ⟨a, b⟩ := hx_chE i hi
  have e1 : hl_txt 1000001 = some hl_words := rfl
  unfold hl_ext
  simp only [e1, if_true, a, hl_cq (show i < 10000 by omega), b]
theorem hx_s267 {d c : Nat} {w : hl_W} (hc : c < 256) : hl_call (d + 12) 267 [.ref 1000002, .int (nI c)] w = some (some (.int (if hx_sg c = 22 then -1 else nI (hx_sg c - 30))), w) := by
  refine hx_ext (by decide) ?_
  have e1 : hl_txt 1000002 = some hl_signs := rfl
  have r1 : (0 : Int32) ≤ nI c := show nI 0 ≤ nI c from nI_le (by omega) (by omega)
  have r2 : nI c ≤ 65535 := show nI c ≤ nI 65535 from nI_le (by omega) (by omega)
  have n6 : ((267 : Nat) = 266) = False := by decide
  unfold hl_ext
  simp only [e1, n6, if_true, if_false, r1, r2, and_self, hl_cq (show c < 10000 by omega)]
  exact congrArg (fun v => some (Value.int v)) (hx_ixE c hc)
section HXCLEX
variable {d N L : Nat} {I I' : Nat → Nat → Int32} {J : Nat → Nat → Int64} {t : Nat → Nat}
def hx_TP (t : Nat → Nat) (L : Nat) (I : Nat → Nat → Int32) : Prop := L ≤ 300 ∧ I 38 2 = nI L ∧ ∀ k, k < 300 → I 37 k = nI (t k) ∧ t k ≤ 255
/-- the reader's own numbers alone change -/
def hx_f38 (I I' : Nat → Nat → Int32) : Prop := (∀ b, b ≠ 38 → I' b = I b) ∧ ∀ j, (j < 3 ∨ 6 < j) → I' 38 j = I 38 j
theorem hx_f38_rf (I : Nat → Nat → Int32) : hx_f38 I I := ⟨fun _ _ => rfl, fun _ _ => rfl⟩
theorem hx_f38_tr {I1 I2 I3 : Nat → Nat → Int32} (h : hx_f38 I1 I2) (g : hx_f38 I2 I3) : hx_f38 I1 I3 := ⟨fun b hb => (g.1 b hb).trans (h.1 b hb), fun j hj => (g.2 j hj).trans (h.2 j hj)⟩
theorem hx_f38_up {k : Nat} {v : Int32} (hk : 3 ≤ k ∧ k ≤ 6) : hx_f38 I (hl_up I 38 k v) := ⟨fun b hb => hl_up_ne _ _ _ hb, fun j hj => by rw [hl_up_a, if_pos rfl, if_neg (by omega)]⟩
theorem hx_f38.tp (h : hx_f38 I I') (g : hx_TP t L I) : hx_TP t L I' := ⟨g.1, by rw [h.2 2 (by omega)]; exact g.2.1, fun k hk => by rw [h.1 37 (by omega)]; exact g.2.2 k hk⟩
theorem hx_up_j {k j : Nat} {v : Int32} (h : j ≠ k) : hl_up I 38 k v 38 j = I 38 j := by rw [hl_up_a, if_pos rfl, if_neg h]
theorem hx_s67 {c : Nat} {w : hl_W} (hc : c ≤ 255) : hl_call (d + 1) 67 [.int (nI c)] w = some (some (.int (hl_tv (hx_lt c))), w) := by
  rw [hl_e67]
  unfold hx_lt
  have l : ∀ a : Nat, a < 1000 → (nI c < nI a) = (c < a) := fun a ha => propext ⟨fun h => by rw [Int32.lt_iff_toInt_lt, hl_tI (by omega), hl_tI (by omega)] at h; omega, fun h => nI_lt h (by omega)⟩
  have g : ∀ a : Nat, a < 1000 → (nI c ≤ nI a) = (c ≤ a) := fun a ha => propext ⟨fun h => by rw [Int32.le_iff_toInt_le, hl_tI (by omega), hl_tI (by omega)] at h; omega, fun h => nI_le h (by omega)⟩
  have l' : ∀ a : Nat, a < 1000 → (nI a < nI c) = (a < c) := fun a ha => propext ⟨fun h => by rw [Int32.lt_iff_toInt_lt, hl_tI (by omega), hl_tI (by omega)] at h; omega, fun h => nI_lt h (by omega)⟩
  have q1 : (nI c < 97) = (c < 97) := l 97 (by omega)
  have q2 : (nI c ≤ 122) = (c ≤ 122) := g 122 (by omega)
  have q3 : (nI c < 65) = (c < 65) := l 65 (by omega)
  have q4 : ((90 : Int32) < nI c) = (90 < c) := l' 90 (by omega)
  by_cases a1 : c < 97
  · rw [decide_eq_false (show ¬ 97 ≤ c by omega), Bool.false_and, Bool.false_or]
    by_cases a2 : c < 65
    · rw [decide_eq_false (show ¬ 65 ≤ c by omega), Bool.false_and]
      simp only [hl_r67_0, hl_r67_1, hl_r67_3, hl_r67_6, hl_r67_7, hl_r67_9, hl_r67_12, hl_r67_13, hl_r67_15, hl_r67_18, hl_r67_19, hl_r67_21, hl_r67_24, hl_r67_25, hl_r67_28, hl_r67_29, q1, a1, q3, a2, hl_tv_f, true_or, hl_kill_i, hl_kill_r, hl_kill_n, hl_kill_l, hl_tl_s, hl_tl_n, hl_cal_some, hl_gI, hl_gJ, hl_gsI, hl_gsJ, hl_tv01, if_true, if_false, hl_up_a, hl_row_a, not_true, not_false_eq_true]
    · rw [decide_eq_true (show 65 ≤ c by omega), Bool.true_and]
      by_cases a3 : 90 < c
      · rw [decide_eq_false (show ¬ c ≤ 90 by omega)]
        simp only [hl_r67_0, hl_r67_1, hl_r67_3, hl_r67_6, hl_r67_7, hl_r67_9, hl_r67_12, hl_r67_13, hl_r67_15, hl_r67_18, hl_r67_19, hl_r67_21, hl_r67_24, hl_r67_25, hl_r67_28, hl_r67_29, q1, a1, q3, a2, q4, a3, hl_tv_f, true_or, hl_kill_i, hl_kill_r, hl_kill_n, hl_kill_l, hl_tl_s, hl_tl_n, hl_cal_some, hl_gI, hl_gJ, hl_gsI, hl_gsJ, hl_tv01, if_true, if_false, hl_up_a, hl_row_a, not_true, not_false_eq_true]
      · rw [decide_eq_true (show c ≤ 90 by omega)]
        simp only [hl_r67_0, hl_r67_1, hl_r67_3, hl_r67_6, hl_r67_7, hl_r67_9, hl_r67_12, hl_r67_13, hl_r67_15, hl_r67_18, hl_r67_19, hl_r67_21, hl_r67_24, hl_r67_25, hl_r67_28, hl_r67_29, q1, a1, q3, a2, q4, a3, hl_tv_t, true_or, or_true, hl_kill_i, hl_kill_r, hl_kill_n, hl_kill_l, hl_tl_s, hl_tl_n, hl_cal_some, hl_gI, hl_gJ, hl_gsI, hl_gsJ, hl_tv01, if_true, if_false, hl_up_a, hl_row_a, not_true, not_false_eq_true]
  · rw [decide_eq_true (show 97 ≤ c by omega), Bool.true_and]
    by_cases a2 : c ≤ 122
    · rw [decide_eq_true a2, Bool.true_or]
      simp only [hl_r67_0, hl_r67_1, hl_r67_3, hl_r67_6, hl_r67_7, hl_r67_9, hl_r67_12, hl_r67_13, hl_r67_15, hl_r67_18, hl_r67_19, hl_r67_21, hl_r67_24, hl_r67_25, hl_r67_28, hl_r67_29, q1, a1, q2, a2, hl_tv_t, true_or, or_true, hl_kill_i, hl_kill_r, hl_kill_n, hl_kill_l, hl_tl_s, hl_tl_n, hl_cal_some, hl_gI, hl_gJ, hl_gsI, hl_gsJ, hl_tv01, if_true, if_false, hl_up_a, hl_row_a, not_true, not_false_eq_true]
    · rw [decide_eq_false a2, Bool.false_or, decide_eq_true (show 65 ≤ c by omega), Bool.true_and, decide_eq_false (show ¬ c ≤ 90 by omega)]
      have a3 : ¬ c < 65 := by omega
      have a4 : 90 < c := by omega
      simp only [hl_r67_0, hl_r67_1, hl_r67_3, hl_r67_6, hl_r67_7, hl_r67_9, hl_r67_12, hl_r67_13, hl_r67_15, hl_r67_18, hl_r67_19, hl_r67_21, hl_r67_24, hl_r67_25, hl_r67_28, hl_r67_29, q1, a1, q2, a2, q3, a3, q4, a4, hl_tv_f, true_or, hl_kill_i, hl_kill_r, hl_kill_n, hl_kill_l, hl_tl_s, hl_tl_n, hl_cal_some, hl_gI, hl_gJ, hl_gsI, hl_gsJ, hl_tv01, if_true, if_false, hl_up_a, hl_row_a, not_true, not_false_eq_true]
theorem hx_s68 {c : Nat} {w : hl_W} (hc : c ≤ 255) : hl_call (d + 1) 68 [.int (nI c)] w = some (some (.int (hl_tv (hx_dg c))), w) := by
  rw [hl_e68]
  unfold hx_dg
  have q1 : (nI c < 48) = (c < 48) := propext ⟨fun h => by rw [Int32.lt_iff_toInt_lt, show (48 : Int32).toInt = 48 from rfl, hl_tI (by omega)] at h; omega, fun h => (nI_lt h (by omega) : nI c < nI 48)⟩
  have q2 : ((57 : Int32) < nI c) = (57 < c) := propext ⟨fun h => by rw [Int32.lt_iff_toInt_lt, show (57 : Int32).toInt = 57 from rfl, hl_tI (by omega)] at h; omega, fun h => (nI_lt h (by omega) : nI 57 < nI c)⟩
  by_cases a1 : c < 48
  · rw [decide_eq_false (show ¬ 48 ≤ c by omega), Bool.false_and]
    simp only [hl_r68_0, hl_r68_1, hl_r68_3, hl_r68_6, hl_r68_7, hl_r68_9, hl_r68_12, hl_r68_13, hl_r68_16, hl_r68_17, q1, a1, hl_tv_f, true_or, hl_kill_i, hl_kill_r, hl_kill_n, hl_kill_l, hl_tl_s, hl_tl_n, hl_cal_some, hl_gI, hl_gJ, hl_gsI, hl_gsJ, hl_tv01, if_true, if_false, hl_up_a, hl_row_a, not_true, not_false_eq_true]
  · rw [decide_eq_true (show 48 ≤ c by omega), Bool.true_and]
    by_cases a2 : 57 < c
    · rw [decide_eq_false (show ¬ c ≤ 57 by omega)]
      simp only [hl_r68_0, hl_r68_1, hl_r68_3, hl_r68_6, hl_r68_7, hl_r68_9, hl_r68_12, hl_r68_13, hl_r68_16, hl_r68_17, q1, a1, q2, a2, hl_tv_f, true_or, hl_kill_i, hl_kill_r, hl_kill_n, hl_kill_l, hl_tl_s, hl_tl_n, hl_cal_some, hl_gI, hl_gJ, hl_gsI, hl_gsJ, hl_tv01, if_true, if_false, hl_up_a, hl_row_a, not_true, not_false_eq_true]
    · rw [decide_eq_true (show c ≤ 57 by omega)]
      simp only [hl_r68_0, hl_r68_1, hl_r68_3, hl_r68_6, hl_r68_7, hl_r68_9, hl_r68_12, hl_r68_13, hl_r68_16, hl_r68_17, q1, a1, q2, a2, hl_tv_t, true_or, or_true, hl_kill_i, hl_kill_r, hl_kill_n, hl_kill_l, hl_tl_s, hl_tl_n, hl_cal_some, hl_gI, hl_gJ, hl_gsI, hl_gsJ, hl_tv01, if_true, if_false, hl_up_a, hl_row_a, not_true, not_false_eq_true]
theorem hx_l70 (f : Nat) : ∀ (I : Nat → Nat → Int32) (i v : Nat), L - i = f → i ≤ L → hx_TP t L I → I 38 4 = nI i → I 38 6 = nI v → v ≤ 10000 → ∃ I', hl_Run 70 (hl_call (d + 1)) 11 [.ref 38] [] (hl_g N I J) = some (none, hl_g N I' J) ∧ I' 38 4 = nI (hx_E hx_dg t L i) ∧ I' 38 6 = nI (hx_vc t (hx_E hx_dg t L i - i) i v) ∧ hx_f38 I I' ∧ I' 38 3 = I 38 3 ∧ I' 38 5 = I 38 5 := by
  induction f with
  | zero =>
    intro I i v hf hi T h4 h6 hv
    have eE := hx_E_no (g := hx_dg) (t := t) (L := L) (p := i) (by omega)
    have c1 : nI L ≤ nI i := nI_le (by omega) (by have := T.1; omega)
    refine ⟨I, ?_, by rw [eE]; exact h4, by rw [eE, Nat.sub_self]; exact h6, hx_f38_rf I, rfl, rfl⟩
    simp only [hl_r70_0, hl_r70_1, hl_r70_3, hl_r70_6, hl_r70_7, hl_r70_8, hl_r70_11, hl_r70_12, hl_r70_15, hl_r70_16, hl_r70_19, hl_r70_22, hl_r70_23, hl_r70_26, hl_r70_27, hl_r70_30, hl_r70_31, hl_r70_34, hl_r70_37, hl_r70_38, hl_r70_39, hl_r70_42, hl_r70_44, hl_r70_45, hl_r70_46, hl_r70_49, hl_r70_50, hl_r70_53, hl_r70_54, hl_r70_55, hl_r70_57, hl_r70_58, hl_r70_61, hl_r70_64, hl_r70_67, hl_r70_68, hl_r70_69, hl_r70_72, hl_r70_73, hl_r70_74, hl_r70_77, hl_r70_80, hl_o_38, hl_p_38_0, hl_p_38_1, h4, T.2.1, c1, hl_kill_i, hl_kill_r, hl_kill_n, hl_kill_l, hl_tl_s, hl_tl_n, hl_cal_some, hl_gI, hl_gJ, hl_gsI, hl_gsJ, hl_tv01, if_true, if_false, hl_up_a, hl_row_a, not_true, not_false_eq_true]
  | succ f ih =>
    intro I i v hf hi T h4 h6 hv
    have L3 := T.1
    have c1 : ¬ nI L ≤ nI i := nI_ge (by omega) (by omega)
    have bi : hl_inb (nI i) 300 = true := hl_inb_nI (by omega) (by omega)
    obtain ⟨t1, t2⟩ := T.2.2 i (by omega)
    have s68 := hx_s68 (d := d) (c := t i) (w := hl_g N I J) t2
    by_cases z : hx_dg (t i) = true
    · have z' : 48 ≤ t i ∧ t i ≤ 57 := by
        unfold hx_dg at z
        rw [Bool.and_eq_true, decide_eq_true_eq, decide_eq_true_eq] at z
        exact z
      rw [z] at s68
      have en : nI i + 1 = nI (i + 1) := (nI_succ i).symm
      have k10 : (10 : Int32) = nI 10 := rfl
      have k48 : (48 : Int32) = nI 48 := rfl
      have k4 : (10000 : Int32) = nI 10000 := rfl
      have ev : nI v * 10 + nI (t i) - 48 = nI (v * 10 + (t i - 48)) := by
        rw [k10, nI_mul, nI_add, k48, show v * 10 + t i = (v * 10 + (t i - 48)) + 48 by omega, ← nI_add, Int32.add_sub_cancel]
      have em : (if (10000 : Int32) < nI (v * 10 + (t i - 48)) then (10000 : Int32) else nI (v * 10 + (t i - 48))) = nI (min (v * 10 + (t i - 48)) 10000) := by
        rw [Nat.min_def]
        by_cases y : v * 10 + (t i - 48) ≤ 10000
        · have q : ¬ (10000 : Int32) < nI (v * 10 + (t i - 48)) := Int32.not_lt.mpr (nI_le y (by omega) : nI (v * 10 + (t i - 48)) ≤ nI 10000)
          rw [if_pos y, if_neg q]
        · have q : (10000 : Int32) < nI (v * 10 + (t i - 48)) := (nI_lt (by omega) (by omega) : nI 10000 < nI (v * 10 + (t i - 48)))
          rw [if_neg y, if_pos q]
          rfl
      have eE := hx_E_go (g := hx_dg) (t := t) (show i < L by omega) z
      obtain ⟨a, -, -, -⟩ := hx_E_in (g := hx_dg) (t := t) (L := L) _ (i + 1) rfl
      obtain ⟨I1, e1, g1, g2, g3, g4, g5⟩ := ih (hl_up (hl_up I 38 6 (nI (min (v * 10 + (t i - 48)) 10000))) 38 4 (nI (i + 1))) (i + 1) (min (v * 10 + (t i - 48)) 10000) (by omega) (by omega) ((hx_f38_tr (hx_f38_up (by omega)) (hx_f38_up (by omega))).tp T) hl_up_at (by rw [hx_up_j (by omega)]; exact hl_up_at) (Nat.min_le_right _ _)
      refine ⟨I1, ?_, by rw [eE]; exact g1, ?_, hx_f38_tr (hx_f38_tr (hx_f38_up (by omega)) (hx_f38_up (by omega))) g3, ?_, ?_⟩
      · have u4 : hl_up I 38 6 (nI (min (v * 10 + (t i - 48)) 10000)) 38 4 = nI i := by rw [hx_up_j (by omega)]; exact h4
        rw [← e1, hl_r70_11]
        simp only [hl_r70_0, hl_r70_1, hl_r70_3, hl_r70_6, hl_r70_7, hl_r70_8, hl_r70_12, hl_r70_15, hl_r70_16, hl_r70_19, hl_r70_22, hl_r70_23, hl_r70_26, hl_r70_27, hl_r70_30, hl_r70_31, hl_r70_34, hl_r70_37, hl_r70_38, hl_r70_39, hl_r70_42, hl_r70_44, hl_r70_45, hl_r70_46, hl_r70_49, hl_r70_50, hl_r70_53, hl_r70_54, hl_r70_55, hl_r70_57, hl_r70_58, hl_r70_61, hl_r70_64, hl_r70_67, hl_r70_68, hl_r70_69, hl_r70_72, hl_r70_73, hl_r70_74, hl_r70_77, hl_r70_80, hl_o_38, hl_p_38_0, hl_p_38_1, hl_a_37, hl_z_37, h4, h6, T.2.1, c1, bi, hl_cq (show i < 10000 by omega), t1, s68, hl_tv_t, hl_10, ev, em, u4, en, hl_kill_i, hl_kill_r, hl_kill_n, hl_kill_l, hl_tl_s, hl_tl_n, hl_cal_some, hl_gI, hl_gJ, hl_gsI, hl_gsJ, hl_tv01, if_true, if_false, hl_up_a, hl_row_a, not_true, not_false_eq_true]
        try rw [hl_r70_11]
      · rw [eE, show hx_E hx_dg t L (i + 1) - i = (hx_E hx_dg t L (i + 1) - (i + 1)) + 1 by omega]
        exact g2
      · rw [g4, hx_up_j (by omega), hx_up_j (by omega)]
      · rw [g5, hx_up_j (by omega), hx_up_j (by omega)]
    · have eE := hx_E_no (g := hx_dg) (t := t) (L := L) (p := i) (fun q => z q.2)
      rw [Bool.not_eq_true] at z
      rw [z] at s68
      refine ⟨I, ?_, by rw [eE]; exact h4, by rw [eE, Nat.sub_self]; exact h6, hx_f38_rf I, rfl, rfl⟩
      simp only [hl_r70_0, hl_r70_1, hl_r70_3, hl_r70_6, hl_r70_7, hl_r70_8, hl_r70_11, hl_r70_12, hl_r70_15, hl_r70_16, hl_r70_19, hl_r70_22, hl_r70_23, hl_r70_26, hl_r70_27, hl_r70_30, hl_r70_31, hl_r70_34, hl_r70_37, hl_r70_38, hl_r70_39, hl_r70_42, hl_r70_44, hl_r70_45, hl_r70_46, hl_r70_49, hl_r70_50, hl_r70_53, hl_r70_54, hl_r70_55, hl_r70_57, hl_r70_58, hl_r70_61, hl_r70_64, hl_r70_67, hl_r70_68, hl_r70_69, hl_r70_72, hl_r70_73, hl_r70_74, hl_r70_77, hl_r70_80, hl_o_38, hl_p_38_0, hl_p_38_1, hl_a_37, hl_z_37, h4, T.2.1, c1, bi, hl_cq (show i < 10000 by omega), t1, s68, hl_tv_f, hl_kill_i, hl_kill_r, hl_kill_n, hl_kill_l, hl_tl_s, hl_tl_n, hl_cal_some, hl_gI, hl_gJ, hl_gsI, hl_gsJ, hl_tv01, if_true, if_false, hl_up_a, hl_row_a, not_true, not_false_eq_true]
theorem hx_s70 {i : Nat} (T : hx_TP t L I) (h4 : I 38 4 = nI i) (hi : i ≤ L) : ∃ I', hl_call (d + 2) 70 [.ref 38] (hl_g N I J) = some (none, hl_g N I' J) ∧ I' 38 4 = nI (hx_E hx_dg t L i) ∧ I' 38 6 = nI (hx_vc t (hx_E hx_dg t L i - i) i 0) ∧ hx_f38 I I' ∧ I' 38 3 = I 38 3 ∧ I' 38 5 = nI 20 := by
  have f0 : hx_f38 I (hl_up (hl_up I 38 5 20) 38 6 0) := hx_f38_tr (hx_f38_up (by omega)) (hx_f38_up (by omega))
  obtain ⟨I1, e1, g1, g2, g3, g4, g5⟩ := hx_l70 (d := d) (N := N) (J := J) _ (hl_up (hl_up I 38 5 20) 38 6 0) i 0 rfl hi (f0.tp T) (by rw [hx_up_j (by omega), hx_up_j (by omega)]; exact h4) hl_up_at (Nat.zero_le _)
  refine ⟨I1, ?_, g1, g2, hx_f38_tr f0 g3, by rw [g4, hx_up_j (by omega), hx_up_j (by omega)], by rw [g5, hx_up_j (by omega)]; exact hl_up_at⟩
  rw [← e1, hl_e70]
  simp only [hl_r70_0, hl_r70_1, hl_r70_3, hl_r70_6, hl_r70_7, hl_r70_8, hl_o_38, hl_p_38_0, hl_p_38_1, hl_kill_i, hl_kill_r, hl_kill_n, hl_kill_l, hl_tl_s, hl_tl_n, hl_cal_some, hl_gI, hl_gJ, hl_gsI, hl_gsJ, hl_tv01, if_true, if_false, hl_up_a, hl_row_a, not_true, not_false_eq_true]
theorem hx_l69a (f : Nat) : ∀ (I : Nat → Nat → Int32) (i : Nat), L - i = f → i ≤ L → hx_TP t L I → I 38 4 = nI i → ∃ I', hl_Run 69 (hl_call (d + 12)) 0 [.ref 38, .null, .null, .null, .null] [] (hl_g N I J) = hl_Run 69 (hl_call (d + 12)) 39 [.ref 38, .null, .null, .null, .null] [] (hl_g N I' J) ∧ I' 38 4 = nI (hx_E hx_lt t L i) ∧ hx_f38 I I' ∧ I' 38 3 = I 38 3 := by
  induction f with
  | zero =>
    intro I i hf hi T h4
    have eE := hx_E_no (g := hx_lt) (t := t) (L := L) (p := i) (by omega)
    have c1 : nI L ≤ nI i := nI_le (by omega) (by have := T.1; omega)
    refine ⟨I, ?_, by rw [eE]; exact h4, hx_f38_rf I, rfl⟩
    simp only [hl_r69_0, hl_r69_1, hl_r69_4, hl_r69_5, hl_r69_8, hl_o_38, hl_p_38_0, hl_p_38_1, h4, T.2.1, c1, hl_kill_i, hl_kill_r, hl_kill_n, hl_kill_l, hl_tl_s, hl_tl_n, hl_cal_some, hl_gI, hl_gJ, hl_gsI, hl_gsJ, hl_tv01, if_true, if_false, hl_up_a, hl_row_a, not_true, not_false_eq_true]
  | succ f ih =>
    intro I i hf hi T h4
    have L3 := T.1
    have c1 : ¬ nI L ≤ nI i := nI_ge (by omega) (by omega)
    have bi : hl_inb (nI i) 300 = true := hl_inb_nI (by omega) (by omega)
    obtain ⟨t1, t2⟩ := T.2.2 i (by omega)
    have s67 := hx_s67 (d := d + 11) (c := t i) (w := hl_g N I J) t2
    by_cases z : hx_lt (t i) = true
    · rw [z] at s67
      have en : nI i + 1 = nI (i + 1) := (nI_succ i).symm
      have eE := hx_E_go (g := hx_lt) (t := t) (show i < L by omega) z
      obtain ⟨I1, e1, g1, g2, g3⟩ := ih (hl_up I 38 4 (nI (i + 1))) (i + 1) (by omega) (by omega) ((hx_f38_up (by omega)).tp T) hl_up_at
      refine ⟨I1, ?_, by rw [eE]; exact g1, hx_f38_tr (hx_f38_up (by omega)) g2, by rw [g3, hx_up_j (by omega)]⟩
      rw [← e1, hl_r69_0]
      simp only [hl_r69_1, hl_r69_4, hl_r69_5, hl_r69_8, hl_r69_11, hl_r69_12, hl_r69_15, hl_r69_16, hl_r69_19, hl_r69_20, hl_r69_23, hl_r69_26, hl_r69_27, hl_r69_28, hl_r69_31, hl_r69_32, hl_r69_33, hl_r69_36, hl_o_38, hl_p_38_0, hl_p_38_1, hl_a_37, hl_z_37, h4, T.2.1, c1, bi, hl_cq (show i < 10000 by omega), t1, s67, hl_tv_t, hl_10, en, hl_kill_i, hl_kill_r, hl_kill_n, hl_kill_l, hl_tl_s, hl_tl_n, hl_cal_some, hl_gI, hl_gJ, hl_gsI, hl_gsJ, hl_tv01, if_true, if_false, hl_up_a, hl_row_a, not_true, not_false_eq_true]
      try rw [hl_r69_0]
    · have eE := hx_E_no (g := hx_lt) (t := t) (L := L) (p := i) (fun q => z q.2)
      rw [Bool.not_eq_true] at z
      rw [z] at s67
      refine ⟨I, ?_, by rw [eE]; exact h4, hx_f38_rf I, rfl⟩
      simp only [hl_r69_0, hl_r69_1, hl_r69_4, hl_r69_5, hl_r69_8, hl_r69_11, hl_r69_12, hl_r69_15, hl_r69_16, hl_r69_19, hl_r69_20, hl_r69_23, hl_r69_26, hl_r69_27, hl_r69_28, hl_r69_31, hl_r69_32, hl_r69_33, hl_r69_36, hl_o_38, hl_p_38_0, hl_p_38_1, hl_a_37, hl_z_37, h4, T.2.1, c1, bi, hl_cq (show i < 10000 by omega), t1, s67, hl_tv_f, hl_kill_i, hl_kill_r, hl_kill_n, hl_kill_l, hl_tl_s, hl_tl_n, hl_cal_some, hl_gI, hl_gJ, hl_gsI, hl_gsJ, hl_tv01, if_true, if_false, hl_up_a, hl_row_a, not_true, not_false_eq_true]
def hx_oa (a : Option Nat) : Int32 := match a with
  | some q => nI q
  | none => -1
theorem hx_l69b {s e : Nat} (hs : s ≤ e) (he : e ≤ L) (f : Nat) : ∀ (I : Nat → Nat → Int32) (i n : Nat) (a : Option Nat) (l4 : Value), i + f = 82 → n + (hx_WC.drop i).count 32 ≤ 17 → (∀ q, a = some q → q ≤ e) → hx_TP t L I → I 38 3 = nI s → I 38 4 = nI e → I 38 5 = nI 22 → ∃ I', hl_Run 69 (hl_call (d + 12)) 54 [.ref 38, .int (nI n), .int (hx_oa a), .int (nI i), l4] [] (hl_g N I J) = some (none, hl_g N I' J) ∧ I' 38 5 = nI (hx_wm t s e (hx_WC.drop i) a n) ∧ hx_f38 I I' ∧ I' 38 3 = nI s ∧ I' 38 4 = nI e := by
  have s265 := fun I => hx_s265 (d := d) (w := hl_g N I J)
  induction f with
  | zero =>
    intro I i n a l4 hi hn ha T h3 h4 h5
    obtain rfl : i = 82 := by omega
    have ed : hx_WC.drop 82 = [] := by decide
    refine ⟨I, ?_, by rw [ed]; exact h5, hx_f38_rf I, h3, h4⟩
    simp only [hl_r69_54, hl_r69_55, hl_r69_57, hl_r69_60, hl_r69_152, s265, Int32.le_refl, hl_kill_i, hl_kill_r, hl_kill_n, hl_kill_l, hl_tl_s, hl_tl_n, hl_cal_some, hl_gI, hl_gJ, hl_gsI, hl_gsJ, hl_tv01, if_true, if_false, hl_up_a, hl_row_a, not_true, not_false_eq_true]
  | succ f ih =>
    intro I i n a l4 hi hn ha T h3 h4 h5
    have L3 := T.1
    have c1 : ¬ nI 82 ≤ nI i := nI_ge (by omega) (by omega)
    have en : nI i + 1 = nI (i + 1) := (nI_succ i).symm
    have s266 := hx_s266 (d := d) (i := i) (w := hl_g N I J) (by omega)
    have lw := hx_lenE.2
    have ed : hx_WC.drop i = hx_WC.getD i 0 :: hx_WC.drop (i + 1) := by
      rw [List.getD_eq_getElem?_getD, List.getElem?_eq_getElem (by omega), Option.getD_some]
      exact List.drop_eq_getElem_cons (by omega)
    have c255 : hx_WC.getD i 0 < 256 := by
      have q : ∀ i, i < 82 → hx_WC.getD i 0 < 256 := by decide
      exact q i (by omega)
    have ih' := fun I n a l4 => ih I (i + 1) n a l4 (by omega)
    rw [ed] at hn ⊢
    generalize hx_WC.getD i 0 = c at s266 c255 hn ⊢
    generalize hx_WC.drop (i + 1) = cs at ih' hn ⊢
    rw [List.count_cons] at hn
    have k5 : I 38 5 = 22 := h5
    by_cases z : c = 32
    · subst z
      rw [if_pos (by decide)] at hn
      have zz : nI 32 = 32 := rfl
      have eqa : (hx_oa a = nI e) = (a = some e) := by
        apply propext
        cases a with
        | none =>
          refine ⟨fun q => ?_, fun q => by cases q⟩
          exact absurd q.symm (hx_ni1 (by omega))
        | some q =>
          have hq := ha q rfl
          refine ⟨fun x => by rw [(nI_eq (by omega) (by omega)).mp (show nI q = nI e from x)], fun x => by rw [Option.some.inj x]; rfl⟩
      by_cases y : a = some e
      · have ew : hx_wm t s e (32 :: cs) a n = n := by
          show (if (32 : Nat) = 32 then (if a = some e then n else _) else _) = n
          rw [if_pos rfl, if_pos y]
        rw [ew]
        have y' : hx_oa a = nI e := by rw [eqa]; exact y
        have kn : ¬ nI n = 22 := fun x => by
          have := (nI_eq (a := n) (b := 22) (by omega) (by omega)).mp x
          omega
        have u5 : hl_up I 38 5 (nI n) 38 5 = nI n := hl_up_at
        refine ⟨hl_up I 38 5 (nI n), ?_, hl_up_at, hx_f38_up (by omega), by rw [hx_up_j (by omega)]; exact h3, by rw [hx_up_j (by omega)]; exact h4⟩
        have st : hl_Run 69 (hl_call (d + 12)) 54 [.ref 38, .int (nI n), .int (hx_oa a), .int (nI i), l4] [] (hl_g N I J) = hl_Run 69 (hl_call (d + 12)) 54 [.ref 38, .int (nI n), .int (hx_oa a), .int (nI (i + 1)), .int (nI 32)] [] (hl_g N (hl_up I 38 5 (nI n)) J) := by
          rw [hl_r69_54]
          simp only [hl_r69_55, hl_r69_57, hl_r69_60, hl_r69_63, hl_r69_64, hl_r69_67, hl_r69_69, hl_r69_72, hl_r69_74, hl_r69_75, hl_r69_78, hl_r69_80, hl_r69_82, hl_r69_84, hl_r69_87, hl_r69_88, hl_r69_89, hl_r69_92, hl_r69_93, hl_r69_94, hl_r69_97, hl_r69_100, hl_r69_101, hl_r69_104, hl_r69_105, hl_r69_106, hl_r69_108, hl_r69_111, hl_r69_112, hl_r69_113, hl_r69_114, hl_r69_117, hl_r69_118, hl_r69_119, hl_r69_122, hl_r69_123, hl_r69_124, hl_r69_127, hl_r69_130, hl_r69_131, hl_r69_132, hl_r69_135, hl_r69_138, hl_r69_141, hl_r69_142, hl_r69_145, hl_r69_146, hl_r69_149, hl_o_38, hl_p_38_0, hl_p_38_1, s265, c1, k5, s266, zz, h4, y', en, hl_kill_i, hl_kill_r, hl_kill_n, hl_kill_l, hl_tl_s, hl_tl_n, hl_cal_some, hl_gI, hl_gJ, hl_gsI, hl_gsJ, hl_tv01, if_true, if_false, hl_up_a, hl_row_a, not_true, not_false_eq_true]
          try rw [hl_r69_54]
        rw [st]
        by_cases x : nI 82 ≤ nI (i + 1)
        · simp only [hl_r69_54, hl_r69_55, hl_r69_57, hl_r69_60, hl_r69_152, s265, x, hl_kill_i, hl_kill_r, hl_kill_n, hl_kill_l, hl_tl_s, hl_tl_n, hl_cal_some, hl_gI, hl_gJ, hl_gsI, hl_gsJ, hl_tv01, if_true, if_false, hl_up_a, hl_row_a, not_true, not_false_eq_true]
        · simp only [hl_r69_54, hl_r69_55, hl_r69_57, hl_r69_60, hl_r69_63, hl_r69_64, hl_r69_67, hl_r69_69, hl_r69_152, hl_o_38, hl_p_38_0, hl_p_38_1, s265, x, u5, kn, hl_kill_i, hl_kill_r, hl_kill_n, hl_kill_l, hl_tl_s, hl_tl_n, hl_cal_some, hl_gI, hl_gJ, hl_gsI, hl_gsJ, hl_tv01, if_true, if_false, hl_up_a, hl_row_a, not_true, not_false_eq_true]
      · have ew : hx_wm t s e (32 :: cs) a n = hx_wm t s e cs (some s) (n + 1) := by
          show (if (32 : Nat) = 32 then (if a = some e then n else hx_wm t s e cs (some s) (n + 1)) else _) = _
          rw [if_pos rfl, if_neg y]
        rw [ew]
        have y' : ¬ hx_oa a = nI e := by rw [eqa]; exact y
        have enn : nI n + 1 = nI (n + 1) := (nI_succ n).symm
        obtain ⟨I1, e1, g1, g2⟩ := ih' I (n + 1) (some s) (.int (nI 32)) (by omega) (fun q hq => by rw [← Option.some.inj hq]; exact hs) T h3 h4 h5
        refine ⟨I1, ?_, g1, g2⟩
        have eo : hx_oa (some s) = nI s := rfl
        rw [eo] at e1
        rw [← e1, hl_r69_54]
        simp only [hl_r69_55, hl_r69_57, hl_r69_60, hl_r69_63, hl_r69_64, hl_r69_67, hl_r69_69, hl_r69_72, hl_r69_74, hl_r69_75, hl_r69_78, hl_r69_80, hl_r69_82, hl_r69_84, hl_r69_87, hl_r69_88, hl_r69_89, hl_r69_92, hl_r69_93, hl_r69_94, hl_r69_97, hl_r69_100, hl_r69_101, hl_r69_104, hl_r69_105, hl_r69_106, hl_r69_108, hl_r69_111, hl_r69_112, hl_r69_113, hl_r69_114, hl_r69_117, hl_r69_118, hl_r69_119, hl_r69_122, hl_r69_123, hl_r69_124, hl_r69_127, hl_r69_130, hl_r69_131, hl_r69_132, hl_r69_135, hl_r69_138, hl_r69_141, hl_r69_142, hl_r69_145, hl_r69_146, hl_r69_149, hl_o_38, hl_p_38_0, hl_p_38_1, s265, c1, k5, s266, zz, h3, h4, y', enn, en, hl_kill_i, hl_kill_r, hl_kill_n, hl_kill_l, hl_tl_s, hl_tl_n, hl_cal_some, hl_gI, hl_gJ, hl_gsI, hl_gsJ, hl_tv01, if_true, if_false, hl_up_a, hl_row_a, not_true, not_false_eq_true]
        try rw [hl_r69_54]
    · rw [if_neg (by simpa using z)] at hn
      have zz : ¬ nI c = 32 := fun x => z ((nI_eq (a := c) (b := 32) (by omega) (by omega)).mp x)
      have fin : ∀ a', hx_wm t s e (c :: cs) a n = hx_wm t s e cs a' n → (∀ q, a' = some q → q ≤ e) → hl_Run 69 (hl_call (d + 12)) 54 [.ref 38, .int (nI n), .int (hx_oa a), .int (nI i), l4] [] (hl_g N I J) = hl_Run 69 (hl_call (d + 12)) 54 [.ref 38, .int (nI n), .int (hx_oa a'), .int (nI (i + 1)), .int (nI c)] [] (hl_g N I J) → ∃ I', hl_Run 69 (hl_call (d + 12)) 54 [.ref 38, .int (nI n), .int (hx_oa a), .int (nI i), l4] [] (hl_g N I J) = some (none, hl_g N I' J) ∧ I' 38 5 = nI (hx_wm t s e (c :: cs) a n) ∧ hx_f38 I I' ∧ I' 38 3 = nI s ∧ I' 38 4 = nI e := fun a' h1 h2 h3' => by
        obtain ⟨I1, e1, g1, g2⟩ := ih' I n a' (.int (nI c)) (by omega) h2 T h3 h4 h5
        exact ⟨I1, h3'.trans e1, by rw [h1]; exact g1, g2⟩
      cases a with
      | none =>
        refine fin none (by show (if c = 32 then _ else hx_wm t s e cs none n) = _; rw [if_neg z]) (fun q hq => by cases hq) ?_
        have eo : hx_oa none = -1 := rfl
        rw [eo, hl_r69_54]
        simp only [hl_r69_55, hl_r69_57, hl_r69_60, hl_r69_63, hl_r69_64, hl_r69_67, hl_r69_69, hl_r69_72, hl_r69_74, hl_r69_75, hl_r69_78, hl_r69_80, hl_r69_82, hl_r69_84, hl_r69_87, hl_r69_88, hl_r69_89, hl_r69_92, hl_r69_93, hl_r69_94, hl_r69_97, hl_r69_100, hl_r69_101, hl_r69_104, hl_r69_105, hl_r69_106, hl_r69_108, hl_r69_111, hl_r69_112, hl_r69_113, hl_r69_114, hl_r69_117, hl_r69_118, hl_r69_119, hl_r69_122, hl_r69_123, hl_r69_124, hl_r69_127, hl_r69_130, hl_r69_131, hl_r69_132, hl_r69_135, hl_r69_138, hl_r69_141, hl_r69_142, hl_r69_145, hl_r69_146, hl_r69_149, hl_o_38, hl_p_38_0, hl_p_38_1, s265, c1, k5, s266, zz, en, hl_kill_i, hl_kill_r, hl_kill_n, hl_kill_l, hl_tl_s, hl_tl_n, hl_cal_some, hl_gI, hl_gJ, hl_gsI, hl_gsJ, hl_tv01, if_true, if_false, hl_up_a, hl_row_a, not_true, not_false_eq_true]
        try rw [hl_r69_54]
      | some q =>
        have hq := ha q rfl
        have eo : hx_oa (some q) = nI q := rfl
        have q1 : ¬ nI q = -1 := hx_ni1 (by omega)
        have ew : hx_wm t s e (c :: cs) (some q) n = hx_wm t s e cs (if q < e ∧ t q = c then some (q + 1) else none) n := by
          show (if c = 32 then _ else hx_wm t s e cs (if q < e ∧ t q = c then some (q + 1) else none) n) = _
          rw [if_neg z]
        have no : hx_oa none = -1 := rfl
        by_cases x : q < e
        · obtain ⟨t1, t2⟩ := T.2.2 q (by omega)
          have bq : hl_inb (nI q) 300 = true := hl_inb_nI (by omega) (by omega)
          have x' : ¬ nI e ≤ nI q := nI_ge x (by omega)
          by_cases y : t q = c
          · rw [if_pos ⟨x, y⟩] at ew
            have enq : nI q + 1 = nI (q + 1) := (nI_succ q).symm
            refine fin (some (q + 1)) ew (fun q' hq' => by have := Option.some.inj hq'; omega) ?_
            have eo' : hx_oa (some (q + 1)) = nI (q + 1) := rfl
            rw [eo, eo', hl_r69_54]
            simp only [hl_r69_55, hl_r69_57, hl_r69_60, hl_r69_63, hl_r69_64, hl_r69_67, hl_r69_69, hl_r69_72, hl_r69_74, hl_r69_75, hl_r69_78, hl_r69_80, hl_r69_82, hl_r69_84, hl_r69_87, hl_r69_88, hl_r69_89, hl_r69_92, hl_r69_93, hl_r69_94, hl_r69_97, hl_r69_100, hl_r69_101, hl_r69_104, hl_r69_105, hl_r69_106, hl_r69_108, hl_r69_111, hl_r69_112, hl_r69_113, hl_r69_114, hl_r69_117, hl_r69_118, hl_r69_119, hl_r69_122, hl_r69_123, hl_r69_124, hl_r69_127, hl_r69_130, hl_r69_131, hl_r69_132, hl_r69_135, hl_r69_138, hl_r69_141, hl_r69_142, hl_r69_145, hl_r69_146, hl_r69_149, hl_o_38, hl_p_38_0, hl_p_38_1, hl_a_37, hl_z_37, s265, c1, k5, s266, zz, q1, h4, x', bq, hl_cq (show q < 10000 by omega), t1, y, enq, en, hl_kill_i, hl_kill_r, hl_kill_n, hl_kill_l, hl_tl_s, hl_tl_n, hl_cal_some, hl_gI, hl_gJ, hl_gsI, hl_gsJ, hl_tv01, if_true, if_false, hl_up_a, hl_row_a, not_true, not_false_eq_true]
            try rw [hl_r69_54]
          · rw [if_neg (fun w => y w.2)] at ew
            have y' : ¬ nI (t q) = nI c := fun w => y ((nI_eq (by omega) (by omega)).mp w)
            refine fin none ew (fun q' hq' => by cases hq') ?_
            rw [eo, no, hl_r69_54]
            simp only [hl_r69_55, hl_r69_57, hl_r69_60, hl_r69_63, hl_r69_64, hl_r69_67, hl_r69_69, hl_r69_72, hl_r69_74, hl_r69_75, hl_r69_78, hl_r69_80, hl_r69_82, hl_r69_84, hl_r69_87, hl_r69_88, hl_r69_89, hl_r69_92, hl_r69_93, hl_r69_94, hl_r69_97, hl_r69_100, hl_r69_101, hl_r69_104, hl_r69_105, hl_r69_106, hl_r69_108, hl_r69_111, hl_r69_112, hl_r69_113, hl_r69_114, hl_r69_117, hl_r69_118, hl_r69_119, hl_r69_122, hl_r69_123, hl_r69_124, hl_r69_127, hl_r69_130, hl_r69_131, hl_r69_132, hl_r69_135, hl_r69_138, hl_r69_141, hl_r69_142, hl_r69_145, hl_r69_146, hl_r69_149, hl_o_38, hl_p_38_0, hl_p_38_1, hl_a_37, hl_z_37, s265, c1, k5, s266, zz, q1, h4, x', bq, hl_cq (show q < 10000 by omega), t1, y', en, hl_kill_i, hl_kill_r, hl_kill_n, hl_kill_l, hl_tl_s, hl_tl_n, hl_cal_some, hl_gI, hl_gJ, hl_gsI, hl_gsJ, hl_tv01, if_true, if_false, hl_up_a, hl_row_a, not_true, not_false_eq_true]
            try rw [hl_r69_54]
        · rw [if_neg (fun w => x w.1)] at ew
          have x' : nI e ≤ nI q := nI_le (by omega) (by omega)
          refine fin none ew (fun q' hq' => by cases hq') ?_
          rw [eo, no, hl_r69_54]
          simp only [hl_r69_55, hl_r69_57, hl_r69_60, hl_r69_63, hl_r69_64, hl_r69_67, hl_r69_69, hl_r69_72, hl_r69_74, hl_r69_75, hl_r69_78, hl_r69_80, hl_r69_82, hl_r69_84, hl_r69_87, hl_r69_88, hl_r69_89, hl_r69_92, hl_r69_93, hl_r69_94, hl_r69_97, hl_r69_100, hl_r69_101, hl_r69_104, hl_r69_105, hl_r69_106, hl_r69_108, hl_r69_111, hl_r69_112, hl_r69_113, hl_r69_114, hl_r69_117, hl_r69_118, hl_r69_119, hl_r69_122, hl_r69_123, hl_r69_124, hl_r69_127, hl_r69_130, hl_r69_131, hl_r69_132, hl_r69_135, hl_r69_138, hl_r69_141, hl_r69_142, hl_r69_145, hl_r69_146, hl_r69_149, hl_o_38, hl_p_38_0, hl_p_38_1, s265, c1, k5, s266, zz, q1, h4, x', en, hl_kill_i, hl_kill_r, hl_kill_n, hl_kill_l, hl_tl_s, hl_tl_n, hl_cal_some, hl_gI, hl_gJ, hl_gsI, hl_gsJ, hl_tv01, if_true, if_false, hl_up_a, hl_row_a, not_true, not_false_eq_true]
          try rw [hl_r69_54]
theorem hx_s69 {s : Nat} (T : hx_TP t L I) (h3 : I 38 3 = nI s) (h4 : I 38 4 = nI s) (hs : s ≤ L) : ∃ I', hl_call (d + 13) 69 [.ref 38] (hl_g N I J) = some (none, hl_g N I' J) ∧ I' 38 3 = nI s ∧ I' 38 4 = nI (hx_E hx_lt t L s) ∧ I' 38 5 = nI (hx_wk (hx_by t s (hx_E hx_lt t L s - s)) hx_W 0) ∧ hx_f38 I I' := by
  obtain ⟨a, b, -, -⟩ := hx_E_in (g := hx_lt) (t := t) (L := L) _ s rfl
  obtain ⟨I1, e1, g1, g2, g3⟩ := hx_l69a (d := d) (N := N) (J := J) _ I s rfl hs T h4
  have f5 : hx_f38 I (hl_up I1 38 5 22) := hx_f38_tr g2 (hx_f38_up (by omega))
  obtain ⟨I2, e2, k1, k2, k3, k4⟩ := hx_l69b (d := d) (N := N) (J := J) (s := s) (e := hx_E hx_lt t L s) a (b hs) 82 (hl_up I1 38 5 22) 0 0 (some s) .null (by omega) (by decide) (fun q hq => by rw [← Option.some.inj hq]; exact a) (f5.tp T) (by rw [hx_up_j (by omega), g3]; exact h3) (by rw [hx_up_j (by omega)]; exact g1) hl_up_at
  have ew : hx_wm t s (hx_E hx_lt t L s) (hx_WC.drop 0) (some s) 0 = hx_wk (hx_by t s (hx_E hx_lt t L s - s)) hx_W 0 := hx_wm_all a hx_W 0 hx_W_sp
  rw [ew] at k1
  refine ⟨I2, ?_, k3, k4, k1, hx_f38_tr f5 k2⟩
  have z0 : nI 0 = 0 := rfl
  have eo : hx_oa (some s) = nI s := rfl
  rw [z0, eo] at e2
  have u3 : hl_up I1 38 5 22 38 3 = nI s := by rw [hx_up_j (by omega), g3]; exact h3
  rw [hl_e69, e1, ← e2]
  simp only [hl_r69_39, hl_r69_40, hl_r69_42, hl_r69_45, hl_r69_46, hl_r69_47, hl_r69_48, hl_r69_51, hl_r69_52, hl_r69_53, hl_o_38, hl_p_38_0, hl_p_38_1, u3, hl_kill_i, hl_kill_r, hl_kill_n, hl_kill_l, hl_tl_s, hl_tl_n, hl_cal_some, hl_gI, hl_gJ, hl_gsI, hl_gsJ, hl_tv01, if_true, if_false, hl_up_a, hl_row_a, not_true, not_false_eq_true]
theorem hx_s71 {s : Nat} (T : hx_TP t L I) (h3 : I 38 3 = nI s) (hs : s < L) : ∃ I', hl_call (d + 13) 71 [.ref 38] (hl_g N I J) = some (none, hl_g N I' J) ∧ I' 38 3 = nI s ∧ I' 38 4 = nI (if (hx_sg (t s) = 30 ∨ hx_sg (t s) = 31) ∧ s + 1 < L ∧ t (s + 1) = 61 then s + 2 else s + 1) ∧ I' 38 5 = nI (if (hx_sg (t s) = 30 ∨ hx_sg (t s) = 31) ∧ s + 1 < L ∧ t (s + 1) = 61 then (if hx_sg (t s) = 30 then 43 else 44) else hx_sg (t s)) ∧ hx_f38 I I' := by
  have L3 := T.1
  have bs : hl_inb (nI s) 300 = true := hl_inb_nI (by omega) (by omega)
  obtain ⟨t1, t2⟩ := T.2.2 s (by omega)
  have s267 := hx_s267 (d := d) (c := t s) (w := hl_g N I J) (by omega)
  have i2c := hx_i2c (t s) (by omega)
  have en : nI s + 1 = nI (s + 1) := (nI_succ s).symm
  have sgi := hx_sg_in (t s)
  generalize hx_sg (t s) = k at s267 sgi
  -- the kind and what is behind
  have f1 : hx_f38 I (hl_up (hl_up I 38 5 (nI k)) 38 4 (nI (s + 1))) := hx_f38_tr (hx_f38_up (by omega)) (hx_f38_up (by omega))
  have st : ∃ l1, hl_call (d + 13) 71 [.ref 38] (hl_g N I J) = hl_Run 71 (hl_call (d + 12)) 43 [.ref 38, .int l1] [] (hl_g N (hl_up (hl_up I 38 5 (nI k)) 38 4 (nI (s + 1))) J) := by
    have u3 : ∀ v, hl_up I 38 5 v 38 3 = nI s := fun v => by rw [hx_up_j (by omega)]; exact h3
    by_cases z : k = 22
    · subst z
      rw [if_pos rfl] at s267
      have m1 : ¬ (0 : Int32) ≤ -1 := by decide
      have e22 : (22 : Int32) = nI 22 := rfl
      refine ⟨-1, ?_⟩
      rw [hl_e71]
      simp only [hl_r71_0, hl_r71_2, hl_r71_3, hl_r71_6, hl_r71_7, hl_r71_10, hl_r71_11, hl_r71_12, hl_r71_15, hl_r71_16, hl_r71_17, hl_r71_18, hl_r71_21, hl_r71_23, hl_r71_26, hl_r71_28, hl_r71_29, hl_r71_30, hl_r71_33, hl_r71_34, hl_r71_35, hl_r71_38, hl_r71_39, hl_r71_40, hl_o_38, hl_p_38_0, hl_p_38_1, hl_a_37, hl_z_37, h3, bs, hl_cq (show s < 10000 by omega), t1, i2c, s267, m1, e22, u3, en, hl_kill_i, hl_kill_r, hl_kill_n, hl_kill_l, hl_tl_s, hl_tl_n, hl_cal_some, hl_gI, hl_gJ, hl_gsI, hl_gsJ, hl_tv01, if_true, if_false, hl_up_a, hl_row_a, not_true, not_false_eq_true]
    · rw [if_neg z] at s267
      have m1 : (0 : Int32) ≤ nI (k - 30) := show nI 0 ≤ nI (k - 30) from nI_le (by omega) (by omega)
      have e30 : (30 : Int32) + nI (k - 30) = nI k := by
        have q : (30 : Int32) = nI 30 := rfl
        rw [q, nI_add, show 30 + (k - 30) = k by omega]
      refine ⟨nI (k - 30), ?_⟩
      rw [hl_e71]
      simp only [hl_r71_0, hl_r71_2, hl_r71_3, hl_r71_6, hl_r71_7, hl_r71_10, hl_r71_11, hl_r71_12, hl_r71_15, hl_r71_16, hl_r71_17, hl_r71_18, hl_r71_21, hl_r71_23, hl_r71_26, hl_r71_28, hl_r71_29, hl_r71_30, hl_r71_33, hl_r71_34, hl_r71_35, hl_r71_38, hl_r71_39, hl_r71_40, hl_o_38, hl_p_38_0, hl_p_38_1, hl_a_37, hl_z_37, h3, bs, hl_cq (show s < 10000 by omega), t1, i2c, s267, m1, e30, u3, en, hl_kill_i, hl_kill_r, hl_kill_n, hl_kill_l, hl_tl_s, hl_tl_n, hl_cal_some, hl_gI, hl_gJ, hl_gsI, hl_gsJ, hl_tv01, if_true, if_false, hl_up_a, hl_row_a, not_true, not_false_eq_true]
  obtain ⟨l1, st⟩ := st
  rw [st]
  have v5 : hl_up (hl_up I 38 5 (nI k)) 38 4 (nI (s + 1)) 38 5 = nI k := by rw [hx_up_j (by omega)]; exact hl_up_at
  have v4 : hl_up (hl_up I 38 5 (nI k)) 38 4 (nI (s + 1)) 38 4 = nI (s + 1) := hl_up_at
  have v3 : hl_up (hl_up I 38 5 (nI k)) 38 4 (nI (s + 1)) 38 3 = nI s := by rw [hx_up_j (by omega), hx_up_j (by omega)]; exact h3
  have T1 := f1.tp T
  generalize hl_up (hl_up I 38 5 (nI k)) 38 4 (nI (s + 1)) = I1 at v5 v4 v3 T1 f1
  have q30 : (nI k = 30) = (k = 30) := propext ⟨fun x => (nI_eq (a := k) (b := 30) (by omega) (by omega)).mp x, fun x => by rw [x]; rfl⟩
  have q31 : (nI k = 31) = (k = 31) := propext ⟨fun x => (nI_eq (a := k) (b := 31) (by omega) (by omega)).mp x, fun x => by rw [x]; rfl⟩
  by_cases z : k = 30 ∨ k = 31
  · by_cases y : s + 1 < L
    · have c1 : ¬ nI L ≤ nI (s + 1) := nI_ge y (by omega)
      have b1 : hl_inb (nI (s + 1)) 300 = true := hl_inb_nI (by omega) (by omega)
      obtain ⟨t3, t4⟩ := T1.2.2 (s + 1) (by omega)
      have q61 : (nI (t (s + 1)) = 61) = (t (s + 1) = 61) := propext ⟨fun x => (nI_eq (a := t (s + 1)) (b := 61) (by omega) (by omega)).mp x, fun x => by rw [x]; rfl⟩
      by_cases x : t (s + 1) = 61
      · have x61 : nI (t (s + 1)) = 61 := by rw [x]; rfl
        rw [if_pos ⟨z, y, x⟩, if_pos ⟨z, y, x⟩]
        have en2 : nI (s + 1) + 1 = nI (s + 2) := (nI_succ (s + 1)).symm
        rcases z with z | z
        · subst z
          refine ⟨hl_up (hl_up I1 38 5 43) 38 4 (nI (s + 2)), ?_, by rw [hx_up_j (by omega), hx_up_j (by omega)]; exact v3, hl_up_at, by rw [hx_up_j (by omega), if_pos rfl]; exact hl_up_at, hx_f38_tr f1 (hx_f38_tr (hx_f38_up (by omega)) (hx_f38_up (by omega)))⟩
          have e30 : nI 30 = 30 := rfl
          have v4' : hl_up I1 38 5 43 38 4 = nI (s + 1) := by rw [hx_up_j (by omega)]; exact v4
          rw [e30] at v5
          simp only [hl_r71_43, hl_r71_44, hl_r71_47, hl_r71_49, hl_r71_52, hl_r71_53, hl_r71_56, hl_r71_58, hl_r71_61, hl_r71_62, hl_r71_65, hl_r71_66, hl_r71_69, hl_r71_72, hl_r71_73, hl_r71_76, hl_r71_77, hl_r71_80, hl_r71_81, hl_r71_83, hl_r71_86, hl_r71_87, hl_r71_88, hl_r71_91, hl_r71_93, hl_r71_96, hl_r71_98, hl_r71_101, hl_r71_103, hl_r71_106, hl_r71_107, hl_r71_108, hl_r71_111, hl_r71_112, hl_r71_113, hl_r71_116, hl_o_38, hl_p_38_0, hl_p_38_1, hl_a_37, hl_z_37, v5, v4, v4', T1.2.1, c1, b1, hl_cq (show s + 1 < 10000 by omega), t3, x61, en2, hl_kill_i, hl_kill_r, hl_kill_n, hl_kill_l, hl_tl_s, hl_tl_n, hl_cal_some, hl_gI, hl_gJ, hl_gsI, hl_gsJ, hl_tv01, if_true, if_false, hl_up_a, hl_row_a, not_true, not_false_eq_true]
        · subst z
          refine ⟨hl_up (hl_up I1 38 5 44) 38 4 (nI (s + 2)), ?_, by rw [hx_up_j (by omega), hx_up_j (by omega)]; exact v3, hl_up_at, by rw [hx_up_j (by omega), if_neg (by decide)]; exact hl_up_at, hx_f38_tr f1 (hx_f38_tr (hx_f38_up (by omega)) (hx_f38_up (by omega)))⟩
          have e31 : nI 31 = 31 := rfl
          have n3130 : ¬ (31 : Int32) = 30 := by decide
          have v4' : hl_up I1 38 5 44 38 4 = nI (s + 1) := by rw [hx_up_j (by omega)]; exact v4
          rw [e31] at v5
          simp only [hl_r71_43, hl_r71_44, hl_r71_47, hl_r71_49, hl_r71_52, hl_r71_53, hl_r71_56, hl_r71_58, hl_r71_61, hl_r71_62, hl_r71_65, hl_r71_66, hl_r71_69, hl_r71_72, hl_r71_73, hl_r71_76, hl_r71_77, hl_r71_80, hl_r71_81, hl_r71_83, hl_r71_86, hl_r71_87, hl_r71_88, hl_r71_91, hl_r71_93, hl_r71_96, hl_r71_98, hl_r71_101, hl_r71_103, hl_r71_106, hl_r71_107, hl_r71_108, hl_r71_111, hl_r71_112, hl_r71_113, hl_r71_116, hl_o_38, hl_p_38_0, hl_p_38_1, hl_a_37, hl_z_37, v5, v4, v4', T1.2.1, c1, b1, hl_cq (show s + 1 < 10000 by omega), t3, x61, n3130, en2, hl_kill_i, hl_kill_r, hl_kill_n, hl_kill_l, hl_tl_s, hl_tl_n, hl_cal_some, hl_gI, hl_gJ, hl_gsI, hl_gsJ, hl_tv01, if_true, if_false, hl_up_a, hl_row_a, not_true, not_false_eq_true]
      · have x61 : ¬ nI (t (s + 1)) = 61 := by rw [q61]; exact x
        rw [if_neg (fun w => x w.2.2), if_neg (fun w => x w.2.2)]
        refine ⟨I1, ?_, v3, v4, v5, f1⟩
        rcases z with z | z
        · have p30 : nI k = 30 := by rw [z]; rfl
          simp only [hl_r71_43, hl_r71_44, hl_r71_47, hl_r71_49, hl_r71_52, hl_r71_53, hl_r71_56, hl_r71_58, hl_r71_61, hl_r71_62, hl_r71_65, hl_r71_66, hl_r71_69, hl_r71_72, hl_r71_73, hl_r71_76, hl_r71_77, hl_r71_80, hl_r71_81, hl_r71_83, hl_r71_86, hl_r71_87, hl_r71_88, hl_r71_91, hl_r71_93, hl_r71_96, hl_r71_98, hl_r71_101, hl_r71_103, hl_r71_106, hl_r71_107, hl_r71_108, hl_r71_111, hl_r71_112, hl_r71_113, hl_r71_116, hl_o_38, hl_p_38_0, hl_p_38_1, hl_a_37, hl_z_37, v5, v4, T1.2.1, c1, b1, hl_cq (show s + 1 < 10000 by omega), t3, x61, p30, hl_kill_i, hl_kill_r, hl_kill_n, hl_kill_l, hl_tl_s, hl_tl_n, hl_cal_some, hl_gI, hl_gJ, hl_gsI, hl_gsJ, hl_tv01, if_true, if_false, hl_up_a, hl_row_a, not_true, not_false_eq_true]
        · have p31 : nI k = 31 := by rw [z]; rfl
          have n3130 : ¬ (31 : Int32) = 30 := by decide
          simp only [hl_r71_43, hl_r71_44, hl_r71_47, hl_r71_49, hl_r71_52, hl_r71_53, hl_r71_56, hl_r71_58, hl_r71_61, hl_r71_62, hl_r71_65, hl_r71_66, hl_r71_69, hl_r71_72, hl_r71_73, hl_r71_76, hl_r71_77, hl_r71_80, hl_r71_81, hl_r71_83, hl_r71_86, hl_r71_87, hl_r71_88, hl_r71_91, hl_r71_93, hl_r71_96, hl_r71_98, hl_r71_101, hl_r71_103, hl_r71_106, hl_r71_107, hl_r71_108, hl_r71_111, hl_r71_112, hl_r71_113, hl_r71_116, hl_o_38, hl_p_38_0, hl_p_38_1, hl_a_37, hl_z_37, v5, v4, T1.2.1, c1, b1, hl_cq (show s + 1 < 10000 by omega), t3, x61, p31, n3130, hl_kill_i, hl_kill_r, hl_kill_n, hl_kill_l, hl_tl_s, hl_tl_n, hl_cal_some, hl_gI, hl_gJ, hl_gsI, hl_gsJ, hl_tv01, if_true, if_false, hl_up_a, hl_row_a, not_true, not_false_eq_true]
    · rw [if_neg (fun w => y w.2.1), if_neg (fun w => y w.2.1)]
      have c1 : nI L ≤ nI (s + 1) := nI_le (by omega) (by omega)
      refine ⟨I1, ?_, v3, v4, v5, f1⟩
      rcases z with z | z
      · have p30 : nI k = 30 := by rw [z]; rfl
        simp only [hl_r71_43, hl_r71_44, hl_r71_47, hl_r71_49, hl_r71_52, hl_r71_53, hl_r71_56, hl_r71_58, hl_r71_61, hl_r71_62, hl_r71_65, hl_r71_66, hl_r71_69, hl_r71_72, hl_r71_73, hl_r71_76, hl_r71_77, hl_r71_80, hl_r71_81, hl_r71_83, hl_r71_86, hl_r71_87, hl_r71_88, hl_r71_91, hl_r71_93, hl_r71_96, hl_r71_98, hl_r71_101, hl_r71_103, hl_r71_106, hl_r71_107, hl_r71_108, hl_r71_111, hl_r71_112, hl_r71_113, hl_r71_116, hl_o_38, hl_p_38_0, hl_p_38_1, v5, v4, T1.2.1, c1, p30, hl_kill_i, hl_kill_r, hl_kill_n, hl_kill_l, hl_tl_s, hl_tl_n, hl_cal_some, hl_gI, hl_gJ, hl_gsI, hl_gsJ, hl_tv01, if_true, if_false, hl_up_a, hl_row_a, not_true, not_false_eq_true]
      · have p31 : nI k = 31 := by rw [z]; rfl
        have n3130 : ¬ (31 : Int32) = 30 := by decide
        simp only [hl_r71_43, hl_r71_44, hl_r71_47, hl_r71_49, hl_r71_52, hl_r71_53, hl_r71_56, hl_r71_58, hl_r71_61, hl_r71_62, hl_r71_65, hl_r71_66, hl_r71_69, hl_r71_72, hl_r71_73, hl_r71_76, hl_r71_77, hl_r71_80, hl_r71_81, hl_r71_83, hl_r71_86, hl_r71_87, hl_r71_88, hl_r71_91, hl_r71_93, hl_r71_96, hl_r71_98, hl_r71_101, hl_r71_103, hl_r71_106, hl_r71_107, hl_r71_108, hl_r71_111, hl_r71_112, hl_r71_113, hl_r71_116, hl_o_38, hl_p_38_0, hl_p_38_1, v5, v4, T1.2.1, c1, p31, n3130, hl_kill_i, hl_kill_r, hl_kill_n, hl_kill_l, hl_tl_s, hl_tl_n, hl_cal_some, hl_gI, hl_gJ, hl_gsI, hl_gsJ, hl_tv01, if_true, if_false, hl_up_a, hl_row_a, not_true, not_false_eq_true]
  · rw [if_neg (fun w => z w.1), if_neg (fun w => z w.1)]
    have z1 : ¬ k = 30 := fun w => z (.inl w)
    have z2 : ¬ k = 31 := fun w => z (.inr w)
    refine ⟨I1, ?_, v3, v4, v5, f1⟩
    simp only [hl_r71_43, hl_r71_44, hl_r71_47, hl_r71_49, hl_r71_52, hl_r71_53, hl_r71_56, hl_r71_58, hl_r71_61, hl_r71_62, hl_r71_65, hl_r71_66, hl_r71_69, hl_r71_72, hl_r71_73, hl_r71_76, hl_r71_77, hl_r71_80, hl_r71_81, hl_r71_83, hl_r71_86, hl_r71_87, hl_r71_88, hl_r71_91, hl_r71_93, hl_r71_96, hl_r71_98, hl_r71_101, hl_r71_103, hl_r71_106, hl_r71_107, hl_r71_108, hl_r71_111, hl_r71_112, hl_r71_113, hl_r71_116, hl_o_38, hl_p_38_0, hl_p_38_1, v5, q30, q31, z1, z2, hl_kill_i, hl_kill_r, hl_kill_n, hl_kill_l, hl_tl_s, hl_tl_n, hl_cal_some, hl_gI, hl_gJ, hl_gsI, hl_gsJ, hl_tv01, if_true, if_false, hl_up_a, hl_row_a, not_true, not_false_eq_true]
/-- advance: the skip -/
theorem hx_l66 {c : hl_C} (f : Nat) : ∀ (I : Nat → Nat → Int32) (i : Nat), L - i = f → i ≤ L → hx_TP t L I → I 38 3 = nI i → ∃ I', hl_Run 66 c 8 [.ref 38] [] (hl_g N I J) = hl_Run 66 c 60 [.ref 38] [] (hl_g N I' J) ∧ I' 38 3 = nI (hx_E hx_sp t L i) ∧ hx_f38 I I' := by
  induction f with
  | zero =>
    intro I i hf hi T h3
    have eE := hx_E_no (g := hx_sp) (t := t) (L := L) (p := i) (by omega)
    have c1 : nI L ≤ nI i := nI_le (by omega) (by have := T.1; omega)
    refine ⟨I, ?_, by rw [eE]; exact h3, hx_f38_rf I⟩
    simp only [hl_r66_8, hl_r66_9, hl_r66_12, hl_r66_13, hl_r66_16, hl_o_38, hl_p_38_0, hl_p_38_1, h3, T.2.1, c1, hl_kill_i, hl_kill_r, hl_kill_n, hl_kill_l, hl_tl_s, hl_tl_n, hl_cal_some, hl_gI, hl_gJ, hl_gsI, hl_gsJ, hl_tv01, if_true, if_false, hl_up_a, hl_row_a, not_true, not_false_eq_true]
  | succ f ih =>
    intro I i hf hi T h3
    have L3 := T.1
    have c1 : ¬ nI L ≤ nI i := nI_ge (by omega) (by omega)
    have bi : hl_inb (nI i) 300 = true := hl_inb_nI (by omega) (by omega)
    obtain ⟨t1, t2⟩ := T.2.2 i (by omega)
    have q32 : (nI (t i) = 32) = (t i = 32) := propext ⟨fun x => (nI_eq (a := t i) (b := 32) (by omega) (by omega)).mp x, fun x => by rw [x]; rfl⟩
    have q10 : (nI (t i) = 10) = (t i = 10) := propext ⟨fun x => (nI_eq (a := t i) (b := 10) (by omega) (by omega)).mp x, fun x => by rw [x]; rfl⟩
    have en : nI i + 1 = nI (i + 1) := (nI_succ i).symm
    by_cases z : t i = 32 ∨ t i = 10
    · have zg : hx_sp (t i) = true := by
        unfold hx_sp
        rcases z with z | z
        · rw [decide_eq_true z, Bool.true_or]
        · rw [decide_eq_true (p := t i = 10) z, Bool.or_true]
      have eE := hx_E_go (g := hx_sp) (t := t) (show i < L by omega) zg
      obtain ⟨I1, e1, g1, g2⟩ := ih (hl_up I 38 3 (nI (i + 1))) (i + 1) (by omega) (by omega) ((hx_f38_up (by omega)).tp T) hl_up_at
      refine ⟨I1, ?_, by rw [eE]; exact g1, hx_f38_tr (hx_f38_up (by omega)) g2⟩
      rw [← e1, hl_r66_8]
      by_cases y : t i = 32
      · have p32 : nI (t i) = 32 := by rw [y]; rfl
        simp only [hl_r66_9, hl_r66_12, hl_r66_13, hl_r66_16, hl_r66_19, hl_r66_20, hl_r66_23, hl_r66_24, hl_r66_27, hl_r66_28, hl_r66_30, hl_r66_33, hl_r66_34, hl_r66_37, hl_r66_38, hl_r66_41, hl_r66_42, hl_r66_44, hl_r66_47, hl_r66_48, hl_r66_49, hl_r66_52, hl_r66_53, hl_r66_54, hl_r66_57, hl_o_38, hl_p_38_0, hl_p_38_1, hl_a_37, hl_z_37, h3, T.2.1, c1, bi, hl_cq (show i < 10000 by omega), t1, p32, en, hl_kill_i, hl_kill_r, hl_kill_n, hl_kill_l, hl_tl_s, hl_tl_n, hl_cal_some, hl_gI, hl_gJ, hl_gsI, hl_gsJ, hl_tv01, if_true, if_false, hl_up_a, hl_row_a, not_true, not_false_eq_true]
        try rw [hl_r66_8]
      · have p10 : nI (t i) = 10 := by rw [z.resolve_left y]; rfl
        have n1032 : ¬ (10 : Int32) = 32 := by decide
        simp only [hl_r66_9, hl_r66_12, hl_r66_13, hl_r66_16, hl_r66_19, hl_r66_20, hl_r66_23, hl_r66_24, hl_r66_27, hl_r66_28, hl_r66_30, hl_r66_33, hl_r66_34, hl_r66_37, hl_r66_38, hl_r66_41, hl_r66_42, hl_r66_44, hl_r66_47, hl_r66_48, hl_r66_49, hl_r66_52, hl_r66_53, hl_r66_54, hl_r66_57, hl_o_38, hl_p_38_0, hl_p_38_1, hl_a_37, hl_z_37, h3, T.2.1, c1, bi, hl_cq (show i < 10000 by omega), t1, p10, n1032, en, hl_kill_i, hl_kill_r, hl_kill_n, hl_kill_l, hl_tl_s, hl_tl_n, hl_cal_some, hl_gI, hl_gJ, hl_gsI, hl_gsJ, hl_tv01, if_true, if_false, hl_up_a, hl_row_a, not_true, not_false_eq_true]
        try rw [hl_r66_8]
    · have z1 : ¬ t i = 32 := fun w => z (.inl w)
      have z2 : ¬ t i = 10 := fun w => z (.inr w)
      have zg : ¬ (i < L ∧ hx_sp (t i) = true) := fun w => by
        have := w.2
        unfold hx_sp at this
        rw [decide_eq_false z1, decide_eq_false z2] at this
        cases this
      have eE := hx_E_no (g := hx_sp) (t := t) zg
      refine ⟨I, ?_, by rw [eE]; exact h3, hx_f38_rf I⟩
      simp only [hl_r66_8, hl_r66_9, hl_r66_12, hl_r66_13, hl_r66_16, hl_r66_19, hl_r66_20, hl_r66_23, hl_r66_24, hl_r66_27, hl_r66_28, hl_r66_30, hl_r66_33, hl_r66_34, hl_r66_37, hl_r66_38, hl_r66_41, hl_r66_42, hl_r66_44, hl_o_38, hl_p_38_0, hl_p_38_1, hl_a_37, hl_z_37, h3, T.2.1, c1, bi, hl_cq (show i < 10000 by omega), t1, q32, q10, z1, z2, hl_kill_i, hl_kill_r, hl_kill_n, hl_kill_l, hl_tl_s, hl_tl_n, hl_cal_some, hl_gI, hl_gJ, hl_gsI, hl_gsJ, hl_tv01, if_true, if_false, hl_up_a, hl_row_a, not_true, not_false_eq_true]
/-- the token that stands -/
def hx_TS (t : Nat → Nat) (L p : Nat) (I : Nat → Nat → Int32) : Prop := I 38 3 = nI (hx_tk t L p).2.2.1 ∧ I 38 4 = nI (hx_tk t L p).2.2.2 ∧ I 38 5 = nI (hx_tk t L p).1 ∧ ((hx_tk t L p).1 = 20 → I 38 6 = nI (hx_tk t L p).2.1)
theorem hx_s66 {p : Nat} (T : hx_TP t L I) (h4 : I 38 4 = nI p) (hp : p ≤ L) : ∃ I', hl_call (d + 14) 66 [.ref 38] (hl_g N I J) = some (none, hl_g N I' J) ∧ hx_TS t L p I' ∧ hx_f38 I I' := by
  have L3 := T.1
  obtain ⟨sa, sb, -, se⟩ := hx_E_in (g := hx_sp) (t := t) (L := L) _ p rfl
  have sb' := sb hp
  obtain ⟨I1, e1, g1, g2⟩ := hx_l66 (N := N) (J := J) (c := hl_call (d + 13)) _ (hl_up I 38 3 (nI p)) p rfl hp ((hx_f38_up (by omega)).tp T) hl_up_at
  have f1 : hx_f38 I I1 := hx_f38_tr (hx_f38_up (by omega)) g2
  have T1 := f1.tp T
  unfold hx_TS hx_tk
  generalize hx_E hx_sp t L p = s at sa sb' se g1
  have st : hl_call (d + 14) 66 [.ref 38] (hl_g N I J) = hl_Run 66 (hl_call (d + 13)) 68 [.ref 38] [] (hl_g N (hl_up I1 38 4 (nI s)) J) := by
    have e0 : hl_call (d + 14) 66 [.ref 38] (hl_g N I J) = hl_Run 66 (hl_call (d + 13)) 8 [.ref 38] [] (hl_g N (hl_up I 38 3 (nI p)) J) := by
      rw [hl_e66]
      simp only [hl_r66_0, hl_r66_1, hl_r66_2, hl_r66_5, hl_o_38, hl_p_38_0, hl_p_38_1, h4, hl_kill_i, hl_kill_r, hl_kill_n, hl_kill_l, hl_tl_s, hl_tl_n, hl_cal_some, hl_gI, hl_gJ, hl_gsI, hl_gsJ, hl_tv01, if_true, if_false, hl_up_a, hl_row_a, not_true, not_false_eq_true]
    rw [e0, e1]
    simp only [hl_r66_60, hl_r66_61, hl_r66_62, hl_r66_65, hl_o_38, hl_p_38_0, hl_p_38_1, g1, hl_kill_i, hl_kill_r, hl_kill_n, hl_kill_l, hl_tl_s, hl_tl_n, hl_cal_some, hl_gI, hl_gJ, hl_gsI, hl_gsJ, hl_tv01, if_true, if_false, hl_up_a, hl_row_a, not_true, not_false_eq_true]
  have f2 : hx_f38 I (hl_up I1 38 4 (nI s)) := hx_f38_tr f1 (hx_f38_up (by omega))
  have T2 := f2.tp T
  have u3 : hl_up I1 38 4 (nI s) 38 3 = nI s := by rw [hx_up_j (by omega)]; exact g1
  have u4 : hl_up I1 38 4 (nI s) 38 4 = nI s := hl_up_at
  rw [st]
  generalize hl_up I1 38 4 (nI s) = I2 at f2 T2 u3 u4
  by_cases h1 : s < L
  · rw [if_pos h1]
    have c1 : nI s < nI L := nI_lt h1 (by omega)
    have bs : hl_inb (nI s) 300 = true := hl_inb_nI (by omega) (by omega)
    obtain ⟨t1, t2⟩ := T2.2.2 s (by omega)
    have s67 := hx_s67 (d := d + 12) (c := t s) (w := hl_g N I2 J) t2
    by_cases h2 : hx_lt (t s) = true
    · rw [if_pos h2]
      rw [h2] at s67
      obtain ⟨I3, e3, k3, k4, k5, k6⟩ := hx_s69 (d := d) (N := N) (J := J) T2 u3 u4 (by omega)
      refine ⟨I3, ?_, ⟨k3, k4, k5, fun q => ?_⟩, hx_f38_tr f2 k6⟩
      · simp only [hl_r66_68, hl_r66_69, hl_r66_72, hl_r66_73, hl_r66_76, hl_r66_79, hl_r66_80, hl_r66_82, hl_r66_85, hl_r66_88, hl_r66_89, hl_r66_92, hl_r66_93, hl_r66_96, hl_r66_97, hl_r66_100, hl_r66_103, hl_r66_104, hl_r66_107, hl_r66_110, hl_r66_111, hl_r66_114, hl_r66_115, hl_r66_118, hl_r66_119, hl_r66_122, hl_r66_125, hl_r66_126, hl_r66_129, hl_r66_132, hl_r66_133, hl_r66_136, hl_o_38, hl_p_38_0, hl_p_38_1, hl_a_37, hl_z_37, u3, T2.2.1, c1, bs, hl_cq (show s < 10000 by omega), t1, s67, hl_tv_t, hl_10, e3, hl_tl_n, hl_kill_i, hl_kill_r, hl_kill_n, hl_kill_l, hl_tl_s, hl_tl_n, hl_cal_some, hl_gI, hl_gJ, hl_gsI, hl_gsJ, hl_tv01, if_true, if_false, hl_up_a, hl_row_a, not_true, not_false_eq_true]
      · rcases hx_wk_in (B := hx_by t s (hx_E hx_lt t L s - s)) hx_W 0 (by decide) with x | x
        · rw [show hx_wk (hx_by t s (hx_E hx_lt t L s - s)) hx_W 0 = 20 from q] at x; cases x
        · have q' : hx_wk (hx_by t s (hx_E hx_lt t L s - s)) hx_W 0 = 20 := q
          omega
    · rw [if_neg h2]
      rw [Bool.not_eq_true] at h2
      rw [h2] at s67
      have s68 := hx_s68 (d := d + 12) (c := t s) (w := hl_g N I2 J) t2
      by_cases h3 : hx_dg (t s) = true
      · rw [if_pos h3]
        rw [h3] at s68
        obtain ⟨I3, e3, k4, k6, kf, k3, k5⟩ := hx_s70 (d := d + 11) (N := N) (J := J) T2 u4 (by omega)
        refine ⟨I3, ?_, ⟨by rw [k3]; exact u3, k4, k5, fun _ => k6⟩, hx_f38_tr f2 kf⟩
        simp only [hl_r66_68, hl_r66_69, hl_r66_72, hl_r66_73, hl_r66_76, hl_r66_79, hl_r66_80, hl_r66_82, hl_r66_85, hl_r66_88, hl_r66_89, hl_r66_92, hl_r66_93, hl_r66_96, hl_r66_97, hl_r66_100, hl_r66_103, hl_r66_104, hl_r66_107, hl_r66_110, hl_r66_111, hl_r66_114, hl_r66_115, hl_r66_118, hl_r66_119, hl_r66_122, hl_r66_125, hl_r66_126, hl_r66_129, hl_r66_132, hl_r66_133, hl_r66_136, hl_o_38, hl_p_38_0, hl_p_38_1, hl_a_37, hl_z_37, u3, T2.2.1, c1, bs, hl_cq (show s < 10000 by omega), t1, s67, s68, hl_tv_t, hl_tv_f, hl_10, e3, hl_tl_n, hl_kill_i, hl_kill_r, hl_kill_n, hl_kill_l, hl_tl_s, hl_tl_n, hl_cal_some, hl_gI, hl_gJ, hl_gsI, hl_gsJ, hl_tv01, if_true, if_false, hl_up_a, hl_row_a, not_true, not_false_eq_true]
      · rw [if_neg h3]
        rw [Bool.not_eq_true] at h3
        rw [h3] at s68
        obtain ⟨I3, e3, k3, k4, k5, kf⟩ := hx_s71 (d := d) (N := N) (J := J) T2 u3 h1
        have go : hl_Run 66 (hl_call (d + 13)) 68 [.ref 38] [] (hl_g N I2 J) = some (none, hl_g N I3 J) := by
          simp only [hl_r66_68, hl_r66_69, hl_r66_72, hl_r66_73, hl_r66_76, hl_r66_79, hl_r66_80, hl_r66_82, hl_r66_85, hl_r66_88, hl_r66_89, hl_r66_92, hl_r66_93, hl_r66_96, hl_r66_97, hl_r66_100, hl_r66_103, hl_r66_104, hl_r66_107, hl_r66_110, hl_r66_111, hl_r66_114, hl_r66_115, hl_r66_118, hl_r66_119, hl_r66_122, hl_r66_125, hl_r66_126, hl_r66_129, hl_r66_132, hl_r66_133, hl_r66_136, hl_o_38, hl_p_38_0, hl_p_38_1, hl_a_37, hl_z_37, u3, T2.2.1, c1, bs, hl_cq (show s < 10000 by omega), t1, s67, s68, hl_tv_f, e3, hl_tl_n, hl_kill_i, hl_kill_r, hl_kill_n, hl_kill_l, hl_tl_s, hl_tl_n, hl_cal_some, hl_gI, hl_gJ, hl_gsI, hl_gsJ, hl_tv01, if_true, if_false, hl_up_a, hl_row_a, not_true, not_false_eq_true]
        have sgi := hx_sg_in (t s)
        by_cases h4' : (hx_sg (t s) = 30 ∨ hx_sg (t s) = 31) ∧ s + 1 < L ∧ t (s + 1) = 61
        · rw [if_pos h4'] at k4 k5 ⊢
          refine ⟨I3, go, ⟨k3, k4, k5, fun q => ?_⟩, hx_f38_tr f2 kf⟩
          have q' : (if hx_sg (t s) = 30 then 43 else 44) = 20 := q
          split at q' <;> omega
        · rw [if_neg h4'] at k4 k5 ⊢
          refine ⟨I3, go, ⟨k3, k4, k5, fun q => ?_⟩, hx_f38_tr f2 kf⟩
          have q' : hx_sg (t s) = 20 := q
          omega
  · rw [if_neg h1]
    have c1 : ¬ nI s < nI L := Int32.not_lt.mpr (nI_le (by omega) (by omega))
    refine ⟨hl_up I2 38 5 21, ?_, ⟨by rw [hx_up_j (by omega)]; exact u3, by rw [hx_up_j (by omega)]; exact u4, hl_up_at, fun q => by cases q⟩, hx_f38_tr f2 (hx_f38_up (by omega))⟩
    simp only [hl_r66_68, hl_r66_69, hl_r66_72, hl_r66_73, hl_r66_76, hl_r66_79, hl_r66_80, hl_r66_82, hl_r66_85, hl_r66_88, hl_r66_89, hl_r66_92, hl_r66_93, hl_r66_96, hl_r66_97, hl_r66_100, hl_r66_103, hl_r66_104, hl_r66_107, hl_r66_110, hl_r66_111, hl_r66_114, hl_r66_115, hl_r66_118, hl_r66_119, hl_r66_122, hl_r66_125, hl_r66_126, hl_r66_129, hl_r66_132, hl_r66_133, hl_r66_136, hl_o_38, hl_p_38_0, hl_p_38_1, u3, T2.2.1, c1, hl_kill_i, hl_kill_r, hl_kill_n, hl_kill_l, hl_tl_s, hl_tl_n, hl_cal_some, hl_gI, hl_gJ, hl_gsI, hl_gsJ, hl_tv01, if_true, if_false, hl_up_a, hl_row_a, not_true, not_false_eq_true]
end HXCLEX
