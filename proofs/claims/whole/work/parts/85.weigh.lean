/-! what the groups pay -/
def hl_cw (I : Nat → Nat → Int32) (al : Nat → Nat) (x y : Int32) (c k : Nat) : Int := if (I 7 c = -1 ∨ I 7 c = nI (al k)) ∧ ¬ (nI c = x ∧ nI (al k) = y) then (I 64 (4 * c + al k)).toInt else 1000000000
def hl_gq (I : Nat → Nat → Int32) (wh : Bool) (m : Nat) (al : Nat → Nat) (x y : Int32) (n q : Nat) : Int := hl_si n (fun c => if hl_gr I wh c = q / 4 ∧ q % 4 < m then hl_cw I al x y c (q % 4) else 0)
theorem hl_si_B {f : Nat → Int} {B : Int} (n : Nat) (h : ∀ k, k < n → 0 ≤ f k ∧ f k ≤ B) : 0 ≤ hl_si n f ∧ hl_si n f ≤ (n : Int) * B := by
  induction n with
  | zero => exact ⟨Int.le_refl 0, by show (0 : Int) ≤ _; omega⟩
  | succ n ih =>
    obtain ⟨a, b⟩ := ih (fun k hk => h k (by omega))
    obtain ⟨c, e⟩ := h n (by omega)
    have : ((n + 1 : Nat) : Int) * B = (n : Int) * B + B := by rw [Int.natCast_add, Int.add_mul]; show _ + 1 * B = _; rw [Int.one_mul]
    rw [this]
    show 0 ≤ hl_si n f + f n ∧ hl_si n f + f n ≤ _
    omega
section HLWEI
variable {d N m : Nat} {I I' : Nat → Nat → Int32} {J J' : Nat → Nat → Int64} {wh : Bool} {al : Nat → Nat} {x y : Int32}
theorem hl_cw_B (hB : ∀ c k, c < N → k < m → 0 ≤ (I 64 (4 * c + al k)).toInt ∧ (I 64 (4 * c + al k)).toInt ≤ 1000000000) {c k : Nat} (hc : c < N) (hk : k < m) : 0 ≤ hl_cw I al x y c k ∧ hl_cw I al x y c k ≤ 1000000000 := by
  have := hB c k hc hk
  unfold hl_cw
  split <;> omega
theorem hl_gq_B (hB : ∀ c k, c < N → k < m → 0 ≤ (I 64 (4 * c + al k)).toInt ∧ (I 64 (4 * c + al k)).toInt ≤ 1000000000) {n : Nat} (hn : n ≤ N) (q : Nat) : 0 ≤ hl_gq I wh m al x y n q ∧ hl_gq I wh m al x y n q ≤ (n : Int) * 1000000000 := by
  refine hl_si_B n (fun c hc => ?_)
  split
  · next z => exact hl_cw_B hB (by omega) z.2
  · omega
theorem hl_l29j {i : Nat} (hi : i < N) (hN : N ≤ 24) (h4 : m ≤ 4) (hm : I 68 6 = nI m) (hal : ∀ k, k < m → I 78 k = nI (al k) ∧ al k < 4) (hst : ∃ q, q < 6 ∧ I 4 i = nI q) (hB : ∀ c k, c < N → k < m → 0 ≤ (I 64 (4 * c + al k)).toInt ∧ (I 64 (4 * c + al k)).toInt ≤ 1000000000) (f : Nat) : ∀ (J : Nat → Nat → Int64) (j : Nat) (l6 l7 l8 : Value), j + f = m → (∀ q, q < (if N < 6 then 6 else N) * 4 → (J 80 q).toInt = hl_gq I wh m al x y i q + (if hl_gr I wh i = q / 4 ∧ q % 4 < j then hl_cw I al x y i (q % 4) else 0)) → ∃ J' m6 m7 m8, hl_Run 29 (hl_call (d + 1)) 43 [.ref 68, .int (hl_tv wh), .int x, .int y, .int (nI i), .int (nI j), l6, l7, l8] [] (hl_g N I J) = hl_Run 29 (hl_call (d + 1)) 170 [.ref 68, .int (hl_tv wh), .int x, .int y, .int (nI i), .int (nI m), m6, m7, m8] [] (hl_g N I J') ∧ (∀ q, q < (if N < 6 then 6 else N) * 4 → (J' 80 q).toInt = hl_gq I wh m al x y (i + 1) q) ∧ ∀ q, q ≠ 80 → J' q = J q := by
  induction f with
  | zero =>
    intro J j l6 l7 l8 hj hJ
    obtain rfl : j = m := by omega
    refine ⟨J, l6, l7, l8, ?_, fun q hq => hJ q hq, fun _ _ => rfl⟩
    simp only [hl_r29_43, hl_r29_45, hl_r29_46, hl_r29_49, hl_o_68, hl_p_68_0, hl_p_68_1, hl_p_68_2, hl_p_68_3, hl_p_68_4, hl_p_68_5, hm, Int32.le_refl, hl_kill_i, hl_kill_r, hl_kill_n, hl_kill_l, hl_tl_s, hl_tl_n, hl_cal_some, hl_gI, hl_gJ, hl_gsI, hl_gsJ, hl_tv01, if_true, if_false, hl_up_a, hl_row_a]
  | succ f ih =>
    intro J j l6 l7 l8 hj hJ
    have c1 : ¬ nI m ≤ nI j := nI_ge (by omega) (by omega)
    have en : nI j + 1 = nI (j + 1) := (nI_succ j).symm
    obtain ⟨a1, a2⟩ := hal j (by omega)
    obtain ⟨sq, sq1, sq2⟩ := hst
    have bj : hl_inb (nI j) 4 = true := hl_inb_nI (by omega) (by decide)
    have bi : hl_inb (nI i) N = true := hl_inb_nI hi (by omega)
    have s28 := hl_s28 (d := d) (N := N) (J := J) (b := wh) (c := i) hi hN sq1 sq2
    have s48 := hl_s48 (d := d) (I := I) (J := J) (c := i) (h := al j) hi hN a2
    have gZ : hl_gr I wh i < (if N < 6 then 6 else N) := by
      unfold hl_gr
      cases wh with
      | true => rw [if_pos rfl, sq2, nIc (show sq < 2 ^ 31 by omega)]; split <;> omega
      | false => rw [if_neg (by decide)]; split <;> omega
    have seg0 : hl_Run 29 (hl_call (d + 1)) 43 [.ref 68, .int (hl_tv wh), .int x, .int y, .int (nI i), .int (nI j), l6, l7, l8] [] (hl_g N I J) = hl_Run 29 (hl_call (d + 1)) 61 [.ref 68, .int (hl_tv wh), .int x, .int y, .int (nI i), .int (nI j), .int (nI (al j)), l7, l8] [] (hl_g N I J) := by
      simp only [hl_r29_43, hl_r29_45, hl_r29_46, hl_r29_49, hl_r29_52, hl_r29_53, hl_r29_56, hl_r29_58, hl_r29_59, hl_o_68, hl_p_68_0, hl_p_68_1, hl_p_68_2, hl_p_68_3, hl_p_68_4, hl_p_68_5, hl_a_78, hl_z_78, hm, c1, bj, hl_cq (show j < 10000 by omega), a1, hl_kill_i, hl_kill_r, hl_kill_n, hl_kill_l, hl_tl_s, hl_tl_n, hl_cal_some, hl_gI, hl_gJ, hl_gsI, hl_gsJ, hl_tv01, if_true, if_false, hl_up_a, hl_row_a]
    have seg1 : hl_Run 29 (hl_call (d + 1)) 61 [.ref 68, .int (hl_tv wh), .int x, .int y, .int (nI i), .int (nI j), .int (nI (al j)), l7, l8] [] (hl_g N I J) = hl_Run 29 (hl_call (d + 1)) 80 [.ref 68, .int (hl_tv wh), .int x, .int y, .int (nI i), .int (nI j), .int (nI (al j)), .int (hl_tv (decide (nI i = x ∧ nI (al j) = y))), l8] [] (hl_g N I J) := by
      by_cases A : nI i = x
      · by_cases B : nI (al j) = y
        · rw [decide_eq_true ⟨A, B⟩]
          simp only [hl_r29_61, hl_r29_63, hl_r29_64, hl_r29_67, hl_r29_69, hl_r29_70, hl_r29_73, hl_r29_74, hl_r29_77, hl_r29_78, eq_true A, eq_true B, not_true, hl_tv_t, hl_kill_i, hl_kill_r, hl_kill_n, hl_kill_l, hl_tl_s, hl_tl_n, hl_cal_some, hl_gI, hl_gJ, hl_gsI, hl_gsJ, hl_tv01, if_true, if_false, hl_up_a, hl_row_a]
        · rw [decide_eq_false (fun z => B z.2)]
          simp only [hl_r29_61, hl_r29_63, hl_r29_64, hl_r29_67, hl_r29_69, hl_r29_70, hl_r29_73, hl_r29_74, hl_r29_77, hl_r29_78, eq_true A, eq_false B, not_true, not_false_eq_true, hl_tv_f, hl_kill_i, hl_kill_r, hl_kill_n, hl_kill_l, hl_tl_s, hl_tl_n, hl_cal_some, hl_gI, hl_gJ, hl_gsI, hl_gsJ, hl_tv01, if_true, if_false, hl_up_a, hl_row_a]
      · rw [decide_eq_false (fun z => A z.1)]
        simp only [hl_r29_61, hl_r29_63, hl_r29_64, hl_r29_67, hl_r29_69, hl_r29_70, hl_r29_73, hl_r29_74, hl_r29_77, hl_r29_78, eq_false A, not_false_eq_true, hl_tv_f, hl_kill_i, hl_kill_r, hl_kill_n, hl_kill_l, hl_tl_s, hl_tl_n, hl_cal_some, hl_gI, hl_gJ, hl_gsI, hl_gsJ, hl_tv01, if_true, if_false, hl_up_a, hl_row_a]
    generalize hb7 : decide (nI i = x ∧ nI (al j) = y) = b7 at seg1
    have seg2 : hl_Run 29 (hl_call (d + 1)) 80 [.ref 68, .int (hl_tv wh), .int x, .int y, .int (nI i), .int (nI j), .int (nI (al j)), .int (hl_tv b7), l8] [] (hl_g N I J) = hl_Run 29 (hl_call (d + 1)) 116 [.ref 68, .int (hl_tv wh), .int x, .int y, .int (nI i), .int (nI j), .int (nI (al j)), .int (hl_tv b7), .int (hl_tv (decide (I 7 i = -1 ∨ I 7 i = nI (al j))))] [] (hl_g N I J) := by
      by_cases A : I 7 i = -1
      · rw [decide_eq_true (.inl A)]
        simp only [hl_r29_80, hl_r29_81, hl_r29_84, hl_r29_87, hl_r29_89, hl_r29_90, hl_r29_91, hl_r29_94, hl_r29_95, hl_r29_98, hl_r29_101, hl_r29_103, hl_r29_104, hl_r29_106, hl_r29_109, hl_r29_110, hl_r29_113, hl_r29_114, hl_o_68, hl_p_68_0, hl_p_68_1, hl_p_68_2, hl_p_68_3, hl_p_68_4, hl_p_68_5, hl_o_1, hl_p_1_0, hl_p_1_1, hl_p_1_2, hl_p_1_3, hl_p_1_4, hl_p_1_5, hl_p_1_6, hl_p_1_7, hl_p_1_9, hl_p_1_14, hl_p_1_15, hl_a_7, hl_z_7, bi, hl_cq (show i < 10000 by omega), eq_true A, hl_tv_t, hl_kill_i, hl_kill_r, hl_kill_n, hl_kill_l, hl_tl_s, hl_tl_n, hl_cal_some, hl_gI, hl_gJ, hl_gsI, hl_gsJ, hl_tv01, if_true, if_false, hl_up_a, hl_row_a]
      · by_cases B : I 7 i = nI (al j)
        · rw [decide_eq_true (.inr B)]
          simp only [hl_r29_80, hl_r29_81, hl_r29_84, hl_r29_87, hl_r29_89, hl_r29_90, hl_r29_91, hl_r29_94, hl_r29_95, hl_r29_98, hl_r29_101, hl_r29_103, hl_r29_104, hl_r29_106, hl_r29_109, hl_r29_110, hl_r29_113, hl_r29_114, hl_o_68, hl_p_68_0, hl_p_68_1, hl_p_68_2, hl_p_68_3, hl_p_68_4, hl_p_68_5, hl_o_1, hl_p_1_0, hl_p_1_1, hl_p_1_2, hl_p_1_3, hl_p_1_4, hl_p_1_5, hl_p_1_6, hl_p_1_7, hl_p_1_9, hl_p_1_14, hl_p_1_15, hl_a_7, hl_z_7, bi, hl_cq (show i < 10000 by omega), eq_false A, eq_true B, not_true, hl_tv_t, hl_kill_i, hl_kill_r, hl_kill_n, hl_kill_l, hl_tl_s, hl_tl_n, hl_cal_some, hl_gI, hl_gJ, hl_gsI, hl_gsJ, hl_tv01, if_true, if_false, hl_up_a, hl_row_a]
        · rw [decide_eq_false (fun z => z.elim A B)]
          simp only [hl_r29_80, hl_r29_81, hl_r29_84, hl_r29_87, hl_r29_89, hl_r29_90, hl_r29_91, hl_r29_94, hl_r29_95, hl_r29_98, hl_r29_101, hl_r29_103, hl_r29_104, hl_r29_106, hl_r29_109, hl_r29_110, hl_r29_113, hl_r29_114, hl_o_68, hl_p_68_0, hl_p_68_1, hl_p_68_2, hl_p_68_3, hl_p_68_4, hl_p_68_5, hl_o_1, hl_p_1_0, hl_p_1_1, hl_p_1_2, hl_p_1_3, hl_p_1_4, hl_p_1_5, hl_p_1_6, hl_p_1_7, hl_p_1_9, hl_p_1_14, hl_p_1_15, hl_a_7, hl_z_7, bi, hl_cq (show i < 10000 by omega), eq_false A, eq_false B, not_false_eq_true, hl_tv_f, hl_kill_i, hl_kill_r, hl_kill_n, hl_kill_l, hl_tl_s, hl_tl_n, hl_cal_some, hl_gI, hl_gJ, hl_gsI, hl_gsJ, hl_tv01, if_true, if_false, hl_up_a, hl_row_a]
    generalize hb8 : decide (I 7 i = -1 ∨ I 7 i = nI (al j)) = b8 at seg2
    rw [seg0, seg1, seg2]
    have bz : hl_inb (nI (4 * hl_gr I wh i + j)) ((if N < 6 then 6 else N) * 4) = true := hl_inb_nI (by omega) (by split <;> omega)
    have gz2 : hl_gr I wh i < 24 := by have : (if N < 6 then 6 else N) ≤ 24 := by split <;> omega
                                       omega
    have fin : ∀ v : Int64, v.toInt = hl_cw I al x y i j → hl_Run 29 (hl_call (d + 1)) 116 [.ref 68, .int (hl_tv wh), .int x, .int y, .int (nI i), .int (nI j), .int (nI (al j)), .int (hl_tv b7), .int (hl_tv b8)] [] (hl_g N I J) = hl_Run 29 (hl_call (d + 1)) 43 [.ref 68, .int (hl_tv wh), .int x, .int y, .int (nI i), .int (nI (j + 1)), .int (nI (al j)), .int (hl_tv b7), .int (hl_tv b8)] [] (hl_g N I (hl_up J 80 (4 * hl_gr I wh i + j) (J 80 (4 * hl_gr I wh i + j) + v))) → ∃ J' m6 m7 m8, hl_Run 29 (hl_call (d + 1)) 116 [.ref 68, .int (hl_tv wh), .int x, .int y, .int (nI i), .int (nI j), .int (nI (al j)), .int (hl_tv b7), .int (hl_tv b8)] [] (hl_g N I J) = hl_Run 29 (hl_call (d + 1)) 170 [.ref 68, .int (hl_tv wh), .int x, .int y, .int (nI i), .int (nI m), m6, m7, m8] [] (hl_g N I J') ∧ (∀ q, q < (if N < 6 then 6 else N) * 4 → (J' 80 q).toInt = hl_gq I wh m al x y (i + 1) q) ∧ ∀ q, q ≠ 80 → J' q = J q := by
      intro v hv hr
      have cb := hl_cw_B (x := x) (y := y) hB hi (show j < m by omega)
      obtain ⟨J1, m6, m7, m8, e1, g1, g2⟩ := ih (hl_up J 80 (4 * hl_gr I wh i + j) (J 80 (4 * hl_gr I wh i + j) + v)) (j + 1) (.int (nI (al j))) (.int (hl_tv b7)) (.int (hl_tv b8)) (by omega) (fun q hq => by
        rw [hl_upJ]
        by_cases z : q = 4 * hl_gr I wh i + j
        · have z1 : q / 4 = hl_gr I wh i := by omega
          have z2 : q % 4 = j := by omega
          have o := hJ q hq
          rw [z1, z2, if_neg (by omega)] at o
          have gb := hl_gq_B (wh := wh) (x := x) (y := y) hB (show i ≤ N by omega) q
          rw [if_pos z, z1, z2, if_pos ⟨rfl, by omega⟩, ← z, Int64.toInt_add, hv, o, Int.bmod_eq_of_le (by omega) (by omega)]
          omega
        · rw [if_neg z, hJ q hq]
          congr 1
          by_cases w : hl_gr I wh i = q / 4 ∧ q % 4 < j
          · rw [if_pos w, if_pos ⟨w.1, by omega⟩]
          · rw [if_neg w, if_neg (fun w' => w ⟨w'.1, by omega⟩)])
      exact ⟨J1, m6, m7, m8, hr.trans e1, g1, fun q hq => by rw [g2 q hq, hl_up_ne _ _ _ hq]⟩
    have bB : (1000000000 : Int64).toInt = 1000000000 := rfl
    cases b7 with
    | true =>
      have nb := of_decide_eq_true hb7
      refine fin 1000000000 (by unfold hl_cw; rw [if_neg (fun z => z.2 nb)]; exact bB) ?_
      cases b8 <;> simp only [hl_r29_116, hl_r29_117, hl_r29_120, hl_r29_121, hl_r29_123, hl_r29_124, hl_r29_127, hl_r29_128, hl_r29_129, hl_r29_131, hl_r29_132, hl_r29_133, hl_r29_134, hl_r29_136, hl_r29_139, hl_r29_141, hl_r29_144, hl_r29_145, hl_r29_148, hl_r29_150, hl_r29_152, hl_r29_155, hl_r29_156, hl_r29_159, hl_r29_162, hl_r29_163, hl_r29_164, hl_r29_167, hl_o_68, hl_p_68_0, hl_p_68_1, hl_p_68_2, hl_p_68_3, hl_p_68_4, hl_p_68_5, hl_a_80, hl_z_80, s28, bz, hl_i4k, hl_cq (show 4 * hl_gr I wh i + j < 10000 by omega), hl_tv_t, hl_tv_f, hl_10, not_false_eq_true, not_true, en, hl_kill_i, hl_kill_r, hl_kill_n, hl_kill_l, hl_tl_s, hl_tl_n, hl_cal_some, hl_gI, hl_gJ, hl_gsI, hl_gsJ, hl_tv01, if_true, if_false, hl_up_a, hl_row_a]
    | false =>
      have nb := of_decide_eq_false hb7
      cases b8 with
      | true =>
        have nb8 := of_decide_eq_true hb8
        refine fin (I 64 (4 * i + al j)).toInt64 (by unfold hl_cw; rw [if_pos ⟨nb8, nb⟩, Int32.toInt_toInt64]) ?_
        simp only [hl_r29_116, hl_r29_117, hl_r29_120, hl_r29_121, hl_r29_123, hl_r29_124, hl_r29_127, hl_r29_128, hl_r29_129, hl_r29_131, hl_r29_132, hl_r29_133, hl_r29_134, hl_r29_136, hl_r29_139, hl_r29_141, hl_r29_144, hl_r29_145, hl_r29_148, hl_r29_150, hl_r29_152, hl_r29_155, hl_r29_156, hl_r29_159, hl_r29_162, hl_r29_163, hl_r29_164, hl_r29_167, hl_o_63, hl_p_63_0, hl_p_63_1, hl_p_63_2, hl_p_63_3, hl_o_68, hl_p_68_0, hl_p_68_1, hl_p_68_2, hl_p_68_3, hl_p_68_4, hl_p_68_5, hl_a_80, hl_z_80, s28, s48, bz, hl_i4k, hl_cq (show 4 * hl_gr I wh i + j < 10000 by omega), hl_tv_t, hl_tv_f, hl_10, not_false_eq_true, not_true, en, hl_kill_i, hl_kill_r, hl_kill_n, hl_kill_l, hl_tl_s, hl_tl_n, hl_cal_some, hl_gI, hl_gJ, hl_gsI, hl_gsJ, hl_tv01, if_true, if_false, hl_up_a, hl_row_a]
      | false =>
        have nb8 := of_decide_eq_false hb8
        refine fin 1000000000 (by unfold hl_cw; rw [if_neg (fun z => nb8 z.1)]; exact bB) ?_
        simp only [hl_r29_116, hl_r29_117, hl_r29_120, hl_r29_121, hl_r29_123, hl_r29_124, hl_r29_127, hl_r29_128, hl_r29_129, hl_r29_131, hl_r29_132, hl_r29_133, hl_r29_134, hl_r29_136, hl_r29_139, hl_r29_141, hl_r29_144, hl_r29_145, hl_r29_148, hl_r29_150, hl_r29_152, hl_r29_155, hl_r29_156, hl_r29_159, hl_r29_162, hl_r29_163, hl_r29_164, hl_r29_167, hl_o_68, hl_p_68_0, hl_p_68_1, hl_p_68_2, hl_p_68_3, hl_p_68_4, hl_p_68_5, hl_a_80, hl_z_80, s28, bz, hl_i4k, hl_cq (show 4 * hl_gr I wh i + j < 10000 by omega), hl_tv_t, hl_tv_f, hl_10, not_false_eq_true, not_true, en, hl_kill_i, hl_kill_r, hl_kill_n, hl_kill_l, hl_tl_s, hl_tl_n, hl_cal_some, hl_gI, hl_gJ, hl_gsI, hl_gsJ, hl_tv01, if_true, if_false, hl_up_a, hl_row_a]
theorem hl_l29z {c : hl_C} {wv : Int32} (hN : N ≤ 24) (f : Nat) : ∀ (J : Nat → Nat → Int64) (i : Nat), i + f = (if N < 6 then 6 else N) * 4 → ∃ J', hl_Run 29 c 3 [.ref 68, .int wv, .int x, .int y, .int (nI i), .null, .null, .null, .null] [] (hl_g N I J) = hl_Run 29 c 27 [.ref 68, .int wv, .int x, .int y, .int (nI ((if N < 6 then 6 else N) * 4)), .null, .null, .null, .null] [] (hl_g N I J') ∧ (∀ q, q < i → J' 80 q = J 80 q) ∧ (∀ q, i ≤ q → q < (if N < 6 then 6 else N) * 4 → J' 80 q = 0) ∧ ∀ q, q ≠ 80 → J' q = J q := by
  have hZ : (if N < 6 then 6 else N) ≤ 24 := by split <;> omega
  have e0 : Int32.ofNat ((if N < 6 then 6 else N) * 4) = nI ((if N < 6 then 6 else N) * 4) := rfl
  induction f with
  | zero =>
    intro J i hi
    obtain rfl : i = (if N < 6 then 6 else N) * 4 := by omega
    refine ⟨J, ?_, fun _ _ => rfl, fun q h1 h2 => by omega, fun _ _ => rfl⟩
    simp only [hl_r29_3, hl_r29_5, hl_r29_6, hl_r29_9, hl_r29_10, hl_o_68, hl_p_68_0, hl_p_68_1, hl_p_68_2, hl_p_68_3, hl_p_68_4, hl_p_68_5, hl_a_80, hl_z_80, hl_l_80, e0, Int32.le_refl, hl_kill_i, hl_kill_r, hl_kill_n, hl_kill_l, hl_tl_s, hl_tl_n, hl_cal_some, hl_gI, hl_gJ, hl_gsI, hl_gsJ, hl_tv01, if_true, if_false, hl_up_a, hl_row_a]
  | succ f ih =>
    intro J i hi
    have c1 : ¬ nI ((if N < 6 then 6 else N) * 4) ≤ nI i := nI_ge (by omega) (by omega)
    have en : nI i + 1 = nI (i + 1) := (nI_succ i).symm
    have bi : hl_inb (nI i) ((if N < 6 then 6 else N) * 4) = true := hl_inb_nI (by omega) (by omega)
    obtain ⟨J1, e1, g1, g2, g3⟩ := ih (hl_up J 80 i 0) (i + 1) (by omega)
    refine ⟨J1, ?_, fun q hq => by rw [g1 q (by omega), hl_upJ, if_neg (by omega)], fun q h1 h2 => ?_, fun q hq => by rw [g3 q hq, hl_up_ne _ _ _ hq]⟩
    · rw [← e1, hl_r29_3]
      simp only [hl_r29_5, hl_r29_6, hl_r29_9, hl_r29_10, hl_r29_13, hl_r29_14, hl_r29_17, hl_r29_19, hl_r29_20, hl_r29_21, hl_r29_24, hl_o_68, hl_p_68_0, hl_p_68_1, hl_p_68_2, hl_p_68_3, hl_p_68_4, hl_p_68_5, hl_a_80, hl_z_80, hl_l_80, e0, c1, bi, hl_cq (show i < 10000 by omega), en, hl_kill_i, hl_kill_r, hl_kill_n, hl_kill_l, hl_tl_s, hl_tl_n, hl_cal_some, hl_gI, hl_gJ, hl_gsI, hl_gsJ, hl_tv01, if_true, if_false, hl_up_a, hl_row_a]
    · by_cases z : q = i
      · rw [z, g1 i (by omega), hl_upJ, if_pos rfl]
      · exact g2 q (by omega) h2
theorem hl_l29 (hN : N ≤ 24) (h4 : m ≤ 4) (hm : I 68 6 = nI m) (hal : ∀ k, k < m → I 78 k = nI (al k) ∧ al k < 4) (hst : ∀ i, i < N → ∃ q, q < 6 ∧ I 4 i = nI q) (hB : ∀ c k, c < N → k < m → 0 ≤ (I 64 (4 * c + al k)).toInt ∧ (I 64 (4 * c + al k)).toInt ≤ 1000000000) (f : Nat) : ∀ (J : Nat → Nat → Int64) (i : Nat) (l5 l6 l7 l8 : Value), i + f = N → (∀ q, q < (if N < 6 then 6 else N) * 4 → (J 80 q).toInt = hl_gq I wh m al x y i q) → ∃ J', hl_Run 29 (hl_call (d + 1)) 30 [.ref 68, .int (hl_tv wh), .int x, .int y, .int (nI i), l5, l6, l7, l8] [] (hl_g N I J) = some (none, hl_g N I J') ∧ (∀ q, q < (if N < 6 then 6 else N) * 4 → (J' 80 q).toInt = hl_gq I wh m al x y N q) ∧ ∀ q, q ≠ 80 → J' q = J q := by
  have e0 : Int32.ofNat N = nI N := rfl
  induction f with
  | zero =>
    intro J i l5 l6 l7 l8 hi hJ
    obtain rfl : i = N := by omega
    refine ⟨J, ?_, hJ, fun _ _ => rfl⟩
    simp only [hl_r29_30, hl_r29_32, hl_r29_33, hl_r29_36, hl_r29_37, hl_r29_176, hl_o_68, hl_p_68_0, hl_p_68_1, hl_p_68_2, hl_p_68_3, hl_p_68_4, hl_p_68_5, hl_a_79, hl_z_79, hl_l_79, e0, Int32.le_refl, hl_kill_i, hl_kill_r, hl_kill_n, hl_kill_l, hl_tl_s, hl_tl_n, hl_cal_some, hl_gI, hl_gJ, hl_gsI, hl_gsJ, hl_tv01, if_true, if_false, hl_up_a, hl_row_a]
  | succ f ih =>
    intro J i l5 l6 l7 l8 hi hJ
    have c1 : ¬ nI N ≤ nI i := nI_ge (by omega) (by omega)
    have en : nI i + 1 = nI (i + 1) := (nI_succ i).symm
    obtain ⟨J1, m6, m7, m8, e1, g1, g2⟩ := hl_l29j (d := d) (wh := wh) (x := x) (y := y) (i := i) (by omega) hN h4 hm hal (hst i (by omega)) hB m J 0 l6 l7 l8 (by omega) (fun q hq => by rw [hJ q hq, if_neg (by omega)]; omega)
    obtain ⟨J2, e2, k1, k2⟩ := ih J1 (i + 1) (.int (nI m)) m6 m7 m8 (by omega) g1
    refine ⟨J2, ?_, k1, fun q hq => by rw [k2 q hq, g2 q hq]⟩
    have z0 : (0 : Int32) = nI 0 := rfl
    have st : hl_Run 29 (hl_call (d + 1)) 30 [.ref 68, .int (hl_tv wh), .int x, .int y, .int (nI i), l5, l6, l7, l8] [] (hl_g N I J) = hl_Run 29 (hl_call (d + 1)) 43 [.ref 68, .int (hl_tv wh), .int x, .int y, .int (nI i), .int (nI 0), l6, l7, l8] [] (hl_g N I J) := by
      rw [← z0]
      simp only [hl_r29_30, hl_r29_32, hl_r29_33, hl_r29_36, hl_r29_37, hl_r29_40, hl_r29_41, hl_o_68, hl_p_68_0, hl_p_68_1, hl_p_68_2, hl_p_68_3, hl_p_68_4, hl_p_68_5, hl_a_79, hl_z_79, hl_l_79, e0, c1, hl_kill_i, hl_kill_r, hl_kill_n, hl_kill_l, hl_tl_s, hl_tl_n, hl_cal_some, hl_gI, hl_gJ, hl_gsI, hl_gsJ, hl_tv01, if_true, if_false, hl_up_a, hl_row_a]
    rw [st, e1, ← e2]
    simp only [hl_r29_170, hl_r29_173, en, hl_kill_i, hl_kill_r, hl_kill_n, hl_kill_l, hl_tl_s, hl_tl_n, hl_cal_some, hl_gI, hl_gJ, hl_gsI, hl_gsJ, hl_tv01, if_true, if_false, hl_up_a, hl_row_a]
theorem hl_s29 (hN : N ≤ 24) (h4 : m ≤ 4) (hm : I 68 6 = nI m) (hal : ∀ k, k < m → I 78 k = nI (al k) ∧ al k < 4) (hst : ∀ i, i < N → ∃ q, q < 6 ∧ I 4 i = nI q) (hB : ∀ c k, c < N → k < m → 0 ≤ (I 64 (4 * c + al k)).toInt ∧ (I 64 (4 * c + al k)).toInt ≤ 1000000000) : ∃ J', hl_call (d + 2) 29 [.ref 68, .int (hl_tv wh), .int x, .int y] (hl_g N I J) = some (none, hl_g N I J') ∧ (∀ q, q < (if N < 6 then 6 else N) * 4 → (J' 80 q).toInt = hl_gq I wh m al x y N q) ∧ ∀ q, q ≠ 80 → J' q = J q := by
  have z0 : (0 : Int32) = nI 0 := rfl
  obtain ⟨J1, e1, -, g1, g2⟩ := hl_l29z (I := I) (x := x) (y := y) (c := hl_call (d + 1)) (wv := hl_tv wh) hN ((if N < 6 then 6 else N) * 4) J 0 (by omega)
  obtain ⟨J2, e2, k1, k2⟩ := hl_l29 (d := d) (wh := wh) (x := x) (y := y) hN h4 hm hal hst hB N J1 0 .null .null .null .null (by omega) (fun q hq => by rw [g1 q (by omega) hq]; rfl)
  refine ⟨J2, ?_, k1, fun q hq => by rw [k2 q hq, g2 q hq]⟩
  rw [← z0] at e1 e2
  rw [← e2, hl_e29, hl_r29_0, hl_r29_1]
  simp only [hl_kill_i, hl_kill_r, hl_kill_n, hl_kill_l, hl_tl_s, hl_tl_n, hl_cal_some, hl_gI, hl_gJ, hl_gsI, hl_gsJ, hl_tv01, if_true, if_false, hl_up_a, hl_row_a]
  rw [e1]
  simp only [hl_r29_27, hl_r29_28, hl_kill_i, hl_kill_r, hl_kill_n, hl_kill_l, hl_tl_s, hl_tl_n, hl_cal_some, hl_gI, hl_gJ, hl_gsI, hl_gsJ, hl_tv01, if_true, if_false, hl_up_a, hl_row_a]
end HLWEI
