/-! the reference's network: a square of rooms -/
def hl_rq (p : Nat) : Nat := 74 * (p % 74) + p / 74
def hl_NR (J : Nat → Nat → Int64) (Bd : Int) (C : (Nat → Bool) → Int) : Prop := ∃ r : Nat → Int, (∀ p, p < 5476 → (J 96 p).toInt = r p ∧ 0 ≤ r p ∧ r p + r (hl_rq p) ≤ Bd) ∧ ∀ S, hl_fM 5476 (fun p => p / 74) (fun p => p % 74) r S = C S
theorem hl_NR_le {J : Nat → Nat → Int64} {Bd Bd' : Int} {C C' : (Nat → Bool) → Int} (h : hl_NR J Bd C) (hB : Bd ≤ Bd') (e : ∀ S, C S = C' S) : hl_NR J Bd' C' := by
  obtain ⟨r, a, b⟩ := h
  exact ⟨r, fun p hp => ⟨(a p hp).1, (a p hp).2.1, Int.le_trans (a p hp).2.2 hB⟩, fun S => (b S).trans (e S)⟩
theorem hl_i74 {u v : Nat} : (74 : Int32) * nI u + nI v = nI (74 * u + v) := by
  have e : (74 : Int32) = nI 74 := rfl
  rw [e, nI_mul, nI_add]
theorem hl_i4g {g k : Nat} : (4 : Int32) * nI g + nI k = nI (4 * g + k) := by
  have e : (4 : Int32) = nI 4 := rfl
  rw [e, nI_mul, nI_add]
section HLRL
variable {d N m g G k : Nat} {I I' : Nat → Nat → Int32} {J J' : Nat → Nat → Int64} {C : (Nat → Bool) → Int} {Bd : Int}
theorem hl_s224 {u v : Nat} {t : Int64} (h : hl_NR J Bd C) (hu : u < 74) (hv : v < 74) (h0 : 0 ≤ t.toInt) (h1 : t.toInt ≤ 100000000000) (hB : Bd ≤ 1000000000000000) : ∃ J', hl_call (d + 1) 224 [.ref 85, .int (nI u), .int (nI v), .long t] (hl_g N I J) = some (none, hl_g N I J') ∧ hl_NR J' (Bd + 200000000000) (fun S => C S + hl_fs S u v t.toInt) ∧ ∀ q, q ≠ 96 → J' q = J q := by
  obtain ⟨r, a, b⟩ := h
  have hp : 74 * u + v < 5476 := by omega
  have bp : hl_inb (nI (74 * u + v)) 5476 = true := hl_inb_nI hp (by decide)
  obtain ⟨a1, a2, a3⟩ := a (74 * u + v) hp
  have rq0 : ∀ p, p < 5476 → 0 ≤ r (hl_rq p) := fun p hq => (a (hl_rq p) (by unfold hl_rq; omega)).2.1
  have a4 := rq0 (74 * u + v) hp
  have eadd : (J 96 (74 * u + v) + t).toInt = r (74 * u + v) + t.toInt := by rw [Int64.toInt_add, a1, Int.bmod_eq_of_le (by omega) (by omega)]
  refine ⟨hl_up J 96 (74 * u + v) (J 96 (74 * u + v) + t), ?_, ⟨hl_ru r (74 * u + v) (r (74 * u + v) + t.toInt), fun p hq => ?_, fun S => ?_⟩, fun q hq => hl_up_ne _ _ _ hq⟩
  · rw [hl_e224]
    simp only [hl_r224_0, hl_r224_1, hl_r224_4, hl_r224_6, hl_r224_7, hl_r224_8, hl_r224_9, hl_r224_10, hl_r224_11, hl_r224_12, hl_r224_13, hl_r224_14, hl_r224_15, hl_o_85, hl_p_85_3, hl_p_85_4, hl_p_85_5, hl_p_85_6, hl_p_85_19, hl_p_85_23, hl_p_85_24, hl_p_85_25, hl_p_85_26, hl_p_85_27, hl_p_85_28, hl_p_85_29, hl_p_85_30, hl_p_85_31, hl_p_85_33, hl_p_85_34, hl_p_85_35, hl_p_85_36, hl_p_85_37, hl_a_96, hl_z_96, hl_i74, bp, hl_cq (show 74 * u + v < 10000 by omega), hl_kill_i, hl_kill_r, hl_kill_n, hl_kill_l, hl_tl_s, hl_tl_n, hl_cal_some, hl_gI, hl_gJ, hl_gsI, hl_gsJ, hl_tv01, if_true, if_false, hl_up_a, hl_row_a]
  · obtain ⟨b1, b2, b3⟩ := a p hq
    have b4 := rq0 p hq
    have le : ∀ q, hl_ru r (74 * u + v) (r (74 * u + v) + t.toInt) q ≤ r q + t.toInt := fun q => by
      unfold hl_ru
      split
      · next z => rw [z]; exact Int.le_refl _
      · omega
    refine ⟨?_, ?_, ?_⟩
    · rw [hl_up_a, if_pos rfl]
      unfold hl_ru
      by_cases z : p = 74 * u + v
      · rw [if_pos z, if_pos z]; exact eadd
      · rw [if_neg z, if_neg z]; exact b1
    · unfold hl_ru
      split <;> omega
    · have l1 := le p
      have l2 := le (hl_rq p)
      omega
  · rw [hl_fM_up hp, b S]
    show C S + hl_fs S ((74 * u + v) / 74) ((74 * u + v) % 74) (r (74 * u + v) + t.toInt - r (74 * u + v)) = _
    rw [show (74 * u + v) / 74 = u by omega, show (74 * u + v) % 74 = v by omega, show r (74 * u + v) + t.toInt - r (74 * u + v) = t.toInt by omega]
theorem hl_s223 (hm : I 85 32 = nI m) (hk : k + 1 < m) : hl_call (d + 1) 223 [.ref 85, .int (nI g), .int (nI k)] (hl_g N I J) = some (some (.int (nI (hl_nd m g (k + 1)))), hl_g N I J) := by
  rw [hl_e223]
  unfold hl_nd
  rw [if_neg (by omega), if_neg (by omega)]
  have e1 : nI m - 1 = nI (m - 1) := hl_nsb (by omega)
  have e2 : (2 : Int32) + nI g * nI (m - 1) + nI k = nI (2 + g * (m - 1) + (k + 1) - 1) := by
    have e : (2 : Int32) = nI 2 := rfl
    rw [e, nI_mul, nI_add, nI_add]
    congr 1
  simp only [hl_r223_0, hl_r223_1, hl_r223_2, hl_r223_3, hl_r223_6, hl_r223_7, hl_r223_8, hl_r223_9, hl_r223_10, hl_r223_11, hl_r223_12, hl_o_85, hl_p_85_3, hl_p_85_4, hl_p_85_5, hl_p_85_6, hl_p_85_19, hl_p_85_23, hl_p_85_24, hl_p_85_25, hl_p_85_26, hl_p_85_27, hl_p_85_28, hl_p_85_29, hl_p_85_30, hl_p_85_31, hl_p_85_33, hl_p_85_34, hl_p_85_35, hl_p_85_36, hl_p_85_37, hm, e1, e2, hl_kill_i, hl_kill_r, hl_kill_n, hl_kill_l, hl_tl_s, hl_tl_n, hl_cal_some, hl_gI, hl_gJ, hl_gsI, hl_gsJ, hl_tv01, if_true, if_false, hl_up_a, hl_row_a]
theorem hl_l225 {nd : Nat} (h4 : m ≤ 4) (hg : g < G) (hG : G ≤ 24) (end_ : nd = 2 + G * (m - 1)) (hn74 : nd ≤ 74) (gp : Nat → Int) (hm : I 85 32 = nI m) (f : Nat) : ∀ (J : Nat → Nat → Int64) (Bd : Int) (C : (Nat → Bool) → Int) (k : Nat) (l3 l4 : Value), k + f = m → hl_NR J Bd C → Bd + (f : Int) * 400000000000 ≤ 1000000000000000 → (∀ k, k < m → (J 101 (4 * g + k)).toInt = gp (4 * g + k) ∧ 0 ≤ gp (4 * g + k) ∧ gp (4 * g + k) ≤ 100000000000) → ∃ J', hl_Run 225 (hl_call (d + 1)) 2 [.ref 85, .int (nI g), .int (nI k), l3, l4] [] (hl_g N I J) = some (none, hl_g N I J') ∧ hl_NR J' (Bd + (f : Int) * 400000000000) (fun S => C S + (hl_si m (hl_ch 40000000000 m gp g S) - hl_si k (hl_ch 40000000000 m gp g S))) ∧ ∀ q, q ≠ 96 → J' q = J q := by
  induction f with
  | zero =>
    intro J Bd C k l3 l4 hk hW hB hgp
    obtain rfl : k = m := by omega
    refine ⟨J, ?_, hl_NR_le hW (by omega) (fun S => by rw [Int.sub_self, Int.add_zero]), fun _ _ => rfl⟩
    simp only [hl_r225_2, hl_r225_3, hl_r225_4, hl_r225_7, hl_r225_96, hl_o_85, hl_p_85_3, hl_p_85_4, hl_p_85_5, hl_p_85_6, hl_p_85_19, hl_p_85_23, hl_p_85_24, hl_p_85_25, hl_p_85_26, hl_p_85_27, hl_p_85_28, hl_p_85_29, hl_p_85_30, hl_p_85_31, hl_p_85_33, hl_p_85_34, hl_p_85_35, hl_p_85_36, hl_p_85_37, hm, Int32.le_refl, hl_kill_i, hl_kill_r, hl_kill_n, hl_kill_l, hl_tl_s, hl_tl_n, hl_cal_some, hl_gI, hl_gJ, hl_gsI, hl_gsJ, hl_tv01, if_true, if_false, hl_up_a, hl_row_a]
  | succ f ih =>
    intro J Bd C k l3 l4 hk hW hB hgp
    have c1 : ¬ nI m ≤ nI k := nI_ge (by omega) (by omega)
    have en : nI k + 1 = nI (k + 1) := (nI_succ k).symm
    have em1 : nI m - 1 = nI (m - 1) := hl_nsb (by omega)
    have e4 : ((f + 1 : Nat) : Int) * 400000000000 = (f : Int) * 400000000000 + 400000000000 := by omega
    rw [e4] at hB ⊢
    have seg1 : hl_Run 225 (hl_call (d + 1)) 2 [.ref 85, .int (nI g), .int (nI k), l3, l4] [] (hl_g N I J) = hl_Run 225 (hl_call (d + 1)) 27 [.ref 85, .int (nI g), .int (nI k), .int (nI (hl_nd m g k)), l4] [] (hl_g N I J) := by
      by_cases z : k = 0
      · have c2 : nI k = 0 := by rw [z]; rfl
        have c3 : nI (hl_nd m g k) = 0 := by unfold hl_nd; rw [if_pos z]; rfl
        simp only [hl_r225_2, hl_r225_3, hl_r225_4, hl_r225_7, hl_r225_10, hl_r225_11, hl_r225_14, hl_r225_15, hl_r225_18, hl_r225_19, hl_r225_20, hl_r225_21, hl_r225_22, hl_r225_23, hl_r225_26, hl_o_85, hl_p_85_3, hl_p_85_4, hl_p_85_5, hl_p_85_6, hl_p_85_19, hl_p_85_23, hl_p_85_24, hl_p_85_25, hl_p_85_26, hl_p_85_27, hl_p_85_28, hl_p_85_29, hl_p_85_30, hl_p_85_31, hl_p_85_33, hl_p_85_34, hl_p_85_35, hl_p_85_36, hl_p_85_37, hm, c1, eq_true c2, c3, not_true, hl_kill_i, hl_kill_r, hl_kill_n, hl_kill_l, hl_tl_s, hl_tl_n, hl_cal_some, hl_gI, hl_gJ, hl_gsI, hl_gsJ, hl_tv01, if_true, if_false, hl_up_a, hl_row_a]
      · have c2 : ¬ nI k = 0 := nI_ne0 (by omega) (by omega)
        have ek : nI k - 1 = nI (k - 1) := hl_nsb (by omega)
        have s223 := hl_s223 (d := d) (N := N) (J := J) (g := g) (k := k - 1) hm (by omega)
        rw [show k - 1 + 1 = k by omega] at s223
        simp only [hl_r225_2, hl_r225_3, hl_r225_4, hl_r225_7, hl_r225_10, hl_r225_11, hl_r225_14, hl_r225_15, hl_r225_18, hl_r225_19, hl_r225_20, hl_r225_21, hl_r225_22, hl_r225_23, hl_r225_26, hl_o_85, hl_p_85_3, hl_p_85_4, hl_p_85_5, hl_p_85_6, hl_p_85_19, hl_p_85_23, hl_p_85_24, hl_p_85_25, hl_p_85_26, hl_p_85_27, hl_p_85_28, hl_p_85_29, hl_p_85_30, hl_p_85_31, hl_p_85_33, hl_p_85_34, hl_p_85_35, hl_p_85_36, hl_p_85_37, hm, c1, c2, not_false_eq_true, ek, s223, hl_kill_i, hl_kill_r, hl_kill_n, hl_kill_l, hl_tl_s, hl_tl_n, hl_cal_some, hl_gI, hl_gJ, hl_gsI, hl_gsJ, hl_tv01, if_true, if_false, hl_up_a, hl_row_a]
    have seg2 : hl_Run 225 (hl_call (d + 1)) 27 [.ref 85, .int (nI g), .int (nI k), .int (nI (hl_nd m g k)), l4] [] (hl_g N I J) = hl_Run 225 (hl_call (d + 1)) 49 [.ref 85, .int (nI g), .int (nI k), .int (nI (hl_nd m g k)), .int (nI (hl_nd m g (k + 1)))] [] (hl_g N I J) := by
      by_cases z : k = m - 1
      · have c2 : nI k = nI (m - 1) := by rw [z]
        have c3 : nI (hl_nd m g (k + 1)) = 1 := by unfold hl_nd; rw [if_neg (by omega), if_pos (by omega)]; rfl
        simp only [hl_r225_27, hl_r225_28, hl_r225_29, hl_r225_32, hl_r225_33, hl_r225_34, hl_r225_37, hl_r225_38, hl_r225_41, hl_r225_42, hl_r225_43, hl_r225_44, hl_r225_47, hl_o_85, hl_p_85_3, hl_p_85_4, hl_p_85_5, hl_p_85_6, hl_p_85_19, hl_p_85_23, hl_p_85_24, hl_p_85_25, hl_p_85_26, hl_p_85_27, hl_p_85_28, hl_p_85_29, hl_p_85_30, hl_p_85_31, hl_p_85_33, hl_p_85_34, hl_p_85_35, hl_p_85_36, hl_p_85_37, hm, em1, eq_true c2, c3, not_true, hl_kill_i, hl_kill_r, hl_kill_n, hl_kill_l, hl_tl_s, hl_tl_n, hl_cal_some, hl_gI, hl_gJ, hl_gsI, hl_gsJ, hl_tv01, if_true, if_false, hl_up_a, hl_row_a]
      · have c2 : ¬ nI k = nI (m - 1) := fun q => z ((nI_eq (by omega) (by omega)).mp q)
        have s223 := hl_s223 (d := d) (N := N) (J := J) (g := g) (k := k) hm (by omega)
        simp only [hl_r225_27, hl_r225_28, hl_r225_29, hl_r225_32, hl_r225_33, hl_r225_34, hl_r225_37, hl_r225_38, hl_r225_41, hl_r225_42, hl_r225_43, hl_r225_44, hl_r225_47, hl_o_85, hl_p_85_3, hl_p_85_4, hl_p_85_5, hl_p_85_6, hl_p_85_19, hl_p_85_23, hl_p_85_24, hl_p_85_25, hl_p_85_26, hl_p_85_27, hl_p_85_28, hl_p_85_29, hl_p_85_30, hl_p_85_31, hl_p_85_33, hl_p_85_34, hl_p_85_35, hl_p_85_36, hl_p_85_37, hm, em1, c2, not_false_eq_true, s223, hl_kill_i, hl_kill_r, hl_kill_n, hl_kill_l, hl_tl_s, hl_tl_n, hl_cal_some, hl_gI, hl_gJ, hl_gsI, hl_gsJ, hl_tv01, if_true, if_false, hl_up_a, hl_row_a]
    rw [seg1, seg2]
    obtain ⟨p1, p2, p3⟩ := hgp k (by omega)
    have bz : hl_inb (nI (4 * g + k)) 96 = true := hl_inb_nI (by omega) (by decide)
    have lu : hl_nd m g k < 74 := by have := hl_nd_lt (m := m) (k := k) hg end_; omega
    have lv : hl_nd m g (k + 1) < 74 := by have := hl_nd_lt (m := m) (k := k + 1) hg end_; omega
    obtain ⟨J1, e1, W1, j1⟩ := hl_s224 (d := d) (N := N) (I := I) (t := J 101 (4 * g + k)) hW lu lv (by omega) (by omega) (by omega)
    have st : hl_Run 225 (hl_call (d + 1)) 49 [.ref 85, .int (nI g), .int (nI k), .int (nI (hl_nd m g k)), .int (nI (hl_nd m g (k + 1)))] [] (hl_g N I J) = hl_Run 225 (hl_call (d + 1)) 66 [.ref 85, .int (nI g), .int (nI k), .int (nI (hl_nd m g k)), .int (nI (hl_nd m g (k + 1)))] [] (hl_g N I J1) := by
      simp only [hl_r225_49, hl_r225_50, hl_r225_51, hl_r225_53, hl_r225_54, hl_r225_57, hl_r225_58, hl_r225_59, hl_r225_60, hl_r225_61, hl_r225_62, hl_r225_63, hl_o_85, hl_p_85_3, hl_p_85_4, hl_p_85_5, hl_p_85_6, hl_p_85_19, hl_p_85_23, hl_p_85_24, hl_p_85_25, hl_p_85_26, hl_p_85_27, hl_p_85_28, hl_p_85_29, hl_p_85_30, hl_p_85_31, hl_p_85_33, hl_p_85_34, hl_p_85_35, hl_p_85_36, hl_p_85_37, hl_a_101, hl_z_101, hl_i4g, bz, hl_cq (show 4 * g + k < 10000 by omega), e1, hl_kill_i, hl_kill_r, hl_kill_n, hl_kill_l, hl_tl_s, hl_tl_n, hl_cal_some, hl_gI, hl_gJ, hl_gsI, hl_gsJ, hl_tv01, if_true, if_false, hl_up_a, hl_row_a]
    rw [st]
    have gp1 : ∀ k, k < m → (J1 101 (4 * g + k)).toInt = gp (4 * g + k) ∧ 0 ≤ gp (4 * g + k) ∧ gp (4 * g + k) ≤ 100000000000 := fun q hq => by rw [j1 101 (by decide)]; exact hgp q hq
    have b40 : (40000000000 : Int64).toInt = 40000000000 := rfl
    have si1 : ∀ S, hl_si (k + 1) (hl_ch 40000000000 m gp g S) = hl_si k (hl_ch 40000000000 m gp g S) + (hl_fs S (hl_nd m g k) (hl_nd m g (k + 1)) (gp (4 * g + k)) + hl_fs S (hl_nd m g (k + 1)) (hl_nd m g k) (if 0 < k ∧ k + 1 < m then 40000000000 else 0)) := fun S => rfl
    by_cases y : 0 < k ∧ k + 1 < m
    · obtain ⟨J2, e2, W2, j2⟩ := hl_s224 (d := d) (N := N) (I := I) (t := (40000000000 : Int64)) W1 lv lu (by rw [b40]; omega) (by rw [b40]; omega) (by omega)
      obtain ⟨J3, e3, W3, j3⟩ := ih J2 _ _ (k + 1) (.int (nI (hl_nd m g k))) (.int (nI (hl_nd m g (k + 1)))) (by omega) W2 (by omega) (fun q hq => by rw [j2 101 (by decide)]; exact gp1 q hq)
      refine ⟨J3, ?_, hl_NR_le W3 (by omega) (fun S => ?_), fun q hq => by rw [j3 q hq, j2 q hq, j1 q hq]⟩
      · have c2 : ¬ nI k ≤ 0 := show ¬ nI k ≤ nI 0 from nI_ge (by omega) (by omega)
        have c3 : ¬ nI (m - 1) ≤ nI k := nI_ge (by omega) (by omega)
        rw [← e3]
        simp only [hl_r225_66, hl_r225_67, hl_r225_70, hl_r225_71, hl_r225_72, hl_r225_75, hl_r225_76, hl_r225_77, hl_r225_80, hl_r225_81, hl_r225_83, hl_r225_84, hl_r225_87, hl_r225_90, hl_r225_93, hl_o_85, hl_p_85_3, hl_p_85_4, hl_p_85_5, hl_p_85_6, hl_p_85_19, hl_p_85_23, hl_p_85_24, hl_p_85_25, hl_p_85_26, hl_p_85_27, hl_p_85_28, hl_p_85_29, hl_p_85_30, hl_p_85_31, hl_p_85_33, hl_p_85_34, hl_p_85_35, hl_p_85_36, hl_p_85_37, hm, em1, c2, c3, e2, en, hl_kill_i, hl_kill_r, hl_kill_n, hl_kill_l, hl_tl_s, hl_tl_n, hl_cal_some, hl_gI, hl_gJ, hl_gsI, hl_gsJ, hl_tv01, if_true, if_false, hl_up_a, hl_row_a]
      · rw [si1 S, if_pos y, p1, b40]
        omega
    · obtain ⟨J3, e3, W3, j3⟩ := ih J1 _ _ (k + 1) (.int (nI (hl_nd m g k))) (.int (nI (hl_nd m g (k + 1)))) (by omega) W1 (by omega) gp1
      refine ⟨J3, ?_, hl_NR_le W3 (by omega) (fun S => ?_), fun q hq => by rw [j3 q hq, j1 q hq]⟩
      · rw [← e3]
        by_cases z : k = 0
        · have c2 : nI k ≤ 0 := by rw [z]; exact Int32.le_refl 0
          simp only [hl_r225_66, hl_r225_67, hl_r225_70, hl_r225_71, hl_r225_72, hl_r225_75, hl_r225_76, hl_r225_77, hl_r225_80, hl_r225_81, hl_r225_83, hl_r225_84, hl_r225_87, hl_r225_90, hl_r225_93, hl_o_85, hl_p_85_3, hl_p_85_4, hl_p_85_5, hl_p_85_6, hl_p_85_19, hl_p_85_23, hl_p_85_24, hl_p_85_25, hl_p_85_26, hl_p_85_27, hl_p_85_28, hl_p_85_29, hl_p_85_30, hl_p_85_31, hl_p_85_33, hl_p_85_34, hl_p_85_35, hl_p_85_36, hl_p_85_37, c2, en, hl_kill_i, hl_kill_r, hl_kill_n, hl_kill_l, hl_tl_s, hl_tl_n, hl_cal_some, hl_gI, hl_gJ, hl_gsI, hl_gsJ, hl_tv01, if_true, if_false, hl_up_a, hl_row_a]
        · have c2 : ¬ nI k ≤ 0 := show ¬ nI k ≤ nI 0 from nI_ge (by omega) (by omega)
          have c3 : nI (m - 1) ≤ nI k := nI_le (by omega) (by omega)
          simp only [hl_r225_66, hl_r225_67, hl_r225_70, hl_r225_71, hl_r225_72, hl_r225_75, hl_r225_76, hl_r225_77, hl_r225_80, hl_r225_81, hl_r225_83, hl_r225_84, hl_r225_87, hl_r225_90, hl_r225_93, hl_o_85, hl_p_85_3, hl_p_85_4, hl_p_85_5, hl_p_85_6, hl_p_85_19, hl_p_85_23, hl_p_85_24, hl_p_85_25, hl_p_85_26, hl_p_85_27, hl_p_85_28, hl_p_85_29, hl_p_85_30, hl_p_85_31, hl_p_85_33, hl_p_85_34, hl_p_85_35, hl_p_85_36, hl_p_85_37, hm, em1, c2, c3, en, hl_kill_i, hl_kill_r, hl_kill_n, hl_kill_l, hl_tl_s, hl_tl_n, hl_cal_some, hl_gI, hl_gJ, hl_gsI, hl_gsJ, hl_tv01, if_true, if_false, hl_up_a, hl_row_a]
      · rw [si1 S, if_neg y, p1]
        have : hl_fs S (hl_nd m g (k + 1)) (hl_nd m g k) 0 = 0 := by unfold hl_fs; split <;> rfl
        omega
end HLRL
