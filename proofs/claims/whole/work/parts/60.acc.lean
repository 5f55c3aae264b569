/-! what the land's numbers are; about, clock, early, one, loses -/
def hl_fnd (p : Nat → Bool) : Nat → Nat → Int32
  | 0, _ => -1
  | f + 1, i => if p i = true then nI i else hl_fnd p f (i + 1)
def hl_sel (A : Nat → Int32) : Nat → Nat → Nat → Nat
  | 0, _, ch => ch
  | f + 1, i, ch => hl_sel A f (i + 1) (if A i < A ch then i else ch)
def hl_mn (A : Nat → Int32) : Nat → Int32
  | 0 => A 0
  | n + 1 => if A (n + 1) < hl_mn A n then A (n + 1) else hl_mn A n
theorem hl_mn_lt {A : Nat → Int32} {x : Int32} (n : Nat) : hl_mn A n < x ↔ ∃ h, h ≤ n ∧ A h < x := by
  induction n with
  | zero =>
    constructor
    · intro h; exact ⟨0, Nat.le_refl 0, h⟩
    · intro ⟨h, h1, h2⟩
      have : h = 0 := by omega
      subst this
      exact h2
  | succ n ih =>
    unfold hl_mn
    by_cases q : A (n + 1) < hl_mn A n
    · rw [if_pos q]
      constructor
      · intro h; exact ⟨n + 1, Nat.le_refl _, h⟩
      · intro ⟨h, h1, h2⟩
        by_cases e : h = n + 1
        · subst e; exact h2
        · have := ih.mpr ⟨h, by omega, h2⟩
          rw [Int32.lt_iff_toInt_lt] at q this ⊢
          omega
    · rw [if_neg q, ih]
      constructor
      · intro ⟨h, h1, h2⟩; exact ⟨h, by omega, h2⟩
      · intro ⟨h, h1, h2⟩
        by_cases e : h = n + 1
        · subst e
          refine ih.mp ?_
          rw [Int32.lt_iff_toInt_lt] at q h2 ⊢
          omega
        · exact ⟨h, by omega, h2⟩
def hl_any (p : Nat → Bool) : Nat → Bool
  | 0 => false
  | n + 1 => hl_any p n || p n
theorem hl_any_iff {p : Nat → Bool} (n : Nat) : hl_any p n = true ↔ ∃ h, h < n ∧ p h = true := by
  induction n with
  | zero => simp [hl_any]
  | succ n ih =>
    unfold hl_any
    rw [Bool.or_eq_true, ih]
    constructor
    · rintro (⟨h, h1, h2⟩ | h)
      · exact ⟨h, by omega, h2⟩
      · exact ⟨n, by omega, h⟩
    · intro ⟨h, h1, h2⟩
      by_cases e : h = n
      · subst e; exact .inr h2
      · exact .inl ⟨h, by omega, h2⟩
theorem hl_sel_lt {A : Nat → Int32} {n : Nat} (f : Nat) : ∀ i ch, i + f = n → ch < n → hl_sel A f i ch < n := by
  induction f with
  | zero => intro i ch _ h; exact h
  | succ f ih =>
    intro i ch h1 h2
    unfold hl_sel
    refine ih (i + 1) _ (by omega) ?_
    split <;> omega
theorem hl_tel (a b c s m : Int32) : a - b + s + m + (c - a) = c - b + (s + m) := by
  simp only [Int32.sub_eq_add_neg]
  have : a + -b + s + m + (c + -a) = (a + -a) + (c + -b + (s + m)) := by ac_rfl
  rw [this, ← Int32.sub_eq_add_neg, Int32.sub_self, Int32.zero_add]
section HLACC
variable {d N W H : Nat} {I Is I' : Nat → Nat → Int32} {J J' : Nat → Nat → Int64} {nh cn : Nat}
/-- the parting of a cell -/
theorem hl_Co.part (h : hl_Co N W H I) (hN : N ≤ 24) (hs : hl_Sv I 86 0 = (nh : Int)) (h0 : 0 < nh) {c : Nat} (hc : c < N) : ∃ p, p < nh ∧ I 8 c = nI p ∧ I 86 (30 + 7 * c + 6) = nI p := by
  have b := (h.2.1.2.2.2.2.2.2.2.2.2.1 c hc).2.2.2.2.2.2
  have e : I 8 c = I 86 (30 + 7 * c + 6) := h.2.1.1.cell (i := 6) hN hc (by omega)
  rw [hs] at b
  unfold hl_Sv at b
  obtain ⟨p, p1, p2, p3⟩ := hl_nat b.1
  exact ⟨p, by omega, e.trans p2, p2⟩
theorem hl_Co.off4 (h : hl_Co N W H I) {k : Nat} (hk : (k : Int) < hl_Sv I 86 0) : I 9 k = I 86 (10 + k) ∧ 0 ≤ (I 9 k).toInt ∧ (I 9 k).toInt ≤ 300 := by
  have b0 := h.2.1.2.1.2
  have b := h.2.1.2.2.2.2.2.2.1 k hk
  have e := h.2.1.1.off (show k < 4 by omega)
  unfold hl_Sv at b
  rw [← e] at b
  exact ⟨e, b⟩
theorem hl_Co.tie (h : hl_Co N W H I) (hN : N ≤ 24) (hs : hl_Sv I 86 1 = (cn : Int)) {k : Nat} (hk : k < cn) : ∃ a b w, a < N ∧ b < N ∧ a ≠ b ∧ 1 ≤ w ∧ w ≤ 99 ∧ I 12 k = nI a ∧ I 13 k = nI b ∧ I 14 k = nI w ∧ I 86 (200 + 3 * k) = nI a ∧ I 86 (200 + 3 * k + 1) = nI b ∧ I 86 (200 + 3 * k + 2) = nI w := by
  have b40 := h.2.1.2.2.1.2
  obtain ⟨b1, b2, b3, b4⟩ := h.2.1.2.2.2.2.2.2.2.2.2.2.1 k (by omega)
  have e0 : I 12 k = I 86 (200 + 3 * k) := h.2.1.1.tie (i := 0) hN (by omega) (by omega)
  have e1 : I 13 k = I 86 (200 + 3 * k + 1) := h.2.1.1.tie (i := 1) hN (by omega) (by omega)
  have e2 : I 14 k = I 86 (200 + 3 * k + 2) := h.2.1.1.tie (i := 2) hN (by omega) (by omega)
  unfold hl_Sv at b1 b2 b3 b4
  obtain ⟨a, -, a2, a3⟩ := hl_nat b1.1
  obtain ⟨b, -, c2, c3⟩ := hl_nat b2.1
  obtain ⟨w, -, w2, w3⟩ := hl_nat (show 0 ≤ (I 86 (200 + 3 * k + 2)).toInt by omega)
  exact ⟨a, b, w, by omega, by omega, fun q => b3 (by omega), by omega, by omega, e0.trans a2, e1.trans c2, e2.trans w2, a2, c2, w2⟩
theorem hl_Co.stp (h : hl_Co N W H I) (hN : N ≤ 24) {t : Nat} (ht : t < 6) : ∃ q, q ≤ 12 ∧ I 18 t = nI q ∧ I 86 (330 + t) = nI q ∧ ∀ i, i < q → ∃ a, a < N ∧ I 16 (12 * t + i) = nI a ∧ I 86 (340 + 24 * t + 2 * i) = nI a ∧ I 17 (12 * t + i) = I 86 (340 + 24 * t + 2 * i + 1) := by
  obtain ⟨b1, b2⟩ := h.2.1.2.2.2.2.2.2.2.2.2.2.2 t ht
  obtain ⟨q, -, q2, q3, q4⟩ := hl_sv (a := 0) (b := 12) b1
  refine ⟨q, q2, (h.2.1.1.cnt hN ht).trans q3, q3, fun i hi => ?_⟩
  have b := (b2 i (by omega)).1
  unfold hl_Sv at b
  obtain ⟨a, -, a2, a3⟩ := hl_nat b.1
  have e0 : I 16 (12 * t + i) = I 86 (340 + 24 * t + 2 * i) := h.2.1.1.stop (i := 0) hN ht (by omega) (by omega)
  have e1 : I 17 (12 * t + i) = I 86 (340 + 24 * t + 2 * i + 1) := h.2.1.1.stop (i := 1) hN ht (by omega) (by omega)
  exact ⟨a, by omega, e0.trans a2, a2, e1⟩
theorem hl_Co.kept (h : hl_Co N W H I) (hN : N ≤ 24) (hs : hl_Sv I 86 0 = (nh : Int)) {c : Nat} (hc : c < N) : I 7 c = I 86 (30 + 7 * c + 5) ∧ (I 7 c = -1 ∨ ∃ k, k < nh ∧ I 7 c = nI k) := by
  have b := (h.2.1.2.2.2.2.2.2.2.2.2.1 c hc).2.2.2.2.2.1
  have e : I 7 c = I 86 (30 + 7 * c + 5) := h.2.1.1.cell (i := 5) hN hc (by omega)
  rw [hs] at b
  unfold hl_Sv at b
  rw [← e] at b
  refine ⟨e, ?_⟩
  by_cases q : (I 7 c).toInt = -1
  · exact .inl (Int32.toInt_inj.mp q)
  · obtain ⟨p, p1, p2, p3⟩ := hl_nat (show 0 ≤ (I 7 c).toInt by omega)
    exact .inr ⟨p, by omega, p2⟩
theorem hl_Co.state (h : hl_Co N W H I) (hN : N ≤ 24) {c : Nat} (hc : c < N) : ∃ k, k < 6 ∧ I 4 c = nI k ∧ I 86 (30 + 7 * c + 2) = nI k := by
  have b := (h.2.1.2.2.2.2.2.2.2.2.2.1 c hc).2.2.1
  have e : I 4 c = I 86 (30 + 7 * c + 2) := h.2.1.1.cell (i := 2) hN hc (by omega)
  unfold hl_Sv at b
  obtain ⟨p, p1, p2, p3⟩ := hl_nat b.1
  exact ⟨p, by omega, e.trans p2, p2⟩
theorem hl_Co.people (h : hl_Co N W H I) (hN : N ≤ 24) {c : Nat} (hc : c < N) : I 3 c = I 86 (30 + 7 * c + 1) := h.2.1.1.cell (i := 1) hN hc (by omega)
/-- about -/
theorem hl_inX {x : Int32} {a N : Nat} (ha : 1 ≤ a ∧ a < 1000) (hN : N ≤ 24) : hl_in x (nI a) (nI (a - 1) + nI N) = hl_inb (x - nI a) N := by
  apply Bool.eq_iff_iff.mpr
  rw [hl_inb_iff (by omega)]
  simp only [hl_in, Bool.and_eq_true, decide_eq_true_eq, Int32.le_iff_toInt_le]
  rw [nI_add, hl_tI (by omega), hl_tI (by omega)]
  have h1 := Int32.toInt_lt x
  have h2 := Int32.le_toInt x
  have e : (x - nI a).toInt = if x.toInt - a < -2147483648 then x.toInt - a + 4294967296 else x.toInt - a := by
    rw [Int32.toInt_sub, hl_tI (by omega)]
    split
    · rw [show x.toInt - (a : Int) = (x.toInt - a + 4294967296) - 4294967296 by omega]
      rw [show (x.toInt - (a : Int) + 4294967296) - 4294967296 = (x.toInt - a + 4294967296) + (4294967296 : Int) * (-1) by omega]
      have : ((2 ^ 32 : Nat) : Int) = 4294967296 := by decide
      rw [← this, Int.add_mul_bmod_self_left, this, Int.bmod_eq_of_le (by omega) (by omega)]
      omega
    · rw [Int.bmod_eq_of_le (by omega) (by omega)]
  rw [e]
  split <;> omega
theorem hl_s258 {x : Int32} (hCo : hl_Co N W H I) (hN : N ≤ 24) : hl_call (d + 4) 258 [.ref 85, .int x] (hl_g N I J) = some (some (.int ((hl_abt I x).getD (hl_abc N (I 3) (I 8) (I 7) x))), hl_g N I J) := by
  rw [hl_e258]
  have hM := hCo.mM
  have x10 : hl_in x 10 (9 + nI N) = hl_inb (x - 10) N := hl_inX (a := 10) (by omega) hN
  have x40 : hl_in x 40 (39 + nI N) = hl_inb (x - 40) N := hl_inX (a := 40) (by omega) hN
  have x70 : hl_in x 70 (69 + nI N) = hl_inb (x - 70) N := hl_inX (a := 70) (by omega) hN
  have small : ∀ k : Nat, k ≤ 8 → hl_inb (nI k - 10) N = false ∧ hl_inb (nI k - 40) N = false ∧ hl_inb (nI k - 70) N = false := by
    intro k hk
    have q : ∀ a : Nat, 8 < a → a < 1000 → hl_inb (nI k - nI a) N = false := by
      intro a h1 h2
      rw [← hl_inX (by omega) hN]
      unfold hl_in
      rw [decide_eq_false (by rw [Int32.le_iff_toInt_le, hl_tI (by omega), hl_tI (by omega)]; omega)]
      rfl
    exact ⟨q 10 (by omega) (by omega), q 40 (by omega) (by omega), q 70 (by omega) (by omega)⟩
  have L := hCo.2.1.1
  obtain ⟨fd, -, t1, t2, -⟩ := hCo.2.2.2.1
  have e00 : I 85 0 = I 0 0 := hCo.1.2.1.1.trans hCo.1.1.1.symm
  have e01 : I 85 1 = I 0 1 := hCo.1.2.1.2.1.trans hCo.1.1.2.1.symm
  have e07 : I 85 7 = I 0 6 := t2.trans t1.symm
  unfold hl_abt
  rcases hl_sw08 (x := x) with rfl | rfl | rfl | rfl | rfl | rfl | rfl | rfl | rfl | ⟨hx, n0, n1, n2, n3, n4, n5, n6, n7, n8⟩
  · obtain ⟨s1, s2, s3⟩ := small 0 (by omega)
    rw [show nI 0 = 0 from rfl] at s1 s2 s3
    simp only [hl_r258_80_0, hl_r258_0, hl_r258_1, hl_r258_3, hl_r258_5, hl_r258_6, hl_r258_9, hl_r258_10, hl_r258_13, hl_r258_16, hl_r258_17, hl_r258_18, hl_r258_20, hl_r258_21, hl_r258_22, hl_r258_25, hl_r258_26, hl_r258_27, hl_r258_29, hl_r258_31, hl_r258_32, hl_r258_35, hl_r258_36, hl_r258_39, hl_r258_42, hl_r258_43, hl_r258_44, hl_r258_46, hl_r258_47, hl_r258_49, hl_r258_52, hl_r258_53, hl_r258_54, hl_r258_56, hl_r258_58, hl_r258_59, hl_r258_62, hl_r258_63, hl_r258_66, hl_r258_69, hl_r258_70, hl_r258_71, hl_r258_73, hl_r258_74, hl_r258_75, hl_r258_78, hl_r258_79, hl_r258_80_0, hl_r258_80_1, hl_r258_80_2, hl_r258_80_3, hl_r258_80_4, hl_r258_80_5, hl_r258_80_6, hl_r258_80_7, hl_r258_80_8, hl_r258_132, hl_r258_133, hl_r258_136, hl_r258_137, hl_r258_138, hl_r258_141, hl_r258_142, hl_r258_143, hl_r258_146, hl_r258_147, hl_r258_148, hl_r258_149, hl_r258_150, hl_r258_153, hl_r258_154, hl_r258_155, hl_r258_156, hl_r258_157, hl_r258_160, hl_r258_161, hl_r258_162, hl_r258_163, hl_r258_164, hl_r258_167, hl_r258_168, hl_r258_169, hl_r258_170, hl_r258_171, hl_r258_174, hl_r258_175, hl_r258_176, hl_r258_177, hl_r258_178, hl_r258_181, hl_r258_182, hl_r258_183, hl_r258_184, hl_r258_185, hl_r258_188, hl_r258_189, hl_r258_191, hl_o_85, hl_p_85_3, hl_p_85_4, hl_p_85_5, hl_p_85_6, hl_p_85_19, hl_p_85_23, hl_p_85_24, hl_p_85_25, hl_p_85_26, hl_p_85_27, hl_p_85_28, hl_p_85_29, hl_p_85_30, hl_p_85_31, hl_p_85_33, hl_p_85_34, hl_p_85_35, hl_p_85_36, hl_p_85_37, hM, hl_s151, x10, x40, x70, s1, s2, s3, hl_tv_f, e00, Option.getD_some, hl_kill_i, hl_kill_r, hl_kill_n, hl_kill_l, hl_tl_s, hl_tl_n, hl_cal_some, hl_gI, hl_gJ, hl_gsI, hl_gsJ, hl_tv01, if_true, if_false, hl_up_a, hl_row_a]
  · obtain ⟨s1, s2, s3⟩ := small 1 (by omega)
    rw [show nI 1 = 1 from rfl] at s1 s2 s3
    simp only [hl_r258_80_1, hl_r258_0, hl_r258_1, hl_r258_3, hl_r258_5, hl_r258_6, hl_r258_9, hl_r258_10, hl_r258_13, hl_r258_16, hl_r258_17, hl_r258_18, hl_r258_20, hl_r258_21, hl_r258_22, hl_r258_25, hl_r258_26, hl_r258_27, hl_r258_29, hl_r258_31, hl_r258_32, hl_r258_35, hl_r258_36, hl_r258_39, hl_r258_42, hl_r258_43, hl_r258_44, hl_r258_46, hl_r258_47, hl_r258_49, hl_r258_52, hl_r258_53, hl_r258_54, hl_r258_56, hl_r258_58, hl_r258_59, hl_r258_62, hl_r258_63, hl_r258_66, hl_r258_69, hl_r258_70, hl_r258_71, hl_r258_73, hl_r258_74, hl_r258_75, hl_r258_78, hl_r258_79, hl_r258_80_0, hl_r258_80_1, hl_r258_80_2, hl_r258_80_3, hl_r258_80_4, hl_r258_80_5, hl_r258_80_6, hl_r258_80_7, hl_r258_80_8, hl_r258_132, hl_r258_133, hl_r258_136, hl_r258_137, hl_r258_138, hl_r258_141, hl_r258_142, hl_r258_143, hl_r258_146, hl_r258_147, hl_r258_148, hl_r258_149, hl_r258_150, hl_r258_153, hl_r258_154, hl_r258_155, hl_r258_156, hl_r258_157, hl_r258_160, hl_r258_161, hl_r258_162, hl_r258_163, hl_r258_164, hl_r258_167, hl_r258_168, hl_r258_169, hl_r258_170, hl_r258_171, hl_r258_174, hl_r258_175, hl_r258_176, hl_r258_177, hl_r258_178, hl_r258_181, hl_r258_182, hl_r258_183, hl_r258_184, hl_r258_185, hl_r258_188, hl_r258_189, hl_r258_191, hl_o_85, hl_p_85_3, hl_p_85_4, hl_p_85_5, hl_p_85_6, hl_p_85_19, hl_p_85_23, hl_p_85_24, hl_p_85_25, hl_p_85_26, hl_p_85_27, hl_p_85_28, hl_p_85_29, hl_p_85_30, hl_p_85_31, hl_p_85_33, hl_p_85_34, hl_p_85_35, hl_p_85_36, hl_p_85_37, hM, hl_s151, x10, x40, x70, s1, s2, s3, hl_tv_f, e01, Option.getD_some, show ((1 : Int32) = 0) = False by decide, hl_kill_i, hl_kill_r, hl_kill_n, hl_kill_l, hl_tl_s, hl_tl_n, hl_cal_some, hl_gI, hl_gJ, hl_gsI, hl_gsJ, hl_tv01, if_true, if_false, hl_up_a, hl_row_a]
  · obtain ⟨s1, s2, s3⟩ := small 2 (by omega)
    rw [show nI 2 = 2 from rfl] at s1 s2 s3
    simp only [hl_r258_80_2, hl_r258_0, hl_r258_1, hl_r258_3, hl_r258_5, hl_r258_6, hl_r258_9, hl_r258_10, hl_r258_13, hl_r258_16, hl_r258_17, hl_r258_18, hl_r258_20, hl_r258_21, hl_r258_22, hl_r258_25, hl_r258_26, hl_r258_27, hl_r258_29, hl_r258_31, hl_r258_32, hl_r258_35, hl_r258_36, hl_r258_39, hl_r258_42, hl_r258_43, hl_r258_44, hl_r258_46, hl_r258_47, hl_r258_49, hl_r258_52, hl_r258_53, hl_r258_54, hl_r258_56, hl_r258_58, hl_r258_59, hl_r258_62, hl_r258_63, hl_r258_66, hl_r258_69, hl_r258_70, hl_r258_71, hl_r258_73, hl_r258_74, hl_r258_75, hl_r258_78, hl_r258_79, hl_r258_80_0, hl_r258_80_1, hl_r258_80_2, hl_r258_80_3, hl_r258_80_4, hl_r258_80_5, hl_r258_80_6, hl_r258_80_7, hl_r258_80_8, hl_r258_132, hl_r258_133, hl_r258_136, hl_r258_137, hl_r258_138, hl_r258_141, hl_r258_142, hl_r258_143, hl_r258_146, hl_r258_147, hl_r258_148, hl_r258_149, hl_r258_150, hl_r258_153, hl_r258_154, hl_r258_155, hl_r258_156, hl_r258_157, hl_r258_160, hl_r258_161, hl_r258_162, hl_r258_163, hl_r258_164, hl_r258_167, hl_r258_168, hl_r258_169, hl_r258_170, hl_r258_171, hl_r258_174, hl_r258_175, hl_r258_176, hl_r258_177, hl_r258_178, hl_r258_181, hl_r258_182, hl_r258_183, hl_r258_184, hl_r258_185, hl_r258_188, hl_r258_189, hl_r258_191, hl_o_85, hl_p_85_3, hl_p_85_4, hl_p_85_5, hl_p_85_6, hl_p_85_19, hl_p_85_23, hl_p_85_24, hl_p_85_25, hl_p_85_26, hl_p_85_27, hl_p_85_28, hl_p_85_29, hl_p_85_30, hl_p_85_31, hl_p_85_33, hl_p_85_34, hl_p_85_35, hl_p_85_36, hl_p_85_37, hl_a_86, hl_z_86, hM, hl_s151, x10, x40, x70, s1, s2, s3, hl_k0, hl_v0, hl_tv_f, L.h0, Option.getD_some, show ((2 : Int32) = 0) = False by decide, show ((2 : Int32) = 1) = False by decide, hl_kill_i, hl_kill_r, hl_kill_n, hl_kill_l, hl_tl_s, hl_tl_n, hl_cal_some, hl_gI, hl_gJ, hl_gsI, hl_gsJ, hl_tv01, if_true, if_false, hl_up_a, hl_row_a]
  · obtain ⟨s1, s2, s3⟩ := small 3 (by omega)
    rw [show nI 3 = 3 from rfl] at s1 s2 s3
    simp only [hl_r258_80_3, hl_r258_0, hl_r258_1, hl_r258_3, hl_r258_5, hl_r258_6, hl_r258_9, hl_r258_10, hl_r258_13, hl_r258_16, hl_r258_17, hl_r258_18, hl_r258_20, hl_r258_21, hl_r258_22, hl_r258_25, hl_r258_26, hl_r258_27, hl_r258_29, hl_r258_31, hl_r258_32, hl_r258_35, hl_r258_36, hl_r258_39, hl_r258_42, hl_r258_43, hl_r258_44, hl_r258_46, hl_r258_47, hl_r258_49, hl_r258_52, hl_r258_53, hl_r258_54, hl_r258_56, hl_r258_58, hl_r258_59, hl_r258_62, hl_r258_63, hl_r258_66, hl_r258_69, hl_r258_70, hl_r258_71, hl_r258_73, hl_r258_74, hl_r258_75, hl_r258_78, hl_r258_79, hl_r258_80_0, hl_r258_80_1, hl_r258_80_2, hl_r258_80_3, hl_r258_80_4, hl_r258_80_5, hl_r258_80_6, hl_r258_80_7, hl_r258_80_8, hl_r258_132, hl_r258_133, hl_r258_136, hl_r258_137, hl_r258_138, hl_r258_141, hl_r258_142, hl_r258_143, hl_r258_146, hl_r258_147, hl_r258_148, hl_r258_149, hl_r258_150, hl_r258_153, hl_r258_154, hl_r258_155, hl_r258_156, hl_r258_157, hl_r258_160, hl_r258_161, hl_r258_162, hl_r258_163, hl_r258_164, hl_r258_167, hl_r258_168, hl_r258_169, hl_r258_170, hl_r258_171, hl_r258_174, hl_r258_175, hl_r258_176, hl_r258_177, hl_r258_178, hl_r258_181, hl_r258_182, hl_r258_183, hl_r258_184, hl_r258_185, hl_r258_188, hl_r258_189, hl_r258_191, hl_o_85, hl_p_85_3, hl_p_85_4, hl_p_85_5, hl_p_85_6, hl_p_85_19, hl_p_85_23, hl_p_85_24, hl_p_85_25, hl_p_85_26, hl_p_85_27, hl_p_85_28, hl_p_85_29, hl_p_85_30, hl_p_85_31, hl_p_85_33, hl_p_85_34, hl_p_85_35, hl_p_85_36, hl_p_85_37, hl_a_86, hl_z_86, hM, hl_s151, x10, x40, x70, s1, s2, s3, hl_k1, hl_v1, hl_tv_f, L.h1, Option.getD_some, show ((3 : Int32) = 0) = False by decide, show ((3 : Int32) = 1) = False by decide, show ((3 : Int32) = 2) = False by decide, hl_kill_i, hl_kill_r, hl_kill_n, hl_kill_l, hl_tl_s, hl_tl_n, hl_cal_some, hl_gI, hl_gJ, hl_gsI, hl_gsJ, hl_tv01, if_true, if_false, hl_up_a, hl_row_a]
  · obtain ⟨s1, s2, s3⟩ := small 4 (by omega)
    rw [show nI 4 = 4 from rfl] at s1 s2 s3
    simp only [hl_r258_80_4, hl_r258_0, hl_r258_1, hl_r258_3, hl_r258_5, hl_r258_6, hl_r258_9, hl_r258_10, hl_r258_13, hl_r258_16, hl_r258_17, hl_r258_18, hl_r258_20, hl_r258_21, hl_r258_22, hl_r258_25, hl_r258_26, hl_r258_27, hl_r258_29, hl_r258_31, hl_r258_32, hl_r258_35, hl_r258_36, hl_r258_39, hl_r258_42, hl_r258_43, hl_r258_44, hl_r258_46, hl_r258_47, hl_r258_49, hl_r258_52, hl_r258_53, hl_r258_54, hl_r258_56, hl_r258_58, hl_r258_59, hl_r258_62, hl_r258_63, hl_r258_66, hl_r258_69, hl_r258_70, hl_r258_71, hl_r258_73, hl_r258_74, hl_r258_75, hl_r258_78, hl_r258_79, hl_r258_80_0, hl_r258_80_1, hl_r258_80_2, hl_r258_80_3, hl_r258_80_4, hl_r258_80_5, hl_r258_80_6, hl_r258_80_7, hl_r258_80_8, hl_r258_132, hl_r258_133, hl_r258_136, hl_r258_137, hl_r258_138, hl_r258_141, hl_r258_142, hl_r258_143, hl_r258_146, hl_r258_147, hl_r258_148, hl_r258_149, hl_r258_150, hl_r258_153, hl_r258_154, hl_r258_155, hl_r258_156, hl_r258_157, hl_r258_160, hl_r258_161, hl_r258_162, hl_r258_163, hl_r258_164, hl_r258_167, hl_r258_168, hl_r258_169, hl_r258_170, hl_r258_171, hl_r258_174, hl_r258_175, hl_r258_176, hl_r258_177, hl_r258_178, hl_r258_181, hl_r258_182, hl_r258_183, hl_r258_184, hl_r258_185, hl_r258_188, hl_r258_189, hl_r258_191, hl_o_85, hl_p_85_3, hl_p_85_4, hl_p_85_5, hl_p_85_6, hl_p_85_19, hl_p_85_23, hl_p_85_24, hl_p_85_25, hl_p_85_26, hl_p_85_27, hl_p_85_28, hl_p_85_29, hl_p_85_30, hl_p_85_31, hl_p_85_33, hl_p_85_34, hl_p_85_35, hl_p_85_36, hl_p_85_37, hl_a_86, hl_z_86, hM, hl_s151, x10, x40, x70, s1, s2, s3, hl_k2, hl_v2, hl_tv_f, L.h2, Option.getD_some, show ((4 : Int32) = 0) = False by decide, show ((4 : Int32) = 1) = False by decide, show ((4 : Int32) = 2) = False by decide, show ((4 : Int32) = 3) = False by decide, hl_kill_i, hl_kill_r, hl_kill_n, hl_kill_l, hl_tl_s, hl_tl_n, hl_cal_some, hl_gI, hl_gJ, hl_gsI, hl_gsJ, hl_tv01, if_true, if_false, hl_up_a, hl_row_a]
  · obtain ⟨s1, s2, s3⟩ := small 5 (by omega)
    rw [show nI 5 = 5 from rfl] at s1 s2 s3
    simp only [hl_r258_80_5, hl_r258_0, hl_r258_1, hl_r258_3, hl_r258_5, hl_r258_6, hl_r258_9, hl_r258_10, hl_r258_13, hl_r258_16, hl_r258_17, hl_r258_18, hl_r258_20, hl_r258_21, hl_r258_22, hl_r258_25, hl_r258_26, hl_r258_27, hl_r258_29, hl_r258_31, hl_r258_32, hl_r258_35, hl_r258_36, hl_r258_39, hl_r258_42, hl_r258_43, hl_r258_44, hl_r258_46, hl_r258_47, hl_r258_49, hl_r258_52, hl_r258_53, hl_r258_54, hl_r258_56, hl_r258_58, hl_r258_59, hl_r258_62, hl_r258_63, hl_r258_66, hl_r258_69, hl_r258_70, hl_r258_71, hl_r258_73, hl_r258_74, hl_r258_75, hl_r258_78, hl_r258_79, hl_r258_80_0, hl_r258_80_1, hl_r258_80_2, hl_r258_80_3, hl_r258_80_4, hl_r258_80_5, hl_r258_80_6, hl_r258_80_7, hl_r258_80_8, hl_r258_132, hl_r258_133, hl_r258_136, hl_r258_137, hl_r258_138, hl_r258_141, hl_r258_142, hl_r258_143, hl_r258_146, hl_r258_147, hl_r258_148, hl_r258_149, hl_r258_150, hl_r258_153, hl_r258_154, hl_r258_155, hl_r258_156, hl_r258_157, hl_r258_160, hl_r258_161, hl_r258_162, hl_r258_163, hl_r258_164, hl_r258_167, hl_r258_168, hl_r258_169, hl_r258_170, hl_r258_171, hl_r258_174, hl_r258_175, hl_r258_176, hl_r258_177, hl_r258_178, hl_r258_181, hl_r258_182, hl_r258_183, hl_r258_184, hl_r258_185, hl_r258_188, hl_r258_189, hl_r258_191, hl_o_85, hl_p_85_3, hl_p_85_4, hl_p_85_5, hl_p_85_6, hl_p_85_19, hl_p_85_23, hl_p_85_24, hl_p_85_25, hl_p_85_26, hl_p_85_27, hl_p_85_28, hl_p_85_29, hl_p_85_30, hl_p_85_31, hl_p_85_33, hl_p_85_34, hl_p_85_35, hl_p_85_36, hl_p_85_37, hl_a_86, hl_z_86, hM, hl_s151, x10, x40, x70, s1, s2, s3, hl_k3, hl_v3, hl_tv_f, L.h3, Option.getD_some, show ((5 : Int32) = 0) = False by decide, show ((5 : Int32) = 1) = False by decide, show ((5 : Int32) = 2) = False by decide, show ((5 : Int32) = 3) = False by decide, show ((5 : Int32) = 4) = False by decide, hl_kill_i, hl_kill_r, hl_kill_n, hl_kill_l, hl_tl_s, hl_tl_n, hl_cal_some, hl_gI, hl_gJ, hl_gsI, hl_gsJ, hl_tv01, if_true, if_false, hl_up_a, hl_row_a]
  · obtain ⟨s1, s2, s3⟩ := small 6 (by omega)
    rw [show nI 6 = 6 from rfl] at s1 s2 s3
    simp only [hl_r258_80_6, hl_r258_0, hl_r258_1, hl_r258_3, hl_r258_5, hl_r258_6, hl_r258_9, hl_r258_10, hl_r258_13, hl_r258_16, hl_r258_17, hl_r258_18, hl_r258_20, hl_r258_21, hl_r258_22, hl_r258_25, hl_r258_26, hl_r258_27, hl_r258_29, hl_r258_31, hl_r258_32, hl_r258_35, hl_r258_36, hl_r258_39, hl_r258_42, hl_r258_43, hl_r258_44, hl_r258_46, hl_r258_47, hl_r258_49, hl_r258_52, hl_r258_53, hl_r258_54, hl_r258_56, hl_r258_58, hl_r258_59, hl_r258_62, hl_r258_63, hl_r258_66, hl_r258_69, hl_r258_70, hl_r258_71, hl_r258_73, hl_r258_74, hl_r258_75, hl_r258_78, hl_r258_79, hl_r258_80_0, hl_r258_80_1, hl_r258_80_2, hl_r258_80_3, hl_r258_80_4, hl_r258_80_5, hl_r258_80_6, hl_r258_80_7, hl_r258_80_8, hl_r258_132, hl_r258_133, hl_r258_136, hl_r258_137, hl_r258_138, hl_r258_141, hl_r258_142, hl_r258_143, hl_r258_146, hl_r258_147, hl_r258_148, hl_r258_149, hl_r258_150, hl_r258_153, hl_r258_154, hl_r258_155, hl_r258_156, hl_r258_157, hl_r258_160, hl_r258_161, hl_r258_162, hl_r258_163, hl_r258_164, hl_r258_167, hl_r258_168, hl_r258_169, hl_r258_170, hl_r258_171, hl_r258_174, hl_r258_175, hl_r258_176, hl_r258_177, hl_r258_178, hl_r258_181, hl_r258_182, hl_r258_183, hl_r258_184, hl_r258_185, hl_r258_188, hl_r258_189, hl_r258_191, hl_o_85, hl_p_85_3, hl_p_85_4, hl_p_85_5, hl_p_85_6, hl_p_85_19, hl_p_85_23, hl_p_85_24, hl_p_85_25, hl_p_85_26, hl_p_85_27, hl_p_85_28, hl_p_85_29, hl_p_85_30, hl_p_85_31, hl_p_85_33, hl_p_85_34, hl_p_85_35, hl_p_85_36, hl_p_85_37, hl_a_86, hl_z_86, hM, hl_s151, x10, x40, x70, s1, s2, s3, hl_k4, hl_v4, hl_tv_f, L.h4, Option.getD_some, show ((6 : Int32) = 0) = False by decide, show ((6 : Int32) = 1) = False by decide, show ((6 : Int32) = 2) = False by decide, show ((6 : Int32) = 3) = False by decide, show ((6 : Int32) = 4) = False by decide, show ((6 : Int32) = 5) = False by decide, hl_kill_i, hl_kill_r, hl_kill_n, hl_kill_l, hl_tl_s, hl_tl_n, hl_cal_some, hl_gI, hl_gJ, hl_gsI, hl_gsJ, hl_tv01, if_true, if_false, hl_up_a, hl_row_a]
  · obtain ⟨s1, s2, s3⟩ := small 7 (by omega)
    rw [show nI 7 = 7 from rfl] at s1 s2 s3
    simp only [hl_r258_80_7, hl_r258_0, hl_r258_1, hl_r258_3, hl_r258_5, hl_r258_6, hl_r258_9, hl_r258_10, hl_r258_13, hl_r258_16, hl_r258_17, hl_r258_18, hl_r258_20, hl_r258_21, hl_r258_22, hl_r258_25, hl_r258_26, hl_r258_27, hl_r258_29, hl_r258_31, hl_r258_32, hl_r258_35, hl_r258_36, hl_r258_39, hl_r258_42, hl_r258_43, hl_r258_44, hl_r258_46, hl_r258_47, hl_r258_49, hl_r258_52, hl_r258_53, hl_r258_54, hl_r258_56, hl_r258_58, hl_r258_59, hl_r258_62, hl_r258_63, hl_r258_66, hl_r258_69, hl_r258_70, hl_r258_71, hl_r258_73, hl_r258_74, hl_r258_75, hl_r258_78, hl_r258_79, hl_r258_80_0, hl_r258_80_1, hl_r258_80_2, hl_r258_80_3, hl_r258_80_4, hl_r258_80_5, hl_r258_80_6, hl_r258_80_7, hl_r258_80_8, hl_r258_132, hl_r258_133, hl_r258_136, hl_r258_137, hl_r258_138, hl_r258_141, hl_r258_142, hl_r258_143, hl_r258_146, hl_r258_147, hl_r258_148, hl_r258_149, hl_r258_150, hl_r258_153, hl_r258_154, hl_r258_155, hl_r258_156, hl_r258_157, hl_r258_160, hl_r258_161, hl_r258_162, hl_r258_163, hl_r258_164, hl_r258_167, hl_r258_168, hl_r258_169, hl_r258_170, hl_r258_171, hl_r258_174, hl_r258_175, hl_r258_176, hl_r258_177, hl_r258_178, hl_r258_181, hl_r258_182, hl_r258_183, hl_r258_184, hl_r258_185, hl_r258_188, hl_r258_189, hl_r258_191, hl_o_85, hl_p_85_3, hl_p_85_4, hl_p_85_5, hl_p_85_6, hl_p_85_19, hl_p_85_23, hl_p_85_24, hl_p_85_25, hl_p_85_26, hl_p_85_27, hl_p_85_28, hl_p_85_29, hl_p_85_30, hl_p_85_31, hl_p_85_33, hl_p_85_34, hl_p_85_35, hl_p_85_36, hl_p_85_37, hl_a_86, hl_z_86, hM, hl_s151, x10, x40, x70, s1, s2, s3, hl_k5, hl_v5, hl_tv_f, L.h5, Option.getD_some, show ((7 : Int32) = 0) = False by decide, show ((7 : Int32) = 1) = False by decide, show ((7 : Int32) = 2) = False by decide, show ((7 : Int32) = 3) = False by decide, show ((7 : Int32) = 4) = False by decide, show ((7 : Int32) = 5) = False by decide, show ((7 : Int32) = 6) = False by decide, hl_kill_i, hl_kill_r, hl_kill_n, hl_kill_l, hl_tl_s, hl_tl_n, hl_cal_some, hl_gI, hl_gJ, hl_gsI, hl_gsJ, hl_tv01, if_true, if_false, hl_up_a, hl_row_a]
  · obtain ⟨s1, s2, s3⟩ := small 8 (by omega)
    rw [show nI 8 = 8 from rfl] at s1 s2 s3
    simp only [hl_r258_80_8, hl_r258_0, hl_r258_1, hl_r258_3, hl_r258_5, hl_r258_6, hl_r258_9, hl_r258_10, hl_r258_13, hl_r258_16, hl_r258_17, hl_r258_18, hl_r258_20, hl_r258_21, hl_r258_22, hl_r258_25, hl_r258_26, hl_r258_27, hl_r258_29, hl_r258_31, hl_r258_32, hl_r258_35, hl_r258_36, hl_r258_39, hl_r258_42, hl_r258_43, hl_r258_44, hl_r258_46, hl_r258_47, hl_r258_49, hl_r258_52, hl_r258_53, hl_r258_54, hl_r258_56, hl_r258_58, hl_r258_59, hl_r258_62, hl_r258_63, hl_r258_66, hl_r258_69, hl_r258_70, hl_r258_71, hl_r258_73, hl_r258_74, hl_r258_75, hl_r258_78, hl_r258_79, hl_r258_80_0, hl_r258_80_1, hl_r258_80_2, hl_r258_80_3, hl_r258_80_4, hl_r258_80_5, hl_r258_80_6, hl_r258_80_7, hl_r258_80_8, hl_r258_132, hl_r258_133, hl_r258_136, hl_r258_137, hl_r258_138, hl_r258_141, hl_r258_142, hl_r258_143, hl_r258_146, hl_r258_147, hl_r258_148, hl_r258_149, hl_r258_150, hl_r258_153, hl_r258_154, hl_r258_155, hl_r258_156, hl_r258_157, hl_r258_160, hl_r258_161, hl_r258_162, hl_r258_163, hl_r258_164, hl_r258_167, hl_r258_168, hl_r258_169, hl_r258_170, hl_r258_171, hl_r258_174, hl_r258_175, hl_r258_176, hl_r258_177, hl_r258_178, hl_r258_181, hl_r258_182, hl_r258_183, hl_r258_184, hl_r258_185, hl_r258_188, hl_r258_189, hl_r258_191, hl_o_85, hl_p_85_3, hl_p_85_4, hl_p_85_5, hl_p_85_6, hl_p_85_19, hl_p_85_23, hl_p_85_24, hl_p_85_25, hl_p_85_26, hl_p_85_27, hl_p_85_28, hl_p_85_29, hl_p_85_30, hl_p_85_31, hl_p_85_33, hl_p_85_34, hl_p_85_35, hl_p_85_36, hl_p_85_37, hM, hl_s151, x10, x40, x70, s1, s2, s3, hl_tv_f, e07, Option.getD_some, show ((8 : Int32) = 0) = False by decide, show ((8 : Int32) = 1) = False by decide, show ((8 : Int32) = 2) = False by decide, show ((8 : Int32) = 3) = False by decide, show ((8 : Int32) = 4) = False by decide, show ((8 : Int32) = 5) = False by decide, show ((8 : Int32) = 6) = False by decide, show ((8 : Int32) = 7) = False by decide, hl_kill_i, hl_kill_r, hl_kill_n, hl_kill_l, hl_tl_s, hl_tl_n, hl_cal_some, hl_gI, hl_gJ, hl_gsI, hl_gsJ, hl_tv01, if_true, if_false, hl_up_a, hl_row_a]
  · simp only [n0, n1, n2, n3, n4, n5, n6, n7, n8, if_false, Option.getD_none, hl_abc]
    cases h1 : hl_inb (x - 10) N with
    | true =>
      obtain ⟨c, hc, ec⟩ := hl_inb_of h1 (by omega)
      rw [ec] at h1
      simp only [hl_r258_0, hl_r258_1, hl_r258_3, hl_r258_5, hl_r258_6, hl_r258_9, hl_r258_10, hl_r258_13, hl_r258_16, hl_r258_17, hl_r258_18, hl_r258_20, hl_r258_21, hl_r258_22, hl_r258_25, hl_r258_26, hl_r258_27, hl_r258_29, hl_r258_31, hl_r258_32, hl_r258_35, hl_r258_36, hl_r258_39, hl_r258_42, hl_r258_43, hl_r258_44, hl_r258_46, hl_r258_47, hl_r258_49, hl_r258_52, hl_r258_53, hl_r258_54, hl_r258_56, hl_r258_58, hl_r258_59, hl_r258_62, hl_r258_63, hl_r258_66, hl_r258_69, hl_r258_70, hl_r258_71, hl_r258_73, hl_r258_74, hl_r258_75, hl_r258_78, hl_r258_79, hl_r258_80_0, hl_r258_80_1, hl_r258_80_2, hl_r258_80_3, hl_r258_80_4, hl_r258_80_5, hl_r258_80_6, hl_r258_80_7, hl_r258_80_8, hl_r258_132, hl_r258_133, hl_r258_136, hl_r258_137, hl_r258_138, hl_r258_141, hl_r258_142, hl_r258_143, hl_r258_146, hl_r258_147, hl_r258_148, hl_r258_149, hl_r258_150, hl_r258_153, hl_r258_154, hl_r258_155, hl_r258_156, hl_r258_157, hl_r258_160, hl_r258_161, hl_r258_162, hl_r258_163, hl_r258_164, hl_r258_167, hl_r258_168, hl_r258_169, hl_r258_170, hl_r258_171, hl_r258_174, hl_r258_175, hl_r258_176, hl_r258_177, hl_r258_178, hl_r258_181, hl_r258_182, hl_r258_183, hl_r258_184, hl_r258_185, hl_r258_188, hl_r258_189, hl_r258_191, hl_o_85, hl_p_85_3, hl_p_85_4, hl_p_85_5, hl_p_85_6, hl_p_85_19, hl_p_85_23, hl_p_85_24, hl_p_85_25, hl_p_85_26, hl_p_85_27, hl_p_85_28, hl_p_85_29, hl_p_85_30, hl_p_85_31, hl_p_85_33, hl_p_85_34, hl_p_85_35, hl_p_85_36, hl_p_85_37, hM, hl_s151, x10, h1, hl_tv_t, hl_10, ec, hl_of1 (d := d + 2) (show c < 24 by omega), hCo.people hN hc, nIc (show c < 2 ^ 31 by omega), hl_kill_i, hl_kill_r, hl_kill_n, hl_kill_l, hl_tl_s, hl_tl_n, hl_cal_some, hl_gI, hl_gJ, hl_gsI, hl_gsJ, hl_tv01, if_true, if_false, hl_up_a, hl_row_a]
    | false =>
      cases h2 : hl_inb (x - 40) N with
      | true =>
        obtain ⟨c, hc, ec⟩ := hl_inb_of h2 (by omega)
        rw [ec] at h2
        simp only [hl_r258_0, hl_r258_1, hl_r258_3, hl_r258_5, hl_r258_6, hl_r258_9, hl_r258_10, hl_r258_13, hl_r258_16, hl_r258_17, hl_r258_18, hl_r258_20, hl_r258_21, hl_r258_22, hl_r258_25, hl_r258_26, hl_r258_27, hl_r258_29, hl_r258_31, hl_r258_32, hl_r258_35, hl_r258_36, hl_r258_39, hl_r258_42, hl_r258_43, hl_r258_44, hl_r258_46, hl_r258_47, hl_r258_49, hl_r258_52, hl_r258_53, hl_r258_54, hl_r258_56, hl_r258_58, hl_r258_59, hl_r258_62, hl_r258_63, hl_r258_66, hl_r258_69, hl_r258_70, hl_r258_71, hl_r258_73, hl_r258_74, hl_r258_75, hl_r258_78, hl_r258_79, hl_r258_80_0, hl_r258_80_1, hl_r258_80_2, hl_r258_80_3, hl_r258_80_4, hl_r258_80_5, hl_r258_80_6, hl_r258_80_7, hl_r258_80_8, hl_r258_132, hl_r258_133, hl_r258_136, hl_r258_137, hl_r258_138, hl_r258_141, hl_r258_142, hl_r258_143, hl_r258_146, hl_r258_147, hl_r258_148, hl_r258_149, hl_r258_150, hl_r258_153, hl_r258_154, hl_r258_155, hl_r258_156, hl_r258_157, hl_r258_160, hl_r258_161, hl_r258_162, hl_r258_163, hl_r258_164, hl_r258_167, hl_r258_168, hl_r258_169, hl_r258_170, hl_r258_171, hl_r258_174, hl_r258_175, hl_r258_176, hl_r258_177, hl_r258_178, hl_r258_181, hl_r258_182, hl_r258_183, hl_r258_184, hl_r258_185, hl_r258_188, hl_r258_189, hl_r258_191, hl_o_85, hl_p_85_3, hl_p_85_4, hl_p_85_5, hl_p_85_6, hl_p_85_19, hl_p_85_23, hl_p_85_24, hl_p_85_25, hl_p_85_26, hl_p_85_27, hl_p_85_28, hl_p_85_29, hl_p_85_30, hl_p_85_31, hl_p_85_33, hl_p_85_34, hl_p_85_35, hl_p_85_36, hl_p_85_37, hM, hl_s151, x10, x40, h1, h2, hl_tv_f, hl_tv_t, hl_10, ec, hl_of6 (d := d + 2) (show c < 24 by omega), show I 8 c = I 86 (30 + 7 * c + 6) from L.cell (i := 6) hN hc (by omega), nIc (show c < 2 ^ 31 by omega), Bool.false_eq_true, hl_kill_i, hl_kill_r, hl_kill_n, hl_kill_l, hl_tl_s, hl_tl_n, hl_cal_some, hl_gI, hl_gJ, hl_gsI, hl_gsJ, hl_tv01, if_true, if_false, hl_up_a, hl_row_a]
      | false =>
        cases h3 : hl_inb (x - 70) N with
        | true =>
          obtain ⟨c, hc, ec⟩ := hl_inb_of h3 (by omega)
          rw [ec] at h3
          simp only [hl_r258_0, hl_r258_1, hl_r258_3, hl_r258_5, hl_r258_6, hl_r258_9, hl_r258_10, hl_r258_13, hl_r258_16, hl_r258_17, hl_r258_18, hl_r258_20, hl_r258_21, hl_r258_22, hl_r258_25, hl_r258_26, hl_r258_27, hl_r258_29, hl_r258_31, hl_r258_32, hl_r258_35, hl_r258_36, hl_r258_39, hl_r258_42, hl_r258_43, hl_r258_44, hl_r258_46, hl_r258_47, hl_r258_49, hl_r258_52, hl_r258_53, hl_r258_54, hl_r258_56, hl_r258_58, hl_r258_59, hl_r258_62, hl_r258_63, hl_r258_66, hl_r258_69, hl_r258_70, hl_r258_71, hl_r258_73, hl_r258_74, hl_r258_75, hl_r258_78, hl_r258_79, hl_r258_80_0, hl_r258_80_1, hl_r258_80_2, hl_r258_80_3, hl_r258_80_4, hl_r258_80_5, hl_r258_80_6, hl_r258_80_7, hl_r258_80_8, hl_r258_132, hl_r258_133, hl_r258_136, hl_r258_137, hl_r258_138, hl_r258_141, hl_r258_142, hl_r258_143, hl_r258_146, hl_r258_147, hl_r258_148, hl_r258_149, hl_r258_150, hl_r258_153, hl_r258_154, hl_r258_155, hl_r258_156, hl_r258_157, hl_r258_160, hl_r258_161, hl_r258_162, hl_r258_163, hl_r258_164, hl_r258_167, hl_r258_168, hl_r258_169, hl_r258_170, hl_r258_171, hl_r258_174, hl_r258_175, hl_r258_176, hl_r258_177, hl_r258_178, hl_r258_181, hl_r258_182, hl_r258_183, hl_r258_184, hl_r258_185, hl_r258_188, hl_r258_189, hl_r258_191, hl_o_85, hl_p_85_3, hl_p_85_4, hl_p_85_5, hl_p_85_6, hl_p_85_19, hl_p_85_23, hl_p_85_24, hl_p_85_25, hl_p_85_26, hl_p_85_27, hl_p_85_28, hl_p_85_29, hl_p_85_30, hl_p_85_31, hl_p_85_33, hl_p_85_34, hl_p_85_35, hl_p_85_36, hl_p_85_37, hM, hl_s151, x10, x40, x70, h1, h2, h3, hl_tv_f, hl_tv_t, hl_10, ec, hl_of5 (d := d + 2) (show c < 24 by omega), show I 7 c = I 86 (30 + 7 * c + 5) from L.cell (i := 5) hN hc (by omega), nIc (show c < 2 ^ 31 by omega), Bool.false_eq_true, hl_kill_i, hl_kill_r, hl_kill_n, hl_kill_l, hl_tl_s, hl_tl_n, hl_cal_some, hl_gI, hl_gJ, hl_gsI, hl_gsJ, hl_tv01, if_true, if_false, hl_up_a, hl_row_a]
        | false => simp only [hl_r258_80_d hx, hl_r258_0, hl_r258_1, hl_r258_3, hl_r258_5, hl_r258_6, hl_r258_9, hl_r258_10, hl_r258_13, hl_r258_16, hl_r258_17, hl_r258_18, hl_r258_20, hl_r258_21, hl_r258_22, hl_r258_25, hl_r258_26, hl_r258_27, hl_r258_29, hl_r258_31, hl_r258_32, hl_r258_35, hl_r258_36, hl_r258_39, hl_r258_42, hl_r258_43, hl_r258_44, hl_r258_46, hl_r258_47, hl_r258_49, hl_r258_52, hl_r258_53, hl_r258_54, hl_r258_56, hl_r258_58, hl_r258_59, hl_r258_62, hl_r258_63, hl_r258_66, hl_r258_69, hl_r258_70, hl_r258_71, hl_r258_73, hl_r258_74, hl_r258_75, hl_r258_78, hl_r258_79, hl_r258_80_0, hl_r258_80_1, hl_r258_80_2, hl_r258_80_3, hl_r258_80_4, hl_r258_80_5, hl_r258_80_6, hl_r258_80_7, hl_r258_80_8, hl_r258_132, hl_r258_133, hl_r258_136, hl_r258_137, hl_r258_138, hl_r258_141, hl_r258_142, hl_r258_143, hl_r258_146, hl_r258_147, hl_r258_148, hl_r258_149, hl_r258_150, hl_r258_153, hl_r258_154, hl_r258_155, hl_r258_156, hl_r258_157, hl_r258_160, hl_r258_161, hl_r258_162, hl_r258_163, hl_r258_164, hl_r258_167, hl_r258_168, hl_r258_169, hl_r258_170, hl_r258_171, hl_r258_174, hl_r258_175, hl_r258_176, hl_r258_177, hl_r258_178, hl_r258_181, hl_r258_182, hl_r258_183, hl_r258_184, hl_r258_185, hl_r258_188, hl_r258_189, hl_r258_191, hl_o_85, hl_p_85_3, hl_p_85_4, hl_p_85_5, hl_p_85_6, hl_p_85_19, hl_p_85_23, hl_p_85_24, hl_p_85_25, hl_p_85_26, hl_p_85_27, hl_p_85_28, hl_p_85_29, hl_p_85_30, hl_p_85_31, hl_p_85_33, hl_p_85_34, hl_p_85_35, hl_p_85_36, hl_p_85_37, hM, hl_s151, x10, x40, x70, h1, h2, h3, hl_tv_f, Bool.false_eq_true, hl_kill_i, hl_kill_r, hl_kill_n, hl_kill_l, hl_tl_s, hl_tl_n, hl_cal_some, hl_gI, hl_gJ, hl_gsI, hl_gsJ, hl_tv01, if_true, if_false, hl_up_a, hl_row_a]
theorem hl_pr31 (hN : N ≤ 24) (f : Nat → Int32) : hl_PQ hl_TX N W H 136 258 (hl_args 31 f) :=
  hl_PQ_same fun _ _ hI => ⟨_, hl_s136 (d := 997) hI.cM hN, hl_s258 (d := 997) hI.co hN⟩
end HLACC
