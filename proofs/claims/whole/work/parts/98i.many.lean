/-! the pair many -/
def hx_ush (x y : Int32) : Int32 := (x.toUInt32 >>> (y.toUInt32 &&& Int32.toUInt32 31)).toInt32
def hx_b1 (x : Int32) : Int32 := x - (hx_ush x 1 &&& 1431655765)
def hx_b2 (x : Int32) : Int32 := (x &&& 858993459) + (hx_ush x 2 &&& 858993459)
def hx_b3 (x : Int32) : Int32 := x + hx_ush x 4 &&& 252645135
def hx_b4 (x : Int32) : Int32 := x + hx_ush x 8
def hx_b5 (x : Int32) : Int32 := x + hx_ush x 16
def hx_on (x : Int32) : Int32 := (x &&& 1) + (x >>> ((1 : Int32) &&& 31) &&& 1) + (x >>> ((2 : Int32) &&& 31) &&& 1) + (x >>> ((3 : Int32) &&& 31) &&& 1)
def hx_pop (j : Nat) : Nat := j % 2 + j / 2 % 2 + j / 4 % 2 + j / 8 % 2
theorem hx_popE : ∀ j, j < 16 → hx_b5 (hx_b4 (hx_b3 (hx_b2 (hx_b1 (nI j))))) &&& 63 = nI (hx_pop j) ∧ hx_on (nI j) = nI (hx_pop j) := by decide +kernel
theorem hx_pop_le {j : Nat} : hx_pop j ≤ 4 := by unfold hx_pop; omega
theorem hx_s263 {d j : Nat} {w : hl_W} (hj : j < 16) : hl_call (d + 1) 263 [.int (nI j)] w = some (some (.int (nI (hx_pop j))), w) := by
  rw [← (hx_popE j hj).1]
  generalize nI j = x
  have r1 : hl_call (d + 1) 263 [.int x] w = hl_Run 263 (hl_call d) 10 [.int (hx_b1 x)] [] w := by
    rw [hl_e263]
    simp only [hl_r263_0, hl_r263_1, hl_r263_2, hl_r263_3, hl_r263_4, hl_r263_7, hl_r263_8, hl_r263_9, hl_kill_i, hl_kill_r, hl_kill_n, hl_kill_l, hl_tl_s, hl_tl_n, hl_cal_some, hl_gI, hl_gJ, hl_gsI, hl_gsJ, hl_tv01, if_true, if_false, hl_up_a, hl_row_a, not_true, not_false_eq_true]
    rfl
  have r2 : ∀ x, hl_Run 263 (hl_call d) 10 [.int x] [] w = hl_Run 263 (hl_call d) 24 [.int (hx_b2 x)] [] w := fun x => by
    simp only [hl_r263_10, hl_r263_11, hl_r263_14, hl_r263_15, hl_r263_16, hl_r263_17, hl_r263_18, hl_r263_21, hl_r263_22, hl_r263_23, hl_kill_i, hl_kill_r, hl_kill_n, hl_kill_l, hl_tl_s, hl_tl_n, hl_cal_some, hl_gI, hl_gJ, hl_gsI, hl_gsJ, hl_tv01, if_true, if_false, hl_up_a, hl_row_a, not_true, not_false_eq_true]
    rfl
  have r3 : ∀ x, hl_Run 263 (hl_call d) 24 [.int x] [] w = hl_Run 263 (hl_call d) 34 [.int (hx_b3 x)] [] w := fun x => by
    simp only [hl_r263_24, hl_r263_25, hl_r263_26, hl_r263_27, hl_r263_28, hl_r263_29, hl_r263_32, hl_r263_33, hl_kill_i, hl_kill_r, hl_kill_n, hl_kill_l, hl_tl_s, hl_tl_n, hl_cal_some, hl_gI, hl_gJ, hl_gsI, hl_gsJ, hl_tv01, if_true, if_false, hl_up_a, hl_row_a, not_true, not_false_eq_true]
    rfl
  have r4 : ∀ x, hl_Run 263 (hl_call d) 34 [.int x] [] w = hl_Run 263 (hl_call d) 41 [.int (hx_b4 x)] [] w := fun x => by
    simp only [hl_r263_34, hl_r263_35, hl_r263_36, hl_r263_38, hl_r263_39, hl_r263_40, hl_kill_i, hl_kill_r, hl_kill_n, hl_kill_l, hl_tl_s, hl_tl_n, hl_cal_some, hl_gI, hl_gJ, hl_gsI, hl_gsJ, hl_tv01, if_true, if_false, hl_up_a, hl_row_a, not_true, not_false_eq_true]
    rfl
  have r5 : ∀ x, hl_Run 263 (hl_call d) 41 [.int x] [] w = hl_Run 263 (hl_call d) 48 [.int (hx_b5 x)] [] w := fun x => by
    simp only [hl_r263_41, hl_r263_42, hl_r263_43, hl_r263_45, hl_r263_46, hl_r263_47, hl_kill_i, hl_kill_r, hl_kill_n, hl_kill_l, hl_tl_s, hl_tl_n, hl_cal_some, hl_gI, hl_gJ, hl_gsI, hl_gsJ, hl_tv01, if_true, if_false, hl_up_a, hl_row_a, not_true, not_false_eq_true]
    rfl
  rw [r1, r2, r3, r4, r5]
  simp only [hl_r263_48, hl_r263_49, hl_r263_51, hl_r263_52, hl_kill_i, hl_kill_r, hl_kill_n, hl_kill_l, hl_tl_s, hl_tl_n, hl_cal_some, hl_gI, hl_gJ, hl_gsI, hl_gsJ, hl_tv01, if_true, if_false, hl_up_a, hl_row_a, not_true, not_false_eq_true]
theorem hx_s235 {d j : Nat} {w : hl_W} (hj : j < 16) : hl_call (d + 1) 235 [.int (nI j)] w = some (some (.int (nI (hx_pop j))), w) := by
  rw [← (hx_popE j hj).2]
  generalize nI j = x
  rw [hl_e235]
  simp only [hl_r235_0, hl_r235_1, hl_r235_2, hl_r235_3, hl_r235_4, hl_r235_5, hl_r235_6, hl_r235_7, hl_r235_8, hl_r235_9, hl_r235_10, hl_r235_11, hl_r235_12, hl_r235_13, hl_r235_14, hl_r235_15, hl_r235_16, hl_r235_17, hl_r235_18, hl_r235_19, hl_r235_20, hl_r235_21, hl_kill_i, hl_kill_r, hl_kill_n, hl_kill_l, hl_tl_s, hl_tl_n, hl_cal_some, hl_gI, hl_gJ, hl_gsI, hl_gsJ, hl_tv01, if_true, if_false, hl_up_a, hl_row_a, not_true, not_false_eq_true]
  rfl
/-- the best of the first n sets of k hours -/
def hx_bst (P : Nat → Option Nat) (k : Nat) : Nat → Option (Nat × Nat)
  | 0 => none
  | n + 1 => if hx_pop (n + 1) = k then (match P (n + 1) with
    | none => hx_bst P k n
    | some v => (match hx_bst P k n with
      | none => some (n + 1, v)
      | some (t, u) => if v < u then some (n + 1, v) else some (t, u))) else hx_bst P k n
def hx_si (s : Option (Nat × Nat)) : Int32 := match s with
  | none => -1
  | some (t, _) => nI t
theorem hx_bst_in {P : Nat → Option Nat} {k : Nat} (n : Nat) : ∀ t u, hx_bst P k n = some (t, u) → 1 ≤ t ∧ t ≤ n ∧ P t = some u := by
  induction n with
  | zero => intro t u h; cases h
  | succ n ih =>
    intro t u h
    unfold hx_bst at h
    by_cases q : hx_pop (n + 1) = k
    · rw [if_pos q] at h
      cases hp : P (n + 1) with
      | none =>
        rw [hp] at h
        obtain ⟨a, b, c⟩ := ih t u h
        exact ⟨a, by omega, c⟩
      | some v =>
        rw [hp] at h
        cases hb : hx_bst P k n with
        | none =>
          rw [hb] at h
          have h' : some (n + 1, v) = some (t, u) := h
          cases h'
          exact ⟨by omega, Nat.le_refl _, hp⟩
        | some tu =>
          obtain ⟨t', u'⟩ := tu
          rw [hb] at h
          have h' : (if v < u' then some (n + 1, v) else some (t', u')) = some (t, u) := h
          by_cases z : v < u'
          · rw [if_pos z] at h'
            cases h'
            exact ⟨by omega, Nat.le_refl _, hp⟩
          · rw [if_neg z] at h'
            cases h'
            obtain ⟨a, b, c⟩ := ih t u hb
            exact ⟨a, by omega, c⟩
    · rw [if_neg q] at h
      obtain ⟨a, b, c⟩ := ih t u h
      exact ⟨a, by omega, c⟩
section HXMANY
variable {d N W H nh cn k : Nat} {I Is I1 I2 I' : Nat → Nat → Int32} {J J' : Nat → Nat → Int64} {wh : Bool} {x y s : Int32} {P : Nat → Option Nat}
def hx_fD (I I' : Nat → Nat → Int32) : Prop := ∀ b, b < 68 ∨ 79 < b → I' b = I b
theorem hx_fD_rf (I : Nat → Nat → Int32) : hx_fD I I := fun _ _ => rfl
theorem hx_fD.tm (h : hx_fD I I') : hl_Tm I I' := ⟨fun b hb => h b (by omega), h 66 (by omega), fun k hk => by rw [h 85 (by omega)], fun b h1 h2 => h b (by omega)⟩
theorem hx_fD.pu (h : hx_fD I I') (p : hl_Pu N I) : hl_Pu N I' := hl_Pu_t p h.tm (h 64 (by omega)) (h 65 (by omega))
theorem hx_solve2 (h : hx_Rd N W H nh cn I1) (f : hx_fD I1 I) (h1 : 1 ≤ (hl_chs s nh).2) {p : Option Nat} {hr : Nat → Nat} (S : hx_Sol N nh cn I1 s wh x y p hr) : ∃ I' J', hl_call (d + 4) 26 [.ref 68, .int s, .int (hl_tv wh), .int x, .int y] (hl_g N I J) = some (some (.int (hx_oi p)), hl_g N I' J') ∧ (p ≠ none → ∀ c, c < N → I' 79 c = nI (hr c)) ∧ hx_fD I1 I' ∧ I' 68 7 = I 68 7 := by
  have fl : ∀ b, b < 68 → I b = I1 b := fun b hb => f b (.inl hb)
  obtain ⟨I2, J2, p', hr', S', e, r, f2⟩ := hx_solve (d := d) (J := J) (wh := wh) (x := x) (y := y) (s := s) (hl_PH_f h.ph fl) (hx_Fp_f h.2.1 fl) h1
  obtain ⟨u1, u2⟩ := hx_Sol_u (hx_Sol_f S' (fun b hb => (fl b (by omega)).symm)) S
  subst u1
  exact ⟨I2, J2, e, fun hp c hc => by rw [r hp c hc, u2 hp c hc], fun b hb => (f2.1 b hb).trans (f b hb), f2.2⟩
def hx_Al (N nh cn : Nat) (I : Nat → Nat → Int32) (wh : Bool) (P : Nat → Option Nat) : Prop := ∀ j, 1 ≤ j → j < 2 ^ nh → ∃ hr, hx_Sol N nh cn I (nI j) wh (-1) (-1) (P j) hr
theorem hx_Al_ex (h : hx_Rd N W H nh cn I1) (wh : Bool) : ∃ P, hx_Al N nh cn I1 wh P := by
  have q : ∀ j, ∃ p : Option Nat, 1 ≤ j → j < 2 ^ nh → ∃ hr, hx_Sol N nh cn I1 (nI j) wh (-1) (-1) p hr := fun j => by
    by_cases z : 1 ≤ j ∧ j < 2 ^ nh
    · have h2 := hx_2q h.2.2.2.1.1
      obtain ⟨-, -, p, hr, S, -⟩ := hx_solve1 (d := 0) (J := fun _ _ => 0) (wh := wh) (x := -1) (y := -1) (s := nI j) h (.inr rfl) (hx_chs1 nh (by have := h.2.2.2.1.1; omega) j (by omega) z.1 (by omega))
      exact ⟨p, fun _ _ => ⟨hr, S⟩⟩
    · exact ⟨none, fun a b => absurd ⟨a, b⟩ z⟩
  exact Classical.axiomOfChoice q
theorem hx_l34 (h : hx_Rd N W H nh cn I1) (hP : hx_Al N nh cn I1 wh P) (hk : k ≤ 4) (f : Nat) : ∀ (I : Nat → Nat → Int32) (J : Nat → Nat → Int64) (n : Nat) (l5 : Value), n + f + 1 = 2 ^ nh → hx_fD I1 I → (∀ t u, hx_bst P k n = some (t, u) → I 68 7 = nI u) → ∃ I' J', hl_Run 34 (hl_call (d + 4)) 5 [.ref 68, .int (nI k), .int (hl_tv wh), .int (hx_si (hx_bst P k n)), .int (nI (n + 1)), l5] [] (hl_g N I J) = some (some (.int (hx_si (hx_bst P k (2 ^ nh - 1)))), hl_g N I' J') ∧ hx_fD I1 I' ∧ ∀ t u, hx_bst P k (2 ^ nh - 1) = some (t, u) → I' 68 7 = nI u := by
  have h4 := h.2.2.2.1.1
  have h2 := hx_2q h4
  have p2 := hx_2p h4
  induction f with
  | zero =>
    intro I J n l5 hn fr hl
    have en : 2 ^ nh - 1 = n := by omega
    have en1 : n + 1 = 2 ^ nh := by omega
    refine ⟨I, J, ?_, fr, by rw [en]; exact hl⟩
    have hc : I 1 8 = nI nh := by rw [fr 1 (by omega)]; exact h.2.2.2.1.2.1
    rw [en, en1]
    simp only [hl_r34_5, hl_r34_7, hl_r34_8, hl_r34_9, hl_r34_12, hl_r34_15, hl_r34_16, hl_r34_74, hl_r34_75, hl_o_68, hl_p_68_0, hl_p_68_1, hl_p_68_2, hl_p_68_3, hl_p_68_4, hl_p_68_5, hl_o_1, hl_p_1_0, hl_p_1_1, hl_p_1_2, hl_p_1_3, hl_p_1_4, hl_p_1_5, hl_p_1_6, hl_p_1_7, hl_p_1_9, hl_p_1_14, hl_p_1_15, hc, p2, Int32.le_refl, hl_kill_i, hl_kill_r, hl_kill_n, hl_kill_l, hl_tl_s, hl_tl_n, hl_cal_some, hl_gI, hl_gJ, hl_gsI, hl_gsJ, hl_tv01, if_true, if_false, hl_up_a, hl_row_a, not_true, not_false_eq_true]
  | succ f ih =>
    intro I J n l5 hn fr hl
    have hc : I 1 8 = nI nh := by rw [fr 1 (by omega)]; exact h.2.2.2.1.2.1
    have c1 : ¬ nI (2 ^ nh) ≤ nI (n + 1) := nI_ge (by omega) (by omega)
    have en : nI (n + 1) + 1 = nI (n + 1 + 1) := (nI_succ (n + 1)).symm
    have s263 := hx_s263 (d := d + 3) (j := n + 1) (w := hl_g N I J) (by omega)
    have pl := hx_pop_le (j := n + 1)
    by_cases q : hx_pop (n + 1) = k
    · obtain ⟨hr, S⟩ := hP (n + 1) (by omega) (by omega)
      have ch := hx_chs1 nh (by omega) (n + 1) (by omega) (by omega) (by omega)
      obtain ⟨I2, J2, e2, -, f2, k2⟩ := hx_solve2 (d := d) (J := J) h fr ch S
      rw [q] at s263
      have skip : ∀ v5 : Int32, hx_bst P k (n + 1) = hx_bst P k n → hl_Run 34 (hl_call (d + 4)) 5 [.ref 68, .int (nI k), .int (hl_tv wh), .int (hx_si (hx_bst P k n)), .int (nI (n + 1)), l5] [] (hl_g N I J) = hl_Run 34 (hl_call (d + 4)) 68 [.ref 68, .int (nI k), .int (hl_tv wh), .int (hx_si (hx_bst P k n)), .int (nI (n + 1)), .int v5] [] (hl_g N I2 J2) → ∃ I' J', hl_Run 34 (hl_call (d + 4)) 5 [.ref 68, .int (nI k), .int (hl_tv wh), .int (hx_si (hx_bst P k n)), .int (nI (n + 1)), l5] [] (hl_g N I J) = some (some (.int (hx_si (hx_bst P k (2 ^ nh - 1)))), hl_g N I' J') ∧ hx_fD I1 I' ∧ ∀ t u, hx_bst P k (2 ^ nh - 1) = some (t, u) → I' 68 7 = nI u := fun v5 eb er => by
        obtain ⟨I3, J3, e3, f3, k3⟩ := ih I2 J2 (n + 1) (.int v5) (by omega) f2 (fun t u ht => by rw [k2]; exact hl t u (eb ▸ ht))
        refine ⟨I3, J3, ?_, f3, k3⟩
        rw [eb] at e3
        rw [er, ← e3]
        simp only [hl_r34_68, hl_r34_71, en, hl_kill_i, hl_kill_r, hl_kill_n, hl_kill_l, hl_tl_s, hl_tl_n, hl_cal_some, hl_gI, hl_gJ, hl_gsI, hl_gsJ, hl_tv01, if_true, if_false, hl_up_a, hl_row_a, not_true, not_false_eq_true]
      have take : ∀ v : Nat, hx_bst P k (n + 1) = some (n + 1, v) → hl_Run 34 (hl_call (d + 4)) 5 [.ref 68, .int (nI k), .int (hl_tv wh), .int (hx_si (hx_bst P k n)), .int (nI (n + 1)), l5] [] (hl_g N I J) = hl_Run 34 (hl_call (d + 4)) 59 [.ref 68, .int (nI k), .int (hl_tv wh), .int (hx_si (hx_bst P k n)), .int (nI (n + 1)), .int (nI v)] [] (hl_g N I2 J2) → ∃ I' J', hl_Run 34 (hl_call (d + 4)) 5 [.ref 68, .int (nI k), .int (hl_tv wh), .int (hx_si (hx_bst P k n)), .int (nI (n + 1)), l5] [] (hl_g N I J) = some (some (.int (hx_si (hx_bst P k (2 ^ nh - 1)))), hl_g N I' J') ∧ hx_fD I1 I' ∧ ∀ t u, hx_bst P k (2 ^ nh - 1) = some (t, u) → I' 68 7 = nI u := fun v eb er => by
        obtain ⟨I3, J3, e3, f3, k3⟩ := ih (hl_up I2 68 7 (nI v)) J2 (n + 1) (.int (nI v)) (by omega) (fun b hb => by rw [hl_up_ne _ _ _ (by omega)]; exact f2 b hb) (fun t u ht => by
          rw [eb] at ht
          cases ht
          exact hl_up_at)
        refine ⟨I3, J3, ?_, f3, k3⟩
        rw [eb] at e3
        have es : hx_si (some (n + 1, v)) = nI (n + 1) := rfl
        rw [es] at e3
        rw [er, ← e3]
        simp only [hl_r34_59, hl_r34_61, hl_r34_62, hl_r34_63, hl_r34_65, hl_r34_68, hl_r34_71, hl_o_68, hl_p_68_0, hl_p_68_1, hl_p_68_2, hl_p_68_3, hl_p_68_4, hl_p_68_5, en, hl_kill_i, hl_kill_r, hl_kill_n, hl_kill_l, hl_tl_s, hl_tl_n, hl_cal_some, hl_gI, hl_gJ, hl_gsI, hl_gsJ, hl_tv01, if_true, if_false, hl_up_a, hl_row_a, not_true, not_false_eq_true]
      have b1 : hx_bst P k (n + 1) = (match P (n + 1) with
        | none => hx_bst P k n
        | some v => (match hx_bst P k n with
          | none => some (n + 1, v)
          | some (t, u) => if v < u then some (n + 1, v) else some (t, u))) := if_pos q
      cases hp : P (n + 1) with
      | none =>
        rw [hp] at e2 b1
        rw [hx_oi_n] at e2
        refine skip (-1) b1 ?_
        simp only [hl_r34_5, hl_r34_7, hl_r34_8, hl_r34_9, hl_r34_12, hl_r34_15, hl_r34_16, hl_r34_19, hl_r34_21, hl_r34_24, hl_r34_25, hl_r34_28, hl_r34_29, hl_r34_31, hl_r34_32, hl_r34_33, hl_r34_34, hl_r34_37, hl_r34_39, hl_r34_41, hl_r34_42, hl_o_68, hl_p_68_0, hl_p_68_1, hl_p_68_2, hl_p_68_3, hl_p_68_4, hl_p_68_5, hl_o_1, hl_p_1_0, hl_p_1_1, hl_p_1_2, hl_p_1_3, hl_p_1_4, hl_p_1_5, hl_p_1_6, hl_p_1_7, hl_p_1_9, hl_p_1_14, hl_p_1_15, hc, p2, c1, s263, e2, hl_kill_i, hl_kill_r, hl_kill_n, hl_kill_l, hl_tl_s, hl_tl_n, hl_cal_some, hl_gI, hl_gJ, hl_gsI, hl_gsJ, hl_tv01, if_true, if_false, hl_up_a, hl_row_a, not_true, not_false_eq_true]
      | some v =>
        have vB : v < 1000000000 := hx_Sol_B (hp ▸ S)
        have v1 : ¬ nI v = -1 := hx_ni1 (by omega)
        rw [hp] at e2 b1
        rw [hx_oi_s] at e2
        cases hb : hx_bst P k n with
        | none =>
          rw [hb] at b1 take
          refine take v b1 ?_
          have es : hx_si none = -1 := rfl
          rw [es]
          simp only [hl_r34_5, hl_r34_7, hl_r34_8, hl_r34_9, hl_r34_12, hl_r34_15, hl_r34_16, hl_r34_19, hl_r34_21, hl_r34_24, hl_r34_25, hl_r34_28, hl_r34_29, hl_r34_31, hl_r34_32, hl_r34_33, hl_r34_34, hl_r34_37, hl_r34_39, hl_r34_41, hl_r34_42, hl_r34_45, hl_r34_46, hl_r34_47, hl_r34_50, hl_r34_52, hl_r34_53, hl_r34_56, hl_o_68, hl_p_68_0, hl_p_68_1, hl_p_68_2, hl_p_68_3, hl_p_68_4, hl_p_68_5, hl_o_1, hl_p_1_0, hl_p_1_1, hl_p_1_2, hl_p_1_3, hl_p_1_4, hl_p_1_5, hl_p_1_6, hl_p_1_7, hl_p_1_9, hl_p_1_14, hl_p_1_15, hc, p2, c1, s263, e2, v1, hl_kill_i, hl_kill_r, hl_kill_n, hl_kill_l, hl_tl_s, hl_tl_n, hl_cal_some, hl_gI, hl_gJ, hl_gsI, hl_gsJ, hl_tv01, if_true, if_false, hl_up_a, hl_row_a, not_true, not_false_eq_true]
        | some tu =>
          obtain ⟨t, u⟩ := tu
          obtain ⟨t1, t2, t3⟩ := hx_bst_in n t u hb
          obtain ⟨hr', S'⟩ := hP t t1 (by omega)
          have uB : u < 1000000000 := hx_Sol_B (t3 ▸ S')
          have eu := hl t u hb
          have tn : ¬ nI t = -1 := hx_ni1 (by omega)
          have es : hx_si (some (t, u)) = nI t := rfl
          rw [hb] at b1 take skip
          have b2 : hx_bst P k (n + 1) = if v < u then some (n + 1, v) else some (t, u) := b1
          rw [es] at take skip ⊢
          have eu2 : I2 68 7 = nI u := by rw [k2]; exact eu
          by_cases z : v < u
          · rw [if_pos z] at b2
            refine take v b2 ?_
            have zz : ¬ nI u ≤ nI v := nI_ge z (by omega)
            simp only [hl_r34_5, hl_r34_7, hl_r34_8, hl_r34_9, hl_r34_12, hl_r34_15, hl_r34_16, hl_r34_19, hl_r34_21, hl_r34_24, hl_r34_25, hl_r34_28, hl_r34_29, hl_r34_31, hl_r34_32, hl_r34_33, hl_r34_34, hl_r34_37, hl_r34_39, hl_r34_41, hl_r34_42, hl_r34_45, hl_r34_46, hl_r34_47, hl_r34_50, hl_r34_52, hl_r34_53, hl_r34_56, hl_o_68, hl_p_68_0, hl_p_68_1, hl_p_68_2, hl_p_68_3, hl_p_68_4, hl_p_68_5, hl_o_1, hl_p_1_0, hl_p_1_1, hl_p_1_2, hl_p_1_3, hl_p_1_4, hl_p_1_5, hl_p_1_6, hl_p_1_7, hl_p_1_9, hl_p_1_14, hl_p_1_15, hc, p2, c1, s263, e2, v1, tn, eu2, zz, hl_kill_i, hl_kill_r, hl_kill_n, hl_kill_l, hl_tl_s, hl_tl_n, hl_cal_some, hl_gI, hl_gJ, hl_gsI, hl_gsJ, hl_tv01, if_true, if_false, hl_up_a, hl_row_a, not_true, not_false_eq_true]
          · rw [if_neg z] at b2
            refine skip (nI v) b2 ?_
            have zz : nI u ≤ nI v := nI_le (by omega) (by omega)
            simp only [hl_r34_5, hl_r34_7, hl_r34_8, hl_r34_9, hl_r34_12, hl_r34_15, hl_r34_16, hl_r34_19, hl_r34_21, hl_r34_24, hl_r34_25, hl_r34_28, hl_r34_29, hl_r34_31, hl_r34_32, hl_r34_33, hl_r34_34, hl_r34_37, hl_r34_39, hl_r34_41, hl_r34_42, hl_r34_45, hl_r34_46, hl_r34_47, hl_r34_50, hl_r34_52, hl_r34_53, hl_r34_56, hl_o_68, hl_p_68_0, hl_p_68_1, hl_p_68_2, hl_p_68_3, hl_p_68_4, hl_p_68_5, hl_o_1, hl_p_1_0, hl_p_1_1, hl_p_1_2, hl_p_1_3, hl_p_1_4, hl_p_1_5, hl_p_1_6, hl_p_1_7, hl_p_1_9, hl_p_1_14, hl_p_1_15, hc, p2, c1, s263, e2, v1, tn, eu2, zz, hl_kill_i, hl_kill_r, hl_kill_n, hl_kill_l, hl_tl_s, hl_tl_n, hl_cal_some, hl_gI, hl_gJ, hl_gsI, hl_gsJ, hl_tv01, if_true, if_false, hl_up_a, hl_row_a, not_true, not_false_eq_true]
    · have b1 : hx_bst P k (n + 1) = hx_bst P k n := if_neg q
      have qq : ¬ nI (hx_pop (n + 1)) = nI k := fun z => q ((nI_eq (by omega) (by omega)).mp z)
      obtain ⟨I3, J3, e3, f3, k3⟩ := ih I J (n + 1) l5 (by omega) fr (fun t u ht => hl t u (b1 ▸ ht))
      refine ⟨I3, J3, ?_, f3, k3⟩
      rw [b1] at e3
      rw [← e3, hl_r34_5]
      simp only [hl_r34_7, hl_r34_8, hl_r34_9, hl_r34_12, hl_r34_15, hl_r34_16, hl_r34_19, hl_r34_21, hl_r34_24, hl_r34_25, hl_r34_68, hl_r34_71, hl_o_68, hl_p_68_0, hl_p_68_1, hl_p_68_2, hl_p_68_3, hl_p_68_4, hl_p_68_5, hl_o_1, hl_p_1_0, hl_p_1_1, hl_p_1_2, hl_p_1_3, hl_p_1_4, hl_p_1_5, hl_p_1_6, hl_p_1_7, hl_p_1_9, hl_p_1_14, hl_p_1_15, hc, p2, c1, s263, qq, en, hl_kill_i, hl_kill_r, hl_kill_n, hl_kill_l, hl_tl_s, hl_tl_n, hl_cal_some, hl_gI, hl_gJ, hl_gsI, hl_gsJ, hl_tv01, if_true, if_false, hl_up_a, hl_row_a, not_true, not_false_eq_true]
      try rw [hl_r34_5]
theorem hx_s34 (h : hx_Rd N W H nh cn I1) (hP : hx_Al N nh cn I1 wh P) (hk : k ≤ 4) (f : hx_fD I1 I) : ∃ I' J', hl_call (d + 5) 34 [.ref 68, .int (nI k), .int (hl_tv wh)] (hl_g N I J) = some (some (.int (hx_si (hx_bst P k (2 ^ nh - 1)))), hl_g N I' J') ∧ hx_fD I1 I' ∧ ∀ t u, hx_bst P k (2 ^ nh - 1) = some (t, u) → I' 68 7 = nI u := by
  have h2 := hx_2q h.2.2.2.1.1
  obtain ⟨I2, J2, e2, f2, k2⟩ := hx_l34 (d := d) h hP hk (2 ^ nh - 1) I J 0 .null (by omega) f (fun t u ht => by cases ht)
  refine ⟨I2, J2, ?_, f2, k2⟩
  have es : hx_si (hx_bst P k 0) = -1 := rfl
  have e1 : nI (0 + 1) = 1 := rfl
  rw [es, e1] at e2
  rw [← e2, hl_e34]
  simp only [hl_r34_0, hl_r34_1, hl_r34_2, hl_r34_3, hl_kill_i, hl_kill_r, hl_kill_n, hl_kill_l, hl_tl_s, hl_tl_n, hl_cal_some, hl_gI, hl_gJ, hl_gsI, hl_gsJ, hl_tv01, if_true, if_false, hl_up_a, hl_row_a, not_true, not_false_eq_true]
theorem hx_ol_lt {a b : Nat} (ha : a < 1000000000) (hb : b < 1000000000) : (hx_ol (some a) < hx_ol (some b)) = (a < b) := by
  apply propext
  rw [Int64.lt_iff_toInt_lt, hx_olI ha, hx_olI hb]
  omega
theorem hx_l236 (h : hx_Rd N W H nh cn I1) (hP : hx_Al N nh cn I1 wh P) (hk : k ≤ 4) (f : Nat) : ∀ (I : Nat → Nat → Int32) (J : Nat → Nat → Int64) (n : Nat) (lo : Int64) (l7 l8 : Value), n + f + 1 = 2 ^ nh → hl_vw I1 I → (∀ t u, hx_bst P k n = some (t, u) → lo = hx_ol (some u)) → ∃ I' J', hl_Run 236 (hl_call (d + 7)) 8 [.ref 85, .int (nI k), .int (hl_tv wh), .int (hx_si (hx_bst P k n)), .long lo, .null, .int (nI (n + 1)), l7, l8] [] (hl_g N I J) = some (some (.int (hx_si (hx_bst P k (2 ^ nh - 1)))), hl_g N I' J') ∧ hx_fR I I' := by
  have h4 := h.2.2.2.1.1
  have h2 := hx_2q h4
  induction f with
  | zero =>
    intro I J n lo l7 l8 hn hv hl
    have en : 2 ^ nh - 1 = n := by omega
    refine ⟨I, J, ?_, hx_fR_rf I⟩
    have s231 := hx_s231 (d := d + 6) (N := N) (I := I) (J := J) (by rw [hv.2.1]; exact h.2.2.2.1.2.2.1) h4
    rw [en] at s231 ⊢
    have c1 : nI n < nI (n + 1) := nI_lt (by omega) (by omega)
    simp only [hl_r236_8, hl_r236_10, hl_r236_11, hl_r236_14, hl_r236_75, hl_r236_76, hl_o_85, hl_p_85_3, hl_p_85_4, hl_p_85_5, hl_p_85_6, hl_p_85_19, hl_p_85_23, hl_p_85_24, hl_p_85_25, hl_p_85_26, hl_p_85_27, hl_p_85_28, hl_p_85_29, hl_p_85_30, hl_p_85_31, hl_p_85_33, hl_p_85_34, hl_p_85_35, hl_p_85_36, hl_p_85_37, s231, c1, hl_kill_i, hl_kill_r, hl_kill_n, hl_kill_l, hl_tl_s, hl_tl_n, hl_cal_some, hl_gI, hl_gJ, hl_gsI, hl_gsJ, hl_tv01, if_true, if_false, hl_up_a, hl_row_a, not_true, not_false_eq_true]
  | succ f ih =>
    intro I J n lo l7 l8 hn hv hl
    have s231 := hx_s231 (d := d + 6) (N := N) (I := I) (J := J) (by rw [hv.2.1]; exact h.2.2.2.1.2.2.1) h4
    have c1 : ¬ nI (2 ^ nh - 1) < nI (n + 1) := Int32.not_lt.mpr (nI_le (by omega) (by omega))
    have en : nI (n + 1) + 1 = nI (n + 1 + 1) := (nI_succ (n + 1)).symm
    have s235 := hx_s235 (d := d + 6) (j := n + 1) (w := hl_g N I J) (by omega)
    have pl := hx_pop_le (j := n + 1)
    by_cases q : hx_pop (n + 1) = k
    · obtain ⟨hr, S⟩ := hP (n + 1) (by omega) (by omega)
      have ch := hx_chs1 nh (by omega) (n + 1) (by omega) (by omega) (by omega)
      obtain ⟨I2, J2, e2, -, f2, j2⟩ := hx_least1 (d := d) (J := J) h hv ch S
      have v2 : hl_vw I1 I2 := hl_vw_tr hv f2.tm.vw
      rw [q] at s235
      have b1 : hx_bst P k (n + 1) = (match P (n + 1) with
        | none => hx_bst P k n
        | some v => (match hx_bst P k n with
          | none => some (n + 1, v)
          | some (t, u) => if v < u then some (n + 1, v) else some (t, u))) := if_pos q
      cases hp : P (n + 1) with
      | none =>
        rw [hp] at e2 b1
        have b2 : hx_bst P k (n + 1) = hx_bst P k n := b1
        obtain ⟨I3, J3, e3, f3⟩ := ih I2 J2 (n + 1) lo (.long (hx_ol none)) .null (by omega) v2 (fun t u ht => hl t u (by rw [← b2]; exact ht))
        refine ⟨I3, J3, ?_, hx_fR_tr f2 f3⟩
        rw [b2] at e3
        rw [← e3, hl_r236_8]
        simp only [hl_r236_10, hl_r236_11, hl_r236_14, hl_r236_17, hl_r236_19, hl_r236_22, hl_r236_23, hl_r236_26, hl_r236_29, hl_r236_30, hl_r236_32, hl_r236_33, hl_r236_34, hl_r236_35, hl_r236_38, hl_r236_40, hl_r236_42, hl_r236_43, hl_r236_44, hl_r236_47, hl_r236_48, hl_r236_51, hl_r236_53, hl_r236_55, hl_r236_56, hl_r236_59, hl_r236_62, hl_r236_64, hl_r236_65, hl_r236_67, hl_r236_69, hl_r236_72, hl_o_85, hl_p_85_3, hl_p_85_4, hl_p_85_5, hl_p_85_6, hl_p_85_19, hl_p_85_23, hl_p_85_24, hl_p_85_25, hl_p_85_26, hl_p_85_27, hl_p_85_28, hl_p_85_29, hl_p_85_30, hl_p_85_31, hl_p_85_33, hl_p_85_34, hl_p_85_35, hl_p_85_36, hl_p_85_37, s231, c1, s235, e2, hl_lcmp_lt0, hx_ol_nl, en, hl_kill_i, hl_kill_r, hl_kill_n, hl_kill_l, hl_tl_s, hl_tl_n, hl_cal_some, hl_gI, hl_gJ, hl_gsI, hl_gsJ, hl_tv01, if_true, if_false, hl_up_a, hl_row_a, not_true, not_false_eq_true]
        try rw [hl_r236_8]
      | some v =>
        have vB : v < 1000000000 := hx_Sol_B (hp ▸ S)
        have v0 := hx_ol_sl vB
        rw [hp] at e2 b1
        cases hb : hx_bst P k n with
        | none =>
          rw [hb] at b1
          have b2 : hx_bst P k (n + 1) = some (n + 1, v) := b1
          obtain ⟨I3, J3, e3, f3⟩ := ih I2 J2 (n + 1) (hx_ol (some v)) (.long (hx_ol (some v))) .null (by omega) v2 (fun t u ht => by rw [b2] at ht; cases ht; rfl)
          refine ⟨I3, J3, ?_, hx_fR_tr f2 f3⟩
          rw [b2] at e3
          have es : hx_si none = -1 := rfl
          have es2 : hx_si (some (n + 1, v)) = nI (n + 1) := rfl
          have m1 : (-1 : Int32) < 0 := by decide
          rw [es2] at e3
          rw [es, ← e3, hl_r236_8]
          simp only [hl_r236_10, hl_r236_11, hl_r236_14, hl_r236_17, hl_r236_19, hl_r236_22, hl_r236_23, hl_r236_26, hl_r236_29, hl_r236_30, hl_r236_32, hl_r236_33, hl_r236_34, hl_r236_35, hl_r236_38, hl_r236_40, hl_r236_42, hl_r236_43, hl_r236_44, hl_r236_47, hl_r236_48, hl_r236_51, hl_r236_53, hl_r236_55, hl_r236_56, hl_r236_59, hl_r236_62, hl_r236_64, hl_r236_65, hl_r236_67, hl_r236_69, hl_r236_72, hl_o_85, hl_p_85_3, hl_p_85_4, hl_p_85_5, hl_p_85_6, hl_p_85_19, hl_p_85_23, hl_p_85_24, hl_p_85_25, hl_p_85_26, hl_p_85_27, hl_p_85_28, hl_p_85_29, hl_p_85_30, hl_p_85_31, hl_p_85_33, hl_p_85_34, hl_p_85_35, hl_p_85_36, hl_p_85_37, s231, c1, s235, e2, hl_lcmp_lt0, v0, m1, en, hl_kill_i, hl_kill_r, hl_kill_n, hl_kill_l, hl_tl_s, hl_tl_n, hl_cal_some, hl_gI, hl_gJ, hl_gsI, hl_gsJ, hl_tv01, if_true, if_false, hl_up_a, hl_row_a, not_true, not_false_eq_true]
          try rw [hl_r236_8]
        | some tu =>
          obtain ⟨t, u⟩ := tu
          obtain ⟨t1, t2, t3⟩ := hx_bst_in n t u hb
          obtain ⟨hr', S'⟩ := hP t t1 (by omega)
          have uB : u < 1000000000 := hx_Sol_B (t3 ▸ S')
          have eu := hl t u hb
          have t0 : ¬ nI t < 0 := Int32.not_lt.mpr (show nI 0 ≤ nI t from nI_le (by omega) (by omega))
          rw [hb] at b1
          have b2 : hx_bst P k (n + 1) = if v < u then some (n + 1, v) else some (t, u) := b1
          have es : hx_si (some (t, u)) = nI t := rfl
          have lt := hx_ol_lt vB uB
          by_cases z : v < u
          · rw [if_pos z] at b2
            obtain ⟨I3, J3, e3, f3⟩ := ih I2 J2 (n + 1) (hx_ol (some v)) (.long (hx_ol (some v))) .null (by omega) v2 (fun t u ht => by rw [b2] at ht; cases ht; rfl)
            refine ⟨I3, J3, ?_, hx_fR_tr f2 f3⟩
            rw [b2] at e3
            have es2 : hx_si (some (n + 1, v)) = nI (n + 1) := rfl
            rw [es2] at e3
            rw [es, ← e3, hl_r236_8, eu]
            simp only [hl_r236_10, hl_r236_11, hl_r236_14, hl_r236_17, hl_r236_19, hl_r236_22, hl_r236_23, hl_r236_26, hl_r236_29, hl_r236_30, hl_r236_32, hl_r236_33, hl_r236_34, hl_r236_35, hl_r236_38, hl_r236_40, hl_r236_42, hl_r236_43, hl_r236_44, hl_r236_47, hl_r236_48, hl_r236_51, hl_r236_53, hl_r236_55, hl_r236_56, hl_r236_59, hl_r236_62, hl_r236_64, hl_r236_65, hl_r236_67, hl_r236_69, hl_r236_72, hl_o_85, hl_p_85_3, hl_p_85_4, hl_p_85_5, hl_p_85_6, hl_p_85_19, hl_p_85_23, hl_p_85_24, hl_p_85_25, hl_p_85_26, hl_p_85_27, hl_p_85_28, hl_p_85_29, hl_p_85_30, hl_p_85_31, hl_p_85_33, hl_p_85_34, hl_p_85_35, hl_p_85_36, hl_p_85_37, s231, c1, s235, e2, hl_lcmp_lt0, v0, t0, lt, z, en, hl_kill_i, hl_kill_r, hl_kill_n, hl_kill_l, hl_tl_s, hl_tl_n, hl_cal_some, hl_gI, hl_gJ, hl_gsI, hl_gsJ, hl_tv01, if_true, if_false, hl_up_a, hl_row_a, not_true, not_false_eq_true]
            try rw [hl_r236_8]
          · rw [if_neg z] at b2
            obtain ⟨I3, J3, e3, f3⟩ := ih I2 J2 (n + 1) (hx_ol (some u)) (.long (hx_ol (some v))) .null (by omega) v2 (fun t u ht => by rw [b2] at ht; cases ht; rfl)
            refine ⟨I3, J3, ?_, hx_fR_tr f2 f3⟩
            rw [b2, es] at e3
            rw [es, ← e3, hl_r236_8, eu]
            simp only [hl_r236_10, hl_r236_11, hl_r236_14, hl_r236_17, hl_r236_19, hl_r236_22, hl_r236_23, hl_r236_26, hl_r236_29, hl_r236_30, hl_r236_32, hl_r236_33, hl_r236_34, hl_r236_35, hl_r236_38, hl_r236_40, hl_r236_42, hl_r236_43, hl_r236_44, hl_r236_47, hl_r236_48, hl_r236_51, hl_r236_53, hl_r236_55, hl_r236_56, hl_r236_59, hl_r236_62, hl_r236_64, hl_r236_65, hl_r236_67, hl_r236_69, hl_r236_72, hl_o_85, hl_p_85_3, hl_p_85_4, hl_p_85_5, hl_p_85_6, hl_p_85_19, hl_p_85_23, hl_p_85_24, hl_p_85_25, hl_p_85_26, hl_p_85_27, hl_p_85_28, hl_p_85_29, hl_p_85_30, hl_p_85_31, hl_p_85_33, hl_p_85_34, hl_p_85_35, hl_p_85_36, hl_p_85_37, s231, c1, s235, e2, hl_lcmp_lt0, v0, t0, lt, z, en, hl_kill_i, hl_kill_r, hl_kill_n, hl_kill_l, hl_tl_s, hl_tl_n, hl_cal_some, hl_gI, hl_gJ, hl_gsI, hl_gsJ, hl_tv01, if_true, if_false, hl_up_a, hl_row_a, not_true, not_false_eq_true]
            try rw [hl_r236_8]
    · have b1 : hx_bst P k (n + 1) = hx_bst P k n := if_neg q
      have qq : ¬ nI (hx_pop (n + 1)) = nI k := fun z => q ((nI_eq (by omega) (by omega)).mp z)
      obtain ⟨I3, J3, e3, f3⟩ := ih I J (n + 1) lo l7 l8 (by omega) hv (fun t u ht => hl t u (b1 ▸ ht))
      refine ⟨I3, J3, ?_, f3⟩
      rw [b1] at e3
      rw [← e3, hl_r236_8]
      simp only [hl_r236_10, hl_r236_11, hl_r236_14, hl_r236_17, hl_r236_19, hl_r236_22, hl_r236_23, hl_r236_26, hl_r236_29, hl_r236_30, hl_r236_32, hl_r236_33, hl_r236_34, hl_r236_35, hl_r236_38, hl_r236_40, hl_r236_42, hl_r236_43, hl_r236_44, hl_r236_47, hl_r236_48, hl_r236_51, hl_r236_53, hl_r236_55, hl_r236_56, hl_r236_59, hl_r236_62, hl_r236_64, hl_r236_65, hl_r236_67, hl_r236_69, hl_r236_72, hl_o_85, hl_p_85_3, hl_p_85_4, hl_p_85_5, hl_p_85_6, hl_p_85_19, hl_p_85_23, hl_p_85_24, hl_p_85_25, hl_p_85_26, hl_p_85_27, hl_p_85_28, hl_p_85_29, hl_p_85_30, hl_p_85_31, hl_p_85_33, hl_p_85_34, hl_p_85_35, hl_p_85_36, hl_p_85_37, s231, c1, s235, qq, en, hl_kill_i, hl_kill_r, hl_kill_n, hl_kill_l, hl_tl_s, hl_tl_n, hl_cal_some, hl_gI, hl_gJ, hl_gsI, hl_gsJ, hl_tv01, if_true, if_false, hl_up_a, hl_row_a, not_true, not_false_eq_true]
      try rw [hl_r236_8]
theorem hx_s236 (h : hx_Rd N W H nh cn I1) (hP : hx_Al N nh cn I1 wh P) (hk : k ≤ 4) (hv : hl_vw I1 I) : ∃ I' J', hl_call (d + 8) 236 [.ref 85, .int (nI k), .int (hl_tv wh)] (hl_g N I J) = some (some (.int (hx_si (hx_bst P k (2 ^ nh - 1)))), hl_g N I' J') ∧ hx_fR I I' := by
  have h2 := hx_2q h.2.2.2.1.1
  obtain ⟨I2, J2, e2, f2⟩ := hx_l236 (d := d) h hP hk (2 ^ nh - 1) I J 0 0 .null .null (by omega) hv (fun t u ht => by cases ht)
  refine ⟨I2, J2, ?_, f2⟩
  have es : hx_si (hx_bst P k 0) = -1 := rfl
  have e1 : nI (0 + 1) = 1 := rfl
  rw [es, e1] at e2
  rw [← e2, hl_e236]
  simp only [hl_r236_0, hl_r236_1, hl_r236_2, hl_r236_3, hl_r236_5, hl_r236_6, hl_kill_i, hl_kill_r, hl_kill_n, hl_kill_l, hl_tl_s, hl_tl_n, hl_cal_some, hl_gI, hl_gJ, hl_gsI, hl_gsJ, hl_tv01, if_true, if_false, hl_up_a, hl_row_a, not_true, not_false_eq_true]
end HXMANY
