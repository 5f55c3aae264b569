/-! the class's reader: choice, opened, one -/
def hx_mN (M : Nat) : (Nat → Int32) → Nat → Nat → List (Nat × Nat) → Prop := fun S n n' C => hx_SN S n n' C M
def hx_mB (M : Nat) : (Nat → Int32) → Nat → Nat → List (Nat × Nat) → Prop := fun S n n' C => hx_SB S n n' C M
def hx_cho (t : Nat → Nat) (L : Nat) (u : Nat → Nat → Nat × Nat × List (Nat × Nat)) (e : Nat) : Nat × Nat × List (Nat × Nat) := hx_ths (u 3 e) (fun q1 C1 => hx_ths (hx_exp t L 41 q1 C1) (fun q2 C1 => hx_ths (u 1 q2) (fun q3 C2 => hx_ths (hx_exp t L 42 q3 C2) (fun q4 C2 => hx_ths (u 1 q4) (fun q5 C3 => hx_ths (hx_exp t L 16 q5 C3) (fun q6 C3 => (0, q6, C1 ++ C2 ++ C3 ++ [(23, 0)])))))))
section HXCPAR2
variable {E D N L p n a M M1 : Nat} {I I' : Nat → Nat → Int32} {J : Nat → Nat → Int64} {t : Nat → Nat} {u : Nat → Nat → Nat × Nat × List (Nat × Nat)}
/-- what is asked of one level further up -/
def hx_UP (N : Nat) (t : Nat → Nat) (L D a : Nat) (u : Nat → Nat → Nat × Nat × List (Nat × Nat)) (M : Nat) : Prop := (∀ E, D ≤ E → hx_CK N t L (E + 16) 61 a (u 0) (hx_mN M)) ∧ (∀ E, D ≤ E → hx_CK N t L (E + 16) 59 a (u 1) (hx_mN M)) ∧ (∀ E, D ≤ E → hx_CK N t L (E + 16) 58 a (u 2) (hx_mB M)) ∧ (∀ E, D ≤ E → hx_CK N t L (E + 16) 56 a (u 3) (hx_mB M)) ∧ ∀ tag p, p ≤ L → hx_gd L p (u tag p)
theorem hx_63F3 {l2 : Value} {x : Int32} {f pl : Nat} (h : hx_CF t L f pl I) : ∃ I', hl_Run 63 (hl_call (E + 16)) 63 [.ref 38, .int (nI a), l2, .int x] [] (hl_g N I J) = some (none, hl_g N I' J) ∧ hx_CF t L f pl I' ∧ hx_fF I I' := by
  obtain ⟨I1, e1, c1, f1⟩ := hx_s79f (d := E + 14) (N := N) (J := J) (x := x) h
  refine ⟨I1, ?_, c1, f1⟩
  simp only [hl_r63_63, hl_r63_64, hl_r63_67, hl_r63_68, hl_r63_71, hl_o_38, hl_p_38_0, hl_p_38_1, hl_o_39, hl_p_39_0, hl_p_39_1, hl_p_39_2, e1, hl_tl_n, hl_kill_i, hl_kill_r, hl_kill_n, hl_kill_l, hl_tl_s, hl_tl_n, hl_cal_some, hl_gI, hl_gJ, hl_gsI, hl_gsJ, hl_tv01, if_true, if_false, hl_up_a, hl_row_a, not_true, not_false_eq_true, hl_10]
theorem hx_63F2 {x : Int32} {l3 : Value} {f pl : Nat} (hu : hx_UP N t L D a u M) (hD : D ≤ E) (h : hx_CF t L f pl I) : ∃ I', hl_Run 63 (hl_call (E + 16)) 33 [.ref 38, .int (nI a), .int x, l3] [] (hl_g N I J) = some (none, hl_g N I' J) ∧ hx_CF t L f pl I' ∧ hx_fF I I' := by
  obtain ⟨I1, w, e1, c1, f1⟩ := hx_s78f (d := E + 15) (N := N) (J := J) (k := 51) (v := 0) h
  obtain ⟨I2, e2, c2, f2⟩ := hx_s79f (d := E + 14) (N := N) (J := J) (x := x) c1
  obtain ⟨I3, e3, c3, f3⟩ := (hu.2.1 E hD).2 I2 J f pl c2
  have e4 := hx_s65f (d := E + 1) (N := N) (J := J) (k := 16) c3
  obtain ⟨I5, e5, c5, f5⟩ := hx_63F3 (E := E) (N := N) (J := J) (a := a) (l2 := .int x) (x := w) c3
  refine ⟨I5, ?_, c5, hx_fF_tr f1 (hx_fF_tr f2 (hx_fF_tr f3 f5))⟩
  rw [← e5]
  simp only [hl_r63_33, hl_r63_34, hl_r63_37, hl_r63_39, hl_r63_40, hl_r63_43, hl_r63_44, hl_r63_45, hl_r63_48, hl_r63_49, hl_r63_52, hl_r63_53, hl_r63_54, hl_r63_57, hl_r63_58, hl_r63_60, hl_o_38, hl_p_38_0, hl_p_38_1, hl_o_39, hl_p_39_0, hl_p_39_1, hl_p_39_2, e1, e2, e3, e4, hl_tl_n, hl_kill_i, hl_kill_r, hl_kill_n, hl_kill_l, hl_tl_s, hl_tl_n, hl_cal_some, hl_gI, hl_gJ, hl_gsI, hl_gsJ, hl_tv01, if_true, if_false, hl_up_a, hl_row_a, not_true, not_false_eq_true, hl_10]
theorem hx_63F1 {l2 l3 : Value} {f pl : Nat} (hu : hx_UP N t L D a u M) (hD : D ≤ E) (h : hx_CF t L f pl I) : ∃ I', hl_Run 63 (hl_call (E + 16)) 11 [.ref 38, .int (nI a), l2, l3] [] (hl_g N I J) = some (none, hl_g N I' J) ∧ hx_CF t L f pl I' ∧ hx_fF I I' := by
  obtain ⟨I1, w, e1, c1, f1⟩ := hx_s78f (d := E + 15) (N := N) (J := J) (k := 52) (v := 0) h
  obtain ⟨I3, e3, c3, f3⟩ := (hu.2.1 E hD).2 I1 J f pl c1
  have e4 := hx_s65f (d := E + 1) (N := N) (J := J) (k := 42) c3
  obtain ⟨I5, e5, c5, f5⟩ := hx_63F2 (E := E) (N := N) (J := J) (a := a) (x := w) (l3 := l3) hu hD c3
  refine ⟨I5, ?_, c5, hx_fF_tr f1 (hx_fF_tr f3 f5)⟩
  rw [← e5]
  simp only [hl_r63_11, hl_r63_12, hl_r63_15, hl_r63_17, hl_r63_18, hl_r63_21, hl_r63_22, hl_r63_23, hl_r63_24, hl_r63_27, hl_r63_28, hl_r63_30, hl_o_38, hl_p_38_0, hl_p_38_1, hl_o_39, hl_p_39_0, hl_p_39_1, hl_p_39_2, e1, e3, e4, hl_tl_n, hl_kill_i, hl_kill_r, hl_kill_n, hl_kill_l, hl_tl_s, hl_tl_n, hl_cal_some, hl_gI, hl_gJ, hl_gsI, hl_gsJ, hl_tv01, if_true, if_false, hl_up_a, hl_row_a, not_true, not_false_eq_true, hl_10]
theorem hx_fT_mn {m n : Nat} {I I' : Nat → Nat → Int32} (h : hx_fT m I I') (hn : n ≤ m) : hx_fT n I I' := ⟨h.1, fun j hj => h.2 j (by omega)⟩
theorem hx_fT_mn8 {n : Nat} {I0 I1 I2 I3 I4 I5 I6 I7 I8 I9 I10 : Nat → Nat → Int32} (a : hx_fT n I0 I1) (b : hx_fT n I1 I2) (c : hx_fT n I2 I3) (d : hx_fT n I3 I4) (e : hx_fT n I4 I5) (f : hx_fT n I5 I6) (g : hx_fT n I6 I7) (h : hx_fT n I7 I8) (i : hx_fT n I8 I9) (j : hx_fT n I9 I10) : hx_fT n I0 I10 := hx_fT_tr a (hx_fT_tr b (hx_fT_tr c (hx_fT_tr d (hx_fT_tr e (hx_fT_tr f (hx_fT_tr g (hx_fT_tr h (hx_fT_tr i j (Nat.le_refl n)) (Nat.le_refl n)) (Nat.le_refl n)) (Nat.le_refl n)) (Nat.le_refl n)) (Nat.le_refl n)) (Nat.le_refl n)) (Nat.le_refl n)) (Nat.le_refl n)
theorem hx_exp_y {k q : Nat} {C : List (Nat × Nat)} (h : (hx_tk t L q).1 = k) : hx_exp t L k q C = (0, (hx_tk t L q).2.2.2, C) := if_pos h
theorem hx_exp_n {k q : Nat} {C : List (Nat × Nat)} (h : ¬ (hx_tk t L q).1 = k) : hx_exp t L k q C = (1, (hx_tk t L q).2.2.1, []) := if_neg h
theorem hx_CO_f {r : Nat × Nat × List (Nat × Nat)} {sem : (Nat → Int32) → Nat → Nat → List (Nat × Nat) → Prop} {f pl : Nat} {C : List (Nat × Nat)} (h0 : f ≠ 0) (e : r = (f, pl, C)) (h : hx_CF t L f pl I') (g : hx_fF I I') : hx_CO t L p n I I' r sem := by
  subst e
  exact ⟨fun z => absurd z h0, fun _ => ⟨h, g⟩⟩
theorem hx_CO_o {r : Nat × Nat × List (Nat × Nat)} {sem : (Nat → Int32) → Nat → Nat → List (Nat × Nat) → Prop} {q n' : Nat} {C : List (Nat × Nat)} (e : r = (0, q, C)) (h1 : hx_CR t L q n' I') (h2 : n ≤ n') (h3 : n' ≤ n + (q - p)) (h4 : hx_fT n I I') (h5 : sem (I' 40) n n' C) : hx_CO t L p n I I' r sem := by
  subst e
  exact ⟨fun _ => ⟨n', h1, h2, h3, h4, h5⟩, fun z => absurd rfl z⟩
theorem hx_r3 (r : Nat × Nat × List (Nat × Nat)) : r = (r.1, r.2.1, r.2.2) := rfl
/-- choice -/
theorem hx_c63 (hu : hx_UP N t L D a u M) (hD : D ≤ E) (hM : 1 ≤ M) (h : hx_CR t L p n I) (hn : n + 1 ≤ p) : ∃ I', hl_call (E + 17) 63 [.ref 38, .int (nI a)] (hl_g N I J) = some (none, hl_g N I' J) ∧ hx_CO t L p n I I' (hx_cho t L u p) (hx_mN M) := by
  have hp := h.2.2.2.2.2.2
  have L3 := h.1.1
  obtain ⟨I1, e1, o1, x1⟩ := (hu.2.2.2.1 E hD).1 I J p n h
  have g1 := hu.2.2.2.2 3 p hp
  generalize hr1 : u 3 p = r1 at o1 x1 g1
  by_cases z1 : r1.1 = 0
  · obtain ⟨n1, c1, a1, b1, f1, s1⟩ := o1 z1
    obtain ⟨y1, y2, -⟩ := g1.1 z1
    clear o1 x1 g1
    obtain ⟨I2, e2, k2, m2⟩ := hx_s65 (d := E + 1) (N := N) (J := J) (k := 41) c1 (by omega)
    obtain ⟨ta1, ta2, ta3, ta4, -⟩ := hx_tk_in (t := t) y2
    have e2' : hl_call (E + 16) 65 [.ref 38, .int 41] (hl_g N I1 J) = some (none, hl_g N I2 J) := e2
    by_cases z2 : (hx_tk t L r1.2.1).1 = 41
    · obtain ⟨c2, f2⟩ := k2 z2
      clear k2 m2
      generalize hq2 : (hx_tk t L r1.2.1).2.2.2 = q2 at c2 ta2 ta3 ta4
      have lt2 : r1.2.1 < q2 := by omega
      have add1 := hx_s78 (d := E + 15) (N := N) (J := J) (k := 52) (v := 0) c2.2.2.2.2.1 (show n1 < 300 by omega)
      have c3 := hx_CR_add (k := 52) (v := 0) c2 (show n1 + 1 ≤ q2 by omega)
      have f3 := hx_fT_add (I := I2) (k := 52) (v := 0) (Nat.le_refl n1)
      obtain ⟨at3a, at3b⟩ := hx_add_at (n := n1) (I := I2) (k := 52) (v := 0)
      have add1' : hl_call (E + 16) 78 [.ref 39, .int 52, .int 0] (hl_g N I2 J) = some (some (.int (nI n1)), hl_g N (hl_up (hl_up I2 40 n1 (hx_enc 52 0)) 39 3 (nI (n1 + 1))) J) := add1
      generalize hl_up (hl_up I2 40 n1 (hx_enc 52 0)) 39 3 (nI (n1 + 1)) = I3 at add1' c3 f3 at3a at3b
      obtain ⟨I4, e4, o4, x4⟩ := (hu.2.1 E hD).1 I3 J q2 (n1 + 1) c3
      have g4 := hu.2.2.2.2 1 q2 ta3
      generalize hr2 : u 1 q2 = r2 at o4 x4 g4
      -- up to here
      have st : ∀ w, hl_call (E + 16) 59 [.ref 38, .int (nI a)] (hl_g N I3 J) = w → hl_call (E + 17) 63 [.ref 38, .int (nI a)] (hl_g N I J) = hl_cal w (fun v w' => hl_Run 63 (hl_call (E + 16)) 27 [.ref 38, .int (nI a), .int (nI n1), .null] (v.toList ++ []) w') := fun w hw => by
        rw [← hw, hl_e63]
        simp only [hl_r63_0, hl_r63_1, hl_r63_2, hl_r63_5, hl_r63_6, hl_r63_8, hl_r63_11, hl_r63_12, hl_r63_15, hl_r63_17, hl_r63_18, hl_r63_21, hl_r63_22, hl_r63_23, hl_r63_24, hl_o_38, hl_p_38_0, hl_p_38_1, hl_o_39, hl_p_39_0, hl_p_39_1, hl_p_39_2, e1, e2', add1', hl_tl_n, hl_kill_i, hl_kill_r, hl_kill_n, hl_kill_l, hl_tl_s, hl_tl_n, hl_cal_some, hl_gI, hl_gJ, hl_gsI, hl_gsJ, hl_tv01, if_true, if_false, hl_up_a, hl_row_a, not_true, not_false_eq_true, hl_10]
      have st4 := st _ e4
      rw [hl_cal_some] at st4
      have st4' : hl_call (E + 17) 63 [.ref 38, .int (nI a)] (hl_g N I J) = hl_Run 63 (hl_call (E + 16)) 27 [.ref 38, .int (nI a), .int (nI n1), .null] [] (hl_g N I4 J) := st4
      by_cases z3 : r2.1 = 0
      · obtain ⟨n2, c4, a4, b4, f4, s4⟩ := o4 z3
        obtain ⟨y3, y4, -⟩ := g4.1 z3
        clear o4 x4 g4
        obtain ⟨I5, e5, k5, m5⟩ := hx_s65 (d := E + 1) (N := N) (J := J) (k := 42) c4 (by omega)
        have e5' : hl_call (E + 16) 65 [.ref 38, .int 42] (hl_g N I4 J) = some (none, hl_g N I5 J) := e5
        obtain ⟨tb1, tb2, tb3, tb4, -⟩ := hx_tk_in (t := t) y4
        by_cases z4 : (hx_tk t L r2.2.1).1 = 42
        · obtain ⟨c5, f5⟩ := k5 z4
          clear k5 m5
          generalize hq4 : (hx_tk t L r2.2.1).2.2.2 = q4 at c5 tb2 tb3 tb4
          have lt4 : r2.2.1 < q4 := by omega
          have add2 := hx_s78 (d := E + 15) (N := N) (J := J) (k := 51) (v := 0) c5.2.2.2.2.1 (show n2 < 300 by omega)
          have c6 := hx_CR_add (k := 51) (v := 0) c5 (show n2 + 1 ≤ q4 by omega)
          have f6 := hx_fT_add (I := I5) (k := 51) (v := 0) (Nat.le_refl n2)
          obtain ⟨at6a, at6b⟩ := hx_add_at (n := n2) (I := I5) (k := 51) (v := 0)
          have add2' : hl_call (E + 16) 78 [.ref 39, .int 51, .int 0] (hl_g N I5 J) = some (some (.int (nI n2)), hl_g N (hl_up (hl_up I5 40 n2 (hx_enc 51 0)) 39 3 (nI (n2 + 1))) J) := add2
          generalize hl_up (hl_up I5 40 n2 (hx_enc 51 0)) 39 3 (nI (n2 + 1)) = I6 at add2' c6 f6 at6a at6b
          have s52 : I6 40 n1 = hx_enc 52 0 := by rw [at6a n1 (by omega), f5.1 40 (by omega), f4.2 n1 (by omega), at3b]
          have aim1 := hx_s79 (d := E + 14) (N := N) (J := J) (j := n1) c6.2.2.2.2.1 (by omega) (by omega) (by omega) s52
          have c7 : hx_CR t L q4 (n2 + 1) (hl_up I6 40 n1 (hx_enc 52 (n2 + 1))) := by
            obtain ⟨T, S, h7, h8, h3, hn', hp'⟩ := c6
            have r38 : hl_up I6 40 n1 (hx_enc 52 (n2 + 1)) 38 = I6 38 := hl_up_ne _ _ _ (by omega)
            refine ⟨⟨T.1, by rw [r38]; exact T.2.1, fun k hk => by rw [hl_up_ne _ _ _ (by omega)]; exact T.2.2 k hk⟩, ?_, by rw [r38]; exact h7, by rw [r38]; exact h8, by rw [hl_up_ne _ _ _ (by omega)]; exact h3, hn', hp'⟩
            unfold hx_TS
            rw [r38]
            exact S
          have at7 : ∀ j, hl_up I6 40 n1 (hx_enc 52 (n2 + 1)) 40 j = if j = n1 then hx_enc 52 (n2 + 1) else I6 40 j := fun j => by rw [hl_up_a, if_pos rfl]
          have f7 : hx_fT n1 I6 (hl_up I6 40 n1 (hx_enc 52 (n2 + 1))) := ⟨⟨fun b h1 h2 h3 => hl_up_ne _ _ _ h3, fun j _ => by rw [hl_up_ne _ _ _ (by omega)]⟩, fun j hj => by rw [at7, if_neg (by omega)]⟩
          generalize hl_up I6 40 n1 (hx_enc 52 (n2 + 1)) = I7 at aim1 c7 at7 f7
          have aim1' : hl_call (E + 16) 79 [.ref 39, .int (nI n1)] (hl_g N I6 J) = some (none, hl_g N I7 J) := aim1
          obtain ⟨I8, e8, o8, x8⟩ := (hu.2.1 E hD).1 I7 J q4 (n2 + 1) c7
          have g8 := hu.2.2.2.2 1 q4 tb3
          generalize hr3 : u 1 q4 = r3 at o8 x8 g8
          have st8 : hl_call (E + 17) 63 [.ref 38, .int (nI a)] (hl_g N I J) = hl_Run 63 (hl_call (E + 16)) 57 [.ref 38, .int (nI a), .int (nI n1), .int (nI n2)] [] (hl_g N I8 J) := by
            rw [st4']
            simp only [hl_r63_27, hl_r63_28, hl_r63_30, hl_r63_33, hl_r63_34, hl_r63_37, hl_r63_39, hl_r63_40, hl_r63_43, hl_r63_44, hl_r63_45, hl_r63_48, hl_r63_49, hl_r63_52, hl_r63_53, hl_r63_54, hl_o_38, hl_p_38_0, hl_p_38_1, hl_o_39, hl_p_39_0, hl_p_39_1, hl_p_39_2, e5', add2', aim1', e8, hl_tl_n, hl_kill_i, hl_kill_r, hl_kill_n, hl_kill_l, hl_tl_s, hl_tl_n, hl_cal_some, hl_gI, hl_gJ, hl_gsI, hl_gsJ, hl_tv01, if_true, if_false, hl_up_a, hl_row_a, not_true, not_false_eq_true, hl_10]
          by_cases z5 : r3.1 = 0
          · obtain ⟨n3, c8, a8, b8, f8, s8⟩ := o8 z5
            obtain ⟨y5, y6, -⟩ := g8.1 z5
            clear o8 x8 g8
            obtain ⟨I9, e9, k9, m9⟩ := hx_s65 (d := E + 1) (N := N) (J := J) (k := 16) c8 (by omega)
            have e9' : hl_call (E + 16) 65 [.ref 38, .int 16] (hl_g N I8 J) = some (none, hl_g N I9 J) := e9
            obtain ⟨tc1, tc2, tc3, tc4, -⟩ := hx_tk_in (t := t) y6
            by_cases z6 : (hx_tk t L r3.2.1).1 = 16
            · obtain ⟨c9, f9⟩ := k9 z6
              clear k9 m9
              generalize hq6 : (hx_tk t L r3.2.1).2.2.2 = q6 at c9 tc2 tc3 tc4
              have s51 : I9 40 n2 = hx_enc 51 0 := by rw [f9.1 40 (by omega), f8.2 n2 (by omega), at7, if_neg (by omega), at6b]
              have aim2 := hx_s79 (d := E + 14) (N := N) (J := J) (j := n2) c9.2.2.2.2.1 (by omega) (by omega) (by omega) s51
              have at10 : ∀ j, hl_up I9 40 n2 (hx_enc 51 n3) 40 j = if j = n2 then hx_enc 51 n3 else I9 40 j := fun j => by rw [hl_up_a, if_pos rfl]
              have c10 : hx_CR t L q6 n3 (hl_up I9 40 n2 (hx_enc 51 n3)) := by
                obtain ⟨T, S, h7, h8, h3, hn', hp'⟩ := c9
                have r38 : hl_up I9 40 n2 (hx_enc 51 n3) 38 = I9 38 := hl_up_ne _ _ _ (by omega)
                refine ⟨⟨T.1, by rw [r38]; exact T.2.1, fun k hk => by rw [hl_up_ne _ _ _ (by omega)]; exact T.2.2 k hk⟩, ?_, by rw [r38]; exact h7, by rw [r38]; exact h8, by rw [hl_up_ne _ _ _ (by omega)]; exact h3, hn', hp'⟩
                unfold hx_TS
                rw [r38]
                exact S
              have f10 : hx_fT n2 I9 (hl_up I9 40 n2 (hx_enc 51 n3)) := ⟨⟨fun b h1 h2 h3 => hl_up_ne _ _ _ h3, fun j _ => by rw [hl_up_ne _ _ _ (by omega)]⟩, fun j hj => by rw [at10, if_neg (by omega)]⟩
              generalize hl_up I9 40 n2 (hx_enc 51 n3) = I10 at aim2 c10 at10 f10
              have aim2' : hl_call (E + 16) 79 [.ref 39, .int (nI n2)] (hl_g N I9 J) = some (none, hl_g N I10 J) := aim2
              refine ⟨I10, ?_, hx_CO_o (q := q6) (n' := n3) (C := r1.2.2 ++ r2.2.2 ++ r3.2.2 ++ [(23, 0)]) ?_ c10 (by omega) (by omega) ?_ ?_⟩
              · rw [st8]
                simp only [hl_r63_57, hl_r63_58, hl_r63_60, hl_r63_63, hl_r63_64, hl_r63_67, hl_r63_68, hl_r63_71, hl_o_38, hl_p_38_0, hl_p_38_1, hl_o_39, hl_p_39_0, hl_p_39_1, hl_p_39_2, e9', aim2', hl_tl_n, hl_kill_i, hl_kill_r, hl_kill_n, hl_kill_l, hl_tl_s, hl_tl_n, hl_cal_some, hl_gI, hl_gJ, hl_gsI, hl_gsJ, hl_tv01, if_true, if_false, hl_up_a, hl_row_a, not_true, not_false_eq_true, hl_10]
              · unfold hx_cho
                rw [hr1, hx_ths_0 z1, hx_exp_y z2, hx_ths_0 rfl]
                show hx_ths (u 1 (hx_tk t L r1.2.1).2.2.2) _ = _
                rw [hq2, hr2, hx_ths_0 z3, hx_exp_y z4, hx_ths_0 rfl]
                show hx_ths (u 1 (hx_tk t L r2.2.1).2.2.2) _ = _
                rw [hq4, hr3, hx_ths_0 z5, hx_exp_y z6, hx_ths_0 rfl]
                show (0, (hx_tk t L r3.2.1).2.2.2, _) = _
                rw [hq6]
              · exact hx_fT_mn8 f1 f2.fT (hx_fT_mn f3 (by omega)) (hx_fT_mn f4 (by omega)) f5.fT (hx_fT_mn f6 (by omega)) (hx_fT_mn f7 (by omega)) (hx_fT_mn f8 (by omega)) f9.fT (hx_fT_mn f10 (by omega))
              · refine hx_SN_if (n1 := n1) (n2 := n2) (hx_SB_S s1 (fun j h1 h2 => ?_) (Nat.le_refl M)) (hx_SN_S s4 (fun j h1 h2 => ?_) (Nat.le_refl M)) (hx_SN_S s8 (fun j h1 h2 => ?_) (Nat.le_refl M)) a1 (by omega) (by omega) (by omega) ?_ ?_ (Nat.le_refl M) (Nat.le_refl M) (Nat.le_refl M) hM
                · rw [f10.2 j (by omega), f9.1 40 (by omega), f8.2 j (by omega), f7.2 j (by omega), f6.2 j (by omega), f5.1 40 (by omega), f4.2 j (by omega), f3.2 j h2, f2.1 40 (by omega)]
                · rw [f10.2 j (by omega), f9.1 40 (by omega), f8.2 j (by omega), at7, if_neg (by omega), at6a j h2, f5.1 40 (by omega)]
                · rw [at10, if_neg (by omega), f9.1 40 (by omega)]
                · rw [f10.2 n1 (by omega), f9.1 40 (by omega), f8.2 n1 (by omega), at7, if_pos rfl]
                · rw [at10, if_pos rfl]
            · obtain ⟨c9, f9⟩ := m9 z6
              obtain ⟨I10, e10, c10, f10⟩ := hx_63F3 (E := E) (N := N) (J := J) (a := a) (l2 := .int (nI n1)) (x := nI n2) c9
              refine ⟨I10, ?_, hx_CO_f (f := 1) (pl := (hx_tk t L r3.2.1).2.2.1) (C := []) (by omega) ?_ c10 ?_⟩
              · rw [st8, ← e10]
                simp only [hl_r63_57, hl_r63_58, hl_r63_60, hl_o_38, hl_p_38_0, hl_p_38_1, e9', hl_tl_n, hl_kill_i, hl_kill_r, hl_kill_n, hl_kill_l, hl_tl_s, hl_tl_n, hl_cal_some, hl_gI, hl_gJ, hl_gsI, hl_gsJ, hl_tv01, if_true, if_false, hl_up_a, hl_row_a, not_true, not_false_eq_true, hl_10]
              · unfold hx_cho
                rw [hr1, hx_ths_0 z1, hx_exp_y z2, hx_ths_0 rfl]
                show hx_ths (u 1 (hx_tk t L r1.2.1).2.2.2) _ = _
                rw [hq2, hr2, hx_ths_0 z3, hx_exp_y z4, hx_ths_0 rfl]
                show hx_ths (u 1 (hx_tk t L r2.2.1).2.2.2) _ = _
                rw [hq4, hr3, hx_ths_0 z5, hx_exp_n z6, hx_ths_n (by show (1 : Nat) ≠ 0; omega)]
              · exact hx_fF_tr f1.1 (hx_fF_tr f2.fF (hx_fF_tr f3.1 (hx_fF_tr f4.1 (hx_fF_tr f5.fF (hx_fF_tr f6.1 (hx_fF_tr f7.1 (hx_fF_tr f8.1 (hx_fF_tr f9 f10))))))))
          · obtain ⟨c8, f8⟩ := x8 z5
            have e9 := hx_s65f (d := E + 1) (N := N) (J := J) (k := 16) c8
            obtain ⟨I10, e10, c10, f10⟩ := hx_63F3 (E := E) (N := N) (J := J) (a := a) (l2 := .int (nI n1)) (x := nI n2) c8
            refine ⟨I10, ?_, hx_CO_f (f := r3.1) (pl := r3.2.1) (C := r3.2.2) z5 ?_ c10 ?_⟩
            · rw [st8, ← e10]
              simp only [hl_r63_57, hl_r63_58, hl_r63_60, hl_o_38, hl_p_38_0, hl_p_38_1, e9, hl_tl_n, hl_kill_i, hl_kill_r, hl_kill_n, hl_kill_l, hl_tl_s, hl_tl_n, hl_cal_some, hl_gI, hl_gJ, hl_gsI, hl_gsJ, hl_tv01, if_true, if_false, hl_up_a, hl_row_a, not_true, not_false_eq_true, hl_10]
            · unfold hx_cho
              rw [hr1, hx_ths_0 z1, hx_exp_y z2, hx_ths_0 rfl]
              show hx_ths (u 1 (hx_tk t L r1.2.1).2.2.2) _ = _
              rw [hq2, hr2, hx_ths_0 z3, hx_exp_y z4, hx_ths_0 rfl]
              show hx_ths (u 1 (hx_tk t L r2.2.1).2.2.2) _ = _
              rw [hq4, hr3, hx_ths_n z5]
            · exact hx_fF_tr f1.1 (hx_fF_tr f2.fF (hx_fF_tr f3.1 (hx_fF_tr f4.1 (hx_fF_tr f5.fF (hx_fF_tr f6.1 (hx_fF_tr f7.1 (hx_fF_tr f8 f10)))))))
        · obtain ⟨c5, f5⟩ := m5 z4
          obtain ⟨I10, e10, c10, f10⟩ := hx_63F2 (E := E) (N := N) (J := J) (a := a) (x := nI n1) (l3 := .null) hu hD c5
          refine ⟨I10, ?_, hx_CO_f (f := 1) (pl := (hx_tk t L r2.2.1).2.2.1) (C := []) (by omega) ?_ c10 ?_⟩
          · rw [st4', ← e10]
            simp only [hl_r63_27, hl_r63_28, hl_r63_30, hl_o_38, hl_p_38_0, hl_p_38_1, e5', hl_tl_n, hl_kill_i, hl_kill_r, hl_kill_n, hl_kill_l, hl_tl_s, hl_tl_n, hl_cal_some, hl_gI, hl_gJ, hl_gsI, hl_gsJ, hl_tv01, if_true, if_false, hl_up_a, hl_row_a, not_true, not_false_eq_true, hl_10]
          · unfold hx_cho
            rw [hr1, hx_ths_0 z1, hx_exp_y z2, hx_ths_0 rfl]
            show hx_ths (u 1 (hx_tk t L r1.2.1).2.2.2) _ = _
            rw [hq2, hr2, hx_ths_0 z3, hx_exp_n z4, hx_ths_n (by show (1 : Nat) ≠ 0; omega)]
          · exact hx_fF_tr f1.1 (hx_fF_tr f2.fF (hx_fF_tr f3.1 (hx_fF_tr f4.1 (hx_fF_tr f5 f10))))
      · obtain ⟨c4, f4⟩ := x4 z3
        have e5 := hx_s65f (d := E + 1) (N := N) (J := J) (k := 42) c4
        obtain ⟨I10, e10, c10, f10⟩ := hx_63F2 (E := E) (N := N) (J := J) (a := a) (x := nI n1) (l3 := .null) hu hD c4
        refine ⟨I10, ?_, hx_CO_f (f := r2.1) (pl := r2.2.1) (C := r2.2.2) z3 ?_ c10 ?_⟩
        · rw [st4', ← e10]
          simp only [hl_r63_27, hl_r63_28, hl_r63_30, hl_o_38, hl_p_38_0, hl_p_38_1, e5, hl_tl_n, hl_kill_i, hl_kill_r, hl_kill_n, hl_kill_l, hl_tl_s, hl_tl_n, hl_cal_some, hl_gI, hl_gJ, hl_gsI, hl_gsJ, hl_tv01, if_true, if_false, hl_up_a, hl_row_a, not_true, not_false_eq_true, hl_10]
        · unfold hx_cho
          rw [hr1, hx_ths_0 z1, hx_exp_y z2, hx_ths_0 rfl]
          show hx_ths (u 1 (hx_tk t L r1.2.1).2.2.2) _ = _
          rw [hq2, hr2, hx_ths_n z3]
        · exact hx_fF_tr f1.1 (hx_fF_tr f2.fF (hx_fF_tr f3.1 (hx_fF_tr f4 f10)))
    · obtain ⟨c2, f2⟩ := m2 z2
      obtain ⟨I10, e10, c10, f10⟩ := hx_63F1 (E := E) (N := N) (J := J) (a := a) (l2 := .null) (l3 := .null) hu hD c2
      refine ⟨I10, ?_, hx_CO_f (f := 1) (pl := (hx_tk t L r1.2.1).2.2.1) (C := []) (by omega) ?_ c10 (hx_fF_tr f1.1 (hx_fF_tr f2 f10))⟩
      · rw [hl_e63, ← e10]
        simp only [hl_r63_0, hl_r63_1, hl_r63_2, hl_r63_5, hl_r63_6, hl_r63_8, hl_o_38, hl_p_38_0, hl_p_38_1, e1, e2', hl_tl_n, hl_kill_i, hl_kill_r, hl_kill_n, hl_kill_l, hl_tl_s, hl_tl_n, hl_cal_some, hl_gI, hl_gJ, hl_gsI, hl_gsJ, hl_tv01, if_true, if_false, hl_up_a, hl_row_a, not_true, not_false_eq_true, hl_10]
      · unfold hx_cho
        rw [hr1, hx_ths_0 z1, hx_exp_n z2, hx_ths_n (by show (1 : Nat) ≠ 0; omega)]
  · obtain ⟨c1, f1⟩ := x1 z1
    have e2 := hx_s65f (d := E + 1) (N := N) (J := J) (k := 41) c1
    obtain ⟨I10, e10, c10, f10⟩ := hx_63F1 (E := E) (N := N) (J := J) (a := a) (l2 := .null) (l3 := .null) hu hD c1
    refine ⟨I10, ?_, hx_CO_f (f := r1.1) (pl := r1.2.1) (C := r1.2.2) z1 ?_ c10 (hx_fF_tr f1 f10)⟩
    · rw [hl_e63, ← e10]
      simp only [hl_r63_0, hl_r63_1, hl_r63_2, hl_r63_5, hl_r63_6, hl_r63_8, hl_o_38, hl_p_38_0, hl_p_38_1, e1, e2, hl_tl_n, hl_kill_i, hl_kill_r, hl_kill_n, hl_kill_l, hl_tl_s, hl_tl_n, hl_cal_some, hl_gI, hl_gJ, hl_gsI, hl_gsJ, hl_tv01, if_true, if_false, hl_up_a, hl_row_a, not_true, not_false_eq_true, hl_10]
    · unfold hx_cho
      rw [hr1, hx_ths_n z1]
end HXCPAR2
