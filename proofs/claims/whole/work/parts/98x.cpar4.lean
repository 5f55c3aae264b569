/-! the class's reader: the four loops (written by gen_loops.py) -/
section HXCPAR4
variable {D d E N L p n a M M1 : Nat} {I I' : Nat → Nat → Int32} {J : Nat → Nat → Int64} {t : Nat → Nat} {X : Nat → Nat × Nat × List (Nat × Nat)}
theorem hx_lp0 {ok : Nat → Bool} {f q : Nat} {C : List (Nat × Nat)} (h : ok (hx_tk t L q).1 = false) : hx_lp t L ok X f q C = (0, q, C) := by
  cases f with
  | zero => rfl
  | succ f => show (if ok (hx_tk t L q).1 = true then _ else _) = _; rw [h]; rfl
theorem hx_lp1 {ok : Nat → Bool} {f q : Nat} {C : List (Nat × Nat)} (h : ok (hx_tk t L q).1 = true) : hx_lp t L ok X (f + 1) q C = hx_ths (X (hx_tk t L q).2.2.2) (fun q' C' => hx_lp t L ok X f q' (C ++ C' ++ [(hx_op (hx_tk t L q).1, 0)])) := if_pos h
theorem hx_e60_f {l3 : Value} {f pl i : Nat} (h : hx_CF t L f pl I) : hl_Run 60 (hl_call d) 7 [.ref 38, .int (nI a), .int (nI i), l3] [] (hl_g N I J) = some (none, hl_g N I J) := by
  have f0 : ¬ nI f = 0 := nI_ne0 (by have := h.2.1; omega) (by have := h.2.1; omega)
  by_cases c : (300 : Int32) ≤ nI i
  · simp only [hl_r60_7, hl_r60_8, hl_r60_11, hl_r60_14, hl_r60_15, hl_r60_18, hl_r60_21, hl_r60_22, hl_r60_25, hl_r60_27, hl_r60_30, hl_r60_31, hl_r60_34, hl_r60_36, hl_r60_39, hl_r60_40, hl_r60_43, hl_r60_44, hl_r60_45, hl_r60_48, hl_r60_49, hl_r60_50, hl_r60_53, hl_r60_54, hl_r60_57, hl_r60_58, hl_r60_59, hl_r60_62, hl_r60_63, hl_r60_66, hl_r60_69, hl_o_38, hl_p_38_0, hl_p_38_1, h.2.2.1, f0, c, hl_kill_i, hl_kill_r, hl_kill_n, hl_kill_l, hl_tl_s, hl_tl_n, hl_cal_some, hl_gI, hl_gJ, hl_gsI, hl_gsJ, hl_tv01, if_true, if_false, hl_up_a, hl_row_a, not_true, not_false_eq_true, hl_10]
  · simp only [hl_r60_7, hl_r60_8, hl_r60_11, hl_r60_14, hl_r60_15, hl_r60_18, hl_r60_21, hl_r60_22, hl_r60_25, hl_r60_27, hl_r60_30, hl_r60_31, hl_r60_34, hl_r60_36, hl_r60_39, hl_r60_40, hl_r60_43, hl_r60_44, hl_r60_45, hl_r60_48, hl_r60_49, hl_r60_50, hl_r60_53, hl_r60_54, hl_r60_57, hl_r60_58, hl_r60_59, hl_r60_62, hl_r60_63, hl_r60_66, hl_r60_69, hl_o_38, hl_p_38_0, hl_p_38_1, h.2.2.1, f0, c, hl_kill_i, hl_kill_r, hl_kill_n, hl_kill_l, hl_tl_s, hl_tl_n, hl_cal_some, hl_gI, hl_gJ, hl_gsI, hl_gsJ, hl_tv01, if_true, if_false, hl_up_a, hl_row_a, not_true, not_false_eq_true, hl_10]
theorem hx_l60 (hX : hx_CK N t L (E + 19) 61 a X (hx_mN M)) (hg : ∀ p, p ≤ L → hx_gd L p (X p)) (f : Nat) : ∀ (i q n1 : Nat) (I1 : Nat → Nat → Int32) (C : List (Nat × Nat)) (l3 : Value), i + f = 300 → hx_CR t L q n1 I1 → n ≤ n1 → n1 ≤ n + (q - p) → p < q → hx_fT n I I1 → hx_mN (M + 1) (I1 40) n n1 C → ∃ I', hl_Run 60 (hl_call (E + 19)) 7 [.ref 38, .int (nI a), .int (nI i), l3] [] (hl_g N I1 J) = some (none, hl_g N I' J) ∧ hx_CO t L p n I I' (hx_lp t L (hx_k2 36 37) X f q C) (hx_mN (M + 1)) := by
  induction f with
  | zero =>
    intro i q n1 I1 C l3 hi h hn hq hpq hf hs
    have ei : i = 300 := by omega
    subst ei
    have c : (300 : Int32) ≤ nI 300 := by decide
    refine ⟨I1, ?_, hx_CO_o (q := q) (n' := n1) (C := C) rfl h hn hq hf hs⟩
    simp only [hl_r60_7, hl_r60_8, hl_r60_11, hl_r60_14, hl_r60_15, hl_r60_18, hl_r60_21, hl_r60_22, hl_r60_25, hl_r60_27, hl_r60_30, hl_r60_31, hl_r60_34, hl_r60_36, hl_r60_39, hl_r60_40, hl_r60_43, hl_r60_44, hl_r60_45, hl_r60_48, hl_r60_49, hl_r60_50, hl_r60_53, hl_r60_54, hl_r60_57, hl_r60_58, hl_r60_59, hl_r60_62, hl_r60_63, hl_r60_66, hl_r60_69, c, hl_kill_i, hl_kill_r, hl_kill_n, hl_kill_l, hl_tl_s, hl_tl_n, hl_cal_some, hl_gI, hl_gJ, hl_gsI, hl_gsJ, hl_tv01, if_true, if_false, hl_up_a, hl_row_a, not_true, not_false_eq_true, hl_10]
  | succ f ih =>
    intro i q n1 I1 C l3 hi h hn hq hpq hf hs
    obtain ⟨ta, tb, tc, td, k44, -⟩ := hx_tk_in (t := t) h.2.2.2.2.2.2
    have h5 := h.2.1.2.2.1
    have h7 := h.2.2.1
    have hnq := h.2.2.2.2.2.1
    have L3 : L ≤ 300 := h.1.1
    have c : ¬ (300 : Int32) ≤ nI i := nI_ge (a := i) (b := 300) (by omega) (by omega)
    by_cases z1 : (hx_tk t L q).1 = 36 ∨ (hx_tk t L q).1 = 37
    · have hok : hx_k2 36 37 (hx_tk t L q).1 = true := by
        unfold hx_k2
        rcases z1 with z | z
        · rw [z]; rfl
        · rw [z]; rfl
      rw [hx_lp1 hok]
      have lt : q < (hx_tk t L q).2.2.2 := by omega
      obtain ⟨I2, e2, c2, f2⟩ := hx_adv (d := E + 5) (N := N) (J := J) h
      have e2' : hl_call (E + 19) 66 [.ref 38] (hl_g N I1 J) = some (none, hl_g N I2 J) := e2
      clear hok
      generalize hq2 : (hx_tk t L q).2.2.2 = e at c2 lt tb tc td ⊢
      obtain ⟨I3, e3, o3, x3⟩ := hX.1 I2 J e n1 c2
      have g3 := hg e tc
      generalize X e = r at o3 x3 g3 ⊢
      have st : ∀ (w : Int32) (I4 : Nat → Nat → Int32), hl_call (E + 19) 78 [.ref 39, .int (nI (hx_tk t L q).1), .int 0] (hl_g N I3 J) = some (some (.int w), hl_g N I4 J) → hl_Run 60 (hl_call (E + 19)) 7 [.ref 38, .int (nI a), .int (nI i), l3] [] (hl_g N I1 J) = hl_Run 60 (hl_call (E + 19)) 7 [.ref 38, .int (nI a), .int (nI (i + 1)), .int (nI (hx_tk t L q).1)] [] (hl_g N I4 J) := fun w I4 e4 => by
        have ei : nI i + 1 = nI (i + 1) := (nI_succ i).symm
        rcases z1 with z | z
        · have h5' : I1 38 5 = 36 := by rw [h5, z]; rfl
          rw [z] at e4 ⊢
          have e4' : hl_call (E + 19) 78 [.ref 39, .int 36, .int 0] (hl_g N I3 J) = some (some (.int w), hl_g N I4 J) := e4
          have zA : nI 36 = 36 := rfl
          have st66 : hl_Run 60 (hl_call (E + 19)) 7 [.ref 38, .int (nI a), .int (nI i), l3] [] (hl_g N I1 J) = hl_Run 60 (hl_call (E + 19)) 66 [.ref 38, .int (nI a), .int (nI (i + 1)), .int 36] [] (hl_g N I4 J) := by
            simp only [hl_r60_7, hl_r60_8, hl_r60_11, hl_r60_14, hl_r60_15, hl_r60_18, hl_r60_21, hl_r60_22, hl_r60_25, hl_r60_27, hl_r60_30, hl_r60_31, hl_r60_34, hl_r60_36, hl_r60_39, hl_r60_40, hl_r60_43, hl_r60_44, hl_r60_45, hl_r60_48, hl_r60_49, hl_r60_50, hl_r60_53, hl_r60_54, hl_r60_57, hl_r60_58, hl_r60_59, hl_r60_62, hl_r60_63, hl_o_38, hl_p_38_0, hl_p_38_1, hl_o_39, hl_p_39_0, hl_p_39_1, hl_p_39_2, c, h5', h7, e2', e3, e4', ei, hl_tl_n, hl_kill_i, hl_kill_r, hl_kill_n, hl_kill_l, hl_tl_s, hl_tl_n, hl_cal_some, hl_gI, hl_gJ, hl_gsI, hl_gsJ, hl_tv01, if_true, if_false, hl_up_a, hl_row_a, not_true, not_false_eq_true, hl_10]
          rw [st66]
          simp only [hl_r60_66, zA]
        · have h5' : I1 38 5 = 37 := by rw [h5, z]; rfl
          rw [z] at e4 ⊢
          have e4' : hl_call (E + 19) 78 [.ref 39, .int 37, .int 0] (hl_g N I3 J) = some (some (.int w), hl_g N I4 J) := e4
          have zB : nI 37 = 37 := rfl
          have dAB : ¬ (37 : Int32) = 36 := by decide
          have st66 : hl_Run 60 (hl_call (E + 19)) 7 [.ref 38, .int (nI a), .int (nI i), l3] [] (hl_g N I1 J) = hl_Run 60 (hl_call (E + 19)) 66 [.ref 38, .int (nI a), .int (nI (i + 1)), .int 37] [] (hl_g N I4 J) := by
            simp only [hl_r60_7, hl_r60_8, hl_r60_11, hl_r60_14, hl_r60_15, hl_r60_18, hl_r60_21, hl_r60_22, hl_r60_25, hl_r60_27, hl_r60_30, hl_r60_31, hl_r60_34, hl_r60_36, hl_r60_39, hl_r60_40, hl_r60_43, hl_r60_44, hl_r60_45, hl_r60_48, hl_r60_49, hl_r60_50, hl_r60_53, hl_r60_54, hl_r60_57, hl_r60_58, hl_r60_59, hl_r60_62, hl_r60_63, hl_o_38, hl_p_38_0, hl_p_38_1, hl_o_39, hl_p_39_0, hl_p_39_1, hl_p_39_2, c, h5', h7, dAB, e2', e3, e4', ei, hl_tl_n, hl_kill_i, hl_kill_r, hl_kill_n, hl_kill_l, hl_tl_s, hl_tl_n, hl_cal_some, hl_gI, hl_gJ, hl_gsI, hl_gsJ, hl_tv01, if_true, if_false, hl_up_a, hl_row_a, not_true, not_false_eq_true, hl_10]
          rw [st66]
          simp only [hl_r60_66, zB]
      by_cases z2 : r.1 = 0
      · obtain ⟨n2, c3, a3, b3, f3, s3⟩ := o3 z2
        obtain ⟨y1, y2, -⟩ := g3.1 z2
        clear o3 x3 g3
        have n3 : n2 < 300 := by omega
        have add1 := hx_s78 (d := E + 18) (N := N) (J := J) (k := (nI (hx_tk t L q).1)) (v := 0) c3.2.2.2.2.1 n3
        have add1' : hl_call (E + 19) 78 [.ref 39, .int (nI (hx_tk t L q).1), .int 0] (hl_g N I3 J) = some (some (.int (nI n2)), hl_g N (hl_up (hl_up I3 40 n2 (hx_enc (hx_tk t L q).1 0)) 39 3 (nI (n2 + 1))) J) := add1
        have c4 := hx_CR_add (k := (hx_tk t L q).1) (v := 0) c3 (show n2 + 1 ≤ r.2.1 by omega)
        have f4 := hx_fT_add (I := I3) (k := (hx_tk t L q).1) (v := 0) (Nat.le_refl n2)
        obtain ⟨a4a, a4b⟩ := hx_add_at (n := n2) (I := I3) (k := (hx_tk t L q).1) (v := 0)
        generalize hl_up (hl_up I3 40 n2 (hx_enc (hx_tk t L q).1 0)) 39 3 (nI (n2 + 1)) = I4 at add1' c4 f4 a4a a4b
        rw [st _ _ add1', hx_ths_0 z2]
        refine ih (i + 1) r.2.1 (n2 + 1) I4 _ _ (by omega) c4 (by omega) (by omega) (by omega) (hx_fT_tr hf (hx_fT_tr f2.fT (hx_fT_tr f3 f4 a3) (Nat.le_refl n1)) hn) ?_
        refine hx_SN_bin (hx_SN_S hs (fun j h1 h2 => ?_) (Nat.le_refl _)) (hx_SN_S s3 (fun j h1 h2 => a4a j h2) (Nat.le_refl _)) hn a3 n3 (show 34 ≤ (hx_tk t L q).1 ∧ (hx_tk t L q).1 ≤ 37 by omega) a4b (Nat.le_refl _) (Nat.le_refl _)
        rw [a4a j (by omega), f3.2 j h2, f2.1 40 (by omega)]
      · obtain ⟨c3, f3⟩ := x3 z2
        obtain ⟨I4, w, e4, c4, f4⟩ := hx_s78f (d := E + 18) (N := N) (J := J) (k := (nI (hx_tk t L q).1)) (v := 0) c3
        have e4' : hl_call (E + 19) 78 [.ref 39, .int (nI (hx_tk t L q).1), .int 0] (hl_g N I3 J) = some (some (.int w), hl_g N I4 J) := e4
        refine ⟨I4, ?_, hx_CO_f (f := r.1) (pl := r.2.1) (C := r.2.2) z2 (by rw [hx_ths_n z2]) c4 (hx_fF_tr hf.1 (hx_fF_tr f2.fF (hx_fF_tr f3 f4)))⟩
        rw [st _ _ e4', hx_e60_f c4]
    · have hok : hx_k2 36 37 (hx_tk t L q).1 = false := by
        unfold hx_k2
        exact Bool.or_eq_false_iff.mpr ⟨decide_eq_false (fun x => z1 (Or.inl x)), decide_eq_false (fun x => z1 (Or.inr x))⟩
      have nA : ¬ nI (hx_tk t L q).1 = 36 := fun x => z1 (Or.inl ((nI_eq (b := 36) (by omega) (by omega)).mp x))
      have nB : ¬ nI (hx_tk t L q).1 = 37 := fun x => z1 (Or.inr ((nI_eq (b := 37) (by omega) (by omega)).mp x))
      rw [hx_lp0 hok]
      refine ⟨I1, ?_, hx_CO_o (q := q) (n' := n1) (C := C) rfl h hn hq hf hs⟩
      simp only [hl_r60_7, hl_r60_8, hl_r60_11, hl_r60_14, hl_r60_15, hl_r60_18, hl_r60_21, hl_r60_22, hl_r60_25, hl_r60_27, hl_r60_30, hl_r60_31, hl_r60_34, hl_r60_36, hl_r60_39, hl_r60_40, hl_r60_43, hl_r60_44, hl_r60_45, hl_r60_48, hl_r60_49, hl_r60_50, hl_r60_53, hl_r60_54, hl_r60_57, hl_r60_58, hl_r60_59, hl_r60_62, hl_r60_63, hl_r60_66, hl_r60_69, hl_o_38, hl_p_38_0, hl_p_38_1, c, h5, h7, nA, nB, hl_kill_i, hl_kill_r, hl_kill_n, hl_kill_l, hl_tl_s, hl_tl_n, hl_cal_some, hl_gI, hl_gJ, hl_gsI, hl_gsJ, hl_tv01, if_true, if_false, hl_up_a, hl_row_a, not_true, not_false_eq_true, hl_10]
theorem hx_c60 (hX : hx_CK N t L (E + 19) 61 a X (hx_mN M)) (hg : ∀ p, p ≤ L → hx_gd L p (X p)) : hx_CK N t L (E + 19 + 1) 60 a (hx_rep t L 36 37 X) (hx_mN (M + 1)) := by
  refine ⟨fun I J p n h => ?_, fun I J f pl h => ?_⟩
  · obtain ⟨I1, e1, o1, x1⟩ := hX.1 I J p n h
    have g1 := hg p h.2.2.2.2.2.2
    unfold hx_rep
    generalize X p = r at o1 x1 g1 ⊢
    have st : hl_call (E + 19 + 1) 60 [.ref 38, .int (nI a)] (hl_g N I J) = hl_Run 60 (hl_call (E + 19)) 7 [.ref 38, .int (nI a), .int (nI 0), .null] [] (hl_g N I1 J) := by
      have z0 : nI 0 = 0 := rfl
      rw [hl_e60]
      simp only [hl_r60_0, hl_r60_1, hl_r60_2, hl_r60_5, hl_r60_6, hl_o_38, hl_p_38_0, hl_p_38_1, e1, z0, hl_tl_n, hl_kill_i, hl_kill_r, hl_kill_n, hl_kill_l, hl_tl_s, hl_tl_n, hl_cal_some, hl_gI, hl_gJ, hl_gsI, hl_gsJ, hl_tv01, if_true, if_false, hl_up_a, hl_row_a, not_true, not_false_eq_true, hl_10]
    by_cases z : r.1 = 0
    · obtain ⟨n1, c1, a1, b1, f1, s1⟩ := o1 z
      obtain ⟨y1, y2, -⟩ := g1.1 z
      rw [hx_ths_0 z, st]
      exact hx_l60 hX hg 300 0 r.2.1 n1 I1 r.2.2 .null rfl c1 a1 b1 y1 f1 (hx_SN_S s1 (fun j h1 h2 => rfl) (Nat.le_succ M))
    · obtain ⟨c1, f1⟩ := x1 z
      refine ⟨I1, ?_, hx_CO_f (f := r.1) (pl := r.2.1) (C := r.2.2) z (by rw [hx_ths_n z]) c1 f1⟩
      rw [st, hx_e60_f c1]
  · obtain ⟨I1, e1, c1, f1⟩ := hX.2 I J f pl h
    refine ⟨I1, ?_, c1, f1⟩
    have z0 : nI 0 = 0 := rfl
    rw [hl_e60, ← hx_e60_f (d := E + 19) (N := N) (J := J) (a := a) (i := 0) (l3 := .null) c1]
    simp only [hl_r60_0, hl_r60_1, hl_r60_2, hl_r60_5, hl_r60_6, hl_o_38, hl_p_38_0, hl_p_38_1, e1, z0, hl_tl_n, hl_kill_i, hl_kill_r, hl_kill_n, hl_kill_l, hl_tl_s, hl_tl_n, hl_cal_some, hl_gI, hl_gJ, hl_gsI, hl_gsJ, hl_tv01, if_true, if_false, hl_up_a, hl_row_a, not_true, not_false_eq_true, hl_10]
theorem hx_e59_f {l3 : Value} {f pl i : Nat} (h : hx_CF t L f pl I) : hl_Run 59 (hl_call d) 7 [.ref 38, .int (nI a), .int (nI i), l3] [] (hl_g N I J) = some (none, hl_g N I J) := by
  have f0 : ¬ nI f = 0 := nI_ne0 (by have := h.2.1; omega) (by have := h.2.1; omega)
  by_cases c : (300 : Int32) ≤ nI i
  · simp only [hl_r59_7, hl_r59_8, hl_r59_11, hl_r59_14, hl_r59_15, hl_r59_18, hl_r59_21, hl_r59_22, hl_r59_25, hl_r59_27, hl_r59_30, hl_r59_31, hl_r59_34, hl_r59_36, hl_r59_39, hl_r59_40, hl_r59_43, hl_r59_44, hl_r59_45, hl_r59_48, hl_r59_49, hl_r59_50, hl_r59_53, hl_r59_54, hl_r59_57, hl_r59_58, hl_r59_59, hl_r59_62, hl_r59_63, hl_r59_66, hl_r59_69, hl_o_38, hl_p_38_0, hl_p_38_1, h.2.2.1, f0, c, hl_kill_i, hl_kill_r, hl_kill_n, hl_kill_l, hl_tl_s, hl_tl_n, hl_cal_some, hl_gI, hl_gJ, hl_gsI, hl_gsJ, hl_tv01, if_true, if_false, hl_up_a, hl_row_a, not_true, not_false_eq_true, hl_10]
  · simp only [hl_r59_7, hl_r59_8, hl_r59_11, hl_r59_14, hl_r59_15, hl_r59_18, hl_r59_21, hl_r59_22, hl_r59_25, hl_r59_27, hl_r59_30, hl_r59_31, hl_r59_34, hl_r59_36, hl_r59_39, hl_r59_40, hl_r59_43, hl_r59_44, hl_r59_45, hl_r59_48, hl_r59_49, hl_r59_50, hl_r59_53, hl_r59_54, hl_r59_57, hl_r59_58, hl_r59_59, hl_r59_62, hl_r59_63, hl_r59_66, hl_r59_69, hl_o_38, hl_p_38_0, hl_p_38_1, h.2.2.1, f0, c, hl_kill_i, hl_kill_r, hl_kill_n, hl_kill_l, hl_tl_s, hl_tl_n, hl_cal_some, hl_gI, hl_gJ, hl_gsI, hl_gsJ, hl_tv01, if_true, if_false, hl_up_a, hl_row_a, not_true, not_false_eq_true, hl_10]
theorem hx_l59 (hX : hx_CK N t L (E + 20) 60 a X (hx_mN M)) (hg : ∀ p, p ≤ L → hx_gd L p (X p)) (f : Nat) : ∀ (i q n1 : Nat) (I1 : Nat → Nat → Int32) (C : List (Nat × Nat)) (l3 : Value), i + f = 300 → hx_CR t L q n1 I1 → n ≤ n1 → n1 ≤ n + (q - p) → p < q → hx_fT n I I1 → hx_mN (M + 1) (I1 40) n n1 C → ∃ I', hl_Run 59 (hl_call (E + 20)) 7 [.ref 38, .int (nI a), .int (nI i), l3] [] (hl_g N I1 J) = some (none, hl_g N I' J) ∧ hx_CO t L p n I I' (hx_lp t L (hx_k2 34 35) X f q C) (hx_mN (M + 1)) := by
  induction f with
  | zero =>
    intro i q n1 I1 C l3 hi h hn hq hpq hf hs
    have ei : i = 300 := by omega
    subst ei
    have c : (300 : Int32) ≤ nI 300 := by decide
    refine ⟨I1, ?_, hx_CO_o (q := q) (n' := n1) (C := C) rfl h hn hq hf hs⟩
    simp only [hl_r59_7, hl_r59_8, hl_r59_11, hl_r59_14, hl_r59_15, hl_r59_18, hl_r59_21, hl_r59_22, hl_r59_25, hl_r59_27, hl_r59_30, hl_r59_31, hl_r59_34, hl_r59_36, hl_r59_39, hl_r59_40, hl_r59_43, hl_r59_44, hl_r59_45, hl_r59_48, hl_r59_49, hl_r59_50, hl_r59_53, hl_r59_54, hl_r59_57, hl_r59_58, hl_r59_59, hl_r59_62, hl_r59_63, hl_r59_66, hl_r59_69, c, hl_kill_i, hl_kill_r, hl_kill_n, hl_kill_l, hl_tl_s, hl_tl_n, hl_cal_some, hl_gI, hl_gJ, hl_gsI, hl_gsJ, hl_tv01, if_true, if_false, hl_up_a, hl_row_a, not_true, not_false_eq_true, hl_10]
  | succ f ih =>
    intro i q n1 I1 C l3 hi h hn hq hpq hf hs
    obtain ⟨ta, tb, tc, td, k44, -⟩ := hx_tk_in (t := t) h.2.2.2.2.2.2
    have h5 := h.2.1.2.2.1
    have h7 := h.2.2.1
    have hnq := h.2.2.2.2.2.1
    have L3 : L ≤ 300 := h.1.1
    have c : ¬ (300 : Int32) ≤ nI i := nI_ge (a := i) (b := 300) (by omega) (by omega)
    by_cases z1 : (hx_tk t L q).1 = 34 ∨ (hx_tk t L q).1 = 35
    · have hok : hx_k2 34 35 (hx_tk t L q).1 = true := by
        unfold hx_k2
        rcases z1 with z | z
        · rw [z]; rfl
        · rw [z]; rfl
      rw [hx_lp1 hok]
      have lt : q < (hx_tk t L q).2.2.2 := by omega
      obtain ⟨I2, e2, c2, f2⟩ := hx_adv (d := E + 6) (N := N) (J := J) h
      have e2' : hl_call (E + 20) 66 [.ref 38] (hl_g N I1 J) = some (none, hl_g N I2 J) := e2
      clear hok
      generalize hq2 : (hx_tk t L q).2.2.2 = e at c2 lt tb tc td ⊢
      obtain ⟨I3, e3, o3, x3⟩ := hX.1 I2 J e n1 c2
      have g3 := hg e tc
      generalize X e = r at o3 x3 g3 ⊢
      have st : ∀ (w : Int32) (I4 : Nat → Nat → Int32), hl_call (E + 20) 78 [.ref 39, .int (nI (hx_tk t L q).1), .int 0] (hl_g N I3 J) = some (some (.int w), hl_g N I4 J) → hl_Run 59 (hl_call (E + 20)) 7 [.ref 38, .int (nI a), .int (nI i), l3] [] (hl_g N I1 J) = hl_Run 59 (hl_call (E + 20)) 7 [.ref 38, .int (nI a), .int (nI (i + 1)), .int (nI (hx_tk t L q).1)] [] (hl_g N I4 J) := fun w I4 e4 => by
        have ei : nI i + 1 = nI (i + 1) := (nI_succ i).symm
        rcases z1 with z | z
        · have h5' : I1 38 5 = 34 := by rw [h5, z]; rfl
          rw [z] at e4 ⊢
          have e4' : hl_call (E + 20) 78 [.ref 39, .int 34, .int 0] (hl_g N I3 J) = some (some (.int w), hl_g N I4 J) := e4
          have zA : nI 34 = 34 := rfl
          have st66 : hl_Run 59 (hl_call (E + 20)) 7 [.ref 38, .int (nI a), .int (nI i), l3] [] (hl_g N I1 J) = hl_Run 59 (hl_call (E + 20)) 66 [.ref 38, .int (nI a), .int (nI (i + 1)), .int 34] [] (hl_g N I4 J) := by
            simp only [hl_r59_7, hl_r59_8, hl_r59_11, hl_r59_14, hl_r59_15, hl_r59_18, hl_r59_21, hl_r59_22, hl_r59_25, hl_r59_27, hl_r59_30, hl_r59_31, hl_r59_34, hl_r59_36, hl_r59_39, hl_r59_40, hl_r59_43, hl_r59_44, hl_r59_45, hl_r59_48, hl_r59_49, hl_r59_50, hl_r59_53, hl_r59_54, hl_r59_57, hl_r59_58, hl_r59_59, hl_r59_62, hl_r59_63, hl_o_38, hl_p_38_0, hl_p_38_1, hl_o_39, hl_p_39_0, hl_p_39_1, hl_p_39_2, c, h5', h7, e2', e3, e4', ei, hl_tl_n, hl_kill_i, hl_kill_r, hl_kill_n, hl_kill_l, hl_tl_s, hl_tl_n, hl_cal_some, hl_gI, hl_gJ, hl_gsI, hl_gsJ, hl_tv01, if_true, if_false, hl_up_a, hl_row_a, not_true, not_false_eq_true, hl_10]
          rw [st66]
          simp only [hl_r59_66, zA]
        · have h5' : I1 38 5 = 35 := by rw [h5, z]; rfl
          rw [z] at e4 ⊢
          have e4' : hl_call (E + 20) 78 [.ref 39, .int 35, .int 0] (hl_g N I3 J) = some (some (.int w), hl_g N I4 J) := e4
          have zB : nI 35 = 35 := rfl
          have dAB : ¬ (35 : Int32) = 34 := by decide
          have st66 : hl_Run 59 (hl_call (E + 20)) 7 [.ref 38, .int (nI a), .int (nI i), l3] [] (hl_g N I1 J) = hl_Run 59 (hl_call (E + 20)) 66 [.ref 38, .int (nI a), .int (nI (i + 1)), .int 35] [] (hl_g N I4 J) := by
            simp only [hl_r59_7, hl_r59_8, hl_r59_11, hl_r59_14, hl_r59_15, hl_r59_18, hl_r59_21, hl_r59_22, hl_r59_25, hl_r59_27, hl_r59_30, hl_r59_31, hl_r59_34, hl_r59_36, hl_r59_39, hl_r59_40, hl_r59_43, hl_r59_44, hl_r59_45, hl_r59_48, hl_r59_49, hl_r59_50, hl_r59_53, hl_r59_54, hl_r59_57, hl_r59_58, hl_r59_59, hl_r59_62, hl_r59_63, hl_o_38, hl_p_38_0, hl_p_38_1, hl_o_39, hl_p_39_0, hl_p_39_1, hl_p_39_2, c, h5', h7, dAB, e2', e3, e4', ei, hl_tl_n, hl_kill_i, hl_kill_r, hl_kill_n, hl_kill_l, hl_tl_s, hl_tl_n, hl_cal_some, hl_gI, hl_gJ, hl_gsI, hl_gsJ, hl_tv01, if_true, if_false, hl_up_a, hl_row_a, not_true, not_false_eq_true, hl_10]
          rw [st66]
          simp only [hl_r59_66, zB]
      by_cases z2 : r.1 = 0
      · obtain ⟨n2, c3, a3, b3, f3, s3⟩ := o3 z2
        obtain ⟨y1, y2, -⟩ := g3.1 z2
        clear o3 x3 g3
        have n3 : n2 < 300 := by omega
        have add1 := hx_s78 (d := E + 19) (N := N) (J := J) (k := (nI (hx_tk t L q).1)) (v := 0) c3.2.2.2.2.1 n3
        have add1' : hl_call (E + 20) 78 [.ref 39, .int (nI (hx_tk t L q).1), .int 0] (hl_g N I3 J) = some (some (.int (nI n2)), hl_g N (hl_up (hl_up I3 40 n2 (hx_enc (hx_tk t L q).1 0)) 39 3 (nI (n2 + 1))) J) := add1
        have c4 := hx_CR_add (k := (hx_tk t L q).1) (v := 0) c3 (show n2 + 1 ≤ r.2.1 by omega)
        have f4 := hx_fT_add (I := I3) (k := (hx_tk t L q).1) (v := 0) (Nat.le_refl n2)
        obtain ⟨a4a, a4b⟩ := hx_add_at (n := n2) (I := I3) (k := (hx_tk t L q).1) (v := 0)
        generalize hl_up (hl_up I3 40 n2 (hx_enc (hx_tk t L q).1 0)) 39 3 (nI (n2 + 1)) = I4 at add1' c4 f4 a4a a4b
        rw [st _ _ add1', hx_ths_0 z2]
        refine ih (i + 1) r.2.1 (n2 + 1) I4 _ _ (by omega) c4 (by omega) (by omega) (by omega) (hx_fT_tr hf (hx_fT_tr f2.fT (hx_fT_tr f3 f4 a3) (Nat.le_refl n1)) hn) ?_
        refine hx_SN_bin (hx_SN_S hs (fun j h1 h2 => ?_) (Nat.le_refl _)) (hx_SN_S s3 (fun j h1 h2 => a4a j h2) (Nat.le_refl _)) hn a3 n3 (show 34 ≤ (hx_tk t L q).1 ∧ (hx_tk t L q).1 ≤ 37 by omega) a4b (Nat.le_refl _) (Nat.le_refl _)
        rw [a4a j (by omega), f3.2 j h2, f2.1 40 (by omega)]
      · obtain ⟨c3, f3⟩ := x3 z2
        obtain ⟨I4, w, e4, c4, f4⟩ := hx_s78f (d := E + 19) (N := N) (J := J) (k := (nI (hx_tk t L q).1)) (v := 0) c3
        have e4' : hl_call (E + 20) 78 [.ref 39, .int (nI (hx_tk t L q).1), .int 0] (hl_g N I3 J) = some (some (.int w), hl_g N I4 J) := e4
        refine ⟨I4, ?_, hx_CO_f (f := r.1) (pl := r.2.1) (C := r.2.2) z2 (by rw [hx_ths_n z2]) c4 (hx_fF_tr hf.1 (hx_fF_tr f2.fF (hx_fF_tr f3 f4)))⟩
        rw [st _ _ e4', hx_e59_f c4]
    · have hok : hx_k2 34 35 (hx_tk t L q).1 = false := by
        unfold hx_k2
        exact Bool.or_eq_false_iff.mpr ⟨decide_eq_false (fun x => z1 (Or.inl x)), decide_eq_false (fun x => z1 (Or.inr x))⟩
      have nA : ¬ nI (hx_tk t L q).1 = 34 := fun x => z1 (Or.inl ((nI_eq (b := 34) (by omega) (by omega)).mp x))
      have nB : ¬ nI (hx_tk t L q).1 = 35 := fun x => z1 (Or.inr ((nI_eq (b := 35) (by omega) (by omega)).mp x))
      rw [hx_lp0 hok]
      refine ⟨I1, ?_, hx_CO_o (q := q) (n' := n1) (C := C) rfl h hn hq hf hs⟩
      simp only [hl_r59_7, hl_r59_8, hl_r59_11, hl_r59_14, hl_r59_15, hl_r59_18, hl_r59_21, hl_r59_22, hl_r59_25, hl_r59_27, hl_r59_30, hl_r59_31, hl_r59_34, hl_r59_36, hl_r59_39, hl_r59_40, hl_r59_43, hl_r59_44, hl_r59_45, hl_r59_48, hl_r59_49, hl_r59_50, hl_r59_53, hl_r59_54, hl_r59_57, hl_r59_58, hl_r59_59, hl_r59_62, hl_r59_63, hl_r59_66, hl_r59_69, hl_o_38, hl_p_38_0, hl_p_38_1, c, h5, h7, nA, nB, hl_kill_i, hl_kill_r, hl_kill_n, hl_kill_l, hl_tl_s, hl_tl_n, hl_cal_some, hl_gI, hl_gJ, hl_gsI, hl_gsJ, hl_tv01, if_true, if_false, hl_up_a, hl_row_a, not_true, not_false_eq_true, hl_10]
theorem hx_c59 (hX : hx_CK N t L (E + 20) 60 a X (hx_mN M)) (hg : ∀ p, p ≤ L → hx_gd L p (X p)) : hx_CK N t L (E + 20 + 1) 59 a (hx_rep t L 34 35 X) (hx_mN (M + 1)) := by
  refine ⟨fun I J p n h => ?_, fun I J f pl h => ?_⟩
  · obtain ⟨I1, e1, o1, x1⟩ := hX.1 I J p n h
    have g1 := hg p h.2.2.2.2.2.2
    unfold hx_rep
    generalize X p = r at o1 x1 g1 ⊢
    have st : hl_call (E + 20 + 1) 59 [.ref 38, .int (nI a)] (hl_g N I J) = hl_Run 59 (hl_call (E + 20)) 7 [.ref 38, .int (nI a), .int (nI 0), .null] [] (hl_g N I1 J) := by
      have z0 : nI 0 = 0 := rfl
      rw [hl_e59]
      simp only [hl_r59_0, hl_r59_1, hl_r59_2, hl_r59_5, hl_r59_6, hl_o_38, hl_p_38_0, hl_p_38_1, e1, z0, hl_tl_n, hl_kill_i, hl_kill_r, hl_kill_n, hl_kill_l, hl_tl_s, hl_tl_n, hl_cal_some, hl_gI, hl_gJ, hl_gsI, hl_gsJ, hl_tv01, if_true, if_false, hl_up_a, hl_row_a, not_true, not_false_eq_true, hl_10]
    by_cases z : r.1 = 0
    · obtain ⟨n1, c1, a1, b1, f1, s1⟩ := o1 z
      obtain ⟨y1, y2, -⟩ := g1.1 z
      rw [hx_ths_0 z, st]
      exact hx_l59 hX hg 300 0 r.2.1 n1 I1 r.2.2 .null rfl c1 a1 b1 y1 f1 (hx_SN_S s1 (fun j h1 h2 => rfl) (Nat.le_succ M))
    · obtain ⟨c1, f1⟩ := x1 z
      refine ⟨I1, ?_, hx_CO_f (f := r.1) (pl := r.2.1) (C := r.2.2) z (by rw [hx_ths_n z]) c1 f1⟩
      rw [st, hx_e59_f c1]
  · obtain ⟨I1, e1, c1, f1⟩ := hX.2 I J f pl h
    refine ⟨I1, ?_, c1, f1⟩
    have z0 : nI 0 = 0 := rfl
    rw [hl_e59, ← hx_e59_f (d := E + 20) (N := N) (J := J) (a := a) (i := 0) (l3 := .null) c1]
    simp only [hl_r59_0, hl_r59_1, hl_r59_2, hl_r59_5, hl_r59_6, hl_o_38, hl_p_38_0, hl_p_38_1, e1, z0, hl_tl_n, hl_kill_i, hl_kill_r, hl_kill_n, hl_kill_l, hl_tl_s, hl_tl_n, hl_cal_some, hl_gI, hl_gJ, hl_gsI, hl_gsJ, hl_tv01, if_true, if_false, hl_up_a, hl_row_a, not_true, not_false_eq_true, hl_10]
theorem hx_e57_f {f pl i : Nat} (h : hx_CF t L f pl I) : hl_Run 57 (hl_call d) 7 [.ref 38, .int (nI a), .int (nI i)] [] (hl_g N I J) = some (none, hl_g N I J) := by
  have f0 : ¬ nI f = 0 := nI_ne0 (by have := h.2.1; omega) (by have := h.2.1; omega)
  by_cases c : (300 : Int32) ≤ nI i
  · simp only [hl_r57_7, hl_r57_8, hl_r57_11, hl_r57_14, hl_r57_15, hl_r57_18, hl_r57_21, hl_r57_22, hl_r57_25, hl_r57_27, hl_r57_30, hl_r57_31, hl_r57_34, hl_r57_35, hl_r57_36, hl_r57_39, hl_r57_40, hl_r57_43, hl_r57_45, hl_r57_46, hl_r57_49, hl_r57_50, hl_r57_53, hl_r57_56, hl_o_38, hl_p_38_0, hl_p_38_1, h.2.2.1, f0, c, hl_kill_i, hl_kill_r, hl_kill_n, hl_kill_l, hl_tl_s, hl_tl_n, hl_cal_some, hl_gI, hl_gJ, hl_gsI, hl_gsJ, hl_tv01, if_true, if_false, hl_up_a, hl_row_a, not_true, not_false_eq_true, hl_10]
  · simp only [hl_r57_7, hl_r57_8, hl_r57_11, hl_r57_14, hl_r57_15, hl_r57_18, hl_r57_21, hl_r57_22, hl_r57_25, hl_r57_27, hl_r57_30, hl_r57_31, hl_r57_34, hl_r57_35, hl_r57_36, hl_r57_39, hl_r57_40, hl_r57_43, hl_r57_45, hl_r57_46, hl_r57_49, hl_r57_50, hl_r57_53, hl_r57_56, hl_o_38, hl_p_38_0, hl_p_38_1, h.2.2.1, f0, c, hl_kill_i, hl_kill_r, hl_kill_n, hl_kill_l, hl_tl_s, hl_tl_n, hl_cal_some, hl_gI, hl_gJ, hl_gsI, hl_gsJ, hl_tv01, if_true, if_false, hl_up_a, hl_row_a, not_true, not_false_eq_true, hl_10]
theorem hx_l57 (hX : hx_CK N t L (E + 22) 58 a X (hx_mB M)) (hg : ∀ p, p ≤ L → hx_gd L p (X p)) (f : Nat) : ∀ (i q n1 : Nat) (I1 : Nat → Nat → Int32) (C : List (Nat × Nat)), i + f = 300 → hx_CR t L q n1 I1 → n ≤ n1 → n1 ≤ n + (q - p) → p < q → hx_fT n I I1 → hx_mB (M + 1) (I1 40) n n1 C → ∃ I', hl_Run 57 (hl_call (E + 22)) 7 [.ref 38, .int (nI a), .int (nI i)] [] (hl_g N I1 J) = some (none, hl_g N I' J) ∧ hx_CO t L p n I I' (hx_lp t L (hx_k2 13 13) X f q C) (hx_mB (M + 1)) := by
  induction f with
  | zero =>
    intro i q n1 I1 C hi h hn hq hpq hf hs
    have ei : i = 300 := by omega
    subst ei
    have c : (300 : Int32) ≤ nI 300 := by decide
    refine ⟨I1, ?_, hx_CO_o (q := q) (n' := n1) (C := C) rfl h hn hq hf hs⟩
    simp only [hl_r57_7, hl_r57_8, hl_r57_11, hl_r57_14, hl_r57_15, hl_r57_18, hl_r57_21, hl_r57_22, hl_r57_25, hl_r57_27, hl_r57_30, hl_r57_31, hl_r57_34, hl_r57_35, hl_r57_36, hl_r57_39, hl_r57_40, hl_r57_43, hl_r57_45, hl_r57_46, hl_r57_49, hl_r57_50, hl_r57_53, hl_r57_56, c, hl_kill_i, hl_kill_r, hl_kill_n, hl_kill_l, hl_tl_s, hl_tl_n, hl_cal_some, hl_gI, hl_gJ, hl_gsI, hl_gsJ, hl_tv01, if_true, if_false, hl_up_a, hl_row_a, not_true, not_false_eq_true, hl_10]
  | succ f ih =>
    intro i q n1 I1 C hi h hn hq hpq hf hs
    obtain ⟨ta, tb, tc, td, k44, -⟩ := hx_tk_in (t := t) h.2.2.2.2.2.2
    have h5 := h.2.1.2.2.1
    have h7 := h.2.2.1
    have hnq := h.2.2.2.2.2.1
    have L3 : L ≤ 300 := h.1.1
    have c : ¬ (300 : Int32) ≤ nI i := nI_ge (a := i) (b := 300) (by omega) (by omega)
    by_cases z1 : (hx_tk t L q).1 = 13 ∨ (hx_tk t L q).1 = 13
    · have hok : hx_k2 13 13 (hx_tk t L q).1 = true := by
        unfold hx_k2
        rcases z1 with z | z
        · rw [z]; rfl
        · rw [z]; rfl
      rw [hx_lp1 hok]
      have lt : q < (hx_tk t L q).2.2.2 := by omega
      obtain ⟨I2, e2, c2, f2⟩ := hx_adv (d := E + 8) (N := N) (J := J) h
      have e2' : hl_call (E + 22) 66 [.ref 38] (hl_g N I1 J) = some (none, hl_g N I2 J) := e2
      clear hok
      generalize hq2 : (hx_tk t L q).2.2.2 = e at c2 lt tb tc td ⊢
      obtain ⟨I3, e3, o3, x3⟩ := hX.1 I2 J e n1 c2
      have g3 := hg e tc
      generalize X e = r at o3 x3 g3 ⊢
      have st : ∀ (w : Int32) (I4 : Nat → Nat → Int32), hl_call (E + 22) 78 [.ref 39, .int 13, .int 0] (hl_g N I3 J) = some (some (.int w), hl_g N I4 J) → hl_Run 57 (hl_call (E + 22)) 7 [.ref 38, .int (nI a), .int (nI i)] [] (hl_g N I1 J) = hl_Run 57 (hl_call (E + 22)) 7 [.ref 38, .int (nI a), .int (nI (i + 1))] [] (hl_g N I4 J) := fun w I4 e4 => by
        have ei : nI i + 1 = nI (i + 1) := (nI_succ i).symm
        have h5' : I1 38 5 = 13 := by rcases z1 with z | z <;> (rw [h5, z]; rfl)
        have st66 : hl_Run 57 (hl_call (E + 22)) 7 [.ref 38, .int (nI a), .int (nI i)] [] (hl_g N I1 J) = hl_Run 57 (hl_call (E + 22)) 53 [.ref 38, .int (nI a), .int (nI (i + 1))] [] (hl_g N I4 J) := by
          simp only [hl_r57_7, hl_r57_8, hl_r57_11, hl_r57_14, hl_r57_15, hl_r57_18, hl_r57_21, hl_r57_22, hl_r57_25, hl_r57_27, hl_r57_30, hl_r57_31, hl_r57_34, hl_r57_35, hl_r57_36, hl_r57_39, hl_r57_40, hl_r57_43, hl_r57_45, hl_r57_46, hl_r57_49, hl_r57_50, hl_o_38, hl_p_38_0, hl_p_38_1, hl_o_39, hl_p_39_0, hl_p_39_1, hl_p_39_2, c, h5', h7, e2', e3, e4, ei, hl_tl_n, hl_kill_i, hl_kill_r, hl_kill_n, hl_kill_l, hl_tl_s, hl_tl_n, hl_cal_some, hl_gI, hl_gJ, hl_gsI, hl_gsJ, hl_tv01, if_true, if_false, hl_up_a, hl_row_a, not_true, not_false_eq_true, hl_10]
        rw [st66]
        simp only [hl_r57_53]
      by_cases z2 : r.1 = 0
      · obtain ⟨n2, c3, a3, b3, f3, s3⟩ := o3 z2
        obtain ⟨y1, y2, -⟩ := g3.1 z2
        clear o3 x3 g3
        have n3 : n2 < 300 := by omega
        have add1 := hx_s78 (d := E + 21) (N := N) (J := J) (k := 13) (v := 0) c3.2.2.2.2.1 n3
        have add1' : hl_call (E + 22) 78 [.ref 39, .int 13, .int 0] (hl_g N I3 J) = some (some (.int (nI n2)), hl_g N (hl_up (hl_up I3 40 n2 (hx_enc 13 0)) 39 3 (nI (n2 + 1))) J) := add1
        have c4 := hx_CR_add (k := 13) (v := 0) c3 (show n2 + 1 ≤ r.2.1 by omega)
        have f4 := hx_fT_add (I := I3) (k := 13) (v := 0) (Nat.le_refl n2)
        obtain ⟨a4a, a4b⟩ := hx_add_at (n := n2) (I := I3) (k := 13) (v := 0)
        generalize hl_up (hl_up I3 40 n2 (hx_enc 13 0)) 39 3 (nI (n2 + 1)) = I4 at add1' c4 f4 a4a a4b
        rw [st _ _ add1', hx_ths_0 z2, show hx_op (hx_tk t L q).1 = hx_op 13 by rcases z1 with z | z <;> rw [z]]
        refine ih (i + 1) r.2.1 (n2 + 1) I4 _ (by omega) c4 (by omega) (by omega) (by omega) (hx_fT_tr hf (hx_fT_tr f2.fT (hx_fT_tr f3 f4 a3) (Nat.le_refl n1)) hn) ?_
        refine hx_SB_and (hx_SB_S hs (fun j h1 h2 => ?_) (Nat.le_refl _)) (hx_SB_S s3 (fun j h1 h2 => a4a j h2) (Nat.le_refl _)) hn a3 n3 (by omega) a4b (Nat.le_refl _) (Nat.le_refl _)
        rw [a4a j (by omega), f3.2 j h2, f2.1 40 (by omega)]
      · obtain ⟨c3, f3⟩ := x3 z2
        obtain ⟨I4, w, e4, c4, f4⟩ := hx_s78f (d := E + 21) (N := N) (J := J) (k := 13) (v := 0) c3
        have e4' : hl_call (E + 22) 78 [.ref 39, .int 13, .int 0] (hl_g N I3 J) = some (some (.int w), hl_g N I4 J) := e4
        refine ⟨I4, ?_, hx_CO_f (f := r.1) (pl := r.2.1) (C := r.2.2) z2 (by rw [hx_ths_n z2]) c4 (hx_fF_tr hf.1 (hx_fF_tr f2.fF (hx_fF_tr f3 f4)))⟩
        rw [st _ _ e4', hx_e57_f c4]
    · have hok : hx_k2 13 13 (hx_tk t L q).1 = false := by
        unfold hx_k2
        exact Bool.or_eq_false_iff.mpr ⟨decide_eq_false (fun x => z1 (Or.inl x)), decide_eq_false (fun x => z1 (Or.inr x))⟩
      have nA : ¬ nI (hx_tk t L q).1 = 13 := fun x => z1 (Or.inl ((nI_eq (b := 13) (by omega) (by omega)).mp x))
      have nB : ¬ nI (hx_tk t L q).1 = 13 := fun x => z1 (Or.inr ((nI_eq (b := 13) (by omega) (by omega)).mp x))
      rw [hx_lp0 hok]
      refine ⟨I1, ?_, hx_CO_o (q := q) (n' := n1) (C := C) rfl h hn hq hf hs⟩
      simp only [hl_r57_7, hl_r57_8, hl_r57_11, hl_r57_14, hl_r57_15, hl_r57_18, hl_r57_21, hl_r57_22, hl_r57_25, hl_r57_27, hl_r57_30, hl_r57_31, hl_r57_34, hl_r57_35, hl_r57_36, hl_r57_39, hl_r57_40, hl_r57_43, hl_r57_45, hl_r57_46, hl_r57_49, hl_r57_50, hl_r57_53, hl_r57_56, hl_o_38, hl_p_38_0, hl_p_38_1, c, h5, h7, nA, nB, hl_kill_i, hl_kill_r, hl_kill_n, hl_kill_l, hl_tl_s, hl_tl_n, hl_cal_some, hl_gI, hl_gJ, hl_gsI, hl_gsJ, hl_tv01, if_true, if_false, hl_up_a, hl_row_a, not_true, not_false_eq_true, hl_10]
theorem hx_c57 (hX : hx_CK N t L (E + 22) 58 a X (hx_mB M)) (hg : ∀ p, p ≤ L → hx_gd L p (X p)) : hx_CK N t L (E + 22 + 1) 57 a (hx_rep t L 13 13 X) (hx_mB (M + 1)) := by
  refine ⟨fun I J p n h => ?_, fun I J f pl h => ?_⟩
  · obtain ⟨I1, e1, o1, x1⟩ := hX.1 I J p n h
    have g1 := hg p h.2.2.2.2.2.2
    unfold hx_rep
    generalize X p = r at o1 x1 g1 ⊢
    have st : hl_call (E + 22 + 1) 57 [.ref 38, .int (nI a)] (hl_g N I J) = hl_Run 57 (hl_call (E + 22)) 7 [.ref 38, .int (nI a), .int (nI 0)] [] (hl_g N I1 J) := by
      have z0 : nI 0 = 0 := rfl
      rw [hl_e57]
      simp only [hl_r57_0, hl_r57_1, hl_r57_2, hl_r57_5, hl_r57_6, hl_o_38, hl_p_38_0, hl_p_38_1, e1, z0, hl_tl_n, hl_kill_i, hl_kill_r, hl_kill_n, hl_kill_l, hl_tl_s, hl_tl_n, hl_cal_some, hl_gI, hl_gJ, hl_gsI, hl_gsJ, hl_tv01, if_true, if_false, hl_up_a, hl_row_a, not_true, not_false_eq_true, hl_10]
    by_cases z : r.1 = 0
    · obtain ⟨n1, c1, a1, b1, f1, s1⟩ := o1 z
      obtain ⟨y1, y2, -⟩ := g1.1 z
      rw [hx_ths_0 z, st]
      exact hx_l57 hX hg 300 0 r.2.1 n1 I1 r.2.2 rfl c1 a1 b1 y1 f1 (hx_SB_S s1 (fun j h1 h2 => rfl) (Nat.le_succ M))
    · obtain ⟨c1, f1⟩ := x1 z
      refine ⟨I1, ?_, hx_CO_f (f := r.1) (pl := r.2.1) (C := r.2.2) z (by rw [hx_ths_n z]) c1 f1⟩
      rw [st, hx_e57_f c1]
  · obtain ⟨I1, e1, c1, f1⟩ := hX.2 I J f pl h
    refine ⟨I1, ?_, c1, f1⟩
    have z0 : nI 0 = 0 := rfl
    rw [hl_e57, ← hx_e57_f (d := E + 22) (N := N) (J := J) (a := a) (i := 0) c1]
    simp only [hl_r57_0, hl_r57_1, hl_r57_2, hl_r57_5, hl_r57_6, hl_o_38, hl_p_38_0, hl_p_38_1, e1, z0, hl_tl_n, hl_kill_i, hl_kill_r, hl_kill_n, hl_kill_l, hl_tl_s, hl_tl_n, hl_cal_some, hl_gI, hl_gJ, hl_gsI, hl_gsJ, hl_tv01, if_true, if_false, hl_up_a, hl_row_a, not_true, not_false_eq_true, hl_10]
theorem hx_e56_f {f pl i : Nat} (h : hx_CF t L f pl I) : hl_Run 56 (hl_call d) 7 [.ref 38, .int (nI a), .int (nI i)] [] (hl_g N I J) = some (none, hl_g N I J) := by
  have f0 : ¬ nI f = 0 := nI_ne0 (by have := h.2.1; omega) (by have := h.2.1; omega)
  by_cases c : (300 : Int32) ≤ nI i
  · simp only [hl_r56_7, hl_r56_8, hl_r56_11, hl_r56_14, hl_r56_15, hl_r56_18, hl_r56_21, hl_r56_22, hl_r56_25, hl_r56_27, hl_r56_30, hl_r56_31, hl_r56_34, hl_r56_35, hl_r56_36, hl_r56_39, hl_r56_40, hl_r56_43, hl_r56_45, hl_r56_46, hl_r56_49, hl_r56_50, hl_r56_53, hl_r56_56, hl_o_38, hl_p_38_0, hl_p_38_1, h.2.2.1, f0, c, hl_kill_i, hl_kill_r, hl_kill_n, hl_kill_l, hl_tl_s, hl_tl_n, hl_cal_some, hl_gI, hl_gJ, hl_gsI, hl_gsJ, hl_tv01, if_true, if_false, hl_up_a, hl_row_a, not_true, not_false_eq_true, hl_10]
  · simp only [hl_r56_7, hl_r56_8, hl_r56_11, hl_r56_14, hl_r56_15, hl_r56_18, hl_r56_21, hl_r56_22, hl_r56_25, hl_r56_27, hl_r56_30, hl_r56_31, hl_r56_34, hl_r56_35, hl_r56_36, hl_r56_39, hl_r56_40, hl_r56_43, hl_r56_45, hl_r56_46, hl_r56_49, hl_r56_50, hl_r56_53, hl_r56_56, hl_o_38, hl_p_38_0, hl_p_38_1, h.2.2.1, f0, c, hl_kill_i, hl_kill_r, hl_kill_n, hl_kill_l, hl_tl_s, hl_tl_n, hl_cal_some, hl_gI, hl_gJ, hl_gsI, hl_gsJ, hl_tv01, if_true, if_false, hl_up_a, hl_row_a, not_true, not_false_eq_true, hl_10]
theorem hx_l56 (hX : hx_CK N t L (E + 23) 57 a X (hx_mB M)) (hg : ∀ p, p ≤ L → hx_gd L p (X p)) (f : Nat) : ∀ (i q n1 : Nat) (I1 : Nat → Nat → Int32) (C : List (Nat × Nat)), i + f = 300 → hx_CR t L q n1 I1 → n ≤ n1 → n1 ≤ n + (q - p) → p < q → hx_fT n I I1 → hx_mB (M + 1) (I1 40) n n1 C → ∃ I', hl_Run 56 (hl_call (E + 23)) 7 [.ref 38, .int (nI a), .int (nI i)] [] (hl_g N I1 J) = some (none, hl_g N I' J) ∧ hx_CO t L p n I I' (hx_lp t L (hx_k2 12 12) X f q C) (hx_mB (M + 1)) := by
  induction f with
  | zero =>
    intro i q n1 I1 C hi h hn hq hpq hf hs
    have ei : i = 300 := by omega
    subst ei
    have c : (300 : Int32) ≤ nI 300 := by decide
    refine ⟨I1, ?_, hx_CO_o (q := q) (n' := n1) (C := C) rfl h hn hq hf hs⟩
    simp only [hl_r56_7, hl_r56_8, hl_r56_11, hl_r56_14, hl_r56_15, hl_r56_18, hl_r56_21, hl_r56_22, hl_r56_25, hl_r56_27, hl_r56_30, hl_r56_31, hl_r56_34, hl_r56_35, hl_r56_36, hl_r56_39, hl_r56_40, hl_r56_43, hl_r56_45, hl_r56_46, hl_r56_49, hl_r56_50, hl_r56_53, hl_r56_56, c, hl_kill_i, hl_kill_r, hl_kill_n, hl_kill_l, hl_tl_s, hl_tl_n, hl_cal_some, hl_gI, hl_gJ, hl_gsI, hl_gsJ, hl_tv01, if_true, if_false, hl_up_a, hl_row_a, not_true, not_false_eq_true, hl_10]
  | succ f ih =>
    intro i q n1 I1 C hi h hn hq hpq hf hs
    obtain ⟨ta, tb, tc, td, k44, -⟩ := hx_tk_in (t := t) h.2.2.2.2.2.2
    have h5 := h.2.1.2.2.1
    have h7 := h.2.2.1
    have hnq := h.2.2.2.2.2.1
    have L3 : L ≤ 300 := h.1.1
    have c : ¬ (300 : Int32) ≤ nI i := nI_ge (a := i) (b := 300) (by omega) (by omega)
    by_cases z1 : (hx_tk t L q).1 = 12 ∨ (hx_tk t L q).1 = 12
    · have hok : hx_k2 12 12 (hx_tk t L q).1 = true := by
        unfold hx_k2
        rcases z1 with z | z
        · rw [z]; rfl
        · rw [z]; rfl
      rw [hx_lp1 hok]
      have lt : q < (hx_tk t L q).2.2.2 := by omega
      obtain ⟨I2, e2, c2, f2⟩ := hx_adv (d := E + 9) (N := N) (J := J) h
      have e2' : hl_call (E + 23) 66 [.ref 38] (hl_g N I1 J) = some (none, hl_g N I2 J) := e2
      clear hok
      generalize hq2 : (hx_tk t L q).2.2.2 = e at c2 lt tb tc td ⊢
      obtain ⟨I3, e3, o3, x3⟩ := hX.1 I2 J e n1 c2
      have g3 := hg e tc
      generalize X e = r at o3 x3 g3 ⊢
      have st : ∀ (w : Int32) (I4 : Nat → Nat → Int32), hl_call (E + 23) 78 [.ref 39, .int 12, .int 0] (hl_g N I3 J) = some (some (.int w), hl_g N I4 J) → hl_Run 56 (hl_call (E + 23)) 7 [.ref 38, .int (nI a), .int (nI i)] [] (hl_g N I1 J) = hl_Run 56 (hl_call (E + 23)) 7 [.ref 38, .int (nI a), .int (nI (i + 1))] [] (hl_g N I4 J) := fun w I4 e4 => by
        have ei : nI i + 1 = nI (i + 1) := (nI_succ i).symm
        have h5' : I1 38 5 = 12 := by rcases z1 with z | z <;> (rw [h5, z]; rfl)
        have st66 : hl_Run 56 (hl_call (E + 23)) 7 [.ref 38, .int (nI a), .int (nI i)] [] (hl_g N I1 J) = hl_Run 56 (hl_call (E + 23)) 53 [.ref 38, .int (nI a), .int (nI (i + 1))] [] (hl_g N I4 J) := by
          simp only [hl_r56_7, hl_r56_8, hl_r56_11, hl_r56_14, hl_r56_15, hl_r56_18, hl_r56_21, hl_r56_22, hl_r56_25, hl_r56_27, hl_r56_30, hl_r56_31, hl_r56_34, hl_r56_35, hl_r56_36, hl_r56_39, hl_r56_40, hl_r56_43, hl_r56_45, hl_r56_46, hl_r56_49, hl_r56_50, hl_o_38, hl_p_38_0, hl_p_38_1, hl_o_39, hl_p_39_0, hl_p_39_1, hl_p_39_2, c, h5', h7, e2', e3, e4, ei, hl_tl_n, hl_kill_i, hl_kill_r, hl_kill_n, hl_kill_l, hl_tl_s, hl_tl_n, hl_cal_some, hl_gI, hl_gJ, hl_gsI, hl_gsJ, hl_tv01, if_true, if_false, hl_up_a, hl_row_a, not_true, not_false_eq_true, hl_10]
        rw [st66]
        simp only [hl_r56_53]
      by_cases z2 : r.1 = 0
      · obtain ⟨n2, c3, a3, b3, f3, s3⟩ := o3 z2
        obtain ⟨y1, y2, -⟩ := g3.1 z2
        clear o3 x3 g3
        have n3 : n2 < 300 := by omega
        have add1 := hx_s78 (d := E + 22) (N := N) (J := J) (k := 12) (v := 0) c3.2.2.2.2.1 n3
        have add1' : hl_call (E + 23) 78 [.ref 39, .int 12, .int 0] (hl_g N I3 J) = some (some (.int (nI n2)), hl_g N (hl_up (hl_up I3 40 n2 (hx_enc 12 0)) 39 3 (nI (n2 + 1))) J) := add1
        have c4 := hx_CR_add (k := 12) (v := 0) c3 (show n2 + 1 ≤ r.2.1 by omega)
        have f4 := hx_fT_add (I := I3) (k := 12) (v := 0) (Nat.le_refl n2)
        obtain ⟨a4a, a4b⟩ := hx_add_at (n := n2) (I := I3) (k := 12) (v := 0)
        generalize hl_up (hl_up I3 40 n2 (hx_enc 12 0)) 39 3 (nI (n2 + 1)) = I4 at add1' c4 f4 a4a a4b
        rw [st _ _ add1', hx_ths_0 z2, show hx_op (hx_tk t L q).1 = hx_op 12 by rcases z1 with z | z <;> rw [z]]
        refine ih (i + 1) r.2.1 (n2 + 1) I4 _ (by omega) c4 (by omega) (by omega) (by omega) (hx_fT_tr hf (hx_fT_tr f2.fT (hx_fT_tr f3 f4 a3) (Nat.le_refl n1)) hn) ?_
        refine hx_SB_and (hx_SB_S hs (fun j h1 h2 => ?_) (Nat.le_refl _)) (hx_SB_S s3 (fun j h1 h2 => a4a j h2) (Nat.le_refl _)) hn a3 n3 (by omega) a4b (Nat.le_refl _) (Nat.le_refl _)
        rw [a4a j (by omega), f3.2 j h2, f2.1 40 (by omega)]
      · obtain ⟨c3, f3⟩ := x3 z2
        obtain ⟨I4, w, e4, c4, f4⟩ := hx_s78f (d := E + 22) (N := N) (J := J) (k := 12) (v := 0) c3
        have e4' : hl_call (E + 23) 78 [.ref 39, .int 12, .int 0] (hl_g N I3 J) = some (some (.int w), hl_g N I4 J) := e4
        refine ⟨I4, ?_, hx_CO_f (f := r.1) (pl := r.2.1) (C := r.2.2) z2 (by rw [hx_ths_n z2]) c4 (hx_fF_tr hf.1 (hx_fF_tr f2.fF (hx_fF_tr f3 f4)))⟩
        rw [st _ _ e4', hx_e56_f c4]
    · have hok : hx_k2 12 12 (hx_tk t L q).1 = false := by
        unfold hx_k2
        exact Bool.or_eq_false_iff.mpr ⟨decide_eq_false (fun x => z1 (Or.inl x)), decide_eq_false (fun x => z1 (Or.inr x))⟩
      have nA : ¬ nI (hx_tk t L q).1 = 12 := fun x => z1 (Or.inl ((nI_eq (b := 12) (by omega) (by omega)).mp x))
      have nB : ¬ nI (hx_tk t L q).1 = 12 := fun x => z1 (Or.inr ((nI_eq (b := 12) (by omega) (by omega)).mp x))
      rw [hx_lp0 hok]
      refine ⟨I1, ?_, hx_CO_o (q := q) (n' := n1) (C := C) rfl h hn hq hf hs⟩
      simp only [hl_r56_7, hl_r56_8, hl_r56_11, hl_r56_14, hl_r56_15, hl_r56_18, hl_r56_21, hl_r56_22, hl_r56_25, hl_r56_27, hl_r56_30, hl_r56_31, hl_r56_34, hl_r56_35, hl_r56_36, hl_r56_39, hl_r56_40, hl_r56_43, hl_r56_45, hl_r56_46, hl_r56_49, hl_r56_50, hl_r56_53, hl_r56_56, hl_o_38, hl_p_38_0, hl_p_38_1, c, h5, h7, nA, nB, hl_kill_i, hl_kill_r, hl_kill_n, hl_kill_l, hl_tl_s, hl_tl_n, hl_cal_some, hl_gI, hl_gJ, hl_gsI, hl_gsJ, hl_tv01, if_true, if_false, hl_up_a, hl_row_a, not_true, not_false_eq_true, hl_10]
theorem hx_c56 (hX : hx_CK N t L (E + 23) 57 a X (hx_mB M)) (hg : ∀ p, p ≤ L → hx_gd L p (X p)) : hx_CK N t L (E + 23 + 1) 56 a (hx_rep t L 12 12 X) (hx_mB (M + 1)) := by
  refine ⟨fun I J p n h => ?_, fun I J f pl h => ?_⟩
  · obtain ⟨I1, e1, o1, x1⟩ := hX.1 I J p n h
    have g1 := hg p h.2.2.2.2.2.2
    unfold hx_rep
    generalize X p = r at o1 x1 g1 ⊢
    have st : hl_call (E + 23 + 1) 56 [.ref 38, .int (nI a)] (hl_g N I J) = hl_Run 56 (hl_call (E + 23)) 7 [.ref 38, .int (nI a), .int (nI 0)] [] (hl_g N I1 J) := by
      have z0 : nI 0 = 0 := rfl
      rw [hl_e56]
      simp only [hl_r56_0, hl_r56_1, hl_r56_2, hl_r56_5, hl_r56_6, hl_o_38, hl_p_38_0, hl_p_38_1, e1, z0, hl_tl_n, hl_kill_i, hl_kill_r, hl_kill_n, hl_kill_l, hl_tl_s, hl_tl_n, hl_cal_some, hl_gI, hl_gJ, hl_gsI, hl_gsJ, hl_tv01, if_true, if_false, hl_up_a, hl_row_a, not_true, not_false_eq_true, hl_10]
    by_cases z : r.1 = 0
    · obtain ⟨n1, c1, a1, b1, f1, s1⟩ := o1 z
      obtain ⟨y1, y2, -⟩ := g1.1 z
      rw [hx_ths_0 z, st]
      exact hx_l56 hX hg 300 0 r.2.1 n1 I1 r.2.2 rfl c1 a1 b1 y1 f1 (hx_SB_S s1 (fun j h1 h2 => rfl) (Nat.le_succ M))
    · obtain ⟨c1, f1⟩ := x1 z
      refine ⟨I1, ?_, hx_CO_f (f := r.1) (pl := r.2.1) (C := r.2.2) z (by rw [hx_ths_n z]) c1 f1⟩
      rw [st, hx_e56_f c1]
  · obtain ⟨I1, e1, c1, f1⟩ := hX.2 I J f pl h
    refine ⟨I1, ?_, c1, f1⟩
    have z0 : nI 0 = 0 := rfl
    rw [hl_e56, ← hx_e56_f (d := E + 23) (N := N) (J := J) (a := a) (i := 0) c1]
    simp only [hl_r56_0, hl_r56_1, hl_r56_2, hl_r56_5, hl_r56_6, hl_o_38, hl_p_38_0, hl_p_38_1, e1, z0, hl_tl_n, hl_kill_i, hl_kill_r, hl_kill_n, hl_kill_l, hl_tl_s, hl_tl_n, hl_cal_some, hl_gI, hl_gJ, hl_gsI, hl_gsJ, hl_tv01, if_true, if_false, hl_up_a, hl_row_a, not_true, not_false_eq_true, hl_10]
end HXCPAR4
