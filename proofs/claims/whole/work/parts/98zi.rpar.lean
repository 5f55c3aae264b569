/-! the reference's reader: the loop -/
section HXRPAR
variable {d N L x p : Nat} {I I' I1 : Nat → Nat → Int32} {J : Nat → Nat → Int64} {t : Nat → Nat} {b w : Bool} {P P2 : List Nat} {C : List (Nat × Nat)}
theorem hx_bgn_r : (hx_bgn t L b p P C).1 ≤ 3 := by
  unfold hx_bgn
  repeat' split
  all_goals (first | exact Nat.zero_le _ | exact Nat.le_refl _ | (show (1 : Nat) ≤ 3; omega) | (show (2 : Nat) ≤ 3; omega))
theorem hx_beh_r : (hx_beh t L b p P C).1 = 0 ∨ (hx_beh t L b p P C).1 = 10 := by
  unfold hx_beh
  repeat' split
  all_goals (first | exact Or.inl rfl | exact Or.inr rfl)
theorem hx_iv_stl {e : Nat} {w : Bool} {r : Nat} {c : Nat × Nat} (wf : hx_wf P) (o8 : hx_opP P ≤ 8) (len : P.length + C.length + 1 ≤ e) : hx_iv (e, (hx_stl r P (C ++ [c])).1, (hx_stl r P (C ++ [c])).2, w) := by
  obtain ⟨a1, a2, a3, -⟩ := hx_stl_wf (r := r) P (C ++ [c]) wf
  rw [List.length_append, List.length_singleton] at a3
  refine ⟨a1, ?_, ?_⟩
  · show hx_opP (hx_stl r P (C ++ [c])).1 ≤ 8; omega
  · show (hx_stl r P (C ++ [c])).1.length + (hx_stl r P (C ++ [c])).2.length ≤ e; omega
theorem hx_iv_opn {e k : Nat} (wf : hx_wf P) (o8 : hx_opP P ≤ 7) (len : P.length + C.length + 1 ≤ e) (hk : hx_isO k = 1) : hx_iv (e, k :: P, C, false) := by
  refine ⟨hx_wf_o wf hk, ?_, ?_⟩
  · show hx_isO k + hx_opP P ≤ 8; omega
  · show P.length + 1 + C.length ≤ e; omega
theorem hx_iv_bgn (hiv : hx_iv (p, P, C, false)) (hp : p ≤ L) (h : (hx_bgn t L b p P C).1 = 0) : hx_iv (hx_bgn t L b p P C).2 := by
  obtain ⟨ta, tb, tc, td, -⟩ := hx_tk_in (t := t) hp
  obtain ⟨wf, o8, len⟩ := hiv
  have o8' : hx_opP P ≤ 8 := o8
  have len' : P.length + C.length ≤ p := len
  have wf' : hx_wf P := wf
  have lt : (hx_tk t L p).1 ≠ 21 → P.length + C.length + 1 ≤ (hx_tk t L p).2.2.2 := fun y => by omega
  have op : ∀ k, hx_isO k = 1 → (hx_tk t L p).1 ≠ 21 → (if hx_opP P = 8 then (3, p, P, C, false) else (0, (hx_tk t L p).2.2.2, k :: P, C, false)).1 = 0 → hx_iv (if hx_opP P = 8 then (3, p, P, C, false) else (0, (hx_tk t L p).2.2.2, k :: P, C, false)).2 := fun k hk y g => by
    by_cases z : hx_opP P = 8
    · rw [if_pos z] at g; exact absurd g (by show (3 : Nat) ≠ 0; omega)
    · rw [if_neg z]; exact hx_iv_opn wf' (by omega) (lt y) hk
  unfold hx_bgn at h ⊢
  by_cases z1 : (hx_tk t L p).1 = 20
  · rw [if_pos z1] at h ⊢
    by_cases z2 : 9999 < (hx_tk t L p).2.1
    · rw [if_pos z2] at h; exact absurd h (by show (2 : Nat) ≠ 0; omega)
    · rw [if_neg z2]; exact hx_iv_stl wf' o8' (lt (by omega))
  · rw [if_neg z1] at h ⊢
    by_cases z2 : 3 ≤ (hx_tk t L p).1 ∧ (hx_tk t L p).1 ≤ 11
    · rw [if_pos z2]; exact hx_iv_stl wf' o8' (lt (by omega))
    · rw [if_neg z2] at h ⊢
      by_cases z38 : (hx_tk t L p).1 = 38
      · rw [if_pos z38] at h ⊢; exact op 40 rfl (by omega) h
      · rw [if_neg z38] at h ⊢
        by_cases z35 : (hx_tk t L p).1 = 35
        · rw [if_pos z35] at h ⊢; exact op 2 rfl (by omega) h
        · rw [if_neg z35] at h ⊢
          by_cases z15 : (hx_tk t L p).1 = 15
          · rw [if_pos z15] at h ⊢; exact op 41 rfl (by omega) h
          · rw [if_neg z15] at h ⊢
            by_cases z14 : (hx_tk t L p).1 = 14 ∧ hx_aa b P = true
            · rw [if_pos z14] at h ⊢; exact op 20 rfl (by omega) h
            · rw [if_neg z14] at h; exact absurd h (by show (1 : Nat) ≠ 0; omega)
theorem hx_iv_stl0 {e : Nat} {w : Bool} {r : Nat} (wf : hx_wf P) (o8 : hx_opP P ≤ 8) (len : P.length + C.length ≤ e) : hx_iv (e, (hx_stl r P C).1, (hx_stl r P C).2, w) := by
  obtain ⟨a1, a2, a3, -⟩ := hx_stl_wf (r := r) P C wf
  refine ⟨a1, ?_, ?_⟩
  · show hx_opP (hx_stl r P C).1 ≤ 8; omega
  · show (hx_stl r P C).1.length + (hx_stl r P C).2.length ≤ e; omega
theorem hx_iv_beh (hiv : hx_iv (p, P, C, true)) (hp : p ≤ L) (h : (hx_beh t L b p P C).1 = 0) : hx_iv (hx_beh t L b p P C).2 := by
  obtain ⟨ta, tb, tc, td, -⟩ := hx_tk_in (t := t) hp
  obtain ⟨wf, o8, len⟩ := hiv
  have o8' : hx_opP P ≤ 8 := o8
  have len' : P.length + C.length ≤ p := len
  have wf' : hx_wf P := wf
  have lt : (hx_tk t L p).1 ≠ 21 → p + 1 ≤ (hx_tk t L p).2.2.2 := fun y => by omega
  cases hb : hx_bt b P (hx_tk t L p).1 with
  | some o =>
    rw [hx_beh_s hb]
    obtain ⟨r1, r2, -, r4⟩ := hx_bt_rk hb
    obtain ⟨a1, a2, a3, a4⟩ := hx_stl_wf (r := hx_rk o) P C wf'
    have := lt r4
    refine ⟨hx_wf_n a1 a4 r1 r2, ?_, ?_⟩
    · show hx_isO o + hx_opP (hx_stl (hx_rk o) P C).1 ≤ 8; omega
    · show (hx_stl (hx_rk o) P C).1.length + 1 + (hx_stl (hx_rk o) P C).2.length ≤ (hx_tk t L p).2.2.2; omega
  | none =>
    unfold hx_beh at h ⊢
    rw [hb] at h ⊢
    have h' : (if (hx_tk t L p).1 = 39 ∧ hx_mh P = 40 then _ else _ : Nat × Nat × List Nat × List (Nat × Nat) × Bool).1 = 0 := h
    show hx_iv (if (hx_tk t L p).1 = 39 ∧ hx_mh P = 40 then _ else _ : Nat × Nat × List Nat × List (Nat × Nat) × Bool).2
    by_cases c1 : (hx_tk t L p).1 = 39 ∧ hx_mh P = 40
    · rw [if_pos c1]
      obtain ⟨P2, hm⟩ := hx_mk_ne (P := P) (by omega)
      rw [c1.2] at hm
      obtain ⟨eP, o7, ln, l100, wf2⟩ := hx_stl1_ln hm wf' o8' len' rfl
      have := lt (by omega)
      rw [eP]
      exact hx_iv_stl0 (P := P2) wf2 (by omega) (by omega)
    · rw [if_neg c1] at h' ⊢
      by_cases c2 : (hx_tk t L p).1 = 16 ∧ hx_mh P = 43
      · rw [if_pos c2]
        obtain ⟨P2, hm⟩ := hx_mk_ne (P := P) (by omega)
        rw [c2.2] at hm
        obtain ⟨eP, o7, ln, l100, wf2⟩ := hx_stl1_ln hm wf' o8' len' rfl
        have := lt (by omega)
        rw [eP]
        exact hx_iv_stl (P := P2) wf2 (by omega) (by omega)
      · rw [if_neg c2] at h' ⊢
        by_cases c3 : (hx_tk t L p).1 = 41 ∧ hx_mh P = 41 ∧ hx_cd P = true
        · rw [if_pos c3]
          obtain ⟨P2, hm⟩ := hx_mk_ne (P := P) (by omega)
          rw [c3.2.1] at hm
          obtain ⟨eP, o7, ln, l100, wf2⟩ := hx_stl1_ln hm wf' o8' len' rfl
          have := lt (by omega)
          rw [eP]
          exact hx_iv_opn (P := P2) wf2 o7 (by omega) rfl
        · rw [if_neg c3] at h' ⊢
          by_cases c4 : (hx_tk t L p).1 = 42 ∧ hx_mh P = 42
          · rw [if_pos c4]
            obtain ⟨P2, hm⟩ := hx_mk_ne (P := P) (by omega)
            rw [c4.2] at hm
            obtain ⟨eP, o7, ln, l100, wf2⟩ := hx_stl1_ln hm wf' o8' len' rfl
            have := lt (by omega)
            rw [eP]
            exact hx_iv_opn (P := P2) wf2 o7 (by omega) rfl
          · rw [if_neg c4] at h'
            exact absurd h' (by show (10 : Nat) ≠ 0; omega)
/-- one turn of the loop -/
theorem hx_l191 {s s1 : Nat × List Nat × List (Nat × Nat) × Bool} {l3 : Value} (h : hx_RM t L x s I J) (hiv : hx_iv s) (hL : L ≤ 300) (hm : hx_ms t L b s = (0, s1)) : ∃ l3' I' J', hl_Run 191 (hl_call (d + 5)) 12 [.ref 85, .int (hl_tv b), .int 1, l3] [] (hl_g N I J) = hl_Run 191 (hl_call (d + 5)) 12 [.ref 85, .int (hl_tv b), .int 1, l3'] [] (hl_g N I' J') ∧ hx_RM t L x s1 I' J' ∧ hx_iv s1 ∧ hx_fM x I I' ∧ hx_g85 J J' := by
  obtain ⟨p, P, C, w⟩ := s
  have hp : p ≤ L := h.2.2.2.2
  have h22 : I 85 22 = hl_tv w := h.2.2.2.1
  have n1 : ¬ (1 : Int32) = 0 := by decide
  cases w with
  | true =>
    rw [hx_ms_t] at hm
    have z : (hx_beh t L b p P C).1 = 0 := by rw [hm]
    obtain ⟨I', J', e, rm, fm, gj⟩ := (hx_s190 (d := d) (N := N) (b := b) h hiv hL).1 z
    have iv := hx_iv_beh hiv hp z
    rw [hm] at rm iv
    refine ⟨l3, I', J', ?_, rm, iv, fm, gj⟩
    have h22' : I 85 22 = 1 := h22
    have st : hl_Run 191 (hl_call (d + 5)) 12 [.ref 85, .int (hl_tv b), .int 1, l3] [] (hl_g N I J) = hl_Run 191 (hl_call (d + 5)) 29 [.ref 85, .int (hl_tv b), .int 1, l3] [] (hl_g N I' J') := by
      simp only [hl_r191_12, hl_r191_13, hl_r191_16, hl_r191_17, hl_r191_20, hl_r191_23, hl_r191_24, hl_r191_25, hl_r191_28, hl_o_85, hl_p_85_3, hl_p_85_4, hl_p_85_5, hl_p_85_6, hl_p_85_19, hl_p_85_23, hl_p_85_24, hl_p_85_25, hl_p_85_26, hl_p_85_27, hl_p_85_28, hl_p_85_29, hl_p_85_30, hl_p_85_31, hl_p_85_33, hl_p_85_34, hl_p_85_35, hl_p_85_36, hl_p_85_37, n1, h22', e, hl_tl_s, hl_kill_i, hl_kill_r, hl_kill_n, hl_kill_l, hl_tl_s, hl_tl_n, hl_cal_some, hl_gI, hl_gJ, hl_gsI, hl_gsJ, hl_tv01, if_true, if_false, not_true, not_false_eq_true, hl_10, or_true, true_or]
    rw [st]
    simp only [hl_r191_29]
  | false =>
    rw [hx_ms_f] at hm
    have z : (hx_bgn t L b p P C).1 = 0 := by rw [hm]
    obtain ⟨I', J', e, rm, fm, gj⟩ := (hx_s187 (d := d) (N := N) (b := b) h hiv hL).1 z
    have iv := hx_iv_bgn hiv hp z
    rw [hm] at rm iv
    refine ⟨.int 0, I', J', ?_, rm, iv, fm, gj⟩
    have h22' : I 85 22 = 0 := h22
    have st : hl_Run 191 (hl_call (d + 5)) 12 [.ref 85, .int (hl_tv b), .int 1, l3] [] (hl_g N I J) = hl_Run 191 (hl_call (d + 5)) 44 [.ref 85, .int (hl_tv b), .int 1, .int 0] [] (hl_g N I' J') := by
      simp only [hl_r191_12, hl_r191_13, hl_r191_16, hl_r191_17, hl_r191_20, hl_r191_23, hl_r191_24, hl_r191_25, hl_r191_28, hl_r191_29, hl_r191_32, hl_r191_33, hl_r191_34, hl_r191_37, hl_r191_38, hl_r191_39, hl_o_85, hl_p_85_3, hl_p_85_4, hl_p_85_5, hl_p_85_6, hl_p_85_19, hl_p_85_23, hl_p_85_24, hl_p_85_25, hl_p_85_26, hl_p_85_27, hl_p_85_28, hl_p_85_29, hl_p_85_30, hl_p_85_31, hl_p_85_33, hl_p_85_34, hl_p_85_35, hl_p_85_36, hl_p_85_37, n1, h22', e, hl_tl_s, hl_kill_i, hl_kill_r, hl_kill_n, hl_kill_l, hl_tl_s, hl_tl_n, hl_cal_some, hl_gI, hl_gJ, hl_gsI, hl_gsJ, hl_tv01, if_true, if_false, not_true, not_false_eq_true, hl_10, or_true, true_or]
    rw [st]
    simp only [hl_r191_44]
theorem hx_m191 (hL : L ≤ 300) (n : Nat) : ∀ {s s1 : Nat × List Nat × List (Nat × Nat) × Bool} {l3 : Value} {I : Nat → Nat → Int32} {J : Nat → Nat → Int64}, hx_RM t L x s I J → hx_iv s → hx_its t L b n s s1 → ∃ l3' I' J', hl_Run 191 (hl_call (d + 5)) 12 [.ref 85, .int (hl_tv b), .int 1, l3] [] (hl_g N I J) = hl_Run 191 (hl_call (d + 5)) 12 [.ref 85, .int (hl_tv b), .int 1, l3'] [] (hl_g N I' J') ∧ hx_RM t L x s1 I' J' ∧ hx_iv s1 ∧ hx_fM x I I' ∧ hx_g85 J J' := by
  induction n with
  | zero =>
    intro s s1 l3 I J h hiv hi
    have e : s = s1 := hi
    rw [← e]
    exact ⟨l3, I, J, rfl, h, hiv, hx_fM_rf x I, fun _ _ => rfl⟩
  | succ n ih =>
    intro s s1 l3 I J h hiv hi
    obtain ⟨s2, e, hi2⟩ := hi
    obtain ⟨l3', I', J', e1, rm1, iv1, f1, g1⟩ := hx_l191 (d := d) (N := N) (l3 := l3) h hiv hL e
    obtain ⟨l3'', I'', J'', e2, rm2, iv2, f2, g2⟩ := ih (l3 := l3') rm1 iv1 hi2
    exact ⟨l3'', I'', J'', e1.trans e2, rm2, iv2, hx_fM_tr f1 f2, fun b hb => (g2 b hb).trans (g1 b hb)⟩
/-- the loop's ends -/
theorem hx_e191 {s : Nat × List Nat × List (Nat × Nat) × Bool} {l3 : Value} (h : hx_RM t L x s I J) (hiv : hx_iv s) (hL : L ≤ 300) (h0 : (hx_ms t L b s).1 ≠ 0) :
    (hx_fin t L b s ≠ 0 → hl_Run 191 (hl_call (d + 5)) 12 [.ref 85, .int (hl_tv b), .int 1, l3] [] (hl_g N I J) = some (some (.int (nI (hx_fin t L b s))), hl_g N I J)) ∧
    (hx_fin t L b s = 0 → ∃ I', hl_Run 191 (hl_call (d + 5)) 12 [.ref 85, .int (hl_tv b), .int 1, l3] [] (hl_g N I J) = some (some (.int 0), hl_g N I' J) ∧ hx_RC x (hx_stl 1 s.2.1 s.2.2.1).1 (hx_stl 1 s.2.1 s.2.2.1).2 (hx_opP (hx_stl 1 s.2.1 s.2.2.1).1) I' ∧ hx_fS x I I') := by
  obtain ⟨p, P, C, w⟩ := s
  have hp : p ≤ L := h.2.2.2.2
  have h22 : I 85 22 = hl_tv w := h.2.2.2.1
  have n1 : ¬ (1 : Int32) = 0 := by decide
  have rc : hx_RC x P C (hx_opP P) I := h.2.2.1
  cases w with
  | false =>
    have ms : hx_ms t L b (p, P, C, false) = hx_bgn t L b p P C := hx_ms_f
    rw [ms] at h0
    have r3 := hx_bgn_r (t := t) (L := L) (b := b) (p := p) (P := P) (C := C)
    have fe : hx_fin t L b (p, P, C, false) = (hx_bgn t L b p P C).1 := by unfold hx_fin; rw [ms, if_neg (by omega)]
    rw [fe]
    refine ⟨fun _ => ?_, fun y => absurd y h0⟩
    have e := (hx_s187 (d := d) (N := N) (b := b) h hiv hL).2 h0
    have nf : ¬ nI (hx_bgn t L b p P C).1 = 0 := nI_ne0 (by omega) (by omega)
    have h22' : I 85 22 = 0 := h22
    simp only [hl_r191_12, hl_r191_13, hl_r191_16, hl_r191_17, hl_r191_20, hl_r191_23, hl_r191_24, hl_r191_25, hl_r191_28, hl_r191_29, hl_r191_32, hl_r191_33, hl_r191_34, hl_r191_37, hl_r191_38, hl_r191_39, hl_r191_42, hl_r191_43, hl_o_85, hl_p_85_3, hl_p_85_4, hl_p_85_5, hl_p_85_6, hl_p_85_19, hl_p_85_23, hl_p_85_24, hl_p_85_25, hl_p_85_26, hl_p_85_27, hl_p_85_28, hl_p_85_29, hl_p_85_30, hl_p_85_31, hl_p_85_33, hl_p_85_34, hl_p_85_35, hl_p_85_36, hl_p_85_37, n1, h22', e, nf, hl_tl_s, hl_kill_i, hl_kill_r, hl_kill_n, hl_kill_l, hl_tl_s, hl_tl_n, hl_cal_some, hl_gI, hl_gJ, hl_gsI, hl_gsJ, hl_tv01, if_true, if_false, not_true, not_false_eq_true, hl_10, or_true, true_or]
  | true =>
    have ms : hx_ms t L b (p, P, C, true) = hx_beh t L b p P C := hx_ms_t
    rw [ms] at h0
    have e := (hx_s190 (d := d) (N := N) (b := b) h hiv hL).2 h0
    have h22' : I 85 22 = 1 := h22
    have st : hl_Run 191 (hl_call (d + 5)) 12 [.ref 85, .int (hl_tv b), .int 1, l3] [] (hl_g N I J) = hl_Run 191 (hl_call (d + 5)) 47 [.ref 85, .int (hl_tv b), .int 0, l3] [] (hl_g N I J) := by
      have s1 : hl_Run 191 (hl_call (d + 5)) 12 [.ref 85, .int (hl_tv b), .int 1, l3] [] (hl_g N I J) = hl_Run 191 (hl_call (d + 5)) 29 [.ref 85, .int (hl_tv b), .int 0, l3] [] (hl_g N I J) := by
        simp only [hl_r191_12, hl_r191_13, hl_r191_16, hl_r191_17, hl_r191_20, hl_r191_23, hl_r191_24, hl_r191_25, hl_r191_28, hl_o_85, hl_p_85_3, hl_p_85_4, hl_p_85_5, hl_p_85_6, hl_p_85_19, hl_p_85_23, hl_p_85_24, hl_p_85_25, hl_p_85_26, hl_p_85_27, hl_p_85_28, hl_p_85_29, hl_p_85_30, hl_p_85_31, hl_p_85_33, hl_p_85_34, hl_p_85_35, hl_p_85_36, hl_p_85_37, n1, h22', e, hl_tl_s, hl_kill_i, hl_kill_r, hl_kill_n, hl_kill_l, hl_tl_s, hl_tl_n, hl_cal_some, hl_gI, hl_gJ, hl_gsI, hl_gsJ, hl_tv01, if_true, if_false, not_true, not_false_eq_true, hl_10, or_true, true_or]
      rw [s1]
      simp only [hl_r191_29, hl_r191_12, hl_r191_13, hl_kill_i, hl_kill_r, hl_kill_n, hl_kill_l, hl_tl_s, hl_tl_n, hl_cal_some, hl_gI, hl_gJ, hl_gsI, hl_gsJ, hl_tv01, if_true, if_false, not_true, not_false_eq_true, hl_10, or_true, true_or]
    have m10 : (hx_beh t L b p P C).1 = 10 := hx_beh_r.resolve_left h0
    have fe : hx_fin t L b (p, P, C, true) = if hx_mk P ≠ [] ∨ (b = true ∧ hx_cd P = false) then 1 else 0 := by unfold hx_fin; rw [ms, if_pos m10]
    rw [fe, st]
    have em := hx_s182 (d := d + 4) (N := N) (J := J) rc
    have em' : hl_call (d + 5) 182 [.ref 85] (hl_g N I J) = some (some (.int (nI (hx_mk P).length - 1)), hl_g N I J) := em
    have ec : hl_call (d + 5) 184 [.ref 85] (hl_g N I J) = some (some (.int (hl_tv (hx_cd P))), hl_g N I J) := hx_s184 (d := d + 3) (N := N) (J := J) rc
    obtain ⟨wf, o8, len⟩ := hiv
    have o8' : hx_opP P ≤ 8 := o8
    have len' : P.length + C.length ≤ p := len
    obtain ⟨I1, e1, rc1, f1⟩ := hx_s180 (d := d + 3) (N := N) (J := J) (m := 0) (o := 0) (r := 1) (by omega) (show hx_RC x P C (hx_opP P + 0) I from rc) (by omega) (by omega)
    have e1' : hl_call (d + 5) 180 [.ref 85, .int 1] (hl_g N I J) = some (none, hl_g N I1 J) := e1
    by_cases z1 : hx_mk P = []
    · rw [z1] at em'
      have em0 : hl_call (d + 5) 182 [.ref 85] (hl_g N I J) = some (some (.int (nI 0 - 1)), hl_g N I J) := em'
      have g0 : ¬ (0 : Int32) ≤ nI 0 - 1 := by decide
      by_cases z2 : b = true ∧ hx_cd P = false
      · rw [if_pos (Or.inr z2)]
        refine ⟨fun _ => ?_, fun y => absurd y (by decide)⟩
        rw [z2.2, hl_tv_f] at ec
        rw [z2.1, hl_tv_t]
        show _ = some (some (Value.int 1), hl_g N I J)
        simp only [hl_r191_47, hl_r191_48, hl_r191_51, hl_r191_54, hl_r191_55, hl_r191_58, hl_r191_59, hl_r191_62, hl_r191_65, hl_r191_66, hl_r191_67, hl_r191_68, hl_r191_69, hl_r191_72, hl_r191_73, hl_o_85, hl_p_85_3, hl_p_85_4, hl_p_85_5, hl_p_85_6, hl_p_85_19, hl_p_85_23, hl_p_85_24, hl_p_85_25, hl_p_85_26, hl_p_85_27, hl_p_85_28, hl_p_85_29, hl_p_85_30, hl_p_85_31, hl_p_85_33, hl_p_85_34, hl_p_85_35, hl_p_85_36, hl_p_85_37, em0, g0, n1, ec, hl_tl_s, hl_kill_i, hl_kill_r, hl_kill_n, hl_kill_l, hl_tl_s, hl_tl_n, hl_cal_some, hl_gI, hl_gJ, hl_gsI, hl_gsJ, hl_tv01, if_true, if_false, not_true, not_false_eq_true, hl_10, or_true, true_or]
      · rw [if_neg (fun y => y.elim (fun y => y z1) z2)]
        refine ⟨fun y => absurd rfl y, fun _ => ⟨I1, ?_, rc1, f1⟩⟩
        cases b with
        | false =>
          rw [hl_tv_f]
          simp only [hl_r191_47, hl_r191_48, hl_r191_51, hl_r191_54, hl_r191_55, hl_r191_58, hl_r191_59, hl_r191_62, hl_r191_65, hl_r191_66, hl_r191_67, hl_r191_68, hl_r191_69, hl_r191_72, hl_r191_73, hl_o_85, hl_p_85_3, hl_p_85_4, hl_p_85_5, hl_p_85_6, hl_p_85_19, hl_p_85_23, hl_p_85_24, hl_p_85_25, hl_p_85_26, hl_p_85_27, hl_p_85_28, hl_p_85_29, hl_p_85_30, hl_p_85_31, hl_p_85_33, hl_p_85_34, hl_p_85_35, hl_p_85_36, hl_p_85_37, em0, g0, e1', hl_tl_s, hl_tl_n, hl_kill_i, hl_kill_r, hl_kill_n, hl_kill_l, hl_tl_s, hl_tl_n, hl_cal_some, hl_gI, hl_gJ, hl_gsI, hl_gsJ, hl_tv01, if_true, if_false, not_true, not_false_eq_true, hl_10, or_true, true_or]
        | true =>
          have c1 : hx_cd P = true := by
            cases q : hx_cd P with
            | true => rfl
            | false => exact absurd ⟨rfl, q⟩ z2
          rw [c1, hl_tv_t] at ec
          rw [hl_tv_t]
          simp only [hl_r191_47, hl_r191_48, hl_r191_51, hl_r191_54, hl_r191_55, hl_r191_58, hl_r191_59, hl_r191_62, hl_r191_65, hl_r191_66, hl_r191_67, hl_r191_68, hl_r191_69, hl_r191_72, hl_r191_73, hl_o_85, hl_p_85_3, hl_p_85_4, hl_p_85_5, hl_p_85_6, hl_p_85_19, hl_p_85_23, hl_p_85_24, hl_p_85_25, hl_p_85_26, hl_p_85_27, hl_p_85_28, hl_p_85_29, hl_p_85_30, hl_p_85_31, hl_p_85_33, hl_p_85_34, hl_p_85_35, hl_p_85_36, hl_p_85_37, em0, g0, n1, ec, e1', hl_tl_s, hl_tl_n, hl_kill_i, hl_kill_r, hl_kill_n, hl_kill_l, hl_tl_s, hl_tl_n, hl_cal_some, hl_gI, hl_gJ, hl_gsI, hl_gsJ, hl_tv01, if_true, if_false, not_true, not_false_eq_true, hl_10, or_true, true_or]
    · rw [if_pos (Or.inl z1)]
      refine ⟨fun _ => ?_, fun y => absurd y (by decide)⟩
      have g := (hx_mk_at P _ rc.2.2.2.2.1 z1)
      have g150 : P.length ≤ 150 := rc.2.2.1.2
      have e2 : nI (hx_mk P).length - 1 = nI ((hx_mk P).length - 1) := by
        rw [show nI (hx_mk P).length = nI ((hx_mk P).length - 1 + 1) by rw [Nat.sub_add_cancel g.2.2.2.2]]
        exact nI_pred _
      rw [e2] at em'
      have g0 : (0 : Int32) ≤ nI ((hx_mk P).length - 1) := nI_le (a := 0) (Nat.zero_le _) (by have := g.2.1; omega)
      show _ = some (some (Value.int 1), hl_g N I J)
      simp only [hl_r191_47, hl_r191_48, hl_r191_51, hl_r191_54, hl_r191_55, hl_r191_58, hl_r191_59, hl_r191_62, hl_r191_65, hl_r191_66, hl_r191_67, hl_r191_68, hl_r191_69, hl_r191_72, hl_r191_73, hl_o_85, hl_p_85_3, hl_p_85_4, hl_p_85_5, hl_p_85_6, hl_p_85_19, hl_p_85_23, hl_p_85_24, hl_p_85_25, hl_p_85_26, hl_p_85_27, hl_p_85_28, hl_p_85_29, hl_p_85_30, hl_p_85_31, hl_p_85_33, hl_p_85_34, hl_p_85_35, hl_p_85_36, hl_p_85_37, em', g0, hl_tl_s, hl_kill_i, hl_kill_r, hl_kill_n, hl_kill_l, hl_tl_s, hl_tl_n, hl_cal_some, hl_gI, hl_gJ, hl_gsI, hl_gsJ, hl_tv01, if_true, if_false, not_true, not_false_eq_true, hl_10, or_true, true_or]
/-- parsed -/
theorem hx_s191 (T : hx_TQ t L I) (tt : hx_TT t L p I J) (hp : p ≤ L) (hC : C.length ≤ p) (h15 : I 85 15 = nI x ∧ x ≤ 2400) (h17 : I 85 17 = nI C.length) (h21 : I 85 21 = 0) (hcl : hx_CL (I 88) x C) :
    ((hx_rd t L 8 (if b = true then 3 else 1) p).1 = 0 → ∃ I' J', hl_call (d + 6) 191 [.ref 85, .int (hl_tv b)] (hl_g N I J) = some (some (.int 0), hl_g N I' J') ∧ hx_TQ t L I' ∧ hx_TT t L (hx_rd t L 8 (if b = true then 3 else 1) p).2.1 I' J' ∧ hx_RC x [] (C ++ (hx_rd t L 8 (if b = true then 3 else 1) p).2.2) 0 I' ∧ hx_fM x I I' ∧ hx_g85 J J') ∧
    ((hx_rd t L 8 (if b = true then 3 else 1) p).1 ≠ 0 → ∃ I' J', hl_call (d + 6) 191 [.ref 85, .int (hl_tv b)] (hl_g N I J) = some (some (.int (nI (hx_rd t L 8 (if b = true then 3 else 1) p).1)), hl_g N I' J') ∧ I' 85 11 = nI (hx_rd t L 8 (if b = true then 3 else 1) p).2.1 ∧ hx_fM x I I' ∧ hx_g85 J J') := by
  have hL : L ≤ 300 := T.1
  have f0 : hx_fM x I (hl_up (hl_up I 85 20 0) 85 22 0) := hx_fM_tr (hx_fM_u (by omega)) (hx_fM_u (by omega))
  have r85 : ∀ j, j ≠ 20 → j ≠ 22 → hl_up (hl_up I 85 20 0) 85 22 0 85 j = I 85 j := fun j h1 h2 => by rw [hl_up_a, if_pos rfl, if_neg h2, hl_up_a, if_pos rfl, if_neg h1]
  have r88 : hl_up (hl_up I 85 20 0) 85 22 0 88 = I 88 := by rw [hl_up_ne _ _ _ (by omega), hl_up_ne _ _ _ (by omega)]
  have rm0 : hx_RM t L x (p, [], C, false) (hl_up (hl_up I 85 20 0) 85 22 0) J := by
    refine ⟨f0.tq T, ?_, ⟨⟨(r85 15 (by omega) (by omega)).trans h15.1, h15.2⟩, (r85 17 (by omega) (by omega)).trans h17, ⟨by rw [hl_up_a, if_pos rfl, if_neg (by omega)]; exact hl_up_at, Nat.zero_le _⟩, (r85 21 (by omega) (by omega)).trans h21, True.intro, by rw [r88]; exact hcl⟩, hl_up_at, hp⟩
    obtain ⟨a1, a2, a3⟩ := tt
    exact ⟨by rw [r85 10 (by omega) (by omega)]; exact a1, by rw [r85 11 (by omega) (by omega)]; exact a2, by rw [r85 12 (by omega) (by omega), r85 13 (by omega) (by omega)]; exact a3⟩
  have iv0 : hx_iv (p, [], C, false) := ⟨True.intro, Nat.zero_le _, by show 0 + C.length ≤ p; omega⟩
  have st : hl_call (d + 6) 191 [.ref 85, .int (hl_tv b)] (hl_g N I J) = hl_Run 191 (hl_call (d + 5)) 12 [.ref 85, .int (hl_tv b), .int 1, .null] [] (hl_g N (hl_up (hl_up I 85 20 0) 85 22 0) J) := by
    rw [hl_e191]
    simp only [hl_r191_0, hl_r191_1, hl_r191_2, hl_r191_5, hl_r191_6, hl_r191_7, hl_r191_10, hl_r191_11, hl_o_85, hl_p_85_3, hl_p_85_4, hl_p_85_5, hl_p_85_6, hl_p_85_19, hl_p_85_23, hl_p_85_24, hl_p_85_25, hl_p_85_26, hl_p_85_27, hl_p_85_28, hl_p_85_29, hl_p_85_30, hl_p_85_31, hl_p_85_33, hl_p_85_34, hl_p_85_35, hl_p_85_36, hl_p_85_37, hl_kill_i, hl_kill_r, hl_kill_n, hl_kill_l, hl_tl_s, hl_tl_n, hl_cal_some, hl_gI, hl_gJ, hl_gsI, hl_gsJ, hl_tv01, if_true, if_false, not_true, not_false_eq_true, hl_10, or_true, true_or]
  generalize hl_up (hl_up I 85 20 0) 85 22 0 = I0 at f0 rm0 st
  obtain ⟨y0, y1⟩ := hx_top (t := t) (L := L) (b := b) (p := p) (C := C) hL hp
  rw [st]
  generalize hx_rd t L 8 (if b = true then 3 else 1) p = r at y0 y1 ⊢
  refine ⟨fun z => ?_, fun z => ?_⟩
  · obtain ⟨D, C1, ⟨n, go⟩, hs, m10, f00⟩ := y0 z
    obtain ⟨l3, I1, J1, e1, rm1, iv1, f1, g1⟩ := hx_m191 (d := d) (N := N) (l3 := .null) hL n rm0 iv0 go
    obtain ⟨I2, e2, rc2, f2⟩ := (hx_e191 (d := d) (N := N) (l3 := l3) rm1 iv1 hL (by omega)).2 f00
    have rc2' : hx_RC x (hx_stl 1 D C1).1 (hx_stl 1 D C1).2 (hx_opP (hx_stl 1 D C1).1) I2 := rc2
    rw [hs] at rc2'
    refine ⟨I2, J1, by rw [e1, e2], f2.1.tq rm1.1, ?_, rc2', hx_fM_tr f0 (hx_fM_tr f1 f2.1), g1⟩
    obtain ⟨a1, a2, a3⟩ := rm1.2.1
    exact ⟨by rw [f2.2 10 (by omega)]; exact a1, by rw [f2.2 11 (by omega)]; exact a2, by rw [f2.2 12 (by omega), f2.2 13 (by omega)]; exact a3⟩
  · obtain ⟨s', ⟨n, go⟩, hf, hs⟩ := y1 z
    obtain ⟨l3, I1, J1, e1, rm1, iv1, f1, g1⟩ := hx_m191 (d := d) (N := N) (l3 := .null) hL n rm0 iv0 go
    have h0 : (hx_ms t L b s').1 ≠ 0 := fun y => by
      unfold hx_fin at hf
      rw [y] at hf
      exact z (hf.symm.trans (if_neg (by decide)))
    have e2 := (hx_e191 (d := d) (N := N) (l3 := l3) rm1 iv1 hL h0).1 (by rw [hf]; exact z)
    rw [hf] at e2
    refine ⟨I1, J1, by rw [e1, e2], ?_, hx_fM_tr f0 f1, g1⟩
    rw [← hs]
    exact rm1.2.1.2.1
end HXRPAR
