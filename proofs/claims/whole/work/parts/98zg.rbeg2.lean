/-! the reference's reader: opensBy, beginOne -/
section HXRBEG2
variable {d N L x p : Nat} {I I' I1 : Nat → Nat → Int32} {J : Nat → Nat → Int64} {t : Nat → Nat} {b w : Bool} {P : List Nat} {C : List (Nat × Nat)}
theorem hx_fM.tq (h : hx_fM x I I') (g : hx_TQ t L I) : hx_TQ t L I' := ⟨g.1, by rw [h.2.1 7 (by omega)]; exact g.2.1, fun k hk => by rw [h.1 89 (by omega) (by omega) (by omega)]; exact g.2.2 k hk⟩
theorem hx_nx {e : Nat} (T : hx_TQ t L I1) (h10 : I1 85 10 = nI e) (he : e ≤ L) (rc : hx_RC x P C (hx_opP P) I1) (h22 : I1 85 22 = hl_tv w) : ∃ I2 J2, hl_call (d + 3) 171 [.ref 85] (hl_g N I1 J) = some (none, hl_g N I2 J2) ∧ hx_RM t L x (e, P, C, w) I2 J2 ∧ hx_fM x I1 I2 ∧ hx_g85 J J2 := by
  obtain ⟨I2, J2, e2, tt, f2, g2⟩ := hx_s171 (d := d) (N := N) (J := J) T h10 he
  obtain ⟨⟨g1, g1'⟩, g2', ⟨g3, g3'⟩, g4, g5, g6⟩ := rc
  refine ⟨I2, J2, e2, ⟨f2.tq T, tt, ⟨⟨(f2.2 15 (by omega)).trans g1, g1'⟩, (f2.2 17 (by omega)).trans g2', ⟨(f2.2 20 (by omega)).trans g3, g3'⟩, (f2.2 21 (by omega)).trans g4, by rw [f2.1 90 (by omega)]; exact g5, by rw [f2.1 88 (by omega)]; exact g6⟩, (f2.2 22 (by omega)).trans h22, he⟩, ⟨fun b h1 _ _ => f2.1 b h1, fun j hj => f2.2 j (by omega), fun j _ => by rw [f2.1 88 (by omega)]⟩, g2⟩
/-- opensBy -/
theorem hx_s186f {k : Nat} (h : hx_RM t L x (p, P, C, w) I J) (h8 : hx_opP P = 8) : hl_call (d + 4) 186 [.ref 85, .int (nI k)] (hl_g N I J) = some (some (.int 3), hl_g N I J) := by
  have h21 : I 85 21 = 8 := by rw [h.2.2.1.2.2.2.1]; show nI (hx_opP P) = 8; rw [h8]; rfl
  rw [hl_e186]
  simp only [hl_r186_0, hl_r186_1, hl_r186_4, hl_r186_6, hl_r186_9, hl_r186_10, hl_r186_11, hl_r186_12, hl_r186_13, hl_r186_16, hl_r186_17, hl_r186_18, hl_r186_21, hl_r186_22, hl_r186_23, hl_r186_26, hl_r186_27, hl_r186_30, hl_r186_31, hl_o_85, hl_p_85_3, hl_p_85_4, hl_p_85_5, hl_p_85_6, hl_p_85_19, hl_p_85_23, hl_p_85_24, hl_p_85_25, hl_p_85_26, hl_p_85_27, hl_p_85_28, hl_p_85_29, hl_p_85_30, hl_p_85_31, hl_p_85_33, hl_p_85_34, hl_p_85_35, hl_p_85_36, hl_p_85_37, h21, hl_kill_i, hl_kill_r, hl_kill_n, hl_kill_l, hl_tl_s, hl_tl_n, hl_cal_some, hl_gI, hl_gJ, hl_gsI, hl_gsJ, hl_tv01, if_true, if_false, not_true, not_false_eq_true, hl_10, or_true, true_or]
theorem hx_s186 {k : Nat} (h : hx_RM t L x (p, P, C, w) I J) (hk : k ≤ 43) (hO : hx_isO k = 1) (hl : P.length < 150) (h8 : hx_opP P < 8) : ∃ I' J', hl_call (d + 4) 186 [.ref 85, .int (nI k)] (hl_g N I J) = some (some (.int 0), hl_g N I' J') ∧ hx_RM t L x ((hx_tk t L p).2.2.2, k :: P, C, w) I' J' ∧ hx_fM x I I' ∧ hx_g85 J J' := by
  obtain ⟨T, ⟨t10, -, -⟩, rc, h22, hp⟩ := h
  obtain ⟨-, -, te, -⟩ := hx_tk_in (t := t) hp
  have h21 : I 85 21 = nI (hx_opP P) := rc.2.2.2.1
  have n8 : (nI (hx_opP P) = (8 : Int32)) = False := eq_false (fun y => by have := (nI_eq (b := 8) (by omega) (by omega)).mp y; omega)
  have en : nI (hx_opP P) + 1 = nI (hx_opP P + 1) := (nI_succ _).symm
  obtain ⟨⟨g1, g1'⟩, g2', ⟨g3, g3'⟩, g4, g5, g6⟩ := rc
  have r85 : ∀ j, j ≠ 21 → hl_up I 85 21 (nI (hx_opP P + 1)) 85 j = I 85 j := fun j hj => by rw [hl_up_a, if_pos rfl, if_neg hj]
  have rc1 : hx_RC x P C (hx_opP P + 1) (hl_up I 85 21 (nI (hx_opP P + 1))) := ⟨⟨(r85 15 (by omega)).trans g1, g1'⟩, (r85 17 (by omega)).trans g2', ⟨(r85 20 (by omega)).trans g3, g3'⟩, hl_up_at, by rw [hl_up_ne _ _ _ (by omega)]; exact g5, by rw [hl_up_ne _ _ _ (by omega)]; exact g6⟩
  have fa := hx_fS_u (x := x) (I := I) (j := 21) (v := nI (hx_opP P + 1)) (by omega)
  obtain ⟨I2, e2, rc2, f2⟩ := hx_s178 (d := d + 2) (N := N) (J := J) rc1 hk hl
  have e2' : hl_call (d + 3) 178 [.ref 85, .int (nI k)] (hl_g N (hl_up I 85 21 (nI (hx_opP P + 1))) J) = some (none, hl_g N I2 J) := e2
  have eo : hx_opP P + 1 = hx_opP (k :: P) := by show hx_opP P + 1 = hx_isO k + hx_opP P; omega
  rw [eo] at rc2
  have fb := hx_fS_tr fa f2
  obtain ⟨I3, J3, e3, rm, f3, gj⟩ := hx_nx (d := d) (N := N) (J := J) (I1 := I2) (w := w) (fb.1.tq T) (by rw [fb.2 10 (by omega)]; exact t10) te rc2 (by rw [fb.2 22 (by omega)]; exact h22)
  refine ⟨I3, J3, ?_, rm, hx_fM_tr fb.1 f3, gj⟩
  rw [hl_e186]
  simp only [hl_r186_0, hl_r186_1, hl_r186_4, hl_r186_6, hl_r186_9, hl_r186_10, hl_r186_11, hl_r186_12, hl_r186_13, hl_r186_16, hl_r186_17, hl_r186_18, hl_r186_21, hl_r186_22, hl_r186_23, hl_r186_26, hl_r186_27, hl_r186_30, hl_r186_31, hl_o_85, hl_p_85_3, hl_p_85_4, hl_p_85_5, hl_p_85_6, hl_p_85_19, hl_p_85_23, hl_p_85_24, hl_p_85_25, hl_p_85_26, hl_p_85_27, hl_p_85_28, hl_p_85_29, hl_p_85_30, hl_p_85_31, hl_p_85_33, hl_p_85_34, hl_p_85_35, hl_p_85_36, hl_p_85_37, h21, n8, en, e2', e3, hl_tl_n, hl_kill_i, hl_kill_r, hl_kill_n, hl_kill_l, hl_tl_s, hl_tl_n, hl_cal_some, hl_gI, hl_gJ, hl_gsI, hl_gsJ, hl_tv01, if_true, if_false, not_true, not_false_eq_true, hl_10, or_true, true_or]
/-- one read: emitted, next, whole -/
theorem hx_emw {k v : Nat} (h : hx_RM t L x (p, P, C, false) I J) (hiv : hx_iv (p, P, C, false)) (hL : L ≤ 300) : ∃ I1 I2 J2 I3, hl_call (d + 4) 177 [.ref 85, .int (nI k), .int (nI v)] (hl_g N I J) = some (none, hl_g N I1 J) ∧ hl_call (d + 4) 171 [.ref 85] (hl_g N I1 J) = some (none, hl_g N I2 J2) ∧ hl_call (d + 4) 181 [.ref 85] (hl_g N I2 J2) = some (none, hl_g N I3 J2) ∧ hx_RM t L x ((hx_tk t L p).2.2.2, (hx_stl 7 P (C ++ [(k, v)])).1, (hx_stl 7 P (C ++ [(k, v)])).2, true) I3 J2 ∧ hx_fM x I I3 ∧ hx_g85 J J2 := by
  obtain ⟨T, ⟨t10, -, -⟩, rc, h22, hp⟩ := h
  obtain ⟨-, -, te, -⟩ := hx_tk_in (t := t) hp
  obtain ⟨wf, o8, len⟩ := hiv
  have o8' : hx_opP P ≤ 8 := o8
  have len' : P.length + C.length ≤ p := len
  have hx : x ≤ 2400 := rc.1.2
  have em := hx_s177 (d := d + 3) (N := N) (J := J) (o := k) (v := v) (x := x) (n := C.length) rc.1.1 rc.2.1 (by omega)
  obtain ⟨rc1, f1⟩ := hx_RC_emit (k := k) (v := v) rc (by show C.length ≤ 330; omega)
  have em' : hl_call (d + 4) 177 [.ref 85, .int (nI k), .int (nI v)] (hl_g N I J) = some (none, hl_g N (hl_up (hl_up (hl_up I 88 (x + 30 + 2 * C.length) (nI k)) 88 (x + 30 + 2 * C.length + 1) (nI v)) 85 17 (nI (C.length + 1))) J) := em
  have rc1' : hx_RC x P (C ++ [(k, v)]) (hx_opP P) (hl_up (hl_up (hl_up I 88 (x + 30 + 2 * C.length) (nI k)) 88 (x + 30 + 2 * C.length + 1) (nI v)) 85 17 (nI (C.length + 1))) := rc1
  have f1' : hx_fS x I (hl_up (hl_up (hl_up I 88 (x + 30 + 2 * C.length) (nI k)) 88 (x + 30 + 2 * C.length + 1) (nI v)) 85 17 (nI (C.length + 1))) := f1
  generalize hl_up (hl_up (hl_up I 88 (x + 30 + 2 * C.length) (nI k)) 88 (x + 30 + 2 * C.length + 1) (nI v)) 85 17 (nI (C.length + 1)) = I1 at em' rc1' f1'
  obtain ⟨I2, J2, e2, ⟨T2, tt2, rc2, w2, -⟩, f2, gj⟩ := hx_nx (d := d + 1) (N := N) (J := J) (I1 := I1) (w := false) (f1'.1.tq T) (by rw [f1'.2 10 (by omega)]; exact t10) te rc1' (by rw [f1'.2 22 (by omega)]; exact h22)
  have e2' : hl_call (d + 4) 171 [.ref 85] (hl_g N I1 J) = some (none, hl_g N I2 J2) := e2
  obtain ⟨I3, e3, rc3, f3, w3, r3⟩ := hx_s181 (d := d + 1) (N := N) (J := J2) (m := 0) (P := P) (C := C ++ [(k, v)]) rc2 (by omega) (by rw [List.length_append, List.length_singleton]; omega)
  have e3' : hl_call (d + 4) 181 [.ref 85] (hl_g N I2 J2) = some (none, hl_g N I3 J2) := e3
  refine ⟨I1, I2, J2, I3, em', e2', e3', ⟨f3.tq T2, ?_, rc3, w3, te⟩, hx_fM_tr f1'.1 (hx_fM_tr f2 f3), gj⟩
  obtain ⟨a1, a2, a3⟩ := tt2
  exact ⟨by rw [r3 10 (by omega)]; exact a1, by rw [r3 11 (by omega)]; exact a2, by rw [r3 12 (by omega), r3 13 (by omega)]; exact a3⟩
/-- beginOne -/
theorem hx_s187 (h : hx_RM t L x (p, P, C, false) I J) (hiv : hx_iv (p, P, C, false)) (hL : L ≤ 300) :
    ((hx_bgn t L b p P C).1 = 0 → ∃ I' J', hl_call (d + 5) 187 [.ref 85, .int (hl_tv b)] (hl_g N I J) = some (some (.int 0), hl_g N I' J') ∧ hx_RM t L x (hx_bgn t L b p P C).2 I' J' ∧ hx_fM x I I' ∧ hx_g85 J J') ∧
    ((hx_bgn t L b p P C).1 ≠ 0 → hl_call (d + 5) 187 [.ref 85, .int (hl_tv b)] (hl_g N I J) = some (some (.int (nI (hx_bgn t L b p P C).1)), hl_g N I J)) := by
  have h' := h
  obtain ⟨T, ⟨t10, t11, tr⟩, rc, h22, hp⟩ := h'
  obtain ⟨-, -, te, -, k44, -⟩ := hx_tk_in (t := t) hp
  obtain ⟨wf, o8, len⟩ := hiv
  have o8' : hx_opP P ≤ 8 := o8
  have hlen := hx_wf_len P wf
  have hiv' : hx_iv (p, P, C, false) := ⟨wf, o8, len⟩
  have nm := hx_s192 (d := d) (N := N) (I := I) (J := J) tr k44
  have q1 := hx_TR_1 tr k44
  have q1' : (I 85 12 = 1) = ((hx_tk t L p).1 = 20) := q1
  unfold hx_bgn
  by_cases z1 : (hx_tk t L p).1 = 20
  · rw [if_pos z1]
    have p1 : ((hx_tk t L p).1 = 20) = True := eq_true z1
    have nn : ¬ (3 ≤ (hx_tk t L p).1 ∧ (hx_tk t L p).1 ≤ 11) := by rw [z1]; omega
    have nn' : ¬ (3 ≤ (hx_tk t L (p, P, C, false).1).1 ∧ (hx_tk t L (p, P, C, false).1).1 ≤ 11) := nn
    rw [if_neg nn'] at nm
    obtain ⟨n, en, hn, vn⟩ : ∃ n, I 85 13 = nI n ∧ n ≤ 1000008 ∧ ((hx_tk t L p).2.1 = n ∧ n ≤ 9999 ∨ (hx_tk t L p).2.1 = 10000 ∧ 10000 ≤ n) := by
      rcases tr with ⟨a, _⟩ | ⟨a, _⟩ | ⟨_, _, c⟩ | ⟨a, _⟩
      · have a' : (hx_tk t L p).1 < 17 := a
        omega
      · have a' : (hx_tk t L p).1 = 22 := a
        omega
      · exact c
      · have a' : (hx_tk t L p).1 = 21 ∨ (hx_tk t L p).1 = 22 ∨ (30 ≤ (hx_tk t L p).1 ∧ (hx_tk t L p).1 ≤ 44) := a
        omega
    by_cases z2 : 9999 < (hx_tk t L p).2.1
    · rw [if_pos z2]
      refine ⟨fun y => absurd y (by show (2 : Nat) ≠ 0; omega), fun _ => ?_⟩
      have c9 : ¬ nI n ≤ (9999 : Int32) := nI_ge (a := 9999) (b := n) (by omega) (by omega)
      show _ = some (some (Value.int 2), hl_g N I J)
      rw [hl_e187]
      simp only [hl_r187_0, hl_r187_1, hl_r187_4, hl_r187_5, hl_r187_8, hl_r187_9, hl_r187_12, hl_r187_15, hl_r187_18, hl_r187_19, hl_r187_20, hl_r187_21, hl_r187_24, hl_r187_25, hl_r187_26, hl_r187_29, hl_r187_30, hl_r187_33, hl_r187_34, hl_r187_37, hl_r187_38, hl_r187_39, hl_r187_42, hl_r187_43, hl_r187_46, hl_r187_47, hl_r187_50, hl_r187_51, hl_r187_52, hl_r187_55, hl_r187_56, hl_r187_59, hl_r187_60, hl_r187_63, hl_r187_66, hl_r187_67, hl_r187_70, hl_r187_71, hl_r187_74, hl_r187_75, hl_r187_78, hl_r187_79, hl_r187_80, hl_r187_81, hl_r187_84, hl_r187_86, hl_r187_89, hl_r187_90, hl_r187_92, hl_r187_95, hl_r187_96, hl_r187_97, hl_r187_100, hl_r187_102, hl_r187_105, hl_r187_106, hl_r187_107, hl_r187_110, hl_r187_111, hl_r187_112, hl_r187_115, hl_r187_116, hl_r187_119, hl_r187_120, hl_r187_123, hl_r187_126, hl_r187_127, hl_r187_130, hl_r187_131, hl_r187_133, hl_r187_136, hl_r187_137, hl_r187_138, hl_r187_140, hl_r187_142, hl_r187_144, hl_r187_147, hl_r187_150, hl_r187_153, hl_r187_154, hl_r187_155, hl_r187_158, hl_r187_161, hl_r187_162, hl_r187_164, hl_r187_167, hl_r187_170, hl_r187_171, hl_o_85, hl_p_85_3, hl_p_85_4, hl_p_85_5, hl_p_85_6, hl_p_85_19, hl_p_85_23, hl_p_85_24, hl_p_85_25, hl_p_85_26, hl_p_85_27, hl_p_85_28, hl_p_85_29, hl_p_85_30, hl_p_85_31, hl_p_85_33, hl_p_85_34, hl_p_85_35, hl_p_85_36, hl_p_85_37, q1', p1, en, c9, hl_kill_i, hl_kill_r, hl_kill_n, hl_kill_l, hl_tl_s, hl_tl_n, hl_cal_some, hl_gI, hl_gJ, hl_gsI, hl_gsJ, hl_tv01, if_true, if_false, not_true, not_false_eq_true, hl_10, or_true, true_or]
    · rw [if_neg z2]
      refine ⟨fun _ => ?_, fun y => absurd rfl y⟩
      have vn' : (hx_tk t L p).2.1 = n := by omega
      have c9 : nI n ≤ (9999 : Int32) := (nI_le (b := 9999) (by omega) (by omega) : _ ≤ nI 9999)
      obtain ⟨I1, I2, J2, I3, a1, a2, a3, a4, a5, a6⟩ := hx_emw (d := d) (N := N) (k := 0) (v := (hx_tk t L p).2.1) h hiv' hL
      rw [vn'] at a1
      have a1' : hl_call (d + 4) 177 [.ref 85, .int 0, .int (nI n)] (hl_g N I J) = some (none, hl_g N I1 J) := a1
      refine ⟨I3, J2, ?_, a4, a5, a6⟩
      rw [hl_e187]
      simp only [hl_r187_0, hl_r187_1, hl_r187_4, hl_r187_5, hl_r187_8, hl_r187_9, hl_r187_12, hl_r187_15, hl_r187_18, hl_r187_19, hl_r187_20, hl_r187_21, hl_r187_24, hl_r187_25, hl_r187_26, hl_r187_29, hl_r187_30, hl_r187_33, hl_r187_34, hl_r187_37, hl_r187_38, hl_r187_39, hl_r187_42, hl_r187_43, hl_r187_46, hl_r187_47, hl_r187_50, hl_r187_51, hl_r187_52, hl_r187_55, hl_r187_56, hl_r187_59, hl_r187_60, hl_r187_63, hl_r187_66, hl_r187_67, hl_r187_70, hl_r187_71, hl_r187_74, hl_r187_75, hl_r187_78, hl_r187_79, hl_r187_80, hl_r187_81, hl_r187_84, hl_r187_86, hl_r187_89, hl_r187_90, hl_r187_92, hl_r187_95, hl_r187_96, hl_r187_97, hl_r187_100, hl_r187_102, hl_r187_105, hl_r187_106, hl_r187_107, hl_r187_110, hl_r187_111, hl_r187_112, hl_r187_115, hl_r187_116, hl_r187_119, hl_r187_120, hl_r187_123, hl_r187_126, hl_r187_127, hl_r187_130, hl_r187_131, hl_r187_133, hl_r187_136, hl_r187_137, hl_r187_138, hl_r187_140, hl_r187_142, hl_r187_144, hl_r187_147, hl_r187_150, hl_r187_153, hl_r187_154, hl_r187_155, hl_r187_158, hl_r187_161, hl_r187_162, hl_r187_164, hl_r187_167, hl_r187_170, hl_r187_171, hl_o_85, hl_p_85_3, hl_p_85_4, hl_p_85_5, hl_p_85_6, hl_p_85_19, hl_p_85_23, hl_p_85_24, hl_p_85_25, hl_p_85_26, hl_p_85_27, hl_p_85_28, hl_p_85_29, hl_p_85_30, hl_p_85_31, hl_p_85_33, hl_p_85_34, hl_p_85_35, hl_p_85_36, hl_p_85_37, q1', p1, en, c9, nm, a1', a2, a3, hl_tl_s, hl_tl_n, hl_kill_i, hl_kill_r, hl_kill_n, hl_kill_l, hl_tl_s, hl_tl_n, hl_cal_some, hl_gI, hl_gJ, hl_gsI, hl_gsJ, hl_tv01, if_true, if_false, not_true, not_false_eq_true, hl_10, or_true, true_or]
  · rw [if_neg z1]
    have p1 : ((hx_tk t L p).1 = 20) = False := eq_false z1
    by_cases z2 : 3 ≤ (hx_tk t L p).1 ∧ (hx_tk t L p).1 ≤ 11
    · rw [if_pos z2]
      have z2' : 3 ≤ (hx_tk t L (p, P, C, false).1).1 ∧ (hx_tk t L (p, P, C, false).1).1 ≤ 11 := z2
      rw [if_pos z2'] at nm
      have nm' : hl_call (d + 4) 192 [.ref 85] (hl_g N I J) = some (some (.int (nI ((hx_tk t L p).1 - 3))), hl_g N I J) := nm
      refine ⟨fun _ => ?_, fun y => absurd rfl y⟩
      have n0 : ¬ nI ((hx_tk t L p).1 - 3) < 0 := Int32.not_lt.mpr (nI_le (a := 0) (Nat.zero_le _) (by omega))
      obtain ⟨I1, I2, J2, I3, a1, a2, a3, a4, a5, a6⟩ := hx_emw (d := d) (N := N) (k := 1) (v := (hx_tk t L p).1 - 3) h hiv' hL
      have a1' : hl_call (d + 4) 177 [.ref 85, .int 1, .int (nI ((hx_tk t L p).1 - 3))] (hl_g N I J) = some (none, hl_g N I1 J) := a1
      refine ⟨I3, J2, ?_, a4, a5, a6⟩
      rw [hl_e187]
      simp only [hl_r187_0, hl_r187_1, hl_r187_4, hl_r187_5, hl_r187_8, hl_r187_9, hl_r187_12, hl_r187_15, hl_r187_18, hl_r187_19, hl_r187_20, hl_r187_21, hl_r187_24, hl_r187_25, hl_r187_26, hl_r187_29, hl_r187_30, hl_r187_33, hl_r187_34, hl_r187_37, hl_r187_38, hl_r187_39, hl_r187_42, hl_r187_43, hl_r187_46, hl_r187_47, hl_r187_50, hl_r187_51, hl_r187_52, hl_r187_55, hl_r187_56, hl_r187_59, hl_r187_60, hl_r187_63, hl_r187_66, hl_r187_67, hl_r187_70, hl_r187_71, hl_r187_74, hl_r187_75, hl_r187_78, hl_r187_79, hl_r187_80, hl_r187_81, hl_r187_84, hl_r187_86, hl_r187_89, hl_r187_90, hl_r187_92, hl_r187_95, hl_r187_96, hl_r187_97, hl_r187_100, hl_r187_102, hl_r187_105, hl_r187_106, hl_r187_107, hl_r187_110, hl_r187_111, hl_r187_112, hl_r187_115, hl_r187_116, hl_r187_119, hl_r187_120, hl_r187_123, hl_r187_126, hl_r187_127, hl_r187_130, hl_r187_131, hl_r187_133, hl_r187_136, hl_r187_137, hl_r187_138, hl_r187_140, hl_r187_142, hl_r187_144, hl_r187_147, hl_r187_150, hl_r187_153, hl_r187_154, hl_r187_155, hl_r187_158, hl_r187_161, hl_r187_162, hl_r187_164, hl_r187_167, hl_r187_170, hl_r187_171, hl_o_85, hl_p_85_3, hl_p_85_4, hl_p_85_5, hl_p_85_6, hl_p_85_19, hl_p_85_23, hl_p_85_24, hl_p_85_25, hl_p_85_26, hl_p_85_27, hl_p_85_28, hl_p_85_29, hl_p_85_30, hl_p_85_31, hl_p_85_33, hl_p_85_34, hl_p_85_35, hl_p_85_36, hl_p_85_37, q1', p1, nm', n0, a1', a2, a3, hl_tl_s, hl_tl_n, hl_kill_i, hl_kill_r, hl_kill_n, hl_kill_l, hl_tl_s, hl_tl_n, hl_cal_some, hl_gI, hl_gJ, hl_gsI, hl_gsJ, hl_tv01, if_true, if_false, not_true, not_false_eq_true, hl_10, or_true, true_or]
    · rw [if_neg z2]
      have z2' : ¬ (3 ≤ (hx_tk t L (p, P, C, false).1).1 ∧ (hx_tk t L (p, P, C, false).1).1 ≤ 11) := z2
      rw [if_neg z2'] at nm
      have n0 : (-1 : Int32) < 0 := by decide
      have q38 : (I 85 12 = (40 : Int32)) = ((hx_tk t L p).1 = 38) := hx_TR_c (c := 38) tr k44 (by omega)
      have q35 : (I 85 12 = (45 : Int32)) = ((hx_tk t L p).1 = 35) := hx_TR_c (c := 35) tr k44 (by omega)
      have w15 : (I 85 12 = 2 ∧ J 85 14 = Int64.ofNat (hx_pw 15)) = ((hx_tk t L p).1 = 15) := hx_TR_w (i := 15) tr k44 (by omega)
      have e14 : hl_call (d + 4) 176 [.ref 85, .long (Int64.ofNat (hx_pw 14))] (hl_g N I J) = some (some (.int (hl_tv (decide ((hx_tk t L p).1 = 14)))), hl_g N I J) := hx_s176 (d := d + 3) (N := N) (I := I) (J := J) (i := 14) tr k44 (by omega)
      have ea := hx_s185 (d := d + 1) (N := N) (J := J) (b := b) rc
      have ea' : hl_call (d + 4) 185 [.ref 85, .int (hl_tv b)] (hl_g N I J) = some (some (.int (hl_tv (hx_aa b P))), hl_g N I J) := ea
      -- opening with k
      have op : ∀ k, k ≤ 43 → hx_isO k = 1 → (∀ (v : Int32) (I' : Nat → Nat → Int32) (J' : Nat → Nat → Int64), hl_call (d + 4) 186 [.ref 85, .int (nI k)] (hl_g N I J) = some (some (.int v), hl_g N I' J') → hl_call (d + 5) 187 [.ref 85, .int (hl_tv b)] (hl_g N I J) = some (some (.int v), hl_g N I' J')) →
          ((if hx_opP P = 8 then (3, p, P, C, false) else (0, (hx_tk t L p).2.2.2, k :: P, C, false)).1 = 0 → ∃ I' J', hl_call (d + 5) 187 [.ref 85, .int (hl_tv b)] (hl_g N I J) = some (some (.int 0), hl_g N I' J') ∧ hx_RM t L x (if hx_opP P = 8 then (3, p, P, C, false) else (0, (hx_tk t L p).2.2.2, k :: P, C, false)).2 I' J' ∧ hx_fM x I I' ∧ hx_g85 J J') ∧
          ((if hx_opP P = 8 then (3, p, P, C, false) else (0, (hx_tk t L p).2.2.2, k :: P, C, false)).1 ≠ 0 → hl_call (d + 5) 187 [.ref 85, .int (hl_tv b)] (hl_g N I J) = some (some (.int (nI (if hx_opP P = 8 then (3, p, P, C, false) else (0, (hx_tk t L p).2.2.2, k :: P, C, false)).1)), hl_g N I J)) := by
        intro k hk hO st
        by_cases y : hx_opP P = 8
        · rw [if_pos y]
          exact ⟨fun z => absurd z (by show (3 : Nat) ≠ 0; omega), fun _ => st _ _ _ (hx_s186f h y)⟩
        · rw [if_neg y]
          obtain ⟨I', J', a1, a2⟩ := hx_s186 (d := d) (N := N) (J := J) h hk hO (by omega) (by omega)
          exact ⟨fun _ => ⟨I', J', st _ _ _ a1, a2⟩, fun z => absurd rfl z⟩
      by_cases z38 : (hx_tk t L p).1 = 38
      · rw [if_pos z38]
        refine op 40 (by omega) rfl (fun v I' J' e => ?_)
        have e' : hl_call (d + 4) 186 [.ref 85, .int 40] (hl_g N I J) = some (some (.int v), hl_g N I' J') := e
        have p38 : ((hx_tk t L p).1 = 38) = True := eq_true z38
        rw [hl_e187]
        simp only [hl_r187_0, hl_r187_1, hl_r187_4, hl_r187_5, hl_r187_8, hl_r187_9, hl_r187_12, hl_r187_15, hl_r187_18, hl_r187_19, hl_r187_20, hl_r187_21, hl_r187_24, hl_r187_25, hl_r187_26, hl_r187_29, hl_r187_30, hl_r187_33, hl_r187_34, hl_r187_37, hl_r187_38, hl_r187_39, hl_r187_42, hl_r187_43, hl_r187_46, hl_r187_47, hl_r187_50, hl_r187_51, hl_r187_52, hl_r187_55, hl_r187_56, hl_r187_59, hl_r187_60, hl_r187_63, hl_r187_66, hl_r187_67, hl_r187_70, hl_r187_71, hl_r187_74, hl_r187_75, hl_r187_78, hl_r187_79, hl_r187_80, hl_r187_81, hl_r187_84, hl_r187_86, hl_r187_89, hl_r187_90, hl_r187_92, hl_r187_95, hl_r187_96, hl_r187_97, hl_r187_100, hl_r187_102, hl_r187_105, hl_r187_106, hl_r187_107, hl_r187_110, hl_r187_111, hl_r187_112, hl_r187_115, hl_r187_116, hl_r187_119, hl_r187_120, hl_r187_123, hl_r187_126, hl_r187_127, hl_r187_130, hl_r187_131, hl_r187_133, hl_r187_136, hl_r187_137, hl_r187_138, hl_r187_140, hl_r187_142, hl_r187_144, hl_r187_147, hl_r187_150, hl_r187_153, hl_r187_154, hl_r187_155, hl_r187_158, hl_r187_161, hl_r187_162, hl_r187_164, hl_r187_167, hl_r187_170, hl_r187_171, hl_o_85, hl_p_85_3, hl_p_85_4, hl_p_85_5, hl_p_85_6, hl_p_85_19, hl_p_85_23, hl_p_85_24, hl_p_85_25, hl_p_85_26, hl_p_85_27, hl_p_85_28, hl_p_85_29, hl_p_85_30, hl_p_85_31, hl_p_85_33, hl_p_85_34, hl_p_85_35, hl_p_85_36, hl_p_85_37, q1', p1, nm, n0, q38, p38, e', hl_tl_s, hl_tl_n, hl_kill_i, hl_kill_r, hl_kill_n, hl_kill_l, hl_tl_s, hl_tl_n, hl_cal_some, hl_gI, hl_gJ, hl_gsI, hl_gsJ, hl_tv01, if_true, if_false, not_true, not_false_eq_true, hl_10, or_true, true_or]
      · rw [if_neg z38]
        have p38 : ((hx_tk t L p).1 = 38) = False := eq_false z38
        by_cases z35 : (hx_tk t L p).1 = 35
        · rw [if_pos z35]
          refine op 2 (by omega) rfl (fun v I' J' e => ?_)
          have e' : hl_call (d + 4) 186 [.ref 85, .int 2] (hl_g N I J) = some (some (.int v), hl_g N I' J') := e
          have p35 : ((hx_tk t L p).1 = 35) = True := eq_true z35
          rw [hl_e187]
          simp only [hl_r187_0, hl_r187_1, hl_r187_4, hl_r187_5, hl_r187_8, hl_r187_9, hl_r187_12, hl_r187_15, hl_r187_18, hl_r187_19, hl_r187_20, hl_r187_21, hl_r187_24, hl_r187_25, hl_r187_26, hl_r187_29, hl_r187_30, hl_r187_33, hl_r187_34, hl_r187_37, hl_r187_38, hl_r187_39, hl_r187_42, hl_r187_43, hl_r187_46, hl_r187_47, hl_r187_50, hl_r187_51, hl_r187_52, hl_r187_55, hl_r187_56, hl_r187_59, hl_r187_60, hl_r187_63, hl_r187_66, hl_r187_67, hl_r187_70, hl_r187_71, hl_r187_74, hl_r187_75, hl_r187_78, hl_r187_79, hl_r187_80, hl_r187_81, hl_r187_84, hl_r187_86, hl_r187_89, hl_r187_90, hl_r187_92, hl_r187_95, hl_r187_96, hl_r187_97, hl_r187_100, hl_r187_102, hl_r187_105, hl_r187_106, hl_r187_107, hl_r187_110, hl_r187_111, hl_r187_112, hl_r187_115, hl_r187_116, hl_r187_119, hl_r187_120, hl_r187_123, hl_r187_126, hl_r187_127, hl_r187_130, hl_r187_131, hl_r187_133, hl_r187_136, hl_r187_137, hl_r187_138, hl_r187_140, hl_r187_142, hl_r187_144, hl_r187_147, hl_r187_150, hl_r187_153, hl_r187_154, hl_r187_155, hl_r187_158, hl_r187_161, hl_r187_162, hl_r187_164, hl_r187_167, hl_r187_170, hl_r187_171, hl_o_85, hl_p_85_3, hl_p_85_4, hl_p_85_5, hl_p_85_6, hl_p_85_19, hl_p_85_23, hl_p_85_24, hl_p_85_25, hl_p_85_26, hl_p_85_27, hl_p_85_28, hl_p_85_29, hl_p_85_30, hl_p_85_31, hl_p_85_33, hl_p_85_34, hl_p_85_35, hl_p_85_36, hl_p_85_37, q1', p1, nm, n0, q38, p38, q35, p35, e', hl_tl_s, hl_tl_n, hl_kill_i, hl_kill_r, hl_kill_n, hl_kill_l, hl_tl_s, hl_tl_n, hl_cal_some, hl_gI, hl_gJ, hl_gsI, hl_gsJ, hl_tv01, if_true, if_false, not_true, not_false_eq_true, hl_10, or_true, true_or]
        · rw [if_neg z35]
          have p35 : ((hx_tk t L p).1 = 35) = False := eq_false z35
          by_cases z15 : (hx_tk t L p).1 = 15
          · rw [if_pos z15]
            refine op 41 (by omega) rfl (fun v I' J' e => ?_)
            have e' : hl_call (d + 4) 186 [.ref 85, .int 41] (hl_g N I J) = some (some (.int v), hl_g N I' J') := e
            obtain ⟨t2, j15⟩ := w15.mpr z15
            have n2a : ((2 : Int32) = 1) = False := by decide
            have n2b : ((2 : Int32) = 40) = False := by decide
            have n2c : ((2 : Int32) = 45) = False := by decide
            have j15' : (J 85 14 = Int64.ofNat (hx_pw 15)) = True := eq_true j15
            rw [hl_e187]
            simp only [hl_r187_0, hl_r187_1, hl_r187_4, hl_r187_5, hl_r187_8, hl_r187_9, hl_r187_12, hl_r187_15, hl_r187_18, hl_r187_19, hl_r187_20, hl_r187_21, hl_r187_24, hl_r187_25, hl_r187_26, hl_r187_29, hl_r187_30, hl_r187_33, hl_r187_34, hl_r187_37, hl_r187_38, hl_r187_39, hl_r187_42, hl_r187_43, hl_r187_46, hl_r187_47, hl_r187_50, hl_r187_51, hl_r187_52, hl_r187_55, hl_r187_56, hl_r187_59, hl_r187_60, hl_r187_63, hl_r187_66, hl_r187_67, hl_r187_70, hl_r187_71, hl_r187_74, hl_r187_75, hl_r187_78, hl_r187_79, hl_r187_80, hl_r187_81, hl_r187_84, hl_r187_86, hl_r187_89, hl_r187_90, hl_r187_92, hl_r187_95, hl_r187_96, hl_r187_97, hl_r187_100, hl_r187_102, hl_r187_105, hl_r187_106, hl_r187_107, hl_r187_110, hl_r187_111, hl_r187_112, hl_r187_115, hl_r187_116, hl_r187_119, hl_r187_120, hl_r187_123, hl_r187_126, hl_r187_127, hl_r187_130, hl_r187_131, hl_r187_133, hl_r187_136, hl_r187_137, hl_r187_138, hl_r187_140, hl_r187_142, hl_r187_144, hl_r187_147, hl_r187_150, hl_r187_153, hl_r187_154, hl_r187_155, hl_r187_158, hl_r187_161, hl_r187_162, hl_r187_164, hl_r187_167, hl_r187_170, hl_r187_171, hl_o_85, hl_p_85_3, hl_p_85_4, hl_p_85_5, hl_p_85_6, hl_p_85_19, hl_p_85_23, hl_p_85_24, hl_p_85_25, hl_p_85_26, hl_p_85_27, hl_p_85_28, hl_p_85_29, hl_p_85_30, hl_p_85_31, hl_p_85_33, hl_p_85_34, hl_p_85_35, hl_p_85_36, hl_p_85_37, t2, n2a, n2b, n2c, nm, n0, hx_v15, hl_lcmp_eq0, j15', e', hl_tl_s, hl_tl_n, hl_kill_i, hl_kill_r, hl_kill_n, hl_kill_l, hl_tl_s, hl_tl_n, hl_cal_some, hl_gI, hl_gJ, hl_gsI, hl_gsJ, hl_tv01, if_true, if_false, not_true, not_false_eq_true, hl_10, or_true, true_or]
          · rw [if_neg z15]
            -- as far as 'not'
            have st : ∀ w1 : Bool, hl_call (d + 4) 176 [.ref 85, .long (Int64.ofNat (hx_pw 14))] (hl_g N I J) = some (some (.int (hl_tv w1)), hl_g N I J) → hl_call (d + 5) 187 [.ref 85, .int (hl_tv b)] (hl_g N I J) = hl_Run 187 (hl_call (d + 4)) 150 [.ref 85, .int (hl_tv b), .int (-1)] [.int (hl_tv w1)] (hl_g N I J) := fun w1 hw1 => by
              rw [hl_e187]
              by_cases t2 : I 85 12 = 2
              · have n2a : ((2 : Int32) = 1) = False := by decide
                have n2b : ((2 : Int32) = 40) = False := by decide
                have n2c : ((2 : Int32) = 45) = False := by decide
                have j15' : (J 85 14 = Int64.ofNat (hx_pw 15)) = False := eq_false (fun y => z15 (w15.mp ⟨t2, y⟩))
                simp only [hl_r187_0, hl_r187_1, hl_r187_4, hl_r187_5, hl_r187_8, hl_r187_9, hl_r187_12, hl_r187_15, hl_r187_18, hl_r187_19, hl_r187_20, hl_r187_21, hl_r187_24, hl_r187_25, hl_r187_26, hl_r187_29, hl_r187_30, hl_r187_33, hl_r187_34, hl_r187_37, hl_r187_38, hl_r187_39, hl_r187_42, hl_r187_43, hl_r187_46, hl_r187_47, hl_r187_50, hl_r187_51, hl_r187_52, hl_r187_55, hl_r187_56, hl_r187_59, hl_r187_60, hl_r187_63, hl_r187_66, hl_r187_67, hl_r187_70, hl_r187_71, hl_r187_74, hl_r187_75, hl_r187_78, hl_r187_79, hl_r187_80, hl_r187_81, hl_r187_84, hl_r187_86, hl_r187_89, hl_r187_90, hl_r187_92, hl_r187_95, hl_r187_96, hl_r187_97, hl_r187_100, hl_r187_102, hl_r187_105, hl_r187_106, hl_r187_107, hl_r187_110, hl_r187_111, hl_r187_112, hl_r187_115, hl_r187_116, hl_r187_119, hl_r187_120, hl_r187_123, hl_r187_126, hl_r187_127, hl_r187_130, hl_r187_131, hl_r187_133, hl_r187_136, hl_r187_137, hl_r187_138, hl_r187_140, hl_r187_142, hl_r187_144, hl_r187_147, hl_o_85, hl_p_85_3, hl_p_85_4, hl_p_85_5, hl_p_85_6, hl_p_85_19, hl_p_85_23, hl_p_85_24, hl_p_85_25, hl_p_85_26, hl_p_85_27, hl_p_85_28, hl_p_85_29, hl_p_85_30, hl_p_85_31, hl_p_85_33, hl_p_85_34, hl_p_85_35, hl_p_85_36, hl_p_85_37, t2, n2a, n2b, n2c, nm, n0, hx_v15, hl_lcmp_eq0, j15', hx_v14, hw1, hl_tl_s, hl_tl_n, hl_kill_i, hl_kill_r, hl_kill_n, hl_kill_l, hl_tl_s, hl_tl_n, hl_cal_some, hl_gI, hl_gJ, hl_gsI, hl_gsJ, hl_tv01, if_true, if_false, not_true, not_false_eq_true, hl_10, or_true, true_or]
              · simp only [hl_r187_0, hl_r187_1, hl_r187_4, hl_r187_5, hl_r187_8, hl_r187_9, hl_r187_12, hl_r187_15, hl_r187_18, hl_r187_19, hl_r187_20, hl_r187_21, hl_r187_24, hl_r187_25, hl_r187_26, hl_r187_29, hl_r187_30, hl_r187_33, hl_r187_34, hl_r187_37, hl_r187_38, hl_r187_39, hl_r187_42, hl_r187_43, hl_r187_46, hl_r187_47, hl_r187_50, hl_r187_51, hl_r187_52, hl_r187_55, hl_r187_56, hl_r187_59, hl_r187_60, hl_r187_63, hl_r187_66, hl_r187_67, hl_r187_70, hl_r187_71, hl_r187_74, hl_r187_75, hl_r187_78, hl_r187_79, hl_r187_80, hl_r187_81, hl_r187_84, hl_r187_86, hl_r187_89, hl_r187_90, hl_r187_92, hl_r187_95, hl_r187_96, hl_r187_97, hl_r187_100, hl_r187_102, hl_r187_105, hl_r187_106, hl_r187_107, hl_r187_110, hl_r187_111, hl_r187_112, hl_r187_115, hl_r187_116, hl_r187_119, hl_r187_120, hl_r187_123, hl_r187_126, hl_r187_127, hl_r187_130, hl_r187_131, hl_r187_133, hl_r187_136, hl_r187_137, hl_r187_138, hl_r187_140, hl_r187_142, hl_r187_144, hl_r187_147, hl_o_85, hl_p_85_3, hl_p_85_4, hl_p_85_5, hl_p_85_6, hl_p_85_19, hl_p_85_23, hl_p_85_24, hl_p_85_25, hl_p_85_26, hl_p_85_27, hl_p_85_28, hl_p_85_29, hl_p_85_30, hl_p_85_31, hl_p_85_33, hl_p_85_34, hl_p_85_35, hl_p_85_36, hl_p_85_37, q1', p1, nm, n0, q38, p38, q35, p35, t2, hx_v14, hw1, hl_tl_s, hl_tl_n, hl_kill_i, hl_kill_r, hl_kill_n, hl_kill_l, hl_tl_s, hl_tl_n, hl_cal_some, hl_gI, hl_gJ, hl_gsI, hl_gsJ, hl_tv01, if_true, if_false, not_true, not_false_eq_true, hl_10, or_true, true_or]
            have st' := st _ e14
            by_cases z14 : (hx_tk t L p).1 = 14 ∧ hx_aa b P = true
            · rw [if_pos z14]
              refine op 20 (by omega) rfl (fun v I' J' e => ?_)
              have e' : hl_call (d + 4) 186 [.ref 85, .int 20] (hl_g N I J) = some (some (.int v), hl_g N I' J') := e
              rw [decide_eq_true z14.1, hl_tv_t] at st'
              rw [z14.2, hl_tv_t] at ea'
              have n1 : ¬ (1 : Int32) = 0 := by decide
              rw [st']
              simp only [hl_r187_150, hl_r187_153, hl_r187_154, hl_r187_155, hl_r187_158, hl_r187_161, hl_r187_162, hl_r187_164, hl_r187_167, hl_r187_170, hl_r187_171, hl_o_85, hl_p_85_3, hl_p_85_4, hl_p_85_5, hl_p_85_6, hl_p_85_19, hl_p_85_23, hl_p_85_24, hl_p_85_25, hl_p_85_26, hl_p_85_27, hl_p_85_28, hl_p_85_29, hl_p_85_30, hl_p_85_31, hl_p_85_33, hl_p_85_34, hl_p_85_35, hl_p_85_36, hl_p_85_37, n1, ea', e', hl_tl_s, hl_tl_n, hl_kill_i, hl_kill_r, hl_kill_n, hl_kill_l, hl_tl_s, hl_tl_n, hl_cal_some, hl_gI, hl_gJ, hl_gsI, hl_gsJ, hl_tv01, if_true, if_false, not_true, not_false_eq_true, hl_10, or_true, true_or]
            · rw [if_neg z14]
              refine ⟨fun y => absurd y (by show (1 : Nat) ≠ 0; omega), fun _ => ?_⟩
              show _ = some (some (Value.int 1), hl_g N I J)
              rw [st']
              by_cases y : (hx_tk t L p).1 = 14
              · have ya : hx_aa b P = false := by
                  cases q : hx_aa b P with
                  | true => exact absurd ⟨y, q⟩ z14
                  | false => rfl
                rw [ya, hl_tv_f] at ea'
                have n1 : ¬ (1 : Int32) = 0 := by decide
                rw [decide_eq_true y, hl_tv_t]
                simp only [hl_r187_150, hl_r187_153, hl_r187_154, hl_r187_155, hl_r187_158, hl_r187_161, hl_r187_162, hl_r187_164, hl_r187_167, hl_r187_170, hl_r187_171, hl_o_85, hl_p_85_3, hl_p_85_4, hl_p_85_5, hl_p_85_6, hl_p_85_19, hl_p_85_23, hl_p_85_24, hl_p_85_25, hl_p_85_26, hl_p_85_27, hl_p_85_28, hl_p_85_29, hl_p_85_30, hl_p_85_31, hl_p_85_33, hl_p_85_34, hl_p_85_35, hl_p_85_36, hl_p_85_37, n1, ea', hl_tl_s, hl_tl_n, hl_kill_i, hl_kill_r, hl_kill_n, hl_kill_l, hl_tl_s, hl_tl_n, hl_cal_some, hl_gI, hl_gJ, hl_gsI, hl_gsJ, hl_tv01, if_true, if_false, not_true, not_false_eq_true, hl_10, or_true, true_or]
              · rw [decide_eq_false y, hl_tv_f]
                simp only [hl_r187_150, hl_r187_153, hl_r187_154, hl_r187_155, hl_r187_158, hl_r187_161, hl_r187_162, hl_r187_164, hl_r187_167, hl_r187_170, hl_r187_171, hl_o_85, hl_p_85_3, hl_p_85_4, hl_p_85_5, hl_p_85_6, hl_p_85_19, hl_p_85_23, hl_p_85_24, hl_p_85_25, hl_p_85_26, hl_p_85_27, hl_p_85_28, hl_p_85_29, hl_p_85_30, hl_p_85_31, hl_p_85_33, hl_p_85_34, hl_p_85_35, hl_p_85_36, hl_p_85_37, hl_tl_s, hl_tl_n, hl_kill_i, hl_kill_r, hl_kill_n, hl_kill_l, hl_tl_s, hl_tl_n, hl_cal_some, hl_gI, hl_gJ, hl_gsI, hl_gsJ, hl_tv01, if_true, if_false, not_true, not_false_eq_true, hl_10, or_true, true_or]
end HXRBEG2
