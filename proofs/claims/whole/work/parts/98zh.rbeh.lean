/-! the reference's reader: behindOne -/
section HXRBEH
variable {d N L x p : Nat} {I I' I1 : Nat → Nat → Int32} {J : Nat → Nat → Int64} {t : Nat → Nat} {b w : Bool} {P P2 : List Nat} {C : List (Nat × Nat)}
theorem hx_RC_pop {k : Nat} (h : hx_RC x (k :: P) C (hx_opP (k :: P)) I) (hO : hx_isO k = 1) : hx_RC x P C (hx_opP P) (hl_up (hl_up I 85 20 (nI P.length)) 85 21 (nI (hx_opP P))) ∧ hx_fS x I (hl_up (hl_up I 85 20 (nI P.length)) 85 21 (nI (hx_opP P))) := by
  obtain ⟨⟨g1, g1'⟩, g2', ⟨g3, g3'⟩, g4, g5, g6⟩ := h
  have r85 : ∀ j, j ≠ 20 → j ≠ 21 → hl_up (hl_up I 85 20 (nI P.length)) 85 21 (nI (hx_opP P)) 85 j = I 85 j := fun j h1 h2 => by rw [hl_up_a, if_pos rfl, if_neg h2, hl_up_a, if_pos rfl, if_neg h1]
  have g3'' : P.length + 1 ≤ 150 := g3'
  exact ⟨⟨⟨(r85 15 (by omega) (by omega)).trans g1, g1'⟩, (r85 17 (by omega) (by omega)).trans g2', ⟨by rw [hl_up_a, if_pos rfl, if_neg (by omega)]; exact hl_up_at, by omega⟩, hl_up_at, by rw [hl_up_ne _ _ _ (by omega), hl_up_ne _ _ _ (by omega)]; exact g5.2, by rw [hl_up_ne _ _ _ (by omega), hl_up_ne _ _ _ (by omega)]; exact g6⟩, hx_fS_tr (hx_fS_u (by omega)) (hx_fS_u (by omega))⟩
theorem hx_RC_22 {o : Nat} {v : Int32} (h : hx_RC x P C o I) : hx_RC x P C o (hl_up I 85 22 v) := by
  obtain ⟨⟨g1, g1'⟩, g2', ⟨g3, g3'⟩, g4, g5, g6⟩ := h
  have r85 : ∀ j, j ≠ 22 → hl_up I 85 22 v 85 j = I 85 j := fun j h1 => by rw [hl_up_a, if_pos rfl, if_neg h1]
  exact ⟨⟨(r85 15 (by omega)).trans g1, g1'⟩, (r85 17 (by omega)).trans g2', ⟨(r85 20 (by omega)).trans g3, g3'⟩, (r85 21 (by omega)).trans g4, by rw [hl_up_ne _ _ _ (by omega)]; exact g5, by rw [hl_up_ne _ _ _ (by omega)]; exact g6⟩
theorem hx_RC_mk {k k' : Nat} (h : hx_RC x (k :: P) C (hx_opP (k :: P)) I) (hO : hx_isO k = hx_isO k') (hk : k' ≤ 43) : hx_RC x (k' :: P) C (hx_opP (k' :: P)) (hl_up I 90 P.length (nI k')) := by
  obtain ⟨⟨g1, g1'⟩, g2', ⟨g3, g3'⟩, g4, g5, g6⟩ := h
  have e : hx_opP (k :: P) = hx_opP (k' :: P) := by show hx_isO k + hx_opP P = hx_isO k' + hx_opP P; rw [hO]
  have u : hl_up I 90 P.length (nI k') 85 = I 85 := hl_up_ne _ _ _ (by omega)
  rw [e] at g4
  exact ⟨⟨by rw [u]; exact g1, g1'⟩, by rw [u]; exact g2', ⟨by rw [u]; exact g3, g3'⟩, by rw [u]; exact g4, ⟨⟨hl_up_at, hk⟩, hx_PL_S P g5.2 (fun j hj => by rw [hl_up_a, if_pos rfl, if_neg (by omega)])⟩, by rw [hl_up_ne _ _ _ (by omega)]; exact g6⟩
theorem hx_mk_ne (h : hx_mh P ≠ 0) : ∃ P2, hx_mk P = hx_mh P :: P2 := by
  unfold hx_mh at h ⊢
  cases e : hx_mk P with
  | nil => rw [e] at h; exact absurd rfl h
  | cons k Q => exact ⟨Q, rfl⟩
/-- to the values of its locals -/
theorem hx_190a (h : hx_RM t L x (p, P, C, w) I J) : ∃ l3 mv : Int32, hl_call (d + 5) 190 [.ref 85, .int (hl_tv b)] (hl_g N I J) = hl_Run 190 (hl_call (d + 4)) 27 [.ref 85, .int (hl_tv b), .int (hx_bv (hx_bt b P (hx_tk t L p).1)), .int l3, .int mv] [] (hl_g N I J) ∧ (∀ c, 40 ≤ c → c ≤ 43 → (mv = nI c) = (hx_mh P = c)) ∧ (∀ P2, hx_mk P = hx_mh P :: P2 → l3 = nI P2.length) := by
  have eb := hx_s189 (d := d) (N := N) (b := b) h
  have em := hx_s182 (d := d + 3) (N := N) (J := J) h.2.2.1
  have em' : hl_call (d + 4) 182 [.ref 85] (hl_g N I J) = some (some (.int (nI (hx_mk P).length - 1)), hl_g N I J) := em
  have pl := h.2.2.1.2.2.2.2.1
  have pl' : hx_PL (I 90) P := pl
  have h150 : P.length ≤ 150 := h.2.2.1.2.2.1.2
  by_cases z : hx_mk P = []
  · refine ⟨nI 0 - 1, -1, ?_, fun c h1 h2 => ?_, fun P2 e => ?_⟩
    · rw [z] at em'
      have em0 : hl_call (d + 4) 182 [.ref 85] (hl_g N I J) = some (some (.int (nI 0 - 1)), hl_g N I J) := em'
      have n0 : ¬ (0 : Int32) ≤ (nI 0 - 1 : Int32) := by decide
      rw [hl_e190]
      simp only [hl_r190_0, hl_r190_1, hl_r190_2, hl_r190_5, hl_r190_6, hl_r190_7, hl_r190_10, hl_r190_11, hl_r190_12, hl_r190_15, hl_r190_16, hl_r190_19, hl_r190_20, hl_r190_23, hl_r190_24, hl_r190_25, hl_o_85, hl_p_85_3, hl_p_85_4, hl_p_85_5, hl_p_85_6, hl_p_85_19, hl_p_85_23, hl_p_85_24, hl_p_85_25, hl_p_85_26, hl_p_85_27, hl_p_85_28, hl_p_85_29, hl_p_85_30, hl_p_85_31, hl_p_85_33, hl_p_85_34, hl_p_85_35, hl_p_85_36, hl_p_85_37, hl_a_90, hl_z_90, eb, em0, n0, hl_tl_s, hl_kill_i, hl_kill_r, hl_kill_n, hl_kill_l, hl_tl_s, hl_tl_n, hl_cal_some, hl_gI, hl_gJ, hl_gsI, hl_gsJ, hl_tv01, if_true, if_false, not_true, not_false_eq_true, hl_10, or_true, true_or]
    · have mh : hx_mh P = 0 := by unfold hx_mh; rw [z]; rfl
      rw [mh]
      refine propext ⟨fun y => ?_, fun y => by omega⟩
      have : (-1 : Int32).toInt = (nI c).toInt := by rw [y]
      rw [hl_tI (by omega)] at this
      have e1 : (-1 : Int32).toInt = -1 := by decide
      omega
    · rw [z] at e; cases e
  · obtain ⟨a, c, d40, d43, g⟩ := hx_mk_at P _ pl' z
    refine ⟨nI ((hx_mk P).length - 1), nI (hx_mh P), ?_, fun c h1 h2 => propext (nI_eq (by omega) (by omega)), fun P2 e => by rw [e]; rfl⟩
    have e1 : nI (hx_mk P).length - 1 = nI ((hx_mk P).length - 1) := by
      rw [show nI (hx_mk P).length = nI ((hx_mk P).length - 1 + 1) by rw [Nat.sub_add_cancel g]]
      exact nI_pred _
    rw [e1] at em'
    have n0 : (0 : Int32) ≤ nI ((hx_mk P).length - 1) := nI_le (a := 0) (Nat.zero_le _) (by omega)
    have bn : hl_inb (nI ((hx_mk P).length - 1)) 160 = true := hl_inb_nI (by omega) (by omega)
    have cq : (nI ((hx_mk P).length - 1)).toNatClampNeg = (hx_mk P).length - 1 := hl_cq (by omega)
    rw [hl_e190]
    simp only [hl_r190_0, hl_r190_1, hl_r190_2, hl_r190_5, hl_r190_6, hl_r190_7, hl_r190_10, hl_r190_11, hl_r190_12, hl_r190_15, hl_r190_16, hl_r190_19, hl_r190_20, hl_r190_23, hl_r190_24, hl_r190_25, hl_o_85, hl_p_85_3, hl_p_85_4, hl_p_85_5, hl_p_85_6, hl_p_85_19, hl_p_85_23, hl_p_85_24, hl_p_85_25, hl_p_85_26, hl_p_85_27, hl_p_85_28, hl_p_85_29, hl_p_85_30, hl_p_85_31, hl_p_85_33, hl_p_85_34, hl_p_85_35, hl_p_85_36, hl_p_85_37, hl_a_90, hl_z_90, eb, em', n0, bn, cq, a, hl_tl_s, hl_kill_i, hl_kill_r, hl_kill_n, hl_kill_l, hl_tl_s, hl_tl_n, hl_cal_some, hl_gI, hl_gJ, hl_gsI, hl_gsJ, hl_tv01, if_true, if_false, not_true, not_false_eq_true, hl_10, or_true, true_or]
/-- one between -/
theorem hx_190s {o : Nat} {l3 mv : Value} (h : hx_RM t L x (p, P, C, true) I J) (hiv : hx_iv (p, P, C, true)) (hL : L ≤ 300) (hb : hx_bt b P (hx_tk t L p).1 = some o) : ∃ I' J', hl_Run 190 (hl_call (d + 4)) 27 [.ref 85, .int (hl_tv b), .int (nI o), l3, mv] [] (hl_g N I J) = some (some (.int 1), hl_g N I' J') ∧ hx_RM t L x ((hx_tk t L p).2.2.2, o :: (hx_stl (hx_rk o) P C).1, (hx_stl (hx_rk o) P C).2, false) I' J' ∧ hx_fM x I I' ∧ hx_g85 J J' := by
  obtain ⟨T, ⟨t10, -, -⟩, rc, h22, hp⟩ := h
  obtain ⟨-, -, te, -⟩ := hx_tk_in (t := t) hp
  obtain ⟨wf, o8, len⟩ := hiv
  have o8' : hx_opP P ≤ 8 := o8
  have len' : P.length + C.length ≤ p := len
  have wfl := hx_wf_len P wf
  have hp' : p ≤ L := hp
  obtain ⟨r1, rO, o43, -⟩ := hx_bt_rk hb
  have r7 := hx_rk7 o
  obtain ⟨sw1, sw2, sw3, -⟩ := hx_stl_wf (r := hx_rk o) P C wf
  have swl := hx_wf_len _ sw1
  have n0 : ¬ nI o < 0 := Int32.not_lt.mpr (nI_le (a := 0) (Nat.zero_le _) (by omega))
  have rk : ∀ w, hl_call (d + 4) 179 [.int (nI o)] w = some (some (.int (nI (hx_rk o))), w) := fun w => hx_s179 (d := d + 3) o43
  have rcP : hx_RC x P C (hx_opP P + 0) I := rc
  obtain ⟨I1, e1, rc1, f1⟩ := hx_s180 (d := d + 2) (N := N) (J := J) (m := 0) (o := 0) (r := hx_rk o) ⟨r1, r7⟩ rcP (by omega) (by omega)
  have e1' : hl_call (d + 4) 180 [.ref 85, .int (nI (hx_rk o))] (hl_g N I J) = some (none, hl_g N I1 J) := e1
  obtain ⟨I2, e2, rc2, f2⟩ := hx_s178 (d := d + 3) (N := N) (J := J) rc1 o43 (by omega)
  have e2' : hl_call (d + 4) 178 [.ref 85, .int (nI o)] (hl_g N I1 J) = some (none, hl_g N I2 J) := e2
  have eo : hx_opP (hx_stl (hx_rk o) P C).1 + 0 = hx_opP (o :: (hx_stl (hx_rk o) P C).1) := by
    show _ = hx_isO o + hx_opP (hx_stl (hx_rk o) P C).1
    omega
  rw [eo] at rc2
  have f12 := hx_fS_tr f1 f2
  have f3 := hx_fM_tr f12.1 (hx_fM_u (x := x) (I := I2) (j := 22) (v := 0) (by omega))
  have h10 : hl_up I2 85 22 0 85 10 = nI (hx_tk t L p).2.2.2 := by
    rw [hl_up_a, if_pos rfl, if_neg (by omega), f12.2 10 (by omega)]
    exact t10
  obtain ⟨I4, J4, e4, rm, f4, gj⟩ := hx_nx (d := d + 1) (N := N) (J := J) (I1 := hl_up I2 85 22 0) (w := false) (f3.tq T) h10 te (hx_RC_22 rc2) hl_up_at
  have e4' : hl_call (d + 4) 171 [.ref 85] (hl_g N (hl_up I2 85 22 0) J) = some (none, hl_g N I4 J4) := e4
  refine ⟨I4, J4, ?_, rm, hx_fM_tr f3 f4, gj⟩
  simp only [hl_r190_27, hl_r190_28, hl_r190_31, hl_r190_32, hl_r190_33, hl_r190_36, hl_r190_39, hl_r190_40, hl_r190_41, hl_r190_44, hl_r190_45, hl_r190_46, hl_r190_49, hl_r190_201, hl_r190_202, hl_r190_205, hl_r190_206, hl_o_85, hl_p_85_3, hl_p_85_4, hl_p_85_5, hl_p_85_6, hl_p_85_19, hl_p_85_23, hl_p_85_24, hl_p_85_25, hl_p_85_26, hl_p_85_27, hl_p_85_28, hl_p_85_29, hl_p_85_30, hl_p_85_31, hl_p_85_33, hl_p_85_34, hl_p_85_35, hl_p_85_36, hl_p_85_37, hl_a_90, hl_z_90, n0, rk, e1', e2', e4', hl_tl_s, hl_tl_n, hl_kill_i, hl_kill_r, hl_kill_n, hl_kill_l, hl_tl_s, hl_tl_n, hl_cal_some, hl_gI, hl_gJ, hl_gsI, hl_gsJ, hl_tv01, if_true, if_false, not_true, not_false_eq_true, hl_10, or_true, true_or]
/-- behind settling and popping: whole, next -/
theorem hx_190w {I1 : Nat → Nat → Int32} {e : Nat} (T : hx_TQ t L I1) (h10 : I1 85 10 = nI e) (he : e ≤ L) (rc : hx_RC x P C (hx_opP P) I1) (h8 : hx_opP P ≤ 8) (hl : P.length + C.length ≤ 320) : ∃ I2 I3 J3, hl_call (d + 4) 181 [.ref 85] (hl_g N I1 J) = some (none, hl_g N I2 J) ∧ hl_call (d + 4) 171 [.ref 85] (hl_g N I2 J) = some (none, hl_g N I3 J3) ∧ hx_RM t L x (e, (hx_stl 7 P C).1, (hx_stl 7 P C).2, true) I3 J3 ∧ hx_fM x I1 I3 ∧ hx_g85 J J3 := by
  obtain ⟨I2, e2, rc2, f2, w2, r2⟩ := hx_s181 (d := d + 1) (N := N) (J := J) (m := 0) rc (by omega) hl
  obtain ⟨I3, J3, e3, rm, f3, gj⟩ := hx_nx (d := d + 1) (N := N) (J := J) (I1 := I2) (w := true) (f2.tq T) (by rw [r2 10 (by omega)]; exact h10) he rc2 w2
  exact ⟨I2, I3, J3, e2, e3, rm, hx_fM_tr f2 f3, gj⟩
theorem hx_stl1_ln {k : Nat} (hm : hx_mk P = k :: P2) (wf : hx_wf P) (h8 : hx_opP P ≤ 8) (len : P.length + C.length ≤ p) (hk : hx_isO k = 1) : (hx_stl 1 P C).1 = k :: P2 ∧ hx_opP P2 ≤ 7 ∧ P2.length + 1 + (hx_stl 1 P C).2.length ≤ p ∧ P2.length ≤ 100 ∧ hx_wf P2 := by
  obtain ⟨a1, a2, a3, -⟩ := hx_stl_wf (r := 1) P C wf
  have e : (hx_stl 1 P C).1 = k :: P2 := (hx_stl1 P C).trans hm
  rw [e] at a1 a2 a3
  have a2' : hx_isO k + hx_opP P2 ≤ hx_opP P := a2
  have a3' : P2.length + 1 + (hx_stl 1 P C).2.length = P.length + C.length := a3
  have := hx_wf_len P2 a1.1
  exact ⟨e, by omega, by omega, by omega, a1.1⟩
/-- behindOne, none between -/
theorem hx_190n {l3 mv : Int32} (h : hx_RM t L x (p, P, C, true) I J) (hiv : hx_iv (p, P, C, true)) (hL : L ≤ 300) (hb : hx_bt b P (hx_tk t L p).1 = none) (hmv : ∀ c, 40 ≤ c → c ≤ 43 → (mv = nI c) = (hx_mh P = c)) (hl3 : ∀ P2, hx_mk P = hx_mh P :: P2 → l3 = nI P2.length) :
    ((hx_beh t L b p P C).1 = 0 → ∃ I' J', hl_Run 190 (hl_call (d + 4)) 27 [.ref 85, .int (hl_tv b), .int (-1), .int l3, .int mv] [] (hl_g N I J) = some (some (.int 1), hl_g N I' J') ∧ hx_RM t L x (hx_beh t L b p P C).2 I' J' ∧ hx_fM x I I' ∧ hx_g85 J J') ∧
    ((hx_beh t L b p P C).1 ≠ 0 → hl_Run 190 (hl_call (d + 4)) 27 [.ref 85, .int (hl_tv b), .int (-1), .int l3, .int mv] [] (hl_g N I J) = some (some (.int 0), hl_g N I J)) := by
  obtain ⟨T, ⟨t10, -, tr⟩, rc, h22, hp⟩ := h
  obtain ⟨-, -, te, -, k44, -⟩ := hx_tk_in (t := t) hp
  obtain ⟨wf, o8, len⟩ := hiv
  have o8' : hx_opP P ≤ 8 := o8
  have len' : P.length + C.length ≤ p := len
  have hp' : p ≤ L := hp
  have m40 : (mv = (40 : Int32)) = (hx_mh P = 40) := hmv 40 (by omega) (by omega)
  have m41 : (mv = (41 : Int32)) = (hx_mh P = 41) := hmv 41 (by omega) (by omega)
  have m42 : (mv = (42 : Int32)) = (hx_mh P = 42) := hmv 42 (by omega) (by omega)
  have m43 : (mv = (43 : Int32)) = (hx_mh P = 43) := hmv 43 (by omega) (by omega)
  have q39 : (I 85 12 = (41 : Int32)) = ((hx_tk t L p).1 = 39) := hx_TR_c (c := 39) tr k44 (by omega)
  have q41 : (I 85 12 = (63 : Int32)) = ((hx_tk t L p).1 = 41) := hx_TR_c (c := 41) tr k44 (by omega)
  have q42 : (I 85 12 = (58 : Int32)) = ((hx_tk t L p).1 = 42) := hx_TR_c (c := 42) tr k44 (by omega)
  have e16 : hl_call (d + 4) 176 [.ref 85, .long (Int64.ofNat (hx_pw 16))] (hl_g N I J) = some (some (.int (hl_tv (decide ((hx_tk t L p).1 = 16)))), hl_g N I J) := hx_s176 (d := d + 3) (N := N) (I := I) (J := J) (i := 16) tr k44 (by omega)
  have ec : hl_call (d + 4) 184 [.ref 85] (hl_g N I J) = some (some (.int (hl_tv (hx_cd P))), hl_g N I J) := hx_s184 (d := d + 2) (N := N) (J := J) rc
  have n1 : (-1 : Int32) < 0 := by decide
  obtain ⟨I1, e1, rc1, f1⟩ := hx_s180 (d := d + 2) (N := N) (J := J) (m := 0) (o := 0) (r := 1) (by omega) rc (by omega) (by omega)
  have e1' : hl_call (d + 4) 180 [.ref 85, .int 1] (hl_g N I J) = some (none, hl_g N I1 J) := e1
  have rc1' : hx_RC x (hx_stl 1 P C).1 (hx_stl 1 P C).2 (hx_opP (hx_stl 1 P C).1) I1 := rc1
  have T1 := f1.1.tq T
  have t10' : I1 85 10 = nI (hx_tk t L p).2.2.2 := by rw [f1.2 10 (by omega)]; exact t10
  unfold hx_beh
  rw [hb]
  show ((if _ then _ else _ : Nat × Nat × List Nat × List (Nat × Nat) × Bool).1 = 0 → _) ∧ _
  by_cases c1 : (hx_tk t L p).1 = 39 ∧ hx_mh P = 40
  · rw [if_pos c1]
    refine ⟨fun _ => ?_, fun y => absurd rfl y⟩
    obtain ⟨P2, hm⟩ := hx_mk_ne (P := P) (by omega)
    rw [c1.2] at hm
    obtain ⟨eP, o7, ln, l100, wf2⟩ := hx_stl1_ln hm wf o8' len' rfl
    rw [eP] at rc1' ⊢
    obtain ⟨rc2, f2⟩ := hx_RC_pop rc1' rfl
    have g20 : I1 85 20 = nI (P2.length + 1) := rc1'.2.2.1.1
    have g21 : I1 85 21 = nI (hx_opP P2 + 1) := by rw [rc1'.2.2.2.1]; show nI (1 + hx_opP P2) = _; rw [Nat.add_comm]
    have u21 : hl_up I1 85 20 (nI P2.length) 85 21 = nI (hx_opP P2 + 1) := by rw [hl_up_a, if_pos rfl, if_neg (by omega)]; exact g21
    have p20 : nI (P2.length + 1) - 1 = nI P2.length := nI_pred _
    have p21 : nI (hx_opP P2 + 1) - 1 = nI (hx_opP P2) := nI_pred _
    obtain ⟨I4, I5, J5, e4, e5, rm, f5, gj⟩ := hx_190w (d := d) (N := N) (J := J) (e := (hx_tk t L p).2.2.2) (f2.1.tq T1) (by rw [f2.2 10 (by omega)]; exact t10') te rc2 (by omega) (by omega)
    refine ⟨I5, J5, ?_, rm, hx_fM_tr f1.1 (hx_fM_tr f2.1 f5), gj⟩
    have p39 : ((hx_tk t L p).1 = 39) = True := eq_true c1.1
    have pm40 : (hx_mh P = 40) = True := eq_true c1.2
    have pm43 : (hx_mh P = 43) = False := eq_false (by omega)
    simp only [hl_r190_27, hl_r190_28, hl_r190_31, hl_r190_32, hl_r190_33, hl_r190_36, hl_r190_39, hl_r190_40, hl_r190_41, hl_r190_44, hl_r190_45, hl_r190_46, hl_r190_49, hl_r190_52, hl_r190_53, hl_r190_56, hl_r190_58, hl_r190_61, hl_r190_63, hl_r190_65, hl_r190_68, hl_r190_69, hl_r190_71, hl_r190_73, hl_r190_75, hl_r190_78, hl_r190_81, hl_r190_84, hl_r190_86, hl_r190_88, hl_r190_91, hl_r190_92, hl_r190_93, hl_r190_96, hl_r190_97, hl_r190_98, hl_r190_101, hl_r190_102, hl_r190_103, hl_r190_106, hl_r190_107, hl_r190_108, hl_r190_111, hl_r190_112, hl_r190_113, hl_r190_116, hl_r190_118, hl_r190_120, hl_r190_123, hl_r190_124, hl_r190_126, hl_r190_127, hl_r190_130, hl_r190_131, hl_r190_134, hl_r190_201, hl_r190_202, hl_r190_205, hl_r190_206, hl_o_85, hl_p_85_3, hl_p_85_4, hl_p_85_5, hl_p_85_6, hl_p_85_19, hl_p_85_23, hl_p_85_24, hl_p_85_25, hl_p_85_26, hl_p_85_27, hl_p_85_28, hl_p_85_29, hl_p_85_30, hl_p_85_31, hl_p_85_33, hl_p_85_34, hl_p_85_35, hl_p_85_36, hl_p_85_37, hl_a_90, hl_z_90, n1, q39, p39, m40, pm40, m43, pm43, e1', g20, u21, p20, p21, e4, e5, hl_tl_s, hl_tl_n, hl_kill_i, hl_kill_r, hl_kill_n, hl_kill_l, hl_tl_s, hl_tl_n, hl_cal_some, hl_gI, hl_gJ, hl_gsI, hl_gsJ, hl_tv01, if_true, if_false, not_true, not_false_eq_true, hl_10, or_true, true_or]
  · rw [if_neg c1]
    by_cases c2 : (hx_tk t L p).1 = 16 ∧ hx_mh P = 43
    · rw [if_pos c2]
      refine ⟨fun _ => ?_, fun y => absurd rfl y⟩
      obtain ⟨P2, hm⟩ := hx_mk_ne (P := P) (by omega)
      rw [c2.2] at hm
      obtain ⟨eP, o7, ln, l100, wf2⟩ := hx_stl1_ln hm wf o8' len' rfl
      rw [eP] at rc1' ⊢
      obtain ⟨rc2, f2⟩ := hx_RC_pop rc1' rfl
      have g20 : I1 85 20 = nI (P2.length + 1) := rc1'.2.2.1.1
      have g21 : I1 85 21 = nI (hx_opP P2 + 1) := by rw [rc1'.2.2.2.1]; show nI (1 + hx_opP P2) = _; rw [Nat.add_comm]
      have u21 : hl_up I1 85 20 (nI P2.length) 85 21 = nI (hx_opP P2 + 1) := by rw [hl_up_a, if_pos rfl, if_neg (by omega)]; exact g21
      have p20 : nI (P2.length + 1) - 1 = nI P2.length := nI_pred _
      have p21 : nI (hx_opP P2 + 1) - 1 = nI (hx_opP P2) := nI_pred _
      have em := hx_s177 (d := d + 3) (N := N) (J := J) (o := 23) (v := 0) (x := x) (n := (hx_stl 1 P C).2.length) rc2.1.1 rc2.2.1 (by have := rc.1.2; omega)
      obtain ⟨rc3, f3⟩ := hx_RC_emit (k := 23) (v := 0) rc2 (by omega)
      have em' : hl_call (d + 4) 177 [.ref 85, .int 23, .int 0] (hl_g N (hl_up (hl_up I1 85 20 (nI P2.length)) 85 21 (nI (hx_opP P2))) J) = _ := em
      generalize hl_up (hl_up (hl_up (hl_up (hl_up I1 85 20 (nI P2.length)) 85 21 (nI (hx_opP P2))) 88 (x + 30 + 2 * (hx_stl 1 P C).2.length) (nI 23)) 88 (x + 30 + 2 * (hx_stl 1 P C).2.length + 1) (nI 0)) 85 17 (nI ((hx_stl 1 P C).2.length + 1)) = I3 at em' rc3 f3
      have f23 := hx_fS_tr f2 f3
      obtain ⟨I4, I5, J5, e4, e5, rm, f5, gj⟩ := hx_190w (d := d) (N := N) (J := J) (e := (hx_tk t L p).2.2.2) (f23.1.tq T1) (by rw [f23.2 10 (by omega)]; exact t10') te rc3 (by omega) (by rw [List.length_append, List.length_singleton]; omega)
      refine ⟨I5, J5, ?_, rm, hx_fM_tr f1.1 (hx_fM_tr f23.1 f5), gj⟩
      have p39 : ((hx_tk t L p).1 = 39) = False := eq_false (by omega)
      have pm43 : (hx_mh P = 43) = True := eq_true c2.2
      have n10 : ¬ (1 : Int32) = 0 := by decide
      rw [decide_eq_true c2.1, hl_tv_t] at e16
      simp only [hl_r190_27, hl_r190_28, hl_r190_31, hl_r190_32, hl_r190_33, hl_r190_36, hl_r190_39, hl_r190_40, hl_r190_41, hl_r190_44, hl_r190_45, hl_r190_46, hl_r190_49, hl_r190_52, hl_r190_53, hl_r190_56, hl_r190_58, hl_r190_61, hl_r190_63, hl_r190_65, hl_r190_68, hl_r190_69, hl_r190_71, hl_r190_73, hl_r190_75, hl_r190_78, hl_r190_81, hl_r190_84, hl_r190_86, hl_r190_88, hl_r190_91, hl_r190_92, hl_r190_93, hl_r190_96, hl_r190_97, hl_r190_98, hl_r190_101, hl_r190_102, hl_r190_103, hl_r190_106, hl_r190_107, hl_r190_108, hl_r190_111, hl_r190_112, hl_r190_113, hl_r190_116, hl_r190_118, hl_r190_120, hl_r190_123, hl_r190_124, hl_r190_126, hl_r190_127, hl_r190_130, hl_r190_131, hl_r190_134, hl_r190_201, hl_r190_202, hl_r190_205, hl_r190_206, hl_o_85, hl_p_85_3, hl_p_85_4, hl_p_85_5, hl_p_85_6, hl_p_85_19, hl_p_85_23, hl_p_85_24, hl_p_85_25, hl_p_85_26, hl_p_85_27, hl_p_85_28, hl_p_85_29, hl_p_85_30, hl_p_85_31, hl_p_85_33, hl_p_85_34, hl_p_85_35, hl_p_85_36, hl_p_85_37, hl_a_90, hl_z_90, n1, q39, p39, hx_v16, e16, n10, m43, pm43, e1', g20, u21, p20, p21, em', e4, e5, hl_tl_s, hl_tl_n, hl_kill_i, hl_kill_r, hl_kill_n, hl_kill_l, hl_tl_s, hl_tl_n, hl_cal_some, hl_gI, hl_gJ, hl_gsI, hl_gsJ, hl_tv01, if_true, if_false, not_true, not_false_eq_true, hl_10, or_true, true_or]
    · rw [if_neg c2]
      by_cases c3 : (hx_tk t L p).1 = 41 ∧ hx_mh P = 41 ∧ hx_cd P = true
      · rw [if_pos c3]
        refine ⟨fun _ => ?_, fun y => absurd rfl y⟩
        obtain ⟨P2, hm⟩ := hx_mk_ne (P := P) (by omega)
        have l3e := hl3 P2 hm
        rw [c3.2.1] at hm
        obtain ⟨eP, o7, ln, l100, wf2⟩ := hx_stl1_ln hm wf o8' len' rfl
        rw [eP] at rc1' ⊢
        have mve : mv = (41 : Int32) := m41.mpr (c3.2.1)
        have rc2 := hx_RC_mk (k' := 42) rc1' rfl (by omega)
        have f2 : hx_fM x I1 (hl_up (hl_up I1 90 P2.length (nI 42)) 85 22 0) := ⟨fun b b1 b2 b3 => by rw [hl_up_ne _ _ _ b1, hl_up_ne _ _ _ b3], fun j hj => by rw [hl_up_a, if_pos rfl, if_neg (by omega), hl_up_ne _ _ _ (by omega)], fun j hj => by rw [hl_up_ne _ _ _ (by omega), hl_up_ne _ _ _ (by omega)]⟩
        obtain ⟨I5, J5, e5, rm, f5, gj⟩ := hx_nx (d := d + 1) (N := N) (J := J) (I1 := hl_up (hl_up I1 90 P2.length (nI 42)) 85 22 0) (w := false) (f2.tq T1) (by rw [hl_up_a, if_pos rfl, if_neg (by omega), hl_up_ne _ _ _ (by omega)]; exact t10') te (hx_RC_22 rc2) hl_up_at
        have e5' : hl_call (d + 4) 171 [.ref 85] (hl_g N (hl_up (hl_up I1 90 P2.length (nI 42)) 85 22 0) J) = some (none, hl_g N I5 J5) := e5
        refine ⟨I5, J5, ?_, rm, hx_fM_tr f1.1 (hx_fM_tr f2 f5), gj⟩
        have p39 : ((hx_tk t L p).1 = 39) = False := eq_false (by omega)
        have p41 : ((hx_tk t L p).1 = 41) = True := eq_true c3.1
        rw [c3.2.2, hl_tv_t] at ec
        have k1 : (41 : Int32) + 1 = nI 42 := by decide
        have bn : hl_inb (nI P2.length) 160 = true := hl_inb_nI (by omega) (by omega)
        have cq : (nI P2.length).toNatClampNeg = P2.length := hl_cq (by omega)
        have n10 : ¬ (1 : Int32) = 0 := by decide
        rw [decide_eq_false (show ¬ (hx_tk t L p).1 = 16 by omega), hl_tv_f] at e16
        rw [l3e, mve]
        simp only [hl_r190_27, hl_r190_28, hl_r190_31, hl_r190_32, hl_r190_33, hl_r190_36, hl_r190_39, hl_r190_40, hl_r190_41, hl_r190_44, hl_r190_45, hl_r190_46, hl_r190_49, hl_r190_52, hl_r190_53, hl_r190_56, hl_r190_58, hl_r190_61, hl_r190_63, hl_r190_65, hl_r190_68, hl_r190_69, hl_r190_71, hl_r190_73, hl_r190_75, hl_r190_78, hl_r190_81, hl_r190_84, hl_r190_86, hl_r190_88, hl_r190_91, hl_r190_92, hl_r190_93, hl_r190_96, hl_r190_97, hl_r190_98, hl_r190_101, hl_r190_102, hl_r190_103, hl_r190_106, hl_r190_107, hl_r190_108, hl_r190_111, hl_r190_112, hl_r190_113, hl_r190_116, hl_r190_118, hl_r190_120, hl_r190_123, hl_r190_124, hl_r190_126, hl_r190_127, hl_r190_130, hl_r190_131, hl_r190_134, hl_r190_137, hl_r190_138, hl_r190_141, hl_r190_143, hl_r190_146, hl_r190_148, hl_r190_150, hl_r190_153, hl_r190_154, hl_r190_157, hl_r190_160, hl_r190_161, hl_r190_164, hl_r190_166, hl_r190_169, hl_r190_171, hl_r190_173, hl_r190_176, hl_r190_177, hl_r190_178, hl_r190_181, hl_r190_182, hl_r190_185, hl_r190_186, hl_r190_188, hl_r190_189, hl_r190_190, hl_r190_191, hl_r190_192, hl_r190_193, hl_r190_196, hl_r190_199, hl_r190_200, hl_r190_201, hl_r190_202, hl_r190_205, hl_r190_206, hl_o_85, hl_p_85_3, hl_p_85_4, hl_p_85_5, hl_p_85_6, hl_p_85_19, hl_p_85_23, hl_p_85_24, hl_p_85_25, hl_p_85_26, hl_p_85_27, hl_p_85_28, hl_p_85_29, hl_p_85_30, hl_p_85_31, hl_p_85_33, hl_p_85_34, hl_p_85_35, hl_p_85_36, hl_p_85_37, hl_a_90, hl_z_90, n1, q39, p39, hx_v16, e16, n10, q41, p41, ec, e1', k1, bn, cq, e5', hl_tl_s, hl_tl_n, hl_kill_i, hl_kill_r, hl_kill_n, hl_kill_l, hl_tl_s, hl_tl_n, hl_cal_some, hl_gI, hl_gJ, hl_gsI, hl_gsJ, hl_tv01, if_true, if_false, not_true, not_false_eq_true, hl_10, or_true, true_or]
      · rw [if_neg c3]
        by_cases c4 : (hx_tk t L p).1 = 42 ∧ hx_mh P = 42
        · rw [if_pos c4]
          refine ⟨fun _ => ?_, fun y => absurd rfl y⟩
          obtain ⟨P2, hm⟩ := hx_mk_ne (P := P) (by omega)
          have l3e := hl3 P2 hm
          rw [c4.2] at hm
          obtain ⟨eP, o7, ln, l100, wf2⟩ := hx_stl1_ln hm wf o8' len' rfl
          rw [eP] at rc1' ⊢
          have mve : mv = (42 : Int32) := m42.mpr (c4.2)
          have rc2 := hx_RC_mk (k' := 43) rc1' rfl (by omega)
          have f2 : hx_fM x I1 (hl_up (hl_up I1 90 P2.length (nI 43)) 85 22 0) := ⟨fun b b1 b2 b3 => by rw [hl_up_ne _ _ _ b1, hl_up_ne _ _ _ b3], fun j hj => by rw [hl_up_a, if_pos rfl, if_neg (by omega), hl_up_ne _ _ _ (by omega)], fun j hj => by rw [hl_up_ne _ _ _ (by omega), hl_up_ne _ _ _ (by omega)]⟩
          obtain ⟨I5, J5, e5, rm, f5, gj⟩ := hx_nx (d := d + 1) (N := N) (J := J) (I1 := hl_up (hl_up I1 90 P2.length (nI 43)) 85 22 0) (w := false) (f2.tq T1) (by rw [hl_up_a, if_pos rfl, if_neg (by omega), hl_up_ne _ _ _ (by omega)]; exact t10') te (hx_RC_22 rc2) hl_up_at
          have e5' : hl_call (d + 4) 171 [.ref 85] (hl_g N (hl_up (hl_up I1 90 P2.length (nI 43)) 85 22 0) J) = some (none, hl_g N I5 J5) := e5
          refine ⟨I5, J5, ?_, rm, hx_fM_tr f1.1 (hx_fM_tr f2 f5), gj⟩
          have p39 : ((hx_tk t L p).1 = 39) = False := eq_false (by omega)
          have p41 : ((hx_tk t L p).1 = 41) = False := eq_false (by omega)
          have p42 : ((hx_tk t L p).1 = 42) = True := eq_true c4.1
          have k1 : (42 : Int32) + 1 = nI 43 := by decide
          have bn : hl_inb (nI P2.length) 160 = true := hl_inb_nI (by omega) (by omega)
          have cq : (nI P2.length).toNatClampNeg = P2.length := hl_cq (by omega)
          have n10 : ¬ (1 : Int32) = 0 := by decide
          rw [decide_eq_false (show ¬ (hx_tk t L p).1 = 16 by omega), hl_tv_f] at e16
          rw [l3e, mve]
          simp only [hl_r190_27, hl_r190_28, hl_r190_31, hl_r190_32, hl_r190_33, hl_r190_36, hl_r190_39, hl_r190_40, hl_r190_41, hl_r190_44, hl_r190_45, hl_r190_46, hl_r190_49, hl_r190_52, hl_r190_53, hl_r190_56, hl_r190_58, hl_r190_61, hl_r190_63, hl_r190_65, hl_r190_68, hl_r190_69, hl_r190_71, hl_r190_73, hl_r190_75, hl_r190_78, hl_r190_81, hl_r190_84, hl_r190_86, hl_r190_88, hl_r190_91, hl_r190_92, hl_r190_93, hl_r190_96, hl_r190_97, hl_r190_98, hl_r190_101, hl_r190_102, hl_r190_103, hl_r190_106, hl_r190_107, hl_r190_108, hl_r190_111, hl_r190_112, hl_r190_113, hl_r190_116, hl_r190_118, hl_r190_120, hl_r190_123, hl_r190_124, hl_r190_126, hl_r190_127, hl_r190_130, hl_r190_131, hl_r190_134, hl_r190_137, hl_r190_138, hl_r190_141, hl_r190_143, hl_r190_146, hl_r190_148, hl_r190_150, hl_r190_153, hl_r190_154, hl_r190_157, hl_r190_160, hl_r190_161, hl_r190_164, hl_r190_166, hl_r190_169, hl_r190_171, hl_r190_173, hl_r190_176, hl_r190_177, hl_r190_178, hl_r190_181, hl_r190_182, hl_r190_185, hl_r190_186, hl_r190_188, hl_r190_189, hl_r190_190, hl_r190_191, hl_r190_192, hl_r190_193, hl_r190_196, hl_r190_199, hl_r190_200, hl_r190_201, hl_r190_202, hl_r190_205, hl_r190_206, hl_o_85, hl_p_85_3, hl_p_85_4, hl_p_85_5, hl_p_85_6, hl_p_85_19, hl_p_85_23, hl_p_85_24, hl_p_85_25, hl_p_85_26, hl_p_85_27, hl_p_85_28, hl_p_85_29, hl_p_85_30, hl_p_85_31, hl_p_85_33, hl_p_85_34, hl_p_85_35, hl_p_85_36, hl_p_85_37, hl_a_90, hl_z_90, n1, q39, p39, hx_v16, e16, n10, q41, p41, q42, p42, e1', k1, bn, cq, e5', hl_tl_s, hl_tl_n, hl_kill_i, hl_kill_r, hl_kill_n, hl_kill_l, hl_tl_s, hl_tl_n, hl_cal_some, hl_gI, hl_gJ, hl_gsI, hl_gsJ, hl_tv01, if_true, if_false, not_true, not_false_eq_true, hl_10, or_true, true_or]
        · rw [if_neg c4]
          refine ⟨fun y => absurd y (by show (10 : Nat) ≠ 0; omega), fun _ => ?_⟩
          have n10 : ¬ (1 : Int32) = 0 := by decide
          by_cases y39 : (hx_tk t L p).1 = 39
          · have p39 : ((hx_tk t L p).1 = 39) = True := eq_true y39
            have pm40 : (hx_mh P = 40) = False := eq_false (fun z => c1 ⟨y39, z⟩)
            have p41 : ((hx_tk t L p).1 = 41) = False := eq_false (by omega)
            have p42 : ((hx_tk t L p).1 = 42) = False := eq_false (by omega)
            rw [decide_eq_false (show ¬ (hx_tk t L p).1 = 16 by omega), hl_tv_f] at e16
            have s1 : hl_Run 190 (hl_call (d + 4)) 27 [.ref 85, .int (hl_tv b), .int (-1), .int l3, .int mv] [] (hl_g N I J) = hl_Run 190 (hl_call (d + 4)) 68 [.ref 85, .int (hl_tv b), .int (-1), .int l3, .int mv] [] (hl_g N I J) := by
              simp only [hl_r190_27, hl_r190_28, hl_r190_31, hl_r190_32, hl_r190_33, hl_r190_36, hl_r190_39, hl_r190_40, hl_r190_41, hl_r190_44, hl_r190_45, hl_r190_46, hl_r190_49, hl_r190_52, hl_r190_53, hl_r190_56, hl_r190_58, hl_r190_61, hl_r190_63, hl_r190_65, hl_o_85, hl_p_85_3, hl_p_85_4, hl_p_85_5, hl_p_85_6, hl_p_85_19, hl_p_85_23, hl_p_85_24, hl_p_85_25, hl_p_85_26, hl_p_85_27, hl_p_85_28, hl_p_85_29, hl_p_85_30, hl_p_85_31, hl_p_85_33, hl_p_85_34, hl_p_85_35, hl_p_85_36, hl_p_85_37, n1, q39, p39, m40, pm40, hl_kill_i, hl_kill_r, hl_kill_n, hl_kill_l, hl_tl_s, hl_tl_n, hl_cal_some, hl_gI, hl_gJ, hl_gsI, hl_gsJ, hl_tv01, if_true, if_false, not_true, not_false_eq_true, hl_10, or_true, true_or]
            rw [s1]
            simp only [hl_r190_68, hl_r190_69, hl_r190_71, hl_r190_73, hl_r190_75, hl_r190_78, hl_r190_81, hl_r190_84, hl_r190_86, hl_r190_88, hl_r190_91, hl_r190_92, hl_r190_93, hl_r190_96, hl_r190_97, hl_r190_98, hl_r190_101, hl_r190_102, hl_r190_103, hl_r190_106, hl_r190_107, hl_r190_108, hl_r190_111, hl_r190_112, hl_r190_113, hl_r190_116, hl_r190_118, hl_r190_120, hl_r190_123, hl_r190_124, hl_r190_126, hl_r190_127, hl_r190_130, hl_r190_131, hl_r190_134, hl_r190_137, hl_r190_138, hl_r190_141, hl_r190_143, hl_r190_146, hl_r190_148, hl_r190_150, hl_r190_153, hl_r190_154, hl_r190_157, hl_r190_160, hl_r190_161, hl_r190_164, hl_r190_166, hl_r190_169, hl_r190_171, hl_r190_173, hl_r190_176, hl_r190_177, hl_r190_178, hl_r190_181, hl_r190_182, hl_r190_185, hl_r190_186, hl_r190_188, hl_r190_189, hl_r190_190, hl_r190_191, hl_r190_192, hl_r190_193, hl_r190_196, hl_r190_199, hl_r190_200, hl_o_85, hl_p_85_3, hl_p_85_4, hl_p_85_5, hl_p_85_6, hl_p_85_19, hl_p_85_23, hl_p_85_24, hl_p_85_25, hl_p_85_26, hl_p_85_27, hl_p_85_28, hl_p_85_29, hl_p_85_30, hl_p_85_31, hl_p_85_33, hl_p_85_34, hl_p_85_35, hl_p_85_36, hl_p_85_37, hx_v16, e16, q41, p41, q42, p42, hl_tl_s, hl_kill_i, hl_kill_r, hl_kill_n, hl_kill_l, hl_tl_s, hl_tl_n, hl_cal_some, hl_gI, hl_gJ, hl_gsI, hl_gsJ, hl_tv01, if_true, if_false, not_true, not_false_eq_true, hl_10, or_true, true_or]
          · have p39 : ((hx_tk t L p).1 = 39) = False := eq_false y39
            have s1 : hl_Run 190 (hl_call (d + 4)) 27 [.ref 85, .int (hl_tv b), .int (-1), .int l3, .int mv] [] (hl_g N I J) = hl_Run 190 (hl_call (d + 4)) 68 [.ref 85, .int (hl_tv b), .int (-1), .int l3, .int mv] [] (hl_g N I J) := by
              simp only [hl_r190_27, hl_r190_28, hl_r190_31, hl_r190_32, hl_r190_33, hl_r190_36, hl_r190_39, hl_r190_40, hl_r190_41, hl_r190_44, hl_r190_45, hl_r190_46, hl_r190_49, hl_r190_52, hl_r190_53, hl_r190_56, hl_r190_58, hl_r190_61, hl_r190_63, hl_r190_65, hl_o_85, hl_p_85_3, hl_p_85_4, hl_p_85_5, hl_p_85_6, hl_p_85_19, hl_p_85_23, hl_p_85_24, hl_p_85_25, hl_p_85_26, hl_p_85_27, hl_p_85_28, hl_p_85_29, hl_p_85_30, hl_p_85_31, hl_p_85_33, hl_p_85_34, hl_p_85_35, hl_p_85_36, hl_p_85_37, n1, q39, p39, hl_kill_i, hl_kill_r, hl_kill_n, hl_kill_l, hl_tl_s, hl_tl_n, hl_cal_some, hl_gI, hl_gJ, hl_gsI, hl_gsJ, hl_tv01, if_true, if_false, not_true, not_false_eq_true, hl_10, or_true, true_or]
            rw [s1]
            have s2 : hl_Run 190 (hl_call (d + 4)) 68 [.ref 85, .int (hl_tv b), .int (-1), .int l3, .int mv] [] (hl_g N I J) = hl_Run 190 (hl_call (d + 4)) 137 [.ref 85, .int (hl_tv b), .int (-1), .int l3, .int mv] [] (hl_g N I J) := by
              by_cases y16 : (hx_tk t L p).1 = 16
              · have pm43 : (hx_mh P = 43) = False := eq_false (fun z => c2 ⟨y16, z⟩)
                rw [decide_eq_true y16, hl_tv_t] at e16
                simp only [hl_r190_68, hl_r190_69, hl_r190_71, hl_r190_73, hl_r190_75, hl_r190_78, hl_r190_81, hl_r190_84, hl_r190_86, hl_r190_88, hl_o_85, hl_p_85_3, hl_p_85_4, hl_p_85_5, hl_p_85_6, hl_p_85_19, hl_p_85_23, hl_p_85_24, hl_p_85_25, hl_p_85_26, hl_p_85_27, hl_p_85_28, hl_p_85_29, hl_p_85_30, hl_p_85_31, hl_p_85_33, hl_p_85_34, hl_p_85_35, hl_p_85_36, hl_p_85_37, hx_v16, e16, n10, m43, pm43, hl_tl_s, hl_kill_i, hl_kill_r, hl_kill_n, hl_kill_l, hl_tl_s, hl_tl_n, hl_cal_some, hl_gI, hl_gJ, hl_gsI, hl_gsJ, hl_tv01, if_true, if_false, not_true, not_false_eq_true, hl_10, or_true, true_or]
              · rw [decide_eq_false y16, hl_tv_f] at e16
                simp only [hl_r190_68, hl_r190_69, hl_r190_71, hl_r190_73, hl_r190_75, hl_r190_78, hl_r190_81, hl_r190_84, hl_r190_86, hl_r190_88, hl_o_85, hl_p_85_3, hl_p_85_4, hl_p_85_5, hl_p_85_6, hl_p_85_19, hl_p_85_23, hl_p_85_24, hl_p_85_25, hl_p_85_26, hl_p_85_27, hl_p_85_28, hl_p_85_29, hl_p_85_30, hl_p_85_31, hl_p_85_33, hl_p_85_34, hl_p_85_35, hl_p_85_36, hl_p_85_37, hx_v16, e16, hl_tl_s, hl_kill_i, hl_kill_r, hl_kill_n, hl_kill_l, hl_tl_s, hl_tl_n, hl_cal_some, hl_gI, hl_gJ, hl_gsI, hl_gsJ, hl_tv01, if_true, if_false, not_true, not_false_eq_true, hl_10, or_true, true_or]
            rw [s2]
            have s3 : hl_Run 190 (hl_call (d + 4)) 137 [.ref 85, .int (hl_tv b), .int (-1), .int l3, .int mv] [] (hl_g N I J) = hl_Run 190 (hl_call (d + 4)) 160 [.ref 85, .int (hl_tv b), .int (-1), .int l3, .int mv] [] (hl_g N I J) := by
              by_cases y41 : (hx_tk t L p).1 = 41
              · have p41 : ((hx_tk t L p).1 = 41) = True := eq_true y41
                by_cases ym : hx_mh P = 41
                · have pm41 : (hx_mh P = 41) = True := eq_true ym
                  have cf : hx_cd P = false := by
                    cases q : hx_cd P with
                    | true => exact absurd ⟨y41, ym, q⟩ c3
                    | false => rfl
                  rw [cf, hl_tv_f] at ec
                  simp only [hl_r190_137, hl_r190_138, hl_r190_141, hl_r190_143, hl_r190_146, hl_r190_148, hl_r190_150, hl_r190_153, hl_r190_154, hl_r190_157, hl_o_85, hl_p_85_3, hl_p_85_4, hl_p_85_5, hl_p_85_6, hl_p_85_19, hl_p_85_23, hl_p_85_24, hl_p_85_25, hl_p_85_26, hl_p_85_27, hl_p_85_28, hl_p_85_29, hl_p_85_30, hl_p_85_31, hl_p_85_33, hl_p_85_34, hl_p_85_35, hl_p_85_36, hl_p_85_37, q41, p41, m41, pm41, ec, hl_tl_s, hl_kill_i, hl_kill_r, hl_kill_n, hl_kill_l, hl_tl_s, hl_tl_n, hl_cal_some, hl_gI, hl_gJ, hl_gsI, hl_gsJ, hl_tv01, if_true, if_false, not_true, not_false_eq_true, hl_10, or_true, true_or]
                · have pm41 : (hx_mh P = 41) = False := eq_false ym
                  simp only [hl_r190_137, hl_r190_138, hl_r190_141, hl_r190_143, hl_r190_146, hl_r190_148, hl_r190_150, hl_r190_153, hl_r190_154, hl_r190_157, hl_o_85, hl_p_85_3, hl_p_85_4, hl_p_85_5, hl_p_85_6, hl_p_85_19, hl_p_85_23, hl_p_85_24, hl_p_85_25, hl_p_85_26, hl_p_85_27, hl_p_85_28, hl_p_85_29, hl_p_85_30, hl_p_85_31, hl_p_85_33, hl_p_85_34, hl_p_85_35, hl_p_85_36, hl_p_85_37, q41, p41, m41, pm41, hl_tl_s, hl_kill_i, hl_kill_r, hl_kill_n, hl_kill_l, hl_tl_s, hl_tl_n, hl_cal_some, hl_gI, hl_gJ, hl_gsI, hl_gsJ, hl_tv01, if_true, if_false, not_true, not_false_eq_true, hl_10, or_true, true_or]
              · have p41 : ((hx_tk t L p).1 = 41) = False := eq_false y41
                simp only [hl_r190_137, hl_r190_138, hl_r190_141, hl_r190_143, hl_r190_146, hl_r190_148, hl_r190_150, hl_r190_153, hl_r190_154, hl_r190_157, hl_o_85, hl_p_85_3, hl_p_85_4, hl_p_85_5, hl_p_85_6, hl_p_85_19, hl_p_85_23, hl_p_85_24, hl_p_85_25, hl_p_85_26, hl_p_85_27, hl_p_85_28, hl_p_85_29, hl_p_85_30, hl_p_85_31, hl_p_85_33, hl_p_85_34, hl_p_85_35, hl_p_85_36, hl_p_85_37, q41, p41, hl_tl_s, hl_kill_i, hl_kill_r, hl_kill_n, hl_kill_l, hl_tl_s, hl_tl_n, hl_cal_some, hl_gI, hl_gJ, hl_gsI, hl_gsJ, hl_tv01, if_true, if_false, not_true, not_false_eq_true, hl_10, or_true, true_or]
            rw [s3]
            by_cases y42 : (hx_tk t L p).1 = 42
            · have p42 : ((hx_tk t L p).1 = 42) = True := eq_true y42
              have pm42 : (hx_mh P = 42) = False := eq_false (fun z => c4 ⟨y42, z⟩)
              simp only [hl_r190_160, hl_r190_161, hl_r190_164, hl_r190_166, hl_r190_169, hl_r190_171, hl_r190_173, hl_r190_176, hl_r190_177, hl_r190_178, hl_r190_181, hl_r190_182, hl_r190_185, hl_r190_186, hl_r190_188, hl_r190_189, hl_r190_190, hl_r190_191, hl_r190_192, hl_r190_193, hl_r190_196, hl_r190_199, hl_r190_200, hl_o_85, hl_p_85_3, hl_p_85_4, hl_p_85_5, hl_p_85_6, hl_p_85_19, hl_p_85_23, hl_p_85_24, hl_p_85_25, hl_p_85_26, hl_p_85_27, hl_p_85_28, hl_p_85_29, hl_p_85_30, hl_p_85_31, hl_p_85_33, hl_p_85_34, hl_p_85_35, hl_p_85_36, hl_p_85_37, q42, p42, m42, pm42, hl_tl_s, hl_kill_i, hl_kill_r, hl_kill_n, hl_kill_l, hl_tl_s, hl_tl_n, hl_cal_some, hl_gI, hl_gJ, hl_gsI, hl_gsJ, hl_tv01, if_true, if_false, not_true, not_false_eq_true, hl_10, or_true, true_or]
            · have p42 : ((hx_tk t L p).1 = 42) = False := eq_false y42
              simp only [hl_r190_160, hl_r190_161, hl_r190_164, hl_r190_166, hl_r190_169, hl_r190_171, hl_r190_173, hl_r190_176, hl_r190_177, hl_r190_178, hl_r190_181, hl_r190_182, hl_r190_185, hl_r190_186, hl_r190_188, hl_r190_189, hl_r190_190, hl_r190_191, hl_r190_192, hl_r190_193, hl_r190_196, hl_r190_199, hl_r190_200, hl_o_85, hl_p_85_3, hl_p_85_4, hl_p_85_5, hl_p_85_6, hl_p_85_19, hl_p_85_23, hl_p_85_24, hl_p_85_25, hl_p_85_26, hl_p_85_27, hl_p_85_28, hl_p_85_29, hl_p_85_30, hl_p_85_31, hl_p_85_33, hl_p_85_34, hl_p_85_35, hl_p_85_36, hl_p_85_37, q42, p42, hl_tl_s, hl_kill_i, hl_kill_r, hl_kill_n, hl_kill_l, hl_tl_s, hl_tl_n, hl_cal_some, hl_gI, hl_gJ, hl_gsI, hl_gsJ, hl_tv01, if_true, if_false, not_true, not_false_eq_true, hl_10, or_true, true_or]
/-- behindOne -/
theorem hx_s190 (h : hx_RM t L x (p, P, C, true) I J) (hiv : hx_iv (p, P, C, true)) (hL : L ≤ 300) :
    ((hx_beh t L b p P C).1 = 0 → ∃ I' J', hl_call (d + 5) 190 [.ref 85, .int (hl_tv b)] (hl_g N I J) = some (some (.int 1), hl_g N I' J') ∧ hx_RM t L x (hx_beh t L b p P C).2 I' J' ∧ hx_fM x I I' ∧ hx_g85 J J') ∧
    ((hx_beh t L b p P C).1 ≠ 0 → hl_call (d + 5) 190 [.ref 85, .int (hl_tv b)] (hl_g N I J) = some (some (.int 0), hl_g N I J)) := by
  obtain ⟨l3, mv, st, hmv, hl3⟩ := hx_190a (d := d) (N := N) (b := b) h
  rw [st]
  cases hb : hx_bt b P (hx_tk t L p).1 with
  | none => exact hx_190n h hiv hL hb hmv hl3
  | some o =>
    rw [hx_beh_s hb]
    exact ⟨fun _ => hx_190s h hiv hL hb, fun y => absurd rfl y⟩
end HXRBEH
