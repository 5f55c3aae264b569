/-! the pair years -/
def hx_Pc (N nh : Nat) (I : Nat → Nat → Int32) : Prop := ∀ c, c < N → I 65 c = 0 ∨ (I 65 c = 1 ∧ ∀ h, h < nh → I 64 (4 * c + h) = hl_pay I c h)
/-- one year; some years -/
def hx_Kg (N cn : Nat) (K : Nat → Nat → Int32) : Nat → Nat → Int32 := hx_it K 1 (hx_gp K cn) N
def hx_Y1 (N nh cn : Nat) (an : Bool) (K K' : Nat → Nat → Int32) : Prop := (an = false ∧ K' = hx_Kg N cn K) ∨ (an = true ∧ ∃ p hr, hx_Sol N nh cn (hx_Kg N cn K) (nI (2 ^ nh - 1)) false (-1) (-1) p hr ∧ ((p = none ∧ K' = hx_Kg N cn K) ∨ (p ≠ none ∧ (∀ c, c < N → hr c < nh) ∧ K' = hx_it (hx_Kg N cn K) 6 (fun c => nI (hr c)) N)))
def hx_YN (N nh cn : Nat) (an : Bool) : Nat → (Nat → Nat → Int32) → (Nat → Nat → Int32) → Prop
  | 0, K, K' => K' = K
  | n + 1, K, K' => ∃ K1, hx_Y1 N nh cn an K K1 ∧ hx_YN N nh cn an n K1 K'
/-- what years may change on the class's side -/
def hx_fZ (I I' : Nat → Nat → Int32) : Prop := ∀ b, b ≠ 3 → b ≠ 8 → b ≠ 60 → b ≠ 61 → b ≠ 62 → b ≠ 64 → b ≠ 65 → (b < 68 ∨ 79 < b) → I' b = I b
/-- a land with its numbers of hours and ties -/
def hx_KK (N W H nh cn : Nat) (K : Nat → Nat → Int32) : Prop := hl_Co N W H K ∧ N ≤ 24 ∧ 0 < nh ∧ hl_Sv K 86 0 = (nh : Int) ∧ hl_Sv K 86 1 = (cn : Int)
section HXYEARS
variable {d N W H nh cn : Nat} {I I' I0 K K' : Nat → Nat → Int32} {J J' : Nat → Nat → Int64} {an : Bool}
theorem hx_KK_it {i : Nat} {f : Nat → Int32} (h : hx_KK N W H nh cn K) (hi : i < 7) (hf : ∀ c, c < N → hl_cr i (f c).toInt (nh : Int)) : hx_KK N W H nh cn (hx_it K i f N) := by
  obtain ⟨a, b, c, e, g⟩ := h
  have m := (hx_it_m (K := K) (i := i) (f := f) hi N).2
  refine ⟨hx_it_Co a b hi (fun c hc => by rw [e]; exact hf c hc) N (Nat.le_refl N), b, c, ?_, ?_⟩
  · unfold hl_Sv
    rw [m 0 (fun c _ => by omega)]
    exact e
  · unfold hl_Sv
    rw [m 1 (fun c _ => by omega)]
    exact g
theorem hx_KK_g (h : hx_KK N W H nh cn K) : hx_KK N W H nh cn (hx_Kg N cn K) := hx_KK_it h (by decide) (fun c _ => hx_gp_B c)
theorem hx_KK_6 {hr : Nat → Nat} (h : hx_KK N W H nh cn K) (hh : ∀ c, c < N → hr c < nh) : hx_KK N W H nh cn (hx_it K 6 (fun c => nI (hr c)) N) := hx_KK_it h (by decide) (fun c hc => by
  have n4 : nh ≤ 4 := by have := h.1.2.1.2.1.2; have := h.2.2.2.1; omega
  have := hh c hc
  show 0 ≤ (nI (hr c)).toInt ∧ ((nI (hr c)).toInt < (nh : Int) ∨ (nI (hr c)).toInt = 0)
  rw [hl_tI (by omega)]
  omega)
theorem hx_KK.y1 (h : hx_KK N W H nh cn K) (y : hx_Y1 N nh cn an K K') : hx_KK N W H nh cn K' := by
  have g := hx_KK_g h
  rcases y with ⟨-, e⟩ | ⟨-, p, hr, S, ⟨-, e⟩ | ⟨-, hh, e⟩⟩
  · rw [e]; exact g
  · rw [e]; exact g
  · rw [e]; exact hx_KK_6 g hh
theorem hx_KK.num (h : hx_KK N W H nh cn K) : nh ≤ 4 ∧ cn ≤ 40 ∧ K 1 8 = nI nh ∧ K 86 0 = nI nh ∧ K 11 3 = nI cn ∧ K 86 1 = nI cn := by
  obtain ⟨a, b, c, e, g⟩ := h
  obtain ⟨k, k1, k2, k3, k4⟩ := a.nh
  obtain ⟨q, q1, q2, q3, q4⟩ := a.cn
  obtain rfl : k = nh := by omega
  obtain rfl : q = cn := by omega
  exact ⟨k1, q1, k2, k3, q2, q3⟩
/-- refresh over the class's rows alone -/
theorem hx_s45 (hN : N ≤ 24) (hnh : nh ≤ 4) (hH : I 1 8 = nI nh) (hTB : hl_TB I) (ht : ∀ c, c < N → I 6 c = 0 ∨ I 6 c = 1) (hP : hx_Pc N nh I) : ∃ I', hl_call (d + 6) 45 [.ref 63] (hl_g N I J) = some (none, hl_g N I' J) ∧ hl_Fr N nh I I' := by
  obtain ⟨I', e, r1, r2, r3⟩ := hl_l45 (d := d) (J := J) hN hnh hH hTB ht hP N I 0 .null (by omega) ⟨hl_same_rf I, fun c hc => by omega, fun c h1 h2 => ⟨rfl, fun _ _ => rfl⟩⟩
  refine ⟨I', ?_, r1, r2⟩
  rw [hl_e45, hl_r45_0, hl_r45_1]
  exact e
theorem hx_s146 (hP : hl_PH N nh cn I) (hF : hx_Fp N nh I) (n0 : 0 < nh) (hM : I 0 2 = nI N) : ∃ I' J' p hr, hx_Sol N nh cn I (nI (2 ^ nh - 1)) false (-1) (-1) p hr ∧ hl_call (d + 5) 146 [.ref 0] (hl_g N I J) = some (none, hl_g N I' J') ∧ (p = none → I' 8 = I 8) ∧ (p ≠ none → (∀ c, c < N → hr c < nh) ∧ ∀ j, I' 8 j = if j < N then nI (hr j) else I 8 j) ∧ ∀ b, b ≠ 8 → (b < 68 ∨ 79 < b) → I' b = I b := by
  have n4 := hP.1.2.1
  have hN := hP.1.1
  have ch := hx_chs_all (show 1 ≤ nh by omega) n4
  have s141 := hx_s141 (d := d + 3) (N := N) (J := J) hP.2.1 n4
  obtain ⟨I1, J1, p, hr, S, e, r, f⟩ := hx_solve (d := d) (J := J) (wh := false) (x := -1) (y := -1) (s := nI (2 ^ nh - 1)) hP hF ch
  rw [hl_tv_f] at e
  have hM1 : I1 0 2 = nI N := by rw [f.1 0 (by omega)]; exact hM
  cases p with
  | none =>
    refine ⟨I1, J1, none, hr, S, ?_, fun _ => f.1 8 (by omega), fun q => absurd rfl q, fun b _ hb => f.1 b hb⟩
    rw [hx_oi_n] at e
    rw [hl_e146]
    simp only [hl_r146_0, hl_r146_1, hl_r146_4, hl_r146_5, hl_r146_8, hl_r146_9, hl_r146_10, hl_r146_11, hl_r146_14, hl_r146_15, hl_r146_18, hl_r146_19, hl_r146_22, hl_r146_25, hl_r146_26, hl_r146_27, hl_r146_30, hl_r146_33, hl_r146_34, hl_r146_35, hl_r146_38, hl_r146_41, hl_o_0, hl_p_0_3, hl_p_0_4, hl_p_0_5, hl_p_0_7, hl_p_0_8, hl_p_0_9, hl_p_0_10, hl_p_0_11, hl_p_0_12, hl_p_0_13, hl_p_0_14, hl_p_0_15, hl_o_68, hl_p_68_0, hl_p_68_1, hl_p_68_2, hl_p_68_3, hl_p_68_4, hl_p_68_5, s141, e, hl_kill_i, hl_kill_r, hl_kill_n, hl_kill_l, hl_tl_s, hl_tl_n, hl_cal_some, hl_gI, hl_gJ, hl_gsI, hl_gsJ, hl_tv01, if_true, if_false, hl_up_a, hl_row_a, not_true, not_false_eq_true]
  | some n =>
    have nB := hx_Sol_B S
    have n1 : ¬ nI n = -1 := hx_ni1 (by omega)
    rw [hx_oi_s] at e
    have e38 : hl_Run 146 (hl_call (d + 4)) 38 [.ref 0] [.int (nI N), .int 0, .ref 8, .int 0, .ref 79] (hl_g N I1 J1) = hl_Run 146 (hl_call (d + 4)) 41 [.ref 0] [] (hl_g N (hl_row I1 8 (va_cpy (I1 79) (I1 8) 0 0 N)) J1) := by
      simp only [hl_r146_38, hl_a_8, hl_z_8, hl_a_79, hl_z_79, hl_nn0, hl_nnN (show N < 2 ^ 31 by omega), hl_v0, nIc (show N < 2 ^ 31 by omega), Nat.zero_add, Nat.le_refl, not_false_eq_true, true_or, and_self, hl_gcp]
    refine ⟨hl_row I1 8 (va_cpy (I1 79) (I1 8) 0 0 N), J1, some n, hr, S, ?_, (fun q => by cases q), fun q => ⟨fun c hc => hx_Sol_h S q ch hc, fun j => ?_⟩, fun b h8 hb => by rw [hl_row_ne _ _ h8]; exact f.1 b hb⟩
    · rw [hl_e146]
      simp only [hl_r146_0, hl_r146_1, hl_r146_4, hl_r146_5, hl_r146_8, hl_r146_9, hl_r146_10, hl_r146_11, hl_r146_14, hl_r146_15, hl_r146_18, hl_r146_19, hl_r146_22, hl_r146_25, hl_r146_26, hl_r146_27, hl_r146_30, hl_r146_33, hl_r146_34, hl_r146_35, hl_o_0, hl_p_0_3, hl_p_0_4, hl_p_0_5, hl_p_0_7, hl_p_0_8, hl_p_0_9, hl_p_0_10, hl_p_0_11, hl_p_0_12, hl_p_0_13, hl_p_0_14, hl_p_0_15, hl_o_1, hl_p_1_0, hl_p_1_1, hl_p_1_2, hl_p_1_3, hl_p_1_4, hl_p_1_5, hl_p_1_6, hl_p_1_7, hl_p_1_9, hl_p_1_14, hl_p_1_15, hl_o_68, hl_p_68_0, hl_p_68_1, hl_p_68_2, hl_p_68_3, hl_p_68_4, hl_p_68_5, s141, e, n1, hM1, hl_kill_i, hl_kill_r, hl_kill_n, hl_kill_l, hl_tl_s, hl_tl_n, hl_cal_some, hl_gI, hl_gJ, hl_gsI, hl_gsJ, hl_tv01, if_true, if_false, hl_up_a, hl_row_a, not_true, not_false_eq_true]
      rw [e38]
      simp only [hl_r146_41]
    · rw [hl_row_a, if_pos rfl]
      unfold va_cpy
      by_cases z : j < N
      · rw [if_pos ⟨Nat.zero_le j, by omega⟩, if_pos z, Nat.sub_zero, Nat.zero_add]
        exact r q j z
      · rw [if_neg (by omega), if_neg z, f.1 8 (by omega)]
/-- the class's year -/
theorem hx_grown (h : hx_KK N W H nh cn K) (ag : ∀ b, b < 60 → I b = K b) (hP : hx_Pc N nh I) (G : hx_GS N N cn K I I') : (∀ b, b < 60 → I' b = hx_Kg N cn K b) ∧ hx_Pc N nh I' ∧ hx_fZ I I' := by
  obtain ⟨g1, g2, g3, g4⟩ := G
  refine ⟨fun b hb => ?_, fun c hc => ?_, fun b h1 h2 h3 h4 h5 h6 h7 h8 => g1 b h1 h3 h4 h5 h7⟩
  · by_cases z : b = 3
    · subst z
      funext j
      unfold hx_Kg
      rw [g2 j, hx_it_r (by decide)]
    · unfold hx_Kg
      rw [g1 b z (by omega) (by omega) (by omega) (by omega), hx_it_ne N b (by omega) (by omega), ag b hb]
  · rcases g3 c hc with q | ⟨q1, q2⟩
    · exact .inl q
    · rw [q1]
      rcases hP c hc with z | ⟨z1, z2⟩
      · exact .inl z
      · refine .inr ⟨z1, fun k hk => ?_⟩
        have pd : hl_PD I I' c := by
          refine ⟨?_, ?_, g1 9 (by omega) (by omega) (by omega) (by omega) (by omega), g1 10 (by omega) (by omega) (by omega) (by omega) (by omega), fun r h1 h2 => g1 r (by omega) (by omega) (by omega) (by omega) (by omega)⟩
          · rw [g1 1 (by omega) (by omega) (by omega) (by omega) (by omega)]; exact ⟨rfl, rfl, rfl⟩
          · rw [g1 2 (by omega) (by omega) (by omega) (by omega) (by omega), g1 4 (by omega) (by omega) (by omega) (by omega) (by omega), g1 5 (by omega) (by omega) (by omega) (by omega) (by omega), g1 6 (by omega) (by omega) (by omega) (by omega) (by omega)]
            refine ⟨rfl, ?_, rfl, rfl, rfl⟩
            rw [g2 c, if_pos hc, q2, ag 3 (by omega)]
        rw [g1 64 (by omega) (by omega) (by omega) (by omega) (by omega), pd.pay]
        exact z2 k hk
theorem hx_parted (h : hx_KK N W H nh cn K) (ag : ∀ b, b < 60 → I b = K b) (hP : hx_Pc N nh I) : ∃ I2 J2 I3 J3 p hr, hl_call (d + 6) 45 [.ref 63] (hl_g N I J) = some (none, hl_g N I2 J2) ∧ hl_call (d + 6) 146 [.ref 0] (hl_g N I2 J2) = some (none, hl_g N I3 J3) ∧ hx_Sol N nh cn K (nI (2 ^ nh - 1)) false (-1) (-1) p hr ∧ (p = none → ∀ b, b < 60 → I3 b = K b) ∧ (p ≠ none → (∀ c, c < N → hr c < nh) ∧ ∀ b, b < 60 → I3 b = hx_it K 6 (fun c => nI (hr c)) N b) ∧ hx_Pc N nh I3 ∧ hx_fZ I I3 := by
  have hN := h.2.1
  obtain ⟨n4, c40, k1, k2, k3, k4⟩ := h.num
  have hH : I 1 8 = nI nh := by rw [ag 1 (by omega)]; exact k1
  have hTB : hl_TB I := fun T cl hT hcl => by
    rw [ag (46 + 4 * T) (by omega), ag (47 + 4 * T) (by omega)]
    exact h.1.2.2.2.2.1 T cl hT hcl
  obtain ⟨I2, e2, F⟩ := hx_s45 (d := d) (J := J) hN n4 hH hTB (fun c hc => by rw [ag 6 (by omega)]; exact h.1.town hN hc) hP
  have ag2 : ∀ b, b < 60 → I2 b = K b := fun b hb => by rw [F.1 b (by omega) (by omega) (by omega) (by omega) (by omega), ag b hb]
  have pay2 : ∀ c h, hl_pay I2 c h = hl_pay I c h := fun c h => (F.tm.pd c).pay h
  have Fp2 : hx_Fp N nh I2 := fun c hc k hk => by rw [(F.2 c hc).2 k hk, pay2]
  have PH2 : hl_PH N nh cn I2 := by
    have tm : hl_Tm K (hl_row K 64 (I2 64)) := hl_Tm_row (by omega)
    have fp : hx_Fp N nh (hl_row K 64 (I2 64)) := fun c hc k hk => by
      rw [(tm.pd c).pay]
      show I2 64 (4 * c + k) = hl_pay K c k
      rw [Fp2 c hc k hk]
      exact (hl_PD_of (I := K) (I' := I2) (fun b hb => ag2 b (by omega)) c).pay k
    have e6 : hl_Sv (hl_row K 64 (I2 64)) 86 = hl_Sv K 86 := by
      funext j
      unfold hl_Sv
      rw [tm.2.2.2 86 (by omega) (by omega)]
    have g := hx_PH (hl_Co_t h.1 tm) fp hN (by rw [e6]; exact h.2.2.2.1) (by rw [tm.1 1 (by omega)]; exact k1) (by rw [e6]; exact h.2.2.2.2) (by rw [tm.1 11 (by omega)]; exact k3)
    have q : ∀ b, b < 60 → hl_row K 64 (I2 64) b = I2 b := fun b hb => by rw [tm.1 b hb, ag2 b hb]
    have q64 : hl_row K 64 (I2 64) 64 = I2 64 := by
      funext j
      rw [hl_row_a, if_pos rfl]
    unfold hl_PH at g ⊢
    rw [q 1 (by omega), q 11 (by omega), q 12 (by omega), q 13 (by omega), q 4 (by omega), q64, q 14 (by omega), q 9 (by omega)] at g
    exact g
  obtain ⟨I3, J3, p, hr, S, e3, r0, r1, f3⟩ := hx_s146 (d := d + 1) (J := J) PH2 Fp2 h.2.2.1 (by rw [ag2 0 (by omega)]; exact h.1.cM)
  refine ⟨I2, J, I3, J3, p, hr, e2, e3, hx_Sol_f S (fun b hb => (ag2 b hb).symm), fun q b hb => ?_, fun q => ⟨(r1 q).1, fun b hb => ?_⟩, fun c hc => ?_, fun b h1 h2 h3 h4 h5 h6 h7 h8 => ?_⟩
  · by_cases z : b = 8
    · rw [z, r0 q, ag2 8 (by omega)]
    · rw [f3 b z (by omega), ag2 b hb]
  · by_cases z : b = 8
    · subst z
      funext j
      rw [(r1 q).2 j, hx_it_r (i := 6) (by decide), ag2 8 (by omega)]
    · rw [f3 b z (by omega), ag2 b hb, hx_it_ne N b (by omega) (by omega)]
  · obtain ⟨a1, a2⟩ := F.2 c hc
    refine .inr ⟨by rw [f3 65 (by omega) (by omega)]; exact a1, fun k hk => ?_⟩
    rw [f3 64 (by omega) (by omega), a2 k hk, ← pay2]
    exact ((hl_PD_of (I := I2) (I' := I3) (fun b hb => f3 b (by omega) (by omega)) c).pay k).symm
  · rw [f3 b h2 h8, F.1 b h3 h4 h5 h6 h7]
theorem hx_fZ_tr {I1 I2 I3 : Nat → Nat → Int32} (h : hx_fZ I1 I2) (g : hx_fZ I2 I3) : hx_fZ I1 I3 := fun b h1 h2 h3 h4 h5 h6 h7 h8 => (g b h1 h2 h3 h4 h5 h6 h7 h8).trans (h b h1 h2 h3 h4 h5 h6 h7 h8)
theorem hx_l132 {n : Nat} (hn : n ≤ 60) (f : Nat) : ∀ (K I : Nat → Nat → Int32) (J : Nat → Nat → Int64) (i : Nat) (l4 : Value), i + f = n → hx_KK N W H nh cn K → (∀ b, b < 60 → I b = K b) → hx_Pc N nh I → ∃ K' I' J', hl_Run 132 (hl_call (d + 6)) 44 [.ref 0, .int (nI n), .int (hl_tv an), .int (nI i), l4] [] (hl_g N I J) = hl_Run 132 (hl_call (d + 6)) 74 [.ref 0, .int (nI n), .int (hl_tv an), .int (nI n), l4] [] (hl_g N I' J') ∧ hx_YN N nh cn an f K K' ∧ hx_KK N W H nh cn K' ∧ (∀ b, b < 60 → I' b = K' b) ∧ hx_Pc N nh I' ∧ hx_fZ I I' := by
  induction f with
  | zero =>
    intro K I J i l4 hi hK ag hP
    obtain rfl : i = n := by omega
    refine ⟨K, I, J, ?_, rfl, hK, ag, hP, fun _ _ _ _ _ _ _ _ _ => rfl⟩
    simp only [hl_r132_44, hl_r132_45, hl_r132_46, Int32.le_refl, hl_kill_i, hl_kill_r, hl_kill_n, hl_kill_l, hl_tl_s, hl_tl_n, hl_cal_some, hl_gI, hl_gJ, hl_gsI, hl_gsJ, hl_tv01, if_true, if_false, hl_up_a, hl_row_a, not_true, not_false_eq_true]
  | succ f ih =>
    intro K I J i l4 hi hK ag hP
    have c1 : ¬ nI n ≤ nI i := nI_ge (by omega) (by omega)
    have en : nI i + 1 = nI (i + 1) := (nI_succ i).symm
    obtain ⟨I1, e1, G⟩ := hx_s144 (d := d) (J := J) hK.1 hK.2.1 hK.2.2.2.1 hK.2.2.1 hK.2.2.2.2 ag
    obtain ⟨ag1, P1, z1⟩ := hx_grown hK ag hP G
    have hKg := hx_KK_g hK
    cases an with
    | false =>
      obtain ⟨K', I', J', e9, y9, k9, ag9, P9, z9⟩ := ih (hx_Kg N cn K) I1 J (i + 1) l4 (by omega) hKg ag1 P1
      refine ⟨K', I', J', ?_, ⟨hx_Kg N cn K, .inl ⟨rfl, rfl⟩, y9⟩, k9, ag9, P9, hx_fZ_tr z1 z9⟩
      rw [← e9, hl_r132_44]
      simp only [hl_r132_45, hl_r132_46, hl_r132_49, hl_r132_50, hl_r132_53, hl_r132_54, hl_r132_57, hl_r132_58, hl_r132_61, hl_r132_64, hl_r132_65, hl_r132_68, hl_r132_71, hl_o_0, hl_p_0_3, hl_p_0_4, hl_p_0_5, hl_p_0_7, hl_p_0_8, hl_p_0_9, hl_p_0_10, hl_p_0_11, hl_p_0_12, hl_p_0_13, hl_p_0_14, hl_p_0_15, c1, e1, hl_tl_n, hl_tv_f, en, hl_kill_i, hl_kill_r, hl_kill_n, hl_kill_l, hl_tl_s, hl_tl_n, hl_cal_some, hl_gI, hl_gJ, hl_gsI, hl_gsJ, hl_tv01, if_true, if_false, hl_up_a, hl_row_a, not_true, not_false_eq_true]
      try rw [hl_r132_44]
    | true =>
      obtain ⟨I2, J2, I3, J3, p, hr, e2, e3, S, r0, r1, P3, z3⟩ := hx_parted (d := d) (J := J) hKg ag1 P1
      have go : ∀ K1, hx_Y1 N nh cn true K K1 → (∀ b, b < 60 → I3 b = K1 b) → ∃ K' I' J', hl_Run 132 (hl_call (d + 6)) 44 [.ref 0, .int (nI n), .int (hl_tv true), .int (nI i), l4] [] (hl_g N I J) = hl_Run 132 (hl_call (d + 6)) 74 [.ref 0, .int (nI n), .int (hl_tv true), .int (nI n), l4] [] (hl_g N I' J') ∧ hx_YN N nh cn true (f + 1) K K' ∧ hx_KK N W H nh cn K' ∧ (∀ b, b < 60 → I' b = K' b) ∧ hx_Pc N nh I' ∧ hx_fZ I I' := fun K1 y1 a1 => by
        obtain ⟨K', I', J', e9, y9, k9, ag9, P9, z9⟩ := ih K1 I3 J3 (i + 1) l4 (by omega) (hK.y1 y1) a1 P3
        refine ⟨K', I', J', ?_, ⟨K1, y1, y9⟩, k9, ag9, P9, hx_fZ_tr z1 (hx_fZ_tr z3 z9)⟩
        rw [← e9, hl_r132_44]
        simp only [hl_r132_45, hl_r132_46, hl_r132_49, hl_r132_50, hl_r132_53, hl_r132_54, hl_r132_57, hl_r132_58, hl_r132_61, hl_r132_64, hl_r132_65, hl_r132_68, hl_r132_71, hl_o_0, hl_p_0_3, hl_p_0_4, hl_p_0_5, hl_p_0_7, hl_p_0_8, hl_p_0_9, hl_p_0_10, hl_p_0_11, hl_p_0_12, hl_p_0_13, hl_p_0_14, hl_p_0_15, hl_o_63, hl_p_63_0, hl_p_63_1, hl_p_63_2, hl_p_63_3, c1, e1, e2, e3, hl_tl_n, hl_tv_t, hl_10, en, hl_kill_i, hl_kill_r, hl_kill_n, hl_kill_l, hl_tl_s, hl_tl_n, hl_cal_some, hl_gI, hl_gJ, hl_gsI, hl_gsJ, hl_tv01, if_true, if_false, hl_up_a, hl_row_a, not_true, not_false_eq_true]
        try rw [hl_r132_44]
      cases p with
      | none => exact go _ (.inr ⟨rfl, none, hr, S, .inl ⟨rfl, rfl⟩⟩) (r0 rfl)
      | some q =>
        have nn : some q ≠ none := fun z => by cases z
        exact go _ (.inr ⟨rfl, some q, hr, S, .inr ⟨nn, (r1 nn).1, rfl⟩⟩) (r1 nn).2
end HXYEARS
