/-! the parter's answer for a set of hours -/
def hl_hk (R : Nat → Bool) (m g : Nat) : Nat → Nat → Nat
  | 0, k => k
  | f + 1, k => if R (hl_nd m g (k + 1)) = true then hl_hk R m g f (k + 1) else k
theorem hl_hk_le {R : Nat → Bool} {m g : Nat} (f : Nat) : ∀ k, hl_hk R m g f k ≤ k + f := by
  induction f with
  | zero => intro k; exact Nat.le_refl k
  | succ f ih =>
    intro k
    unfold hl_hk
    split
    · have := ih (k + 1); omega
    · omega
/-- the cut's price, both networks -/
def hl_CT (B : Int) (m G cn : Nat) (gp : Nat → Int) (ga gb : Nat → Nat) (wt : Nat → Nat → Int) (S : Nat → Bool) : Int := hl_si G (fun g => hl_si m (hl_ch B m gp g S)) + hl_si cn (fun t => hl_si (m - 1) (hl_ct m (ga t) (gb t) (wt t) S))
/-- what the parter rests on -/
def hl_PH (N nh cn : Nat) (I : Nat → Nat → Int32) : Prop := (N ≤ 24 ∧ nh ≤ 4 ∧ cn ≤ 40) ∧ I 1 8 = nI nh ∧ I 11 3 = nI cn ∧ (∀ t, t < cn → ∃ a b, a < N ∧ b < N ∧ I 12 t = nI a ∧ I 13 t = nI b) ∧ (∀ c, c < N → ∃ q, q < 6 ∧ I 4 c = nI q) ∧ (∀ c h, c < N → h < nh → 0 ≤ (I 64 (4 * c + h)).toInt ∧ (I 64 (4 * c + h)).toInt ≤ 1000000000) ∧ ∀ t h h', t < cn → h < h' → h' < nh → 0 ≤ (I 14 t * (I 9 h' - I 9 h)).toInt ∧ (I 14 t * (I 9 h' - I 9 h)).toInt ≤ 100000
theorem hl_PH_f {N nh cn : Nat} {I I' : Nat → Nat → Int32} (h : hl_PH N nh cn I) (f : ∀ b, b < 68 → I' b = I b) : hl_PH N nh cn I' := by
  unfold hl_PH
  rw [f 1 (by omega), f 11 (by omega), f 12 (by omega), f 13 (by omega), f 4 (by omega), f 64 (by omega), f 14 (by omega), f 9 (by omega)]
  exact h
theorem hl_gr_f {I I' : Nat → Nat → Int32} (f : ∀ b, b < 68 → I' b = I b) (wh : Bool) (c : Nat) : hl_gr I' wh c = hl_gr I wh c := by unfold hl_gr; rw [f 4 (by omega)]
theorem hl_gq_f {I I' : Nat → Nat → Int32} (f : ∀ b, b < 68 → I' b = I b) (wh : Bool) (m : Nat) (al : Nat → Nat) (x y : Int32) (n q : Nat) : hl_gq I' wh m al x y n q = hl_gq I wh m al x y n q := by
  unfold hl_gq
  refine hl_si_congr n (fun c hc => ?_)
  rw [hl_gr_f f]
  unfold hl_cw
  rw [f 7 (by omega), f 64 (by omega)]
section HLSOL
variable {d N m G nh cn nd : Nat} {I I' : Nat → Nat → Int32} {J J' : Nat → Nat → Int64} {wh : Bool} {al : Nat → Nat} {x y : Int32}
theorem hl_l33 {g np : Nat} {sr ds : Nat → Nat} {D : Nat → Nat} (hL : hl_NL I nd np sr ds) (hD : ∀ u, u < nd → I 74 u = hl_di (D u)) (hle : ∀ u, u < nd → D u ≤ nd) (hm : I 68 6 = nI m) (hal : ∀ k, k < m → I 78 k = nI (al k) ∧ al k < 4) (h1 : 1 ≤ m) (h4 : m ≤ 4) (hg : g < G) (hG : G ≤ 24) (end_ : nd = 2 + G * (m - 1)) (f : Nat) : ∀ k, k + f = m - 1 → hl_Run 33 (hl_call (d + 2)) 2 [.ref 68, .int (nI g), .int (nI k)] [] (hl_g N I J) = some (some (.int (nI (al (hl_hk (hl_Rs nd D) m g f k)))), hl_g N I J) := by
  induction f with
  | zero =>
    intro k hk
    have c1 : nI m ≤ nI (k + 1) := nI_le (by omega) (by omega)
    have en : nI k + 1 = nI (k + 1) := (nI_succ k).symm
    have bk : hl_inb (nI k) 4 = true := hl_inb_nI (by omega) (by decide)
    simp only [hl_r33_2, hl_r33_3, hl_r33_4, hl_r33_5, hl_r33_6, hl_r33_9, hl_r33_36, hl_r33_37, hl_r33_40, hl_r33_41, hl_r33_42, hl_o_68, hl_p_68_0, hl_p_68_1, hl_p_68_2, hl_p_68_3, hl_p_68_4, hl_p_68_5, hl_a_78, hl_z_78, hm, en, c1, bk, hl_cq (show k < 10000 by omega), (hal k (by omega)).1, hl_hk, hl_kill_i, hl_kill_r, hl_kill_n, hl_kill_l, hl_tl_s, hl_tl_n, hl_cal_some, hl_gI, hl_gJ, hl_gsI, hl_gsJ, hl_tv01, if_true, if_false, hl_up_a, hl_row_a]
  | succ f ih =>
    intro k hk
    have c1 : ¬ nI m ≤ nI (k + 1) := nI_ge (by omega) (by omega)
    have en : nI k + 1 = nI (k + 1) := (nI_succ k).symm
    have bk : hl_inb (nI k) 4 = true := hl_inb_nI (by omega) (by decide)
    have s30 := hl_s30 (d := d + 1) (N := N) (J := J) (g := g) (k := k + 1) hm h4 (by omega) (by omega)
    have lt := hl_nd_lt (m := m) (k := k + 1) hg end_
    have s19 := hl_s19 (d := d) (N := N) (J := J) hL hD hle lt
    unfold hl_hk
    by_cases z : 0 < D (hl_nd m g (k + 1))
    · rw [decide_eq_true z] at s19
      rw [if_pos (hl_Rs_iff.mpr ⟨lt, z⟩), ← ih (k + 1) (by omega), hl_r33_2]
      simp only [hl_r33_3, hl_r33_4, hl_r33_5, hl_r33_6, hl_r33_9, hl_r33_12, hl_r33_13, hl_r33_16, hl_r33_17, hl_r33_18, hl_r33_19, hl_r33_20, hl_r33_21, hl_r33_24, hl_r33_27, hl_r33_30, hl_r33_33, hl_o_68, hl_p_68_0, hl_p_68_1, hl_p_68_2, hl_p_68_3, hl_p_68_4, hl_p_68_5, hl_o_69, hl_p_69_2, hl_p_69_3, hl_p_69_4, hl_p_69_5, hl_p_69_6, hl_p_69_7, hl_p_69_8, hl_p_69_9, hm, en, c1, s30, s19, hl_tv_t, hl_10, hl_kill_i, hl_kill_r, hl_kill_n, hl_kill_l, hl_tl_s, hl_tl_n, hl_cal_some, hl_gI, hl_gJ, hl_gsI, hl_gsJ, hl_tv01, if_true, if_false, hl_up_a, hl_row_a]
      try rw [hl_r33_2]
    · rw [decide_eq_false z] at s19
      rw [if_neg (fun q => z (hl_Rs_iff.mp q).2)]
      simp only [hl_r33_2, hl_r33_3, hl_r33_4, hl_r33_5, hl_r33_6, hl_r33_9, hl_r33_12, hl_r33_13, hl_r33_16, hl_r33_17, hl_r33_18, hl_r33_19, hl_r33_20, hl_r33_21, hl_r33_24, hl_r33_27, hl_r33_30, hl_r33_33, hl_r33_36, hl_r33_37, hl_r33_40, hl_r33_41, hl_r33_42, hl_o_68, hl_p_68_0, hl_p_68_1, hl_p_68_2, hl_p_68_3, hl_p_68_4, hl_p_68_5, hl_o_69, hl_p_69_2, hl_p_69_3, hl_p_69_4, hl_p_69_5, hl_p_69_6, hl_p_69_7, hl_p_69_8, hl_p_69_9, hl_a_78, hl_z_78, hm, en, c1, s30, s19, hl_tv_f, bk, hl_cq (show k < 10000 by omega), (hal k (by omega)).1, hl_kill_i, hl_kill_r, hl_kill_n, hl_kill_l, hl_tl_s, hl_tl_n, hl_cal_some, hl_gI, hl_gJ, hl_gsI, hl_gsJ, hl_tv01, if_true, if_false, hl_up_a, hl_row_a]
theorem hl_s33 {g np : Nat} {sr ds : Nat → Nat} {D : Nat → Nat} (hL : hl_NL I nd np sr ds) (hD : ∀ u, u < nd → I 74 u = hl_di (D u)) (hle : ∀ u, u < nd → D u ≤ nd) (hm : I 68 6 = nI m) (hal : ∀ k, k < m → I 78 k = nI (al k) ∧ al k < 4) (h1 : 1 ≤ m) (h4 : m ≤ 4) (hg : g < G) (hG : G ≤ 24) (end_ : nd = 2 + G * (m - 1)) : hl_call (d + 3) 33 [.ref 68, .int (nI g)] (hl_g N I J) = some (some (.int (nI (al (hl_hk (hl_Rs nd D) m g (m - 1) 0)))), hl_g N I J) := by
  rw [← hl_l33 (d := d) (N := N) (J := J) hL hD hle hm hal h1 h4 hg hG end_ (m - 1) 0 (by omega), hl_e33]
  simp only [hl_r33_0, hl_r33_1, hl_kill_i, hl_kill_r, hl_kill_n, hl_kill_l, hl_tl_s, hl_tl_n, hl_cal_some, hl_gI, hl_gJ, hl_gsI, hl_gsJ, hl_tv01, if_true, if_false, hl_up_a, hl_row_a]
  rfl
/-- chains -/
theorem hl_l26a {s0 wv : Int32} {gp : Nat → Int} (h4 : m ≤ 4) (hG : G ≤ (if N < 6 then 6 else N)) (hN : N ≤ 24) (end_ : nd = 2 + G * (m - 1)) (f : Nat) : ∀ (I : Nat → Nat → Int32) (J : Nat → Nat → Int64) (np g : Nat) (C : (Nat → Bool) → Int), g + f = G → np ≤ 8 * g → I 68 6 = nI m → hl_NW I J nd np C → (∀ q, q < G * 4 → (J 80 q).toInt = gp q ∧ 0 ≤ gp q ∧ gp q ≤ 100000000000) → ∃ I' J' np', np' ≤ 8 * G ∧ hl_Run 26 (hl_call (d + 3)) 50 [.ref 68, .int s0, .int wv, .int x, .int y, .int (nI G), .int (nI g), .null, .null] [] (hl_g N I J) = hl_Run 26 (hl_call (d + 3)) 69 [.ref 68, .int s0, .int wv, .int x, .int y, .int (nI G), .int (nI G), .null, .null] [] (hl_g N I' J') ∧ hl_NW I' J' nd np' (fun S => C S + (hl_si G (fun g => hl_si m (hl_ch 1000000000 m gp g S)) - hl_si g (fun g => hl_si m (hl_ch 1000000000 m gp g S)))) ∧ hl_fN I I' ∧ ∀ q, q ≠ 73 → J' q = J q := by
  have hZ : (if N < 6 then 6 else N) ≤ 24 := by split <;> omega
  induction f with
  | zero =>
    intro I J np g C hg hnp hm hW hgp
    obtain rfl : g = G := by omega
    refine ⟨I, J, np, hnp, ?_, hl_NW_eq hW (fun S => by rw [Int.sub_self, Int.add_zero]) rfl, hl_fN_rf I, fun _ _ => rfl⟩
    simp only [hl_r26_50, hl_r26_52, hl_r26_54, Int32.le_refl, hl_kill_i, hl_kill_r, hl_kill_n, hl_kill_l, hl_tl_s, hl_tl_n, hl_cal_some, hl_gI, hl_gJ, hl_gsI, hl_gsJ, hl_tv01, if_true, if_false, hl_up_a, hl_row_a]
  | succ f ih =>
    intro I J np g C hg hnp hm hW hgp
    have c1 : ¬ nI G ≤ nI g := nI_ge (by omega) (by omega)
    have en : nI g + 1 = nI (g + 1) := (nI_succ g).symm
    obtain ⟨I1, J1, e1, W1, f1, j1⟩ := hl_s31 (d := d) (N := N) (g := g) (G := G) h4 (by omega) (by omega) (by omega) hN end_ gp hm hW (by omega) (fun k hk => hgp (4 * g + k) (by omega))
    obtain ⟨I2, J2, np2, n2, e2, W2, f2, j2⟩ := ih I1 J1 (np + 2 * m) (g + 1) _ (by omega) (by omega) (by rw [f1 68 (by decide) (by decide) (by decide) (by decide)]; exact hm) W1 (fun q hq => by rw [j1 80 (by decide)]; exact hgp q hq)
    refine ⟨I2, J2, np2, n2, ?_, hl_NW_eq W2 (fun S => ?_) rfl, hl_fN_tr f1 f2, fun q hq => by rw [j2 q hq, j1 q hq]⟩
    · rw [← e2, hl_r26_50]
      simp only [hl_r26_52, hl_r26_54, hl_r26_57, hl_r26_58, hl_r26_60, hl_r26_63, hl_r26_66, hl_o_68, hl_p_68_0, hl_p_68_1, hl_p_68_2, hl_p_68_3, hl_p_68_4, hl_p_68_5, c1, e1, en, hl_kill_i, hl_kill_r, hl_kill_n, hl_kill_l, hl_tl_s, hl_tl_n, hl_cal_some, hl_gI, hl_gJ, hl_gsI, hl_gsJ, hl_tv01, if_true, if_false, hl_up_a, hl_row_a]
      try rw [hl_r26_50]
    · show C S + hl_si m (hl_ch 1000000000 m gp g S) + (_ - (hl_si g _ + hl_si m (hl_ch 1000000000 m gp g S))) = _
      omega
/-- ties -/
theorem hl_l26b {s0 : Int32} {l6 : Value} (hm1 : 1 ≤ m) (h4 : m ≤ nh) (hG : G ≤ 24) (end_ : nd = 2 + G * (m - 1)) (hGe : G = if wh = true then 6 else N) (hlt : ∀ j k, j < k → k < m → al j < al k) (hlh : ∀ k, k < m → al k < nh) (I0 : Nat → Nat → Int32) (f : Nat) : ∀ (I : Nat → Nat → Int32) (J : Nat → Nat → Int64) (np t : Nat) (C : (Nat → Bool) → Int), t + f = cn → np ≤ 192 + 6 * t → (∀ b, b < 68 → I b = I0 b) → hl_PH N nh cn I0 → I 68 6 = nI m → (∀ k, k < m → I 78 k = nI (al k) ∧ al k < 4) → hl_NW I J nd np C → ∃ I' J' np', hl_Run 26 (hl_call (d + 3)) 72 [.ref 68, .int s0, .int (hl_tv wh), .int x, .int y, .int (nI G), .int (nI t), .null, .null] [] (hl_g N I J) = hl_Run 26 (hl_call (d + 3)) 100 [.ref 68, .int s0, .int (hl_tv wh), .int x, .int y, .int (nI G), .int (nI cn), .null, .null] [] (hl_g N I' J') ∧ hl_NW I' J' nd np' (fun S => C S + (hl_si cn (fun t => hl_si (m - 1) (hl_ct m (hl_gr I0 wh (I0 12 t).toNatClampNeg) (hl_gr I0 wh (I0 13 t).toNatClampNeg) (fun k => (I0 14 t * (I0 9 (al (k + 1)) - I0 9 (al k))).toInt) S)) - hl_si t (fun t => hl_si (m - 1) (hl_ct m (hl_gr I0 wh (I0 12 t).toNatClampNeg) (hl_gr I0 wh (I0 13 t).toNatClampNeg) (fun k => (I0 14 t * (I0 9 (al (k + 1)) - I0 9 (al k))).toInt) S)))) ∧ hl_fN I I' ∧ ∀ q, q ≠ 73 → J' q = J q := by
  induction f with
  | zero =>
    intro I J np t C ht hnp fr hP hm hal hW
    obtain rfl : t = cn := by omega
    refine ⟨I, J, np, ?_, hl_NW_eq hW (fun S => by rw [Int.sub_self, Int.add_zero]) rfl, hl_fN_rf I, fun _ _ => rfl⟩
    have hc : I 11 3 = nI t := by rw [fr 11 (by omega)]; exact hP.2.2.1
    simp only [hl_r26_72, hl_r26_74, hl_r26_75, hl_r26_78, hl_r26_81, hl_r26_84, hl_o_68, hl_p_68_0, hl_p_68_1, hl_p_68_2, hl_p_68_3, hl_p_68_4, hl_p_68_5, hl_o_1, hl_p_1_0, hl_p_1_1, hl_p_1_2, hl_p_1_3, hl_p_1_4, hl_p_1_5, hl_p_1_6, hl_p_1_7, hl_p_1_9, hl_p_1_14, hl_p_1_15, hl_o_11, hl_p_11_0, hl_p_11_1, hl_p_11_2, hc, Int32.le_refl, hl_kill_i, hl_kill_r, hl_kill_n, hl_kill_l, hl_tl_s, hl_tl_n, hl_cal_some, hl_gI, hl_gJ, hl_gsI, hl_gsJ, hl_tv01, if_true, if_false, hl_up_a, hl_row_a]
  | succ f ih =>
    intro I J np t C ht hnp fr hP hm hal hW
    have hPI := hl_PH_f hP fr
    obtain ⟨⟨n24, n4, c40⟩, p1, p2, p3, p4, p5, p6⟩ := hPI
    obtain ⟨a, b, a1, b1, ta, tb⟩ := p3 t (by omega)
    obtain ⟨qa, qa1, qa2⟩ := p4 a a1
    obtain ⟨qb, qb1, qb2⟩ := p4 b b1
    have c1 : ¬ nI cn ≤ nI t := nI_ge (by omega) (by omega)
    have en : nI t + 1 = nI (t + 1) := (nI_succ t).symm
    have gl : ∀ c, c < N → hl_gr I wh c < G := fun c hc => by
      obtain ⟨q, q1, q2⟩ := p4 c hc
      unfold hl_gr
      rw [hGe]
      cases wh with
      | true => rw [if_pos rfl, if_pos rfl, q2, nIc (show q < 2 ^ 31 by omega)]; exact q1
      | false => rw [if_neg (by decide), if_neg (by decide)]; exact hc
    obtain ⟨I1, J1, np1, n1, e1, W1, f1, j1⟩ := hl_s32 (d := d) (N := N) (m := m) (G := G) (t := t) (a := a) (b := b) (wh := wh) (al := al) (wt := fun k => (I 14 t * (I 9 (al (k + 1)) - I 9 (al k))).toInt) (by omega) hm1 (gl a a1) (gl b b1) hG (by omega) n24 end_ ta tb a1 b1 qa1 qa2 qb1 qb2 hm hal (fun k hk => ⟨rfl, p6 t _ _ (by omega) (hlt k (k + 1) (by omega) hk) (hlh (k + 1) hk)⟩) hW (by omega)
    have fr1 : ∀ b, b < 68 → I1 b = I0 b := fun b hb => by rw [f1 b (by omega) (by omega) (by omega) (by omega), fr b hb]
    have f78 := f1 78 (by decide) (by decide) (by decide) (by decide)
    obtain ⟨I2, J2, np2, e2, W2, f2, j2⟩ := ih I1 J1 np1 (t + 1) _ (by omega) (by omega) fr1 hP (by rw [f1 68 (by decide) (by decide) (by decide) (by decide)]; exact hm) (fun k hk => by rw [f78]; exact hal k hk) W1
    refine ⟨I2, J2, np2, ?_, hl_NW_eq W2 (fun S => ?_) rfl, hl_fN_tr f1 f2, fun q hq => by rw [j2 q hq, j1 q hq]⟩
    · rw [← e2, hl_r26_72]
      simp only [hl_r26_74, hl_r26_75, hl_r26_78, hl_r26_81, hl_r26_84, hl_r26_87, hl_r26_88, hl_r26_90, hl_r26_91, hl_r26_94, hl_r26_97, hl_o_68, hl_p_68_0, hl_p_68_1, hl_p_68_2, hl_p_68_3, hl_p_68_4, hl_p_68_5, hl_o_1, hl_p_1_0, hl_p_1_1, hl_p_1_2, hl_p_1_3, hl_p_1_4, hl_p_1_5, hl_p_1_6, hl_p_1_7, hl_p_1_9, hl_p_1_14, hl_p_1_15, hl_o_11, hl_p_11_0, hl_p_11_1, hl_p_11_2, p2, c1, e1, en, hl_kill_i, hl_kill_r, hl_kill_n, hl_kill_l, hl_tl_s, hl_tl_n, hl_cal_some, hl_gI, hl_gJ, hl_gsI, hl_gsJ, hl_tv01, if_true, if_false, hl_up_a, hl_row_a]
      try rw [hl_r26_72]
    · have ea : hl_gr I wh a = hl_gr I0 wh (I0 12 t).toNatClampNeg := by rw [hl_gr_f fr, ← fr 12 (by omega), ta, nIc (by omega)]
      have eb : hl_gr I wh b = hl_gr I0 wh (I0 13 t).toNatClampNeg := by rw [hl_gr_f fr, ← fr 13 (by omega), tb, nIc (by omega)]
      rw [ea, eb, fr 14 (by omega), fr 9 (by omega)]
      generalize hfn : (fun t => hl_si (m - 1) (hl_ct m (hl_gr I0 wh (I0 12 t).toNatClampNeg) (hl_gr I0 wh (I0 13 t).toNatClampNeg) (fun k => (I0 14 t * (I0 9 (al (k + 1)) - I0 9 (al k))).toInt) S)) = fn
      have ef : hl_si (m - 1) (hl_ct m (hl_gr I0 wh (I0 12 t).toNatClampNeg) (hl_gr I0 wh (I0 13 t).toNatClampNeg) (fun k => (I0 14 t * (I0 9 (al (k + 1)) - I0 9 (al k))).toInt) S) = fn t := by rw [← hfn]
      rw [ef]
      show C S + fn t + (hl_si cn fn - (hl_si t fn + fn t)) = C S + (hl_si cn fn - hl_si t fn)
      omega
/-- hours -/
theorem hl_l26c {s0 : Int32} {l5 l6 l7 : Value} {np : Nat} {sr ds : Nat → Nat} {D : Nat → Nat} {F : Int64} (hle : ∀ u, u < nd → D u ≤ nd) (h1 : 1 ≤ m) (h4 : m ≤ 4) (hG : G ≤ 24) (hN : N ≤ 24) (end_ : nd = 2 + G * (m - 1)) (f : Nat) : ∀ (I : Nat → Nat → Int32) (c : Nat), c + f = N → hl_NL I nd np sr ds → (∀ u, u < nd → I 74 u = hl_di (D u)) → I 68 6 = nI m → (∀ k, k < m → I 78 k = nI (al k) ∧ al k < 4) → (∀ c, c < N → hl_gr I wh c < G ∧ ∃ q, q < 6 ∧ I 4 c = nI q) → ∃ I', hl_Run 26 (hl_call (d + 3)) 123 [.ref 68, .int s0, .int (hl_tv wh), .int x, .int y, l5, .long F, .null, .int (nI c)] [] (hl_g N I J) = some (some (.int F.toInt32), hl_g N I' J) ∧ (∀ b, b ≠ 79 → I' b = I b) ∧ (∀ j, j < c → I' 79 j = I 79 j) ∧ ∀ j, c ≤ j → j < N → I' 79 j = nI (al (hl_hk (hl_Rs nd D) m (hl_gr I wh j) (m - 1) 0)) := by
  have e0 : Int32.ofNat N = nI N := rfl
  induction f with
  | zero =>
    intro I c hc hL hD hm hal hgr
    obtain rfl : c = N := by omega
    refine ⟨I, ?_, fun _ _ => rfl, fun _ _ => rfl, fun j a b => by omega⟩
    simp only [hl_r26_123, hl_r26_125, hl_r26_126, hl_r26_129, hl_r26_130, hl_r26_133, hl_r26_134, hl_r26_137, hl_r26_139, hl_r26_140, hl_r26_141, hl_r26_143, hl_r26_144, hl_r26_147, hl_r26_150, hl_r26_151, hl_r26_154, hl_r26_157, hl_r26_159, hl_r26_160, hl_o_68, hl_p_68_0, hl_p_68_1, hl_p_68_2, hl_p_68_3, hl_p_68_4, hl_p_68_5, hl_a_79, hl_z_79, hl_l_79, e0, Int32.le_refl, hl_kill_i, hl_kill_r, hl_kill_n, hl_kill_l, hl_tl_s, hl_tl_n, hl_cal_some, hl_gI, hl_gJ, hl_gsI, hl_gsJ, hl_tv01, if_true, if_false, hl_up_a, hl_row_a]
  | succ f ih =>
    intro I c hc hL hD hm hal hgr
    have c1 : ¬ nI N ≤ nI c := nI_ge (by omega) (by omega)
    have en : nI c + 1 = nI (c + 1) := (nI_succ c).symm
    have bc : hl_inb (nI c) N = true := hl_inb_nI (by omega) (by omega)
    obtain ⟨gl, q, q1, q2⟩ := hgr c (by omega)
    have s28 := hl_s28 (d := d + 2) (N := N) (J := J) (b := wh) (c := c) (by omega) hN q1 q2
    have s33 := hl_s33 (d := d) (N := N) (J := J) hL hD hle hm hal h1 h4 gl hG end_
    generalize hv : nI (al (hl_hk (hl_Rs nd D) m (hl_gr I wh c) (m - 1) 0)) = v at s33
    have fr : ∀ b, b ≠ 79 → hl_up I 79 c v b = I b := fun b hb => hl_up_ne _ _ _ hb
    have grf : ∀ j, hl_gr (hl_up I 79 c v) wh j = hl_gr I wh j := fun j => by unfold hl_gr; rw [fr 4 (by decide)]
    obtain ⟨I1, e1, g1, g2, g3⟩ := ih (hl_up I 79 c v) (c + 1) (by omega) (hl_NL_f hL (fr 69 (by decide)) (fr 70 (by decide)) (fr 71 (by decide)) (fr 72 (by decide))) (fun u hu => by rw [fr 74 (by decide)]; exact hD u hu) (by rw [fr 68 (by decide)]; exact hm) (fun k hk => by rw [fr 78 (by decide)]; exact hal k hk) (fun j hj => by rw [grf, fr 4 (by decide)]; exact hgr j hj)
    refine ⟨I1, ?_, fun b hb => by rw [g1 b hb, fr b hb], fun j hj => by rw [g2 j (by omega), hl_up_a, if_pos rfl, if_neg (by omega)], fun j h1 h2 => ?_⟩
    · rw [← e1, hl_r26_123]
      simp only [hl_r26_125, hl_r26_126, hl_r26_129, hl_r26_130, hl_r26_133, hl_r26_134, hl_r26_137, hl_r26_139, hl_r26_140, hl_r26_141, hl_r26_143, hl_r26_144, hl_r26_147, hl_r26_150, hl_r26_151, hl_r26_154, hl_o_68, hl_p_68_0, hl_p_68_1, hl_p_68_2, hl_p_68_3, hl_p_68_4, hl_p_68_5, hl_a_79, hl_z_79, hl_l_79, e0, c1, s28, s33, bc, hl_cq (show c < 10000 by omega), en, hl_kill_i, hl_kill_r, hl_kill_n, hl_kill_l, hl_tl_s, hl_tl_n, hl_cal_some, hl_gI, hl_gJ, hl_gsI, hl_gsJ, hl_tv01, if_true, if_false, hl_up_a, hl_row_a]
      try rw [hl_r26_123]
    · by_cases z : j = c
      · rw [z, g2 c (by omega), hl_up_at, hv]
      · rw [g3 j (by omega) h2, grf]
end HLSOL
theorem hl_fs_le {S : Nat → Bool} {u v : Nat} {x B : Int} (h0 : 0 ≤ x) (h : x ≤ B) : 0 ≤ hl_fs S u v x ∧ hl_fs S u v x ≤ B := by unfold hl_fs; split <;> omega
theorem hl_CT_B {m G cn : Nat} {gp : Nat → Int} {ga gb : Nat → Nat} {wt : Nat → Nat → Int} {S : Nat → Bool} (h4 : m ≤ 4) (hG : G ≤ 24) (hcn : cn ≤ 40) (hgp : ∀ q, 0 ≤ gp q ∧ gp q ≤ 24000000000) (hwt : ∀ t k, t < cn → k + 1 < m → 0 ≤ wt t k ∧ wt t k ≤ 100000) : hl_CT 1000000000 m G cn gp ga gb wt S ≤ 1000000000000000 := by
  have b1 := hl_si_B (B := 100000000000) (f := fun g => hl_si m (hl_ch 1000000000 m gp g S)) G (fun g hg => by
    have := hl_si_B (B := 25000000000) (f := hl_ch 1000000000 m gp g S) m (fun k hk => by
      have q1 := hgp (4 * g + k)
      have a := hl_fs_le (S := S) (u := hl_nd m g k) (v := hl_nd m g (k + 1)) q1.1 q1.2
      have b := hl_fs_le (S := S) (u := hl_nd m g (k + 1)) (v := hl_nd m g k) (x := if 0 < k ∧ k + 1 < m then 1000000000 else 0) (B := 1000000000) (by split <;> omega) (by split <;> omega)
      unfold hl_ch
      omega)
    show 0 ≤ hl_si m (hl_ch 1000000000 m gp g S) ∧ hl_si m (hl_ch 1000000000 m gp g S) ≤ 100000000000
    omega)
  have b2 := hl_si_B (B := 1000000) (f := fun t => hl_si (m - 1) (hl_ct m (ga t) (gb t) (wt t) S)) cn (fun t ht => by
    have := hl_si_B (B := 200000) (f := hl_ct m (ga t) (gb t) (wt t) S) (m - 1) (fun k hk => by
      have q1 := hwt t k ht (by omega)
      have a := hl_fs_le (S := S) (u := hl_nd m (ga t) (k + 1)) (v := hl_nd m (gb t) (k + 1)) q1.1 q1.2
      have b := hl_fs_le (S := S) (u := hl_nd m (gb t) (k + 1)) (v := hl_nd m (ga t) (k + 1)) q1.1 q1.2
      unfold hl_ct
      split <;> omega)
    show 0 ≤ hl_si (m - 1) (hl_ct m (ga t) (gb t) (wt t) S) ∧ hl_si (m - 1) (hl_ct m (ga t) (gb t) (wt t) S) ≤ 1000000
    omega)
  unfold hl_CT
  omega
