/-! a phase: flow from depth to depth -/
def hl_nE (D : Nat → Nat) (dead : Nat → Bool) (u : Nat) : Nat := if dead u = true then 75 else D u
def hl_lev (D : Nat → Nat) (sr ds : Nat → Nat) (p : Nat) : Prop := 0 < D (sr p) ∧ D (ds p) = D (sr p) + 1
def hl_ub (D : Nat → Nat) (dead : Nat → Bool) (sr ds : Nat → Nat) (r : Nat → Int) (p : Nat) : Prop := 0 < r p ∧ hl_lev D sr ds p ∧ dead (ds p) = false
def hl_pnd (P ds : Nat → Nat) : Nat → Nat
  | 0 => 0
  | j + 1 => ds (P j)
theorem hl_pnd_congr {P P' ds : Nat → Nat} (n : Nat) (h : ∀ j, j < n → P' j = P j) : hl_pnd P' ds n = hl_pnd P ds n := by
  cases n with
  | zero => rfl
  | succ n => show ds (P' n) = ds (P n); rw [h n (by omega)]
/-- what only turns forward in a phase -/
def hl_jv1 (np : Nat) (sr ds : Nat → Nat) (r0 : Nat → Int) (D : Nat → Nat) (r : Nat → Int) : Prop := ∀ p, p < np → 0 < r p → 0 < r0 p ∨ (0 < D (ds p) ∧ D (sr p) = D (ds p) + 1)
def hl_jv2 (np : Nat) (sr ds : Nat → Nat) (D : Nat → Nat) (r : Nat → Int) (dead : Nat → Bool) (P : Nat → Nat) (len : Nat) : Prop := ∀ j, j < len → P j < np ∧ sr (P j) = hl_pnd P ds j ∧ D (sr (P j)) = j + 1 ∧ D (ds (P j)) = j + 2 ∧ 0 < r (P j) ∧ dead (sr (P j)) = false ∧ sr (P j) ≠ 1
def hl_jv4 (np nd : Nat) (sr ds : Nat → Nat) (D : Nat → Nat) (r : Nat → Int) (dead : Nat → Bool) (K : Nat → Nat) : Prop := ∀ u, u < nd → K u ≤ np ∧ ∀ p, K u ≤ p → p < np → sr p = u → ¬ hl_ub D dead sr ds r p
def hl_jv5 (np : Nat) (sr ds : Nat → Nat) (D : Nat → Nat) (r : Nat → Int) (dead : Nat → Bool) : Prop := ∀ u, dead u = true → (∀ p, p < np → sr p = u → ¬ hl_ub D dead sr ds r p) ∧ u ≠ 0 ∧ u ≠ 1
def hl_ph (np nd : Nat) (sr ds : Nat → Nat) (D : Nat → Nat) (r : Nat → Int) (dead : Nat → Bool) (len : Nat) : Nat := 75 * hl_cnt (fun p => decide (0 < r p) && (decide (0 < D (sr p)) && decide (D (ds p) = D (sr p) + 1))) np + 75 * hl_cnt (fun u => !dead u) nd + (74 - len)
section HLPHASE
variable {d N : Nat} {I I' : Nat → Nat → Int32} {J J' : Nat → Nat → Int64} {nd np : Nat} {sr ds : Nat → Nat} {r r0 : Nat → Int} {D : Nat → Nat} {dead : Nat → Bool} {K P : Nat → Nat} {len node : Nat}
/-- a path is short -/
theorem hl_short (hds : ∀ p, p < np → ds p < nd ∧ sr p < nd) (h2 : 2 ≤ nd) (hi2 : hl_jv2 np sr ds D r dead P len) : len ≤ nd - 1 := by
  refine hl_pig (nd - 1) len (fun j => if sr (P j) = 0 then 0 else sr (P j) - 1) (fun j hj => ?_) (fun i j hi hj e => ?_)
  · have a := hi2 j hj
    have b := (hds (P j) a.1).2
    have c := a.2.2.2.2.2.2
    split <;> omega
  · have a := hi2 i hi
    have b := hi2 j hj
    have c := a.2.2.2.2.2.2
    have c' := b.2.2.2.2.2.2
    have e2 : sr (P i) = sr (P j) := by
      by_cases z1 : sr (P i) = 0 <;> by_cases z2 : sr (P j) = 0
      · omega
      · rw [if_pos z1, if_neg z2] at e; omega
      · rw [if_neg z1, if_pos z2] at e; omega
      · rw [if_neg z1, if_neg z2] at e; omega
    have d1 := a.2.2.1
    have d2 := b.2.2.1
    rw [e2] at d1
    omega
theorem hl_short2 (hds : ∀ p, p < np → ds p < nd ∧ sr p < nd) (h2 : 2 ≤ nd) (hi2 : hl_jv2 np sr ds D r dead P len) (hn : node = hl_pnd P ds len) (hD : D node = len + 1) (hlt : node < nd) (h1 : node ≠ 1) : len + 1 ≤ nd - 1 := by
  have at_ : ∀ j, j ≤ len → hl_pnd P ds j < nd ∧ hl_pnd P ds j ≠ 1 ∧ D (hl_pnd P ds j) = j + 1 := fun j hj => by
    by_cases z : j = len
    · subst z; rw [← hn]; exact ⟨hlt, h1, hD⟩
    · have a := hi2 j (by omega)
      rw [← a.2.1]
      exact ⟨(hds _ a.1).2, a.2.2.2.2.2.2, a.2.2.1⟩
  refine hl_pig (nd - 1) (len + 1) (fun j => if hl_pnd P ds j = 0 then 0 else hl_pnd P ds j - 1) (fun j hj => ?_) (fun i j hi hj e => ?_)
  · obtain ⟨a, b, -⟩ := at_ j (by omega)
    split <;> omega
  · obtain ⟨a, b, c⟩ := at_ i (by omega)
    obtain ⟨a', b', c'⟩ := at_ j (by omega)
    have e2 : hl_pnd P ds i = hl_pnd P ds j := by
      by_cases z1 : hl_pnd P ds i = 0 <;> by_cases z2 : hl_pnd P ds j = 0
      · omega
      · rw [if_pos z1, if_neg z2] at e; omega
      · rw [if_neg z1, if_pos z2] at e; omega
      · rw [if_neg z1, if_neg z2] at e; omega
    rw [e2] at c
    omega
/-- rooms along a path -/
theorem hl_pa_all {x : Int} (hx : 0 ≤ x) (hPr : hl_Pr np sr ds) (hi2 : hl_jv2 np sr ds D r dead P len) (i : Nat) (hi : i ≤ len) : (∀ j, i ≤ j → j < len → hl_pa P x r i (P j) = r (P j)) ∧ (∀ j, j < i → hl_pa P x r i (P j) = r (P j) - x) ∧ (∀ q, q < np → hl_lev D sr ds q → hl_pa P x r i q ≤ r q) ∧ (∀ q, q < np → 0 < hl_pa P x r i q → 0 < r q ∨ (0 < D (ds q) ∧ D (sr q) = D (ds q) + 1)) ∧ ∀ S, hl_fM np sr ds (hl_pa P x r i) S = hl_fM np sr ds r S - x * (hl_sg S 0 - hl_sg S (hl_pnd P ds i)) := by
  induction i with
  | zero => exact ⟨fun _ _ _ => rfl, fun j hj => by omega, fun _ _ _ => Int.le_refl _, fun q _ h => .inl h, fun S => by show _ = _ - x * (hl_sg S 0 - hl_sg S 0); rw [Int.sub_self, Int.mul_zero, Int.sub_zero]; rfl⟩
  | succ i ih =>
    obtain ⟨a, b, c, e, f⟩ := ih (by omega)
    obtain ⟨p1, p2, p3, p4, p5, p6, p7⟩ := hi2 i (by omega)
    obtain ⟨w1, w2⟩ := hPr.2 (P i) p1
    have pl := hl_pe_lt p1 hPr.1
    have pne := hl_pe_ne (P i)
    have step : ∀ q, hl_pa P x r (i + 1) q = if q = hl_pe (P i) then hl_pa P x r i (hl_pe (P i)) + x else if q = P i then hl_pa P x r i (P i) - x else hl_pa P x r i q := fun q => rfl
    have nPP : ∀ j, j < len → P j ≠ hl_pe (P i) := fun j hj z => by
      obtain ⟨-, -, q3, q4, -⟩ := hi2 j hj
      rw [z, w1] at q3
      rw [z, w2] at q4
      omega
    have nP : ∀ j, j < len → j ≠ i → P j ≠ P i := fun j hj hji z => by
      obtain ⟨-, -, q3, -⟩ := hi2 j hj
      rw [z] at q3
      omega
    refine ⟨fun j h1 h2 => ?_, fun j hj => ?_, fun q hq hl => ?_, fun q hq h => ?_, fun S => ?_⟩
    · rw [step, if_neg (nPP j h2), if_neg (nP j h2 (by omega))]
      exact a j (by omega) h2
    · rw [step, if_neg (nPP j (by omega))]
      by_cases z : j = i
      · subst z
        rw [if_pos rfl, a j (Nat.le_refl j) (by omega)]
      · rw [if_neg (nP j (by omega) z)]
        exact b j (by omega)
    · rw [step]
      by_cases z1 : q = hl_pe (P i)
      · subst z1
        have l2 := hl.2
        rw [w1, w2] at l2
        omega
      · rw [if_neg z1]
        by_cases z2 : q = P i
        · subst z2
          rw [if_pos rfl]
          have := c (P i) hq hl
          omega
        · rw [if_neg z2]; exact c q hq hl
    · rw [step] at h
      by_cases z1 : q = hl_pe (P i)
      · subst z1
        refine .inr ?_
        rw [w1, w2, p3, p4]
        omega
      · rw [if_neg z1] at h
        by_cases z2 : q = P i
        · subst z2; exact .inl p5
        · rw [if_neg z2] at h; exact e q hq h
    · show hl_fM np sr ds (hl_ag (hl_pa P x r i) (P i) (hl_pe (P i)) x) S = _
      rw [hl_fM_ag p1 pl pne w1 w2, f S, p2]
      show hl_fM np sr ds r S - x * (hl_sg S 0 - hl_sg S (hl_pnd P ds i)) - x * (hl_sg S (hl_pnd P ds i) - hl_sg S (ds (P i))) = hl_fM np sr ds r S - x * (hl_sg S 0 - hl_sg S (ds (P i)))
      have : x * (hl_sg S 0 - hl_sg S (ds (P i))) = x * (hl_sg S 0 - hl_sg S (hl_pnd P ds i)) + x * (hl_sg S (hl_pnd P ds i) - hl_sg S (ds (P i))) := by
        rw [← Int.mul_add]
        congr 1
        omega
      omega
theorem hl_ub_mono {r' : Nat → Int} {dead' : Nat → Bool} {p : Nat} (hr : hl_lev D sr ds p → r' p ≤ r p) (hd : ∀ u, dead u = true → dead' u = true) (h : hl_ub D dead' sr ds r' p) : hl_ub D dead sr ds r p := by
  obtain ⟨h1, h2, h3⟩ := h
  refine ⟨by have := hr h2; omega, h2, ?_⟩
  cases z : dead (ds p) with
  | false => rfl
  | true => rw [hd _ z] at h3; cases h3
/-- the class's rows in a phase -/
def hl_PM (I : Nat → Nat → Int32) (J : Nat → Nat → Int64) (nd np : Nat) (sr ds : Nat → Nat) (r : Nat → Int) (D : Nat → Nat) (dead : Nat → Bool) (K P : Nat → Nat) (len : Nat) : Prop := hl_NL I nd np sr ds ∧ hl_Rm J np r ∧ (∀ u, u < nd → I 74 u = hl_di (hl_nE D dead u)) ∧ (∀ u, u < nd → I 75 u = hl_lst sr u (K u)) ∧ ∀ j, j < len → I 77 j = nI (P j)
def hl_fP (I I' : Nat → Nat → Int32) : Prop := ∀ b, b ≠ 74 → b ≠ 75 → b ≠ 77 → I' b = I b
theorem hl_fP_tr {I1 I2 I3 : Nat → Nat → Int32} (h : hl_fP I1 I2) (g : hl_fP I2 I3) : hl_fP I1 I3 := fun b h1 h2 h3 => (g b h1 h2 h3).trans (h b h1 h2 h3)
/-- what a phase leaves -/
def hl_pE (np : Nat) (sr ds : Nat → Nat) (r0 : Nat → Int) (D : Nat → Nat) (r : Nat → Int) : Prop := hl_jv1 np sr ds r0 D r ∧ ∃ dead : Nat → Bool, dead 1 = false ∧ ∀ u, (u = 0 ∨ dead u = true) → ∀ p, p < np → sr p = u → ¬ hl_ub D dead sr ds r p
theorem hl_l22 {S0 : Nat → Bool} (hPr : hl_Pr np sr ds) (hD0 : D 0 = 1) (hDle : ∀ u, u < nd → D u ≤ nd) (s0 : S0 0 = true) (s1 : S0 1 = false) (m : Nat) : ∀ (I : Nat → Nat → Int32) (J : Nat → Nat → Int64) (r : Nat → Int) (dead : Nat → Bool) (K P : Nat → Nat) (len node : Nat) (fl : Int64) (i : Nat) (l6 : Value), hl_PM I J nd np sr ds r D dead K P len → hl_jv1 np sr ds r0 D r → hl_jv2 np sr ds D r dead P len → node = hl_pnd P ds len → D node = len + 1 → dead node = false → node < nd → hl_jv4 np nd sr ds D r dead K → hl_jv5 np sr ds D r dead → hl_ph np nd sr ds D r dead len ≤ m → i + m < 1000000 → 0 ≤ fl.toInt → fl.toInt + hl_fM np sr ds r S0 ≤ 1000000000000000 → ∃ I' J' r' fl', hl_Run 22 (hl_call (d + 1)) 10 [.ref 69, .long fl, .null, .int (nI len), .int (nI node), .int (nI i), l6] [] (hl_g N I J) = some (some (.long fl'), hl_g N I' J') ∧ fl.toInt ≤ fl'.toInt ∧ (∀ S, hl_fM np sr ds r' S = hl_fM np sr ds r S - (fl'.toInt - fl.toInt) * (hl_sg S 0 - hl_sg S 1)) ∧ hl_NL I' nd np sr ds ∧ hl_Rm J' np r' ∧ hl_pE np sr ds r0 D r' ∧ hl_fP I I' ∧ ∀ q, q ≠ 73 → J' q = J q := by
  induction m with
  | zero =>
    intro I J r dead K P len node fl i l6 hM h1 h2 hn hDn hdn hlt h4 h5 hph hi hfl hbd
    -- the measure is not 0
    exfalso
    have n2 := hM.1.1.1
    have c := hl_cnt_lt (p := fun _ => false) (q := fun u => !dead u) nd (fun _ _ h => by cases h) (d := 0) (by omega) rfl (by
      show (!dead 0) = true
      cases z : dead 0 with
      | false => rfl
      | true => exact absurd rfl (h5 0 z).2.1)
    unfold hl_ph at hph
    omega
  | succ m ih =>
    intro I J r dead K P len node fl i l6 hM h1 h2 hn hDn hdn hlt h4 h5 hph hi hfl hbd
    have hM' := hM
    obtain ⟨hL, hR, m74, m75, m77⟩ := hM
    have hL' := hL
    obtain ⟨⟨n2, n74, n432⟩, h0, hnp, h72, h70, h71⟩ := hL
    have hds : ∀ p, p < np → ds p < nd ∧ sr p < nd := fun p hp => (h72 p hp).2
    have c1 : ¬ (1000000 : Int32) ≤ nI i := show ¬ nI 1000000 ≤ nI i from nI_ge (by omega) (by omega)
    have en : nI i + 1 = nI (i + 1) := (nI_succ i).symm
    by_cases hs : node = 1
    · -- at the sink: flow along the path
      have len0 : 0 < len := by
        cases len with
        | zero => rw [hn] at hs; cases hs
        | succ len => omega
      have lsh := hl_short hds n2 h2
      generalize hx : hl_pmn P r len = x
      obtain ⟨jm, jm1, jm2⟩ := hl_pmn_ex (P := P) (r := r) (len - 1) (fun j hj => by
        obtain ⟨-, q2, q3⟩ := hR (P j) (h2 j (by omega)).1
        obtain ⟨-, q4, q5⟩ := hR (hl_pe (P j)) (hl_pe_lt (h2 j (by omega)).1 hPr.1)
        omega)
      rw [show len - 1 + 1 = len by omega] at jm1 jm2
      rw [hx] at jm2
      have xpos : 0 < x := by rw [jm2]; exact (h2 jm jm1).2.2.2.2.1
      obtain ⟨a, b, c, e, f⟩ := hl_pa_all (x := x) (by omega) hPr h2 len (Nat.le_refl len)
      obtain ⟨J1, fx, e24, f24, R24, g24⟩ := hl_s24 (d := d) (N := N) (I := I) (P := P) hR len0 (by omega) n432 hPr.1 (fun j hj => ⟨(h2 j hj).1, m77 j hj⟩) (fun j hj => by
        rw [hx]
        obtain ⟨a', -⟩ := hl_pa_all (x := x) (by omega) hPr h2 j (by omega)
        rw [a' j (Nat.le_refl j) hj, ← hx]
        exact hl_pmn_le len j hj)
      rw [hx] at f24 R24
      have endn : hl_pnd P ds len = 1 := by rw [← hn]; exact hs
      have f0 := f S0
      rw [endn] at f0
      have sg0 : hl_sg S0 0 - hl_sg S0 1 = 1 := by unfold hl_sg; rw [s0, s1]; rfl
      rw [sg0, Int.mul_one] at f0
      have nn := hl_fM_nn (sr := sr) (ds := ds) (S := S0) (r := hl_pa P x r len) (n := np) (fun q hq => (R24 q hq).2.1)
      have efl : (fl + fx).toInt = fl.toInt + x := by rw [Int64.toInt_add, f24, Int.bmod_eq_of_le (by omega) (by omega)]
      -- the measure falls
      have alive : hl_cnt (fun p => decide (0 < hl_pa P x r len p) && (decide (0 < D (sr p)) && decide (D (ds p) = D (sr p) + 1))) np < hl_cnt (fun p => decide (0 < r p) && (decide (0 < D (sr p)) && decide (D (ds p) = D (sr p) + 1))) np := by
        obtain ⟨q1, q2, q3, q4, q5, -⟩ := h2 jm jm1
        refine hl_cnt_lt np (fun q hq h => ?_) q1 ?_ ?_
        · rw [Bool.and_eq_true, Bool.and_eq_true, decide_eq_true_eq, decide_eq_true_eq, decide_eq_true_eq] at h ⊢
          have := c q hq ⟨h.2.1, h.2.2⟩
          exact ⟨by omega, h.2⟩
        · rw [b jm jm1, jm2, Int.sub_self]
          rfl
        · rw [Bool.and_eq_true, Bool.and_eq_true, decide_eq_true_eq, decide_eq_true_eq, decide_eq_true_eq]
          exact ⟨q5, by omega, by omega⟩
      have hph' : hl_ph np nd sr ds D (hl_pa P x r len) dead 0 ≤ m := by
        unfold hl_ph at hph ⊢
        omega
      obtain ⟨I2, J2, r2, fl2, e2, g1, g2, g3, g4, g5, g6, g7⟩ := ih I J1 (hl_pa P x r len) dead K P 0 0 (fl + fx) (i + 1) l6 ⟨hL', R24, m74, m75, fun j hj => by omega⟩ (fun p hp h => by
        rcases e p hp h with z | z
        · exact h1 p hp z
        · exact .inr z) (fun j hj => by omega) rfl hD0 (by
          cases z : dead 0 with
          | false => rfl
          | true => exact absurd rfl (h5 0 z).2.1) (by omega) (fun u hu => ⟨(h4 u hu).1, fun p p1 p2 p3 p4 => (h4 u hu).2 p p1 p2 p3 (hl_ub_mono (c p p2) (fun _ h => h) p4)⟩) (fun u hu => ⟨fun p p1 p2 p3 => (h5 u hu).1 p p1 p2 (hl_ub_mono (c p p1) (fun _ h => h) p3), (h5 u hu).2⟩) hph' (by omega) (by omega) (by rw [efl]; omega)
      refine ⟨I2, J2, r2, fl2, ?_, by omega, fun S => ?_, g3, g4, g5, g6, fun q hq => by rw [g7 q hq, g24 q hq]⟩
      · rw [← e2, hs, hl_r22_10]
        have k1 : nI 1 = 1 := rfl
        simp only [hl_r22_12, hl_r22_14, hl_r22_17, hl_r22_19, hl_r22_20, hl_r22_23, hl_r22_24, hl_r22_25, hl_r22_26, hl_r22_29, hl_r22_30, hl_r22_31, hl_r22_32, hl_r22_33, hl_r22_34, hl_r22_36, hl_r22_116, hl_r22_119, hl_o_69, hl_p_69_2, hl_p_69_3, hl_p_69_4, hl_p_69_5, hl_p_69_6, hl_p_69_7, hl_p_69_8, hl_p_69_9, c1, k1, not_true, e24, en, hl_kill_i, hl_kill_r, hl_kill_n, hl_kill_l, hl_tl_s, hl_tl_n, hl_cal_some, hl_gI, hl_gJ, hl_gsI, hl_gsJ, hl_tv01, if_true, if_false, hl_up_a, hl_row_a]
        rfl
      · rw [g2 S, f S, endn, efl]
        have : (fl2.toInt - fl.toInt) * (hl_sg S 0 - hl_sg S 1) = x * (hl_sg S 0 - hl_sg S 1) + (fl2.toInt - (fl.toInt + x)) * (hl_sg S 0 - hl_sg S 1) := by
          rw [← Int.add_mul]
          congr 1
          omega
        omega
    · -- an inner node
      have lsh := hl_short2 hds n2 h2 hn hDn hlt hs
      have ns : ¬ nI node = 1 := fun z => hs ((nI_eq (b := 1) (by omega) (by omega)).mp z)
      have Ele : ∀ v, v < nd → hl_nE D dead v < 900 := fun v hv => by
        have := hDle v hv
        unfold hl_nE
        split <;> omega
      have En : hl_nE D dead node = len + 1 := by unfold hl_nE; rw [hdn, if_neg (by decide)]; exact hDn
      obtain ⟨I1, e23, f23, t23, u23⟩ := hl_s23 (d := d) (N := N) hL' hR hlt Ele (by rw [En]; omega) (h4 node hlt).1 m74 (m75 node hlt)
      -- use and ub
      have useub : ∀ p, p < np → sr p = node → ((decide (0 < r p) && decide (hl_nE D dead (ds p) = hl_nE D dead node + 1)) = true ↔ hl_ub D dead sr ds r p) := fun p hp hps => by
        rw [Bool.and_eq_true, decide_eq_true_eq, decide_eq_true_eq, En]
        unfold hl_ub hl_lev hl_nE
        rw [hps, hDn]
        cases z : dead (ds p) with
        | true =>
          rw [if_pos rfl]
          constructor
          · intro ⟨_, y⟩; omega
          · intro ⟨_, _, y⟩; cases y
        | false =>
          rw [if_neg (by decide)]
          constructor
          · intro ⟨y1, y2⟩; exact ⟨y1, ⟨by omega, y2⟩, rfl⟩
          · intro ⟨y1, y2, _⟩; exact ⟨y1, y2.2⟩
      have hle := hl_dp_le (use := fun p => decide (0 < r p) && decide (hl_nE D dead (ds p) = hl_nE D dead node + 1)) (sr := sr) (u := node) (K node)
      have hsm := hl_dp_s (use := fun p => decide (0 < r p) && decide (hl_nE D dead (ds p) = hl_nE D dead node + 1)) (sr := sr) (u := node) (K node)
      have hnn := hl_dp_n (use := fun p => decide (0 < r p) && decide (hl_nE D dead (ds p) = hl_nE D dead node + 1)) (sr := sr) (u := node) (K node)
      generalize hl_dp (fun p => decide (0 < r p) && decide (hl_nE D dead (ds p) = hl_nE D dead node + 1)) sr node (K node) = k at e23 u23 hle hsm hnn
      have kK := (h4 node hlt).1
      -- no usable pipe from k on
      have noub : ∀ p, k ≤ p → p < np → sr p = node → ¬ hl_ub D dead sr ds r p := fun p p1 p2 p3 p4 => by
        by_cases z : p < K node
        · have := (useub p p2 p3).mpr p4
          rw [hnn p p1 z p3] at this
          cases this
        · exact (h4 node hlt).2 p (by omega) p2 p3 p4
      have r1 : ∀ b, b ≠ 75 → I1 b = I b := f23
      have hL1 : hl_NL I1 nd np sr ds := hl_NL_f hL' (r1 69 (by decide)) (r1 70 (by decide)) (r1 71 (by decide)) (r1 72 (by decide))
      have m75' : ∀ u, u < nd → I1 75 u = hl_lst sr u (hl_us K node k u) := fun u hu => by
        by_cases z : u = node
        · subst z; rw [u23]; unfold hl_us; rw [if_pos rfl]
        · rw [t23 u z, m75 u hu]; unfold hl_us; rw [if_neg z]
      have h4' : hl_jv4 np nd sr ds D r dead (hl_us K node k) := fun u hu => by
        unfold hl_us
        by_cases z : u = node
        · subst z; rw [if_pos rfl]; exact ⟨by omega, noub⟩
        · rw [if_neg z]; exact h4 u hu
      have st : hl_Run 22 (hl_call (d + 1)) 10 [.ref 69, .long fl, .null, .int (nI len), .int (nI node), .int (nI i), l6] [] (hl_g N I J) = hl_Run 22 (hl_call (d + 1)) 47 [.ref 69, .long fl, .null, .int (nI len), .int (nI node), .int (nI i), .int (hl_di k)] [] (hl_g N I1 J) := by
        simp only [hl_r22_10, hl_r22_12, hl_r22_14, hl_r22_17, hl_r22_19, hl_r22_20, hl_r22_39, hl_r22_40, hl_r22_42, hl_r22_45, hl_o_69, hl_p_69_2, hl_p_69_3, hl_p_69_4, hl_p_69_5, hl_p_69_6, hl_p_69_7, hl_p_69_8, hl_p_69_9, c1, ns, not_false_eq_true, e23, hl_kill_i, hl_kill_r, hl_kill_n, hl_kill_l, hl_tl_s, hl_tl_n, hl_cal_some, hl_gI, hl_gJ, hl_gsI, hl_gsJ, hl_tv01, if_true, if_false, hl_up_a, hl_row_a]
      rw [st]
      cases k with
      | succ q =>
        -- deeper
        obtain ⟨q1, q2⟩ := hsm (by omega)
        rw [Nat.add_sub_cancel] at q1 q2
        have qnp : q < np := by omega
        have qub := (useub q qnp q1).mp q2
        obtain ⟨u1, u2, u3⟩ := qub
        have Dq : D (ds q) = len + 2 := by have := u2.2; rw [q1, hDn] at this; exact this
        have Pc : ∀ j, j < len → hl_us P len q j = P j := fun j hj => if_neg (by omega)
        have Pat : hl_us P len q len = q := if_pos rfl
        have h2' : hl_jv2 np sr ds D r dead (hl_us P len q) (len + 1) := fun j hj => by
          by_cases z : j = len
          · subst z
            rw [Pat, hl_pnd_congr (P := P) j (fun k hk => Pc k hk), ← hn, q1]
            exact ⟨qnp, rfl, hDn, Dq, u1, hdn, hs⟩
          · rw [Pc j (by omega), hl_pnd_congr (P := P) j (fun k hk => Pc k (by omega))]
            exact h2 j (by omega)
        have hph' : hl_ph np nd sr ds D r dead (len + 1) ≤ m := by
          unfold hl_ph at hph ⊢
          omega
        generalize hI2 : hl_up I1 77 len (nI q) = I2
        have r2 : ∀ b, b ≠ 77 → I2 b = I1 b := fun b hb => by rw [← hI2, hl_up_ne _ _ _ hb]
        obtain ⟨I3, J3, r3, fl3, e3, g1, g2, g3, g4, g5, g6, g7⟩ := ih I2 J r dead (hl_us K node (q + 1)) (hl_us P len q) (len + 1) (ds q) fl (i + 1) (.int (nI q)) ⟨hl_NL_f hL1 (r2 69 (by decide)) (r2 70 (by decide)) (r2 71 (by decide)) (r2 72 (by decide)), hR, fun u hu => by rw [r2 74 (by decide), r1 74 (by decide)]; exact m74 u hu, fun u hu => by rw [r2 75 (by decide)]; exact m75' u hu, fun j hj => by
          rw [← hI2, hl_up_a, if_pos rfl]
          by_cases z : j = len
          · rw [if_pos z, z, Pat]
          · rw [if_neg z, r1 77 (by decide), Pc j (by omega)]; exact m77 j (by omega)⟩ h1 h2' (by show ds q = ds (hl_us P len q len); rw [Pat]) Dq u3 (hds q qnp).1 h4' h5 hph' (by omega) hfl hbd
        refine ⟨I3, J3, r3, fl3, ?_, g1, g2, g3, g4, g5, hl_fP_tr (fun b b1 b2 b3 => by rw [r2 b b3, r1 b b2]) g6, g7⟩
        rw [← e3, ← hI2]
        have el : nI len + 1 = nI (len + 1) := (nI_succ len).symm
        have c2 : ¬ (74 : Int32) ≤ nI len := show ¬ nI 74 ≤ nI len from nI_ge (by omega) (by omega)
        have eq : hl_di (q + 1) = nI q := rfl
        rw [eq]
        have e72 : hl_up I1 77 len (nI q) 72 q = nI (ds q) := by rw [hl_up_ne _ _ _ (by decide), r1 72 (by decide)]; exact (h72 q qnp).1
        simp only [hl_r22_47, hl_r22_49, hl_r22_50, hl_r22_53, hl_r22_54, hl_r22_56, hl_r22_59, hl_r22_60, hl_r22_63, hl_r22_64, hl_r22_66, hl_r22_67, hl_r22_70, hl_r22_71, hl_r22_74, hl_r22_76, hl_r22_77, hl_r22_79, hl_r22_116, hl_r22_119, hl_o_69, hl_p_69_2, hl_p_69_3, hl_p_69_4, hl_p_69_5, hl_p_69_6, hl_p_69_7, hl_p_69_8, hl_p_69_9, hl_a_72, hl_z_72, hl_a_77, hl_z_77, hl_nm1 (show q < 1000 by omega), c2, hl_b74 (show len < 74 by omega), hl_cq (show len < 10000 by omega), hl_b432 (show q < 432 by omega), hl_cq (show q < 10000 by omega), e72, el, en, hl_kill_i, hl_kill_r, hl_kill_n, hl_kill_l, hl_gI, hl_gJ, hl_gsI, if_true, if_false]
      | zero =>
        have ez : hl_di 0 = -1 := rfl
        rw [ez]
        cases len with
        | zero =>
          -- the end of the phase
          have n0 : node = 0 := hn
          refine ⟨I1, J, r, fl, ?_, Int.le_refl _, fun S => by rw [Int.sub_self, Int.zero_mul, Int.sub_zero], hL1, hR, ⟨h1, dead, ?_, fun u hu p p1 p2 => ?_⟩, fun b b1 b2 b3 => r1 b b2, fun _ _ => rfl⟩
          · have z0 : nI 0 = 0 := rfl
            simp only [hl_r22_47, hl_r22_49, hl_r22_50, hl_r22_82, hl_r22_83, hl_r22_86, hl_r22_122, hl_r22_123, z0, not_true, hl_kill_i, hl_kill_r, hl_kill_n, hl_kill_l, hl_tl_s, hl_tl_n, hl_cal_some, hl_gI, hl_gJ, hl_gsI, hl_gsJ, hl_tv01, if_true, if_false, hl_up_a, hl_row_a]
          · cases z : dead 1 with
            | false => rfl
            | true => exact absurd rfl (h5 1 z).2.2
          · rcases hu with z | z
            · rw [z, ← n0] at p2; exact noub p (by omega) p1 p2
            · exact (h5 u z).1 p p1 p2
        | succ len =>
          -- a dead end
          obtain ⟨p1, p2, p3, p4, p5, p6, p7⟩ := h2 len (by omega)
          have hnode : node = ds (P len) := hn
          obtain ⟨w1, w2⟩ := hPr.2 (P len) p1
          have pl := hl_pe_lt p1 hPr.1
          have node0 : node ≠ 0 := fun z => by rw [z, hD0] at hDn; omega
          have dead' : ∀ u, hl_us dead node true u = true → u = node ∨ dead u = true := fun u hu => by
            unfold hl_us at hu
            by_cases z : u = node
            · exact .inl z
            · rw [if_neg z] at hu; exact .inr hu
          have deadm : ∀ u, dead u = true → hl_us dead node true u = true := fun u hu => by
            unfold hl_us
            split
            · rfl
            · exact hu
          have alive0 : ∀ u, u ≠ node → dead u = false → hl_us dead node true u = false := fun u hu h => by unfold hl_us; rw [if_neg hu]; exact h
          have h2' : hl_jv2 np sr ds D r (hl_us dead node true) P len := fun j hj => by
            obtain ⟨q1, q2, q3, q4, q5, q6, q7⟩ := h2 j (by omega)
            exact ⟨q1, q2, q3, q4, q5, alive0 _ (fun z => by rw [z, hDn] at q3; omega) q6, q7⟩
          have sne : sr (P len) ≠ node := fun z => by rw [z, hDn] at p3; omega
          have live : hl_cnt (fun u => !hl_us dead node true u) nd < hl_cnt (fun u => !dead u) nd := by
            refine hl_cnt_lt nd (fun u hu h => ?_) hlt ?_ ?_
            · cases z : dead u with
              | false => rfl
              | true => rw [deadm u z] at h; cases h
            · show (!hl_us dead node true node) = false
              unfold hl_us
              rw [if_pos rfl]
              rfl
            · show (!dead node) = true
              rw [hdn]; rfl
          have hph' : hl_ph np nd sr ds D r (hl_us dead node true) len ≤ m := by
            unfold hl_ph at hph ⊢
            omega
          generalize hI2 : hl_up I1 74 node (nI 74) = I2
          have r2 : ∀ b, b ≠ 74 → I2 b = I1 b := fun b hb => by rw [← hI2, hl_up_ne _ _ _ hb]
          obtain ⟨I3, J3, r3, fl3, e3, g1, g2, g3, g4, g5, g6, g7⟩ := ih I2 J r (hl_us dead node true) (hl_us K node 0) P len (sr (P len)) fl (i + 1) (.int (-1)) ⟨hl_NL_f hL1 (r2 69 (by decide)) (r2 70 (by decide)) (r2 71 (by decide)) (r2 72 (by decide)), hR, fun u hu => by
            rw [← hI2, hl_up_a, if_pos rfl]
            unfold hl_nE hl_us
            by_cases z : u = node
            · rw [if_pos z, if_pos z, if_pos rfl]; rfl
            · rw [if_neg z, if_neg z, r1 74 (by decide)]; exact m74 u hu, fun u hu => by rw [r2 75 (by decide)]; exact m75' u hu, fun j hj => by rw [r2 77 (by decide), r1 77 (by decide)]; exact m77 j (by omega)⟩ h1 h2' p2 p3 (alive0 _ sne p6) (hds _ p1).2 (fun u hu => ⟨(h4' u hu).1, fun p y1 y2 y3 y4 => (h4' u hu).2 p y1 y2 y3 (hl_ub_mono (fun _ => Int.le_refl _) deadm y4)⟩) (fun u hu => by
            rcases dead' u hu with z | z
            · subst z
              exact ⟨fun p y1 y2 y3 => noub p (by omega) y1 y2 (hl_ub_mono (fun _ => Int.le_refl _) deadm y3), node0, hs⟩
            · exact ⟨fun p y1 y2 y3 => (h5 u z).1 p y1 y2 (hl_ub_mono (fun _ => Int.le_refl _) deadm y3), (h5 u z).2⟩) hph' (by omega) hfl hbd
          refine ⟨I3, J3, r3, fl3, ?_, g1, g2, g3, g4, g5, hl_fP_tr (fun b b1 b2 b3 => by rw [r2 b b1, r1 b b2]) g6, g7⟩
          rw [← e3, ← hI2]
          have el : nI (len + 1) + (-1) = nI len := hl_im1
          have nl : ¬ nI (len + 1) = 0 := nI_ne0 (by omega) (by omega)
          have e77 : hl_up I1 74 node (nI 74) 77 len = nI (P len) := by rw [hl_up_ne _ _ _ (by decide), r1 77 (by decide)]; exact m77 len (by omega)
          have e72 : hl_up I1 74 node (nI 74) 72 (hl_pe (P len)) = nI (sr (P len)) := by rw [hl_up_ne _ _ _ (by decide), r1 72 (by decide), (h72 _ pl).1, w2]
          have k74 : (74 : Int32) = nI 74 := rfl
          simp only [hl_r22_47, hl_r22_49, hl_r22_50, hl_r22_82, hl_r22_83, hl_r22_86, hl_r22_89, hl_r22_92, hl_r22_93, hl_r22_96, hl_r22_98, hl_r22_100, hl_r22_101, hl_r22_102, hl_r22_105, hl_r22_106, hl_r22_109, hl_r22_110, hl_r22_111, hl_r22_112, hl_r22_113, hl_r22_114, hl_r22_116, hl_r22_119, hl_o_69, hl_p_69_2, hl_p_69_3, hl_p_69_4, hl_p_69_5, hl_p_69_6, hl_p_69_7, hl_p_69_8, hl_p_69_9, hl_a_72, hl_z_72, hl_a_74, hl_z_74, hl_a_77, hl_z_77, nl, not_false_eq_true, el, hl_b74 (show node < 74 by omega), hl_cq (show node < 10000 by omega), hl_b74 (show len < 74 by omega), hl_cq (show len < 10000 by omega), k74, e77, hl_xor1 (P len) (show P len < 432 by omega), hl_b432 (show hl_pe (P len) < 432 by omega), hl_cq (show hl_pe (P len) < 10000 by omega), e72, en, hl_kill_i, hl_kill_r, hl_kill_n, hl_kill_l, hl_gI, hl_gJ, hl_gsI, if_true, if_false]
end HLPHASE
