/-! texts of class and reference side by side; what the reference's cell pays -/
def hl_TV (S : Nat → Int32) (p b : Int32) (C : Nat → Int32) (x s e : Nat) (cl : Nat) (nm : Nat → Int32) : Prop :=
  if cl = 2 then ∃ t : Bool, hl_rrun C nm x (e - s) s [] [] = some ([], [t]) ∧ hl_wk S nm b 300 p [] = hl_tv t
  else ∃ v : Int64, hl_rrun C nm x (e - s) s [] [] = some ([v], []) ∧ hl_wk S nm b 300 p [] = v.toInt32 ∧ -1000000 ≤ v.toInt ∧ v.toInt ≤ 1000000
def hl_nmB (nm : Nat → Int32) : Prop := ∀ j, j < 9 → -1000000 ≤ (nm j).toInt ∧ (nm j).toInt ≤ 1000000
/-- a text of the class and the reference's of the same number -/
def hl_TX (I : Nat → Nat → Int32) (T : Nat) : Prop := ∀ cl, cl < 3 →
  (I (46 + 4 * T) cl = -1 ∧ ∃ s, s ≤ 385 ∧ I 88 (800 * T + 2 * cl) = nI s ∧ I 88 (800 * T + 1 + 2 * cl) = nI s) ∨
  (¬ I (46 + 4 * T) cl = -1 ∧ ∃ s e, s < e ∧ e ≤ 385 ∧ I 88 (800 * T + 2 * cl) = nI s ∧ I 88 (800 * T + 1 + 2 * cl) = nI e ∧ ∀ nm, hl_nmB nm → hl_TV (I (45 + 4 * T)) (I (46 + 4 * T) cl) (I (47 + 4 * T) cl) (I 88) (800 * T) s e cl nm)
theorem hl_rst_key {nm nm' : Nat → Int32} (h3 : ∀ j, j < 9 → nm' j = nm j) (v : Int32) (V : List Int64) (B : List Bool) : (if hl_inb v 9 = true then some ((nm' v.toNatClampNeg).toInt64 :: V, B) else none) = (if hl_inb v 9 = true then some ((nm v.toNatClampNeg).toInt64 :: V, B) else none) := by
  cases hb : hl_inb v 9 with
  | false => simp only [Bool.false_eq_true, if_false]
  | true =>
    obtain ⟨j, hj, e⟩ := hl_inb_of hb (by decide)
    rw [e, nIc (by omega), h3 j hj]
theorem hl_rst_congr {C C' nm nm' : Nat → Int32} {x i : Nat} {V : List Int64} {B : List Bool} (h1 : C' (x + 30 + 2 * i) = C (x + 30 + 2 * i)) (h2 : C' (x + 30 + 2 * i + 1) = C (x + 30 + 2 * i + 1)) (h3 : ∀ j, j < 9 → nm' j = nm j) : hl_rst C' nm' x i V B = hl_rst C nm x i V B := by
  simp only [hl_rst, h1, h2, hl_rst_key h3]
theorem hl_rrun_congr {C C' nm nm' : Nat → Int32} {x : Nat} (h3 : ∀ j, j < 9 → nm' j = nm j) (f : Nat) : ∀ (i : Nat) (V : List Int64) (B : List Bool), (∀ j, i ≤ j → j < i + f → C' (x + 30 + 2 * j) = C (x + 30 + 2 * j) ∧ C' (x + 30 + 2 * j + 1) = C (x + 30 + 2 * j + 1)) → hl_rrun C' nm' x f i V B = hl_rrun C nm x f i V B := by
  induction f with
  | zero => intro i V B _; rfl
  | succ f ih =>
    intro i V B h
    unfold hl_rrun
    rw [hl_rst_congr (h i (by omega) (by omega)).1 (h i (by omega) (by omega)).2 h3]
    cases hl_rst C nm x i V B with
    | none => rfl
    | some q => exact ih (i + 1) q.1 q.2 (fun j h1 h2 => h j (by omega) (by omega))
theorem hl_TXc : hl_TEc hl_TX := by
  intro I I' T h5 h6 h7 h8 h cl hcl
  have k1 := h8 (800 * T + 2 * cl) (by omega) (by omega)
  have k2 := h8 (800 * T + 1 + 2 * cl) (by omega) (by omega)
  rcases h cl hcl with ⟨a, s, a1, a2, a3⟩ | ⟨a, s, e, a1, a2, a3, a4, a5⟩
  · refine .inl ⟨by rw [h6]; exact a, s, a1, by rw [k1]; exact a2, by rw [k2]; exact a3⟩
  · refine .inr ⟨by rw [h6]; exact a, s, e, a1, a2, by rw [k1]; exact a3, by rw [k2]; exact a4, fun nm hn => ?_⟩
    have := a5 nm hn
    unfold hl_TV at this ⊢
    rw [h5, h6, h7, hl_rrun_congr (C := I 88) (C' := I' 88) (nm := nm) (nm' := nm) (fun _ _ => rfl) (e - s) s [] [] (fun j h1 h2 => ⟨h8 _ (by omega) (by omega), h8 _ (by omega) (by omega)⟩)]
    exact this
/-- all of the invariant but the purse -/
def hl_Co (N W H : Nat) (I : Nat → Nat → Int32) : Prop := hl_A9 N W H I ∧ hl_La N I ∧ hl_Im N I ∧ hl_Tp I ∧ hl_TB I ∧ ∀ T : Nat, (T : Int) < hl_Sv I 86 2 → hl_TX I T
section HLPY
variable {d N W H : Nat} {I Is I' : Nat → Nat → Int32} {J J' : Nat → Nat → Int64}
theorem hl_Inv.co (h : hl_Inv hl_TX N W H I) : hl_Co N W H I := ⟨h.1, h.2.1, h.2.2.1, h.2.2.2.1, h.2.2.2.2.2.1, h.2.2.2.2.2.2⟩
theorem hl_Co.inv (h : hl_Co N W H I) (p : hl_Pu N I) : hl_Inv hl_TX N W H I := ⟨h.1, h.2.1, h.2.2.1, h.2.2.2.1, p, h.2.2.2.2.1, h.2.2.2.2.2⟩
/-- a purse that says nothing -/
theorem hl_Co.any (h : hl_Co N W H I) : hl_Inv hl_TX N W H (hl_row I 65 (fun _ => 0)) := by
  obtain ⟨a, b, c, e, f, g⟩ := h
  have r : ∀ q, q ≠ 65 → hl_row I 65 (fun _ => 0) q = I q := fun q hq => hl_row_ne _ _ hq
  refine ⟨a, ⟨hl_LE_congr b.1 (fun q hq => r _ (by omega)) (r 86 (by omega)), b.2⟩, ⟨hl_LE_congr c.1 (fun q hq => r _ (by omega)) (r 87 (by omega)), c.2⟩, e, fun c hc => .inl rfl, fun T cl hT hcl => ?_, fun T hT => ?_⟩
  · rw [r (46 + 4 * T) (by omega), r (47 + 4 * T) (by omega)]
    exact f T cl hT hcl
  · have hV := b.2.2.2.1
    have hT' : (T : Int) < hl_Sv I 86 2 := hT
    exact hl_TXc I _ T (r _ (by omega)) (r _ (by omega)) (r _ (by omega)) (fun k _ _ => rfl) (g T hT')
theorem hl_Co_t (h : hl_Co N W H I) (q : hl_Tm I I') : hl_Co N W H I' := by
  have e : hl_Tm (hl_row I 65 (fun _ => 0)) (hl_row I' 65 (fun _ => 0)) := by
    obtain ⟨q1, q2, q3, q4⟩ := q
    refine ⟨fun b hb => ?_, ?_, fun k hk => ?_, fun b h1 h2 => ?_⟩
    · rw [hl_row_ne _ _ (by omega), hl_row_ne _ _ (by omega)]; exact q1 b hb
    · rw [hl_row_ne _ _ (by omega), hl_row_ne _ _ (by omega)]; exact q2
    · rw [hl_row_ne _ _ (by omega), hl_row_ne _ _ (by omega)]; exact q3 k hk
    · rw [hl_row_ne _ _ (by omega), hl_row_ne _ _ (by omega)]; exact q4 b h1 h2
  have g := (hl_Inv_t hl_TXc h.any e (fun c hc => .inl rfl)).co
  have t2 : hl_Tm (hl_row I' 65 (fun _ => 0)) I' := ⟨fun b hb => (hl_row_ne _ _ (by omega)).symm, (hl_row_ne _ _ (by omega)).symm, fun k hk => by rw [hl_row_ne _ _ (show 85 ≠ 65 by omega)], fun b h1 h2 => (hl_row_ne _ _ (by omega)).symm⟩
  obtain ⟨a, b, c, e, f, g⟩ := g
  have r : ∀ q, q ≠ 65 → hl_row I' 65 (fun _ => 0) q = I' q := fun q hq => hl_row_ne _ _ hq
  refine ⟨a, ⟨hl_LE_congr b.1 (fun q hq => (r _ (by omega)).symm) (r 86 (by omega)).symm, b.2⟩, ⟨hl_LE_congr c.1 (fun q hq => (r _ (by omega)).symm) (r 87 (by omega)).symm, c.2⟩, e, fun T cl hT hcl => ?_, fun T hT => ?_⟩
  · have := f T cl hT hcl
    rw [r (46 + 4 * T) (by omega), r (47 + 4 * T) (by omega)] at this
    exact this
  · have hV := b.2.2.2.1
    have hV' : hl_Sv I' 86 2 ≤ 4 := hV.2
    exact hl_TXc _ I' T (r _ (by omega)).symm (r _ (by omega)).symm (r _ (by omega)).symm (fun k _ _ => rfl) (g T hT)
theorem hl_Co.nh (h : hl_Co N W H I) : ∃ nh, nh ≤ 4 ∧ I 1 8 = nI nh ∧ I 86 0 = nI nh ∧ hl_Sv I 86 0 = (nh : Int) := h.any.nh
theorem hl_Co.cn (h : hl_Co N W H I) : ∃ nh, nh ≤ 40 ∧ I 11 3 = nI nh ∧ I 86 1 = nI nh ∧ hl_Sv I 86 1 = (nh : Int) := h.any.cn
theorem hl_Co.cM (h : hl_Co N W H I) : I 0 2 = nI N := h.1.1.2.2
theorem hl_Co.mM (h : hl_Co N W H I) : I 85 2 = nI N := h.1.2.1.2.2
theorem hl_Co.smr (h : hl_Co N W H I) (m : Int32) : hl_smr (I 1 10) (I 1 11) m = hl_smm (I 86 4) (I 86 5) m := h.any.smr m
theorem hl_Co.town (h : hl_Co N W H I) (hN : N ≤ 24) {c : Nat} (hc : c < N) : I 6 c = 0 ∨ I 6 c = 1 := by
  have := (h.2.1.2.2.2.2.2.2.2.2.2.1 c hc).2.2.2.2.1
  have e : I 6 c = I 86 (30 + 7 * c + 4) := h.2.1.1.cell (i := 4) hN hc (by omega)
  unfold hl_Sv at this
  rw [← e] at this
  obtain ⟨k, k1, k2, k3⟩ := hl_nat this.1
  rw [k2]
  match k, k3 with
  | 0, _ => exact .inl rfl
  | 1, _ => exact .inr rfl
  | k + 2, k3 => omega
/-- a reference's world seen by another class's -/
def hl_vw (Is I : Nat → Nat → Int32) : Prop := (∀ k, k < 10 → I 85 k = Is 85 k) ∧ I 86 = Is 86 ∧ I 88 = Is 88
theorem hl_vw_rf (I : Nat → Nat → Int32) : hl_vw I I := ⟨fun _ _ => rfl, rfl, rfl⟩
theorem hl_Tm.vw (h : hl_Tm I I') : hl_vw I I' := ⟨h.2.2.1, h.2.2.2 86 (by omega) (by omega), h.2.2.2 88 (by omega) (by omega)⟩
theorem hl_vw_tr {I1 I2 I3 : Nat → Nat → Int32} (h : hl_vw I1 I2) (g : hl_vw I2 I3) : hl_vw I1 I3 := ⟨fun k hk => (g.1 k hk).trans (h.1 k hk), g.2.1.trans h.2.1, g.2.2.trans h.2.2⟩
/-- has -/
theorem hl_i801 {x i : Nat} : (800 : Int32) * nI x + 2 * nI i = nI (800 * x + 2 * i) := by
  have e : (800 : Int32) = nI 800 := rfl
  rw [e, nI_mul, hl_i020]
theorem hl_i802 {x i : Nat} : (800 : Int32) * nI x + 1 + 2 * nI i = nI (800 * x + 1 + 2 * i) := by
  have e : (800 : Int32) = nI 800 := rfl
  rw [e, nI_mul, hl_i121]
theorem hl_has_T (hCo : hl_Co N W H Is) {cl : Nat} (hh : hl_has Is cl = true) : ∃ T, T < 4 ∧ Is 86 3 = nI T ∧ hl_rul Is = T ∧ ¬ Is (46 + 4 * T) cl = -1 ∧ (T : Int) < hl_Sv Is 86 2 := by
  unfold hl_has at hh
  rw [Bool.and_eq_true] at hh
  obtain ⟨T, hT, eR⟩ := hl_inb_of hh.1 (by decide)
  have eT : hl_rul Is = T := by unfold hl_rul; rw [eR]; exact nIc (by omega)
  have e3 : Is 86 3 = nI T := by rw [← hCo.2.1.1.h3]; exact eR
  refine ⟨T, hT, e3, eT, ?_, ?_⟩
  · have := hh.2
    rw [eT] at this
    simpa using this
  · have := hCo.2.1.2.2.2.2.1.2
    unfold hl_Sv at this
    rw [e3, hl_tI (by omega)] at this
    exact this
theorem hl_s202 {cl : Nat} (hCo : hl_Co N W H Is) (hv : hl_vw Is I) (hcl : cl < 3) : hl_call (d + 1) 202 [.ref 85, .int (nI cl)] (hl_g N I J) = some (some (.int (hl_tv (hl_has Is cl))), hl_g N I J) := by
  rw [hl_e202]
  have e86 : ∀ k, I 86 k = Is 86 k := fun k => by rw [hv.2.1]
  have e88 : ∀ k, I 88 k = Is 88 k := fun k => by rw [hv.2.2]
  have b3 := hCo.2.1.2.2.2.2.1
  by_cases hn : Is 86 3 < 0
  · have e : hl_has Is cl = false := by
      unfold hl_has
      rw [hCo.2.1.1.h3]
      have : hl_inb (Is 86 3) 4 = false := by
        unfold hl_inb
        rw [decide_eq_false (by simpa using hn)]
        rfl
      rw [this]
      rfl
    rw [e]
    simp only [hl_r202_0, hl_r202_1, hl_r202_4, hl_r202_5, hl_r202_6, hl_r202_9, hl_r202_10, hl_r202_13, hl_r202_16, hl_r202_17, hl_r202_20, hl_r202_21, hl_r202_22, hl_r202_23, hl_r202_24, hl_r202_25, hl_r202_26, hl_r202_27, hl_r202_28, hl_r202_29, hl_r202_32, hl_r202_35, hl_r202_36, hl_r202_39, hl_r202_40, hl_r202_41, hl_r202_42, hl_r202_43, hl_r202_44, hl_r202_45, hl_r202_46, hl_r202_47, hl_r202_48, hl_r202_49, hl_r202_52, hl_r202_53, hl_r202_56, hl_r202_57, hl_o_85, hl_p_85_3, hl_p_85_4, hl_p_85_5, hl_p_85_6, hl_p_85_19, hl_p_85_23, hl_p_85_24, hl_p_85_25, hl_p_85_26, hl_p_85_27, hl_p_85_28, hl_p_85_29, hl_p_85_30, hl_p_85_31, hl_p_85_33, hl_p_85_34, hl_p_85_35, hl_p_85_36, hl_p_85_37, hl_a_86, hl_z_86, hl_k3, hl_v3, e86, hn, hl_tv_f, true_or, hl_kill_i, hl_kill_r, hl_kill_n, hl_kill_l, hl_tl_s, hl_tl_n, hl_cal_some, hl_gI, hl_gJ, hl_gsI, hl_gsJ, hl_tv01, if_true, if_false, hl_up_a, hl_row_a]
  · have hx := Int32.le_iff_toInt_le.mp (Int32.not_lt.mp hn)
    obtain ⟨T, -, hT2, hT3⟩ := hl_nat hx
    unfold hl_Sv at b3
    have b2 : (Is 86 2).toInt ≤ 4 := hCo.2.1.2.2.2.1.2
    have hT : T < 4 := by omega
    have hTs : (T : Int) < hl_Sv Is 86 2 := by unfold hl_Sv; omega
    have eR : hl_rul Is = T := by unfold hl_rul; rw [hCo.2.1.1.h3, hT2]; exact nIc (by omega)
    have eh : hl_has Is cl = !decide (Is (46 + 4 * T) cl = -1) := by
      unfold hl_has
      rw [eR, hCo.2.1.1.h3, hT2, hl_inb_nI hT (by decide)]
      rfl
    have hn' : ¬ nI T < 0 := by rw [← hT2]; exact hn
    have f1 : 800 * T + 2 * cl < 3200 := by omega
    have f2 : 800 * T + 1 + 2 * cl < 3200 := by omega
    rcases hCo.2.2.2.2.2 T hTs cl hcl with ⟨a, s, a1, a2, a3⟩ | ⟨a, s, e, a1, a2, a3, a4, -⟩
    · rw [eh, decide_eq_true a]
      simp only [hl_r202_0, hl_r202_1, hl_r202_4, hl_r202_5, hl_r202_6, hl_r202_9, hl_r202_10, hl_r202_13, hl_r202_16, hl_r202_17, hl_r202_20, hl_r202_21, hl_r202_22, hl_r202_23, hl_r202_24, hl_r202_25, hl_r202_26, hl_r202_27, hl_r202_28, hl_r202_29, hl_r202_32, hl_r202_35, hl_r202_36, hl_r202_39, hl_r202_40, hl_r202_41, hl_r202_42, hl_r202_43, hl_r202_44, hl_r202_45, hl_r202_46, hl_r202_47, hl_r202_48, hl_r202_49, hl_r202_52, hl_r202_53, hl_r202_56, hl_r202_57, hl_o_85, hl_p_85_3, hl_p_85_4, hl_p_85_5, hl_p_85_6, hl_p_85_19, hl_p_85_23, hl_p_85_24, hl_p_85_25, hl_p_85_26, hl_p_85_27, hl_p_85_28, hl_p_85_29, hl_p_85_30, hl_p_85_31, hl_p_85_33, hl_p_85_34, hl_p_85_35, hl_p_85_36, hl_p_85_37, hl_a_86, hl_z_86, hl_a_88, hl_z_88, hl_k3, hl_v3, e86, e88, hT2, hn', hl_i801, hl_i802, hl_b3200 f1, hl_b3200 f2, hl_c330 (show 800 * T + 2 * cl < 3300 by omega), hl_c330 (show 800 * T + 1 + 2 * cl < 3300 by omega), a2, a3, Int32.le_refl, Bool.not_true, hl_tv_f, true_or, hl_kill_i, hl_kill_r, hl_kill_n, hl_kill_l, hl_tl_s, hl_tl_n, hl_cal_some, hl_gI, hl_gJ, hl_gsI, hl_gsJ, hl_tv01, if_true, if_false, hl_up_a, hl_row_a]
    · have hlt : ¬ nI e ≤ nI s := nI_ge a1 (by omega)
      rw [eh, decide_eq_false a]
      simp only [hl_r202_0, hl_r202_1, hl_r202_4, hl_r202_5, hl_r202_6, hl_r202_9, hl_r202_10, hl_r202_13, hl_r202_16, hl_r202_17, hl_r202_20, hl_r202_21, hl_r202_22, hl_r202_23, hl_r202_24, hl_r202_25, hl_r202_26, hl_r202_27, hl_r202_28, hl_r202_29, hl_r202_32, hl_r202_35, hl_r202_36, hl_r202_39, hl_r202_40, hl_r202_41, hl_r202_42, hl_r202_43, hl_r202_44, hl_r202_45, hl_r202_46, hl_r202_47, hl_r202_48, hl_r202_49, hl_r202_52, hl_r202_53, hl_r202_56, hl_r202_57, hl_o_85, hl_p_85_3, hl_p_85_4, hl_p_85_5, hl_p_85_6, hl_p_85_19, hl_p_85_23, hl_p_85_24, hl_p_85_25, hl_p_85_26, hl_p_85_27, hl_p_85_28, hl_p_85_29, hl_p_85_30, hl_p_85_31, hl_p_85_33, hl_p_85_34, hl_p_85_35, hl_p_85_36, hl_p_85_37, hl_a_86, hl_z_86, hl_a_88, hl_z_88, hl_k3, hl_v3, e86, e88, hT2, hn', hl_i801, hl_i802, hl_b3200 f1, hl_b3200 f2, hl_c330 (show 800 * T + 2 * cl < 3300 by omega), hl_c330 (show 800 * T + 1 + 2 * cl < 3300 by omega), a3, a4, hlt, Bool.not_false, hl_tv_t, or_true, hl_kill_i, hl_kill_r, hl_kill_n, hl_kill_l, hl_tl_s, hl_tl_n, hl_cal_some, hl_gI, hl_gJ, hl_gsI, hl_gsJ, hl_tv01, if_true, if_false, hl_up_a, hl_row_a]
/-- what is known of the numbers by names -/
theorem hl_offB (hCo : hl_Co N W H Is) (hN : N ≤ 24) {c h m : Nat} (hc : c < N) (hh : (h : Int) < hl_Sv Is 86 0) : -300 ≤ (hl_offv Is c h (hl_sm Is m)).toInt ∧ (hl_offv Is c h (hl_sm Is m)).toInt ≤ 360 := by
  have b1 := hCo.2.1.2.2.2.2.2.2.1 h hh
  have b0 := hCo.2.1.2.1.2
  have b2 := (hCo.2.1.2.2.2.2.2.2.2.2.2.1 c hc).1
  unfold hl_Sv at b1 b2
  rw [← hCo.2.1.1.off (show h < 4 by omega)] at b1
  rw [← show Is 2 c = Is 86 (30 + 7 * c) from hCo.2.1.1.cell (i := 0) hN hc (by omega)] at b2
  unfold hl_offv
  have e60 : (60 : Int32).toInt = 60 := rfl
  have e0 : (0 : Int32).toInt = 0 := rfl
  have s : (Is 9 h - Is 2 c).toInt = (Is 9 h).toInt - (Is 2 c).toInt := by rw [Int32.toInt_sub, Int.bmod_eq_of_le (by omega) (by omega)]
  cases hl_sm Is m with
  | false =>
    rw [if_pos rfl, Int32.toInt_add, s, e0, Int.bmod_eq_of_le (by omega) (by omega)]
    omega
  | true =>
    rw [if_neg (by decide), Int32.toInt_add, s, e60, Int.bmod_eq_of_le (by omega) (by omega)]
    omega
theorem hl_absI {x : Int32} (h : -2147483648 < x.toInt) : (hl_abs x).toInt = if 0 ≤ x.toInt then x.toInt else - x.toInt := by
  unfold hl_abs
  have e0 : (0 : Int32).toInt = 0 := rfl
  have := Int32.toInt_lt x
  by_cases q : 0 ≤ x.toInt
  · rw [if_pos (by rw [Int32.le_iff_toInt_le, e0]; exact q), if_pos q]
  · rw [if_neg (by rw [Int32.le_iff_toInt_le, e0]; exact q), if_neg q, Int32.toInt_sub, e0, Int.bmod_eq_of_le (by omega) (by omega)]
    omega
theorem hl_nmf_b (hCo : hl_Co N W H Is) (hN : N ≤ 24) {c h m : Nat} {al : Int32} (hc : c < N) (hh : (h : Int) < hl_Sv Is 86 0) (hm : m < 12) (hal : 0 ≤ al.toInt ∧ al.toInt ≤ 1000000) : hl_nmB (hl_nmf Is c h m (hl_offv Is c h (hl_sm Is m)) al) := by
  have bo := hl_offB (m := m) hCo hN hc hh
  have bc := hCo.2.1.2.2.2.2.2.2.2.2.2.1 c hc
  have b0 := hCo.2.1.2.1.2
  have br := hCo.2.1.2.2.2.2.2.2.2.2.1 m hm
  generalize hl_offv Is c h (hl_sm Is m) = o at bo ⊢
  intro j hj
  match j, hj with
  | 0, _ => show _ ≤ o.toInt ∧ o.toInt ≤ _; omega
  | 1, _ =>
    show _ ≤ (hl_abs o).toInt ∧ (hl_abs o).toInt ≤ _
    rw [hl_absI (by omega)]
    split <;> omega
  | 2, _ =>
    have b := bc.2.1
    unfold hl_Sv at b
    rw [← show Is 3 c = Is 86 (30 + 7 * c + 1) from hCo.2.1.1.cell (i := 1) hN hc (by omega)] at b
    show _ ≤ (Is 3 c).toInt ∧ (Is 3 c).toInt ≤ _
    omega
  | 3, _ =>
    have b := bc.2.2.1
    unfold hl_Sv at b
    rw [← show Is 4 c = Is 86 (30 + 7 * c + 2) from hCo.2.1.1.cell (i := 2) hN hc (by omega)] at b
    show _ ≤ (Is 4 c).toInt ∧ (Is 4 c).toInt ≤ _
    omega
  | 4, _ =>
    show _ ≤ (if Is 6 c = 0 then (0 : Int32) else 1).toInt ∧ (if Is 6 c = 0 then (0 : Int32) else 1).toInt ≤ _
    split <;> decide
  | 5, _ =>
    show _ ≤ (nI h).toInt ∧ (nI h).toInt ≤ _
    rw [hl_tI (by omega)]; omega
  | 6, _ =>
    show _ ≤ (nI m).toInt ∧ (nI m).toInt ≤ _
    rw [hl_tI (by omega)]; omega
  | 7, _ =>
    have b := bc.2.2.2.1
    unfold hl_Sv at b br
    rw [← show Is 5 c = Is 86 (30 + 7 * c + 3) from hCo.2.1.1.cell (i := 3) hN hc (by omega)] at b
    rw [← hCo.2.1.1.rise hm] at br
    show _ ≤ (hl_drk (Is 10 m) (Is 5 c) o).toInt ∧ (hl_drk (Is 10 m) (Is 5 c) o).toInt ≤ _
    unfold hl_drk
    have e0 : (0 : Int32).toInt = 0 := rfl
    have s1 : (Is 5 c - o).toInt = (Is 5 c).toInt - o.toInt := by rw [Int32.toInt_sub, Int.bmod_eq_of_le (by omega) (by omega)]
    have s2 : (Is 10 m - (Is 5 c - o)).toInt = (Is 10 m).toInt - ((Is 5 c).toInt - o.toInt) := by rw [Int32.toInt_sub, s1, Int.bmod_eq_of_le (by omega) (by omega)]
    split
    · rw [s2]; omega
    · rw [e0]; omega
  | 8, _ => show _ ≤ al.toInt ∧ al.toInt ≤ _; omega
  | j + 9, hj => omega
/-- nameCell -/
theorem hl_s208 {c h m : Nat} {al : Int32} (hCo : hl_Co N W H Is) (hv : hl_vw Is I) (hN : N ≤ 24) (hc : c < N) (hh : h < 4) (hm : m < 12) : ∃ I', hl_call (d + 5) 208 [.ref 85, .int (nI c), .int (nI h), .int (nI m), .int al] (hl_g N I J) = some (none, hl_g N I' J) ∧ (∀ b, b ≠ 91 → I' b = I b) ∧ ∀ j, j < 9 → I' 91 j = hl_nmf Is c h m (hl_offv Is c h (hl_sm Is m)) al j := by
  have e86 : ∀ k, I 86 k = Is 86 k := fun k => by rw [hv.2.1]
  have s205 : ∀ I1 : Nat → Nat → Int32, I1 86 = I 86 → hl_call (d + 4) 205 [.ref 85, .int (nI c), .int (nI h), .int (nI m)] (hl_g N I1 J) = some (some (.int (hl_offv Is c h (hl_sm Is m))), hl_g N I1 J) := fun I1 h1 => by
    rw [hl_s205 (d := d + 1) (by omega) (by omega), h1, e86, e86, e86, e86]
    unfold hl_offv hl_sm
    rw [hCo.smr, hCo.2.1.1.off hh, show Is 2 c = Is 86 (30 + 7 * c) from hCo.2.1.1.cell (i := 0) hN hc (by omega)]
  have s206 : ∀ I1 : Nat → Nat → Int32, I1 86 = I 86 → hl_call (d + 4) 206 [.ref 85, .int (nI c), .int (nI h), .int (nI m)] (hl_g N I1 J) = some (some (.int (hl_drk (Is 10 m) (Is 5 c) (hl_offv Is c h (hl_sm Is m)))), hl_g N I1 J) := fun I1 h1 => by
    rw [hl_s206 (d := d) (by omega) (by omega) hm, h1, e86, e86, e86, e86, e86, e86]
    unfold hl_offv hl_sm
    rw [hCo.smr, hCo.2.1.1.off hh, hCo.2.1.1.rise hm, show Is 2 c = Is 86 (30 + 7 * c) from hCo.2.1.1.cell (i := 0) hN hc (by omega), show Is 5 c = Is 86 (30 + 7 * c + 3) from hCo.2.1.1.cell (i := 3) hN hc (by omega)]
  have o1 : ∀ I1 : Nat → Nat → Int32, I1 86 = I 86 → hl_call (d + 4) 155 [.ref 85, .int (nI c), .int 1] (hl_g N I1 J) = some (some (.int (Is 3 c)), hl_g N I1 J) := fun I1 h1 => by
    rw [hl_of1 (d := d + 3) (by omega), h1, e86, show Is 3 c = Is 86 (30 + 7 * c + 1) from hCo.2.1.1.cell (i := 1) hN hc (by omega)]
  have o2 : ∀ I1 : Nat → Nat → Int32, I1 86 = I 86 → hl_call (d + 4) 155 [.ref 85, .int (nI c), .int 2] (hl_g N I1 J) = some (some (.int (Is 4 c)), hl_g N I1 J) := fun I1 h1 => by
    rw [hl_of2 (d := d + 3) (by omega), h1, e86, show Is 4 c = Is 86 (30 + 7 * c + 2) from hCo.2.1.1.cell (i := 2) hN hc (by omega)]
  have o4 : ∀ I1 : Nat → Nat → Int32, I1 86 = I 86 → hl_call (d + 4) 155 [.ref 85, .int (nI c), .int 4] (hl_g N I1 J) = some (some (.int (Is 6 c)), hl_g N I1 J) := fun I1 h1 => by
    rw [hl_of4 (d := d + 3) (by omega), h1, e86, show Is 6 c = Is 86 (30 + 7 * c + 4) from hCo.2.1.1.cell (i := 4) hN hc (by omega)]
  have ht := hCo.town hN hc
  generalize hl_offv Is c h (hl_sm Is m) = o at s205 s206 ⊢
  have k6 : hl_inb (6 : Int32) 9 = true := id rfl
  have k7 : hl_inb (7 : Int32) 9 = true := id rfl
  have k8 : hl_inb (8 : Int32) 9 = true := id rfl
  have m0 : hl_inb (0 : Int32) 9 = true := id rfl
  have m1 : hl_inb (1 : Int32) 9 = true := id rfl
  have m2 : hl_inb (2 : Int32) 9 = true := id rfl
  have m3 : hl_inb (3 : Int32) 9 = true := id rfl
  have m4 : hl_inb (4 : Int32) 9 = true := id rfl
  have m5 : hl_inb (5 : Int32) 9 = true := id rfl
  have v6 : (6 : Int32).toNatClampNeg = 6 := id rfl
  have v7 : (7 : Int32).toNatClampNeg = 7 := id rfl
  have v8 : (8 : Int32).toNatClampNeg = 8 := id rfl
  refine ⟨hl_up (hl_up (hl_up (hl_up (hl_up (hl_up (hl_up (hl_up (hl_up I 91 0 o) 91 1 (hl_abs o)) 91 2 (Is 3 c)) 91 3 (Is 4 c)) 91 4 (Is 6 c)) 91 5 (nI h)) 91 6 (nI m)) 91 7 (hl_drk (Is 10 m) (Is 5 c) o)) 91 8 al, ?_, fun b hb => ?_, fun j hj => ?_⟩
  · rw [hl_e208]
    have rr : ∀ (I1 : Nat → Nat → Int32) (a : Nat) (v : Int32), hl_up I1 91 a v 86 = I1 86 := fun _ _ _ => rfl
    simp only [hl_r208_0, hl_r208_1, hl_r208_4, hl_r208_5, hl_r208_6, hl_r208_7, hl_r208_8, hl_r208_9, hl_r208_12, hl_r208_13, hl_r208_14, hl_r208_17, hl_r208_18, hl_r208_19, hl_r208_22, hl_r208_23, hl_r208_24, hl_r208_27, hl_r208_28, hl_r208_29, hl_r208_32, hl_r208_33, hl_r208_34, hl_r208_35, hl_r208_36, hl_r208_39, hl_r208_40, hl_r208_41, hl_r208_44, hl_r208_45, hl_r208_46, hl_r208_47, hl_r208_48, hl_r208_51, hl_r208_52, hl_r208_53, hl_r208_56, hl_r208_57, hl_r208_58, hl_r208_59, hl_r208_60, hl_r208_63, hl_r208_64, hl_r208_65, hl_r208_68, hl_r208_69, hl_r208_70, hl_r208_71, hl_r208_72, hl_r208_75, hl_r208_77, hl_r208_78, hl_r208_79, hl_r208_80, hl_r208_83, hl_r208_85, hl_r208_86, hl_r208_87, hl_r208_88, hl_r208_89, hl_r208_92, hl_r208_93, hl_r208_94, hl_r208_97, hl_r208_99, hl_r208_101, hl_r208_102, hl_o_85, hl_p_85_3, hl_p_85_4, hl_p_85_5, hl_p_85_6, hl_p_85_19, hl_p_85_23, hl_p_85_24, hl_p_85_25, hl_p_85_26, hl_p_85_27, hl_p_85_28, hl_p_85_29, hl_p_85_30, hl_p_85_31, hl_p_85_33, hl_p_85_34, hl_p_85_35, hl_p_85_36, hl_p_85_37, hl_a_91, hl_z_91, s205 I rfl, s206 _ (show hl_up (hl_up (hl_up (hl_up (hl_up (hl_up (hl_up I 91 0 o) 91 1 (hl_abs o)) 91 2 (Is 3 c)) 91 3 (Is 4 c)) 91 4 (Is 6 c)) 91 5 (nI h)) 91 6 (nI m) 86 = I 86 from rfl), o1 _ (show hl_up (hl_up I 91 0 o) 91 1 (hl_abs o) 86 = I 86 from rfl), o2 _ (show hl_up (hl_up (hl_up I 91 0 o) 91 1 (hl_abs o)) 91 2 (Is 3 c) 86 = I 86 from rfl), o4 _ (show hl_up (hl_up (hl_up (hl_up I 91 0 o) 91 1 (hl_abs o)) 91 2 (Is 3 c)) 91 3 (Is 4 c) 86 = I 86 from rfl), hl_s152, hl_up_at, m0, m1, m2, m3, m4, m5, k6, k7, k8, hl_v0, hl_v1, hl_v2, hl_v3, hl_v4, hl_v5, v6, v7, v8, hl_kill_i, hl_kill_r, hl_kill_n, hl_tl_s, hl_tl_n, hl_cal_some, hl_gI, hl_gJ, hl_gsI]
  · rw [hl_up_ne _ _ _ hb, hl_up_ne _ _ _ hb, hl_up_ne _ _ _ hb, hl_up_ne _ _ _ hb, hl_up_ne _ _ _ hb, hl_up_ne _ _ _ hb, hl_up_ne _ _ _ hb, hl_up_ne _ _ _ hb, hl_up_ne _ _ _ hb]
  · have e4 : Is 6 c = if Is 6 c = 0 then 0 else 1 := by rcases ht with t | t <;> rw [t] <;> rfl
    match j, hj with
    | 0, _ => rfl
    | 1, _ => rfl
    | 2, _ => rfl
    | 3, _ => rfl
    | 4, _ => exact e4
    | 5, _ => rfl
    | 6, _ => rfl
    | 7, _ => rfl
    | 8, _ => rfl
    | j + 9, hj => omega
/-- the reference works a clause of the ruling text: what the class's worker answers -/
theorem hl_s203v {cl c h m : Nat} {al : Int32} (hCo : hl_Co N W H Is) (hv : hl_vw Is I) (hN : N ≤ 24) (hc : c < N) (hh : (h : Int) < hl_Sv Is 86 0) (hm : m < 12) (hcl : cl < 3) (hal : 0 ≤ al.toInt ∧ al.toInt ≤ 1000000) (hn : ∀ j, j < 9 → I 91 j = hl_nmf Is c h m (hl_offv Is c h (hl_sm Is m)) al j) (hhas : hl_has Is cl = true) : ∃ I' J', hl_call (d + 3) 203 [.ref 85, .int (nI cl)] (hl_g N I J) = some (none, hl_g N I' J') ∧ (∀ b, b ≠ 93 → I' b = I b) ∧ (∀ b, b ≠ 92 → J' b = J b) ∧ (if cl = 2 then ∃ t, I' 93 0 = hl_tv t ∧ hl_ask Is cl c h m (hl_offv Is c h (hl_sm Is m)) al = hl_tv t else hl_ask Is cl c h m (hl_offv Is c h (hl_sm Is m)) al = (J' 92 0).toInt32 ∧ -1000000 ≤ (J' 92 0).toInt ∧ (J' 92 0).toInt ≤ 1000000) := by
  obtain ⟨T, hT, e3, eT, hne, hTs⟩ := hl_has_T hCo hhas
  have hb := hl_nmf_b hCo hN hc hh hm hal
  generalize hl_offv Is c h (hl_sm Is m) = o at hn hb ⊢
  rcases hCo.2.2.2.2.2 T hTs cl hcl with ⟨a, -⟩ | ⟨-, s, e, a1, a2, a3, a4, a5⟩
  · exact absurd a hne
  have tv := a5 _ hb
  have ea : ∀ v, hl_wk (Is (45 + 4 * T)) (hl_nmf Is c h m o al) (Is (47 + 4 * T) cl) 300 (Is (46 + 4 * T) cl) [] = v → hl_ask Is cl c h m o al = v := fun v hv => by
    unfold hl_ask
    rw [eT]
    exact hv
  have er : hl_rrun (I 88) (I 91) (800 * T) (e - s) s [] [] = hl_rrun (Is 88) (hl_nmf Is c h m o al) (800 * T) (e - s) s [] [] := hl_rrun_congr hn (e - s) s [] [] (fun j _ _ => by rw [hv.2.2]; exact ⟨rfl, rfl⟩)
  unfold hl_TV at tv
  by_cases c2 : cl = 2
  · rw [if_pos c2] at tv
    obtain ⟨t, t1, t2⟩ := tv
    rw [← er] at t1
    obtain ⟨I', J', e1, R, f1, g1⟩ := hl_s203 (d := d) (N := N) (J := J) hT hcl (by rw [hv.2.1]; exact e3) (by rw [hv.2.2]; exact a3) (by rw [hv.2.2]; exact a4) (by omega) a2 t1
    refine ⟨I', J', e1, f1, g1, ?_⟩
    rw [if_pos c2]
    exact ⟨t, R.2.2.2 0 (hl_tv t) rfl, ea _ t2⟩
  · rw [if_neg c2] at tv
    obtain ⟨v, t1, t2, t3⟩ := tv
    rw [← er] at t1
    obtain ⟨I', J', e1, R, f1, g1⟩ := hl_s203 (d := d) (N := N) (J := J) hT hcl (by rw [hv.2.1]; exact e3) (by rw [hv.2.2]; exact a3) (by rw [hv.2.2]; exact a4) (by omega) a2 t1
    refine ⟨I', J', e1, f1, g1, ?_⟩
    have ev : J' 92 0 = v := R.2.2.1 0 v rfl
    rw [if_neg c2, ev]
    exact ⟨ea _ t2, t3⟩
end HLPY
