/-! pairs of the calls that set and tell -/
section HLPA
variable {TE : (Nat → Nat → Int32) → Nat → Prop} {N W H : Nat} {I I' : Nat → Nat → Int32} {J J' : Nat → Nat → Int64}
theorem hl_bz01 (x : Int32) : hl_bz x = 0 ∨ hl_bz x = 1 := by unfold hl_bz; split <;> simp
theorem hl_bz_E (x : Int32) : 0 ≤ (hl_bz x).toInt ∧ (hl_bz x).toInt ≤ 1 := by
  rcases hl_bz01 x with h | h <;> rw [h] <;> decide
/-- cell -/
theorem hl_pr0 (hTE : hl_TEc TE) (hN : N ≤ 24) (f : Nat → Int32) : hl_PQ TE N W H 105 157 (hl_args 0 f) := by
  intro I J hI
  show ∃ v I1 J1 I2 J2, hl_call 1001 105 [.ref 0, .int (f 1), .int (f 2), .int (f 3), .int (f 4), .int (f 5), .int (hl_bz (f 6))] (hl_g N I J) = some (some (.int v), hl_g N I1 J1) ∧ hl_call 1001 157 [.ref 85, .int (f 1), .int (f 2), .int (f 3), .int (f 4), .int (f 5), .int (hl_bz (f 6))] (hl_g N I1 J1) = some (some (.int v), hl_g N I2 J2) ∧ hl_Inv TE N W H I2
  cases hg : hl_gc0 N (f 1) (f 2) (f 3) (f 4) (f 5) with
  | false => exact ⟨0, I, J, I, J, hl_s105f (d := 998) hI.cM hN hg, hl_s157f (d := 998) hI.mM hN hg, hI⟩
  | true =>
    have hg' := hg
    unfold hl_gc0 at hg'
    simp only [Bool.and_eq_true] at hg'
    obtain ⟨⟨⟨⟨g1, g2⟩, g3⟩, g4⟩, g5⟩ := hg'
    obtain ⟨c, hc, ec⟩ := hl_inb_of g1 (by omega)
    rw [ec] at hg ⊢
    have i2 := hl_in_E g2
    have i3 := hl_in_E g3
    have i4 := hl_in_E g4
    have i5 := hl_in_E g5
    have i6 := hl_bz_E (f 6)
    refine ⟨1, _, J, _, J, hl_s105t (d := 998) hI.cM hN hc (hl_bz01 _) hg, hl_s157t (d := 998) hI.mM hN hc (hl_bz01 _) hg, ?_⟩
    generalize f 2 = s at *
    generalize f 3 = p at *
    generalize f 4 = t at *
    generalize f 5 = b at *
    generalize hl_bz (f 6) = z at *
    generalize hI2 : hl_up (hl_up (hl_up (hl_up (hl_up (hl_up (hl_up (hl_up (hl_up (hl_up (hl_up I 2 c s) 3 c p) 4 c t) 5 c b) 6 c z) 65 c 0) 86 (30 + 7 * c) s) 86 (30 + 7 * c + 1) p) 86 (30 + 7 * c + 2) t) 86 (30 + 7 * c + 3) b) 86 (30 + 7 * c + 4) z = I2
    have r : ∀ q, q ≠ 86 → I2 q = hl_up (hl_up (hl_up (hl_up (hl_up (hl_up I 2 c s) 3 c p) 4 c t) 5 c b) 6 c z) 65 c 0 q := fun q hq => by
      rw [← hI2, hl_up_ne _ _ _ hq, hl_up_ne _ _ _ hq, hl_up_ne _ _ _ hq, hl_up_ne _ _ _ hq, hl_up_ne _ _ _ hq]
    have r0 : ∀ q, ¬ (2 ≤ q ∧ q ≤ 6) → q ≠ 65 → q ≠ 86 → I2 q = I q := fun q h1 h2 h3 => by
      rw [r q h3, hl_up_ne _ _ _ h2, hl_up_ne _ _ _ (by omega), hl_up_ne _ _ _ (by omega), hl_up_ne _ _ _ (by omega), hl_up_ne _ _ _ (by omega), hl_up_ne _ _ _ (by omega)]
    have r86 : ∀ j, I2 86 j = if j = 30 + 7 * c + 4 then z else if j = 30 + 7 * c + 3 then b else if j = 30 + 7 * c + 2 then t else if j = 30 + 7 * c + 1 then p else if j = 30 + 7 * c then s else I 86 j := fun j => by rw [← hI2]; rfl
    have S86 : ∀ j, hl_Sv I2 86 j = if j = 30 + 7 * c + 4 then z.toInt else if j = 30 + 7 * c + 3 then b.toInt else if j = 30 + 7 * c + 2 then t.toInt else if j = 30 + 7 * c + 1 then p.toInt else if j = 30 + 7 * c then s.toInt else hl_Sv I 86 j := fun j => by
      unfold hl_Sv
      rw [r86]
      (repeat' split) <;> rfl
    refine hl_Inv_q hTE hI (hl_Qt_of (fun q h1 h2 h3 => r0 q (by omega) (by omega) h2) (by rw [r86, if_neg (by omega), if_neg (by omega), if_neg (by omega), if_neg (by omega), if_neg (by omega)])) ⟨?_, ?_⟩ ?_
    · have e0 := hl_La_up (v := s) hI.2.1.1 (hl_ri_cell (i := 0) hN hc (by omega))
      have e1 := hl_La_up (v := p) e0 (hl_ri_cell (i := 1) hN hc (by omega))
      have e2 := hl_La_up (v := t) e1 (hl_ri_cell (i := 2) hN hc (by omega))
      have e3 := hl_La_up (v := b) e2 (hl_ri_cell (i := 3) hN hc (by omega))
      have e4 := hl_La_up (v := z) e3 (hl_ri_cell (i := 4) hN hc (by omega))
      refine hl_LE_rows e4 (fun q h1 h2 => ?_) ?_
      · rw [r q (by omega), hl_up_ne _ _ _ (show q ≠ 65 by omega)]
        have n86 : q ≠ 86 := by omega
        funext j
        simp only [hl_up_a, if_neg n86]
      · funext j
        rw [r86]
        rfl
    · refine hl_V_ch hN hI.2.1.2 (fun j => 30 + 7 * c ≤ j ∧ j < 30 + 7 * c + 5) (fun j hj => ?_) (fun j hj => by omega) (fun q hq hP => by omega) (fun c' hc' i hi hP => ?_) (fun j hj => by omega)
      · rw [S86, if_neg (by omega), if_neg (by omega), if_neg (by omega), if_neg (by omega), if_neg (by omega)]
      · have ecc : c' = c := by omega
        subst ecc
        rw [S86]
        match i, hi, hP with
        | 0, _, _ => rw [if_neg (by omega), if_neg (by omega), if_neg (by omega), if_neg (by omega), if_pos (by omega)]; exact i2
        | 1, _, _ => rw [if_neg (by omega), if_neg (by omega), if_neg (by omega), if_pos (by omega)]; exact i3
        | 2, _, _ => rw [if_neg (by omega), if_neg (by omega), if_pos (by omega)]; exact i4
        | 3, _, _ => rw [if_neg (by omega), if_pos (by omega)]; exact i5
        | 4, _, _ => rw [if_pos (by omega)]; exact i6
        | i + 5, h, hP => omega
    · refine hl_Pu_k hI.2.2.2.2.1 (by rw [r86, if_neg (by omega), if_neg (by omega), if_neg (by omega), if_neg (by omega), if_neg (by omega)]) (r0 64 (by omega) (by omega) (by omega)) (fun c' hc' => ?_)
      have e65 : I2 65 c' = if c' = c then 0 else I 65 c' := by rw [r 65 (by omega)]; rfl
      by_cases hcc : c' = c
      · exact .inl (by rw [e65, if_pos hcc])
      · refine .inr ⟨by rw [e65, if_neg hcc], ⟨?_, ?_, r0 9 (by omega) (by omega) (by omega), r0 10 (by omega) (by omega) (by omega), fun q h1 h2 => r0 q (by omega) (by omega) (by omega)⟩⟩
        · rw [r0 1 (by omega) (by omega) (by omega)]; exact ⟨rfl, rfl, rfl⟩
        · refine ⟨?_, ?_, ?_, ?_, ?_⟩
          · rw [r 2 (by omega)]; exact if_neg hcc
          · rw [r 3 (by omega)]; exact if_neg hcc
          · rw [r 4 (by omega)]; exact if_neg hcc
          · rw [r 5 (by omega)]; exact if_neg hcc
          · rw [r 6 (by omega)]; exact if_neg hcc
/-- rise -/
theorem hl_pr3 (hTE : hl_TEc TE) (hN : N ≤ 24) (f : Nat → Int32) : hl_PQ TE N W H 108 161 (hl_args 3 f) := by
  intro I J hI
  show ∃ v I1 J1 I2 J2, hl_call 1001 108 [.ref 0, .int (f 1), .int (f 2)] (hl_g N I J) = some (some (.int v), hl_g N I1 J1) ∧ hl_call 1001 161 [.ref 85, .int (f 1), .int (f 2)] (hl_g N I1 J1) = some (some (.int v), hl_g N I2 J2) ∧ hl_Inv TE N W H I2
  cases hg : hl_inb (f 1) 12 && hl_in (f 2) 0 720 with
  | false => exact ⟨0, I, J, I, J, hl_s108f (d := 998) hg, hl_s161f (d := 998) hg, hI⟩
  | true =>
    rw [Bool.and_eq_true] at hg
    obtain ⟨g1, g2⟩ := hg
    obtain ⟨c, hc, ec⟩ := hl_inb_of g1 (by omega)
    rw [ec]
    have i2 := hl_in_E g2
    refine ⟨1, _, J, _, J, hl_s108t (d := 998) hN hc g2, hl_s161t (d := 998) hc g2, ?_⟩
    generalize f 2 = s at *
    generalize hI2 : hl_up (hl_fz (hl_up I 10 c s) N) 86 (15 + c) s = I2
    have r : ∀ q, q ≠ 86 → q ≠ 65 → I2 q = hl_up I 10 c s q := fun q hq h5 => by rw [← hI2, hl_up_ne _ _ _ hq, hl_fz_ne h5]
    have r0 : ∀ q, q ≠ 10 → q ≠ 65 → q ≠ 86 → I2 q = I q := fun q h1 h2 h3 => by rw [r q h3 h2, hl_up_ne _ _ _ h1]
    have r86 : ∀ j, I2 86 j = if j = 15 + c then s else I 86 j := fun j => by rw [← hI2]; rfl
    have S86 : ∀ j, hl_Sv I2 86 j = if j = 15 + c then s.toInt else hl_Sv I 86 j := fun j => by
      unfold hl_Sv
      rw [r86]
      (repeat' split) <;> rfl
    refine hl_Inv_q hTE hI (hl_Qt_of (fun q h1 h2 h3 => r0 q (by omega) (by omega) h2) (by rw [r86, if_neg (by omega)])) ⟨?_, ?_⟩ (hl_Pu_0 fun c' hc' => by rw [← hI2, hl_up_ne _ _ _ (by omega), hl_fz_at hc'])
    · refine hl_LE_rows (hl_La_up (v := s) hI.2.1.1 (hl_ri_rise hc)) (fun q h1 h2 => ?_) ?_
      · rw [r q (by omega) (by omega), hl_up_ne _ _ _ (show q ≠ 86 by omega)]
      · funext j; rw [r86]; rfl
    · refine hl_V_ch hN hI.2.1.2 (fun j => j = 15 + c) (fun j hj => by rw [S86, if_neg hj]) (fun j hj => by omega) (fun q hq hP => ?_) (fun c' hc' i hi hP => by omega) (fun j hj => by omega)
      rw [S86, if_pos hP]; exact i2
/-- keep -/
theorem hl_pr5 (hTE : hl_TEc TE) (hN : N ≤ 24) (f : Nat → Int32) : hl_PQ TE N W H 110 163 (hl_args 5 f) := by
  intro I J hI
  show ∃ v I1 J1 I2 J2, hl_call 1001 110 [.ref 0, .int (f 1), .int (f 2)] (hl_g N I J) = some (some (.int v), hl_g N I1 J1) ∧ hl_call 1001 163 [.ref 85, .int (f 1), .int (f 2)] (hl_g N I1 J1) = some (some (.int v), hl_g N I2 J2) ∧ hl_Inv TE N W H I2
  obtain ⟨nh, h4, hc1, hm1, hs1⟩ := hI.nh
  cases hg : hl_inb (f 1) N && (decide (f 2 = -1) || hl_inb (f 2) nh) with
  | false => exact ⟨0, I, J, I, J, hl_s110f (d := 998) hI.cM hc1 hN h4 hg, hl_s163f (d := 998) hI.mM hm1 hN h4 hg, hI⟩
  | true =>
    rw [Bool.and_eq_true, Bool.or_eq_true, decide_eq_true_eq] at hg
    obtain ⟨g1, g2⟩ := hg
    obtain ⟨c, hc, ec⟩ := hl_inb_of g1 (by omega)
    rw [ec]
    have i2 : -1 ≤ (f 2).toInt ∧ (f 2).toInt < (nh : Int) := by
      rcases g2 with g | g
      · rw [g]; exact ⟨by decide, by have : (-1 : Int32).toInt = -1 := rfl; omega⟩
      · have := hl_inb_E g (by omega); omega
    refine ⟨1, _, J, _, J, hl_s110t (d := 998) hI.cM hc1 hN h4 hc g2, hl_s163t (d := 998) hI.mM hm1 hN h4 hc g2, ?_⟩
    generalize f 2 = s at *
    generalize hI2 : hl_up (hl_up I 7 c s) 86 (30 + 7 * c + 5) s = I2
    have r : ∀ q, q ≠ 86 → I2 q = hl_up I 7 c s q := fun q hq => by rw [← hI2, hl_up_ne _ _ _ hq]
    have r0 : ∀ q, q ≠ 7 → q ≠ 86 → I2 q = I q := fun q h1 h3 => by rw [r q h3, hl_up_ne _ _ _ h1]
    have r86 : ∀ j, I2 86 j = if j = 30 + 7 * c + 5 then s else I 86 j := fun j => by rw [← hI2]; rfl
    have S86 : ∀ j, hl_Sv I2 86 j = if j = 30 + 7 * c + 5 then s.toInt else hl_Sv I 86 j := fun j => by
      unfold hl_Sv
      rw [r86]
      (repeat' split) <;> rfl
    refine hl_Inv_q hTE hI (hl_Qt_of (fun q h1 h2 h3 => r0 q (by omega) h2) (by rw [r86, if_neg (by omega)])) ⟨?_, ?_⟩ (hl_Pu_k hI.2.2.2.2.1 (by rw [r86, if_neg (by omega)]) (r0 64 (by omega) (by omega)) (fun c' hc' => .inr ⟨by rw [r0 65 (by omega) (by omega)], hl_PD_of (fun b hb => r0 b (by omega) (by omega)) c'⟩))
    · refine hl_LE_rows (hl_La_up (v := s) hI.2.1.1 (hl_ri_cell (i := 5) hN hc (by omega))) (fun q h1 h2 => ?_) ?_
      · rw [r q (by omega), hl_up_ne _ _ _ (show q ≠ 86 by omega)]
      · funext j; rw [r86]; rfl
    · refine hl_V_ch hN hI.2.1.2 (fun j => j = 30 + 7 * c + 5) (fun j hj => by rw [S86, if_neg hj]) (fun j hj => by omega) (fun q hq hP => by omega) (fun c' hc' i hi hP => ?_) (fun j hj => by omega)
      have ei : i = 5 := by omega
      subst ei
      rw [S86, if_pos hP, hs1]; exact i2
/-- part -/
theorem hl_pr6 (hTE : hl_TEc TE) (hN : N ≤ 24) (f : Nat → Int32) : hl_PQ TE N W H 111 164 (hl_args 6 f) := by
  intro I J hI
  show ∃ v I1 J1 I2 J2, hl_call 1001 111 [.ref 0, .int (f 1), .int (f 2)] (hl_g N I J) = some (some (.int v), hl_g N I1 J1) ∧ hl_call 1001 164 [.ref 85, .int (f 1), .int (f 2)] (hl_g N I1 J1) = some (some (.int v), hl_g N I2 J2) ∧ hl_Inv TE N W H I2
  obtain ⟨nh, h4, hc1, hm1, hs1⟩ := hI.nh
  cases hg : hl_inb (f 1) N && hl_inb (f 2) nh with
  | false => exact ⟨0, I, J, I, J, hl_s111f (d := 998) hI.cM hc1 hN h4 hg, hl_s164f (d := 998) hI.mM hm1 hN h4 hg, hI⟩
  | true =>
    rw [Bool.and_eq_true] at hg
    obtain ⟨g1, g2⟩ := hg
    obtain ⟨c, hc, ec⟩ := hl_inb_of g1 (by omega)
    rw [ec]
    have i2 := hl_inb_E g2 (by omega)
    refine ⟨1, _, J, _, J, hl_s111t (d := 998) hI.cM hc1 hN h4 hc g2, hl_s164t (d := 998) hI.mM hm1 hN h4 hc g2, ?_⟩
    generalize f 2 = s at *
    generalize hI2 : hl_up (hl_up I 8 c s) 86 (30 + 7 * c + 6) s = I2
    have r : ∀ q, q ≠ 86 → I2 q = hl_up I 8 c s q := fun q hq => by rw [← hI2, hl_up_ne _ _ _ hq]
    have r0 : ∀ q, q ≠ 8 → q ≠ 86 → I2 q = I q := fun q h1 h3 => by rw [r q h3, hl_up_ne _ _ _ h1]
    have r86 : ∀ j, I2 86 j = if j = 30 + 7 * c + 6 then s else I 86 j := fun j => by rw [← hI2]; rfl
    have S86 : ∀ j, hl_Sv I2 86 j = if j = 30 + 7 * c + 6 then s.toInt else hl_Sv I 86 j := fun j => by
      unfold hl_Sv
      rw [r86]
      (repeat' split) <;> rfl
    refine hl_Inv_q hTE hI (hl_Qt_of (fun q h1 h2 h3 => r0 q (by omega) h2) (by rw [r86, if_neg (by omega)])) ⟨?_, ?_⟩ (hl_Pu_k hI.2.2.2.2.1 (by rw [r86, if_neg (by omega)]) (r0 64 (by omega) (by omega)) (fun c' hc' => .inr ⟨by rw [r0 65 (by omega) (by omega)], hl_PD_of (fun b hb => r0 b (by omega) (by omega)) c'⟩))
    · refine hl_LE_rows (hl_La_up (v := s) hI.2.1.1 (hl_ri_cell (i := 6) hN hc (by omega))) (fun q h1 h2 => ?_) ?_
      · rw [r q (by omega), hl_up_ne _ _ _ (show q ≠ 86 by omega)]
      · funext j; rw [r86]; rfl
    · refine hl_V_ch hN hI.2.1.2 (fun j => j = 30 + 7 * c + 6) (fun j hj => by rw [S86, if_neg hj]) (fun j hj => by omega) (fun q hq hP => by omega) (fun c' hc' i hi hP => ?_) (fun j hj => by omega)
      have ei : i = 6 := by omega
      subst ei
      rw [S86, if_pos hP, hs1]; exact ⟨i2.1, .inl i2.2⟩
end HLPA
