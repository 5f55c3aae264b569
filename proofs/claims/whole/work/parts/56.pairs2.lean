/-! pairs of the calls that set and tell, further ones -/
theorem hl_V_tie {N cnt : Nat} {S S' : Nat → Int} {x y z : Int} (hN : N ≤ 24) (hV : hl_V N S) (h1 : S 1 = (cnt : Int)) (hc : cnt < 40) (e1 : S' 1 = (cnt : Int) + 1) (e : ∀ j, j ≠ 1 → ¬ (200 + 3 * cnt ≤ j ∧ j < 200 + 3 * cnt + 3) → S' j = S j) (ex : S' (200 + 3 * cnt) = x) (ey : S' (200 + 3 * cnt + 1) = y) (ez : S' (200 + 3 * cnt + 2) = z) (hx : 0 ≤ x ∧ x < N) (hy : 0 ≤ y ∧ y < N) (hxy : x ≠ y) (hz : 1 ≤ z ∧ z ≤ 99) : hl_V N S' := by
  obtain ⟨v0, v1, v2, v3, v4, v5, v6, v7, v8, v9, v10⟩ := hV
  unfold hl_V
  rw [e 0 (by omega) (by omega), e1, e 2 (by omega) (by omega), e 3 (by omega) (by omega), e 4 (by omega) (by omega), e 5 (by omega) (by omega)]
  refine ⟨v0, by omega, v2, v3, v4, fun h hh => ?_, fun h hh => ?_, fun q hq => ?_, fun c hc => ?_, fun k hk => ?_, fun t ht => ?_⟩
  · rw [e _ (by omega) (by omega)]; exact v5 h hh
  · rw [e _ (by omega) (by omega), e _ (by omega) (by omega)]; exact v6 h hh
  · rw [e _ (by omega) (by omega)]; exact v7 q hq
  · rw [e _ (by omega) (by omega), e _ (by omega) (by omega), e _ (by omega) (by omega), e _ (by omega) (by omega), e _ (by omega) (by omega), e _ (by omega) (by omega), e _ (by omega) (by omega)]; exact v8 c hc
  · by_cases hkc : k = cnt
    · subst hkc
      rw [ex, ey, ez]
      exact ⟨hx, hy, hxy, hz⟩
    · rw [e _ (by omega) (by omega), e _ (by omega) (by omega), e _ (by omega) (by omega)]
      exact v9 k (by omega)
  · have h0 := (v10 t ht).1
    rw [e _ (by omega) (by omega)]
    refine ⟨h0, fun i hi => ?_⟩
    rw [e _ (by omega) (by omega), e _ (by omega) (by omega)]
    exact (v10 t ht).2 i hi
theorem hl_V_hour {N nh : Nat} {S S' : Nat → Int} {x : Int} (hN : N ≤ 24) (hV : hl_V N S) (h1 : S 0 = (nh : Int)) (hc : nh < 4) (e1 : S' 0 = (nh : Int) + 1) (e : ∀ j, j ≠ 0 → j ≠ 10 + nh → S' j = S j) (ex : S' (10 + nh) = x) (hx : 0 ≤ x ∧ x ≤ 300) (hl : ∀ k, nh = k + 1 → S (10 + k) < x) : hl_V N S' := by
  obtain ⟨v0, v1, v2, v3, v4, v5, v6, v7, v8, v9, v10⟩ := hV
  unfold hl_V
  rw [e1, e 1 (by omega) (by omega), e 2 (by omega) (by omega), e 3 (by omega) (by omega), e 4 (by omega) (by omega), e 5 (by omega) (by omega)]
  refine ⟨by omega, v1, v2, v3, v4, fun h hh => ?_, fun h hh => ?_, fun q hq => ?_, fun c hc => ?_, fun k hk => ?_, fun t ht => ?_⟩
  · by_cases q : h = nh
    · subst q; rw [ex]; exact hx
    · rw [e _ (by omega) (by omega)]; exact v5 h (by omega)
  · by_cases q : h + 1 = nh
    · rw [q, ex, e _ (by omega) (by omega)]
      exact hl h q.symm
    · rw [e _ (by omega) (by omega), e _ (by omega) (by omega)]; exact v6 h (by omega)
  · rw [e _ (by omega) (by omega)]; exact v7 q hq
  · rw [e _ (by omega) (by omega), e _ (by omega) (by omega), e _ (by omega) (by omega), e _ (by omega) (by omega), e _ (by omega) (by omega), e _ (by omega) (by omega), e _ (by omega) (by omega)]
    obtain ⟨w0, w1, w2, w3, w4, w5, w6⟩ := v8 c hc
    exact ⟨w0, w1, w2, w3, w4, by omega, by omega⟩
  · rw [e _ (by omega) (by omega), e _ (by omega) (by omega), e _ (by omega) (by omega)]
    exact v9 k hk
  · rw [e _ (by omega) (by omega)]
    refine ⟨(v10 t ht).1, fun i hi => ?_⟩
    rw [e _ (by omega) (by omega), e _ (by omega) (by omega)]
    exact (v10 t ht).2 i hi
/-- the summer, the ruling text -/
theorem hl_V_35 {N : Nat} {S S' : Nat → Int} (hN : N ≤ 24) (hV : hl_V N S) (e : ∀ j, ¬ (3 ≤ j ∧ j ≤ 5) → S' j = S j) (h3 : -1 ≤ S' 3 ∧ S' 3 < S 2) (h4 : S' 4 = -1 ∨ (0 ≤ S' 4 ∧ S' 4 ≤ 11 ∧ 0 ≤ S' 5 ∧ S' 5 ≤ 11)) : hl_V N S' := by
  obtain ⟨v0, v1, v2, v3, v4, v5, v6, v7, v8, v9, v10⟩ := hV
  unfold hl_V
  rw [e 0 (by omega), e 1 (by omega), e 2 (by omega)]
  refine ⟨v0, v1, v2, h3, h4, fun h hh => ?_, fun h hh => ?_, fun q hq => ?_, fun c hc => ?_, fun k hk => ?_, fun t ht => ?_⟩
  · rw [e _ (by omega)]; exact v5 h hh
  · rw [e _ (by omega), e _ (by omega)]; exact v6 h hh
  · rw [e _ (by omega)]; exact v7 q hq
  · rw [e _ (by omega), e _ (by omega), e _ (by omega), e _ (by omega), e _ (by omega), e _ (by omega), e _ (by omega)]; exact v8 c hc
  · rw [e _ (by omega), e _ (by omega), e _ (by omega)]; exact v9 k hk
  · rw [e _ (by omega)]
    refine ⟨(v10 t ht).1, fun i hi => ?_⟩
    rw [e _ (by omega), e _ (by omega)]
    exact (v10 t ht).2 i hi
theorem hl_V_stop {N t q : Nat} {S S' : Nat → Int} {x z : Int} (hN : N ≤ 24) (hV : hl_V N S) (ht : t < 6) (h1 : S (330 + t) = (q : Int)) (hc : q < 12) (e1 : S' (330 + t) = (q : Int) + 1) (e : ∀ j, j ≠ 330 + t → ¬ (340 + 24 * t + 2 * q ≤ j ∧ j < 340 + 24 * t + 2 * q + 2) → S' j = S j) (ex : S' (340 + 24 * t + 2 * q) = x) (ez : S' (340 + 24 * t + 2 * q + 1) = z) (hx : 0 ≤ x ∧ x < N) (hz : 1 ≤ z ∧ z ≤ 999) : hl_V N S' := by
  obtain ⟨v0, v1, v2, v3, v4, v5, v6, v7, v8, v9, v10⟩ := hV
  unfold hl_V
  rw [e 0 (by omega) (by omega), e 1 (by omega) (by omega), e 2 (by omega) (by omega), e 3 (by omega) (by omega), e 4 (by omega) (by omega), e 5 (by omega) (by omega)]
  refine ⟨v0, v1, v2, v3, v4, fun h hh => ?_, fun h hh => ?_, fun q hq => ?_, fun c hc => ?_, fun k hk => ?_, fun t' ht' => ?_⟩
  · rw [e _ (by omega) (by omega)]; exact v5 h hh
  · rw [e _ (by omega) (by omega), e _ (by omega) (by omega)]; exact v6 h hh
  · rw [e _ (by omega) (by omega)]; exact v7 q hq
  · rw [e _ (by omega) (by omega), e _ (by omega) (by omega), e _ (by omega) (by omega), e _ (by omega) (by omega), e _ (by omega) (by omega), e _ (by omega) (by omega), e _ (by omega) (by omega)]; exact v8 c hc
  · rw [e _ (by omega) (by omega), e _ (by omega) (by omega), e _ (by omega) (by omega)]; exact v9 k hk
  · by_cases htt : t' = t
    · subst htt
      rw [e1]
      refine ⟨by omega, fun i hi => ?_⟩
      by_cases hiq : i = q
      · subst hiq
        rw [ex, ez]
        exact ⟨hx, hz⟩
      · rw [e _ (by omega) (by omega), e _ (by omega) (by omega)]
        exact (v10 t' ht').2 i (by omega)
    · have h0 := (v10 t' ht').1
      rw [e _ (by omega) (by omega)]
      refine ⟨h0, fun i hi => ?_⟩
      rw [e _ (by omega) (by omega), e _ (by omega) (by omega)]
      exact (v10 t' ht').2 i hi
section HLPB
variable {TE : (Nat → Nat → Int32) → Nat → Prop} {N W H : Nat} {I I' : Nat → Nat → Int32} {J J' : Nat → Nat → Int64}
/-- tie -/
theorem hl_pr1 (hTE : hl_TEc TE) (hN : N ≤ 24) (f : Nat → Int32) : hl_PQ TE N W H 106 158 (hl_args 1 f) := by
  intro I J hI
  show ∃ v I1 J1 I2 J2, hl_call 1001 106 [.ref 0, .int (f 1), .int (f 2), .int (f 3)] (hl_g N I J) = some (some (.int v), hl_g N I1 J1) ∧ hl_call 1001 158 [.ref 85, .int (f 1), .int (f 2), .int (f 3)] (hl_g N I1 J1) = some (some (.int v), hl_g N I2 J2) ∧ hl_Inv TE N W H I2
  obtain ⟨cn, h40, hc1, hm1, hs1⟩ := hI.cn
  cases hg : hl_gt0 N (f 1) (f 2) (f 3) with
  | false => exact ⟨-1, I, J, I, J, hl_s106f (d := 998) hI.cM hN hg, hl_s158f (d := 998) hI.mM hN hm1 h40 (by rw [hg]; rfl), hI⟩
  | true =>
    by_cases hlt : cn < 40
    · have hg' := hg
      unfold hl_gt0 at hg'
      simp only [Bool.and_eq_true, Bool.not_eq_true', decide_eq_false_iff_not] at hg'
      obtain ⟨⟨⟨g1, g2⟩, g3⟩, g4⟩ := hg'
      have i1 := hl_inb_E g1 (by omega)
      have i2 := hl_inb_E g2 (by omega)
      have i4 := hl_in_E g4
      have i3 : (f 1).toInt ≠ (f 2).toInt := fun q => g3 (Int32.toInt_inj.mp q)
      refine ⟨nI (cn + 1), _, J, _, J, hl_s106t (d := 998) hI.cM hN hg (hl_s81t (d := 999) hc1 hlt), hl_s158t (d := 998) hI.mM hN hm1 hlt hg, ?_⟩
      generalize f 1 = x at *
      generalize f 2 = y at *
      generalize f 3 = z at *
      have tn : (nI (cn + 1)).toInt = (cn : Int) + 1 := by rw [hl_tI (by omega)]; omega
      generalize hn : nI (cn + 1) = m at *
      generalize hI2 : hl_up (hl_up (hl_up (hl_up (hl_up (hl_up (hl_up (hl_up I 12 cn x) 13 cn y) 14 cn z) 11 3 m) 86 (200 + 3 * cn) x) 86 (200 + 3 * cn + 1) y) 86 (200 + 3 * cn + 2) z) 86 1 m = I2
      have r : ∀ q, q ≠ 86 → I2 q = hl_up (hl_up (hl_up (hl_up I 12 cn x) 13 cn y) 14 cn z) 11 3 m q := fun q hq => by
        rw [← hI2, hl_up_ne _ _ _ hq, hl_up_ne _ _ _ hq, hl_up_ne _ _ _ hq, hl_up_ne _ _ _ hq]
      have r0 : ∀ q, ¬ (11 ≤ q ∧ q ≤ 14) → q ≠ 86 → I2 q = I q := fun q h1 h3 => by
        rw [r q h3, hl_up_ne _ _ _ (by omega), hl_up_ne _ _ _ (by omega), hl_up_ne _ _ _ (by omega), hl_up_ne _ _ _ (by omega)]
      have r86 : ∀ j, I2 86 j = if j = 1 then m else if j = 200 + 3 * cn + 2 then z else if j = 200 + 3 * cn + 1 then y else if j = 200 + 3 * cn then x else I 86 j := fun j => by rw [← hI2]; rfl
      have S86 : ∀ j, hl_Sv I2 86 j = if j = 1 then m.toInt else if j = 200 + 3 * cn + 2 then z.toInt else if j = 200 + 3 * cn + 1 then y.toInt else if j = 200 + 3 * cn then x.toInt else hl_Sv I 86 j := fun j => by
        unfold hl_Sv
        rw [r86]
        (repeat' split) <;> rfl
      refine hl_Inv_q hTE hI (hl_Qt_of (fun q h1 h2 h3 => r0 q (by omega) h2) (by rw [r86, if_neg (by omega), if_neg (by omega), if_neg (by omega), if_neg (by omega)])) ⟨?_, ?_⟩ (hl_Pu_k hI.2.2.2.2.1 (by rw [r86, if_neg (by omega), if_neg (by omega), if_neg (by omega), if_neg (by omega)]) (r0 64 (by omega) (by omega)) (fun c' hc' => .inr ⟨by rw [r0 65 (by omega) (by omega)], hl_PD_of (fun b hb => r0 b (by omega) (by omega)) c'⟩))
      · have e0 := hl_La_up (v := x) hI.2.1.1 (hl_ri_tie (i := 0) hN hlt (by omega))
        have e1 := hl_La_up (v := y) e0 (hl_ri_tie (i := 1) hN hlt (by omega))
        have e2 := hl_La_up (v := z) e1 (hl_ri_tie (i := 2) hN hlt (by omega))
        have e3 := hl_La_up (v := m) e2 (show hl_ri N 1 = some (10, 3) from rfl)
        refine hl_LE_rows e3 (fun q h1 h2 => ?_) ?_
        · rw [r q (by omega)]
          have n86 : q ≠ 86 := by omega
          funext j
          simp only [hl_up_a, if_neg n86]
        · funext j
          rw [r86]
          rfl
      · refine hl_V_tie hN hI.2.1.2 hs1 hlt (by rw [S86, if_pos rfl, tn]) (fun j h1 h2 => by rw [S86, if_neg h1, if_neg (by omega), if_neg (by omega), if_neg (by omega)]) (by rw [S86, if_neg (by omega), if_neg (by omega), if_neg (by omega), if_pos rfl]) (by rw [S86, if_neg (by omega), if_neg (by omega), if_pos rfl]) (by rw [S86, if_neg (by omega), if_pos rfl]) i1 i2 i3 i4
    · have e40 : ¬ I 11 3 < 40 := by rw [hc1]; exact nI_nlt (b := 40) (by omega) (by omega)
      refine ⟨-1, I, J, I, J, hl_s106t (d := 998) hI.cM hN hg (hl_s81f (d := 999) e40), hl_s158f (d := 998) hI.mM hN hm1 h40 (by rw [hg, decide_eq_false hlt]; rfl), hI⟩
/-- hour -/
theorem hl_pr2 (hTE : hl_TEc TE) (hN : N ≤ 24) (f : Nat → Int32) : hl_PQ TE N W H 107 159 (hl_args 2 f) := by
  intro I J hI
  show ∃ v I1 J1 I2 J2, hl_call 1001 107 [.ref 0, .int (f 1)] (hl_g N I J) = some (some (.int v), hl_g N I1 J1) ∧ hl_call 1001 159 [.ref 85, .int (f 1)] (hl_g N I1 J1) = some (some (.int v), hl_g N I2 J2) ∧ hl_Inv TE N W H I2
  obtain ⟨nh, h4, hc1, hm1, hs1⟩ := hI.nh
  generalize f 1 = x
  -- the last hour's offset
  have hoff : ∀ k, nh = k + 1 → I 9 k = I 86 (10 + k) ∧ 0 ≤ (I 86 (10 + k)).toInt ∧ (I 86 (10 + k)).toInt ≤ 300 := fun k hk => ⟨hI.2.1.1.off (by omega), hI.2.1.2.2.2.2.2.2.1 k (by rw [hs1]; omega)⟩
  have hlow : ∀ k, nh = k + 1 → (hl_hlow I nh).toInt = (I 86 (10 + k)).toInt + 1 := fun k hk => by
    obtain ⟨o1, o2, o3⟩ := hoff k hk
    subst hk
    show (I 9 k + 1).toInt = _
    rw [o1, Int32.toInt_add]
    have : (1 : Int32).toInt = 1 := rfl
    rw [this, Int.bmod_eq_of_le (by omega) (by omega)]
  have e300 : (300 : Int32).toInt = 300 := rfl
  have e0 : (0 : Int32).toInt = 0 := rfl
  cases hg : decide (nh < 4) && hl_in x (hl_hlow I nh) 300 with
  | false =>
    refine ⟨-1, I, J, I, J, hl_s107f (d := 998) hc1 h4 hg, hl_s159f (d := 998) hm1 h4 ?_, hI⟩
    by_cases hlt : nh < 4
    · rw [decide_eq_true hlt, Bool.true_and] at hg
      cases h0 : hl_in x 0 300 with
      | false => exact .inl rfl
      | true =>
        refine .inr (.inr ?_)
        cases nh with
        | zero =>
          rw [show hl_hlow I 0 = 0 from rfl, h0] at hg
          cases hg
        | succ k =>
          refine ⟨k, rfl, ?_⟩
          have := hl_in_E h0
          have hl := hlow k rfl
          unfold hl_in at hg
          rw [Bool.and_eq_false_iff, decide_eq_false_iff_not, decide_eq_false_iff_not, Int32.le_iff_toInt_le, Int32.le_iff_toInt_le, hl] at hg
          rw [Int32.le_iff_toInt_le]
          omega
    · exact .inr (.inl (by omega))
  | true =>
    rw [Bool.and_eq_true, decide_eq_true_eq] at hg
    obtain ⟨hlt, g⟩ := hg
    have i1 := hl_in_E g
    have hx0 : 0 ≤ x.toInt ∧ x.toInt ≤ 300 := by
      cases nh with
      | zero => exact i1
      | succ k =>
        have hl := hlow k rfl
        have := (hoff k rfl).2.1
        omega
    have hx1 : ∀ k, nh = k + 1 → (I 86 (10 + k)).toInt < x.toInt := fun k hk => by have := hlow k hk; omega
    have h0 : hl_in x 0 300 = true := by
      unfold hl_in
      rw [Bool.and_eq_true, decide_eq_true_eq, decide_eq_true_eq, Int32.le_iff_toInt_le, Int32.le_iff_toInt_le, e0, e300]
      exact hx0
    have tn : (nI (nh + 1)).toInt = (nh : Int) + 1 := by rw [hl_tI (by omega)]; omega
    generalize hw : hl_fz (hl_up (hl_up I 9 nh x) 1 8 (nI (nh + 1))) N = I1
    have w86 : I1 86 = I 86 := by rw [← hw]; rfl
    refine ⟨nI nh, I1, J, _, J, by rw [← hw]; exact hl_s107t (d := 998) hc1 hN hlt g, hl_s159t (d := 998) (by rw [w86]; exact hm1) hlt h0 (fun k hk => by rw [w86, Int32.lt_iff_toInt_lt]; exact hx1 k hk), ?_⟩
    generalize nI (nh + 1) = m at *
    generalize hI2 : hl_up (hl_up I1 86 (10 + nh) x) 86 0 m = I2
    have r : ∀ q, q ≠ 86 → q ≠ 65 → I2 q = hl_up (hl_up I 9 nh x) 1 8 m q := fun q hq h5 => by rw [← hI2, hl_up_ne _ _ _ hq, hl_up_ne _ _ _ hq, ← hw, hl_fz_ne h5]
    have r0 : ∀ q, q ≠ 1 → q ≠ 9 → q ≠ 65 → q ≠ 86 → I2 q = I q := fun q h1 h9 h2 h3 => by rw [r q h3 h2, hl_up_ne _ _ _ h1, hl_up_ne _ _ _ h9]
    have r86 : ∀ j, I2 86 j = if j = 0 then m else if j = 10 + nh then x else I 86 j := fun j => by rw [← hI2, ← w86]; rfl
    have S86 : ∀ j, hl_Sv I2 86 j = if j = 0 then m.toInt else if j = 10 + nh then x.toInt else hl_Sv I 86 j := fun j => by
      unfold hl_Sv
      rw [r86]
      (repeat' split) <;> rfl
    refine hl_Inv_q hTE hI (hl_Qt_of (fun q h1 h2 h3 => r0 q (by omega) (by omega) (by omega) h2) (by rw [r86, if_neg (by omega), if_neg (by omega)])) ⟨?_, ?_⟩ (hl_Pu_0 fun c' hc' => by rw [← hI2, hl_up_ne _ _ _ (by omega), hl_up_ne _ _ _ (by omega), ← hw, hl_fz_at hc'])
    · refine hl_LE_rows (hl_La_up (v := m) (hl_La_up (v := x) hI.2.1.1 (hl_ri_off hlt)) (show hl_ri N 0 = some (0, 8) from rfl)) (fun q h1 h2 => ?_) ?_
      · rw [r q (by omega) (by omega)]
        have n86 : q ≠ 86 := by omega
        funext j
        simp only [hl_up_a, if_neg n86]
      · funext j; rw [r86]; rfl
    · exact hl_V_hour hN hI.2.1.2 hs1 hlt (by rw [S86, if_pos rfl, tn]) (fun j h1 h2 => by rw [S86, if_neg h1, if_neg h2]) (by rw [S86, if_neg (by omega), if_pos rfl]) hx0 hx1
theorem hl_Inv_sum (hTE : hl_TEc TE) (hN : N ≤ 24) (hI : hl_Inv TE N W H I) : ∀ x y : Int32, (x.toInt = -1 ∨ (0 ≤ x.toInt ∧ x.toInt ≤ 11 ∧ 0 ≤ y.toInt ∧ y.toInt ≤ 11)) → hl_Inv TE N W H (hl_up (hl_up (hl_fz (hl_up (hl_up I 1 10 x) 1 11 y) N) 86 4 x) 86 5 y) := by
  intro x y hxy
  generalize hI2 : hl_up (hl_up (hl_fz (hl_up (hl_up I 1 10 x) 1 11 y) N) 86 4 x) 86 5 y = I2
  have r : ∀ q, q ≠ 86 → q ≠ 65 → I2 q = hl_up (hl_up I 1 10 x) 1 11 y q := fun q hq h5 => by rw [← hI2, hl_up_ne _ _ _ hq, hl_up_ne _ _ _ hq, hl_fz_ne h5]
  have r0 : ∀ q, q ≠ 1 → q ≠ 65 → q ≠ 86 → I2 q = I q := fun q h1 h2 h3 => by rw [r q h3 h2, hl_up_ne _ _ _ h1, hl_up_ne _ _ _ h1]
  have r86 : ∀ j, I2 86 j = if j = 5 then y else if j = 4 then x else I 86 j := fun j => by rw [← hI2]; rfl
  have S86 : ∀ j, hl_Sv I2 86 j = if j = 5 then y.toInt else if j = 4 then x.toInt else hl_Sv I 86 j := fun j => by
    unfold hl_Sv
    rw [r86]
    (repeat' split) <;> rfl
  refine hl_Inv_q hTE hI (hl_Qt_of (fun q h1 h2 h3 => r0 q (by omega) (by omega) h2) (by rw [r86, if_neg (by omega), if_neg (by omega)])) ⟨?_, ?_⟩ (hl_Pu_0 fun c' hc' => by rw [← hI2, hl_up_ne _ _ _ (by omega), hl_up_ne _ _ _ (by omega), hl_fz_at hc'])
  · refine hl_LE_rows (hl_La_up (v := y) (hl_La_up (v := x) hI.2.1.1 (show hl_ri N 4 = some (0, 10) from rfl)) (show hl_ri N 5 = some (0, 11) from rfl)) (fun q h1 h2 => ?_) ?_
    · rw [r q (by omega) (by omega)]
      have n86 : q ≠ 86 := by omega
      funext j
      simp only [hl_up_a, if_neg n86]
    · funext j; rw [r86]; rfl
  · refine hl_V_35 hN hI.2.1.2 (fun j hj => by rw [S86, if_neg (by omega), if_neg (by omega)]) ?_ ?_
    · rw [S86, if_neg (by omega), if_neg (by omega)]; exact hI.2.1.2.2.2.2.1
    · rw [S86, S86, if_neg (by omega), if_pos rfl, if_pos rfl]; exact hxy
/-- summer -/
theorem hl_pr4 (hTE : hl_TEc TE) (hN : N ≤ 24) (f : Nat → Int32) : hl_PQ TE N W H 109 162 (hl_args 4 f) := by
  intro I J hI
  show ∃ v I1 J1 I2 J2, hl_call 1001 109 [.ref 0, .int (f 1), .int (f 2)] (hl_g N I J) = some (some (.int v), hl_g N I1 J1) ∧ hl_call 1001 162 [.ref 85, .int (f 1), .int (f 2)] (hl_g N I1 J1) = some (some (.int v), hl_g N I2 J2) ∧ hl_Inv TE N W H I2
  generalize f 1 = x
  generalize f 2 = y
  have go := hl_Inv_sum hTE hN hI
  by_cases hx : x = -1
  · subst hx
    exact ⟨1, _, J, _, J, hl_s109n (d := 998) hN, hl_s162n (d := 998), go (-1) (-1) (.inl rfl)⟩
  · cases hg : hl_inb x 12 && hl_inb y 12 with
    | false => exact ⟨0, I, J, I, J, hl_s109f (d := 998) hx hg, hl_s162f (d := 998) hx hg, hI⟩
    | true =>
      rw [Bool.and_eq_true] at hg
      have i1 := hl_inb_E hg.1 (by omega)
      have i2 := hl_inb_E hg.2 (by omega)
      exact ⟨1, _, J, _, J, hl_s109t (d := 998) hN hx hg.1 hg.2, hl_s162t (d := 998) hx hg.1 hg.2, go x y (.inr ⟨i1.1, by omega, i2.1, by omega⟩)⟩
/-- by -/
theorem hl_pr11 (hTE : hl_TEc TE) (hN : N ≤ 24) (f : Nat → Int32) : hl_PQ TE N W H 116 198 (hl_args 11 f) := by
  intro I J hI
  show ∃ v I1 J1 I2 J2, hl_call 1001 116 [.ref 0, .int (f 1)] (hl_g N I J) = some (some (.int v), hl_g N I1 J1) ∧ hl_call 1001 198 [.ref 85, .int (f 1)] (hl_g N I1 J1) = some (some (.int v), hl_g N I2 J2) ∧ hl_Inv TE N W H I2
  generalize f 1 = x
  obtain ⟨tn, t4, hc1, hm1, hs1⟩ := hI.tn
  cases hg : hl_in x (-1) (I 1 12 - 1) with
  | false => exact ⟨0, I, J, I, J, hl_s116f (d := 999) hg, hl_s198f (d := 999) (by rw [hm1, ← hc1]; exact hg), hI⟩
  | true =>
    have i1 := hl_in_E hg
    rw [hc1, nI_sub1 (by omega)] at i1
    have em1 : (-1 : Int32).toInt = -1 := rfl
    rw [em1] at i1
    have w86 : hl_fz (hl_up I 1 13 x) N 86 = I 86 := rfl
    refine ⟨1, _, J, _, J, hl_s116t (d := 999) hN hg, hl_s198t (d := 999) (by rw [w86, hm1, ← hc1]; exact hg), ?_⟩
    generalize hI2 : hl_up (hl_fz (hl_up I 1 13 x) N) 86 3 x = I2
    have r : ∀ q, q ≠ 86 → q ≠ 65 → I2 q = hl_up I 1 13 x q := fun q hq h5 => by rw [← hI2, hl_up_ne _ _ _ hq, hl_fz_ne h5]
    have r0 : ∀ q, q ≠ 1 → q ≠ 65 → q ≠ 86 → I2 q = I q := fun q h1 h2 h3 => by rw [r q h3 h2, hl_up_ne _ _ _ h1]
    have r86 : ∀ j, I2 86 j = if j = 3 then x else I 86 j := fun j => by rw [← hI2]; rfl
    have S86 : ∀ j, hl_Sv I2 86 j = if j = 3 then x.toInt else hl_Sv I 86 j := fun j => by
      unfold hl_Sv
      rw [r86]
      (repeat' split) <;> rfl
    refine hl_Inv_q hTE hI (hl_Qt_of (fun q h1 h2 h3 => r0 q (by omega) (by omega) h2) (by rw [r86, if_neg (by omega)])) ⟨?_, ?_⟩ (hl_Pu_0 fun c' hc' => by rw [← hI2, hl_up_ne _ _ _ (by omega), hl_fz_at hc'])
    · refine hl_LE_rows (hl_La_up (v := x) hI.2.1.1 (show hl_ri N 3 = some (0, 13) from rfl)) (fun q h1 h2 => ?_) ?_
      · rw [r q (by omega) (by omega), hl_up_ne _ _ _ (show q ≠ 86 by omega)]
      · funext j; rw [r86]; rfl
    · refine hl_V_35 hN hI.2.1.2 (fun j hj => by rw [S86, if_neg (by omega)]) ?_ ?_
      · rw [S86, if_pos rfl, hs1]; omega
      · rw [S86, S86, if_neg (by omega), if_neg (by omega)]; exact hI.2.1.2.2.2.2.2.1
/-- stop -/
theorem hl_pr24 (hTE : hl_TEc TE) (hN : N ≤ 24) (f : Nat → Int32) : hl_PQ TE N W H 129 249 (hl_args 24 f) := by
  intro I J hI
  show ∃ v I1 J1 I2 J2, hl_call 1001 129 [.ref 0, .int (f 1), .int (f 2), .int (f 3)] (hl_g N I J) = some (some (.int v), hl_g N I1 J1) ∧ hl_call 1001 249 [.ref 85, .int (f 1), .int (f 2), .int (f 3)] (hl_g N I1 J1) = some (some (.int v), hl_g N I2 J2) ∧ hl_Inv TE N W H I2
  cases hg : hl_inb (f 1) 6 && hl_inb (f 2) N && hl_in (f 3) 1 999 with
  | false => exact ⟨-1, I, J, I, J, hl_s129f (d := 998) hI.cM hN hg, hl_s249f (d := 998) hI.mM hN hg, hI⟩
  | true =>
    have hg' := hg
    simp only [Bool.and_eq_true] at hg'
    obtain ⟨⟨g1, g2⟩, g3⟩ := hg'
    obtain ⟨t, ht, et⟩ := hl_inb_of g1 (by omega)
    rw [et] at hg ⊢
    have i2 := hl_inb_E g2 (by omega)
    have i3 := hl_in_E g3
    obtain ⟨q, -, q12, hmq, hsq⟩ := hl_sv (a := 0) (b := 12) (hI.2.1.2.2.2.2.2.2.2.2.2.2.2 t ht).1
    have hcq : I 18 t = nI q := (hI.2.1.1.cnt hN ht).trans hmq
    by_cases hlt : q < 12
    · refine ⟨nI (q + 1), _, J, _, J, hl_s129t (d := 998) hI.cM hN hg (hl_s92t (d := 999) ht hcq hlt), hl_s249t (d := 998) hI.mM hN ht g2 g3 hmq hlt, ?_⟩
      have tn : (nI (q + 1)).toInt = (q : Int) + 1 := by rw [hl_tI (by omega)]; omega
      generalize nI (q + 1) = m at *
      generalize f 2 = x at *
      generalize f 3 = z at *
      generalize hI2 : hl_up (hl_up (hl_up (hl_up (hl_up (hl_up I 16 (12 * t + q) x) 17 (12 * t + q) z) 18 t m) 86 (340 + 24 * t + 2 * q) x) 86 (340 + 24 * t + 2 * q + 1) z) 86 (330 + t) m = I2
      have r : ∀ b, b ≠ 86 → I2 b = hl_up (hl_up (hl_up I 16 (12 * t + q) x) 17 (12 * t + q) z) 18 t m b := fun b hb => by rw [← hI2, hl_up_ne _ _ _ hb, hl_up_ne _ _ _ hb, hl_up_ne _ _ _ hb]
      have r0 : ∀ b, ¬ (16 ≤ b ∧ b ≤ 18) → b ≠ 86 → I2 b = I b := fun b h1 h3 => by rw [r b h3, hl_up_ne _ _ _ (by omega), hl_up_ne _ _ _ (by omega), hl_up_ne _ _ _ (by omega)]
      have r86 : ∀ j, I2 86 j = if j = 330 + t then m else if j = 340 + 24 * t + 2 * q + 1 then z else if j = 340 + 24 * t + 2 * q then x else I 86 j := fun j => by rw [← hI2]; rfl
      have S86 : ∀ j, hl_Sv I2 86 j = if j = 330 + t then m.toInt else if j = 340 + 24 * t + 2 * q + 1 then z.toInt else if j = 340 + 24 * t + 2 * q then x.toInt else hl_Sv I 86 j := fun j => by
        unfold hl_Sv
        rw [r86]
        (repeat' split) <;> rfl
      refine hl_Inv_q hTE hI (hl_Qt_of (fun b h1 h2 h3 => r0 b (by omega) h2) (by rw [r86, if_neg (by omega), if_neg (by omega), if_neg (by omega)])) ⟨?_, ?_⟩ (hl_Pu_k hI.2.2.2.2.1 (by rw [r86, if_neg (by omega), if_neg (by omega), if_neg (by omega)]) (r0 64 (by omega) (by omega)) (fun c' hc' => .inr ⟨by rw [r0 65 (by omega) (by omega)], hl_PD_of (fun b hb => r0 b (by omega) (by omega)) c'⟩))
      · have e0 := hl_La_up (v := x) hI.2.1.1 (hl_ri_stop (i := 0) hN ht hlt (by omega))
        have e1 := hl_La_up (v := z) e0 (hl_ri_stop (i := 1) hN ht hlt (by omega))
        have e2 := hl_La_up (v := m) e1 (hl_ri_cnt hN ht)
        refine hl_LE_rows e2 (fun b h1 h2 => ?_) ?_
        · rw [r b (by omega)]
          have n86 : b ≠ 86 := by omega
          funext j
          simp only [hl_up_a, if_neg n86]
        · funext j; rw [r86]; rfl
      · exact hl_V_stop hN hI.2.1.2 ht hsq hlt (by rw [S86, if_pos rfl, tn]) (fun j h1 h2 => by rw [S86, if_neg h1, if_neg (by omega), if_neg (by omega)]) (by rw [S86, if_neg (by omega), if_neg (by omega), if_pos rfl]) (by rw [S86, if_neg (by omega), if_pos rfl]) i2 i3
    · have e12 : q = 12 := by omega
      subst e12
      exact ⟨-1, I, J, I, J, hl_s129t (d := 998) hI.cM hN hg (hl_s92f (d := 999) ht hcq), hl_s249g (d := 998) hI.mM hN ht g2 g3 hmq, hI⟩
/-- fault -/
theorem hl_pr10 (f : Nat → Int32) : hl_PQ TE N W H 115 197 (hl_args 10 f) := by
  refine hl_PQ_same fun I J hI => ⟨_, hl_s115 (d := 1000), ?_⟩
  have := hl_s197 (d := 1000) (N := N) (I := I) (J := J) (x := f 1)
  rw [← hI.1.2.2.2.1, ← hI.1.2.2.2.2] at this
  exact this
/-- off -/
theorem hl_smr_smm {a b m : Int32} (h : a = -1 ∨ 0 ≤ a.toInt) : hl_smr a b m = hl_smm a b m := by
  unfold hl_smr hl_smm
  have e0 : (0 : Int32).toInt = 0 := rfl
  rcases h with h | h
  · subst h; rfl
  · have h1 : ¬ a < 0 := by rw [Int32.lt_iff_toInt_lt, e0]; omega
    have h2 : ¬ a = -1 := fun q => by subst q; exact absurd h (by decide)
    rw [if_neg h1, if_neg h2]
theorem hl_Inv.smr (hI : hl_Inv TE N W H I) (m : Int32) : hl_smr (I 1 10) (I 1 11) m = hl_smm (I 86 4) (I 86 5) m := by
  rw [hI.2.1.1.h4, hI.2.1.1.h5]
  refine hl_smr_smm ?_
  have := hI.2.1.2.2.2.2.2.1
  unfold hl_Sv at this
  rcases this with q | q
  · exact .inl (Int32.toInt_inj.mp q)
  · exact .inr q.1
theorem hl_pr12 (hN : N ≤ 24) (f : Nat → Int32) : hl_PQ TE N W H 117 207 (hl_args 12 f) := by
  refine hl_PQ_same fun I J hI => ?_
  obtain ⟨nh, h4, hc1, hm1, hs1⟩ := hI.nh
  show ∃ v, hl_call 1001 117 [.ref 0, .int (f 1), .int (f 2), .int (f 3), .int (f 4)] (hl_g N I J) = some (some (.int v), hl_g N I J) ∧ hl_call 1001 207 [.ref 85, .int (f 1), .int (f 2), .int (f 3), .int (f 4)] (hl_g N I J) = some (some (.int v), hl_g N I J)
  cases hg : hl_inb (f 1) N && hl_inb (f 2) nh && hl_inb (f 3) 12 && hl_in (f 4) 0 1 with
  | false => exact ⟨-100000, hl_s117f (d := 998) hI.cM hc1 hN h4 hg, hl_s207f (d := 998) hI.mM hm1 hN h4 hg⟩
  | true =>
    simp only [Bool.and_eq_true] at hg
    obtain ⟨⟨⟨g1, g2⟩, g3⟩, g4⟩ := hg
    obtain ⟨c, hc, ec⟩ := hl_inb_of g1 (by omega)
    obtain ⟨h, hh, eh⟩ := hl_inb_of g2 (by omega)
    obtain ⟨m, hm, em⟩ := hl_inb_of g3 (by omega)
    rw [ec, eh, em]
    refine ⟨_, hl_s117t (d := 998) hI.cM hc1 hN h4 hc hh hm g4, ?_⟩
    have := hl_s207t (d := 996) (J := J) hI.mM hm1 hN h4 hc hh hm g4
    rw [← hI.2.1.1.off (show h < 4 by omega), ← show I 2 c = I 86 (30 + 7 * c) from hI.2.1.1.cell (i := 0) hN hc (by omega), ← hI.2.1.1.cell (i := 3) hN hc (by omega), ← hI.2.1.1.rise hm, ← hI.smr] at this
    exact this
/-- end -/
theorem hl_Inv_tape (hTE : hl_TEc TE) (h : hl_Inv TE N W H I) (q : ∀ b, b ≠ 0 → b ≠ 85 → b ≠ 37 → b ≠ 89 → I' b = I b) (q0 : ∀ k, k ≠ 6 → I' 0 k = I 0 k) (q85 : ∀ k, k ≠ 7 → I' 85 k = I 85 k) (t : hl_Tp I') : hl_Inv TE N W H I' := by
  obtain ⟨a, b, c, d, e, f, g⟩ := h
  have s6 : hl_Sv I' 86 = hl_Sv I 86 := by funext j; unfold hl_Sv; rw [q 86 (by omega) (by omega) (by omega) (by omega)]
  have s7 : hl_Sv I' 87 = hl_Sv I 87 := by funext j; unfold hl_Sv; rw [q 87 (by omega) (by omega) (by omega) (by omega)]
  refine ⟨?_, ⟨?_, ?_⟩, ⟨?_, ?_, ?_⟩, t, ?_, ?_, ?_⟩
  · unfold hl_A9
    rw [q0 0 (by omega), q0 1 (by omega), q0 2 (by omega), q85 0 (by omega), q85 1 (by omega), q85 2 (by omega), q85 8 (by omega), q85 9 (by omega), q 66 (by omega) (by omega) (by omega) (by omega), q 38 (by omega) (by omega) (by omega) (by omega)]
    exact a
  · exact hl_LE_congr b.1 (fun r hr => q _ (by omega) (by omega) (by omega) (by omega)) (q 86 (by omega) (by omega) (by omega) (by omega))
  · rw [s6]; exact b.2
  · exact hl_LE_congr c.1 (fun r hr => q _ (by omega) (by omega) (by omega) (by omega)) (q 87 (by omega) (by omega) (by omega) (by omega))
  · rw [s7]; exact c.2.1
  · rw [s6, s7]; exact c.2.2
  · exact hl_Pu_k e (by rw [q 86 (by omega) (by omega) (by omega) (by omega)]) (q 64 (by omega) (by omega) (by omega) (by omega)) (fun c' hc' => .inr ⟨by rw [q 65 (by omega) (by omega) (by omega) (by omega)], hl_PD_of (fun b hb => q b (by omega) (by omega) (by omega) (by omega)) c'⟩)
  · intro T cl hT hcl
    rw [q (46 + 4 * T) (by omega) (by omega) (by omega) (by omega), q (47 + 4 * T) (by omega) (by omega) (by omega) (by omega)]
    exact f T cl hT hcl
  · intro T hT
    rw [s6] at hT
    have hV := b.2.2.2.1
    exact hTE I I' T (q _ (by omega) (by omega) (by omega) (by omega)) (q _ (by omega) (by omega) (by omega) (by omega)) (q _ (by omega) (by omega) (by omega) (by omega)) (fun k _ _ => by rw [q 88 (by omega) (by omega) (by omega) (by omega)]) (g T hT)
theorem hl_pr8 (hTE : hl_TEc TE) (f : Nat → Int32) : hl_PQ TE N W H 113 167 (hl_args 8 f) := by
  intro I J hI
  show ∃ v I1 J1 I2 J2, hl_call 1001 113 [.ref 0, .int (f 1)] (hl_g N I J) = some (some (.int v), hl_g N I1 J1) ∧ hl_call 1001 167 [.ref 85, .int (f 1)] (hl_g N I1 J1) = some (some (.int v), hl_g N I2 J2) ∧ hl_Inv TE N W H I2
  generalize f 1 = x
  obtain ⟨fd, hfd, t1, t2, t3⟩ := hI.2.2.2.1
  cases hg : hl_in x 0 (I 0 6) with
  | false => exact ⟨-1, I, J, I, J, hl_s113f (d := 999) hg, hl_s167f (d := 999) (by rw [t2, ← t1]; exact hg), hI⟩
  | true =>
    have i1 := hl_in_E hg
    rw [t1, hl_tI (by omega)] at i1
    have e0 : (0 : Int32).toInt = 0 := rfl
    rw [e0] at i1
    obtain ⟨k, k1, k2, k3⟩ := hl_nat i1.1
    have w85 : hl_up I 0 6 x 85 = I 85 := rfl
    refine ⟨x, _, J, _, J, hl_s113t (d := 999) hg, hl_s167t (d := 999) (by rw [w85, t2, ← t1]; exact hg), ?_⟩
    refine hl_Inv_tape hTE hI (fun b h0 h1 h2 h3 => by rw [hl_up_ne _ _ _ h1, hl_up_ne _ _ _ h0]) (fun j hj => ?_) (fun j hj => ?_) ⟨k, by omega, k2, k2, t3⟩
    · show (if j = 6 then x else I 0 j) = _
      rw [if_neg hj]
    · show (if j = 7 then x else I 85 j) = _
      rw [if_neg hj]
end HLPB
