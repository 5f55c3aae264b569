/-! the first invariant; the pure fact -/
section HXINV1
variable {N W H : Nat}
theorem hx_V0 (hN : N ≤ 24) : hl_V N (fun j => (hl_A0 12 24 j).toInt) := by
  have z : ∀ j, ¬ (j = 3 ∨ j = 4 ∨ j = 5) → ¬ (15 ≤ j ∧ j < 27) → ¬ (30 ≤ j ∧ j < 198 ∧ ((j - 30) % 7 = 3 ∨ (j - 30) % 7 = 5)) → (hl_A0 12 24 j).toInt = 0 := fun j h1 h2 h3 => by rw [hx_A0_z h1 h2 h3]; rfl
  have z0 := z 0 (by omega) (by omega) (by omega)
  have z1 := z 1 (by omega) (by omega) (by omega)
  have z2 := z 2 (by omega) (by omega) (by omega)
  have m3 : (hl_A0 12 24 3).toInt = -1 := by decide
  have m4 : (hl_A0 12 24 4).toInt = -1 := by decide
  refine ⟨⟨?_, ?_⟩, ⟨?_, ?_⟩, ⟨?_, ?_⟩, ⟨?_, ?_⟩, Or.inl m4, fun h hh => ?_, fun h hh => ?_, fun q hq => ?_, fun c hc => ?_, fun k hk => ?_, fun t ht => ?_⟩
  · show 0 ≤ (hl_A0 12 24 0).toInt; omega
  · show (hl_A0 12 24 0).toInt ≤ 4; omega
  · show 0 ≤ (hl_A0 12 24 1).toInt; omega
  · show (hl_A0 12 24 1).toInt ≤ 40; omega
  · show 0 ≤ (hl_A0 12 24 2).toInt; omega
  · show (hl_A0 12 24 2).toInt ≤ 4; omega
  · show -1 ≤ (hl_A0 12 24 3).toInt; omega
  · show (hl_A0 12 24 3).toInt < (hl_A0 12 24 2).toInt; omega
  · have hh' : (h : Int) < (hl_A0 12 24 0).toInt := hh
    omega
  · have hh' : (h : Int) + 1 < (hl_A0 12 24 0).toInt := hh
    omega
  · have e : hl_A0 12 24 (15 + q) = 360 := by
      unfold hl_A0
      rw [if_neg (by omega), if_pos (by omega)]
    have e' : (360 : Int32).toInt = 360 := rfl
    show 0 ≤ (hl_A0 12 24 (15 + q)).toInt ∧ (hl_A0 12 24 (15 + q)).toInt ≤ 720
    rw [e, e']; omega
  · have c0 := z (30 + 7 * c) (by omega) (by omega) (by omega)
    have c1 := z (30 + 7 * c + 1) (by omega) (by omega) (by omega)
    have c2 := z (30 + 7 * c + 2) (by omega) (by omega) (by omega)
    have c4 := z (30 + 7 * c + 4) (by omega) (by omega) (by omega)
    have c6 := z (30 + 7 * c + 6) (by omega) (by omega) (by omega)
    have c3 : (hl_A0 12 24 (30 + 7 * c + 3)).toInt = 480 := by
      unfold hl_A0
      rw [if_neg (by omega), if_neg (by omega), if_pos (by omega)]; rfl
    have c5 : (hl_A0 12 24 (30 + 7 * c + 5)).toInt = -1 := by
      unfold hl_A0
      rw [if_neg (by omega), if_neg (by omega), if_neg (by omega), if_pos (by omega)]; rfl
    show (0 ≤ (hl_A0 12 24 (30 + 7 * c)).toInt ∧ (hl_A0 12 24 (30 + 7 * c)).toInt ≤ 300) ∧ (0 ≤ (hl_A0 12 24 (30 + 7 * c + 1)).toInt ∧ (hl_A0 12 24 (30 + 7 * c + 1)).toInt ≤ 999) ∧ (0 ≤ (hl_A0 12 24 (30 + 7 * c + 2)).toInt ∧ (hl_A0 12 24 (30 + 7 * c + 2)).toInt ≤ 5) ∧ (0 ≤ (hl_A0 12 24 (30 + 7 * c + 3)).toInt ∧ (hl_A0 12 24 (30 + 7 * c + 3)).toInt ≤ 900) ∧ (0 ≤ (hl_A0 12 24 (30 + 7 * c + 4)).toInt ∧ (hl_A0 12 24 (30 + 7 * c + 4)).toInt ≤ 1) ∧ (-1 ≤ (hl_A0 12 24 (30 + 7 * c + 5)).toInt ∧ (hl_A0 12 24 (30 + 7 * c + 5)).toInt < (hl_A0 12 24 0).toInt) ∧ (0 ≤ (hl_A0 12 24 (30 + 7 * c + 6)).toInt ∧ ((hl_A0 12 24 (30 + 7 * c + 6)).toInt < (hl_A0 12 24 0).toInt ∨ (hl_A0 12 24 (30 + 7 * c + 6)).toInt = 0))
    omega
  · have hk' : (k : Int) < (hl_A0 12 24 1).toInt := hk
    omega
  · have t0 := z (330 + t) (by omega) (by omega) (by omega)
    refine ⟨?_, fun i hi => ?_⟩
    · show 0 ≤ (hl_A0 12 24 (330 + t)).toInt ∧ (hl_A0 12 24 (330 + t)).toInt ≤ 12
      omega
    · have hi' : (i : Int) < (hl_A0 12 24 (330 + t)).toInt := hi
      omega
theorem hx_Inv0 (hN : N ≤ 24) : hl_Inv hl_TX N W H (hl_I0 N W H) := by
  have r85 : hl_I0 N W H 85 0 = nI W ∧ hl_I0 N W H 85 1 = nI H ∧ hl_I0 N W H 85 2 = nI N ∧ hl_I0 N W H 85 7 = 0 ∧ hl_I0 N W H 85 8 = -1 ∧ hl_I0 N W H 85 9 = -1 := by
    unfold hl_I0 hl_Ic
    simp (config := { decide := true }) only [hl_up_a, hl_row_a, if_false, if_true, and_self]
  have r0 : hl_I0 N W H 0 0 = nI W ∧ hl_I0 N W H 0 1 = nI H ∧ hl_I0 N W H 0 2 = nI N ∧ hl_I0 N W H 0 6 = 0 := by
    unfold hl_I0 hl_Ic
    simp (config := { decide := true }) only [hl_up_a, hl_row_a, if_false, if_true, and_self]
  have r38 : hl_I0 N W H 38 7 = -1 ∧ hl_I0 N W H 38 8 = -1 ∧ hl_I0 N W H 66 0 = nI W := by
    unfold hl_I0 hl_Ic
    simp (config := { decide := true }) only [hl_up_a, hl_row_a, if_false, if_true, and_self]
  have s86 : hl_Sv (hl_I0 N W H) 86 = fun j => (hl_A0 12 24 j).toInt := by funext j; unfold hl_Sv; rw [hx_I0_86]
  have s87 : ∀ j, j < 490 → hl_Sv (hl_I0 N W H) 87 j = (hl_A0 12 24 j).toInt := fun j hj => by unfold hl_Sv; rw [hx_I0_87]; simp only [if_pos hj]
  have S2 : hl_Sv (hl_I0 N W H) 86 2 = 0 := by rw [s86]; rfl
  have zz : ∀ b, 29 ≤ b → b ≠ 38 → b ≠ 66 → b ≠ 85 → b ≠ 86 → b ≠ 87 → hl_I0 N W H b = fun _ => 0 := fun b h1 h2 h3 h4 h5 h6 => hx_I0_z (by omega)
  refine ⟨⟨⟨r0.1, r0.2.1, r0.2.2.1⟩, ⟨r85.1, r85.2.1, r85.2.2.1⟩, r38.2.2, by rw [r38.1, r85.2.2.2.2.1], by rw [r38.2.1, r85.2.2.2.2.2]⟩, ⟨?_, ?_⟩, ⟨?_, ?_, ?_⟩, ?_, ?_, ?_, ?_⟩
  · intro j r k h
    rw [hx_I0_86]
    exact hx_LE0 hN (hl_I0 N W H) 1 (fun r h1 h2 h3 h4 h5 => hx_I0_z (by omega)) hx_I0_1 hx_I0_5 hx_I0_7 hx_I0_10 j r k h
  · rw [s86]; exact hx_V0 hN
  · intro j r k h
    have hj := hl_ri_j hN h
    rw [hx_I0_87]
    simp only [if_pos hj]
    exact hx_LE0 hN (hl_I0 N W H) 19 (fun r h1 h2 h3 h4 h5 => hx_I0_z (by omega)) hx_I0_19 hx_I0_23 hx_I0_25 hx_I0_28 j r k h
  · exact hl_V_congr hN (hx_V0 hN) s87
  · rw [S2, s87 2 (by omega)]; decide
  · refine ⟨0, Nat.zero_le _, r0.2.2.2, r85.2.2.2.1, fun k _ => ?_⟩
    rw [zz 37 (by omega) (by omega) (by omega) (by omega) (by omega) (by omega), zz 89 (by omega) (by omega) (by omega) (by omega) (by omega) (by omega)]
    have e0 : (0 : Int32).toInt = 0 := rfl
    exact ⟨rfl, by show 0 ≤ (0 : Int32).toInt; omega, by show (0 : Int32).toInt ≤ 255; omega⟩
  · intro c _
    exact .inl (by rw [zz 65 (by omega) (by omega) (by omega) (by omega) (by omega) (by omega)])
  · intro T cl hT hcl
    refine .inr ⟨0, Nat.zero_le _, ?_⟩
    rw [zz (47 + 4 * T) (by omega) (by omega) (by omega) (by omega) (by omega) (by omega)]
    rfl
  · intro T hT
    rw [S2] at hT
    omega
theorem hx_main {xs : Nat → Int32} {Ln : Nat} (hL : Ln ≤ 3586) : ∃ w, hl_LRun xs Ln 268 (hl_lO xs Ln 1001) 0 [.ref 1000003, .null, .null, .null] [] hl_w0 = some (some (.int 1), w) ∧ hl_n w ≤ 600000 ∧ hl_sz w ≤ 7302250 := by
  refine hl_pure hL (fun W H _ I _ => hl_Inv hl_TX (W * H) W H I) (fun W H w1 w2 g1 g2 => ?_) (fun W H w1 w2 g1 g2 q _ o ho f => ?_)
  · exact hx_Inv0 (Nat.mul_le_mul w2 g2)
  · have hN : W * H ≤ 24 := Nat.mul_le_mul w2 g2
    exact hx_all32 ⟨w1, w2, g1, g2, rfl, hN⟩ hN o ho f
end HXINV1
