/-! how the invariant is kept -/
def hl_cr (i : Nat) (x s : Int) : Prop := match i with
  | 0 => 0 ≤ x ∧ x ≤ 300
  | 1 => 0 ≤ x ∧ x ≤ 999
  | 2 => 0 ≤ x ∧ x ≤ 5
  | 3 => 0 ≤ x ∧ x ≤ 900
  | 4 => 0 ≤ x ∧ x ≤ 1
  | 5 => -1 ≤ x ∧ x < s
  | _ => 0 ≤ x ∧ (x < s ∨ x = 0)
/-- cells and months change, nothing else -/
theorem hl_V_ch {N : Nat} {S S' : Nat → Int} (hN : N ≤ 24) (hV : hl_V N S) (P : Nat → Prop) (e : ∀ j, ¬ P j → S' j = S j) (n0 : ∀ j, j < 15 → ¬ P j) (c7 : ∀ q, q < 12 → P (15 + q) → 0 ≤ S' (15 + q) ∧ S' (15 + q) ≤ 720) (c8 : ∀ c, c < N → ∀ i, i < 7 → P (30 + 7 * c + i) → hl_cr i (S' (30 + 7 * c + i)) (S 0)) (n9 : ∀ j, 200 ≤ j → ¬ P j) : hl_V N S' := by
  obtain ⟨v0, v1, v2, v3, v4, v5, v6, v7, v8, v9, v10⟩ := hV
  have e0 := e 0 (n0 0 (by omega))
  have e1 := e 1 (n0 1 (by omega))
  have e2 := e 2 (n0 2 (by omega))
  have e3 := e 3 (n0 3 (by omega))
  have e4 := e 4 (n0 4 (by omega))
  have e5 := e 5 (n0 5 (by omega))
  unfold hl_V
  rw [e0, e1, e2, e3, e4, e5]
  refine ⟨v0, v1, v2, v3, v4, fun h hh => ?_, fun h hh => ?_, fun q hq => ?_, fun c hc => ?_, fun k hk => ?_, fun t ht => ?_⟩
  · rw [e _ (n0 _ (by omega))]
    exact v5 h hh
  · rw [e _ (n0 _ (by omega)), e _ (n0 _ (by omega))]
    exact v6 h hh
  · by_cases p : P (15 + q)
    · exact c7 q hq p
    · rw [e _ p]
      exact v7 q hq
  · have old := v8 c hc
    have g : ∀ i, i < 7 → hl_cr i (S (30 + 7 * c + i)) (S 0) → hl_cr i (S' (30 + 7 * c + i)) (S 0) := by
      intro i hi ho
      by_cases p : P (30 + 7 * c + i)
      · exact c8 c hc i hi p
      · rw [e _ p]
        exact ho
    exact ⟨g 0 (by omega) old.1, g 1 (by omega) old.2.1, g 2 (by omega) old.2.2.1, g 3 (by omega) old.2.2.2.1, g 4 (by omega) old.2.2.2.2.1, g 5 (by omega) old.2.2.2.2.2.1, g 6 (by omega) old.2.2.2.2.2.2⟩
  · rw [e _ (n9 _ (by omega)), e _ (n9 _ (by omega)), e _ (n9 _ (by omega))]
    exact v9 k hk
  · rw [e _ (n9 _ (by omega))]
    refine ⟨(v10 t ht).1, fun i hi => ?_⟩
    rw [e _ (n9 _ (by omega)), e _ (n9 _ (by omega))]
    exact (v10 t ht).2 i hi
/-- nothing but the land's own rows and the reference's changes -/
def hl_Qt (I I' : Nat → Nat → Int32) : Prop := I' 0 = I 0 ∧ (∀ r, 19 ≤ r → r < 39 → I' r = I r) ∧ (∀ r, 45 ≤ r → r < 60 → I' r = I r) ∧ I' 66 = I 66 ∧ I' 85 = I 85 ∧ (∀ r, 87 ≤ r → r < 90 → I' r = I r) ∧ I' 86 2 = I 86 2
theorem hl_Inv_q {TE : (Nat → Nat → Int32) → Nat → Prop} (hTE : hl_TEc TE) {N W H : Nat} {I I' : Nat → Nat → Int32} (h : hl_Inv TE N W H I) (q : hl_Qt I I') (hL : hl_La N I') (hP : hl_Pu N I') : hl_Inv TE N W H I' := by
  obtain ⟨a, b, c, d, e, f, g⟩ := h
  obtain ⟨q0, q1, q2, q3, q4, q5, q6⟩ := q
  have s2 : hl_Sv I' 86 2 = hl_Sv I 86 2 := by unfold hl_Sv; rw [q6]
  refine ⟨?_, hL, ⟨?_, ?_, ?_⟩, ?_, hP, ?_, ?_⟩
  · unfold hl_A9
    rw [q0, q3, q4, q1 38 (by omega) (by omega)]
    exact a
  · exact hl_LE_congr c.1 (fun r hr => q1 _ (by omega) (by omega)) (q5 87 (by omega) (by omega))
  · have : hl_Sv I' 87 = hl_Sv I 87 := by funext j; unfold hl_Sv; rw [q5 87 (by omega) (by omega)]
    rw [this]
    exact c.2.1
  · have : hl_Sv I' 87 2 = hl_Sv I 87 2 := by unfold hl_Sv; rw [q5 87 (by omega) (by omega)]
    rw [this, s2]
    exact c.2.2
  · unfold hl_Tp
    rw [q0, q4, q1 37 (by omega) (by omega), q5 89 (by omega) (by omega)]
    exact d
  · intro T cl hT hcl
    rw [q2 (46 + 4 * T) (by omega) (by omega), q2 (47 + 4 * T) (by omega) (by omega)]
    exact f T cl hT hcl
  · intro T hT
    rw [s2] at hT
    have hV := b.2.2.2.1
    refine hTE I I' T (q2 _ (by omega) (by omega)) (q2 _ (by omega) (by omega)) (q2 _ (by omega) (by omega)) (fun k _ _ => by rw [q5 88 (by omega) (by omega)]) (g T hT)
theorem hl_Pu_k {N : Nat} {I I' : Nat → Nat → Int32} (h : hl_Pu N I) (h0 : I' 86 0 = I 86 0) (h64 : I' 64 = I 64) (hc : ∀ c, c < N → I' 65 c = 0 ∨ (I' 65 c = I 65 c ∧ hl_PD I I' c)) : hl_Pu N I' := by
  intro c hcN
  rcases hc c hcN with q | ⟨q1, q2⟩
  · exact .inl q
  · rw [q1]
    rcases h c hcN with z | ⟨z1, z2⟩
    · exact .inl z
    · refine .inr ⟨z1, fun h hh => ?_⟩
      unfold hl_Sv at hh
      rw [h0] at hh
      rw [h64, z2 h hh, q2.pay]
theorem hl_fz_at {I : Nat → Nat → Int32} {N c : Nat} (h : c < N) : hl_fz I N 65 c = 0 := by
  unfold hl_fz hl_row
  rw [if_pos rfl]
  exact if_pos h
theorem hl_fz_ne {I : Nat → Nat → Int32} {N a : Nat} (h : a ≠ 65) : hl_fz I N a = I a := hl_row_ne _ _ h
theorem hl_Pu_0 {N : Nat} {I' : Nat → Nat → Int32} (h : ∀ c, c < N → I' 65 c = 0) : hl_Pu N I' := fun c hc => .inl (h c hc)
theorem hl_La_up {N j0 r0 k0 : Nat} {v : Int32} {I : Nat → Nat → Int32} (h : hl_LE N I 1 86) (e0 : hl_ri N j0 = some (r0, k0)) : hl_LE N (hl_up (hl_up I (1 + r0) k0 v) 86 j0 v) 1 86 := hl_LE_up (by omega) h e0
