/-! text: the invariant behind it -/
section HXTEXT4
variable {N W H T c' : Nat} {I I' : Nat → Nat → Int32}
theorem hx_pay9 {c : Nat} (r1 : I' 1 10 = I 1 10 ∧ I' 1 11 = I 1 11 ∧ I' 1 13 = I 1 13) (r2 : ∀ b, 2 ≤ b → b ≤ 6 → I' b = I b) (r9 : I' 9 = I 9) (r10 : I' 10 = I 10) (hr : ∀ R, R < 4 → I 1 13 = nI R → ∀ i, i < 3 → I' (45 + 4 * R + i) = I (45 + 4 * R + i)) (h : Nat) : hl_pay I' c h = hl_pay I c h := by
  have rul : hl_rul I' = hl_rul I := by unfold hl_rul; rw [r1.2.2]
  have eR : ∀ R, R < 4 → I 1 13 = nI R → hl_rul I = R := fun R hR e => by unfold hl_rul; rw [e]; exact nIc (by omega)
  have has : ∀ cl, hl_has I' cl = hl_has I cl := fun cl => by
    unfold hl_has
    rw [rul, r1.2.2]
    cases h1 : hl_inb (I 1 13) 4 with
    | false => rfl
    | true =>
      obtain ⟨R, hR, e⟩ := hl_inb_of h1 (by decide)
      have q := hr R hR e 1 (by omega)
      rw [show 45 + 4 * R + 1 = 46 + 4 * R by omega] at q
      rw [eR R hR e, q]
  have nmf : ∀ hh m o al j, hl_nmf I' c hh m o al j = hl_nmf I c hh m o al j := fun hh m o al j => by
    unfold hl_nmf
    rw [r2 3 (by omega) (by omega), r2 4 (by omega) (by omega), r2 6 (by omega) (by omega), r10, r2 5 (by omega) (by omega)]
  have inM : ∀ hh m o, hl_inM I' c hh m o = hl_inM I c hh m o := fun hh m o => by
    unfold hl_inM
    rw [has, r2 3 (by omega) (by omega)]
    cases h0 : hl_has I 0 with
    | false => rw [if_pos rfl, if_pos rfl]
    | true =>
      have h1 : hl_inb (I 1 13) 4 = true := by
        cases w : hl_inb (I 1 13) 4 with
        | true => rfl
        | false =>
          unfold hl_has at h0
          rw [w, Bool.false_and] at h0
          exact absurd h0 Bool.false_ne_true
      obtain ⟨R, hR, e⟩ := hl_inb_of h1 (by decide)
      have q0 := hr R hR e 0 (by omega)
      have q1 := hr R hR e 1 (by omega)
      have q2 := hr R hR e 2 (by omega)
      rw [show 45 + 4 * R + 1 = 46 + 4 * R by omega] at q1
      rw [show 45 + 4 * R + 2 = 47 + 4 * R by omega] at q2
      rw [show 45 + 4 * R + 0 = 45 + 4 * R by omega] at q0
      have ask : hl_ask I' 0 c hh m o 0 = hl_ask I 0 c hh m o 0 := by
        have eS : I' (45 + 4 * hl_rul I') = I (45 + 4 * hl_rul I) := by rw [rul, eR R hR e, q0]
        have ep : I' (46 + 4 * hl_rul I') 0 = I (46 + 4 * hl_rul I) 0 := by rw [rul, eR R hR e, q1]
        have eb : I' (47 + 4 * hl_rul I') 0 = I (47 + 4 * hl_rul I) 0 := by rw [rul, eR R hR e, q2]
        exact hl_wk_eq 300 eS eb ep (fun j _ => nmf hh m o 0 j) []
      rw [ask]
  unfold hl_pay
  apply hl_sum_congr
  intro m hm
  rw [inM]
  unfold hl_offv hl_sm
  rw [r9, r2 2 (by omega) (by omega), r1.1, r1.2.1]
theorem hx_V9 {S S' : Nat → Int} (hV : hl_V N S) (e : ∀ j, j ≠ 2 → S' j = S j) (h2 : S 2 ≤ S' 2 ∧ S' 2 ≤ 4) : hl_V N S' := by
  obtain ⟨v0, v1, v2, v3, v4, v5, v6, v7, v8, v9, v10⟩ := hV
  refine ⟨by rw [e 0 (by omega)]; exact v0, by rw [e 1 (by omega)]; exact v1, ⟨by omega, h2.2⟩, ⟨by rw [e 3 (by omega)]; exact v3.1, by rw [e 3 (by omega)]; omega⟩, by rw [e 4 (by omega), e 5 (by omega)]; exact v4, fun h hh => ?_, fun h hh => ?_, fun q hq => ?_, fun c hc => ?_, fun k hk => ?_, fun t ht => ?_⟩
  · rw [e 0 (by omega)] at hh
    rw [e (10 + h) (by omega)]; exact v5 h hh
  · rw [e 0 (by omega)] at hh
    rw [e (10 + h) (by omega), e (10 + (h + 1)) (by omega)]; exact v6 h hh
  · rw [e (15 + q) (by omega)]; exact v7 q hq
  · rw [e (30 + 7 * c) (by omega), e (30 + 7 * c + 1) (by omega), e (30 + 7 * c + 2) (by omega), e (30 + 7 * c + 3) (by omega), e (30 + 7 * c + 4) (by omega), e (30 + 7 * c + 5) (by omega), e (30 + 7 * c + 6) (by omega), e 0 (by omega)]
    exact v8 c hc
  · rw [e 1 (by omega)] at hk
    rw [e (200 + 3 * k) (by omega), e (200 + 3 * k + 1) (by omega), e (200 + 3 * k + 2) (by omega)]
    exact v9 k hk
  · obtain ⟨a, b⟩ := v10 t ht
    rw [e (330 + t) (by omega)]
    refine ⟨a, fun i hi => ?_⟩
    rw [e (340 + 24 * t + 2 * i) (by omega), e (340 + 24 * t + 2 * i + 1) (by omega)]
    exact b i hi
theorem hx_Inv9 (hI : hl_Inv hl_TX N W H I) (hT : T < 4) (hT1 : I 86 2 = nI T) (hc : T ≤ c' ∧ c' ≤ T + 1) (q : ∀ b, b < 60 → b ≠ 0 → b ≠ 1 → ¬ (38 ≤ b ∧ b ≤ 42) → ¬ (44 + 4 * T ≤ b ∧ b ≤ 47 + 4 * T) → I' b = I b) (q0 : ∀ k, k ≠ 6 → I' 0 k = I 0 k) (q06 : I' 0 6 = 0) (q1 : ∀ k, k ≠ 12 → I' 1 k = I 1 k) (q112 : I' 1 12 = nI c') (q85 : ∀ k, k < 7 → I' 85 k = I 85 k) (q857 : I' 85 7 = 0) (a1 : I' 38 7 = I' 85 8) (a2 : I' 38 8 = I' 85 9) (q66 : I' 66 = I 66) (q64 : I' 64 = I 64) (q65 : I' 65 = I 65) (q87 : I' 87 = I 87) (q89 : I' 89 = I 89) (q86 : ∀ k, k ≠ 2 → I' 86 k = I 86 k) (q862 : I' 86 2 = nI c') (q88 : ∀ k, (k < 800 * T ∨ 800 * T + 800 ≤ k) → I' 88 k = I 88 k) (tb : ∀ cl, cl < 3 → I' (46 + 4 * T) cl = -1 ∨ ∃ b, b ≤ 300 ∧ I' (47 + 4 * T) cl = nI b) (tx : c' = T + 1 → hl_TX I' T) : hl_Inv hl_TX N W H I' := by
  obtain ⟨a, b, c, d, e, f, g⟩ := hI
  have sT : hl_Sv I 86 2 = (T : Int) := by unfold hl_Sv; rw [hT1, hl_tI (by omega)]
  have sc : hl_Sv I' 86 2 = (c' : Int) := by unfold hl_Sv; rw [q862, hl_tI (by omega)]
  have s6 : ∀ j, j ≠ 2 → hl_Sv I' 86 j = hl_Sv I 86 j := fun j hj => by unfold hl_Sv; rw [q86 j hj]
  have s7 : hl_Sv I' 87 = hl_Sv I 87 := by funext j; unfold hl_Sv; rw [q87]
  have hV := b.2
  have v3 := hV.2.2.2.1
  refine ⟨⟨?_, ?_, ?_, a1, a2⟩, ⟨?_, ?_⟩, ⟨?_, ?_, ?_⟩, ?_, ?_, ?_, ?_⟩
  · rw [q0 0 (by omega), q0 1 (by omega), q0 2 (by omega)]; exact a.1
  · rw [q85 0 (by omega), q85 1 (by omega), q85 2 (by omega)]; exact a.2.1
  · rw [q66]; exact a.2.2.1
  · intro j r k hj
    have hr := hl_ri_lt hj
    have hk := hl_ir_ri hj
    by_cases z : j = 2
    · subst z
      have h2 : hl_ri N 2 = some (0, 12) := rfl
      rw [h2] at hj
      cases hj
      exact q112.trans q862.symm
    · rw [q86 j z, ← b.1 j r k hj]
      by_cases y : r = 0
      · subst y
        refine q1 k (fun w => ?_)
        subst w
        exact z hk.symm
      · rw [q (1 + r) (by omega) (by omega) (by omega) (by omega) (by omega)]
  · exact hx_V9 hV s6 ⟨by rw [sT, sc]; omega, by rw [sc]; omega⟩
  · exact hl_LE_congr c.1 (fun r hr => q _ (by omega) (by omega) (by omega) (by omega) (by omega)) q87
  · rw [s7]; exact c.2.1
  · rw [s7, sc]; have := c.2.2; rw [sT] at this; omega
  · obtain ⟨fd, -, -, -, t4⟩ := d
    refine ⟨0, Nat.zero_le _, q06, q857, fun k hk => ?_⟩
    rw [q 37 (by omega) (by omega) (by omega) (by omega) (by omega), q89]
    exact t4 k hk
  · intro cc hcc
    rw [q65, q64, s6 0 (by omega)]
    rcases e cc hcc with w | ⟨w1, w2⟩
    · exact .inl w
    · refine .inr ⟨w1, fun h hh => (w2 h hh).trans (hx_pay9 ⟨q1 10 (by omega), q1 11 (by omega), q1 13 (by omega)⟩ (fun b h1 h2 => q b (by omega) (by omega) (by omega) (by omega) (by omega)) (q 9 (by omega) (by omega) (by omega) (by omega) (by omega)) (q 10 (by omega) (by omega) (by omega) (by omega) (by omega)) (fun R hR eR i hi => ?_) h).symm⟩
      have l3 := b.1.h3
      have lt : R < T := by
        have x := v3.2
        rw [sT] at x
        unfold hl_Sv at x
        rw [← l3, eR, hl_tI (by omega)] at x
        omega
      exact q _ (by omega) (by omega) (by omega) (by omega) (by omega)
  · intro T' cl hT' hcl
    by_cases z : T' = T
    · subst z; exact tb cl hcl
    · rw [q (46 + 4 * T') (by omega) (by omega) (by omega) (by omega) (by omega), q (47 + 4 * T') (by omega) (by omega) (by omega) (by omega) (by omega)]
      exact f T' cl hT' hcl
  · intro T' hT'
    rw [sc] at hT'
    by_cases z : T' = T
    · subst z; exact tx (by omega)
    · exact hl_TXc I I' T' (q _ (by omega) (by omega) (by omega) (by omega) (by omega)) (q _ (by omega) (by omega) (by omega) (by omega) (by omega)) (q _ (by omega) (by omega) (by omega) (by omega) (by omega)) (fun k _ _ => q88 k (by omega)) (g T' (by rw [sT]; omega))
end HXTEXT4
