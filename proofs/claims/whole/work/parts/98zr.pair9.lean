/-! text: the pair -/
section HXPAIR9
variable {N W H : Nat} {I I' : Nat → Nat → Int32} {t : Nat → Nat} {L : Nat}
theorem hx_txt4 (f : Nat) : ∀ m p n A, p ≤ L → (hx_txt t L f m p n A).1 ≤ 10 := by
  induction f with
  | zero => exact fun _ _ _ _ _ => Nat.zero_le _
  | succ f ih =>
    intro m p n A hp
    unfold hx_txt
    by_cases e21 : (hx_tk t L p).1 = 21
    · rw [if_pos e21]; exact Nat.zero_le _
    · rw [if_neg e21]
      obtain ⟨a, b⟩ := hx_cl_lt (m := m) hp e21
      by_cases w : (hx_cl t L m p).1 = 0
      · rw [if_pos w]; exact ih _ _ _ _ (a w).2
      · rw [if_neg w]
        show (hx_cl t L m p).1 ≤ 10
        omega
theorem hx_pr9 (f : Nat → Int32) : hl_PQ hl_TX N W H 114 196 (hl_args 9 f) := by
  intro I J hI
  show ∃ v I1 J1 I2 J2, hl_call 1001 114 [.ref 0] (hl_g N I J) = some (some (.int v), hl_g N I1 J1) ∧ hl_call 1001 196 [.ref 85] (hl_g N I1 J1) = some (some (.int v), hl_g N I2 J2) ∧ hl_Inv hl_TX N W H I2
  obtain ⟨T, hT4, h12, h86, -⟩ := hI.tn
  by_cases z : T = 4
  · subst z
    exact ⟨-1, I, J, I, J, hx_s114c (d := 1000) h12, hx_s196c (d := 1000) h86, hI⟩
  · have hT : T < 4 := by omega
    have hI' := hI
    obtain ⟨-, -, -, ⟨fd, hfd, f6, f7, ft⟩, -, fTB, -⟩ := hI'
    have ht : ∀ k, k < 300 → I 37 k = nI ((fun k => (I 37 k).toInt.toNat) k) ∧ (fun k => (I 37 k).toInt.toNat) k ≤ 255 := fun k hk => by
      obtain ⟨g1, g2, g3⟩ := ft k hk
      rw [← g1] at g2 g3
      refine ⟨Int32.toInt_inj.mp ?_, ?_⟩
      · show (I 37 k).toInt = (nI ((I 37 k).toInt.toNat)).toInt
        rw [hl_tI (by omega)]; omega
      · show (I 37 k).toInt.toNat ≤ 255; omega
    generalize (fun k => (I 37 k).toInt.toNat) = t at ht
    by_cases h0 : (hx_txt t fd 300 0 0 0 []).1 = 0
    · obtain ⟨I1, I2, m', n', e1, kx, fg, a45, a46, b06, b12, b0, b1, bb⟩ := hx_s114a (E := 982) (N := N) (J := J) (by omega) hT h12 hfd f6 ht h0
      have k2 : ∀ b, b ≠ 0 → b ≠ 1 → ¬ (44 + 4 * T ≤ b ∧ b ≤ 47 + 4 * T) → (b < 38 ∨ 42 < b) → I2 b = I b := fun b h1 h2 h3 h4 => (bb b h1 h2 h3).trans (fg b h4)
      have TQ : hx_TQ t fd I2 := ⟨hfd, by rw [k2 85 (by omega) (by omega) (by omega) (by omega)]; exact f7, fun k hk => by
        rw [k2 89 (by omega) (by omega) (by omega) (by omega), ← (ft k hk).1]
        exact ht k hk⟩
      obtain ⟨I3, I4, J4, m'', C, e2, rx, fx, c7, c8, c9, c85, c86, c86', cc⟩ := hx_s196a (d := 992) (N := N) (J := J) hT (by rw [k2 86 (by omega) (by omega) (by omega) (by omega)]; exact h86) TQ h0
      have k4 : ∀ b, b ≠ 85 → b ≠ 86 → b ≠ 88 → b ≠ 90 → I4 b = I2 b := fun b h1 h2 h3 h4 => (cc b h1 h2).trans (fx.1 b h1 h3 h4)
      have cr := kx.1
      have n3 : n' ≤ 300 := by have := cr.2.2.2.2.2; have := cr.1.1; omega
      refine ⟨nI T, I2, J, I4, J4, e1, e2, ?_⟩
      refine hx_Inv9 (T := T) (c' := T + 1) hI hT h86 ⟨by omega, by omega⟩ (fun b h1 h2 h3 h4 h5 => ?_) (fun k hk => ?_) ?_ (fun k hk => ?_) ?_ (fun k hk => ?_) c7 ?_ ?_ ?_ ?_ ?_ ?_ ?_ (fun k hk => ?_) c86 (fun k hk => ?_) (fun cl hcl => ?_) (fun _ => ?_)
      · rw [k4 b (by omega) (by omega) (by omega) (by omega), k2 b h2 h3 h5 (by omega)]
      · rw [k4 0 (by omega) (by omega) (by omega) (by omega), b0 k hk, fg 0 (by omega)]
      · rw [k4 0 (by omega) (by omega) (by omega) (by omega)]; exact b06
      · rw [k4 1 (by omega) (by omega) (by omega) (by omega), b1 k hk, fg 1 (by omega)]
      · rw [k4 1 (by omega) (by omega) (by omega) (by omega)]; exact b12
      · rw [c85 k hk, fx.2.1 k (by omega), k2 85 (by omega) (by omega) (by omega) (by omega)]
      · rw [k4 38 (by omega) (by omega) (by omega) (by omega), bb 38 (by omega) (by omega) (by omega), c8]; exact cr.2.2.1
      · rw [k4 38 (by omega) (by omega) (by omega) (by omega), bb 38 (by omega) (by omega) (by omega), c9]; exact cr.2.2.2.1
      · rw [k4 66 (by omega) (by omega) (by omega) (by omega), k2 66 (by omega) (by omega) (by omega) (by omega)]
      · rw [k4 64 (by omega) (by omega) (by omega) (by omega), k2 64 (by omega) (by omega) (by omega) (by omega)]
      · rw [k4 65 (by omega) (by omega) (by omega) (by omega), k2 65 (by omega) (by omega) (by omega) (by omega)]
      · rw [k4 87 (by omega) (by omega) (by omega) (by omega), k2 87 (by omega) (by omega) (by omega) (by omega)]
      · rw [k4 89 (by omega) (by omega) (by omega) (by omega), k2 89 (by omega) (by omega) (by omega) (by omega)]
      · rw [c86' k hk, fx.1 86 (by omega) (by omega) (by omega), k2 86 (by omega) (by omega) (by omega) (by omega)]
      · rw [cc 88 (by omega) (by omega), fx.2.2 k hk, k2 88 (by omega) (by omega) (by omega) (by omega)]
      · rw [k4 (46 + 4 * T) (by omega) (by omega) (by omega) (by omega), k4 (47 + 4 * T) (by omega) (by omega) (by omega) (by omega), (a46 cl hcl).1, (a46 cl hcl).2]
        obtain ⟨-, -, ku, kA, ks⟩ := kx
        cases w : hx_sn m' cl with
        | false => exact .inl (ku cl hcl w)
        | true =>
          obtain ⟨a, ha, hae⟩ := ks cl hcl w
          obtain ⟨-, -, s, e, se, en, -, g42, -⟩ := kA a ha
          rw [hae] at g42
          exact .inr ⟨e, by omega, g42⟩
      · exact hx_TXof hT kx rx (fun k hk => by rw [k4 (45 + 4 * T) (by omega) (by omega) (by omega) (by omega)]; exact a45 k hk) (fun k hk => by rw [k4 (46 + 4 * T) (by omega) (by omega) (by omega) (by omega), k4 (47 + 4 * T) (by omega) (by omega) (by omega) (by omega)]; exact a46 k hk) (fun k _ _ => by rw [cc 88 (by omega) (by omega)])
    · obtain ⟨I1, e1, cf, fg⟩ := hx_s114b (E := 982) (N := N) (J := J) (by omega) hT h12 hfd f6 ht h0
      have k2 : ∀ b, b ≠ 0 → (b < 38 ∨ 42 < b) → hl_up I1 0 6 0 b = I b := fun b h1 h4 => (hl_up_ne _ _ _ h1).trans (fg b h4)
      have r0 : ∀ k, k ≠ 6 → hl_up I1 0 6 0 0 k = I 0 k := fun k hk => by rw [hl_up_a, if_pos rfl, if_neg hk, fg 0 (by omega)]
      have r06 : hl_up I1 0 6 0 0 6 = 0 := hl_up_at
      have r38 : hl_up I1 0 6 0 38 = I1 38 := hl_up_ne _ _ _ (by omega)
      generalize hl_up I1 0 6 0 = I2 at e1 k2 r0 r06 r38
      have TQ : hx_TQ t fd I2 := ⟨hfd, by rw [k2 85 (by omega) (by omega)]; exact f7, fun k hk => by
        rw [k2 89 (by omega) (by omega), ← (ft k hk).1]
        exact ht k hk⟩
      obtain ⟨I3, I4, J4, e2, fx, c7, c8, c9, c85, cc⟩ := hx_s196b (d := 992) (N := N) (J := J) hT (by rw [k2 86 (by omega) (by omega)]; exact h86) TQ h0 (hx_txt4 300 0 0 0 [] (Nat.zero_le _))
      have k4 : ∀ b, b ≠ 85 → b ≠ 88 → b ≠ 90 → I4 b = I2 b := fun b h1 h3 h4 => (cc b h1).trans (fx.1 b h1 h3 h4)
      refine ⟨-1, I2, J, I4, J4, e1, e2, ?_⟩
      refine hx_Inv9 (T := T) (c' := T) hI hT h86 ⟨by omega, by omega⟩ (fun b h1 h2 h3 h4 h5 => ?_) (fun k hk => ?_) ?_ (fun k hk => ?_) ?_ (fun k hk => ?_) c7 ?_ ?_ ?_ ?_ ?_ ?_ ?_ (fun k hk => ?_) ?_ (fun k hk => ?_) (fun cl hcl => ?_) (fun y => ?_)
      · rw [k4 b (by omega) (by omega) (by omega), k2 b h2 (by omega)]
      · rw [k4 0 (by omega) (by omega) (by omega), r0 k hk]
      · rw [k4 0 (by omega) (by omega) (by omega)]; exact r06
      · rw [k4 1 (by omega) (by omega) (by omega), k2 1 (by omega) (by omega)]
      · rw [k4 1 (by omega) (by omega) (by omega), k2 1 (by omega) (by omega)]; exact h12
      · rw [c85 k hk, fx.2.1 k (by omega), k2 85 (by omega) (by omega)]
      · rw [k4 38 (by omega) (by omega) (by omega), r38, c8]; exact cf.2.2.1
      · rw [k4 38 (by omega) (by omega) (by omega), r38, c9]; exact cf.2.2.2.1
      · rw [k4 66 (by omega) (by omega) (by omega), k2 66 (by omega) (by omega)]
      · rw [k4 64 (by omega) (by omega) (by omega), k2 64 (by omega) (by omega)]
      · rw [k4 65 (by omega) (by omega) (by omega), k2 65 (by omega) (by omega)]
      · rw [k4 87 (by omega) (by omega) (by omega), k2 87 (by omega) (by omega)]
      · rw [k4 89 (by omega) (by omega) (by omega), k2 89 (by omega) (by omega)]
      · rw [k4 86 (by omega) (by omega) (by omega), k2 86 (by omega) (by omega)]
      · rw [k4 86 (by omega) (by omega) (by omega), k2 86 (by omega) (by omega)]; exact h86
      · rw [cc 88 (by omega), fx.2.2 k hk, k2 88 (by omega) (by omega)]
      · rw [k4 (46 + 4 * T) (by omega) (by omega) (by omega), k4 (47 + 4 * T) (by omega) (by omega) (by omega), k2 (46 + 4 * T) (by omega) (by omega), k2 (47 + 4 * T) (by omega) (by omega)]
        exact fTB T cl hT hcl
      · omega
end HXPAIR9
