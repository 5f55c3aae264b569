/-! the reference's chains, all -/
section HLRG
variable {d N m G nd : Nat} {I I' : Nat → Nat → Int32} {J J' : Nat → Nat → Int64}
theorem hl_l230g {l1 l2 l3 l4 l7 l8 l9 : Value} {gp : Nat → Int} (h4 : m ≤ 4) (hG : G ≤ 24) (end_ : nd = 2 + G * (m - 1)) (hn74 : nd ≤ 74) (hm : I 85 32 = nI m) (f : Nat) : ∀ (J : Nat → Nat → Int64) (Bd : Int) (C : (Nat → Bool) → Int) (g : Nat), g + f = G → hl_NR J Bd C → Bd + (f : Int) * 1600000000000 ≤ 1000000000000000 → (∀ q, q < G * 4 → (J 101 q).toInt = gp q ∧ 0 ≤ gp q ∧ gp q ≤ 100000000000) → ∃ J', hl_Run 230 (hl_call (d + 2)) 250 [.ref 85, l1, l2, l3, l4, .int (nI G), .int (nI g), l7, l8, l9] [] (hl_g N I J) = hl_Run 230 (hl_call (d + 2)) 269 [.ref 85, l1, l2, l3, l4, .int (nI G), .int (nI G), l7, l8, l9] [] (hl_g N I J') ∧ hl_NR J' (Bd + (f : Int) * 1600000000000) (fun S => C S + (hl_si G (fun g => hl_si m (hl_ch 40000000000 m gp g S)) - hl_si g (fun g => hl_si m (hl_ch 40000000000 m gp g S)))) ∧ ∀ q, q ≠ 96 → J' q = J q := by
  induction f with
  | zero =>
    intro J Bd C g hg hW hB hgp
    obtain rfl : g = G := by omega
    refine ⟨J, ?_, hl_NR_le hW (by omega) (fun S => by rw [Int.sub_self, Int.add_zero]), fun _ _ => rfl⟩
    simp only [hl_r230_250, hl_r230_252, hl_r230_254, Int32.le_refl, hl_kill_i, hl_kill_r, hl_kill_n, hl_kill_l, hl_tl_s, hl_tl_n, hl_cal_some, hl_gI, hl_gJ, hl_gsI, hl_gsJ, hl_tv01, if_true, if_false, hl_up_a, hl_row_a]
  | succ f ih =>
    intro J Bd C g hg hW hB hgp
    have c1 : ¬ nI G ≤ nI g := nI_ge (by omega) (by omega)
    have en : nI g + 1 = nI (g + 1) := (nI_succ g).symm
    have e4 : ((f + 1 : Nat) : Int) * 1600000000000 = (f : Int) * 1600000000000 + 1600000000000 := by omega
    rw [e4] at hB ⊢
    obtain ⟨J1, e1, W1, j1⟩ := hl_s225 (d := d) (N := N) (I := I) (g := g) h4 (show g < G by omega) hG end_ hn74 gp hm hW (by omega) (fun k hk => hgp (4 * g + k) (by omega))
    obtain ⟨J2, e2, W2, j2⟩ := ih J1 _ _ (g + 1) (by omega) W1 (by omega) (fun q hq => by rw [j1 101 (by decide)]; exact hgp q hq)
    refine ⟨J2, ?_, hl_NR_le W2 (by omega) (fun S => ?_), fun q hq => by rw [j2 q hq, j1 q hq]⟩
    · rw [← e2, hl_r230_250]
      simp only [hl_r230_252, hl_r230_254, hl_r230_257, hl_r230_258, hl_r230_260, hl_r230_263, hl_r230_266, hl_o_85, hl_p_85_3, hl_p_85_4, hl_p_85_5, hl_p_85_6, hl_p_85_19, hl_p_85_23, hl_p_85_24, hl_p_85_25, hl_p_85_26, hl_p_85_27, hl_p_85_28, hl_p_85_29, hl_p_85_30, hl_p_85_31, hl_p_85_33, hl_p_85_34, hl_p_85_35, hl_p_85_36, hl_p_85_37, c1, e1, en, hl_kill_i, hl_kill_r, hl_kill_n, hl_kill_l, hl_tl_s, hl_tl_n, hl_cal_some, hl_gI, hl_gJ, hl_gsI, hl_gsJ, hl_tv01, if_true, if_false, hl_up_a, hl_row_a]
      try rw [hl_r230_250]
    · show C S + hl_si m (hl_ch 40000000000 m gp g S) + (_ - (hl_si g _ + hl_si m (hl_ch 40000000000 m gp g S))) = _
      omega
end HLRG
