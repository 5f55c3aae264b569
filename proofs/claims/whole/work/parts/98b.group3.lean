/-! the reference's groups: what they are -/
section HXGR
variable {d N : Nat} {I I' : Nat → Nat → Int32} {J : Nat → Nat → Int64} {st : Nat → Int32} {wh : Bool}
theorem hx_s229 (hN : N ≤ 24) (hM : I 85 2 = nI N) (hst : ∀ c, c < N → I 86 (30 + 7 * c + 2) = st c) : ∃ I', hl_call (d + 2) 229 [.ref 85, .int (hl_tv wh)] (hl_g N I J) = some (some (.int (nI (hl_grp st wh N).2)), hl_g N I' J) ∧ (∀ k, k < N → I' 100 k = nI ((hl_grp st wh N).1 k)) ∧ ∀ b, b ≠ 100 → I' b = I b := by
  obtain ⟨I1, e1, g1, g2⟩ := hl_l229 (d := d) (J := J) (st := st) (wh := wh) hN N I 0 .null .null (by omega) hM hst (fun k hk => absurd hk (Nat.not_lt_zero k))
  refine ⟨I1, ?_, g1, g2⟩
  have z : (hl_grp st wh 0).2 = 0 := rfl
  have z0 : nI 0 = 0 := rfl
  rw [z, z0] at e1
  rw [← e1, hl_e229]
  simp only [hl_r229_0, hl_r229_1, hl_r229_2, hl_r229_3, hl_kill_i, hl_kill_r, hl_kill_n, hl_kill_l, hl_tl_s, hl_tl_n, hl_cal_some, hl_gI, hl_gJ, hl_gsI, hl_gsJ, hl_tv01, if_true, if_false, hl_up_a, hl_row_a]
/-- not whole: each cell its own -/
theorem hx_grp_f (n : Nat) : (hl_grp st false n).2 = n ∧ ∀ c, c < n → (hl_grp st false n).1 c = c := by
  induction n with
  | zero => exact ⟨rfl, fun c hc => absurd hc (Nat.not_lt_zero c)⟩
  | succ n ih =>
    obtain ⟨a, b⟩ := ih
    have el : hl_lwc st false n = n := by unfold hl_lwc; rw [if_neg (by decide)]
    unfold hl_grp
    rw [el, if_neg (by omega)]
    refine ⟨by show (hl_grp st false n).2 + 1 = n + 1; omega, fun c hc => ?_⟩
    show hl_us (hl_grp st false n).1 n (hl_grp st false n).2 c = c
    unfold hl_us
    split
    · omega
    · exact b c (by omega)
/-- whole: by state -/
theorem hx_grp_t (n : Nat) : ∀ c c', c < n → c' < n → ((hl_grp st true n).1 c = (hl_grp st true n).1 c' ↔ st c = st c') := by
  induction n with
  | zero => exact fun c c' hc => absurd hc (Nat.not_lt_zero c)
  | succ n ih =>
    have el : hl_lwc st true n = hl_lo st n n n := by unfold hl_lwc; rw [if_pos rfl]
    obtain ⟨l1, l2, l3⟩ := hl_lo_in (st := st) (c := n) n n (Nat.le_refl n) (Nat.le_refl n) rfl (fun i a b => by omega)
    have lt := hl_grp_le (st := st) (wh := true) n
    unfold hl_grp
    rw [el]
    generalize hl_lo st n n n = lw at l1 l2 l3
    generalize hl_grp st true n = gp at ih lt
    by_cases q : lw < n
    · rw [if_pos q]
      have at1 : ∀ c, c < n → hl_us gp.1 n (gp.1 lw) c = gp.1 c := fun c hc => if_neg (by omega)
      have at2 : hl_us gp.1 n (gp.1 lw) n = gp.1 lw := if_pos rfl
      intro c c' hc hc'
      show hl_us gp.1 n (gp.1 lw) c = hl_us gp.1 n (gp.1 lw) c' ↔ _
      by_cases z : c = n
      · by_cases z' : c' = n
        · rw [z, z']; exact ⟨fun _ => rfl, fun _ => rfl⟩
        · rw [z, at2, at1 c' (by omega), ← l2]; exact ih lw c' q (by omega)
      · by_cases z' : c' = n
        · rw [z', at2, at1 c (by omega), ← l2]; exact ih c lw (by omega) q
        · rw [at1 c (by omega), at1 c' (by omega)]; exact ih c c' (by omega) (by omega)
    · rw [if_neg q]
      have ln : lw = n := by omega
      subst ln
      have at1 : ∀ c, c < lw → hl_us gp.1 lw gp.2 c = gp.1 c := fun c hc => if_neg (by omega)
      have at2 : hl_us gp.1 lw gp.2 lw = gp.2 := if_pos rfl
      intro c c' hc hc'
      show hl_us gp.1 lw gp.2 c = hl_us gp.1 lw gp.2 c' ↔ _
      by_cases z : c = lw
      · by_cases z' : c' = lw
        · rw [z, z']; exact ⟨fun _ => rfl, fun _ => rfl⟩
        · rw [z, at2, at1 c' (by omega)]
          have a := lt.2 c' (by omega)
          have b := l3 c' (by omega)
          exact ⟨fun h => by omega, fun h => absurd h.symm b⟩
      · by_cases z' : c' = lw
        · rw [z', at2, at1 c (by omega)]
          have a := lt.2 c (by omega)
          have b := l3 c (by omega)
          exact ⟨fun h => by omega, fun h => absurd h b⟩
        · rw [at1 c (by omega), at1 c' (by omega)]; exact ih c c' (by omega) (by omega)
/-- each group has a cell -/
theorem hx_grp_s (n : Nat) : ∀ g, g < (hl_grp st wh n).2 → ∃ c, c < n ∧ (hl_grp st wh n).1 c = g := by
  induction n with
  | zero => exact fun g hg => absurd hg (Nat.not_lt_zero g)
  | succ n ih =>
    unfold hl_grp
    by_cases q : hl_lwc st wh n < n
    · rw [if_pos q]
      intro g hg
      obtain ⟨c, h1, h2⟩ := ih g hg
      exact ⟨c, by omega, (if_neg (by omega) : hl_us _ n _ c = _).trans h2⟩
    · rw [if_neg q]
      intro g hg
      have hg' : g < (hl_grp st wh n).2 + 1 := hg
      by_cases z : g = (hl_grp st wh n).2
      · exact ⟨n, by omega, (if_pos rfl : hl_us _ n _ n = _).trans z.symm⟩
      · obtain ⟨c, h1, h2⟩ := ih g (by omega)
        exact ⟨c, by omega, (if_neg (by omega) : hl_us _ n _ c = _).trans h2⟩
end HXGR
