/-! two cuts that differ above a price only -/
theorem hl_cuts2 {C1 C2 : (Nat → Bool) → Int} {F1 F2 c : Int} {R1 R2 : Nat → Bool} (le : ∀ S, C1 S ≤ C2 S) (eq : ∀ S, C1 S = C2 S ∨ (c ≤ C1 S ∧ c ≤ C2 S)) (h1 : hl_MC C1 F1 R1) (h2 : hl_MC C2 F2 R2) : (c ≤ F1 ∧ c ≤ F2) ∨ (F1 = F2 ∧ F1 < c ∧ ∀ u, R1 u = R2 u) := by
  obtain ⟨a0, a1, a2, a3⟩ := h1
  obtain ⟨b0, b1, b2, b3⟩ := h2
  obtain ⟨x1, x2⟩ := a3 R2 b0 b1
  obtain ⟨y1, y2⟩ := b3 R1 a0 a1
  have l2 := le R2
  have l1 := le R1
  have main : F1 < c → F1 = F2 ∧ F1 < c ∧ ∀ u, R1 u = R2 u := fun h => by
    have e1 : C1 R1 = C2 R1 := by
      rcases eq R1 with q | q
      · exact q
      · omega
    have e : F1 = F2 := by omega
    refine ⟨e, h, fun u => ?_⟩
    have p := x2 (by omega) u
    have q := y2 (by omega) u
    cases hr : R1 u with
    | true => exact (p hr).symm
    | false =>
      cases hs : R2 u with
      | true => rw [q hs] at hr; cases hr
      | false => rfl
  by_cases h : F1 < c
  · exact .inr (main h)
  · by_cases h' : F2 < c
    · refine .inr (main ?_)
      rcases eq R2 with q | q <;> omega
    · exact .inl ⟨by omega, by omega⟩
theorem hl_si_two {f g : Nat → Int} {c : Int} (n : Nat) (h : ∀ k, k < n → 0 ≤ f k ∧ f k ≤ g k ∧ (f k = g k ∨ (c ≤ f k ∧ c ≤ g k))) : 0 ≤ hl_si n f ∧ hl_si n f ≤ hl_si n g ∧ (hl_si n f = hl_si n g ∨ (c ≤ hl_si n f ∧ c ≤ hl_si n g)) := by
  induction n with
  | zero => exact ⟨Int.le_refl 0, Int.le_refl 0, .inl rfl⟩
  | succ n ih =>
    obtain ⟨a, b, e⟩ := ih (fun k hk => h k (by omega))
    obtain ⟨p, q, r⟩ := h n (by omega)
    show 0 ≤ hl_si n f + f n ∧ hl_si n f + f n ≤ hl_si n g + g n ∧ (hl_si n f + f n = hl_si n g + g n ∨ (c ≤ hl_si n f + f n ∧ c ≤ hl_si n g + g n))
    generalize hl_si n f = x at a b e ⊢
    generalize hl_si n g = y at b e ⊢
    generalize f n = u at p q r ⊢
    generalize g n = w at q r ⊢
    refine ⟨by omega, by omega, ?_⟩
    rcases e with e | e <;> rcases r with r | r <;> omega
theorem hl_ch_two {m g k : Nat} {gp : Nat → Int} {S : Nat → Bool} (h : 0 ≤ gp (4 * g + k)) : 0 ≤ hl_ch 1000000000 m gp g S k ∧ hl_ch 1000000000 m gp g S k ≤ hl_ch 40000000000 m gp g S k ∧ (hl_ch 1000000000 m gp g S k = hl_ch 40000000000 m gp g S k ∨ (1000000000 ≤ hl_ch 1000000000 m gp g S k ∧ 1000000000 ≤ hl_ch 40000000000 m gp g S k)) := by
  unfold hl_ch
  have a := (hl_fs_le (S := S) (u := hl_nd m g k) (v := hl_nd m g (k + 1)) h (Int.le_refl _)).1
  generalize hl_fs S (hl_nd m g k) (hl_nd m g (k + 1)) (gp (4 * g + k)) = x at a
  unfold hl_fs
  by_cases z : 0 < k ∧ k + 1 < m
  · rw [if_pos z, if_pos z]
    by_cases y : S (hl_nd m g (k + 1)) = true ∧ S (hl_nd m g k) = false
    · rw [if_pos y, if_pos y]; omega
    · rw [if_neg y, if_neg y]; omega
  · rw [if_neg z, if_neg z]
    split <;> omega
theorem hl_CT_two {m G cn : Nat} {gp : Nat → Int} {ga gb : Nat → Nat} {wt : Nat → Nat → Int} (hgp : ∀ g k, g < G → k < m → 0 ≤ gp (4 * g + k)) (hwt : ∀ t k, t < cn → k + 1 < m → 0 ≤ wt t k) (S : Nat → Bool) : 0 ≤ hl_CT 1000000000 m G cn gp ga gb wt S ∧ hl_CT 1000000000 m G cn gp ga gb wt S ≤ hl_CT 40000000000 m G cn gp ga gb wt S ∧ (hl_CT 1000000000 m G cn gp ga gb wt S = hl_CT 40000000000 m G cn gp ga gb wt S ∨ (1000000000 ≤ hl_CT 1000000000 m G cn gp ga gb wt S ∧ 1000000000 ≤ hl_CT 40000000000 m G cn gp ga gb wt S)) := by
  have a := hl_si_two (c := 1000000000) G (f := fun g => hl_si m (hl_ch 1000000000 m gp g S)) (g := fun g => hl_si m (hl_ch 40000000000 m gp g S)) (fun g hg => hl_si_two m (fun k hk => hl_ch_two (hgp g k hg hk)))
  have b : 0 ≤ hl_si cn (fun t => hl_si (m - 1) (hl_ct m (ga t) (gb t) (wt t) S)) := hl_si_nn cn (fun t ht => hl_si_nn (m - 1) (fun k hk => by
    have q := hwt t k ht (by omega)
    unfold hl_ct
    split
    · exact Int.le_refl 0
    · exact Int.add_nonneg (hl_fs_le q (Int.le_refl _)).1 (hl_fs_le q (Int.le_refl _)).1))
  unfold hl_CT
  generalize hl_si cn (fun t => hl_si (m - 1) (hl_ct m (ga t) (gb t) (wt t) S)) = w at b ⊢
  generalize hl_si G (fun g => hl_si m (hl_ch 1000000000 m gp g S)) = x at a ⊢
  generalize hl_si G (fun g => hl_si m (hl_ch 40000000000 m gp g S)) = y at a ⊢
  obtain ⟨a1, a2, a3⟩ := a
  refine ⟨by omega, by omega, ?_⟩
  rcases a3 with e | e <;> omega
/-- the class's and the reference's least cuts over the same groups -/
theorem hl_same_cut {m G cn : Nat} {gp : Nat → Int} {ga gb : Nat → Nat} {wt : Nat → Nat → Int} {F1 F2 : Int} {R1 R2 : Nat → Bool} (hgp : ∀ g k, g < G → k < m → 0 ≤ gp (4 * g + k)) (hwt : ∀ t k, t < cn → k + 1 < m → 0 ≤ wt t k) (h1 : hl_MC (hl_CT 1000000000 m G cn gp ga gb wt) F1 R1) (h2 : hl_MC (hl_CT 40000000000 m G cn gp ga gb wt) F2 R2) : (1000000000 ≤ F1 ∧ 1000000000 ≤ F2) ∨ (F1 = F2 ∧ F1 < 1000000000 ∧ ∀ u, R1 u = R2 u) := hl_cuts2 (fun S => (hl_CT_two hgp hwt S).2.1) (fun S => (hl_CT_two hgp hwt S).2.2) h1 h2
