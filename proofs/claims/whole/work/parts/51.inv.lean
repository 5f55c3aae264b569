/-! what ties the class's rows to the reference's -/
/-- where the class keeps what the reference keeps at place j: row above the land's first, place there -/
def hl_ri (N j : Nat) : Option (Nat × Nat) :=
  if j = 0 then some (0, 8) else if j = 1 then some (10, 3) else if j = 2 then some (0, 12) else if j = 3 then some (0, 13)
  else if j = 4 then some (0, 10) else if j = 5 then some (0, 11)
  else if 10 ≤ j ∧ j < 14 then some (8, j - 10) else if 15 ≤ j ∧ j < 27 then some (9, j - 15)
  else if 30 ≤ j ∧ j < 30 + 7 * N then some (1 + (j - 30) % 7, (j - 30) / 7)
  else if 200 ≤ j ∧ j < 320 then some (11 + (j - 200) % 3, (j - 200) / 3)
  else if 330 ≤ j ∧ j < 336 then some (17, j - 330)
  else if 340 ≤ j ∧ j < 484 then some (15 + (j - 340) % 2, 12 * ((j - 340) / 24) + (j - 340) % 24 / 2) else none
theorem hl_ri_c {N j r k : Nat} (h : hl_ri N j = some (r, k)) : ((j = 0) ∧ r = 0 ∧ k = 8) ∨ ((j = 1) ∧ r = 10 ∧ k = 3) ∨ ((j = 2) ∧ r = 0 ∧ k = 12) ∨ ((j = 3) ∧ r = 0 ∧ k = 13) ∨ ((j = 4) ∧ r = 0 ∧ k = 10) ∨ ((j = 5) ∧ r = 0 ∧ k = 11) ∨ ((10 ≤ j ∧ j < 14) ∧ r = 8 ∧ k = j - 10) ∨ ((15 ≤ j ∧ j < 27) ∧ r = 9 ∧ k = j - 15) ∨ ((30 ≤ j ∧ j < 30 + 7 * N) ∧ r = 1 + (j - 30) % 7 ∧ k = (j - 30) / 7) ∨ ((200 ≤ j ∧ j < 320) ∧ r = 11 + (j - 200) % 3 ∧ k = (j - 200) / 3) ∨ ((330 ≤ j ∧ j < 336) ∧ r = 17 ∧ k = j - 330) ∨ ((340 ≤ j ∧ j < 484) ∧ r = 15 + (j - 340) % 2 ∧ k = 12 * ((j - 340) / 24) + (j - 340) % 24 / 2) := by
  unfold hl_ri at h
  by_cases c0 : j = 0
  · rw [if_pos c0] at h
    simp only [Option.some.injEq, Prod.mk.injEq] at h
    exact .inl ⟨c0, h.1.symm, h.2.symm⟩
  rw [if_neg c0] at h
  by_cases c1 : j = 1
  · rw [if_pos c1] at h
    simp only [Option.some.injEq, Prod.mk.injEq] at h
    exact .inr (.inl ⟨c1, h.1.symm, h.2.symm⟩)
  rw [if_neg c1] at h
  by_cases c2 : j = 2
  · rw [if_pos c2] at h
    simp only [Option.some.injEq, Prod.mk.injEq] at h
    exact .inr (.inr (.inl ⟨c2, h.1.symm, h.2.symm⟩))
  rw [if_neg c2] at h
  by_cases c3 : j = 3
  · rw [if_pos c3] at h
    simp only [Option.some.injEq, Prod.mk.injEq] at h
    exact .inr (.inr (.inr (.inl ⟨c3, h.1.symm, h.2.symm⟩)))
  rw [if_neg c3] at h
  by_cases c4 : j = 4
  · rw [if_pos c4] at h
    simp only [Option.some.injEq, Prod.mk.injEq] at h
    exact .inr (.inr (.inr (.inr (.inl ⟨c4, h.1.symm, h.2.symm⟩))))
  rw [if_neg c4] at h
  by_cases c5 : j = 5
  · rw [if_pos c5] at h
    simp only [Option.some.injEq, Prod.mk.injEq] at h
    exact .inr (.inr (.inr (.inr (.inr (.inl ⟨c5, h.1.symm, h.2.symm⟩)))))
  rw [if_neg c5] at h
  by_cases c6 : 10 ≤ j ∧ j < 14
  · rw [if_pos c6] at h
    simp only [Option.some.injEq, Prod.mk.injEq] at h
    exact .inr (.inr (.inr (.inr (.inr (.inr (.inl ⟨c6, h.1.symm, h.2.symm⟩))))))
  rw [if_neg c6] at h
  by_cases c7 : 15 ≤ j ∧ j < 27
  · rw [if_pos c7] at h
    simp only [Option.some.injEq, Prod.mk.injEq] at h
    exact .inr (.inr (.inr (.inr (.inr (.inr (.inr (.inl ⟨c7, h.1.symm, h.2.symm⟩)))))))
  rw [if_neg c7] at h
  by_cases c8 : 30 ≤ j ∧ j < 30 + 7 * N
  · rw [if_pos c8] at h
    simp only [Option.some.injEq, Prod.mk.injEq] at h
    exact .inr (.inr (.inr (.inr (.inr (.inr (.inr (.inr (.inl ⟨c8, h.1.symm, h.2.symm⟩))))))))
  rw [if_neg c8] at h
  by_cases c9 : 200 ≤ j ∧ j < 320
  · rw [if_pos c9] at h
    simp only [Option.some.injEq, Prod.mk.injEq] at h
    exact .inr (.inr (.inr (.inr (.inr (.inr (.inr (.inr (.inr (.inl ⟨c9, h.1.symm, h.2.symm⟩)))))))))
  rw [if_neg c9] at h
  by_cases c10 : 330 ≤ j ∧ j < 336
  · rw [if_pos c10] at h
    simp only [Option.some.injEq, Prod.mk.injEq] at h
    exact .inr (.inr (.inr (.inr (.inr (.inr (.inr (.inr (.inr (.inr (.inl ⟨c10, h.1.symm, h.2.symm⟩))))))))))
  rw [if_neg c10] at h
  by_cases c11 : 340 ≤ j ∧ j < 484
  · rw [if_pos c11] at h
    simp only [Option.some.injEq, Prod.mk.injEq] at h
    exact .inr (.inr (.inr (.inr (.inr (.inr (.inr (.inr (.inr (.inr (.inr (⟨c11, h.1.symm, h.2.symm⟩)))))))))))
  rw [if_neg c11] at h
  cases h
theorem hl_ri_lt {N j r k : Nat} (h : hl_ri N j = some (r, k)) : r < 18 := by
  rcases hl_ri_c h with q | q | q | q | q | q | q | q | q | q | q | q <;> omega
theorem hl_ri_j {N j r k : Nat} (hN : N ≤ 24) (h : hl_ri N j = some (r, k)) : j < 490 := by
  rcases hl_ri_c h with q | q | q | q | q | q | q | q | q | q | q | q <;> omega
/-- back from the class's place -/
def hl_ir (r k : Nat) : Nat :=
  if r = 0 then (if k = 8 then 0 else if k = 12 then 2 else if k = 13 then 3 else if k = 10 then 4 else 5)
  else if r < 8 then 30 + 7 * k + (r - 1) else if r = 8 then 10 + k else if r = 9 then 15 + k else if r = 10 then 1
  else if r < 14 then 200 + 3 * k + (r - 11) else if r = 17 then 330 + k else 340 + 24 * (k / 12) + 2 * (k % 12) + (r - 15)
theorem hl_ir_ri {N j r k : Nat} (h : hl_ri N j = some (r, k)) : hl_ir r k = j := by
  unfold hl_ir
  rcases hl_ri_c h with q | q | q | q | q | q | q | q | q | q | q | q <;> obtain ⟨q1, q2, q3⟩ := q <;> (repeat' split) <;> omega
def hl_LE (N : Nat) (I : Nat → Nat → Int32) (b m : Nat) : Prop := ∀ j r k, hl_ri N j = some (r, k) → I (b + r) k = I m j
theorem hl_LE_congr {N : Nat} {I I' : Nat → Nat → Int32} {b m : Nat} (h : hl_LE N I b m) (h1 : ∀ r, r < 18 → I' (b + r) = I (b + r)) (h2 : I' m = I m) : hl_LE N I' b m := fun j r k e => by
  rw [h1 r (hl_ri_lt e), h2]
  exact h j r k e
theorem hl_LE_up {N : Nat} {I : Nat → Nat → Int32} {b m j0 r0 k0 : Nat} {v : Int32} (hb : b + 18 ≤ m) (h : hl_LE N I b m) (e0 : hl_ri N j0 = some (r0, k0)) : hl_LE N (hl_up (hl_up I (b + r0) k0 v) m j0 v) b m := by
  intro j r k e
  have h0 := hl_ri_lt e0
  have h1 := hl_ri_lt e
  rw [hl_up_ne _ _ _ (show b + r ≠ m by omega)]
  have e3 : hl_up (hl_up I (b + r0) k0 v) m j0 v m j = if j = j0 then v else I m j := by
    simp only [hl_up, if_true, if_neg (show ¬ m = b + r0 by omega)]
  rw [e3]
  by_cases q : j = j0
  · subst q
    rw [e0] at e
    cases e
    rw [if_pos rfl]
    simp only [hl_up, if_true]
  · rw [if_neg q]
    have : ¬ (r = r0 ∧ k = k0) := fun ⟨z1, z2⟩ => q (by rw [← hl_ir_ri e, ← hl_ir_ri e0, z1, z2])
    have e4 : hl_up I (b + r0) k0 v (b + r) k = I (b + r) k := by
      unfold hl_up
      by_cases z1 : b + r = b + r0
      · rw [if_pos z1, if_neg (fun z2 => this ⟨by omega, z2⟩)]
      · rw [if_neg z1]
    rw [e4]
    exact h j r k e
theorem hl_up_comm {α : Type} {I : Nat → Nat → α} {a b i j : Nat} {u v : α} (h : a ≠ b) : hl_up (hl_up I a i u) b j v = hl_up (hl_up I b j v) a i u := by
  funext c k
  unfold hl_up
  by_cases e : c = a
  · subst e
    simp only [h, if_false, if_true]
  · by_cases e2 : c = b
    · subst e2
      simp only [if_true, e, if_false]
    · simp only [e, e2, if_false]
def hl_Sv (I : Nat → Nat → Int32) (m j : Nat) : Int := (I m j).toInt
/-- what the land's numbers keep to -/
def hl_V (N : Nat) (S : Nat → Int) : Prop :=
  (0 ≤ S 0 ∧ S 0 ≤ 4) ∧ (0 ≤ S 1 ∧ S 1 ≤ 40) ∧ (0 ≤ S 2 ∧ S 2 ≤ 4) ∧ (-1 ≤ S 3 ∧ S 3 < S 2) ∧ (S 4 = -1 ∨ (0 ≤ S 4 ∧ S 4 ≤ 11 ∧ 0 ≤ S 5 ∧ S 5 ≤ 11)) ∧
  (∀ h : Nat, (h : Int) < S 0 → 0 ≤ S (10 + h) ∧ S (10 + h) ≤ 300) ∧ (∀ h : Nat, (h : Int) + 1 < S 0 → S (10 + h) < S (10 + (h + 1))) ∧
  (∀ q, q < 12 → 0 ≤ S (15 + q) ∧ S (15 + q) ≤ 720) ∧
  (∀ c, c < N → (0 ≤ S (30 + 7 * c) ∧ S (30 + 7 * c) ≤ 300) ∧ (0 ≤ S (30 + 7 * c + 1) ∧ S (30 + 7 * c + 1) ≤ 999) ∧ (0 ≤ S (30 + 7 * c + 2) ∧ S (30 + 7 * c + 2) ≤ 5) ∧ (0 ≤ S (30 + 7 * c + 3) ∧ S (30 + 7 * c + 3) ≤ 900) ∧ (0 ≤ S (30 + 7 * c + 4) ∧ S (30 + 7 * c + 4) ≤ 1) ∧ (-1 ≤ S (30 + 7 * c + 5) ∧ S (30 + 7 * c + 5) < S 0) ∧ (0 ≤ S (30 + 7 * c + 6) ∧ (S (30 + 7 * c + 6) < S 0 ∨ S (30 + 7 * c + 6) = 0))) ∧
  (∀ k : Nat, (k : Int) < S 1 → (0 ≤ S (200 + 3 * k) ∧ S (200 + 3 * k) < N) ∧ (0 ≤ S (200 + 3 * k + 1) ∧ S (200 + 3 * k + 1) < N) ∧ S (200 + 3 * k) ≠ S (200 + 3 * k + 1) ∧ (1 ≤ S (200 + 3 * k + 2) ∧ S (200 + 3 * k + 2) ≤ 99)) ∧
  (∀ t : Nat, t < 6 → (0 ≤ S (330 + t) ∧ S (330 + t) ≤ 12) ∧ ∀ i : Nat, (i : Int) < S (330 + t) → (0 ≤ S (340 + 24 * t + 2 * i) ∧ S (340 + 24 * t + 2 * i) < N) ∧ (1 ≤ S (340 + 24 * t + 2 * i + 1) ∧ S (340 + 24 * t + 2 * i + 1) ≤ 999))
