/-! the grammar: what is read from a place, in the reference's code; 0, behind, code; or a fault and its place -/
def hx_op (k : Nat) : Nat := if k = 34 then 3 else if k = 35 then 4 else if k = 36 then 5 else if k = 37 then 6 else if k = 30 then 10 else if k = 43 then 11 else if k = 31 then 12 else if k = 44 then 13 else if k = 32 then 14 else if k = 33 then 15 else if k = 12 then 22 else 21
def hx_cm (k : Nat) : Bool := (decide (30 ≤ k) && decide (k ≤ 33)) || (decide (43 ≤ k) && decide (k ≤ 44))
def hx_ths (r : Nat × Nat × List (Nat × Nat)) (f : Nat → List (Nat × Nat) → Nat × Nat × List (Nat × Nat)) : Nat × Nat × List (Nat × Nat) := if r.1 = 0 then f r.2.1 r.2.2 else r
def hx_exp (t : Nat → Nat) (L k q : Nat) (C : List (Nat × Nat)) : Nat × Nat × List (Nat × Nat) := if (hx_tk t L q).1 = k then (0, (hx_tk t L q).2.2.2, C) else (1, (hx_tk t L q).2.2.1, [])
/-- an opened one: behind ( - if -/
def hx_opn (t : Nat → Nat) (L : Nat) (u : Nat → Nat → Nat × Nat × List (Nat × Nat)) (k e : Nat) : Nat × Nat × List (Nat × Nat) :=
  if k = 38 then hx_ths (u 1 e) (fun q C => hx_exp t L 39 q C)
  else if k = 35 then hx_ths (u 0 e) (fun q C => (0, q, C ++ [(2, 0)]))
  else hx_ths (u 3 e) (fun q1 C1 => hx_ths (hx_exp t L 41 q1 C1) (fun q2 C1 => hx_ths (u 1 q2) (fun q3 C2 => hx_ths (hx_exp t L 42 q3 C2) (fun q4 C2 => hx_ths (u 1 q4) (fun q5 C3 => hx_ths (hx_exp t L 16 q5 C3) (fun q6 C3 => (0, q6, C1 ++ C2 ++ C3 ++ [(23, 0)])))))))
def hx_one (t : Nat → Nat) (L : Nat) (up : Option (Nat → Nat → Nat × Nat × List (Nat × Nat))) (p : Nat) : Nat × Nat × List (Nat × Nat) :=
  if (hx_tk t L p).1 = 20 then (if 9999 < (hx_tk t L p).2.1 then (2, (hx_tk t L p).2.2.1, []) else (0, (hx_tk t L p).2.2.2, [(0, (hx_tk t L p).2.1)]))
  else if 3 ≤ (hx_tk t L p).1 ∧ (hx_tk t L p).1 ≤ 11 then (0, (hx_tk t L p).2.2.2, [(1, (hx_tk t L p).1 - 3)])
  else if ¬ ((hx_tk t L p).1 = 38 ∨ (hx_tk t L p).1 = 35 ∨ (hx_tk t L p).1 = 15) then (1, (hx_tk t L p).2.2.1, [])
  else match up with
    | none => (3, (hx_tk t L p).2.2.1, [])
    | some u => hx_opn t L u (hx_tk t L p).1 (hx_tk t L p).2.2.2
def hx_lp (t : Nat → Nat) (L : Nat) (ok : Nat → Bool) (X : Nat → Nat × Nat × List (Nat × Nat)) : Nat → Nat → List (Nat × Nat) → Nat × Nat × List (Nat × Nat)
  | 0, q, C => (0, q, C)
  | f + 1, q, C => if ok (hx_tk t L q).1 = true then hx_ths (X (hx_tk t L q).2.2.2) (fun q' C' => hx_lp t L ok X f q' (C ++ C' ++ [(hx_op (hx_tk t L q).1, 0)])) else (0, q, C)
def hx_k2 (a b k : Nat) : Bool := decide (k = a) || decide (k = b)
def hx_rep (t : Nat → Nat) (L a b : Nat) (X : Nat → Nat × Nat × List (Nat × Nat)) (p : Nat) : Nat × Nat × List (Nat × Nat) := hx_ths (X p) (fun q C => hx_lp t L (hx_k2 a b) X 300 q C)
def hx_sum2 (t : Nat → Nat) (L : Nat) (up : Option (Nat → Nat → Nat × Nat × List (Nat × Nat))) : Nat → Nat × Nat × List (Nat × Nat) := hx_rep t L 34 35 (hx_rep t L 36 37 (hx_one t L up))
def hx_ask (t : Nat → Nat) (L : Nat) (up : Option (Nat → Nat → Nat × Nat × List (Nat × Nat))) (p : Nat) : Nat × Nat × List (Nat × Nat) :=
  if (hx_tk t L p).1 = 14 then (match up with
    | none => (3, (hx_tk t L p).2.2.1, [])
    | some u => hx_ths (u 2 (hx_tk t L p).2.2.2) (fun q C => (0, q, C ++ [(20, 0)])))
  else hx_ths (hx_sum2 t L up p) (fun q C => if hx_cm (hx_tk t L q).1 = true then hx_ths (hx_sum2 t L up (hx_tk t L q).2.2.2) (fun q' C' => (0, q', C ++ C' ++ [(hx_op (hx_tk t L q).1, 0)])) else (1, (hx_tk t L q).2.2.1, []))
def hx_eit (t : Nat → Nat) (L : Nat) (up : Option (Nat → Nat → Nat × Nat × List (Nat × Nat))) : Nat → Nat × Nat × List (Nat × Nat) := hx_rep t L 12 12 (hx_rep t L 13 13 (hx_ask t L up))
def hx_lv (t : Nat → Nat) (L : Nat) (up : Option (Nat → Nat → Nat × Nat × List (Nat × Nat))) (tag p : Nat) : Nat × Nat × List (Nat × Nat) := if tag = 0 then hx_one t L up p else if tag = 1 then hx_sum2 t L up p else if tag = 2 then hx_ask t L up p else hx_eit t L up p
def hx_rd (t : Nat → Nat) (L : Nat) : Nat → Nat → Nat → Nat × Nat × List (Nat × Nat)
  | 0 => hx_lv t L none
  | k + 1 => hx_lv t L (some (hx_rd t L k))
/-- what is known of an answer -/
def hx_gd (L p : Nat) (r : Nat × Nat × List (Nat × Nat)) : Prop := (r.1 = 0 → p < r.2.1 ∧ r.2.1 ≤ L ∧ r.2.2.length ≤ r.2.1 - p ∧ ∀ c ∈ r.2.2, c.1 ≤ 23 ∧ c.2 ≤ 9999) ∧ (r.1 ≠ 0 → r.2.1 ≤ L ∧ r.1 ≤ 3)
section HXGRAM
variable {t : Nat → Nat} {L : Nat}
theorem hx_ths_0 {r : Nat × Nat × List (Nat × Nat)} {f : Nat → List (Nat × Nat) → Nat × Nat × List (Nat × Nat)} (h : r.1 = 0) : hx_ths r f = f r.2.1 r.2.2 := if_pos h
theorem hx_ths_n {r : Nat × Nat × List (Nat × Nat)} {f : Nat → List (Nat × Nat) → Nat × Nat × List (Nat × Nat)} (h : r.1 ≠ 0) : hx_ths r f = r := if_neg h
theorem hx_gd_ths {p : Nat} {r : Nat × Nat × List (Nat × Nat)} {f : Nat → List (Nat × Nat) → Nat × Nat × List (Nat × Nat)} (h : r.1 ≠ 0 → r.2.1 ≤ L ∧ r.1 ≤ 3) (g : r.1 = 0 → hx_gd L p (f r.2.1 r.2.2)) : hx_gd L p (hx_ths r f) := by
  by_cases z : r.1 = 0
  · rw [hx_ths_0 z]; exact g z
  · rw [hx_ths_n z]; exact ⟨fun q => absurd q z, h⟩
theorem hx_gd_f {p r s : Nat} (hs : s ≤ L) (hr : r ≤ 3) (h0 : r ≠ 0) : hx_gd L p (r, s, []) := ⟨fun q => absurd q h0, fun _ => ⟨hs, hr⟩⟩
theorem hx_gd_o {p q : Nat} {C : List (Nat × Nat)} (h1 : p < q) (h2 : q ≤ L) (h3 : C.length ≤ q - p) (h4 : ∀ c ∈ C, c.1 ≤ 23 ∧ c.2 ≤ 9999) : hx_gd L p (0, q, C) := ⟨fun _ => ⟨h1, h2, h3, h4⟩, fun z => absurd rfl z⟩
theorem hx_op_le (k : Nat) : hx_op k ≤ 23 := by
  unfold hx_op
  repeat' split
  all_goals omega
theorem hx_gd_lp {ok : Nat → Bool} {X : Nat → Nat × Nat × List (Nat × Nat)} (hok : ok 21 = false) (hX : ∀ p, p ≤ L → hx_gd L p (X p)) {p : Nat} (f : Nat) : ∀ q C, p < q → q ≤ L → C.length ≤ q - p → (∀ c ∈ C, c.1 ≤ 23 ∧ c.2 ≤ 9999) → hx_gd L p (hx_lp t L ok X f q C) := by
  induction f with
  | zero => exact fun q C h1 h2 h3 h4 => hx_gd_o h1 h2 h3 h4
  | succ f ih =>
    intro q C h1 h2 h3 h4
    unfold hx_lp
    by_cases z : ok (hx_tk t L q).1 = true
    · rw [if_pos z]
      obtain ⟨a, b, c, e, -⟩ := hx_tk_in (t := t) h2
      have ne : (hx_tk t L q).1 ≠ 21 := fun y => by rw [y, hok] at z; cases z
      have lt : (hx_tk t L q).2.2.1 < (hx_tk t L q).2.2.2 := by
        rcases e with e | e
        · exact absurd e.1 ne
        · exact e.2
      have g := hX _ c
      refine hx_gd_ths g.2 (fun y => ?_)
      obtain ⟨g1, g2, g3, g4⟩ := g.1 y
      refine ih _ _ (by omega) g2 ?_ ?_
      · simp only [List.length_append, List.length_singleton]; omega
      · intro x hx
        rcases List.mem_append.mp hx with hx | hx
        · rcases List.mem_append.mp hx with hx | hx
          · exact h4 x hx
          · exact g4 x hx
        · rw [List.mem_singleton.mp hx]
          exact ⟨hx_op_le _, Nat.zero_le _⟩
    · rw [if_neg z]
      exact hx_gd_o h1 h2 h3 h4
theorem hx_gd_rep {a b : Nat} {X : Nat → Nat × Nat × List (Nat × Nat)} (ha : a ≠ 21) (hb : b ≠ 21) (hX : ∀ p, p ≤ L → hx_gd L p (X p)) {p : Nat} (hp : p ≤ L) : hx_gd L p (hx_rep t L a b X p) := by
  have g := hX p hp
  refine hx_gd_ths g.2 (fun y => ?_)
  obtain ⟨g1, g2, g3, g4⟩ := g.1 y
  exact hx_gd_lp (by unfold hx_k2; rw [decide_eq_false (fun z => ha z.symm), decide_eq_false (fun z => hb z.symm)]; rfl) hX 300 _ _ g1 g2 g3 g4
theorem hx_gd_exp {k p q : Nat} {C : List (Nat × Nat)} (hk : k ≠ 21) (h1 : p < q) (h2 : q ≤ L) (h3 : C.length ≤ q - p) (h4 : ∀ c ∈ C, c.1 ≤ 23 ∧ c.2 ≤ 9999) : hx_gd L p (hx_exp t L k q C) ∧ ((hx_exp t L k q C).1 = 0 → (hx_exp t L k q C).2.2 = C ∧ q < (hx_exp t L k q C).2.1) := by
  obtain ⟨a, b, c, e, -⟩ := hx_tk_in (t := t) h2
  unfold hx_exp
  by_cases z : (hx_tk t L q).1 = k
  · rw [if_pos z]
    have lt : (hx_tk t L q).2.2.1 < (hx_tk t L q).2.2.2 := by
      rcases e with e | e
      · exact absurd (z.symm.trans e.1) hk
      · exact e.2
    exact ⟨hx_gd_o (by omega) c (by omega) h4, fun _ => ⟨rfl, by show q < (hx_tk t L q).2.2.2; omega⟩⟩
  · rw [if_neg z]
    exact ⟨hx_gd_f (by omega) (by omega) (by omega), fun y => absurd y (by show (1 : Nat) ≠ 0; omega)⟩
theorem hx_gd_opn {u : Nat → Nat → Nat × Nat × List (Nat × Nat)} (hu : ∀ tag p, p ≤ L → hx_gd L p (u tag p)) {k e p : Nat} (he : e ≤ L) (hp : p < e) : hx_gd L p (hx_opn t L u k e) := by
  unfold hx_opn
  by_cases z1 : k = 38
  · rw [if_pos z1]
    have g := hu 1 e he
    refine hx_gd_ths g.2 (fun y => ?_)
    obtain ⟨g1, g2, g3, g4⟩ := g.1 y
    exact (hx_gd_exp (by omega) (by omega) g2 (by omega) g4).1
  · rw [if_neg z1]
    by_cases z2 : k = 35
    · rw [if_pos z2]
      have g := hu 0 e he
      refine hx_gd_ths g.2 (fun y => ?_)
      obtain ⟨g1, g2, g3, g4⟩ := g.1 y
      refine hx_gd_o (by omega) g2 ?_ ?_
      · simp only [List.length_append, List.length_singleton]; omega
      · intro x hx
        rcases List.mem_append.mp hx with hx | hx
        · exact g4 x hx
        · rw [List.mem_singleton.mp hx]; exact ⟨by show (2 : Nat) ≤ 23; omega, Nat.zero_le _⟩
    · rw [if_neg z2]
      have g := hu 3 e he
      refine hx_gd_ths g.2 (fun y => ?_)
      obtain ⟨g1, g2, g3, g4⟩ := g.1 y
      have x1 := hx_gd_exp (t := t) (k := 41) (p := p) (C := (u 3 e).2.2) (by omega) (show p < (u 3 e).2.1 by omega) g2 (by omega) g4
      refine hx_gd_ths x1.1.2 (fun y1 => ?_)
      obtain ⟨a1, a2, a3, a4⟩ := x1.1.1 y1
      obtain ⟨b1, b2⟩ := x1.2 y1
      rw [b1] at a3 a4 ⊢
      generalize (hx_exp t L 41 (u 3 e).2.1 (u 3 e).2.2).2.1 = q2 at a1 a2 a3 b2 ⊢
      have h := hu 1 q2 a2
      refine hx_gd_ths h.2 (fun y2 => ?_)
      obtain ⟨h1, h2, h3, h4⟩ := h.1 y2
      have x2 := hx_gd_exp (t := t) (k := 42) (p := q2) (C := (u 1 q2).2.2) (by omega) h1 h2 h3 h4
      refine hx_gd_ths x2.1.2 (fun y3 => ?_)
      obtain ⟨c1, c2, c3, c4⟩ := x2.1.1 y3
      obtain ⟨d1, d2⟩ := x2.2 y3
      rw [d1] at c3 c4 ⊢
      generalize (hx_exp t L 42 (u 1 q2).2.1 (u 1 q2).2.2).2.1 = q4 at c1 c2 c3 d2 ⊢
      have k' := hu 1 q4 c2
      refine hx_gd_ths k'.2 (fun y4 => ?_)
      obtain ⟨k1, k2, k3, k4⟩ := k'.1 y4
      have x3 := hx_gd_exp (t := t) (k := 16) (p := q4) (C := (u 1 q4).2.2) (by omega) k1 k2 k3 k4
      refine hx_gd_ths x3.1.2 (fun y5 => ?_)
      obtain ⟨m1, m2, m3, m4⟩ := x3.1.1 y5
      obtain ⟨n1, n2⟩ := x3.2 y5
      rw [n1] at m3 m4 ⊢
      refine hx_gd_o (by omega) m2 ?_ ?_
      · simp only [List.length_append, List.length_singleton]; omega
      · intro x hx
        rcases List.mem_append.mp hx with hx | hx
        · rcases List.mem_append.mp hx with hx | hx
          · rcases List.mem_append.mp hx with hx | hx
            · exact a4 x hx
            · exact c4 x hx
          · exact m4 x hx
        · rw [List.mem_singleton.mp hx]; exact ⟨Nat.le_refl 23, Nat.zero_le _⟩
theorem hx_gd_one {up : Option (Nat → Nat → Nat × Nat × List (Nat × Nat))} (hu : ∀ u, up = some u → ∀ tag p, p ≤ L → hx_gd L p (u tag p)) {p : Nat} (hp : p ≤ L) : hx_gd L p (hx_one t L up p) := by
  obtain ⟨a, b, c, e, k44, v4⟩ := hx_tk_in (t := t) hp
  unfold hx_one
  by_cases z1 : (hx_tk t L p).1 = 20
  · have lt : (hx_tk t L p).2.2.1 < (hx_tk t L p).2.2.2 := by omega
    rw [if_pos z1]
    by_cases y : 9999 < (hx_tk t L p).2.1
    · rw [if_pos y]; exact hx_gd_f (by omega) (by omega) (by omega)
    · rw [if_neg y]
      refine hx_gd_o (by omega) c (by show 1 ≤ _; omega) (fun x hx => ?_)
      rw [List.mem_singleton.mp hx]
      exact ⟨Nat.zero_le _, by show (hx_tk t L p).2.1 ≤ 9999; omega⟩
  · rw [if_neg z1]
    by_cases z2 : 3 ≤ (hx_tk t L p).1 ∧ (hx_tk t L p).1 ≤ 11
    · have lt : (hx_tk t L p).2.2.1 < (hx_tk t L p).2.2.2 := by omega
      rw [if_pos z2]
      refine hx_gd_o (by omega) c (by show 1 ≤ _; omega) (fun x hx => ?_)
      rw [List.mem_singleton.mp hx]
      exact ⟨by show (1 : Nat) ≤ 23; omega, by show (hx_tk t L p).1 - 3 ≤ 9999; omega⟩
    · rw [if_neg z2]
      by_cases z3 : ¬ ((hx_tk t L p).1 = 38 ∨ (hx_tk t L p).1 = 35 ∨ (hx_tk t L p).1 = 15)
      · rw [if_pos z3]; exact hx_gd_f (by omega) (by omega) (by omega)
      · rw [if_neg z3]
        have lt : (hx_tk t L p).2.2.1 < (hx_tk t L p).2.2.2 := by omega
        cases up with
        | none => exact hx_gd_f (by omega) (by omega) (by omega)
        | some u => exact hx_gd_opn (hu u rfl) c (by omega)
theorem hx_gd_sum2 {up : Option (Nat → Nat → Nat × Nat × List (Nat × Nat))} (hu : ∀ u, up = some u → ∀ tag p, p ≤ L → hx_gd L p (u tag p)) {p : Nat} (hp : p ≤ L) : hx_gd L p (hx_sum2 t L up p) := hx_gd_rep (by omega) (by omega) (fun p hp => hx_gd_rep (by omega) (by omega) (fun p hp => hx_gd_one hu hp) hp) hp
theorem hx_cm21 {k : Nat} (h : hx_cm k = true) : k ≠ 21 := fun y => by rw [y] at h; exact absurd h (by decide)
theorem hx_gd_ask {up : Option (Nat → Nat → Nat × Nat × List (Nat × Nat))} (hu : ∀ u, up = some u → ∀ tag p, p ≤ L → hx_gd L p (u tag p)) {p : Nat} (hp : p ≤ L) : hx_gd L p (hx_ask t L up p) := by
  obtain ⟨a, b, c, e, k44, v4⟩ := hx_tk_in (t := t) hp
  unfold hx_ask
  by_cases z1 : (hx_tk t L p).1 = 14
  · have lt : (hx_tk t L p).2.2.1 < (hx_tk t L p).2.2.2 := by omega
    rw [if_pos z1]
    cases up with
    | none => exact hx_gd_f (by omega) (by omega) (by omega)
    | some u =>
      have g := hu u rfl 2 _ c
      refine hx_gd_ths g.2 (fun y => ?_)
      obtain ⟨g1, g2, g3, g4⟩ := g.1 y
      refine hx_gd_o (by omega) g2 ?_ ?_
      · simp only [List.length_append, List.length_singleton]; omega
      · intro x hx
        rcases List.mem_append.mp hx with hx | hx
        · exact g4 x hx
        · rw [List.mem_singleton.mp hx]; exact ⟨by show (20 : Nat) ≤ 23; omega, Nat.zero_le _⟩
  · rw [if_neg z1]
    have g := hx_gd_sum2 (t := t) hu hp
    refine hx_gd_ths g.2 (fun y => ?_)
    obtain ⟨g1, g2, g3, g4⟩ := g.1 y
    obtain ⟨a', b', c', e', -⟩ := hx_tk_in (t := t) g2
    by_cases z2 : hx_cm (hx_tk t L (hx_sum2 t L up p).2.1).1 = true
    · rw [if_pos z2]
      have ne := hx_cm21 z2
      have lt : (hx_tk t L (hx_sum2 t L up p).2.1).2.2.1 < (hx_tk t L (hx_sum2 t L up p).2.1).2.2.2 := by
        rcases e' with e' | e'
        · exact absurd e'.1 ne
        · exact e'.2
      have h := hx_gd_sum2 (t := t) hu c'
      refine hx_gd_ths h.2 (fun y' => ?_)
      obtain ⟨h1, h2, h3, h4⟩ := h.1 y'
      refine hx_gd_o (by omega) h2 ?_ ?_
      · simp only [List.length_append, List.length_singleton]; omega
      · intro x hx
        rcases List.mem_append.mp hx with hx | hx
        · rcases List.mem_append.mp hx with hx | hx
          · exact g4 x hx
          · exact h4 x hx
        · rw [List.mem_singleton.mp hx]; exact ⟨hx_op_le _, Nat.zero_le _⟩
    · rw [if_neg z2]
      exact hx_gd_f (by omega) (by omega) (by omega)
theorem hx_gd_eit {up : Option (Nat → Nat → Nat × Nat × List (Nat × Nat))} (hu : ∀ u, up = some u → ∀ tag p, p ≤ L → hx_gd L p (u tag p)) {p : Nat} (hp : p ≤ L) : hx_gd L p (hx_eit t L up p) := hx_gd_rep (by omega) (by omega) (fun p hp => hx_gd_rep (by omega) (by omega) (fun p hp => hx_gd_ask hu hp) hp) hp
theorem hx_gd_lv {up : Option (Nat → Nat → Nat × Nat × List (Nat × Nat))} (hu : ∀ u, up = some u → ∀ tag p, p ≤ L → hx_gd L p (u tag p)) (tag p : Nat) (hp : p ≤ L) : hx_gd L p (hx_lv t L up tag p) := by
  unfold hx_lv
  repeat' split
  · exact hx_gd_one hu hp
  · exact hx_gd_sum2 hu hp
  · exact hx_gd_ask hu hp
  · exact hx_gd_eit hu hp
theorem hx_gd_rd (k : Nat) : ∀ tag p, p ≤ L → hx_gd L p (hx_rd t L k tag p) := by
  induction k with
  | zero => exact hx_gd_lv (fun u h => by cases h)
  | succ k ih => exact hx_gd_lv (fun u h => by cases h; exact ih)
end HXGRAM
