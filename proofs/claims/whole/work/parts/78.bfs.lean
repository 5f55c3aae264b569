/-! depths: the class's breadth first search -/
def hl_di (n : Nat) : Int32 := match n with
  | 0 => -1
  | n + 1 => nI n
/-- depths (0 none, else one more), queue, how many are told -/
def hl_qs (ds : Nat → Nat) (r : Nat → Int) (nd x : Nat) (s : (Nat → Nat) × (Nat → Nat) × Nat) (p : Nat) : (Nat → Nat) × (Nat → Nat) × Nat := if 0 < r p ∧ s.1 (ds p) = 0 ∧ s.2.2 < nd then (hl_us s.1 (ds p) (s.1 x + 1), hl_us s.2.1 s.2.2 (ds p), s.2.2 + 1) else s
def hl_qb (sr ds : Nat → Nat) (r : Nat → Int) (nd x : Nat) : Nat → (Nat → Nat) × (Nat → Nat) × Nat → (Nat → Nat) × (Nat → Nat) × Nat
  | 0, s => s
  | k + 1, s => hl_qb sr ds r nd x k (if sr k = x then hl_qs ds r nd x s k else s)
/-- what holds in the search -/
def hl_bI (np nd : Nat) (sr ds : Nat → Nat) (r : Nat → Int) (i : Nat) (s : (Nat → Nat) × (Nat → Nat) × Nat) : Prop :=
  (s.2.2 ≤ nd ∧ 0 < s.2.2 ∧ s.1 0 = 1 ∧ s.2.1 0 = 0) ∧ (∀ j, j < s.2.2 → s.2.1 j < nd ∧ 0 < s.1 (s.2.1 j) ∧ s.1 (s.2.1 j) ≤ j + 1) ∧ (∀ u, u < nd → 0 < s.1 u → ∃ j, j < s.2.2 ∧ s.2.1 j = u) ∧
  s.2.2 = hl_cnt (fun u => decide (0 < s.1 u)) nd ∧ (∀ j k, j ≤ k → k < s.2.2 → s.1 (s.2.1 j) ≤ s.1 (s.2.1 k)) ∧
  (∀ X : Nat → Bool, X 0 = true → (∀ p, p < np → X (sr p) = true → 0 < r p → X (ds p) = true) → ∀ u, u < nd → 0 < s.1 u → X u = true) ∧
  (∀ u, u < nd → 0 < s.1 u → u ≠ 0 → ∃ p, p < np ∧ ds p = u ∧ 0 < r p ∧ 0 < s.1 (sr p) ∧ s.1 u = s.1 (sr p) + 1) ∧
  ∀ j, j < i → j < s.2.2 → ∀ p, p < np → sr p = s.2.1 j → 0 < r p → 0 < s.1 (ds p) ∧ s.1 (ds p) ≤ s.1 (s.2.1 j) + 1
/-- and while a node's pipes are gone through, down to k -/
def hl_bK (np : Nat) (sr ds : Nat → Nat) (r : Nat → Int) (x k : Nat) (s : (Nat → Nat) × (Nat → Nat) × Nat) : Prop := (∀ j, j < s.2.2 → s.1 (s.2.1 j) ≤ s.1 x + 1) ∧ ∀ p, k ≤ p → p < np → sr p = x → 0 < r p → 0 < s.1 (ds p) ∧ s.1 (ds p) ≤ s.1 x + 1
theorem hl_cnt_us {D : Nat → Nat} {v n m : Nat} (hv : v < n) (h0 : D v = 0) (hm : 0 < m) : hl_cnt (fun u => decide (0 < hl_us D v m u)) n = hl_cnt (fun u => decide (0 < D u)) n + 1 := by
  induction n with
  | zero => omega
  | succ n ih =>
    unfold hl_cnt
    by_cases e : v = n
    · subst e
      have e1 : hl_cnt (fun u => decide (0 < hl_us D v m u)) v = hl_cnt (fun u => decide (0 < D u)) v := by
        have hle1 := hl_cnt_mono (p := fun u => decide (0 < hl_us D v m u)) (q := fun u => decide (0 < D u)) v (fun c hc h => by
          have := of_decide_eq_true h
          unfold hl_us at this
          rw [if_neg (by omega)] at this
          exact decide_eq_true this)
        have hle2 := hl_cnt_mono (p := fun u => decide (0 < D u)) (q := fun u => decide (0 < hl_us D v m u)) v (fun c hc h => by
          have := of_decide_eq_true h
          refine decide_eq_true ?_
          unfold hl_us
          rw [if_neg (by omega)]
          exact this)
        omega
      rw [e1, if_pos (decide_eq_true (by unfold hl_us; rw [if_pos rfl]; exact hm)), if_neg (by rw [h0]; decide)]
    · rw [ih (by omega)]
      have e2 : hl_us D v m n = D n := if_neg (fun z => e z.symm)
      rw [e2]
      omega
theorem hl_qs_bI {np nd : Nat} {sr ds : Nat → Nat} {r : Nat → Int} {i x p : Nat} {s : (Nat → Nat) × (Nat → Nat) × Nat} (hp : p < np) (hds : ds p < nd) (hsr : sr p = x) (hx : s.2.1 i = x) (hi : i < s.2.2) (hB : hl_bI np nd sr ds r i s) (hK : hl_bK np sr ds r x (p + 1) s) : hl_bI np nd sr ds r i (hl_qs ds r nd x s p) ∧ hl_bK np sr ds r x p (hl_qs ds r nd x s p) ∧ (hl_qs ds r nd x s p).2.1 i = x ∧ i < (hl_qs ds r nd x s p).2.2 := by
  obtain ⟨⟨b0, b0', b9, b9'⟩, b1, b2, b3, b5, b6, b7, b8⟩ := hB
  obtain ⟨k1, k2⟩ := hK
  unfold hl_qs
  have xp : 0 < s.1 x := by rw [← hx]; exact (b1 i hi).2.1
  by_cases q : 0 < r p ∧ s.1 (ds p) = 0 ∧ s.2.2 < nd
  · rw [if_pos q]
    obtain ⟨q1, q2, q3⟩ := q
    have ne : ∀ u, 0 < s.1 u → hl_us s.1 (ds p) (s.1 x + 1) u = s.1 u := fun u hu => if_neg (fun z => by rw [z] at hu; omega)
    have at1 : hl_us s.1 (ds p) (s.1 x + 1) (ds p) = s.1 x + 1 := if_pos rfl
    have Qne : ∀ j, j < s.2.2 → hl_us s.2.1 s.2.2 (ds p) j = s.2.1 j := fun j hj => if_neg (by omega)
    have Qat : hl_us s.2.1 s.2.2 (ds p) s.2.2 = ds p := if_pos rfl
    have Dpos : ∀ u, 0 < hl_us s.1 (ds p) (s.1 x + 1) u → u = ds p ∨ 0 < s.1 u := fun u hu => by
      by_cases z : u = ds p
      · exact .inl z
      · unfold hl_us at hu; rw [if_neg z] at hu; exact .inr hu
    have ex := ne x xp
    refine ⟨⟨⟨?_, ?_, ?_, ?_⟩, ?_, ?_, ?_, ?_, ?_, ?_, ?_⟩, ⟨?_, ?_⟩, ?_, ?_⟩
    · show s.2.2 + 1 ≤ nd; omega
    · show 0 < s.2.2 + 1; omega
    · show hl_us s.1 (ds p) (s.1 x + 1) 0 = 1; rw [ne 0 (by omega)]; exact b9
    · show hl_us s.2.1 s.2.2 (ds p) 0 = 0; rw [Qne 0 b0']; exact b9'
    · intro j hj
      have hj' : j < s.2.2 + 1 := hj
      show hl_us s.2.1 s.2.2 (ds p) j < nd ∧ 0 < hl_us s.1 (ds p) (s.1 x + 1) (hl_us s.2.1 s.2.2 (ds p) j) ∧ hl_us s.1 (ds p) (s.1 x + 1) (hl_us s.2.1 s.2.2 (ds p) j) ≤ j + 1
      by_cases z : j = s.2.2
      · subst z
        rw [Qat, at1]
        have := (b1 i hi).2.2
        rw [hx] at this
        exact ⟨hds, by omega, by omega⟩
      · rw [Qne j (by omega), ne _ (b1 j (by omega)).2.1]
        exact b1 j (by omega)
    · intro u hu hD
      rcases Dpos u hD with z | z
      · exact ⟨s.2.2, Nat.lt_succ_self _, by rw [z]; exact Qat⟩
      · obtain ⟨j, j1, j2⟩ := b2 u hu z
        exact ⟨j, Nat.lt_succ_of_lt j1, (Qne j j1).trans j2⟩
    · show s.2.2 + 1 = hl_cnt (fun u => decide (0 < hl_us s.1 (ds p) (s.1 x + 1) u)) nd
      rw [hl_cnt_us hds q2 (by omega), ← b3]
    · intro j k hjk hk
      have hk' : k < s.2.2 + 1 := hk
      show hl_us s.1 (ds p) (s.1 x + 1) (hl_us s.2.1 s.2.2 (ds p) j) ≤ hl_us s.1 (ds p) (s.1 x + 1) (hl_us s.2.1 s.2.2 (ds p) k)
      by_cases z : k = s.2.2
      · subst z
        rw [Qat, at1]
        by_cases y : j = s.2.2
        · subst y; rw [Qat, at1]; exact Nat.le_refl _
        · rw [Qne j (by omega), ne _ (b1 j (by omega)).2.1]; exact k1 j (by omega)
      · rw [Qne j (by omega), Qne k (by omega), ne _ (b1 j (by omega)).2.1, ne _ (b1 k (by omega)).2.1]
        exact b5 j k hjk (by omega)
    · intro X X0 Xc u hu hD
      rcases Dpos u hD with z | z
      · rw [z]
        refine Xc p hp ?_ q1
        rw [hsr]
        exact b6 X X0 Xc x (by rw [← hx]; exact (b1 i hi).1) xp
      · exact b6 X X0 Xc u hu z
    · intro u hu hD h0
      rcases Dpos u hD with z | z
      · refine ⟨p, hp, z.symm, q1, ?_, ?_⟩
        · show 0 < hl_us s.1 (ds p) (s.1 x + 1) (sr p); rw [hsr, ex]; exact xp
        · show hl_us s.1 (ds p) (s.1 x + 1) u = hl_us s.1 (ds p) (s.1 x + 1) (sr p) + 1; rw [hsr, ex, z, at1]
      · obtain ⟨w, w1, w2, w3, w4, w5⟩ := b7 u hu z h0
        refine ⟨w, w1, w2, w3, ?_, ?_⟩
        · show 0 < hl_us s.1 (ds p) (s.1 x + 1) (sr w); rw [ne _ w4]; exact w4
        · show hl_us s.1 (ds p) (s.1 x + 1) u = hl_us s.1 (ds p) (s.1 x + 1) (sr w) + 1; rw [ne _ w4, ne _ z]; exact w5
    · intro j hj hj2 w hw hws hwr
      have hj3 : j < s.2.2 := by omega
      have hws' : sr w = s.2.1 j := by rw [hws]; exact Qne j hj3
      obtain ⟨y1, y2⟩ := b8 j hj hj3 w hw hws' hwr
      show 0 < hl_us s.1 (ds p) (s.1 x + 1) (ds w) ∧ hl_us s.1 (ds p) (s.1 x + 1) (ds w) ≤ hl_us s.1 (ds p) (s.1 x + 1) (hl_us s.2.1 s.2.2 (ds p) j) + 1
      rw [Qne j hj3, ne _ y1, ne _ (b1 j hj3).2.1]
      exact ⟨y1, y2⟩
    · intro j hj
      have hj' : j < s.2.2 + 1 := hj
      show hl_us s.1 (ds p) (s.1 x + 1) (hl_us s.2.1 s.2.2 (ds p) j) ≤ hl_us s.1 (ds p) (s.1 x + 1) x + 1
      rw [ex]
      by_cases z : j = s.2.2
      · subst z; rw [Qat, at1]; exact Nat.le_refl _
      · rw [Qne j (by omega), ne _ (b1 j (by omega)).2.1]; exact k1 j (by omega)
    · intro w hw1 hw2 hw3 hw4
      show 0 < hl_us s.1 (ds p) (s.1 x + 1) (ds w) ∧ hl_us s.1 (ds p) (s.1 x + 1) (ds w) ≤ hl_us s.1 (ds p) (s.1 x + 1) x + 1
      rw [ex]
      by_cases z : w = p
      · subst z; rw [at1]; omega
      · obtain ⟨y1, y2⟩ := k2 w (by omega) hw2 hw3 hw4
        rw [ne _ y1]; exact ⟨y1, y2⟩
    · show hl_us s.2.1 s.2.2 (ds p) i = x; rw [Qne i hi]; exact hx
    · show i < s.2.2 + 1; omega
  · rw [if_neg q]
    refine ⟨⟨⟨b0, b0', b9, b9'⟩, b1, b2, b3, b5, b6, b7, b8⟩, ⟨k1, fun w hw1 hw2 hw3 hw4 => ?_⟩, hx, hi⟩
    by_cases z : w = p
    · subst z
      by_cases y : s.1 (ds w) = 0
      · -- there is room in the queue
        have lt : s.2.2 < nd := by
          have := hl_cnt_us (D := s.1) (m := 1) hds y (by omega)
          have := hl_cnt_le (fun u => decide (0 < hl_us s.1 (ds w) 1 u)) nd
          omega
        exact absurd ⟨hw4, y, lt⟩ q
      · obtain ⟨j, j1, j2⟩ := b2 (ds w) hds (by omega)
        have := k1 j j1
        rw [j2] at this
        exact ⟨by omega, this⟩
    · exact k2 w (by omega) hw2 hw3 hw4
theorem hl_qb_bI {np nd : Nat} {sr ds : Nat → Nat} {r : Nat → Int} {i x : Nat} (hds : ∀ p, p < np → ds p < nd) (k : Nat) : ∀ (s : (Nat → Nat) × (Nat → Nat) × Nat), k ≤ np → s.2.1 i = x → i < s.2.2 → hl_bI np nd sr ds r i s → hl_bK np sr ds r x k s → hl_bI np nd sr ds r i (hl_qb sr ds r nd x k s) ∧ hl_bK np sr ds r x 0 (hl_qb sr ds r nd x k s) ∧ (hl_qb sr ds r nd x k s).2.1 i = x ∧ i < (hl_qb sr ds r nd x k s).2.2 := by
  induction k with
  | zero => intro s _ h1 h2 hB hK; exact ⟨hB, hK, h1, h2⟩
  | succ k ih =>
    intro s hk h1 h2 hB hK
    unfold hl_qb
    by_cases q : sr k = x
    · rw [if_pos q]
      obtain ⟨a, b, c, e⟩ := hl_qs_bI (by omega) (hds k (by omega)) q h1 h2 hB hK
      exact ih _ (by omega) c e a b
    · rw [if_neg q]
      refine ih s (by omega) h1 h2 hB ⟨hK.1, fun w hw1 hw2 hw3 hw4 => ?_⟩
      by_cases z : w = k
      · subst z; exact absurd hw3 q
      · exact hK.2 w (by omega) hw2 hw3 hw4
/-- a node is done -/
theorem hl_bI_next {np nd : Nat} {sr ds : Nat → Nat} {r : Nat → Int} {i x : Nat} {s : (Nat → Nat) × (Nat → Nat) × Nat} (h1 : s.2.1 i = x) (hB : hl_bI np nd sr ds r i s) (hK : hl_bK np sr ds r x 0 s) : hl_bI np nd sr ds r (i + 1) s := by
  obtain ⟨b0, b1, b2, b3, b5, b6, b7, b8⟩ := hB
  refine ⟨b0, b1, b2, b3, b5, b6, b7, fun j hj hj2 p hp hps hpr => ?_⟩
  by_cases z : j = i
  · subst z
    rw [h1] at hps ⊢
    exact hK.2 p (by omega) hp hps hpr
  · exact b8 j (by omega) hj2 p hp hps hpr
theorem hl_bK_first {np nd : Nat} {sr ds : Nat → Nat} {r : Nat → Int} {i : Nat} {s : (Nat → Nat) × (Nat → Nat) × Nat} (hi : i < s.2.2) (hB : hl_bI np nd sr ds r i s) (hm : 0 < i → ∀ j, j < s.2.2 → s.1 (s.2.1 j) ≤ s.1 (s.2.1 (i - 1)) + 1) (h0 : i = 0 → ∀ j, j < s.2.2 → s.1 (s.2.1 j) ≤ s.1 (s.2.1 0) + 1) : hl_bK np sr ds r (s.2.1 i) np s := by
  refine ⟨fun j hj => ?_, fun p h1 h2 => by omega⟩
  by_cases z : i = 0
  · subst z; exact h0 rfl j hj
  · have a := hm (by omega) j hj
    have b := hB.2.2.2.2.1 (i - 1) i (by omega) hi
    omega
/-- what the search leaves -/
def hl_bF (np nd : Nat) (sr ds : Nat → Nat) (r : Nat → Int) (D : Nat → Nat) : Prop :=
  D 0 = 1 ∧ (∀ u, u < nd → D u ≤ nd) ∧ (∀ X : Nat → Bool, X 0 = true → (∀ p, p < np → X (sr p) = true → 0 < r p → X (ds p) = true) → ∀ u, u < nd → 0 < D u → X u = true) ∧
  (∀ u, u < nd → 0 < D u → u ≠ 0 → ∃ p, p < np ∧ ds p = u ∧ 0 < r p ∧ 0 < D (sr p) ∧ D u = D (sr p) + 1) ∧ ∀ p, p < np → 0 < D (sr p) → 0 < r p → 0 < D (ds p) ∧ D (ds p) ≤ D (sr p) + 1
theorem hl_bI_end {np nd : Nat} {sr ds : Nat → Nat} {r : Nat → Int} {s : (Nat → Nat) × (Nat → Nat) × Nat} (hsr : ∀ p, p < np → sr p < nd) (hB : hl_bI np nd sr ds r s.2.2 s) : hl_bF np nd sr ds r s.1 := by
  obtain ⟨⟨b0, b0', b9, b9'⟩, b1, b2, b3, b5, b6, b7, b8⟩ := hB
  refine ⟨b9, fun u hu => ?_, b6, b7, fun p hp h1 h2 => ?_⟩
  · by_cases z : 0 < s.1 u
    · obtain ⟨j, j1, j2⟩ := b2 u hu z
      have := (b1 j j1).2.2
      rw [j2] at this
      omega
    · omega
  · obtain ⟨j, j1, j2⟩ := b2 (sr p) (hsr p hp) h1
    have := b8 j j1 j1 p hp j2.symm h2
    rw [j2] at this
    exact this
