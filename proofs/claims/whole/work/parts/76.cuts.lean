/-! flows: sums over pipes, cuts, what ends a flow -/
def hl_si : Nat → (Nat → Int) → Int
  | 0, _ => 0
  | n + 1, f => hl_si n f + f n
theorem hl_si_congr {f g : Nat → Int} (n : Nat) (h : ∀ k, k < n → f k = g k) : hl_si n f = hl_si n g := by
  induction n with
  | zero => rfl
  | succ n ih => show hl_si n f + f n = hl_si n g + g n; rw [ih (fun k hk => h k (by omega)), h n (by omega)]
theorem hl_si_nn {f : Nat → Int} (n : Nat) (h : ∀ k, k < n → 0 ≤ f k) : 0 ≤ hl_si n f := by
  induction n with
  | zero => exact Int.le_refl 0
  | succ n ih => have := ih (fun k hk => h k (by omega)); have := h n (by omega); show 0 ≤ hl_si n f + f n; omega
theorem hl_si_le {f g : Nat → Int} (n : Nat) (h : ∀ k, k < n → f k ≤ g k) : hl_si n f ≤ hl_si n g := by
  induction n with
  | zero => exact Int.le_refl 0
  | succ n ih => have := ih (fun k hk => h k (by omega)); have := h n (by omega); show hl_si n f + f n ≤ hl_si n g + g n; omega
theorem hl_si_z {f : Nat → Int} (n : Nat) (h : ∀ k, k < n → f k = 0) : hl_si n f = 0 := by
  induction n with
  | zero => rfl
  | succ n ih => show hl_si n f + f n = 0; rw [ih (fun k hk => h k (by omega)), h n (by omega)]; rfl
theorem hl_si_add (n : Nat) (f g : Nat → Int) : hl_si n (fun k => f k + g k) = hl_si n f + hl_si n g := by
  induction n with
  | zero => rfl
  | succ n ih => show hl_si n (fun k => f k + g k) + (f n + g n) = hl_si n f + f n + (hl_si n g + g n); rw [ih]; omega
theorem hl_si_one {f g : Nat → Int} {j : Nat} (n : Nat) (hj : j < n) (h : ∀ k, k < n → k ≠ j → f k = g k) : hl_si n f = hl_si n g + (f j - g j) := by
  induction n with
  | zero => omega
  | succ n ih =>
    show hl_si n f + f n = hl_si n g + g n + (f j - g j)
    by_cases e : j = n
    · subst e
      rw [hl_si_congr (f := f) (g := g) j (fun k hk => h k (by omega) (by omega))]
      omega
    · rw [ih (by omega) (fun k hk => h k (by omega)), h n (by omega) (by omega)]
      omega
theorem hl_si_term {f : Nat → Int} {j : Nat} (n : Nat) (hj : j < n) (h : ∀ k, k < n → 0 ≤ f k) : f j ≤ hl_si n f := by
  induction n with
  | zero => omega
  | succ n ih =>
    show f j ≤ hl_si n f + f n
    by_cases e : j = n
    · subst e; have := hl_si_nn j (fun k hk => h k (by omega)); omega
    · have := ih (by omega) (fun k hk => h k (by omega)); have := h n (by omega); omega
/-- what crosses a cut -/
def hl_fs (S : Nat → Bool) (u v : Nat) (x : Int) : Int := if S u = true ∧ S v = false then x else 0
def hl_sg (S : Nat → Bool) (u : Nat) : Int := if S u = true then 1 else 0
def hl_fM (n : Nat) (sr ds : Nat → Nat) (r : Nat → Int) (S : Nat → Bool) : Int := hl_si n (fun i => hl_fs S (sr i) (ds i) (r i))
def hl_ru (r : Nat → Int) (p : Nat) (v : Int) : Nat → Int := fun i => if i = p then v else r i
theorem hl_fs_sub (S : Nat → Bool) (u v : Nat) (x y : Int) : hl_fs S u v x - hl_fs S u v y = hl_fs S u v (x - y) := by
  unfold hl_fs
  split <;> omega
theorem hl_fM_up {n : Nat} {sr ds : Nat → Nat} {r : Nat → Int} {S : Nat → Bool} {p : Nat} {v : Int} (hp : p < n) : hl_fM n sr ds (hl_ru r p v) S = hl_fM n sr ds r S + hl_fs S (sr p) (ds p) (v - r p) := by
  unfold hl_fM
  rw [hl_si_one (g := fun i => hl_fs S (sr i) (ds i) (r i)) n hp (fun k _ hk => by unfold hl_ru; rw [if_neg hk])]
  rw [← hl_fs_sub]
  unfold hl_ru
  rw [if_pos rfl]
/-- along a pipe and against its way back -/
def hl_ag (r : Nat → Int) (p q : Nat) (x : Int) : Nat → Int := hl_ru (hl_ru r p (r p - x)) q (r q + x)
theorem hl_fM_ag {n : Nat} {sr ds : Nat → Nat} {r : Nat → Int} {S : Nat → Bool} {p q : Nat} {x : Int} (hp : p < n) (hq : q < n) (hpq : p ≠ q) (h1 : sr q = ds p) (h2 : ds q = sr p) : hl_fM n sr ds (hl_ag r p q x) S = hl_fM n sr ds r S - x * (hl_sg S (sr p) - hl_sg S (ds p)) := by
  unfold hl_ag
  rw [hl_fM_up hq, hl_fM_up hp, h1, h2]
  have e : hl_ru r p (r p - x) q = r q := if_neg (fun z => hpq z.symm)
  rw [e]
  unfold hl_fs hl_sg
  cases S (sr p) <;> cases S (ds p) <;> simp <;> omega
theorem hl_fM_nn {n : Nat} {sr ds : Nat → Nat} {r : Nat → Int} {S : Nat → Bool} (h : ∀ i, i < n → 0 ≤ r i) : 0 ≤ hl_fM n sr ds r S := hl_si_nn n (fun k hk => by unfold hl_fs; split; exact h k hk; exact Int.le_refl 0)
theorem hl_fM_0 {n : Nat} {sr ds : Nat → Nat} {r : Nat → Int} {S : Nat → Bool} (h : ∀ i, i < n → 0 ≤ r i) (hz : hl_fM n sr ds r S = 0) {i : Nat} (hi : i < n) (h1 : S (sr i) = true) (h2 : S (ds i) = false) : r i = 0 := by
  have := hl_si_term n hi (f := fun i => hl_fs S (sr i) (ds i) (r i)) (fun k hk => by unfold hl_fs; split; exact h k hk; exact Int.le_refl 0)
  have e : hl_si n (fun i => hl_fs S (sr i) (ds i) (r i)) = 0 := hz
  rw [e] at this
  have e2 : hl_fs S (sr i) (ds i) (r i) = r i := if_pos ⟨h1, h2⟩
  have e3 : (fun i => hl_fs S (sr i) (ds i) (r i)) i = r i := e2
  have := h i hi
  omega
/-- the least of the least cuts -/
def hl_MC (C : (Nat → Bool) → Int) (F : Int) (R : Nat → Bool) : Prop := R 0 = true ∧ R 1 = false ∧ F = C R ∧ ∀ S, S 0 = true → S 1 = false → F ≤ C S ∧ (C S = F → ∀ u, R u = true → S u = true)
theorem hl_MC_of {n : Nat} {sr ds : Nat → Nat} {r : Nat → Int} {C : (Nat → Bool) → Int} {F : Int} {R : Nat → Bool} (hI : ∀ S, S 0 = true → S 1 = false → F + hl_fM n sr ds r S = C S) (hr : ∀ i, i < n → 0 ≤ r i) (R0 : R 0 = true) (R1 : R 1 = false) (cl : ∀ i, i < n → R (sr i) = true → 0 < r i → R (ds i) = true) (least : ∀ X : Nat → Bool, X 0 = true → (∀ i, i < n → X (sr i) = true → 0 < r i → X (ds i) = true) → ∀ u, R u = true → X u = true) : hl_MC C F R := by
  have z : hl_fM n sr ds r R = 0 := hl_si_z n (fun k hk => by
    unfold hl_fs
    by_cases q : R (sr k) = true ∧ R (ds k) = false
    · rw [if_pos q]
      have h0 := hr k hk
      by_cases p : 0 < r k
      · have := cl k hk q.1 p
        rw [q.2] at this
        cases this
      · omega
    · rw [if_neg q])
  refine ⟨R0, R1, ?_, fun S S0 S1 => ?_⟩
  · have := hI R R0 R1
    omega
  · have e := hI S S0 S1
    have nn := hl_fM_nn (sr := sr) (ds := ds) (S := S) hr
    refine ⟨by omega, fun h u hu => ?_⟩
    have z0 : hl_fM n sr ds r S = 0 := by omega
    refine least S S0 (fun i hi h1 h2 => ?_) u hu
    cases h3 : S (ds i) with
    | true => rfl
    | false => have := hl_fM_0 hr z0 hi h1 h3; omega
/-- a pigeon's hole -/
theorem hl_pig (b : Nat) : ∀ (a : Nat) (f : Nat → Nat), (∀ i, i < a → f i < b) → (∀ i j, i < a → j < a → f i = f j → i = j) → a ≤ b := by
  induction b with
  | zero =>
    intro a f h _
    cases a with
    | zero => exact Nat.le_refl 0
    | succ a => exact absurd (h 0 (by omega)) (by omega)
  | succ b ih =>
    intro a f h inj
    cases a with
    | zero => omega
    | succ a =>
      -- the last one's hole is given to the one that has b
      have := ih a (fun i => if f i = b then f a else f i) (fun i hi => by
        have h1 := h i (by omega)
        have h2 := h a (by omega)
        by_cases q : f i = b
        · rw [if_pos q]
          by_cases q2 : f a = b
          · have := inj i a (by omega) (by omega) (by rw [q, q2]); omega
          · omega
        · rw [if_neg q]; omega) (fun i j hi hj e => by
        by_cases q1 : f i = b <;> by_cases q2 : f j = b
        · exact inj i j (by omega) (by omega) (by rw [q1, q2])
        · rw [if_pos q1, if_neg q2] at e
          have := inj a j (by omega) (by omega) e
          omega
        · rw [if_neg q1, if_pos q2] at e
          have := inj i a (by omega) (by omega) e
          omega
        · rw [if_neg q1, if_neg q2] at e
          exact inj i j (by omega) (by omega) e)
      omega
/-- the last pipe of a node below k -/
def hl_lst (sr : Nat → Nat) (u : Nat) : Nat → Int32
  | 0 => -1
  | k + 1 => if sr k = u then nI k else hl_lst sr u k
theorem hl_lst_congr {sr sr' : Nat → Nat} {u : Nat} (k : Nat) (h : ∀ i, i < k → sr' i = sr i) : hl_lst sr' u k = hl_lst sr u k := by
  induction k with
  | zero => rfl
  | succ k ih =>
    unfold hl_lst
    rw [h k (by omega), ih (fun i hi => h i (by omega))]
/-- a number's neighbour in its pair -/
def hl_pe (p : Nat) : Nat := if p % 2 = 0 then p + 1 else p - 1
theorem hl_pe_pe (p : Nat) : hl_pe (hl_pe p) = p := by
  unfold hl_pe
  by_cases h : p % 2 = 0
  · rw [if_pos h, if_neg (by omega)]; omega
  · rw [if_neg h, if_pos (by omega)]; omega
theorem hl_pe_ne (p : Nat) : p ≠ hl_pe p := by
  unfold hl_pe
  split <;> omega
theorem hl_pe_lt {p n : Nat} (h : p < n) (hn : n % 2 = 0) : hl_pe p < n := by
  unfold hl_pe
  split <;> omega
theorem hl_xor1 : ∀ p, p < 432 → nI p ^^^ 1 = nI (hl_pe p) := by decide +kernel
