/-! tokens, as both readers see them -/
def hx_lt (c : Nat) : Bool := (decide (97 ≤ c) && decide (c ≤ 122)) || (decide (65 ≤ c) && decide (c ≤ 90))
def hx_dg (c : Nat) : Bool := decide (48 ≤ c) && decide (c ≤ 57)
def hx_sp (c : Nat) : Bool := decide (c = 32) || decide (c = 10)
/-- to the end of a run -/
def hx_ru (g : Nat → Bool) (t : Nat → Nat) (L : Nat) : Nat → Nat → Nat
  | 0, p => p
  | f + 1, p => if p < L ∧ g (t p) = true then hx_ru g t L f (p + 1) else p
def hx_E (g : Nat → Bool) (t : Nat → Nat) (L p : Nat) : Nat := hx_ru g t L (L - p) p
theorem hx_E_go {g : Nat → Bool} {t : Nat → Nat} {L p : Nat} (h : p < L) (hg : g (t p) = true) : hx_E g t L p = hx_E g t L (p + 1) := by
  unfold hx_E
  rw [show L - p = (L - (p + 1)) + 1 by omega]
  show (if p < L ∧ g (t p) = true then hx_ru g t L (L - (p + 1)) (p + 1) else p) = _
  rw [if_pos ⟨h, hg⟩]
theorem hx_E_no {g : Nat → Bool} {t : Nat → Nat} {L p : Nat} (h : ¬ (p < L ∧ g (t p) = true)) : hx_E g t L p = p := by
  unfold hx_E
  cases hf : L - p with
  | zero => rfl
  | succ f =>
    show (if p < L ∧ g (t p) = true then hx_ru g t L f (p + 1) else p) = p
    rw [if_neg h]
theorem hx_E_in {g : Nat → Bool} {t : Nat → Nat} {L : Nat} (f : Nat) : ∀ p, L - p = f → p ≤ hx_E g t L p ∧ (p ≤ L → hx_E g t L p ≤ L) ∧ (∀ j, p ≤ j → j < hx_E g t L p → g (t j) = true) ∧ ¬ (hx_E g t L p < L ∧ g (t (hx_E g t L p)) = true) := by
  induction f with
  | zero =>
    intro p hp
    rw [hx_E_no (by omega)]
    exact ⟨Nat.le_refl p, fun h => h, fun j a b => by omega, by omega⟩
  | succ f ih =>
    intro p hp
    by_cases h : p < L ∧ g (t p) = true
    · obtain ⟨a, b, c, e⟩ := ih (p + 1) (by omega)
      rw [hx_E_go h.1 h.2]
      refine ⟨by omega, fun _ => b (by omega), fun j h1 h2 => ?_, e⟩
      by_cases z : j = p
      · rw [z]; exact h.2
      · exact c j (by omega) h2
    · rw [hx_E_no h]
      exact ⟨Nat.le_refl p, fun h => h, fun j a b => by omega, h⟩
/-- words -/
def hx_W : List (List Nat) := [[99, 111, 115, 116], [103, 114, 111, 119], [115, 116, 97, 121], [111, 102, 102], [97, 119, 97, 121], [112, 101, 111, 112, 108, 101], [115, 116, 97, 116, 101], [116, 111, 119, 110], [104, 111, 117, 114], [109, 111, 110, 116, 104], [100, 97, 114, 107], [97, 108, 111, 110, 101], [111, 114], [97, 110, 100], [110, 111, 116], [105, 102], [101, 110, 100]]
def hx_by (t : Nat → Nat) (s : Nat) : Nat → List Nat
  | 0 => []
  | n + 1 => t s :: hx_by t (s + 1) n
def hx_wk (B : List Nat) : List (List Nat) → Nat → Nat
  | [], _ => 22
  | w :: Ws, n => if B = w then n else hx_wk B Ws (n + 1)
theorem hx_wk_in {B : List Nat} : ∀ (Ws : List (List Nat)) n, n + Ws.length ≤ 17 → hx_wk B Ws n = 22 ∨ (n ≤ hx_wk B Ws n ∧ hx_wk B Ws n < 17) := by
  intro Ws
  induction Ws with
  | nil => exact fun n _ => .inl rfl
  | cons w Ws ih =>
    intro n hn
    have hn' : n + (Ws.length + 1) ≤ 17 := hn
    unfold hx_wk
    by_cases h : B = w
    · rw [if_pos h]; exact .inr ⟨Nat.le_refl n, by omega⟩
    · rw [if_neg h]
      rcases ih (n + 1) (by omega) with q | q
      · exact .inl q
      · exact .inr ⟨by omega, q.2⟩
/-- numbers: held at 10000; the reference's hold -/
def hx_vc (t : Nat → Nat) : Nat → Nat → Nat → Nat
  | 0, _, v => v
  | n + 1, p, v => hx_vc t n (p + 1) (min (v * 10 + (t p - 48)) 10000)
def hx_vr (t : Nat → Nat) : Nat → Nat → Nat → Nat
  | 0, _, v => v
  | n + 1, p, v => hx_vr t n (p + 1) (if v < 100000 then 10 * v + (t p - 48) else v)
theorem hx_vv {t : Nat → Nat} (n : Nat) : ∀ p v w, (v = w ∧ w ≤ 9999 ∨ v = 10000 ∧ 10000 ≤ w) → w ≤ 1000008 → (∀ j, p ≤ j → j < p + n → 48 ≤ t j ∧ t j ≤ 57) → (hx_vc t n p v = hx_vr t n p w ∧ hx_vr t n p w ≤ 9999 ∨ hx_vc t n p v = 10000 ∧ 10000 ≤ hx_vr t n p w) ∧ hx_vr t n p w ≤ 1000008 := by
  induction n with
  | zero => intro p v w h hw _; exact ⟨h, hw⟩
  | succ n ih =>
    intro p v w h hw ht
    have hp := ht p (Nat.le_refl p) (by omega)
    unfold hx_vc hx_vr
    refine ih (p + 1) _ _ ?_ ?_ (fun j h1 h2 => ht j (by omega) (by omega))
    · by_cases z : w < 100000
      · rw [if_pos z, Nat.min_def]; split <;> omega
      · rw [if_neg z, Nat.min_def]; split <;> omega
    · by_cases z : w < 100000
      · rw [if_pos z]; omega
      · rw [if_neg z]; exact hw
theorem hx_vc_le {t : Nat → Nat} (n : Nat) : ∀ p v, v ≤ 10000 → hx_vc t n p v ≤ 10000 := by
  induction n with
  | zero => exact fun _ _ h => h
  | succ n ih => intro p v _; unfold hx_vc; exact ih _ _ (Nat.min_le_right _ _)
/-- signs -/
def hx_sg (c : Nat) : Nat := if c = 60 then 30 else if c = 62 then 31 else if c = 61 then 32 else if c = 35 then 33 else if c = 43 then 34 else if c = 45 then 35 else if c = 42 then 36 else if c = 47 then 37 else if c = 40 then 38 else if c = 41 then 39 else if c = 59 then 40 else if c = 63 then 41 else if c = 58 then 42 else 22
/-- the token from a place: kind, value, start, behind -/
def hx_tk (t : Nat → Nat) (L p : Nat) : Nat × Nat × Nat × Nat :=
  if hx_E hx_sp t L p < L then
    (if hx_lt (t (hx_E hx_sp t L p)) = true then (hx_wk (hx_by t (hx_E hx_sp t L p) (hx_E hx_lt t L (hx_E hx_sp t L p) - hx_E hx_sp t L p)) hx_W 0, 0, hx_E hx_sp t L p, hx_E hx_lt t L (hx_E hx_sp t L p))
    else if hx_dg (t (hx_E hx_sp t L p)) = true then (20, hx_vc t (hx_E hx_dg t L (hx_E hx_sp t L p) - hx_E hx_sp t L p) (hx_E hx_sp t L p) 0, hx_E hx_sp t L p, hx_E hx_dg t L (hx_E hx_sp t L p))
    else if (hx_sg (t (hx_E hx_sp t L p)) = 30 ∨ hx_sg (t (hx_E hx_sp t L p)) = 31) ∧ hx_E hx_sp t L p + 1 < L ∧ t (hx_E hx_sp t L p + 1) = 61 then ((if hx_sg (t (hx_E hx_sp t L p)) = 30 then 43 else 44), 0, hx_E hx_sp t L p, hx_E hx_sp t L p + 2)
    else (hx_sg (t (hx_E hx_sp t L p)), 0, hx_E hx_sp t L p, hx_E hx_sp t L p + 1))
  else (21, 0, hx_E hx_sp t L p, hx_E hx_sp t L p)
theorem hx_sg_in (c : Nat) : hx_sg c = 22 ∨ (30 ≤ hx_sg c ∧ hx_sg c ≤ 42) := by
  unfold hx_sg
  repeat' split
  all_goals omega
theorem hx_tk_in {t : Nat → Nat} {L p : Nat} (hp : p ≤ L) : p ≤ (hx_tk t L p).2.2.1 ∧ (hx_tk t L p).2.2.1 ≤ (hx_tk t L p).2.2.2 ∧ (hx_tk t L p).2.2.2 ≤ L ∧ (((hx_tk t L p).1 = 21 ∧ (hx_tk t L p).2.2.1 = L) ∨ ((hx_tk t L p).1 ≠ 21 ∧ (hx_tk t L p).2.2.1 < (hx_tk t L p).2.2.2)) ∧ (hx_tk t L p).1 ≤ 44 ∧ (hx_tk t L p).2.1 ≤ 10000 := by
  obtain ⟨a, b, c, e⟩ := hx_E_in (g := hx_sp) (t := t) (L := L) _ p rfl
  have b' := b hp
  unfold hx_tk
  generalize hx_E hx_sp t L p = s at a b' e
  by_cases h1 : s < L
  · rw [if_pos h1]
    by_cases h2 : hx_lt (t s) = true
    · rw [if_pos h2]
      obtain ⟨a2, b2, -, -⟩ := hx_E_in (g := hx_lt) (t := t) (L := L) _ (s + 1) rfl
      have g2 := hx_E_go h1 h2
      have b2' := b2 (by omega)
      rcases hx_wk_in (B := hx_by t s (hx_E hx_lt t L s - s)) hx_W 0 (by decide) with q | q
      · refine ⟨a, ?_, ?_, .inr ⟨?_, ?_⟩, ?_, Nat.zero_le _⟩
        · show s ≤ hx_E hx_lt t L s; omega
        · show hx_E hx_lt t L s ≤ L; omega
        · show hx_wk _ hx_W 0 ≠ 21; omega
        · show s < hx_E hx_lt t L s; omega
        · show hx_wk _ hx_W 0 ≤ 44; omega
      · refine ⟨a, ?_, ?_, .inr ⟨?_, ?_⟩, ?_, Nat.zero_le _⟩
        · show s ≤ hx_E hx_lt t L s; omega
        · show hx_E hx_lt t L s ≤ L; omega
        · show hx_wk _ hx_W 0 ≠ 21; omega
        · show s < hx_E hx_lt t L s; omega
        · show hx_wk _ hx_W 0 ≤ 44; omega
    · rw [if_neg h2]
      by_cases h3 : hx_dg (t s) = true
      · rw [if_pos h3]
        obtain ⟨a2, b2, -, -⟩ := hx_E_in (g := hx_dg) (t := t) (L := L) _ (s + 1) rfl
        have g2 := hx_E_go h1 h3
        have b2' := b2 (by omega)
        refine ⟨a, ?_, ?_, .inr ⟨?_, ?_⟩, ?_, hx_vc_le _ _ _ (Nat.zero_le _)⟩
        · show s ≤ hx_E hx_dg t L s; omega
        · show hx_E hx_dg t L s ≤ L; omega
        · show (20 : Nat) ≠ 21; omega
        · show s < hx_E hx_dg t L s; omega
        · show (20 : Nat) ≤ 44; omega
      · rw [if_neg h3]
        have si := hx_sg_in (t s)
        by_cases h4 : (hx_sg (t s) = 30 ∨ hx_sg (t s) = 31) ∧ s + 1 < L ∧ t (s + 1) = 61
        · rw [if_pos h4]
          refine ⟨a, ?_, ?_, .inr ⟨?_, ?_⟩, ?_, Nat.zero_le _⟩
          · show s ≤ s + 2; omega
          · show s + 2 ≤ L; omega
          · show (if hx_sg (t s) = 30 then 43 else 44) ≠ 21; split <;> omega
          · show s < s + 2; omega
          · show (if hx_sg (t s) = 30 then 43 else 44) ≤ 44; split <;> omega
        · rw [if_neg h4]
          refine ⟨a, ?_, ?_, .inr ⟨?_, ?_⟩, ?_, Nat.zero_le _⟩
          · show s ≤ s + 1; omega
          · show s + 1 ≤ L; omega
          · show hx_sg (t s) ≠ 21; omega
          · show s < s + 1; omega
          · show hx_sg (t s) ≤ 44; omega
  · rw [if_neg h1]
    exact ⟨a, Nat.le_refl _, b', .inl ⟨rfl, by show s = L; omega⟩, by show (21 : Nat) ≤ 44; omega, Nat.zero_le _⟩
/-- the words' letters one behind the other, as the class goes through them -/
def hx_wm (t : Nat → Nat) (s e : Nat) : List Nat → Option Nat → Nat → Nat
  | [], _, _ => 22
  | c :: cs, a, n => if c = 32 then (if a = some e then n else hx_wm t s e cs (some s) (n + 1)) else hx_wm t s e cs (match a with
    | some q => if q < e ∧ t q = c then some (q + 1) else none
    | none => none) n
theorem hx_wm_none {t : Nat → Nat} {s e : Nat} {cs : List Nat} {n : Nat} : ∀ w : List Nat, (∀ c ∈ w, c ≠ 32) → hx_wm t s e (w ++ 32 :: cs) none n = hx_wm t s e cs (some s) (n + 1) := by
  intro w
  induction w with
  | nil => intro _; show (if (32 : Nat) = 32 then (if (none : Option Nat) = some e then n else _) else _) = _; rw [if_pos rfl, if_neg (by simp)]
  | cons c w ih =>
    intro h
    show (if c = 32 then _ else hx_wm t s e (w ++ 32 :: cs) none n) = _
    rw [if_neg (h c List.mem_cons_self)]
    exact ih (fun c' hc' => h c' (List.mem_cons_of_mem _ hc'))
theorem hx_wm_word {t : Nat → Nat} {s e : Nat} {cs : List Nat} {n : Nat} : ∀ (w : List Nat) q, (∀ c ∈ w, c ≠ 32) → q ≤ e → hx_wm t s e (w ++ 32 :: cs) (some q) n = if hx_by t q (e - q) = w then n else hx_wm t s e cs (some s) (n + 1) := by
  intro w
  induction w with
  | nil =>
    intro q _ hq
    show (if (32 : Nat) = 32 then (if some q = some e then n else _) else _) = _
    rw [if_pos rfl]
    by_cases z : q = e
    · rw [if_pos (by rw [z]), z, Nat.sub_self, if_pos (show hx_by t e 0 = [] from rfl)]
    · rw [if_neg (fun y => z (Option.some.inj y))]
      have : e - q = (e - q - 1) + 1 := by omega
      rw [this]
      rw [if_neg (fun y => by cases y)]
  | cons c w ih =>
    intro q h hq
    show (if c = 32 then _ else hx_wm t s e (w ++ 32 :: cs) (if q < e ∧ t q = c then some (q + 1) else none) n) = _
    rw [if_neg (h c List.mem_cons_self)]
    by_cases z : q < e ∧ t q = c
    · rw [if_pos z, ih (q + 1) (fun c' hc' => h c' (List.mem_cons_of_mem _ hc')) (by omega)]
      have e1 : hx_by t q (e - q) = c :: hx_by t (q + 1) (e - (q + 1)) := by
        rw [show e - q = (e - (q + 1)) + 1 by omega]
        show t q :: _ = _
        rw [z.2]
      rw [e1]
      by_cases y : hx_by t (q + 1) (e - (q + 1)) = w
      · rw [if_pos y, if_pos (by rw [y])]
      · rw [if_neg y, if_neg (fun x => y (List.cons.inj x).2)]
    · rw [if_neg z, hx_wm_none w (fun c' hc' => h c' (List.mem_cons_of_mem _ hc')), if_neg (fun y => ?_)]
      by_cases x : q < e
      · rw [show e - q = (e - (q + 1)) + 1 by omega] at y
        exact z ⟨x, (List.cons.inj y).1⟩
      · rw [show e - q = 0 by omega] at y
        cases y
def hx_WC : List Nat := hx_W.foldr (fun w cs => w ++ 32 :: cs) []
theorem hx_W_sp : ∀ w ∈ hx_W, ∀ c ∈ w, c ≠ 32 := by decide
theorem hx_wm_all {t : Nat → Nat} {s e : Nat} (h : s ≤ e) : ∀ (Ws : List (List Nat)) n, (∀ w ∈ Ws, ∀ c ∈ w, c ≠ 32) → hx_wm t s e (Ws.foldr (fun w cs => w ++ 32 :: cs) []) (some s) n = hx_wk (hx_by t s (e - s)) Ws n := by
  intro Ws
  induction Ws with
  | nil => exact fun n _ => rfl
  | cons w Ws ih =>
    intro n hw
    show hx_wm t s e (w ++ 32 :: Ws.foldr (fun w cs => w ++ 32 :: cs) []) (some s) n = (if hx_by t s (e - s) = w then n else hx_wk (hx_by t s (e - s)) Ws (n + 1))
    rw [hx_wm_word w s (hw w List.mem_cons_self) h, ih (n + 1) (fun w' h' => hw w' (List.mem_cons_of_mem _ h'))]
