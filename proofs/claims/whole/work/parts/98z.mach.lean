/-! the reference's reader as a machine over places, a pile and code; what it does is what the grammar says -/
def hx_rk (k : Nat) : Nat := if 40 ≤ k then 0 else if k = 22 then 1 else if k = 21 then 2 else if k = 20 then 3 else if 10 ≤ k then 4 else if k = 2 then 7 else if 5 ≤ k then 6 else 5
def hx_isO (k : Nat) : Nat := if k = 2 ∨ k = 20 ∨ 40 ≤ k then 1 else 0
def hx_opP : List Nat → Nat
  | [] => 0
  | k :: P => hx_isO k + hx_opP P
def hx_fl (D : List Nat) : List (Nat × Nat) := D.map (fun d => (d, 0))
def hx_stl (r : Nat) : List Nat → List (Nat × Nat) → List Nat × List (Nat × Nat)
  | [], C => ([], C)
  | k :: P, C => if r ≤ hx_rk k then hx_stl r P (C ++ [(k, 0)]) else (k :: P, C)
def hx_mk : List Nat → List Nat
  | [] => []
  | k :: P => if 40 ≤ k then k :: P else hx_mk P
def hx_mh (P : List Nat) : Nat := (hx_mk P).headD 0
def hx_ko (b : Bool) (P : List Nat) : Nat := if hx_mk P = [] then (if b = true then 41 else 40) else hx_mh P
def hx_cd : List Nat → Bool
  | [] => false
  | k :: P => if 4 < hx_rk k then hx_cd P else decide (hx_rk k = 4)
def hx_tp (P : List Nat) : Bool := match P with
  | [] => true
  | k :: _ => decide (k = 41) || (decide (1 ≤ hx_rk k) && decide (hx_rk k ≤ 3))
def hx_aa (b : Bool) (P : List Nat) : Bool := decide (hx_ko b P = 41) && hx_tp P
def hx_bt (b : Bool) (P : List Nat) (κ : Nat) : Option Nat := if 34 ≤ κ ∧ κ ≤ 37 then some (hx_op κ) else if hx_ko b P ≠ 41 then none else if hx_cd P = false then (if hx_cm κ = true then some (hx_op κ) else none) else if κ = 12 ∨ κ = 13 then some (hx_op κ) else none
def hx_bgn (t : Nat → Nat) (L : Nat) (b : Bool) (p : Nat) (P : List Nat) (C : List (Nat × Nat)) : Nat × Nat × List Nat × List (Nat × Nat) × Bool :=
  if (hx_tk t L p).1 = 20 then (if 9999 < (hx_tk t L p).2.1 then (2, p, P, C, false) else (0, (hx_tk t L p).2.2.2, (hx_stl 7 P (C ++ [(0, (hx_tk t L p).2.1)])).1, (hx_stl 7 P (C ++ [(0, (hx_tk t L p).2.1)])).2, true))
  else if 3 ≤ (hx_tk t L p).1 ∧ (hx_tk t L p).1 ≤ 11 then (0, (hx_tk t L p).2.2.2, (hx_stl 7 P (C ++ [(1, (hx_tk t L p).1 - 3)])).1, (hx_stl 7 P (C ++ [(1, (hx_tk t L p).1 - 3)])).2, true)
  else if (hx_tk t L p).1 = 38 then (if hx_opP P = 8 then (3, p, P, C, false) else (0, (hx_tk t L p).2.2.2, 40 :: P, C, false))
  else if (hx_tk t L p).1 = 35 then (if hx_opP P = 8 then (3, p, P, C, false) else (0, (hx_tk t L p).2.2.2, 2 :: P, C, false))
  else if (hx_tk t L p).1 = 15 then (if hx_opP P = 8 then (3, p, P, C, false) else (0, (hx_tk t L p).2.2.2, 41 :: P, C, false))
  else if (hx_tk t L p).1 = 14 ∧ hx_aa b P = true then (if hx_opP P = 8 then (3, p, P, C, false) else (0, (hx_tk t L p).2.2.2, 20 :: P, C, false))
  else (1, p, P, C, false)
def hx_beh (t : Nat → Nat) (L : Nat) (b : Bool) (p : Nat) (P : List Nat) (C : List (Nat × Nat)) : Nat × Nat × List Nat × List (Nat × Nat) × Bool :=
  match hx_bt b P (hx_tk t L p).1 with
  | some o => (0, (hx_tk t L p).2.2.2, o :: (hx_stl (hx_rk o) P C).1, (hx_stl (hx_rk o) P C).2, false)
  | none =>
    if (hx_tk t L p).1 = 39 ∧ hx_mh P = 40 then (0, (hx_tk t L p).2.2.2, (hx_stl 7 (hx_stl 1 P C).1.tail (hx_stl 1 P C).2).1, (hx_stl 7 (hx_stl 1 P C).1.tail (hx_stl 1 P C).2).2, true)
    else if (hx_tk t L p).1 = 16 ∧ hx_mh P = 43 then (0, (hx_tk t L p).2.2.2, (hx_stl 7 (hx_stl 1 P C).1.tail ((hx_stl 1 P C).2 ++ [(23, 0)])).1, (hx_stl 7 (hx_stl 1 P C).1.tail ((hx_stl 1 P C).2 ++ [(23, 0)])).2, true)
    else if (hx_tk t L p).1 = 41 ∧ hx_mh P = 41 ∧ hx_cd P = true then (0, (hx_tk t L p).2.2.2, 42 :: (hx_stl 1 P C).1.tail, (hx_stl 1 P C).2, false)
    else if (hx_tk t L p).1 = 42 ∧ hx_mh P = 42 then (0, (hx_tk t L p).2.2.2, 43 :: (hx_stl 1 P C).1.tail, (hx_stl 1 P C).2, false)
    else (10, p, P, C, true)
def hx_ms (t : Nat → Nat) (L : Nat) (b : Bool) (s : Nat × List Nat × List (Nat × Nat) × Bool) : Nat × Nat × List Nat × List (Nat × Nat) × Bool := if s.2.2.2 = true then hx_beh t L b s.1 s.2.1 s.2.2.1 else hx_bgn t L b s.1 s.2.1 s.2.2.1
def hx_fin (t : Nat → Nat) (L : Nat) (b : Bool) (s : Nat × List Nat × List (Nat × Nat) × Bool) : Nat := if (hx_ms t L b s).1 = 10 then (if hx_mk s.2.1 ≠ [] ∨ (b = true ∧ hx_cd s.2.1 = false) then 1 else 0) else (hx_ms t L b s).1
def hx_its (t : Nat → Nat) (L : Nat) (b : Bool) : Nat → Nat × List Nat × List (Nat × Nat) × Bool → Nat × List Nat × List (Nat × Nat) × Bool → Prop
  | 0, s, s' => s = s'
  | n + 1, s, s' => ∃ s1, hx_ms t L b s = (0, s1) ∧ hx_its t L b n s1 s'
def hx_go (t : Nat → Nat) (L : Nat) (b : Bool) (s s' : Nat × List Nat × List (Nat × Nat) × Bool) : Prop := ∃ n, hx_its t L b n s s'
def hx_lw (r : Nat) (B : List Nat) : Prop := ∀ k P, B = k :: P → hx_rk k < r
/-- a claim of a level -/
def hx_XC (t : Nat → Nat) (L : Nat) (b : Bool) (X : Nat → Nat × Nat × List (Nat × Nat)) (rb rd : Nat) (ex : Nat → Bool) (as : Bool) (k : Nat) : Prop := ∀ p B C, p ≤ L → hx_lw rb B → hx_opP B + k = 8 → (as = false → (hx_tk t L p).1 ≠ 14 ∨ hx_aa b B = false) → (as = true → hx_aa b B = true) →
  ((X p).1 = 0 → ∃ D C1, hx_go t L b (p, B, C, false) ((X p).2.1, D ++ B, C1, true) ∧ C1 ++ hx_fl D = C ++ (X p).2.2 ∧ (∀ d ∈ D, rd ≤ hx_rk d) ∧ ex (hx_tk t L (X p).2.1).1 = false ∧ (as = true → hx_cd (D ++ B) = true)) ∧
  ((X p).1 ≠ 0 → ∃ s', hx_go t L b (p, B, C, false) s' ∧ hx_fin t L b s' = (X p).1 ∧ (hx_tk t L s'.1).2.2.1 = (X p).2.1)
def hx_OC (t : Nat → Nat) (L : Nat) (b : Bool) (X : Nat → Nat × Nat × List (Nat × Nat)) (k : Nat) : Prop := ∀ p B C, p ≤ L → hx_opP B + k = 8 → ((hx_tk t L p).1 ≠ 14 ∨ hx_aa b B = false) →
  ((X p).1 = 0 → hx_go t L b (p, B, C, false) ((X p).2.1, (hx_stl 7 B (C ++ (X p).2.2)).1, (hx_stl 7 B (C ++ (X p).2.2)).2, true)) ∧
  ((X p).1 ≠ 0 → ∃ s', hx_go t L b (p, B, C, false) s' ∧ hx_fin t L b s' = (X p).1 ∧ (hx_tk t L s'.1).2.2.1 = (X p).2.1)
section HXMACH
variable {t : Nat → Nat} {L : Nat} {b : Bool} {X : Nat → Nat × Nat × List (Nat × Nat)}
theorem hx_go_rf (s : Nat × List Nat × List (Nat × Nat) × Bool) : hx_go t L b s s := ⟨0, rfl⟩
theorem hx_its_tr (n : Nat) : ∀ {m : Nat} {s s1 s2 : Nat × List Nat × List (Nat × Nat) × Bool}, hx_its t L b n s s1 → hx_its t L b m s1 s2 → hx_its t L b (n + m) s s2 := by
  induction n with
  | zero =>
    intro m s s1 s2 h g
    have e : s = s1 := h
    rw [e, Nat.zero_add]; exact g
  | succ n ih =>
    intro m s s1 s2 h g
    obtain ⟨s3, e, h3⟩ := h
    rw [Nat.succ_add]
    exact ⟨s3, e, ih h3 g⟩
theorem hx_go_tr {s s1 s2 : Nat × List Nat × List (Nat × Nat) × Bool} (h : hx_go t L b s s1) (g : hx_go t L b s1 s2) : hx_go t L b s s2 := by
  obtain ⟨n, h⟩ := h
  obtain ⟨m, g⟩ := g
  exact ⟨n + m, hx_its_tr n h g⟩
theorem hx_go_1 {s s1 : Nat × List Nat × List (Nat × Nat) × Bool} (h : hx_ms t L b s = (0, s1)) : hx_go t L b s s1 := ⟨1, s1, h, rfl⟩
theorem hx_stl_fl {r : Nat} {B : List Nat} (hB : hx_lw r B) : ∀ (D : List Nat) (C : List (Nat × Nat)), (∀ d ∈ D, r ≤ hx_rk d) → hx_stl r (D ++ B) C = (B, C ++ hx_fl D) := by
  intro D
  induction D with
  | nil =>
    intro C _
    show hx_stl r B C = (B, C ++ [])
    rw [List.append_nil]
    cases B with
    | nil => rfl
    | cons k P =>
      have := hB k P rfl
      show (if r ≤ hx_rk k then _ else _) = _
      rw [if_neg (by omega)]
  | cons d D ih =>
    intro C h
    show (if r ≤ hx_rk d then hx_stl r (D ++ B) (C ++ [(d, 0)]) else _) = _
    rw [if_pos (h d List.mem_cons_self), ih _ (fun x hx => h x (List.mem_cons_of_mem d hx)), List.append_assoc]
    rfl
theorem hx_rk40 {k : Nat} (h : 1 ≤ hx_rk k) : ¬ 40 ≤ k := fun x => by
  unfold hx_rk at h
  rw [if_pos x] at h
  omega
theorem hx_mk_app {B : List Nat} (D : List Nat) (h : ∀ d ∈ D, 1 ≤ hx_rk d) : hx_mk (D ++ B) = hx_mk B := by
  induction D with
  | nil => rfl
  | cons d D ih =>
    show (if 40 ≤ d then _ else hx_mk (D ++ B)) = _
    rw [if_neg (hx_rk40 (h d List.mem_cons_self)), ih (fun x hx => h x (List.mem_cons_of_mem d hx))]
theorem hx_mh_app {B : List Nat} (D : List Nat) (h : ∀ d ∈ D, 1 ≤ hx_rk d) : hx_mh (D ++ B) = hx_mh B := by unfold hx_mh; rw [hx_mk_app D h]
theorem hx_ko_app {B : List Nat} (D : List Nat) (h : ∀ d ∈ D, 1 ≤ hx_rk d) : hx_ko b (D ++ B) = hx_ko b B := by unfold hx_ko; rw [hx_mh_app D h, hx_mk_app D h]
theorem hx_mk_c {m : Nat} {B : List Nat} (h : 40 ≤ m) : hx_mk (m :: B) = m :: B := if_pos h
theorem hx_mh_c {m : Nat} {B : List Nat} (h : 40 ≤ m) : hx_mh (m :: B) = m := by unfold hx_mh; rw [hx_mk_c h]; rfl
theorem hx_ko_c {m : Nat} {B : List Nat} (h : 40 ≤ m) : hx_ko b (m :: B) = m := by unfold hx_ko; rw [hx_mh_c h, hx_mk_c h, if_neg (List.cons_ne_nil m B)]
theorem hx_ko_l {m : Nat} {B : List Nat} (h : 1 ≤ hx_rk m) : hx_ko b (m :: B) = hx_ko b B := hx_ko_app [m] (fun d hd => by rw [List.mem_singleton.mp hd]; exact h)
theorem hx_cd_app {B : List Nat} (D : List Nat) (h : ∀ d ∈ D, 5 ≤ hx_rk d) : hx_cd (D ++ B) = hx_cd B := by
  induction D with
  | nil => rfl
  | cons d D ih =>
    show (if 4 < hx_rk d then hx_cd (D ++ B) else _) = _
    rw [if_pos (by have := h d List.mem_cons_self; omega), ih (fun x hx => h x (List.mem_cons_of_mem d hx))]
theorem hx_cd_4 {m : Nat} {B : List Nat} (h : hx_rk m = 4) : hx_cd (m :: B) = true := by
  show (if 4 < hx_rk m then hx_cd B else decide (hx_rk m = 4)) = true
  rw [h]; rfl
theorem hx_aa_ko {B : List Nat} (h : hx_aa b B = true) : hx_ko b B = 41 := by
  unfold hx_aa at h
  rw [Bool.and_eq_true, decide_eq_true_eq] at h
  exact h.1
theorem hx_aa_lw {B : List Nat} (h : hx_aa b B = true) : hx_lw 4 B ∧ hx_cd B = false := by
  unfold hx_aa at h
  rw [Bool.and_eq_true] at h
  cases B with
  | nil => exact ⟨fun k P e => (by cases e), rfl⟩
  | cons k P =>
    have h2 : (decide (k = 41) || (decide (1 ≤ hx_rk k) && decide (hx_rk k ≤ 3))) = true := h.2
    rw [Bool.or_eq_true, Bool.and_eq_true, decide_eq_true_eq, decide_eq_true_eq, decide_eq_true_eq] at h2
    have q : hx_rk k ≤ 3 := by
      rcases h2 with e | e
      · rw [e]; decide
      · exact e.2
    refine ⟨fun k' P' e => ?_, ?_⟩
    · cases e; omega
    · show (if 4 < hx_rk k then hx_cd P else decide (hx_rk k = 4)) = false
      rw [if_neg (by omega), decide_eq_false (by omega)]
theorem hx_aa_c {m : Nat} {B : List Nat} (h : hx_ko b B = 41) (h1 : 1 ≤ hx_rk m) (h2 : hx_rk m ≤ 3) : hx_aa b (m :: B) = true := by
  unfold hx_aa
  rw [hx_ko_l h1, h]
  show (true && (decide (m = 41) || (decide (1 ≤ hx_rk m) && decide (hx_rk m ≤ 3)))) = true
  rw [decide_eq_true h1, decide_eq_true h2, Bool.and_true, Bool.or_true]; rfl
theorem hx_aa_41 {B : List Nat} : hx_aa b (41 :: B) = true := by
  unfold hx_aa
  rw [hx_ko_c (by omega)]; rfl
theorem hx_aa_m {m : Nat} {B : List Nat} (h : 40 ≤ m) (h1 : m ≠ 41) : hx_aa b (m :: B) = false := by
  unfold hx_aa
  rw [hx_ko_c h, decide_eq_false h1]; rfl
theorem hx_aa_h {m : Nat} {B : List Nat} (h : 4 ≤ hx_rk m) : hx_aa b (m :: B) = false := by
  unfold hx_aa
  have e : hx_tp (m :: B) = false := by
    show (decide (m = 41) || (decide (1 ≤ hx_rk m) && decide (hx_rk m ≤ 3))) = false
    rw [decide_eq_false (show ¬ m = 41 from fun x => by rw [x] at h; exact absurd h (by decide)), decide_eq_false (show ¬ hx_rk m ≤ 3 by omega), Bool.and_false]; rfl
  rw [e, Bool.and_false]
theorem hx_fl_app {D E : List Nat} : hx_fl (D ++ E) = hx_fl D ++ hx_fl E := List.map_append
theorem hx_lw_c {r m : Nat} {B : List Nat} (h : hx_rk m < r) : hx_lw r (m :: B) := fun k P e => by cases e; exact h
theorem hx_lw_m {r r' : Nat} {B : List Nat} (h : hx_lw r B) (hr : r ≤ r') : hx_lw r' B := fun k P e => Nat.lt_of_lt_of_le (h k P e) hr
theorem hx_ms_t {p : Nat} {P : List Nat} {C : List (Nat × Nat)} : hx_ms t L b (p, P, C, true) = hx_beh t L b p P C := if_pos rfl
theorem hx_ms_f {p : Nat} {P : List Nat} {C : List (Nat × Nat)} : hx_ms t L b (p, P, C, false) = hx_bgn t L b p P C := if_neg Bool.false_ne_true
theorem hx_beh_s {p o : Nat} {P : List Nat} {C : List (Nat × Nat)} (h : hx_bt b P (hx_tk t L p).1 = some o) : hx_beh t L b p P C = (0, (hx_tk t L p).2.2.2, o :: (hx_stl (hx_rk o) P C).1, (hx_stl (hx_rk o) P C).2, false) := by unfold hx_beh; rw [h]
theorem hx_k21 {L q : Nat} (h : L ≤ q) (hq : q ≤ L) : (hx_tk t L q).1 = 21 := by
  obtain ⟨a, c, d, e, -⟩ := hx_tk_in (t := t) hq
  rcases e with e | e
  · exact e.1
  · omega
/-- repeats -/
theorem hx_XC_rep {rb rd ρ k a c : Nat} {ex : Nat → Bool} {as : Bool} (hL : L ≤ 300) (hX : hx_XC t L b X rb rd ex as k) (hg : ∀ p, p ≤ L → hx_gd L p (X p)) (hρ : 1 ≤ ρ) (hb : ρ < rb) (hd : ρ ≤ rd) (h1 : ∀ κ, hx_k2 a c κ = true → hx_rk (hx_op κ) = ρ ∧ hx_isO (hx_op κ) = 0 ∧ κ ≠ 21)
    (hbt : ∀ κ D B, hx_k2 a c κ = true → (∀ d ∈ D, 1 ≤ hx_rk d) → (as = true → hx_cd (D ++ B) = true ∧ hx_ko b B = 41) → hx_bt b (D ++ B) κ = some (hx_op κ))
    (ha : ∀ κ B, hx_k2 a c κ = true → (as = true → hx_ko b B = 41) → hx_aa b (hx_op κ :: B) = as) : hx_XC t L b (hx_rep t L a c X) ρ ρ (fun κ => ex κ || hx_k2 a c κ) as k := by
  intro p B C hp hB hk c1 c2
  obtain ⟨x0, x1⟩ := hX p B C hp (hx_lw_m hB (by omega)) hk c1 c2
  have lp : ∀ (f q : Nat) (D : List Nat) (C1 Cc : List (Nat × Nat)), 300 ≤ f + q → q ≤ L → (∀ d ∈ D, ρ ≤ hx_rk d) → C1 ++ hx_fl D = C ++ Cc → ex (hx_tk t L q).1 = false → (as = true → hx_cd (D ++ B) = true) → hx_go t L b (p, B, C, false) (q, D ++ B, C1, true) →
      ((hx_lp t L (hx_k2 a c) X f q Cc).1 = 0 → ∃ D C1, hx_go t L b (p, B, C, false) ((hx_lp t L (hx_k2 a c) X f q Cc).2.1, D ++ B, C1, true) ∧ C1 ++ hx_fl D = C ++ (hx_lp t L (hx_k2 a c) X f q Cc).2.2 ∧ (∀ d ∈ D, ρ ≤ hx_rk d) ∧ (ex (hx_tk t L (hx_lp t L (hx_k2 a c) X f q Cc).2.1).1 || hx_k2 a c (hx_tk t L (hx_lp t L (hx_k2 a c) X f q Cc).2.1).1) = false ∧ (as = true → hx_cd (D ++ B) = true)) ∧
      ((hx_lp t L (hx_k2 a c) X f q Cc).1 ≠ 0 → ∃ s', hx_go t L b (p, B, C, false) s' ∧ hx_fin t L b s' = (hx_lp t L (hx_k2 a c) X f q Cc).1 ∧ (hx_tk t L s'.1).2.2.1 = (hx_lp t L (hx_k2 a c) X f q Cc).2.1) := by
    intro f
    induction f with
    | zero =>
      intro q D C1 Cc hf hq hD hC he hcd hgo
      have e21 := hx_k21 (t := t) (show L ≤ q by omega) hq
      have n21 : hx_k2 a c 21 = false := by
        cases z : hx_k2 a c 21 with
        | false => rfl
        | true => exact absurd rfl (h1 21 z).2.2
      refine ⟨fun _ => ⟨D, C1, hgo, hC, hD, ?_, hcd⟩, fun z => absurd rfl z⟩
      show (ex (hx_tk t L q).1 || hx_k2 a c (hx_tk t L q).1) = false
      rw [he, e21, n21]; rfl
    | succ f ih =>
      intro q D C1 Cc hf hq hD hC he hcd hgo
      cases z : hx_k2 a c (hx_tk t L q).1 with
      | false =>
        rw [hx_lp0 z]
        refine ⟨fun _ => ⟨D, C1, hgo, hC, hD, ?_, hcd⟩, fun z => absurd rfl z⟩
        show (ex (hx_tk t L q).1 || hx_k2 a c (hx_tk t L q).1) = false
        rw [he, z]; rfl
      | true =>
        rw [hx_lp1 z]
        obtain ⟨r1, r2, r3⟩ := h1 _ z
        have kb : as = true → hx_ko b B = 41 := fun y => hx_aa_ko (c2 y)
        have bt := hbt _ D B z (fun d hd => by have := hD d hd; omega) (fun y => ⟨hcd y, kb y⟩)
        have aa := ha _ B z kb
        obtain ⟨ta, tb, tc, td, -⟩ := hx_tk_in (t := t) hq
        have lt : q < (hx_tk t L q).2.2.2 := by omega
        have stp : hx_ms t L b (q, D ++ B, C1, true) = (0, (hx_tk t L q).2.2.2, hx_op (hx_tk t L q).1 :: B, C ++ Cc, false) := by
          rw [hx_ms_t, hx_beh_s bt, r1, hx_stl_fl hB D C1 hD, hC]
        have go1 := hx_go_tr hgo (hx_go_1 stp)
        generalize hx_op (hx_tk t L q).1 = o at r1 r2 aa go1 ⊢
        generalize (hx_tk t L q).2.2.2 = e at lt tc go1 ⊢
        obtain ⟨y0, y1⟩ := hX e (o :: B) (C ++ Cc) tc (hx_lw_c (by omega)) (by show hx_isO o + hx_opP B + k = 8; omega) (fun y => Or.inr (by rw [aa]; exact y)) (fun y => by rw [aa]; exact y)
        have g := hg e tc
        generalize X e = r at y0 y1 g ⊢
        by_cases w : r.1 = 0
        · obtain ⟨D', C1', go2, hC', hD', he', hcd'⟩ := y0 w
          obtain ⟨g1, g2, -⟩ := g.1 w
          rw [hx_ths_0 w]
          have eD : D' ++ o :: B = (D' ++ [o]) ++ B := by rw [List.append_assoc]; rfl
          rw [eD] at go2 hcd'
          refine ih r.2.1 (D' ++ [o]) C1' _ (by omega) g2 (fun d hd => ?_) ?_ he' hcd' (hx_go_tr go1 go2)
          · rcases List.mem_append.mp hd with hd | hd
            · have := hD' d hd; omega
            · rw [List.mem_singleton.mp hd, r1]; exact Nat.le_refl ρ
          · rw [hx_fl_app, ← List.append_assoc, hC', List.append_assoc, List.append_assoc, List.append_assoc]; rfl
        · obtain ⟨s', go2, f1, f2⟩ := y1 w
          rw [hx_ths_n w]
          exact ⟨fun y => absurd y w, fun _ => ⟨s', hx_go_tr go1 go2, f1, f2⟩⟩
  unfold hx_rep
  have g := hg p hp
  generalize X p = r at x0 x1 g ⊢
  by_cases w : r.1 = 0
  · obtain ⟨D, C1, go, hC, hD, he, hcd⟩ := x0 w
    obtain ⟨g1, g2, -⟩ := g.1 w
    rw [hx_ths_0 w]
    exact lp 300 r.2.1 D C1 r.2.2 (by omega) g2 (fun d hd => by have := hD d hd; omega) hC he hcd go
  · rw [hx_ths_n w]
    exact ⟨fun y => absurd y w, x1⟩
theorem hx_OC_XC {k : Nat} (h : hx_OC t L b X k) : hx_XC t L b X 7 7 (fun _ => false) false k := by
  intro p B C hp hB hk c1 _
  obtain ⟨a, c⟩ := h p B C hp hk (c1 rfl)
  refine ⟨fun z => ?_, c⟩
  have go := a z
  have e := hx_stl_fl hB [] (C ++ (X p).2.2) (fun d hd => absurd hd List.not_mem_nil)
  have e' : hx_stl 7 B (C ++ (X p).2.2) = (B, C ++ (X p).2.2 ++ []) := e
  rw [e', List.append_nil] at go
  exact ⟨[], C ++ (X p).2.2, go, List.append_nil _, fun d hd => absurd hd List.not_mem_nil, rfl, fun y => absurd y Bool.false_ne_true⟩
end HXMACH
