/-! pieces: labels that go down along pairs -/
def hl_lv (h : Nat → Int32) (p : Nat × Nat) (s : (Nat → Nat) × Bool) : (Nat → Nat) × Bool :=
  if h p.1 = h p.2 ∧ ¬ s.1 p.1 = s.1 p.2 then (fun c => if c = p.1 ∨ c = p.2 then min (s.1 p.1) (s.1 p.2) else s.1 c, true) else s
def hl_swf (h : Nat → Int32) : List (Nat × Nat) → (Nat → Nat) × Bool → (Nat → Nat) × Bool
  | [], s => s
  | p :: ps, s => hl_swf h ps (hl_lv h p s)
theorem hl_swf_app (h : Nat → Int32) (ps qs : List (Nat × Nat)) : ∀ s, hl_swf h (ps ++ qs) s = hl_swf h qs (hl_swf h ps s) := by
  induction ps with
  | nil => intro s; rfl
  | cons p ps ih => intro s; exact ih (hl_lv h p s)
/-- the same under all that keeps to the pairs -/
def hl_Cl (h : Nat → Int32) (ps : List (Nat × Nat)) (X : Nat → Nat) : Prop := ∀ p, p ∈ ps → h p.1 = h p.2 → X p.1 = X p.2
def hl_Cn (h : Nat → Int32) (ps : List (Nat × Nat)) (c d : Nat) : Prop := ∀ X, hl_Cl h ps X → X c = X d
def hl_Gd (h : Nat → Int32) (ps : List (Nat × Nat)) (L : Nat → Nat) : Prop := (∀ c, L c ≤ c) ∧ ∀ c, hl_Cn h ps c (L c)
theorem hl_Gd_id (h : Nat → Int32) (ps : List (Nat × Nat)) : hl_Gd h ps (fun c => c) := ⟨fun c => Nat.le_refl c, fun c X _ => rfl⟩
theorem hl_Gd_lv {h : Nat → Int32} {ps : List (Nat × Nat)} {p : Nat × Nat} {s : (Nat → Nat) × Bool} (hp : p ∈ ps) (hG : hl_Gd h ps s.1) : hl_Gd h ps (hl_lv h p s).1 := by
  unfold hl_lv
  by_cases q : h p.1 = h p.2 ∧ ¬ s.1 p.1 = s.1 p.2
  · rw [if_pos q]
    obtain ⟨g1, g2⟩ := hG
    have a1 := g1 p.1
    have a2 := g1 p.2
    refine ⟨fun c => ?_, fun c X hX => ?_⟩
    · show (if c = p.1 ∨ c = p.2 then min (s.1 p.1) (s.1 p.2) else s.1 c) ≤ c
      split
      · next e => rcases e with e | e <;> subst e <;> omega
      · exact g1 c
    · show X c = X (if c = p.1 ∨ c = p.2 then min (s.1 p.1) (s.1 p.2) else s.1 c)
      have e1 := g2 p.1 X hX
      have e2 := g2 p.2 X hX
      have e3 := hX p hp q.1
      split
      · next e =>
        have em : X (min (s.1 p.1) (s.1 p.2)) = X p.1 := by
          rcases Nat.le_total (s.1 p.1) (s.1 p.2) with z | z
          · rw [Nat.min_eq_left z]; exact e1.symm
          · rw [Nat.min_eq_right z, ← e2]; exact e3.symm
        rw [em]
        rcases e with e | e <;> subst e
        · rfl
        · exact e3.symm
      · exact g2 c X hX
  · rw [if_neg q]; exact hG
theorem hl_lv_le {h : Nat → Int32} {p : Nat × Nat} {s : (Nat → Nat) × Bool} (c : Nat) : (hl_lv h p s).1 c ≤ s.1 c := by
  unfold hl_lv
  by_cases q : h p.1 = h p.2 ∧ ¬ s.1 p.1 = s.1 p.2
  · rw [if_pos q]
    show (if c = p.1 ∨ c = p.2 then min (s.1 p.1) (s.1 p.2) else s.1 c) ≤ s.1 c
    split
    · next e => rcases e with e | e <;> subst e <;> omega
    · exact Nat.le_refl _
  · rw [if_neg q]; exact Nat.le_refl _
theorem hl_swf_le {h : Nat → Int32} (qs : List (Nat × Nat)) : ∀ (s : (Nat → Nat) × Bool) (c : Nat), (hl_swf h qs s).1 c ≤ s.1 c := by
  induction qs with
  | nil => intro s c; exact Nat.le_refl _
  | cons p qs ih => intro s c; exact Nat.le_trans (ih _ c) (hl_lv_le c)
theorem hl_swf_gd {h : Nat → Int32} {ps : List (Nat × Nat)} (qs : List (Nat × Nat)) : ∀ (s : (Nat → Nat) × Bool), (∀ p, p ∈ qs → p ∈ ps) → hl_Gd h ps s.1 → hl_Gd h ps (hl_swf h qs s).1 := by
  induction qs with
  | nil => intro s _ g; exact g
  | cons p qs ih => intro s hs g; exact ih _ (fun q hq => hs q (List.mem_cons_of_mem _ hq)) (hl_Gd_lv (hs p List.mem_cons_self) g)
theorem hl_swf_t {h : Nat → Int32} (qs : List (Nat × Nat)) : ∀ (L : Nat → Nat), (hl_swf h qs (L, true)).2 = true := by
  induction qs with
  | nil => intro L; rfl
  | cons p qs ih =>
    intro L
    show (hl_swf h qs (hl_lv h p (L, true))).2 = true
    unfold hl_lv
    split
    · exact ih _
    · exact ih _
theorem hl_swf_f {h : Nat → Int32} (qs : List (Nat × Nat)) : ∀ (L : Nat → Nat), (hl_swf h qs (L, false)).2 = false → (hl_swf h qs (L, false)).1 = L ∧ hl_Cl h qs L := by
  induction qs with
  | nil => intro L _; exact ⟨rfl, fun p hp => by cases hp⟩
  | cons p qs ih =>
    intro L hf
    have hf' : (hl_swf h qs (hl_lv h p (L, false))).2 = false := hf
    by_cases q : h p.1 = h p.2 ∧ ¬ L p.1 = L p.2
    · have e : hl_lv h p (L, false) = (fun c => if c = p.1 ∨ c = p.2 then min (L p.1) (L p.2) else L c, true) := if_pos q
      rw [e, hl_swf_t] at hf'
      cases hf'
    · have e : hl_lv h p (L, false) = (L, false) := if_neg q
      rw [e] at hf'
      obtain ⟨i1, i2⟩ := ih L hf'
      refine ⟨?_, ?_⟩
      · show (hl_swf h qs (hl_lv h p (L, false))).1 = L
        rw [e]; exact i1
      · intro r hr heq
        rcases List.mem_cons.mp hr with z | z
        · subst z
          exact Decidable.byContradiction fun n => q ⟨heq, n⟩
        · exact i2 r z heq
theorem hl_swf_p {h : Nat → Int32} (qs : List (Nat × Nat)) : ∀ (s : (Nat → Nat) × Bool) (p : Nat × Nat), p ∈ qs → h p.1 = h p.2 → (hl_swf h qs s).1 p.1 ≤ s.1 p.2 ∧ (hl_swf h qs s).1 p.2 ≤ s.1 p.1 := by
  induction qs with
  | nil => intro s p hp; cases hp
  | cons r qs ih =>
    intro s p hp heq
    rcases List.mem_cons.mp hp with z | z
    · subst z
      have a1 := hl_swf_le (h := h) qs (hl_lv h p s) p.1
      have a2 := hl_swf_le (h := h) qs (hl_lv h p s) p.2
      have b : (hl_lv h p s).1 p.1 ≤ s.1 p.2 ∧ (hl_lv h p s).1 p.2 ≤ s.1 p.1 := by
        unfold hl_lv
        by_cases q : h p.1 = h p.2 ∧ ¬ s.1 p.1 = s.1 p.2
        · rw [if_pos q]
          refine ⟨?_, ?_⟩
          · show (if p.1 = p.1 ∨ p.1 = p.2 then min (s.1 p.1) (s.1 p.2) else s.1 p.1) ≤ _
            rw [if_pos (.inl rfl)]; omega
          · show (if p.2 = p.1 ∨ p.2 = p.2 then min (s.1 p.1) (s.1 p.2) else s.1 p.2) ≤ _
            rw [if_pos (.inr rfl)]; omega
        · rw [if_neg q]
          have e : s.1 p.1 = s.1 p.2 := Decidable.byContradiction fun n => q ⟨heq, n⟩
          rw [e]; exact ⟨Nat.le_refl _, Nat.le_refl _⟩
      exact ⟨Nat.le_trans a1 b.1, Nat.le_trans a2 b.2⟩
    · obtain ⟨i1, i2⟩ := ih (hl_lv h r s) p z heq
      exact ⟨Nat.le_trans i1 (hl_lv_le p.2), Nat.le_trans i2 (hl_lv_le p.1)⟩
/-- labels that keep to the pairs are below all others, and so one -/
theorem hl_Gd_low {h : Nat → Int32} {ps : List (Nat × Nat)} {F L : Nat → Nat} (hF : hl_Gd h ps F) (cF : hl_Cl h ps F) (hL : hl_Gd h ps L) (c : Nat) : F c ≤ L c := by
  rw [hL.2 c F cF]
  exact hF.1 (L c)
theorem hl_Gd_one {h : Nat → Int32} {ps : List (Nat × Nat)} {F L : Nat → Nat} (hF : hl_Gd h ps F) (cF : hl_Cl h ps F) (hL : hl_Gd h ps L) (cL : hl_Cl h ps L) : F = L := by
  funext c
  exact Nat.le_antisymm (hl_Gd_low hF cF hL c) (hl_Gd_low hL cL hF c)
/-- how often -/
def hl_cnt (p : Nat → Bool) : Nat → Nat
  | 0 => 0
  | n + 1 => hl_cnt p n + (if p n = true then 1 else 0)
theorem hl_cnt_le (p : Nat → Bool) (n : Nat) : hl_cnt p n ≤ n := by
  induction n with
  | zero => exact Nat.le_refl _
  | succ n ih => unfold hl_cnt; split <;> omega
theorem hl_cnt_all {p : Nat → Bool} (n : Nat) (h : hl_cnt p n = n) : ∀ c, c < n → p c = true := by
  induction n with
  | zero => intro c hc; omega
  | succ n ih =>
    unfold hl_cnt at h
    have := hl_cnt_le p n
    intro c hc
    by_cases q : p n = true
    · rw [if_pos q] at h
      by_cases e : c = n
      · subst e; exact q
      · exact ih (by omega) c (by omega)
    · rw [if_neg q] at h; omega
theorem hl_cnt_mono {p q : Nat → Bool} (n : Nat) (h : ∀ c, c < n → p c = true → q c = true) : hl_cnt p n ≤ hl_cnt q n := by
  induction n with
  | zero => exact Nat.le_refl _
  | succ n ih =>
    have := ih (fun c hc => h c (by omega))
    unfold hl_cnt
    by_cases z : p n = true
    · rw [if_pos z, if_pos (h n (by omega) z)]; omega
    · rw [if_neg z]; omega
theorem hl_cnt_lt {p q : Nat → Bool} (n : Nat) (h : ∀ c, c < n → p c = true → q c = true) {d : Nat} (hd : d < n) (h1 : p d = false) (h2 : q d = true) : hl_cnt p n < hl_cnt q n := by
  induction n with
  | zero => omega
  | succ n ih =>
    unfold hl_cnt
    by_cases e : d = n
    · subst e
      have := hl_cnt_mono (p := p) (q := q) d (fun c hc => h c (by omega))
      rw [if_neg (by rw [h1]; decide), if_pos h2]
      omega
    · have := ih (fun c hc => h c (by omega)) (by omega)
      by_cases z : p n = true
      · rw [if_pos z, if_pos (h n (by omega) z)]; omega
      · rw [if_neg z]; omega
/-- each sweep brings one cell at least to its end -/
theorem hl_swf_cnt {h : Nat → Int32} {ps : List (Nat × Nat)} {N : Nat} {F L : Nat → Nat} {b : Bool} (hb : ∀ p, p ∈ ps → p.1 < N ∧ p.2 < N) (hF : hl_Gd h ps F) (cF : hl_Cl h ps F) (hL : hl_Gd h ps L) : hl_cnt (fun c => decide (L c = F c)) N = N ∨ hl_cnt (fun c => decide (L c = F c)) N < hl_cnt (fun c => decide ((hl_swf h ps (L, b)).1 c = F c)) N := by
  have lowL := hl_Gd_low hF cF hL
  have hL' := hl_swf_gd (h := h) (ps := ps) ps (L, b) (fun _ h => h) hL
  have lowL' := hl_Gd_low hF cF hL'
  have le' : ∀ c, (hl_swf h ps (L, b)).1 c ≤ L c := hl_swf_le (h := h) ps (L, b)
  by_cases hx : ∃ p, p ∈ ps ∧ h p.1 = h p.2 ∧ ¬ ((L p.1 = F p.1) ↔ (L p.2 = F p.2))
  · right
    obtain ⟨p, hp, heq, hne⟩ := hx
    obtain ⟨n1, n2⟩ := hb p hp
    have s12 : (hl_swf h ps (L, b)).1 p.1 ≤ L p.2 ∧ (hl_swf h ps (L, b)).1 p.2 ≤ L p.1 := hl_swf_p (h := h) ps (L, b) p hp heq
    obtain ⟨s1, s2⟩ := s12
    have eF := cF p hp heq
    have mono : ∀ c, c < N → decide (L c = F c) = true → decide ((hl_swf h ps (L, b)).1 c = F c) = true := fun c _ hc => by
      have := of_decide_eq_true hc
      have a := le' c
      have b' := lowL' c
      exact decide_eq_true (by rw [this] at a; omega)
    by_cases q : L p.1 = F p.1
    · have q2 : ¬ L p.2 = F p.2 := fun z => hne ⟨fun _ => z, fun _ => q⟩
      refine hl_cnt_lt N mono n2 (decide_eq_false q2) (decide_eq_true ?_)
      have := lowL' p.2
      rw [q] at s2
      omega
    · have q2 : L p.2 = F p.2 := Decidable.byContradiction fun z => hne ⟨fun y => absurd y q, fun y => absurd y z⟩
      refine hl_cnt_lt N mono n1 (decide_eq_false q) (decide_eq_true ?_)
      have := lowL' p.1
      rw [q2] at s1
      omega
  · left
    have X : ∀ c, L c = F c := by
      intro c
      have cX : hl_Cl h ps (fun c => if L c = F c then 1 else 0) := fun p hp heq => by
        have : (L p.1 = F p.1) ↔ (L p.2 = F p.2) := Decidable.byContradiction fun n => hx ⟨p, hp, heq, n⟩
        simp only [this]
      have e := hF.2 c _ cX
      have eFF : F (F c) = F c := (hF.2 c F cF).symm
      have a1 := lowL (F c)
      have a2 := hL.1 (F c)
      have : L (F c) = F (F c) := by omega
      simp only [this, if_true] at e
      by_cases z : L c = F c
      · exact z
      · rw [if_neg z] at e; cases e
    have : ∀ n, hl_cnt (fun c => decide (L c = F c)) n = n := by
      intro n
      induction n with
      | zero => rfl
      | succ n ih => unfold hl_cnt; rw [ih, if_pos (decide_eq_true (X n))]
    exact this N
/-- how far labels can still go -/
def hl_mes (L : Nat → Nat) : Nat → Nat
  | 0 => 0
  | n + 1 => hl_mes L n + L n
theorem hl_mes_le {L L' : Nat → Nat} (n : Nat) (h : ∀ c, L' c ≤ L c) : hl_mes L' n ≤ hl_mes L n := by
  induction n with
  | zero => exact Nat.le_refl _
  | succ n ih => unfold hl_mes; have := h n; omega
theorem hl_mes_lt {L L' : Nat → Nat} (n : Nat) (h : ∀ c, L' c ≤ L c) {d : Nat} (hd : d < n) (hl : L' d < L d) : hl_mes L' n < hl_mes L n := by
  induction n with
  | zero => omega
  | succ n ih =>
    unfold hl_mes
    by_cases e : d = n
    · subst e; have := hl_mes_le d h; omega
    · have := ih (by omega); have := h n; omega
theorem hl_swf_mes {h : Nat → Int32} {N : Nat} (qs : List (Nat × Nat)) : ∀ (L : Nat → Nat), (∀ p, p ∈ qs → p.1 < N ∧ p.2 < N) → (hl_swf h qs (L, false)).2 = true → hl_mes (hl_swf h qs (L, false)).1 N < hl_mes L N := by
  induction qs with
  | nil => intro L _ hf; cases hf
  | cons p qs ih =>
    intro L hb hf
    obtain ⟨n1, n2⟩ := hb p List.mem_cons_self
    have hf' : (hl_swf h qs (hl_lv h p (L, false))).2 = true := hf
    show hl_mes (hl_swf h qs (hl_lv h p (L, false))).1 N < _
    by_cases q : h p.1 = h p.2 ∧ ¬ L p.1 = L p.2
    · have le1 := hl_mes_le N (hl_swf_le (h := h) qs (hl_lv h p (L, false)))
      have lt1 : hl_mes (hl_lv h p (L, false)).1 N < hl_mes L N := by
        have e : hl_lv h p (L, false) = (fun c => if c = p.1 ∨ c = p.2 then min (L p.1) (L p.2) else L c, true) := if_pos q
        rcases Nat.lt_or_ge (L p.1) (L p.2) with z | z
        · refine hl_mes_lt N (fun c => hl_lv_le c) n2 ?_
          rw [e]
          show (if p.2 = p.1 ∨ p.2 = p.2 then min (L p.1) (L p.2) else L p.2) < L p.2
          rw [if_pos (.inr rfl)]; omega
        · have z2 : ¬ L p.1 = L p.2 := q.2
          refine hl_mes_lt N (fun c => hl_lv_le c) n1 ?_
          rw [e]
          show (if p.1 = p.1 ∨ p.1 = p.2 then min (L p.1) (L p.2) else L p.1) < L p.1
          rw [if_pos (.inl rfl)]; omega
      omega
    · have e : hl_lv h p (L, false) = (L, false) := if_neg q
      rw [e] at hf' ⊢
      exact ih L (fun r hr => hb r (List.mem_cons_of_mem _ hr)) hf'
/-- there are such labels -/
theorem hl_Gd_ex {h : Nat → Int32} {ps : List (Nat × Nat)} {N : Nat} (hb : ∀ p, p ∈ ps → p.1 < N ∧ p.2 < N) (m : Nat) : ∀ L, hl_mes L N ≤ m → hl_Gd h ps L → ∃ F, hl_Gd h ps F ∧ hl_Cl h ps F := by
  induction m with
  | zero =>
    intro L hm hG
    cases hf : (hl_swf h ps (L, false)).2 with
    | false => exact ⟨L, hG, (hl_swf_f ps L hf).2⟩
    | true => have := hl_swf_mes ps L hb hf; omega
  | succ m ih =>
    intro L hm hG
    cases hf : (hl_swf h ps (L, false)).2 with
    | false => exact ⟨L, hG, (hl_swf_f ps L hf).2⟩
    | true => exact ih (hl_swf h ps (L, false)).1 (by have := hl_swf_mes ps L hb hf; omega) (hl_swf_gd ps (L, false) (fun _ h => h) hG)
/-- the pairs of the land: the class's, the reference's -/
def hl_p1 (N w i : Nat) : List (Nat × Nat) := (if (i + 1) % w = 0 then [] else [(i, i + 1)]) ++ (if i + w < N then [(i, i + w)] else [])
def hl_p2 (w i : Nat) : List (Nat × Nat) := (if 0 < i % w then [(i, i - 1)] else []) ++ (if i < w then [] else [(i, i - w)])
def hl_ps (g : Nat → List (Nat × Nat)) : Nat → List (Nat × Nat)
  | 0 => []
  | n + 1 => hl_ps g n ++ g n
theorem hl_ps_mem {g : Nat → List (Nat × Nat)} {p : Nat × Nat} (n : Nat) : p ∈ hl_ps g n ↔ ∃ i, i < n ∧ p ∈ g i := by
  induction n with
  | zero => exact ⟨fun h => (by cases h), fun ⟨i, hi, _⟩ => by omega⟩
  | succ n ih =>
    show p ∈ hl_ps g n ++ g n ↔ _
    rw [List.mem_append, ih]
    constructor
    · rintro (⟨i, h1, h2⟩ | h)
      · exact ⟨i, by omega, h2⟩
      · exact ⟨n, by omega, h⟩
    · intro ⟨i, h1, h2⟩
      by_cases e : i = n
      · subst e; exact .inr h2
      · exact .inl ⟨i, by omega, h2⟩
theorem hl_p1_mem {N w i : Nat} {p : Nat × Nat} : p ∈ hl_p1 N w i ↔ ((i + 1) % w ≠ 0 ∧ p = (i, i + 1)) ∨ (i + w < N ∧ p = (i, i + w)) := by
  unfold hl_p1
  rw [List.mem_append]
  by_cases a : (i + 1) % w = 0 <;> by_cases b : i + w < N <;> simp [a, b]
theorem hl_p2_mem {w i : Nat} {p : Nat × Nat} : p ∈ hl_p2 w i ↔ (0 < i % w ∧ p = (i, i - 1)) ∨ (w ≤ i ∧ p = (i, i - w)) := by
  unfold hl_p2
  rw [List.mem_append]
  by_cases a : 0 < i % w <;> by_cases b : i < w <;> simp [a, b, Nat.not_lt.mp, Nat.not_le.mpr] <;> omega
theorem hl_modN {W H i : Nat} (hW : 2 ≤ W) (hi : i < W * H) (h : (i + 1) % W ≠ 0) : i + 1 < W * H := by
  by_cases e : i + 1 = W * H
  · rw [e, Nat.mul_mod_right] at h; exact absurd rfl h
  · omega
theorem hl_p1_b {W H : Nat} (hW : 2 ≤ W) : ∀ p, p ∈ hl_ps (hl_p1 (W * H) W) (W * H) → p.1 < W * H ∧ p.2 < W * H := by
  intro p hp
  obtain ⟨i, hi, h⟩ := (hl_ps_mem _).mp hp
  rcases hl_p1_mem.mp h with ⟨a, e⟩ | ⟨a, e⟩ <;> subst e
  · exact ⟨hi, hl_modN hW hi a⟩
  · exact ⟨hi, a⟩
theorem hl_p2_b {W N : Nat} : ∀ p, p ∈ hl_ps (hl_p2 W) N → p.1 < N ∧ p.2 < N := by
  intro p hp
  obtain ⟨i, hi, h⟩ := (hl_ps_mem _).mp hp
  rcases hl_p2_mem.mp h with ⟨a, e⟩ | ⟨a, e⟩ <;> subst e
  · exact ⟨hi, by show i - 1 < N; omega⟩
  · exact ⟨hi, by show i - W < N; omega⟩
/-- both keep to the same -/
theorem hl_Cl12 {W H : Nat} {h : Nat → Int32} {X : Nat → Nat} (hW : 2 ≤ W) : hl_Cl h (hl_ps (hl_p1 (W * H) W) (W * H)) X ↔ hl_Cl h (hl_ps (hl_p2 W) (W * H)) X := by
  constructor
  · intro hc p hp heq
    obtain ⟨i, hi, hm⟩ := (hl_ps_mem _).mp hp
    rcases hl_p2_mem.mp hm with ⟨a, e⟩ | ⟨a, e⟩ <;> subst e
    · have i0 : 0 < i := Nat.pos_of_ne_zero fun z => by subst z; rw [Nat.zero_mod] at a; omega
      have e1 : i - 1 + 1 = i := by omega
      have := hc (i - 1, i - 1 + 1) ((hl_ps_mem _).mpr ⟨i - 1, by omega, hl_p1_mem.mpr (.inl ⟨by rw [e1]; omega, rfl⟩)⟩)
      rw [e1] at this
      exact (this heq.symm).symm
    · have e1 : i - W + W = i := by omega
      have := hc (i - W, i - W + W) ((hl_ps_mem _).mpr ⟨i - W, by omega, hl_p1_mem.mpr (.inr ⟨by omega, rfl⟩)⟩)
      rw [e1] at this
      exact (this heq.symm).symm
  · intro hc p hp heq
    obtain ⟨i, hi, hm⟩ := (hl_ps_mem _).mp hp
    rcases hl_p1_mem.mp hm with ⟨a, e⟩ | ⟨a, e⟩ <;> subst e
    · have hb := hl_modN hW hi a
      have := hc (i + 1, i + 1 - 1) ((hl_ps_mem _).mpr ⟨i + 1, hb, hl_p2_mem.mpr (.inl ⟨by omega, rfl⟩)⟩)
      exact (this heq.symm).symm
    · have e1 : i + W - W = i := by omega
      have := hc (i + W, i + W - W) ((hl_ps_mem _).mpr ⟨i + W, a, hl_p2_mem.mpr (.inr ⟨by omega, rfl⟩)⟩)
      rw [e1] at this
      exact (this heq.symm).symm
theorem hl_Gd12 {W H : Nat} {h : Nat → Int32} {L : Nat → Nat} (hW : 2 ≤ W) : hl_Gd h (hl_ps (hl_p1 (W * H) W) (W * H)) L ↔ hl_Gd h (hl_ps (hl_p2 W) (W * H)) L := by
  constructor
  · intro ⟨a, b⟩; exact ⟨a, fun c X hX => b c X ((hl_Cl12 hW).mpr hX)⟩
  · intro ⟨a, b⟩; exact ⟨a, fun c X hX => b c X ((hl_Cl12 hW).mp hX)⟩
