/-! worlds of my machine in the heap, its locals in the frame -/
def hl_ad (B0 : Nat) (sa : Nat → Nat) (a : Nat) : Nat := if a < 1000000 then B0 + a else sa a
def hl_v (ad : Nat → Nat) (v : Value) : Value := match v with
  | .ref a => .ref (ad a)
  | v => v
theorem hl_v_cat (ad : Nat → Nat) (v : Value) : (hl_v ad v).category = v.category := by cases v <;> rfl
def hl_fv (ad : Nat → Nat) (w : hl_W) (ci a k : Nat) : Value := match hl_fk ci k with
  | 1 => .long (hl_J w a k)
  | 2 => va_rf ((hl_P w a k).map ad)
  | _ => .int (hl_I w a k)
def hl_ce (ad : Nat → Nat) (cA : Nat → ClassId) (w : hl_W) (a : Nat) : va_E := match hl_k w a with
  | (0, n) => .inl (cA 0, n, .inl (hl_I w a))
  | (1, n) => .inl (cA 1, n, .inr (.inl (hl_J w a)))
  | (2, n) => .inl (cA 2, n, .inl (hl_I w a))
  | (3, n) => .inl (cA 3, n, .inr (.inr (.inr (.inr (fun i => (hl_P w a i).map ad)))))
  | (t + 4, n) => .inr (t, (List.range n).map (hl_fv ad w t a))
def hl_cz (ad : Nat → Nat) (cA : Nat → ClassId) (w : hl_W) : va_W := (List.range (hl_n w)).map (fun a => (ad a, hl_ce ad cA w a))
def hl_tys (cA : Nat → ClassId) : List (ClassId × FieldType) := [(cA 0, .int), (cA 1, .long), (cA 2, .boolean), (cA 3, .object "HourLines$Text")]
theorem hl_cz_len (ad : Nat → Nat) (cA : Nat → ClassId) (w : hl_W) : (hl_cz ad cA w).length = hl_n w := by simp [hl_cz]
theorem hl_cz_at {ad : Nat → Nat} {cA : Nat → ClassId} {w : hl_W} {a : Nat} (h : a < hl_n w) : (hl_cz ad cA w)[a]? = some (ad a, hl_ce ad cA w a) := by
  simp [hl_cz, h]
theorem hl_cz_of {ad : Nat → Nat} {cA : Nat → ClassId} {w : hl_W} {i : Nat} {q : Nat × va_E} (h : (hl_cz ad cA w)[i]? = some q) : i < hl_n w ∧ q = (ad i, hl_ce ad cA w i) := by
  have hl := (List.getElem?_eq_some_iff.mp h).1
  rw [hl_cz_len] at hl
  rw [hl_cz_at hl] at h
  exact ⟨hl, (Option.some.inj h).symm⟩
theorem hl_ce_congr {ad : Nat → Nat} {cA : Nat → ClassId} {w w' : hl_W} {b : Nat} (hk : hl_k w' b = hl_k w b) (hP : hl_P w' b = hl_P w b) (hI : hl_I w' b = hl_I w b) (hJ : hl_J w' b = hl_J w b) : hl_ce ad cA w' b = hl_ce ad cA w b := by
  have hf : ∀ t, hl_fv ad w' t b = hl_fv ad w t b := fun t => by
    funext k
    unfold hl_fv
    rw [hP, hI, hJ]
  unfold hl_ce
  simp only [hk, hP, hI, hJ, hf]
theorem hl_cz_set {ad : Nat → Nat} {cA : Nat → ClassId} {w w' : hl_W} {a : Nat} (hn : hl_n w' = hl_n w) (ha : a < hl_n w) (h : ∀ b, b ≠ a → hl_ce ad cA w' b = hl_ce ad cA w b) {q : Nat × va_E} (hq : q = (ad a, hl_ce ad cA w' a)) : (hl_cz ad cA w).set a q = hl_cz ad cA w' := by
  subst hq
  apply List.ext_getElem?
  intro i
  by_cases hi : i = a
  · subst hi
    rw [List.getElem?_set_self (by rw [hl_cz_len]; exact ha), hl_cz_at (by rw [hn]; exact ha)]
  · rw [List.getElem?_set_ne (Ne.symm hi)]
    by_cases hl : i < hl_n w
    · rw [hl_cz_at hl, hl_cz_at (by rw [hn]; exact hl), h i hi]
    · rw [List.getElem?_eq_none (by rw [hl_cz_len]; omega), List.getElem?_eq_none (by rw [hl_cz_len, hn]; omega)]
theorem hl_cz_push {ad : Nat → Nat} {cA : Nat → ClassId} {w w' : hl_W} (hn : hl_n w' = hl_n w + 1) (h : ∀ b, b < hl_n w → hl_ce ad cA w' b = hl_ce ad cA w b) {q : Nat × va_E} (hq : q = (ad (hl_n w), hl_ce ad cA w' (hl_n w))) : hl_cz ad cA w ++ [q] = hl_cz ad cA w' := by
  subst hq
  apply List.ext_getElem?
  intro i
  by_cases hl : i < hl_n w
  · rw [List.getElem?_append_left (by rw [hl_cz_len]; exact hl), hl_cz_at hl, hl_cz_at (by omega), h i hl]
  · rw [List.getElem?_append_right (by rw [hl_cz_len]; omega), hl_cz_len]
    by_cases hi : i = hl_n w
    · subst hi
      rw [Nat.sub_self, hl_cz_at (by omega)]
      rfl
    · rw [List.getElem?_eq_none (by simp; omega), List.getElem?_eq_none (by rw [hl_cz_len]; omega)]
theorem hl_adl {B0 : Nat} {sa : Nat → Nat} {a : Nat} (h : a < 1000000) : hl_ad B0 sa a = B0 + a := if_pos h
theorem hl_D {B0 : Nat} {sa : Nat → Nat} {cA : Nat → ClassId} {w : hl_W} (h : hl_n w ≤ 1000000) : va_D (fun q => B0 ≤ q) (hl_cz (hl_ad B0 sa) cA w) := by
  refine ⟨fun i j p q hi hj hpq => ?_, fun k q hk => ?_⟩
  · obtain ⟨h1, rfl⟩ := hl_cz_of hi
    obtain ⟨h2, rfl⟩ := hl_cz_of hj
    dsimp only at hpq
    rw [hl_adl (by omega), hl_adl (by omega)] at hpq
    omega
  · obtain ⟨h1, rfl⟩ := hl_cz_of hk
    show B0 ≤ hl_ad B0 sa k
    rw [hl_adl (by omega)]
    omega
/-- the heap: what lies below B0, then the world's cells one behind the other -/
def hl_H (B0 : Nat) (sa : Nat → Nat) (D : va_G) (cA : Nat → ClassId) (w : hl_W) (H : Heap) : Prop := H.size = B0 + hl_n w ∧ hl_n w ≤ 1000000 ∧ va_P D hl_cl (hl_cz (hl_ad B0 sa) cA w) H
/-! locals -/
def hl_LR (ad : Nat → Nat) (ls : Array Slot) (nL : Nat) (L : List Value) : Prop := L.length = nL ∧ ls.size = nL ∧ lv_wf ls ∧ ∀ (i : Nat) (v : Value), L[i]? = some v → v ≠ .null → ls[i]? = some (.val (hl_v ad v))
theorem hl_ld_at {L : List Value} {i : Nat} {v : Value} (h : hl_ld L i = v) (hv : v ≠ .null) : L[i]? = some v := by
  induction L generalizing i with
  | nil => exact absurd h.symm hv
  | cons x l ih =>
    cases i with
    | zero => exact congrArg some h
    | succ i => rw [List.getElem?_cons_succ]; exact ih h
def hl_pr (ad : Nat → Nat) (L : List Value) : List (Nat × Value) := (List.range L.length).filterMap (fun i => match L[i]? with
  | some v => if v = .null then none else some (i, hl_v ad v)
  | none => none)
theorem hl_pr_mem {ad : Nat → Nat} {L : List Value} {q : Nat × Value} : q ∈ hl_pr ad L ↔ ∃ v, L[q.1]? = some v ∧ v ≠ .null ∧ q.2 = hl_v ad v := by
  unfold hl_pr
  rw [List.mem_filterMap]
  constructor
  · rintro ⟨i, -, h⟩
    cases hv : L[i]? with
    | none => rw [hv] at h; cases h
    | some v =>
      rw [hv] at h
      dsimp only at h
      split at h
      · cases h
      · next hn => cases h; exact ⟨v, hv, hn, rfl⟩
  · rintro ⟨v, hv, hn, hq⟩
    refine ⟨q.1, List.mem_range.mpr (List.getElem?_eq_some_iff.mp hv).1, ?_⟩
    rw [hv]
    dsimp only
    rw [if_neg hn, ← hq]
theorem hl_LR.has {ad : Nat → Nat} {ls : Array Slot} {nL : Nat} {L : List Value} (h : hl_LR ad ls nL L) : lv_has ls nL (hl_pr ad L) := by
  refine ⟨h.2.1, h.2.2.1, fun q hq => ?_⟩
  obtain ⟨v, h1, h2, h3⟩ := hl_pr_mem.mp hq
  rw [h3]
  exact h.2.2.2 _ _ h1 h2
theorem hl_s1_len (L : List Value) (i : Nat) (v : Value) : (hl_s1 L i v).length = L.length := by
  induction L generalizing i with
  | nil => rfl
  | cons x l ih =>
    cases i with
    | zero => rfl
    | succ i => simp [hl_s1, ih]
theorem hl_s1_get (L : List Value) (i : Nat) (v : Value) (k : Nat) : (hl_s1 L i v)[k]? = if k = i then (if i < L.length then some v else none) else if k + 1 = i then (L[k]?).map hl_kill else L[k]? := by
  induction L generalizing i k with
  | nil => simp [hl_s1]
  | cons x l ih =>
    cases i with
    | zero =>
      cases k with
      | zero => simp [hl_s1]
      | succ k => simp [hl_s1]
    | succ i =>
      cases k with
      | zero =>
        by_cases hi : i = 0
        · subst hi; simp [hl_s1]
        · have h0 : ¬ 0 = i := fun h => hi h.symm
          simp [hl_s1, hi, h0]
      | succ k =>
        rw [hl_s1, List.getElem?_cons_succ, ih]
        by_cases h1 : k = i
        · subst h1; simp
        · by_cases h2 : k + 1 = i
          · subst h2; simp
          · have h3 : ¬ k + 1 + 1 = i + 1 := by omega
            simp [h1, h2]
theorem hl_s2_len (L : List Value) (i : Nat) (v : Value) : (hl_s2 L i v).length = L.length := by
  induction L generalizing i with
  | nil => rfl
  | cons x l ih =>
    cases i with
    | zero => cases l <;> rfl
    | succ i => simp [hl_s2, ih]
theorem hl_s2_get (L : List Value) (i : Nat) (v : Value) (k : Nat) : (hl_s2 L i v)[k]? = if k = i then (if i < L.length then some v else none) else if k = i + 1 then (if i + 1 < L.length then some .null else none) else if k + 1 = i then (L[k]?).map hl_kill else L[k]? := by
  induction L generalizing i k with
  | nil => simp [hl_s2]
  | cons x l ih =>
    cases i with
    | zero =>
      cases l with
      | nil => cases k with
        | zero => simp [hl_s2]
        | succ k => simp [hl_s2]
      | cons y l =>
        cases k with
        | zero => simp [hl_s2]
        | succ k =>
          cases k with
          | zero => simp [hl_s2]
          | succ k => simp [hl_s2]
    | succ i =>
      cases k with
      | zero =>
        by_cases hi : i = 0
        · subst hi; simp [hl_s2]
        · have h0 : ¬ 0 = i := fun h => hi h.symm
          simp [hl_s2, hi, h0]
      | succ k =>
        rw [hl_s2, List.getElem?_cons_succ, ih]
        by_cases h1 : k = i
        · subst h1; simp
        · by_cases h4 : k = i + 1
          · subst h4; simp
          · by_cases h2 : k + 1 = i
            · subst h2
              have h6 : ¬ k = k + 1 + 1 := by omega
              simp [h6]
            · have h3 : ¬ k + 1 + 1 = i + 1 := by omega
              have h5 : ¬ k + 1 = i + 1 + 1 := by omega
              simp [h1, h2, h4]
theorem hl_kill_of {x : Value} (h : hl_kill x ≠ .null) : x.category = 1 ∧ hl_kill x = x ∧ x ≠ .null := by
  cases x <;> simp_all [hl_kill, Value.category]
theorem hl_LR.s1 {ad : Nat → Nat} {ls ls' : Array Slot} {nL i : Nat} {L : List Value} {v u : Value} (h : hl_LR ad ls nL L) (hu : u = hl_v ad v) (h' : lv_has ls' nL ((i, u) :: (hl_pr ad L).filter (fun q => !(q.1 == i) && !(q.1 + 1 == i && q.2.category == 2)))) : hl_LR ad ls' nL (hl_s1 L i v) := by
  subst hu
  refine ⟨(hl_s1_len _ _ _).trans h.1, h'.1, h'.2.1, fun k x hk hx => ?_⟩
  rw [hl_s1_get] at hk
  split at hk
  · next e =>
    subst e
    split at hk
    · cases hk
      exact h'.2.2 (k, hl_v ad v) List.mem_cons_self
    · cases hk
  · next e1 =>
    split at hk
    · next e2 =>
      cases hL : L[k]? with
      | none => rw [hL] at hk; cases hk
      | some y =>
        rw [hL] at hk
        cases hk
        obtain ⟨g1, g2, g3⟩ := hl_kill_of hx
        rw [g2]
        refine h'.2.2 (k, hl_v ad y) (List.mem_cons_of_mem _ (List.mem_filter.mpr ⟨hl_pr_mem.mpr ⟨y, hL, g3, rfl⟩, ?_⟩))
        simp [e1, hl_v_cat, g1]
    · next e2 =>
      refine h'.2.2 (k, hl_v ad x) (List.mem_cons_of_mem _ (List.mem_filter.mpr ⟨hl_pr_mem.mpr ⟨x, hk, hx, rfl⟩, ?_⟩))
      simp [e1, e2]
theorem hl_LR.s2 {ad : Nat → Nat} {ls ls' : Array Slot} {nL i : Nat} {L : List Value} {v u : Value} (h : hl_LR ad ls nL L) (hu : u = hl_v ad v) (h' : lv_has ls' nL ((i, u) :: (hl_pr ad L).filter (fun q => !(q.1 == i) && (!(q.1 == i + 1) && !(q.1 + 1 == i && q.2.category == 2))))) : hl_LR ad ls' nL (hl_s2 L i v) := by
  subst hu
  refine ⟨(hl_s2_len _ _ _).trans h.1, h'.1, h'.2.1, fun k x hk hx => ?_⟩
  rw [hl_s2_get] at hk
  split at hk
  · next e =>
    subst e
    split at hk
    · cases hk
      exact h'.2.2 (k, hl_v ad v) List.mem_cons_self
    · cases hk
  · next e1 =>
    split at hk
    · split at hk
      · cases hk; exact absurd rfl hx
      · cases hk
    · next e3 =>
      split at hk
      · next e2 =>
        cases hL : L[k]? with
        | none => rw [hL] at hk; cases hk
        | some y =>
          rw [hL] at hk
          cases hk
          obtain ⟨g1, g2, g3⟩ := hl_kill_of hx
          rw [g2]
          refine h'.2.2 (k, hl_v ad y) (List.mem_cons_of_mem _ (List.mem_filter.mpr ⟨hl_pr_mem.mpr ⟨y, hL, g3, rfl⟩, ?_⟩))
          simp [e1, e3, hl_v_cat, g1]
      · next e2 =>
        refine h'.2.2 (k, hl_v ad x) (List.mem_cons_of_mem _ (List.mem_filter.mpr ⟨hl_pr_mem.mpr ⟨x, hk, hx, rfl⟩, ?_⟩))
        simp [e1, e2, e3]
theorem hl_lay_cons (v : Value) (l : List Value) : hl_lay (v :: l) = if v.category = 2 then v :: .null :: hl_lay l else v :: hl_lay l := by
  cases v <;> rfl
theorem hl_lay_sl (ad : Nat → Nat) (vs : List Value) : (lg_sl (vs.map (hl_v ad))).length = (hl_lay vs).length := by
  induction vs with
  | nil => rfl
  | cons v l ih =>
    rw [hl_lay_cons]
    show (lg_sl (hl_v ad v :: l.map (hl_v ad))).length = _
    unfold lg_sl at ih ⊢
    rw [List.flatMap_cons, List.length_append, ih, hl_v_cat]
    split <;> simp <;> omega
theorem hl_lay_args (ad : Nat → Nat) (vs : List Value) (o i : Nat) (v : Value) (h : (hl_lay vs)[i]? = some v) (hv : v ≠ .null) : (o + i, hl_v ad v) ∈ lv_args o (vs.map (hl_v ad)) := by
  induction vs generalizing o i with
  | nil => simp [hl_lay] at h
  | cons x l ih =>
    rw [hl_lay_cons] at h
    show _ ∈ lv_args o (hl_v ad x :: l.map (hl_v ad))
    unfold lv_args
    rw [hl_v_cat]
    split at h
    · next hc =>
      rw [if_pos hc]
      cases i with
      | zero =>
        cases h
        exact List.mem_cons_self
      | succ i =>
        cases i with
        | zero => cases h; exact absurd rfl hv
        | succ i =>
          have := ih (o + 2) i h
          rw [show o + (i + 1 + 1) = o + 2 + i by omega]
          exact List.mem_cons_of_mem _ this
    · next hc =>
      rw [if_neg hc]
      cases i with
      | zero =>
        cases h
        exact List.mem_cons_self
      | succ i =>
        have := ih (o + 1) i h
        rw [show o + (i + 1) = o + 1 + i by omega]
        exact List.mem_cons_of_mem _ this
theorem hl_entry {ad : Nat → Nat} {vs : List Value} {n : Nat} (h : (hl_lay vs).length ≤ n) : hl_LR ad ((lg_sl (vs.map (hl_v ad)) ++ List.replicate (n - (lg_sl (vs.map (hl_v ad))).length) Slot.unset).toArray) n (hl_ent n vs) := by
  have h1 := lv_entry (vs.map (hl_v ad)) (n := n) (by rw [hl_lay_sl]; exact h)
  refine ⟨by simp [hl_ent]; omega, h1.1, h1.2.1, fun i v hi hv => ?_⟩
  unfold hl_ent at hi
  by_cases hl : i < (hl_lay vs).length
  · rw [List.getElem?_append_left hl] at hi
    have := hl_lay_args ad vs 0 i v hi hv
    rw [Nat.zero_add] at this
    exact h1.2.2 _ this
  · rw [List.getElem?_append_right (by omega)] at hi
    have := List.mem_of_getElem? hi
    rw [List.mem_replicate] at this
    exact absurd this.2 hv
/-! sizes -/
theorem hl_sz_eq {w w' : hl_W} (h : hl_n w' = hl_n w) (hk : hl_k w' = hl_k w) : hl_sz w' = hl_sz w := by
  unfold hl_sz
  rw [h, hk]
theorem hl_sz_new (w : hl_W) (t n : Nat) : hl_sz (hl_new w t n) = hl_sz w + n := by
  have e : hl_n (hl_new w t n) = hl_n w + 1 := rfl
  unfold hl_sz
  rw [e, List.range_succ, List.map_append, List.sum_append]
  have h1 : (List.range (hl_n w)).map (fun a => (hl_k (hl_new w t n) a).2) = (List.range (hl_n w)).map (fun a => (hl_k w a).2) := by
    apply List.map_congr_left
    intro a ha
    have ha' : a < hl_n w := List.mem_range.mp ha
    show (if a = hl_n w then (t, n) else hl_k w a).2 = _
    rw [if_neg (Nat.ne_of_lt ha')]
  rw [h1]
  show _ + ([hl_n w].map (fun a => (if a = hl_n w then (t, n) else hl_k w a).2)).sum = _
  simp
