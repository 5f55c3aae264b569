/-! the machine does what the grammar says -/
def hx_xs (κ : Nat) : Bool := decide (34 ≤ κ) && decide (κ ≤ 37)
def hx_xe (κ : Nat) : Bool := hx_xs κ || (hx_k2 13 13 κ || hx_k2 12 12 κ)
def hx_LC (t : Nat → Nat) (L k : Nat) (u : Nat → Nat → Nat × Nat × List (Nat × Nat)) : Prop := (∀ b, hx_OC t L b (u 0) k) ∧ (∀ b, hx_XC t L b (u 1) 5 5 hx_xs false k) ∧ (∀ b, hx_XC t L b (u 2) 4 3 hx_xs true k) ∧ (∀ b, hx_XC t L b (u 3) 1 1 hx_xe true k) ∧ ∀ tag p, p ≤ L → hx_gd L p (u tag p)
section HXMACH2
variable {t : Nat → Nat} {L : Nat} {b : Bool} {X : Nat → Nat × Nat × List (Nat × Nat)} {up : Option (Nat → Nat → Nat × Nat × List (Nat × Nat))} {k : Nat}
theorem hx_XC_ex {rb rd : Nat} {ex ex' : Nat → Bool} {as : Bool} (h : hx_XC t L b X rb rd ex as k) (he : ∀ κ, ex κ = false → ex' κ = false) : hx_XC t L b X rb rd ex' as k := by
  intro p B C hp hB hk c1 c2
  obtain ⟨x0, x1⟩ := h p B C hp hB hk c1 c2
  refine ⟨fun z => ?_, x1⟩
  obtain ⟨D, C1, a1, a2, a3, a4, a5⟩ := x0 z
  exact ⟨D, C1, a1, a2, a3, he _ a4, a5⟩
theorem hx_k2_e {a c κ : Nat} (h : hx_k2 a c κ = true) : κ = a ∨ κ = c := by
  unfold hx_k2 at h
  rw [Bool.or_eq_true, decide_eq_true_eq, decide_eq_true_eq] at h
  exact h
theorem hx_k2_n {a c κ : Nat} (h : hx_k2 a c κ = false) : κ ≠ a ∧ κ ≠ c := by
  unfold hx_k2 at h
  rw [Bool.or_eq_false_iff, decide_eq_false_iff_not, decide_eq_false_iff_not] at h
  exact h
theorem hx_xs_n {κ : Nat} (h : hx_xs κ = false) : ¬ (34 ≤ κ ∧ κ ≤ 37) := fun ⟨x, y⟩ => by
  unfold hx_xs at h
  rw [decide_eq_true x, decide_eq_true y] at h
  exact absurd h (by decide)
theorem hx_xs_i {κ : Nat} (h : ¬ (34 ≤ κ ∧ κ ≤ 37)) : hx_xs κ = false := by
  unfold hx_xs
  by_cases y : 34 ≤ κ
  · rw [decide_eq_false (fun x => h ⟨y, x⟩), Bool.and_false]
  · rw [decide_eq_false y, Bool.false_and]
theorem hx_rk_m {m : Nat} (h : 40 ≤ m) : hx_rk m = 0 := if_pos h
theorem hx_fin_f {f : Nat} {s s1 : Nat × List Nat × List (Nat × Nat) × Bool} (h : hx_ms t L b s = (f, s1)) (hf : f ≠ 10) : hx_fin t L b s = f := by
  unfold hx_fin
  rw [h]
  exact if_neg hf
theorem hx_bt_n {P : List Nat} {κ : Nat} (hx : hx_xs κ = false) (h : hx_ko b P ≠ 41 ∨ (hx_cd P = true ∧ κ ≠ 12 ∧ κ ≠ 13) ∨ (hx_cd P = false ∧ hx_cm κ = false)) : hx_bt b P κ = none := by
  unfold hx_bt
  rw [if_neg (hx_xs_n hx)]
  by_cases z : hx_ko b P ≠ 41
  · rw [if_pos z]
  · rw [if_neg z]
    rcases h with h | ⟨h1, h2, h3⟩ | ⟨h1, h2⟩
    · exact absurd h z
    · rw [h1, if_neg (by decide), if_neg (fun x => x.elim h2 h3)]
    · rw [h1, if_pos rfl, h2, if_neg (by decide)]
theorem hx_beh_n {q : Nat} {P : List Nat} {C : List (Nat × Nat)} (h : hx_bt b P (hx_tk t L q).1 = none) (h1 : ¬ ((hx_tk t L q).1 = 39 ∧ hx_mh P = 40)) (h2 : ¬ ((hx_tk t L q).1 = 16 ∧ hx_mh P = 43)) (h3 : ¬ ((hx_tk t L q).1 = 41 ∧ hx_mh P = 41 ∧ hx_cd P = true)) (h4 : ¬ ((hx_tk t L q).1 = 42 ∧ hx_mh P = 42)) : hx_beh t L b q P C = (10, q, P, C, true) := by
  unfold hx_beh
  rw [h]
  show (if _ then _ else _) = _
  rw [if_neg h1, if_neg h2, if_neg h3, if_neg h4]
theorem hx_fin_m {q m : Nat} {D B : List Nat} {C : List (Nat × Nat)} (hD : ∀ d ∈ D, 1 ≤ hx_rk d) (hm : 40 ≤ m) (hx : hx_xs (hx_tk t L q).1 = false) (h41 : m = 41 → hx_cd (D ++ m :: B) = true ∧ (hx_tk t L q).1 ≠ 12 ∧ (hx_tk t L q).1 ≠ 13) (h1 : ¬ (m = 40 ∧ (hx_tk t L q).1 = 39)) (h2 : ¬ (m = 43 ∧ (hx_tk t L q).1 = 16)) (h3 : ¬ (m = 41 ∧ (hx_tk t L q).1 = 41)) (h4 : ¬ (m = 42 ∧ (hx_tk t L q).1 = 42)) : hx_fin t L b (q, D ++ m :: B, C, true) = 1 := by
  have mh : hx_mh (D ++ m :: B) = m := (hx_mh_app D hD).trans (hx_mh_c hm)
  have ko : hx_ko b (D ++ m :: B) = m := (hx_ko_app D hD).trans (hx_ko_c hm)
  have mk : hx_mk (D ++ m :: B) ≠ [] := by rw [hx_mk_app D hD, hx_mk_c hm]; exact List.cons_ne_nil m B
  have bt : hx_bt b (D ++ m :: B) (hx_tk t L q).1 = none := hx_bt_n hx (by
    rw [ko]
    by_cases z : m = 41
    · exact Or.inr (Or.inl (h41 z))
    · exact Or.inl z)
  have ms : hx_ms t L b (q, D ++ m :: B, C, true) = (10, q, D ++ m :: B, C, true) := by
    rw [hx_ms_t]
    exact hx_beh_n bt (by rw [mh]; exact fun x => h1 ⟨x.2, x.1⟩) (by rw [mh]; exact fun x => h2 ⟨x.2, x.1⟩) (by rw [mh]; exact fun x => h3 ⟨x.2.1, x.1⟩) (by rw [mh]; exact fun x => h4 ⟨x.2, x.1⟩)
  unfold hx_fin
  rw [ms, if_pos rfl, if_pos (Or.inl mk)]
theorem hx_cls {m : Nat} {D B : List Nat} {C : List (Nat × Nat)} (hD : ∀ d ∈ D, 1 ≤ hx_rk d) (hm : 40 ≤ m) : hx_stl 1 (D ++ m :: B) C = (m :: B, C ++ hx_fl D) := hx_stl_fl (hx_lw_c (by rw [hx_rk_m hm]; omega)) D C hD
/-- the four closings -/
theorem hx_cl39 {q : Nat} {D B : List Nat} {C : List (Nat × Nat)} (hD : ∀ d ∈ D, 1 ≤ hx_rk d) (z : (hx_tk t L q).1 = 39) : hx_ms t L b (q, D ++ 40 :: B, C, true) = (0, (hx_tk t L q).2.2.2, (hx_stl 7 B (C ++ hx_fl D)).1, (hx_stl 7 B (C ++ hx_fl D)).2, true) := by
  have mh : hx_mh (D ++ 40 :: B) = 40 := (hx_mh_app D hD).trans (hx_mh_c (by omega))
  have ko : hx_ko b (D ++ 40 :: B) = 40 := (hx_ko_app D hD).trans (hx_ko_c (by omega))
  have bt : hx_bt b (D ++ 40 :: B) (hx_tk t L q).1 = none := hx_bt_n (by rw [z]; rfl) (Or.inl (by rw [ko]; omega))
  rw [hx_ms_t]
  unfold hx_beh
  rw [bt]
  show (if _ then _ else _) = _
  rw [if_pos ⟨z, mh⟩, hx_cls hD (by omega)]
  rfl
theorem hx_cl16 {q : Nat} {D B : List Nat} {C : List (Nat × Nat)} (hD : ∀ d ∈ D, 1 ≤ hx_rk d) (z : (hx_tk t L q).1 = 16) : hx_ms t L b (q, D ++ 43 :: B, C, true) = (0, (hx_tk t L q).2.2.2, (hx_stl 7 B (C ++ hx_fl D ++ [(23, 0)])).1, (hx_stl 7 B (C ++ hx_fl D ++ [(23, 0)])).2, true) := by
  have mh : hx_mh (D ++ 43 :: B) = 43 := (hx_mh_app D hD).trans (hx_mh_c (by omega))
  have ko : hx_ko b (D ++ 43 :: B) = 43 := (hx_ko_app D hD).trans (hx_ko_c (by omega))
  have bt : hx_bt b (D ++ 43 :: B) (hx_tk t L q).1 = none := hx_bt_n (by rw [z]; rfl) (Or.inl (by rw [ko]; omega))
  rw [hx_ms_t]
  unfold hx_beh
  rw [bt]
  show (if _ then _ else _) = _
  rw [if_neg (fun x => by rw [z] at x; exact absurd x.1 (by decide)), if_pos ⟨z, mh⟩, hx_cls hD (by omega)]
  rfl
theorem hx_cl41 {q : Nat} {D B : List Nat} {C : List (Nat × Nat)} (hD : ∀ d ∈ D, 1 ≤ hx_rk d) (z : (hx_tk t L q).1 = 41) (hc : hx_cd (D ++ 41 :: B) = true) : hx_ms t L b (q, D ++ 41 :: B, C, true) = (0, (hx_tk t L q).2.2.2, 42 :: B, C ++ hx_fl D, false) := by
  have mh : hx_mh (D ++ 41 :: B) = 41 := (hx_mh_app D hD).trans (hx_mh_c (by omega))
  have bt : hx_bt b (D ++ 41 :: B) (hx_tk t L q).1 = none := hx_bt_n (by rw [z]; rfl) (Or.inr (Or.inl ⟨hc, by rw [z]; omega, by rw [z]; omega⟩))
  rw [hx_ms_t]
  unfold hx_beh
  rw [bt]
  show (if _ then _ else _) = _
  rw [if_neg (fun x => by rw [z] at x; exact absurd x.1 (by decide)), if_neg (fun x => by rw [z] at x; exact absurd x.1 (by decide)), if_pos ⟨z, mh, hc⟩, hx_cls hD (by omega)]
  rfl
theorem hx_cl42 {q : Nat} {D B : List Nat} {C : List (Nat × Nat)} (hD : ∀ d ∈ D, 1 ≤ hx_rk d) (z : (hx_tk t L q).1 = 42) : hx_ms t L b (q, D ++ 42 :: B, C, true) = (0, (hx_tk t L q).2.2.2, 43 :: B, C ++ hx_fl D, false) := by
  have mh : hx_mh (D ++ 42 :: B) = 42 := (hx_mh_app D hD).trans (hx_mh_c (by omega))
  have ko : hx_ko b (D ++ 42 :: B) = 42 := (hx_ko_app D hD).trans (hx_ko_c (by omega))
  have bt : hx_bt b (D ++ 42 :: B) (hx_tk t L q).1 = none := hx_bt_n (by rw [z]; rfl) (Or.inl (by rw [ko]; omega))
  rw [hx_ms_t]
  unfold hx_beh
  rw [bt]
  show (if _ then _ else _) = _
  rw [if_neg (fun x => by rw [z] at x; exact absurd x.1 (by decide)), if_neg (fun x => by rw [z] at x; exact absurd x.1 (by decide)), if_neg (fun x => by rw [z] at x; exact absurd x.1 (by decide)), if_pos ⟨z, mh⟩, hx_cls hD (by omega)]
  rfl
theorem hx_bgn_o {p : Nat} {P : List Nat} {C : List (Nat × Nat)} (z3 : (hx_tk t L p).1 = 38 ∨ (hx_tk t L p).1 = 35 ∨ (hx_tk t L p).1 = 15) : hx_ms t L b (p, P, C, false) = if hx_opP P = 8 then (3, p, P, C, false) else (0, (hx_tk t L p).2.2.2, (if (hx_tk t L p).1 = 38 then 40 else if (hx_tk t L p).1 = 35 then 2 else 41) :: P, C, false) := by
  rw [hx_ms_f]
  unfold hx_bgn
  rcases z3 with z | z | z
  · rw [z, if_neg (by decide), if_neg (by decide), if_pos rfl, if_pos rfl]
  · rw [z, if_neg (by decide), if_neg (by decide), if_neg (by decide), if_pos rfl]
    rfl
  · rw [z, if_neg (by decide), if_neg (by decide), if_neg (by decide), if_neg (by decide), if_pos rfl]
    rfl
/-- an opened one; after its token -/
theorem hx_OC_opn {u : Nat → Nat → Nat × Nat × List (Nat × Nat)} {κ e : Nat} {B : List Nat} {C : List (Nat × Nat)} (hu : hx_LC t L k u) (z3 : κ = 38 ∨ κ = 35 ∨ κ = 15) (he : e ≤ L) (hk : hx_opP B + (k + 1) = 8) :
    ((hx_opn t L u κ e).1 = 0 → hx_go t L b (e, (if κ = 38 then 40 else if κ = 35 then 2 else 41) :: B, C, false) ((hx_opn t L u κ e).2.1, (hx_stl 7 B (C ++ (hx_opn t L u κ e).2.2)).1, (hx_stl 7 B (C ++ (hx_opn t L u κ e).2.2)).2, true)) ∧
    ((hx_opn t L u κ e).1 ≠ 0 → ∃ s', hx_go t L b (e, (if κ = 38 then 40 else if κ = 35 then 2 else 41) :: B, C, false) s' ∧ hx_fin t L b s' = (hx_opn t L u κ e).1 ∧ (hx_tk t L s'.1).2.2.1 = (hx_opn t L u κ e).2.1) := by
  have one5 : ∀ D : List Nat, (∀ d ∈ D, 5 ≤ hx_rk d) → ∀ d ∈ D, 1 ≤ hx_rk d := fun D h d hd => by have := h d hd; omega
  rcases z3 with z | z | z
  · subst z
    have ho : hx_opn t L u 38 e = hx_ths (u 1 e) (fun q C => hx_exp t L 39 q C) := if_pos rfl
    rw [ho, if_pos rfl]
    obtain ⟨y0, y1⟩ := hu.2.1 b e (40 :: B) C he (hx_lw_c (by decide)) (by show 1 + hx_opP B + k = 8; omega) (fun _ => Or.inr (hx_aa_m (by omega) (by omega))) (fun y => absurd y Bool.false_ne_true)
    generalize u 1 e = r at y0 y1 ⊢
    by_cases w : r.1 = 0
    · obtain ⟨D, C1, go, hC, hD, hx, -⟩ := y0 w
      rw [hx_ths_0 w]
      by_cases w2 : (hx_tk t L r.2.1).1 = 39
      · rw [hx_exp_y w2]
        refine ⟨fun _ => ?_, fun x => absurd rfl x⟩
        have st := hx_cl39 (b := b) (B := B) (C := C1) (one5 D hD) w2
        rw [hC] at st
        exact hx_go_tr go (hx_go_1 st)
      · rw [hx_exp_n w2]
        refine ⟨fun x => absurd x (by show (1 : Nat) ≠ 0; omega), fun _ => ⟨_, go, ?_, rfl⟩⟩
        exact hx_fin_m (one5 D hD) (by omega) hx (fun x => by omega) (fun x => w2 x.2) (fun x => by omega) (fun x => by omega) (fun x => by omega)
    · rw [hx_ths_n w]
      exact ⟨fun x => absurd x w, y1⟩
  · subst z
    have ho : hx_opn t L u 35 e = hx_ths (u 0 e) (fun q C => (0, q, C ++ [(2, 0)])) := (if_neg (by decide)).trans (if_pos rfl)
    rw [ho, if_neg (by decide), if_pos rfl]
    obtain ⟨y0, y1⟩ := hu.1 b e (2 :: B) C he (by show 1 + hx_opP B + k = 8; omega) (Or.inr (hx_aa_h (by decide)))
    generalize u 0 e = r at y0 y1 ⊢
    by_cases w : r.1 = 0
    · rw [hx_ths_0 w]
      refine ⟨fun _ => ?_, fun x => absurd rfl x⟩
      have go := y0 w
      have es : hx_stl 7 (2 :: B) (C ++ r.2.2) = hx_stl 7 B (C ++ (r.2.2 ++ [(2, 0)])) := by
        show (if 7 ≤ hx_rk 2 then hx_stl 7 B (C ++ r.2.2 ++ [(2, 0)]) else _) = _
        rw [if_pos (by decide), List.append_assoc]
      rw [es] at go
      exact go
    · rw [hx_ths_n w]
      exact ⟨fun x => absurd x w, y1⟩
  · subst z
    have ho : hx_opn t L u 15 e = hx_cho t L u e := (if_neg (by decide)).trans (if_neg (by decide))
    rw [ho, if_neg (by decide), if_neg (by decide)]
    unfold hx_cho
    obtain ⟨y0, y1⟩ := hu.2.2.2.1 b e (41 :: B) C he (hx_lw_c (by decide)) (by show 1 + hx_opP B + k = 8; omega) (fun y => absurd y.symm Bool.false_ne_true) (fun _ => hx_aa_41)
    have g1 := hu.2.2.2.2 3 e he
    generalize u 3 e = r at y0 y1 g1 ⊢
    by_cases w : r.1 = 0
    · obtain ⟨D, C1, go, hC, hD, hx, hc⟩ := y0 w
      obtain ⟨g1a, g1b, -⟩ := g1.1 w
      rw [hx_ths_0 w]
      have hx' : hx_xs (hx_tk t L r.2.1).1 = false := (Bool.or_eq_false_iff.mp hx).1
      have hx2 := Bool.or_eq_false_iff.mp (Bool.or_eq_false_iff.mp hx).2
      by_cases w2 : (hx_tk t L r.2.1).1 = 41
      · rw [hx_exp_y w2, hx_ths_0 rfl]
        have st := hx_cl41 (b := b) (B := B) (C := C1) hD w2 (hc rfl)
        rw [hC] at st
        have go2 := hx_go_tr go (hx_go_1 st)
        have t2 := (hx_tk_in (t := t) g1b).2.2.1
        show (_ → _) ∧ _
        generalize (hx_tk t L r.2.1).2.2.2 = e2 at go2 t2 ⊢
        show ((hx_ths (u 1 e2) _).1 = 0 → _) ∧ _
        obtain ⟨x0, x1⟩ := hu.2.1 b e2 (42 :: B) (C ++ r.2.2) t2 (hx_lw_c (by decide)) (by show 1 + hx_opP B + k = 8; omega) (fun _ => Or.inr (hx_aa_m (by omega) (by omega))) (fun y => absurd y Bool.false_ne_true)
        have g2 := hu.2.2.2.2 1 e2 t2
        generalize u 1 e2 = r2 at x0 x1 g2 ⊢
        by_cases v : r2.1 = 0
        · obtain ⟨D2, C2, go3, hC2, hD2, hx2, -⟩ := x0 v
          obtain ⟨g2a, g2b, -⟩ := g2.1 v
          rw [hx_ths_0 v]
          by_cases v2 : (hx_tk t L r2.2.1).1 = 42
          · rw [hx_exp_y v2, hx_ths_0 rfl]
            have st := hx_cl42 (b := b) (B := B) (C := C2) (one5 D2 hD2) v2
            rw [hC2] at st
            have go4 := hx_go_tr go2 (hx_go_tr go3 (hx_go_1 st))
            have t4 := (hx_tk_in (t := t) g2b).2.2.1
            show (_ → _) ∧ _
            generalize (hx_tk t L r2.2.1).2.2.2 = e4 at go4 t4 ⊢
            show ((hx_ths (u 1 e4) _).1 = 0 → _) ∧ _
            obtain ⟨v0, v1⟩ := hu.2.1 b e4 (43 :: B) (C ++ r.2.2 ++ r2.2.2) t4 (hx_lw_c (by decide)) (by show 1 + hx_opP B + k = 8; omega) (fun _ => Or.inr (hx_aa_m (by omega) (by omega))) (fun y => absurd y Bool.false_ne_true)
            generalize u 1 e4 = r3 at v0 v1 ⊢
            by_cases u1 : r3.1 = 0
            · obtain ⟨D3, C3, go5, hC3, hD3, hx3, -⟩ := v0 u1
              rw [hx_ths_0 u1]
              by_cases u2 : (hx_tk t L r3.2.1).1 = 16
              · rw [hx_exp_y u2, hx_ths_0 rfl]
                refine ⟨fun _ => ?_, fun x => absurd rfl x⟩
                have st := hx_cl16 (b := b) (B := B) (C := C3) (one5 D3 hD3) u2
                rw [hC3, show C ++ r.2.2 ++ r2.2.2 ++ r3.2.2 ++ [(23, 0)] = C ++ (r.2.2 ++ r2.2.2 ++ r3.2.2 ++ [(23, 0)]) by simp only [List.append_assoc]] at st
                exact hx_go_tr go4 (hx_go_tr go5 (hx_go_1 st))
              · rw [hx_exp_n u2, hx_ths_n (by show (1 : Nat) ≠ 0; omega)]
                refine ⟨fun x => absurd x (by show (1 : Nat) ≠ 0; omega), fun _ => ⟨_, hx_go_tr go4 go5, ?_, rfl⟩⟩
                exact hx_fin_m (one5 D3 hD3) (by omega) hx3 (fun x => by omega) (fun x => by omega) (fun x => u2 x.2) (fun x => by omega) (fun x => by omega)
            · rw [hx_ths_n u1]
              obtain ⟨s', a1, a2, a3⟩ := v1 u1
              exact ⟨fun x => absurd x u1, fun _ => ⟨s', hx_go_tr go4 a1, a2, a3⟩⟩
          · rw [hx_exp_n v2, hx_ths_n (by show (1 : Nat) ≠ 0; omega)]
            refine ⟨fun x => absurd x (by show (1 : Nat) ≠ 0; omega), fun _ => ⟨_, hx_go_tr go2 go3, ?_, rfl⟩⟩
            exact hx_fin_m (one5 D2 hD2) (by omega) hx2 (fun x => by omega) (fun x => by omega) (fun x => by omega) (fun x => by omega) (fun x => v2 x.2)
        · rw [hx_ths_n v]
          obtain ⟨s', a1, a2, a3⟩ := x1 v
          exact ⟨fun x => absurd x v, fun _ => ⟨s', hx_go_tr go2 a1, a2, a3⟩⟩
      · rw [hx_exp_n w2, hx_ths_n (by show (1 : Nat) ≠ 0; omega)]
        refine ⟨fun x => absurd x (by show (1 : Nat) ≠ 0; omega), fun _ => ⟨_, go, ?_, rfl⟩⟩
        exact hx_fin_m hD (by omega) hx' (fun _ => ⟨hc rfl, (hx_k2_n hx2.2).1, (hx_k2_n hx2.1).1⟩) (fun x => by omega) (fun x => by omega) (fun x => w2 x.2) (fun x => by omega)
    · rw [hx_ths_n w]
      exact ⟨fun x => absurd x w, y1⟩
end HXMACH2
