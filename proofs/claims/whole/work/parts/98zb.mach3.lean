/-! the machine does what the grammar says: one, ask, levels -/
section HXMACH3
variable {t : Nat → Nat} {L : Nat} {b : Bool} {X : Nat → Nat × Nat × List (Nat × Nat)} {up : Option (Nat → Nat → Nat × Nat × List (Nat × Nat))} {k : Nat}
theorem hx_go_f {f p : Nat} {B : List Nat} {C : List (Nat × Nat)} {s1 : Nat × List Nat × List (Nat × Nat) × Bool} (h : hx_ms t L b (p, B, C, false) = (f, s1)) (hf : f ≠ 10) : ∃ s', hx_go t L b (p, B, C, false) s' ∧ hx_fin t L b s' = f ∧ (hx_tk t L s'.1).2.2.1 = (hx_tk t L p).2.2.1 := ⟨_, hx_go_rf _, hx_fin_f h hf, rfl⟩
theorem hx_OC_one (hU : (up = none ∧ k = 0) ∨ ∃ u k', up = some u ∧ k = k' + 1 ∧ hx_LC t L k' u) : hx_OC t L b (hx_one t L up) k := by
  intro p B C hp hk c1
  obtain ⟨ta, tb, tc, td, -⟩ := hx_tk_in (t := t) hp
  by_cases z1 : (hx_tk t L p).1 = 20
  · by_cases z2 : 9999 < (hx_tk t L p).2.1
    · have e : hx_one t L up p = (2, (hx_tk t L p).2.2.1, []) := by unfold hx_one; rw [if_pos z1, if_pos z2]
      have m : hx_ms t L b (p, B, C, false) = (2, p, B, C, false) := by rw [hx_ms_f]; unfold hx_bgn; rw [if_pos z1, if_pos z2]
      rw [e]
      exact ⟨fun x => absurd x (by show (2 : Nat) ≠ 0; omega), fun _ => hx_go_f m (by omega)⟩
    · have e : hx_one t L up p = (0, (hx_tk t L p).2.2.2, [(0, (hx_tk t L p).2.1)]) := by unfold hx_one; rw [if_pos z1, if_neg z2]
      rw [e]
      refine ⟨fun _ => hx_go_1 ?_, fun x => absurd rfl x⟩
      rw [hx_ms_f]; unfold hx_bgn; rw [if_pos z1, if_neg z2]
  · by_cases z2 : 3 ≤ (hx_tk t L p).1 ∧ (hx_tk t L p).1 ≤ 11
    · have e : hx_one t L up p = (0, (hx_tk t L p).2.2.2, [(1, (hx_tk t L p).1 - 3)]) := by unfold hx_one; rw [if_neg z1, if_pos z2]
      rw [e]
      refine ⟨fun _ => hx_go_1 ?_, fun x => absurd rfl x⟩
      rw [hx_ms_f]; unfold hx_bgn; rw [if_neg z1, if_pos z2]
    · by_cases z3 : (hx_tk t L p).1 = 38 ∨ (hx_tk t L p).1 = 35 ∨ (hx_tk t L p).1 = 15
      · have mo := hx_bgn_o (b := b) (P := B) (C := C) z3
        rcases hU with ⟨rfl, rfl⟩ | ⟨u, k', rfl, rfl, hu⟩
        · have e : hx_one t L none p = (3, (hx_tk t L p).2.2.1, []) := by unfold hx_one; rw [if_neg z1, if_neg z2, if_neg (fun x => x z3)]
          rw [if_pos (show hx_opP B = 8 by omega)] at mo
          rw [e]
          exact ⟨fun x => absurd x (by show (3 : Nat) ≠ 0; omega), fun _ => hx_go_f mo (by omega)⟩
        · have e : hx_one t L (some u) p = hx_opn t L u (hx_tk t L p).1 (hx_tk t L p).2.2.2 := by unfold hx_one; rw [if_neg z1, if_neg z2, if_neg (fun x => x z3)]
          rw [if_neg (show ¬ hx_opP B = 8 by omega)] at mo
          rw [e]
          obtain ⟨a0, a1⟩ := hx_OC_opn (b := b) (C := C) hu z3 tc hk
          refine ⟨fun x => hx_go_tr (hx_go_1 mo) (a0 x), fun x => ?_⟩
          obtain ⟨s', g1, g2, g3⟩ := a1 x
          exact ⟨s', hx_go_tr (hx_go_1 mo) g1, g2, g3⟩
      · have e : hx_one t L up p = (1, (hx_tk t L p).2.2.1, []) := by unfold hx_one; rw [if_neg z1, if_neg z2, if_pos z3]
        have m : hx_ms t L b (p, B, C, false) = (1, p, B, C, false) := by
          rw [hx_ms_f]
          unfold hx_bgn
          rw [if_neg z1, if_neg z2, if_neg (fun x => z3 (Or.inl x)), if_neg (fun x => z3 (Or.inr (Or.inl x))), if_neg (fun x => z3 (Or.inr (Or.inr x))), if_neg (fun x => c1.elim (fun y => y x.1) (fun y => by rw [y] at x; exact Bool.false_ne_true x.2))]
        rw [e]
        exact ⟨fun x => absurd x (by show (1 : Nat) ≠ 0; omega), fun _ => hx_go_f m (by omega)⟩
theorem hx_cm_rk {κ : Nat} (h : hx_cm κ = true) : hx_rk (hx_op κ) = 4 ∧ hx_isO (hx_op κ) = 0 ∧ hx_xs κ = false := by
  have k6 : κ = 30 ∨ κ = 31 ∨ κ = 32 ∨ κ = 33 ∨ κ = 43 ∨ κ = 44 := by
    unfold hx_cm at h
    rw [Bool.or_eq_true, Bool.and_eq_true, Bool.and_eq_true, decide_eq_true_eq, decide_eq_true_eq, decide_eq_true_eq, decide_eq_true_eq] at h
    omega
  rcases k6 with rfl | rfl | rfl | rfl | rfl | rfl <;> exact ⟨rfl, rfl, rfl⟩
theorem hx_XC_ask (hU : (up = none ∧ k = 0) ∨ ∃ u k', up = some u ∧ k = k' + 1 ∧ hx_LC t L k' u) (hS : hx_XC t L b (hx_sum2 t L up) 5 5 hx_xs false k) (hg : ∀ p, p ≤ L → hx_gd L p (hx_sum2 t L up p)) : hx_XC t L b (hx_ask t L up) 4 3 hx_xs true k := by
  intro p B C hp hB hk _ c2
  obtain ⟨ta, tb, tc, td, -⟩ := hx_tk_in (t := t) hp
  have aa := c2 rfl
  have ko := hx_aa_ko aa
  obtain ⟨-, cdB⟩ := hx_aa_lw aa
  by_cases z1 : (hx_tk t L p).1 = 14
  · have mo : hx_ms t L b (p, B, C, false) = if hx_opP B = 8 then (3, p, B, C, false) else (0, (hx_tk t L p).2.2.2, 20 :: B, C, false) := by
      rw [hx_ms_f]
      unfold hx_bgn
      rw [if_neg (show ¬ (hx_tk t L p).1 = 20 by omega), if_neg (show ¬ (3 ≤ (hx_tk t L p).1 ∧ (hx_tk t L p).1 ≤ 11) by omega), if_neg (show ¬ (hx_tk t L p).1 = 38 by omega), if_neg (show ¬ (hx_tk t L p).1 = 35 by omega), if_neg (show ¬ (hx_tk t L p).1 = 15 by omega), if_pos ⟨z1, aa⟩]
    rcases hU with ⟨rfl, rfl⟩ | ⟨u, k', rfl, rfl, hu⟩
    · have e : hx_ask t L none p = (3, (hx_tk t L p).2.2.1, []) := by unfold hx_ask; rw [if_pos z1]
      rw [if_pos (show hx_opP B = 8 by omega)] at mo
      rw [e]
      exact ⟨fun x => absurd x (by show (3 : Nat) ≠ 0; omega), fun _ => hx_go_f mo (by omega)⟩
    · have e : hx_ask t L (some u) p = hx_ths (u 2 (hx_tk t L p).2.2.2) (fun q C => (0, q, C ++ [(20, 0)])) := if_pos z1
      rw [if_neg (show ¬ hx_opP B = 8 by omega)] at mo
      rw [e]
      obtain ⟨y0, y1⟩ := hu.2.2.1 b (hx_tk t L p).2.2.2 (20 :: B) C tc (hx_lw_c (by decide)) (by show 1 + hx_opP B + k' = 8; omega) (fun y => absurd y.symm Bool.false_ne_true) (fun _ => hx_aa_c ko (by decide) (by decide))
      generalize u 2 (hx_tk t L p).2.2.2 = r at y0 y1 ⊢
      by_cases w : r.1 = 0
      · obtain ⟨D, C1, go, hC, hD, hx, hc⟩ := y0 w
        rw [hx_ths_0 w]
        refine ⟨fun _ => ⟨D ++ [20], C1, ?_, ?_, fun d hd => ?_, hx, fun _ => ?_⟩, fun x => absurd rfl x⟩
        · rw [List.append_assoc]; exact hx_go_tr (hx_go_1 mo) go
        · rw [hx_fl_app, ← List.append_assoc, hC, List.append_assoc]; rfl
        · rcases List.mem_append.mp hd with hd | hd
          · exact hD d hd
          · rw [List.mem_singleton.mp hd]; decide
        · rw [List.append_assoc]; exact hc rfl
      · rw [hx_ths_n w]
        obtain ⟨s', a1, a2, a3⟩ := y1 w
        exact ⟨fun x => absurd x w, fun _ => ⟨s', hx_go_tr (hx_go_1 mo) a1, a2, a3⟩⟩
  · have e : hx_ask t L up p = _ := if_neg z1
    rw [e]
    obtain ⟨y0, y1⟩ := hS p B C hp (hx_lw_m hB (by omega)) hk (fun _ => Or.inl z1) (fun y => absurd y Bool.false_ne_true)
    have g := hg p hp
    generalize hx_sum2 t L up p = r at y0 y1 g ⊢
    by_cases w : r.1 = 0
    · obtain ⟨D, C1, go, hC, hD, hx, -⟩ := y0 w
      obtain ⟨g1, g2, -⟩ := g.1 w
      rw [hx_ths_0 w]
      have hD1 : ∀ d ∈ D, 1 ≤ hx_rk d := fun d hd => by have := hD d hd; omega
      have ko' : hx_ko b (D ++ B) = 41 := (hx_ko_app D hD1).trans ko
      have cd' : hx_cd (D ++ B) = false := (hx_cd_app D hD).trans cdB
      by_cases w2 : hx_cm (hx_tk t L r.2.1).1 = true
      · rw [if_pos w2]
        obtain ⟨r1, r2, r3⟩ := hx_cm_rk w2
        have bt : hx_bt b (D ++ B) (hx_tk t L r.2.1).1 = some (hx_op (hx_tk t L r.2.1).1) := by
          unfold hx_bt
          rw [if_neg (hx_xs_n r3), ko', if_neg (by omega), cd', if_pos rfl, if_pos w2]
        have st : hx_ms t L b (r.2.1, D ++ B, C1, true) = (0, (hx_tk t L r.2.1).2.2.2, hx_op (hx_tk t L r.2.1).1 :: B, C ++ r.2.2, false) := by
          rw [hx_ms_t, hx_beh_s bt, r1, hx_stl_fl hB D C1 (fun d hd => by have := hD d hd; omega), hC]
        have go2 := hx_go_tr go (hx_go_1 st)
        have t2 := (hx_tk_in (t := t) g2).2.2.1
        generalize hx_op (hx_tk t L r.2.1).1 = o at r1 r2 go2 ⊢
        generalize (hx_tk t L r.2.1).2.2.2 = e2 at go2 t2 ⊢
        obtain ⟨x0, x1⟩ := hS e2 (o :: B) (C ++ r.2.2) t2 (hx_lw_c (by omega)) (by show hx_isO o + hx_opP B + k = 8; omega) (fun _ => Or.inr (hx_aa_h (by omega))) (fun y => absurd y Bool.false_ne_true)
        generalize hx_sum2 t L up e2 = r' at x0 x1 ⊢
        by_cases v : r'.1 = 0
        · obtain ⟨D2, C2, go3, hC2, hD2, hx2, -⟩ := x0 v
          rw [hx_ths_0 v]
          refine ⟨fun _ => ⟨D2 ++ [o], C2, ?_, ?_, fun d hd => ?_, hx2, fun _ => ?_⟩, fun x => absurd rfl x⟩
          · rw [show D2 ++ [o] ++ B = D2 ++ o :: B by rw [List.append_assoc]; rfl]; exact hx_go_tr go2 go3
          · rw [hx_fl_app, ← List.append_assoc, hC2, List.append_assoc, List.append_assoc, List.append_assoc]; rfl
          · rcases List.mem_append.mp hd with hd | hd
            · have := hD2 d hd; omega
            · rw [List.mem_singleton.mp hd, r1]; omega
          · rw [List.append_assoc, hx_cd_app D2 hD2]; exact hx_cd_4 r1
        · rw [hx_ths_n v]
          obtain ⟨s', a1, a2, a3⟩ := x1 v
          exact ⟨fun x => absurd x v, fun _ => ⟨s', hx_go_tr go2 a1, a2, a3⟩⟩
      · rw [if_neg w2]
        refine ⟨fun x => absurd x (by show (1 : Nat) ≠ 0; omega), fun _ => ⟨_, go, ?_, rfl⟩⟩
        have bt : hx_bt b (D ++ B) (hx_tk t L r.2.1).1 = none := hx_bt_n hx (Or.inr (Or.inr ⟨cd', Bool.eq_false_iff.mpr w2⟩))
        have mh : hx_mk (D ++ B) ≠ [] → hx_mh (D ++ B) = 41 := fun x => by
          unfold hx_ko at ko'
          rw [if_neg x] at ko'
          exact ko'
        have mz : hx_mk (D ++ B) = [] → hx_mh (D ++ B) = 0 ∧ b = true := fun x => by
          unfold hx_ko at ko'
          rw [if_pos x] at ko'
          refine ⟨by unfold hx_mh; rw [x]; rfl, ?_⟩
          cases b with
          | true => rfl
          | false => exact absurd ko' (by decide)
        have m2 : hx_mh (D ++ B) = 41 ∨ hx_mh (D ++ B) = 0 := by
          by_cases x : hx_mk (D ++ B) = []
          · exact Or.inr (mz x).1
          · exact Or.inl (mh x)
        have ms : hx_ms t L b (r.2.1, D ++ B, C1, true) = (10, r.2.1, D ++ B, C1, true) := by
          rw [hx_ms_t]
          exact hx_beh_n bt (fun x => by have := x.2; omega) (fun x => by have := x.2; omega) (fun x => by rw [cd'] at x; exact Bool.false_ne_true x.2.2) (fun x => by have := x.2; omega)
        unfold hx_fin
        rw [ms, if_pos rfl]
        show (if hx_mk (D ++ B) ≠ [] ∨ (b = true ∧ hx_cd (D ++ B) = false) then 1 else 0) = 1
        by_cases x : hx_mk (D ++ B) = []
        · rw [if_pos (Or.inr ⟨(mz x).2, cd'⟩)]
        · rw [if_pos (Or.inl x)]
    · rw [hx_ths_n w]
      exact ⟨fun x => absurd x w, y1⟩
theorem hx_LC_s (hL : L ≤ 300) (hU : (up = none ∧ k = 0) ∨ ∃ u k', up = some u ∧ k = k' + 1 ∧ hx_LC t L k' u) : hx_LC t L k (hx_lv t L up) := by
  have hu : ∀ u, up = some u → ∀ tag p, p ≤ L → hx_gd L p (u tag p) := fun u e => by
    rcases hU with ⟨x, -⟩ | ⟨u', k', x, -, y⟩
    · rw [x] at e; cases e
    · rw [x] at e; cases e; exact y.2.2.2.2
  have l0 : hx_lv t L up 0 = hx_one t L up := funext fun p => if_pos rfl
  have l1 : hx_lv t L up 1 = hx_sum2 t L up := funext fun p => (if_neg (by decide)).trans (if_pos rfl)
  have l2 : hx_lv t L up 2 = hx_ask t L up := funext fun p => (if_neg (by decide)).trans ((if_neg (by decide)).trans (if_pos rfl))
  have l3 : hx_lv t L up 3 = hx_eit t L up := funext fun p => (if_neg (by decide)).trans ((if_neg (by decide)).trans (if_neg (by decide)))
  have g1 := fun p hp => hx_gd_one (t := t) (L := L) hu (p := p) hp
  have g2 := fun p hp => hx_gd_rep (t := t) (L := L) (a := 36) (b := 37) (by omega) (by omega) g1 (p := p) hp
  have g3 := fun p hp => hx_gd_sum2 (t := t) (L := L) hu (p := p) hp
  have g4 := fun p hp => hx_gd_ask (t := t) (L := L) hu (p := p) hp
  have g5 := fun p hp => hx_gd_rep (t := t) (L := L) (a := 13) (b := 13) (by omega) (by omega) g4 (p := p) hp
  have o1 : ∀ b, hx_OC t L b (hx_one t L up) k := fun b => hx_OC_one hU
  have pr : ∀ b, hx_XC t L b (hx_rep t L 36 37 (hx_one t L up)) 6 6 (fun κ => (fun _ => false) κ || hx_k2 36 37 κ) false k := fun b => hx_XC_rep (a := 36) (c := 37) (ρ := 6) hL (hx_OC_XC (o1 b)) g1 (by omega) (by omega) (by omega)
    (fun κ h => by rcases hx_k2_e h with rfl | rfl <;> exact ⟨rfl, rfl, by omega⟩)
    (fun κ D B h _ _ => by rcases hx_k2_e h with rfl | rfl <;> rfl)
    (fun κ B h _ => by rcases hx_k2_e h with rfl | rfl <;> exact hx_aa_h (by decide))
  have su : ∀ b, hx_XC t L b (hx_sum2 t L up) 5 5 hx_xs false k := fun b => hx_XC_ex (hx_XC_rep (a := 34) (c := 35) (ρ := 5) hL (pr b) g2 (by omega) (by omega) (by omega)
    (fun κ h => by rcases hx_k2_e h with rfl | rfl <;> exact ⟨rfl, rfl, by omega⟩)
    (fun κ D B h _ _ => by rcases hx_k2_e h with rfl | rfl <;> rfl)
    (fun κ B h _ => by rcases hx_k2_e h with rfl | rfl <;> exact hx_aa_h (by decide))) (fun κ h => by
      obtain ⟨h1, h2⟩ := Bool.or_eq_false_iff.mp h
      obtain ⟨-, h3⟩ := Bool.or_eq_false_iff.mp h1
      have := hx_k2_n h2
      have := hx_k2_n h3
      exact hx_xs_i (by omega))
  have ak : ∀ b, hx_XC t L b (hx_ask t L up) 4 3 hx_xs true k := fun b => hx_XC_ask hU (su b) g3
  have bo : ∀ b, hx_XC t L b (hx_rep t L 13 13 (hx_ask t L up)) 2 2 (fun κ => hx_xs κ || hx_k2 13 13 κ) true k := fun b => hx_XC_rep (a := 13) (c := 13) (ρ := 2) hL (ak b) g4 (by omega) (by omega) (by omega)
    (fun κ h => by rcases hx_k2_e h with rfl | rfl <;> exact ⟨rfl, rfl, by omega⟩)
    (fun κ D B h hD hc => by
      obtain ⟨c1, c2⟩ := hc rfl
      have e : κ = 13 := by rcases hx_k2_e h with e | e <;> exact e
      subst e
      unfold hx_bt
      rw [if_neg (by decide), hx_ko_app D hD, c2, if_neg (by decide), c1, if_neg (by decide), if_pos (Or.inr rfl)])
    (fun κ B h hc => by
      have e : κ = 13 := by rcases hx_k2_e h with e | e <;> exact e
      subst e
      exact hx_aa_c (hc rfl) (by decide) (by decide))
  have ei : ∀ b, hx_XC t L b (hx_eit t L up) 1 1 hx_xe true k := fun b => hx_XC_ex (hx_XC_rep (a := 12) (c := 12) (ρ := 1) hL (bo b) g5 (by omega) (by omega) (by omega)
    (fun κ h => by rcases hx_k2_e h with rfl | rfl <;> exact ⟨rfl, rfl, by omega⟩)
    (fun κ D B h hD hc => by
      obtain ⟨c1, c2⟩ := hc rfl
      have e : κ = 12 := by rcases hx_k2_e h with e | e <;> exact e
      subst e
      unfold hx_bt
      rw [if_neg (by decide), hx_ko_app D hD, c2, if_neg (by decide), c1, if_neg (by decide), if_pos (Or.inl rfl)])
    (fun κ B h hc => by
      have e : κ = 12 := by rcases hx_k2_e h with e | e <;> exact e
      subst e
      exact hx_aa_c (hc rfl) (by decide) (by decide))) (fun κ h => by
      obtain ⟨h1, h2⟩ := Bool.or_eq_false_iff.mp h
      obtain ⟨h3, h4⟩ := Bool.or_eq_false_iff.mp h1
      unfold hx_xe
      rw [h3, h4, h2]; rfl)
  exact ⟨fun b => by rw [l0]; exact o1 b, fun b => by rw [l1]; exact su b, fun b => by rw [l2]; exact ak b, fun b => by rw [l3]; exact ei b, hx_gd_lv hu⟩
theorem hx_LC_k (hL : L ≤ 300) (k : Nat) : hx_LC t L k (hx_rd t L k) := by
  induction k with
  | zero => exact hx_LC_s hL (Or.inl ⟨rfl, rfl⟩)
  | succ k ih => exact hx_LC_s hL (Or.inr ⟨hx_rd t L k, k, rfl, rfl, ih⟩)
/-- a clause's own part -/
theorem hx_top {p : Nat} {C : List (Nat × Nat)} (hL : L ≤ 300) (hp : p ≤ L) :
    ((hx_rd t L 8 (if b = true then 3 else 1) p).1 = 0 → ∃ D C1, hx_go t L b (p, [], C, false) ((hx_rd t L 8 (if b = true then 3 else 1) p).2.1, D, C1, true) ∧ hx_stl 1 D C1 = ([], C ++ (hx_rd t L 8 (if b = true then 3 else 1) p).2.2) ∧ (hx_ms t L b ((hx_rd t L 8 (if b = true then 3 else 1) p).2.1, D, C1, true)).1 = 10 ∧ hx_fin t L b ((hx_rd t L 8 (if b = true then 3 else 1) p).2.1, D, C1, true) = 0) ∧
    ((hx_rd t L 8 (if b = true then 3 else 1) p).1 ≠ 0 → ∃ s', hx_go t L b (p, [], C, false) s' ∧ hx_fin t L b s' = (hx_rd t L 8 (if b = true then 3 else 1) p).1 ∧ (hx_tk t L s'.1).2.2.1 = (hx_rd t L 8 (if b = true then 3 else 1) p).2.1) := by
  have lc := hx_LC_k (t := t) hL 8
  have lw : ∀ r, hx_lw r [] := fun r k P e => by cases e
  have fin : ∀ (q : Nat) (D : List Nat) (C1 : List (Nat × Nat)), (∀ d ∈ D, 1 ≤ hx_rk d) → hx_xs (hx_tk t L q).1 = false → (b = true → hx_cd D = true ∧ (hx_tk t L q).1 ≠ 12 ∧ (hx_tk t L q).1 ≠ 13) → (hx_ms t L b (q, D, C1, true)).1 = 10 ∧ hx_fin t L b (q, D, C1, true) = 0 := by
    intro q D C1 hD hx hc
    have mk : hx_mk D = [] := by have := hx_mk_app (B := []) D hD; rw [List.append_nil] at this; exact this
    have mh : hx_mh D = 0 := by unfold hx_mh; rw [mk]; rfl
    have bt : hx_bt b D (hx_tk t L q).1 = none := hx_bt_n hx (by
      unfold hx_ko
      rw [if_pos mk]
      cases b with
      | true => exact Or.inr (Or.inl (hc rfl))
      | false => exact Or.inl (by decide))
    have ms : hx_ms t L b (q, D, C1, true) = (10, q, D, C1, true) := by
      rw [hx_ms_t]
      exact hx_beh_n bt (by rw [mh]; omega) (by rw [mh]; omega) (by rw [mh]; exact fun x => by have := x.2.1; omega) (by rw [mh]; omega)
    refine ⟨by rw [ms], ?_⟩
    unfold hx_fin
    rw [ms, if_pos rfl]
    show (if hx_mk D ≠ [] ∨ (b = true ∧ hx_cd D = false) then 1 else 0) = 0
    rw [if_neg]
    rintro (x | ⟨x, y⟩)
    · exact x mk
    · rw [(hc x).1] at y; exact Bool.false_ne_true y.symm
  have flush : ∀ (D : List Nat) (C1 : List (Nat × Nat)), (∀ d ∈ D, 1 ≤ hx_rk d) → hx_stl 1 D C1 = ([], C1 ++ hx_fl D) := fun D C1 h => by
    have := hx_stl_fl (lw 1) D C1 h
    rw [List.append_nil] at this
    exact this
  cases b with
  | false =>
    show ((hx_rd t L 8 1 p).1 = 0 → _) ∧ ((hx_rd t L 8 1 p).1 ≠ 0 → _)
    obtain ⟨y0, y1⟩ := lc.2.1 false p [] C hp (lw 5) rfl (fun _ => Or.inr rfl) (fun y => absurd y Bool.false_ne_true)
    refine ⟨fun z => ?_, y1⟩
    obtain ⟨D, C1, go, hC, hD, hx, -⟩ := y0 z
    rw [List.append_nil] at go
    have hD1 : ∀ d ∈ D, 1 ≤ hx_rk d := fun d hd => by have := hD d hd; omega
    obtain ⟨f1, f2⟩ := fin _ D C1 hD1 hx (fun y => absurd y Bool.false_ne_true)
    exact ⟨D, C1, go, by rw [flush D C1 hD1, hC]; rfl, f1, f2⟩
  | true =>
    show ((hx_rd t L 8 3 p).1 = 0 → _) ∧ ((hx_rd t L 8 3 p).1 ≠ 0 → _)
    obtain ⟨y0, y1⟩ := lc.2.2.2.1 true p [] C hp (lw 1) rfl (fun y => absurd y.symm Bool.false_ne_true) (fun _ => rfl)
    refine ⟨fun z => ?_, y1⟩
    obtain ⟨D, C1, go, hC, hD1, hx, hc⟩ := y0 z
    rw [List.append_nil] at go
    have hx2 := Bool.or_eq_false_iff.mp (Bool.or_eq_false_iff.mp hx).2
    have hc' := hc rfl
    rw [List.append_nil] at hc'
    obtain ⟨f1, f2⟩ := fin _ D C1 hD1 (Bool.or_eq_false_iff.mp hx).1 (fun _ => ⟨hc', (hx_k2_n hx2.2).1, (hx_k2_n hx2.1).1⟩)
    exact ⟨D, C1, go, by rw [flush D C1 hD1, hC]; rfl, f1, f2⟩
end HXMACH3
