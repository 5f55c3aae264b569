/-! the reference's reader: pile and code -/
def hx_PL (R : Nat → Int32) : List Nat → Prop
  | [] => True
  | k :: P => (R P.length = nI k ∧ k ≤ 43) ∧ hx_PL R P
def hx_CL (R : Nat → Int32) (x : Nat) (C : List (Nat × Nat)) : Prop := ∀ i, i < C.length → R (x + 30 + 2 * i) = nI (C.getD i (0, 0)).1 ∧ R (x + 30 + 2 * i + 1) = nI (C.getD i (0, 0)).2
def hx_RC (x : Nat) (P : List Nat) (C : List (Nat × Nat)) (o : Nat) (I : Nat → Nat → Int32) : Prop := (I 85 15 = nI x ∧ x ≤ 2400) ∧ I 85 17 = nI C.length ∧ (I 85 20 = nI P.length ∧ P.length ≤ 150) ∧ I 85 21 = nI o ∧ hx_PL (I 90) P ∧ hx_CL (I 88) x C
def hx_fM (x : Nat) (I I' : Nat → Nat → Int32) : Prop := (∀ b, b ≠ 85 → b ≠ 88 → b ≠ 90 → I' b = I b) ∧ (∀ j, (j < 10 ∨ (13 < j ∧ j ≠ 17 ∧ j ≠ 20 ∧ j ≠ 21 ∧ j ≠ 22)) → I' 85 j = I 85 j) ∧ ∀ j, (j < x + 30 ∨ x + 800 ≤ j) → I' 88 j = I 88 j
/-- only the pile's and the code's fields change -/
def hx_fS (x : Nat) (I I' : Nat → Nat → Int32) : Prop := hx_fM x I I' ∧ ∀ j, (j ≠ 17 ∧ j ≠ 20 ∧ j ≠ 21) → I' 85 j = I 85 j
theorem hx_fM_rf (x : Nat) (I : Nat → Nat → Int32) : hx_fM x I I := ⟨fun _ _ _ _ => rfl, fun _ _ => rfl, fun _ _ => rfl⟩
theorem hx_fM_tr {x : Nat} {I1 I2 I3 : Nat → Nat → Int32} (h : hx_fM x I1 I2) (g : hx_fM x I2 I3) : hx_fM x I1 I3 := ⟨fun b h1 h2 h3 => (g.1 b h1 h2 h3).trans (h.1 b h1 h2 h3), fun j hj => (g.2.1 j hj).trans (h.2.1 j hj), fun j hj => (g.2.2 j hj).trans (h.2.2 j hj)⟩
theorem hx_fS_rf (x : Nat) (I : Nat → Nat → Int32) : hx_fS x I I := ⟨hx_fM_rf x I, fun _ _ => rfl⟩
theorem hx_fS_tr {x : Nat} {I1 I2 I3 : Nat → Nat → Int32} (h : hx_fS x I1 I2) (g : hx_fS x I2 I3) : hx_fS x I1 I3 := ⟨hx_fM_tr h.1 g.1, fun j hj => (g.2 j hj).trans (h.2 j hj)⟩
theorem hx_fM_u {x j : Nat} {I : Nat → Nat → Int32} {v : Int32} (h : (10 ≤ j ∧ j ≤ 13) ∨ j = 17 ∨ j = 20 ∨ j = 21 ∨ j = 22) : hx_fM x I (hl_up I 85 j v) := ⟨fun b h1 _ _ => hl_up_ne _ _ _ h1, fun i hi => by rw [hl_up_a, if_pos rfl, if_neg (by omega)], fun i _ => by rw [hl_up_ne _ _ _ (by omega)]⟩
theorem hx_fS_u {x j : Nat} {I : Nat → Nat → Int32} {v : Int32} (h : j = 17 ∨ j = 20 ∨ j = 21) : hx_fS x I (hl_up I 85 j v) := ⟨hx_fM_u (by omega), fun i hi => by rw [hl_up_a, if_pos rfl, if_neg (by omega)]⟩
theorem hx_PL_S {R R' : Nat → Int32} : ∀ P : List Nat, hx_PL R P → (∀ j, j < P.length → R' j = R j) → hx_PL R' P := by
  intro P
  induction P with
  | nil => exact fun _ _ => True.intro
  | cons k P ih =>
    intro h e
    exact ⟨⟨(e P.length (Nat.lt_succ_self _)).trans h.1.1, h.1.2⟩, ih h.2 (fun j hj => e j (Nat.lt_succ_of_lt hj))⟩
theorem hx_nA (a b : Nat) : nI a + nI b = nI (a + b) := (Int32.ofNat_add a b).symm
section HXRPIL
variable {d N L x m : Nat} {I I' : Nat → Nat → Int32} {J : Nat → Nat → Int64} {w : hl_W}
theorem hx_ix {n : Nat} : nI x + 30 + 2 * nI n = nI (x + 30 + 2 * n) := by
  have a : (30 : Int32) = nI 30 := rfl
  have b : (2 : Int32) = nI 2 := rfl
  rw [a, b, nI_mul, hx_nA, hx_nA]
theorem hx_s177 {o v n : Nat} (h15 : I 85 15 = nI x) (h17 : I 85 17 = nI n) (hb : x + 30 + 2 * n + 1 < 3200) : hl_call (d + 1) 177 [.ref 85, .int (nI o), .int (nI v)] (hl_g N I J) = some (none, hl_g N (hl_up (hl_up (hl_up I 88 (x + 30 + 2 * n) (nI o)) 88 (x + 30 + 2 * n + 1) (nI v)) 85 17 (nI (n + 1))) J) := by
  have e1 : nI (x + 30 + 2 * n) + 1 = nI (x + 30 + 2 * n + 1) := (nI_succ _).symm
  have e2 : nI n + 1 = nI (n + 1) := (nI_succ n).symm
  have u15 : ∀ j v, hl_up I 88 j v 85 = I 85 := fun j v => hl_up_ne _ _ _ (by omega)
  have v15 : ∀ j v j' v', hl_up (hl_up I 88 j v) 88 j' v' 85 = I 85 := fun j v j' v' => by rw [hl_up_ne _ _ _ (by omega), hl_up_ne _ _ _ (by omega)]
  rw [hl_e177]
  simp only [hl_r177_0, hl_r177_1, hl_r177_4, hl_r177_5, hl_r177_8, hl_r177_10, hl_r177_11, hl_r177_12, hl_r177_13, hl_r177_16, hl_r177_17, hl_r177_18, hl_r177_19, hl_r177_20, hl_r177_21, hl_r177_24, hl_r177_25, hl_r177_28, hl_r177_30, hl_r177_31, hl_r177_32, hl_r177_33, hl_r177_36, hl_r177_37, hl_r177_38, hl_r177_39, hl_r177_40, hl_r177_41, hl_r177_42, hl_r177_43, hl_r177_44, hl_r177_47, hl_r177_48, hl_r177_49, hl_r177_52, hl_o_85, hl_p_85_3, hl_p_85_4, hl_p_85_5, hl_p_85_6, hl_p_85_19, hl_p_85_23, hl_p_85_24, hl_p_85_25, hl_p_85_26, hl_p_85_27, hl_p_85_28, hl_p_85_29, hl_p_85_30, hl_p_85_31, hl_p_85_33, hl_p_85_34, hl_p_85_35, hl_p_85_36, hl_p_85_37, hl_a_88, hl_z_88, h15, h17, u15, v15, hx_ix, e1, e2, hl_b3200 (show x + 30 + 2 * n < 3200 by omega), hl_b3200 hb, hl_cq (show x + 30 + 2 * n < 10000 by omega), hl_cq (show x + 30 + 2 * n + 1 < 10000 by omega), hl_kill_i, hl_kill_r, hl_kill_n, hl_kill_l, hl_tl_s, hl_tl_n, hl_cal_some, hl_gI, hl_gJ, hl_gsI, hl_gsJ, if_true, if_false]
theorem hx_RC_emit {P : List Nat} {C : List (Nat × Nat)} {o k v : Nat} (h : hx_RC x P C o I) (hc : C.length ≤ 330) : hx_RC x P (C ++ [(k, v)]) o (hl_up (hl_up (hl_up I 88 (x + 30 + 2 * C.length) (nI k)) 88 (x + 30 + 2 * C.length + 1) (nI v)) 85 17 (nI (C.length + 1))) ∧ hx_fS x I (hl_up (hl_up (hl_up I 88 (x + 30 + 2 * C.length) (nI k)) 88 (x + 30 + 2 * C.length + 1) (nI v)) 85 17 (nI (C.length + 1))) := by
  obtain ⟨⟨h1, h1'⟩, h2, ⟨h3, h3'⟩, h4, h5, h6⟩ := h
  have r85 : ∀ j, j ≠ 17 → hl_up (hl_up (hl_up I 88 (x + 30 + 2 * C.length) (nI k)) 88 (x + 30 + 2 * C.length + 1) (nI v)) 85 17 (nI (C.length + 1)) 85 j = I 85 j := fun j hj => by
    rw [hl_up_a, if_pos rfl, if_neg hj, hl_up_ne _ _ _ (by omega), hl_up_ne _ _ _ (by omega)]
  have r90 : ∀ b, b ≠ 85 → b ≠ 88 → hl_up (hl_up (hl_up I 88 (x + 30 + 2 * C.length) (nI k)) 88 (x + 30 + 2 * C.length + 1) (nI v)) 85 17 (nI (C.length + 1)) b = I b := fun b h1 h2 => by
    rw [hl_up_ne _ _ _ h1, hl_up_ne _ _ _ h2, hl_up_ne _ _ _ h2]
  have r88 : ∀ j, hl_up (hl_up (hl_up I 88 (x + 30 + 2 * C.length) (nI k)) 88 (x + 30 + 2 * C.length + 1) (nI v)) 85 17 (nI (C.length + 1)) 88 j = if j = x + 30 + 2 * C.length + 1 then nI v else if j = x + 30 + 2 * C.length then nI k else I 88 j := fun j => by
    rw [hl_up_ne _ _ _ (by omega), hl_up_a, if_pos rfl, hl_up_a, if_pos rfl]
  have r17 : hl_up (hl_up (hl_up I 88 (x + 30 + 2 * C.length) (nI k)) 88 (x + 30 + 2 * C.length + 1) (nI v)) 85 17 (nI (C.length + 1)) 85 17 = nI (C.length + 1) := hl_up_at
  generalize hl_up (hl_up (hl_up I 88 (x + 30 + 2 * C.length) (nI k)) 88 (x + 30 + 2 * C.length + 1) (nI v)) 85 17 (nI (C.length + 1)) = I' at r85 r90 r88 r17 ⊢
  refine ⟨⟨⟨(r85 15 (by omega)).trans h1, h1'⟩, by rw [r17, List.length_append]; rfl, ⟨(r85 20 (by omega)).trans h3, h3'⟩, (r85 21 (by omega)).trans h4, by rw [r90 90 (by omega) (by omega)]; exact h5, fun i hi => ?_⟩, ⟨fun b b1 b2 b3 => r90 b b1 b2, fun j hj => r85 j (by omega), fun j hj => by rw [r88, if_neg (by omega), if_neg (by omega)]⟩, fun j hj => r85 j (by omega)⟩
  rw [List.length_append, List.length_singleton] at hi
  by_cases z : i < C.length
  · rw [r88, r88, if_neg (by omega), if_neg (by omega), if_neg (by omega), if_neg (by omega)]
    have : (C ++ [(k, v)]).getD i (0, 0) = C.getD i (0, 0) := by
      rw [List.getD_eq_getElem?_getD, List.getD_eq_getElem?_getD, List.getElem?_append_left z]
    rw [this]
    exact h6 i z
  · have ei : i = C.length := by omega
    subst ei
    have : (C ++ [(k, v)]).getD C.length (0, 0) = (k, v) := by
      rw [List.getD_eq_getElem?_getD, List.getElem?_append_right (Nat.le_refl _), Nat.sub_self]; rfl
    rw [this, r88, r88, if_neg (by omega), if_pos rfl, if_pos rfl]
    exact ⟨rfl, rfl⟩
/-- push -/
theorem hx_s178 {P : List Nat} {C : List (Nat × Nat)} {o k : Nat} (h : hx_RC x P C o I) (hk : k ≤ 43) (hp : P.length < 150) : ∃ I', hl_call (d + 1) 178 [.ref 85, .int (nI k)] (hl_g N I J) = some (none, hl_g N I' J) ∧ hx_RC x (k :: P) C o I' ∧ hx_fS x I I' := by
  obtain ⟨⟨h1, h1'⟩, h2, ⟨h3, h3'⟩, h4, h5, h6⟩ := h
  have e2 : nI P.length + 1 = nI (P.length + 1) := (nI_succ _).symm
  have bn : hl_inb (nI P.length) 160 = true := hl_inb_nI (by omega) (by omega)
  have u3 : hl_up I 90 P.length (nI k) 85 = I 85 := hl_up_ne _ _ _ (by omega)
  refine ⟨hl_up (hl_up I 90 P.length (nI k)) 85 20 (nI (P.length + 1)), ?_, ?_, ?_⟩
  · rw [hl_e178]
    simp only [hl_r178_0, hl_r178_1, hl_r178_4, hl_r178_5, hl_r178_8, hl_r178_9, hl_r178_10, hl_r178_11, hl_r178_12, hl_r178_15, hl_r178_16, hl_r178_17, hl_r178_20, hl_o_85, hl_p_85_3, hl_p_85_4, hl_p_85_5, hl_p_85_6, hl_p_85_19, hl_p_85_23, hl_p_85_24, hl_p_85_25, hl_p_85_26, hl_p_85_27, hl_p_85_28, hl_p_85_29, hl_p_85_30, hl_p_85_31, hl_p_85_33, hl_p_85_34, hl_p_85_35, hl_p_85_36, hl_p_85_37, hl_a_90, hl_z_90, h3, u3, bn, hl_cq (show P.length < 10000 by omega), e2, hl_kill_i, hl_kill_r, hl_kill_n, hl_kill_l, hl_tl_s, hl_tl_n, hl_cal_some, hl_gI, hl_gJ, hl_gsI, hl_gsJ, if_true, if_false]
  · have r85 : ∀ j, j ≠ 20 → hl_up (hl_up I 90 P.length (nI k)) 85 20 (nI (P.length + 1)) 85 j = I 85 j := fun j hj => by rw [hl_up_a, if_pos rfl, if_neg hj, hl_up_ne _ _ _ (by omega)]
    refine ⟨⟨(r85 15 (by omega)).trans h1, h1'⟩, (r85 17 (by omega)).trans h2, ⟨hl_up_at, by show P.length + 1 ≤ 150; omega⟩, (r85 21 (by omega)).trans h4, ⟨⟨?_, hk⟩, ?_⟩, ?_⟩
    · rw [hl_up_ne _ _ _ (by omega)]; exact hl_up_at
    · exact hx_PL_S P h5 (fun j hj => by rw [hl_up_ne _ _ _ (by omega), hl_up_a, if_pos rfl, if_neg (by omega)])
    · rw [hl_up_ne _ _ _ (by omega), hl_up_ne _ _ _ (by omega)]; exact h6
  · refine ⟨⟨fun b b1 b2 b3 => by rw [hl_up_ne _ _ _ b1, hl_up_ne _ _ _ b3], fun j hj => by rw [hl_up_a, if_pos rfl, if_neg (by omega), hl_up_ne _ _ _ (by omega)], fun j hj => by rw [hl_up_ne _ _ _ (by omega), hl_up_ne _ _ _ (by omega)]⟩, fun j hj => by rw [hl_up_a, if_pos rfl, if_neg (by omega), hl_up_ne _ _ _ (by omega)]⟩
/-- rank -/
theorem hx_s179 {k : Nat} (hk : k ≤ 43) : hl_call (d + 1) 179 [.int (nI k)] w = some (some (.int (nI (hx_rk k))), w) := by
  have q : ∀ c, c < 100 → (nI k = nI c) = (k = c) := fun c hc => propext (nI_eq (by omega) (by omega))
  have l : ∀ c, c < 100 → (nI k < nI c) = (k < c) := fun c hc => propext (nI_ltI (by omega) (by omega))
  have l40 : (nI k < (40 : Int32)) = (k < 40) := l 40 (by omega)
  have l10 : (nI k < (10 : Int32)) = (k < 10) := l 10 (by omega)
  have l5 : (nI k < (5 : Int32)) = (k < 5) := l 5 (by omega)
  have q22 : (nI k = (22 : Int32)) = (k = 22) := q 22 (by omega)
  have q21 : (nI k = (21 : Int32)) = (k = 21) := q 21 (by omega)
  have q20 : (nI k = (20 : Int32)) = (k = 20) := q 20 (by omega)
  have q2 : (nI k = (2 : Int32)) = (k = 2) := q 2 (by omega)
  rw [hl_e179]
  unfold hx_rk
  by_cases c1 : 40 ≤ k
  · rw [if_pos c1]
    have c1' : ¬ k < 40 := by omega
    simp only [hl_r179_0, hl_r179_1, hl_r179_3, hl_r179_6, hl_r179_7, hl_r179_10, hl_r179_11, hl_r179_13, hl_r179_16, hl_r179_17, hl_r179_20, hl_r179_21, hl_r179_23, hl_r179_26, hl_r179_27, hl_r179_30, hl_r179_31, hl_r179_33, hl_r179_36, hl_r179_37, hl_r179_40, hl_r179_41, hl_r179_43, hl_r179_46, hl_r179_47, hl_r179_50, hl_r179_51, hl_r179_52, hl_r179_55, hl_r179_57, hl_r179_60, hl_r179_61, hl_r179_62, hl_r179_65, hl_r179_67, hl_r179_70, hl_r179_71, l40, c1', hl_kill_i, hl_kill_r, hl_kill_n, hl_kill_l, hl_tl_s, hl_tl_n, hl_cal_some, hl_gI, hl_gJ, hl_gsI, hl_gsJ, hl_tv01, if_true, if_false, hl_up_a, hl_row_a, not_true, not_false_eq_true, hl_10]
    rfl
  · rw [if_neg c1]
    have c1' : k < 40 := by omega
    by_cases c2 : k = 22
    · rw [if_pos c2]
      have z : (22 : Nat) < 40 := by omega
      simp only [hl_r179_0, hl_r179_1, hl_r179_3, hl_r179_6, hl_r179_7, hl_r179_10, hl_r179_11, hl_r179_13, hl_r179_16, hl_r179_17, hl_r179_20, hl_r179_21, hl_r179_23, hl_r179_26, hl_r179_27, hl_r179_30, hl_r179_31, hl_r179_33, hl_r179_36, hl_r179_37, hl_r179_40, hl_r179_41, hl_r179_43, hl_r179_46, hl_r179_47, hl_r179_50, hl_r179_51, hl_r179_52, hl_r179_55, hl_r179_57, hl_r179_60, hl_r179_61, hl_r179_62, hl_r179_65, hl_r179_67, hl_r179_70, hl_r179_71, l40, q22, c1', c2, z, hl_kill_i, hl_kill_r, hl_kill_n, hl_kill_l, hl_tl_s, hl_tl_n, hl_cal_some, hl_gI, hl_gJ, hl_gsI, hl_gsJ, hl_tv01, if_true, if_false, hl_up_a, hl_row_a, not_true, not_false_eq_true, hl_10]
      rfl
    · rw [if_neg c2]
      by_cases c3 : k = 21
      · rw [if_pos c3]
        have n22 : ¬ (nI k = (22 : Int32)) := by rw [q22]; exact c2
        have y21 : (nI k = (21 : Int32)) := by rw [q21]; exact c3
        have y40 : (nI k < (40 : Int32)) := by rw [l40]; exact c1'
        simp only [hl_r179_0, hl_r179_1, hl_r179_3, hl_r179_6, hl_r179_7, hl_r179_10, hl_r179_11, hl_r179_13, hl_r179_16, hl_r179_17, hl_r179_20, hl_r179_21, hl_r179_23, hl_r179_26, hl_r179_27, hl_r179_30, hl_r179_31, hl_r179_33, hl_r179_36, hl_r179_37, hl_r179_40, hl_r179_41, hl_r179_43, hl_r179_46, hl_r179_47, hl_r179_50, hl_r179_51, hl_r179_52, hl_r179_55, hl_r179_57, hl_r179_60, hl_r179_61, hl_r179_62, hl_r179_65, hl_r179_67, hl_r179_70, hl_r179_71, y40, n22, y21, hl_kill_i, hl_kill_r, hl_kill_n, hl_kill_l, hl_tl_s, hl_tl_n, hl_cal_some, hl_gI, hl_gJ, hl_gsI, hl_gsJ, hl_tv01, if_true, if_false, hl_up_a, hl_row_a, not_true, not_false_eq_true, hl_10]
        simp only [y21] at y40 n22 ⊢
        try simp only [y40, n22, hl_r179_0, hl_r179_1, hl_r179_3, hl_r179_6, hl_r179_7, hl_r179_10, hl_r179_11, hl_r179_13, hl_r179_16, hl_r179_17, hl_r179_20, hl_r179_21, hl_r179_23, hl_r179_26, hl_r179_27, hl_r179_30, hl_r179_31, hl_r179_33, hl_r179_36, hl_r179_37, hl_r179_40, hl_r179_41, hl_r179_43, hl_r179_46, hl_r179_47, hl_r179_50, hl_r179_51, hl_r179_52, hl_r179_55, hl_r179_57, hl_r179_60, hl_r179_61, hl_r179_62, hl_r179_65, hl_r179_67, hl_r179_70, hl_r179_71, hl_kill_i, hl_kill_r, hl_kill_n, hl_kill_l, hl_tl_s, hl_tl_n, hl_cal_some, hl_gI, hl_gJ, hl_gsI, hl_gsJ, hl_tv01, if_true, if_false, hl_up_a, hl_row_a, not_true, not_false_eq_true, hl_10]
        try rfl
      · rw [if_neg c3]
        have n22 : ¬ (nI k = (22 : Int32)) := by rw [q22]; exact c2
        have n21 : ¬ (nI k = (21 : Int32)) := by rw [q21]; exact c3
        have y40 : (nI k < (40 : Int32)) := by rw [l40]; exact c1'
        by_cases c4 : k = 20
        · rw [if_pos c4]
          have y20 : (nI k = (20 : Int32)) = True := by rw [q20]; exact eq_true c4
          simp only [hl_r179_0, hl_r179_1, hl_r179_3, hl_r179_6, hl_r179_7, hl_r179_10, hl_r179_11, hl_r179_13, hl_r179_16, hl_r179_17, hl_r179_20, hl_r179_21, hl_r179_23, hl_r179_26, hl_r179_27, hl_r179_30, hl_r179_31, hl_r179_33, hl_r179_36, hl_r179_37, hl_r179_40, hl_r179_41, hl_r179_43, hl_r179_46, hl_r179_47, hl_r179_50, hl_r179_51, hl_r179_52, hl_r179_55, hl_r179_57, hl_r179_60, hl_r179_61, hl_r179_62, hl_r179_65, hl_r179_67, hl_r179_70, hl_r179_71, l40, q22, q21, c1', c2, c3, y20, hl_kill_i, hl_kill_r, hl_kill_n, hl_kill_l, hl_tl_s, hl_tl_n, hl_cal_some, hl_gI, hl_gJ, hl_gsI, hl_gsJ, hl_tv01, if_true, if_false, hl_up_a, hl_row_a, not_true, not_false_eq_true, hl_10]
          rfl
        · rw [if_neg c4]
          have n20 : ¬ (nI k = (20 : Int32)) := by rw [q20]; exact c4
          by_cases c5 : 10 ≤ k
          · rw [if_pos c5]
            have n10 : ¬ (nI k < (10 : Int32)) := by rw [l10]; omega
            simp only [hl_r179_0, hl_r179_1, hl_r179_3, hl_r179_6, hl_r179_7, hl_r179_10, hl_r179_11, hl_r179_13, hl_r179_16, hl_r179_17, hl_r179_20, hl_r179_21, hl_r179_23, hl_r179_26, hl_r179_27, hl_r179_30, hl_r179_31, hl_r179_33, hl_r179_36, hl_r179_37, hl_r179_40, hl_r179_41, hl_r179_43, hl_r179_46, hl_r179_47, hl_r179_50, hl_r179_51, hl_r179_52, hl_r179_55, hl_r179_57, hl_r179_60, hl_r179_61, hl_r179_62, hl_r179_65, hl_r179_67, hl_r179_70, hl_r179_71, y40, n22, n21, n20, n10, hl_kill_i, hl_kill_r, hl_kill_n, hl_kill_l, hl_tl_s, hl_tl_n, hl_cal_some, hl_gI, hl_gJ, hl_gsI, hl_gsJ, hl_tv01, if_true, if_false, hl_up_a, hl_row_a, not_true, not_false_eq_true, hl_10]
            rfl
          · rw [if_neg c5]
            have y10 : (nI k < (10 : Int32)) := by rw [l10]; omega
            by_cases c6 : k = 2
            · rw [if_pos c6]
              have y2 : (nI k = (2 : Int32)) = True := by rw [q2]; exact eq_true c6
              simp only [hl_r179_0, hl_r179_1, hl_r179_3, hl_r179_6, hl_r179_7, hl_r179_10, hl_r179_11, hl_r179_13, hl_r179_16, hl_r179_17, hl_r179_20, hl_r179_21, hl_r179_23, hl_r179_26, hl_r179_27, hl_r179_30, hl_r179_31, hl_r179_33, hl_r179_36, hl_r179_37, hl_r179_40, hl_r179_41, hl_r179_43, hl_r179_46, hl_r179_47, hl_r179_50, hl_r179_51, hl_r179_52, hl_r179_55, hl_r179_57, hl_r179_60, hl_r179_61, hl_r179_62, hl_r179_65, hl_r179_67, hl_r179_70, hl_r179_71, y40, n22, n21, n20, y10, y2, hl_kill_i, hl_kill_r, hl_kill_n, hl_kill_l, hl_tl_s, hl_tl_n, hl_cal_some, hl_gI, hl_gJ, hl_gsI, hl_gsJ, hl_tv01, if_true, if_false, hl_up_a, hl_row_a, not_true, not_false_eq_true, hl_10]
              rfl
            · rw [if_neg c6]
              have n2 : ¬ (nI k = (2 : Int32)) := by rw [q2]; exact c6
              by_cases c7 : 5 ≤ k
              · rw [if_pos c7]
                have n5 : ¬ (nI k < (5 : Int32)) := by rw [l5]; omega
                simp only [hl_r179_0, hl_r179_1, hl_r179_3, hl_r179_6, hl_r179_7, hl_r179_10, hl_r179_11, hl_r179_13, hl_r179_16, hl_r179_17, hl_r179_20, hl_r179_21, hl_r179_23, hl_r179_26, hl_r179_27, hl_r179_30, hl_r179_31, hl_r179_33, hl_r179_36, hl_r179_37, hl_r179_40, hl_r179_41, hl_r179_43, hl_r179_46, hl_r179_47, hl_r179_50, hl_r179_51, hl_r179_52, hl_r179_55, hl_r179_57, hl_r179_60, hl_r179_61, hl_r179_62, hl_r179_65, hl_r179_67, hl_r179_70, hl_r179_71, y40, n22, n21, n20, y10, n2, n5, hl_kill_i, hl_kill_r, hl_kill_n, hl_kill_l, hl_tl_s, hl_tl_n, hl_cal_some, hl_gI, hl_gJ, hl_gsI, hl_gsJ, hl_tv01, if_true, if_false, hl_up_a, hl_row_a, not_true, not_false_eq_true, hl_10]
                rfl
              · rw [if_neg c7]
                have y5 : (nI k < (5 : Int32)) := by rw [l5]; omega
                simp only [hl_r179_0, hl_r179_1, hl_r179_3, hl_r179_6, hl_r179_7, hl_r179_10, hl_r179_11, hl_r179_13, hl_r179_16, hl_r179_17, hl_r179_20, hl_r179_21, hl_r179_23, hl_r179_26, hl_r179_27, hl_r179_30, hl_r179_31, hl_r179_33, hl_r179_36, hl_r179_37, hl_r179_40, hl_r179_41, hl_r179_43, hl_r179_46, hl_r179_47, hl_r179_50, hl_r179_51, hl_r179_52, hl_r179_55, hl_r179_57, hl_r179_60, hl_r179_61, hl_r179_62, hl_r179_65, hl_r179_67, hl_r179_70, hl_r179_71, y40, n22, n21, n20, y10, n2, y5, hl_kill_i, hl_kill_r, hl_kill_n, hl_kill_l, hl_tl_s, hl_tl_n, hl_cal_some, hl_gI, hl_gJ, hl_gsI, hl_gsJ, hl_tv01, if_true, if_false, hl_up_a, hl_row_a, not_true, not_false_eq_true, hl_10]
                rfl
end HXRPIL
