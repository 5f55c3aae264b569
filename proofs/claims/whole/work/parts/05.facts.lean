/-! what the claim's tables say of my classes and methods (printed by wip/whole/gen_tables4.py) -/
theorem hl_lkm {α : Type} {l : List (Nat × α)} {i : Nat} {v : α} (h : l.lookup i = some v) : (i, v) ∈ l := by
  induction l with
  | nil => simp at h
  | cons q l ih =>
    obtain ⟨a, b⟩ := q
    rw [List.lookup_cons] at h
    split at h
    · next he =>
      have he : i = a := by simpa using he
      cases h
      subst he
      exact List.mem_cons_self
    · exact List.mem_cons_of_mem _ (ih h)
theorem hl_fok {o ix : Nat} {ci k : Nat} (h : hl_fl o ix = some (ci, k)) : hl_fOK o ix ci k := by
  have h1 := hl_lkm h
  match o, h1 with
  | 0, h1 => exact hl_fok_0 _ h1
  | 1, h1 => exact hl_fok_1 _ h1
  | 2, h1 => exact hl_fok_2 _ h1
  | 3, h1 => exact hl_fok_3 _ h1
  | 4, h1 => exact hl_fok_4 _ h1
  | 5, h1 => exact hl_fok_5 _ h1
  | 6, h1 => exact hl_fok_6 _ h1
  | 7, h1 => exact hl_fok_7 _ h1
  | 8, h1 => exact hl_fok_8 _ h1
  | 9, h1 => exact hl_fok_9 _ h1
  | 10, h1 => exact hl_fok_10 _ h1
  | 11, h1 => exact hl_fok_11 _ h1
  | 12, h1 => exact hl_fok_12 _ h1
  | 13, h1 => exact absurd h1 List.not_mem_nil
  | 14, h1 => exact absurd h1 List.not_mem_nil
  | 15, h1 => exact absurd h1 List.not_mem_nil
  | o + 16, h1 => exact absurd h1 List.not_mem_nil
theorem hl_mok {o ix : Nat} {j : Nat} (h : hl_ml o ix = some j) : hl_mOK o ix j := by
  have h1 := hl_lkm h
  match o, h1 with
  | 0, h1 => exact hl_mok_0 _ h1
  | 1, h1 => exact hl_mok_1 _ h1
  | 2, h1 => exact hl_mok_2 _ h1
  | 3, h1 => exact hl_mok_3 _ h1
  | 4, h1 => exact hl_mok_4 _ h1
  | 5, h1 => exact hl_mok_5 _ h1
  | 6, h1 => exact hl_mok_6 _ h1
  | 7, h1 => exact hl_mok_7 _ h1
  | 8, h1 => exact hl_mok_8 _ h1
  | 9, h1 => exact hl_mok_9 _ h1
  | 10, h1 => exact hl_mok_10 _ h1
  | 11, h1 => exact hl_mok_11 _ h1
  | 12, h1 => exact hl_mok_12 _ h1
  | 13, h1 => exact absurd h1 List.not_mem_nil
  | 14, h1 => exact absurd h1 List.not_mem_nil
  | 15, h1 => exact hl_mok_15 _ h1
  | o + 16, h1 => exact absurd h1 List.not_mem_nil
theorem hl_ciok {o ix : Nat} {x : Int32} (h : hl_ci o ix = some x) : Cond.constant (hl_R o) ix x ∈ hl_G := by
  have h1 := hl_lkm h
  match o, h1 with
  | 0, h1 => exact absurd h1 List.not_mem_nil
  | 1, h1 => exact absurd h1 List.not_mem_nil
  | 2, h1 => exact hl_ci_ok_2 _ h1
  | 3, h1 => exact hl_ci_ok_3 _ h1
  | 4, h1 => exact absurd h1 List.not_mem_nil
  | 5, h1 => exact absurd h1 List.not_mem_nil
  | 6, h1 => exact absurd h1 List.not_mem_nil
  | 7, h1 => exact absurd h1 List.not_mem_nil
  | 8, h1 => exact absurd h1 List.not_mem_nil
  | 9, h1 => exact absurd h1 List.not_mem_nil
  | 10, h1 => exact hl_ci_ok_10 _ h1
  | 11, h1 => exact hl_ci_ok_11 _ h1
  | 12, h1 => exact hl_ci_ok_12 _ h1
  | 13, h1 => exact absurd h1 List.not_mem_nil
  | 14, h1 => exact hl_ci_ok_14 _ h1
  | 15, h1 => exact absurd h1 List.not_mem_nil
  | o + 16, h1 => exact absurd h1 List.not_mem_nil
theorem hl_cjok {o ix : Nat} {x : Int64} (h : hl_cj o ix = some x) : Cond.constantLong (hl_R o) ix x ∈ hl_G := by
  have h1 := hl_lkm h
  match o, h1 with
  | 0, h1 => exact absurd h1 List.not_mem_nil
  | 1, h1 => exact absurd h1 List.not_mem_nil
  | 2, h1 => exact hl_cj_ok_2 _ h1
  | 3, h1 => exact hl_cj_ok_3 _ h1
  | 4, h1 => exact absurd h1 List.not_mem_nil
  | 5, h1 => exact absurd h1 List.not_mem_nil
  | 6, h1 => exact absurd h1 List.not_mem_nil
  | 7, h1 => exact absurd h1 List.not_mem_nil
  | 8, h1 => exact absurd h1 List.not_mem_nil
  | 9, h1 => exact absurd h1 List.not_mem_nil
  | 10, h1 => exact hl_cj_ok_10 _ h1
  | 11, h1 => exact hl_cj_ok_11 _ h1
  | 12, h1 => exact hl_cj_ok_12 _ h1
  | 13, h1 => exact absurd h1 List.not_mem_nil
  | 14, h1 => exact hl_cj_ok_14 _ h1
  | 15, h1 => exact absurd h1 List.not_mem_nil
  | o + 16, h1 => exact absurd h1 List.not_mem_nil
theorem hl_lcok {o ix : Nat} {ci : Nat} (h : hl_lc o ix = some ci) : ∃ C T N, hl_cl[ci]? = some (C, T, N) ∧ Cond.classLink (hl_R o) ix C ∈ hl_G := by
  have h1 := hl_lkm h
  match o, h1 with
  | 0, h1 => exact absurd h1 List.not_mem_nil
  | 1, h1 => exact hl_lc_ok_1 _ h1
  | 2, h1 => exact absurd h1 List.not_mem_nil
  | 3, h1 => exact hl_lc_ok_3 _ h1
  | 4, h1 => exact absurd h1 List.not_mem_nil
  | 5, h1 => exact absurd h1 List.not_mem_nil
  | 6, h1 => exact hl_lc_ok_6 _ h1
  | 7, h1 => exact absurd h1 List.not_mem_nil
  | 8, h1 => exact absurd h1 List.not_mem_nil
  | 9, h1 => exact absurd h1 List.not_mem_nil
  | 10, h1 => exact absurd h1 List.not_mem_nil
  | 11, h1 => exact hl_lc_ok_11 _ h1
  | 12, h1 => exact absurd h1 List.not_mem_nil
  | 13, h1 => exact absurd h1 List.not_mem_nil
  | 14, h1 => exact absurd h1 List.not_mem_nil
  | 15, h1 => exact hl_lc_ok_15 _ h1
  | o + 16, h1 => exact absurd h1 List.not_mem_nil
/-- a class: its words, types, names, finals, kinds -/
def hl_cOK (ci : Nat) (C : String) (T : u_T) (N : Nat) (ty : Nat → FieldType) : Prop := (∀ x ∈ u_ws C T N, x ∈ hl_G) ∧ (∀ k, k < N → parseFieldDescriptor (T k).2.2.1 = some (ty k)) ∧ (∀ a, a < N → ∀ b, b < N → a ≠ b → (T a).2.1 ≠ (T b).2.1) ∧ (∀ k, k < N → hl_fin ci k = (T k).2.2.2 ∧ ((hl_fk ci k = 0 ∧ ty k = .int) ∨ (hl_fk ci k = 1 ∧ ty k = .long) ∨ (hl_fk ci k = 3 ∧ ty k = .boolean) ∨ (hl_fk ci k = 2 ∧ ((∃ n, ty k = .object n) ∨ ∃ t, ty k = .array t)))) ∧ Cond.instantiable C N ∈ hl_G ∧ Cond.initialized C ∈ hl_G ∧ C = hl_R ci
theorem hl_uw0 : ∀ x ∈ u_ws hl_R0 hl_T0 6, x ∈ hl_G := by
  have e : u_ws hl_R0 hl_T0 6 = [u_lay hl_R0 hl_T0 0, u_lay hl_R0 hl_T0 1, u_lay hl_R0 hl_T0 2, u_lay hl_R0 hl_T0 3, u_lay hl_R0 hl_T0 4, u_lay hl_R0 hl_T0 5] := rfl
  rw [e]
  exact List.forall_mem_cons.mpr ⟨hl_at (i := 530) (by decide +kernel) (by decide +kernel),
    List.forall_mem_cons.mpr ⟨hl_at (i := 532) (by decide +kernel) (by decide +kernel),
    List.forall_mem_cons.mpr ⟨hl_at (i := 534) (by decide +kernel) (by decide +kernel),
    List.forall_mem_cons.mpr ⟨hl_at (i := 536) (by decide +kernel) (by decide +kernel),
    List.forall_mem_cons.mpr ⟨hl_at (i := 538) (by decide +kernel) (by decide +kernel),
    List.forall_mem_cons.mpr ⟨hl_at (i := 540) (by decide +kernel) (by decide +kernel),
    fun _ h => absurd h List.not_mem_nil⟩⟩⟩⟩⟩⟩
theorem hl_c0 : hl_cOK 0 hl_R0 hl_T0 6 hl_t0 := by
  refine ⟨hl_uw0, hl_t0_ok, hl_n0, ?_, hl_at (i := 516) (by decide +kernel) rfl, hl_at (i := 169) (by decide +kernel) rfl, rfl⟩
  intro k hk
  match k, hk with
  | 0, _ => exact ⟨rfl, .inr (.inr (.inr ⟨rfl, .inl ⟨_, rfl⟩⟩))⟩
  | 1, _ => exact ⟨rfl, .inr (.inr (.inr ⟨rfl, .inl ⟨_, rfl⟩⟩))⟩
  | 2, _ => exact ⟨rfl, .inr (.inr (.inr ⟨rfl, .inl ⟨_, rfl⟩⟩))⟩
  | 3, _ => exact ⟨rfl, .inr (.inr (.inr ⟨rfl, .inr ⟨_, rfl⟩⟩))⟩
  | 4, _ => exact ⟨rfl, .inl ⟨rfl, rfl⟩⟩
  | 5, _ => exact ⟨rfl, .inl ⟨rfl, rfl⟩⟩
  | k + 6, hk => omega
theorem hl_uw1 : ∀ x ∈ u_ws hl_R1 hl_T1 16, x ∈ hl_G := by
  have e : u_ws hl_R1 hl_T1 16 = [u_lay hl_R1 hl_T1 0, u_lay hl_R1 hl_T1 1, u_lay hl_R1 hl_T1 2, u_lay hl_R1 hl_T1 3, u_lay hl_R1 hl_T1 4, u_lay hl_R1 hl_T1 5, u_lay hl_R1 hl_T1 6, u_lay hl_R1 hl_T1 7, u_lay hl_R1 hl_T1 8, u_lay hl_R1 hl_T1 9, u_lay hl_R1 hl_T1 10, u_lay hl_R1 hl_T1 11, u_lay hl_R1 hl_T1 12, u_lay hl_R1 hl_T1 13, u_lay hl_R1 hl_T1 14, u_lay hl_R1 hl_T1 15] := rfl
  rw [e]
  exact List.forall_mem_cons.mpr ⟨hl_at (i := 290) (by decide +kernel) (by decide +kernel),
    List.forall_mem_cons.mpr ⟨hl_at (i := 292) (by decide +kernel) (by decide +kernel),
    List.forall_mem_cons.mpr ⟨hl_at (i := 294) (by decide +kernel) (by decide +kernel),
    List.forall_mem_cons.mpr ⟨hl_at (i := 296) (by decide +kernel) (by decide +kernel),
    List.forall_mem_cons.mpr ⟨hl_at (i := 298) (by decide +kernel) (by decide +kernel),
    List.forall_mem_cons.mpr ⟨hl_at (i := 300) (by decide +kernel) (by decide +kernel),
    List.forall_mem_cons.mpr ⟨hl_at (i := 302) (by decide +kernel) (by decide +kernel),
    List.forall_mem_cons.mpr ⟨hl_at (i := 304) (by decide +kernel) (by decide +kernel),
    List.forall_mem_cons.mpr ⟨hl_at (i := 306) (by decide +kernel) (by decide +kernel),
    List.forall_mem_cons.mpr ⟨hl_at (i := 308) (by decide +kernel) (by decide +kernel),
    List.forall_mem_cons.mpr ⟨hl_at (i := 310) (by decide +kernel) (by decide +kernel),
    List.forall_mem_cons.mpr ⟨hl_at (i := 312) (by decide +kernel) (by decide +kernel),
    List.forall_mem_cons.mpr ⟨hl_at (i := 314) (by decide +kernel) (by decide +kernel),
    List.forall_mem_cons.mpr ⟨hl_at (i := 316) (by decide +kernel) (by decide +kernel),
    List.forall_mem_cons.mpr ⟨hl_at (i := 318) (by decide +kernel) (by decide +kernel),
    List.forall_mem_cons.mpr ⟨hl_at (i := 320) (by decide +kernel) (by decide +kernel),
    fun _ h => absurd h List.not_mem_nil⟩⟩⟩⟩⟩⟩⟩⟩⟩⟩⟩⟩⟩⟩⟩⟩
theorem hl_c1 : hl_cOK 1 hl_R1 hl_T1 16 hl_t1 := by
  refine ⟨hl_uw1, hl_t1_ok, hl_n1, ?_, hl_at (i := 190) (by decide +kernel) rfl, hl_at (i := 158) (by decide +kernel) rfl, rfl⟩
  intro k hk
  match k, hk with
  | 0, _ => exact ⟨rfl, .inr (.inr (.inr ⟨rfl, .inr ⟨_, rfl⟩⟩))⟩
  | 1, _ => exact ⟨rfl, .inr (.inr (.inr ⟨rfl, .inr ⟨_, rfl⟩⟩))⟩
  | 2, _ => exact ⟨rfl, .inr (.inr (.inr ⟨rfl, .inr ⟨_, rfl⟩⟩))⟩
  | 3, _ => exact ⟨rfl, .inr (.inr (.inr ⟨rfl, .inr ⟨_, rfl⟩⟩))⟩
  | 4, _ => exact ⟨rfl, .inr (.inr (.inr ⟨rfl, .inr ⟨_, rfl⟩⟩))⟩
  | 5, _ => exact ⟨rfl, .inr (.inr (.inr ⟨rfl, .inr ⟨_, rfl⟩⟩))⟩
  | 6, _ => exact ⟨rfl, .inr (.inr (.inr ⟨rfl, .inr ⟨_, rfl⟩⟩))⟩
  | 7, _ => exact ⟨rfl, .inr (.inr (.inr ⟨rfl, .inr ⟨_, rfl⟩⟩))⟩
  | 8, _ => exact ⟨rfl, .inl ⟨rfl, rfl⟩⟩
  | 9, _ => exact ⟨rfl, .inr (.inr (.inr ⟨rfl, .inr ⟨_, rfl⟩⟩))⟩
  | 10, _ => exact ⟨rfl, .inl ⟨rfl, rfl⟩⟩
  | 11, _ => exact ⟨rfl, .inl ⟨rfl, rfl⟩⟩
  | 12, _ => exact ⟨rfl, .inl ⟨rfl, rfl⟩⟩
  | 13, _ => exact ⟨rfl, .inl ⟨rfl, rfl⟩⟩
  | 14, _ => exact ⟨rfl, .inr (.inr (.inr ⟨rfl, .inl ⟨_, rfl⟩⟩))⟩
  | 15, _ => exact ⟨rfl, .inr (.inr (.inr ⟨rfl, .inl ⟨_, rfl⟩⟩))⟩
  | k + 16, hk => omega
theorem hl_uw2 : ∀ x ∈ u_ws hl_R2 hl_T2 10, x ∈ hl_G := by
  have e : u_ws hl_R2 hl_T2 10 = [u_lay hl_R2 hl_T2 0, u_lay hl_R2 hl_T2 1, u_lay hl_R2 hl_T2 2, u_lay hl_R2 hl_T2 3, u_lay hl_R2 hl_T2 4, u_lay hl_R2 hl_T2 5, u_lay hl_R2 hl_T2 6, u_lay hl_R2 hl_T2 7, u_lay hl_R2 hl_T2 8, u_lay hl_R2 hl_T2 9] := rfl
  rw [e]
  exact List.forall_mem_cons.mpr ⟨hl_at (i := 463) (by decide +kernel) (by decide +kernel),
    List.forall_mem_cons.mpr ⟨hl_at (i := 465) (by decide +kernel) (by decide +kernel),
    List.forall_mem_cons.mpr ⟨hl_at (i := 467) (by decide +kernel) (by decide +kernel),
    List.forall_mem_cons.mpr ⟨hl_at (i := 469) (by decide +kernel) (by decide +kernel),
    List.forall_mem_cons.mpr ⟨hl_at (i := 471) (by decide +kernel) (by decide +kernel),
    List.forall_mem_cons.mpr ⟨hl_at (i := 473) (by decide +kernel) (by decide +kernel),
    List.forall_mem_cons.mpr ⟨hl_at (i := 475) (by decide +kernel) (by decide +kernel),
    List.forall_mem_cons.mpr ⟨hl_at (i := 477) (by decide +kernel) (by decide +kernel),
    List.forall_mem_cons.mpr ⟨hl_at (i := 479) (by decide +kernel) (by decide +kernel),
    List.forall_mem_cons.mpr ⟨hl_at (i := 481) (by decide +kernel) (by decide +kernel),
    fun _ h => absurd h List.not_mem_nil⟩⟩⟩⟩⟩⟩⟩⟩⟩⟩
theorem hl_c2 : hl_cOK 2 hl_R2 hl_T2 10 hl_t2 := by
  refine ⟨hl_uw2, hl_t2_ok, hl_n2, ?_, hl_at (i := 448) (by decide +kernel) rfl, hl_at (i := 167) (by decide +kernel) rfl, rfl⟩
  intro k hk
  match k, hk with
  | 0, _ => exact ⟨rfl, .inl ⟨rfl, rfl⟩⟩
  | 1, _ => exact ⟨rfl, .inl ⟨rfl, rfl⟩⟩
  | 2, _ => exact ⟨rfl, .inr (.inr (.inr ⟨rfl, .inr ⟨_, rfl⟩⟩))⟩
  | 3, _ => exact ⟨rfl, .inr (.inr (.inr ⟨rfl, .inr ⟨_, rfl⟩⟩))⟩
  | 4, _ => exact ⟨rfl, .inr (.inr (.inr ⟨rfl, .inr ⟨_, rfl⟩⟩))⟩
  | 5, _ => exact ⟨rfl, .inr (.inr (.inr ⟨rfl, .inr ⟨_, rfl⟩⟩))⟩
  | 6, _ => exact ⟨rfl, .inr (.inr (.inr ⟨rfl, .inr ⟨_, rfl⟩⟩))⟩
  | 7, _ => exact ⟨rfl, .inr (.inr (.inr ⟨rfl, .inr ⟨_, rfl⟩⟩))⟩
  | 8, _ => exact ⟨rfl, .inr (.inr (.inr ⟨rfl, .inr ⟨_, rfl⟩⟩))⟩
  | 9, _ => exact ⟨rfl, .inr (.inr (.inr ⟨rfl, .inr ⟨_, rfl⟩⟩))⟩
  | k + 10, hk => omega
theorem hl_uw3 : ∀ x ∈ u_ws hl_R3 hl_T3 8, x ∈ hl_G := by
  have e : u_ws hl_R3 hl_T3 8 = [u_lay hl_R3 hl_T3 0, u_lay hl_R3 hl_T3 1, u_lay hl_R3 hl_T3 2, u_lay hl_R3 hl_T3 3, u_lay hl_R3 hl_T3 4, u_lay hl_R3 hl_T3 5, u_lay hl_R3 hl_T3 6, u_lay hl_R3 hl_T3 7] := rfl
  rw [e]
  exact List.forall_mem_cons.mpr ⟨hl_at (i := 498) (by decide +kernel) (by decide +kernel),
    List.forall_mem_cons.mpr ⟨hl_at (i := 500) (by decide +kernel) (by decide +kernel),
    List.forall_mem_cons.mpr ⟨hl_at (i := 502) (by decide +kernel) (by decide +kernel),
    List.forall_mem_cons.mpr ⟨hl_at (i := 504) (by decide +kernel) (by decide +kernel),
    List.forall_mem_cons.mpr ⟨hl_at (i := 506) (by decide +kernel) (by decide +kernel),
    List.forall_mem_cons.mpr ⟨hl_at (i := 508) (by decide +kernel) (by decide +kernel),
    List.forall_mem_cons.mpr ⟨hl_at (i := 510) (by decide +kernel) (by decide +kernel),
    List.forall_mem_cons.mpr ⟨hl_at (i := 512) (by decide +kernel) (by decide +kernel),
    fun _ h => absurd h List.not_mem_nil⟩⟩⟩⟩⟩⟩⟩⟩
theorem hl_c3 : hl_cOK 3 hl_R3 hl_T3 8 hl_t3 := by
  refine ⟨hl_uw3, hl_t3_ok, hl_n3, ?_, hl_at (i := 442) (by decide +kernel) rfl, hl_at (i := 166) (by decide +kernel) rfl, rfl⟩
  intro k hk
  match k, hk with
  | 0, _ => exact ⟨rfl, .inr (.inr (.inr ⟨rfl, .inl ⟨_, rfl⟩⟩))⟩
  | 1, _ => exact ⟨rfl, .inr (.inr (.inr ⟨rfl, .inl ⟨_, rfl⟩⟩))⟩
  | 2, _ => exact ⟨rfl, .inr (.inr (.inr ⟨rfl, .inl ⟨_, rfl⟩⟩))⟩
  | 3, _ => exact ⟨rfl, .inr (.inr (.inr ⟨rfl, .inr ⟨_, rfl⟩⟩))⟩
  | 4, _ => exact ⟨rfl, .inr (.inr (.inr ⟨rfl, .inr ⟨_, rfl⟩⟩))⟩
  | 5, _ => exact ⟨rfl, .inr (.inr (.inr ⟨rfl, .inr ⟨_, rfl⟩⟩))⟩
  | 6, _ => exact ⟨rfl, .inl ⟨rfl, rfl⟩⟩
  | 7, _ => exact ⟨rfl, .inl ⟨rfl, rfl⟩⟩
  | k + 8, hk => omega
theorem hl_uw4 : ∀ x ∈ u_ws hl_R4 hl_T4 2, x ∈ hl_G := by
  have e : u_ws hl_R4 hl_T4 2 = [u_lay hl_R4 hl_T4 0, u_lay hl_R4 hl_T4 1] := rfl
  rw [e]
  exact List.forall_mem_cons.mpr ⟨hl_at (i := 436) (by decide +kernel) (by decide +kernel),
    List.forall_mem_cons.mpr ⟨hl_at (i := 438) (by decide +kernel) (by decide +kernel),
    fun _ h => absurd h List.not_mem_nil⟩⟩
theorem hl_c4 : hl_cOK 4 hl_R4 hl_T4 2 hl_t4 := by
  refine ⟨hl_uw4, hl_t4_ok, hl_n4, ?_, hl_at (i := 429) (by decide +kernel) rfl, hl_at (i := 165) (by decide +kernel) rfl, rfl⟩
  intro k hk
  match k, hk with
  | 0, _ => exact ⟨rfl, .inl ⟨rfl, rfl⟩⟩
  | 1, _ => exact ⟨rfl, .inr (.inr (.inr ⟨rfl, .inr ⟨_, rfl⟩⟩))⟩
  | k + 2, hk => omega
theorem hl_uw5 : ∀ x ∈ u_ws hl_R5 hl_T5 4, x ∈ hl_G := by
  have e : u_ws hl_R5 hl_T5 4 = [u_lay hl_R5 hl_T5 0, u_lay hl_R5 hl_T5 1, u_lay hl_R5 hl_T5 2, u_lay hl_R5 hl_T5 3] := rfl
  rw [e]
  exact List.forall_mem_cons.mpr ⟨hl_at (i := 419) (by decide +kernel) (by decide +kernel),
    List.forall_mem_cons.mpr ⟨hl_at (i := 421) (by decide +kernel) (by decide +kernel),
    List.forall_mem_cons.mpr ⟨hl_at (i := 423) (by decide +kernel) (by decide +kernel),
    List.forall_mem_cons.mpr ⟨hl_at (i := 425) (by decide +kernel) (by decide +kernel),
    fun _ h => absurd h List.not_mem_nil⟩⟩⟩⟩
theorem hl_c5 : hl_cOK 5 hl_R5 hl_T5 4 hl_t5 := by
  refine ⟨hl_uw5, hl_t5_ok, hl_n5, ?_, hl_at (i := 410) (by decide +kernel) rfl, hl_at (i := 164) (by decide +kernel) rfl, rfl⟩
  intro k hk
  match k, hk with
  | 0, _ => exact ⟨rfl, .inr (.inr (.inr ⟨rfl, .inl ⟨_, rfl⟩⟩))⟩
  | 1, _ => exact ⟨rfl, .inr (.inr (.inr ⟨rfl, .inl ⟨_, rfl⟩⟩))⟩
  | 2, _ => exact ⟨rfl, .inr (.inr (.inr ⟨rfl, .inr ⟨_, rfl⟩⟩))⟩
  | 3, _ => exact ⟨rfl, .inr (.inr (.inr ⟨rfl, .inr ⟨_, rfl⟩⟩))⟩
  | k + 4, hk => omega
theorem hl_uw6 : ∀ x ∈ u_ws hl_R6 hl_T6 9, x ∈ hl_G := by
  have e : u_ws hl_R6 hl_T6 9 = [u_lay hl_R6 hl_T6 0, u_lay hl_R6 hl_T6 1, u_lay hl_R6 hl_T6 2, u_lay hl_R6 hl_T6 3, u_lay hl_R6 hl_T6 4, u_lay hl_R6 hl_T6 5, u_lay hl_R6 hl_T6 6, u_lay hl_R6 hl_T6 7, u_lay hl_R6 hl_T6 8] := rfl
  rw [e]
  exact List.forall_mem_cons.mpr ⟨hl_at (i := 365) (by decide +kernel) (by decide +kernel),
    List.forall_mem_cons.mpr ⟨hl_at (i := 367) (by decide +kernel) (by decide +kernel),
    List.forall_mem_cons.mpr ⟨hl_at (i := 369) (by decide +kernel) (by decide +kernel),
    List.forall_mem_cons.mpr ⟨hl_at (i := 371) (by decide +kernel) (by decide +kernel),
    List.forall_mem_cons.mpr ⟨hl_at (i := 373) (by decide +kernel) (by decide +kernel),
    List.forall_mem_cons.mpr ⟨hl_at (i := 375) (by decide +kernel) (by decide +kernel),
    List.forall_mem_cons.mpr ⟨hl_at (i := 377) (by decide +kernel) (by decide +kernel),
    List.forall_mem_cons.mpr ⟨hl_at (i := 379) (by decide +kernel) (by decide +kernel),
    List.forall_mem_cons.mpr ⟨hl_at (i := 381) (by decide +kernel) (by decide +kernel),
    fun _ h => absurd h List.not_mem_nil⟩⟩⟩⟩⟩⟩⟩⟩⟩
theorem hl_c6 : hl_cOK 6 hl_R6 hl_T6 9 hl_t6 := by
  refine ⟨hl_uw6, hl_t6_ok, hl_n6, ?_, hl_at (i := 324) (by decide +kernel) rfl, hl_at (i := 161) (by decide +kernel) rfl, rfl⟩
  intro k hk
  match k, hk with
  | 0, _ => exact ⟨rfl, .inr (.inr (.inr ⟨rfl, .inr ⟨_, rfl⟩⟩))⟩
  | 1, _ => exact ⟨rfl, .inr (.inr (.inr ⟨rfl, .inl ⟨_, rfl⟩⟩))⟩
  | 2, _ => exact ⟨rfl, .inl ⟨rfl, rfl⟩⟩
  | 3, _ => exact ⟨rfl, .inl ⟨rfl, rfl⟩⟩
  | 4, _ => exact ⟨rfl, .inl ⟨rfl, rfl⟩⟩
  | 5, _ => exact ⟨rfl, .inl ⟨rfl, rfl⟩⟩
  | 6, _ => exact ⟨rfl, .inl ⟨rfl, rfl⟩⟩
  | 7, _ => exact ⟨rfl, .inl ⟨rfl, rfl⟩⟩
  | 8, _ => exact ⟨rfl, .inl ⟨rfl, rfl⟩⟩
  | k + 9, hk => omega
theorem hl_uw7 : ∀ x ∈ u_ws hl_R7 hl_T7 4, x ∈ hl_G := by
  have e : u_ws hl_R7 hl_T7 4 = [u_lay hl_R7 hl_T7 0, u_lay hl_R7 hl_T7 1, u_lay hl_R7 hl_T7 2, u_lay hl_R7 hl_T7 3] := rfl
  rw [e]
  exact List.forall_mem_cons.mpr ⟨hl_at (i := 344) (by decide +kernel) (by decide +kernel),
    List.forall_mem_cons.mpr ⟨hl_at (i := 346) (by decide +kernel) (by decide +kernel),
    List.forall_mem_cons.mpr ⟨hl_at (i := 348) (by decide +kernel) (by decide +kernel),
    List.forall_mem_cons.mpr ⟨hl_at (i := 350) (by decide +kernel) (by decide +kernel),
    fun _ h => absurd h List.not_mem_nil⟩⟩⟩⟩
theorem hl_c7 : hl_cOK 7 hl_R7 hl_T7 4 hl_t7 := by
  refine ⟨hl_uw7, hl_t7_ok, hl_n7, ?_, hl_at (i := 330) (by decide +kernel) rfl, hl_at (i := 162) (by decide +kernel) rfl, rfl⟩
  intro k hk
  match k, hk with
  | 0, _ => exact ⟨rfl, .inr (.inr (.inr ⟨rfl, .inr ⟨_, rfl⟩⟩))⟩
  | 1, _ => exact ⟨rfl, .inr (.inr (.inr ⟨rfl, .inr ⟨_, rfl⟩⟩))⟩
  | 2, _ => exact ⟨rfl, .inr (.inr (.inr ⟨rfl, .inr ⟨_, rfl⟩⟩))⟩
  | 3, _ => exact ⟨rfl, .inl ⟨rfl, rfl⟩⟩
  | k + 4, hk => omega
theorem hl_uw8 : ∀ x ∈ u_ws hl_R8 hl_T8 4, x ∈ hl_G := by
  have e : u_ws hl_R8 hl_T8 4 = [u_lay hl_R8 hl_T8 0, u_lay hl_R8 hl_T8 1, u_lay hl_R8 hl_T8 2, u_lay hl_R8 hl_T8 3] := rfl
  rw [e]
  exact List.forall_mem_cons.mpr ⟨hl_at (i := 210) (by decide +kernel) (by decide +kernel),
    List.forall_mem_cons.mpr ⟨hl_at (i := 212) (by decide +kernel) (by decide +kernel),
    List.forall_mem_cons.mpr ⟨hl_at (i := 214) (by decide +kernel) (by decide +kernel),
    List.forall_mem_cons.mpr ⟨hl_at (i := 216) (by decide +kernel) (by decide +kernel),
    fun _ h => absurd h List.not_mem_nil⟩⟩⟩⟩
theorem hl_c8 : hl_cOK 8 hl_R8 hl_T8 4 hl_t8 := by
  refine ⟨hl_uw8, hl_t8_ok, hl_n8, ?_, hl_at (i := 196) (by decide +kernel) rfl, hl_at (i := 159) (by decide +kernel) rfl, rfl⟩
  intro k hk
  match k, hk with
  | 0, _ => exact ⟨rfl, .inr (.inr (.inr ⟨rfl, .inr ⟨_, rfl⟩⟩))⟩
  | 1, _ => exact ⟨rfl, .inr (.inr (.inr ⟨rfl, .inr ⟨_, rfl⟩⟩))⟩
  | 2, _ => exact ⟨rfl, .inr (.inr (.inr ⟨rfl, .inr ⟨_, rfl⟩⟩))⟩
  | 3, _ => exact ⟨rfl, .inl ⟨rfl, rfl⟩⟩
  | k + 4, hk => omega
theorem hl_uw9 : ∀ x ∈ u_ws hl_R9 hl_T9 3, x ∈ hl_G := by
  have e : u_ws hl_R9 hl_T9 3 = [u_lay hl_R9 hl_T9 0, u_lay hl_R9 hl_T9 1, u_lay hl_R9 hl_T9 2] := rfl
  rw [e]
  exact List.forall_mem_cons.mpr ⟨hl_at (i := 231) (by decide +kernel) (by decide +kernel),
    List.forall_mem_cons.mpr ⟨hl_at (i := 233) (by decide +kernel) (by decide +kernel),
    List.forall_mem_cons.mpr ⟨hl_at (i := 235) (by decide +kernel) (by decide +kernel),
    fun _ h => absurd h List.not_mem_nil⟩⟩⟩
theorem hl_c9 : hl_cOK 9 hl_R9 hl_T9 3 hl_t9 := by
  refine ⟨hl_uw9, hl_t9_ok, hl_n9, ?_, hl_at (i := 222) (by decide +kernel) rfl, hl_at (i := 160) (by decide +kernel) rfl, rfl⟩
  intro k hk
  match k, hk with
  | 0, _ => exact ⟨rfl, .inr (.inr (.inr ⟨rfl, .inr ⟨_, rfl⟩⟩))⟩
  | 1, _ => exact ⟨rfl, .inr (.inr (.inr ⟨rfl, .inr ⟨_, rfl⟩⟩))⟩
  | 2, _ => exact ⟨rfl, .inr (.inr (.inr ⟨rfl, .inr ⟨_, rfl⟩⟩))⟩
  | k + 3, hk => omega
theorem hl_uw10 : ∀ x ∈ u_ws hl_R10 hl_T10 5, x ∈ hl_G := by
  have e : u_ws hl_R10 hl_T10 5 = [u_lay hl_R10 hl_T10 0, u_lay hl_R10 hl_T10 1, u_lay hl_R10 hl_T10 2, u_lay hl_R10 hl_T10 3, u_lay hl_R10 hl_T10 4] := rfl
  rw [e]
  exact List.forall_mem_cons.mpr ⟨hl_at (i := 398) (by decide +kernel) (by decide +kernel),
    List.forall_mem_cons.mpr ⟨hl_at (i := 400) (by decide +kernel) (by decide +kernel),
    List.forall_mem_cons.mpr ⟨hl_at (i := 402) (by decide +kernel) (by decide +kernel),
    List.forall_mem_cons.mpr ⟨hl_at (i := 404) (by decide +kernel) (by decide +kernel),
    List.forall_mem_cons.mpr ⟨hl_at (i := 406) (by decide +kernel) (by decide +kernel),
    fun _ h => absurd h List.not_mem_nil⟩⟩⟩⟩⟩
theorem hl_c10 : hl_cOK 10 hl_R10 hl_T10 5 hl_t10 := by
  refine ⟨hl_uw10, hl_t10_ok, hl_n10, ?_, hl_at (i := 388) (by decide +kernel) rfl, hl_at (i := 163) (by decide +kernel) rfl, rfl⟩
  intro k hk
  match k, hk with
  | 0, _ => exact ⟨rfl, .inr (.inr (.inr ⟨rfl, .inl ⟨_, rfl⟩⟩))⟩
  | 1, _ => exact ⟨rfl, .inr (.inr (.inr ⟨rfl, .inr ⟨_, rfl⟩⟩))⟩
  | 2, _ => exact ⟨rfl, .inr (.inr (.inr ⟨rfl, .inr ⟨_, rfl⟩⟩))⟩
  | 3, _ => exact ⟨rfl, .inr (.inr (.inr ⟨rfl, .inr ⟨_, rfl⟩⟩))⟩
  | 4, _ => exact ⟨rfl, .inl ⟨rfl, rfl⟩⟩
  | k + 5, hk => omega
theorem hl_uw11 : ∀ x ∈ u_ws hl_R11 hl_T11 16, x ∈ hl_G := by
  have e : u_ws hl_R11 hl_T11 16 = [u_lay hl_R11 hl_T11 0, u_lay hl_R11 hl_T11 1, u_lay hl_R11 hl_T11 2, u_lay hl_R11 hl_T11 3, u_lay hl_R11 hl_T11 4, u_lay hl_R11 hl_T11 5, u_lay hl_R11 hl_T11 6, u_lay hl_R11 hl_T11 7, u_lay hl_R11 hl_T11 8, u_lay hl_R11 hl_T11 9, u_lay hl_R11 hl_T11 10, u_lay hl_R11 hl_T11 11, u_lay hl_R11 hl_T11 12, u_lay hl_R11 hl_T11 13, u_lay hl_R11 hl_T11 14, u_lay hl_R11 hl_T11 15] := rfl
  rw [e]
  exact List.forall_mem_cons.mpr ⟨hl_at (i := 559) (by decide +kernel) (by decide +kernel),
    List.forall_mem_cons.mpr ⟨hl_at (i := 561) (by decide +kernel) (by decide +kernel),
    List.forall_mem_cons.mpr ⟨hl_at (i := 563) (by decide +kernel) (by decide +kernel),
    List.forall_mem_cons.mpr ⟨hl_at (i := 565) (by decide +kernel) (by decide +kernel),
    List.forall_mem_cons.mpr ⟨hl_at (i := 567) (by decide +kernel) (by decide +kernel),
    List.forall_mem_cons.mpr ⟨hl_at (i := 569) (by decide +kernel) (by decide +kernel),
    List.forall_mem_cons.mpr ⟨hl_at (i := 571) (by decide +kernel) (by decide +kernel),
    List.forall_mem_cons.mpr ⟨hl_at (i := 573) (by decide +kernel) (by decide +kernel),
    List.forall_mem_cons.mpr ⟨hl_at (i := 575) (by decide +kernel) (by decide +kernel),
    List.forall_mem_cons.mpr ⟨hl_at (i := 577) (by decide +kernel) (by decide +kernel),
    List.forall_mem_cons.mpr ⟨hl_at (i := 579) (by decide +kernel) (by decide +kernel),
    List.forall_mem_cons.mpr ⟨hl_at (i := 581) (by decide +kernel) (by decide +kernel),
    List.forall_mem_cons.mpr ⟨hl_at (i := 583) (by decide +kernel) (by decide +kernel),
    List.forall_mem_cons.mpr ⟨hl_at (i := 585) (by decide +kernel) (by decide +kernel),
    List.forall_mem_cons.mpr ⟨hl_at (i := 587) (by decide +kernel) (by decide +kernel),
    List.forall_mem_cons.mpr ⟨hl_at (i := 589) (by decide +kernel) (by decide +kernel),
    fun _ h => absurd h List.not_mem_nil⟩⟩⟩⟩⟩⟩⟩⟩⟩⟩⟩⟩⟩⟩⟩⟩
theorem hl_c11 : hl_cOK 11 hl_R11 hl_T11 16 hl_t11 := by
  refine ⟨hl_uw11, hl_t11_ok, hl_n11, ?_, hl_at (i := 179) (by decide +kernel) rfl, hl_at (i := 157) (by decide +kernel) rfl, rfl⟩
  intro k hk
  match k, hk with
  | 0, _ => exact ⟨rfl, .inl ⟨rfl, rfl⟩⟩
  | 1, _ => exact ⟨rfl, .inl ⟨rfl, rfl⟩⟩
  | 2, _ => exact ⟨rfl, .inl ⟨rfl, rfl⟩⟩
  | 3, _ => exact ⟨rfl, .inr (.inr (.inr ⟨rfl, .inl ⟨_, rfl⟩⟩))⟩
  | 4, _ => exact ⟨rfl, .inr (.inr (.inr ⟨rfl, .inl ⟨_, rfl⟩⟩))⟩
  | 5, _ => exact ⟨rfl, .inr (.inr (.inr ⟨rfl, .inr ⟨_, rfl⟩⟩))⟩
  | 6, _ => exact ⟨rfl, .inl ⟨rfl, rfl⟩⟩
  | 7, _ => exact ⟨rfl, .inr (.inr (.inr ⟨rfl, .inl ⟨_, rfl⟩⟩))⟩
  | 8, _ => exact ⟨rfl, .inr (.inr (.inr ⟨rfl, .inr ⟨_, rfl⟩⟩))⟩
  | 9, _ => exact ⟨rfl, .inr (.inr (.inr ⟨rfl, .inl ⟨_, rfl⟩⟩))⟩
  | 10, _ => exact ⟨rfl, .inr (.inr (.inr ⟨rfl, .inl ⟨_, rfl⟩⟩))⟩
  | 11, _ => exact ⟨rfl, .inr (.inr (.inr ⟨rfl, .inl ⟨_, rfl⟩⟩))⟩
  | 12, _ => exact ⟨rfl, .inr (.inr (.inr ⟨rfl, .inl ⟨_, rfl⟩⟩))⟩
  | 13, _ => exact ⟨rfl, .inr (.inr (.inr ⟨rfl, .inl ⟨_, rfl⟩⟩))⟩
  | 14, _ => exact ⟨rfl, .inr (.inr (.inr ⟨rfl, .inr ⟨_, rfl⟩⟩))⟩
  | 15, _ => exact ⟨rfl, .inr (.inr (.inr ⟨rfl, .inr ⟨_, rfl⟩⟩))⟩
  | k + 16, hk => omega
theorem hl_uw12 : ∀ x ∈ u_ws hl_R12 hl_T12 38, x ∈ hl_G := by
  have e : u_ws hl_R12 hl_T12 38 = [u_lay hl_R12 hl_T12 0, u_lay hl_R12 hl_T12 1, u_lay hl_R12 hl_T12 2, u_lay hl_R12 hl_T12 3, u_lay hl_R12 hl_T12 4, u_lay hl_R12 hl_T12 5, u_lay hl_R12 hl_T12 6, u_lay hl_R12 hl_T12 7, u_lay hl_R12 hl_T12 8, u_lay hl_R12 hl_T12 9, u_lay hl_R12 hl_T12 10, u_lay hl_R12 hl_T12 11, u_lay hl_R12 hl_T12 12, u_lay hl_R12 hl_T12 13, u_lay hl_R12 hl_T12 14, u_lay hl_R12 hl_T12 15, u_lay hl_R12 hl_T12 16, u_lay hl_R12 hl_T12 17, u_lay hl_R12 hl_T12 18, u_lay hl_R12 hl_T12 19, u_lay hl_R12 hl_T12 20, u_lay hl_R12 hl_T12 21, u_lay hl_R12 hl_T12 22, u_lay hl_R12 hl_T12 23, u_lay hl_R12 hl_T12 24, u_lay hl_R12 hl_T12 25, u_lay hl_R12 hl_T12 26, u_lay hl_R12 hl_T12 27, u_lay hl_R12 hl_T12 28, u_lay hl_R12 hl_T12 29, u_lay hl_R12 hl_T12 30, u_lay hl_R12 hl_T12 31, u_lay hl_R12 hl_T12 32, u_lay hl_R12 hl_T12 33, u_lay hl_R12 hl_T12 34, u_lay hl_R12 hl_T12 35, u_lay hl_R12 hl_T12 36, u_lay hl_R12 hl_T12 37] := rfl
  rw [e]
  exact List.forall_mem_cons.mpr ⟨hl_at (i := 1340) (by decide +kernel) (by decide +kernel),
    List.forall_mem_cons.mpr ⟨hl_at (i := 1342) (by decide +kernel) (by decide +kernel),
    List.forall_mem_cons.mpr ⟨hl_at (i := 1344) (by decide +kernel) (by decide +kernel),
    List.forall_mem_cons.mpr ⟨hl_at (i := 1346) (by decide +kernel) (by decide +kernel),
    List.forall_mem_cons.mpr ⟨hl_at (i := 1348) (by decide +kernel) (by decide +kernel),
    List.forall_mem_cons.mpr ⟨hl_at (i := 1350) (by decide +kernel) (by decide +kernel),
    List.forall_mem_cons.mpr ⟨hl_at (i := 1352) (by decide +kernel) (by decide +kernel),
    List.forall_mem_cons.mpr ⟨hl_at (i := 1354) (by decide +kernel) (by decide +kernel),
    List.forall_mem_cons.mpr ⟨hl_at (i := 1356) (by decide +kernel) (by decide +kernel),
    List.forall_mem_cons.mpr ⟨hl_at (i := 1358) (by decide +kernel) (by decide +kernel),
    List.forall_mem_cons.mpr ⟨hl_at (i := 1360) (by decide +kernel) (by decide +kernel),
    List.forall_mem_cons.mpr ⟨hl_at (i := 1362) (by decide +kernel) (by decide +kernel),
    List.forall_mem_cons.mpr ⟨hl_at (i := 1364) (by decide +kernel) (by decide +kernel),
    List.forall_mem_cons.mpr ⟨hl_at (i := 1366) (by decide +kernel) (by decide +kernel),
    List.forall_mem_cons.mpr ⟨hl_at (i := 1368) (by decide +kernel) (by decide +kernel),
    List.forall_mem_cons.mpr ⟨hl_at (i := 1370) (by decide +kernel) (by decide +kernel),
    List.forall_mem_cons.mpr ⟨hl_at (i := 1372) (by decide +kernel) (by decide +kernel),
    List.forall_mem_cons.mpr ⟨hl_at (i := 1374) (by decide +kernel) (by decide +kernel),
    List.forall_mem_cons.mpr ⟨hl_at (i := 1376) (by decide +kernel) (by decide +kernel),
    List.forall_mem_cons.mpr ⟨hl_at (i := 1378) (by decide +kernel) (by decide +kernel),
    List.forall_mem_cons.mpr ⟨hl_at (i := 1380) (by decide +kernel) (by decide +kernel),
    List.forall_mem_cons.mpr ⟨hl_at (i := 1382) (by decide +kernel) (by decide +kernel),
    List.forall_mem_cons.mpr ⟨hl_at (i := 1384) (by decide +kernel) (by decide +kernel),
    List.forall_mem_cons.mpr ⟨hl_at (i := 1386) (by decide +kernel) (by decide +kernel),
    List.forall_mem_cons.mpr ⟨hl_at (i := 1388) (by decide +kernel) (by decide +kernel),
    List.forall_mem_cons.mpr ⟨hl_at (i := 1390) (by decide +kernel) (by decide +kernel),
    List.forall_mem_cons.mpr ⟨hl_at (i := 1392) (by decide +kernel) (by decide +kernel),
    List.forall_mem_cons.mpr ⟨hl_at (i := 1394) (by decide +kernel) (by decide +kernel),
    List.forall_mem_cons.mpr ⟨hl_at (i := 1396) (by decide +kernel) (by decide +kernel),
    List.forall_mem_cons.mpr ⟨hl_at (i := 1398) (by decide +kernel) (by decide +kernel),
    List.forall_mem_cons.mpr ⟨hl_at (i := 1400) (by decide +kernel) (by decide +kernel),
    List.forall_mem_cons.mpr ⟨hl_at (i := 1402) (by decide +kernel) (by decide +kernel),
    List.forall_mem_cons.mpr ⟨hl_at (i := 1404) (by decide +kernel) (by decide +kernel),
    List.forall_mem_cons.mpr ⟨hl_at (i := 1406) (by decide +kernel) (by decide +kernel),
    List.forall_mem_cons.mpr ⟨hl_at (i := 1408) (by decide +kernel) (by decide +kernel),
    List.forall_mem_cons.mpr ⟨hl_at (i := 1410) (by decide +kernel) (by decide +kernel),
    List.forall_mem_cons.mpr ⟨hl_at (i := 1412) (by decide +kernel) (by decide +kernel),
    List.forall_mem_cons.mpr ⟨hl_at (i := 1414) (by decide +kernel) (by decide +kernel),
    fun _ h => absurd h List.not_mem_nil⟩⟩⟩⟩⟩⟩⟩⟩⟩⟩⟩⟩⟩⟩⟩⟩⟩⟩⟩⟩⟩⟩⟩⟩⟩⟩⟩⟩⟩⟩⟩⟩⟩⟩⟩⟩⟩⟩
theorem hl_c12 : hl_cOK 12 hl_R12 hl_T12 38 hl_t12 := by
  refine ⟨hl_uw12, hl_t12_ok, hl_n12, ?_, hl_at (i := 1295) (by decide +kernel) rfl, hl_at (i := 170) (by decide +kernel) rfl, rfl⟩
  intro k hk
  match k, hk with
  | 0, _ => exact ⟨rfl, .inl ⟨rfl, rfl⟩⟩
  | 1, _ => exact ⟨rfl, .inl ⟨rfl, rfl⟩⟩
  | 2, _ => exact ⟨rfl, .inl ⟨rfl, rfl⟩⟩
  | 3, _ => exact ⟨rfl, .inr (.inr (.inr ⟨rfl, .inr ⟨_, rfl⟩⟩))⟩
  | 4, _ => exact ⟨rfl, .inr (.inr (.inr ⟨rfl, .inr ⟨_, rfl⟩⟩))⟩
  | 5, _ => exact ⟨rfl, .inr (.inr (.inr ⟨rfl, .inr ⟨_, rfl⟩⟩))⟩
  | 6, _ => exact ⟨rfl, .inr (.inr (.inr ⟨rfl, .inr ⟨_, rfl⟩⟩))⟩
  | 7, _ => exact ⟨rfl, .inl ⟨rfl, rfl⟩⟩
  | 8, _ => exact ⟨rfl, .inl ⟨rfl, rfl⟩⟩
  | 9, _ => exact ⟨rfl, .inl ⟨rfl, rfl⟩⟩
  | 10, _ => exact ⟨rfl, .inl ⟨rfl, rfl⟩⟩
  | 11, _ => exact ⟨rfl, .inl ⟨rfl, rfl⟩⟩
  | 12, _ => exact ⟨rfl, .inl ⟨rfl, rfl⟩⟩
  | 13, _ => exact ⟨rfl, .inl ⟨rfl, rfl⟩⟩
  | 14, _ => exact ⟨rfl, .inr (.inl ⟨rfl, rfl⟩)⟩
  | 15, _ => exact ⟨rfl, .inl ⟨rfl, rfl⟩⟩
  | 16, _ => exact ⟨rfl, .inl ⟨rfl, rfl⟩⟩
  | 17, _ => exact ⟨rfl, .inl ⟨rfl, rfl⟩⟩
  | 18, _ => exact ⟨rfl, .inl ⟨rfl, rfl⟩⟩
  | 19, _ => exact ⟨rfl, .inr (.inr (.inr ⟨rfl, .inr ⟨_, rfl⟩⟩))⟩
  | 20, _ => exact ⟨rfl, .inl ⟨rfl, rfl⟩⟩
  | 21, _ => exact ⟨rfl, .inl ⟨rfl, rfl⟩⟩
  | 22, _ => exact ⟨rfl, .inr (.inr (.inl ⟨rfl, rfl⟩))⟩
  | 23, _ => exact ⟨rfl, .inr (.inr (.inr ⟨rfl, .inr ⟨_, rfl⟩⟩))⟩
  | 24, _ => exact ⟨rfl, .inr (.inr (.inr ⟨rfl, .inr ⟨_, rfl⟩⟩))⟩
  | 25, _ => exact ⟨rfl, .inr (.inr (.inr ⟨rfl, .inr ⟨_, rfl⟩⟩))⟩
  | 26, _ => exact ⟨rfl, .inr (.inr (.inr ⟨rfl, .inr ⟨_, rfl⟩⟩))⟩
  | 27, _ => exact ⟨rfl, .inr (.inr (.inr ⟨rfl, .inr ⟨_, rfl⟩⟩))⟩
  | 28, _ => exact ⟨rfl, .inr (.inr (.inr ⟨rfl, .inr ⟨_, rfl⟩⟩))⟩
  | 29, _ => exact ⟨rfl, .inr (.inr (.inr ⟨rfl, .inr ⟨_, rfl⟩⟩))⟩
  | 30, _ => exact ⟨rfl, .inr (.inr (.inr ⟨rfl, .inr ⟨_, rfl⟩⟩))⟩
  | 31, _ => exact ⟨rfl, .inr (.inr (.inr ⟨rfl, .inr ⟨_, rfl⟩⟩))⟩
  | 32, _ => exact ⟨rfl, .inl ⟨rfl, rfl⟩⟩
  | 33, _ => exact ⟨rfl, .inr (.inr (.inr ⟨rfl, .inr ⟨_, rfl⟩⟩))⟩
  | 34, _ => exact ⟨rfl, .inr (.inr (.inr ⟨rfl, .inr ⟨_, rfl⟩⟩))⟩
  | 35, _ => exact ⟨rfl, .inr (.inr (.inr ⟨rfl, .inr ⟨_, rfl⟩⟩))⟩
  | 36, _ => exact ⟨rfl, .inr (.inr (.inr ⟨rfl, .inr ⟨_, rfl⟩⟩))⟩
  | 37, _ => exact ⟨rfl, .inr (.inr (.inr ⟨rfl, .inr ⟨_, rfl⟩⟩))⟩
  | k + 38, hk => omega
theorem hl_cok {ci : Nat} {C : String} {T : u_T} {N : Nat} (h : hl_cl[ci]? = some (C, T, N)) : ∃ ty, hl_cOK ci C T N ty := by
  match ci, h with
  | 0, h => cases h; exact ⟨_, hl_c0⟩
  | 1, h => cases h; exact ⟨_, hl_c1⟩
  | 2, h => cases h; exact ⟨_, hl_c2⟩
  | 3, h => cases h; exact ⟨_, hl_c3⟩
  | 4, h => cases h; exact ⟨_, hl_c4⟩
  | 5, h => cases h; exact ⟨_, hl_c5⟩
  | 6, h => cases h; exact ⟨_, hl_c6⟩
  | 7, h => cases h; exact ⟨_, hl_c7⟩
  | 8, h => cases h; exact ⟨_, hl_c8⟩
  | 9, h => cases h; exact ⟨_, hl_c9⟩
  | 10, h => cases h; exact ⟨_, hl_c10⟩
  | 11, h => cases h; exact ⟨_, hl_c11⟩
  | 12, h => cases h; exact ⟨_, hl_c12⟩
  | ci + 13, h => simp [hl_cl] at h
theorem hl_w1 {i : Nat} {x : Cond} (h : tables_1_1[i]? = some x) (g : goodWord x = true) : x ∈ hl_G := hl_inG (List.mem_append_right _ (show x ∈ tables_1 from List.mem_append_left _ (List.mem_of_getElem? h))) g
theorem hl_w2 {i : Nat} {x : Cond} (h : tables_1_2[i]? = some x) (g : goodWord x = true) : x ∈ hl_G := hl_inG (List.mem_append_right _ (show x ∈ tables_1 from List.mem_append_right _ (List.mem_append_left _ (List.mem_of_getElem? h)))) g
theorem hl_w3 {i : Nat} {x : Cond} (h : tables_1_3[i]? = some x) (g : goodWord x = true) : x ∈ hl_G := hl_inG (List.mem_append_right _ (show x ∈ tables_1 from List.mem_append_right _ (List.mem_append_right _ (List.mem_append_left _ (List.mem_of_getElem? h))))) g
theorem hl_w4 {i : Nat} {x : Cond} (h : tables_1_4[i]? = some x) (g : goodWord x = true) : x ∈ hl_G := hl_inG (List.mem_append_right _ (show x ∈ tables_1 from List.mem_append_right _ (List.mem_append_right _ (List.mem_append_right _ (List.mem_append_left _ (List.mem_of_getElem? h)))))) g
theorem hl_w5 {i : Nat} {x : Cond} (h : tables_1_5[i]? = some x) (g : goodWord x = true) : x ∈ hl_G := hl_inG (List.mem_append_right _ (show x ∈ tables_1 from List.mem_append_right _ (List.mem_append_right _ (List.mem_append_right _ (List.mem_append_right _ (List.mem_append_left _ (List.mem_of_getElem? h))))))) g
theorem hl_w6 {i : Nat} {x : Cond} (h : tables_1_6[i]? = some x) (g : goodWord x = true) : x ∈ hl_G := hl_inG (List.mem_append_right _ (show x ∈ tables_1 from List.mem_append_right _ (List.mem_append_right _ (List.mem_append_right _ (List.mem_append_right _ (List.mem_append_right _ (List.mem_append_left _ (List.mem_of_getElem? h)))))))) g
theorem hl_w7 {i : Nat} {x : Cond} (h : tables_1_7[i]? = some x) (g : goodWord x = true) : x ∈ hl_G := hl_inG (List.mem_append_right _ (show x ∈ tables_1 from List.mem_append_right _ (List.mem_append_right _ (List.mem_append_right _ (List.mem_append_right _ (List.mem_append_right _ (List.mem_append_right _ (List.mem_append_left _ (List.mem_of_getElem? h))))))))) g
theorem hl_w8 {i : Nat} {x : Cond} (h : tables_1_8[i]? = some x) (g : goodWord x = true) : x ∈ hl_G := hl_inG (List.mem_append_right _ (show x ∈ tables_1 from List.mem_append_right _ (List.mem_append_right _ (List.mem_append_right _ (List.mem_append_right _ (List.mem_append_right _ (List.mem_append_right _ (List.mem_append_right _ (List.mem_of_getElem? h))))))))) g
theorem hl_ml_lt_0 : ∀ e ∈ hl_mlL 0, e.2 < 268 := by decide +kernel
theorem hl_ml_lt_1 : ∀ e ∈ hl_mlL 1, e.2 < 268 := by decide +kernel
theorem hl_ml_lt_2 : ∀ e ∈ hl_mlL 2, e.2 < 268 := by decide +kernel
theorem hl_ml_lt_3 : ∀ e ∈ hl_mlL 3, e.2 < 268 := by decide +kernel
theorem hl_ml_lt_4 : ∀ e ∈ hl_mlL 4, e.2 < 268 := by decide +kernel
theorem hl_ml_lt_5 : ∀ e ∈ hl_mlL 5, e.2 < 268 := by decide +kernel
theorem hl_ml_lt_6 : ∀ e ∈ hl_mlL 6, e.2 < 268 := by decide +kernel
theorem hl_ml_lt_7 : ∀ e ∈ hl_mlL 7, e.2 < 268 := by decide +kernel
theorem hl_ml_lt_8 : ∀ e ∈ hl_mlL 8, e.2 < 268 := by decide +kernel
theorem hl_ml_lt_9 : ∀ e ∈ hl_mlL 9, e.2 < 268 := by decide +kernel
theorem hl_ml_lt_10 : ∀ e ∈ hl_mlL 10, e.2 < 268 := by decide +kernel
theorem hl_ml_lt_11 : ∀ e ∈ hl_mlL 11, e.2 < 268 := by decide +kernel
theorem hl_ml_lt_12 : ∀ e ∈ hl_mlL 12, e.2 < 268 := by decide +kernel
theorem hl_ml_lt_15 : ∀ e ∈ hl_mlL 15, e.2 < 268 := by decide +kernel
theorem hl_ml_lt {o ix : Nat} {j : Nat} (h : hl_ml o ix = some j) : j < 268 := by
  have h1 := hl_lkm h
  match o, h1 with
  | 0, h1 => exact hl_ml_lt_0 _ h1
  | 1, h1 => exact hl_ml_lt_1 _ h1
  | 2, h1 => exact hl_ml_lt_2 _ h1
  | 3, h1 => exact hl_ml_lt_3 _ h1
  | 4, h1 => exact hl_ml_lt_4 _ h1
  | 5, h1 => exact hl_ml_lt_5 _ h1
  | 6, h1 => exact hl_ml_lt_6 _ h1
  | 7, h1 => exact hl_ml_lt_7 _ h1
  | 8, h1 => exact hl_ml_lt_8 _ h1
  | 9, h1 => exact hl_ml_lt_9 _ h1
  | 10, h1 => exact hl_ml_lt_10 _ h1
  | 11, h1 => exact hl_ml_lt_11 _ h1
  | 12, h1 => exact hl_ml_lt_12 _ h1
  | 13, h1 => exact absurd h1 List.not_mem_nil
  | 14, h1 => exact absurd h1 List.not_mem_nil
  | 15, h1 => exact hl_ml_lt_15 _ h1
  | o + 16, h1 => exact absurd h1 List.not_mem_nil
/-- a method of mine: its words -/
def hl_jOK (j : Nat) : Prop := (plainName (hl_y j).cls = true ∧ (hl_y j).cls = hl_R (hl_o j) ∧ Cond.code (hl_y j) (hl_b j) (hl_m j) (hl_ret j) ∈ hl_G ∧ Cond.initialized (hl_y j).cls ∈ hl_G ∧ ((hl_y j).cls ≠ "java/lang/invoke/MethodHandle" ∧ (hl_y j).cls ≠ "java/lang/invoke/VarHandle" ∧ (parseMethodDescriptor (hl_y j).desc).map (fun d => d.parameters.length) = some (hl_a j)) ∧ hl_m j ≤ 10) ∧ (hl_kd j = 0 → Cond.static (hl_y j) ∈ hl_G) ∧ (hl_kd j = 1 → Cond.instanceMethod (hl_y j) ∈ hl_G ∧ Cond.selects (hl_y j).cls (hl_y j) (hl_y j) ∈ hl_G) ∧ (hl_kd j = 2 → (hl_y j).name = "<init>" ∧ Cond.instanceMethod (hl_y j) ∈ hl_G ∧ hl_ret j = none)
set_option maxRecDepth 20000 in
theorem hl_jj2 : hl_jOK 2 := by
  refine ⟨⟨by decide +kernel, by decide +kernel, hl_w2 (i := 123) rfl rfl, hl_at (i := 169) (by decide +kernel) rfl, by decide +kernel, by decide +kernel⟩, ?_, ?_, ?_⟩
  · exact fun h => absurd h (by decide +kernel)
  · exact fun h => absurd h (by decide +kernel)
  · exact fun _ => ⟨by decide +kernel, hl_at (i := 518) (by decide +kernel) rfl, by decide +kernel⟩
set_option maxRecDepth 20000 in
theorem hl_jj3 : hl_jOK 3 := by
  refine ⟨⟨by decide +kernel, by decide +kernel, hl_w5 (i := 46) rfl rfl, hl_at (i := 169) (by decide +kernel) rfl, by decide +kernel, by decide +kernel⟩, ?_, ?_, ?_⟩
  · exact fun h => absurd h (by decide +kernel)
  · exact fun _ => ⟨hl_at (i := 1161) (by decide +kernel) rfl, hl_at (i := 76) (by decide +kernel) rfl⟩
  · exact fun h => absurd h (by decide +kernel)
set_option maxRecDepth 20000 in
theorem hl_jj4 : hl_jOK 4 := by
  refine ⟨⟨by decide +kernel, by decide +kernel, hl_w5 (i := 51) rfl rfl, hl_at (i := 169) (by decide +kernel) rfl, by decide +kernel, by decide +kernel⟩, ?_, ?_, ?_⟩
  · exact fun h => absurd h (by decide +kernel)
  · exact fun _ => ⟨hl_at (i := 1166) (by decide +kernel) rfl, hl_at (i := 77) (by decide +kernel) rfl⟩
  · exact fun h => absurd h (by decide +kernel)
set_option maxRecDepth 20000 in
theorem hl_jj5 : hl_jOK 5 := by
  refine ⟨⟨by decide +kernel, by decide +kernel, hl_w5 (i := 70) rfl rfl, hl_at (i := 169) (by decide +kernel) rfl, by decide +kernel, by decide +kernel⟩, ?_, ?_, ?_⟩
  · exact fun h => absurd h (by decide +kernel)
  · exact fun _ => ⟨hl_at (i := 1185) (by decide +kernel) rfl, hl_at (i := 81) (by decide +kernel) rfl⟩
  · exact fun h => absurd h (by decide +kernel)
set_option maxRecDepth 20000 in
theorem hl_jj6 : hl_jOK 6 := by
  refine ⟨⟨by decide +kernel, by decide +kernel, hl_w5 (i := 55) rfl rfl, hl_at (i := 169) (by decide +kernel) rfl, by decide +kernel, by decide +kernel⟩, ?_, ?_, ?_⟩
  · exact fun h => absurd h (by decide +kernel)
  · exact fun _ => ⟨hl_at (i := 1170) (by decide +kernel) rfl, hl_at (i := 78) (by decide +kernel) rfl⟩
  · exact fun h => absurd h (by decide +kernel)
set_option maxRecDepth 20000 in
theorem hl_jj7 : hl_jOK 7 := by
  refine ⟨⟨by decide +kernel, by decide +kernel, hl_w1 (i := 37) rfl rfl, hl_at (i := 158) (by decide +kernel) rfl, by decide +kernel, by decide +kernel⟩, ?_, ?_, ?_⟩
  · exact fun h => absurd h (by decide +kernel)
  · exact fun h => absurd h (by decide +kernel)
  · exact fun _ => ⟨by decide +kernel, hl_at (i := 192) (by decide +kernel) rfl, by decide +kernel⟩
set_option maxRecDepth 20000 in
theorem hl_jj8 : hl_jOK 8 := by
  refine ⟨⟨by decide +kernel, by decide +kernel, hl_w5 (i := 151) rfl rfl, hl_at (i := 158) (by decide +kernel) rfl, by decide +kernel, by decide +kernel⟩, ?_, ?_, ?_⟩
  · exact fun h => absurd h (by decide +kernel)
  · exact fun _ => ⟨hl_at (i := 1266) (by decide +kernel) rfl, hl_at (i := 91) (by decide +kernel) rfl⟩
  · exact fun h => absurd h (by decide +kernel)
set_option maxRecDepth 20000 in
theorem hl_jj9 : hl_jOK 9 := by
  refine ⟨⟨by decide +kernel, by decide +kernel, hl_w4 (i := 10) rfl rfl, hl_at (i := 158) (by decide +kernel) rfl, by decide +kernel, by decide +kernel⟩, ?_, ?_, ?_⟩
  · exact fun h => absurd h (by decide +kernel)
  · exact fun _ => ⟨hl_at (i := 885) (by decide +kernel) rfl, hl_at (i := 28) (by decide +kernel) rfl⟩
  · exact fun h => absurd h (by decide +kernel)
set_option maxRecDepth 20000 in
theorem hl_jj10 : hl_jOK 10 := by
  refine ⟨⟨by decide +kernel, by decide +kernel, hl_w4 (i := 15) rfl rfl, hl_at (i := 158) (by decide +kernel) rfl, by decide +kernel, by decide +kernel⟩, ?_, ?_, ?_⟩
  · exact fun h => absurd h (by decide +kernel)
  · exact fun _ => ⟨hl_at (i := 890) (by decide +kernel) rfl, hl_at (i := 29) (by decide +kernel) rfl⟩
  · exact fun h => absurd h (by decide +kernel)
set_option maxRecDepth 20000 in
theorem hl_jj11 : hl_jOK 11 := by
  refine ⟨⟨by decide +kernel, by decide +kernel, hl_w4 (i := 19) rfl rfl, hl_at (i := 158) (by decide +kernel) rfl, by decide +kernel, by decide +kernel⟩, ?_, ?_, ?_⟩
  · exact fun h => absurd h (by decide +kernel)
  · exact fun _ => ⟨hl_at (i := 894) (by decide +kernel) rfl, hl_at (i := 30) (by decide +kernel) rfl⟩
  · exact fun h => absurd h (by decide +kernel)
set_option maxRecDepth 20000 in
theorem hl_jj12 : hl_jOK 12 := by
  refine ⟨⟨by decide +kernel, by decide +kernel, hl_w4 (i := 126) rfl rfl, hl_at (i := 158) (by decide +kernel) rfl, by decide +kernel, by decide +kernel⟩, ?_, ?_, ?_⟩
  · exact fun h => absurd h (by decide +kernel)
  · exact fun _ => ⟨hl_at (i := 1001) (by decide +kernel) rfl, hl_at (i := 48) (by decide +kernel) rfl⟩
  · exact fun h => absurd h (by decide +kernel)
set_option maxRecDepth 20000 in
theorem hl_jj13 : hl_jOK 13 := by
  refine ⟨⟨by decide +kernel, by decide +kernel, hl_w4 (i := 130) rfl rfl, hl_at (i := 158) (by decide +kernel) rfl, by decide +kernel, by decide +kernel⟩, ?_, ?_, ?_⟩
  · exact fun h => absurd h (by decide +kernel)
  · exact fun _ => ⟨hl_at (i := 1005) (by decide +kernel) rfl, hl_at (i := 49) (by decide +kernel) rfl⟩
  · exact fun h => absurd h (by decide +kernel)
set_option maxRecDepth 20000 in
theorem hl_jj14 : hl_jOK 14 := by
  refine ⟨⟨by decide +kernel, by decide +kernel, hl_w2 (i := 55) rfl rfl, hl_at (i := 167) (by decide +kernel) rfl, by decide +kernel, by decide +kernel⟩, ?_, ?_, ?_⟩
  · exact fun h => absurd h (by decide +kernel)
  · exact fun h => absurd h (by decide +kernel)
  · exact fun _ => ⟨by decide +kernel, hl_at (i := 450) (by decide +kernel) rfl, by decide +kernel⟩
set_option maxRecDepth 20000 in
theorem hl_jj15 : hl_jOK 15 := by
  refine ⟨⟨by decide +kernel, by decide +kernel, hl_w4 (i := 167) rfl rfl, hl_at (i := 167) (by decide +kernel) rfl, by decide +kernel, by decide +kernel⟩, ?_, ?_, ?_⟩
  · exact fun h => absurd h (by decide +kernel)
  · exact fun _ => ⟨hl_at (i := 1042) (by decide +kernel) rfl, hl_at (i := 56) (by decide +kernel) rfl⟩
  · exact fun h => absurd h (by decide +kernel)
set_option maxRecDepth 20000 in
theorem hl_jj16 : hl_jOK 16 := by
  refine ⟨⟨by decide +kernel, by decide +kernel, hl_w4 (i := 180) rfl rfl, hl_at (i := 167) (by decide +kernel) rfl, by decide +kernel, by decide +kernel⟩, ?_, ?_, ?_⟩
  · exact fun h => absurd h (by decide +kernel)
  · exact fun _ => ⟨hl_at (i := 1055) (by decide +kernel) rfl, hl_at (i := 59) (by decide +kernel) rfl⟩
  · exact fun h => absurd h (by decide +kernel)
set_option maxRecDepth 20000 in
theorem hl_jj17 : hl_jOK 17 := by
  refine ⟨⟨by decide +kernel, by decide +kernel, hl_w4 (i := 185) rfl rfl, hl_at (i := 167) (by decide +kernel) rfl, by decide +kernel, by decide +kernel⟩, ?_, ?_, ?_⟩
  · exact fun h => absurd h (by decide +kernel)
  · exact fun _ => ⟨hl_at (i := 1060) (by decide +kernel) rfl, hl_at (i := 60) (by decide +kernel) rfl⟩
  · exact fun h => absurd h (by decide +kernel)
set_option maxRecDepth 20000 in
theorem hl_jj18 : hl_jOK 18 := by
  refine ⟨⟨by decide +kernel, by decide +kernel, hl_w4 (i := 193) rfl rfl, hl_at (i := 167) (by decide +kernel) rfl, by decide +kernel, by decide +kernel⟩, ?_, ?_, ?_⟩
  · exact fun h => absurd h (by decide +kernel)
  · exact fun _ => ⟨hl_at (i := 1068) (by decide +kernel) rfl, hl_at (i := 62) (by decide +kernel) rfl⟩
  · exact fun h => absurd h (by decide +kernel)
set_option maxRecDepth 20000 in
theorem hl_jj19 : hl_jOK 19 := by
  refine ⟨⟨by decide +kernel, by decide +kernel, hl_w4 (i := 226) rfl rfl, hl_at (i := 167) (by decide +kernel) rfl, by decide +kernel, by decide +kernel⟩, ?_, ?_, ?_⟩
  · exact fun h => absurd h (by decide +kernel)
  · exact fun _ => ⟨hl_at (i := 1101) (by decide +kernel) rfl, hl_at (i := 69) (by decide +kernel) rfl⟩
  · exact fun h => absurd h (by decide +kernel)
set_option maxRecDepth 20000 in
theorem hl_jj20 : hl_jOK 20 := by
  refine ⟨⟨by decide +kernel, by decide +kernel, hl_w4 (i := 197) rfl rfl, hl_at (i := 167) (by decide +kernel) rfl, by decide +kernel, by decide +kernel⟩, ?_, ?_, ?_⟩
  · exact fun h => absurd h (by decide +kernel)
  · exact fun _ => ⟨hl_at (i := 1072) (by decide +kernel) rfl, hl_at (i := 63) (by decide +kernel) rfl⟩
  · exact fun h => absurd h (by decide +kernel)
set_option maxRecDepth 20000 in
theorem hl_jj21 : hl_jOK 21 := by
  refine ⟨⟨by decide +kernel, by decide +kernel, hl_w4 (i := 201) rfl rfl, hl_at (i := 167) (by decide +kernel) rfl, by decide +kernel, by decide +kernel⟩, ?_, ?_, ?_⟩
  · exact fun h => absurd h (by decide +kernel)
  · exact fun _ => ⟨hl_at (i := 1076) (by decide +kernel) rfl, hl_at (i := 64) (by decide +kernel) rfl⟩
  · exact fun h => absurd h (by decide +kernel)
set_option maxRecDepth 20000 in
theorem hl_jj22 : hl_jOK 22 := by
  refine ⟨⟨by decide +kernel, by decide +kernel, hl_w4 (i := 206) rfl rfl, hl_at (i := 167) (by decide +kernel) rfl, by decide +kernel, by decide +kernel⟩, ?_, ?_, ?_⟩
  · exact fun h => absurd h (by decide +kernel)
  · exact fun _ => ⟨hl_at (i := 1081) (by decide +kernel) rfl, hl_at (i := 65) (by decide +kernel) rfl⟩
  · exact fun h => absurd h (by decide +kernel)
set_option maxRecDepth 20000 in
theorem hl_jj23 : hl_jOK 23 := by
  refine ⟨⟨by decide +kernel, by decide +kernel, hl_w4 (i := 218) rfl rfl, hl_at (i := 167) (by decide +kernel) rfl, by decide +kernel, by decide +kernel⟩, ?_, ?_, ?_⟩
  · exact fun h => absurd h (by decide +kernel)
  · exact fun _ => ⟨hl_at (i := 1093) (by decide +kernel) rfl, hl_at (i := 67) (by decide +kernel) rfl⟩
  · exact fun h => absurd h (by decide +kernel)
set_option maxRecDepth 20000 in
theorem hl_jj24 : hl_jOK 24 := by
  refine ⟨⟨by decide +kernel, by decide +kernel, hl_w4 (i := 211) rfl rfl, hl_at (i := 167) (by decide +kernel) rfl, by decide +kernel, by decide +kernel⟩, ?_, ?_, ?_⟩
  · exact fun h => absurd h (by decide +kernel)
  · exact fun _ => ⟨hl_at (i := 1086) (by decide +kernel) rfl, hl_at (i := 66) (by decide +kernel) rfl⟩
  · exact fun h => absurd h (by decide +kernel)
set_option maxRecDepth 20000 in
theorem hl_jj25 : hl_jOK 25 := by
  refine ⟨⟨by decide +kernel, by decide +kernel, hl_w2 (i := 49) rfl rfl, hl_at (i := 166) (by decide +kernel) rfl, by decide +kernel, by decide +kernel⟩, ?_, ?_, ?_⟩
  · exact fun h => absurd h (by decide +kernel)
  · exact fun h => absurd h (by decide +kernel)
  · exact fun _ => ⟨by decide +kernel, hl_at (i := 444) (by decide +kernel) rfl, by decide +kernel⟩
set_option maxRecDepth 20000 in
theorem hl_jj26 : hl_jOK 26 := by
  refine ⟨⟨by decide +kernel, by decide +kernel, hl_w4 (i := 149) rfl rfl, hl_at (i := 166) (by decide +kernel) rfl, by decide +kernel, by decide +kernel⟩, ?_, ?_, ?_⟩
  · exact fun h => absurd h (by decide +kernel)
  · exact fun _ => ⟨hl_at (i := 1024) (by decide +kernel) rfl, hl_at (i := 52) (by decide +kernel) rfl⟩
  · exact fun h => absurd h (by decide +kernel)
set_option maxRecDepth 20000 in
theorem hl_jj27 : hl_jOK 27 := by
  refine ⟨⟨by decide +kernel, by decide +kernel, hl_w4 (i := 153) rfl rfl, hl_at (i := 166) (by decide +kernel) rfl, by decide +kernel, by decide +kernel⟩, ?_, ?_, ?_⟩
  · exact fun h => absurd h (by decide +kernel)
  · exact fun _ => ⟨hl_at (i := 1028) (by decide +kernel) rfl, hl_at (i := 53) (by decide +kernel) rfl⟩
  · exact fun h => absurd h (by decide +kernel)
set_option maxRecDepth 20000 in
theorem hl_jj28 : hl_jOK 28 := by
  refine ⟨⟨by decide +kernel, by decide +kernel, hl_w4 (i := 161) rfl rfl, hl_at (i := 166) (by decide +kernel) rfl, by decide +kernel, by decide +kernel⟩, ?_, ?_, ?_⟩
  · exact fun h => absurd h (by decide +kernel)
  · exact fun _ => ⟨hl_at (i := 1036) (by decide +kernel) rfl, hl_at (i := 55) (by decide +kernel) rfl⟩
  · exact fun h => absurd h (by decide +kernel)
set_option maxRecDepth 20000 in
theorem hl_jj29 : hl_jOK 29 := by
  refine ⟨⟨by decide +kernel, by decide +kernel, hl_w4 (i := 157) rfl rfl, hl_at (i := 166) (by decide +kernel) rfl, by decide +kernel, by decide +kernel⟩, ?_, ?_, ?_⟩
  · exact fun h => absurd h (by decide +kernel)
  · exact fun _ => ⟨hl_at (i := 1032) (by decide +kernel) rfl, hl_at (i := 54) (by decide +kernel) rfl⟩
  · exact fun h => absurd h (by decide +kernel)
set_option maxRecDepth 20000 in
theorem hl_jj30 : hl_jOK 30 := by
  refine ⟨⟨by decide +kernel, by decide +kernel, hl_w4 (i := 176) rfl rfl, hl_at (i := 166) (by decide +kernel) rfl, by decide +kernel, by decide +kernel⟩, ?_, ?_, ?_⟩
  · exact fun h => absurd h (by decide +kernel)
  · exact fun _ => ⟨hl_at (i := 1051) (by decide +kernel) rfl, hl_at (i := 58) (by decide +kernel) rfl⟩
  · exact fun h => absurd h (by decide +kernel)
set_option maxRecDepth 20000 in
theorem hl_jj31 : hl_jOK 31 := by
  refine ⟨⟨by decide +kernel, by decide +kernel, hl_w4 (i := 172) rfl rfl, hl_at (i := 166) (by decide +kernel) rfl, by decide +kernel, by decide +kernel⟩, ?_, ?_, ?_⟩
  · exact fun h => absurd h (by decide +kernel)
  · exact fun _ => ⟨hl_at (i := 1047) (by decide +kernel) rfl, hl_at (i := 57) (by decide +kernel) rfl⟩
  · exact fun h => absurd h (by decide +kernel)
set_option maxRecDepth 20000 in
theorem hl_jj32 : hl_jOK 32 := by
  refine ⟨⟨by decide +kernel, by decide +kernel, hl_w4 (i := 189) rfl rfl, hl_at (i := 166) (by decide +kernel) rfl, by decide +kernel, by decide +kernel⟩, ?_, ?_, ?_⟩
  · exact fun h => absurd h (by decide +kernel)
  · exact fun _ => ⟨hl_at (i := 1064) (by decide +kernel) rfl, hl_at (i := 61) (by decide +kernel) rfl⟩
  · exact fun h => absurd h (by decide +kernel)
set_option maxRecDepth 20000 in
theorem hl_jj33 : hl_jOK 33 := by
  refine ⟨⟨by decide +kernel, by decide +kernel, hl_w4 (i := 222) rfl rfl, hl_at (i := 166) (by decide +kernel) rfl, by decide +kernel, by decide +kernel⟩, ?_, ?_, ?_⟩
  · exact fun h => absurd h (by decide +kernel)
  · exact fun _ => ⟨hl_at (i := 1097) (by decide +kernel) rfl, hl_at (i := 68) (by decide +kernel) rfl⟩
  · exact fun h => absurd h (by decide +kernel)
set_option maxRecDepth 20000 in
theorem hl_jj34 : hl_jOK 34 := by
  refine ⟨⟨by decide +kernel, by decide +kernel, hl_w5 (i := 14) rfl rfl, hl_at (i := 166) (by decide +kernel) rfl, by decide +kernel, by decide +kernel⟩, ?_, ?_, ?_⟩
  · exact fun h => absurd h (by decide +kernel)
  · exact fun _ => ⟨hl_at (i := 1129) (by decide +kernel) rfl, hl_at (i := 73) (by decide +kernel) rfl⟩
  · exact fun h => absurd h (by decide +kernel)
set_option maxRecDepth 20000 in
theorem hl_jj35 : hl_jOK 35 := by
  refine ⟨⟨by decide +kernel, by decide +kernel, hl_w2 (i := 36) rfl rfl, hl_at (i := 165) (by decide +kernel) rfl, by decide +kernel, by decide +kernel⟩, ?_, ?_, ?_⟩
  · exact fun h => absurd h (by decide +kernel)
  · exact fun h => absurd h (by decide +kernel)
  · exact fun _ => ⟨by decide +kernel, hl_at (i := 431) (by decide +kernel) rfl, by decide +kernel⟩
set_option maxRecDepth 20000 in
theorem hl_jj36 : hl_jOK 36 := by
  refine ⟨⟨by decide +kernel, by decide +kernel, hl_w4 (i := 95) rfl rfl, hl_at (i := 165) (by decide +kernel) rfl, by decide +kernel, by decide +kernel⟩, ?_, ?_, ?_⟩
  · exact fun h => absurd h (by decide +kernel)
  · exact fun _ => ⟨hl_at (i := 970) (by decide +kernel) rfl, hl_at (i := 41) (by decide +kernel) rfl⟩
  · exact fun h => absurd h (by decide +kernel)
set_option maxRecDepth 20000 in
theorem hl_jj37 : hl_jOK 37 := by
  refine ⟨⟨by decide +kernel, by decide +kernel, hl_w4 (i := 99) rfl rfl, hl_at (i := 165) (by decide +kernel) rfl, by decide +kernel, by decide +kernel⟩, ?_, ?_, ?_⟩
  · exact fun h => absurd h (by decide +kernel)
  · exact fun _ => ⟨hl_at (i := 974) (by decide +kernel) rfl, hl_at (i := 42) (by decide +kernel) rfl⟩
  · exact fun h => absurd h (by decide +kernel)
set_option maxRecDepth 20000 in
theorem hl_jj38 : hl_jOK 38 := by
  refine ⟨⟨by decide +kernel, by decide +kernel, hl_w4 (i := 103) rfl rfl, hl_at (i := 165) (by decide +kernel) rfl, by decide +kernel, by decide +kernel⟩, ?_, ?_, ?_⟩
  · exact fun h => absurd h (by decide +kernel)
  · exact fun _ => ⟨hl_at (i := 978) (by decide +kernel) rfl, hl_at (i := 43) (by decide +kernel) rfl⟩
  · exact fun h => absurd h (by decide +kernel)
set_option maxRecDepth 20000 in
theorem hl_jj39 : hl_jOK 39 := by
  refine ⟨⟨by decide +kernel, by decide +kernel, hl_w4 (i := 122) rfl rfl, hl_at (i := 165) (by decide +kernel) rfl, by decide +kernel, by decide +kernel⟩, ?_, ?_, ?_⟩
  · exact fun h => absurd h (by decide +kernel)
  · exact fun _ => ⟨hl_at (i := 997) (by decide +kernel) rfl, hl_at (i := 47) (by decide +kernel) rfl⟩
  · exact fun h => absurd h (by decide +kernel)
set_option maxRecDepth 20000 in
theorem hl_jj40 : hl_jOK 40 := by
  refine ⟨⟨by decide +kernel, by decide +kernel, hl_w4 (i := 134) rfl rfl, hl_at (i := 165) (by decide +kernel) rfl, by decide +kernel, by decide +kernel⟩, ?_, ?_, ?_⟩
  · exact fun h => absurd h (by decide +kernel)
  · exact fun _ => ⟨hl_at (i := 1009) (by decide +kernel) rfl, hl_at (i := 50) (by decide +kernel) rfl⟩
  · exact fun h => absurd h (by decide +kernel)
set_option maxRecDepth 20000 in
theorem hl_jj41 : hl_jOK 41 := by
  refine ⟨⟨by decide +kernel, by decide +kernel, hl_w4 (i := 137) rfl rfl, hl_at (i := 165) (by decide +kernel) rfl, by decide +kernel, by decide +kernel⟩, ?_, ?_, ?_⟩
  · exact fun _ => hl_at (i := 1012) (by decide +kernel) rfl
  · exact fun h => absurd h (by decide +kernel)
  · exact fun h => absurd h (by decide +kernel)
set_option maxRecDepth 20000 in
theorem hl_jj42 : hl_jOK 42 := by
  refine ⟨⟨by decide +kernel, by decide +kernel, hl_w2 (i := 17) rfl rfl, hl_at (i := 164) (by decide +kernel) rfl, by decide +kernel, by decide +kernel⟩, ?_, ?_, ?_⟩
  · exact fun h => absurd h (by decide +kernel)
  · exact fun h => absurd h (by decide +kernel)
  · exact fun _ => ⟨by decide +kernel, hl_at (i := 412) (by decide +kernel) rfl, by decide +kernel⟩
set_option maxRecDepth 20000 in
theorem hl_jj43 : hl_jOK 43 := by
  refine ⟨⟨by decide +kernel, by decide +kernel, hl_w2 (i := 210) rfl rfl, hl_at (i := 164) (by decide +kernel) rfl, by decide +kernel, by decide +kernel⟩, ?_, ?_, ?_⟩
  · exact fun h => absurd h (by decide +kernel)
  · exact fun _ => ⟨hl_at (i := 605) (by decide +kernel) rfl, hl_at (i := 1) (by decide +kernel) rfl⟩
  · exact fun h => absurd h (by decide +kernel)
set_option maxRecDepth 20000 in
theorem hl_jj44 : hl_jOK 44 := by
  refine ⟨⟨by decide +kernel, by decide +kernel, hl_w2 (i := 226) rfl rfl, hl_at (i := 164) (by decide +kernel) rfl, by decide +kernel, by decide +kernel⟩, ?_, ?_, ?_⟩
  · exact fun h => absurd h (by decide +kernel)
  · exact fun _ => ⟨hl_at (i := 621) (by decide +kernel) rfl, hl_at (i := 3) (by decide +kernel) rfl⟩
  · exact fun h => absurd h (by decide +kernel)
set_option maxRecDepth 20000 in
theorem hl_jj45 : hl_jOK 45 := by
  refine ⟨⟨by decide +kernel, by decide +kernel, hl_w4 (i := 28) rfl rfl, hl_at (i := 164) (by decide +kernel) rfl, by decide +kernel, by decide +kernel⟩, ?_, ?_, ?_⟩
  · exact fun h => absurd h (by decide +kernel)
  · exact fun _ => ⟨hl_at (i := 903) (by decide +kernel) rfl, hl_at (i := 31) (by decide +kernel) rfl⟩
  · exact fun h => absurd h (by decide +kernel)
set_option maxRecDepth 20000 in
theorem hl_jj46 : hl_jOK 46 := by
  refine ⟨⟨by decide +kernel, by decide +kernel, hl_w4 (i := 32) rfl rfl, hl_at (i := 164) (by decide +kernel) rfl, by decide +kernel, by decide +kernel⟩, ?_, ?_, ?_⟩
  · exact fun h => absurd h (by decide +kernel)
  · exact fun _ => ⟨hl_at (i := 907) (by decide +kernel) rfl, hl_at (i := 32) (by decide +kernel) rfl⟩
  · exact fun h => absurd h (by decide +kernel)
set_option maxRecDepth 20000 in
theorem hl_jj47 : hl_jOK 47 := by
  refine ⟨⟨by decide +kernel, by decide +kernel, hl_w4 (i := 37) rfl rfl, hl_at (i := 164) (by decide +kernel) rfl, by decide +kernel, by decide +kernel⟩, ?_, ?_, ?_⟩
  · exact fun h => absurd h (by decide +kernel)
  · exact fun _ => ⟨hl_at (i := 912) (by decide +kernel) rfl, hl_at (i := 33) (by decide +kernel) rfl⟩
  · exact fun h => absurd h (by decide +kernel)
set_option maxRecDepth 20000 in
theorem hl_jj48 : hl_jOK 48 := by
  refine ⟨⟨by decide +kernel, by decide +kernel, hl_w4 (i := 87) rfl rfl, hl_at (i := 164) (by decide +kernel) rfl, by decide +kernel, by decide +kernel⟩, ?_, ?_, ?_⟩
  · exact fun h => absurd h (by decide +kernel)
  · exact fun _ => ⟨hl_at (i := 962) (by decide +kernel) rfl, hl_at (i := 40) (by decide +kernel) rfl⟩
  · exact fun h => absurd h (by decide +kernel)
set_option maxRecDepth 20000 in
theorem hl_jj49 : hl_jOK 49 := by
  refine ⟨⟨by decide +kernel, by decide +kernel, hl_w5 (i := 37) rfl rfl, hl_at (i := 164) (by decide +kernel) rfl, by decide +kernel, by decide +kernel⟩, ?_, ?_, ?_⟩
  · exact fun h => absurd h (by decide +kernel)
  · exact fun _ => ⟨hl_at (i := 1152) (by decide +kernel) rfl, hl_at (i := 75) (by decide +kernel) rfl⟩
  · exact fun h => absurd h (by decide +kernel)
set_option maxRecDepth 20000 in
theorem hl_jj50 : hl_jOK 50 := by
  refine ⟨⟨by decide +kernel, by decide +kernel, hl_w4 (i := 112) rfl rfl, hl_at (i := 164) (by decide +kernel) rfl, by decide +kernel, by decide +kernel⟩, ?_, ?_, ?_⟩
  · exact fun h => absurd h (by decide +kernel)
  · exact fun _ => ⟨hl_at (i := 987) (by decide +kernel) rfl, hl_at (i := 45) (by decide +kernel) rfl⟩
  · exact fun h => absurd h (by decide +kernel)
set_option maxRecDepth 20000 in
theorem hl_jj51 : hl_jOK 51 := by
  refine ⟨⟨by decide +kernel, by decide +kernel, hl_w5 (i := 29) rfl rfl, hl_at (i := 164) (by decide +kernel) rfl, by decide +kernel, by decide +kernel⟩, ?_, ?_, ?_⟩
  · exact fun h => absurd h (by decide +kernel)
  · exact fun _ => ⟨hl_at (i := 1144) (by decide +kernel) rfl, hl_at (i := 74) (by decide +kernel) rfl⟩
  · exact fun h => absurd h (by decide +kernel)
set_option maxRecDepth 20000 in
theorem hl_jj52 : hl_jOK 52 := by
  refine ⟨⟨by decide +kernel, by decide +kernel, hl_w5 (i := 89) rfl rfl, hl_at (i := 164) (by decide +kernel) rfl, by decide +kernel, by decide +kernel⟩, ?_, ?_, ?_⟩
  · exact fun h => absurd h (by decide +kernel)
  · exact fun _ => ⟨hl_at (i := 1204) (by decide +kernel) rfl, hl_at (i := 83) (by decide +kernel) rfl⟩
  · exact fun h => absurd h (by decide +kernel)
set_option maxRecDepth 20000 in
theorem hl_jj53 : hl_jOK 53 := by
  refine ⟨⟨by decide +kernel, by decide +kernel, hl_w1 (i := 171) rfl rfl, hl_at (i := 161) (by decide +kernel) rfl, by decide +kernel, by decide +kernel⟩, ?_, ?_, ?_⟩
  · exact fun h => absurd h (by decide +kernel)
  · exact fun h => absurd h (by decide +kernel)
  · exact fun _ => ⟨by decide +kernel, hl_at (i := 326) (by decide +kernel) rfl, by decide +kernel⟩
set_option maxRecDepth 20000 in
theorem hl_jj54 : hl_jOK 54 := by
  refine ⟨⟨by decide +kernel, by decide +kernel, hl_w3 (i := 29) rfl rfl, hl_at (i := 161) (by decide +kernel) rfl, by decide +kernel, by decide +kernel⟩, ?_, ?_, ?_⟩
  · exact fun h => absurd h (by decide +kernel)
  · exact fun _ => ⟨hl_at (i := 664) (by decide +kernel) rfl, hl_at (i := 6) (by decide +kernel) rfl⟩
  · exact fun h => absurd h (by decide +kernel)
set_option maxRecDepth 20000 in
theorem hl_jj55 : hl_jOK 55 := by
  refine ⟨⟨by decide +kernel, by decide +kernel, hl_w3 (i := 167) rfl rfl, hl_at (i := 161) (by decide +kernel) rfl, by decide +kernel, by decide +kernel⟩, ?_, ?_, ?_⟩
  · exact fun h => absurd h (by decide +kernel)
  · exact fun _ => ⟨hl_at (i := 802) (by decide +kernel) rfl, hl_at (i := 12) (by decide +kernel) rfl⟩
  · exact fun h => absurd h (by decide +kernel)
set_option maxRecDepth 20000 in
theorem hl_jj56 : hl_jOK 56 := by
  refine ⟨⟨by decide +kernel, by decide +kernel, hl_w3 (i := 180) rfl rfl, hl_at (i := 161) (by decide +kernel) rfl, by decide +kernel, by decide +kernel⟩, ?_, ?_, ?_⟩
  · exact fun h => absurd h (by decide +kernel)
  · exact fun _ => ⟨hl_at (i := 815) (by decide +kernel) rfl, hl_at (i := 15) (by decide +kernel) rfl⟩
  · exact fun h => absurd h (by decide +kernel)
set_option maxRecDepth 20000 in
theorem hl_jj57 : hl_jOK 57 := by
  refine ⟨⟨by decide +kernel, by decide +kernel, hl_w3 (i := 184) rfl rfl, hl_at (i := 161) (by decide +kernel) rfl, by decide +kernel, by decide +kernel⟩, ?_, ?_, ?_⟩
  · exact fun h => absurd h (by decide +kernel)
  · exact fun _ => ⟨hl_at (i := 819) (by decide +kernel) rfl, hl_at (i := 16) (by decide +kernel) rfl⟩
  · exact fun h => absurd h (by decide +kernel)
set_option maxRecDepth 20000 in
theorem hl_jj58 : hl_jOK 58 := by
  refine ⟨⟨by decide +kernel, by decide +kernel, hl_w3 (i := 188) rfl rfl, hl_at (i := 161) (by decide +kernel) rfl, by decide +kernel, by decide +kernel⟩, ?_, ?_, ?_⟩
  · exact fun h => absurd h (by decide +kernel)
  · exact fun _ => ⟨hl_at (i := 823) (by decide +kernel) rfl, hl_at (i := 17) (by decide +kernel) rfl⟩
  · exact fun h => absurd h (by decide +kernel)
set_option maxRecDepth 20000 in
theorem hl_jj59 : hl_jOK 59 := by
  refine ⟨⟨by decide +kernel, by decide +kernel, hl_w3 (i := 196) rfl rfl, hl_at (i := 161) (by decide +kernel) rfl, by decide +kernel, by decide +kernel⟩, ?_, ?_, ?_⟩
  · exact fun h => absurd h (by decide +kernel)
  · exact fun _ => ⟨hl_at (i := 831) (by decide +kernel) rfl, hl_at (i := 19) (by decide +kernel) rfl⟩
  · exact fun h => absurd h (by decide +kernel)
set_option maxRecDepth 20000 in
theorem hl_jj60 : hl_jOK 60 := by
  refine ⟨⟨by decide +kernel, by decide +kernel, hl_w3 (i := 200) rfl rfl, hl_at (i := 161) (by decide +kernel) rfl, by decide +kernel, by decide +kernel⟩, ?_, ?_, ?_⟩
  · exact fun h => absurd h (by decide +kernel)
  · exact fun _ => ⟨hl_at (i := 835) (by decide +kernel) rfl, hl_at (i := 20) (by decide +kernel) rfl⟩
  · exact fun h => absurd h (by decide +kernel)
set_option maxRecDepth 20000 in
theorem hl_jj61 : hl_jOK 61 := by
  refine ⟨⟨by decide +kernel, by decide +kernel, hl_w3 (i := 204) rfl rfl, hl_at (i := 161) (by decide +kernel) rfl, by decide +kernel, by decide +kernel⟩, ?_, ?_, ?_⟩
  · exact fun h => absurd h (by decide +kernel)
  · exact fun _ => ⟨hl_at (i := 839) (by decide +kernel) rfl, hl_at (i := 21) (by decide +kernel) rfl⟩
  · exact fun h => absurd h (by decide +kernel)
set_option maxRecDepth 20000 in
theorem hl_jj62 : hl_jOK 62 := by
  refine ⟨⟨by decide +kernel, by decide +kernel, hl_w3 (i := 208) rfl rfl, hl_at (i := 161) (by decide +kernel) rfl, by decide +kernel, by decide +kernel⟩, ?_, ?_, ?_⟩
  · exact fun h => absurd h (by decide +kernel)
  · exact fun _ => ⟨hl_at (i := 843) (by decide +kernel) rfl, hl_at (i := 22) (by decide +kernel) rfl⟩
  · exact fun h => absurd h (by decide +kernel)
set_option maxRecDepth 20000 in
theorem hl_jj63 : hl_jOK 63 := by
  refine ⟨⟨by decide +kernel, by decide +kernel, hl_w3 (i := 216) rfl rfl, hl_at (i := 161) (by decide +kernel) rfl, by decide +kernel, by decide +kernel⟩, ?_, ?_, ?_⟩
  · exact fun h => absurd h (by decide +kernel)
  · exact fun _ => ⟨hl_at (i := 851) (by decide +kernel) rfl, hl_at (i := 24) (by decide +kernel) rfl⟩
  · exact fun h => absurd h (by decide +kernel)
set_option maxRecDepth 20000 in
theorem hl_jj64 : hl_jOK 64 := by
  refine ⟨⟨by decide +kernel, by decide +kernel, hl_w3 (i := 172) rfl rfl, hl_at (i := 161) (by decide +kernel) rfl, by decide +kernel, by decide +kernel⟩, ?_, ?_, ?_⟩
  · exact fun h => absurd h (by decide +kernel)
  · exact fun _ => ⟨hl_at (i := 807) (by decide +kernel) rfl, hl_at (i := 13) (by decide +kernel) rfl⟩
  · exact fun h => absurd h (by decide +kernel)
set_option maxRecDepth 20000 in
theorem hl_jj65 : hl_jOK 65 := by
  refine ⟨⟨by decide +kernel, by decide +kernel, hl_w3 (i := 212) rfl rfl, hl_at (i := 161) (by decide +kernel) rfl, by decide +kernel, by decide +kernel⟩, ?_, ?_, ?_⟩
  · exact fun h => absurd h (by decide +kernel)
  · exact fun _ => ⟨hl_at (i := 847) (by decide +kernel) rfl, hl_at (i := 23) (by decide +kernel) rfl⟩
  · exact fun h => absurd h (by decide +kernel)
set_option maxRecDepth 20000 in
theorem hl_jj66 : hl_jOK 66 := by
  refine ⟨⟨by decide +kernel, by decide +kernel, hl_w3 (i := 37) rfl rfl, hl_at (i := 161) (by decide +kernel) rfl, by decide +kernel, by decide +kernel⟩, ?_, ?_, ?_⟩
  · exact fun h => absurd h (by decide +kernel)
  · exact fun _ => ⟨hl_at (i := 672) (by decide +kernel) rfl, hl_at (i := 8) (by decide +kernel) rfl⟩
  · exact fun h => absurd h (by decide +kernel)
set_option maxRecDepth 20000 in
theorem hl_jj67 : hl_jOK 67 := by
  refine ⟨⟨by decide +kernel, by decide +kernel, hl_w3 (i := 40) rfl rfl, hl_at (i := 161) (by decide +kernel) rfl, by decide +kernel, by decide +kernel⟩, ?_, ?_, ?_⟩
  · exact fun _ => hl_at (i := 675) (by decide +kernel) rfl
  · exact fun h => absurd h (by decide +kernel)
  · exact fun h => absurd h (by decide +kernel)
set_option maxRecDepth 20000 in
theorem hl_jj68 : hl_jOK 68 := by
  refine ⟨⟨by decide +kernel, by decide +kernel, hl_w3 (i := 96) rfl rfl, hl_at (i := 161) (by decide +kernel) rfl, by decide +kernel, by decide +kernel⟩, ?_, ?_, ?_⟩
  · exact fun _ => hl_at (i := 731) (by decide +kernel) rfl
  · exact fun h => absurd h (by decide +kernel)
  · exact fun h => absurd h (by decide +kernel)
set_option maxRecDepth 20000 in
theorem hl_jj69 : hl_jOK 69 := by
  refine ⟨⟨by decide +kernel, by decide +kernel, hl_w3 (i := 44) rfl rfl, hl_at (i := 161) (by decide +kernel) rfl, by decide +kernel, by decide +kernel⟩, ?_, ?_, ?_⟩
  · exact fun h => absurd h (by decide +kernel)
  · exact fun _ => ⟨hl_at (i := 679) (by decide +kernel) rfl, hl_at (i := 9) (by decide +kernel) rfl⟩
  · exact fun h => absurd h (by decide +kernel)
set_option maxRecDepth 20000 in
theorem hl_jj70 : hl_jOK 70 := by
  refine ⟨⟨by decide +kernel, by decide +kernel, hl_w3 (i := 100) rfl rfl, hl_at (i := 161) (by decide +kernel) rfl, by decide +kernel, by decide +kernel⟩, ?_, ?_, ?_⟩
  · exact fun h => absurd h (by decide +kernel)
  · exact fun _ => ⟨hl_at (i := 735) (by decide +kernel) rfl, hl_at (i := 10) (by decide +kernel) rfl⟩
  · exact fun h => absurd h (by decide +kernel)
set_option maxRecDepth 20000 in
theorem hl_jj71 : hl_jOK 71 := by
  refine ⟨⟨by decide +kernel, by decide +kernel, hl_w3 (i := 107) rfl rfl, hl_at (i := 161) (by decide +kernel) rfl, by decide +kernel, by decide +kernel⟩, ?_, ?_, ?_⟩
  · exact fun h => absurd h (by decide +kernel)
  · exact fun _ => ⟨hl_at (i := 742) (by decide +kernel) rfl, hl_at (i := 11) (by decide +kernel) rfl⟩
  · exact fun h => absurd h (by decide +kernel)
set_option maxRecDepth 20000 in
theorem hl_jj72 : hl_jOK 72 := by
  refine ⟨⟨by decide +kernel, by decide +kernel, hl_w1 (i := 177) rfl rfl, hl_at (i := 162) (by decide +kernel) rfl, by decide +kernel, by decide +kernel⟩, ?_, ?_, ?_⟩
  · exact fun h => absurd h (by decide +kernel)
  · exact fun h => absurd h (by decide +kernel)
  · exact fun _ => ⟨by decide +kernel, hl_at (i := 332) (by decide +kernel) rfl, by decide +kernel⟩
set_option maxRecDepth 20000 in
theorem hl_jj73 : hl_jOK 73 := by
  refine ⟨⟨by decide +kernel, by decide +kernel, hl_w3 (i := 33) rfl rfl, hl_at (i := 162) (by decide +kernel) rfl, by decide +kernel, by decide +kernel⟩, ?_, ?_, ?_⟩
  · exact fun h => absurd h (by decide +kernel)
  · exact fun _ => ⟨hl_at (i := 668) (by decide +kernel) rfl, hl_at (i := 7) (by decide +kernel) rfl⟩
  · exact fun h => absurd h (by decide +kernel)
set_option maxRecDepth 20000 in
theorem hl_jj74 : hl_jOK 74 := by
  refine ⟨⟨by decide +kernel, by decide +kernel, hl_w3 (i := 229) rfl rfl, hl_at (i := 162) (by decide +kernel) rfl, by decide +kernel, by decide +kernel⟩, ?_, ?_, ?_⟩
  · exact fun h => absurd h (by decide +kernel)
  · exact fun _ => ⟨hl_at (i := 864) (by decide +kernel) rfl, hl_at (i := 27) (by decide +kernel) rfl⟩
  · exact fun h => absurd h (by decide +kernel)
set_option maxRecDepth 20000 in
theorem hl_jj75 : hl_jOK 75 := by
  refine ⟨⟨by decide +kernel, by decide +kernel, hl_w3 (i := 176) rfl rfl, hl_at (i := 162) (by decide +kernel) rfl, by decide +kernel, by decide +kernel⟩, ?_, ?_, ?_⟩
  · exact fun h => absurd h (by decide +kernel)
  · exact fun _ => ⟨hl_at (i := 811) (by decide +kernel) rfl, hl_at (i := 14) (by decide +kernel) rfl⟩
  · exact fun h => absurd h (by decide +kernel)
set_option maxRecDepth 20000 in
theorem hl_jj76 : hl_jOK 76 := by
  refine ⟨⟨by decide +kernel, by decide +kernel, hl_w3 (i := 225) rfl rfl, hl_at (i := 162) (by decide +kernel) rfl, by decide +kernel, by decide +kernel⟩, ?_, ?_, ?_⟩
  · exact fun h => absurd h (by decide +kernel)
  · exact fun _ => ⟨hl_at (i := 860) (by decide +kernel) rfl, hl_at (i := 26) (by decide +kernel) rfl⟩
  · exact fun h => absurd h (by decide +kernel)
set_option maxRecDepth 20000 in
theorem hl_jj77 : hl_jOK 77 := by
  refine ⟨⟨by decide +kernel, by decide +kernel, hl_w4 (i := 64) rfl rfl, hl_at (i := 162) (by decide +kernel) rfl, by decide +kernel, by decide +kernel⟩, ?_, ?_, ?_⟩
  · exact fun h => absurd h (by decide +kernel)
  · exact fun _ => ⟨hl_at (i := 939) (by decide +kernel) rfl, hl_at (i := 37) (by decide +kernel) rfl⟩
  · exact fun h => absurd h (by decide +kernel)
set_option maxRecDepth 20000 in
theorem hl_jj78 : hl_jOK 78 := by
  refine ⟨⟨by decide +kernel, by decide +kernel, hl_w3 (i := 192) rfl rfl, hl_at (i := 162) (by decide +kernel) rfl, by decide +kernel, by decide +kernel⟩, ?_, ?_, ?_⟩
  · exact fun h => absurd h (by decide +kernel)
  · exact fun _ => ⟨hl_at (i := 827) (by decide +kernel) rfl, hl_at (i := 18) (by decide +kernel) rfl⟩
  · exact fun h => absurd h (by decide +kernel)
set_option maxRecDepth 20000 in
theorem hl_jj79 : hl_jOK 79 := by
  refine ⟨⟨by decide +kernel, by decide +kernel, hl_w3 (i := 220) rfl rfl, hl_at (i := 162) (by decide +kernel) rfl, by decide +kernel, by decide +kernel⟩, ?_, ?_, ?_⟩
  · exact fun h => absurd h (by decide +kernel)
  · exact fun _ => ⟨hl_at (i := 855) (by decide +kernel) rfl, hl_at (i := 25) (by decide +kernel) rfl⟩
  · exact fun h => absurd h (by decide +kernel)
set_option maxRecDepth 20000 in
theorem hl_jj80 : hl_jOK 80 := by
  refine ⟨⟨by decide +kernel, by decide +kernel, hl_w1 (i := 43) rfl rfl, hl_at (i := 159) (by decide +kernel) rfl, by decide +kernel, by decide +kernel⟩, ?_, ?_, ?_⟩
  · exact fun h => absurd h (by decide +kernel)
  · exact fun h => absurd h (by decide +kernel)
  · exact fun _ => ⟨by decide +kernel, hl_at (i := 198) (by decide +kernel) rfl, by decide +kernel⟩
set_option maxRecDepth 20000 in
theorem hl_jj81 : hl_jOK 81 := by
  refine ⟨⟨by decide +kernel, by decide +kernel, hl_w2 (i := 218) rfl rfl, hl_at (i := 159) (by decide +kernel) rfl, by decide +kernel, by decide +kernel⟩, ?_, ?_, ?_⟩
  · exact fun h => absurd h (by decide +kernel)
  · exact fun _ => ⟨hl_at (i := 613) (by decide +kernel) rfl, hl_at (i := 2) (by decide +kernel) rfl⟩
  · exact fun h => absurd h (by decide +kernel)
set_option maxRecDepth 20000 in
theorem hl_jj82 : hl_jOK 82 := by
  refine ⟨⟨by decide +kernel, by decide +kernel, hl_w5 (i := 156) rfl rfl, hl_at (i := 159) (by decide +kernel) rfl, by decide +kernel, by decide +kernel⟩, ?_, ?_, ?_⟩
  · exact fun h => absurd h (by decide +kernel)
  · exact fun _ => ⟨hl_at (i := 1271) (by decide +kernel) rfl, hl_at (i := 92) (by decide +kernel) rfl⟩
  · exact fun h => absurd h (by decide +kernel)
set_option maxRecDepth 20000 in
theorem hl_jj83 : hl_jOK 83 := by
  refine ⟨⟨by decide +kernel, by decide +kernel, hl_w4 (i := 117) rfl rfl, hl_at (i := 159) (by decide +kernel) rfl, by decide +kernel, by decide +kernel⟩, ?_, ?_, ?_⟩
  · exact fun h => absurd h (by decide +kernel)
  · exact fun _ => ⟨hl_at (i := 992) (by decide +kernel) rfl, hl_at (i := 46) (by decide +kernel) rfl⟩
  · exact fun h => absurd h (by decide +kernel)
set_option maxRecDepth 20000 in
theorem hl_jj84 : hl_jOK 84 := by
  refine ⟨⟨by decide +kernel, by decide +kernel, hl_w5 (i := 64) rfl rfl, hl_at (i := 159) (by decide +kernel) rfl, by decide +kernel, by decide +kernel⟩, ?_, ?_, ?_⟩
  · exact fun h => absurd h (by decide +kernel)
  · exact fun _ => ⟨hl_at (i := 1179) (by decide +kernel) rfl, hl_at (i := 80) (by decide +kernel) rfl⟩
  · exact fun h => absurd h (by decide +kernel)
set_option maxRecDepth 20000 in
theorem hl_jj85 : hl_jOK 85 := by
  refine ⟨⟨by decide +kernel, by decide +kernel, hl_w5 (i := 75) rfl rfl, hl_at (i := 159) (by decide +kernel) rfl, by decide +kernel, by decide +kernel⟩, ?_, ?_, ?_⟩
  · exact fun h => absurd h (by decide +kernel)
  · exact fun _ => ⟨hl_at (i := 1190) (by decide +kernel) rfl, hl_at (i := 82) (by decide +kernel) rfl⟩
  · exact fun h => absurd h (by decide +kernel)
set_option maxRecDepth 20000 in
theorem hl_jj86 : hl_jOK 86 := by
  refine ⟨⟨by decide +kernel, by decide +kernel, hl_w5 (i := 60) rfl rfl, hl_at (i := 159) (by decide +kernel) rfl, by decide +kernel, by decide +kernel⟩, ?_, ?_, ?_⟩
  · exact fun h => absurd h (by decide +kernel)
  · exact fun _ => ⟨hl_at (i := 1175) (by decide +kernel) rfl, hl_at (i := 79) (by decide +kernel) rfl⟩
  · exact fun h => absurd h (by decide +kernel)
set_option maxRecDepth 20000 in
theorem hl_jj87 : hl_jOK 87 := by
  refine ⟨⟨by decide +kernel, by decide +kernel, hl_w5 (i := 142) rfl rfl, hl_at (i := 159) (by decide +kernel) rfl, by decide +kernel, by decide +kernel⟩, ?_, ?_, ?_⟩
  · exact fun h => absurd h (by decide +kernel)
  · exact fun _ => ⟨hl_at (i := 1257) (by decide +kernel) rfl, hl_at (i := 90) (by decide +kernel) rfl⟩
  · exact fun h => absurd h (by decide +kernel)
set_option maxRecDepth 20000 in
theorem hl_jj88 : hl_jOK 88 := by
  refine ⟨⟨by decide +kernel, by decide +kernel, hl_w5 (i := 2) rfl rfl, hl_at (i := 159) (by decide +kernel) rfl, by decide +kernel, by decide +kernel⟩, ?_, ?_, ?_⟩
  · exact fun h => absurd h (by decide +kernel)
  · exact fun _ => ⟨hl_at (i := 1117) (by decide +kernel) rfl, hl_at (i := 71) (by decide +kernel) rfl⟩
  · exact fun h => absurd h (by decide +kernel)
set_option maxRecDepth 20000 in
theorem hl_jj89 : hl_jOK 89 := by
  refine ⟨⟨by decide +kernel, by decide +kernel, hl_w4 (i := 238) rfl rfl, hl_at (i := 159) (by decide +kernel) rfl, by decide +kernel, by decide +kernel⟩, ?_, ?_, ?_⟩
  · exact fun h => absurd h (by decide +kernel)
  · exact fun _ => ⟨hl_at (i := 1113) (by decide +kernel) rfl, hl_at (i := 70) (by decide +kernel) rfl⟩
  · exact fun h => absurd h (by decide +kernel)
set_option maxRecDepth 20000 in
theorem hl_jj90 : hl_jOK 90 := by
  refine ⟨⟨by decide +kernel, by decide +kernel, hl_w5 (i := 6) rfl rfl, hl_at (i := 159) (by decide +kernel) rfl, by decide +kernel, by decide +kernel⟩, ?_, ?_, ?_⟩
  · exact fun h => absurd h (by decide +kernel)
  · exact fun _ => ⟨hl_at (i := 1121) (by decide +kernel) rfl, hl_at (i := 72) (by decide +kernel) rfl⟩
  · exact fun h => absurd h (by decide +kernel)
set_option maxRecDepth 20000 in
theorem hl_jj91 : hl_jOK 91 := by
  refine ⟨⟨by decide +kernel, by decide +kernel, hl_w1 (i := 69) rfl rfl, hl_at (i := 160) (by decide +kernel) rfl, by decide +kernel, by decide +kernel⟩, ?_, ?_, ?_⟩
  · exact fun h => absurd h (by decide +kernel)
  · exact fun h => absurd h (by decide +kernel)
  · exact fun _ => ⟨by decide +kernel, hl_at (i := 224) (by decide +kernel) rfl, by decide +kernel⟩
set_option maxRecDepth 20000 in
theorem hl_jj92 : hl_jOK 92 := by
  refine ⟨⟨by decide +kernel, by decide +kernel, hl_w5 (i := 97) rfl rfl, hl_at (i := 160) (by decide +kernel) rfl, by decide +kernel, by decide +kernel⟩, ?_, ?_, ?_⟩
  · exact fun h => absurd h (by decide +kernel)
  · exact fun _ => ⟨hl_at (i := 1212) (by decide +kernel) rfl, hl_at (i := 84) (by decide +kernel) rfl⟩
  · exact fun h => absurd h (by decide +kernel)
set_option maxRecDepth 20000 in
theorem hl_jj93 : hl_jOK 93 := by
  refine ⟨⟨by decide +kernel, by decide +kernel, hl_w5 (i := 161) rfl rfl, hl_at (i := 160) (by decide +kernel) rfl, by decide +kernel, by decide +kernel⟩, ?_, ?_, ?_⟩
  · exact fun h => absurd h (by decide +kernel)
  · exact fun _ => ⟨hl_at (i := 1276) (by decide +kernel) rfl, hl_at (i := 93) (by decide +kernel) rfl⟩
  · exact fun h => absurd h (by decide +kernel)
set_option maxRecDepth 20000 in
theorem hl_jj94 : hl_jOK 94 := by
  refine ⟨⟨by decide +kernel, by decide +kernel, hl_w5 (i := 105) rfl rfl, hl_at (i := 160) (by decide +kernel) rfl, by decide +kernel, by decide +kernel⟩, ?_, ?_, ?_⟩
  · exact fun h => absurd h (by decide +kernel)
  · exact fun _ => ⟨hl_at (i := 1220) (by decide +kernel) rfl, hl_at (i := 85) (by decide +kernel) rfl⟩
  · exact fun h => absurd h (by decide +kernel)
set_option maxRecDepth 20000 in
theorem hl_jj95 : hl_jOK 95 := by
  refine ⟨⟨by decide +kernel, by decide +kernel, hl_w5 (i := 113) rfl rfl, hl_at (i := 160) (by decide +kernel) rfl, by decide +kernel, by decide +kernel⟩, ?_, ?_, ?_⟩
  · exact fun h => absurd h (by decide +kernel)
  · exact fun _ => ⟨hl_at (i := 1228) (by decide +kernel) rfl, hl_at (i := 86) (by decide +kernel) rfl⟩
  · exact fun h => absurd h (by decide +kernel)
set_option maxRecDepth 20000 in
theorem hl_jj96 : hl_jOK 96 := by
  refine ⟨⟨by decide +kernel, by decide +kernel, hl_w1 (i := 235) rfl rfl, hl_at (i := 163) (by decide +kernel) rfl, by decide +kernel, by decide +kernel⟩, ?_, ?_, ?_⟩
  · exact fun h => absurd h (by decide +kernel)
  · exact fun h => absurd h (by decide +kernel)
  · exact fun _ => ⟨by decide +kernel, hl_at (i := 390) (by decide +kernel) rfl, by decide +kernel⟩
set_option maxRecDepth 20000 in
theorem hl_jj97 : hl_jOK 97 := by
  refine ⟨⟨by decide +kernel, by decide +kernel, hl_w4 (i := 41) rfl rfl, hl_at (i := 163) (by decide +kernel) rfl, by decide +kernel, by decide +kernel⟩, ?_, ?_, ?_⟩
  · exact fun h => absurd h (by decide +kernel)
  · exact fun _ => ⟨hl_at (i := 916) (by decide +kernel) rfl, hl_at (i := 34) (by decide +kernel) rfl⟩
  · exact fun h => absurd h (by decide +kernel)
set_option maxRecDepth 20000 in
theorem hl_jj98 : hl_jOK 98 := by
  refine ⟨⟨by decide +kernel, by decide +kernel, hl_w4 (i := 51) rfl rfl, hl_at (i := 163) (by decide +kernel) rfl, by decide +kernel, by decide +kernel⟩, ?_, ?_, ?_⟩
  · exact fun h => absurd h (by decide +kernel)
  · exact fun _ => ⟨hl_at (i := 926) (by decide +kernel) rfl, hl_at (i := 35) (by decide +kernel) rfl⟩
  · exact fun h => absurd h (by decide +kernel)
set_option maxRecDepth 20000 in
theorem hl_jj99 : hl_jOK 99 := by
  refine ⟨⟨by decide +kernel, by decide +kernel, hl_w4 (i := 59) rfl rfl, hl_at (i := 163) (by decide +kernel) rfl, by decide +kernel, by decide +kernel⟩, ?_, ?_, ?_⟩
  · exact fun h => absurd h (by decide +kernel)
  · exact fun _ => ⟨hl_at (i := 934) (by decide +kernel) rfl, hl_at (i := 36) (by decide +kernel) rfl⟩
  · exact fun h => absurd h (by decide +kernel)
set_option maxRecDepth 20000 in
theorem hl_jj100 : hl_jOK 100 := by
  refine ⟨⟨by decide +kernel, by decide +kernel, hl_w4 (i := 72) rfl rfl, hl_at (i := 163) (by decide +kernel) rfl, by decide +kernel, by decide +kernel⟩, ?_, ?_, ?_⟩
  · exact fun h => absurd h (by decide +kernel)
  · exact fun _ => ⟨hl_at (i := 947) (by decide +kernel) rfl, hl_at (i := 39) (by decide +kernel) rfl⟩
  · exact fun h => absurd h (by decide +kernel)
set_option maxRecDepth 20000 in
theorem hl_jj101 : hl_jOK 101 := by
  refine ⟨⟨by decide +kernel, by decide +kernel, hl_w4 (i := 68) rfl rfl, hl_at (i := 163) (by decide +kernel) rfl, by decide +kernel, by decide +kernel⟩, ?_, ?_, ?_⟩
  · exact fun h => absurd h (by decide +kernel)
  · exact fun _ => ⟨hl_at (i := 943) (by decide +kernel) rfl, hl_at (i := 38) (by decide +kernel) rfl⟩
  · exact fun h => absurd h (by decide +kernel)
set_option maxRecDepth 20000 in
theorem hl_jj102 : hl_jOK 102 := by
  refine ⟨⟨by decide +kernel, by decide +kernel, hl_w4 (i := 75) rfl rfl, hl_at (i := 163) (by decide +kernel) rfl, by decide +kernel, by decide +kernel⟩, ?_, ?_, ?_⟩
  · exact fun _ => hl_at (i := 950) (by decide +kernel) rfl
  · exact fun h => absurd h (by decide +kernel)
  · exact fun h => absurd h (by decide +kernel)
set_option maxRecDepth 20000 in
theorem hl_jj103 : hl_jOK 103 := by
  refine ⟨⟨by decide +kernel, by decide +kernel, hl_w4 (i := 78) rfl rfl, hl_at (i := 163) (by decide +kernel) rfl, by decide +kernel, by decide +kernel⟩, ?_, ?_, ?_⟩
  · exact fun _ => hl_at (i := 953) (by decide +kernel) rfl
  · exact fun h => absurd h (by decide +kernel)
  · exact fun h => absurd h (by decide +kernel)
set_option maxRecDepth 20000 in
theorem hl_jj104 : hl_jOK 104 := by
  refine ⟨⟨by decide +kernel, by decide +kernel, hl_w1 (i := 26) rfl rfl, hl_at (i := 157) (by decide +kernel) rfl, by decide +kernel, by decide +kernel⟩, ?_, ?_, ?_⟩
  · exact fun h => absurd h (by decide +kernel)
  · exact fun h => absurd h (by decide +kernel)
  · exact fun _ => ⟨by decide +kernel, hl_at (i := 181) (by decide +kernel) rfl, by decide +kernel⟩
set_option maxRecDepth 20000 in
theorem hl_jj105 : hl_jOK 105 := by
  refine ⟨⟨by decide +kernel, by decide +kernel, hl_w2 (i := 199) rfl rfl, hl_at (i := 157) (by decide +kernel) rfl, by decide +kernel, by decide +kernel⟩, ?_, ?_, ?_⟩
  · exact fun h => absurd h (by decide +kernel)
  · exact fun _ => ⟨hl_at (i := 593) (by decide +kernel) rfl, hl_at (i := 594) (by decide +kernel) rfl⟩
  · exact fun h => absurd h (by decide +kernel)
set_option maxRecDepth 20000 in
theorem hl_jj106 : hl_jOK 106 := by
  refine ⟨⟨by decide +kernel, by decide +kernel, hl_w2 (i := 214) rfl rfl, hl_at (i := 157) (by decide +kernel) rfl, by decide +kernel, by decide +kernel⟩, ?_, ?_, ?_⟩
  · exact fun h => absurd h (by decide +kernel)
  · exact fun _ => ⟨hl_at (i := 608) (by decide +kernel) rfl, hl_at (i := 609) (by decide +kernel) rfl⟩
  · exact fun h => absurd h (by decide +kernel)
set_option maxRecDepth 20000 in
theorem hl_jj107 : hl_jOK 107 := by
  refine ⟨⟨by decide +kernel, by decide +kernel, hl_w2 (i := 222) rfl rfl, hl_at (i := 157) (by decide +kernel) rfl, by decide +kernel, by decide +kernel⟩, ?_, ?_, ?_⟩
  · exact fun h => absurd h (by decide +kernel)
  · exact fun _ => ⟨hl_at (i := 616) (by decide +kernel) rfl, hl_at (i := 617) (by decide +kernel) rfl⟩
  · exact fun h => absurd h (by decide +kernel)
set_option maxRecDepth 20000 in
theorem hl_jj108 : hl_jOK 108 := by
  refine ⟨⟨by decide +kernel, by decide +kernel, hl_w2 (i := 230) rfl rfl, hl_at (i := 157) (by decide +kernel) rfl, by decide +kernel, by decide +kernel⟩, ?_, ?_, ?_⟩
  · exact fun h => absurd h (by decide +kernel)
  · exact fun _ => ⟨hl_at (i := 624) (by decide +kernel) rfl, hl_at (i := 625) (by decide +kernel) rfl⟩
  · exact fun h => absurd h (by decide +kernel)
set_option maxRecDepth 20000 in
theorem hl_jj109 : hl_jOK 109 := by
  refine ⟨⟨by decide +kernel, by decide +kernel, hl_w2 (i := 237) rfl rfl, hl_at (i := 157) (by decide +kernel) rfl, by decide +kernel, by decide +kernel⟩, ?_, ?_, ?_⟩
  · exact fun h => absurd h (by decide +kernel)
  · exact fun _ => ⟨hl_at (i := 631) (by decide +kernel) rfl, hl_at (i := 632) (by decide +kernel) rfl⟩
  · exact fun h => absurd h (by decide +kernel)
set_option maxRecDepth 20000 in
theorem hl_jj110 : hl_jOK 110 := by
  refine ⟨⟨by decide +kernel, by decide +kernel, hl_w3 (i := 1) rfl rfl, hl_at (i := 157) (by decide +kernel) rfl, by decide +kernel, by decide +kernel⟩, ?_, ?_, ?_⟩
  · exact fun h => absurd h (by decide +kernel)
  · exact fun _ => ⟨hl_at (i := 635) (by decide +kernel) rfl, hl_at (i := 636) (by decide +kernel) rfl⟩
  · exact fun h => absurd h (by decide +kernel)
set_option maxRecDepth 20000 in
theorem hl_jj111 : hl_jOK 111 := by
  refine ⟨⟨by decide +kernel, by decide +kernel, hl_w3 (i := 9) rfl rfl, hl_at (i := 157) (by decide +kernel) rfl, by decide +kernel, by decide +kernel⟩, ?_, ?_, ?_⟩
  · exact fun h => absurd h (by decide +kernel)
  · exact fun _ => ⟨hl_at (i := 643) (by decide +kernel) rfl, hl_at (i := 644) (by decide +kernel) rfl⟩
  · exact fun h => absurd h (by decide +kernel)
set_option maxRecDepth 20000 in
theorem hl_jj112 : hl_jOK 112 := by
  refine ⟨⟨by decide +kernel, by decide +kernel, hl_w3 (i := 13) rfl rfl, hl_at (i := 157) (by decide +kernel) rfl, by decide +kernel, by decide +kernel⟩, ?_, ?_, ?_⟩
  · exact fun h => absurd h (by decide +kernel)
  · exact fun _ => ⟨hl_at (i := 647) (by decide +kernel) rfl, hl_at (i := 648) (by decide +kernel) rfl⟩
  · exact fun h => absurd h (by decide +kernel)
set_option maxRecDepth 20000 in
theorem hl_jj113 : hl_jOK 113 := by
  refine ⟨⟨by decide +kernel, by decide +kernel, hl_w3 (i := 21) rfl rfl, hl_at (i := 157) (by decide +kernel) rfl, by decide +kernel, by decide +kernel⟩, ?_, ?_, ?_⟩
  · exact fun h => absurd h (by decide +kernel)
  · exact fun _ => ⟨hl_at (i := 655) (by decide +kernel) rfl, hl_at (i := 656) (by decide +kernel) rfl⟩
  · exact fun h => absurd h (by decide +kernel)
set_option maxRecDepth 20000 in
theorem hl_jj114 : hl_jOK 114 := by
  refine ⟨⟨by decide +kernel, by decide +kernel, hl_w3 (i := 25) rfl rfl, hl_at (i := 157) (by decide +kernel) rfl, by decide +kernel, by decide +kernel⟩, ?_, ?_, ?_⟩
  · exact fun h => absurd h (by decide +kernel)
  · exact fun _ => ⟨hl_at (i := 659) (by decide +kernel) rfl, hl_at (i := 660) (by decide +kernel) rfl⟩
  · exact fun h => absurd h (by decide +kernel)
set_option maxRecDepth 20000 in
theorem hl_jj115 : hl_jOK 115 := by
  refine ⟨⟨by decide +kernel, by decide +kernel, hl_w3 (i := 237) rfl rfl, hl_at (i := 157) (by decide +kernel) rfl, by decide +kernel, by decide +kernel⟩, ?_, ?_, ?_⟩
  · exact fun h => absurd h (by decide +kernel)
  · exact fun _ => ⟨hl_at (i := 871) (by decide +kernel) rfl, hl_at (i := 872) (by decide +kernel) rfl⟩
  · exact fun h => absurd h (by decide +kernel)
set_option maxRecDepth 20000 in
theorem hl_jj116 : hl_jOK 116 := by
  refine ⟨⟨by decide +kernel, by decide +kernel, hl_w4 (i := 1) rfl rfl, hl_at (i := 157) (by decide +kernel) rfl, by decide +kernel, by decide +kernel⟩, ?_, ?_, ?_⟩
  · exact fun h => absurd h (by decide +kernel)
  · exact fun _ => ⟨hl_at (i := 875) (by decide +kernel) rfl, hl_at (i := 876) (by decide +kernel) rfl⟩
  · exact fun h => absurd h (by decide +kernel)
set_option maxRecDepth 20000 in
theorem hl_jj117 : hl_jOK 117 := by
  refine ⟨⟨by decide +kernel, by decide +kernel, hl_w4 (i := 5) rfl rfl, hl_at (i := 157) (by decide +kernel) rfl, by decide +kernel, by decide +kernel⟩, ?_, ?_, ?_⟩
  · exact fun h => absurd h (by decide +kernel)
  · exact fun _ => ⟨hl_at (i := 879) (by decide +kernel) rfl, hl_at (i := 880) (by decide +kernel) rfl⟩
  · exact fun h => absurd h (by decide +kernel)
set_option maxRecDepth 20000 in
theorem hl_jj118 : hl_jOK 118 := by
  refine ⟨⟨by decide +kernel, by decide +kernel, hl_w4 (i := 24) rfl rfl, hl_at (i := 157) (by decide +kernel) rfl, by decide +kernel, by decide +kernel⟩, ?_, ?_, ?_⟩
  · exact fun h => absurd h (by decide +kernel)
  · exact fun _ => ⟨hl_at (i := 898) (by decide +kernel) rfl, hl_at (i := 899) (by decide +kernel) rfl⟩
  · exact fun h => absurd h (by decide +kernel)
set_option maxRecDepth 20000 in
theorem hl_jj119 : hl_jOK 119 := by
  refine ⟨⟨by decide +kernel, by decide +kernel, hl_w4 (i := 91) rfl rfl, hl_at (i := 157) (by decide +kernel) rfl, by decide +kernel, by decide +kernel⟩, ?_, ?_, ?_⟩
  · exact fun h => absurd h (by decide +kernel)
  · exact fun _ => ⟨hl_at (i := 965) (by decide +kernel) rfl, hl_at (i := 966) (by decide +kernel) rfl⟩
  · exact fun h => absurd h (by decide +kernel)
set_option maxRecDepth 20000 in
theorem hl_jj120 : hl_jOK 120 := by
  refine ⟨⟨by decide +kernel, by decide +kernel, hl_w4 (i := 141) rfl rfl, hl_at (i := 157) (by decide +kernel) rfl, by decide +kernel, by decide +kernel⟩, ?_, ?_, ?_⟩
  · exact fun h => absurd h (by decide +kernel)
  · exact fun _ => ⟨hl_at (i := 1015) (by decide +kernel) rfl, hl_at (i := 1016) (by decide +kernel) rfl⟩
  · exact fun h => absurd h (by decide +kernel)
set_option maxRecDepth 20000 in
theorem hl_jj121 : hl_jOK 121 := by
  refine ⟨⟨by decide +kernel, by decide +kernel, hl_w4 (i := 230) rfl rfl, hl_at (i := 157) (by decide +kernel) rfl, by decide +kernel, by decide +kernel⟩, ?_, ?_, ?_⟩
  · exact fun h => absurd h (by decide +kernel)
  · exact fun _ => ⟨hl_at (i := 1104) (by decide +kernel) rfl, hl_at (i := 1105) (by decide +kernel) rfl⟩
  · exact fun h => absurd h (by decide +kernel)
set_option maxRecDepth 20000 in
theorem hl_jj122 : hl_jOK 122 := by
  refine ⟨⟨by decide +kernel, by decide +kernel, hl_w4 (i := 234) rfl rfl, hl_at (i := 157) (by decide +kernel) rfl, by decide +kernel, by decide +kernel⟩, ?_, ?_, ?_⟩
  · exact fun h => absurd h (by decide +kernel)
  · exact fun _ => ⟨hl_at (i := 1108) (by decide +kernel) rfl, hl_at (i := 1109) (by decide +kernel) rfl⟩
  · exact fun h => absurd h (by decide +kernel)
set_option maxRecDepth 20000 in
theorem hl_jj123 : hl_jOK 123 := by
  refine ⟨⟨by decide +kernel, by decide +kernel, hl_w5 (i := 10) rfl rfl, hl_at (i := 157) (by decide +kernel) rfl, by decide +kernel, by decide +kernel⟩, ?_, ?_, ?_⟩
  · exact fun h => absurd h (by decide +kernel)
  · exact fun _ => ⟨hl_at (i := 1124) (by decide +kernel) rfl, hl_at (i := 1125) (by decide +kernel) rfl⟩
  · exact fun h => absurd h (by decide +kernel)
set_option maxRecDepth 20000 in
theorem hl_jj124 : hl_jOK 124 := by
  refine ⟨⟨by decide +kernel, by decide +kernel, hl_w5 (i := 25) rfl rfl, hl_at (i := 157) (by decide +kernel) rfl, by decide +kernel, by decide +kernel⟩, ?_, ?_, ?_⟩
  · exact fun h => absurd h (by decide +kernel)
  · exact fun _ => ⟨hl_at (i := 1139) (by decide +kernel) rfl, hl_at (i := 1140) (by decide +kernel) rfl⟩
  · exact fun h => absurd h (by decide +kernel)
set_option maxRecDepth 20000 in
theorem hl_jj125 : hl_jOK 125 := by
  refine ⟨⟨by decide +kernel, by decide +kernel, hl_w5 (i := 33) rfl rfl, hl_at (i := 157) (by decide +kernel) rfl, by decide +kernel, by decide +kernel⟩, ?_, ?_, ?_⟩
  · exact fun h => absurd h (by decide +kernel)
  · exact fun _ => ⟨hl_at (i := 1147) (by decide +kernel) rfl, hl_at (i := 1148) (by decide +kernel) rfl⟩
  · exact fun h => absurd h (by decide +kernel)
set_option maxRecDepth 20000 in
theorem hl_jj126 : hl_jOK 126 := by
  refine ⟨⟨by decide +kernel, by decide +kernel, hl_w5 (i := 42) rfl rfl, hl_at (i := 157) (by decide +kernel) rfl, by decide +kernel, by decide +kernel⟩, ?_, ?_, ?_⟩
  · exact fun h => absurd h (by decide +kernel)
  · exact fun _ => ⟨hl_at (i := 1156) (by decide +kernel) rfl, hl_at (i := 1157) (by decide +kernel) rfl⟩
  · exact fun h => absurd h (by decide +kernel)
set_option maxRecDepth 20000 in
theorem hl_jj127 : hl_jOK 127 := by
  refine ⟨⟨by decide +kernel, by decide +kernel, hl_w5 (i := 79) rfl rfl, hl_at (i := 157) (by decide +kernel) rfl, by decide +kernel, by decide +kernel⟩, ?_, ?_, ?_⟩
  · exact fun h => absurd h (by decide +kernel)
  · exact fun _ => ⟨hl_at (i := 1193) (by decide +kernel) rfl, hl_at (i := 1194) (by decide +kernel) rfl⟩
  · exact fun h => absurd h (by decide +kernel)
set_option maxRecDepth 20000 in
theorem hl_jj128 : hl_jOK 128 := by
  refine ⟨⟨by decide +kernel, by decide +kernel, hl_w5 (i := 85) rfl rfl, hl_at (i := 157) (by decide +kernel) rfl, by decide +kernel, by decide +kernel⟩, ?_, ?_, ?_⟩
  · exact fun h => absurd h (by decide +kernel)
  · exact fun _ => ⟨hl_at (i := 1199) (by decide +kernel) rfl, hl_at (i := 1200) (by decide +kernel) rfl⟩
  · exact fun h => absurd h (by decide +kernel)
set_option maxRecDepth 20000 in
theorem hl_jj129 : hl_jOK 129 := by
  refine ⟨⟨by decide +kernel, by decide +kernel, hl_w5 (i := 93) rfl rfl, hl_at (i := 157) (by decide +kernel) rfl, by decide +kernel, by decide +kernel⟩, ?_, ?_, ?_⟩
  · exact fun h => absurd h (by decide +kernel)
  · exact fun _ => ⟨hl_at (i := 1207) (by decide +kernel) rfl, hl_at (i := 1208) (by decide +kernel) rfl⟩
  · exact fun h => absurd h (by decide +kernel)
set_option maxRecDepth 20000 in
theorem hl_jj130 : hl_jOK 130 := by
  refine ⟨⟨by decide +kernel, by decide +kernel, hl_w5 (i := 101) rfl rfl, hl_at (i := 157) (by decide +kernel) rfl, by decide +kernel, by decide +kernel⟩, ?_, ?_, ?_⟩
  · exact fun h => absurd h (by decide +kernel)
  · exact fun _ => ⟨hl_at (i := 1215) (by decide +kernel) rfl, hl_at (i := 1216) (by decide +kernel) rfl⟩
  · exact fun h => absurd h (by decide +kernel)
set_option maxRecDepth 20000 in
theorem hl_jj131 : hl_jOK 131 := by
  refine ⟨⟨by decide +kernel, by decide +kernel, hl_w5 (i := 109) rfl rfl, hl_at (i := 157) (by decide +kernel) rfl, by decide +kernel, by decide +kernel⟩, ?_, ?_, ?_⟩
  · exact fun h => absurd h (by decide +kernel)
  · exact fun _ => ⟨hl_at (i := 1223) (by decide +kernel) rfl, hl_at (i := 1224) (by decide +kernel) rfl⟩
  · exact fun h => absurd h (by decide +kernel)
set_option maxRecDepth 20000 in
theorem hl_jj132 : hl_jOK 132 := by
  refine ⟨⟨by decide +kernel, by decide +kernel, hl_w5 (i := 118) rfl rfl, hl_at (i := 157) (by decide +kernel) rfl, by decide +kernel, by decide +kernel⟩, ?_, ?_, ?_⟩
  · exact fun h => absurd h (by decide +kernel)
  · exact fun _ => ⟨hl_at (i := 1232) (by decide +kernel) rfl, hl_at (i := 1233) (by decide +kernel) rfl⟩
  · exact fun h => absurd h (by decide +kernel)
set_option maxRecDepth 20000 in
theorem hl_jj133 : hl_jOK 133 := by
  refine ⟨⟨by decide +kernel, by decide +kernel, hl_w5 (i := 137) rfl rfl, hl_at (i := 157) (by decide +kernel) rfl, by decide +kernel, by decide +kernel⟩, ?_, ?_, ?_⟩
  · exact fun h => absurd h (by decide +kernel)
  · exact fun _ => ⟨hl_at (i := 1251) (by decide +kernel) rfl, hl_at (i := 1252) (by decide +kernel) rfl⟩
  · exact fun h => absurd h (by decide +kernel)
set_option maxRecDepth 20000 in
theorem hl_jj134 : hl_jOK 134 := by
  refine ⟨⟨by decide +kernel, by decide +kernel, hl_w5 (i := 147) rfl rfl, hl_at (i := 157) (by decide +kernel) rfl, by decide +kernel, by decide +kernel⟩, ?_, ?_, ?_⟩
  · exact fun h => absurd h (by decide +kernel)
  · exact fun _ => ⟨hl_at (i := 1261) (by decide +kernel) rfl, hl_at (i := 1262) (by decide +kernel) rfl⟩
  · exact fun h => absurd h (by decide +kernel)
set_option maxRecDepth 20000 in
theorem hl_jj135 : hl_jOK 135 := by
  refine ⟨⟨by decide +kernel, by decide +kernel, hl_w5 (i := 166) rfl rfl, hl_at (i := 157) (by decide +kernel) rfl, by decide +kernel, by decide +kernel⟩, ?_, ?_, ?_⟩
  · exact fun h => absurd h (by decide +kernel)
  · exact fun _ => ⟨hl_at (i := 1280) (by decide +kernel) rfl, hl_at (i := 1281) (by decide +kernel) rfl⟩
  · exact fun h => absurd h (by decide +kernel)
set_option maxRecDepth 20000 in
theorem hl_jj136 : hl_jOK 136 := by
  refine ⟨⟨by decide +kernel, by decide +kernel, hl_w5 (i := 170) rfl rfl, hl_at (i := 157) (by decide +kernel) rfl, by decide +kernel, by decide +kernel⟩, ?_, ?_, ?_⟩
  · exact fun h => absurd h (by decide +kernel)
  · exact fun _ => ⟨hl_at (i := 1284) (by decide +kernel) rfl, hl_at (i := 1285) (by decide +kernel) rfl⟩
  · exact fun h => absurd h (by decide +kernel)
set_option maxRecDepth 20000 in
theorem hl_jj137 : hl_jOK 137 := by
  refine ⟨⟨by decide +kernel, by decide +kernel, hl_w5 (i := 174) rfl rfl, hl_at (i := 157) (by decide +kernel) rfl, by decide +kernel, by decide +kernel⟩, ?_, ?_, ?_⟩
  · exact fun h => absurd h (by decide +kernel)
  · exact fun _ => ⟨hl_at (i := 1289) (by decide +kernel) rfl, hl_at (i := 94) (by decide +kernel) rfl⟩
  · exact fun h => absurd h (by decide +kernel)
set_option maxRecDepth 20000 in
theorem hl_jj138 : hl_jOK 138 := by
  refine ⟨⟨by decide +kernel, by decide +kernel, hl_w2 (i := 203) rfl rfl, hl_at (i := 157) (by decide +kernel) rfl, by decide +kernel, by decide +kernel⟩, ?_, ?_, ?_⟩
  · exact fun h => absurd h (by decide +kernel)
  · exact fun _ => ⟨hl_at (i := 598) (by decide +kernel) rfl, hl_at (i := 0) (by decide +kernel) rfl⟩
  · exact fun h => absurd h (by decide +kernel)
set_option maxRecDepth 20000 in
theorem hl_jj139 : hl_jOK 139 := by
  refine ⟨⟨by decide +kernel, by decide +kernel, hl_w3 (i := 5) rfl rfl, hl_at (i := 157) (by decide +kernel) rfl, by decide +kernel, by decide +kernel⟩, ?_, ?_, ?_⟩
  · exact fun h => absurd h (by decide +kernel)
  · exact fun _ => ⟨hl_at (i := 640) (by decide +kernel) rfl, hl_at (i := 4) (by decide +kernel) rfl⟩
  · exact fun h => absurd h (by decide +kernel)
set_option maxRecDepth 20000 in
theorem hl_jj140 : hl_jOK 140 := by
  refine ⟨⟨by decide +kernel, by decide +kernel, hl_w2 (i := 233) rfl rfl, hl_at (i := 157) (by decide +kernel) rfl, by decide +kernel, by decide +kernel⟩, ?_, ?_, ?_⟩
  · exact fun _ => hl_at (i := 628) (by decide +kernel) rfl
  · exact fun h => absurd h (by decide +kernel)
  · exact fun h => absurd h (by decide +kernel)
set_option maxRecDepth 20000 in
theorem hl_jj141 : hl_jOK 141 := by
  refine ⟨⟨by decide +kernel, by decide +kernel, hl_w4 (i := 145) rfl rfl, hl_at (i := 157) (by decide +kernel) rfl, by decide +kernel, by decide +kernel⟩, ?_, ?_, ?_⟩
  · exact fun h => absurd h (by decide +kernel)
  · exact fun _ => ⟨hl_at (i := 1020) (by decide +kernel) rfl, hl_at (i := 51) (by decide +kernel) rfl⟩
  · exact fun h => absurd h (by decide +kernel)
set_option maxRecDepth 20000 in
theorem hl_jj142 : hl_jOK 142 := by
  refine ⟨⟨by decide +kernel, by decide +kernel, hl_w4 (i := 108) rfl rfl, hl_at (i := 157) (by decide +kernel) rfl, by decide +kernel, by decide +kernel⟩, ?_, ?_, ?_⟩
  · exact fun h => absurd h (by decide +kernel)
  · exact fun _ => ⟨hl_at (i := 983) (by decide +kernel) rfl, hl_at (i := 44) (by decide +kernel) rfl⟩
  · exact fun h => absurd h (by decide +kernel)
set_option maxRecDepth 20000 in
theorem hl_jj143 : hl_jOK 143 := by
  refine ⟨⟨by decide +kernel, by decide +kernel, hl_w3 (i := 17) rfl rfl, hl_at (i := 157) (by decide +kernel) rfl, by decide +kernel, by decide +kernel⟩, ?_, ?_, ?_⟩
  · exact fun h => absurd h (by decide +kernel)
  · exact fun _ => ⟨hl_at (i := 652) (by decide +kernel) rfl, hl_at (i := 5) (by decide +kernel) rfl⟩
  · exact fun h => absurd h (by decide +kernel)
set_option maxRecDepth 20000 in
theorem hl_jj144 : hl_jOK 144 := by
  refine ⟨⟨by decide +kernel, by decide +kernel, hl_w5 (i := 122) rfl rfl, hl_at (i := 157) (by decide +kernel) rfl, by decide +kernel, by decide +kernel⟩, ?_, ?_, ?_⟩
  · exact fun h => absurd h (by decide +kernel)
  · exact fun _ => ⟨hl_at (i := 1237) (by decide +kernel) rfl, hl_at (i := 87) (by decide +kernel) rfl⟩
  · exact fun h => absurd h (by decide +kernel)
set_option maxRecDepth 20000 in
theorem hl_jj145 : hl_jOK 145 := by
  refine ⟨⟨by decide +kernel, by decide +kernel, hl_w5 (i := 126) rfl rfl, hl_at (i := 157) (by decide +kernel) rfl, by decide +kernel, by decide +kernel⟩, ?_, ?_, ?_⟩
  · exact fun h => absurd h (by decide +kernel)
  · exact fun _ => ⟨hl_at (i := 1241) (by decide +kernel) rfl, hl_at (i := 88) (by decide +kernel) rfl⟩
  · exact fun h => absurd h (by decide +kernel)
set_option maxRecDepth 20000 in
theorem hl_jj146 : hl_jOK 146 := by
  refine ⟨⟨by decide +kernel, by decide +kernel, hl_w5 (i := 133) rfl rfl, hl_at (i := 157) (by decide +kernel) rfl, by decide +kernel, by decide +kernel⟩, ?_, ?_, ?_⟩
  · exact fun h => absurd h (by decide +kernel)
  · exact fun _ => ⟨hl_at (i := 1248) (by decide +kernel) rfl, hl_at (i := 89) (by decide +kernel) rfl⟩
  · exact fun h => absurd h (by decide +kernel)
set_option maxRecDepth 20000 in
theorem hl_jj147 : hl_jOK 147 := by
  refine ⟨⟨by decide +kernel, by decide +kernel, hl_w2 (i := 206) rfl rfl, hl_at (i := 157) (by decide +kernel) rfl, by decide +kernel, by decide +kernel⟩, ?_, ?_, ?_⟩
  · exact fun _ => hl_at (i := 601) (by decide +kernel) rfl
  · exact fun h => absurd h (by decide +kernel)
  · exact fun h => absurd h (by decide +kernel)
set_option maxRecDepth 20000 in
theorem hl_jj148 : hl_jOK 148 := by
  refine ⟨⟨by decide +kernel, by decide +kernel, hl_w1 (i := 32) rfl rfl, hl_at (i := 157) (by decide +kernel) rfl, by decide +kernel, by decide +kernel⟩, ?_, ?_, ?_⟩
  · exact fun _ => hl_at (i := 187) (by decide +kernel) rfl
  · exact fun h => absurd h (by decide +kernel)
  · exact fun h => absurd h (by decide +kernel)
set_option maxRecDepth 20000 in
theorem hl_jj149 : hl_jOK 149 := by
  refine ⟨⟨by decide +kernel, by decide +kernel, hl_w5 (i := 182) rfl rfl, hl_at (i := 170) (by decide +kernel) rfl, by decide +kernel, by decide +kernel⟩, ?_, ?_, ?_⟩
  · exact fun h => absurd h (by decide +kernel)
  · exact fun h => absurd h (by decide +kernel)
  · exact fun _ => ⟨by decide +kernel, hl_at (i := 1297) (by decide +kernel) rfl, by decide +kernel⟩
set_option maxRecDepth 20000 in
theorem hl_jj150 : hl_jOK 150 := by
  refine ⟨⟨by decide +kernel, by decide +kernel, hl_w5 (i := 186) rfl rfl, hl_at (i := 170) (by decide +kernel) rfl, by decide +kernel, by decide +kernel⟩, ?_, ?_, ?_⟩
  · exact fun _ => hl_at (i := 1301) (by decide +kernel) rfl
  · exact fun h => absurd h (by decide +kernel)
  · exact fun h => absurd h (by decide +kernel)
set_option maxRecDepth 20000 in
theorem hl_jj151 : hl_jOK 151 := by
  refine ⟨⟨by decide +kernel, by decide +kernel, hl_w6 (i := 71) rfl rfl, hl_at (i := 170) (by decide +kernel) rfl, by decide +kernel, by decide +kernel⟩, ?_, ?_, ?_⟩
  · exact fun _ => hl_at (i := 1426) (by decide +kernel) rfl
  · exact fun h => absurd h (by decide +kernel)
  · exact fun h => absurd h (by decide +kernel)
set_option maxRecDepth 20000 in
theorem hl_jj152 : hl_jOK 152 := by
  refine ⟨⟨by decide +kernel, by decide +kernel, hl_w7 (i := 34) rfl rfl, hl_at (i := 170) (by decide +kernel) rfl, by decide +kernel, by decide +kernel⟩, ?_, ?_, ?_⟩
  · exact fun _ => hl_at (i := 1629) (by decide +kernel) rfl
  · exact fun h => absurd h (by decide +kernel)
  · exact fun h => absurd h (by decide +kernel)
set_option maxRecDepth 20000 in
theorem hl_jj153 : hl_jOK 153 := by
  refine ⟨⟨by decide +kernel, by decide +kernel, hl_w6 (i := 68) rfl rfl, hl_at (i := 170) (by decide +kernel) rfl, by decide +kernel, by decide +kernel⟩, ?_, ?_, ?_⟩
  · exact fun h => absurd h (by decide +kernel)
  · exact fun _ => ⟨hl_at (i := 1423) (by decide +kernel) rfl, hl_at (i := 95) (by decide +kernel) rfl⟩
  · exact fun h => absurd h (by decide +kernel)
set_option maxRecDepth 20000 in
theorem hl_jj154 : hl_jOK 154 := by
  refine ⟨⟨by decide +kernel, by decide +kernel, hl_w6 (i := 102) rfl rfl, hl_at (i := 170) (by decide +kernel) rfl, by decide +kernel, by decide +kernel⟩, ?_, ?_, ?_⟩
  · exact fun h => absurd h (by decide +kernel)
  · exact fun _ => ⟨hl_at (i := 1457) (by decide +kernel) rfl, hl_at (i := 97) (by decide +kernel) rfl⟩
  · exact fun h => absurd h (by decide +kernel)
set_option maxRecDepth 20000 in
theorem hl_jj155 : hl_jOK 155 := by
  refine ⟨⟨by decide +kernel, by decide +kernel, hl_w7 (i := 11) rfl rfl, hl_at (i := 170) (by decide +kernel) rfl, by decide +kernel, by decide +kernel⟩, ?_, ?_, ?_⟩
  · exact fun h => absurd h (by decide +kernel)
  · exact fun _ => ⟨hl_at (i := 1606) (by decide +kernel) rfl, hl_at (i := 121) (by decide +kernel) rfl⟩
  · exact fun h => absurd h (by decide +kernel)
set_option maxRecDepth 20000 in
theorem hl_jj156 : hl_jOK 156 := by
  refine ⟨⟨by decide +kernel, by decide +kernel, hl_w6 (i := 83) rfl rfl, hl_at (i := 170) (by decide +kernel) rfl, by decide +kernel, by decide +kernel⟩, ?_, ?_, ?_⟩
  · exact fun h => absurd h (by decide +kernel)
  · exact fun _ => ⟨hl_at (i := 1438) (by decide +kernel) rfl, hl_at (i := 96) (by decide +kernel) rfl⟩
  · exact fun h => absurd h (by decide +kernel)
set_option maxRecDepth 20000 in
theorem hl_jj157 : hl_jOK 157 := by
  refine ⟨⟨by decide +kernel, by decide +kernel, hl_w6 (i := 64) rfl rfl, hl_at (i := 170) (by decide +kernel) rfl, by decide +kernel, by decide +kernel⟩, ?_, ?_, ?_⟩
  · exact fun h => absurd h (by decide +kernel)
  · exact fun _ => ⟨hl_at (i := 1418) (by decide +kernel) rfl, hl_at (i := 1419) (by decide +kernel) rfl⟩
  · exact fun h => absurd h (by decide +kernel)
set_option maxRecDepth 20000 in
theorem hl_jj158 : hl_jOK 158 := by
  refine ⟨⟨by decide +kernel, by decide +kernel, hl_w6 (i := 75) rfl rfl, hl_at (i := 170) (by decide +kernel) rfl, by decide +kernel, by decide +kernel⟩, ?_, ?_, ?_⟩
  · exact fun h => absurd h (by decide +kernel)
  · exact fun _ => ⟨hl_at (i := 1429) (by decide +kernel) rfl, hl_at (i := 1430) (by decide +kernel) rfl⟩
  · exact fun h => absurd h (by decide +kernel)
set_option maxRecDepth 20000 in
theorem hl_jj159 : hl_jOK 159 := by
  refine ⟨⟨by decide +kernel, by decide +kernel, hl_w6 (i := 79) rfl rfl, hl_at (i := 170) (by decide +kernel) rfl, by decide +kernel, by decide +kernel⟩, ?_, ?_, ?_⟩
  · exact fun h => absurd h (by decide +kernel)
  · exact fun _ => ⟨hl_at (i := 1433) (by decide +kernel) rfl, hl_at (i := 1434) (by decide +kernel) rfl⟩
  · exact fun h => absurd h (by decide +kernel)
set_option maxRecDepth 20000 in
theorem hl_jj160 : hl_jOK 160 := by
  refine ⟨⟨by decide +kernel, by decide +kernel, hl_w6 (i := 90) rfl rfl, hl_at (i := 170) (by decide +kernel) rfl, by decide +kernel, by decide +kernel⟩, ?_, ?_, ?_⟩
  · exact fun _ => hl_at (i := 1445) (by decide +kernel) rfl
  · exact fun h => absurd h (by decide +kernel)
  · exact fun h => absurd h (by decide +kernel)
set_option maxRecDepth 20000 in
theorem hl_jj161 : hl_jOK 161 := by
  refine ⟨⟨by decide +kernel, by decide +kernel, hl_w6 (i := 87) rfl rfl, hl_at (i := 170) (by decide +kernel) rfl, by decide +kernel, by decide +kernel⟩, ?_, ?_, ?_⟩
  · exact fun h => absurd h (by decide +kernel)
  · exact fun _ => ⟨hl_at (i := 1441) (by decide +kernel) rfl, hl_at (i := 1442) (by decide +kernel) rfl⟩
  · exact fun h => absurd h (by decide +kernel)
set_option maxRecDepth 20000 in
theorem hl_jj162 : hl_jOK 162 := by
  refine ⟨⟨by decide +kernel, by decide +kernel, hl_w6 (i := 94) rfl rfl, hl_at (i := 170) (by decide +kernel) rfl, by decide +kernel, by decide +kernel⟩, ?_, ?_, ?_⟩
  · exact fun h => absurd h (by decide +kernel)
  · exact fun _ => ⟨hl_at (i := 1448) (by decide +kernel) rfl, hl_at (i := 1449) (by decide +kernel) rfl⟩
  · exact fun h => absurd h (by decide +kernel)
set_option maxRecDepth 20000 in
theorem hl_jj163 : hl_jOK 163 := by
  refine ⟨⟨by decide +kernel, by decide +kernel, hl_w6 (i := 98) rfl rfl, hl_at (i := 170) (by decide +kernel) rfl, by decide +kernel, by decide +kernel⟩, ?_, ?_, ?_⟩
  · exact fun h => absurd h (by decide +kernel)
  · exact fun _ => ⟨hl_at (i := 1452) (by decide +kernel) rfl, hl_at (i := 1453) (by decide +kernel) rfl⟩
  · exact fun h => absurd h (by decide +kernel)
set_option maxRecDepth 20000 in
theorem hl_jj164 : hl_jOK 164 := by
  refine ⟨⟨by decide +kernel, by decide +kernel, hl_w6 (i := 106) rfl rfl, hl_at (i := 170) (by decide +kernel) rfl, by decide +kernel, by decide +kernel⟩, ?_, ?_, ?_⟩
  · exact fun h => absurd h (by decide +kernel)
  · exact fun _ => ⟨hl_at (i := 1460) (by decide +kernel) rfl, hl_at (i := 1461) (by decide +kernel) rfl⟩
  · exact fun h => absurd h (by decide +kernel)
set_option maxRecDepth 20000 in
theorem hl_jj165 : hl_jOK 165 := by
  refine ⟨⟨by decide +kernel, by decide +kernel, hl_w6 (i := 114) rfl rfl, hl_at (i := 170) (by decide +kernel) rfl, by decide +kernel, by decide +kernel⟩, ?_, ?_, ?_⟩
  · exact fun h => absurd h (by decide +kernel)
  · exact fun _ => ⟨hl_at (i := 1469) (by decide +kernel) rfl, hl_at (i := 98) (by decide +kernel) rfl⟩
  · exact fun h => absurd h (by decide +kernel)
set_option maxRecDepth 20000 in
theorem hl_jj166 : hl_jOK 166 := by
  refine ⟨⟨by decide +kernel, by decide +kernel, hl_w6 (i := 110) rfl rfl, hl_at (i := 170) (by decide +kernel) rfl, by decide +kernel, by decide +kernel⟩, ?_, ?_, ?_⟩
  · exact fun h => absurd h (by decide +kernel)
  · exact fun _ => ⟨hl_at (i := 1464) (by decide +kernel) rfl, hl_at (i := 1465) (by decide +kernel) rfl⟩
  · exact fun h => absurd h (by decide +kernel)
set_option maxRecDepth 20000 in
theorem hl_jj167 : hl_jOK 167 := by
  refine ⟨⟨by decide +kernel, by decide +kernel, hl_w6 (i := 118) rfl rfl, hl_at (i := 170) (by decide +kernel) rfl, by decide +kernel, by decide +kernel⟩, ?_, ?_, ?_⟩
  · exact fun h => absurd h (by decide +kernel)
  · exact fun _ => ⟨hl_at (i := 1472) (by decide +kernel) rfl, hl_at (i := 1473) (by decide +kernel) rfl⟩
  · exact fun h => absurd h (by decide +kernel)
set_option maxRecDepth 20000 in
theorem hl_jj168 : hl_jOK 168 := by
  refine ⟨⟨by decide +kernel, by decide +kernel, hl_w6 (i := 134) rfl rfl, hl_at (i := 170) (by decide +kernel) rfl, by decide +kernel, by decide +kernel⟩, ?_, ?_, ?_⟩
  · exact fun h => absurd h (by decide +kernel)
  · exact fun _ => ⟨hl_at (i := 1489) (by decide +kernel) rfl, hl_at (i := 101) (by decide +kernel) rfl⟩
  · exact fun h => absurd h (by decide +kernel)
set_option maxRecDepth 20000 in
theorem hl_jj169 : hl_jOK 169 := by
  refine ⟨⟨by decide +kernel, by decide +kernel, hl_w6 (i := 141) rfl rfl, hl_at (i := 170) (by decide +kernel) rfl, by decide +kernel, by decide +kernel⟩, ?_, ?_, ?_⟩
  · exact fun _ => hl_at (i := 1496) (by decide +kernel) rfl
  · exact fun h => absurd h (by decide +kernel)
  · exact fun h => absurd h (by decide +kernel)
set_option maxRecDepth 20000 in
theorem hl_jj170 : hl_jOK 170 := by
  refine ⟨⟨by decide +kernel, by decide +kernel, hl_w6 (i := 137) rfl rfl, hl_at (i := 170) (by decide +kernel) rfl, by decide +kernel, by decide +kernel⟩, ?_, ?_, ?_⟩
  · exact fun _ => hl_at (i := 1492) (by decide +kernel) rfl
  · exact fun h => absurd h (by decide +kernel)
  · exact fun h => absurd h (by decide +kernel)
set_option maxRecDepth 20000 in
theorem hl_jj171 : hl_jOK 171 := by
  refine ⟨⟨by decide +kernel, by decide +kernel, hl_w6 (i := 130) rfl rfl, hl_at (i := 170) (by decide +kernel) rfl, by decide +kernel, by decide +kernel⟩, ?_, ?_, ?_⟩
  · exact fun h => absurd h (by decide +kernel)
  · exact fun _ => ⟨hl_at (i := 1485) (by decide +kernel) rfl, hl_at (i := 100) (by decide +kernel) rfl⟩
  · exact fun h => absurd h (by decide +kernel)
set_option maxRecDepth 20000 in
theorem hl_jj172 : hl_jOK 172 := by
  refine ⟨⟨by decide +kernel, by decide +kernel, hl_w6 (i := 155) rfl rfl, hl_at (i := 170) (by decide +kernel) rfl, by decide +kernel, by decide +kernel⟩, ?_, ?_, ?_⟩
  · exact fun _ => hl_at (i := 1510) (by decide +kernel) rfl
  · exact fun h => absurd h (by decide +kernel)
  · exact fun h => absurd h (by decide +kernel)
set_option maxRecDepth 20000 in
theorem hl_jj173 : hl_jOK 173 := by
  refine ⟨⟨by decide +kernel, by decide +kernel, hl_w6 (i := 221) rfl rfl, hl_at (i := 170) (by decide +kernel) rfl, by decide +kernel, by decide +kernel⟩, ?_, ?_, ?_⟩
  · exact fun _ => hl_at (i := 1576) (by decide +kernel) rfl
  · exact fun h => absurd h (by decide +kernel)
  · exact fun h => absurd h (by decide +kernel)
set_option maxRecDepth 20000 in
theorem hl_jj174 : hl_jOK 174 := by
  refine ⟨⟨by decide +kernel, by decide +kernel, hl_w6 (i := 152) rfl rfl, hl_at (i := 170) (by decide +kernel) rfl, by decide +kernel, by decide +kernel⟩, ?_, ?_, ?_⟩
  · exact fun _ => hl_at (i := 1507) (by decide +kernel) rfl
  · exact fun h => absurd h (by decide +kernel)
  · exact fun h => absurd h (by decide +kernel)
set_option maxRecDepth 20000 in
theorem hl_jj175 : hl_jOK 175 := by
  refine ⟨⟨by decide +kernel, by decide +kernel, hl_w6 (i := 218) rfl rfl, hl_at (i := 170) (by decide +kernel) rfl, by decide +kernel, by decide +kernel⟩, ?_, ?_, ?_⟩
  · exact fun _ => hl_at (i := 1573) (by decide +kernel) rfl
  · exact fun h => absurd h (by decide +kernel)
  · exact fun h => absurd h (by decide +kernel)
set_option maxRecDepth 20000 in
theorem hl_jj176 : hl_jOK 176 := by
  refine ⟨⟨by decide +kernel, by decide +kernel, hl_w6 (i := 159) rfl rfl, hl_at (i := 170) (by decide +kernel) rfl, by decide +kernel, by decide +kernel⟩, ?_, ?_, ?_⟩
  · exact fun h => absurd h (by decide +kernel)
  · exact fun _ => ⟨hl_at (i := 1514) (by decide +kernel) rfl, hl_at (i := 104) (by decide +kernel) rfl⟩
  · exact fun h => absurd h (by decide +kernel)
set_option maxRecDepth 20000 in
theorem hl_jj177 : hl_jOK 177 := by
  refine ⟨⟨by decide +kernel, by decide +kernel, hl_w6 (i := 199) rfl rfl, hl_at (i := 170) (by decide +kernel) rfl, by decide +kernel, by decide +kernel⟩, ?_, ?_, ?_⟩
  · exact fun h => absurd h (by decide +kernel)
  · exact fun _ => ⟨hl_at (i := 1554) (by decide +kernel) rfl, hl_at (i := 113) (by decide +kernel) rfl⟩
  · exact fun h => absurd h (by decide +kernel)
set_option maxRecDepth 20000 in
theorem hl_jj178 : hl_jOK 178 := by
  refine ⟨⟨by decide +kernel, by decide +kernel, hl_w6 (i := 203) rfl rfl, hl_at (i := 170) (by decide +kernel) rfl, by decide +kernel, by decide +kernel⟩, ?_, ?_, ?_⟩
  · exact fun h => absurd h (by decide +kernel)
  · exact fun _ => ⟨hl_at (i := 1558) (by decide +kernel) rfl, hl_at (i := 114) (by decide +kernel) rfl⟩
  · exact fun h => absurd h (by decide +kernel)
set_option maxRecDepth 20000 in
theorem hl_jj179 : hl_jOK 179 := by
  refine ⟨⟨by decide +kernel, by decide +kernel, hl_w6 (i := 186) rfl rfl, hl_at (i := 170) (by decide +kernel) rfl, by decide +kernel, by decide +kernel⟩, ?_, ?_, ?_⟩
  · exact fun _ => hl_at (i := 1541) (by decide +kernel) rfl
  · exact fun h => absurd h (by decide +kernel)
  · exact fun h => absurd h (by decide +kernel)
set_option maxRecDepth 20000 in
theorem hl_jj180 : hl_jOK 180 := by
  refine ⟨⟨by decide +kernel, by decide +kernel, hl_w6 (i := 195) rfl rfl, hl_at (i := 170) (by decide +kernel) rfl, by decide +kernel, by decide +kernel⟩, ?_, ?_, ?_⟩
  · exact fun h => absurd h (by decide +kernel)
  · exact fun _ => ⟨hl_at (i := 1550) (by decide +kernel) rfl, hl_at (i := 112) (by decide +kernel) rfl⟩
  · exact fun h => absurd h (by decide +kernel)
set_option maxRecDepth 20000 in
theorem hl_jj181 : hl_jOK 181 := by
  refine ⟨⟨by decide +kernel, by decide +kernel, hl_w6 (i := 207) rfl rfl, hl_at (i := 170) (by decide +kernel) rfl, by decide +kernel, by decide +kernel⟩, ?_, ?_, ?_⟩
  · exact fun h => absurd h (by decide +kernel)
  · exact fun _ => ⟨hl_at (i := 1562) (by decide +kernel) rfl, hl_at (i := 115) (by decide +kernel) rfl⟩
  · exact fun h => absurd h (by decide +kernel)
set_option maxRecDepth 20000 in
theorem hl_jj182 : hl_jOK 182 := by
  refine ⟨⟨by decide +kernel, by decide +kernel, hl_w6 (i := 179) rfl rfl, hl_at (i := 170) (by decide +kernel) rfl, by decide +kernel, by decide +kernel⟩, ?_, ?_, ?_⟩
  · exact fun h => absurd h (by decide +kernel)
  · exact fun _ => ⟨hl_at (i := 1534) (by decide +kernel) rfl, hl_at (i := 109) (by decide +kernel) rfl⟩
  · exact fun h => absurd h (by decide +kernel)
set_option maxRecDepth 20000 in
theorem hl_jj183 : hl_jOK 183 := by
  refine ⟨⟨by decide +kernel, by decide +kernel, hl_w6 (i := 175) rfl rfl, hl_at (i := 170) (by decide +kernel) rfl, by decide +kernel, by decide +kernel⟩, ?_, ?_, ?_⟩
  · exact fun h => absurd h (by decide +kernel)
  · exact fun _ => ⟨hl_at (i := 1530) (by decide +kernel) rfl, hl_at (i := 108) (by decide +kernel) rfl⟩
  · exact fun h => absurd h (by decide +kernel)
set_option maxRecDepth 20000 in
theorem hl_jj184 : hl_jOK 184 := by
  refine ⟨⟨by decide +kernel, by decide +kernel, hl_w6 (i := 183) rfl rfl, hl_at (i := 170) (by decide +kernel) rfl, by decide +kernel, by decide +kernel⟩, ?_, ?_, ?_⟩
  · exact fun h => absurd h (by decide +kernel)
  · exact fun _ => ⟨hl_at (i := 1538) (by decide +kernel) rfl, hl_at (i := 110) (by decide +kernel) rfl⟩
  · exact fun h => absurd h (by decide +kernel)
set_option maxRecDepth 20000 in
theorem hl_jj185 : hl_jOK 185 := by
  refine ⟨⟨by decide +kernel, by decide +kernel, hl_w6 (i := 230) rfl rfl, hl_at (i := 170) (by decide +kernel) rfl, by decide +kernel, by decide +kernel⟩, ?_, ?_, ?_⟩
  · exact fun h => absurd h (by decide +kernel)
  · exact fun _ => ⟨hl_at (i := 1585) (by decide +kernel) rfl, hl_at (i := 119) (by decide +kernel) rfl⟩
  · exact fun h => absurd h (by decide +kernel)
set_option maxRecDepth 20000 in
theorem hl_jj186 : hl_jOK 186 := by
  refine ⟨⟨by decide +kernel, by decide +kernel, hl_w6 (i := 225) rfl rfl, hl_at (i := 170) (by decide +kernel) rfl, by decide +kernel, by decide +kernel⟩, ?_, ?_, ?_⟩
  · exact fun h => absurd h (by decide +kernel)
  · exact fun _ => ⟨hl_at (i := 1580) (by decide +kernel) rfl, hl_at (i := 118) (by decide +kernel) rfl⟩
  · exact fun h => absurd h (by decide +kernel)
set_option maxRecDepth 20000 in
theorem hl_jj187 : hl_jOK 187 := by
  refine ⟨⟨by decide +kernel, by decide +kernel, hl_w6 (i := 211) rfl rfl, hl_at (i := 170) (by decide +kernel) rfl, by decide +kernel, by decide +kernel⟩, ?_, ?_, ?_⟩
  · exact fun h => absurd h (by decide +kernel)
  · exact fun _ => ⟨hl_at (i := 1566) (by decide +kernel) rfl, hl_at (i := 116) (by decide +kernel) rfl⟩
  · exact fun h => absurd h (by decide +kernel)
set_option maxRecDepth 20000 in
theorem hl_jj188 : hl_jOK 188 := by
  refine ⟨⟨by decide +kernel, by decide +kernel, hl_w6 (i := 190) rfl rfl, hl_at (i := 170) (by decide +kernel) rfl, by decide +kernel, by decide +kernel⟩, ?_, ?_, ?_⟩
  · exact fun h => absurd h (by decide +kernel)
  · exact fun _ => ⟨hl_at (i := 1545) (by decide +kernel) rfl, hl_at (i := 111) (by decide +kernel) rfl⟩
  · exact fun h => absurd h (by decide +kernel)
set_option maxRecDepth 20000 in
theorem hl_jj189 : hl_jOK 189 := by
  refine ⟨⟨by decide +kernel, by decide +kernel, hl_w6 (i := 171) rfl rfl, hl_at (i := 170) (by decide +kernel) rfl, by decide +kernel, by decide +kernel⟩, ?_, ?_, ?_⟩
  · exact fun h => absurd h (by decide +kernel)
  · exact fun _ => ⟨hl_at (i := 1526) (by decide +kernel) rfl, hl_at (i := 107) (by decide +kernel) rfl⟩
  · exact fun h => absurd h (by decide +kernel)
set_option maxRecDepth 20000 in
theorem hl_jj190 : hl_jOK 190 := by
  refine ⟨⟨by decide +kernel, by decide +kernel, hl_w6 (i := 167) rfl rfl, hl_at (i := 170) (by decide +kernel) rfl, by decide +kernel, by decide +kernel⟩, ?_, ?_, ?_⟩
  · exact fun h => absurd h (by decide +kernel)
  · exact fun _ => ⟨hl_at (i := 1522) (by decide +kernel) rfl, hl_at (i := 106) (by decide +kernel) rfl⟩
  · exact fun h => absurd h (by decide +kernel)
set_option maxRecDepth 20000 in
theorem hl_jj191 : hl_jOK 191 := by
  refine ⟨⟨by decide +kernel, by decide +kernel, hl_w6 (i := 163) rfl rfl, hl_at (i := 170) (by decide +kernel) rfl, by decide +kernel, by decide +kernel⟩, ?_, ?_, ?_⟩
  · exact fun h => absurd h (by decide +kernel)
  · exact fun _ => ⟨hl_at (i := 1518) (by decide +kernel) rfl, hl_at (i := 105) (by decide +kernel) rfl⟩
  · exact fun h => absurd h (by decide +kernel)
set_option maxRecDepth 20000 in
theorem hl_jj192 : hl_jOK 192 := by
  refine ⟨⟨by decide +kernel, by decide +kernel, hl_w6 (i := 215) rfl rfl, hl_at (i := 170) (by decide +kernel) rfl, by decide +kernel, by decide +kernel⟩, ?_, ?_, ?_⟩
  · exact fun h => absurd h (by decide +kernel)
  · exact fun _ => ⟨hl_at (i := 1570) (by decide +kernel) rfl, hl_at (i := 117) (by decide +kernel) rfl⟩
  · exact fun h => absurd h (by decide +kernel)
set_option maxRecDepth 20000 in
theorem hl_jj193 : hl_jOK 193 := by
  refine ⟨⟨by decide +kernel, by decide +kernel, hl_w6 (i := 149) rfl rfl, hl_at (i := 170) (by decide +kernel) rfl, by decide +kernel, by decide +kernel⟩, ?_, ?_, ?_⟩
  · exact fun h => absurd h (by decide +kernel)
  · exact fun _ => ⟨hl_at (i := 1504) (by decide +kernel) rfl, hl_at (i := 103) (by decide +kernel) rfl⟩
  · exact fun h => absurd h (by decide +kernel)
set_option maxRecDepth 20000 in
theorem hl_jj194 : hl_jOK 194 := by
  refine ⟨⟨by decide +kernel, by decide +kernel, hl_w6 (i := 145) rfl rfl, hl_at (i := 170) (by decide +kernel) rfl, by decide +kernel, by decide +kernel⟩, ?_, ?_, ?_⟩
  · exact fun h => absurd h (by decide +kernel)
  · exact fun _ => ⟨hl_at (i := 1500) (by decide +kernel) rfl, hl_at (i := 102) (by decide +kernel) rfl⟩
  · exact fun h => absurd h (by decide +kernel)
set_option maxRecDepth 20000 in
theorem hl_jj195 : hl_jOK 195 := by
  refine ⟨⟨by decide +kernel, by decide +kernel, hl_w6 (i := 126) rfl rfl, hl_at (i := 170) (by decide +kernel) rfl, by decide +kernel, by decide +kernel⟩, ?_, ?_, ?_⟩
  · exact fun h => absurd h (by decide +kernel)
  · exact fun _ => ⟨hl_at (i := 1481) (by decide +kernel) rfl, hl_at (i := 99) (by decide +kernel) rfl⟩
  · exact fun h => absurd h (by decide +kernel)
set_option maxRecDepth 20000 in
theorem hl_jj196 : hl_jOK 196 := by
  refine ⟨⟨by decide +kernel, by decide +kernel, hl_w6 (i := 122) rfl rfl, hl_at (i := 170) (by decide +kernel) rfl, by decide +kernel, by decide +kernel⟩, ?_, ?_, ?_⟩
  · exact fun h => absurd h (by decide +kernel)
  · exact fun _ => ⟨hl_at (i := 1476) (by decide +kernel) rfl, hl_at (i := 1477) (by decide +kernel) rfl⟩
  · exact fun h => absurd h (by decide +kernel)
set_option maxRecDepth 20000 in
theorem hl_jj197 : hl_jOK 197 := by
  refine ⟨⟨by decide +kernel, by decide +kernel, hl_w6 (i := 234) rfl rfl, hl_at (i := 170) (by decide +kernel) rfl, by decide +kernel, by decide +kernel⟩, ?_, ?_, ?_⟩
  · exact fun h => absurd h (by decide +kernel)
  · exact fun _ => ⟨hl_at (i := 1588) (by decide +kernel) rfl, hl_at (i := 1589) (by decide +kernel) rfl⟩
  · exact fun h => absurd h (by decide +kernel)
set_option maxRecDepth 20000 in
theorem hl_jj198 : hl_jOK 198 := by
  refine ⟨⟨by decide +kernel, by decide +kernel, hl_w6 (i := 238) rfl rfl, hl_at (i := 170) (by decide +kernel) rfl, by decide +kernel, by decide +kernel⟩, ?_, ?_, ?_⟩
  · exact fun h => absurd h (by decide +kernel)
  · exact fun _ => ⟨hl_at (i := 1592) (by decide +kernel) rfl, hl_at (i := 1593) (by decide +kernel) rfl⟩
  · exact fun h => absurd h (by decide +kernel)
set_option maxRecDepth 20000 in
theorem hl_jj199 : hl_jOK 199 := by
  refine ⟨⟨by decide +kernel, by decide +kernel, hl_w7 (i := 48) rfl rfl, hl_at (i := 170) (by decide +kernel) rfl, by decide +kernel, by decide +kernel⟩, ?_, ?_, ?_⟩
  · exact fun _ => hl_at (i := 1643) (by decide +kernel) rfl
  · exact fun h => absurd h (by decide +kernel)
  · exact fun h => absurd h (by decide +kernel)
set_option maxRecDepth 20000 in
theorem hl_jj200 : hl_jOK 200 := by
  refine ⟨⟨by decide +kernel, by decide +kernel, hl_w7 (i := 45) rfl rfl, hl_at (i := 170) (by decide +kernel) rfl, by decide +kernel, by decide +kernel⟩, ?_, ?_, ?_⟩
  · exact fun _ => hl_at (i := 1640) (by decide +kernel) rfl
  · exact fun h => absurd h (by decide +kernel)
  · exact fun h => absurd h (by decide +kernel)
set_option maxRecDepth 20000 in
theorem hl_jj201 : hl_jOK 201 := by
  refine ⟨⟨by decide +kernel, by decide +kernel, hl_w7 (i := 53) rfl rfl, hl_at (i := 170) (by decide +kernel) rfl, by decide +kernel, by decide +kernel⟩, ?_, ?_, ?_⟩
  · exact fun _ => hl_at (i := 1648) (by decide +kernel) rfl
  · exact fun h => absurd h (by decide +kernel)
  · exact fun h => absurd h (by decide +kernel)
set_option maxRecDepth 20000 in
theorem hl_jj202 : hl_jOK 202 := by
  refine ⟨⟨by decide +kernel, by decide +kernel, hl_w7 (i := 38) rfl rfl, hl_at (i := 170) (by decide +kernel) rfl, by decide +kernel, by decide +kernel⟩, ?_, ?_, ?_⟩
  · exact fun h => absurd h (by decide +kernel)
  · exact fun _ => ⟨hl_at (i := 1633) (by decide +kernel) rfl, hl_at (i := 126) (by decide +kernel) rfl⟩
  · exact fun h => absurd h (by decide +kernel)
set_option maxRecDepth 20000 in
theorem hl_jj203 : hl_jOK 203 := by
  refine ⟨⟨by decide +kernel, by decide +kernel, hl_w7 (i := 42) rfl rfl, hl_at (i := 170) (by decide +kernel) rfl, by decide +kernel, by decide +kernel⟩, ?_, ?_, ?_⟩
  · exact fun h => absurd h (by decide +kernel)
  · exact fun _ => ⟨hl_at (i := 1637) (by decide +kernel) rfl, hl_at (i := 127) (by decide +kernel) rfl⟩
  · exact fun h => absurd h (by decide +kernel)
set_option maxRecDepth 20000 in
theorem hl_jj204 : hl_jOK 204 := by
  refine ⟨⟨by decide +kernel, by decide +kernel, hl_w7 (i := 15) rfl rfl, hl_at (i := 170) (by decide +kernel) rfl, by decide +kernel, by decide +kernel⟩, ?_, ?_, ?_⟩
  · exact fun h => absurd h (by decide +kernel)
  · exact fun _ => ⟨hl_at (i := 1610) (by decide +kernel) rfl, hl_at (i := 122) (by decide +kernel) rfl⟩
  · exact fun h => absurd h (by decide +kernel)
set_option maxRecDepth 20000 in
theorem hl_jj205 : hl_jOK 205 := by
  refine ⟨⟨by decide +kernel, by decide +kernel, hl_w7 (i := 7) rfl rfl, hl_at (i := 170) (by decide +kernel) rfl, by decide +kernel, by decide +kernel⟩, ?_, ?_, ?_⟩
  · exact fun h => absurd h (by decide +kernel)
  · exact fun _ => ⟨hl_at (i := 1602) (by decide +kernel) rfl, hl_at (i := 120) (by decide +kernel) rfl⟩
  · exact fun h => absurd h (by decide +kernel)
set_option maxRecDepth 20000 in
theorem hl_jj206 : hl_jOK 206 := by
  refine ⟨⟨by decide +kernel, by decide +kernel, hl_w7 (i := 19) rfl rfl, hl_at (i := 170) (by decide +kernel) rfl, by decide +kernel, by decide +kernel⟩, ?_, ?_, ?_⟩
  · exact fun h => absurd h (by decide +kernel)
  · exact fun _ => ⟨hl_at (i := 1614) (by decide +kernel) rfl, hl_at (i := 123) (by decide +kernel) rfl⟩
  · exact fun h => absurd h (by decide +kernel)
set_option maxRecDepth 20000 in
theorem hl_jj207 : hl_jOK 207 := by
  refine ⟨⟨by decide +kernel, by decide +kernel, hl_w7 (i := 2) rfl rfl, hl_at (i := 170) (by decide +kernel) rfl, by decide +kernel, by decide +kernel⟩, ?_, ?_, ?_⟩
  · exact fun h => absurd h (by decide +kernel)
  · exact fun _ => ⟨hl_at (i := 1596) (by decide +kernel) rfl, hl_at (i := 1597) (by decide +kernel) rfl⟩
  · exact fun h => absurd h (by decide +kernel)
set_option maxRecDepth 20000 in
theorem hl_jj208 : hl_jOK 208 := by
  refine ⟨⟨by decide +kernel, by decide +kernel, hl_w7 (i := 31) rfl rfl, hl_at (i := 170) (by decide +kernel) rfl, by decide +kernel, by decide +kernel⟩, ?_, ?_, ?_⟩
  · exact fun h => absurd h (by decide +kernel)
  · exact fun _ => ⟨hl_at (i := 1626) (by decide +kernel) rfl, hl_at (i := 125) (by decide +kernel) rfl⟩
  · exact fun h => absurd h (by decide +kernel)
set_option maxRecDepth 20000 in
theorem hl_jj209 : hl_jOK 209 := by
  refine ⟨⟨by decide +kernel, by decide +kernel, hl_w7 (i := 27) rfl rfl, hl_at (i := 170) (by decide +kernel) rfl, by decide +kernel, by decide +kernel⟩, ?_, ?_, ?_⟩
  · exact fun h => absurd h (by decide +kernel)
  · exact fun _ => ⟨hl_at (i := 1622) (by decide +kernel) rfl, hl_at (i := 124) (by decide +kernel) rfl⟩
  · exact fun h => absurd h (by decide +kernel)
set_option maxRecDepth 20000 in
theorem hl_jj210 : hl_jOK 210 := by
  refine ⟨⟨by decide +kernel, by decide +kernel, hl_w7 (i := 23) rfl rfl, hl_at (i := 170) (by decide +kernel) rfl, by decide +kernel, by decide +kernel⟩, ?_, ?_, ?_⟩
  · exact fun h => absurd h (by decide +kernel)
  · exact fun _ => ⟨hl_at (i := 1617) (by decide +kernel) rfl, hl_at (i := 1618) (by decide +kernel) rfl⟩
  · exact fun h => absurd h (by decide +kernel)
set_option maxRecDepth 20000 in
theorem hl_jj211 : hl_jOK 211 := by
  refine ⟨⟨by decide +kernel, by decide +kernel, hl_w7 (i := 86) rfl rfl, hl_at (i := 170) (by decide +kernel) rfl, by decide +kernel, by decide +kernel⟩, ?_, ?_, ?_⟩
  · exact fun h => absurd h (by decide +kernel)
  · exact fun _ => ⟨hl_at (i := 1681) (by decide +kernel) rfl, hl_at (i := 134) (by decide +kernel) rfl⟩
  · exact fun h => absurd h (by decide +kernel)
set_option maxRecDepth 20000 in
theorem hl_jj212 : hl_jOK 212 := by
  refine ⟨⟨by decide +kernel, by decide +kernel, hl_w7 (i := 62) rfl rfl, hl_at (i := 170) (by decide +kernel) rfl, by decide +kernel, by decide +kernel⟩, ?_, ?_, ?_⟩
  · exact fun h => absurd h (by decide +kernel)
  · exact fun _ => ⟨hl_at (i := 1657) (by decide +kernel) rfl, hl_at (i := 128) (by decide +kernel) rfl⟩
  · exact fun h => absurd h (by decide +kernel)
set_option maxRecDepth 20000 in
theorem hl_jj213 : hl_jOK 213 := by
  refine ⟨⟨by decide +kernel, by decide +kernel, hl_w7 (i := 78) rfl rfl, hl_at (i := 170) (by decide +kernel) rfl, by decide +kernel, by decide +kernel⟩, ?_, ?_, ?_⟩
  · exact fun h => absurd h (by decide +kernel)
  · exact fun _ => ⟨hl_at (i := 1673) (by decide +kernel) rfl, hl_at (i := 132) (by decide +kernel) rfl⟩
  · exact fun h => absurd h (by decide +kernel)
set_option maxRecDepth 20000 in
theorem hl_jj214 : hl_jOK 214 := by
  refine ⟨⟨by decide +kernel, by decide +kernel, hl_w7 (i := 82) rfl rfl, hl_at (i := 170) (by decide +kernel) rfl, by decide +kernel, by decide +kernel⟩, ?_, ?_, ?_⟩
  · exact fun h => absurd h (by decide +kernel)
  · exact fun _ => ⟨hl_at (i := 1677) (by decide +kernel) rfl, hl_at (i := 133) (by decide +kernel) rfl⟩
  · exact fun h => absurd h (by decide +kernel)
set_option maxRecDepth 20000 in
theorem hl_jj215 : hl_jOK 215 := by
  refine ⟨⟨by decide +kernel, by decide +kernel, hl_w7 (i := 74) rfl rfl, hl_at (i := 170) (by decide +kernel) rfl, by decide +kernel, by decide +kernel⟩, ?_, ?_, ?_⟩
  · exact fun h => absurd h (by decide +kernel)
  · exact fun _ => ⟨hl_at (i := 1669) (by decide +kernel) rfl, hl_at (i := 131) (by decide +kernel) rfl⟩
  · exact fun h => absurd h (by decide +kernel)
set_option maxRecDepth 20000 in
theorem hl_jj216 : hl_jOK 216 := by
  refine ⟨⟨by decide +kernel, by decide +kernel, hl_w7 (i := 66) rfl rfl, hl_at (i := 170) (by decide +kernel) rfl, by decide +kernel, by decide +kernel⟩, ?_, ?_, ?_⟩
  · exact fun h => absurd h (by decide +kernel)
  · exact fun _ => ⟨hl_at (i := 1661) (by decide +kernel) rfl, hl_at (i := 129) (by decide +kernel) rfl⟩
  · exact fun h => absurd h (by decide +kernel)
set_option maxRecDepth 20000 in
theorem hl_jj217 : hl_jOK 217 := by
  refine ⟨⟨by decide +kernel, by decide +kernel, hl_w7 (i := 70) rfl rfl, hl_at (i := 170) (by decide +kernel) rfl, by decide +kernel, by decide +kernel⟩, ?_, ?_, ?_⟩
  · exact fun h => absurd h (by decide +kernel)
  · exact fun _ => ⟨hl_at (i := 1665) (by decide +kernel) rfl, hl_at (i := 130) (by decide +kernel) rfl⟩
  · exact fun h => absurd h (by decide +kernel)
set_option maxRecDepth 20000 in
theorem hl_jj218 : hl_jOK 218 := by
  refine ⟨⟨by decide +kernel, by decide +kernel, hl_w7 (i := 90) rfl rfl, hl_at (i := 170) (by decide +kernel) rfl, by decide +kernel, by decide +kernel⟩, ?_, ?_, ?_⟩
  · exact fun h => absurd h (by decide +kernel)
  · exact fun _ => ⟨hl_at (i := 1685) (by decide +kernel) rfl, hl_at (i := 135) (by decide +kernel) rfl⟩
  · exact fun h => absurd h (by decide +kernel)
set_option maxRecDepth 20000 in
theorem hl_jj219 : hl_jOK 219 := by
  refine ⟨⟨by decide +kernel, by decide +kernel, hl_w7 (i := 94) rfl rfl, hl_at (i := 170) (by decide +kernel) rfl, by decide +kernel, by decide +kernel⟩, ?_, ?_, ?_⟩
  · exact fun h => absurd h (by decide +kernel)
  · exact fun _ => ⟨hl_at (i := 1689) (by decide +kernel) rfl, hl_at (i := 136) (by decide +kernel) rfl⟩
  · exact fun h => absurd h (by decide +kernel)
set_option maxRecDepth 20000 in
theorem hl_jj220 : hl_jOK 220 := by
  refine ⟨⟨by decide +kernel, by decide +kernel, hl_w7 (i := 102) rfl rfl, hl_at (i := 170) (by decide +kernel) rfl, by decide +kernel, by decide +kernel⟩, ?_, ?_, ?_⟩
  · exact fun h => absurd h (by decide +kernel)
  · exact fun _ => ⟨hl_at (i := 1697) (by decide +kernel) rfl, hl_at (i := 138) (by decide +kernel) rfl⟩
  · exact fun h => absurd h (by decide +kernel)
set_option maxRecDepth 20000 in
theorem hl_jj221 : hl_jOK 221 := by
  refine ⟨⟨by decide +kernel, by decide +kernel, hl_w7 (i := 98) rfl rfl, hl_at (i := 170) (by decide +kernel) rfl, by decide +kernel, by decide +kernel⟩, ?_, ?_, ?_⟩
  · exact fun h => absurd h (by decide +kernel)
  · exact fun _ => ⟨hl_at (i := 1693) (by decide +kernel) rfl, hl_at (i := 137) (by decide +kernel) rfl⟩
  · exact fun h => absurd h (by decide +kernel)
set_option maxRecDepth 20000 in
theorem hl_jj222 : hl_jOK 222 := by
  refine ⟨⟨by decide +kernel, by decide +kernel, hl_w7 (i := 58) rfl rfl, hl_at (i := 170) (by decide +kernel) rfl, by decide +kernel, by decide +kernel⟩, ?_, ?_, ?_⟩
  · exact fun h => absurd h (by decide +kernel)
  · exact fun _ => ⟨hl_at (i := 1652) (by decide +kernel) rfl, hl_at (i := 1653) (by decide +kernel) rfl⟩
  · exact fun h => absurd h (by decide +kernel)
set_option maxRecDepth 20000 in
theorem hl_jj223 : hl_jOK 223 := by
  refine ⟨⟨by decide +kernel, by decide +kernel, hl_w7 (i := 127) rfl rfl, hl_at (i := 170) (by decide +kernel) rfl, by decide +kernel, by decide +kernel⟩, ?_, ?_, ?_⟩
  · exact fun h => absurd h (by decide +kernel)
  · exact fun _ => ⟨hl_at (i := 1722) (by decide +kernel) rfl, hl_at (i := 143) (by decide +kernel) rfl⟩
  · exact fun h => absurd h (by decide +kernel)
set_option maxRecDepth 20000 in
theorem hl_jj224 : hl_jOK 224 := by
  refine ⟨⟨by decide +kernel, by decide +kernel, hl_w7 (i := 131) rfl rfl, hl_at (i := 170) (by decide +kernel) rfl, by decide +kernel, by decide +kernel⟩, ?_, ?_, ?_⟩
  · exact fun h => absurd h (by decide +kernel)
  · exact fun _ => ⟨hl_at (i := 1726) (by decide +kernel) rfl, hl_at (i := 144) (by decide +kernel) rfl⟩
  · exact fun h => absurd h (by decide +kernel)
set_option maxRecDepth 20000 in
theorem hl_jj225 : hl_jOK 225 := by
  refine ⟨⟨by decide +kernel, by decide +kernel, hl_w7 (i := 123) rfl rfl, hl_at (i := 170) (by decide +kernel) rfl, by decide +kernel, by decide +kernel⟩, ?_, ?_, ?_⟩
  · exact fun h => absurd h (by decide +kernel)
  · exact fun _ => ⟨hl_at (i := 1718) (by decide +kernel) rfl, hl_at (i := 142) (by decide +kernel) rfl⟩
  · exact fun h => absurd h (by decide +kernel)
set_option maxRecDepth 20000 in
theorem hl_jj226 : hl_jOK 226 := by
  refine ⟨⟨by decide +kernel, by decide +kernel, hl_w7 (i := 136) rfl rfl, hl_at (i := 170) (by decide +kernel) rfl, by decide +kernel, by decide +kernel⟩, ?_, ?_, ?_⟩
  · exact fun h => absurd h (by decide +kernel)
  · exact fun _ => ⟨hl_at (i := 1731) (by decide +kernel) rfl, hl_at (i := 145) (by decide +kernel) rfl⟩
  · exact fun h => absurd h (by decide +kernel)
set_option maxRecDepth 20000 in
theorem hl_jj227 : hl_jOK 227 := by
  refine ⟨⟨by decide +kernel, by decide +kernel, hl_w7 (i := 140) rfl rfl, hl_at (i := 170) (by decide +kernel) rfl, by decide +kernel, by decide +kernel⟩, ?_, ?_, ?_⟩
  · exact fun h => absurd h (by decide +kernel)
  · exact fun _ => ⟨hl_at (i := 1735) (by decide +kernel) rfl, hl_at (i := 146) (by decide +kernel) rfl⟩
  · exact fun h => absurd h (by decide +kernel)
set_option maxRecDepth 20000 in
theorem hl_jj228 : hl_jOK 228 := by
  refine ⟨⟨by decide +kernel, by decide +kernel, hl_w7 (i := 144) rfl rfl, hl_at (i := 170) (by decide +kernel) rfl, by decide +kernel, by decide +kernel⟩, ?_, ?_, ?_⟩
  · exact fun h => absurd h (by decide +kernel)
  · exact fun _ => ⟨hl_at (i := 1739) (by decide +kernel) rfl, hl_at (i := 147) (by decide +kernel) rfl⟩
  · exact fun h => absurd h (by decide +kernel)
set_option maxRecDepth 20000 in
theorem hl_jj229 : hl_jOK 229 := by
  refine ⟨⟨by decide +kernel, by decide +kernel, hl_w7 (i := 118) rfl rfl, hl_at (i := 170) (by decide +kernel) rfl, by decide +kernel, by decide +kernel⟩, ?_, ?_, ?_⟩
  · exact fun h => absurd h (by decide +kernel)
  · exact fun _ => ⟨hl_at (i := 1713) (by decide +kernel) rfl, hl_at (i := 141) (by decide +kernel) rfl⟩
  · exact fun h => absurd h (by decide +kernel)
set_option maxRecDepth 20000 in
theorem hl_jj230 : hl_jOK 230 := by
  refine ⟨⟨by decide +kernel, by decide +kernel, hl_w7 (i := 114) rfl rfl, hl_at (i := 170) (by decide +kernel) rfl, by decide +kernel, by decide +kernel⟩, ?_, ?_, ?_⟩
  · exact fun h => absurd h (by decide +kernel)
  · exact fun _ => ⟨hl_at (i := 1709) (by decide +kernel) rfl, hl_at (i := 140) (by decide +kernel) rfl⟩
  · exact fun h => absurd h (by decide +kernel)
set_option maxRecDepth 20000 in
theorem hl_jj231 : hl_jOK 231 := by
  refine ⟨⟨by decide +kernel, by decide +kernel, hl_w7 (i := 110) rfl rfl, hl_at (i := 170) (by decide +kernel) rfl, by decide +kernel, by decide +kernel⟩, ?_, ?_, ?_⟩
  · exact fun h => absurd h (by decide +kernel)
  · exact fun _ => ⟨hl_at (i := 1705) (by decide +kernel) rfl, hl_at (i := 139) (by decide +kernel) rfl⟩
  · exact fun h => absurd h (by decide +kernel)
set_option maxRecDepth 20000 in
theorem hl_jj232 : hl_jOK 232 := by
  refine ⟨⟨by decide +kernel, by decide +kernel, hl_w7 (i := 106) rfl rfl, hl_at (i := 170) (by decide +kernel) rfl, by decide +kernel, by decide +kernel⟩, ?_, ?_, ?_⟩
  · exact fun h => absurd h (by decide +kernel)
  · exact fun _ => ⟨hl_at (i := 1700) (by decide +kernel) rfl, hl_at (i := 1701) (by decide +kernel) rfl⟩
  · exact fun h => absurd h (by decide +kernel)
set_option maxRecDepth 20000 in
theorem hl_jj233 : hl_jOK 233 := by
  refine ⟨⟨by decide +kernel, by decide +kernel, hl_w7 (i := 150) rfl rfl, hl_at (i := 170) (by decide +kernel) rfl, by decide +kernel, by decide +kernel⟩, ?_, ?_, ?_⟩
  · exact fun h => absurd h (by decide +kernel)
  · exact fun _ => ⟨hl_at (i := 1744) (by decide +kernel) rfl, hl_at (i := 1745) (by decide +kernel) rfl⟩
  · exact fun h => absurd h (by decide +kernel)
set_option maxRecDepth 20000 in
theorem hl_jj234 : hl_jOK 234 := by
  refine ⟨⟨by decide +kernel, by decide +kernel, hl_w7 (i := 154) rfl rfl, hl_at (i := 170) (by decide +kernel) rfl, by decide +kernel, by decide +kernel⟩, ?_, ?_, ?_⟩
  · exact fun h => absurd h (by decide +kernel)
  · exact fun _ => ⟨hl_at (i := 1748) (by decide +kernel) rfl, hl_at (i := 1749) (by decide +kernel) rfl⟩
  · exact fun h => absurd h (by decide +kernel)
set_option maxRecDepth 20000 in
theorem hl_jj235 : hl_jOK 235 := by
  refine ⟨⟨by decide +kernel, by decide +kernel, hl_w7 (i := 165) rfl rfl, hl_at (i := 170) (by decide +kernel) rfl, by decide +kernel, by decide +kernel⟩, ?_, ?_, ?_⟩
  · exact fun _ => hl_at (i := 1760) (by decide +kernel) rfl
  · exact fun h => absurd h (by decide +kernel)
  · exact fun h => absurd h (by decide +kernel)
set_option maxRecDepth 20000 in
theorem hl_jj236 : hl_jOK 236 := by
  refine ⟨⟨by decide +kernel, by decide +kernel, hl_w7 (i := 162) rfl rfl, hl_at (i := 170) (by decide +kernel) rfl, by decide +kernel, by decide +kernel⟩, ?_, ?_, ?_⟩
  · exact fun h => absurd h (by decide +kernel)
  · exact fun _ => ⟨hl_at (i := 1757) (by decide +kernel) rfl, hl_at (i := 148) (by decide +kernel) rfl⟩
  · exact fun h => absurd h (by decide +kernel)
set_option maxRecDepth 20000 in
theorem hl_jj237 : hl_jOK 237 := by
  refine ⟨⟨by decide +kernel, by decide +kernel, hl_w7 (i := 158) rfl rfl, hl_at (i := 170) (by decide +kernel) rfl, by decide +kernel, by decide +kernel⟩, ?_, ?_, ?_⟩
  · exact fun h => absurd h (by decide +kernel)
  · exact fun _ => ⟨hl_at (i := 1752) (by decide +kernel) rfl, hl_at (i := 1753) (by decide +kernel) rfl⟩
  · exact fun h => absurd h (by decide +kernel)
set_option maxRecDepth 20000 in
theorem hl_jj238 : hl_jOK 238 := by
  refine ⟨⟨by decide +kernel, by decide +kernel, hl_w7 (i := 173) rfl rfl, hl_at (i := 170) (by decide +kernel) rfl, by decide +kernel, by decide +kernel⟩, ?_, ?_, ?_⟩
  · exact fun h => absurd h (by decide +kernel)
  · exact fun _ => ⟨hl_at (i := 1768) (by decide +kernel) rfl, hl_at (i := 149) (by decide +kernel) rfl⟩
  · exact fun h => absurd h (by decide +kernel)
set_option maxRecDepth 20000 in
theorem hl_jj239 : hl_jOK 239 := by
  refine ⟨⟨by decide +kernel, by decide +kernel, hl_w7 (i := 169) rfl rfl, hl_at (i := 170) (by decide +kernel) rfl, by decide +kernel, by decide +kernel⟩, ?_, ?_, ?_⟩
  · exact fun h => absurd h (by decide +kernel)
  · exact fun _ => ⟨hl_at (i := 1763) (by decide +kernel) rfl, hl_at (i := 1764) (by decide +kernel) rfl⟩
  · exact fun h => absurd h (by decide +kernel)
set_option maxRecDepth 20000 in
theorem hl_jj240 : hl_jOK 240 := by
  refine ⟨⟨by decide +kernel, by decide +kernel, hl_w7 (i := 177) rfl rfl, hl_at (i := 170) (by decide +kernel) rfl, by decide +kernel, by decide +kernel⟩, ?_, ?_, ?_⟩
  · exact fun h => absurd h (by decide +kernel)
  · exact fun _ => ⟨hl_at (i := 1771) (by decide +kernel) rfl, hl_at (i := 1772) (by decide +kernel) rfl⟩
  · exact fun h => absurd h (by decide +kernel)
set_option maxRecDepth 20000 in
theorem hl_jj241 : hl_jOK 241 := by
  refine ⟨⟨by decide +kernel, by decide +kernel, hl_w7 (i := 189) rfl rfl, hl_at (i := 170) (by decide +kernel) rfl, by decide +kernel, by decide +kernel⟩, ?_, ?_, ?_⟩
  · exact fun h => absurd h (by decide +kernel)
  · exact fun _ => ⟨hl_at (i := 1784) (by decide +kernel) rfl, hl_at (i := 151) (by decide +kernel) rfl⟩
  · exact fun h => absurd h (by decide +kernel)
set_option maxRecDepth 20000 in
theorem hl_jj242 : hl_jOK 242 := by
  refine ⟨⟨by decide +kernel, by decide +kernel, hl_w7 (i := 197) rfl rfl, hl_at (i := 170) (by decide +kernel) rfl, by decide +kernel, by decide +kernel⟩, ?_, ?_, ?_⟩
  · exact fun h => absurd h (by decide +kernel)
  · exact fun _ => ⟨hl_at (i := 1792) (by decide +kernel) rfl, hl_at (i := 153) (by decide +kernel) rfl⟩
  · exact fun h => absurd h (by decide +kernel)
set_option maxRecDepth 20000 in
theorem hl_jj243 : hl_jOK 243 := by
  refine ⟨⟨by decide +kernel, by decide +kernel, hl_w7 (i := 185) rfl rfl, hl_at (i := 170) (by decide +kernel) rfl, by decide +kernel, by decide +kernel⟩, ?_, ?_, ?_⟩
  · exact fun h => absurd h (by decide +kernel)
  · exact fun _ => ⟨hl_at (i := 1780) (by decide +kernel) rfl, hl_at (i := 150) (by decide +kernel) rfl⟩
  · exact fun h => absurd h (by decide +kernel)
set_option maxRecDepth 20000 in
theorem hl_jj244 : hl_jOK 244 := by
  refine ⟨⟨by decide +kernel, by decide +kernel, hl_w7 (i := 193) rfl rfl, hl_at (i := 170) (by decide +kernel) rfl, by decide +kernel, by decide +kernel⟩, ?_, ?_, ?_⟩
  · exact fun h => absurd h (by decide +kernel)
  · exact fun _ => ⟨hl_at (i := 1788) (by decide +kernel) rfl, hl_at (i := 152) (by decide +kernel) rfl⟩
  · exact fun h => absurd h (by decide +kernel)
set_option maxRecDepth 20000 in
theorem hl_jj245 : hl_jOK 245 := by
  refine ⟨⟨by decide +kernel, by decide +kernel, hl_w7 (i := 181) rfl rfl, hl_at (i := 170) (by decide +kernel) rfl, by decide +kernel, by decide +kernel⟩, ?_, ?_, ?_⟩
  · exact fun h => absurd h (by decide +kernel)
  · exact fun _ => ⟨hl_at (i := 1775) (by decide +kernel) rfl, hl_at (i := 1776) (by decide +kernel) rfl⟩
  · exact fun h => absurd h (by decide +kernel)
set_option maxRecDepth 20000 in
theorem hl_jj246 : hl_jOK 246 := by
  refine ⟨⟨by decide +kernel, by decide +kernel, hl_w7 (i := 201) rfl rfl, hl_at (i := 170) (by decide +kernel) rfl, by decide +kernel, by decide +kernel⟩, ?_, ?_, ?_⟩
  · exact fun h => absurd h (by decide +kernel)
  · exact fun _ => ⟨hl_at (i := 1795) (by decide +kernel) rfl, hl_at (i := 1796) (by decide +kernel) rfl⟩
  · exact fun h => absurd h (by decide +kernel)
set_option maxRecDepth 20000 in
theorem hl_jj247 : hl_jOK 247 := by
  refine ⟨⟨by decide +kernel, by decide +kernel, hl_w7 (i := 206) rfl rfl, hl_at (i := 170) (by decide +kernel) rfl, by decide +kernel, by decide +kernel⟩, ?_, ?_, ?_⟩
  · exact fun h => absurd h (by decide +kernel)
  · exact fun _ => ⟨hl_at (i := 1800) (by decide +kernel) rfl, hl_at (i := 1801) (by decide +kernel) rfl⟩
  · exact fun h => absurd h (by decide +kernel)
set_option maxRecDepth 20000 in
theorem hl_jj248 : hl_jOK 248 := by
  refine ⟨⟨by decide +kernel, by decide +kernel, hl_w7 (i := 213) rfl rfl, hl_at (i := 170) (by decide +kernel) rfl, by decide +kernel, by decide +kernel⟩, ?_, ?_, ?_⟩
  · exact fun _ => hl_at (i := 1808) (by decide +kernel) rfl
  · exact fun h => absurd h (by decide +kernel)
  · exact fun h => absurd h (by decide +kernel)
set_option maxRecDepth 20000 in
theorem hl_jj249 : hl_jOK 249 := by
  refine ⟨⟨by decide +kernel, by decide +kernel, hl_w7 (i := 210) rfl rfl, hl_at (i := 170) (by decide +kernel) rfl, by decide +kernel, by decide +kernel⟩, ?_, ?_, ?_⟩
  · exact fun h => absurd h (by decide +kernel)
  · exact fun _ => ⟨hl_at (i := 1804) (by decide +kernel) rfl, hl_at (i := 1805) (by decide +kernel) rfl⟩
  · exact fun h => absurd h (by decide +kernel)
set_option maxRecDepth 20000 in
theorem hl_jj250 : hl_jOK 250 := by
  refine ⟨⟨by decide +kernel, by decide +kernel, hl_w7 (i := 221) rfl rfl, hl_at (i := 170) (by decide +kernel) rfl, by decide +kernel, by decide +kernel⟩, ?_, ?_, ?_⟩
  · exact fun h => absurd h (by decide +kernel)
  · exact fun _ => ⟨hl_at (i := 1816) (by decide +kernel) rfl, hl_at (i := 154) (by decide +kernel) rfl⟩
  · exact fun h => absurd h (by decide +kernel)
set_option maxRecDepth 20000 in
theorem hl_jj251 : hl_jOK 251 := by
  refine ⟨⟨by decide +kernel, by decide +kernel, hl_w7 (i := 217) rfl rfl, hl_at (i := 170) (by decide +kernel) rfl, by decide +kernel, by decide +kernel⟩, ?_, ?_, ?_⟩
  · exact fun h => absurd h (by decide +kernel)
  · exact fun _ => ⟨hl_at (i := 1811) (by decide +kernel) rfl, hl_at (i := 1812) (by decide +kernel) rfl⟩
  · exact fun h => absurd h (by decide +kernel)
set_option maxRecDepth 20000 in
theorem hl_jj252 : hl_jOK 252 := by
  refine ⟨⟨by decide +kernel, by decide +kernel, hl_w7 (i := 225) rfl rfl, hl_at (i := 170) (by decide +kernel) rfl, by decide +kernel, by decide +kernel⟩, ?_, ?_, ?_⟩
  · exact fun h => absurd h (by decide +kernel)
  · exact fun _ => ⟨hl_at (i := 1819) (by decide +kernel) rfl, hl_at (i := 1820) (by decide +kernel) rfl⟩
  · exact fun h => absurd h (by decide +kernel)
set_option maxRecDepth 20000 in
theorem hl_jj253 : hl_jOK 253 := by
  refine ⟨⟨by decide +kernel, by decide +kernel, hl_w7 (i := 233) rfl rfl, hl_at (i := 170) (by decide +kernel) rfl, by decide +kernel, by decide +kernel⟩, ?_, ?_, ?_⟩
  · exact fun h => absurd h (by decide +kernel)
  · exact fun _ => ⟨hl_at (i := 1828) (by decide +kernel) rfl, hl_at (i := 155) (by decide +kernel) rfl⟩
  · exact fun h => absurd h (by decide +kernel)
set_option maxRecDepth 20000 in
theorem hl_jj254 : hl_jOK 254 := by
  refine ⟨⟨by decide +kernel, by decide +kernel, hl_w7 (i := 229) rfl rfl, hl_at (i := 170) (by decide +kernel) rfl, by decide +kernel, by decide +kernel⟩, ?_, ?_, ?_⟩
  · exact fun h => absurd h (by decide +kernel)
  · exact fun _ => ⟨hl_at (i := 1823) (by decide +kernel) rfl, hl_at (i := 1824) (by decide +kernel) rfl⟩
  · exact fun h => absurd h (by decide +kernel)
set_option maxRecDepth 20000 in
theorem hl_jj255 : hl_jOK 255 := by
  refine ⟨⟨by decide +kernel, by decide +kernel, hl_w7 (i := 239) rfl rfl, hl_at (i := 170) (by decide +kernel) rfl, by decide +kernel, by decide +kernel⟩, ?_, ?_, ?_⟩
  · exact fun h => absurd h (by decide +kernel)
  · exact fun _ => ⟨hl_at (i := 1833) (by decide +kernel) rfl, hl_at (i := 1834) (by decide +kernel) rfl⟩
  · exact fun h => absurd h (by decide +kernel)
set_option maxRecDepth 20000 in
theorem hl_jj256 : hl_jOK 256 := by
  refine ⟨⟨by decide +kernel, by decide +kernel, hl_w8 (i := 3) rfl rfl, hl_at (i := 170) (by decide +kernel) rfl, by decide +kernel, by decide +kernel⟩, ?_, ?_, ?_⟩
  · exact fun h => absurd h (by decide +kernel)
  · exact fun _ => ⟨hl_at (i := 1837) (by decide +kernel) rfl, hl_at (i := 1838) (by decide +kernel) rfl⟩
  · exact fun h => absurd h (by decide +kernel)
set_option maxRecDepth 20000 in
theorem hl_jj257 : hl_jOK 257 := by
  refine ⟨⟨by decide +kernel, by decide +kernel, hl_w8 (i := 7) rfl rfl, hl_at (i := 170) (by decide +kernel) rfl, by decide +kernel, by decide +kernel⟩, ?_, ?_, ?_⟩
  · exact fun h => absurd h (by decide +kernel)
  · exact fun _ => ⟨hl_at (i := 1841) (by decide +kernel) rfl, hl_at (i := 1842) (by decide +kernel) rfl⟩
  · exact fun h => absurd h (by decide +kernel)
set_option maxRecDepth 20000 in
theorem hl_jj258 : hl_jOK 258 := by
  refine ⟨⟨by decide +kernel, by decide +kernel, hl_w8 (i := 11) rfl rfl, hl_at (i := 170) (by decide +kernel) rfl, by decide +kernel, by decide +kernel⟩, ?_, ?_, ?_⟩
  · exact fun h => absurd h (by decide +kernel)
  · exact fun _ => ⟨hl_at (i := 1845) (by decide +kernel) rfl, hl_at (i := 1846) (by decide +kernel) rfl⟩
  · exact fun h => absurd h (by decide +kernel)
set_option maxRecDepth 20000 in
theorem hl_jj263 : hl_jOK 263 := by
  refine ⟨⟨by decide +kernel, by decide +kernel, hl_w5 (i := 17) rfl rfl, hl_at (i := 177) (by decide +kernel) rfl, by decide +kernel, by decide +kernel⟩, ?_, ?_, ?_⟩
  · exact fun _ => hl_at (i := 1132) (by decide +kernel) rfl
  · exact fun h => absurd h (by decide +kernel)
  · exact fun h => absurd h (by decide +kernel)
set_option maxRecDepth 20000 in
theorem hl_jj264 : hl_jOK 264 := by
  refine ⟨⟨by decide +kernel, by decide +kernel, hl_w5 (i := 177) rfl rfl, hl_at (i := 156) (by decide +kernel) rfl, by decide +kernel, by decide +kernel⟩, ?_, ?_, ?_⟩
  · exact fun _ => hl_at (i := 1292) (by decide +kernel) rfl
  · exact fun h => absurd h (by decide +kernel)
  · exact fun h => absurd h (by decide +kernel)
theorem hl_jok {j : Nat} (hj : j < 268) (h : hl_kd j < 3) : hl_jOK j := by
  match j, hj, h with
  | 2, _, _ => exact hl_jj2
  | 3, _, _ => exact hl_jj3
  | 4, _, _ => exact hl_jj4
  | 5, _, _ => exact hl_jj5
  | 6, _, _ => exact hl_jj6
  | 7, _, _ => exact hl_jj7
  | 8, _, _ => exact hl_jj8
  | 9, _, _ => exact hl_jj9
  | 10, _, _ => exact hl_jj10
  | 11, _, _ => exact hl_jj11
  | 12, _, _ => exact hl_jj12
  | 13, _, _ => exact hl_jj13
  | 14, _, _ => exact hl_jj14
  | 15, _, _ => exact hl_jj15
  | 16, _, _ => exact hl_jj16
  | 17, _, _ => exact hl_jj17
  | 18, _, _ => exact hl_jj18
  | 19, _, _ => exact hl_jj19
  | 20, _, _ => exact hl_jj20
  | 21, _, _ => exact hl_jj21
  | 22, _, _ => exact hl_jj22
  | 23, _, _ => exact hl_jj23
  | 24, _, _ => exact hl_jj24
  | 25, _, _ => exact hl_jj25
  | 26, _, _ => exact hl_jj26
  | 27, _, _ => exact hl_jj27
  | 28, _, _ => exact hl_jj28
  | 29, _, _ => exact hl_jj29
  | 30, _, _ => exact hl_jj30
  | 31, _, _ => exact hl_jj31
  | 32, _, _ => exact hl_jj32
  | 33, _, _ => exact hl_jj33
  | 34, _, _ => exact hl_jj34
  | 35, _, _ => exact hl_jj35
  | 36, _, _ => exact hl_jj36
  | 37, _, _ => exact hl_jj37
  | 38, _, _ => exact hl_jj38
  | 39, _, _ => exact hl_jj39
  | 40, _, _ => exact hl_jj40
  | 41, _, _ => exact hl_jj41
  | 42, _, _ => exact hl_jj42
  | 43, _, _ => exact hl_jj43
  | 44, _, _ => exact hl_jj44
  | 45, _, _ => exact hl_jj45
  | 46, _, _ => exact hl_jj46
  | 47, _, _ => exact hl_jj47
  | 48, _, _ => exact hl_jj48
  | 49, _, _ => exact hl_jj49
  | 50, _, _ => exact hl_jj50
  | 51, _, _ => exact hl_jj51
  | 52, _, _ => exact hl_jj52
  | 53, _, _ => exact hl_jj53
  | 54, _, _ => exact hl_jj54
  | 55, _, _ => exact hl_jj55
  | 56, _, _ => exact hl_jj56
  | 57, _, _ => exact hl_jj57
  | 58, _, _ => exact hl_jj58
  | 59, _, _ => exact hl_jj59
  | 60, _, _ => exact hl_jj60
  | 61, _, _ => exact hl_jj61
  | 62, _, _ => exact hl_jj62
  | 63, _, _ => exact hl_jj63
  | 64, _, _ => exact hl_jj64
  | 65, _, _ => exact hl_jj65
  | 66, _, _ => exact hl_jj66
  | 67, _, _ => exact hl_jj67
  | 68, _, _ => exact hl_jj68
  | 69, _, _ => exact hl_jj69
  | 70, _, _ => exact hl_jj70
  | 71, _, _ => exact hl_jj71
  | 72, _, _ => exact hl_jj72
  | 73, _, _ => exact hl_jj73
  | 74, _, _ => exact hl_jj74
  | 75, _, _ => exact hl_jj75
  | 76, _, _ => exact hl_jj76
  | 77, _, _ => exact hl_jj77
  | 78, _, _ => exact hl_jj78
  | 79, _, _ => exact hl_jj79
  | 80, _, _ => exact hl_jj80
  | 81, _, _ => exact hl_jj81
  | 82, _, _ => exact hl_jj82
  | 83, _, _ => exact hl_jj83
  | 84, _, _ => exact hl_jj84
  | 85, _, _ => exact hl_jj85
  | 86, _, _ => exact hl_jj86
  | 87, _, _ => exact hl_jj87
  | 88, _, _ => exact hl_jj88
  | 89, _, _ => exact hl_jj89
  | 90, _, _ => exact hl_jj90
  | 91, _, _ => exact hl_jj91
  | 92, _, _ => exact hl_jj92
  | 93, _, _ => exact hl_jj93
  | 94, _, _ => exact hl_jj94
  | 95, _, _ => exact hl_jj95
  | 96, _, _ => exact hl_jj96
  | 97, _, _ => exact hl_jj97
  | 98, _, _ => exact hl_jj98
  | 99, _, _ => exact hl_jj99
  | 100, _, _ => exact hl_jj100
  | 101, _, _ => exact hl_jj101
  | 102, _, _ => exact hl_jj102
  | 103, _, _ => exact hl_jj103
  | 104, _, _ => exact hl_jj104
  | 105, _, _ => exact hl_jj105
  | 106, _, _ => exact hl_jj106
  | 107, _, _ => exact hl_jj107
  | 108, _, _ => exact hl_jj108
  | 109, _, _ => exact hl_jj109
  | 110, _, _ => exact hl_jj110
  | 111, _, _ => exact hl_jj111
  | 112, _, _ => exact hl_jj112
  | 113, _, _ => exact hl_jj113
  | 114, _, _ => exact hl_jj114
  | 115, _, _ => exact hl_jj115
  | 116, _, _ => exact hl_jj116
  | 117, _, _ => exact hl_jj117
  | 118, _, _ => exact hl_jj118
  | 119, _, _ => exact hl_jj119
  | 120, _, _ => exact hl_jj120
  | 121, _, _ => exact hl_jj121
  | 122, _, _ => exact hl_jj122
  | 123, _, _ => exact hl_jj123
  | 124, _, _ => exact hl_jj124
  | 125, _, _ => exact hl_jj125
  | 126, _, _ => exact hl_jj126
  | 127, _, _ => exact hl_jj127
  | 128, _, _ => exact hl_jj128
  | 129, _, _ => exact hl_jj129
  | 130, _, _ => exact hl_jj130
  | 131, _, _ => exact hl_jj131
  | 132, _, _ => exact hl_jj132
  | 133, _, _ => exact hl_jj133
  | 134, _, _ => exact hl_jj134
  | 135, _, _ => exact hl_jj135
  | 136, _, _ => exact hl_jj136
  | 137, _, _ => exact hl_jj137
  | 138, _, _ => exact hl_jj138
  | 139, _, _ => exact hl_jj139
  | 140, _, _ => exact hl_jj140
  | 141, _, _ => exact hl_jj141
  | 142, _, _ => exact hl_jj142
  | 143, _, _ => exact hl_jj143
  | 144, _, _ => exact hl_jj144
  | 145, _, _ => exact hl_jj145
  | 146, _, _ => exact hl_jj146
  | 147, _, _ => exact hl_jj147
  | 148, _, _ => exact hl_jj148
  | 149, _, _ => exact hl_jj149
  | 150, _, _ => exact hl_jj150
  | 151, _, _ => exact hl_jj151
  | 152, _, _ => exact hl_jj152
  | 153, _, _ => exact hl_jj153
  | 154, _, _ => exact hl_jj154
  | 155, _, _ => exact hl_jj155
  | 156, _, _ => exact hl_jj156
  | 157, _, _ => exact hl_jj157
  | 158, _, _ => exact hl_jj158
  | 159, _, _ => exact hl_jj159
  | 160, _, _ => exact hl_jj160
  | 161, _, _ => exact hl_jj161
  | 162, _, _ => exact hl_jj162
  | 163, _, _ => exact hl_jj163
  | 164, _, _ => exact hl_jj164
  | 165, _, _ => exact hl_jj165
  | 166, _, _ => exact hl_jj166
  | 167, _, _ => exact hl_jj167
  | 168, _, _ => exact hl_jj168
  | 169, _, _ => exact hl_jj169
  | 170, _, _ => exact hl_jj170
  | 171, _, _ => exact hl_jj171
  | 172, _, _ => exact hl_jj172
  | 173, _, _ => exact hl_jj173
  | 174, _, _ => exact hl_jj174
  | 175, _, _ => exact hl_jj175
  | 176, _, _ => exact hl_jj176
  | 177, _, _ => exact hl_jj177
  | 178, _, _ => exact hl_jj178
  | 179, _, _ => exact hl_jj179
  | 180, _, _ => exact hl_jj180
  | 181, _, _ => exact hl_jj181
  | 182, _, _ => exact hl_jj182
  | 183, _, _ => exact hl_jj183
  | 184, _, _ => exact hl_jj184
  | 185, _, _ => exact hl_jj185
  | 186, _, _ => exact hl_jj186
  | 187, _, _ => exact hl_jj187
  | 188, _, _ => exact hl_jj188
  | 189, _, _ => exact hl_jj189
  | 190, _, _ => exact hl_jj190
  | 191, _, _ => exact hl_jj191
  | 192, _, _ => exact hl_jj192
  | 193, _, _ => exact hl_jj193
  | 194, _, _ => exact hl_jj194
  | 195, _, _ => exact hl_jj195
  | 196, _, _ => exact hl_jj196
  | 197, _, _ => exact hl_jj197
  | 198, _, _ => exact hl_jj198
  | 199, _, _ => exact hl_jj199
  | 200, _, _ => exact hl_jj200
  | 201, _, _ => exact hl_jj201
  | 202, _, _ => exact hl_jj202
  | 203, _, _ => exact hl_jj203
  | 204, _, _ => exact hl_jj204
  | 205, _, _ => exact hl_jj205
  | 206, _, _ => exact hl_jj206
  | 207, _, _ => exact hl_jj207
  | 208, _, _ => exact hl_jj208
  | 209, _, _ => exact hl_jj209
  | 210, _, _ => exact hl_jj210
  | 211, _, _ => exact hl_jj211
  | 212, _, _ => exact hl_jj212
  | 213, _, _ => exact hl_jj213
  | 214, _, _ => exact hl_jj214
  | 215, _, _ => exact hl_jj215
  | 216, _, _ => exact hl_jj216
  | 217, _, _ => exact hl_jj217
  | 218, _, _ => exact hl_jj218
  | 219, _, _ => exact hl_jj219
  | 220, _, _ => exact hl_jj220
  | 221, _, _ => exact hl_jj221
  | 222, _, _ => exact hl_jj222
  | 223, _, _ => exact hl_jj223
  | 224, _, _ => exact hl_jj224
  | 225, _, _ => exact hl_jj225
  | 226, _, _ => exact hl_jj226
  | 227, _, _ => exact hl_jj227
  | 228, _, _ => exact hl_jj228
  | 229, _, _ => exact hl_jj229
  | 230, _, _ => exact hl_jj230
  | 231, _, _ => exact hl_jj231
  | 232, _, _ => exact hl_jj232
  | 233, _, _ => exact hl_jj233
  | 234, _, _ => exact hl_jj234
  | 235, _, _ => exact hl_jj235
  | 236, _, _ => exact hl_jj236
  | 237, _, _ => exact hl_jj237
  | 238, _, _ => exact hl_jj238
  | 239, _, _ => exact hl_jj239
  | 240, _, _ => exact hl_jj240
  | 241, _, _ => exact hl_jj241
  | 242, _, _ => exact hl_jj242
  | 243, _, _ => exact hl_jj243
  | 244, _, _ => exact hl_jj244
  | 245, _, _ => exact hl_jj245
  | 246, _, _ => exact hl_jj246
  | 247, _, _ => exact hl_jj247
  | 248, _, _ => exact hl_jj248
  | 249, _, _ => exact hl_jj249
  | 250, _, _ => exact hl_jj250
  | 251, _, _ => exact hl_jj251
  | 252, _, _ => exact hl_jj252
  | 253, _, _ => exact hl_jj253
  | 254, _, _ => exact hl_jj254
  | 255, _, _ => exact hl_jj255
  | 256, _, _ => exact hl_jj256
  | 257, _, _ => exact hl_jj257
  | 258, _, _ => exact hl_jj258
  | 259, _, h => exact absurd h (by decide +kernel)
  | 260, _, h => exact absurd h (by decide +kernel)
  | 261, _, h => exact absurd h (by decide +kernel)
  | 262, _, h => exact absurd h (by decide +kernel)
  | 263, _, _ => exact hl_jj263
  | 264, _, _ => exact hl_jj264
  | 0, _, h => exact absurd h (by decide +kernel)
  | 1, _, h => exact absurd h (by decide +kernel)
  | 265, _, h => exact absurd h (by decide +kernel)
  | 266, _, h => exact absurd h (by decide +kernel)
  | 267, _, h => exact absurd h (by decide +kernel)
  | j + 268, h, _ => omega
set_option maxRecDepth 20000 in
theorem hl_mw259 : hl_y 259 = Lib.Math.abs.name ∧ Cond.static Lib.Math.abs.name ∈ hl_G ∧ Cond.code Lib.Math.abs.name Lib.Math.abs.code 1 (some .int) ∈ hl_G := ⟨by decide +kernel, hl_at (i := 922) (by decide +kernel) (by decide +kernel), hl_w4 (i := 47) rfl rfl⟩
set_option maxRecDepth 20000 in
theorem hl_mw260 : hl_y 260 = Lib.Math.max.name ∧ Cond.static Lib.Math.max.name ∈ hl_G ∧ Cond.code Lib.Math.max.name Lib.Math.max.code 2 (some .int) ∈ hl_G := ⟨by decide +kernel, hl_at (i := 486) (by decide +kernel) (by decide +kernel), hl_w2 (i := 91) rfl rfl⟩
set_option maxRecDepth 20000 in
theorem hl_mw261 : hl_y 261 = Lib.Math.min.name ∧ Cond.static Lib.Math.min.name ∈ hl_G ∧ Cond.code Lib.Math.min.name Lib.Math.min.code 2 (some .int) ∈ hl_G := ⟨by decide +kernel, hl_at (i := 738) (by decide +kernel) (by decide +kernel), hl_w3 (i := 103) rfl rfl⟩
set_option maxRecDepth 20000 in
theorem hl_mw262 : hl_y 262 = Lib.MathLoose.min_long.x ∧ Cond.static Lib.MathLoose.min_long.x ∈ hl_G ∧ Cond.code Lib.MathLoose.min_long.x Lib.MathLoose.min_long.code 4 (some .long) ∈ hl_G := ⟨by decide +kernel, hl_at (i := 1089) (by decide +kernel) (by decide +kernel), hl_w4 (i := 214) rfl rfl⟩
theorem hl_mwi : Cond.initialized "java/lang/Math" ∈ hl_G := hl_at (i := 168) (by decide +kernel) rfl
theorem hl_acw : hl_y 1 = arraycopyName ∧ Cond.native arraycopyName ∈ hl_G ∧ Cond.static arraycopyName ∈ hl_G ∧ Cond.initialized "java/lang/System" ∈ hl_G := ⟨by decide +kernel, hl_at (i := 868) (by decide +kernel) (by decide +kernel), hl_at (i := 867) (by decide +kernel) (by decide +kernel), hl_at (i := 176) (by decide +kernel) rfl⟩
set_option maxRecDepth 20000 in
theorem hl_oiw : hl_y 0 = Lib.objectInit ∧ Cond.instanceMethod Lib.objectInit ∈ hl_G ∧ Cond.code Lib.objectInit ⟨#[0xb1]⟩ 1 none ∈ hl_G := ⟨by decide +kernel, hl_at (i := 184) (by decide +kernel) (by decide +kernel), hl_w1 (i := 29) rfl rfl⟩
theorem hl_aw_int : Cond.arrayClass .int ∈ hl_G := hl_at (i := 219) (by decide +kernel) rfl
theorem hl_aw_long : Cond.arrayClass .long ∈ hl_G := hl_at (i := 484) (by decide +kernel) rfl
theorem hl_aw_boolean : Cond.arrayClass .boolean ∈ hl_G := hl_at (i := 220) (by decide +kernel) rfl
