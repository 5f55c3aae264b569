/-! the fresh world; the law's pure fact out of an invariant (printed by wip/whole/gen_init.py) -/
def hl_Pm : Nat → Nat → Option Nat := (hl_up (hl_up (hl_up (hl_up (hl_up (hl_up (hl_up (hl_up (hl_up (hl_up (hl_up (hl_up (hl_up (hl_up (hl_up (hl_up (hl_up (hl_up (hl_up hl_Pc 85 3 (some 86)) 85 4 (some 87)) 85 5 (some 88)) 85 6 (some 89)) 85 19 (some 90)) 85 23 (some 91)) 85 24 (some 92)) 85 25 (some 93)) 85 26 (some 94)) 85 27 (some 95)) 85 28 (some 96)) 85 29 (some 97)) 85 30 (some 98)) 85 31 (some 99)) 85 33 (some 100)) 85 34 (some 101)) 85 35 (some 102)) 85 36 (some 103)) 85 37 (some 104))
theorem hl_Pm_in : ∀ a, a < 105 → ∀ k, k < 40 → hl_Pm a k = hl_gP a k := by decide +kernel
theorem hl_Pm_a {a k : Nat} (h : 105 ≤ a) : hl_Pm a k = none := by
  unfold hl_Pm hl_Pc
  simp only [hl_up_ne _ _ _ (show a ≠ 0 by omega), hl_up_ne _ _ _ (show a ≠ 1 by omega), hl_up_ne _ _ _ (show a ≠ 11 by omega), hl_up_ne _ _ _ (show a ≠ 15 by omega), hl_up_ne _ _ _ (show a ≠ 19 by omega), hl_up_ne _ _ _ (show a ≠ 29 by omega), hl_up_ne _ _ _ (show a ≠ 33 by omega), hl_up_ne _ _ _ (show a ≠ 38 by omega), hl_up_ne _ _ _ (show a ≠ 39 by omega), hl_up_ne _ _ _ (show a ≠ 43 by omega), hl_up_ne _ _ _ (show a ≠ 44 by omega), hl_up_ne _ _ _ (show a ≠ 48 by omega), hl_up_ne _ _ _ (show a ≠ 52 by omega), hl_up_ne _ _ _ (show a ≠ 56 by omega), hl_up_ne _ _ _ (show a ≠ 60 by omega), hl_up_ne _ _ _ (show a ≠ 63 by omega), hl_up_ne _ _ _ (show a ≠ 66 by omega), hl_up_ne _ _ _ (show a ≠ 68 by omega), hl_up_ne _ _ _ (show a ≠ 69 by omega), hl_up_ne _ _ _ (show a ≠ 81 by omega), hl_up_ne _ _ _ (show a ≠ 85 by omega)]
set_option maxHeartbeats 4000000 in
set_option maxRecDepth 100000 in
theorem hl_Pm_k {a k : Nat} (h : 40 ≤ k) : hl_Pm a k = none := by
  have e0 : (k = 0) = False := eq_false (by omega)
  have e1 : (k = 1) = False := eq_false (by omega)
  have e2 : (k = 2) = False := eq_false (by omega)
  have e3 : (k = 3) = False := eq_false (by omega)
  have e4 : (k = 4) = False := eq_false (by omega)
  have e5 : (k = 5) = False := eq_false (by omega)
  have e6 : (k = 6) = False := eq_false (by omega)
  have e7 : (k = 7) = False := eq_false (by omega)
  have e8 : (k = 8) = False := eq_false (by omega)
  have e9 : (k = 9) = False := eq_false (by omega)
  have e10 : (k = 10) = False := eq_false (by omega)
  have e11 : (k = 11) = False := eq_false (by omega)
  have e12 : (k = 12) = False := eq_false (by omega)
  have e13 : (k = 13) = False := eq_false (by omega)
  have e14 : (k = 14) = False := eq_false (by omega)
  have e15 : (k = 15) = False := eq_false (by omega)
  have e19 : (k = 19) = False := eq_false (by omega)
  have e23 : (k = 23) = False := eq_false (by omega)
  have e24 : (k = 24) = False := eq_false (by omega)
  have e25 : (k = 25) = False := eq_false (by omega)
  have e26 : (k = 26) = False := eq_false (by omega)
  have e27 : (k = 27) = False := eq_false (by omega)
  have e28 : (k = 28) = False := eq_false (by omega)
  have e29 : (k = 29) = False := eq_false (by omega)
  have e30 : (k = 30) = False := eq_false (by omega)
  have e31 : (k = 31) = False := eq_false (by omega)
  have e33 : (k = 33) = False := eq_false (by omega)
  have e34 : (k = 34) = False := eq_false (by omega)
  have e35 : (k = 35) = False := eq_false (by omega)
  have e36 : (k = 36) = False := eq_false (by omega)
  have e37 : (k = 37) = False := eq_false (by omega)
  unfold hl_Pm hl_Pc
  simp only [hl_up_a, e0, e1, e2, e3, e4, e5, e6, e7, e8, e9, e10, e11, e12, e13, e14, e15, e19, e23, e24, e25, e26, e27, e28, e29, e30, e31, e33, e34, e35, e36, e37, if_false, ite_self]
theorem hl_gPk_0 {k : Nat} (h : 40 ≤ k) : hl_gP0 k = none := by
  unfold hl_gP0
  split <;> first | omega | rfl
theorem hl_gPk_1 {k : Nat} (h : 40 ≤ k) : hl_gP1 k = none := by
  unfold hl_gP1
  split <;> first | omega | rfl
theorem hl_gPk_11 {k : Nat} (h : 40 ≤ k) : hl_gP11 k = none := by
  unfold hl_gP11
  split <;> first | omega | rfl
theorem hl_gPk_15 {k : Nat} (h : 40 ≤ k) : hl_gP15 k = none := by
  unfold hl_gP15
  split <;> first | omega | rfl
theorem hl_gPk_19 {k : Nat} (h : 40 ≤ k) : hl_gP19 k = none := by
  unfold hl_gP19
  split <;> first | omega | rfl
theorem hl_gPk_29 {k : Nat} (h : 40 ≤ k) : hl_gP29 k = none := by
  unfold hl_gP29
  split <;> first | omega | rfl
theorem hl_gPk_33 {k : Nat} (h : 40 ≤ k) : hl_gP33 k = none := by
  unfold hl_gP33
  split <;> first | omega | rfl
theorem hl_gPk_38 {k : Nat} (h : 40 ≤ k) : hl_gP38 k = none := by
  unfold hl_gP38
  split <;> first | omega | rfl
theorem hl_gPk_39 {k : Nat} (h : 40 ≤ k) : hl_gP39 k = none := by
  unfold hl_gP39
  split <;> first | omega | rfl
theorem hl_gPk_43 {k : Nat} (h : 40 ≤ k) : hl_gP43 k = none := by
  unfold hl_gP43
  split <;> first | omega | rfl
theorem hl_gPk_44 {k : Nat} (h : 40 ≤ k) : hl_gP44 k = none := by
  unfold hl_gP44
  split <;> first | omega | rfl
theorem hl_gPk_48 {k : Nat} (h : 40 ≤ k) : hl_gP48 k = none := by
  unfold hl_gP48
  split <;> first | omega | rfl
theorem hl_gPk_52 {k : Nat} (h : 40 ≤ k) : hl_gP52 k = none := by
  unfold hl_gP52
  split <;> first | omega | rfl
theorem hl_gPk_56 {k : Nat} (h : 40 ≤ k) : hl_gP56 k = none := by
  unfold hl_gP56
  split <;> first | omega | rfl
theorem hl_gPk_60 {k : Nat} (h : 40 ≤ k) : hl_gP60 k = none := by
  unfold hl_gP60
  split <;> first | omega | rfl
theorem hl_gPk_63 {k : Nat} (h : 40 ≤ k) : hl_gP63 k = none := by
  unfold hl_gP63
  split <;> first | omega | rfl
theorem hl_gPk_66 {k : Nat} (h : 40 ≤ k) : hl_gP66 k = none := by
  unfold hl_gP66
  split <;> first | omega | rfl
theorem hl_gPk_68 {k : Nat} (h : 40 ≤ k) : hl_gP68 k = none := by
  unfold hl_gP68
  split <;> first | omega | rfl
theorem hl_gPk_69 {k : Nat} (h : 40 ≤ k) : hl_gP69 k = none := by
  unfold hl_gP69
  split <;> first | omega | rfl
theorem hl_gPk_81 {k : Nat} (h : 40 ≤ k) : hl_gP81 k = none := by
  unfold hl_gP81
  split <;> first | omega | rfl
theorem hl_gPk_85 {k : Nat} (h : 40 ≤ k) : hl_gP85 k = none := by
  unfold hl_gP85
  split <;> first | omega | rfl
theorem hl_gP_k {a k : Nat} (h : 40 ≤ k) : hl_gP a k = none := by
  unfold hl_gP
  split
  · exact hl_gPk_0 h
  · exact hl_gPk_1 h
  · exact hl_gPk_11 h
  · exact hl_gPk_15 h
  · exact hl_gPk_19 h
  · exact hl_gPk_29 h
  · exact hl_gPk_33 h
  · exact hl_gPk_38 h
  · exact hl_gPk_39 h
  · exact hl_gPk_43 h
  · exact hl_gPk_44 h
  · exact hl_gPk_48 h
  · exact hl_gPk_52 h
  · exact hl_gPk_56 h
  · exact hl_gPk_60 h
  · exact hl_gPk_63 h
  · exact hl_gPk_66 h
  · exact hl_gPk_68 h
  · exact hl_gPk_69 h
  · exact hl_gPk_81 h
  · exact hl_gPk_85 h
  · rfl
theorem hl_gP_a {a k : Nat} (h : 105 ≤ a) : hl_gP a k = none := by
  unfold hl_gP
  split <;> first | omega | rfl
theorem hl_Pm_eq : hl_Pm = hl_gP := by
  funext a k
  by_cases ha : a < 105
  · by_cases hk : k < 40
    · exact hl_Pm_in a ha k hk
    · rw [hl_Pm_k (by omega), hl_gP_k (by omega)]
  · rw [hl_Pm_a (by omega), hl_gP_a (by omega)]
theorem hl_gk_a {N a : Nat} (h : 105 ≤ a) : hl_gk N a = (0, 0) := by
  unfold hl_gk
  split <;> first | omega | rfl
theorem hl_q_g {N : Nat} {I : Nat → Nat → Int32} : hl_q N 105 hl_Pm I = hl_g N I (fun _ _ => 0) := by
  rw [hl_Pm_eq]
  unfold hl_q hl_g
  refine congrArg (fun f => (105, f, hl_gP, I, fun _ _ => 0)) ?_
  funext a
  by_cases h : a < 105
  · exact if_pos h
  · rw [if_neg h, hl_gk_a (by omega)]
theorem hl_w0q {N : Nat} : hl_w0 = hl_q N 0 (fun _ _ => none) (fun _ _ => 0) := by
  unfold hl_w0 hl_q
  refine congrArg (fun f => (0, f, (fun _ _ => none : Nat → Nat → Option Nat), (fun _ _ => 0 : Nat → Nat → Int32), (fun _ _ => 0 : Nat → Nat → Int64))) ?_
  funext a
  exact (if_neg (Nat.not_lt_zero a)).symm
theorem hl_bndN {x : Int32} {t : Nat} (h2 : 2 ≤ t) (ht : t ≤ 6) : ∃ W, 2 ≤ W ∧ W ≤ t ∧ hl_bnd x 2 (nI t) = nI W := by
  unfold hl_bnd
  by_cases h1 : x < 2
  · exact ⟨2, by omega, h2, by rw [if_pos h1]; rfl⟩
  · rw [if_neg h1]
    by_cases h6 : nI t < x
    · exact ⟨t, h2, by omega, by rw [if_pos h6]⟩
    · rw [if_neg h6]
      have a1 := Int32.le_iff_toInt_le.mp (Int32.not_lt.mp h1)
      have a2 := Int32.le_iff_toInt_le.mp (Int32.not_lt.mp h6)
      have e2 : (2 : Int32).toInt = 2 := rfl
      have et : (nI t).toInt = (t : Int) := Int32.toInt_ofNat_of_lt (by omega)
      rw [e2] at a1
      rw [et] at a2
      refine ⟨x.toInt.toNat, by omega, by omega, ?_⟩
      apply Int32.toInt_inj.mp
      show x.toInt = (Int32.ofNat x.toInt.toNat).toInt
      rw [Int32.toInt_ofNat_of_lt (by omega)]
      omega
/-- the fresh world's numbers -/
def hl_I0 (N W H : Nat) : Nat → Nat → Int32 := (hl_row (hl_row (hl_up (hl_up (hl_up (hl_up (hl_up (hl_Ic N W H) 85 8 (-1)) 85 9 (-1)) 85 0 (nI W)) 85 1 (nI H)) 85 2 (nI N)) 86 (hl_A0 12 24)) 87 (fun j => if j < 490 then hl_A0 12 24 j else 0))
theorem hl_Ic_c {N W H a : Nat} (h : 85 ≤ a) : hl_Ic N W H a = fun _ => 0 := by
  unfold hl_Ic
  simp only [hl_up_ne _ _ _ (show a ≠ 0 by omega), hl_row_ne _ _ (show a ≠ 0 by omega), hl_up_ne _ _ _ (show a ≠ 1 by omega), hl_row_ne _ _ (show a ≠ 1 by omega), hl_up_ne _ _ _ (show a ≠ 5 by omega), hl_row_ne _ _ (show a ≠ 5 by omega), hl_up_ne _ _ _ (show a ≠ 7 by omega), hl_row_ne _ _ (show a ≠ 7 by omega), hl_up_ne _ _ _ (show a ≠ 10 by omega), hl_row_ne _ _ (show a ≠ 10 by omega), hl_up_ne _ _ _ (show a ≠ 19 by omega), hl_row_ne _ _ (show a ≠ 19 by omega), hl_up_ne _ _ _ (show a ≠ 23 by omega), hl_row_ne _ _ (show a ≠ 23 by omega), hl_up_ne _ _ _ (show a ≠ 25 by omega), hl_row_ne _ _ (show a ≠ 25 by omega), hl_up_ne _ _ _ (show a ≠ 28 by omega), hl_row_ne _ _ (show a ≠ 28 by omega), hl_up_ne _ _ _ (show a ≠ 38 by omega), hl_row_ne _ _ (show a ≠ 38 by omega), hl_up_ne _ _ _ (show a ≠ 66 by omega), hl_row_ne _ _ (show a ≠ 66 by omega)]
theorem hl_Pc_c {a : Nat} (h : 85 ≤ a) : hl_Pc a = fun _ => none := by
  unfold hl_Pc
  simp only [hl_up_ne _ _ _ (show a ≠ 0 by omega), hl_up_ne _ _ _ (show a ≠ 1 by omega), hl_up_ne _ _ _ (show a ≠ 11 by omega), hl_up_ne _ _ _ (show a ≠ 15 by omega), hl_up_ne _ _ _ (show a ≠ 19 by omega), hl_up_ne _ _ _ (show a ≠ 29 by omega), hl_up_ne _ _ _ (show a ≠ 33 by omega), hl_up_ne _ _ _ (show a ≠ 38 by omega), hl_up_ne _ _ _ (show a ≠ 39 by omega), hl_up_ne _ _ _ (show a ≠ 43 by omega), hl_up_ne _ _ _ (show a ≠ 44 by omega), hl_up_ne _ _ _ (show a ≠ 48 by omega), hl_up_ne _ _ _ (show a ≠ 52 by omega), hl_up_ne _ _ _ (show a ≠ 56 by omega), hl_up_ne _ _ _ (show a ≠ 60 by omega), hl_up_ne _ _ _ (show a ≠ 63 by omega), hl_up_ne _ _ _ (show a ≠ 66 by omega), hl_up_ne _ _ _ (show a ≠ 68 by omega), hl_up_ne _ _ _ (show a ≠ 69 by omega), hl_up_ne _ _ _ (show a ≠ 81 by omega)]
theorem hl_szg : ∀ N, N < 25 → ((List.range 105).map (fun a => (hl_gk N a).2)).sum ≤ 7302250 := by decide +kernel
set_option maxHeartbeats 4000000 in
set_option maxRecDepth 100000 in
theorem hl_pure {xs : Nat → Int32} {Ln : Nat} (hL : Ln ≤ 3586) (Inv : Nat → Nat → Nat → (Nat → Nat → Int32) → (Nat → Nat → Int64) → Prop) (h0 : ∀ W H, 2 ≤ W → W ≤ 6 → 2 ≤ H → H ≤ 4 → Inv W H 0 (hl_I0 (W * H) W H) (fun _ _ => 0)) (hS : ∀ W H, 2 ≤ W → W ≤ 6 → 2 ≤ H → H ≤ 4 → ∀ q, 2 + 7 * q + 7 ≤ Ln → ∀ o, o < 32 → ∀ f, hl_PairQ (hl_call 1001) (W * H) (Inv W H q) (Inv W H (q + 1)) (hl_jc o) (hl_jm o) (hl_args o f)) : ∃ w, hl_LRun xs Ln 268 (hl_lO xs Ln 1001) 0 [.ref 1000003, .null, .null, .null] [] hl_w0 = some (some (.int 1), w) ∧ hl_n w ≤ 600000 ∧ hl_sz w ≤ 7302250 := by
  have ex : ∀ k : Int32, hl_inb k 2 = true → ∀ w, hl_lO xs Ln 1001 264 [.ref 1000003, .int k] w = some (some (.int (if k < Int32.ofNat Ln then xs k.toNatClampNeg else 0)), w) := by
    intro k hk w
    unfold hl_lO
    rw [if_pos rfl]
    exact if_pos ⟨rfl, hk⟩
  have ex0 := ex 0 rfl
  have ex1 := ex 1 rfl
  generalize (if (0 : Int32) < Int32.ofNat Ln then xs (0 : Int32).toNatClampNeg else 0) = x at ex0
  generalize (if (1 : Int32) < Int32.ofNat Ln then xs (1 : Int32).toNatClampNeg else 0) = y at ex1
  obtain ⟨W, w1, w2, ew⟩ := hl_bndN (x := x) (t := 6) (by omega) (by omega)
  obtain ⟨H, g1, g2, eg⟩ := hl_bndN (x := y) (t := 4) (by omega) (by omega)
  have hN : 4 ≤ W * H ∧ W * H ≤ 24 := ⟨Nat.mul_le_mul w1 g1, Nat.mul_le_mul w2 g2⟩
  generalize hNe : W * H = N at hN
  have hNe' : nI W * nI H = nI N := by rw [nI_mul, hNe]
  have m1 := hl_mk104 (d := 998) (N := N) (x := x) (y := y) ew eg hN hNe'
  have m2 := hl_mk149 (d := 999) (N := N) (P := hl_Pc) (I := hl_Ic N W H) (x := x) (y := y) ew eg hNe' (fun a h => hl_Pc_c h) (fun a h => hl_Ic_c h)
  rw [← hl_lO_ne (xs := xs) (Ln := Ln) (by decide)] at m1 m2
  have e105 : hl_q N 105 (hl_up (hl_up (hl_up (hl_up (hl_up (hl_up (hl_up (hl_up (hl_up (hl_up (hl_up (hl_up (hl_up (hl_up (hl_up (hl_up (hl_up (hl_up (hl_up hl_Pc 85 3 (some 86)) 85 4 (some 87)) 85 5 (some 88)) 85 6 (some 89)) 85 19 (some 90)) 85 23 (some 91)) 85 24 (some 92)) 85 25 (some 93)) 85 26 (some 94)) 85 27 (some 95)) 85 28 (some 96)) 85 29 (some 97)) 85 30 (some 98)) 85 31 (some 99)) 85 33 (some 100)) 85 34 (some 101)) 85 35 (some 102)) 85 36 (some 103)) 85 37 (some 104)) (hl_I0 N W H) = hl_g N (hl_I0 N W H) (fun _ _ => 0) := hl_q_g
  have k0 : hl_new (hl_q N 0 (fun _ _ => none) (fun _ _ => 0)) 15 16 = hl_q N 1 (fun _ _ => none) (fun _ _ => 0) := hl_q_new rfl rfl rfl
  have k85 : hl_new (hl_q N 85 hl_Pc (hl_Ic N W H)) 16 38 = hl_q N 86 hl_Pc (hl_Ic N W H) := hl_q_new rfl (hl_Pc_c (by omega)) (hl_Ic_c (by omega))
  have hI0 := h0 W H w1 w2 g1 g2
  have hSS := hS W H w1 w2 g1 g2
  rw [hNe] at hI0 hSS
  obtain ⟨I', J', hr⟩ := hl_loop (xs := xs) (Ln := Ln) (N := N) (d := 1001) (Inv := Inv W H) hL hSS 520 0 _ _ (by omega) (by omega) hI0
  refine ⟨hl_g N I' J', ?_, Nat.le_of_ble_eq_true rfl, hl_szg N (by omega)⟩
  rw [← hr, ← e105]
  rw [hl_w0q (N := N)]
  simp only [hl_r268_0, hl_r268_3, hl_r268_4, hl_r268_5, hl_r268_6, hl_r268_9, hl_r268_10, hl_r268_11, hl_r268_14, hl_r268_17, hl_r268_18, hl_r268_21, hl_r268_22, hl_r268_23, hl_r268_24, hl_r268_27, hl_r268_28, hl_r268_29, hl_r268_32, hl_r268_35, hl_r268_36, hl_r268_37, hl_q_n, hl_N_11, hl_N_12, k0, k85, ex0, ex1, m1, m2, hl_tl_s, hl_tl_n, hl_cal_some, hl_kill_r, hl_kill_n, hl_kill_i, Nat.reduceLT]
  rfl
