/-! a whole text, as a pure function; the reference's clause -/
def hx_sn (m κ : Nat) : Bool := decide (m / 2 ^ κ % 2 = 1)
def hx_cl (t : Nat → Nat) (L m p : Nat) : Nat × Nat × List (Nat × Nat) := if 2 < (hx_tk t L p).1 then (1, (hx_tk t L p).2.2.1, []) else if hx_sn m (hx_tk t L p).1 = true then (4, (hx_tk t L p).2.2.1, []) else hx_ths (hx_rd t L 8 (if (hx_tk t L p).1 = 2 then 3 else 1) (hx_tk t L p).2.2.2) (fun q C => hx_exp t L 40 q C)
def hx_txt (t : Nat → Nat) (L : Nat) : Nat → Nat → Nat → Nat → List (Nat × Nat × List (Nat × Nat)) → Nat × Nat × List (Nat × Nat × List (Nat × Nat))
  | 0, _, p, _, A => (0, p, A)
  | f + 1, m, p, n, A => if (hx_tk t L p).1 = 21 then (0, p, A) else if (hx_cl t L m p).1 = 0 then hx_txt t L f (m + 2 ^ (hx_tk t L p).1) (hx_cl t L m p).2.1 (n + (hx_cl t L m p).2.2.length) (A ++ [((hx_tk t L p).1, n, (hx_cl t L m p).2.2)]) else ((hx_cl t L m p).1, (hx_cl t L m p).2.1, A)
theorem hx_came : ∀ m, m < 8 → ∀ κ, κ < 3 → ((nI m >>> (nI κ &&& 31)) &&& 1) = (if hx_sn m κ = true then (1 : Int32) else 0) := by decide +kernel
theorem hx_came2 : ∀ m, m < 8 → ∀ κ, κ < 3 → hx_sn m κ = false → (nI m ||| ((1 : Int32) <<< (nI κ &&& 31))) = nI (m + 2 ^ κ) := by decide +kernel
theorem hx_came3 : ∀ m, m < 8 → ∀ κ, κ < 3 → hx_sn m κ = false → m + 2 ^ κ < 8 := by decide +kernel
theorem hx_came4 : ∀ m, m < 8 → ∀ κ, κ < 3 → hx_sn m κ = false → ∀ k, k < 3 → hx_sn (m + 2 ^ κ) k = (decide (k = κ) || hx_sn m k) := by decide +kernel
def hx_fX (x : Nat) (I I' : Nat → Nat → Int32) : Prop := (∀ b, b ≠ 85 → b ≠ 88 → b ≠ 90 → I' b = I b) ∧ (∀ j, j < 10 → I' 85 j = I 85 j) ∧ ∀ j, (j < x ∨ x + 800 ≤ j) → I' 88 j = I 88 j
theorem hx_fX_tr {x : Nat} {I1 I2 I3 : Nat → Nat → Int32} (h : hx_fX x I1 I2) (g : hx_fX x I2 I3) : hx_fX x I1 I3 := ⟨fun b h1 h2 h3 => (g.1 b h1 h2 h3).trans (h.1 b h1 h2 h3), fun j hj => (g.2.1 j hj).trans (h.2.1 j hj), fun j hj => (g.2.2 j hj).trans (h.2.2 j hj)⟩
theorem hx_fX_rf (x : Nat) (I : Nat → Nat → Int32) : hx_fX x I I := ⟨fun _ _ _ _ => rfl, fun _ _ => rfl, fun _ _ => rfl⟩
theorem hx_fM.fX {x : Nat} {I I' : Nat → Nat → Int32} (h : hx_fM x I I') : hx_fX x I I' := ⟨h.1, fun j hj => h.2.1 j (Or.inl hj), fun j hj => h.2.2 j (by omega)⟩
theorem hx_fX_88 {x j : Nat} {I : Nat → Nat → Int32} {v : Int32} (h : x ≤ j ∧ j < x + 800) : hx_fX x I (hl_up I 88 j v) := ⟨fun b _ h2 _ => hl_up_ne _ _ _ h2, fun i _ => by rw [hl_up_ne _ _ _ (by omega)], fun i hi => by rw [hl_up_a, if_pos rfl, if_neg (by omega)]⟩
theorem hx_fX_85 {x j : Nat} {I : Nat → Nat → Int32} {v : Int32} (h : 10 ≤ j) : hx_fX x I (hl_up I 85 j v) := ⟨fun b h1 _ _ => hl_up_ne _ _ _ h1, fun i hi => by rw [hl_up_a, if_pos rfl, if_neg (by omega)], fun i _ => by rw [hl_up_ne _ _ _ (by omega)]⟩
def hx_RX (t : Nat → Nat) (L x m p : Nat) (C : List (Nat × Nat)) (A : List (Nat × Nat × List (Nat × Nat))) (I : Nat → Nat → Int32) (J : Nat → Nat → Int64) : Prop := hx_TQ t L I ∧ hx_TT t L p I J ∧ (I 85 15 = nI x ∧ x ≤ 2400) ∧ I 85 17 = nI C.length ∧ I 85 21 = 0 ∧ hx_CL (I 88) x C ∧ (I 85 18 = nI m ∧ m < 8) ∧ (C.length ≤ p ∧ p ≤ L) ∧ (∀ κ, κ < 3 → hx_sn m κ = false → I 88 (x + 2 * κ) = 0 ∧ I 88 (x + 1 + 2 * κ) = 0) ∧ (∀ a ∈ A, a.1 < 3 ∧ a.2.1 + a.2.2.length ≤ C.length ∧ I 88 (x + 2 * a.1) = nI a.2.1 ∧ I 88 (x + 1 + 2 * a.1) = nI (a.2.1 + a.2.2.length) ∧ (∀ i, i < a.2.2.length → C.getD (a.2.1 + i) (0, 0) = a.2.2.getD i (0, 0)) ∧ hx_sn m a.1 = true) ∧ ∀ κ, κ < 3 → hx_sn m κ = true → ∃ a ∈ A, a.1 = κ
section HXRTXT
variable {d N L x p m : Nat} {I I' I1 : Nat → Nat → Int32} {J : Nat → Nat → Int64} {t : Nat → Nat} {C : List (Nat × Nat)} {A : List (Nat × Nat × List (Nat × Nat))}
theorem hx_i2 {κ : Nat} : nI x + 2 * nI κ = nI (x + 2 * κ) := by
  have b : (2 : Int32) = nI 2 := rfl
  rw [b, nI_mul, hx_nA]
theorem hx_fX.tq (h : hx_fX x I I') (g : hx_TQ t L I) : hx_TQ t L I' := ⟨g.1, by rw [h.2.1 7 (by omega)]; exact g.2.1, fun k hk => by rw [h.1 89 (by omega) (by omega) (by omega)]; exact g.2.2 k hk⟩
theorem hx_f85.fX (h : hx_f85 I I') : hx_fX x I I' := ⟨fun b h1 _ _ => h.1 b h1, fun j hj => h.2 j (Or.inl hj), fun j _ => by rw [h.1 88 (by omega)]⟩
/-- clause -/
theorem hx_s194 (h : hx_RX t L x m p C A I J) (hn : (hx_tk t L p).1 ≠ 21) :
    ((hx_cl t L m p).1 = 0 → ∃ I' J', hl_call (d + 7) 194 [.ref 85] (hl_g N I J) = some (some (.int 0), hl_g N I' J') ∧ hx_RX t L x (m + 2 ^ (hx_tk t L p).1) (hx_cl t L m p).2.1 (C ++ (hx_cl t L m p).2.2) (A ++ [((hx_tk t L p).1, C.length, (hx_cl t L m p).2.2)]) I' J' ∧ hx_fX x I I' ∧ hx_g85 J J') ∧
    ((hx_cl t L m p).1 ≠ 0 → ∃ I' J', hl_call (d + 7) 194 [.ref 85] (hl_g N I J) = some (some (.int (nI (hx_cl t L m p).1)), hl_g N I' J') ∧ I' 85 11 = nI (hx_cl t L m p).2.1 ∧ hx_fX x I I' ∧ hx_g85 J J') := by
  obtain ⟨T, ⟨t10, t11, tr⟩, h15, h17, h21, hcl, ⟨h18, hm⟩, ⟨hC, hp⟩, hu, hA, hs⟩ := h
  obtain ⟨ta, tb, te, td, k44, -⟩ := hx_tk_in (t := t) hp
  have L3 : L ≤ 300 := T.1
  have so := hx_s193 (d := d + 2) (N := N) (I := I) (J := J) tr k44
  unfold hx_cl
  by_cases z1 : 2 < (hx_tk t L p).1
  · rw [if_pos z1]
    refine ⟨fun y => absurd y (by show (1 : Nat) ≠ 0; omega), fun _ => ⟨I, J, ?_, t11, hx_fX_rf x I, fun _ _ => rfl⟩⟩
    rw [if_neg (by omega)] at so
    have n0 : ¬ (0 : Int32) ≤ -1 := by decide
    show _ = some (some (Value.int 1), hl_g N I J)
    rw [hl_e194]
    simp only [hl_r194_0, hl_r194_1, hl_r194_4, hl_r194_5, hl_r194_6, hl_r194_9, hl_r194_10, hl_r194_11, hl_r194_12, hl_r194_15, hl_r194_16, hl_r194_17, hl_r194_18, hl_r194_19, hl_r194_20, hl_r194_23, hl_r194_24, hl_r194_25, hl_r194_26, hl_r194_27, hl_r194_30, hl_r194_31, hl_r194_32, hl_r194_33, hl_r194_34, hl_r194_37, hl_r194_38, hl_r194_41, hl_r194_42, hl_r194_45, hl_r194_46, hl_r194_49, hl_r194_50, hl_r194_51, hl_r194_52, hl_r194_53, hl_r194_54, hl_r194_57, hl_r194_58, hl_r194_59, hl_r194_60, hl_r194_61, hl_r194_64, hl_r194_65, hl_r194_68, hl_r194_69, hl_r194_72, hl_r194_73, hl_r194_74, hl_r194_77, hl_r194_78, hl_r194_79, hl_r194_80, hl_r194_83, hl_r194_84, hl_r194_87, hl_r194_88, hl_r194_89, hl_r194_90, hl_r194_91, hl_r194_92, hl_r194_93, hl_r194_94, hl_r194_97, hl_r194_98, hl_r194_99, hl_r194_102, hl_r194_104, hl_r194_107, hl_r194_108, hl_r194_109, hl_r194_110, hl_r194_113, hl_r194_114, hl_o_85, hl_p_85_3, hl_p_85_4, hl_p_85_5, hl_p_85_6, hl_p_85_19, hl_p_85_23, hl_p_85_24, hl_p_85_25, hl_p_85_26, hl_p_85_27, hl_p_85_28, hl_p_85_29, hl_p_85_30, hl_p_85_31, hl_p_85_33, hl_p_85_34, hl_p_85_35, hl_p_85_36, hl_p_85_37, so, n0, hl_tl_s, hl_kill_i, hl_kill_r, hl_kill_n, hl_kill_l, hl_tl_s, hl_tl_n, hl_cal_some, hl_gI, hl_gJ, hl_gsI, hl_gsJ, hl_tv01, if_true, if_false, not_true, not_false_eq_true, hl_10, or_true, true_or]
  · rw [if_neg z1]
    rw [if_pos (by omega)] at so
    have k3 : (hx_tk t L p).1 < 3 := by omega
    have g0 : (0 : Int32) ≤ nI (hx_tk t L p).1 := nI_le (a := 0) (Nat.zero_le _) (by omega)
    have ca := hx_came m hm _ k3
    by_cases z2 : hx_sn m (hx_tk t L p).1 = true
    · rw [if_pos z2]
      rw [if_pos z2] at ca
      refine ⟨fun y => absurd y (by show (4 : Nat) ≠ 0; omega), fun _ => ⟨I, J, ?_, t11, hx_fX_rf x I, fun _ _ => rfl⟩⟩
      show _ = some (some (Value.int 4), hl_g N I J)
      rw [hl_e194]
      simp only [hl_r194_0, hl_r194_1, hl_r194_4, hl_r194_5, hl_r194_6, hl_r194_9, hl_r194_10, hl_r194_11, hl_r194_12, hl_r194_15, hl_r194_16, hl_r194_17, hl_r194_18, hl_r194_19, hl_r194_20, hl_r194_23, hl_r194_24, hl_r194_25, hl_r194_26, hl_r194_27, hl_r194_30, hl_r194_31, hl_r194_32, hl_r194_33, hl_r194_34, hl_r194_37, hl_r194_38, hl_r194_41, hl_r194_42, hl_r194_45, hl_r194_46, hl_r194_49, hl_r194_50, hl_r194_51, hl_r194_52, hl_r194_53, hl_r194_54, hl_r194_57, hl_r194_58, hl_r194_59, hl_r194_60, hl_r194_61, hl_r194_64, hl_r194_65, hl_r194_68, hl_r194_69, hl_r194_72, hl_r194_73, hl_r194_74, hl_r194_77, hl_r194_78, hl_r194_79, hl_r194_80, hl_r194_83, hl_r194_84, hl_r194_87, hl_r194_88, hl_r194_89, hl_r194_90, hl_r194_91, hl_r194_92, hl_r194_93, hl_r194_94, hl_r194_97, hl_r194_98, hl_r194_99, hl_r194_102, hl_r194_104, hl_r194_107, hl_r194_108, hl_r194_109, hl_r194_110, hl_r194_113, hl_r194_114, hl_o_85, hl_p_85_3, hl_p_85_4, hl_p_85_5, hl_p_85_6, hl_p_85_19, hl_p_85_23, hl_p_85_24, hl_p_85_25, hl_p_85_26, hl_p_85_27, hl_p_85_28, hl_p_85_29, hl_p_85_30, hl_p_85_31, hl_p_85_33, hl_p_85_34, hl_p_85_35, hl_p_85_36, hl_p_85_37, so, g0, h18, ca, hl_tl_s, hl_kill_i, hl_kill_r, hl_kill_n, hl_kill_l, hl_tl_s, hl_tl_n, hl_cal_some, hl_gI, hl_gJ, hl_gsI, hl_gsJ, hl_tv01, if_true, if_false, not_true, not_false_eq_true, hl_10, or_true, true_or]
    · rw [if_neg z2]
      have z2' : hx_sn m (hx_tk t L p).1 = false := Bool.eq_false_iff.mpr z2
      rw [if_neg z2] at ca
      have c2 := hx_came2 m hm _ k3 z2'
      have c3 := hx_came3 m hm _ k3 z2'
      have c4 := hx_came4 m hm _ k3 z2'
      have n01 : ¬ (0 : Int32) = 1 := by decide
      -- the key word
      have f1 : hx_fX x I (hl_up I 85 18 (nI (m + 2 ^ (hx_tk t L p).1))) := hx_fX_85 (by omega)
      have r1 : ∀ j, j ≠ 18 → hl_up I 85 18 (nI (m + 2 ^ (hx_tk t L p).1)) 85 j = I 85 j := fun j hj => by rw [hl_up_a, if_pos rfl, if_neg hj]
      have r1' : ∀ b, b ≠ 85 → hl_up I 85 18 (nI (m + 2 ^ (hx_tk t L p).1)) b = I b := fun b hb => hl_up_ne _ _ _ hb
      obtain ⟨I2, J2, e2, tt2, f2, g2⟩ := hx_s171 (d := d + 3) (N := N) (J := J) (f1.tq T) ((r1 10 (by omega)).trans t10) te
      have e2' : hl_call (d + 6) 171 [.ref 85] (hl_g N (hl_up I 85 18 (nI (m + 2 ^ (hx_tk t L p).1))) J) = some (none, hl_g N I2 J2) := e2
      have u18 : I2 85 18 = nI (m + 2 ^ (hx_tk t L p).1) := by rw [f2.2 18 (by omega)]; exact hl_up_at
      have u15 : I2 85 15 = nI x := by rw [f2.2 15 (by omega), r1 15 (by omega)]; exact h15.1
      have u17 : I2 85 17 = nI C.length := by rw [f2.2 17 (by omega), r1 17 (by omega)]; exact h17
      have u21 : I2 85 21 = 0 := by rw [f2.2 21 (by omega), r1 21 (by omega)]; exact h21
      have u88 : I2 88 = I 88 := by rw [f2.1 88 (by omega), r1' 88 (by omega)]
      have f12 : hx_fX x I I2 := hx_fX_tr f1 f2.fX
      have T2 := f12.tq T
      have ltp : p < (hx_tk t L p).2.2.2 := by omega
      generalize hκ : (hx_tk t L p).1 = κ at so k3 g0 ca z2' c2 c3 c4 u18 e2' ⊢
      generalize (hx_tk t L p).2.2.2 = e at tt2 te ltp ⊢
      -- its beginning
      have h3 : ∀ j, hl_up I2 88 (x + 2 * κ) (nI C.length) 88 j = if j = x + 2 * κ then nI C.length else I 88 j := fun j => by rw [hl_up_a, if_pos rfl, u88]
      have r3 : ∀ b, b ≠ 88 → hl_up I2 88 (x + 2 * κ) (nI C.length) b = I2 b := fun b hb => hl_up_ne _ _ _ hb
      have f3 : hx_fX x I2 (hl_up I2 88 (x + 2 * κ) (nI C.length)) := hx_fX_88 (by omega)
      have tt3 : hx_TT t L e (hl_up I2 88 (x + 2 * κ) (nI C.length)) J2 := by
        unfold hx_TT
        rw [r3 85 (by omega)]
        exact tt2
      obtain ⟨y0, y1⟩ := hx_s191 (d := d) (N := N) (x := x) (b := decide (κ = 2)) (C := C) (f3.tq T2) tt3 te (by omega) ⟨by rw [r3 85 (by omega)]; exact u15, h15.2⟩ (by rw [r3 85 (by omega)]; exact u17) (by rw [r3 85 (by omega)]; exact u21) (fun i hi => by rw [h3, h3, if_neg (by omega), if_neg (by omega)]; exact hcl i hi)
      have g1 := hx_gd_rd (t := t) (L := L) 8 (if κ = 2 then 3 else 1) e te
      have eb : (if decide (κ = 2) = true then 3 else 1 : Nat) = if κ = 2 then 3 else 1 := by
        by_cases z : κ = 2
        · rw [decide_eq_true z, if_pos rfl, if_pos z]
        · rw [decide_eq_false z, if_neg Bool.false_ne_true, if_neg z]
      rw [eb] at y0 y1
      have bx1 : hl_inb (nI (x + 2 * κ)) 3200 = true := hl_b3200 (by have := h15.2; omega)
      have bx2 : hl_inb (nI (x + 1 + 2 * κ)) 3200 = true := hl_b3200 (by have := h15.2; omega)
      have cx1 : (nI (x + 2 * κ)).toNatClampNeg = x + 2 * κ := hl_cq (by have := h15.2; omega)
      have cx2 : (nI (x + 1 + 2 * κ)).toNatClampNeg = x + 1 + 2 * κ := hl_cq (by have := h15.2; omega)
      have st : ∀ (v : Int32) (I4 : Nat → Nat → Int32) (J4 : Nat → Nat → Int64), hl_call (d + 6) 191 [.ref 85, .int (hl_tv (decide (κ = 2)))] (hl_g N (hl_up I2 88 (x + 2 * κ) (nI C.length)) J2) = some (some (.int v), hl_g N I4 J4) → hl_call (d + 7) 194 [.ref 85] (hl_g N I J) = hl_Run 194 (hl_call (d + 6)) 73 [.ref 85, .int (nI κ), .int v] [] (hl_g N I4 J4) := fun v I4 J4 e4 => by
        have q2 : (nI κ = (2 : Int32)) = (κ = 2) := propext (nI_eq (b := 2) (by omega) (by omega))
        rw [hl_e194]
        by_cases z : κ = 2
        · have p2 : (κ = 2) = True := eq_true z
          rw [decide_eq_true z, hl_tv_t] at e4
          simp only [hl_r194_0, hl_r194_1, hl_r194_4, hl_r194_5, hl_r194_6, hl_r194_9, hl_r194_10, hl_r194_11, hl_r194_12, hl_r194_15, hl_r194_16, hl_r194_17, hl_r194_18, hl_r194_19, hl_r194_20, hl_r194_23, hl_r194_24, hl_r194_25, hl_r194_26, hl_r194_27, hl_r194_30, hl_r194_31, hl_r194_32, hl_r194_33, hl_r194_34, hl_r194_37, hl_r194_38, hl_r194_41, hl_r194_42, hl_r194_45, hl_r194_46, hl_r194_49, hl_r194_50, hl_r194_51, hl_r194_52, hl_r194_53, hl_r194_54, hl_r194_57, hl_r194_58, hl_r194_59, hl_r194_60, hl_r194_61, hl_r194_64, hl_r194_65, hl_r194_68, hl_r194_69, hl_r194_72, hl_o_85, hl_p_85_3, hl_p_85_4, hl_p_85_5, hl_p_85_6, hl_p_85_19, hl_p_85_23, hl_p_85_24, hl_p_85_25, hl_p_85_26, hl_p_85_27, hl_p_85_28, hl_p_85_29, hl_p_85_30, hl_p_85_31, hl_p_85_33, hl_p_85_34, hl_p_85_35, hl_p_85_36, hl_p_85_37, hl_a_88, hl_z_88, so, g0, h18, ca, n01, c2, e2', u15, u17, hx_i2, bx1, cx1, q2, p2, e4, hl_tl_s, hl_tl_n, hl_kill_i, hl_kill_r, hl_kill_n, hl_kill_l, hl_tl_s, hl_tl_n, hl_cal_some, hl_gI, hl_gJ, hl_gsI, hl_gsJ, hl_tv01, if_true, if_false, not_true, not_false_eq_true, hl_10, or_true, true_or]
        · have p2 : (κ = 2) = False := eq_false z
          rw [decide_eq_false z, hl_tv_f] at e4
          simp only [hl_r194_0, hl_r194_1, hl_r194_4, hl_r194_5, hl_r194_6, hl_r194_9, hl_r194_10, hl_r194_11, hl_r194_12, hl_r194_15, hl_r194_16, hl_r194_17, hl_r194_18, hl_r194_19, hl_r194_20, hl_r194_23, hl_r194_24, hl_r194_25, hl_r194_26, hl_r194_27, hl_r194_30, hl_r194_31, hl_r194_32, hl_r194_33, hl_r194_34, hl_r194_37, hl_r194_38, hl_r194_41, hl_r194_42, hl_r194_45, hl_r194_46, hl_r194_49, hl_r194_50, hl_r194_51, hl_r194_52, hl_r194_53, hl_r194_54, hl_r194_57, hl_r194_58, hl_r194_59, hl_r194_60, hl_r194_61, hl_r194_64, hl_r194_65, hl_r194_68, hl_r194_69, hl_r194_72, hl_o_85, hl_p_85_3, hl_p_85_4, hl_p_85_5, hl_p_85_6, hl_p_85_19, hl_p_85_23, hl_p_85_24, hl_p_85_25, hl_p_85_26, hl_p_85_27, hl_p_85_28, hl_p_85_29, hl_p_85_30, hl_p_85_31, hl_p_85_33, hl_p_85_34, hl_p_85_35, hl_p_85_36, hl_p_85_37, hl_a_88, hl_z_88, so, g0, h18, ca, n01, c2, e2', u15, u17, hx_i2, bx1, cx1, q2, p2, e4, hl_tl_s, hl_tl_n, hl_kill_i, hl_kill_r, hl_kill_n, hl_kill_l, hl_tl_s, hl_tl_n, hl_cal_some, hl_gI, hl_gJ, hl_gsI, hl_gsJ, hl_tv01, if_true, if_false, not_true, not_false_eq_true, hl_10, or_true, true_or]
      generalize hx_rd t L 8 (if κ = 2 then 3 else 1) e = r at y0 y1 g1 ⊢
      by_cases w : r.1 = 0
      · obtain ⟨I4, J4, e4, T4, tt4, rc4, f4, g4⟩ := y0 w
        obtain ⟨ga, gb, gc, -⟩ := g1.1 w
        obtain ⟨⟨v15, -⟩, v17, -, v21, -, vcl⟩ := rc4
        rw [hx_ths_0 w]
        obtain ⟨va, vb, ve, vd, vk, -⟩ := hx_tk_in (t := t) gb
        have st4 := st _ _ _ e4
        have z0 : (0 : Int32) = 0 := rfl
        have r5 : ∀ b, b ≠ 88 → hl_up I4 88 (x + 1 + 2 * κ) (nI (C ++ r.2.2).length) b = I4 b := fun b hb => hl_up_ne _ _ _ hb
        have h5 : ∀ j, j < x + 30 → hl_up I4 88 (x + 1 + 2 * κ) (nI (C ++ r.2.2).length) 88 j = if j = x + 1 + 2 * κ then nI (C ++ r.2.2).length else if j = x + 2 * κ then nI C.length else I 88 j := fun j hj => by rw [hl_up_a, if_pos rfl, f4.2.2 j (Or.inl hj), h3]
        have h5' : ∀ j, x + 30 ≤ j → hl_up I4 88 (x + 1 + 2 * κ) (nI (C ++ r.2.2).length) 88 j = I4 88 j := fun j hj => by rw [hl_up_a, if_pos rfl, if_neg (by omega)]
        have f5 : hx_fX x I4 (hl_up I4 88 (x + 1 + 2 * κ) (nI (C ++ r.2.2).length)) := hx_fX_88 (by omega)
        have fall : hx_fX x I (hl_up I4 88 (x + 1 + 2 * κ) (nI (C ++ r.2.2).length)) := hx_fX_tr f12 (hx_fX_tr f3 (hx_fX_tr f4.fX f5))
        have w18 : hl_up I4 88 (x + 1 + 2 * κ) (nI (C ++ r.2.2).length) 85 18 = nI (m + 2 ^ κ) := by rw [r5 85 (by omega), f4.2.1 18 (by omega), r3 85 (by omega)]; exact u18
        have q40 : (I4 85 12 = (59 : Int32)) = ((hx_tk t L r.2.1).1 = 40) := hx_TR_c (c := 40) tt4.2.2 vk (by omega)
        have x0 : ∀ v', hl_up I4 88 (x + 1 + 2 * κ) v' 85 = I4 85 := fun v' => hl_up_ne _ _ _ (by omega)
        have gjj : hx_g85 J J4 := fun b hb => (g4 b hb).trans (g2 b hb)
        have st5 : hl_call (d + 7) 194 [.ref 85] (hl_g N I J) = hl_Run 194 (hl_call (d + 6)) 98 [.ref 85, .int (nI κ), .int 0] [] (hl_g N (hl_up I4 88 (x + 1 + 2 * κ) (nI (C ++ r.2.2).length)) J4) := by
          rw [st4]
          simp only [hl_r194_73, hl_r194_74, hl_r194_77, hl_r194_78, hl_r194_79, hl_r194_80, hl_r194_83, hl_r194_84, hl_r194_87, hl_r194_88, hl_r194_89, hl_r194_90, hl_r194_91, hl_r194_92, hl_r194_93, hl_r194_94, hl_r194_97, hl_o_85, hl_p_85_3, hl_p_85_4, hl_p_85_5, hl_p_85_6, hl_p_85_19, hl_p_85_23, hl_p_85_24, hl_p_85_25, hl_p_85_26, hl_p_85_27, hl_p_85_28, hl_p_85_29, hl_p_85_30, hl_p_85_31, hl_p_85_33, hl_p_85_34, hl_p_85_35, hl_p_85_36, hl_p_85_37, hl_a_88, hl_z_88, v15, v17, hl_i121, bx2, cx2, hl_kill_i, hl_kill_r, hl_kill_n, hl_kill_l, hl_tl_s, hl_tl_n, hl_cal_some, hl_gI, hl_gJ, hl_gsI, hl_gsJ, hl_tv01, if_true, if_false, not_true, not_false_eq_true, hl_10, or_true, true_or]
        by_cases z40 : (hx_tk t L r.2.1).1 = 40
        · rw [hx_exp_y z40]
          refine ⟨fun _ => ?_, fun y => absurd rfl y⟩
          have tt5 : hl_up I4 88 (x + 1 + 2 * κ) (nI (C ++ r.2.2).length) 85 10 = nI (hx_tk t L r.2.1).2.2.2 := by rw [r5 85 (by omega)]; exact tt4.1
          obtain ⟨I6, J6, e6, tt6, f6, g6⟩ := hx_s171 (d := d + 3) (N := N) (J := J4) (fall.tq T) tt5 ve
          have e6' : hl_call (d + 6) 171 [.ref 85] (hl_g N (hl_up I4 88 (x + 1 + 2 * κ) (nI (C ++ r.2.2).length)) J4) = some (none, hl_g N I6 J6) := e6
          have k6 : ∀ j, 13 < j → I6 85 j = I4 85 j := fun j hj => by rw [f6.2 j (Or.inr hj), r5 85 (by omega)]
          have h6 : I6 88 = hl_up I4 88 (x + 1 + 2 * κ) (nI (C ++ r.2.2).length) 88 := f6.1 88 (by omega)
          refine ⟨I6, J6, ?_, ⟨(hx_fX_tr fall f6.fX).tq T, tt6, ⟨(k6 15 (by omega)).trans v15, h15.2⟩, (k6 17 (by omega)).trans v17, (k6 21 (by omega)).trans v21, fun i hi => ?_, ⟨by rw [f6.2 18 (by omega)]; exact w18, c3⟩, ⟨?_, ve⟩, fun k hk hsn => ?_, fun a ha => ?_, fun k hk hsn => ?_⟩, hx_fX_tr fall f6.fX, fun b hb => (g6 b hb).trans (gjj b hb)⟩
          · have p40 : ((hx_tk t L r.2.1).1 = 40) = True := eq_true z40
            rw [st5]
            simp only [hl_r194_98, hl_r194_99, hl_r194_102, hl_r194_104, hl_r194_107, hl_r194_108, hl_r194_109, hl_r194_110, hl_r194_113, hl_r194_114, hl_o_85, hl_p_85_3, hl_p_85_4, hl_p_85_5, hl_p_85_6, hl_p_85_19, hl_p_85_23, hl_p_85_24, hl_p_85_25, hl_p_85_26, hl_p_85_27, hl_p_85_28, hl_p_85_29, hl_p_85_30, hl_p_85_31, hl_p_85_33, hl_p_85_34, hl_p_85_35, hl_p_85_36, hl_p_85_37, x0, q40, p40, e6', hl_tl_n, hl_kill_i, hl_kill_r, hl_kill_n, hl_kill_l, hl_tl_s, hl_tl_n, hl_cal_some, hl_gI, hl_gJ, hl_gsI, hl_gsJ, hl_tv01, if_true, if_false, not_true, not_false_eq_true, hl_10, or_true, true_or]
          · rw [h6, h5' _ (by omega), h5' _ (by omega)]
            exact vcl i hi
          · rw [List.length_append]; show C.length + r.2.2.length ≤ (hx_tk t L r.2.1).2.2.2; omega
          · rw [c4 k hk, Bool.or_eq_false_iff, decide_eq_false_iff_not] at hsn
            obtain ⟨k1, k2⟩ := hu k hk hsn.2
            rw [h6, h5 _ (by omega), h5 _ (by omega), if_neg (by omega), if_neg (by omega), if_neg (by omega), if_neg (by omega)]
            exact ⟨k1, k2⟩
          · rcases List.mem_append.mp ha with ha | ha
            · obtain ⟨b1, b2, b3, b4, b5, b6⟩ := hA a ha
              have ne : a.1 ≠ κ := fun y => by rw [y, z2'] at b6; exact Bool.false_ne_true b6
              refine ⟨b1, by rw [List.length_append]; omega, ?_, ?_, fun i hi => ?_, by rw [c4 _ b1, b6, Bool.or_true]⟩
              · rw [h6, h5 _ (by omega), if_neg (by omega), if_neg (by omega)]; exact b3
              · rw [h6, h5 _ (by omega), if_neg (by omega), if_neg (by omega)]; exact b4
              · rw [← b5 i hi, List.getD_eq_getElem?_getD, List.getD_eq_getElem?_getD, List.getElem?_append_left (by omega)]
            · rw [List.mem_singleton.mp ha]
              refine ⟨k3, by rw [List.length_append]; exact Nat.le_refl _, ?_, ?_, fun i hi => ?_, ?_⟩
              · show I6 88 (x + 2 * κ) = nI C.length
                rw [h6, h5 _ (by omega), if_neg (by omega), if_pos rfl]
              · show I6 88 (x + 1 + 2 * κ) = nI (C.length + r.2.2.length)
                rw [h6, h5 _ (by omega), if_pos rfl, List.length_append]
              · show (C ++ r.2.2).getD (C.length + i) (0, 0) = r.2.2.getD i (0, 0)
                rw [List.getD_eq_getElem?_getD, List.getD_eq_getElem?_getD, List.getElem?_append_right (by omega), Nat.add_sub_cancel_left]
              · show hx_sn (m + 2 ^ κ) κ = true
                rw [c4 κ k3, decide_eq_true rfl]; rfl
          · rw [c4 k hk, Bool.or_eq_true, decide_eq_true_eq] at hsn
            rcases hsn with y | y
            · exact ⟨_, List.mem_append.mpr (Or.inr (List.mem_singleton.mpr rfl)), y.symm⟩
            · obtain ⟨a, ha, e⟩ := hs k hk y
              exact ⟨a, List.mem_append.mpr (Or.inl ha), e⟩
        · rw [hx_exp_n z40]
          refine ⟨fun y => absurd y (by show (1 : Nat) ≠ 0; omega), fun _ => ⟨_, _, ?_, ?_, fall, gjj⟩⟩
          · have p40 : ((hx_tk t L r.2.1).1 = 40) = False := eq_false z40
            rw [st5]
            show _ = some (some (Value.int 1), _)
            simp only [hl_r194_98, hl_r194_99, hl_r194_102, hl_r194_104, hl_r194_107, hl_r194_108, hl_r194_109, hl_r194_110, hl_r194_113, hl_r194_114, hl_o_85, hl_p_85_3, hl_p_85_4, hl_p_85_5, hl_p_85_6, hl_p_85_19, hl_p_85_23, hl_p_85_24, hl_p_85_25, hl_p_85_26, hl_p_85_27, hl_p_85_28, hl_p_85_29, hl_p_85_30, hl_p_85_31, hl_p_85_33, hl_p_85_34, hl_p_85_35, hl_p_85_36, hl_p_85_37, x0, q40, p40, hl_tl_n, hl_kill_i, hl_kill_r, hl_kill_n, hl_kill_l, hl_tl_s, hl_tl_n, hl_cal_some, hl_gI, hl_gJ, hl_gsI, hl_gsJ, hl_tv01, if_true, if_false, not_true, not_false_eq_true, hl_10, or_true, true_or]
          · rw [r5 85 (by omega)]; exact tt4.2.1
      · obtain ⟨I4, J4, e4, s11, f4, g4⟩ := y1 w
        rw [hx_ths_n w]
        refine ⟨fun y => absurd y w, fun _ => ⟨I4, J4, ?_, s11, hx_fX_tr f12 (hx_fX_tr f3 f4.fX), fun b hb => (g4 b hb).trans (g2 b hb)⟩⟩
        have nf : ¬ nI r.1 = 0 := nI_ne0 (by omega) (by have := (g1.2 w).2; omega)
        rw [st _ _ _ e4]
        simp only [hl_r194_73, hl_r194_74, hl_r194_77, hl_r194_78, nf, hl_kill_i, hl_kill_r, hl_kill_n, hl_kill_l, hl_tl_s, hl_tl_n, hl_cal_some, hl_gI, hl_gJ, hl_gsI, hl_gsJ, hl_tv01, if_true, if_false, not_true, not_false_eq_true, hl_10, or_true, true_or]
end HXRTXT
