/-! the reference pours along the parents -/
def hl_pok (I : Nat → Nat → Int32) (r : Nat → Int) (x : Int) : Nat → Nat → Prop
  | 0, _ => True
  | f + 1, v => v = 0 ∨ (x ≤ r (74 * (I 97 v).toNatClampNeg + v) ∧ hl_pok I r x f (I 97 v).toNatClampNeg)
/-- parents -/
def hl_Pa (I : Nat → Nat → Int32) (D : Nat → Nat) : Prop := ∀ u, u < 74 → 0 < D u → u ≠ 0 → ∃ w, w < 74 ∧ I 97 u = nI w ∧ D u = D w + 1 ∧ 0 < D w
/-- the square's rooms -/
def hl_Rq (J : Nat → Nat → Int64) (Bd : Int) (r : Nat → Int) : Prop := ∀ p, p < 5476 → (J 96 p).toInt = r p ∧ 0 ≤ r p ∧ r p + r (hl_rq p) ≤ Bd
theorem hl_pok_c {I : Nat → Nat → Int32} {D : Nat → Nat} {r r1 : Nat → Int} {x : Int} {k : Nat} (hP : hl_Pa I D) (h : ∀ u, u < 74 → 0 < D u → D u ≤ k → u ≠ 0 → r1 (74 * (I 97 u).toNatClampNeg + u) = r (74 * (I 97 u).toNatClampNeg + u)) (n : Nat) : ∀ u, u < 74 → 0 < D u → D u ≤ k → hl_pok I r x n u → hl_pok I r1 x n u := by
  induction n with
  | zero => intro u _ _ _ _; trivial
  | succ n ih =>
    intro u hu h0 hk hp
    rcases hp with z | ⟨a, b⟩
    · exact .inl z
    · by_cases z : u = 0
      · exact .inl z
      · obtain ⟨w, w1, w2, w3, w4⟩ := hP u hu h0 z
        refine .inr ⟨by rw [h u hu h0 hk z]; exact a, ?_⟩
        rw [w2, nIc (show w < 2 ^ 31 by omega)] at b ⊢
        exact ih w w1 w4 (by omega) b
theorem hl_fM74 {r : Nat → Int} {S : Nat → Bool} {x : Int} {w v : Nat} (hw : w < 74) (hv : v < 74) (wv : w ≠ v) : hl_fM 5476 (fun p => p / 74) (fun p => p % 74) (hl_ag r (74 * w + v) (74 * v + w) x) S = hl_fM 5476 (fun p => p / 74) (fun p => p % 74) r S - x * (hl_sg S w - hl_sg S v) := by
  have e1 : (74 * w + v) / 74 = w := by omega
  have e2 : (74 * w + v) % 74 = v := by omega
  have e3 : (74 * v + w) / 74 = v := by omega
  have e4 : (74 * v + w) % 74 = w := by omega
  rw [hl_fM_ag (n := 5476) (sr := fun p => p / 74) (ds := fun p => p % 74) (by omega) (by omega) (by omega) (e3.trans e2.symm) (e4.trans e1.symm)]
  show _ - x * (hl_sg S ((74 * w + v) / 74) - hl_sg S ((74 * w + v) % 74)) = _
  rw [e1, e2]
theorem hl_tsc {x a b c : Int} : x * (a - c) = x * (b - c) + x * (a - b) := by
  rw [← Int.mul_add]
  exact congrArg (fun z => x * z) (by omega)
section HLPO
variable {d N : Nat} {I I' : Nat → Nat → Int32} {J J' : Nat → Nat → Int64} {r : Nat → Int} {D : Nat → Nat} {Bd : Int}
theorem hl_l228a {c : hl_C} (hP : hl_Pa I D) (hR : hl_Rq J Bd r) (hr : ∀ u, u < 74 → 0 < D u → u ≠ 0 → 0 < r (74 * (I 97 u).toNatClampNeg + u)) (n : Nat) : ∀ (x : Int64) (v : Nat), v < 74 → 0 < D v → D v ≤ n + 1 → 0 < x.toInt → ∃ x' : Int64, hl_Run 228 c 6 [.ref 85, .long x, .null, .int (nI v)] [] (hl_g N I J) = hl_Run 228 c 58 [.ref 85, .long x', .null, .int (nI 0)] [] (hl_g N I J) ∧ 0 < x'.toInt ∧ x'.toInt ≤ x.toInt ∧ hl_pok I r x'.toInt n v := by
  have ex : ∀ x : Int64, hl_Run 228 c 6 [.ref 85, .long x, .null, .int (nI 0)] [] (hl_g N I J) = hl_Run 228 c 58 [.ref 85, .long x, .null, .int (nI 0)] [] (hl_g N I J) := fun x => by
    have z0 : nI 0 = 0 := rfl
    simp only [hl_r228_6, hl_r228_7, z0, hl_kill_i, hl_kill_r, hl_kill_n, hl_kill_l, hl_tl_s, hl_tl_n, hl_cal_some, hl_gI, hl_gJ, hl_gsI, hl_gsJ, hl_tv01, if_true, if_false, hl_up_a, hl_row_a]
  induction n with
  | zero =>
    intro x v hv h0 hD hx
    have v0 : v = 0 := Decidable.byContradiction fun z => by
      obtain ⟨w, w1, w2, w3, w4⟩ := hP v hv h0 z
      omega
    subst v0
    exact ⟨x, ex x, hx, Int.le_refl _, trivial⟩
  | succ n ih =>
    intro x v hv h0 hD hx
    by_cases z : v = 0
    · subst z
      exact ⟨x, ex x, hx, Int.le_refl _, .inl rfl⟩
    · obtain ⟨w, w1, w2, w3, w4⟩ := hP v hv h0 z
      have rp := hr v hv h0 z
      have ec : (I 97 v).toNatClampNeg = w := by rw [w2]; exact nIc (by omega)
      rw [ec] at rp
      obtain ⟨a1, a2, a3⟩ := hR (74 * w + v) (by omega)
      have c1 : ¬ nI v = 0 := nI_ne0 (by omega) (by omega)
      have bp : hl_inb (nI (74 * w + v)) 5476 = true := hl_inb_nI (by omega) (by decide)
      by_cases y : r (74 * w + v) < x.toInt
      · have c2 : ¬ x ≤ J 96 (74 * w + v) := by rw [Int64.le_iff_toInt_le, a1]; omega
        obtain ⟨x', e1, g1, g2, g3⟩ := ih (J 96 (74 * w + v)) w w1 w4 (by omega) (by rw [a1]; exact rp)
        refine ⟨x', ?_, g1, by omega, .inr ⟨by rw [ec]; omega, by rw [ec]; exact g3⟩⟩
        rw [← e1, hl_r228_6]
        simp only [hl_r228_7, hl_r228_10, hl_r228_11, hl_r228_14, hl_r228_16, hl_r228_17, hl_r228_20, hl_r228_21, hl_r228_22, hl_r228_23, hl_r228_24, hl_r228_25, hl_r228_26, hl_r228_27, hl_r228_28, hl_r228_31, hl_r228_32, hl_r228_35, hl_r228_37, hl_r228_38, hl_r228_41, hl_r228_42, hl_r228_43, hl_r228_44, hl_r228_45, hl_r228_46, hl_r228_47, hl_r228_48, hl_r228_49, hl_r228_52, hl_r228_53, hl_r228_54, hl_r228_55, hl_o_85, hl_p_85_3, hl_p_85_4, hl_p_85_5, hl_p_85_6, hl_p_85_19, hl_p_85_23, hl_p_85_24, hl_p_85_25, hl_p_85_26, hl_p_85_27, hl_p_85_28, hl_p_85_29, hl_p_85_30, hl_p_85_31, hl_p_85_33, hl_p_85_34, hl_p_85_35, hl_p_85_36, hl_p_85_37, hl_a_96, hl_z_96, hl_a_97, hl_z_97, c1, hl_b74 hv, hl_cq (show v < 10000 by omega), w2, hl_i74, bp, hl_cq (show 74 * w + v < 10000 by omega), hl_lcmp_ge0, c2, hl_kill_i, hl_kill_r, hl_kill_n, hl_kill_l, hl_tl_s, hl_tl_n, hl_cal_some, hl_gI, hl_gJ, hl_gsI, hl_gsJ, hl_tv01, if_true, if_false, hl_up_a, hl_row_a]
        try rw [hl_r228_6]
      · have c2 : x ≤ J 96 (74 * w + v) := by rw [Int64.le_iff_toInt_le, a1]; omega
        obtain ⟨x', e1, g1, g2, g3⟩ := ih x w w1 w4 (by omega) hx
        refine ⟨x', ?_, g1, g2, .inr ⟨by rw [ec]; omega, by rw [ec]; exact g3⟩⟩
        rw [← e1, hl_r228_6]
        simp only [hl_r228_7, hl_r228_10, hl_r228_11, hl_r228_14, hl_r228_16, hl_r228_17, hl_r228_20, hl_r228_21, hl_r228_22, hl_r228_23, hl_r228_24, hl_r228_25, hl_r228_26, hl_r228_27, hl_r228_28, hl_r228_31, hl_r228_32, hl_r228_35, hl_r228_37, hl_r228_38, hl_r228_41, hl_r228_42, hl_r228_43, hl_r228_44, hl_r228_45, hl_r228_46, hl_r228_47, hl_r228_48, hl_r228_49, hl_r228_52, hl_r228_53, hl_r228_54, hl_r228_55, hl_o_85, hl_p_85_3, hl_p_85_4, hl_p_85_5, hl_p_85_6, hl_p_85_19, hl_p_85_23, hl_p_85_24, hl_p_85_25, hl_p_85_26, hl_p_85_27, hl_p_85_28, hl_p_85_29, hl_p_85_30, hl_p_85_31, hl_p_85_33, hl_p_85_34, hl_p_85_35, hl_p_85_36, hl_p_85_37, hl_a_96, hl_z_96, hl_a_97, hl_z_97, c1, hl_b74 hv, hl_cq (show v < 10000 by omega), w2, hl_i74, bp, hl_cq (show 74 * w + v < 10000 by omega), hl_lcmp_ge0, c2, hl_kill_i, hl_kill_r, hl_kill_n, hl_kill_l, hl_tl_s, hl_tl_n, hl_cal_some, hl_gI, hl_gJ, hl_gsI, hl_gsJ, hl_tv01, if_true, if_false, hl_up_a, hl_row_a]
        try rw [hl_r228_6]
theorem hl_l228b {c : hl_C} {x : Int64} (hP : hl_Pa I D) (hx : 0 < x.toInt) (hB : Bd ≤ 1000000000000000) (n : Nat) : ∀ (J : Nat → Nat → Int64) (r : Nat → Int) (v : Nat), v < 74 → 0 < D v → D v ≤ n + 1 → hl_Rq J Bd r → hl_pok I r x.toInt n v → ∃ J' r', hl_Run 228 c 60 [.ref 85, .long x, .null, .int (nI v)] [] (hl_g N I J) = some (some (.long x), hl_g N I J') ∧ hl_Rq J' Bd r' ∧ (∀ S, hl_fM 5476 (fun p => p / 74) (fun p => p % 74) r' S = hl_fM 5476 (fun p => p / 74) (fun p => p % 74) r S - x.toInt * (hl_sg S 0 - hl_sg S v)) ∧ ∀ q, q ≠ 96 → J' q = J q := by
  have ex : ∀ J, hl_Run 228 c 60 [.ref 85, .long x, .null, .int (nI 0)] [] (hl_g N I J) = some (some (.long x), hl_g N I J) := fun J => by
    have z0 : nI 0 = 0 := rfl
    simp only [hl_r228_60, hl_r228_61, hl_r228_114, hl_r228_115, z0, hl_kill_i, hl_kill_r, hl_kill_n, hl_kill_l, hl_tl_s, hl_tl_n, hl_cal_some, hl_gI, hl_gJ, hl_gsI, hl_gsJ, hl_tv01, if_true, if_false, hl_up_a, hl_row_a]
  induction n with
  | zero =>
    intro J r v hv h0 hD hR _
    have v0 : v = 0 := Decidable.byContradiction fun z => by
      obtain ⟨w, w1, w2, w3, w4⟩ := hP v hv h0 z
      omega
    subst v0
    exact ⟨J, r, ex J, hR, fun S => by rw [Int.sub_self, Int.mul_zero, Int.sub_zero], fun _ _ => rfl⟩
  | succ n ih =>
    intro J r v hv h0 hD hR hok
    by_cases z : v = 0
    · subst z
      exact ⟨J, r, ex J, hR, fun S => by rw [Int.sub_self, Int.mul_zero, Int.sub_zero], fun _ _ => rfl⟩
    · obtain ⟨w, w1, w2, w3, w4⟩ := hP v hv h0 z
      have ec : (I 97 v).toNatClampNeg = w := by rw [w2]; exact nIc (by omega)
      obtain ⟨o1, o2⟩ := hok.resolve_left z
      rw [ec] at o1 o2
      have wv : w ≠ v := fun q => by rw [q] at w3; omega
      obtain ⟨a1, a2, a3⟩ := hR (74 * w + v) (by omega)
      obtain ⟨b1, b2, b3⟩ := hR (74 * v + w) (by omega)
      have erq : hl_rq (74 * w + v) = 74 * v + w := by unfold hl_rq; omega
      have erq2 : hl_rq (74 * v + w) = 74 * w + v := by unfold hl_rq; omega
      rw [erq] at a3
      have pq : 74 * w + v ≠ 74 * v + w := by omega
      have agp : hl_ag r (74 * w + v) (74 * v + w) x.toInt (74 * w + v) = r (74 * w + v) - x.toInt := by
        unfold hl_ag hl_ru
        rw [if_neg pq, if_pos rfl]
      have agq : hl_ag r (74 * w + v) (74 * v + w) x.toInt (74 * v + w) = r (74 * v + w) + x.toInt := by
        unfold hl_ag hl_ru
        rw [if_pos rfl]
      have ag : ∀ i, i ≠ 74 * w + v → i ≠ 74 * v + w → hl_ag r (74 * w + v) (74 * v + w) x.toInt i = r i := fun i i1 i2 => by
        unfold hl_ag hl_ru
        rw [if_neg i2, if_neg i1]
      have es : (J 96 (74 * w + v) - x).toInt = r (74 * w + v) - x.toInt := by rw [Int64.toInt_sub, a1, Int.bmod_eq_of_le (by omega) (by omega)]
      have ea : (J 96 (74 * v + w) + x).toInt = r (74 * v + w) + x.toInt := by rw [Int64.toInt_add, b1, Int.bmod_eq_of_le (by omega) (by omega)]
      have hR1 : hl_Rq (hl_up (hl_up J 96 (74 * w + v) (J 96 (74 * w + v) - x)) 96 (74 * v + w) (J 96 (74 * v + w) + x)) Bd (hl_ag r (74 * w + v) (74 * v + w) x.toInt) := by
        intro i hi
        obtain ⟨e1, e2, e3⟩ := hR i hi
        by_cases i1 : i = 74 * w + v
        · subst i1
          rw [erq, agp, agq, hl_up_a, if_pos rfl, if_neg pq, hl_up_a, if_pos rfl, if_pos rfl]
          exact ⟨es, by omega, by omega⟩
        · by_cases i2 : i = 74 * v + w
          · subst i2
            rw [erq2, agp, agq, hl_up_a, if_pos rfl, if_pos rfl]
            exact ⟨ea, by omega, by omega⟩
          · have r1 : hl_rq i ≠ 74 * w + v := fun q => i2 (by unfold hl_rq at q; omega)
            have r2 : hl_rq i ≠ 74 * v + w := fun q => i1 (by unfold hl_rq at q; omega)
            rw [ag i i1 i2, ag _ r1 r2, hl_up_a, if_pos rfl, if_neg i2, hl_up_a, if_pos rfl, if_neg i1]
            exact ⟨e1, e2, e3⟩
      have ok1 : hl_pok I (hl_ag r (74 * w + v) (74 * v + w) x.toInt) x.toInt n w := hl_pok_c (k := D w) hP (fun u hu u0 uk uz => by
        obtain ⟨t, t1, t2, t3, t4⟩ := hP u hu u0 uz
        rw [t2, nIc (show t < 2 ^ 31 by omega)]
        refine ag _ (fun q => ?_) (fun q => ?_)
        · have : u = v := by omega
          rw [this] at uk
          omega
        · have : t = v := by omega
          rw [this] at t3
          omega) n w w1 w4 (Nat.le_refl _) o2
      obtain ⟨J2, r2, e2, g1, g2, g3⟩ := ih _ _ w w1 w4 (by omega) hR1 ok1
      refine ⟨J2, r2, ?_, g1, fun S => ?_, fun q hq => by rw [g3 q hq, hl_up_ne _ _ _ hq, hl_up_ne _ _ _ hq]⟩
      · have c1 : ¬ nI v = 0 := nI_ne0 (by omega) (by omega)
        have bp : hl_inb (nI (74 * w + v)) 5476 = true := hl_inb_nI (by omega) (by decide)
        have bq : hl_inb (nI (74 * v + w)) 5476 = true := hl_inb_nI (by omega) (by decide)
        have nq : (74 * v + w = 74 * w + v) = False := eq_false (fun q => pq q.symm)
        rw [← e2, hl_r228_60]
        simp only [hl_r228_61, hl_r228_64, hl_r228_65, hl_r228_68, hl_r228_70, hl_r228_71, hl_r228_74, hl_r228_75, hl_r228_76, hl_r228_77, hl_r228_78, hl_r228_79, hl_r228_80, hl_r228_81, hl_r228_82, hl_r228_83, hl_r228_84, hl_r228_85, hl_r228_88, hl_r228_90, hl_r228_91, hl_r228_92, hl_r228_93, hl_r228_96, hl_r228_97, hl_r228_98, hl_r228_99, hl_r228_100, hl_r228_101, hl_r228_102, hl_r228_103, hl_r228_104, hl_r228_105, hl_r228_108, hl_r228_109, hl_r228_110, hl_r228_111, hl_o_85, hl_p_85_3, hl_p_85_4, hl_p_85_5, hl_p_85_6, hl_p_85_19, hl_p_85_23, hl_p_85_24, hl_p_85_25, hl_p_85_26, hl_p_85_27, hl_p_85_28, hl_p_85_29, hl_p_85_30, hl_p_85_31, hl_p_85_33, hl_p_85_34, hl_p_85_35, hl_p_85_36, hl_p_85_37, hl_a_96, hl_z_96, hl_a_97, hl_z_97, c1, hl_b74 hv, hl_cq (show v < 10000 by omega), w2, hl_i74, bp, bq, hl_cq (show 74 * w + v < 10000 by omega), hl_cq (show 74 * v + w < 10000 by omega), nq, hl_kill_i, hl_kill_r, hl_kill_n, hl_kill_l, hl_tl_s, hl_tl_n, hl_cal_some, hl_gI, hl_gJ, hl_gsI, hl_gsJ, hl_tv01, if_true, if_false, hl_up_a, hl_row_a]
        try rw [hl_r228_60]
      · have key := hl_fM74 (r := r) (S := S) (x := x.toInt) w1 hv wv
        have g := g2 S
        rw [key] at g
        rw [g]
        rw [hl_tsc (a := hl_sg S 0) (b := hl_sg S w) (c := hl_sg S v), Int.sub_sub]
theorem hl_s228 (hF : hl_FE I r D) (hR : hl_Rq J Bd r) (hB : Bd ≤ 1000000000000000) (hle : D 1 ≤ 74) (h1 : 0 < D 1) : ∃ J' r' x, hl_call (d + 1) 228 [.ref 85] (hl_g N I J) = some (some (.long x), hl_g N I J') ∧ 0 < x.toInt ∧ x.toInt ≤ 1000000000000000 ∧ hl_Rq J' Bd r' ∧ (∀ S, hl_fM 5476 (fun p => p / 74) (fun p => p % 74) r' S = hl_fM 5476 (fun p => p / 74) (fun p => p % 74) r S - x.toInt * (hl_sg S 0 - hl_sg S 1)) ∧ ∀ q, q ≠ 96 → J' q = J q := by
  have hP : hl_Pa I D := fun u hu h0 hz => by
    obtain ⟨w, w1, w2, w3, w4, w5⟩ := (hF.1 u hu).2 h0 hz
    exact ⟨w, w1, w2, w3, w4⟩
  have b15 : (1000000000000000 : Int64).toInt = 1000000000000000 := rfl
  obtain ⟨x, e1, g1, g2, g3⟩ := hl_l228a (N := N) (c := hl_call d) hP hR (fun u hu h0 hz => by
    obtain ⟨w, w1, w2, w3, w4, w5⟩ := (hF.1 u hu).2 h0 hz
    rw [w2, nIc (show w < 2 ^ 31 by omega)]
    exact w5) 74 1000000000000000 1 (by decide) h1 (by omega) (by rw [b15]; omega)
  obtain ⟨J2, r2, e2, k1, k2, k3⟩ := hl_l228b (N := N) (c := hl_call d) hP g1 hB 74 J r 1 (by decide) h1 (by omega) hR g3
  refine ⟨J2, r2, x, ?_, g1, by omega, k1, k2, k3⟩
  have o1 : nI 1 = 1 := rfl
  rw [o1] at e1 e2
  rw [← e2, hl_e228]
  simp only [hl_r228_0, hl_r228_3, hl_r228_4, hl_r228_5, hl_kill_i, hl_kill_r, hl_kill_n, hl_kill_l, hl_tl_s, hl_tl_n, hl_cal_some, hl_gI, hl_gJ, hl_gsI, hl_gsJ, hl_tv01, if_true, if_false, hl_up_a, hl_row_a]
  rw [e1]
  simp only [hl_r228_58, hl_r228_59, hl_kill_i, hl_kill_r, hl_kill_n, hl_kill_l, hl_tl_s, hl_tl_n, hl_cal_some, hl_gI, hl_gJ, hl_gsI, hl_gsJ, hl_tv01, if_true, if_false, hl_up_a, hl_row_a]
end HLPO
