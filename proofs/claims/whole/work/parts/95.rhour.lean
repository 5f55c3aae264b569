/-! the reference's hours out of its cut -/
section HLRH
variable {d N m G nd : Nat} {I I' : Nat → Nat → Int32} {J J' : Nat → Nat → Int64} {r : Nat → Int} {D : Nat → Nat} {al gr : Nat → Nat}
theorem hl_FE_ge (hF : hl_FE I r D) {u : Nat} (hu : u < 74) (h0 : u ≠ 0) : (I 97 u < 0) = (¬ 0 < D u) := by
  apply propext
  obtain ⟨a, b⟩ := hF.1 u hu
  by_cases z : 0 < D u
  · obtain ⟨w, w1, w2, -⟩ := b z h0
    rw [w2]
    exact ⟨fun h => absurd h (Int32.not_lt.mpr (show nI 0 ≤ nI w from nI_le (by omega) (by omega))), fun h => absurd z h⟩
  · rw [a (by omega)]
    exact ⟨fun _ => z, fun _ => by decide⟩
theorem hl_l230k {l1 l2 l3 l4 l5 : Value} {F : Int64} {c g : Nat} (hN : N ≤ 24) (hc : c < N) (hg : I 100 c = nI g) (hgG : g < G) (end_ : nd = 2 + G * (m - 1)) (hn74 : nd ≤ 74) (h1 : 1 ≤ m) (h4 : m ≤ 4) (hm : I 85 32 = nI m) (hF : hl_FE I r D) (f : Nat) : ∀ k, k + f = m - 1 → hl_Run 230 (hl_call (d + 1)) 310 [.ref 85, l1, l2, l3, l4, l5, .long F, .null, .int (nI c), .int (nI k)] [] (hl_g N I J) = hl_Run 230 (hl_call (d + 1)) 348 [.ref 85, l1, l2, l3, l4, l5, .long F, .null, .int (nI c), .int (nI (hl_hk (hl_Rs 74 D) m g f k))] [] (hl_g N I J) := by
  have em1 : nI m - 1 = nI (m - 1) := hl_nsb (by omega)
  induction f with
  | zero =>
    intro k hk
    have c1 : nI (m - 1) ≤ nI k := nI_le (by omega) (by omega)
    simp only [hl_r230_310, hl_r230_312, hl_r230_313, hl_r230_316, hl_r230_317, hl_r230_318, hl_o_85, hl_p_85_3, hl_p_85_4, hl_p_85_5, hl_p_85_6, hl_p_85_19, hl_p_85_23, hl_p_85_24, hl_p_85_25, hl_p_85_26, hl_p_85_27, hl_p_85_28, hl_p_85_29, hl_p_85_30, hl_p_85_31, hl_p_85_33, hl_p_85_34, hl_p_85_35, hl_p_85_36, hl_p_85_37, hm, em1, c1, hl_hk, hl_kill_i, hl_kill_r, hl_kill_n, hl_kill_l, hl_tl_s, hl_tl_n, hl_cal_some, hl_gI, hl_gJ, hl_gsI, hl_gsJ, hl_tv01, if_true, if_false, hl_up_a, hl_row_a]
  | succ f ih =>
    intro k hk
    have c1 : ¬ nI (m - 1) ≤ nI k := nI_ge (by omega) (by omega)
    have en : nI k + 1 = nI (k + 1) := (nI_succ k).symm
    have bc : hl_inb (nI c) 24 = true := hl_inb_nI (by omega) (by decide)
    have lt : hl_nd m g (k + 1) < 74 := by have := hl_nd_lt (m := m) (k := k + 1) hgG end_; omega
    have n0 : hl_nd m g (k + 1) ≠ 0 := by
      unfold hl_nd
      rw [if_neg (by omega), if_neg (by omega)]
      have := Nat.zero_le (g * (m - 1))
      omega
    have s223 := hl_s223 (d := d) (N := N) (J := J) (g := g) (k := k) hm (by omega)
    have fe := hl_FE_ge hF lt n0
    unfold hl_hk
    by_cases z : 0 < D (hl_nd m g (k + 1))
    · have c2 : ¬ I 97 (hl_nd m g (k + 1)) < 0 := by rw [fe]; exact fun h => h z
      rw [if_pos (hl_Rs_iff.mpr ⟨lt, z⟩), ← ih (k + 1) (by omega), hl_r230_310]
      simp only [hl_r230_312, hl_r230_313, hl_r230_316, hl_r230_317, hl_r230_318, hl_r230_321, hl_r230_322, hl_r230_325, hl_r230_326, hl_r230_327, hl_r230_330, hl_r230_332, hl_r230_333, hl_r230_335, hl_r230_338, hl_r230_339, hl_r230_342, hl_r230_345, hl_o_85, hl_p_85_3, hl_p_85_4, hl_p_85_5, hl_p_85_6, hl_p_85_19, hl_p_85_23, hl_p_85_24, hl_p_85_25, hl_p_85_26, hl_p_85_27, hl_p_85_28, hl_p_85_29, hl_p_85_30, hl_p_85_31, hl_p_85_33, hl_p_85_34, hl_p_85_35, hl_p_85_36, hl_p_85_37, hl_a_97, hl_z_97, hl_a_100, hl_z_100, hm, em1, c1, bc, hl_cq (show c < 10000 by omega), hg, s223, hl_b74 lt, hl_cq (show hl_nd m g (k + 1) < 10000 by omega), c2, en, hl_kill_i, hl_kill_r, hl_kill_n, hl_kill_l, hl_tl_s, hl_tl_n, hl_cal_some, hl_gI, hl_gJ, hl_gsI, hl_gsJ, hl_tv01, if_true, if_false, hl_up_a, hl_row_a]
      try rw [hl_r230_310]
    · have c2 : I 97 (hl_nd m g (k + 1)) < 0 := by rw [fe]; exact z
      rw [if_neg (fun q => z (hl_Rs_iff.mp q).2)]
      simp only [hl_r230_310, hl_r230_312, hl_r230_313, hl_r230_316, hl_r230_317, hl_r230_318, hl_r230_321, hl_r230_322, hl_r230_325, hl_r230_326, hl_r230_327, hl_r230_330, hl_r230_332, hl_r230_333, hl_r230_335, hl_r230_338, hl_r230_339, hl_r230_342, hl_r230_345, hl_o_85, hl_p_85_3, hl_p_85_4, hl_p_85_5, hl_p_85_6, hl_p_85_19, hl_p_85_23, hl_p_85_24, hl_p_85_25, hl_p_85_26, hl_p_85_27, hl_p_85_28, hl_p_85_29, hl_p_85_30, hl_p_85_31, hl_p_85_33, hl_p_85_34, hl_p_85_35, hl_p_85_36, hl_p_85_37, hl_a_97, hl_z_97, hl_a_100, hl_z_100, hm, em1, c1, bc, hl_cq (show c < 10000 by omega), hg, s223, hl_b74 lt, hl_cq (show hl_nd m g (k + 1) < 10000 by omega), c2, hl_kill_i, hl_kill_r, hl_kill_n, hl_kill_l, hl_tl_s, hl_tl_n, hl_cal_some, hl_gI, hl_gJ, hl_gsI, hl_gsJ, hl_tv01, if_true, if_false, hl_up_a, hl_row_a]
theorem hl_l230h {l1 l2 l3 l4 l5 : Value} {F : Int64} (hN : N ≤ 24) (hgr : ∀ c, c < N → gr c < G) (end_ : nd = 2 + G * (m - 1)) (hn74 : nd ≤ 74) (h1 : 1 ≤ m) (h4 : m ≤ 4) (f : Nat) : ∀ (I : Nat → Nat → Int32) (c : Nat) (l9 : Value), c + f = N → I 85 2 = nI N → I 85 32 = nI m → (∀ c, c < N → I 100 c = nI (gr c)) → (∀ k, k < m → I 99 k = nI (al k) ∧ al k < 4) → hl_FE I r D → ∃ I', hl_Run 230 (hl_call (d + 1)) 298 [.ref 85, l1, l2, l3, l4, l5, .long F, .null, .int (nI c), l9] [] (hl_g N I J) = some (some (.long (if F < 1000000000 then F else -1)), hl_g N I' J) ∧ (∀ b, b ≠ 102 → I' b = I b) ∧ (∀ j, j < c → I' 102 j = I 102 j) ∧ ∀ j, c ≤ j → j < N → I' 102 j = nI (al (hl_hk (hl_Rs 74 D) m (gr j) (m - 1) 0)) := by
  induction f with
  | zero =>
    intro I c l9 hc hM hm hg hal hF
    obtain rfl : c = N := by omega
    refine ⟨I, ?_, fun _ _ => rfl, fun _ _ => rfl, fun j a b => by omega⟩
    by_cases z : F < 1000000000
    · rw [if_pos z]
      have z' : ¬ (1000000000 : Int64) ≤ F := Int64.not_le.mpr z
      simp only [hl_r230_298, hl_r230_300, hl_r230_301, hl_r230_304, hl_r230_307, hl_r230_308, hl_r230_310, hl_r230_312, hl_r230_313, hl_r230_316, hl_r230_317, hl_r230_318, hl_r230_321, hl_r230_322, hl_r230_325, hl_r230_326, hl_r230_327, hl_r230_330, hl_r230_332, hl_r230_333, hl_r230_335, hl_r230_338, hl_r230_339, hl_r230_342, hl_r230_345, hl_r230_348, hl_r230_349, hl_r230_352, hl_r230_354, hl_r230_355, hl_r230_358, hl_r230_360, hl_r230_361, hl_r230_362, hl_r230_365, hl_r230_368, hl_r230_370, hl_r230_373, hl_r230_374, hl_r230_377, hl_r230_380, hl_r230_383, hl_r230_385, hl_o_85, hl_p_85_3, hl_p_85_4, hl_p_85_5, hl_p_85_6, hl_p_85_19, hl_p_85_23, hl_p_85_24, hl_p_85_25, hl_p_85_26, hl_p_85_27, hl_p_85_28, hl_p_85_29, hl_p_85_30, hl_p_85_31, hl_p_85_33, hl_p_85_34, hl_p_85_35, hl_p_85_36, hl_p_85_37, hM, Int32.le_refl, hl_lcmp_ge0, hl_lcmp_lt0, z, z', hl_kill_i, hl_kill_r, hl_kill_n, hl_kill_l, hl_tl_s, hl_tl_n, hl_cal_some, hl_gI, hl_gJ, hl_gsI, hl_gsJ, hl_tv01, if_true, if_false, hl_up_a, hl_row_a]
    · rw [if_neg z]
      have z' : (1000000000 : Int64) ≤ F := Int64.not_lt.mp z
      simp only [hl_r230_298, hl_r230_300, hl_r230_301, hl_r230_304, hl_r230_307, hl_r230_308, hl_r230_310, hl_r230_312, hl_r230_313, hl_r230_316, hl_r230_317, hl_r230_318, hl_r230_321, hl_r230_322, hl_r230_325, hl_r230_326, hl_r230_327, hl_r230_330, hl_r230_332, hl_r230_333, hl_r230_335, hl_r230_338, hl_r230_339, hl_r230_342, hl_r230_345, hl_r230_348, hl_r230_349, hl_r230_352, hl_r230_354, hl_r230_355, hl_r230_358, hl_r230_360, hl_r230_361, hl_r230_362, hl_r230_365, hl_r230_368, hl_r230_370, hl_r230_373, hl_r230_374, hl_r230_377, hl_r230_380, hl_r230_383, hl_r230_385, hl_o_85, hl_p_85_3, hl_p_85_4, hl_p_85_5, hl_p_85_6, hl_p_85_19, hl_p_85_23, hl_p_85_24, hl_p_85_25, hl_p_85_26, hl_p_85_27, hl_p_85_28, hl_p_85_29, hl_p_85_30, hl_p_85_31, hl_p_85_33, hl_p_85_34, hl_p_85_35, hl_p_85_36, hl_p_85_37, hM, Int32.le_refl, hl_lcmp_ge0, hl_lcmp_lt0, z, z', hl_kill_i, hl_kill_r, hl_kill_n, hl_kill_l, hl_tl_s, hl_tl_n, hl_cal_some, hl_gI, hl_gJ, hl_gsI, hl_gsJ, hl_tv01, if_true, if_false, hl_up_a, hl_row_a]
  | succ f ih =>
    intro I c l9 hc hM hm hg hal hF
    have c1 : ¬ nI N ≤ nI c := nI_ge (by omega) (by omega)
    have en : nI c + 1 = nI (c + 1) := (nI_succ c).symm
    have bc : hl_inb (nI c) 24 = true := hl_inb_nI (by omega) (by decide)
    have e1 := hl_l230k (d := d) (J := J) (l1 := l1) (l2 := l2) (l3 := l3) (l4 := l4) (l5 := l5) (F := F) hN (show c < N by omega) (hg c (by omega)) (hgr c (by omega)) end_ hn74 h1 h4 hm hF (m - 1) 0 (by omega)
    have kle := hl_hk_le (R := hl_Rs 74 D) (m := m) (g := gr c) (m - 1) 0
    generalize hk : hl_hk (hl_Rs 74 D) m (gr c) (m - 1) 0 = k at e1 kle
    have bk : hl_inb (nI k) 4 = true := hl_inb_nI (by omega) (by decide)
    have fr : ∀ b, b ≠ 102 → hl_up I 102 c (nI (al k)) b = I b := fun b hb => hl_up_ne _ _ _ hb
    obtain ⟨I1, e2, g1, g2, g3⟩ := ih (hl_up I 102 c (nI (al k))) (c + 1) (.int (nI k)) (by omega) (by rw [fr 85 (by decide)]; exact hM) (by rw [fr 85 (by decide)]; exact hm) (fun j hj => by rw [fr 100 (by decide)]; exact hg j hj) (fun j hj => by rw [fr 99 (by decide)]; exact hal j hj) (by unfold hl_FE; rw [fr 97 (by decide)]; exact hF)
    refine ⟨I1, ?_, fun b hb => by rw [g1 b hb, fr b hb], fun j hj => by rw [g2 j (by omega), hl_up_a, if_pos rfl, if_neg (by omega)], fun j j1 j2 => ?_⟩
    · have z0 : nI 0 = 0 := rfl
      rw [z0] at e1
      have st : hl_Run 230 (hl_call (d + 1)) 298 [.ref 85, l1, l2, l3, l4, l5, .long F, .null, .int (nI c), l9] [] (hl_g N I J) = hl_Run 230 (hl_call (d + 1)) 310 [.ref 85, l1, l2, l3, l4, l5, .long F, .null, .int (nI c), .int 0] [] (hl_g N I J) := by
        simp only [hl_r230_298, hl_r230_300, hl_r230_301, hl_r230_304, hl_r230_307, hl_r230_308, hl_o_85, hl_p_85_3, hl_p_85_4, hl_p_85_5, hl_p_85_6, hl_p_85_19, hl_p_85_23, hl_p_85_24, hl_p_85_25, hl_p_85_26, hl_p_85_27, hl_p_85_28, hl_p_85_29, hl_p_85_30, hl_p_85_31, hl_p_85_33, hl_p_85_34, hl_p_85_35, hl_p_85_36, hl_p_85_37, hM, c1, hl_kill_i, hl_kill_r, hl_kill_n, hl_kill_l, hl_tl_s, hl_tl_n, hl_cal_some, hl_gI, hl_gJ, hl_gsI, hl_gsJ, hl_tv01, if_true, if_false, hl_up_a, hl_row_a]
      rw [st, e1, ← e2]
      simp only [hl_r230_348, hl_r230_349, hl_r230_352, hl_r230_354, hl_r230_355, hl_r230_358, hl_r230_360, hl_r230_361, hl_r230_362, hl_r230_365, hl_o_85, hl_p_85_3, hl_p_85_4, hl_p_85_5, hl_p_85_6, hl_p_85_19, hl_p_85_23, hl_p_85_24, hl_p_85_25, hl_p_85_26, hl_p_85_27, hl_p_85_28, hl_p_85_29, hl_p_85_30, hl_p_85_31, hl_p_85_33, hl_p_85_34, hl_p_85_35, hl_p_85_36, hl_p_85_37, hl_a_99, hl_z_99, hl_a_102, hl_z_102, bc, bk, hl_cq (show c < 10000 by omega), hl_cq (show k < 10000 by omega), (hal k (by omega)).1, en, hl_kill_i, hl_kill_r, hl_kill_n, hl_kill_l, hl_tl_s, hl_tl_n, hl_cal_some, hl_gI, hl_gJ, hl_gsI, hl_gsJ, hl_tv01, if_true, if_false, hl_up_a, hl_row_a]
    · by_cases z : j = c
      · rw [z, g2 c (by omega), hl_up_at, hk]
      · exact g3 j (by omega) j2
end HLRH
